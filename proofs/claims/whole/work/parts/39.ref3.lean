/-! the reference: a beat goes by -/
theorem sb_eq {d z : Int32} : d - z = 1 ↔ d = z + 1 := by
  constructor
  · intro h
    rw [← h, Int32.add_comm]
    exact (Int32.sub_add_cancel _ _).symm
  · intro h
    rw [h, Int32.add_comm]
    exact Int32.add_sub_cancel _ _
theorem act_h {n h : Int32} : n = h - 1 ↔ h = n + 1 := by
  constructor
  · intro e
    rw [e]
    exact (Int32.sub_add_cancel _ _).symm
  · intro e
    rw [e]
    exact (Int32.add_sub_cancel _ _).symm
theorem pSight_c (a z p : Int32) : pSight a z p = 2 ∨ pSight a z p = 1 ∨ pSight a z p = 0 := by
  unfold pSight
  split
  · exact Or.inl rfl
  · split
    · exact Or.inr (Or.inl rfl)
    · exact Or.inr (Or.inr rfl)
theorem pW_b (v : Int32) : 0 ≤ pW v 0 40 ∧ pW v 0 40 ≤ 40 := by
  unfold pW
  split
  · exact ⟨by decide, by decide⟩
  · rename_i h
    split
    · exact ⟨by decide, by decide⟩
    · rename_i h2
      exact ⟨Int32.not_lt.mp h, Int32.not_lt.mp h2⟩
theorem pBehind_b {ρ : pR} {s : Nat → Int32} {l : Nat} (h : 0 ≤ s (7 + 4 * l + 1) ∧ s (7 + 4 * l + 1) ≤ 40) : 0 ≤ pBehind ρ s l ∧ pBehind ρ s l ≤ 40 := by
  unfold pBehind
  dsimp only
  split
  · exact h
  · exact pW_b _
theorem pAims_at {ρ : pR} {s : Nat → Int32} {h : Int32} {l : Nat} (hl : l < pL s) : pAims ρ s h (7 + 4 * l + 1) = if nI l = h then s (7 + 4 * l + 1) else pBehind ρ s l := by
  unfold pAims
  rw [if_pos ⟨by omega, by omega, by omega⟩, show (7 + 4 * l + 1 - 7) / 4 = l by omega]
theorem pAims_put {ρ : pR} {s : Nat → Int32} {h : Int32} {n : Nat} (hn : n < pL s) : pPut (pAimsTo ρ s h n) (7 + 4 * n + 1) (pAims ρ s h (7 + 4 * n + 1)) = pAimsTo ρ s h (n + 1) := by
  funext i
  unfold pPut
  rw [pAims_at hn]
  by_cases q : nI n = h
  · rw [pAimsTo_h q, if_pos q]
    by_cases e : i = 7 + 4 * n + 1
    · rw [if_pos e, e, pAimsTo_a (Nat.le_refl _)]
    · rw [if_neg e]
  · rw [pAimsTo_g q, if_neg q]
theorem pAB_go {ρ : pR} {s : Nat → Int32} {h : Int32} (ok : pOK s) (ab : pAB s) : pAB (pGo ρ s h) := by
  have hL := (ok_L ok).2
  constructor
  · rw [pGo_L ok]
    intro l hl
    unfold pGo
    rw [if_neg (by omega), if_neg (by omega), pAims_at hl]
    split
    · exact ab.1 l hl
    · exact pBehind_b (ab.1 l hl)
  · rw [pGo_B ok]
    intro b hb
    rw [pGo_lo ok (by omega) (by omega) (by omega)]
    exact ab.2 b hb
theorem pAB_put {s : Nat → Int32} {k : Nat} {v : Int32} (ab : pAB s) (hk : 3 ≤ k) (hv : (0 ≤ v ∧ v ≤ 40) ∨ (∀ l, k ≠ 7 + 4 * l + 1) ∧ (k < 31 ∨ 47 ≤ k)) (hB : pB s ≤ 16) : pAB (pPut s k v) := by
  have e := (pPut_n (s := s) (v := v) hk)
  constructor
  · rw [e.2.2.1]
    intro l hl
    unfold pPut
    by_cases q : 7 + 4 * l + 1 = k
    · rw [if_pos q]
      rcases hv with hv | hv
      · exact hv
      · exact absurd q.symm (hv.1 l)
    · rw [if_neg q]
      exact ab.1 l hl
  · rw [e.2.1]
    intro b hb
    unfold pPut
    by_cases q : 31 + b = k
    · rw [if_pos q]
      rcases hv with hv | hv
      · exact hv
      · omega
    · rw [if_neg q]
      exact ab.2 b hb
theorem pAB_run {ρ : pR} {s : Nat → Int32} (ok : pOK s) (ab : pAB s) : ∀ m, m ≤ pB s - pb s → pAB (pRun ρ s m)
  | 0, _ => ab
  | m + 1, h => pAB_go (pRun_ok ok m (by omega)).1 (pAB_run ok ab m (by omega))
/-- but the aims, the beat and the score, row 1 is as it was -/
def rQ (μ ν : zM) : Prop := ∀ i, ¬ (i = 2 ∨ i = 3 ∨ (7 ≤ i ∧ i < 31 ∧ (i - 7) % 4 = 1)) → ν 1 i = μ 1 i
theorem rQ_rf {μ : zM} : rQ μ μ := fun _ _ => rfl
theorem rQ_e {μ ν : zM} (h : ν 1 = μ 1) : rQ μ ν := fun i _ => by rw [h]
theorem rQ_tr {μ μ1 μ2 : zM} (h1 : rQ μ μ1) (h2 : rQ μ1 μ2) : rQ μ μ2 := fun i hi => (h2 i hi).trans (h1 i hi)
theorem rQ_p {μ ν : zM} {j : Nat} {v : Int32} (h : rQ μ ν) (hj : j = 2 ∨ j = 3 ∨ (7 ≤ j ∧ j < 31 ∧ (j - 7) % 4 = 1)) : rQ μ (zp ν 1 j v) := fun i hi => by
  rw [zp_eq, pk_un (fun e => hi (by rw [e]; exact hj))]
  exact h i hi
theorem rQ_K {μ ν : zM} (h : rQ μ ν) : rK μ ν := fun i hi => h i (by omega)
theorem rQ_o {μ ν : zM} {k j : Nat} {v : Int32} (h : rQ μ ν) (hk : k ≠ 1) : rQ μ (zp ν k j v) := fun i hi => by
  rw [zp_ne (Ne.symm hk)]
  exact h i hi
/-- what saves() laid -/
def rSav (c f : Nat → Int32) : Prop := (∀ j, j < 6 → f j = c (7 + 4 * j + 1)) ∧ f 6 = c 2 ∧ f 7 = c 3
def rPb (c f : Nat → Int32) : Nat → Int32 := fun i => if i = 2 then f 6 else if i = 3 then f 7 else if 7 ≤ i ∧ i < 31 ∧ (i - 7) % 4 = 1 then f ((i - 7) / 4) else c i
theorem rPb_eq {μ ν : zM} {f : Nat → Int32} (hs : rSav (μ 1) f) (hq : rQ μ ν) : rPb (ν 1) f = μ 1 := by
  funext i
  unfold rPb
  obtain ⟨h1, h2, h3⟩ := hs
  by_cases a : i = 2
  · rw [if_pos a, a, h2]
  · rw [if_neg a]
    by_cases b : i = 3
    · rw [if_pos b, b, h3]
    · rw [if_neg b]
      by_cases c : 7 ≤ i ∧ i < 31 ∧ (i - 7) % 4 = 1
      · rw [if_pos c, h1 _ (by omega)]
        rw [show 7 + 4 * ((i - 7) / 4) + 1 = i by omega]
      · rw [if_neg c]
        exact hq i (by omega)
theorem zJ_drop {J J' : List Nat} {μ ν : zM} {k : Nat} (h : zJ J μ ν) (hk : ν k = μ k) (hs : ∀ q ∈ J, q = k ∨ q ∈ J') : zJ J' μ ν := fun q hq => by
  by_cases e : q = k
  · rw [e, hk]
  · refine h q (fun z => ?_)
    rcases hs q z with r | r
    · exact e r
    · exact hq r
set_option maxHeartbeats 4000000 in
set_option maxRecDepth 100000 in
theorem eX11_goesBy_0 (σ : zG) (μ : zM) (l : Nat) (d : Int32) (hl : l < 6) : zMet shR σ 1 MX11_goesBy yX11_goesBy [zr 0, zi (nI l), zi d] μ (fun rr μ' => rr = some (zi (pWay (rS 1 μ) l d)) ∧ μ' = μ) := by
  refine zmetF (by decide +kernel) rfl (Nat.le_of_ble_eq_true rfl) ?_
  show zX shR σ 1 MX11_goesBy 0 [(0, zr 0), (1, zi (nI l)), (2, zi d)] [] μ _
  refine zx_aload_n (k := 0) (nn := 1) dX11_goesBy_0 rfl rfl rfl ?_
  refine zx_iload_n (k := 1) (nn := 2) dX11_goesBy_1 rfl rfl rfl ?_
  refine zx_iconst (v := 3) (nn := 3) rfl dX11_goesBy_2 rfl ?_
  refine zx_callVf (nn := 6) (k := 0) (d' := 0) (as := [zi (nI l), zi 3]) (rest := []) (n := 2) (eX11_of_0 σ μ l 3  hl (by decide)) kX11_of mlX11_88 rfl rfl rfl (by decide) rfl rfl (Nat.le_of_ble_eq_true rfl) dX11_goesBy_3 rfl ?_
  show zX shR σ 1 MX11_goesBy 6 [(0, zr 0), (1, zi (nI l)), (2, zi d)] [zi (rS 1 μ (7 + 4 * l + 3))] μ _
  refine zx_istore_n (nn := 7) (lv' := [(3, zi (rS 1 μ (7 + 4 * l + 3))), (0, zr 0), (1, zi (nI l)), (2, zi d)]) dX11_goesBy_6 rfl (by decide) rfl rfl ?_
  refine zx_iload_n (k := 3) (nn := 8) dX11_goesBy_7 rfl rfl rfl ?_
  refine zx_iload_n (k := 0) (nn := 9) dX11_goesBy_8 rfl rfl rfl ?_
  refine zx_ineg (nn := 10) dX11_goesBy_9 rfl ?_
  refine zx_iload_n (k := 0) (nn := 11) dX11_goesBy_10 rfl rfl rfl ?_
  refine zx_callSf (nn := 14) (d' := 0) (as := [zi d, zi (-(rS 1 μ (7 + 4 * l + 3))), zi (rS 1 μ (7 + 4 * l + 3))]) (rest := []) (n := 3) (eX11_within σ μ d (-(rS 1 μ (7 + 4 * l + 3))) (rS 1 μ (7 + 4 * l + 3))  ) kX11_within mlX11_113 (by decide) rfl rfl (Nat.le_of_ble_eq_true rfl) dX11_goesBy_11 rfl ?_
  show zX shR σ 1 MX11_goesBy 14 [(3, zi (rS 1 μ (7 + 4 * l + 3))), (0, zr 0), (1, zi (nI l)), (2, zi d)] [zi (pW d (-(rS 1 μ (7 + 4 * l + 3))) (rS 1 μ (7 + 4 * l + 3)))] μ _
  refine zx_istore (nn := 16) (lv' := [(4, zi (pW d (-(rS 1 μ (7 + 4 * l + 3))) (rS 1 μ (7 + 4 * l + 3)))), (3, zi (rS 1 μ (7 + 4 * l + 3))), (0, zr 0), (1, zi (nI l)), (2, zi d)]) dX11_goesBy_14 (by decide) rfl rfl ?_
  refine zx_iload_n (k := 4) (nn := 17) dX11_goesBy_16 rfl rfl rfl ?_
  refine zx_bipush (v := -2) (nn := 19) rfl dX11_goesBy_17 rfl ?_
  refine zx_iload_n (k := 1) (nn := 20) dX11_goesBy_19 rfl rfl rfl ?_
  refine zx_imul (nn := 21) dX11_goesBy_20 rfl ?_
  refine zx_iconst (v := 2) (nn := 22) rfl dX11_goesBy_21 rfl ?_
  refine zx_iload_n (k := 1) (nn := 23) dX11_goesBy_22 rfl rfl rfl ?_
  refine zx_imul (nn := 24) dX11_goesBy_23 rfl ?_
  refine zx_callSf (nn := 27) (d' := 0) (as := [zi d, zi ((-2) * (rS 1 μ (7 + 4 * l + 3))), zi (2 * (rS 1 μ (7 + 4 * l + 3)))]) (rest := []) (n := 3) (eX11_within σ μ d ((-2) * (rS 1 μ (7 + 4 * l + 3))) (2 * (rS 1 μ (7 + 4 * l + 3)))  ) kX11_within mlX11_113 (by decide) rfl rfl (Nat.le_of_ble_eq_true rfl) dX11_goesBy_24 rfl ?_
  show zX shR σ 1 MX11_goesBy 27 [(4, zi (pW d (-(rS 1 μ (7 + 4 * l + 3))) (rS 1 μ (7 + 4 * l + 3)))), (3, zi (rS 1 μ (7 + 4 * l + 3))), (0, zr 0), (1, zi (nI l)), (2, zi d)] [zi (pW d ((-2) * (rS 1 μ (7 + 4 * l + 3))) (2 * (rS 1 μ (7 + 4 * l + 3))))] μ _
  refine zx_istore (nn := 29) (lv' := [(5, zi (pW d ((-2) * (rS 1 μ (7 + 4 * l + 3))) (2 * (rS 1 μ (7 + 4 * l + 3))))), (4, zi (pW d (-(rS 1 μ (7 + 4 * l + 3))) (rS 1 μ (7 + 4 * l + 3)))), (3, zi (rS 1 μ (7 + 4 * l + 3))), (0, zr 0), (1, zi (nI l)), (2, zi d)]) dX11_goesBy_27 (by decide) rfl rfl ?_
  refine zx_iload_n (k := 5) (nn := 30) dX11_goesBy_29 rfl rfl rfl ?_
  refine zx_iconst (v := 2) (nn := 31) rfl dX11_goesBy_30 rfl ?_
  refine zx_idiv (nn := 32) (by decide) dX11_goesBy_31 rfl ?_
  refine zx_iload_n (k := 2) (nn := 33) dX11_goesBy_32 rfl rfl rfl ?_
  refine zx_ineg (nn := 34) dX11_goesBy_33 rfl ?_
  refine zx_iload_n (k := 2) (nn := 35) dX11_goesBy_34 rfl rfl rfl ?_
  refine zx_callSf (nn := 38) (d' := 0) (as := [zi (d / 2), zi (-(rS 1 μ (7 + 4 * l + 3))), zi (rS 1 μ (7 + 4 * l + 3))]) (rest := []) (n := 3) (eX11_within σ μ (d / 2) (-(rS 1 μ (7 + 4 * l + 3))) (rS 1 μ (7 + 4 * l + 3))  ) kX11_within mlX11_113 (by decide) rfl rfl (Nat.le_of_ble_eq_true rfl) dX11_goesBy_35 rfl ?_
  show zX shR σ 1 MX11_goesBy 38 [(5, zi (pW d ((-2) * (rS 1 μ (7 + 4 * l + 3))) (2 * (rS 1 μ (7 + 4 * l + 3))))), (4, zi (pW d (-(rS 1 μ (7 + 4 * l + 3))) (rS 1 μ (7 + 4 * l + 3)))), (3, zi (rS 1 μ (7 + 4 * l + 3))), (0, zr 0), (1, zi (nI l)), (2, zi d)] [zi (pW (d / 2) (-(rS 1 μ (7 + 4 * l + 3))) (rS 1 μ (7 + 4 * l + 3)))] μ _
  refine zx_istore (nn := 40) (lv' := [(6, zi (pW (d / 2) (-(rS 1 μ (7 + 4 * l + 3))) (rS 1 μ (7 + 4 * l + 3)))), (5, zi (pW d ((-2) * (rS 1 μ (7 + 4 * l + 3))) (2 * (rS 1 μ (7 + 4 * l + 3))))), (4, zi (pW d (-(rS 1 μ (7 + 4 * l + 3))) (rS 1 μ (7 + 4 * l + 3)))), (3, zi (rS 1 μ (7 + 4 * l + 3))), (0, zr 0), (1, zi (nI l)), (2, zi d)]) dX11_goesBy_38 (by decide) rfl rfl ?_
  refine zx_aload_n (k := 4) (nn := 41) dX11_goesBy_40 rfl rfl rfl ?_
  refine zx_iload_n (k := 5) (nn := 42) dX11_goesBy_41 rfl rfl rfl ?_
  refine zx_iconst (v := 0) (nn := 43) rfl dX11_goesBy_42 rfl ?_
  refine zx_callVf (nn := 46) (k := 0) (d' := 0) (as := [zi (nI l), zi 0]) (rest := []) (n := 2) (eX11_of_0 σ μ l 0  hl (by decide)) kX11_of mlX11_88 rfl rfl rfl (by decide) rfl rfl (Nat.le_of_ble_eq_true rfl) dX11_goesBy_43 rfl ?_
  show zX shR σ 1 MX11_goesBy 46 [(6, zi (pW (d / 2) (-(rS 1 μ (7 + 4 * l + 3))) (rS 1 μ (7 + 4 * l + 3)))), (5, zi (pW d ((-2) * (rS 1 μ (7 + 4 * l + 3))) (2 * (rS 1 μ (7 + 4 * l + 3))))), (4, zi (pW d (-(rS 1 μ (7 + 4 * l + 3))) (rS 1 μ (7 + 4 * l + 3)))), (3, zi (rS 1 μ (7 + 4 * l + 3))), (0, zr 0), (1, zi (nI l)), (2, zi d)] [zi (rS 1 μ (7 + 4 * l + 0))] μ _
  rw [show rS 1 μ (7 + 4 * l + 0) = rS 1 μ (7 + 4 * l) from rfl]
  show zX shR σ 1 MX11_goesBy 46 [(6, zi (pW (d / 2) (-(rS 1 μ (7 + 4 * l + 3))) (rS 1 μ (7 + 4 * l + 3)))), (5, zi (pW d ((-2) * (rS 1 μ (7 + 4 * l + 3))) (2 * (rS 1 μ (7 + 4 * l + 3))))), (4, zi (pW d (-(rS 1 μ (7 + 4 * l + 3))) (rS 1 μ (7 + 4 * l + 3)))), (3, zi (rS 1 μ (7 + 4 * l + 3))), (0, zr 0), (1, zi (nI l)), (2, zi d)] [zi (rS 1 μ (7 + 4 * l))] μ _
  by_cases h46_2 : (rS 1 μ (7 + 4 * l)) = 2
  · refine zx_sw h46_2 ?_
    refine zx_tabIn (tgt := 76) (off := 30) dX11_goesBy_46 (by decide +kernel) (by decide +kernel) (by decide +kernel) (by decide) ?_
    refine zx_iload (k := 1) (nn := 78) dX11_goesBy_76 rfl rfl ?_
    refine zx_iret rfl dX11_goesBy_78 ?_
    refine ⟨congrArg (fun x => some (zi x)) ?_, rfl⟩
    unfold pWay
    dsimp only
    rw [if_pos h46_2]
  by_cases h46_3 : (rS 1 μ (7 + 4 * l)) = 3
  · refine zx_sw h46_3 ?_
    refine zx_tabIn (tgt := 79) (off := 33) dX11_goesBy_46 (by decide +kernel) (by decide +kernel) (by decide +kernel) (by decide) ?_
    refine zx_iload (k := 1) (nn := 81) dX11_goesBy_79 rfl rfl ?_
    refine zx_if_le (tgt := 91) (nn := 84) dX11_goesBy_81 (by decide) rfl (fun h81 => ?_) (fun h81 => ?_)
    · refine zx_iload (k := 1) (nn := 93) dX11_goesBy_91 rfl rfl ?_
      refine zx_if_ge (tgt := 103) (nn := 96) dX11_goesBy_93 (by decide) rfl (fun h93 => ?_) (fun h93 => ?_)
      · refine zx_iconst (v := 0) (nn := 104) rfl dX11_goesBy_103 rfl ?_
        refine zx_iret rfl dX11_goesBy_104 ?_
        refine ⟨congrArg (fun x => some (zi x)) ?_, rfl⟩
        unfold pWay
        dsimp only
        rw [if_neg h46_2, if_pos h46_3]
        unfold pCmp
        have e0 := Int32.le_antisymm h81 h93
        rw [if_neg (Int32.not_lt.mpr h93), if_pos e0, e0]
        rfl
      · refine zx_iload (k := 1) (nn := 98) dX11_goesBy_96 rfl rfl ?_
        refine zx_iconst (v := 1) (nn := 99) rfl dX11_goesBy_98 rfl ?_
        refine zx_isub (nn := 100) dX11_goesBy_99 rfl ?_
        refine zx_goto (tgt := 104) dX11_goesBy_100 (by decide) ?_
        refine zx_iret rfl dX11_goesBy_104 ?_
        refine ⟨congrArg (fun x => some (zi x)) ?_, rfl⟩
        unfold pWay
        dsimp only
        rw [if_neg h46_2, if_pos h46_3]
        unfold pCmp
        rw [if_pos (Int32.not_le.mp h93)]
        exact Int32.sub_eq_add_neg _ _
    · refine zx_iload (k := 1) (nn := 86) dX11_goesBy_84 rfl rfl ?_
      refine zx_iconst (v := 1) (nn := 87) rfl dX11_goesBy_86 rfl ?_
      refine zx_iadd (nn := 88) dX11_goesBy_87 rfl ?_
      refine zx_goto (tgt := 104) dX11_goesBy_88 (by decide) ?_
      refine zx_iret rfl dX11_goesBy_104 ?_
      refine ⟨congrArg (fun x => some (zi x)) ?_, rfl⟩
      unfold pWay
      dsimp only
      rw [if_neg h46_2, if_pos h46_3]
      unfold pCmp
      rw [if_neg (Int32.not_lt.mpr (Int32.le_of_lt (Int32.not_le.mp h81))), if_neg (fun q => h81 (by rw [q]; exact Int32.le_refl _))]
  by_cases h46_4 : (rS 1 μ (7 + 4 * l)) = 4
  · refine zx_sw h46_4 ?_
    refine zx_tabIn (tgt := 105) (off := 59) dX11_goesBy_46 (by decide +kernel) (by decide +kernel) (by decide +kernel) (by decide) ?_
    refine zx_iload (k := 0) (nn := 107) dX11_goesBy_105 rfl rfl ?_
    refine zx_iret rfl dX11_goesBy_107 ?_
    refine ⟨congrArg (fun x => some (zi x)) ?_, rfl⟩
    unfold pWay
    dsimp only
    rw [if_neg h46_2, if_neg h46_3, if_pos h46_4]
  by_cases h46_5 : (rS 1 μ (7 + 4 * l)) = 5
  · refine zx_sw h46_5 ?_
    refine zx_tabIn (tgt := 108) (off := 62) dX11_goesBy_46 (by decide +kernel) (by decide +kernel) (by decide +kernel) (by decide) ?_
    refine zx_aload_n (k := 4) (nn := 109) dX11_goesBy_108 rfl rfl rfl ?_
    refine zx_getR (q := 1) (nn := 112) flX11_9 rfl rfl dX11_goesBy_109 rfl ?_
    refine zx_iconst (v := 2) (nn := 113) rfl dX11_goesBy_112 rfl ?_
    refine zx_iald_n (j := 2) (nn := 114) rfl (by omega) (by decide) dX11_goesBy_113 rfl ?_
    refine zx_iconst (v := 4) (nn := 115) rfl dX11_goesBy_114 rfl ?_
    refine zx_irem (nn := 116) (by decide) dX11_goesBy_115 rfl ?_
    refine zx_iconst (v := 3) (nn := 117) rfl dX11_goesBy_116 rfl ?_
    refine zx_icmp_ne (tgt := 124) (nn := 120) dX11_goesBy_117 (by decide) rfl (fun h117 => ?_) (fun h117 => ?_)
    · refine zx_iload (k := 0) (nn := 126) dX11_goesBy_124 rfl rfl ?_
      refine zx_iret rfl dX11_goesBy_126 ?_
      refine ⟨congrArg (fun x => some (zi x)) ?_, rfl⟩
      unfold pWay
      dsimp only
      rw [if_neg h46_2, if_neg h46_3, if_neg h46_4, if_pos h46_5]
      rw [if_neg (show ¬ rS 1 μ 2 - rS 1 μ 2 / 4 * 4 = 3 from h117)]
    · refine zx_iconst (v := 0) (nn := 121) rfl dX11_goesBy_120 rfl ?_
      refine zx_goto (tgt := 126) dX11_goesBy_121 (by decide) ?_
      refine zx_iret rfl dX11_goesBy_126 ?_
      refine ⟨congrArg (fun x => some (zi x)) ?_, rfl⟩
      unfold pWay
      dsimp only
      rw [if_neg h46_2, if_neg h46_3, if_neg h46_4, if_pos h46_5]
      rw [if_pos (show rS 1 μ 2 - rS 1 μ 2 / 4 * 4 = 3 from h117)]
  refine zx_tabOut (tgt := 127) dX11_goesBy_46 (zsw_out (lo := 2) (hi := 5) (fun k hk1 hk2 => by rcases (show k = 2 ∨ k = 3 ∨ k = 4 ∨ k = 5 by omega) with rfl | rfl | rfl | rfl; exact lv_neT h46_2 rfl; exact lv_neT h46_3 rfl; exact lv_neT h46_4 rfl; exact lv_neT h46_5 rfl)) (by decide) ?_
  refine zx_iload (k := 2) (nn := 129) dX11_goesBy_127 rfl rfl ?_
  refine zx_iret rfl dX11_goesBy_129 ?_
  refine ⟨congrArg (fun x => some (zi x)) ?_, rfl⟩
  unfold pWay
  dsimp only
  rw [if_neg h46_2, if_neg h46_3, if_neg h46_4, if_neg h46_5]
set_option maxHeartbeats 4000000 in
set_option maxRecDepth 100000 in
theorem eX11_aimBehind_0 (σ : zG) (μ : zM) (l : Nat) {ρ : pR} (ok : pOK (rS 1 μ)) (hl : l < pL (rS 1 μ)) (hρ : rRep ρ (μ 1)) : zMet shR σ 5 MX11_aimBehind yX11_aimBehind [zr 0, zi (nI l)] μ (fun rr μ' => rr = some (zi (pBehind ρ (rS 1 μ) l)) ∧ zJ [6] μ μ') := by
  have hl6 : l < 6 := Nat.lt_of_lt_of_le hl (ok_L ok).2
  refine zmetF (by decide +kernel) rfl (Nat.le_of_ble_eq_true rfl) ?_
  show zX shR σ 5 MX11_aimBehind 0 [(0, zr 0), (1, zi (nI l))] [] μ _
  refine zx_aload_n (k := 0) (nn := 1) dX11_aimBehind_0 rfl rfl rfl ?_
  refine zx_iload_n (k := 1) (nn := 2) dX11_aimBehind_1 rfl rfl rfl ?_
  refine zx_callV (nn := 5) (k := 0) (d' := 4) (as := [zi (nI l)]) (rest := []) (n := 1) (eX11_goalOf_0 σ μ l  ok hl hρ) kX11_goalOf mlX11_92 rfl rfl rfl (by decide) rfl rfl (Nat.le_of_ble_eq_true rfl) dX11_aimBehind_2 rfl ?_
  rintro _ ν1 ⟨rfl, q1⟩
  show zX shR σ 5 MX11_aimBehind 5 [(0, zr 0), (1, zi (nI l))] [zi (pGoal ρ (rS 1 μ) l)] ν1 _
  have e1 : ν1 1 = μ 1 := q1 1 (by decide)
  have es1 : rS 1 ν1 = rS 1 μ := rS_eq e1
  refine zx_istore_n (nn := 6) (lv' := [(2, zi (pGoal ρ (rS 1 μ) l)), (0, zr 0), (1, zi (nI l))]) dX11_aimBehind_5 rfl (by decide) rfl rfl ?_
  refine zx_iload_n (k := 0) (nn := 7) dX11_aimBehind_6 rfl rfl rfl ?_
  refine zx_bipush (v := 41) (nn := 9) rfl dX11_aimBehind_7 rfl ?_
  refine zx_icmp_ne (tgt := 21) (nn := 12) dX11_aimBehind_9 (by decide) rfl (fun h9 => ?_) (fun h9 => ?_)
  · refine zx_aload_n (k := 1) (nn := 22) dX11_aimBehind_21 rfl rfl rfl ?_
    refine zx_iload_n (k := 2) (nn := 23) dX11_aimBehind_22 rfl rfl rfl ?_
    refine zx_iconst (v := 1) (nn := 24) rfl dX11_aimBehind_23 rfl ?_
    refine zx_callVf (nn := 27) (k := 0) (d' := 0) (as := [zi (nI l), zi 1]) (rest := []) (n := 2) (eX11_of_0 σ ν1 l 1  hl6 (by decide)) kX11_of mlX11_88 rfl rfl rfl (by decide) rfl rfl (Nat.le_of_ble_eq_true rfl) dX11_aimBehind_24 rfl ?_
    show zX shR σ 5 MX11_aimBehind 27 [(2, zi (pGoal ρ (rS 1 μ) l)), (0, zr 0), (1, zi (nI l))] [zi (rS 1 ν1 (7 + 4 * l + 1))] ν1 _
    rw [show rS 1 ν1 (7 + 4 * l + 1) = rS 1 μ (7 + 4 * l + 1) from by rw [es1]]
    show zX shR σ 5 MX11_aimBehind 27 [(2, zi (pGoal ρ (rS 1 μ) l)), (0, zr 0), (1, zi (nI l))] [zi (rS 1 μ (7 + 4 * l + 1))] ν1 _
    refine zx_aload_n (k := 1) (nn := 28) dX11_aimBehind_27 rfl rfl rfl ?_
    refine zx_iload_n (k := 2) (nn := 29) dX11_aimBehind_28 rfl rfl rfl ?_
    refine zx_iload_n (k := 0) (nn := 30) dX11_aimBehind_29 rfl rfl rfl ?_
    refine zx_aload_n (k := 1) (nn := 31) dX11_aimBehind_30 rfl rfl rfl ?_
    refine zx_iload_n (k := 2) (nn := 32) dX11_aimBehind_31 rfl rfl rfl ?_
    refine zx_iconst (v := 1) (nn := 33) rfl dX11_aimBehind_32 rfl ?_
    refine zx_callVf (nn := 36) (k := 0) (d' := 0) (as := [zi (nI l), zi 1]) (rest := [zi (pGoal ρ (rS 1 μ) l), zi (nI l), zr 0, zi (rS 1 μ (7 + 4 * l + 1))]) (n := 2) (eX11_of_0 σ ν1 l 1  hl6 (by decide)) kX11_of mlX11_88 rfl rfl rfl (by decide) rfl rfl (Nat.le_of_ble_eq_true rfl) dX11_aimBehind_33 rfl ?_
    show zX shR σ 5 MX11_aimBehind 36 [(2, zi (pGoal ρ (rS 1 μ) l)), (0, zr 0), (1, zi (nI l))] [zi (rS 1 ν1 (7 + 4 * l + 1)), zi (pGoal ρ (rS 1 μ) l), zi (nI l), zr 0, zi (rS 1 μ (7 + 4 * l + 1))] ν1 _
    rw [show rS 1 ν1 (7 + 4 * l + 1) = rS 1 μ (7 + 4 * l + 1) from by rw [es1]]
    show zX shR σ 5 MX11_aimBehind 36 [(2, zi (pGoal ρ (rS 1 μ) l)), (0, zr 0), (1, zi (nI l))] [zi (rS 1 μ (7 + 4 * l + 1)), zi (pGoal ρ (rS 1 μ) l), zi (nI l), zr 0, zi (rS 1 μ (7 + 4 * l + 1))] ν1 _
    refine zx_isub (nn := 37) dX11_aimBehind_36 rfl ?_
    refine zx_callVf (nn := 40) (k := 0) (d' := 1) (as := [zi (nI l), zi ((pGoal ρ (rS 1 μ) l) - (rS 1 μ (7 + 4 * l + 1)))]) (rest := [zi (rS 1 μ (7 + 4 * l + 1))]) (n := 2) (eX11_goesBy_0 σ ν1 l ((pGoal ρ (rS 1 μ) l) - (rS 1 μ (7 + 4 * l + 1)))  hl6) kX11_goesBy mlX11_128 rfl rfl rfl (by decide) rfl rfl (Nat.le_of_ble_eq_true rfl) dX11_aimBehind_37 rfl ?_
    show zX shR σ 5 MX11_aimBehind 40 [(2, zi (pGoal ρ (rS 1 μ) l)), (0, zr 0), (1, zi (nI l))] [zi (pWay (rS 1 ν1) l ((pGoal ρ (rS 1 μ) l) - (rS 1 μ (7 + 4 * l + 1)))), zi (rS 1 μ (7 + 4 * l + 1))] ν1 _
    rw [show pWay (rS 1 ν1) l ((pGoal ρ (rS 1 μ) l) - (rS 1 μ (7 + 4 * l + 1))) = pWay (rS 1 μ) l (pGoal ρ (rS 1 μ) l - (rS 1 μ) (7 + 4 * l + 1)) from by rw [es1]]
    show zX shR σ 5 MX11_aimBehind 40 [(2, zi (pGoal ρ (rS 1 μ) l)), (0, zr 0), (1, zi (nI l))] [zi (pWay (rS 1 μ) l (pGoal ρ (rS 1 μ) l - (rS 1 μ) (7 + 4 * l + 1))), zi (rS 1 μ (7 + 4 * l + 1))] ν1 _
    refine zx_iadd (nn := 41) dX11_aimBehind_40 rfl ?_
    refine zx_iconst (v := 0) (nn := 42) rfl dX11_aimBehind_41 rfl ?_
    refine zx_bipush (v := 40) (nn := 44) rfl dX11_aimBehind_42 rfl ?_
    refine zx_callSf (nn := 47) (d' := 0) (as := [zi ((rS 1 μ (7 + 4 * l + 1)) + (pWay (rS 1 μ) l (pGoal ρ (rS 1 μ) l - (rS 1 μ) (7 + 4 * l + 1)))), zi 0, zi 40]) (rest := []) (n := 3) (eX11_within σ ν1 ((rS 1 μ (7 + 4 * l + 1)) + (pWay (rS 1 μ) l (pGoal ρ (rS 1 μ) l - (rS 1 μ) (7 + 4 * l + 1)))) 0 40  ) kX11_within mlX11_113 (by decide) rfl rfl (Nat.le_of_ble_eq_true rfl) dX11_aimBehind_44 rfl ?_
    show zX shR σ 5 MX11_aimBehind 47 [(2, zi (pGoal ρ (rS 1 μ) l)), (0, zr 0), (1, zi (nI l))] [zi (pW ((rS 1 μ (7 + 4 * l + 1)) + (pWay (rS 1 μ) l (pGoal ρ (rS 1 μ) l - (rS 1 μ) (7 + 4 * l + 1)))) 0 40)] ν1 _
    refine zx_iret rfl dX11_aimBehind_47 ?_
    refine ⟨congrArg (fun x => some (zi x)) ?_, q1⟩
    unfold pBehind
    dsimp only
    rw [if_neg h9]
  · refine zx_aload_n (k := 1) (nn := 13) dX11_aimBehind_12 rfl rfl rfl ?_
    refine zx_iload_n (k := 2) (nn := 14) dX11_aimBehind_13 rfl rfl rfl ?_
    refine zx_iconst (v := 1) (nn := 15) rfl dX11_aimBehind_14 rfl ?_
    refine zx_callVf (nn := 18) (k := 0) (d' := 0) (as := [zi (nI l), zi 1]) (rest := []) (n := 2) (eX11_of_0 σ ν1 l 1  hl6 (by decide)) kX11_of mlX11_88 rfl rfl rfl (by decide) rfl rfl (Nat.le_of_ble_eq_true rfl) dX11_aimBehind_15 rfl ?_
    show zX shR σ 5 MX11_aimBehind 18 [(2, zi (pGoal ρ (rS 1 μ) l)), (0, zr 0), (1, zi (nI l))] [zi (rS 1 ν1 (7 + 4 * l + 1))] ν1 _
    rw [show rS 1 ν1 (7 + 4 * l + 1) = rS 1 μ (7 + 4 * l + 1) from by rw [es1]]
    show zX shR σ 5 MX11_aimBehind 18 [(2, zi (pGoal ρ (rS 1 μ) l)), (0, zr 0), (1, zi (nI l))] [zi (rS 1 μ (7 + 4 * l + 1))] ν1 _
    refine zx_goto (tgt := 47) dX11_aimBehind_18 (by decide) ?_
    refine zx_iret rfl dX11_aimBehind_47 ?_
    refine ⟨congrArg (fun x => some (zi x)) ?_, q1⟩
    unfold pBehind
    dsimp only
    rw [if_pos h9]
set_option maxHeartbeats 4000000 in
set_option maxRecDepth 100000 in
theorem eX11_sightBy (σ : zG) (μ : zM) (a : Int32) (z : Int32) (p : Int32) (ha : 0 ≤ a ∧ a ≤ 40) (hz : 0 ≤ z ∧ z ≤ 9) (hp : 0 ≤ p ∧ p ≤ 40) : zMet shR σ 1 MX11_sightBy yX11_sightBy [zi a, zi z, zi p] μ (fun rr μ' => rr = some (zi (pSight a z p)) ∧ μ' = μ) := by
  refine zmetF (by decide +kernel) rfl (Nat.le_of_ble_eq_true rfl) ?_
  show zX shR σ 1 MX11_sightBy 0 [(0, zi a), (1, zi z), (2, zi p)] [] μ _
  refine zx_iload_n (k := 2) (nn := 1) dX11_sightBy_0 rfl rfl rfl ?_
  refine zx_iload_n (k := 0) (nn := 2) dX11_sightBy_1 rfl rfl rfl ?_
  refine zx_isub (nn := 3) dX11_sightBy_2 rfl ?_
  refine zx_callSf (nn := 6) (d' := 0) (as := [zi (p - a)]) (rest := []) (n := 1) (eX11_far σ μ (p - a)  ) kX11_far mlX11_131 (by decide) rfl rfl (Nat.le_of_ble_eq_true rfl) dX11_sightBy_3 rfl ?_
  show zX shR σ 1 MX11_sightBy 6 [(0, zi a), (1, zi z), (2, zi p)] [zi (pAbs (p - a))] μ _
  refine zx_istore_n (nn := 7) (lv' := [(3, zi (pAbs (p - a))), (0, zi a), (1, zi z), (2, zi p)]) dX11_sightBy_6 rfl (by decide) rfl rfl ?_
  refine zx_iload_n (k := 0) (nn := 8) dX11_sightBy_7 rfl rfl rfl ?_
  refine zx_iload_n (k := 2) (nn := 9) dX11_sightBy_8 rfl rfl rfl ?_
  refine zx_icmp_gt (tgt := 16) (nn := 12) dX11_sightBy_9 (by decide) rfl (fun h9 => ?_) (fun h9 => ?_)
  · refine zx_iload_n (k := 0) (nn := 17) dX11_sightBy_16 rfl rfl rfl ?_
    refine zx_iload_n (k := 2) (nn := 18) dX11_sightBy_17 rfl rfl rfl ?_
    refine zx_iconst (v := 1) (nn := 19) rfl dX11_sightBy_18 rfl ?_
    refine zx_iadd (nn := 20) dX11_sightBy_19 rfl ?_
    refine zx_icmp_ne (tgt := 27) (nn := 23) dX11_sightBy_20 (by decide) rfl (fun h20 => ?_) (fun h20 => ?_)
    · refine zx_iconst (v := 0) (nn := 28) rfl dX11_sightBy_27 rfl ?_
      refine zx_iret rfl dX11_sightBy_28 ?_
      refine ⟨congrArg (fun x => some (zi x)) ?_, rfl⟩
      unfold pSight
      rw [if_neg (fun q => absurd ((sb_le ha hp hz).mp q) (Int32.not_le.mpr h9)), if_neg (fun q => h20 (sb_eq.mp q))]
    · refine zx_iconst (v := 1) (nn := 24) rfl dX11_sightBy_23 rfl ?_
      refine zx_goto (tgt := 28) dX11_sightBy_24 (by decide) ?_
      refine zx_iret rfl dX11_sightBy_28 ?_
      refine ⟨congrArg (fun x => some (zi x)) ?_, rfl⟩
      unfold pSight
      rw [if_neg (fun q => absurd ((sb_le ha hp hz).mp q) (Int32.not_le.mpr h9)), if_pos (sb_eq.mpr h20)]
  · refine zx_iconst (v := 2) (nn := 13) rfl dX11_sightBy_12 rfl ?_
    refine zx_goto (tgt := 28) dX11_sightBy_13 (by decide) ?_
    refine zx_iret rfl dX11_sightBy_28 ?_
    refine ⟨congrArg (fun x => some (zi x)) ?_, rfl⟩
    unfold pSight
    rw [if_pos ((sb_le ha hp hz).mpr (Int32.not_lt.mp h9))]
set_option maxHeartbeats 4000000 in
set_option maxRecDepth 100000 in
theorem eX11_sight_0 (σ : zG) (μ : zM) (l : Nat) (p : Int32) (ok : pOK (rS 1 μ)) (ab : pAB (rS 1 μ)) (hl : l < pL (rS 1 μ)) (hp : 0 ≤ p ∧ p ≤ 40) : zMet shR σ 2 MX11_sight yX11_sight [zr 0, zi (nI l), zi p] μ (fun rr μ' => rr = some (zi (pSightL (rS 1 μ) l p)) ∧ μ' = μ) := by
  have hl6 : l < 6 := Nat.lt_of_lt_of_le hl (ok_L ok).2
  refine zmetF (by decide +kernel) rfl (Nat.le_of_ble_eq_true rfl) ?_
  show zX shR σ 2 MX11_sight 0 [(0, zr 0), (1, zi (nI l)), (2, zi p)] [] μ _
  refine zx_aload_n (k := 0) (nn := 1) dX11_sight_0 rfl rfl rfl ?_
  refine zx_iload_n (k := 1) (nn := 2) dX11_sight_1 rfl rfl rfl ?_
  refine zx_iconst (v := 1) (nn := 3) rfl dX11_sight_2 rfl ?_
  refine zx_callVf (nn := 6) (k := 0) (d' := 0) (as := [zi (nI l), zi 1]) (rest := []) (n := 2) (eX11_of_0 σ μ l 1  hl6 (by decide)) kX11_of mlX11_88 rfl rfl rfl (by decide) rfl rfl (Nat.le_of_ble_eq_true rfl) dX11_sight_3 rfl ?_
  show zX shR σ 2 MX11_sight 6 [(0, zr 0), (1, zi (nI l)), (2, zi p)] [zi (rS 1 μ (7 + 4 * l + 1))] μ _
  refine zx_aload_n (k := 0) (nn := 7) dX11_sight_6 rfl rfl rfl ?_
  refine zx_iload_n (k := 1) (nn := 8) dX11_sight_7 rfl rfl rfl ?_
  refine zx_iconst (v := 2) (nn := 9) rfl dX11_sight_8 rfl ?_
  refine zx_callVf (nn := 12) (k := 0) (d' := 0) (as := [zi (nI l), zi 2]) (rest := [zi (rS 1 μ (7 + 4 * l + 1))]) (n := 2) (eX11_of_0 σ μ l 2  hl6 (by decide)) kX11_of mlX11_88 rfl rfl rfl (by decide) rfl rfl (Nat.le_of_ble_eq_true rfl) dX11_sight_9 rfl ?_
  show zX shR σ 2 MX11_sight 12 [(0, zr 0), (1, zi (nI l)), (2, zi p)] [zi (rS 1 μ (7 + 4 * l + 2)), zi (rS 1 μ (7 + 4 * l + 1))] μ _
  refine zx_iload_n (k := 2) (nn := 13) dX11_sight_12 rfl rfl rfl ?_
  refine zx_callSf (nn := 16) (d' := 1) (as := [zi (rS 1 μ (7 + 4 * l + 1)), zi (rS 1 μ (7 + 4 * l + 2)), zi p]) (rest := []) (n := 3) (eX11_sightBy σ μ (rS 1 μ (7 + 4 * l + 1)) (rS 1 μ (7 + 4 * l + 2)) p  (ab.1 l hl) (ok.2.2.2 l hl).2.1 hp) kX11_sightBy mlX11_134 (by decide) rfl rfl (Nat.le_of_ble_eq_true rfl) dX11_sight_13 rfl ?_
  show zX shR σ 2 MX11_sight 16 [(0, zr 0), (1, zi (nI l)), (2, zi p)] [zi (pSight (rS 1 μ (7 + 4 * l + 1)) (rS 1 μ (7 + 4 * l + 2)) p)] μ _
  refine zx_iret rfl dX11_sight_16 ?_
  exact ⟨rfl, rfl⟩
set_option maxHeartbeats 4000000 in
set_option maxRecDepth 100000 in
theorem eX11_worth_0 (σ : zG) (μ : zM) (l : Nat) (p : Int32) (ok : pOK (rS 1 μ)) (ab : pAB (rS 1 μ)) (hl : l < pL (rS 1 μ)) (hp : 0 ≤ p ∧ p ≤ 40) : zMet shR σ 3 MX11_worth yX11_worth [zr 0, zi (nI l), zi p] μ (fun rr μ' => rr = some (zi (pWorth (rS 1 μ) l p)) ∧ μ' = μ) := by
  have hl6 : l < 6 := Nat.lt_of_lt_of_le hl (ok_L ok).2
  refine zmetF (by decide +kernel) rfl (Nat.le_of_ble_eq_true rfl) ?_
  show zX shR σ 3 MX11_worth 0 [(0, zr 0), (1, zi (nI l)), (2, zi p)] [] μ _
  refine zx_aload_n (k := 0) (nn := 1) dX11_worth_0 rfl rfl rfl ?_
  refine zx_iload_n (k := 1) (nn := 2) dX11_worth_1 rfl rfl rfl ?_
  refine zx_iload_n (k := 2) (nn := 3) dX11_worth_2 rfl rfl rfl ?_
  refine zx_callVf (nn := 6) (k := 0) (d' := 2) (as := [zi (nI l), zi p]) (rest := []) (n := 2) (eX11_sight_0 σ μ l p  ok ab hl hp) kX11_sight mlX11_137 rfl rfl rfl (by decide) rfl rfl (Nat.le_of_ble_eq_true rfl) dX11_worth_3 rfl ?_
  show zX shR σ 3 MX11_worth 6 [(0, zr 0), (1, zi (nI l)), (2, zi p)] [zi (pSightL (rS 1 μ) l p)] μ _
  refine zx_istore_n (nn := 7) (lv' := [(3, zi (pSightL (rS 1 μ) l p)), (0, zr 0), (1, zi (nI l)), (2, zi p)]) dX11_worth_6 rfl (by decide) rfl rfl ?_
  refine zx_iload_n (k := 0) (nn := 8) dX11_worth_7 rfl rfl rfl ?_
  refine zx_iconst (v := 2) (nn := 9) rfl dX11_worth_8 rfl ?_
  refine zx_icmp_ne (tgt := 24) (nn := 12) dX11_worth_9 (by decide) rfl (fun h9 => ?_) (fun h9 => ?_)
  · refine zx_iload_n (k := 0) (nn := 25) dX11_worth_24 rfl rfl rfl ?_
    refine zx_iret rfl dX11_worth_25 ?_
    refine ⟨congrArg (fun x => some (zi x)) ?_, rfl⟩
    unfold pWorth
    rw [if_neg h9]
    unfold pSightL at h9 ⊢
    rcases pSight_c (rS 1 μ (7 + 4 * l + 1)) (rS 1 μ (7 + 4 * l + 2)) p with e | e | e
    · exact absurd e h9
    · rw [e]; rfl
    · rw [e]; rfl
  · refine zx_bipush (v := 10) (nn := 14) rfl dX11_worth_12 rfl ?_
    refine zx_aload_n (k := 1) (nn := 15) dX11_worth_14 rfl rfl rfl ?_
    refine zx_iload_n (k := 2) (nn := 16) dX11_worth_15 rfl rfl rfl ?_
    refine zx_iconst (v := 2) (nn := 17) rfl dX11_worth_16 rfl ?_
    refine zx_callVf (nn := 20) (k := 0) (d' := 0) (as := [zi (nI l), zi 2]) (rest := [zi 10]) (n := 2) (eX11_of_0 σ μ l 2  hl6 (by decide)) kX11_of mlX11_88 rfl rfl rfl (by decide) rfl rfl (Nat.le_of_ble_eq_true rfl) dX11_worth_17 rfl ?_
    show zX shR σ 3 MX11_worth 20 [(3, zi (pSightL (rS 1 μ) l p)), (0, zr 0), (1, zi (nI l)), (2, zi p)] [zi (rS 1 μ (7 + 4 * l + 2)), zi 10] μ _
    refine zx_isub (nn := 21) dX11_worth_20 rfl ?_
    refine zx_goto (tgt := 25) dX11_worth_21 (by decide) ?_
    refine zx_iret rfl dX11_worth_25 ?_
    refine ⟨congrArg (fun x => some (zi x)) ?_, rfl⟩
    unfold pWorth
    rw [if_pos h9]
set_option maxHeartbeats 4000000 in
set_option maxRecDepth 100000 in
theorem eX11_worthOfAll_0 (σ : zG) (μ : zM) (p : Int32) (ok : pOK (rS 1 μ)) (ab : pAB (rS 1 μ)) (hp : 0 ≤ p ∧ p ≤ 40) : zMet shR σ 4 MX11_worthOfAll yX11_worthOfAll [zr 0, zi p] μ (fun rr μ' => rr = some (zi (pWorths (rS 1 μ) p)) ∧ μ' = μ) := by
  have hL1 : μ 1 0 = nI (pL (rS 1 μ)) := (ok_L ok).1
  have hL2 := (ok_L ok).2
  refine zmetF (by decide +kernel) rfl (Nat.le_of_ble_eq_true rfl) ?_
  show zX shR σ 4 MX11_worthOfAll 0 [(0, zr 0), (1, zi p)] [] μ _
  refine zx_iconst (v := 0) (nn := 1) rfl dX11_worthOfAll_0 rfl ?_
  refine zx_istore_n (nn := 2) (lv' := [(2, zi 0), (0, zr 0), (1, zi p)]) dX11_worthOfAll_1 rfl (by decide) rfl rfl ?_
  refine zx_iconst (v := 0) (nn := 3) rfl dX11_worthOfAll_2 rfl ?_
  refine zx_istore_n (nn := 4) (lv' := [(3, zi 0), (2, zi 0), (0, zr 0), (1, zi p)]) dX11_worthOfAll_3 rfl (by decide) rfl rfl ?_
  refine zx_lv (lv' := [(0, zr 0), (1, zi p), (2, zi 0), (3, zi 0)]) [2, 3, 1, 0] rfl ?_
  refine zx_while (τ := Nat × Int32) (fun t_ => pL (rS 1 μ) - t_.1) (fun t_ => t_.1 ≤ pL (rS 1 μ) ∧ t_.2 = pSum (fun l_ => pWorth (rS 1 μ) l_ p) t_.1) (fun t_ => [(0, zr 0), (1, zi p), (2, zi t_.2), (3, zi (nI t_.1))]) (fun t_ => μ) (t0 := (0, 0)) (show 0 ≤ pL (rS 1 μ) ∧ 0 = pSum (fun l_ => pWorth (rS 1 μ) l_ p) 0 from ⟨Nat.zero_le _, rfl⟩) ?_
  rintro ⟨i, v⟩ hI ih4
  replace hI : i ≤ pL (rS 1 μ) ∧ v = pSum (fun l_ => pWorth (rS 1 μ) l_ p) i := hI
  show zX shR σ 4 MX11_worthOfAll 4 [(0, zr 0), (1, zi p), (2, zi v), (3, zi (nI i))] [] μ _
  refine zx_iload_n (k := 3) (nn := 5) dX11_worthOfAll_4 rfl rfl rfl ?_
  refine zx_aload_n (k := 0) (nn := 6) dX11_worthOfAll_5 rfl rfl rfl ?_
  refine zx_getR (q := 1) (nn := 9) flX11_9 rfl rfl dX11_worthOfAll_6 rfl ?_
  refine zx_iconst (v := 0) (nn := 10) rfl dX11_worthOfAll_9 rfl ?_
  refine zx_iald_n (j := 0) (nn := 11) rfl (by omega) (by decide) dX11_worthOfAll_10 rfl ?_
  rw [show μ 1 0 = nI (pL (rS 1 μ)) from hL1]
  show zX shR σ 4 MX11_worthOfAll 11 [(0, zr 0), (1, zi p), (2, zi v), (3, zi (nI i))] [zi (nI (pL (rS 1 μ))), zi (nI i)] μ _
  refine zx_icmp_ge (tgt := 29) (nn := 14) dX11_worthOfAll_11 (by decide) rfl (fun h11 => ?_) (fun h11 => ?_)
  · refine zx_iload_n (k := 2) (nn := 30) dX11_worthOfAll_29 rfl rfl rfl ?_
    refine zx_iret rfl dX11_worthOfAll_30 ?_
    have hge := nI_le_le h11 (by omega)
    exact ⟨congrArg (fun x => some (zi x)) (by rw [hI.2, show i = pL (rS 1 μ) by omega]; rfl), rfl⟩
  · have hlt : i < pL (rS 1 μ) := nI_nle_lt h11 (by omega)
    refine zx_iload_n (k := 2) (nn := 15) dX11_worthOfAll_14 rfl rfl rfl ?_
    refine zx_aload_n (k := 0) (nn := 16) dX11_worthOfAll_15 rfl rfl rfl ?_
    refine zx_iload_n (k := 3) (nn := 17) dX11_worthOfAll_16 rfl rfl rfl ?_
    refine zx_iload_n (k := 1) (nn := 18) dX11_worthOfAll_17 rfl rfl rfl ?_
    refine zx_callVf (nn := 21) (k := 0) (d' := 3) (as := [zi (nI i), zi p]) (rest := [zi v]) (n := 2) (eX11_worth_0 σ μ i p  ok ab hlt hp) kX11_worth mlX11_140 rfl rfl rfl (by decide) rfl rfl (Nat.le_of_ble_eq_true rfl) dX11_worthOfAll_18 rfl ?_
    show zX shR σ 4 MX11_worthOfAll 21 [(0, zr 0), (1, zi p), (2, zi v), (3, zi (nI i))] [zi (pWorth (rS 1 μ) i p), zi v] μ _
    refine zx_iadd (nn := 22) dX11_worthOfAll_21 rfl ?_
    refine zx_istore_n (nn := 23) (lv' := [(2, zi (v + (pWorth (rS 1 μ) i p))), (0, zr 0), (1, zi p), (3, zi (nI i))]) dX11_worthOfAll_22 rfl (by decide) rfl rfl ?_
    refine zx_iinc (k := 3) (v := nI (i + 1)) (lv' := [(3, zi (nI (i + 1))), (2, zi (v + (pWorth (rS 1 μ) i p))), (0, zr 0), (1, zi p)]) (nn := 26) dX11_worthOfAll_23 rfl (nI_1 i) (by decide) rfl rfl ?_
    refine zx_goto (tgt := 4) dX11_worthOfAll_26 (by decide) ?_
    refine zx_lv (lv' := [(0, zr 0), (1, zi p), (2, zi (v + (pWorth (rS 1 μ) i p))), (3, zi (nI (i + 1)))]) [2, 3, 1, 0] rfl ?_
    exact ih4 (i + 1, v + (fun l_ => pWorth (rS 1 μ) l_ p) i) (show (i + 1) ≤ pL (rS 1 μ) ∧ (v + (fun l_ => pWorth (rS 1 μ) l_ p) i) = pSum (fun l_ => pWorth (rS 1 μ) l_ p) (i + 1) from ⟨by omega, by show _ + _ = pSum _ i + _; rw [hI.2]⟩) (by show pL (rS 1 μ) - (i + 1) < pL (rS 1 μ) - i; omega)
set_option maxHeartbeats 4000000 in
set_option maxRecDepth 100000 in
theorem eX11_setOf_0 (σ : zG) (μ : zM) (g : Int32) (p : Int32) (ok : pOK (rS 1 μ)) (ab : pAB (rS 1 μ)) (hp : 0 ≤ p ∧ p ≤ 40) : zMet shR σ 3 MX11_setOf yX11_setOf [zr 0, zi g, zi p] μ (fun rr μ' => rr = some (zi (pSetOf (rS 1 μ) g p)) ∧ μ' = μ) := by
  have hL1 : μ 1 0 = nI (pL (rS 1 μ)) := (ok_L ok).1
  have hL2 := (ok_L ok).2
  refine zmetF (by decide +kernel) rfl (Nat.le_of_ble_eq_true rfl) ?_
  show zX shR σ 3 MX11_setOf 0 [(0, zr 0), (1, zi g), (2, zi p)] [] μ _
  refine zx_iconst (v := 0) (nn := 1) rfl dX11_setOf_0 rfl ?_
  refine zx_istore_n (nn := 2) (lv' := [(3, zi 0), (0, zr 0), (1, zi g), (2, zi p)]) dX11_setOf_1 rfl (by decide) rfl rfl ?_
  refine zx_iconst (v := 0) (nn := 3) rfl dX11_setOf_2 rfl ?_
  refine zx_istore (nn := 5) (lv' := [(4, zi 0), (3, zi 0), (0, zr 0), (1, zi g), (2, zi p)]) dX11_setOf_3 (by decide) rfl rfl ?_
  refine zx_lv (lv' := [(0, zr 0), (1, zi g), (2, zi p), (3, zi 0), (4, zi 0)]) [2, 3, 4, 1, 0] rfl ?_
  refine zx_while (τ := Nat × Int32) (fun t_ => pL (rS 1 μ) - t_.1) (fun t_ => t_.1 ≤ pL (rS 1 μ) ∧ t_.2 = pSet (fun l_ => decide (pSightL (rS 1 μ) l_ p = g)) t_.1) (fun t_ => [(0, zr 0), (1, zi g), (2, zi p), (3, zi t_.2), (4, zi (nI t_.1))]) (fun t_ => μ) (t0 := (0, 0)) (show 0 ≤ pL (rS 1 μ) ∧ 0 = pSet (fun l_ => decide (pSightL (rS 1 μ) l_ p = g)) 0 from ⟨Nat.zero_le _, rfl⟩) ?_
  rintro ⟨i, v⟩ hI ih5
  replace hI : i ≤ pL (rS 1 μ) ∧ v = pSet (fun l_ => decide (pSightL (rS 1 μ) l_ p = g)) i := hI
  show zX shR σ 3 MX11_setOf 5 [(0, zr 0), (1, zi g), (2, zi p), (3, zi v), (4, zi (nI i))] [] μ _
  refine zx_iload (k := 4) (nn := 7) dX11_setOf_5 rfl rfl ?_
  refine zx_aload_n (k := 0) (nn := 8) dX11_setOf_7 rfl rfl rfl ?_
  refine zx_getR (q := 1) (nn := 11) flX11_9 rfl rfl dX11_setOf_8 rfl ?_
  refine zx_iconst (v := 0) (nn := 12) rfl dX11_setOf_11 rfl ?_
  refine zx_iald_n (j := 0) (nn := 13) rfl (by omega) (by decide) dX11_setOf_12 rfl ?_
  rw [show μ 1 0 = nI (pL (rS 1 μ)) from hL1]
  show zX shR σ 3 MX11_setOf 13 [(0, zr 0), (1, zi g), (2, zi p), (3, zi v), (4, zi (nI i))] [zi (nI (pL (rS 1 μ))), zi (nI i)] μ _
  refine zx_icmp_ge (tgt := 44) (nn := 16) dX11_setOf_13 (by decide) rfl (fun h13 => ?_) (fun h13 => ?_)
  · refine zx_iload_n (k := 3) (nn := 45) dX11_setOf_44 rfl rfl rfl ?_
    refine zx_iret rfl dX11_setOf_45 ?_
    have hge := nI_le_le h13 (by omega)
    exact ⟨congrArg (fun x => some (zi x)) (by rw [hI.2, show i = pL (rS 1 μ) by omega]; rfl), rfl⟩
  · have hlt : i < pL (rS 1 μ) := nI_nle_lt h13 (by omega)
    refine zx_iload_n (k := 3) (nn := 17) dX11_setOf_16 rfl rfl rfl ?_
    refine zx_aload_n (k := 0) (nn := 18) dX11_setOf_17 rfl rfl rfl ?_
    refine zx_iload (k := 4) (nn := 20) dX11_setOf_18 rfl rfl ?_
    refine zx_iload_n (k := 2) (nn := 21) dX11_setOf_20 rfl rfl rfl ?_
    refine zx_callVf (nn := 24) (k := 0) (d' := 2) (as := [zi (nI i), zi p]) (rest := [zi v]) (n := 2) (eX11_sight_0 σ μ i p  ok ab hlt hp) kX11_sight mlX11_137 rfl rfl rfl (by decide) rfl rfl (Nat.le_of_ble_eq_true rfl) dX11_setOf_21 rfl ?_
    show zX shR σ 3 MX11_setOf 24 [(0, zr 0), (1, zi g), (2, zi p), (3, zi v), (4, zi (nI i))] [zi (pSightL (rS 1 μ) i p), zi v] μ _
    refine zx_iload_n (k := 1) (nn := 25) dX11_setOf_24 rfl rfl rfl ?_
    refine zx_icmp_ne (tgt := 35) (nn := 28) dX11_setOf_25 (by decide) rfl (fun h25 => ?_) (fun h25 => ?_)
    · refine zx_iconst (v := 0) (nn := 36) rfl dX11_setOf_35 rfl ?_
      refine zx_ior (nn := 37) dX11_setOf_36 rfl ?_
      rw [show v ||| 0 = v from Int32.or_zero]
      show zX shR σ 3 MX11_setOf 37 [(0, zr 0), (1, zi g), (2, zi p), (3, zi v), (4, zi (nI i))] [zi v] μ _
      refine zx_istore_n (nn := 38) (lv' := [(3, zi v), (0, zr 0), (1, zi g), (2, zi p), (4, zi (nI i))]) dX11_setOf_37 rfl (by decide) rfl rfl ?_
      refine zx_iinc (k := 4) (v := nI (i + 1)) (lv' := [(4, zi (nI (i + 1))), (3, zi v), (0, zr 0), (1, zi g), (2, zi p)]) (nn := 41) dX11_setOf_38 rfl (nI_1 i) (by decide) rfl rfl ?_
      refine zx_goto (tgt := 5) dX11_setOf_41 (by decide) ?_
      refine zx_lv (lv' := [(0, zr 0), (1, zi g), (2, zi p), (3, zi v), (4, zi (nI (i + 1)))]) [2, 3, 4, 1, 0] rfl ?_
      exact ih5 (i + 1, v) (show (i + 1) ≤ pL (rS 1 μ) ∧ v = pSet (fun l_ => decide (pSightL (rS 1 μ) l_ p = g)) (i + 1) from ⟨by omega, by show _ = if _ then _ else _; rw [if_neg (by exact fun q => h25 (of_decide_eq_true q)), hI.2]⟩) (by show pL (rS 1 μ) - (i + 1) < pL (rS 1 μ) - i; omega)
    · refine zx_iconst (v := 1) (nn := 29) rfl dX11_setOf_28 rfl ?_
      refine zx_iload (k := 4) (nn := 31) dX11_setOf_29 rfl rfl ?_
      refine zx_ishl (nn := 32) dX11_setOf_31 rfl ?_
      refine zx_goto (tgt := 36) dX11_setOf_32 (by decide) ?_
      refine zx_ior (nn := 37) dX11_setOf_36 rfl ?_
      rw [show v ||| (1 <<< ((nI i) &&& 31)) = v ||| (1 <<< nI i) from by rw [zand31 (by omega)]]
      show zX shR σ 3 MX11_setOf 37 [(0, zr 0), (1, zi g), (2, zi p), (3, zi v), (4, zi (nI i))] [zi (v ||| (1 <<< nI i))] μ _
      refine zx_istore_n (nn := 38) (lv' := [(3, zi (v ||| (1 <<< nI i))), (0, zr 0), (1, zi g), (2, zi p), (4, zi (nI i))]) dX11_setOf_37 rfl (by decide) rfl rfl ?_
      refine zx_iinc (k := 4) (v := nI (i + 1)) (lv' := [(4, zi (nI (i + 1))), (3, zi (v ||| (1 <<< nI i))), (0, zr 0), (1, zi g), (2, zi p)]) (nn := 41) dX11_setOf_38 rfl (nI_1 i) (by decide) rfl rfl ?_
      refine zx_goto (tgt := 5) dX11_setOf_41 (by decide) ?_
      refine zx_lv (lv' := [(0, zr 0), (1, zi g), (2, zi p), (3, zi (v ||| (1 <<< nI i))), (4, zi (nI (i + 1)))]) [2, 3, 4, 1, 0] rfl ?_
      exact ih5 (i + 1, v ||| (1 <<< nI i)) (show (i + 1) ≤ pL (rS 1 μ) ∧ (v ||| (1 <<< nI i)) = pSet (fun l_ => decide (pSightL (rS 1 μ) l_ p = g)) (i + 1) from ⟨by omega, by show _ = if _ then _ else _; rw [if_pos (by exact decide_eq_true h25), hI.2]⟩) (by show pL (rS 1 μ) - (i + 1) < pL (rS 1 μ) - i; omega)
set_option maxHeartbeats 4000000 in
set_option maxRecDepth 100000 in
theorem eX11_goes_0 (σ : zG) (μ : zM) (h : Int32) {ρ : pR} (ok : pOK (rS 1 μ)) (ab : pAB (rS 1 μ)) (hρ : rRep ρ (μ 1)) (hb : pb (rS 1 μ) < pB (rS 1 μ)) : zMet shR σ 6 MX11_goes yX11_goes [zr 0, zi h] μ (fun rr μ' => rr = some (zi (pGain ρ (rS 1 μ) (h - 1))) ∧ rS 1 μ' = pGo ρ (rS 1 μ) (h - 1) ∧ rQ μ μ' ∧ zJ [1, 4, 6] μ μ') := by
  have hL1 : μ 1 0 = nI (pL (rS 1 μ)) := (ok_L ok).1
  have hL2 := (ok_L ok).2
  refine zmetF (by decide +kernel) rfl (Nat.le_of_ble_eq_true rfl) ?_
  show zX shR σ 6 MX11_goes 0 [(0, zr 0), (1, zi h)] [] μ _
  refine zx_iconst (v := 0) (nn := 1) rfl dX11_goes_0 rfl ?_
  refine zx_istore_n (nn := 2) (lv' := [(2, zi 0), (0, zr 0), (1, zi h)]) dX11_goes_1 rfl (by decide) rfl rfl ?_
  refine zx_lv (lv' := [(0, zr 0), (1, zi h), (2, zi 0)]) [1, 2, 0] rfl ?_
  refine zx_while (τ := Nat × zM) (fun t_ => pL (rS 1 μ) - t_.1) (fun t_ => t_.1 ≤ pL (rS 1 μ) ∧ zJ [4, 6] μ t_.2 ∧ ∀ j, j < t_.1 → t_.2 4 j = (pAims ρ (rS 1 μ) (h - 1)) (7 + 4 * j + 1)) (fun t_ => [(0, zr 0), (1, zi h), (2, zi (nI t_.1))]) (fun t_ => t_.2) (t0 := (0, μ)) (show 0 ≤ pL (rS 1 μ) ∧ zJ [4, 6] μ μ ∧ ∀ j, j < 0 → μ 4 j = (pAims ρ (rS 1 μ) (h - 1)) (7 + 4 * j + 1) from ⟨Nat.zero_le _, zJ.rf, fun j hj => absurd hj (by omega)⟩) ?_
  rintro ⟨n, μ1⟩ hI ih2
  replace hI : n ≤ pL (rS 1 μ) ∧ zJ [4, 6] μ μ1 ∧ ∀ j, j < n → μ1 4 j = (pAims ρ (rS 1 μ) (h - 1)) (7 + 4 * j + 1) := hI
  show zX shR σ 6 MX11_goes 2 [(0, zr 0), (1, zi h), (2, zi (nI n))] [] μ1 _
  obtain ⟨hr1, hr2, hr3⟩ := hI
  have e1 : μ1 1 = μ 1 := hr2 1 (by decide)
  have es1 : rS 1 μ1 = rS 1 μ := rS_eq e1
  refine zx_iload_n (k := 2) (nn := 3) dX11_goes_2 rfl rfl rfl ?_
  refine zx_aload_n (k := 0) (nn := 4) dX11_goes_3 rfl rfl rfl ?_
  refine zx_getR (q := 1) (nn := 7) flX11_9 rfl rfl dX11_goes_4 rfl ?_
  refine zx_iconst (v := 0) (nn := 8) rfl dX11_goes_7 rfl ?_
  refine zx_iald_n (j := 0) (nn := 9) rfl (by omega) (by decide) dX11_goes_8 rfl ?_
  rw [show μ1 1 0 = nI (pL (rS 1 μ)) from by rw [e1]; exact hL1]
  show zX shR σ 6 MX11_goes 9 [(0, zr 0), (1, zi h), (2, zi (nI n))] [zi (nI (pL (rS 1 μ))), zi (nI n)] μ1 _
  refine zx_icmp_ge (tgt := 45) (nn := 12) dX11_goes_9 (by decide) rfl (fun h9 => ?_) (fun h9 => ?_)
  · refine zx_iconst (v := 0) (nn := 46) rfl dX11_goes_45 rfl ?_
    refine zx_istore_n (nn := 47) (lv' := [(2, zi 0), (0, zr 0), (1, zi h)]) dX11_goes_46 rfl (by decide) rfl rfl ?_
    refine zx_lv (lv' := [(0, zr 0), (1, zi h), (2, zi 0)]) [1, 2, 0] rfl ?_
    refine zx_while (τ := Nat × zM) (fun t_ => pL (rS 1 μ) - t_.1) (fun t_ => t_.1 ≤ pL (rS 1 μ) ∧ zJ [1, 4, 6] μ t_.2 ∧ rQ μ t_.2 ∧ rS 1 t_.2 = pAimsTo ρ (rS 1 μ) (h - 1) t_.1 ∧ ∀ j, j < pL (rS 1 μ) → t_.2 4 j = (pAims ρ (rS 1 μ) (h - 1)) (7 + 4 * j + 1)) (fun t_ => [(0, zr 0), (1, zi h), (2, zi (nI t_.1))]) (fun t_ => t_.2) (t0 := (0, μ1)) (show 0 ≤ pL (rS 1 μ) ∧ zJ [1, 4, 6] μ μ1 ∧ rQ μ μ1 ∧ rS 1 μ1 = pAimsTo ρ (rS 1 μ) (h - 1) 0 ∧ ∀ j, j < pL (rS 1 μ) → μ1 4 j = (pAims ρ (rS 1 μ) (h - 1)) (7 + 4 * j + 1) from ⟨Nat.zero_le _, hr2.mono (by simp), rQ_e e1, es1.trans (pAimsTo_0 _ _ _).symm, fun j hj => hr3 j (by have := nI_le_le h9 (by omega); omega)⟩) ?_
    rintro ⟨k, μ2⟩ hI ih47
    replace hI : k ≤ pL (rS 1 μ) ∧ zJ [1, 4, 6] μ μ2 ∧ rQ μ μ2 ∧ rS 1 μ2 = pAimsTo ρ (rS 1 μ) (h - 1) k ∧ ∀ j, j < pL (rS 1 μ) → μ2 4 j = (pAims ρ (rS 1 μ) (h - 1)) (7 + 4 * j + 1) := hI
    show zX shR σ 6 MX11_goes 47 [(0, zr 0), (1, zi h), (2, zi (nI k))] [] μ2 _
    obtain ⟨hq1, hq2, hq3, hq4, hq5⟩ := hI
    have e0 : μ2 1 0 = nI (pL (rS 1 μ)) := by rw [← hL1]; exact hq3 0 (by omega)
    have eb : μ2 1 2 = nI (pb (rS 1 μ)) := by rw [← (ok_b ok).1]; exact (congrFun hq4 2).trans (pAimsTo_lo (by omega) (by omega))
    refine zx_iload_n (k := 2) (nn := 48) dX11_goes_47 rfl rfl rfl ?_
    refine zx_aload_n (k := 0) (nn := 49) dX11_goes_48 rfl rfl rfl ?_
    refine zx_getR (q := 1) (nn := 52) flX11_9 rfl rfl dX11_goes_49 rfl ?_
    refine zx_iconst (v := 0) (nn := 53) rfl dX11_goes_52 rfl ?_
    refine zx_iald_n (j := 0) (nn := 54) rfl (by omega) (by decide) dX11_goes_53 rfl ?_
    rw [show μ2 1 0 = nI (pL (rS 1 μ)) from e0]
    show zX shR σ 6 MX11_goes 54 [(0, zr 0), (1, zi h), (2, zi (nI k))] [zi (nI (pL (rS 1 μ))), zi (nI k)] μ2 _
    refine zx_icmp_ge (tgt := 82) (nn := 57) dX11_goes_54 (by decide) rfl (fun h54 => ?_) (fun h54 => ?_)
    · have hge2 := nI_le_le h54 (by omega)
      have hkn : k = pL (rS 1 μ) := by omega
      have hA : rS 1 μ2 = (pAims ρ (rS 1 μ) (h - 1)) := by rw [hq4, hkn]; rfl
      have okA : pOK (pAims ρ (rS 1 μ) (h - 1)) := pOK_aims ok hL2
      have hA0 : (pAims ρ (rS 1 μ) (h - 1)) 0 = (rS 1 μ) 0 := pAimsTo_lo (by omega) hL2
      have hA1 : (pAims ρ (rS 1 μ) (h - 1)) 1 = (rS 1 μ) 1 := pAimsTo_lo (by omega) hL2
      have hA2 : (pAims ρ (rS 1 μ) (h - 1)) 2 = (rS 1 μ) 2 := pAimsTo_lo (by omega) hL2
      have hA3 : (pAims ρ (rS 1 μ) (h - 1)) 3 = (rS 1 μ) 3 := pAimsTo_lo (by omega) hL2
      have hpl : 0 ≤ (rS 1 μ) (31 + pb (rS 1 μ)) ∧ (rS 1 μ) (31 + pb (rS 1 μ)) ≤ 40 := ab.2 _ hb
      have hB2 := (ok_B ok).2
      have abA : pAB (pAims ρ (rS 1 μ) (h - 1)) := ⟨fun l_ hl_ => by
          have hl2 : l_ < pL (rS 1 μ) := by unfold pL at hl_ ⊢; rw [hA0] at hl_; exact hl_
          rw [pAims_at hl2]; split; exact ab.1 _ hl2; exact pBehind_b (ab.1 _ hl2), fun b_ hb_ => by
          have hb2 : b_ < pB (rS 1 μ) := by unfold pB at hb_ ⊢; rw [hA1] at hb_; exact hb_
          rw [show (pAims ρ (rS 1 μ) (h - 1)) (31 + b_) = (rS 1 μ) (31 + b_) from pAimsTo_lo (by omega) hL2]; exact ab.2 _ hb2⟩
      refine zx_aload_n (k := 0) (nn := 83) dX11_goes_82 rfl rfl rfl ?_
      refine zx_aload_n (k := 0) (nn := 84) dX11_goes_83 rfl rfl rfl ?_
      refine zx_getR (q := 1) (nn := 87) flX11_9 rfl rfl dX11_goes_84 rfl ?_
      refine zx_bipush (v := 31) (nn := 89) rfl dX11_goes_87 rfl ?_
      refine zx_aload_n (k := 0) (nn := 90) dX11_goes_89 rfl rfl rfl ?_
      refine zx_getR (q := 1) (nn := 93) flX11_9 rfl rfl dX11_goes_90 rfl ?_
      refine zx_iconst (v := 2) (nn := 94) rfl dX11_goes_93 rfl ?_
      refine zx_iald_n (j := 2) (nn := 95) rfl (by omega) (by decide) dX11_goes_94 rfl ?_
      rw [show μ2 1 2 = nI (pb (rS 1 μ)) from eb]
      show zX shR σ 6 MX11_goes 95 [(0, zr 0), (1, zi h), (2, zi (nI k))] [zi (nI (pb (rS 1 μ))), zi 31, zr 1, zr 0] μ2 _
      refine zx_iadd (nn := 96) dX11_goes_95 rfl ?_
      rw [show 31 + (nI (pb (rS 1 μ))) = nI (31 + pb (rS 1 μ)) from by simp only [show (2 : Int32) = nI 2 from rfl, show (3 : Int32) = nI 3 from rfl, show (1 : Int32) = nI 1 from rfl, show (4 : Int32) = nI 4 from rfl, show (5 : Int32) = nI 5 from rfl, show (7 : Int32) = nI 7 from rfl, show (31 : Int32) = nI 31 from rfl, show (47 : Int32) = nI 47 from rfl, show (71 : Int32) = nI 71 from rfl, show (111 : Int32) = nI 111 from rfl, nI_mulN, nI_add]]
      show zX shR σ 6 MX11_goes 96 [(0, zr 0), (1, zi h), (2, zi (nI k))] [zi (nI (31 + pb (rS 1 μ))), zr 1, zr 0] μ2 _
      refine zx_iald_n (j := 31 + pb (rS 1 μ)) (nn := 97) rfl (by omega) (by decide) dX11_goes_96 rfl ?_
      rw [show μ2 1 (31 + pb (rS 1 μ)) = (rS 1 μ) (31 + pb (rS 1 μ)) from (hq3 _ (by omega)).trans (rS_i (by omega) (by omega) (by omega)).symm]
      show zX shR σ 6 MX11_goes 97 [(0, zr 0), (1, zi h), (2, zi (nI k))] [zi ((rS 1 μ) (31 + pb (rS 1 μ))), zr 0] μ2 _
      refine zx_callVf (nn := 100) (k := 0) (d' := 4) (as := [zi ((rS 1 μ) (31 + pb (rS 1 μ)))]) (rest := []) (n := 1) (eX11_worthOfAll_0 σ μ2 ((rS 1 μ) (31 + pb (rS 1 μ)))  (by rw [hA]; exact okA) (by rw [hA]; exact abA) hpl) kX11_worthOfAll mlX11_143 rfl rfl rfl (by decide) rfl rfl (Nat.le_of_ble_eq_true rfl) dX11_goes_97 rfl ?_
      show zX shR σ 6 MX11_goes 100 [(0, zr 0), (1, zi h), (2, zi (nI k))] [zi (pWorths (rS 1 μ2) ((rS 1 μ) (31 + pb (rS 1 μ))))] μ2 _
      rw [show pWorths (rS 1 μ2) ((rS 1 μ) (31 + pb (rS 1 μ))) = pGain ρ (rS 1 μ) (h - 1) from by rw [hA]; rfl]
      show zX shR σ 6 MX11_goes 100 [(0, zr 0), (1, zi h), (2, zi (nI k))] [zi (pGain ρ (rS 1 μ) (h - 1))] μ2 _
      refine zx_istore_n (nn := 101) (lv' := [(2, zi (pGain ρ (rS 1 μ) (h - 1))), (0, zr 0), (1, zi h)]) dX11_goes_100 rfl (by decide) rfl rfl ?_
      refine zx_aload_n (k := 1) (nn := 102) dX11_goes_101 rfl rfl rfl ?_
      refine zx_getR (q := 1) (nn := 105) flX11_9 rfl rfl dX11_goes_102 rfl ?_
      refine zx_iconst (v := 2) (nn := 106) rfl dX11_goes_105 rfl ?_
      refine zx_dup2 (nn := 107) dX11_goes_106 rfl ?_
      refine zx_iald_n (j := 2) (nn := 108) rfl (by omega) (by decide) dX11_goes_107 rfl ?_
      refine zx_iconst (v := 1) (nn := 109) rfl dX11_goes_108 rfl ?_
      refine zx_iadd (nn := 110) dX11_goes_109 rfl ?_
      refine zx_iast_n (j := 2) (nn := 111) rfl (by omega) (by decide) dX11_goes_110 rfl ?_
      refine zx_aload_n (k := 1) (nn := 112) dX11_goes_111 rfl rfl rfl ?_
      refine zx_getR (q := 1) (nn := 115) flX11_9 rfl rfl dX11_goes_112 rfl ?_
      refine zx_iconst (v := 3) (nn := 116) rfl dX11_goes_115 rfl ?_
      refine zx_dup2 (nn := 117) dX11_goes_116 rfl ?_
      refine zx_iald_n (j := 3) (nn := 118) rfl (by omega) (by decide) dX11_goes_117 rfl ?_
      show zX shR σ 6 MX11_goes 118 [(2, zi (pGain ρ (rS 1 μ) (h - 1))), (0, zr 0), (1, zi h)] [zi (μ2 1 3), zi 3, zr 1] (zp μ2 1 2 ((μ2 1 2) + 1)) _
      refine zx_iload_n (k := 0) (nn := 119) dX11_goes_118 rfl rfl rfl ?_
      refine zx_iadd (nn := 120) dX11_goes_119 rfl ?_
      refine zx_iast_n (j := 3) (nn := 121) rfl (by omega) (by decide) dX11_goes_120 rfl ?_
      refine zx_iload_n (k := 0) (nn := 122) dX11_goes_121 rfl rfl rfl ?_
      refine zx_iret rfl dX11_goes_122 ?_
      refine ⟨rfl, ?_, (rQ_p (rQ_p hq3 (by omega)) (by omega)), ((hq2.p (by decide)).p (by decide))⟩
      rw [rS_p (by omega) (by omega) (by omega), rS_p (by omega) (by omega) (by omega), hA]
      funext i
      unfold pPut pGo
      by_cases q3 : i = 3
      · rw [if_pos q3, q3, if_neg (by omega), if_pos rfl, show μ2 1 3 = (rS 1 μ) 3 from (congrFun hA 3).trans hA3]
      · rw [if_neg q3]
        by_cases q2 : i = 2
        · rw [if_pos q2, if_pos q2, show μ2 1 2 = (rS 1 μ) 2 from (congrFun hA 2).trans hA2]
        · rw [if_neg q2, if_neg q2, if_neg q3]
    · have hlt2 : k < pL (rS 1 μ) := nI_nle_lt h54 (by omega)
      refine zx_aload_n (k := 0) (nn := 58) dX11_goes_57 rfl rfl rfl ?_
      refine zx_getR (q := 1) (nn := 61) flX11_9 rfl rfl dX11_goes_58 rfl ?_
      refine zx_bipush (v := 7) (nn := 63) rfl dX11_goes_61 rfl ?_
      refine zx_iconst (v := 4) (nn := 64) rfl dX11_goes_63 rfl ?_
      refine zx_iload_n (k := 2) (nn := 65) dX11_goes_64 rfl rfl rfl ?_
      refine zx_imul (nn := 66) dX11_goes_65 rfl ?_
      refine zx_iadd (nn := 67) dX11_goes_66 rfl ?_
      refine zx_iconst (v := 1) (nn := 68) rfl dX11_goes_67 rfl ?_
      refine zx_iadd (nn := 69) dX11_goes_68 rfl ?_
      rw [show (7 + (4 * (nI k))) + 1 = nI (7 + 4 * k + 1) from by simp only [show (2 : Int32) = nI 2 from rfl, show (3 : Int32) = nI 3 from rfl, show (1 : Int32) = nI 1 from rfl, show (4 : Int32) = nI 4 from rfl, show (5 : Int32) = nI 5 from rfl, show (7 : Int32) = nI 7 from rfl, show (31 : Int32) = nI 31 from rfl, show (47 : Int32) = nI 47 from rfl, show (71 : Int32) = nI 71 from rfl, show (111 : Int32) = nI 111 from rfl, nI_mulN, nI_add]]
      show zX shR σ 6 MX11_goes 69 [(0, zr 0), (1, zi h), (2, zi (nI k))] [zi (nI (7 + 4 * k + 1)), zr 1] μ2 _
      refine zx_aload_n (k := 0) (nn := 70) dX11_goes_69 rfl rfl rfl ?_
      refine zx_getR (q := 4) (nn := 73) flX11_19 rfl rfl dX11_goes_70 rfl ?_
      refine zx_iload_n (k := 2) (nn := 74) dX11_goes_73 rfl rfl rfl ?_
      refine zx_iald_n (j := k) (nn := 75) rfl (by omega) (by decide) dX11_goes_74 rfl ?_
      refine zx_iast_n (j := 7 + 4 * k + 1) (nn := 76) rfl (by omega) (by decide) dX11_goes_75 rfl ?_
      refine zx_iinc (k := 2) (v := nI (k + 1)) (lv' := [(2, zi (nI (k + 1))), (0, zr 0), (1, zi h)]) (nn := 79) dX11_goes_76 rfl (nI_1 k) (by decide) rfl rfl ?_
      refine zx_goto (tgt := 47) dX11_goes_79 (by decide) ?_
      refine zx_lv (lv' := [(0, zr 0), (1, zi h), (2, zi (nI (k + 1)))]) [1, 2, 0] rfl ?_
      exact ih47 (k + 1, zp μ2 1 (7 + 4 * k + 1) (μ2 4 k)) (show (k + 1) ≤ pL (rS 1 μ) ∧ zJ [1, 4, 6] μ (zp μ2 1 (7 + 4 * k + 1) (μ2 4 k)) ∧ rQ μ (zp μ2 1 (7 + 4 * k + 1) (μ2 4 k)) ∧ rS 1 (zp μ2 1 (7 + 4 * k + 1) (μ2 4 k)) = pAimsTo ρ (rS 1 μ) (h - 1) (k + 1) ∧ ∀ j, j < pL (rS 1 μ) → (zp μ2 1 (7 + 4 * k + 1) (μ2 4 k)) 4 j = (pAims ρ (rS 1 μ) (h - 1)) (7 + 4 * j + 1) from ⟨by omega, hq2.p (by decide), rQ_p hq3 (by omega), by rw [rS_p (by omega) (by omega) (by omega), hq4, hq5 k hlt2]; exact pAims_put hlt2, fun j hj => by rw [zp_ne (by decide)]; exact hq5 j hj⟩) (by show pL (rS 1 μ) - (k + 1) < pL (rS 1 μ) - k; omega)
  · have hlt : n < pL (rS 1 μ) := nI_nle_lt h9 (by omega)
    refine zx_aload_n (k := 0) (nn := 13) dX11_goes_12 rfl rfl rfl ?_
    refine zx_getR (q := 4) (nn := 16) flX11_19 rfl rfl dX11_goes_13 rfl ?_
    refine zx_iload_n (k := 2) (nn := 17) dX11_goes_16 rfl rfl rfl ?_
    refine zx_iload_n (k := 1) (nn := 18) dX11_goes_17 rfl rfl rfl ?_
    refine zx_iload_n (k := 2) (nn := 19) dX11_goes_18 rfl rfl rfl ?_
    refine zx_iconst (v := 1) (nn := 20) rfl dX11_goes_19 rfl ?_
    refine zx_iadd (nn := 21) dX11_goes_20 rfl ?_
    refine zx_icmp_ne (tgt := 33) (nn := 24) dX11_goes_21 (by decide) rfl (fun h21 => ?_) (fun h21 => ?_)
    · refine zx_aload_n (k := 0) (nn := 34) dX11_goes_33 rfl rfl rfl ?_
      refine zx_iload_n (k := 2) (nn := 35) dX11_goes_34 rfl rfl rfl ?_
      refine zx_callV (nn := 38) (k := 0) (d' := 5) (as := [zi (nI n)]) (rest := [zi (nI n), zr 4]) (n := 1) (eX11_aimBehind_0 σ μ1 n  (by rw [es1]; exact ok) (by rw [es1]; exact hlt) (by rw [e1]; exact hρ)) kX11_aimBehind mlX11_100 rfl rfl rfl (by decide) rfl rfl (Nat.le_of_ble_eq_true rfl) dX11_goes_35 rfl ?_
      rintro _ ν1 ⟨rfl, q1⟩
      show zX shR σ 6 MX11_goes 38 [(0, zr 0), (1, zi h), (2, zi (nI n))] [zi (pBehind ρ (rS 1 μ1) n), zi (nI n), zr 4] ν1 _
      rw [show pBehind ρ (rS 1 μ1) n = pBehind ρ (rS 1 μ) n from by rw [es1]]
      show zX shR σ 6 MX11_goes 38 [(0, zr 0), (1, zi h), (2, zi (nI n))] [zi (pBehind ρ (rS 1 μ) n), zi (nI n), zr 4] ν1 _
      refine zx_iast_n (j := n) (nn := 39) rfl (by omega) (by decide) dX11_goes_38 rfl ?_
      refine zx_iinc (k := 2) (v := nI (n + 1)) (lv' := [(2, zi (nI (n + 1))), (0, zr 0), (1, zi h)]) (nn := 42) dX11_goes_39 rfl (nI_1 n) (by decide) rfl rfl ?_
      refine zx_goto (tgt := 2) dX11_goes_42 (by decide) ?_
      refine zx_lv (lv' := [(0, zr 0), (1, zi h), (2, zi (nI (n + 1)))]) [1, 2, 0] rfl ?_
      exact ih2 (n + 1, zp ν1 4 n (pBehind ρ (rS 1 μ) n)) (show (n + 1) ≤ pL (rS 1 μ) ∧ zJ [4, 6] μ (zp ν1 4 n (pBehind ρ (rS 1 μ) n)) ∧ ∀ j, j < (n + 1) → (zp ν1 4 n (pBehind ρ (rS 1 μ) n)) 4 j = (pAims ρ (rS 1 μ) (h - 1)) (7 + 4 * j + 1) from ⟨by omega, (hr2.tr (q1.mono (by simp))).p (by decide), fun j hj => (Decidable.em (j = n)).elim (fun e => by subst e; rw [zp_eq, pk_us]; exact Eq.symm (by rw [pAims_at hlt, if_neg (fun q => h21 (act_h.mp q))])) (fun e => by rw [zp_eq, pk_un (by omega), q1 4 (by decide)]; exact hr3 j (by omega))⟩) (by show pL (rS 1 μ) - (n + 1) < pL (rS 1 μ) - n; omega)
    · refine zx_aload_n (k := 0) (nn := 25) dX11_goes_24 rfl rfl rfl ?_
      refine zx_iload_n (k := 2) (nn := 26) dX11_goes_25 rfl rfl rfl ?_
      refine zx_iconst (v := 1) (nn := 27) rfl dX11_goes_26 rfl ?_
      refine zx_callVf (nn := 30) (k := 0) (d' := 0) (as := [zi (nI n), zi 1]) (rest := [zi (nI n), zr 4]) (n := 2) (eX11_of_0 σ μ1 n 1  (by omega) (by decide)) kX11_of mlX11_88 rfl rfl rfl (by decide) rfl rfl (Nat.le_of_ble_eq_true rfl) dX11_goes_27 rfl ?_
      show zX shR σ 6 MX11_goes 30 [(0, zr 0), (1, zi h), (2, zi (nI n))] [zi (rS 1 μ1 (7 + 4 * n + 1)), zi (nI n), zr 4] μ1 _
      rw [show rS 1 μ1 (7 + 4 * n + 1) = (rS 1 μ) (7 + 4 * n + 1) from by rw [es1]]
      show zX shR σ 6 MX11_goes 30 [(0, zr 0), (1, zi h), (2, zi (nI n))] [zi ((rS 1 μ) (7 + 4 * n + 1)), zi (nI n), zr 4] μ1 _
      refine zx_goto (tgt := 38) dX11_goes_30 (by decide) ?_
      refine zx_iast_n (j := n) (nn := 39) rfl (by omega) (by decide) dX11_goes_38 rfl ?_
      refine zx_iinc (k := 2) (v := nI (n + 1)) (lv' := [(2, zi (nI (n + 1))), (0, zr 0), (1, zi h)]) (nn := 42) dX11_goes_39 rfl (nI_1 n) (by decide) rfl rfl ?_
      refine zx_goto (tgt := 2) dX11_goes_42 (by decide) ?_
      refine zx_lv (lv' := [(0, zr 0), (1, zi h), (2, zi (nI (n + 1)))]) [1, 2, 0] rfl ?_
      exact ih2 (n + 1, zp μ1 4 n ((rS 1 μ) (7 + 4 * n + 1))) (show (n + 1) ≤ pL (rS 1 μ) ∧ zJ [4, 6] μ (zp μ1 4 n ((rS 1 μ) (7 + 4 * n + 1))) ∧ ∀ j, j < (n + 1) → (zp μ1 4 n ((rS 1 μ) (7 + 4 * n + 1))) 4 j = (pAims ρ (rS 1 μ) (h - 1)) (7 + 4 * j + 1) from ⟨by omega, hr2.p (by decide), fun j hj => (Decidable.em (j = n)).elim (fun e => by subst e; rw [zp_eq, pk_us]; exact Eq.symm (by rw [pAims_at hlt, if_pos (act_h.mpr h21)])) (fun e => by rw [zp_eq, pk_un (by omega)]; exact hr3 j (by omega))⟩) (by show pL (rS 1 μ) - (n + 1) < pL (rS 1 μ) - n; omega)
