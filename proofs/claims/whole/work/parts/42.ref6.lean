theorem deep_ix {k : Nat} (h : k < 4) : ([10, 11, 12, 13, 14] : List Nat)[(nI k).toNatClampNeg]? = some (10 + k) := by
  rw [nI_clamp (by omega)]
  rcases (show k = 0 ∨ k = 1 ∨ k = 2 ∨ k = 3 by omega) with rfl | rfl | rfl | rfl <;> rfl
theorem eX11_saves_d (σ : zG) (μ : zM) (k : Nat) (h : k < 4) : zMet shR σ 0 MX11_saves yX11_saves [zr 0, zr (10 + k)] μ (fun rr μ' => rr = none ∧ zJ [10 + k] μ μ' ∧ rSav (μ 1) (μ' (10 + k))) := by
  rcases (show k = 0 ∨ k = 1 ∨ k = 2 ∨ k = 3 by omega) with rfl | rfl | rfl | rfl
  · exact eX11_saves_10 σ μ
  · exact eX11_saves_11 σ μ
  · exact eX11_saves_12 σ μ
  · exact eX11_saves_13 σ μ
theorem eX11_putsBack_d (σ : zG) (μ : zM) (k : Nat) (h : k < 4) : zMet shR σ 0 MX11_putsBack yX11_putsBack [zr 0, zr (10 + k)] μ (fun rr μ' => rr = none ∧ zJ [1] μ μ' ∧ μ' 1 = rPb (μ 1) (μ (10 + k))) := by
  rcases (show k = 0 ∨ k = 1 ∨ k = 2 ∨ k = 3 by omega) with rfl | rfl | rfl | rfl
  · exact eX11_putsBack_10 σ μ
  · exact eX11_putsBack_11 σ μ
  · exact eX11_putsBack_12 σ μ
  · exact eX11_putsBack_13 σ μ
theorem pAB_no {s : Nat → Int32} : pAB (pNo s) ↔ pAB s := by
  unfold pAB
  rw [pNo_n.2.2.1, pNo_n.2.1]
  have e : ∀ l, pNo s (7 + 4 * l + 1) = s (7 + 4 * l + 1) := fun l => pNo_ne (by omega)
  have e0 : ∀ b, pNo s (31 + b) = s (31 + b) := fun b => pNo_ne (by omega)
  simp only [e, e0]
def rJS : List Nat := [0, 4, 6, 10, 11, 12, 13, 15, 16]
def rFr (μ ν : zM) : Prop := ∀ j, j ≠ 20 → j ≠ 21 → j ≠ 22 → ν 0 j = μ 0 j
theorem rFr_rf {μ : zM} : rFr μ μ := fun _ _ _ _ => rfl
theorem rFr_tr {μ μ1 μ2 : zM} (h1 : rFr μ μ1) (h2 : rFr μ1 μ2) : rFr μ μ2 := fun j a b c => (h2 j a b c).trans (h1 j a b c)
theorem rFr_e {μ ν : zM} (h : ν 0 = μ 0) : rFr μ ν := fun j _ _ _ => by rw [h]
def rBr (μ : zM) (n : Nat) (B : pBT) : Prop := μ 0 20 = B.1 ∧ (B.1.toInt < 0 ∨ (μ 0 21 = nI B.2.1 ∧ μ 0 22 = nI n ∧ ∀ i, i < n → μ 16 i = B.2.2 i))
theorem rBr_e {μ ν : zM} {n : Nat} {B : pBT} (h0 : ν 0 = μ 0) (h1 : ν 16 = μ 16) (h : rBr μ n B) : rBr ν n B := by
  unfold rBr at *
  rw [h0, h1]
  exact h
theorem pSearch_p {ρ : pR} : ∀ (m k : Nat) (s : Nat → Int32) (sum : Int32) (acts : Nat → Int32) (B : pBT), k + m ≤ 4 → pOK s → m ≤ pB s - pb s → 0 ≤ sum.toInt → sum.toInt ≤ 60 * k → 0 ≤ (pSearch ρ m k s sum acts B).1.toInt
  | 0, _, _, sum, acts, B, _, _, _, hs, _ => by
    show 0 ≤ (pWeigh sum acts B).1.toInt
    unfold pWeigh
    by_cases q : B.1 < sum
    · rw [if_pos q]; exact hs
    · have e : ¬ B.1.toInt < sum.toInt := fun z => q (Int32.lt_iff_toInt_lt.mpr z)
      rw [if_neg q]
      split
      · show 0 ≤ B.1.toInt
        omega
      · omega
  | m + 1, k, s, sum, acts, B, hk, ok, hr, hs, hs2 => by
    have hb : pb s < pB s := by omega
    have hg := pGain_b (ρ := ρ) (h := nI (pL s) - 1) ok
    have e : (sum + pGain ρ s (nI (pL s) - 1)).toInt = sum.toInt + (pGain ρ s (nI (pL s) - 1)).toInt := by
      rw [Int32.toInt_add]
      exact Int.bmod_eq_of_le (by omega) (by omega)
    show 0 ≤ (pFoldB _ (pL s + 1) B).1.toInt
    exact pSearch_p m (k + 1) _ _ _ _ (by omega) (pNo_ok.mpr (pOK_go ok hb)) (by rw [pNo_n.1, pNo_n.2.1, pGo_b ok hb, pGo_B ok]; omega) (by omega) (by omega)
theorem pFoldG_new {mo : Bool} {f : Nat → Int32} {a : Nat} {v b : Int32} (hv : (a = 0 ∧ b = -1) ∨ (a ≠ 0 ∧ pFoldG mo f a = (v, b) ∧ ¬ b < 0)) (h : b < 0 ∨ (if mo = true then v < f a else f a < v)) : pFoldG mo f (a + 1) = (f a, nI a) := by
  rw [pFoldG_s]
  rcases hv with ⟨h0, _⟩ | ⟨h0, e, hb⟩
  · rw [if_pos (Or.inl h0)]
  · rw [if_pos (Or.inr (by rw [e]; exact h.elim (fun q => absurd q hb) id))]
theorem pFoldG_old {mo : Bool} {f : Nat → Int32} {a : Nat} {v b : Int32} (hv : (a = 0 ∧ b = -1) ∨ (a ≠ 0 ∧ pFoldG mo f a = (v, b) ∧ ¬ b < 0)) (h1 : ¬ b < 0) (h2 : ¬ (if mo = true then v < f a else f a < v)) : pFoldG mo f (a + 1) = (v, b) := by
  rw [pFoldG_s]
  rcases hv with ⟨_, e⟩ | ⟨h0, e, hb⟩
  · exact absurd (by rw [e]; decide) h1
  · rw [if_neg (fun q => q.elim h0 (fun z => h2 (by rw [e] at z; exact z))), e]
set_option maxHeartbeats 8000000 in
set_option maxRecDepth 100000 in
theorem eX11_plans (σ : zG) (ρ : pR) (n : Nat) (hn : n ≤ 4) : ∀ (m k : Nat), ∀ (μ : zM) (s : Nat → Int32) (sum : Int32) (acts : Nat → Int32) (B : pBT), k ≤ n → m = min (n - k) (pB s - pb s) → 0 ≤ sum.toInt → sum.toInt ≤ 60 * k → rRep ρ (μ 1) → pOK s → pAB s → pNo s = s → pNo (rS 1 μ) = s → rBr μ (k + m) B → (∀ i, i < k → μ 15 i = acts i) →
    zMet shR σ (7 + m) MX11_plans yX11_plans [zr 0, zi (nI k), zi (nI n), zi sum] μ (fun rr μ' => rr = none ∧ rBr μ' (k + m) (pSearch ρ m k s sum acts B) ∧ zJ rJS μ μ' ∧ rFr μ μ' ∧ (∀ i, i < k → μ' 15 i = μ 15 i) ∧ ∀ j, j < k → μ' (10 + j) = μ (10 + j)) := by
  intro m
  induction m with
  | zero =>
    intro k μ s sum acts B hkn hm hs0 hs60 hρ ok ab hss hs hB ha
    have okμ : pOK (rS 1 μ) := pNo_ok.mp (by rw [hs]; exact ok)
    have abμ : pAB (rS 1 μ) := pAB_no.mp (by rw [hs]; exact ab)
    have eμ : pb (rS 1 μ) = pb s ∧ pB (rS 1 μ) = pB s ∧ pL (rS 1 μ) = pL s := by rw [← hs]; exact ⟨pNo_n.1.symm, pNo_n.2.1.symm, pNo_n.2.2.1.symm⟩
    have hov := pOver_iff okμ
    rw [eμ.1, eμ.2.1] at hov
    have hB16 := (ok_B ok).2
    refine zmetF (by decide +kernel) rfl (Nat.le_of_ble_eq_true rfl) ?_
    show zX shR σ (7 + 0) MX11_plans 0 [(0, zr 0), (1, zi (nI k)), (2, zi (nI n)), (3, zi sum)] [] μ _
    refine zx_cut (pc' := 12) (lv' := [(0, zr 0), (1, zi (nI k)), (2, zi (nI n)), (3, zi sum)]) (st' := []) (μ' := μ) (fun J12 => ?_) ?_
    · refine zx_iload_n (k := 1) (nn := 1) dX11_plans_0 rfl rfl rfl ?_
      refine zx_iload_n (k := 2) (nn := 2) dX11_plans_1 rfl rfl rfl ?_
      refine zx_icmp_eq (tgt := 12) (nn := 5) dX11_plans_2 (by decide) rfl (fun h2 => ?_) (fun h2 => ?_)
      · exact J12
      · refine zx_aload_n (k := 0) (nn := 6) dX11_plans_5 rfl rfl rfl ?_
        refine zx_callVf (nn := 9) (k := 0) (d' := 0) (as := []) (rest := []) (n := 0) (eX11_isOver_0 σ μ   ) kX11_isOver mlX11_96 rfl rfl rfl (by omega) rfl rfl (Nat.le_of_ble_eq_true rfl) dX11_plans_6 rfl ?_
        show zX shR σ (7 + 0) MX11_plans 9 [(0, zr 0), (1, zi (nI k)), (2, zi (nI n)), (3, zi sum)] [zi (zb (pOver (rS 1 μ)))] μ _
        rw [show zb (pOver (rS 1 μ)) = zb (decide (pB s ≤ pb s)) from by rw [hov]]
        show zX shR σ (7 + 0) MX11_plans 9 [(0, zr 0), (1, zi (nI k)), (2, zi (nI n)), (3, zi sum)] [zi (zb (decide (pB s ≤ pb s)))] μ _
        refine zx_ifb_eq (tgt := 87) (nn := 12) dX11_plans_9 (by decide) rfl (fun h9 => ?_) (fun h9 => ?_)
        · exact absurd ((nI_eq (by omega) (by omega)).mpr (show k = n by have := of_decide_eq_false h9; omega)) h2
        · exact J12
    refine zx_iload_n (k := 3) (nn := 13) dX11_plans_12 rfl rfl rfl ?_
    refine zx_aload_n (k := 0) (nn := 14) dX11_plans_13 rfl rfl rfl ?_
    refine zx_getI (nn := 17) flX11_313 rfl rfl dX11_plans_14 rfl ?_
    refine zx_icmp_le (tgt := 64) (nn := 20) dX11_plans_17 (by decide) rfl (fun h17 => ?_) (fun h17 => ?_)
    · refine zx_aload_n (k := 0) (nn := 65) dX11_plans_64 rfl rfl rfl ?_
      refine zx_dupr (nn := 66) dX11_plans_65 rfl ?_
      refine zx_getI (nn := 69) flX11_316 rfl rfl dX11_plans_66 rfl ?_
      refine zx_iload_n (k := 3) (nn := 70) dX11_plans_69 rfl rfl rfl ?_
      refine zx_aload_n (k := 0) (nn := 71) dX11_plans_70 rfl rfl rfl ?_
      refine zx_getI (nn := 74) flX11_313 rfl rfl dX11_plans_71 rfl ?_
      refine zx_icmp_ne (tgt := 81) (nn := 77) dX11_plans_74 (by decide) rfl (fun h74 => ?_) (fun h74 => ?_)
      · refine zx_iconst (v := 0) (nn := 82) rfl dX11_plans_81 rfl ?_
        refine zx_iadd (nn := 83) dX11_plans_82 rfl ?_
        refine zx_putI (nn := 86) fpX11_316 rfl rfl rfl rfl dX11_plans_83 rfl ?_
        refine zx_vret rfl dX11_plans_86 ?_
        have hnl : ¬ B.1 < sum := by rw [← hB.1]; exact Int32.not_lt.mpr h17
        refine ⟨rfl, ?_, zJ.rf.p (by decide), fun j a b c => by rw [zp_eq, pk_un b], fun i hi => by rw [zp_ne (by decide)], fun j hj => by rw [zp_ne (by omega)]⟩
        show rBr _ _ (pWeigh sum acts B)
        unfold pWeigh
        rw [if_neg hnl, if_neg (fun q => h74 (q.trans hB.1.symm))]
        exact ⟨by rw [zp_eq, pk_un (by decide)]; exact hB.1, Or.elim hB.2 Or.inl (fun q => Or.inr ⟨by rw [zp_eq, pk_us, q.1]; exact Int32.add_zero _, by rw [zp_eq, pk_un (by decide)]; exact q.2.1, fun i hi => by rw [zp_ne (by decide)]; exact q.2.2 i hi⟩)⟩
      · refine zx_iconst (v := 1) (nn := 78) rfl dX11_plans_77 rfl ?_
        refine zx_goto (tgt := 82) dX11_plans_78 (by decide) ?_
        refine zx_iadd (nn := 83) dX11_plans_82 rfl ?_
        refine zx_putI (nn := 86) fpX11_316 rfl rfl rfl rfl dX11_plans_83 rfl ?_
        refine zx_vret rfl dX11_plans_86 ?_
        have hnl : ¬ B.1 < sum := by rw [← hB.1]; exact Int32.not_lt.mpr h17
        refine ⟨rfl, ?_, zJ.rf.p (by decide), fun j a b c => by rw [zp_eq, pk_un b], fun i hi => by rw [zp_ne (by decide)], fun j hj => by rw [zp_ne (by omega)]⟩
        show rBr _ _ (pWeigh sum acts B)
        unfold pWeigh
        rw [if_neg hnl, if_pos (h74.trans hB.1)]
        exact ⟨by rw [zp_eq, pk_un (by decide)]; exact hB.1, Or.elim hB.2 (fun z => absurd z (by rw [← hB.1, ← h74]; omega)) (fun q => Or.inr ⟨by rw [zp_eq, pk_us, q.1]; exact nI_1 _, by rw [zp_eq, pk_un (by decide)]; exact q.2.1, fun i hi => by rw [zp_ne (by decide)]; exact q.2.2 i hi⟩)⟩
    · refine zx_aload_n (k := 0) (nn := 21) dX11_plans_20 rfl rfl rfl ?_
      refine zx_iload_n (k := 3) (nn := 22) dX11_plans_21 rfl rfl rfl ?_
      refine zx_putI (nn := 25) fpX11_313 rfl rfl rfl rfl dX11_plans_22 rfl ?_
      refine zx_aload_n (k := 0) (nn := 26) dX11_plans_25 rfl rfl rfl ?_
      refine zx_iconst (v := 0) (nn := 27) rfl dX11_plans_26 rfl ?_
      refine zx_putI (nn := 30) fpX11_316 rfl rfl rfl rfl dX11_plans_27 rfl ?_
      refine zx_aload_n (k := 0) (nn := 31) dX11_plans_30 rfl rfl rfl ?_
      refine zx_iload_n (k := 1) (nn := 32) dX11_plans_31 rfl rfl rfl ?_
      refine zx_putI (nn := 35) fpX11_319 rfl rfl rfl rfl dX11_plans_32 rfl ?_
      refine zx_iconst (v := 0) (nn := 36) rfl dX11_plans_35 rfl ?_
      refine zx_istore (nn := 38) (lv' := [(4, zi 0), (0, zr 0), (1, zi (nI k)), (2, zi (nI n)), (3, zi sum)]) dX11_plans_36 (by decide) rfl rfl ?_
      refine zx_lv (lv' := [(0, zr 0), (1, zi (nI k)), (2, zi (nI n)), (3, zi sum), (4, zi 0)]) [1, 2, 3, 4, 0] rfl ?_
      refine zx_while (τ := Nat × zM) (fun t_ => k - t_.1) (fun t_ => t_.1 ≤ k ∧ zJ [0, 16] μ t_.2 ∧ rFr μ t_.2 ∧ t_.2 0 20 = sum ∧ t_.2 0 21 = 0 ∧ t_.2 0 22 = nI k ∧ ∀ j, j < t_.1 → t_.2 16 j = acts j) (fun t_ => [(0, zr 0), (1, zi (nI k)), (2, zi (nI n)), (3, zi sum), (4, zi (nI t_.1))]) (fun t_ => t_.2) (t0 := (0, zp (zp (zp μ 0 20 sum) 0 21 0) 0 22 (nI k))) (show 0 ≤ k ∧ zJ [0, 16] μ (zp (zp (zp μ 0 20 sum) 0 21 0) 0 22 (nI k)) ∧ rFr μ (zp (zp (zp μ 0 20 sum) 0 21 0) 0 22 (nI k)) ∧ (zp (zp (zp μ 0 20 sum) 0 21 0) 0 22 (nI k)) 0 20 = sum ∧ (zp (zp (zp μ 0 20 sum) 0 21 0) 0 22 (nI k)) 0 21 = 0 ∧ (zp (zp (zp μ 0 20 sum) 0 21 0) 0 22 (nI k)) 0 22 = nI k ∧ ∀ j, j < 0 → (zp (zp (zp μ 0 20 sum) 0 21 0) 0 22 (nI k)) 16 j = acts j from ⟨Nat.zero_le _, ((zJ.rf.p (by decide)).p (by decide)).p (by decide), fun j a b c => by simp only [zp_eq, pk_un a, pk_un b, pk_un c], by simp [zp, zu, upd], by simp [zp, zu, upd], by simp [zp, zu, upd], fun j h => absurd h (by omega)⟩) ?_
      rintro ⟨i, μ1⟩ hI ih38
      replace hI : i ≤ k ∧ zJ [0, 16] μ μ1 ∧ rFr μ μ1 ∧ μ1 0 20 = sum ∧ μ1 0 21 = 0 ∧ μ1 0 22 = nI k ∧ ∀ j, j < i → μ1 16 j = acts j := hI
      show zX shR σ (7 + 0) MX11_plans 38 [(0, zr 0), (1, zi (nI k)), (2, zi (nI n)), (3, zi sum), (4, zi (nI i))] [] μ1 _
      obtain ⟨z1, z2, z3, z4, z5, z6, z7⟩ := hI
      refine zx_iload (k := 4) (nn := 40) dX11_plans_38 rfl rfl ?_
      refine zx_iload_n (k := 1) (nn := 41) dX11_plans_40 rfl rfl rfl ?_
      refine zx_icmp_ge (tgt := 64) (nn := 44) dX11_plans_41 (by decide) rfl (fun h41 => ?_) (fun h41 => ?_)
      · refine zx_aload_n (k := 0) (nn := 65) dX11_plans_64 rfl rfl rfl ?_
        refine zx_dupr (nn := 66) dX11_plans_65 rfl ?_
        refine zx_getI (nn := 69) flX11_316 rfl rfl dX11_plans_66 rfl ?_
        refine zx_iload_n (k := 3) (nn := 70) dX11_plans_69 rfl rfl rfl ?_
        refine zx_aload_n (k := 0) (nn := 71) dX11_plans_70 rfl rfl rfl ?_
        refine zx_getI (nn := 74) flX11_313 rfl rfl dX11_plans_71 rfl ?_
        rw [show μ1 0 20 = sum from z4]
        show zX shR σ (7 + 0) MX11_plans 74 [(0, zr 0), (1, zi (nI k)), (2, zi (nI n)), (3, zi sum), (4, zi (nI i))] [zi sum, zi sum, zi (μ1 0 21), zr 0] μ1 _
        refine zx_icmp_ne (tgt := 81) (nn := 77) dX11_plans_74 (by decide) rfl (fun h74 => ?_) (fun h74 => ?_)
        · exact absurd rfl h74
        · refine zx_iconst (v := 1) (nn := 78) rfl dX11_plans_77 rfl ?_
          refine zx_goto (tgt := 82) dX11_plans_78 (by decide) ?_
          refine zx_iadd (nn := 83) dX11_plans_82 rfl ?_
          refine zx_putI (nn := 86) fpX11_316 rfl rfl rfl rfl dX11_plans_83 rfl ?_
          refine zx_vret rfl dX11_plans_86 ?_
          have hge := nI_le_le h41 (by omega)
          have hlt : B.1 < sum := by rw [← hB.1]; exact Int32.not_le.mp h17
          refine ⟨rfl, ?_, (z2.p (by decide)).mono (by simp [rJS]), rFr_tr z3 (fun j a b c => by rw [zp_eq, pk_un b]), fun i hi => by rw [zp_ne (by decide), z2 15 (by decide)], fun j hj => by rw [zp_ne (by omega), z2 _ (by simp; omega)]⟩
          show rBr _ _ (pWeigh sum acts B)
          unfold pWeigh
          rw [if_pos hlt]
          exact ⟨by rw [zp_eq, pk_un (by decide)]; exact z4, Or.inr ⟨by rw [zp_eq, pk_us, z5]; rfl, by rw [zp_eq, pk_un (by decide)]; exact z6, fun i hi => by rw [zp_ne (by decide)]; exact z7 i (by omega)⟩⟩
      · have hlti : i < k := nI_nle_lt h41 (by omega)
        refine zx_aload_n (k := 0) (nn := 45) dX11_plans_44 rfl rfl rfl ?_
        refine zx_getR (q := 16) (nn := 48) flX11_42 rfl rfl dX11_plans_45 rfl ?_
        refine zx_iload (k := 4) (nn := 50) dX11_plans_48 rfl rfl ?_
        refine zx_aload_n (k := 0) (nn := 51) dX11_plans_50 rfl rfl rfl ?_
        refine zx_getR (q := 15) (nn := 54) flX11_39 rfl rfl dX11_plans_51 rfl ?_
        refine zx_iload (k := 4) (nn := 56) dX11_plans_54 rfl rfl ?_
        refine zx_iald_n (j := i) (nn := 57) rfl (by omega) (by decide) dX11_plans_56 rfl ?_
        rw [show μ1 15 i = μ 15 i from by rw [z2 15 (by decide)]]
        show zX shR σ (7 + 0) MX11_plans 57 [(0, zr 0), (1, zi (nI k)), (2, zi (nI n)), (3, zi sum), (4, zi (nI i))] [zi (μ 15 i), zi (nI i), zr 16] μ1 _
        refine zx_iast_n (j := i) (nn := 58) rfl (by omega) (by decide) dX11_plans_57 rfl ?_
        refine zx_iinc (k := 4) (v := nI (i + 1)) (lv' := [(4, zi (nI (i + 1))), (0, zr 0), (1, zi (nI k)), (2, zi (nI n)), (3, zi sum)]) (nn := 61) dX11_plans_58 rfl (nI_1 i) (by decide) rfl rfl ?_
        refine zx_goto (tgt := 38) dX11_plans_61 (by decide) ?_
        refine zx_lv (lv' := [(0, zr 0), (1, zi (nI k)), (2, zi (nI n)), (3, zi sum), (4, zi (nI (i + 1)))]) [1, 2, 3, 4, 0] rfl ?_
        exact ih38 (i + 1, zp μ1 16 i (μ 15 i)) (show (i + 1) ≤ k ∧ zJ [0, 16] μ (zp μ1 16 i (μ 15 i)) ∧ rFr μ (zp μ1 16 i (μ 15 i)) ∧ (zp μ1 16 i (μ 15 i)) 0 20 = sum ∧ (zp μ1 16 i (μ 15 i)) 0 21 = 0 ∧ (zp μ1 16 i (μ 15 i)) 0 22 = nI k ∧ ∀ j, j < (i + 1) → (zp μ1 16 i (μ 15 i)) 16 j = acts j from ⟨by omega, z2.p (by decide), rFr_tr z3 (rFr_e (zp_ne (by decide))), by rw [zp_ne (by decide)]; exact z4, by rw [zp_ne (by decide)]; exact z5, by rw [zp_ne (by decide)]; exact z6, fun j hj => (Decidable.em (j = i)).elim (fun e => by subst e; rw [zp_eq, pk_us]; exact ha j (by omega)) (fun e => by rw [zp_eq, pk_un e]; exact z7 j (by omega))⟩) (by show k - (i + 1) < k - i; omega)
  | succ m ih =>
    intro k μ s sum acts B hkn hm hs0 hs60 hρ ok ab hss hs hB ha
    have hk4 : k < 4 := by omega
    have hL6 := (ok_L ok).2
    have hb : pb s < pB s := by omega
    have okμ : pOK (rS 1 μ) := pNo_ok.mp (by rw [hs]; exact ok)
    have abμ : pAB (rS 1 μ) := pAB_no.mp (by rw [hs]; exact ab)
    have eμ : pb (rS 1 μ) = pb s ∧ pB (rS 1 μ) = pB s ∧ pL (rS 1 μ) = pL s := by rw [← hs]; exact ⟨pNo_n.1.symm, pNo_n.2.1.symm, pNo_n.2.2.1.symm⟩
    have hov := pOver_iff okμ
    rw [eμ.1, eμ.2.1] at hov
    have hB16 := (ok_B ok).2
    refine zmetF (by decide +kernel) rfl (Nat.le_of_ble_eq_true rfl) ?_
    show zX shR σ (7 + (m + 1)) MX11_plans 0 [(0, zr 0), (1, zi (nI k)), (2, zi (nI n)), (3, zi sum)] [] μ _
    refine zx_iload_n (k := 1) (nn := 1) dX11_plans_0 rfl rfl rfl ?_
    refine zx_iload_n (k := 2) (nn := 2) dX11_plans_1 rfl rfl rfl ?_
    refine zx_icmp_eq (tgt := 12) (nn := 5) dX11_plans_2 (by decide) rfl (fun h2 => ?_) (fun h2 => ?_)
    · exact absurd ((nI_eq (by omega) (by omega)).mp h2) (by omega)
    · refine zx_aload_n (k := 0) (nn := 6) dX11_plans_5 rfl rfl rfl ?_
      refine zx_callVf (nn := 9) (k := 0) (d' := 0) (as := []) (rest := []) (n := 0) (eX11_isOver_0 σ μ   ) kX11_isOver mlX11_96 rfl rfl rfl (by omega) rfl rfl (Nat.le_of_ble_eq_true rfl) dX11_plans_6 rfl ?_
      show zX shR σ (7 + (m + 1)) MX11_plans 9 [(0, zr 0), (1, zi (nI k)), (2, zi (nI n)), (3, zi sum)] [zi (zb (pOver (rS 1 μ)))] μ _
      rw [show zb (pOver (rS 1 μ)) = zb (decide (pB s ≤ pb s)) from by rw [hov]]
      show zX shR σ (7 + (m + 1)) MX11_plans 9 [(0, zr 0), (1, zi (nI k)), (2, zi (nI n)), (3, zi sum)] [zi (zb (decide (pB s ≤ pb s)))] μ _
      refine zx_ifb_eq (tgt := 87) (nn := 12) dX11_plans_9 (by decide) rfl (fun h9 => ?_) (fun h9 => ?_)
      · refine zx_aload_n (k := 0) (nn := 88) dX11_plans_87 rfl rfl rfl ?_
        refine zx_aload_n (k := 0) (nn := 89) dX11_plans_88 rfl rfl rfl ?_
        refine zx_getR (q := 9) (nn := 92) flX11_36 rfl rfl dX11_plans_89 rfl ?_
        refine zx_iload_n (k := 1) (nn := 93) dX11_plans_92 rfl rfl rfl ?_
        refine zx_aald (q := 10 + k) (nn := 94) rfl (vp_in_nI (show k < 5 by omega) (by decide)) (deep_ix hk4) dX11_plans_93 rfl ?_
        refine zx_callV (nn := 97) (k := 0) (d' := 0) (as := [zr (10 + k)]) (rest := []) (n := 1) (eX11_saves_d σ μ k hk4) kX11_saves mlX11_292 rfl rfl rfl (by omega) rfl rfl (Nat.le_of_ble_eq_true rfl) dX11_plans_94 rfl ?_
        rintro _ ν1 ⟨rfl, q1⟩
        show zX shR σ (7 + (m + 1)) MX11_plans 97 [(0, zr 0), (1, zi (nI k)), (2, zi (nI n)), (3, zi sum)] [] ν1 _
        refine zx_iconst (v := 0) (nn := 98) rfl dX11_plans_97 rfl ?_
        refine zx_istore (nn := 100) (lv' := [(4, zi 0), (0, zr 0), (1, zi (nI k)), (2, zi (nI n)), (3, zi sum)]) dX11_plans_98 (by decide) rfl rfl ?_
        refine zx_lv (lv' := [(0, zr 0), (1, zi (nI k)), (2, zi (nI n)), (3, zi sum), (4, zi 0)]) [1, 2, 3, 4, 0] rfl ?_
        refine zx_while (τ := Nat × pBT × zM) (fun t_ => pL s + 1 - t_.1) (fun t_ => t_.1 ≤ pL s + 1 ∧ t_.2.1 = pFoldB (fun a_ B_ => pSearch ρ m (k + 1) (pNo (pGo ρ s (nI a_ - 1))) (sum + pGain ρ s (nI a_ - 1)) (upd acts k (nI a_)) B_) t_.1 B ∧ rBr t_.2.2 (k + (m + 1)) t_.2.1 ∧ zJ rJS μ t_.2.2 ∧ rFr μ t_.2.2 ∧ (∀ i, i < k → t_.2.2 15 i = μ 15 i) ∧ (∀ j, j < k → t_.2.2 (10 + j) = μ (10 + j)) ∧ rSav (μ 1) (t_.2.2 (10 + k))) (fun t_ => [(0, zr 0), (1, zi (nI k)), (2, zi (nI n)), (3, zi sum), (4, zi (nI t_.1))]) (fun t_ => t_.2.2) (t0 := (0, B, ν1)) (show 0 ≤ pL s + 1 ∧ B = pFoldB (fun a_ B_ => pSearch ρ m (k + 1) (pNo (pGo ρ s (nI a_ - 1))) (sum + pGain ρ s (nI a_ - 1)) (upd acts k (nI a_)) B_) 0 B ∧ rBr ν1 (k + (m + 1)) B ∧ zJ rJS μ ν1 ∧ rFr μ ν1 ∧ (∀ i, i < k → ν1 15 i = μ 15 i) ∧ (∀ j, j < k → ν1 (10 + j) = μ (10 + j)) ∧ rSav (μ 1) (ν1 (10 + k)) from ⟨Nat.zero_le _, rfl, rBr_e (q1.1 0 (by simp; omega)) (q1.1 16 (by simp; omega)) hB, q1.1.mono (by simp [rJS]; omega), rFr_e (q1.1 0 (by simp; omega)), fun i hi => by rw [q1.1 15 (by simp; omega)], fun j hj => q1.1 _ (by simp; omega), q1.2⟩) ?_
        rintro ⟨a, B1, μ1⟩ hI ih100
        replace hI : a ≤ pL s + 1 ∧ B1 = pFoldB (fun a_ B_ => pSearch ρ m (k + 1) (pNo (pGo ρ s (nI a_ - 1))) (sum + pGain ρ s (nI a_ - 1)) (upd acts k (nI a_)) B_) a B ∧ rBr μ1 (k + (m + 1)) B1 ∧ zJ rJS μ μ1 ∧ rFr μ μ1 ∧ (∀ i, i < k → μ1 15 i = μ 15 i) ∧ (∀ j, j < k → μ1 (10 + j) = μ (10 + j)) ∧ rSav (μ 1) (μ1 (10 + k)) := hI
        show zX shR σ (7 + (m + 1)) MX11_plans 100 [(0, zr 0), (1, zi (nI k)), (2, zi (nI n)), (3, zi sum), (4, zi (nI a))] [] μ1 _
        obtain ⟨v1, v2, v3, v4, v5, v6, v7, v8⟩ := hI
        have hL1 : μ1 1 0 = nI (pL s) := by rw [v4 1 (by decide), ← eμ.2.2]; exact (ok_L okμ).1
        refine zx_iload (k := 4) (nn := 102) dX11_plans_100 rfl rfl ?_
        refine zx_aload_n (k := 0) (nn := 103) dX11_plans_102 rfl rfl rfl ?_
        refine zx_getR (q := 1) (nn := 106) flX11_9 rfl rfl dX11_plans_103 rfl ?_
        refine zx_iconst (v := 0) (nn := 107) rfl dX11_plans_106 rfl ?_
        refine zx_iald_n (j := 0) (nn := 108) rfl (by omega) (by decide) dX11_plans_107 rfl ?_
        rw [show μ1 1 0 = nI (pL s) from hL1]
        show zX shR σ (7 + (m + 1)) MX11_plans 108 [(0, zr 0), (1, zi (nI k)), (2, zi (nI n)), (3, zi sum), (4, zi (nI a))] [zi (nI (pL s)), zi (nI a)] μ1 _
        refine zx_icmp_gt (tgt := 151) (nn := 111) dX11_plans_108 (by decide) rfl (fun h108 => ?_) (fun h108 => ?_)
        · refine zx_vret rfl dX11_plans_151 ?_
          have hge : pL s < a := (nI_ltI (by omega) (by omega)).mp h108
          refine ⟨rfl, ?_, v4, v5, v6, v7⟩
          rw [v2, show a = pL s + 1 by omega] at v3
          exact v3
        · have hlt : a ≤ pL s := (nI_leI (by omega) (by omega)).mp (Int32.not_lt.mp h108)
          refine zx_aload_n (k := 0) (nn := 112) dX11_plans_111 rfl rfl rfl ?_
          refine zx_getR (q := 15) (nn := 115) flX11_39 rfl rfl dX11_plans_112 rfl ?_
          refine zx_iload_n (k := 1) (nn := 116) dX11_plans_115 rfl rfl rfl ?_
          refine zx_iload (k := 4) (nn := 118) dX11_plans_116 rfl rfl ?_
          refine zx_iast_n (j := k) (nn := 119) rfl (by omega) (by decide) dX11_plans_118 rfl ?_
          have hM1 : (zp μ1 15 k (nI a)) 1 = μ 1 := by rw [zp_ne (by decide)]; exact v4 1 (by decide)
          have hsM : pNo (rS 1 (zp μ1 15 k (nI a))) = s := by rw [rS_eq (k := 1) hM1]; exact hs
          have okM : pOK (rS 1 (zp μ1 15 k (nI a))) := by rw [rS_eq (k := 1) hM1]; exact okμ
          have abM : pAB (rS 1 (zp μ1 15 k (nI a))) := by rw [rS_eq (k := 1) hM1]; exact abμ
          have eM : pb (rS 1 (zp μ1 15 k (nI a))) = pb s ∧ pB (rS 1 (zp μ1 15 k (nI a))) = pB s ∧ pL (rS 1 (zp μ1 15 k (nI a))) = pL s := by rw [rS_eq (k := 1) hM1]; exact eμ
          have hρM : rRep ρ ((zp μ1 15 k (nI a)) 1) := by rw [hM1]; exact hρ
          refine zx_aload_n (k := 0) (nn := 120) dX11_plans_119 rfl rfl rfl ?_
          refine zx_iload_n (k := 1) (nn := 121) dX11_plans_120 rfl rfl rfl ?_
          refine zx_iconst (v := 1) (nn := 122) rfl dX11_plans_121 rfl ?_
          refine zx_iadd (nn := 123) dX11_plans_122 rfl ?_
          rw [show (nI k) + 1 = nI (k + 1) from nI_1 k]
          show zX shR σ (7 + (m + 1)) MX11_plans 123 [(0, zr 0), (1, zi (nI k)), (2, zi (nI n)), (3, zi sum), (4, zi (nI a))] [zi (nI (k + 1)), zr 0] (zp μ1 15 k (nI a)) _
          refine zx_iload_n (k := 2) (nn := 124) dX11_plans_123 rfl rfl rfl ?_
          refine zx_iload_n (k := 3) (nn := 125) dX11_plans_124 rfl rfl rfl ?_
          refine zx_aload_n (k := 0) (nn := 126) dX11_plans_125 rfl rfl rfl ?_
          refine zx_iload (k := 4) (nn := 128) dX11_plans_126 rfl rfl ?_
          refine zx_callV (nn := 131) (k := 0) (d' := 6) (as := [zi (nI a)]) (rest := [zi sum, zi (nI n), zi (nI (k + 1)), zr 0]) (n := 1) (eX11_goes_0 σ (zp μ1 15 k (nI a)) (nI a) okM abM hρM (by rw [eM.1, eM.2.1]; exact hb)) kX11_goes mlX11_284 rfl rfl rfl (by omega) rfl rfl (Nat.le_of_ble_eq_true rfl) dX11_plans_128 rfl ?_
          rintro _ ν2 ⟨rfl, g1, g2, g3⟩
          show zX shR σ (7 + (m + 1)) MX11_plans 131 [(0, zr 0), (1, zi (nI k)), (2, zi (nI n)), (3, zi sum), (4, zi (nI a))] [zi (pGain ρ (rS 1 (zp μ1 15 k (nI a))) (nI a - 1)), zi sum, zi (nI n), zi (nI (k + 1)), zr 0] ν2 _
          have ng : pNo (rS 1 ν2) = pNo (pGo ρ s (nI a - 1)) := by rw [g1]; exact pGo_no okM (by rw [hsM, hss])
          have okg := pOK_go (ρ := ρ) (h := nI a - 1) ok hb
          have abg := pAB_go (ρ := ρ) (h := nI a - 1) ok ab
          have hgb := pGain_b (ρ := ρ) (h := nI a - 1) ok
          have eg : (sum + pGain ρ s (nI a - 1)).toInt = sum.toInt + (pGain ρ s (nI a - 1)).toInt := by rw [Int32.toInt_add]; exact Int.bmod_eq_of_le (by omega) (by omega)
          rw [show pGain ρ (rS 1 (zp μ1 15 k (nI a))) (nI a - 1) = pGain ρ s (nI a - 1) from by exact pGain_no okM (by rw [hsM, hss])]
          show zX shR σ (7 + (m + 1)) MX11_plans 131 [(0, zr 0), (1, zi (nI k)), (2, zi (nI n)), (3, zi sum), (4, zi (nI a))] [zi (pGain ρ s (nI a - 1)), zi sum, zi (nI n), zi (nI (k + 1)), zr 0] ν2 _
          refine zx_iadd (nn := 132) dX11_plans_131 rfl ?_
          refine zx_callV (nn := 135) (k := 0) (d' := 7 + m) (as := [zi (nI (k + 1)), zi (nI n), zi (sum + (pGain ρ s (nI a - 1)))]) (rest := []) (n := 3) (ih (k + 1) ν2 (pNo (pGo ρ s (nI a - 1))) (sum + pGain ρ s (nI a - 1)) (upd acts k (nI a)) B1 (by omega) (by rw [pNo_n.1, pNo_n.2.1, pGo_b ok hb, pGo_B ok]; omega) (by omega) (by omega) (rRep_K (rQ_K g2) hρM) (pNo_ok.mpr okg) (pAB_no.mpr abg) (pNo_no _) ng (by rw [show k + 1 + m = k + (m + 1) by omega]; exact rBr_e (by rw [g3 0 (by decide), zp_ne (by decide)]) (by rw [g3 16 (by decide), zp_ne (by decide)]) v3) (fun i hi => by rw [g3 15 (by decide), zp_eq]; unfold upd; by_cases q : i = k; rw [if_pos q, if_pos q]; rw [if_neg q, if_neg q, v6 i (by omega)]; exact ha i (by omega))) kX11_plans mlX11_322 rfl rfl rfl (by omega) rfl rfl (Nat.le_of_ble_eq_true rfl) dX11_plans_132 rfl ?_
          rintro _ ν3 ⟨rfl, r1, r2, r3, r4, r5⟩
          show zX shR σ (7 + (m + 1)) MX11_plans 135 [(0, zr 0), (1, zi (nI k)), (2, zi (nI n)), (3, zi sum), (4, zi (nI a))] [] ν3 _
          refine zx_aload_n (k := 0) (nn := 136) dX11_plans_135 rfl rfl rfl ?_
          refine zx_aload_n (k := 0) (nn := 137) dX11_plans_136 rfl rfl rfl ?_
          refine zx_getR (q := 9) (nn := 140) flX11_36 rfl rfl dX11_plans_137 rfl ?_
          refine zx_iload_n (k := 1) (nn := 141) dX11_plans_140 rfl rfl rfl ?_
          refine zx_aald (q := 10 + k) (nn := 142) rfl (vp_in_nI (show k < 5 by omega) (by decide)) (deep_ix hk4) dX11_plans_141 rfl ?_
          refine zx_callV (nn := 145) (k := 0) (d' := 0) (as := [zr (10 + k)]) (rest := []) (n := 1) (eX11_putsBack_d σ ν3 k hk4) kX11_putsBack mlX11_296 rfl rfl rfl (by omega) rfl rfl (Nat.le_of_ble_eq_true rfl) dX11_plans_142 rfl ?_
          rintro _ ν4 ⟨rfl, p1, p2⟩
          show zX shR σ (7 + (m + 1)) MX11_plans 145 [(0, zr 0), (1, zi (nI k)), (2, zi (nI n)), (3, zi sum), (4, zi (nI a))] [] ν4 _
          have erow : ν3 (10 + k) = μ1 (10 + k) := by rw [r5 k (by omega), g3 _ (by simp; omega), zp_ne (by omega)]
          have e1n : ν4 1 = μ 1 := by rw [p2, erow, r2 1 (by decide)]; exact rPb_eq v8 (rQ_tr (rQ_e (by rw [zp_ne (by decide)]; exact v4 1 (by decide))) g2)
          have hJn : zJ rJS μ ν4 := by
            intro q hq
            by_cases e : q = 1
            · rw [e, e1n]
            · rw [p1 q (by simp; exact e), r2 q hq, g3 q (by simp [rJS] at hq ⊢; omega), zp_ne (by simp [rJS] at hq; omega)]; exact v4 q hq
          refine zx_iinc (k := 4) (v := nI (a + 1)) (lv' := [(4, zi (nI (a + 1))), (0, zr 0), (1, zi (nI k)), (2, zi (nI n)), (3, zi sum)]) (nn := 148) dX11_plans_145 rfl (nI_1 a) (by decide) rfl rfl ?_
          refine zx_goto (tgt := 100) dX11_plans_148 (by decide) ?_
          refine zx_lv (lv' := [(0, zr 0), (1, zi (nI k)), (2, zi (nI n)), (3, zi sum), (4, zi (nI (a + 1)))]) [1, 2, 3, 4, 0] rfl ?_
          exact ih100 (a + 1, pSearch ρ m (k + 1) (pNo (pGo ρ s (nI a - 1))) (sum + pGain ρ s (nI a - 1)) (upd acts k (nI a)) B1, ν4) (show (a + 1) ≤ pL s + 1 ∧ (pSearch ρ m (k + 1) (pNo (pGo ρ s (nI a - 1))) (sum + pGain ρ s (nI a - 1)) (upd acts k (nI a)) B1) = pFoldB (fun a_ B_ => pSearch ρ m (k + 1) (pNo (pGo ρ s (nI a_ - 1))) (sum + pGain ρ s (nI a_ - 1)) (upd acts k (nI a_)) B_) (a + 1) B ∧ rBr ν4 (k + (m + 1)) (pSearch ρ m (k + 1) (pNo (pGo ρ s (nI a - 1))) (sum + pGain ρ s (nI a - 1)) (upd acts k (nI a)) B1) ∧ zJ rJS μ ν4 ∧ rFr μ ν4 ∧ (∀ i, i < k → ν4 15 i = μ 15 i) ∧ (∀ j, j < k → ν4 (10 + j) = μ (10 + j)) ∧ rSav (μ 1) (ν4 (10 + k)) from ⟨by omega, by rw [v2]; rfl, by rw [← show k + 1 + m = k + (m + 1) by omega]; exact rBr_e (p1 0 (by decide)) (p1 16 (by decide)) r1, hJn, rFr_tr v5 (rFr_tr (rFr_e (zp_ne (by decide))) (rFr_tr (rFr_e (g3 0 (by decide))) (rFr_tr r3 (rFr_e (p1 0 (by decide)))))), fun i hi => by rw [p1 15 (by decide), r4 i (by omega), g3 15 (by decide), zp_eq, pk_un (by omega)]; exact v6 i hi, fun j hj => by rw [p1 _ (by simp; omega), r5 j (by omega), g3 _ (by simp; omega), zp_ne (by omega)]; exact v7 j hj, by rw [p1 _ (by simp; omega), erow]; exact v8⟩) (by show pL s + 1 - (a + 1) < pL s + 1 - a; omega)
      · exact absurd (of_decide_eq_true h9) (by omega)
set_option maxHeartbeats 8000000 in
set_option maxRecDepth 100000 in
theorem eX11_valueOf (σ : zG) (ρ : pR) (n : Nat) (hn : n ≤ 4) : ∀ (m k : Nat), ∀ (μ : zM) (s : Nat → Int32), k ≤ n → m = min (n - k) (pB s - pb s) → rRep ρ (μ 1) → pOK s → pAB s → pNo s = s → pNo (rS 1 μ) = s →
    zMet shR σ (7 + m) MX11_valueOf yX11_valueOf [zr 0, zi (nI k), zi (nI n)] μ (fun rr μ' => rr = some (zi (pGame ρ m k s).1) ∧ zJ [0, 4, 6, 10, 11, 12, 13] μ μ' ∧ (∀ j, j ≠ 23 → μ' 0 j = μ 0 j) ∧ (m ≠ 0 → μ' 0 23 = (pGame ρ m k s).2) ∧ ∀ j, j < k → μ' (10 + j) = μ (10 + j)) := by
  intro m
  induction m with
  | zero =>
    intro k μ s hkn hm hρ ok ab hss hs
    have okμ : pOK (rS 1 μ) := pNo_ok.mp (by rw [hs]; exact ok)
    have abμ : pAB (rS 1 μ) := pAB_no.mp (by rw [hs]; exact ab)
    have eμ : pb (rS 1 μ) = pb s ∧ pB (rS 1 μ) = pB s ∧ pL (rS 1 μ) = pL s := by rw [← hs]; exact ⟨pNo_n.1.symm, pNo_n.2.1.symm, pNo_n.2.2.1.symm⟩
    have hov := pOver_iff okμ
    rw [eμ.1, eμ.2.1] at hov
    have hB16 := (ok_B ok).2
    refine zmetF (by decide +kernel) rfl (Nat.le_of_ble_eq_true rfl) ?_
    show zX shR σ (7 + 0) MX11_valueOf 0 [(0, zr 0), (1, zi (nI k)), (2, zi (nI n))] [] μ _
    refine zx_iload_n (k := 1) (nn := 1) dX11_valueOf_0 rfl rfl rfl ?_
    refine zx_iload_n (k := 2) (nn := 2) dX11_valueOf_1 rfl rfl rfl ?_
    refine zx_icmp_eq (tgt := 12) (nn := 5) dX11_valueOf_2 (by decide) rfl (fun h2 => ?_) (fun h2 => ?_)
    · refine zx_iconst (v := 0) (nn := 13) rfl dX11_valueOf_12 rfl ?_
      refine zx_iret rfl dX11_valueOf_13 ?_
      exact ⟨rfl, zJ.rf, fun _ _ => rfl, fun h => absurd rfl h, fun _ _ => rfl⟩
    · refine zx_aload_n (k := 0) (nn := 6) dX11_valueOf_5 rfl rfl rfl ?_
      refine zx_callVf (nn := 9) (k := 0) (d' := 0) (as := []) (rest := []) (n := 0) (eX11_isOver_0 σ μ   ) kX11_isOver mlX11_96 rfl rfl rfl (by omega) rfl rfl (Nat.le_of_ble_eq_true rfl) dX11_valueOf_6 rfl ?_
      show zX shR σ (7 + 0) MX11_valueOf 9 [(0, zr 0), (1, zi (nI k)), (2, zi (nI n))] [zi (zb (pOver (rS 1 μ)))] μ _
      rw [show zb (pOver (rS 1 μ)) = zb (decide (pB s ≤ pb s)) from by rw [hov]]
      show zX shR σ (7 + 0) MX11_valueOf 9 [(0, zr 0), (1, zi (nI k)), (2, zi (nI n))] [zi (zb (decide (pB s ≤ pb s)))] μ _
      refine zx_ifb_eq (tgt := 14) (nn := 12) dX11_valueOf_9 (by decide) rfl (fun h9 => ?_) (fun h9 => ?_)
      · exact absurd ((nI_eq (by omega) (by omega)).mpr (show k = n by have := of_decide_eq_false h9; omega)) h2
      · refine zx_iconst (v := 0) (nn := 13) rfl dX11_valueOf_12 rfl ?_
        refine zx_iret rfl dX11_valueOf_13 ?_
        exact ⟨rfl, zJ.rf, fun _ _ => rfl, fun h => absurd rfl h, fun _ _ => rfl⟩
  | succ m ih =>
    intro k μ s hkn hm hρ ok ab hss hs
    have hk4 : k < 4 := by omega
    have hL6 := (ok_L ok).2
    have hb : pb s < pB s := by omega
    have okμ : pOK (rS 1 μ) := pNo_ok.mp (by rw [hs]; exact ok)
    have abμ : pAB (rS 1 μ) := pAB_no.mp (by rw [hs]; exact ab)
    have eμ : pb (rS 1 μ) = pb s ∧ pB (rS 1 μ) = pB s ∧ pL (rS 1 μ) = pL s := by rw [← hs]; exact ⟨pNo_n.1.symm, pNo_n.2.1.symm, pNo_n.2.2.1.symm⟩
    have hov := pOver_iff okμ
    rw [eμ.1, eμ.2.1] at hov
    have hB16 := (ok_B ok).2
    refine zmetF (by decide +kernel) rfl (Nat.le_of_ble_eq_true rfl) ?_
    show zX shR σ (7 + (m + 1)) MX11_valueOf 0 [(0, zr 0), (1, zi (nI k)), (2, zi (nI n))] [] μ _
    refine zx_iload_n (k := 1) (nn := 1) dX11_valueOf_0 rfl rfl rfl ?_
    refine zx_iload_n (k := 2) (nn := 2) dX11_valueOf_1 rfl rfl rfl ?_
    refine zx_icmp_eq (tgt := 12) (nn := 5) dX11_valueOf_2 (by decide) rfl (fun h2 => ?_) (fun h2 => ?_)
    · exact absurd ((nI_eq (by omega) (by omega)).mp h2) (by omega)
    · refine zx_aload_n (k := 0) (nn := 6) dX11_valueOf_5 rfl rfl rfl ?_
      refine zx_callVf (nn := 9) (k := 0) (d' := 0) (as := []) (rest := []) (n := 0) (eX11_isOver_0 σ μ   ) kX11_isOver mlX11_96 rfl rfl rfl (by omega) rfl rfl (Nat.le_of_ble_eq_true rfl) dX11_valueOf_6 rfl ?_
      show zX shR σ (7 + (m + 1)) MX11_valueOf 9 [(0, zr 0), (1, zi (nI k)), (2, zi (nI n))] [zi (zb (pOver (rS 1 μ)))] μ _
      rw [show zb (pOver (rS 1 μ)) = zb (decide (pB s ≤ pb s)) from by rw [hov]]
      show zX shR σ (7 + (m + 1)) MX11_valueOf 9 [(0, zr 0), (1, zi (nI k)), (2, zi (nI n))] [zi (zb (decide (pB s ≤ pb s)))] μ _
      refine zx_ifb_eq (tgt := 14) (nn := 12) dX11_valueOf_9 (by decide) rfl (fun h9 => ?_) (fun h9 => ?_)
      · refine zx_aload_n (k := 0) (nn := 15) dX11_valueOf_14 rfl rfl rfl ?_
        refine zx_aload_n (k := 0) (nn := 16) dX11_valueOf_15 rfl rfl rfl ?_
        refine zx_getR (q := 9) (nn := 19) flX11_36 rfl rfl dX11_valueOf_16 rfl ?_
        refine zx_iload_n (k := 1) (nn := 20) dX11_valueOf_19 rfl rfl rfl ?_
        refine zx_aald (q := 10 + k) (nn := 21) rfl (vp_in_nI (show k < 5 by omega) (by decide)) (deep_ix hk4) dX11_valueOf_20 rfl ?_
        refine zx_callV (nn := 24) (k := 0) (d' := 0) (as := [zr (10 + k)]) (rest := []) (n := 1) (eX11_saves_d σ μ k hk4) kX11_saves mlX11_292 rfl rfl rfl (by omega) rfl rfl (Nat.le_of_ble_eq_true rfl) dX11_valueOf_21 rfl ?_
        rintro _ ν1 ⟨rfl, q1⟩
        show zX shR σ (7 + (m + 1)) MX11_valueOf 24 [(0, zr 0), (1, zi (nI k)), (2, zi (nI n))] [] ν1 _
        refine zx_iconst (v := 0) (nn := 25) rfl dX11_valueOf_24 rfl ?_
        refine zx_istore_n (nn := 26) (lv' := [(3, zi 0), (0, zr 0), (1, zi (nI k)), (2, zi (nI n))]) dX11_valueOf_25 rfl (by decide) rfl rfl ?_
        refine zx_iconst (v := -1) (nn := 27) rfl dX11_valueOf_26 rfl ?_
        refine zx_istore (nn := 29) (lv' := [(4, zi (-1)), (3, zi 0), (0, zr 0), (1, zi (nI k)), (2, zi (nI n))]) dX11_valueOf_27 (by decide) rfl rfl ?_
        refine zx_iconst (v := 0) (nn := 30) rfl dX11_valueOf_29 rfl ?_
        refine zx_istore (nn := 32) (lv' := [(5, zi 0), (4, zi (-1)), (3, zi 0), (0, zr 0), (1, zi (nI k)), (2, zi (nI n))]) dX11_valueOf_30 (by decide) rfl rfl ?_
        refine zx_lv (lv' := [(0, zr 0), (1, zi (nI k)), (2, zi (nI n)), (3, zi 0), (4, zi (-1)), (5, zi 0)]) [3, 4, 5, 2, 1, 0] rfl ?_
        refine zx_while (τ := Nat × Int32 × Int32 × zM) (fun t_ => pL s + 1 - t_.1) (fun t_ => t_.1 ≤ pL s + 1 ∧ ((t_.1 = 0 ∧ t_.2.2.1 = -1) ∨ (t_.1 ≠ 0 ∧ pFoldG (decide (k % 2 = 0)) (fun a_ => pGain ρ s (nI a_ - 1) + (pGame ρ m (k + 1) (pNo (pGo ρ s (nI a_ - 1)))).1) t_.1 = (t_.2.1, t_.2.2.1) ∧ ¬ t_.2.2.1 < 0)) ∧ zJ [0, 4, 6, 10, 11, 12, 13] μ t_.2.2.2 ∧ (∀ j, j ≠ 23 → t_.2.2.2 0 j = μ 0 j) ∧ (∀ j, j < k → t_.2.2.2 (10 + j) = μ (10 + j)) ∧ rSav (μ 1) (t_.2.2.2 (10 + k))) (fun t_ => [(0, zr 0), (1, zi (nI k)), (2, zi (nI n)), (3, zi t_.2.1), (4, zi t_.2.2.1), (5, zi (nI t_.1))]) (fun t_ => t_.2.2.2) (t0 := (0, 0, -1, ν1)) (show 0 ≤ pL s + 1 ∧ ((0 = 0 ∧ (-1) = -1) ∨ (0 ≠ 0 ∧ pFoldG (decide (k % 2 = 0)) (fun a_ => pGain ρ s (nI a_ - 1) + (pGame ρ m (k + 1) (pNo (pGo ρ s (nI a_ - 1)))).1) 0 = (0, (-1)) ∧ ¬ (-1) < 0)) ∧ zJ [0, 4, 6, 10, 11, 12, 13] μ ν1 ∧ (∀ j, j ≠ 23 → ν1 0 j = μ 0 j) ∧ (∀ j, j < k → ν1 (10 + j) = μ (10 + j)) ∧ rSav (μ 1) (ν1 (10 + k)) from ⟨Nat.zero_le _, Or.inl ⟨rfl, rfl⟩, q1.1.mono (by simp; omega), fun j hj => by rw [q1.1 0 (by simp; omega)], fun j hj => q1.1 _ (by simp; omega), q1.2⟩) ?_
        rintro ⟨a, v, b, μ1⟩ hI ih32
        replace hI : a ≤ pL s + 1 ∧ ((a = 0 ∧ b = -1) ∨ (a ≠ 0 ∧ pFoldG (decide (k % 2 = 0)) (fun a_ => pGain ρ s (nI a_ - 1) + (pGame ρ m (k + 1) (pNo (pGo ρ s (nI a_ - 1)))).1) a = (v, b) ∧ ¬ b < 0)) ∧ zJ [0, 4, 6, 10, 11, 12, 13] μ μ1 ∧ (∀ j, j ≠ 23 → μ1 0 j = μ 0 j) ∧ (∀ j, j < k → μ1 (10 + j) = μ (10 + j)) ∧ rSav (μ 1) (μ1 (10 + k)) := hI
        show zX shR σ (7 + (m + 1)) MX11_valueOf 32 [(0, zr 0), (1, zi (nI k)), (2, zi (nI n)), (3, zi v), (4, zi b), (5, zi (nI a))] [] μ1 _
        obtain ⟨v1, v2, v4, v5, v7, v8⟩ := hI
        have hL1 : μ1 1 0 = nI (pL s) := by rw [v4 1 (by decide), ← eμ.2.2]; exact (ok_L okμ).1
        refine zx_iload (k := 5) (nn := 34) dX11_valueOf_32 rfl rfl ?_
        refine zx_aload_n (k := 0) (nn := 35) dX11_valueOf_34 rfl rfl rfl ?_
        refine zx_getR (q := 1) (nn := 38) flX11_9 rfl rfl dX11_valueOf_35 rfl ?_
        refine zx_iconst (v := 0) (nn := 39) rfl dX11_valueOf_38 rfl ?_
        refine zx_iald_n (j := 0) (nn := 40) rfl (by omega) (by decide) dX11_valueOf_39 rfl ?_
        rw [show μ1 1 0 = nI (pL s) from hL1]
        show zX shR σ (7 + (m + 1)) MX11_valueOf 40 [(0, zr 0), (1, zi (nI k)), (2, zi (nI n)), (3, zi v), (4, zi b), (5, zi (nI a))] [zi (nI (pL s)), zi (nI a)] μ1 _
        refine zx_icmp_gt (tgt := 113) (nn := 43) dX11_valueOf_40 (by decide) rfl (fun h40 => ?_) (fun h40 => ?_)
        · refine zx_aload_n (k := 0) (nn := 114) dX11_valueOf_113 rfl rfl rfl ?_
          refine zx_iload (k := 4) (nn := 116) dX11_valueOf_114 rfl rfl ?_
          refine zx_putI (nn := 119) fpX11_337 rfl rfl rfl rfl dX11_valueOf_116 rfl ?_
          refine zx_iload_n (k := 3) (nn := 120) dX11_valueOf_119 rfl rfl rfl ?_
          refine zx_iret rfl dX11_valueOf_120 ?_
          have hge : pL s < a := (nI_ltI (by omega) (by omega)).mp h40
          have hv : pFoldG (decide (k % 2 = 0)) (fun a_ => pGain ρ s (nI a_ - 1) + (pGame ρ m (k + 1) (pNo (pGo ρ s (nI a_ - 1)))).1) (pL s + 1) = (v, b) := by
            rcases v2 with ⟨e, _⟩ | ⟨_, e, _⟩
            · omega
            · rw [show pL s + 1 = a by omega]; exact e
          have hg : pGame ρ (m + 1) k s = (v, b) := hv
          rw [hg]
          exact ⟨rfl, v4.p (by decide), fun j hj => by rw [zp_eq, pk_un hj]; exact v5 j hj, fun _ => by rw [zp_eq, pk_us], fun j hj => by rw [zp_ne (by omega)]; exact v7 j hj⟩
        · have hlt : a ≤ pL s := (nI_leI (by omega) (by omega)).mp (Int32.not_lt.mp h40)
          have hM1 : μ1 1 = μ 1 := v4 1 (by decide)
          have hsM : pNo (rS 1 μ1) = s := by rw [rS_eq (k := 1) hM1]; exact hs
          have okM : pOK (rS 1 μ1) := by rw [rS_eq (k := 1) hM1]; exact okμ
          have abM : pAB (rS 1 μ1) := by rw [rS_eq (k := 1) hM1]; exact abμ
          have eM : pb (rS 1 μ1) = pb s ∧ pB (rS 1 μ1) = pB s ∧ pL (rS 1 μ1) = pL s := by rw [rS_eq (k := 1) hM1]; exact eμ
          have hρM : rRep ρ (μ1 1) := by rw [hM1]; exact hρ
          refine zx_aload_n (k := 0) (nn := 44) dX11_valueOf_43 rfl rfl rfl ?_
          refine zx_iload (k := 5) (nn := 46) dX11_valueOf_44 rfl rfl ?_
          refine zx_callV (nn := 49) (k := 0) (d' := 6) (as := [zi (nI a)]) (rest := []) (n := 1) (eX11_goes_0 σ μ1 (nI a) okM abM hρM (by rw [eM.1, eM.2.1]; exact hb)) kX11_goes mlX11_284 rfl rfl rfl (by omega) rfl rfl (Nat.le_of_ble_eq_true rfl) dX11_valueOf_46 rfl ?_
          rintro _ ν2 ⟨rfl, g1, g2, g3⟩
          show zX shR σ (7 + (m + 1)) MX11_valueOf 49 [(0, zr 0), (1, zi (nI k)), (2, zi (nI n)), (3, zi v), (4, zi b), (5, zi (nI a))] [zi (pGain ρ (rS 1 μ1) (nI a - 1))] ν2 _
          have ng : pNo (rS 1 ν2) = pNo (pGo ρ s (nI a - 1)) := by rw [g1]; exact pGo_no okM (by rw [hsM, hss])
          have okg := pOK_go (ρ := ρ) (h := nI a - 1) ok hb
          have abg := pAB_go (ρ := ρ) (h := nI a - 1) ok ab
          rw [show pGain ρ (rS 1 μ1) (nI a - 1) = pGain ρ s (nI a - 1) from by exact pGain_no okM (by rw [hsM, hss])]
          show zX shR σ (7 + (m + 1)) MX11_valueOf 49 [(0, zr 0), (1, zi (nI k)), (2, zi (nI n)), (3, zi v), (4, zi b), (5, zi (nI a))] [zi (pGain ρ s (nI a - 1))] ν2 _
          refine zx_istore (nn := 51) (lv' := [(6, zi (pGain ρ s (nI a - 1))), (0, zr 0), (1, zi (nI k)), (2, zi (nI n)), (3, zi v), (4, zi b), (5, zi (nI a))]) dX11_valueOf_49 (by decide) rfl rfl ?_
          refine zx_iload (k := 0) (nn := 53) dX11_valueOf_51 rfl rfl ?_
          refine zx_aload_n (k := 1) (nn := 54) dX11_valueOf_53 rfl rfl rfl ?_
          refine zx_iload_n (k := 2) (nn := 55) dX11_valueOf_54 rfl rfl rfl ?_
          refine zx_iconst (v := 1) (nn := 56) rfl dX11_valueOf_55 rfl ?_
          refine zx_iadd (nn := 57) dX11_valueOf_56 rfl ?_
          rw [show (nI k) + 1 = nI (k + 1) from nI_1 k]
          show zX shR σ (7 + (m + 1)) MX11_valueOf 57 [(6, zi (pGain ρ s (nI a - 1))), (0, zr 0), (1, zi (nI k)), (2, zi (nI n)), (3, zi v), (4, zi b), (5, zi (nI a))] [zi (nI (k + 1)), zr 0, zi (pGain ρ s (nI a - 1))] ν2 _
          refine zx_iload_n (k := 3) (nn := 58) dX11_valueOf_57 rfl rfl rfl ?_
          refine zx_callV (nn := 61) (k := 0) (d' := 7 + m) (as := [zi (nI (k + 1)), zi (nI n)]) (rest := [zi (pGain ρ s (nI a - 1))]) (n := 2) (ih (k + 1) ν2 (pNo (pGo ρ s (nI a - 1))) (by omega) (by rw [pNo_n.1, pNo_n.2.1, pGo_b ok hb, pGo_B ok]; omega) (rRep_K (rQ_K g2) hρM) (pNo_ok.mpr okg) (pAB_no.mpr abg) (pNo_no _) ng) kX11_valueOf mlX11_334 rfl rfl rfl (by omega) rfl rfl (Nat.le_of_ble_eq_true rfl) dX11_valueOf_58 rfl ?_
          rintro _ ν3 ⟨rfl, r2, r3, r4, r5⟩
          show zX shR σ (7 + (m + 1)) MX11_valueOf 61 [(6, zi (pGain ρ s (nI a - 1))), (0, zr 0), (1, zi (nI k)), (2, zi (nI n)), (3, zi v), (4, zi b), (5, zi (nI a))] [zi ((pGame ρ m (k + 1) (pNo (pGo ρ s (nI a - 1)))).1), zi (pGain ρ s (nI a - 1))] ν3 _
          refine zx_iadd (nn := 62) dX11_valueOf_61 rfl ?_
          refine zx_istore (nn := 64) (lv' := [(7, zi ((pGain ρ s (nI a - 1)) + ((pGame ρ m (k + 1) (pNo (pGo ρ s (nI a - 1)))).1))), (6, zi (pGain ρ s (nI a - 1))), (0, zr 0), (1, zi (nI k)), (2, zi (nI n)), (3, zi v), (4, zi b), (5, zi (nI a))]) dX11_valueOf_62 (by decide) rfl rfl ?_
          refine zx_aload_n (k := 2) (nn := 65) dX11_valueOf_64 rfl rfl rfl ?_
          refine zx_aload_n (k := 2) (nn := 66) dX11_valueOf_65 rfl rfl rfl ?_
          refine zx_getR (q := 9) (nn := 69) flX11_36 rfl rfl dX11_valueOf_66 rfl ?_
          refine zx_iload_n (k := 3) (nn := 70) dX11_valueOf_69 rfl rfl rfl ?_
          refine zx_aald (q := 10 + k) (nn := 71) rfl (vp_in_nI (show k < 5 by omega) (by decide)) (deep_ix hk4) dX11_valueOf_70 rfl ?_
          refine zx_callV (nn := 74) (k := 0) (d' := 0) (as := [zr (10 + k)]) (rest := []) (n := 1) (eX11_putsBack_d σ ν3 k hk4) kX11_putsBack mlX11_296 rfl rfl rfl (by omega) rfl rfl (Nat.le_of_ble_eq_true rfl) dX11_valueOf_71 rfl ?_
          rintro _ ν4 ⟨rfl, p1, p2⟩
          show zX shR σ (7 + (m + 1)) MX11_valueOf 74 [(7, zi ((pGain ρ s (nI a - 1)) + ((pGame ρ m (k + 1) (pNo (pGo ρ s (nI a - 1)))).1))), (6, zi (pGain ρ s (nI a - 1))), (0, zr 0), (1, zi (nI k)), (2, zi (nI n)), (3, zi v), (4, zi b), (5, zi (nI a))] [] ν4 _
          have erow : ν3 (10 + k) = μ1 (10 + k) := by rw [r5 k (by omega), g3 _ (by simp; omega)]
          have e1n : ν4 1 = μ 1 := by rw [p2, erow, r2 1 (by decide)]; exact rPb_eq v8 (rQ_tr (rQ_e (v4 1 (by decide))) g2)
          have hJn : zJ [0, 4, 6, 10, 11, 12, 13] μ ν4 := by
            intro q hq
            by_cases e : q = 1
            · rw [e, e1n]
            · rw [p1 q (by simp; exact e), r2 q hq, g3 q (by simp at hq ⊢; omega)]; exact v4 q hq
          refine zx_iload (k := 6) (nn := 76) dX11_valueOf_74 rfl rfl ?_
          refine zx_if_lt (tgt := 100) (nn := 79) dX11_valueOf_76 (by decide) rfl (fun h76 => ?_) (fun h76 => ?_)
          · refine zx_iload (k := 0) (nn := 102) dX11_valueOf_100 rfl rfl ?_
            refine zx_istore_n (nn := 103) (lv' := [(3, zi ((pGain ρ s (nI a - 1)) + ((pGame ρ m (k + 1) (pNo (pGo ρ s (nI a - 1)))).1))), (7, zi ((pGain ρ s (nI a - 1)) + ((pGame ρ m (k + 1) (pNo (pGo ρ s (nI a - 1)))).1))), (6, zi (pGain ρ s (nI a - 1))), (0, zr 0), (1, zi (nI k)), (2, zi (nI n)), (4, zi b), (5, zi (nI a))]) dX11_valueOf_102 rfl (by decide) rfl rfl ?_
            refine zx_iload (k := 7) (nn := 105) dX11_valueOf_103 rfl rfl ?_
            refine zx_istore (nn := 107) (lv' := [(4, zi (nI a)), (3, zi ((pGain ρ s (nI a - 1)) + ((pGame ρ m (k + 1) (pNo (pGo ρ s (nI a - 1)))).1))), (7, zi ((pGain ρ s (nI a - 1)) + ((pGame ρ m (k + 1) (pNo (pGo ρ s (nI a - 1)))).1))), (6, zi (pGain ρ s (nI a - 1))), (0, zr 0), (1, zi (nI k)), (2, zi (nI n)), (5, zi (nI a))]) dX11_valueOf_105 (by decide) rfl rfl ?_
            refine zx_iinc (k := 7) (v := nI (a + 1)) (lv' := [(5, zi (nI (a + 1))), (4, zi (nI a)), (3, zi ((pGain ρ s (nI a - 1)) + ((pGame ρ m (k + 1) (pNo (pGo ρ s (nI a - 1)))).1))), (7, zi ((pGain ρ s (nI a - 1)) + ((pGame ρ m (k + 1) (pNo (pGo ρ s (nI a - 1)))).1))), (6, zi (pGain ρ s (nI a - 1))), (0, zr 0), (1, zi (nI k)), (2, zi (nI n))]) (nn := 110) dX11_valueOf_107 rfl (nI_1 a) (by decide) rfl rfl ?_
            refine zx_goto (tgt := 32) dX11_valueOf_110 (by decide) ?_
            refine zx_lv (lv' := [(0, zr 0), (1, zi (nI k)), (2, zi (nI n)), (3, zi ((pGain ρ s (nI a - 1)) + ((pGame ρ m (k + 1) (pNo (pGo ρ s (nI a - 1)))).1))), (4, zi (nI a)), (5, zi (nI (a + 1)))]) [5, 6, 7, 2, 1, 0] rfl ?_
            exact ih32 (a + 1, (pGain ρ s (nI a - 1) + (pGame ρ m (k + 1) (pNo (pGo ρ s (nI a - 1)))).1), nI a, ν4) (show (a + 1) ≤ pL s + 1 ∧ (((a + 1) = 0 ∧ (nI a) = -1) ∨ ((a + 1) ≠ 0 ∧ pFoldG (decide (k % 2 = 0)) (fun a_ => pGain ρ s (nI a_ - 1) + (pGame ρ m (k + 1) (pNo (pGo ρ s (nI a_ - 1)))).1) (a + 1) = ((pGain ρ s (nI a - 1) + (pGame ρ m (k + 1) (pNo (pGo ρ s (nI a - 1)))).1), (nI a)) ∧ ¬ (nI a) < 0)) ∧ zJ [0, 4, 6, 10, 11, 12, 13] μ ν4 ∧ (∀ j, j ≠ 23 → ν4 0 j = μ 0 j) ∧ (∀ j, j < k → ν4 (10 + j) = μ (10 + j)) ∧ rSav (μ 1) (ν4 (10 + k)) from ⟨by omega, Or.inr ⟨by omega, pFoldG_new v2 (Or.inl h76), nI_pos (by omega)⟩, hJn, fun j hj => by rw [p1 0 (by decide), r3 j hj, g3 0 (by decide)]; exact v5 j hj, fun j hj => by rw [p1 _ (by simp; omega), r5 j (by omega), g3 _ (by simp; omega)]; exact v7 j hj, by rw [p1 _ (by simp; omega), erow]; exact v8⟩) (by show pL s + 1 - (a + 1) < pL s + 1 - a; omega)
          · refine zx_iload_n (k := 3) (nn := 80) dX11_valueOf_79 rfl rfl rfl ?_
            refine zx_iconst (v := 2) (nn := 81) rfl dX11_valueOf_80 rfl ?_
            refine zx_irem (nn := 82) (by decide) dX11_valueOf_81 rfl ?_
            refine zx_if_ne (tgt := 94) (nn := 85) dX11_valueOf_82 (by decide) rfl (fun h82 => ?_) (fun h82 => ?_)
            · refine zx_iload (k := 0) (nn := 96) dX11_valueOf_94 rfl rfl ?_
              refine zx_iload_n (k := 5) (nn := 97) dX11_valueOf_96 rfl rfl rfl ?_
              refine zx_icmp_ge (tgt := 107) (nn := 100) dX11_valueOf_97 (by decide) rfl (fun h97 => ?_) (fun h97 => ?_)
              · refine zx_iinc (k := 7) (v := nI (a + 1)) (lv' := [(5, zi (nI (a + 1))), (7, zi ((pGain ρ s (nI a - 1)) + ((pGame ρ m (k + 1) (pNo (pGo ρ s (nI a - 1)))).1))), (6, zi (pGain ρ s (nI a - 1))), (0, zr 0), (1, zi (nI k)), (2, zi (nI n)), (3, zi v), (4, zi b)]) (nn := 110) dX11_valueOf_107 rfl (nI_1 a) (by decide) rfl rfl ?_
                refine zx_goto (tgt := 32) dX11_valueOf_110 (by decide) ?_
                refine zx_lv (lv' := [(0, zr 0), (1, zi (nI k)), (2, zi (nI n)), (3, zi v), (4, zi b), (5, zi (nI (a + 1)))]) [3, 4, 5, 6, 7, 0] rfl ?_
                exact ih32 (a + 1, v, b, ν4) (show (a + 1) ≤ pL s + 1 ∧ (((a + 1) = 0 ∧ b = -1) ∨ ((a + 1) ≠ 0 ∧ pFoldG (decide (k % 2 = 0)) (fun a_ => pGain ρ s (nI a_ - 1) + (pGame ρ m (k + 1) (pNo (pGo ρ s (nI a_ - 1)))).1) (a + 1) = (v, b) ∧ ¬ b < 0)) ∧ zJ [0, 4, 6, 10, 11, 12, 13] μ ν4 ∧ (∀ j, j ≠ 23 → ν4 0 j = μ 0 j) ∧ (∀ j, j < k → ν4 (10 + j) = μ (10 + j)) ∧ rSav (μ 1) (ν4 (10 + k)) from ⟨by omega, Or.inr ⟨by omega, pFoldG_old v2 h76 (by have hev : (decide (k % 2 = 0)) = false := decide_eq_false (fun z => h82 ((nI_par hk4).mpr z)); rw [if_neg (by rw [hev]; decide)]; exact Int32.not_lt.mpr h97), h76⟩, hJn, fun j hj => by rw [p1 0 (by decide), r3 j hj, g3 0 (by decide)]; exact v5 j hj, fun j hj => by rw [p1 _ (by simp; omega), r5 j (by omega), g3 _ (by simp; omega)]; exact v7 j hj, by rw [p1 _ (by simp; omega), erow]; exact v8⟩) (by show pL s + 1 - (a + 1) < pL s + 1 - a; omega)
              · refine zx_iload (k := 0) (nn := 102) dX11_valueOf_100 rfl rfl ?_
                refine zx_istore_n (nn := 103) (lv' := [(3, zi ((pGain ρ s (nI a - 1)) + ((pGame ρ m (k + 1) (pNo (pGo ρ s (nI a - 1)))).1))), (7, zi ((pGain ρ s (nI a - 1)) + ((pGame ρ m (k + 1) (pNo (pGo ρ s (nI a - 1)))).1))), (6, zi (pGain ρ s (nI a - 1))), (0, zr 0), (1, zi (nI k)), (2, zi (nI n)), (4, zi b), (5, zi (nI a))]) dX11_valueOf_102 rfl (by decide) rfl rfl ?_
                refine zx_iload (k := 7) (nn := 105) dX11_valueOf_103 rfl rfl ?_
                refine zx_istore (nn := 107) (lv' := [(4, zi (nI a)), (3, zi ((pGain ρ s (nI a - 1)) + ((pGame ρ m (k + 1) (pNo (pGo ρ s (nI a - 1)))).1))), (7, zi ((pGain ρ s (nI a - 1)) + ((pGame ρ m (k + 1) (pNo (pGo ρ s (nI a - 1)))).1))), (6, zi (pGain ρ s (nI a - 1))), (0, zr 0), (1, zi (nI k)), (2, zi (nI n)), (5, zi (nI a))]) dX11_valueOf_105 (by decide) rfl rfl ?_
                refine zx_iinc (k := 7) (v := nI (a + 1)) (lv' := [(5, zi (nI (a + 1))), (4, zi (nI a)), (3, zi ((pGain ρ s (nI a - 1)) + ((pGame ρ m (k + 1) (pNo (pGo ρ s (nI a - 1)))).1))), (7, zi ((pGain ρ s (nI a - 1)) + ((pGame ρ m (k + 1) (pNo (pGo ρ s (nI a - 1)))).1))), (6, zi (pGain ρ s (nI a - 1))), (0, zr 0), (1, zi (nI k)), (2, zi (nI n))]) (nn := 110) dX11_valueOf_107 rfl (nI_1 a) (by decide) rfl rfl ?_
                refine zx_goto (tgt := 32) dX11_valueOf_110 (by decide) ?_
                refine zx_lv (lv' := [(0, zr 0), (1, zi (nI k)), (2, zi (nI n)), (3, zi ((pGain ρ s (nI a - 1)) + ((pGame ρ m (k + 1) (pNo (pGo ρ s (nI a - 1)))).1))), (4, zi (nI a)), (5, zi (nI (a + 1)))]) [5, 6, 7, 2, 1, 0] rfl ?_
                exact ih32 (a + 1, (pGain ρ s (nI a - 1) + (pGame ρ m (k + 1) (pNo (pGo ρ s (nI a - 1)))).1), nI a, ν4) (show (a + 1) ≤ pL s + 1 ∧ (((a + 1) = 0 ∧ (nI a) = -1) ∨ ((a + 1) ≠ 0 ∧ pFoldG (decide (k % 2 = 0)) (fun a_ => pGain ρ s (nI a_ - 1) + (pGame ρ m (k + 1) (pNo (pGo ρ s (nI a_ - 1)))).1) (a + 1) = ((pGain ρ s (nI a - 1) + (pGame ρ m (k + 1) (pNo (pGo ρ s (nI a - 1)))).1), (nI a)) ∧ ¬ (nI a) < 0)) ∧ zJ [0, 4, 6, 10, 11, 12, 13] μ ν4 ∧ (∀ j, j ≠ 23 → ν4 0 j = μ 0 j) ∧ (∀ j, j < k → ν4 (10 + j) = μ (10 + j)) ∧ rSav (μ 1) (ν4 (10 + k)) from ⟨by omega, Or.inr ⟨by omega, pFoldG_new v2 (Or.inr (by have hev : (decide (k % 2 = 0)) = false := decide_eq_false (fun z => h82 ((nI_par hk4).mpr z)); rw [if_neg (by rw [hev]; decide)]; exact Int32.not_le.mp h97)), nI_pos (by omega)⟩, hJn, fun j hj => by rw [p1 0 (by decide), r3 j hj, g3 0 (by decide)]; exact v5 j hj, fun j hj => by rw [p1 _ (by simp; omega), r5 j (by omega), g3 _ (by simp; omega)]; exact v7 j hj, by rw [p1 _ (by simp; omega), erow]; exact v8⟩) (by show pL s + 1 - (a + 1) < pL s + 1 - a; omega)
            · refine zx_iload (k := 0) (nn := 87) dX11_valueOf_85 rfl rfl ?_
              refine zx_iload_n (k := 5) (nn := 88) dX11_valueOf_87 rfl rfl rfl ?_
              refine zx_icmp_le (tgt := 107) (nn := 91) dX11_valueOf_88 (by decide) rfl (fun h88 => ?_) (fun h88 => ?_)
              · refine zx_iinc (k := 7) (v := nI (a + 1)) (lv' := [(5, zi (nI (a + 1))), (7, zi ((pGain ρ s (nI a - 1)) + ((pGame ρ m (k + 1) (pNo (pGo ρ s (nI a - 1)))).1))), (6, zi (pGain ρ s (nI a - 1))), (0, zr 0), (1, zi (nI k)), (2, zi (nI n)), (3, zi v), (4, zi b)]) (nn := 110) dX11_valueOf_107 rfl (nI_1 a) (by decide) rfl rfl ?_
                refine zx_goto (tgt := 32) dX11_valueOf_110 (by decide) ?_
                refine zx_lv (lv' := [(0, zr 0), (1, zi (nI k)), (2, zi (nI n)), (3, zi v), (4, zi b), (5, zi (nI (a + 1)))]) [3, 4, 5, 6, 7, 0] rfl ?_
                exact ih32 (a + 1, v, b, ν4) (show (a + 1) ≤ pL s + 1 ∧ (((a + 1) = 0 ∧ b = -1) ∨ ((a + 1) ≠ 0 ∧ pFoldG (decide (k % 2 = 0)) (fun a_ => pGain ρ s (nI a_ - 1) + (pGame ρ m (k + 1) (pNo (pGo ρ s (nI a_ - 1)))).1) (a + 1) = (v, b) ∧ ¬ b < 0)) ∧ zJ [0, 4, 6, 10, 11, 12, 13] μ ν4 ∧ (∀ j, j ≠ 23 → ν4 0 j = μ 0 j) ∧ (∀ j, j < k → ν4 (10 + j) = μ (10 + j)) ∧ rSav (μ 1) (ν4 (10 + k)) from ⟨by omega, Or.inr ⟨by omega, pFoldG_old v2 h76 (by have hev := decide_eq_true ((nI_par hk4).mp h82); rw [if_pos hev]; exact Int32.not_lt.mpr h88), h76⟩, hJn, fun j hj => by rw [p1 0 (by decide), r3 j hj, g3 0 (by decide)]; exact v5 j hj, fun j hj => by rw [p1 _ (by simp; omega), r5 j (by omega), g3 _ (by simp; omega)]; exact v7 j hj, by rw [p1 _ (by simp; omega), erow]; exact v8⟩) (by show pL s + 1 - (a + 1) < pL s + 1 - a; omega)
              · refine zx_goto (tgt := 100) dX11_valueOf_91 (by decide) ?_
                refine zx_iload (k := 0) (nn := 102) dX11_valueOf_100 rfl rfl ?_
                refine zx_istore_n (nn := 103) (lv' := [(3, zi ((pGain ρ s (nI a - 1)) + ((pGame ρ m (k + 1) (pNo (pGo ρ s (nI a - 1)))).1))), (7, zi ((pGain ρ s (nI a - 1)) + ((pGame ρ m (k + 1) (pNo (pGo ρ s (nI a - 1)))).1))), (6, zi (pGain ρ s (nI a - 1))), (0, zr 0), (1, zi (nI k)), (2, zi (nI n)), (4, zi b), (5, zi (nI a))]) dX11_valueOf_102 rfl (by decide) rfl rfl ?_
                refine zx_iload (k := 7) (nn := 105) dX11_valueOf_103 rfl rfl ?_
                refine zx_istore (nn := 107) (lv' := [(4, zi (nI a)), (3, zi ((pGain ρ s (nI a - 1)) + ((pGame ρ m (k + 1) (pNo (pGo ρ s (nI a - 1)))).1))), (7, zi ((pGain ρ s (nI a - 1)) + ((pGame ρ m (k + 1) (pNo (pGo ρ s (nI a - 1)))).1))), (6, zi (pGain ρ s (nI a - 1))), (0, zr 0), (1, zi (nI k)), (2, zi (nI n)), (5, zi (nI a))]) dX11_valueOf_105 (by decide) rfl rfl ?_
                refine zx_iinc (k := 7) (v := nI (a + 1)) (lv' := [(5, zi (nI (a + 1))), (4, zi (nI a)), (3, zi ((pGain ρ s (nI a - 1)) + ((pGame ρ m (k + 1) (pNo (pGo ρ s (nI a - 1)))).1))), (7, zi ((pGain ρ s (nI a - 1)) + ((pGame ρ m (k + 1) (pNo (pGo ρ s (nI a - 1)))).1))), (6, zi (pGain ρ s (nI a - 1))), (0, zr 0), (1, zi (nI k)), (2, zi (nI n))]) (nn := 110) dX11_valueOf_107 rfl (nI_1 a) (by decide) rfl rfl ?_
                refine zx_goto (tgt := 32) dX11_valueOf_110 (by decide) ?_
                refine zx_lv (lv' := [(0, zr 0), (1, zi (nI k)), (2, zi (nI n)), (3, zi ((pGain ρ s (nI a - 1)) + ((pGame ρ m (k + 1) (pNo (pGo ρ s (nI a - 1)))).1))), (4, zi (nI a)), (5, zi (nI (a + 1)))]) [5, 6, 7, 2, 1, 0] rfl ?_
                exact ih32 (a + 1, (pGain ρ s (nI a - 1) + (pGame ρ m (k + 1) (pNo (pGo ρ s (nI a - 1)))).1), nI a, ν4) (show (a + 1) ≤ pL s + 1 ∧ (((a + 1) = 0 ∧ (nI a) = -1) ∨ ((a + 1) ≠ 0 ∧ pFoldG (decide (k % 2 = 0)) (fun a_ => pGain ρ s (nI a_ - 1) + (pGame ρ m (k + 1) (pNo (pGo ρ s (nI a_ - 1)))).1) (a + 1) = ((pGain ρ s (nI a - 1) + (pGame ρ m (k + 1) (pNo (pGo ρ s (nI a - 1)))).1), (nI a)) ∧ ¬ (nI a) < 0)) ∧ zJ [0, 4, 6, 10, 11, 12, 13] μ ν4 ∧ (∀ j, j ≠ 23 → ν4 0 j = μ 0 j) ∧ (∀ j, j < k → ν4 (10 + j) = μ (10 + j)) ∧ rSav (μ 1) (ν4 (10 + k)) from ⟨by omega, Or.inr ⟨by omega, pFoldG_new v2 (Or.inr (by have hev := decide_eq_true ((nI_par hk4).mp h82); rw [if_pos hev]; exact Int32.not_le.mp h88)), nI_pos (by omega)⟩, hJn, fun j hj => by rw [p1 0 (by decide), r3 j hj, g3 0 (by decide)]; exact v5 j hj, fun j hj => by rw [p1 _ (by simp; omega), r5 j (by omega), g3 _ (by simp; omega)]; exact v7 j hj, by rw [p1 _ (by simp; omega), erow]; exact v8⟩) (by show pL s + 1 - (a + 1) < pL s + 1 - a; omega)
      · exact absurd (of_decide_eq_true h9) (by omega)
