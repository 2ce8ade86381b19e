def gNo (μ : zM) (k n : Int32) : Int32 := if pHas 4 k = true ∧ pIn n 0 20 = true then (if μ 18 k.toNatClampNeg < 0 then -11 else if μ 18 k.toNatClampNeg = 0 then 0 else -13) else -1
theorem gNo_0 {μ : zM} {k n : Int32} (h : gNo μ k n = 0) : pHas 4 k = true ∧ pIn n 0 20 = true ∧ μ 18 k.toNatClampNeg = 0 := by
  unfold gNo at h
  by_cases a : pHas 4 k = true ∧ pIn n 0 20 = true
  · rw [if_pos a] at h
    by_cases b : μ 18 k.toNatClampNeg < 0
    · rw [if_pos b] at h
      exact absurd h (by decide)
    · rw [if_neg b] at h
      by_cases c : μ 18 k.toNatClampNeg = 0
      · exact ⟨a.1, a.2, c⟩
      · rw [if_neg c] at h
        exact absurd h (by decide)
  · rw [if_neg a] at h
    exact absurd h (by decide)
theorem pItems_s {ρ : pR} {len : Int32} {it : Nat → Int32} {i : Int32} {strict : Bool} {m k j : Nat} {sum : Int32} {s : Nat → Int32} (h : pHas len (i + nI k) = true) (e : (i + nI k).toNatClampNeg = j) :
    pItems ρ len it i strict (m + 1) k sum s = if ((decide (it j = 0) || pHas (s 0) (it j - 1)) && !pOver s) = true then pItems ρ len it i strict m (k + 1) (sum + pGain ρ s (it j - 1)) (pGo ρ s (it j - 1)) else if strict = true then (-4, s) else pItems ρ len it i strict m (k + 1) sum s := by
  subst e
  show (if pHas len (i + nI k) = true then _ else _) = _
  rw [if_pos h]
theorem pItems_n {ρ : pR} {len : Int32} {it : Nat → Int32} {i : Int32} {strict : Bool} {m k : Nat} {sum : Int32} {s : Nat → Int32} (h : pHas len (i + nI k) = false) : pItems ρ len it i strict (m + 1) k sum s = (-12, s) := by
  show (if pHas len (i + nI k) = true then _ else _) = _
  rw [if_neg (by rw [h]; decide)]
def gShelf (μ : zM) (h w n : Int32) : zM := zp (zp (zp μ 21 h.toNatClampNeg (if w = 0 then 1 else if w = 1 ∧ ¬ μ 18 n.toNatClampNeg < 0 then 2 else 0)) 22 h.toNatClampNeg (if w = 1 then μ 19 n.toNatClampNeg else n)) 23 h.toNatClampNeg (if w = 1 then μ 18 n.toNatClampNeg else 0)
/-- what a shelf holds now -/
def gH (μ : zM) (k : Nat) : Int32 := if μ 21 k = 1 ∧ pHas (μ 1 0) (μ 22 k) = false then 0 else μ 21 k
def gTaken (μ : zM) (h as : Int32) : Int32 := if pHas 4 h = true then (if pIn as 0 5 = true ∨ pIn as 10 14 = true then (if gH μ h.toNatClampNeg = 0 then -11 else if as < 10 then (if gH μ h.toNatClampNeg = 1 ∧ pUnder (rS 1 μ (7 + 4 * (μ 22 h.toNatClampNeg).toNatClampNeg)) as = true then μ 22 h.toNatClampNeg else -13) else (if gH μ h.toNatClampNeg = 2 ∧ μ 23 h.toNatClampNeg = as - 10 then μ 22 h.toNatClampNeg else -13)) else -1) else -1
theorem gH_1 {μ : zM} {k : Nat} (h : gH μ k = 1) : pHas (μ 1 0) (μ 22 k) = true := by
  unfold gH at h
  by_cases a : μ 21 k = 1 ∧ pHas (μ 1 0) (μ 22 k) = false
  · rw [if_pos a] at h
    exact absurd h (by decide)
  · rw [if_neg a] at h
    cases q : pHas (μ 1 0) (μ 22 k) with
    | true => rfl
    | false => exact absurd ⟨h, q⟩ a
set_option maxHeartbeats 4000000 in
set_option maxRecDepth 100000 in
theorem eX11_goAll_0 (σ : zG) (μ : zM) (k : Int32) (i : Int32) (n : Int32) {ρ : pR} (ok : pOK (rS 1 μ)) (ab : pAB (rS 1 μ)) (hρ : rRep ρ (μ 1)) (hs : gSh μ) : zMet shR σ 7 MX11_goAll yX11_goAll [zr 0, zi k, zi i, zi n] μ (fun rr μ' => rr = some (zi (if gNo μ k n = 0 then (pItems ρ (μ 19 k.toNatClampNeg) (fun j_ => μ 20 (40 * k.toNatClampNeg + j_)) i false n.toNatClampNeg 0 0 (rS 1 μ)).1 else gNo μ k n)) ∧ rS 1 μ' = (if gNo μ k n = 0 then (pItems ρ (μ 19 k.toNatClampNeg) (fun j_ => μ 20 (40 * k.toNatClampNeg + j_)) i false n.toNatClampNeg 0 0 (rS 1 μ)).2 else (rS 1 μ)) ∧ pOK (rS 1 μ') ∧ pAB (rS 1 μ') ∧ rQ μ μ' ∧ zJ [1, 4, 6] μ μ') := by
  refine zmetF (by decide +kernel) rfl (Nat.le_of_ble_eq_true rfl) ?_
  show zX shR σ 7 MX11_goAll 0 [(0, zr 0), (1, zi k), (2, zi i), (3, zi n)] [] μ _
  refine zx_aload_n (k := 0) (nn := 1) dX11_goAll_0 rfl rfl rfl ?_
  refine zx_iload_n (k := 1) (nn := 2) dX11_goAll_1 rfl rfl rfl ?_
  refine zx_iload_n (k := 3) (nn := 3) dX11_goAll_2 rfl rfl rfl ?_
  refine zx_callVf (nn := 6) (k := 0) (d' := 2) (as := [zi k, zi n]) (rest := []) (n := 2) (eX11_noActs_0 σ μ k n  ) kX11_noActs mlX11_382 rfl rfl rfl (by decide) rfl rfl (Nat.le_of_ble_eq_true rfl) dX11_goAll_3 rfl ?_
  show zX shR σ 7 MX11_goAll 6 [(0, zr 0), (1, zi k), (2, zi i), (3, zi n)] [zi (if pHas 4 k = true ∧ pIn n 0 20 = true then (if μ 18 k.toNatClampNeg < 0 then -11 else if μ 18 k.toNatClampNeg = 0 then 0 else -13) else -1)] μ _
  show zX shR σ 7 MX11_goAll 6 [(0, zr 0), (1, zi k), (2, zi i), (3, zi n)] [zi (gNo μ k n)] μ _
  refine zx_istore (nn := 8) (lv' := [(4, zi (gNo μ k n)), (0, zr 0), (1, zi k), (2, zi i), (3, zi n)]) dX11_goAll_6 (by decide) rfl rfl ?_
  refine zx_iload (k := 0) (nn := 10) dX11_goAll_8 rfl rfl ?_
  refine zx_if_eq (tgt := 16) (nn := 13) dX11_goAll_10 (by decide) rfl (fun h10 => ?_) (fun h10 => ?_)
  · obtain ⟨hg1, hg2, hg3⟩ := gNo_0 h10
    obtain ⟨k1, n_k, rfl⟩ := has4 hg1
    show zX shR σ 7 MX11_goAll 16 [(4, zi (gNo μ (nI k1) n)), (0, zr 0), (1, zi (nI k1)), (2, zi i), (3, zi n)] [] μ _
    obtain ⟨n1, n_n, rfl⟩ := pIn_n (b := 20) (by omega) (by decide) hg2
    show zX shR σ 7 MX11_goAll 16 [(4, zi (gNo μ (nI k1) (nI n1))), (0, zr 0), (1, zi (nI k1)), (2, zi i), (3, zi (nI n1))] [] μ _
    obtain ⟨hsr, ln, hl40, hln⟩ := hs k1 n_k.1
    have hk_ := n_k.1
    have hn20 := n_n.1
    refine zx_iconst (v := 0) (nn := 17) rfl dX11_goAll_16 rfl ?_
    refine zx_istore (nn := 19) (lv' := [(5, zi 0), (4, zi (gNo μ (nI k1) (nI n1))), (0, zr 0), (1, zi (nI k1)), (2, zi i), (3, zi (nI n1))]) dX11_goAll_17 (by decide) rfl rfl ?_
    refine zx_iconst (v := 0) (nn := 20) rfl dX11_goAll_19 rfl ?_
    refine zx_istore (nn := 22) (lv' := [(6, zi 0), (5, zi 0), (4, zi (gNo μ (nI k1) (nI n1))), (0, zr 0), (1, zi (nI k1)), (2, zi i), (3, zi (nI n1))]) dX11_goAll_20 (by decide) rfl rfl ?_
    refine zx_lv (lv' := [(0, zr 0), (1, zi (nI k1)), (2, zi i), (3, zi (nI n1)), (5, zi 0), (6, zi 0)]) [3, 4, 5, 6, 1, 0] rfl ?_
    refine zx_while (τ := Nat × Int32 × zM) (fun t_ => n1 - t_.1) (fun t_ => t_.1 ≤ n1 ∧ pOK (rS 1 t_.2.2) ∧ pAB (rS 1 t_.2.2) ∧ rQ μ t_.2.2 ∧ zJ [1, 4, 6] μ t_.2.2 ∧ pItems ρ (nI ln) (fun j_ => μ 20 (40 * k1 + j_)) i false n1 0 0 (rS 1 μ) = pItems ρ (nI ln) (fun j_ => μ 20 (40 * k1 + j_)) i false (n1 - t_.1) t_.1 t_.2.1 (rS 1 t_.2.2)) (fun t_ => [(0, zr 0), (1, zi (nI k1)), (2, zi i), (3, zi (nI n1)), (5, zi t_.2.1), (6, zi (nI t_.1))]) (fun t_ => t_.2.2) (t0 := (0, 0, μ)) (show 0 ≤ n1 ∧ pOK (rS 1 μ) ∧ pAB (rS 1 μ) ∧ rQ μ μ ∧ zJ [1, 4, 6] μ μ ∧ pItems ρ (nI ln) (fun j_ => μ 20 (40 * k1 + j_)) i false n1 0 0 (rS 1 μ) = pItems ρ (nI ln) (fun j_ => μ 20 (40 * k1 + j_)) i false (n1 - 0) 0 0 (rS 1 μ) from ⟨Nat.zero_le _, ok, ab, rQ_rf, zJ.rf, rfl⟩) ?_
    rintro ⟨c, sum, μ1⟩ hI ih22
    replace hI : c ≤ n1 ∧ pOK (rS 1 μ1) ∧ pAB (rS 1 μ1) ∧ rQ μ μ1 ∧ zJ [1, 4, 6] μ μ1 ∧ pItems ρ (nI ln) (fun j_ => μ 20 (40 * k1 + j_)) i false n1 0 0 (rS 1 μ) = pItems ρ (nI ln) (fun j_ => μ 20 (40 * k1 + j_)) i false (n1 - c) c sum (rS 1 μ1) := hI
    show zX shR σ 7 MX11_goAll 22 [(0, zr 0), (1, zi (nI k1)), (2, zi i), (3, zi (nI n1)), (5, zi sum), (6, zi (nI c))] [] μ1 _
    obtain ⟨hc, okm, abm, hq, hj, hI6⟩ := hI
    have hρm : rRep ρ (μ1 1) := rRep_K (rQ_K hq) hρ
    have e19 : μ1 19 = μ 19 := hj 19 (by decide)
    have e20 : μ1 20 = μ 20 := hj 20 (by decide)
    have hL0 : rS 1 μ1 0 = nI (pL (rS 1 μ1)) := (ok_L okm).1
    refine zx_iload (k := 5) (nn := 24) dX11_goAll_22 rfl rfl ?_
    refine zx_iload_n (k := 3) (nn := 25) dX11_goAll_24 rfl rfl rfl ?_
    refine zx_icmp_ge (tgt := 100) (nn := 28) dX11_goAll_25 (by decide) rfl (fun h25 => ?_) (fun h25 => ?_)
    · refine zx_iload (k := 4) (nn := 102) dX11_goAll_100 rfl rfl ?_
      refine zx_iret rfl dX11_goAll_102 ?_
      have hge := nI_le_le h25 (by omega)
      rw [show n1 - c = 0 by omega] at hI6
      have hE := hI6
      refine ⟨congrArg (fun x => some (zi x)) ?_, ?_, okm, abm, hq, hj⟩
      · rw [if_pos h10, n_k.2.2, n_n.2, hln, hE]
        rfl
      · rw [if_pos h10, n_k.2.2, n_n.2, hln, hE]
        rfl
    · have hlt : c < n1 := nI_nle_lt h25 (by omega)
      refine zx_aload_n (k := 0) (nn := 29) dX11_goAll_28 rfl rfl rfl ?_
      refine zx_iload_n (k := 1) (nn := 30) dX11_goAll_29 rfl rfl rfl ?_
      refine zx_iload_n (k := 2) (nn := 31) dX11_goAll_30 rfl rfl rfl ?_
      refine zx_i2l (nn := 32) dX11_goAll_31 rfl ?_
      refine zx_iload (k := 5) (nn := 34) dX11_goAll_32 rfl rfl ?_
      refine zx_i2l (nn := 35) dX11_goAll_34 rfl ?_
      refine zx_ladd (nn := 36) dX11_goAll_35 rfl ?_
      refine zx_callVf (nn := 39) (k := 0) (d' := 1) (as := [zi (nI k1), zj (i.toInt64 + ((nI c).toInt64))]) (rest := []) (n := 2) (eX11_hasItem_0 σ μ1 k1 (i.toInt64 + (nI c).toInt64) ln hk_ (by rw [e19]; exact hln)) kX11_hasItem mlX11_385 rfl rfl rfl (by decide) rfl rfl (Nat.le_of_ble_eq_true rfl) dX11_goAll_36 rfl ?_
      show zX shR σ 7 MX11_goAll 39 [(0, zr 0), (1, zi (nI k1)), (2, zi i), (3, zi (nI n1)), (5, zi sum), (6, zi (nI c))] [zi (zb (decide (0 ≤ i.toInt64 + (nI c).toInt64) && decide (i.toInt64 + (nI c).toInt64 ≤ (nI ln - 1).toInt64)))] μ1 _
      rw [show zb (decide (0 ≤ i.toInt64 + (nI c).toInt64) && decide (i.toInt64 + (nI c).toInt64 ≤ (nI ln - 1).toInt64)) = zb (pHas (nI ln) (i + nI c)) from congrArg zb (has_l hl40 (by omega))]
      show zX shR σ 7 MX11_goAll 39 [(0, zr 0), (1, zi (nI k1)), (2, zi i), (3, zi (nI n1)), (5, zi sum), (6, zi (nI c))] [zi (zb (pHas (nI ln) (i + nI c)))] μ1 _
      refine zx_ifb_ne (tgt := 45) (nn := 42) dX11_goAll_39 (by decide) rfl (fun h39 => ?_) (fun h39 => ?_)
      · have hhas := h39
        obtain ⟨j, n_j, ej⟩ := has_item rfl hl40 hhas
        have ee : (i + nI c).toNatClampNeg = j := by rw [ej, n_j.2.2]
        refine zx_aload_n (k := 0) (nn := 46) dX11_goAll_45 rfl rfl rfl ?_
        refine zx_getR (q := 20) (nn := 49) flX11_54 rfl rfl dX11_goAll_46 rfl ?_
        refine zx_bipush (v := 40) (nn := 51) rfl dX11_goAll_49 rfl ?_
        refine zx_iload_n (k := 1) (nn := 52) dX11_goAll_51 rfl rfl rfl ?_
        refine zx_imul (nn := 53) dX11_goAll_52 rfl ?_
        refine zx_iload_n (k := 2) (nn := 54) dX11_goAll_53 rfl rfl rfl ?_
        refine zx_iadd (nn := 55) dX11_goAll_54 rfl ?_
        refine zx_iload (k := 5) (nn := 57) dX11_goAll_55 rfl rfl ?_
        refine zx_iadd (nn := 58) dX11_goAll_57 rfl ?_
        rw [show ((40 * (nI k1)) + i) + (nI c) = nI (40 * k1 + j) from by rw [Int32.add_assoc, ej, show (40 : Int32) = nI 40 from rfl, nI_mulN, nI_add]]
        show zX shR σ 7 MX11_goAll 58 [(0, zr 0), (1, zi (nI k1)), (2, zi i), (3, zi (nI n1)), (5, zi sum), (6, zi (nI c))] [zi (nI (40 * k1 + j)), zr 20] μ1 _
        refine zx_lald (nn := 59) rfl (vp_in_nI (show 40 * k1 + j < 160 by have := n_k.1; have := n_j.2.1; omega) (by decide)) dX11_goAll_58 rfl ?_
        rw [nI_clamp (by omega)]
        show zX shR σ 7 MX11_goAll 59 [(0, zr 0), (1, zi (nI k1)), (2, zi i), (3, zi (nI n1)), (5, zi sum), (6, zi (nI c))] [zj ((μ1 20 (40 * k1 + j)).toInt64)] μ1 _
        refine zx_l2i (nn := 60) dX11_goAll_59 rfl ?_
        rw [show ((μ1 20 (40 * k1 + j)).toInt64).toInt32 = μ 20 (40 * k1 + j) from (Int32.toInt32_toInt64 _).trans (by rw [e20])]
        show zX shR σ 7 MX11_goAll 60 [(0, zr 0), (1, zi (nI k1)), (2, zi i), (3, zi (nI n1)), (5, zi sum), (6, zi (nI c))] [zi (μ 20 (40 * k1 + j))] μ1 _
        refine zx_istore (nn := 62) (lv' := [(7, zi (μ 20 (40 * k1 + j))), (0, zr 0), (1, zi (nI k1)), (2, zi i), (3, zi (nI n1)), (5, zi sum), (6, zi (nI c))]) dX11_goAll_60 (by decide) rfl rfl ?_
        refine zx_iload (k := 5) (nn := 64) dX11_goAll_62 rfl rfl ?_
        refine zx_aload_n (k := 1) (nn := 65) dX11_goAll_64 rfl rfl rfl ?_
        refine zx_iload (k := 0) (nn := 67) dX11_goAll_65 rfl rfl ?_
        refine zx_i2l (nn := 68) dX11_goAll_67 rfl ?_
        refine zx_callVf (nn := 71) (k := 0) (d' := 1) (as := [zj ((μ 20 (40 * k1 + j)).toInt64)]) (rest := [zi sum]) (n := 1) (eX11_isAct_0 σ μ1 ((μ 20 (40 * k1 + j)).toInt64)  okm) kX11_isAct mlX11_367 rfl rfl rfl (by decide) rfl rfl (Nat.le_of_ble_eq_true rfl) dX11_goAll_68 rfl ?_
        show zX shR σ 7 MX11_goAll 71 [(7, zi (μ 20 (40 * k1 + j))), (0, zr 0), (1, zi (nI k1)), (2, zi i), (3, zi (nI n1)), (5, zi sum), (6, zi (nI c))] [zi (zb (decide (0 ≤ ((μ 20 (40 * k1 + j)).toInt64)) && decide (((μ 20 (40 * k1 + j)).toInt64) ≤ (nI (pL (rS 1 μ1))).toInt64))), zi sum] μ1 _
        rw [show zb (decide (0 ≤ ((μ 20 (40 * k1 + j)).toInt64)) && decide (((μ 20 (40 * k1 + j)).toInt64) ≤ (nI (pL (rS 1 μ1))).toInt64)) = zb (decide (μ 20 (40 * k1 + j) = 0) || pHas (rS 1 μ1 0) (μ 20 (40 * k1 + j) - 1)) from (congrArg zb (act_r (x := μ 20 (40 * k1 + j)) (ok_L okm).2)).trans (by rw [← hL0])]
        show zX shR σ 7 MX11_goAll 71 [(7, zi (μ 20 (40 * k1 + j))), (0, zr 0), (1, zi (nI k1)), (2, zi i), (3, zi (nI n1)), (5, zi sum), (6, zi (nI c))] [zi (zb (decide (μ 20 (40 * k1 + j) = 0) || pHas (rS 1 μ1 0) (μ 20 (40 * k1 + j) - 1))), zi sum] μ1 _
        refine zx_ifb_eq (tgt := 90) (nn := 74) dX11_goAll_71 (by decide) rfl (fun h71 => ?_) (fun h71 => ?_)
        · refine zx_iconst (v := 0) (nn := 91) rfl dX11_goAll_90 rfl ?_
          refine zx_iadd (nn := 92) dX11_goAll_91 rfl ?_
          rw [show sum + 0 = sum from Int32.add_zero _]
          show zX shR σ 7 MX11_goAll 92 [(7, zi (μ 20 (40 * k1 + j))), (0, zr 0), (1, zi (nI k1)), (2, zi i), (3, zi (nI n1)), (5, zi sum), (6, zi (nI c))] [zi sum] μ1 _
          refine zx_istore (nn := 94) (lv' := [(5, zi sum), (7, zi (μ 20 (40 * k1 + j))), (0, zr 0), (1, zi (nI k1)), (2, zi i), (3, zi (nI n1)), (6, zi (nI c))]) dX11_goAll_92 (by decide) rfl rfl ?_
          refine zx_iinc (k := 6) (v := nI (c + 1)) (lv' := [(6, zi (nI (c + 1))), (5, zi sum), (7, zi (μ 20 (40 * k1 + j))), (0, zr 0), (1, zi (nI k1)), (2, zi i), (3, zi (nI n1))]) (nn := 97) dX11_goAll_94 rfl (nI_1 c) (by decide) rfl rfl ?_
          refine zx_goto (tgt := 22) dX11_goAll_97 (by decide) ?_
          refine zx_lv (lv' := [(0, zr 0), (1, zi (nI k1)), (2, zi i), (3, zi (nI n1)), (5, zi sum), (6, zi (nI (c + 1)))]) [3, 4, 5, 6, 1, 0] rfl ?_
          exact ih22 (c + 1, sum, μ1) (show (c + 1) ≤ n1 ∧ pOK (rS 1 μ1) ∧ pAB (rS 1 μ1) ∧ rQ μ μ1 ∧ zJ [1, 4, 6] μ μ1 ∧ pItems ρ (nI ln) (fun j_ => μ 20 (40 * k1 + j_)) i false n1 0 0 (rS 1 μ) = pItems ρ (nI ln) (fun j_ => μ 20 (40 * k1 + j_)) i false (n1 - (c + 1)) (c + 1) sum (rS 1 μ1) from ⟨by omega, okm, abm, hq, hj, by rw [hI6, show n1 - c = (n1 - (c + 1)) + 1 by omega, pItems_s hhas ee]; show (if ((decide (μ 20 (40 * k1 + j) = 0) || pHas (rS 1 μ1 0) (μ 20 (40 * k1 + j) - 1)) && !pOver (rS 1 μ1)) = true then _ else if (false : Bool) = true then _ else _) = _; rw [if_neg (by rw [h71]; simp), if_neg (by decide)]⟩) (by show n1 - (c + 1) < n1 - c; omega)
        · refine zx_aload_n (k := 1) (nn := 75) dX11_goAll_74 rfl rfl rfl ?_
          refine zx_callVf (nn := 78) (k := 0) (d' := 0) (as := []) (rest := [zi sum]) (n := 0) (eX11_isOver_0 σ μ1   ) kX11_isOver mlX11_96 rfl rfl rfl (by decide) rfl rfl (Nat.le_of_ble_eq_true rfl) dX11_goAll_75 rfl ?_
          show zX shR σ 7 MX11_goAll 78 [(7, zi (μ 20 (40 * k1 + j))), (0, zr 0), (1, zi (nI k1)), (2, zi i), (3, zi (nI n1)), (5, zi sum), (6, zi (nI c))] [zi (zb (pOver (rS 1 μ1))), zi sum] μ1 _
          refine zx_ifb_ne (tgt := 90) (nn := 81) dX11_goAll_78 (by decide) rfl (fun h78 => ?_) (fun h78 => ?_)
          · refine zx_iconst (v := 0) (nn := 91) rfl dX11_goAll_90 rfl ?_
            refine zx_iadd (nn := 92) dX11_goAll_91 rfl ?_
            rw [show sum + 0 = sum from Int32.add_zero _]
            show zX shR σ 7 MX11_goAll 92 [(7, zi (μ 20 (40 * k1 + j))), (0, zr 0), (1, zi (nI k1)), (2, zi i), (3, zi (nI n1)), (5, zi sum), (6, zi (nI c))] [zi sum] μ1 _
            refine zx_istore (nn := 94) (lv' := [(5, zi sum), (7, zi (μ 20 (40 * k1 + j))), (0, zr 0), (1, zi (nI k1)), (2, zi i), (3, zi (nI n1)), (6, zi (nI c))]) dX11_goAll_92 (by decide) rfl rfl ?_
            refine zx_iinc (k := 6) (v := nI (c + 1)) (lv' := [(6, zi (nI (c + 1))), (5, zi sum), (7, zi (μ 20 (40 * k1 + j))), (0, zr 0), (1, zi (nI k1)), (2, zi i), (3, zi (nI n1))]) (nn := 97) dX11_goAll_94 rfl (nI_1 c) (by decide) rfl rfl ?_
            refine zx_goto (tgt := 22) dX11_goAll_97 (by decide) ?_
            refine zx_lv (lv' := [(0, zr 0), (1, zi (nI k1)), (2, zi i), (3, zi (nI n1)), (5, zi sum), (6, zi (nI (c + 1)))]) [3, 4, 5, 6, 1, 0] rfl ?_
            exact ih22 (c + 1, sum, μ1) (show (c + 1) ≤ n1 ∧ pOK (rS 1 μ1) ∧ pAB (rS 1 μ1) ∧ rQ μ μ1 ∧ zJ [1, 4, 6] μ μ1 ∧ pItems ρ (nI ln) (fun j_ => μ 20 (40 * k1 + j_)) i false n1 0 0 (rS 1 μ) = pItems ρ (nI ln) (fun j_ => μ 20 (40 * k1 + j_)) i false (n1 - (c + 1)) (c + 1) sum (rS 1 μ1) from ⟨by omega, okm, abm, hq, hj, by rw [hI6, show n1 - c = (n1 - (c + 1)) + 1 by omega, pItems_s hhas ee]; show (if ((decide (μ 20 (40 * k1 + j) = 0) || pHas (rS 1 μ1 0) (μ 20 (40 * k1 + j) - 1)) && !pOver (rS 1 μ1)) = true then _ else if (false : Bool) = true then _ else _) = _; rw [if_neg (by rw [h78]; simp), if_neg (by decide)]⟩) (by show n1 - (c + 1) < n1 - c; omega)
          · have hbm : pb (rS 1 μ1) < pB (rS 1 μ1) := pOver_b okm h78
            have hac : ((decide (μ 20 (40 * k1 + j) = 0) || pHas (rS 1 μ1 0) (μ 20 (40 * k1 + j) - 1)) && !pOver (rS 1 μ1)) = true := by rw [h71, h78]; rfl
            refine zx_aload_n (k := 1) (nn := 82) dX11_goAll_81 rfl rfl rfl ?_
            refine zx_iload (k := 0) (nn := 84) dX11_goAll_82 rfl rfl ?_
            refine zx_callV (nn := 87) (k := 0) (d' := 6) (as := [zi (μ 20 (40 * k1 + j))]) (rest := [zi sum]) (n := 1) (eX11_goes_0 σ μ1 (μ 20 (40 * k1 + j)) okm abm hρm hbm) kX11_goes mlX11_284 rfl rfl rfl (by decide) rfl rfl (Nat.le_of_ble_eq_true rfl) dX11_goAll_84 rfl ?_
            rintro _ ν1 ⟨rfl, g1, g2, g3⟩
            show zX shR σ 7 MX11_goAll 87 [(7, zi (μ 20 (40 * k1 + j))), (0, zr 0), (1, zi (nI k1)), (2, zi i), (3, zi (nI n1)), (5, zi sum), (6, zi (nI c))] [zi (pGain ρ (rS 1 μ1) (μ 20 (40 * k1 + j) - 1)), zi sum] ν1 _
            have okg : pOK (rS 1 ν1) := by rw [g1]; exact pOK_go okm hbm
            have abg : pAB (rS 1 ν1) := by rw [g1]; exact pAB_go okm abm
            have hqg : rQ μ ν1 := rQ_tr hq g2
            have hjg : zJ [1, 4, 6] μ ν1 := hj.tr (g3.mono (by simp))
            refine zx_goto (tgt := 91) dX11_goAll_87 (by decide) ?_
            refine zx_iadd (nn := 92) dX11_goAll_91 rfl ?_
            refine zx_istore (nn := 94) (lv' := [(5, zi (sum + (pGain ρ (rS 1 μ1) (μ 20 (40 * k1 + j) - 1)))), (7, zi (μ 20 (40 * k1 + j))), (0, zr 0), (1, zi (nI k1)), (2, zi i), (3, zi (nI n1)), (6, zi (nI c))]) dX11_goAll_92 (by decide) rfl rfl ?_
            refine zx_iinc (k := 6) (v := nI (c + 1)) (lv' := [(6, zi (nI (c + 1))), (5, zi (sum + (pGain ρ (rS 1 μ1) (μ 20 (40 * k1 + j) - 1)))), (7, zi (μ 20 (40 * k1 + j))), (0, zr 0), (1, zi (nI k1)), (2, zi i), (3, zi (nI n1))]) (nn := 97) dX11_goAll_94 rfl (nI_1 c) (by decide) rfl rfl ?_
            refine zx_goto (tgt := 22) dX11_goAll_97 (by decide) ?_
            refine zx_lv (lv' := [(0, zr 0), (1, zi (nI k1)), (2, zi i), (3, zi (nI n1)), (5, zi (sum + (pGain ρ (rS 1 μ1) (μ 20 (40 * k1 + j) - 1)))), (6, zi (nI (c + 1)))]) [3, 4, 5, 6, 1, 0] rfl ?_
            exact ih22 (c + 1, sum + pGain ρ (rS 1 μ1) (μ 20 (40 * k1 + j) - 1), ν1) (show (c + 1) ≤ n1 ∧ pOK (rS 1 ν1) ∧ pAB (rS 1 ν1) ∧ rQ μ ν1 ∧ zJ [1, 4, 6] μ ν1 ∧ pItems ρ (nI ln) (fun j_ => μ 20 (40 * k1 + j_)) i false n1 0 0 (rS 1 μ) = pItems ρ (nI ln) (fun j_ => μ 20 (40 * k1 + j_)) i false (n1 - (c + 1)) (c + 1) (sum + pGain ρ (rS 1 μ1) (μ 20 (40 * k1 + j) - 1)) (rS 1 ν1) from ⟨by omega, okg, abg, hqg, hjg, by rw [hI6, show n1 - c = (n1 - (c + 1)) + 1 by omega, pItems_s hhas ee]; show (if ((decide (μ 20 (40 * k1 + j) = 0) || pHas (rS 1 μ1 0) (μ 20 (40 * k1 + j) - 1)) && !pOver (rS 1 μ1)) = true then _ else if (_ : Bool) = true then _ else _) = _; rw [if_pos hac, g1]⟩) (by show n1 - (c + 1) < n1 - c; omega)
      · refine zx_bipush (v := -12) (nn := 44) rfl dX11_goAll_42 rfl ?_
        refine zx_iret rfl dX11_goAll_44 ?_
        have hlt : c < n1 := nI_nle_lt h25 (by omega)
        rw [show n1 - c = (n1 - (c + 1)) + 1 by omega, pItems_n h39] at hI6
        have hE := hI6
        refine ⟨congrArg (fun x => some (zi x)) ?_, ?_, okm, abm, hq, hj⟩
        · rw [if_pos h10, n_k.2.2, n_n.2, hln, hE]
        · rw [if_pos h10, n_k.2.2, n_n.2, hln, hE]
  · refine zx_iload (k := 0) (nn := 15) dX11_goAll_13 rfl rfl ?_
    refine zx_iret rfl dX11_goAll_15 ?_
    exact ⟨congrArg (fun x => some (zi x)) (by rw [if_neg h10]), by rw [if_neg h10], ok, ab, rQ_rf, zJ.rf⟩
set_option maxHeartbeats 4000000 in
set_option maxRecDepth 100000 in
theorem eX11_worthOfItems_0 (σ : zG) (μ : zM) (k : Nat) (i : Int32) (n : Nat) {ρ : pR} (ln : Nat) (ok : pOK (rS 1 μ)) (ab : pAB (rS 1 μ)) (hρ : rRep ρ (μ 1)) (hk_ : k < 4) (hln : μ 19 k = nI ln) (hl40 : ln ≤ 40) (hn20 : n ≤ 20) : zMet shR σ 7 MX11_worthOfItems yX11_worthOfItems [zr 0, zi (nI k), zi i, zi (nI n)] μ (fun rr μ' => rr = some (zi ((pItems ρ (nI ln) (fun j_ => μ 20 (40 * k + j_)) i true n 0 0 (rS 1 μ)).1)) ∧ rQ μ μ' ∧ zJ [1, 4, 6] μ μ') := by
  refine zmetF (by decide +kernel) rfl (Nat.le_of_ble_eq_true rfl) ?_
  show zX shR σ 7 MX11_worthOfItems 0 [(0, zr 0), (1, zi (nI k)), (2, zi i), (3, zi (nI n))] [] μ _
  refine zx_iconst (v := 0) (nn := 1) rfl dX11_worthOfItems_0 rfl ?_
  refine zx_istore (nn := 3) (lv' := [(4, zi 0), (0, zr 0), (1, zi (nI k)), (2, zi i), (3, zi (nI n))]) dX11_worthOfItems_1 (by decide) rfl rfl ?_
  refine zx_iconst (v := 0) (nn := 4) rfl dX11_worthOfItems_3 rfl ?_
  refine zx_istore (nn := 6) (lv' := [(5, zi 0), (4, zi 0), (0, zr 0), (1, zi (nI k)), (2, zi i), (3, zi (nI n))]) dX11_worthOfItems_4 (by decide) rfl rfl ?_
  refine zx_lv (lv' := [(0, zr 0), (1, zi (nI k)), (2, zi i), (3, zi (nI n)), (4, zi 0), (5, zi 0)]) [2, 3, 4, 5, 1, 0] rfl ?_
  refine zx_while (τ := Nat × Int32 × zM) (fun t_ => n - t_.1) (fun t_ => t_.1 ≤ n ∧ pOK (rS 1 t_.2.2) ∧ pAB (rS 1 t_.2.2) ∧ rQ μ t_.2.2 ∧ zJ [1, 4, 6] μ t_.2.2 ∧ pItems ρ (nI ln) (fun j_ => μ 20 (40 * k + j_)) i true n 0 0 (rS 1 μ) = pItems ρ (nI ln) (fun j_ => μ 20 (40 * k + j_)) i true (n - t_.1) t_.1 t_.2.1 (rS 1 t_.2.2)) (fun t_ => [(0, zr 0), (1, zi (nI k)), (2, zi i), (3, zi (nI n)), (4, zi t_.2.1), (5, zi (nI t_.1))]) (fun t_ => t_.2.2) (t0 := (0, 0, μ)) (show 0 ≤ n ∧ pOK (rS 1 μ) ∧ pAB (rS 1 μ) ∧ rQ μ μ ∧ zJ [1, 4, 6] μ μ ∧ pItems ρ (nI ln) (fun j_ => μ 20 (40 * k + j_)) i true n 0 0 (rS 1 μ) = pItems ρ (nI ln) (fun j_ => μ 20 (40 * k + j_)) i true (n - 0) 0 0 (rS 1 μ) from ⟨Nat.zero_le _, ok, ab, rQ_rf, zJ.rf, rfl⟩) ?_
  rintro ⟨c, sum, μ1⟩ hI ih6
  replace hI : c ≤ n ∧ pOK (rS 1 μ1) ∧ pAB (rS 1 μ1) ∧ rQ μ μ1 ∧ zJ [1, 4, 6] μ μ1 ∧ pItems ρ (nI ln) (fun j_ => μ 20 (40 * k + j_)) i true n 0 0 (rS 1 μ) = pItems ρ (nI ln) (fun j_ => μ 20 (40 * k + j_)) i true (n - c) c sum (rS 1 μ1) := hI
  show zX shR σ 7 MX11_worthOfItems 6 [(0, zr 0), (1, zi (nI k)), (2, zi i), (3, zi (nI n)), (4, zi sum), (5, zi (nI c))] [] μ1 _
  obtain ⟨hc, okm, abm, hq, hj, hI6⟩ := hI
  have hρm : rRep ρ (μ1 1) := rRep_K (rQ_K hq) hρ
  have e19 : μ1 19 = μ 19 := hj 19 (by decide)
  have e20 : μ1 20 = μ 20 := hj 20 (by decide)
  have hL0 : rS 1 μ1 0 = nI (pL (rS 1 μ1)) := (ok_L okm).1
  refine zx_iload (k := 5) (nn := 8) dX11_worthOfItems_6 rfl rfl ?_
  refine zx_iload_n (k := 3) (nn := 9) dX11_worthOfItems_8 rfl rfl rfl ?_
  refine zx_icmp_ge (tgt := 83) (nn := 12) dX11_worthOfItems_9 (by decide) rfl (fun h9 => ?_) (fun h9 => ?_)
  · refine zx_iload (k := 4) (nn := 85) dX11_worthOfItems_83 rfl rfl ?_
    refine zx_iret rfl dX11_worthOfItems_85 ?_
    have hge := nI_le_le h9 (by omega)
    rw [show n - c = 0 by omega] at hI6
    have hE := hI6
    refine ⟨congrArg (fun x => some (zi x)) ?_, hq, hj⟩
    rw [hE]
    rfl
  · have hlt : c < n := nI_nle_lt h9 (by omega)
    refine zx_aload_n (k := 0) (nn := 13) dX11_worthOfItems_12 rfl rfl rfl ?_
    refine zx_iload_n (k := 1) (nn := 14) dX11_worthOfItems_13 rfl rfl rfl ?_
    refine zx_iload_n (k := 2) (nn := 15) dX11_worthOfItems_14 rfl rfl rfl ?_
    refine zx_i2l (nn := 16) dX11_worthOfItems_15 rfl ?_
    refine zx_iload (k := 5) (nn := 18) dX11_worthOfItems_16 rfl rfl ?_
    refine zx_i2l (nn := 19) dX11_worthOfItems_18 rfl ?_
    refine zx_ladd (nn := 20) dX11_worthOfItems_19 rfl ?_
    refine zx_callVf (nn := 23) (k := 0) (d' := 1) (as := [zi (nI k), zj (i.toInt64 + ((nI c).toInt64))]) (rest := []) (n := 2) (eX11_hasItem_0 σ μ1 k (i.toInt64 + (nI c).toInt64) ln hk_ (by rw [e19]; exact hln)) kX11_hasItem mlX11_385 rfl rfl rfl (by decide) rfl rfl (Nat.le_of_ble_eq_true rfl) dX11_worthOfItems_20 rfl ?_
    show zX shR σ 7 MX11_worthOfItems 23 [(0, zr 0), (1, zi (nI k)), (2, zi i), (3, zi (nI n)), (4, zi sum), (5, zi (nI c))] [zi (zb (decide (0 ≤ i.toInt64 + (nI c).toInt64) && decide (i.toInt64 + (nI c).toInt64 ≤ (nI ln - 1).toInt64)))] μ1 _
    rw [show zb (decide (0 ≤ i.toInt64 + (nI c).toInt64) && decide (i.toInt64 + (nI c).toInt64 ≤ (nI ln - 1).toInt64)) = zb (pHas (nI ln) (i + nI c)) from congrArg zb (has_l hl40 (by omega))]
    show zX shR σ 7 MX11_worthOfItems 23 [(0, zr 0), (1, zi (nI k)), (2, zi i), (3, zi (nI n)), (4, zi sum), (5, zi (nI c))] [zi (zb (pHas (nI ln) (i + nI c)))] μ1 _
    refine zx_ifb_ne (tgt := 29) (nn := 26) dX11_worthOfItems_23 (by decide) rfl (fun h23 => ?_) (fun h23 => ?_)
    · have hhas := h23
      obtain ⟨j, n_j, ej⟩ := has_item rfl hl40 hhas
      have ee : (i + nI c).toNatClampNeg = j := by rw [ej, n_j.2.2]
      refine zx_aload_n (k := 0) (nn := 30) dX11_worthOfItems_29 rfl rfl rfl ?_
      refine zx_getR (q := 20) (nn := 33) flX11_54 rfl rfl dX11_worthOfItems_30 rfl ?_
      refine zx_bipush (v := 40) (nn := 35) rfl dX11_worthOfItems_33 rfl ?_
      refine zx_iload_n (k := 1) (nn := 36) dX11_worthOfItems_35 rfl rfl rfl ?_
      refine zx_imul (nn := 37) dX11_worthOfItems_36 rfl ?_
      refine zx_iload_n (k := 2) (nn := 38) dX11_worthOfItems_37 rfl rfl rfl ?_
      refine zx_iadd (nn := 39) dX11_worthOfItems_38 rfl ?_
      refine zx_iload (k := 5) (nn := 41) dX11_worthOfItems_39 rfl rfl ?_
      refine zx_iadd (nn := 42) dX11_worthOfItems_41 rfl ?_
      rw [show ((40 * (nI k)) + i) + (nI c) = nI (40 * k + j) from by rw [Int32.add_assoc, ej, show (40 : Int32) = nI 40 from rfl, nI_mulN, nI_add]]
      show zX shR σ 7 MX11_worthOfItems 42 [(0, zr 0), (1, zi (nI k)), (2, zi i), (3, zi (nI n)), (4, zi sum), (5, zi (nI c))] [zi (nI (40 * k + j)), zr 20] μ1 _
      refine zx_lald (nn := 43) rfl (vp_in_nI (show 40 * k + j < 160 by have := n_j.2.1; omega) (by decide)) dX11_worthOfItems_42 rfl ?_
      rw [nI_clamp (by omega)]
      show zX shR σ 7 MX11_worthOfItems 43 [(0, zr 0), (1, zi (nI k)), (2, zi i), (3, zi (nI n)), (4, zi sum), (5, zi (nI c))] [zj ((μ1 20 (40 * k + j)).toInt64)] μ1 _
      refine zx_l2i (nn := 44) dX11_worthOfItems_43 rfl ?_
      rw [show ((μ1 20 (40 * k + j)).toInt64).toInt32 = μ 20 (40 * k + j) from (Int32.toInt32_toInt64 _).trans (by rw [e20])]
      show zX shR σ 7 MX11_worthOfItems 44 [(0, zr 0), (1, zi (nI k)), (2, zi i), (3, zi (nI n)), (4, zi sum), (5, zi (nI c))] [zi (μ 20 (40 * k + j))] μ1 _
      refine zx_istore (nn := 46) (lv' := [(6, zi (μ 20 (40 * k + j))), (0, zr 0), (1, zi (nI k)), (2, zi i), (3, zi (nI n)), (4, zi sum), (5, zi (nI c))]) dX11_worthOfItems_44 (by decide) rfl rfl ?_
      refine zx_aload_n (k := 1) (nn := 47) dX11_worthOfItems_46 rfl rfl rfl ?_
      refine zx_iload (k := 0) (nn := 49) dX11_worthOfItems_47 rfl rfl ?_
      refine zx_i2l (nn := 50) dX11_worthOfItems_49 rfl ?_
      refine zx_callVf (nn := 53) (k := 0) (d' := 1) (as := [zj ((μ 20 (40 * k + j)).toInt64)]) (rest := []) (n := 1) (eX11_isAct_0 σ μ1 ((μ 20 (40 * k + j)).toInt64)  okm) kX11_isAct mlX11_367 rfl rfl rfl (by decide) rfl rfl (Nat.le_of_ble_eq_true rfl) dX11_worthOfItems_50 rfl ?_
      show zX shR σ 7 MX11_worthOfItems 53 [(6, zi (μ 20 (40 * k + j))), (0, zr 0), (1, zi (nI k)), (2, zi i), (3, zi (nI n)), (4, zi sum), (5, zi (nI c))] [zi (zb (decide (0 ≤ ((μ 20 (40 * k + j)).toInt64)) && decide (((μ 20 (40 * k + j)).toInt64) ≤ (nI (pL (rS 1 μ1))).toInt64)))] μ1 _
      rw [show zb (decide (0 ≤ ((μ 20 (40 * k + j)).toInt64)) && decide (((μ 20 (40 * k + j)).toInt64) ≤ (nI (pL (rS 1 μ1))).toInt64)) = zb (decide (μ 20 (40 * k + j) = 0) || pHas (rS 1 μ1 0) (μ 20 (40 * k + j) - 1)) from (congrArg zb (act_r (x := μ 20 (40 * k + j)) (ok_L okm).2)).trans (by rw [← hL0])]
      show zX shR σ 7 MX11_worthOfItems 53 [(6, zi (μ 20 (40 * k + j))), (0, zr 0), (1, zi (nI k)), (2, zi i), (3, zi (nI n)), (4, zi sum), (5, zi (nI c))] [zi (zb (decide (μ 20 (40 * k + j) = 0) || pHas (rS 1 μ1 0) (μ 20 (40 * k + j) - 1)))] μ1 _
      refine zx_ifb_eq (tgt := 63) (nn := 56) dX11_worthOfItems_53 (by decide) rfl (fun h53 => ?_) (fun h53 => ?_)
      · refine zx_bipush (v := -4) (nn := 65) rfl dX11_worthOfItems_63 rfl ?_
        refine zx_iret rfl dX11_worthOfItems_65 ?_
        have hlt : c < n := nI_nle_lt h9 (by omega)
        have hE : _ = _ := hI6
        rw [show n - c = (n - (c + 1)) + 1 by omega, pItems_s hhas ee, if_neg (show ¬ ((decide (μ 20 (40 * k + j) = 0) || pHas (rS 1 μ1 0) (μ 20 (40 * k + j) - 1)) && !pOver (rS 1 μ1)) = true by rw [h53]; simp), if_pos rfl] at hE
        refine ⟨congrArg (fun x => some (zi x)) ?_, hq, hj⟩
        rw [hE]
      · refine zx_aload_n (k := 1) (nn := 57) dX11_worthOfItems_56 rfl rfl rfl ?_
        refine zx_callVf (nn := 60) (k := 0) (d' := 0) (as := []) (rest := []) (n := 0) (eX11_isOver_0 σ μ1   ) kX11_isOver mlX11_96 rfl rfl rfl (by decide) rfl rfl (Nat.le_of_ble_eq_true rfl) dX11_worthOfItems_57 rfl ?_
        show zX shR σ 7 MX11_worthOfItems 60 [(6, zi (μ 20 (40 * k + j))), (0, zr 0), (1, zi (nI k)), (2, zi i), (3, zi (nI n)), (4, zi sum), (5, zi (nI c))] [zi (zb (pOver (rS 1 μ1)))] μ1 _
        refine zx_ifb_eq (tgt := 66) (nn := 63) dX11_worthOfItems_60 (by decide) rfl (fun h60 => ?_) (fun h60 => ?_)
        · have hbm : pb (rS 1 μ1) < pB (rS 1 μ1) := pOver_b okm h60
          have hac : ((decide (μ 20 (40 * k + j) = 0) || pHas (rS 1 μ1 0) (μ 20 (40 * k + j) - 1)) && !pOver (rS 1 μ1)) = true := by rw [h53, h60]; rfl
          refine zx_iload (k := 5) (nn := 68) dX11_worthOfItems_66 rfl rfl ?_
          refine zx_aload_n (k := 1) (nn := 69) dX11_worthOfItems_68 rfl rfl rfl ?_
          refine zx_iload (k := 0) (nn := 71) dX11_worthOfItems_69 rfl rfl ?_
          refine zx_callV (nn := 74) (k := 0) (d' := 6) (as := [zi (μ 20 (40 * k + j))]) (rest := [zi sum]) (n := 1) (eX11_goes_0 σ μ1 (μ 20 (40 * k + j)) okm abm hρm hbm) kX11_goes mlX11_284 rfl rfl rfl (by decide) rfl rfl (Nat.le_of_ble_eq_true rfl) dX11_worthOfItems_71 rfl ?_
          rintro _ ν1 ⟨rfl, g1, g2, g3⟩
          show zX shR σ 7 MX11_worthOfItems 74 [(6, zi (μ 20 (40 * k + j))), (0, zr 0), (1, zi (nI k)), (2, zi i), (3, zi (nI n)), (4, zi sum), (5, zi (nI c))] [zi (pGain ρ (rS 1 μ1) (μ 20 (40 * k + j) - 1)), zi sum] ν1 _
          have okg : pOK (rS 1 ν1) := by rw [g1]; exact pOK_go okm hbm
          have abg : pAB (rS 1 ν1) := by rw [g1]; exact pAB_go okm abm
          have hqg : rQ μ ν1 := rQ_tr hq g2
          have hjg : zJ [1, 4, 6] μ ν1 := hj.tr (g3.mono (by simp))
          refine zx_iadd (nn := 75) dX11_worthOfItems_74 rfl ?_
          refine zx_istore (nn := 77) (lv' := [(4, zi (sum + (pGain ρ (rS 1 μ1) (μ 20 (40 * k + j) - 1)))), (6, zi (μ 20 (40 * k + j))), (0, zr 0), (1, zi (nI k)), (2, zi i), (3, zi (nI n)), (5, zi (nI c))]) dX11_worthOfItems_75 (by decide) rfl rfl ?_
          refine zx_iinc (k := 6) (v := nI (c + 1)) (lv' := [(5, zi (nI (c + 1))), (4, zi (sum + (pGain ρ (rS 1 μ1) (μ 20 (40 * k + j) - 1)))), (6, zi (μ 20 (40 * k + j))), (0, zr 0), (1, zi (nI k)), (2, zi i), (3, zi (nI n))]) (nn := 80) dX11_worthOfItems_77 rfl (nI_1 c) (by decide) rfl rfl ?_
          refine zx_goto (tgt := 6) dX11_worthOfItems_80 (by decide) ?_
          refine zx_lv (lv' := [(0, zr 0), (1, zi (nI k)), (2, zi i), (3, zi (nI n)), (4, zi (sum + (pGain ρ (rS 1 μ1) (μ 20 (40 * k + j) - 1)))), (5, zi (nI (c + 1)))]) [3, 4, 5, 6, 1, 0] rfl ?_
          exact ih6 (c + 1, sum + pGain ρ (rS 1 μ1) (μ 20 (40 * k + j) - 1), ν1) (show (c + 1) ≤ n ∧ pOK (rS 1 ν1) ∧ pAB (rS 1 ν1) ∧ rQ μ ν1 ∧ zJ [1, 4, 6] μ ν1 ∧ pItems ρ (nI ln) (fun j_ => μ 20 (40 * k + j_)) i true n 0 0 (rS 1 μ) = pItems ρ (nI ln) (fun j_ => μ 20 (40 * k + j_)) i true (n - (c + 1)) (c + 1) (sum + pGain ρ (rS 1 μ1) (μ 20 (40 * k + j) - 1)) (rS 1 ν1) from ⟨by omega, okg, abg, hqg, hjg, by rw [hI6, show n - c = (n - (c + 1)) + 1 by omega, pItems_s hhas ee]; show (if ((decide (μ 20 (40 * k + j) = 0) || pHas (rS 1 μ1 0) (μ 20 (40 * k + j) - 1)) && !pOver (rS 1 μ1)) = true then _ else if (_ : Bool) = true then _ else _) = _; rw [if_pos hac, g1]⟩) (by show n - (c + 1) < n - c; omega)
        · refine zx_bipush (v := -4) (nn := 65) rfl dX11_worthOfItems_63 rfl ?_
          refine zx_iret rfl dX11_worthOfItems_65 ?_
          have hlt : c < n := nI_nle_lt h9 (by omega)
          have hE : _ = _ := hI6
          rw [show n - c = (n - (c + 1)) + 1 by omega, pItems_s hhas ee, if_neg (show ¬ ((decide (μ 20 (40 * k + j) = 0) || pHas (rS 1 μ1 0) (μ 20 (40 * k + j) - 1)) && !pOver (rS 1 μ1)) = true by rw [h60]; simp), if_pos rfl] at hE
          refine ⟨congrArg (fun x => some (zi x)) ?_, hq, hj⟩
          rw [hE]
    · refine zx_bipush (v := -12) (nn := 28) rfl dX11_worthOfItems_26 rfl ?_
      refine zx_iret rfl dX11_worthOfItems_28 ?_
      have hlt : c < n := nI_nle_lt h9 (by omega)
      rw [show n - c = (n - (c + 1)) + 1 by omega, pItems_n h23] at hI6
      have hE := hI6
      refine ⟨congrArg (fun x => some (zi x)) ?_, hq, hj⟩
      rw [hE]
set_option maxHeartbeats 4000000 in
set_option maxRecDepth 100000 in
theorem eX11_wouldBe_0 (σ : zG) (μ : zM) (k : Int32) (i : Int32) (n : Int32) {ρ : pR} (ok : pOK (rS 1 μ)) (ab : pAB (rS 1 μ)) (hρ : rRep ρ (μ 1)) (hs : gSh μ) : zMet shR σ 8 MX11_wouldBe yX11_wouldBe [zr 0, zi k, zi i, zi n] μ (fun rr μ' => rr = some (zi (if gNo μ k n = 0 then (pItems ρ (μ 19 k.toNatClampNeg) (fun j_ => μ 20 (40 * k.toNatClampNeg + j_)) i true n.toNatClampNeg 0 0 (rS 1 μ)).1 else gNo μ k n)) ∧ zJ [4, 6, 7] μ μ') := by
  refine zmetF (by decide +kernel) rfl (Nat.le_of_ble_eq_true rfl) ?_
  show zX shR σ 8 MX11_wouldBe 0 [(0, zr 0), (1, zi k), (2, zi i), (3, zi n)] [] μ _
  refine zx_aload_n (k := 0) (nn := 1) dX11_wouldBe_0 rfl rfl rfl ?_
  refine zx_iload_n (k := 1) (nn := 2) dX11_wouldBe_1 rfl rfl rfl ?_
  refine zx_iload_n (k := 3) (nn := 3) dX11_wouldBe_2 rfl rfl rfl ?_
  refine zx_callVf (nn := 6) (k := 0) (d' := 2) (as := [zi k, zi n]) (rest := []) (n := 2) (eX11_noActs_0 σ μ k n  ) kX11_noActs mlX11_382 rfl rfl rfl (by decide) rfl rfl (Nat.le_of_ble_eq_true rfl) dX11_wouldBe_3 rfl ?_
  show zX shR σ 8 MX11_wouldBe 6 [(0, zr 0), (1, zi k), (2, zi i), (3, zi n)] [zi (if pHas 4 k = true ∧ pIn n 0 20 = true then (if μ 18 k.toNatClampNeg < 0 then -11 else if μ 18 k.toNatClampNeg = 0 then 0 else -13) else -1)] μ _
  show zX shR σ 8 MX11_wouldBe 6 [(0, zr 0), (1, zi k), (2, zi i), (3, zi n)] [zi (gNo μ k n)] μ _
  refine zx_istore (nn := 8) (lv' := [(4, zi (gNo μ k n)), (0, zr 0), (1, zi k), (2, zi i), (3, zi n)]) dX11_wouldBe_6 (by decide) rfl rfl ?_
  refine zx_iload (k := 0) (nn := 10) dX11_wouldBe_8 rfl rfl ?_
  refine zx_if_eq (tgt := 16) (nn := 13) dX11_wouldBe_10 (by decide) rfl (fun h10 => ?_) (fun h10 => ?_)
  · obtain ⟨hg1, hg2, hg3⟩ := gNo_0 h10
    obtain ⟨k1, n_k, rfl⟩ := has4 hg1
    show zX shR σ 8 MX11_wouldBe 16 [(4, zi (gNo μ (nI k1) n)), (0, zr 0), (1, zi (nI k1)), (2, zi i), (3, zi n)] [] μ _
    obtain ⟨n1, n_n, rfl⟩ := pIn_n (b := 20) (by omega) (by decide) hg2
    show zX shR σ 8 MX11_wouldBe 16 [(4, zi (gNo μ (nI k1) (nI n1))), (0, zr 0), (1, zi (nI k1)), (2, zi i), (3, zi (nI n1))] [] μ _
    obtain ⟨hsr, ln, hl40, hln⟩ := hs k1 n_k.1
    have hk_ := n_k.1
    have hn20 := n_n.1
    refine zx_aload_n (k := 1) (nn := 17) dX11_wouldBe_16 rfl rfl rfl ?_
    refine zx_aload_n (k := 1) (nn := 18) dX11_wouldBe_17 rfl rfl rfl ?_
    refine zx_getR (q := 7) (nn := 21) flX11_28 rfl rfl dX11_wouldBe_18 rfl ?_
    refine zx_callV (nn := 24) (k := 0) (d' := 0) (as := [zr 7]) (rest := []) (n := 1) (eX11_saves_7 σ μ) kX11_saves mlX11_292 rfl rfl rfl (by decide) rfl rfl (Nat.le_of_ble_eq_true rfl) dX11_wouldBe_21 rfl ?_
    rintro _ ν1 ⟨rfl, q1⟩
    show zX shR σ 8 MX11_wouldBe 24 [(4, zi (gNo μ (nI k1) (nI n1))), (0, zr 0), (1, zi (nI k1)), (2, zi i), (3, zi (nI n1))] [] ν1 _
    refine zx_aload_n (k := 1) (nn := 25) dX11_wouldBe_24 rfl rfl rfl ?_
    refine zx_iload_n (k := 2) (nn := 26) dX11_wouldBe_25 rfl rfl rfl ?_
    refine zx_iload_n (k := 3) (nn := 27) dX11_wouldBe_26 rfl rfl rfl ?_
    refine zx_iload_n (k := 4) (nn := 28) dX11_wouldBe_27 rfl rfl rfl ?_
    refine zx_callV (nn := 31) (k := 0) (d' := 7) (as := [zi (nI k1), zi i, zi (nI n1)]) (rest := []) (n := 3) (eX11_worthOfItems_0 σ ν1 k1 i n1 ln (by rw [rS_eq (q1.1 1 (by decide))]; exact ok) (by rw [rS_eq (q1.1 1 (by decide))]; exact ab) (by rw [q1.1 1 (by decide)]; exact hρ) hk_ (by rw [q1.1 19 (by decide)]; exact hln) hl40 hn20) kX11_worthOfItems mlX11_389 rfl rfl rfl (by decide) rfl rfl (Nat.le_of_ble_eq_true rfl) dX11_wouldBe_28 rfl ?_
    rintro _ ν2 ⟨rfl, w1, w2⟩
    show zX shR σ 8 MX11_wouldBe 31 [(4, zi (gNo μ (nI k1) (nI n1))), (0, zr 0), (1, zi (nI k1)), (2, zi i), (3, zi (nI n1))] [zi ((pItems ρ (nI ln) (fun j_ => ν1 20 (40 * k1 + j_)) i true n1 0 0 (rS 1 ν1)).1)] ν2 _
    refine zx_istore (nn := 33) (lv' := [(5, zi ((pItems ρ (nI ln) (fun j_ => ν1 20 (40 * k1 + j_)) i true n1 0 0 (rS 1 ν1)).1)), (4, zi (gNo μ (nI k1) (nI n1))), (0, zr 0), (1, zi (nI k1)), (2, zi i), (3, zi (nI n1))]) dX11_wouldBe_31 (by decide) rfl rfl ?_
    refine zx_aload_n (k := 2) (nn := 34) dX11_wouldBe_33 rfl rfl rfl ?_
    refine zx_aload_n (k := 2) (nn := 35) dX11_wouldBe_34 rfl rfl rfl ?_
    refine zx_getR (q := 7) (nn := 38) flX11_28 rfl rfl dX11_wouldBe_35 rfl ?_
    refine zx_callV (nn := 41) (k := 0) (d' := 0) (as := [zr 7]) (rest := []) (n := 1) (eX11_putsBack_7 σ ν2) kX11_putsBack mlX11_296 rfl rfl rfl (by decide) rfl rfl (Nat.le_of_ble_eq_true rfl) dX11_wouldBe_38 rfl ?_
    rintro _ ν3 ⟨rfl, q3⟩
    show zX shR σ 8 MX11_wouldBe 41 [(5, zi ((pItems ρ (nI ln) (fun j_ => ν1 20 (40 * k1 + j_)) i true n1 0 0 (rS 1 ν1)).1)), (4, zi (gNo μ (nI k1) (nI n1))), (0, zr 0), (1, zi (nI k1)), (2, zi i), (3, zi (nI n1))] [] ν3 _
    refine zx_iload (k := 0) (nn := 43) dX11_wouldBe_41 rfl rfl ?_
    refine zx_iret rfl dX11_wouldBe_43 ?_
    refine ⟨congrArg (fun x => some (zi x)) ?_, zJ_drop (k := 1) ((q1.1.mono (by simp)).tr ((w2.mono (by simp)).tr (q3.1.mono (by simp)))) (q3.2.trans (rPb_eq (by rw [w2 7 (by decide)]; exact q1.2) (rQ_tr (rQ_e (q1.1 1 (by decide))) w1))) (J := [1, 4, 6, 7]) (by decide)⟩
    rw [if_pos h10, n_k.2.2, n_n.2, hln, rS_eq (q1.1 1 (by decide)), q1.1 20 (by decide)]
  · refine zx_iload (k := 0) (nn := 15) dX11_wouldBe_13 rfl rfl ?_
    refine zx_iret rfl dX11_wouldBe_15 ?_
    exact ⟨congrArg (fun x => some (zi x)) (by rw [if_neg h10]), zJ.rf⟩
set_option maxHeartbeats 4000000 in
set_option maxRecDepth 100000 in
theorem eX11_shelf_0 (σ : zG) (μ : zM) (h : Int32) (w : Int32) (n : Int32) (ok : pOK (rS 1 μ)) : zMet shR σ 2 MX11_shelf yX11_shelf [zr 0, zi h, zi w, zi n] μ (fun rr μ' => rr = some (zi (vShelf (rS 1 μ) h w n)) ∧ μ' = if vShelf (rS 1 μ) h w n = 1 then gShelf μ h w n else μ) := by
  refine zmetF (by decide +kernel) rfl (Nat.le_of_ble_eq_true rfl) ?_
  show zX shR σ 2 MX11_shelf 0 [(0, zr 0), (1, zi h), (2, zi w), (3, zi n)] [] μ _
  refine zx_iload_n (k := 2) (nn := 1) dX11_shelf_0 rfl rfl rfl ?_
  refine zx_if_ne (tgt := 12) (nn := 4) dX11_shelf_1 (by decide) rfl (fun h1 => ?_) (fun h1 => ?_)
  · refine zx_iload_n (k := 2) (nn := 13) dX11_shelf_12 rfl rfl rfl ?_
    refine zx_iconst (v := 1) (nn := 14) rfl dX11_shelf_13 rfl ?_
    refine zx_icmp_ne (tgt := 24) (nn := 17) dX11_shelf_14 (by decide) rfl (fun h14 => ?_) (fun h14 => ?_)
    · refine zx_iload_n (k := 2) (nn := 25) dX11_shelf_24 rfl rfl rfl ?_
      refine zx_iconst (v := 2) (nn := 26) rfl dX11_shelf_25 rfl ?_
      refine zx_icmp_ne (tgt := 33) (nn := 29) dX11_shelf_26 (by decide) rfl (fun h26 => ?_) (fun h26 => ?_)
      · refine zx_iconst (v := 0) (nn := 34) rfl dX11_shelf_33 rfl ?_
        refine zx_istore (nn := 36) (lv' := [(4, zi 0), (0, zr 0), (1, zi h), (2, zi w), (3, zi n)]) dX11_shelf_34 (by decide) rfl rfl ?_
        refine zx_iload_n (k := 2) (nn := 37) dX11_shelf_36 rfl rfl rfl ?_
        refine zx_callSf (nn := 40) (d' := 1) (as := [zi h]) (rest := []) (n := 1) (eX11_isSheet σ μ h  ) kX11_isSheet mlX11_371 (by decide) rfl rfl (Nat.le_of_ble_eq_true rfl) dX11_shelf_37 rfl ?_
        show zX shR σ 2 MX11_shelf 40 [(4, zi 0), (0, zr 0), (1, zi h), (2, zi w), (3, zi n)] [zi (zb (pHas 4 h))] μ _
        refine zx_ifb_eq (tgt := 48) (nn := 43) dX11_shelf_40 (by decide) rfl (fun h40 => ?_) (fun h40 => ?_)
        · refine zx_iconst (v := -1) (nn := 49) rfl dX11_shelf_48 rfl ?_
          refine zx_iret rfl dX11_shelf_49 ?_
          exact ⟨congrArg (fun x => some (zi x)) (by unfold vShelf; rw [if_neg (by rw [h40]; decide)]), by rw [if_neg (by unfold vShelf; rw [if_neg (by rw [h40]; decide)]; decide)]⟩
        · refine zx_iload (k := 0) (nn := 45) dX11_shelf_43 rfl rfl ?_
          refine zx_if_ne (tgt := 50) (nn := 48) dX11_shelf_45 (by decide) rfl (fun h45 => ?_) (fun h45 => ?_)
          · exact absurd h45 (by decide)
          · refine zx_iconst (v := -1) (nn := 49) rfl dX11_shelf_48 rfl ?_
            refine zx_iret rfl dX11_shelf_49 ?_
            have hv : vShelf (rS 1 μ) h w n = -1 := by simp [vShelf, h1, h14, h26, h40]
            exact ⟨congrArg (fun x => some (zi x)) hv.symm, by rw [if_neg (by rw [hv]; decide)]⟩
      · obtain rfl := h26
        show zX shR σ 2 MX11_shelf 29 [(0, zr 0), (1, zi h), (2, zi 2), (3, zi n)] [] μ _
        refine zx_iconst (v := 1) (nn := 30) rfl dX11_shelf_29 rfl ?_
        refine zx_goto (tgt := 34) dX11_shelf_30 (by decide) ?_
        refine zx_istore (nn := 36) (lv' := [(4, zi 1), (0, zr 0), (1, zi h), (2, zi 2), (3, zi n)]) dX11_shelf_34 (by decide) rfl rfl ?_
        refine zx_iload_n (k := 2) (nn := 37) dX11_shelf_36 rfl rfl rfl ?_
        refine zx_callSf (nn := 40) (d' := 1) (as := [zi h]) (rest := []) (n := 1) (eX11_isSheet σ μ h  ) kX11_isSheet mlX11_371 (by decide) rfl rfl (Nat.le_of_ble_eq_true rfl) dX11_shelf_37 rfl ?_
        show zX shR σ 2 MX11_shelf 40 [(4, zi 1), (0, zr 0), (1, zi h), (2, zi 2), (3, zi n)] [zi (zb (pHas 4 h))] μ _
        refine zx_ifb_eq (tgt := 48) (nn := 43) dX11_shelf_40 (by decide) rfl (fun h40 => ?_) (fun h40 => ?_)
        · refine zx_iconst (v := -1) (nn := 49) rfl dX11_shelf_48 rfl ?_
          refine zx_iret rfl dX11_shelf_49 ?_
          exact ⟨congrArg (fun x => some (zi x)) (by unfold vShelf; rw [if_neg (by rw [h40]; decide)]), by rw [if_neg (by unfold vShelf; rw [if_neg (by rw [h40]; decide)]; decide)]⟩
        · refine zx_iload (k := 0) (nn := 45) dX11_shelf_43 rfl rfl ?_
          refine zx_if_ne (tgt := 50) (nn := 48) dX11_shelf_45 (by decide) rfl (fun h45 => ?_) (fun h45 => ?_)
          · obtain ⟨k1, n_h, rfl⟩ := has4 h40
            show zX shR σ 2 MX11_shelf 50 [(4, zi 1), (0, zr 0), (1, zi (nI k1)), (2, zi 2), (3, zi n)] [] μ _
            refine zx_aload_n (k := 1) (nn := 51) dX11_shelf_50 rfl rfl rfl ?_
            refine zx_getR (q := 21) (nn := 54) flX11_58 rfl rfl dX11_shelf_51 rfl ?_
            refine zx_iload_n (k := 2) (nn := 55) dX11_shelf_54 rfl rfl rfl ?_
            refine zx_iload_n (k := 3) (nn := 56) dX11_shelf_55 rfl rfl rfl ?_
            refine zx_if_ne (tgt := 63) (nn := 59) dX11_shelf_56 (by decide) rfl (fun h56 => ?_) (fun h56 => ?_)
            · refine zx_iload_n (k := 3) (nn := 64) dX11_shelf_63 rfl rfl rfl ?_
              refine zx_iconst (v := 1) (nn := 65) rfl dX11_shelf_64 rfl ?_
              refine zx_icmp_ne (tgt := 81) (nn := 68) dX11_shelf_65 (by decide) rfl (fun h65 => ?_) (fun h65 => ?_)
              · refine zx_iconst (v := 0) (nn := 82) rfl dX11_shelf_81 rfl ?_
                refine zx_iast_n (j := k1) (nn := 83) rfl n_h.1 (by decide) dX11_shelf_82 rfl ?_
                refine zx_aload_n (k := 1) (nn := 84) dX11_shelf_83 rfl rfl rfl ?_
                refine zx_getR (q := 22) (nn := 87) flX11_61 rfl rfl dX11_shelf_84 rfl ?_
                refine zx_iload_n (k := 2) (nn := 88) dX11_shelf_87 rfl rfl rfl ?_
                refine zx_iload_n (k := 3) (nn := 89) dX11_shelf_88 rfl rfl rfl ?_
                refine zx_iconst (v := 1) (nn := 90) rfl dX11_shelf_89 rfl ?_
                refine zx_icmp_ne (tgt := 102) (nn := 93) dX11_shelf_90 (by decide) rfl (fun h90 => ?_) (fun h90 => ?_)
                · refine zx_iload_n (k := 4) (nn := 103) dX11_shelf_102 rfl rfl rfl ?_
                  refine zx_iast_n (j := k1) (nn := 104) rfl n_h.1 (by decide) dX11_shelf_103 rfl ?_
                  refine zx_aload_n (k := 1) (nn := 105) dX11_shelf_104 rfl rfl rfl ?_
                  refine zx_getR (q := 23) (nn := 108) flX11_64 rfl rfl dX11_shelf_105 rfl ?_
                  refine zx_iload_n (k := 2) (nn := 109) dX11_shelf_108 rfl rfl rfl ?_
                  refine zx_iload_n (k := 3) (nn := 110) dX11_shelf_109 rfl rfl rfl ?_
                  refine zx_iconst (v := 1) (nn := 111) rfl dX11_shelf_110 rfl ?_
                  refine zx_icmp_ne (tgt := 123) (nn := 114) dX11_shelf_111 (by decide) rfl (fun h111 => ?_) (fun h111 => ?_)
                  · refine zx_iconst (v := 0) (nn := 124) rfl dX11_shelf_123 rfl ?_
                    refine zx_iast_n (j := k1) (nn := 125) rfl n_h.1 (by decide) dX11_shelf_124 rfl ?_
                    refine zx_iconst (v := 1) (nn := 126) rfl dX11_shelf_125 rfl ?_
                    refine zx_iret rfl dX11_shelf_126 ?_
                    have hv : vShelf (rS 1 μ) (nI k1) 2 n = 1 := by simp [vShelf, h40]
                    refine ⟨congrArg (fun x => some (zi x)) hv.symm, ?_⟩
                    rw [if_pos hv]
                    unfold gShelf
                    rw [n_h.2.2]
                    simp
                  · exact absurd h111 (by decide)
                · exact absurd h90 (by decide)
              · exact absurd h65 (by decide)
            · exact absurd h56 (by decide)
          · exact absurd h45 (by decide)
    · refine zx_iload_n (k := 3) (nn := 18) dX11_shelf_17 rfl rfl rfl ?_
      refine zx_callSf (nn := 21) (d' := 1) (as := [zi n]) (rest := []) (n := 1) (eX11_isSheet σ μ n  ) kX11_isSheet mlX11_371 (by decide) rfl rfl (Nat.le_of_ble_eq_true rfl) dX11_shelf_18 rfl ?_
      show zX shR σ 2 MX11_shelf 21 [(0, zr 0), (1, zi h), (2, zi w), (3, zi n)] [zi (zb (pHas 4 n))] μ _
      refine zx_ifb_ne (tgt := 29) (nn := 24) dX11_shelf_21 (by decide) rfl (fun h21 => ?_) (fun h21 => ?_)
      · obtain rfl := h14
        show zX shR σ 2 MX11_shelf 29 [(0, zr 0), (1, zi h), (2, zi 1), (3, zi n)] [] μ _
        refine zx_iconst (v := 1) (nn := 30) rfl dX11_shelf_29 rfl ?_
        refine zx_goto (tgt := 34) dX11_shelf_30 (by decide) ?_
        refine zx_istore (nn := 36) (lv' := [(4, zi 1), (0, zr 0), (1, zi h), (2, zi 1), (3, zi n)]) dX11_shelf_34 (by decide) rfl rfl ?_
        refine zx_iload_n (k := 2) (nn := 37) dX11_shelf_36 rfl rfl rfl ?_
        refine zx_callSf (nn := 40) (d' := 1) (as := [zi h]) (rest := []) (n := 1) (eX11_isSheet σ μ h  ) kX11_isSheet mlX11_371 (by decide) rfl rfl (Nat.le_of_ble_eq_true rfl) dX11_shelf_37 rfl ?_
        show zX shR σ 2 MX11_shelf 40 [(4, zi 1), (0, zr 0), (1, zi h), (2, zi 1), (3, zi n)] [zi (zb (pHas 4 h))] μ _
        refine zx_ifb_eq (tgt := 48) (nn := 43) dX11_shelf_40 (by decide) rfl (fun h40 => ?_) (fun h40 => ?_)
        · refine zx_iconst (v := -1) (nn := 49) rfl dX11_shelf_48 rfl ?_
          refine zx_iret rfl dX11_shelf_49 ?_
          exact ⟨congrArg (fun x => some (zi x)) (by unfold vShelf; rw [if_neg (by rw [h40]; decide)]), by rw [if_neg (by unfold vShelf; rw [if_neg (by rw [h40]; decide)]; decide)]⟩
        · refine zx_iload (k := 0) (nn := 45) dX11_shelf_43 rfl rfl ?_
          refine zx_if_ne (tgt := 50) (nn := 48) dX11_shelf_45 (by decide) rfl (fun h45 => ?_) (fun h45 => ?_)
          · obtain ⟨k1, n_h, rfl⟩ := has4 h40
            show zX shR σ 2 MX11_shelf 50 [(4, zi 1), (0, zr 0), (1, zi (nI k1)), (2, zi 1), (3, zi n)] [] μ _
            refine zx_aload_n (k := 1) (nn := 51) dX11_shelf_50 rfl rfl rfl ?_
            refine zx_getR (q := 21) (nn := 54) flX11_58 rfl rfl dX11_shelf_51 rfl ?_
            refine zx_iload_n (k := 2) (nn := 55) dX11_shelf_54 rfl rfl rfl ?_
            refine zx_iload_n (k := 3) (nn := 56) dX11_shelf_55 rfl rfl rfl ?_
            refine zx_if_ne (tgt := 63) (nn := 59) dX11_shelf_56 (by decide) rfl (fun h56 => ?_) (fun h56 => ?_)
            · refine zx_iload_n (k := 3) (nn := 64) dX11_shelf_63 rfl rfl rfl ?_
              refine zx_iconst (v := 1) (nn := 65) rfl dX11_shelf_64 rfl ?_
              refine zx_icmp_ne (tgt := 81) (nn := 68) dX11_shelf_65 (by decide) rfl (fun h65 => ?_) (fun h65 => ?_)
              · exact absurd h65 (by decide)
              · obtain ⟨n1, n_n, rfl⟩ := has4 h21
                show zX shR σ 2 MX11_shelf 68 [(4, zi 1), (0, zr 0), (1, zi (nI k1)), (2, zi 1), (3, zi (nI n1))] [zi (nI k1), zr 21] μ _
                refine zx_aload_n (k := 1) (nn := 69) dX11_shelf_68 rfl rfl rfl ?_
                refine zx_getR (q := 18) (nn := 72) flX11_48 rfl rfl dX11_shelf_69 rfl ?_
                refine zx_iload_n (k := 4) (nn := 73) dX11_shelf_72 rfl rfl rfl ?_
                refine zx_iald_n (j := n1) (nn := 74) rfl n_n.1 (by decide) dX11_shelf_73 rfl ?_
                refine zx_if_lt (tgt := 81) (nn := 77) dX11_shelf_74 (by decide) rfl (fun h74 => ?_) (fun h74 => ?_)
                · refine zx_iconst (v := 0) (nn := 82) rfl dX11_shelf_81 rfl ?_
                  refine zx_iast_n (j := k1) (nn := 83) rfl n_h.1 (by decide) dX11_shelf_82 rfl ?_
                  refine zx_aload_n (k := 1) (nn := 84) dX11_shelf_83 rfl rfl rfl ?_
                  refine zx_getR (q := 22) (nn := 87) flX11_61 rfl rfl dX11_shelf_84 rfl ?_
                  refine zx_iload_n (k := 2) (nn := 88) dX11_shelf_87 rfl rfl rfl ?_
                  refine zx_iload_n (k := 3) (nn := 89) dX11_shelf_88 rfl rfl rfl ?_
                  refine zx_iconst (v := 1) (nn := 90) rfl dX11_shelf_89 rfl ?_
                  refine zx_icmp_ne (tgt := 102) (nn := 93) dX11_shelf_90 (by decide) rfl (fun h90 => ?_) (fun h90 => ?_)
                  · exact absurd h90 (by decide)
                  · refine zx_aload_n (k := 1) (nn := 94) dX11_shelf_93 rfl rfl rfl ?_
                    refine zx_getR (q := 19) (nn := 97) flX11_51 rfl rfl dX11_shelf_94 rfl ?_
                    refine zx_iload_n (k := 4) (nn := 98) dX11_shelf_97 rfl rfl rfl ?_
                    refine zx_iald_n (j := n1) (nn := 99) rfl n_n.1 (by decide) dX11_shelf_98 rfl ?_
                    show zX shR σ 2 MX11_shelf 99 [(4, zi 1), (0, zr 0), (1, zi (nI k1)), (2, zi 1), (3, zi (nI n1))] [zi (μ 19 n1), zi (nI k1), zr 22] (zp μ 21 k1 0) _
                    refine zx_goto (tgt := 103) dX11_shelf_99 (by decide) ?_
                    refine zx_iast_n (j := k1) (nn := 104) rfl n_h.1 (by decide) dX11_shelf_103 rfl ?_
                    refine zx_aload_n (k := 1) (nn := 105) dX11_shelf_104 rfl rfl rfl ?_
                    refine zx_getR (q := 23) (nn := 108) flX11_64 rfl rfl dX11_shelf_105 rfl ?_
                    refine zx_iload_n (k := 2) (nn := 109) dX11_shelf_108 rfl rfl rfl ?_
                    refine zx_iload_n (k := 3) (nn := 110) dX11_shelf_109 rfl rfl rfl ?_
                    refine zx_iconst (v := 1) (nn := 111) rfl dX11_shelf_110 rfl ?_
                    refine zx_icmp_ne (tgt := 123) (nn := 114) dX11_shelf_111 (by decide) rfl (fun h111 => ?_) (fun h111 => ?_)
                    · exact absurd h111 (by decide)
                    · refine zx_aload_n (k := 1) (nn := 115) dX11_shelf_114 rfl rfl rfl ?_
                      refine zx_getR (q := 18) (nn := 118) flX11_48 rfl rfl dX11_shelf_115 rfl ?_
                      refine zx_iload_n (k := 4) (nn := 119) dX11_shelf_118 rfl rfl rfl ?_
                      refine zx_iald_n (j := n1) (nn := 120) rfl n_n.1 (by decide) dX11_shelf_119 rfl ?_
                      show zX shR σ 2 MX11_shelf 120 [(4, zi 1), (0, zr 0), (1, zi (nI k1)), (2, zi 1), (3, zi (nI n1))] [zi (μ 18 n1), zi (nI k1), zr 23] (zp (zp μ 21 k1 0) 22 k1 (μ 19 n1)) _
                      refine zx_goto (tgt := 124) dX11_shelf_120 (by decide) ?_
                      refine zx_iast_n (j := k1) (nn := 125) rfl n_h.1 (by decide) dX11_shelf_124 rfl ?_
                      refine zx_iconst (v := 1) (nn := 126) rfl dX11_shelf_125 rfl ?_
                      refine zx_iret rfl dX11_shelf_126 ?_
                      have hv : vShelf (rS 1 μ) (nI k1) 1 (nI n1) = 1 := by simp [vShelf, h40, h21]
                      refine ⟨congrArg (fun x => some (zi x)) hv.symm, ?_⟩
                      rw [if_pos hv]
                      unfold gShelf
                      rw [n_h.2.2, n_n.2.2]
                      rw [if_neg (by decide), if_neg (fun q => q.2 h74), if_pos rfl, if_pos rfl]
                · refine zx_iconst (v := 2) (nn := 78) rfl dX11_shelf_77 rfl ?_
                  refine zx_goto (tgt := 82) dX11_shelf_78 (by decide) ?_
                  refine zx_iast_n (j := k1) (nn := 83) rfl n_h.1 (by decide) dX11_shelf_82 rfl ?_
                  refine zx_aload_n (k := 1) (nn := 84) dX11_shelf_83 rfl rfl rfl ?_
                  refine zx_getR (q := 22) (nn := 87) flX11_61 rfl rfl dX11_shelf_84 rfl ?_
                  refine zx_iload_n (k := 2) (nn := 88) dX11_shelf_87 rfl rfl rfl ?_
                  refine zx_iload_n (k := 3) (nn := 89) dX11_shelf_88 rfl rfl rfl ?_
                  refine zx_iconst (v := 1) (nn := 90) rfl dX11_shelf_89 rfl ?_
                  refine zx_icmp_ne (tgt := 102) (nn := 93) dX11_shelf_90 (by decide) rfl (fun h90 => ?_) (fun h90 => ?_)
                  · exact absurd h90 (by decide)
                  · refine zx_aload_n (k := 1) (nn := 94) dX11_shelf_93 rfl rfl rfl ?_
                    refine zx_getR (q := 19) (nn := 97) flX11_51 rfl rfl dX11_shelf_94 rfl ?_
                    refine zx_iload_n (k := 4) (nn := 98) dX11_shelf_97 rfl rfl rfl ?_
                    refine zx_iald_n (j := n1) (nn := 99) rfl n_n.1 (by decide) dX11_shelf_98 rfl ?_
                    show zX shR σ 2 MX11_shelf 99 [(4, zi 1), (0, zr 0), (1, zi (nI k1)), (2, zi 1), (3, zi (nI n1))] [zi (μ 19 n1), zi (nI k1), zr 22] (zp μ 21 k1 2) _
                    refine zx_goto (tgt := 103) dX11_shelf_99 (by decide) ?_
                    refine zx_iast_n (j := k1) (nn := 104) rfl n_h.1 (by decide) dX11_shelf_103 rfl ?_
                    refine zx_aload_n (k := 1) (nn := 105) dX11_shelf_104 rfl rfl rfl ?_
                    refine zx_getR (q := 23) (nn := 108) flX11_64 rfl rfl dX11_shelf_105 rfl ?_
                    refine zx_iload_n (k := 2) (nn := 109) dX11_shelf_108 rfl rfl rfl ?_
                    refine zx_iload_n (k := 3) (nn := 110) dX11_shelf_109 rfl rfl rfl ?_
                    refine zx_iconst (v := 1) (nn := 111) rfl dX11_shelf_110 rfl ?_
                    refine zx_icmp_ne (tgt := 123) (nn := 114) dX11_shelf_111 (by decide) rfl (fun h111 => ?_) (fun h111 => ?_)
                    · exact absurd h111 (by decide)
                    · refine zx_aload_n (k := 1) (nn := 115) dX11_shelf_114 rfl rfl rfl ?_
                      refine zx_getR (q := 18) (nn := 118) flX11_48 rfl rfl dX11_shelf_115 rfl ?_
                      refine zx_iload_n (k := 4) (nn := 119) dX11_shelf_118 rfl rfl rfl ?_
                      refine zx_iald_n (j := n1) (nn := 120) rfl n_n.1 (by decide) dX11_shelf_119 rfl ?_
                      show zX shR σ 2 MX11_shelf 120 [(4, zi 1), (0, zr 0), (1, zi (nI k1)), (2, zi 1), (3, zi (nI n1))] [zi (μ 18 n1), zi (nI k1), zr 23] (zp (zp μ 21 k1 2) 22 k1 (μ 19 n1)) _
                      refine zx_goto (tgt := 124) dX11_shelf_120 (by decide) ?_
                      refine zx_iast_n (j := k1) (nn := 125) rfl n_h.1 (by decide) dX11_shelf_124 rfl ?_
                      refine zx_iconst (v := 1) (nn := 126) rfl dX11_shelf_125 rfl ?_
                      refine zx_iret rfl dX11_shelf_126 ?_
                      have hv : vShelf (rS 1 μ) (nI k1) 1 (nI n1) = 1 := by simp [vShelf, h40, h21]
                      refine ⟨congrArg (fun x => some (zi x)) hv.symm, ?_⟩
                      rw [if_pos hv]
                      unfold gShelf
                      rw [n_h.2.2, n_n.2.2]
                      rw [if_neg (by decide), if_pos ⟨rfl, h74⟩, if_pos rfl, if_pos rfl]
            · exact absurd h56 (by decide)
          · exact absurd h45 (by decide)
      · refine zx_iload_n (k := 2) (nn := 25) dX11_shelf_24 rfl rfl rfl ?_
        refine zx_iconst (v := 2) (nn := 26) rfl dX11_shelf_25 rfl ?_
        refine zx_icmp_ne (tgt := 33) (nn := 29) dX11_shelf_26 (by decide) rfl (fun h26 => ?_) (fun h26 => ?_)
        · refine zx_iconst (v := 0) (nn := 34) rfl dX11_shelf_33 rfl ?_
          refine zx_istore (nn := 36) (lv' := [(4, zi 0), (0, zr 0), (1, zi h), (2, zi w), (3, zi n)]) dX11_shelf_34 (by decide) rfl rfl ?_
          refine zx_iload_n (k := 2) (nn := 37) dX11_shelf_36 rfl rfl rfl ?_
          refine zx_callSf (nn := 40) (d' := 1) (as := [zi h]) (rest := []) (n := 1) (eX11_isSheet σ μ h  ) kX11_isSheet mlX11_371 (by decide) rfl rfl (Nat.le_of_ble_eq_true rfl) dX11_shelf_37 rfl ?_
          show zX shR σ 2 MX11_shelf 40 [(4, zi 0), (0, zr 0), (1, zi h), (2, zi w), (3, zi n)] [zi (zb (pHas 4 h))] μ _
          refine zx_ifb_eq (tgt := 48) (nn := 43) dX11_shelf_40 (by decide) rfl (fun h40 => ?_) (fun h40 => ?_)
          · refine zx_iconst (v := -1) (nn := 49) rfl dX11_shelf_48 rfl ?_
            refine zx_iret rfl dX11_shelf_49 ?_
            exact ⟨congrArg (fun x => some (zi x)) (by unfold vShelf; rw [if_neg (by rw [h40]; decide)]), by rw [if_neg (by unfold vShelf; rw [if_neg (by rw [h40]; decide)]; decide)]⟩
          · refine zx_iload (k := 0) (nn := 45) dX11_shelf_43 rfl rfl ?_
            refine zx_if_ne (tgt := 50) (nn := 48) dX11_shelf_45 (by decide) rfl (fun h45 => ?_) (fun h45 => ?_)
            · exact absurd h45 (by decide)
            · refine zx_iconst (v := -1) (nn := 49) rfl dX11_shelf_48 rfl ?_
              refine zx_iret rfl dX11_shelf_49 ?_
              have hv : vShelf (rS 1 μ) h w n = -1 := by simp [vShelf, h1, h14, h21, h26, h40]
              exact ⟨congrArg (fun x => some (zi x)) hv.symm, by rw [if_neg (by rw [hv]; decide)]⟩
        · exact absurd (h14.symm.trans h26) (by decide)
  · refine zx_aload_n (k := 0) (nn := 5) dX11_shelf_4 rfl rfl rfl ?_
    refine zx_iload_n (k := 3) (nn := 6) dX11_shelf_5 rfl rfl rfl ?_
    refine zx_callVf (nn := 9) (k := 0) (d' := 1) (as := [zi n]) (rest := []) (n := 1) (eX11_isLamp_0 σ μ n  ok) kX11_isLamp mlX11_84 rfl rfl rfl (by decide) rfl rfl (Nat.le_of_ble_eq_true rfl) dX11_shelf_6 rfl ?_
    show zX shR σ 2 MX11_shelf 9 [(0, zr 0), (1, zi h), (2, zi w), (3, zi n)] [zi (zb (pHas ((rS 1 μ) 0) n))] μ _
    refine zx_ifb_ne (tgt := 29) (nn := 12) dX11_shelf_9 (by decide) rfl (fun h9 => ?_) (fun h9 => ?_)
    · obtain rfl := h1
      show zX shR σ 2 MX11_shelf 29 [(0, zr 0), (1, zi h), (2, zi 0), (3, zi n)] [] μ _
      refine zx_iconst (v := 1) (nn := 30) rfl dX11_shelf_29 rfl ?_
      refine zx_goto (tgt := 34) dX11_shelf_30 (by decide) ?_
      refine zx_istore (nn := 36) (lv' := [(4, zi 1), (0, zr 0), (1, zi h), (2, zi 0), (3, zi n)]) dX11_shelf_34 (by decide) rfl rfl ?_
      refine zx_iload_n (k := 2) (nn := 37) dX11_shelf_36 rfl rfl rfl ?_
      refine zx_callSf (nn := 40) (d' := 1) (as := [zi h]) (rest := []) (n := 1) (eX11_isSheet σ μ h  ) kX11_isSheet mlX11_371 (by decide) rfl rfl (Nat.le_of_ble_eq_true rfl) dX11_shelf_37 rfl ?_
      show zX shR σ 2 MX11_shelf 40 [(4, zi 1), (0, zr 0), (1, zi h), (2, zi 0), (3, zi n)] [zi (zb (pHas 4 h))] μ _
      refine zx_ifb_eq (tgt := 48) (nn := 43) dX11_shelf_40 (by decide) rfl (fun h40 => ?_) (fun h40 => ?_)
      · refine zx_iconst (v := -1) (nn := 49) rfl dX11_shelf_48 rfl ?_
        refine zx_iret rfl dX11_shelf_49 ?_
        exact ⟨congrArg (fun x => some (zi x)) (by unfold vShelf; rw [if_neg (by rw [h40]; decide)]), by rw [if_neg (by unfold vShelf; rw [if_neg (by rw [h40]; decide)]; decide)]⟩
      · refine zx_iload (k := 0) (nn := 45) dX11_shelf_43 rfl rfl ?_
        refine zx_if_ne (tgt := 50) (nn := 48) dX11_shelf_45 (by decide) rfl (fun h45 => ?_) (fun h45 => ?_)
        · obtain ⟨k1, n_h, rfl⟩ := has4 h40
          show zX shR σ 2 MX11_shelf 50 [(4, zi 1), (0, zr 0), (1, zi (nI k1)), (2, zi 0), (3, zi n)] [] μ _
          refine zx_aload_n (k := 1) (nn := 51) dX11_shelf_50 rfl rfl rfl ?_
          refine zx_getR (q := 21) (nn := 54) flX11_58 rfl rfl dX11_shelf_51 rfl ?_
          refine zx_iload_n (k := 2) (nn := 55) dX11_shelf_54 rfl rfl rfl ?_
          refine zx_iload_n (k := 3) (nn := 56) dX11_shelf_55 rfl rfl rfl ?_
          refine zx_if_ne (tgt := 63) (nn := 59) dX11_shelf_56 (by decide) rfl (fun h56 => ?_) (fun h56 => ?_)
          · exact absurd h56 (by decide)
          · refine zx_iconst (v := 1) (nn := 60) rfl dX11_shelf_59 rfl ?_
            refine zx_goto (tgt := 82) dX11_shelf_60 (by decide) ?_
            refine zx_iast_n (j := k1) (nn := 83) rfl n_h.1 (by decide) dX11_shelf_82 rfl ?_
            refine zx_aload_n (k := 1) (nn := 84) dX11_shelf_83 rfl rfl rfl ?_
            refine zx_getR (q := 22) (nn := 87) flX11_61 rfl rfl dX11_shelf_84 rfl ?_
            refine zx_iload_n (k := 2) (nn := 88) dX11_shelf_87 rfl rfl rfl ?_
            refine zx_iload_n (k := 3) (nn := 89) dX11_shelf_88 rfl rfl rfl ?_
            refine zx_iconst (v := 1) (nn := 90) rfl dX11_shelf_89 rfl ?_
            refine zx_icmp_ne (tgt := 102) (nn := 93) dX11_shelf_90 (by decide) rfl (fun h90 => ?_) (fun h90 => ?_)
            · refine zx_iload_n (k := 4) (nn := 103) dX11_shelf_102 rfl rfl rfl ?_
              refine zx_iast_n (j := k1) (nn := 104) rfl n_h.1 (by decide) dX11_shelf_103 rfl ?_
              refine zx_aload_n (k := 1) (nn := 105) dX11_shelf_104 rfl rfl rfl ?_
              refine zx_getR (q := 23) (nn := 108) flX11_64 rfl rfl dX11_shelf_105 rfl ?_
              refine zx_iload_n (k := 2) (nn := 109) dX11_shelf_108 rfl rfl rfl ?_
              refine zx_iload_n (k := 3) (nn := 110) dX11_shelf_109 rfl rfl rfl ?_
              refine zx_iconst (v := 1) (nn := 111) rfl dX11_shelf_110 rfl ?_
              refine zx_icmp_ne (tgt := 123) (nn := 114) dX11_shelf_111 (by decide) rfl (fun h111 => ?_) (fun h111 => ?_)
              · refine zx_iconst (v := 0) (nn := 124) rfl dX11_shelf_123 rfl ?_
                refine zx_iast_n (j := k1) (nn := 125) rfl n_h.1 (by decide) dX11_shelf_124 rfl ?_
                refine zx_iconst (v := 1) (nn := 126) rfl dX11_shelf_125 rfl ?_
                refine zx_iret rfl dX11_shelf_126 ?_
                have hv : vShelf (rS 1 μ) (nI k1) 0 n = 1 := by simp [vShelf, h40, h9]
                refine ⟨congrArg (fun x => some (zi x)) hv.symm, ?_⟩
                rw [if_pos hv]
                unfold gShelf
                rw [n_h.2.2]
                simp
              · exact absurd h111 (by decide)
            · exact absurd h90 (by decide)
        · exact absurd h45 (by decide)
    · refine zx_iload_n (k := 2) (nn := 13) dX11_shelf_12 rfl rfl rfl ?_
      refine zx_iconst (v := 1) (nn := 14) rfl dX11_shelf_13 rfl ?_
      refine zx_icmp_ne (tgt := 24) (nn := 17) dX11_shelf_14 (by decide) rfl (fun h14 => ?_) (fun h14 => ?_)
      · refine zx_iload_n (k := 2) (nn := 25) dX11_shelf_24 rfl rfl rfl ?_
        refine zx_iconst (v := 2) (nn := 26) rfl dX11_shelf_25 rfl ?_
        refine zx_icmp_ne (tgt := 33) (nn := 29) dX11_shelf_26 (by decide) rfl (fun h26 => ?_) (fun h26 => ?_)
        · refine zx_iconst (v := 0) (nn := 34) rfl dX11_shelf_33 rfl ?_
          refine zx_istore (nn := 36) (lv' := [(4, zi 0), (0, zr 0), (1, zi h), (2, zi w), (3, zi n)]) dX11_shelf_34 (by decide) rfl rfl ?_
          refine zx_iload_n (k := 2) (nn := 37) dX11_shelf_36 rfl rfl rfl ?_
          refine zx_callSf (nn := 40) (d' := 1) (as := [zi h]) (rest := []) (n := 1) (eX11_isSheet σ μ h  ) kX11_isSheet mlX11_371 (by decide) rfl rfl (Nat.le_of_ble_eq_true rfl) dX11_shelf_37 rfl ?_
          show zX shR σ 2 MX11_shelf 40 [(4, zi 0), (0, zr 0), (1, zi h), (2, zi w), (3, zi n)] [zi (zb (pHas 4 h))] μ _
          refine zx_ifb_eq (tgt := 48) (nn := 43) dX11_shelf_40 (by decide) rfl (fun h40 => ?_) (fun h40 => ?_)
          · refine zx_iconst (v := -1) (nn := 49) rfl dX11_shelf_48 rfl ?_
            refine zx_iret rfl dX11_shelf_49 ?_
            exact ⟨congrArg (fun x => some (zi x)) (by unfold vShelf; rw [if_neg (by rw [h40]; decide)]), by rw [if_neg (by unfold vShelf; rw [if_neg (by rw [h40]; decide)]; decide)]⟩
          · refine zx_iload (k := 0) (nn := 45) dX11_shelf_43 rfl rfl ?_
            refine zx_if_ne (tgt := 50) (nn := 48) dX11_shelf_45 (by decide) rfl (fun h45 => ?_) (fun h45 => ?_)
            · exact absurd h45 (by decide)
            · refine zx_iconst (v := -1) (nn := 49) rfl dX11_shelf_48 rfl ?_
              refine zx_iret rfl dX11_shelf_49 ?_
              have hv : vShelf (rS 1 μ) h w n = -1 := by simp [vShelf, h1, h9, h14, h26, h40]
              exact ⟨congrArg (fun x => some (zi x)) hv.symm, by rw [if_neg (by rw [hv]; decide)]⟩
        · exact absurd (h1.symm.trans h26) (by decide)
      · exact absurd (h1.symm.trans h14) (by decide)
set_option maxHeartbeats 4000000 in
set_option maxRecDepth 100000 in
theorem eX11_heldBy_0 (σ : zG) (μ : zM) (k : Nat) (ok : pOK (rS 1 μ)) (hk : k < 4) : zMet shR σ 2 MX11_heldBy yX11_heldBy [zr 0, zi (nI k)] μ (fun rr μ' => rr = some (zi (gH μ k)) ∧ μ' = μ) := by
  refine zmetF (by decide +kernel) rfl (Nat.le_of_ble_eq_true rfl) ?_
  show zX shR σ 2 MX11_heldBy 0 [(0, zr 0), (1, zi (nI k))] [] μ _
  refine zx_aload_n (k := 0) (nn := 1) dX11_heldBy_0 rfl rfl rfl ?_
  refine zx_getR (q := 21) (nn := 4) flX11_58 rfl rfl dX11_heldBy_1 rfl ?_
  refine zx_iload_n (k := 1) (nn := 5) dX11_heldBy_4 rfl rfl rfl ?_
  refine zx_iald_n (j := k) (nn := 6) rfl hk (by decide) dX11_heldBy_5 rfl ?_
  refine zx_iconst (v := 1) (nn := 7) rfl dX11_heldBy_6 rfl ?_
  refine zx_icmp_ne (tgt := 27) (nn := 10) dX11_heldBy_7 (by decide) rfl (fun h7 => ?_) (fun h7 => ?_)
  · refine zx_aload_n (k := 0) (nn := 28) dX11_heldBy_27 rfl rfl rfl ?_
    refine zx_getR (q := 21) (nn := 31) flX11_58 rfl rfl dX11_heldBy_28 rfl ?_
    refine zx_iload_n (k := 1) (nn := 32) dX11_heldBy_31 rfl rfl rfl ?_
    refine zx_iald_n (j := k) (nn := 33) rfl hk (by decide) dX11_heldBy_32 rfl ?_
    refine zx_iret rfl dX11_heldBy_33 ?_
    refine ⟨congrArg (fun x => some (zi x)) ?_, rfl⟩
    unfold gH
    rw [if_neg (fun q => h7 q.1)]
  · refine zx_aload_n (k := 0) (nn := 11) dX11_heldBy_10 rfl rfl rfl ?_
    refine zx_aload_n (k := 0) (nn := 12) dX11_heldBy_11 rfl rfl rfl ?_
    refine zx_getR (q := 22) (nn := 15) flX11_61 rfl rfl dX11_heldBy_12 rfl ?_
    refine zx_iload_n (k := 1) (nn := 16) dX11_heldBy_15 rfl rfl rfl ?_
    refine zx_iald_n (j := k) (nn := 17) rfl hk (by decide) dX11_heldBy_16 rfl ?_
    refine zx_callVf (nn := 20) (k := 0) (d' := 1) (as := [zi (μ 22 k)]) (rest := []) (n := 1) (eX11_isLamp_0 σ μ (μ 22 k)  ok) kX11_isLamp mlX11_84 rfl rfl rfl (by decide) rfl rfl (Nat.le_of_ble_eq_true rfl) dX11_heldBy_17 rfl ?_
    show zX shR σ 2 MX11_heldBy 20 [(0, zr 0), (1, zi (nI k))] [zi (zb (pHas ((rS 1 μ) 0) (μ 22 k)))] μ _
    refine zx_ifb_ne (tgt := 27) (nn := 23) dX11_heldBy_20 (by decide) rfl (fun h20 => ?_) (fun h20 => ?_)
    · refine zx_aload_n (k := 0) (nn := 28) dX11_heldBy_27 rfl rfl rfl ?_
      refine zx_getR (q := 21) (nn := 31) flX11_58 rfl rfl dX11_heldBy_28 rfl ?_
      refine zx_iload_n (k := 1) (nn := 32) dX11_heldBy_31 rfl rfl rfl ?_
      refine zx_iald_n (j := k) (nn := 33) rfl hk (by decide) dX11_heldBy_32 rfl ?_
      refine zx_iret rfl dX11_heldBy_33 ?_
      refine ⟨congrArg (fun x => some (zi x)) ?_, rfl⟩
      unfold gH
      rw [if_neg (fun q => absurd (h20.symm.trans q.2) (by decide))]
    · refine zx_iconst (v := 0) (nn := 24) rfl dX11_heldBy_23 rfl ?_
      refine zx_goto (tgt := 33) dX11_heldBy_24 (by decide) ?_
      refine zx_iret rfl dX11_heldBy_33 ?_
      refine ⟨congrArg (fun x => some (zi x)) ?_, rfl⟩
      unfold gH
      rw [if_pos ⟨h7, h20⟩]
set_option maxHeartbeats 4000000 in
set_option maxRecDepth 100000 in
theorem eX11_taken_0 (σ : zG) (μ : zM) (h : Int32) (as : Int32) (ok : pOK (rS 1 μ)) : zMet shR σ 3 MX11_taken yX11_taken [zr 0, zi h, zi as] μ (fun rr μ' => rr = some (zi (gTaken μ h as)) ∧ μ' = μ) := by
  refine zmetF (by decide +kernel) rfl (Nat.le_of_ble_eq_true rfl) ?_
  show zX shR σ 3 MX11_taken 0 [(0, zr 0), (1, zi h), (2, zi as)] [] μ _
  refine zx_iload_n (k := 1) (nn := 1) dX11_taken_0 rfl rfl rfl ?_
  refine zx_callSf (nn := 4) (d' := 1) (as := [zi h]) (rest := []) (n := 1) (eX11_isSheet σ μ h  ) kX11_isSheet mlX11_371 (by decide) rfl rfl (Nat.le_of_ble_eq_true rfl) dX11_taken_1 rfl ?_
  show zX shR σ 3 MX11_taken 4 [(0, zr 0), (1, zi h), (2, zi as)] [zi (zb (pHas 4 h))] μ _
  refine zx_ifb_eq (tgt := 33) (nn := 7) dX11_taken_4 (by decide) rfl (fun h4 => ?_) (fun h4 => ?_)
  · refine zx_iconst (v := -1) (nn := 34) rfl dX11_taken_33 rfl ?_
    refine zx_iret rfl dX11_taken_34 ?_
    refine ⟨congrArg (fun x => some (zi x)) ?_, rfl⟩
    unfold gTaken
    rw [if_neg (by rw [h4]; decide)]
  · refine zx_iload_n (k := 2) (nn := 8) dX11_taken_7 rfl rfl rfl ?_
    refine zx_i2l (nn := 9) dX11_taken_8 rfl ?_
    refine zx_lconst (v := 0) (nn := 10) rfl dX11_taken_9 rfl ?_
    refine zx_ldc2 (v := 5) (nn := 13) cwX11_78 dX11_taken_10 rfl ?_
    refine zx_callSf (nn := 16) (d' := 0) (as := [zj as.toInt64, zj 0, zj 5]) (rest := []) (n := 3) (eX11_isIn σ μ as.toInt64 0 5  ) kX11_isIn mlX11_70 (by decide) rfl rfl (Nat.le_of_ble_eq_true rfl) dX11_taken_13 rfl ?_
    show zX shR σ 3 MX11_taken 16 [(0, zr 0), (1, zi h), (2, zi as)] [zi (zb (decide (0 ≤ as.toInt64) && decide (as.toInt64 ≤ 5)))] μ _
    rw [show zb (decide (0 ≤ as.toInt64) && decide (as.toInt64 ≤ 5)) = zb (pIn as 0 5) from congrArg zb (in_r as 0 5)]
    show zX shR σ 3 MX11_taken 16 [(0, zr 0), (1, zi h), (2, zi as)] [zi (zb (pIn as 0 5))] μ _
    refine zx_ifb_ne (tgt := 35) (nn := 19) dX11_taken_16 (by decide) rfl (fun h16 => ?_) (fun h16 => ?_)
    · obtain ⟨k1, n_h, rfl⟩ := has4 h4
      show zX shR σ 3 MX11_taken 35 [(0, zr 0), (1, zi (nI k1)), (2, zi as)] [] μ _
      refine zx_aload_n (k := 0) (nn := 36) dX11_taken_35 rfl rfl rfl ?_
      refine zx_iload_n (k := 1) (nn := 37) dX11_taken_36 rfl rfl rfl ?_
      refine zx_callVf (nn := 40) (k := 0) (d' := 2) (as := [zi (nI k1)]) (rest := []) (n := 1) (eX11_heldBy_0 σ μ k1  ok n_h.1) kX11_heldBy mlX11_396 rfl rfl rfl (by decide) rfl rfl (Nat.le_of_ble_eq_true rfl) dX11_taken_37 rfl ?_
      show zX shR σ 3 MX11_taken 40 [(0, zr 0), (1, zi (nI k1)), (2, zi as)] [zi (gH μ k1)] μ _
      refine zx_istore_n (nn := 41) (lv' := [(3, zi (gH μ k1)), (0, zr 0), (1, zi (nI k1)), (2, zi as)]) dX11_taken_40 rfl (by decide) rfl rfl ?_
      refine zx_iload_n (k := 0) (nn := 42) dX11_taken_41 rfl rfl rfl ?_
      refine zx_if_ne (tgt := 48) (nn := 45) dX11_taken_42 (by decide) rfl (fun h42 => ?_) (fun h42 => ?_)
      · refine zx_iload_n (k := 3) (nn := 49) dX11_taken_48 rfl rfl rfl ?_
        refine zx_bipush (v := 10) (nn := 51) rfl dX11_taken_49 rfl ?_
        refine zx_icmp_ge (tgt := 85) (nn := 54) dX11_taken_51 (by decide) rfl (fun h51 => ?_) (fun h51 => ?_)
        · refine zx_iload_n (k := 0) (nn := 86) dX11_taken_85 rfl rfl rfl ?_
          refine zx_iconst (v := 2) (nn := 87) rfl dX11_taken_86 rfl ?_
          refine zx_icmp_ne (tgt := 107) (nn := 90) dX11_taken_87 (by decide) rfl (fun h87 => ?_) (fun h87 => ?_)
          · refine zx_iconst (v := 0) (nn := 108) rfl dX11_taken_107 rfl ?_
            refine zx_istore (nn := 110) (lv' := [(4, zi 0), (3, zi (gH μ k1)), (0, zr 0), (1, zi (nI k1)), (2, zi as)]) dX11_taken_108 (by decide) rfl rfl ?_
            refine zx_iload (k := 0) (nn := 112) dX11_taken_110 rfl rfl ?_
            refine zx_if_eq (tgt := 124) (nn := 115) dX11_taken_112 (by decide) rfl (fun h112 => ?_) (fun h112 => ?_)
            · refine zx_bipush (v := -13) (nn := 126) rfl dX11_taken_124 rfl ?_
              refine zx_iret rfl dX11_taken_126 ?_
              refine ⟨congrArg (fun x => some (zi x)) ?_, rfl⟩
              unfold gTaken
              rw [if_pos h4, if_pos (Or.inl h16), n_h.2.2, if_neg h42, if_neg (Int32.not_lt.mpr h51), if_neg (fun q => h87 q.1)]
            · exact absurd h112 (by decide)
          · refine zx_aload_n (k := 1) (nn := 91) dX11_taken_90 rfl rfl rfl ?_
            refine zx_getR (q := 23) (nn := 94) flX11_64 rfl rfl dX11_taken_91 rfl ?_
            refine zx_iload_n (k := 2) (nn := 95) dX11_taken_94 rfl rfl rfl ?_
            refine zx_iald_n (j := k1) (nn := 96) rfl n_h.1 (by decide) dX11_taken_95 rfl ?_
            refine zx_iload_n (k := 3) (nn := 97) dX11_taken_96 rfl rfl rfl ?_
            refine zx_bipush (v := 10) (nn := 99) rfl dX11_taken_97 rfl ?_
            refine zx_isub (nn := 100) dX11_taken_99 rfl ?_
            refine zx_icmp_ne (tgt := 107) (nn := 103) dX11_taken_100 (by decide) rfl (fun h100 => ?_) (fun h100 => ?_)
            · refine zx_iconst (v := 0) (nn := 108) rfl dX11_taken_107 rfl ?_
              refine zx_istore (nn := 110) (lv' := [(4, zi 0), (3, zi (gH μ k1)), (0, zr 0), (1, zi (nI k1)), (2, zi as)]) dX11_taken_108 (by decide) rfl rfl ?_
              refine zx_iload (k := 0) (nn := 112) dX11_taken_110 rfl rfl ?_
              refine zx_if_eq (tgt := 124) (nn := 115) dX11_taken_112 (by decide) rfl (fun h112 => ?_) (fun h112 => ?_)
              · refine zx_bipush (v := -13) (nn := 126) rfl dX11_taken_124 rfl ?_
                refine zx_iret rfl dX11_taken_126 ?_
                refine ⟨congrArg (fun x => some (zi x)) ?_, rfl⟩
                unfold gTaken
                rw [if_pos h4, if_pos (Or.inl h16), n_h.2.2, if_neg h42, if_neg (Int32.not_lt.mpr h51), if_neg (fun q => h100 q.2)]
              · exact absurd h112 (by decide)
            · refine zx_iconst (v := 1) (nn := 104) rfl dX11_taken_103 rfl ?_
              refine zx_goto (tgt := 108) dX11_taken_104 (by decide) ?_
              refine zx_istore (nn := 110) (lv' := [(4, zi 1), (3, zi (gH μ k1)), (0, zr 0), (1, zi (nI k1)), (2, zi as)]) dX11_taken_108 (by decide) rfl rfl ?_
              refine zx_iload (k := 0) (nn := 112) dX11_taken_110 rfl rfl ?_
              refine zx_if_eq (tgt := 124) (nn := 115) dX11_taken_112 (by decide) rfl (fun h112 => ?_) (fun h112 => ?_)
              · exact absurd h112 (by decide)
              · refine zx_aload_n (k := 2) (nn := 116) dX11_taken_115 rfl rfl rfl ?_
                refine zx_getR (q := 22) (nn := 119) flX11_61 rfl rfl dX11_taken_116 rfl ?_
                refine zx_iload_n (k := 3) (nn := 120) dX11_taken_119 rfl rfl rfl ?_
                refine zx_iald_n (j := k1) (nn := 121) rfl n_h.1 (by decide) dX11_taken_120 rfl ?_
                refine zx_goto (tgt := 126) dX11_taken_121 (by decide) ?_
                refine zx_iret rfl dX11_taken_126 ?_
                refine ⟨congrArg (fun x => some (zi x)) ?_, rfl⟩
                unfold gTaken
                rw [if_pos h4, if_pos (Or.inl h16), n_h.2.2, if_neg h42, if_neg (Int32.not_lt.mpr h51), if_pos ⟨h87, h100⟩]
        · refine zx_iload_n (k := 0) (nn := 55) dX11_taken_54 rfl rfl rfl ?_
          refine zx_iconst (v := 1) (nn := 56) rfl dX11_taken_55 rfl ?_
          refine zx_icmp_ne (tgt := 81) (nn := 59) dX11_taken_56 (by decide) rfl (fun h56 => ?_) (fun h56 => ?_)
          · refine zx_iconst (v := 0) (nn := 82) rfl dX11_taken_81 rfl ?_
            refine zx_goto (tgt := 108) dX11_taken_82 (by decide) ?_
            refine zx_istore (nn := 110) (lv' := [(4, zi 0), (3, zi (gH μ k1)), (0, zr 0), (1, zi (nI k1)), (2, zi as)]) dX11_taken_108 (by decide) rfl rfl ?_
            refine zx_iload (k := 0) (nn := 112) dX11_taken_110 rfl rfl ?_
            refine zx_if_eq (tgt := 124) (nn := 115) dX11_taken_112 (by decide) rfl (fun h112 => ?_) (fun h112 => ?_)
            · refine zx_bipush (v := -13) (nn := 126) rfl dX11_taken_124 rfl ?_
              refine zx_iret rfl dX11_taken_126 ?_
              refine ⟨congrArg (fun x => some (zi x)) ?_, rfl⟩
              unfold gTaken
              rw [if_pos h4, if_pos (Or.inl h16), n_h.2.2, if_neg h42, if_pos (Int32.not_le.mp h51), if_neg (fun q => h56 q.1)]
            · exact absurd h112 (by decide)
          · refine zx_aload_n (k := 1) (nn := 60) dX11_taken_59 rfl rfl rfl ?_
            refine zx_aload_n (k := 1) (nn := 61) dX11_taken_60 rfl rfl rfl ?_
            refine zx_getR (q := 22) (nn := 64) flX11_61 rfl rfl dX11_taken_61 rfl ?_
            refine zx_iload_n (k := 2) (nn := 65) dX11_taken_64 rfl rfl rfl ?_
            refine zx_iald_n (j := k1) (nn := 66) rfl n_h.1 (by decide) dX11_taken_65 rfl ?_
            obtain ⟨l1, hj1, hj2⟩ := hasL ok (gH_1 h56)
            rw [show μ 22 k1 = nI l1 from hj2]
            show zX shR σ 3 MX11_taken 66 [(3, zi (gH μ k1)), (0, zr 0), (1, zi (nI k1)), (2, zi as)] [zi (nI l1), zr 0] μ _
            refine zx_iconst (v := 0) (nn := 67) rfl dX11_taken_66 rfl ?_
            refine zx_callVf (nn := 70) (k := 0) (d' := 0) (as := [zi (nI l1), zi 0]) (rest := []) (n := 2) (eX11_of_0 σ μ l1 0  hj1.2.1 (by decide)) kX11_of mlX11_88 rfl rfl rfl (by decide) rfl rfl (Nat.le_of_ble_eq_true rfl) dX11_taken_67 rfl ?_
            show zX shR σ 3 MX11_taken 70 [(3, zi (gH μ k1)), (0, zr 0), (1, zi (nI k1)), (2, zi as)] [zi (rS 1 μ (7 + 4 * l1 + 0))] μ _
            rw [show rS 1 μ (7 + 4 * l1 + 0) = (rS 1 μ) (7 + 4 * l1) from rfl]
            show zX shR σ 3 MX11_taken 70 [(3, zi (gH μ k1)), (0, zr 0), (1, zi (nI k1)), (2, zi as)] [zi ((rS 1 μ) (7 + 4 * l1))] μ _
            refine zx_iload_n (k := 3) (nn := 71) dX11_taken_70 rfl rfl rfl ?_
            refine zx_callSf (nn := 74) (d' := 0) (as := [zi ((rS 1 μ) (7 + 4 * l1)), zi as]) (rest := []) (n := 2) (eX11_isUnder σ μ ((rS 1 μ) (7 + 4 * l1)) as  ) kX11_isUnder mlX11_117 (by decide) rfl rfl (Nat.le_of_ble_eq_true rfl) dX11_taken_71 rfl ?_
            show zX shR σ 3 MX11_taken 74 [(3, zi (gH μ k1)), (0, zr 0), (1, zi (nI k1)), (2, zi as)] [zi (zb (pUnder ((rS 1 μ) (7 + 4 * l1)) as))] μ _
            refine zx_ifb_eq (tgt := 81) (nn := 77) dX11_taken_74 (by decide) rfl (fun h74 => ?_) (fun h74 => ?_)
            · refine zx_iconst (v := 0) (nn := 82) rfl dX11_taken_81 rfl ?_
              refine zx_goto (tgt := 108) dX11_taken_82 (by decide) ?_
              refine zx_istore (nn := 110) (lv' := [(4, zi 0), (3, zi (gH μ k1)), (0, zr 0), (1, zi (nI k1)), (2, zi as)]) dX11_taken_108 (by decide) rfl rfl ?_
              refine zx_iload (k := 0) (nn := 112) dX11_taken_110 rfl rfl ?_
              refine zx_if_eq (tgt := 124) (nn := 115) dX11_taken_112 (by decide) rfl (fun h112 => ?_) (fun h112 => ?_)
              · refine zx_bipush (v := -13) (nn := 126) rfl dX11_taken_124 rfl ?_
                refine zx_iret rfl dX11_taken_126 ?_
                refine ⟨congrArg (fun x => some (zi x)) ?_, rfl⟩
                unfold gTaken
                rw [if_pos h4, if_pos (Or.inl h16), n_h.2.2, if_neg h42, if_pos (Int32.not_le.mp h51), if_neg (fun q => absurd (h74.symm.trans (show pUnder (rS 1 μ (7 + 4 * l1)) as = true by rw [hj2, hj1.2.2] at q; exact q.2)) (by decide))]
              · exact absurd h112 (by decide)
            · refine zx_iconst (v := 1) (nn := 78) rfl dX11_taken_77 rfl ?_
              refine zx_goto (tgt := 108) dX11_taken_78 (by decide) ?_
              refine zx_istore (nn := 110) (lv' := [(4, zi 1), (3, zi (gH μ k1)), (0, zr 0), (1, zi (nI k1)), (2, zi as)]) dX11_taken_108 (by decide) rfl rfl ?_
              refine zx_iload (k := 0) (nn := 112) dX11_taken_110 rfl rfl ?_
              refine zx_if_eq (tgt := 124) (nn := 115) dX11_taken_112 (by decide) rfl (fun h112 => ?_) (fun h112 => ?_)
              · exact absurd h112 (by decide)
              · refine zx_aload_n (k := 2) (nn := 116) dX11_taken_115 rfl rfl rfl ?_
                refine zx_getR (q := 22) (nn := 119) flX11_61 rfl rfl dX11_taken_116 rfl ?_
                refine zx_iload_n (k := 3) (nn := 120) dX11_taken_119 rfl rfl rfl ?_
                refine zx_iald_n (j := k1) (nn := 121) rfl n_h.1 (by decide) dX11_taken_120 rfl ?_
                refine zx_goto (tgt := 126) dX11_taken_121 (by decide) ?_
                refine zx_iret rfl dX11_taken_126 ?_
                refine ⟨congrArg (fun x => some (zi x)) ?_, rfl⟩
                unfold gTaken
                rw [if_pos h4, if_pos (Or.inl h16), n_h.2.2, if_neg h42, if_pos (Int32.not_le.mp h51), if_pos ⟨h56, by rw [hj2, hj1.2.2]; exact h74⟩]
      · refine zx_bipush (v := -11) (nn := 47) rfl dX11_taken_45 rfl ?_
        refine zx_iret rfl dX11_taken_47 ?_
        refine ⟨congrArg (fun x => some (zi x)) ?_, rfl⟩
        unfold gTaken
        rw [if_pos h4, if_pos (Or.inl h16), n_h.2.2, if_pos h42]
    · refine zx_iload_n (k := 2) (nn := 20) dX11_taken_19 rfl rfl rfl ?_
      refine zx_i2l (nn := 21) dX11_taken_20 rfl ?_
      refine zx_ldc2 (v := 10) (nn := 24) cwX11_392 dX11_taken_21 rfl ?_
      refine zx_ldc2 (v := 14) (nn := 27) cwX11_394 dX11_taken_24 rfl ?_
      refine zx_callSf (nn := 30) (d' := 0) (as := [zj as.toInt64, zj 10, zj 14]) (rest := []) (n := 3) (eX11_isIn σ μ as.toInt64 10 14  ) kX11_isIn mlX11_70 (by decide) rfl rfl (Nat.le_of_ble_eq_true rfl) dX11_taken_27 rfl ?_
      show zX shR σ 3 MX11_taken 30 [(0, zr 0), (1, zi h), (2, zi as)] [zi (zb (decide (10 ≤ as.toInt64) && decide (as.toInt64 ≤ 14)))] μ _
      rw [show zb (decide (10 ≤ as.toInt64) && decide (as.toInt64 ≤ 14)) = zb (pIn as 10 14) from congrArg zb (in_r as 10 14)]
      show zX shR σ 3 MX11_taken 30 [(0, zr 0), (1, zi h), (2, zi as)] [zi (zb (pIn as 10 14))] μ _
      refine zx_ifb_ne (tgt := 35) (nn := 33) dX11_taken_30 (by decide) rfl (fun h30 => ?_) (fun h30 => ?_)
      · obtain ⟨k1, n_h, rfl⟩ := has4 h4
        show zX shR σ 3 MX11_taken 35 [(0, zr 0), (1, zi (nI k1)), (2, zi as)] [] μ _
        refine zx_aload_n (k := 0) (nn := 36) dX11_taken_35 rfl rfl rfl ?_
        refine zx_iload_n (k := 1) (nn := 37) dX11_taken_36 rfl rfl rfl ?_
        refine zx_callVf (nn := 40) (k := 0) (d' := 2) (as := [zi (nI k1)]) (rest := []) (n := 1) (eX11_heldBy_0 σ μ k1  ok n_h.1) kX11_heldBy mlX11_396 rfl rfl rfl (by decide) rfl rfl (Nat.le_of_ble_eq_true rfl) dX11_taken_37 rfl ?_
        show zX shR σ 3 MX11_taken 40 [(0, zr 0), (1, zi (nI k1)), (2, zi as)] [zi (gH μ k1)] μ _
        refine zx_istore_n (nn := 41) (lv' := [(3, zi (gH μ k1)), (0, zr 0), (1, zi (nI k1)), (2, zi as)]) dX11_taken_40 rfl (by decide) rfl rfl ?_
        refine zx_iload_n (k := 0) (nn := 42) dX11_taken_41 rfl rfl rfl ?_
        refine zx_if_ne (tgt := 48) (nn := 45) dX11_taken_42 (by decide) rfl (fun h42 => ?_) (fun h42 => ?_)
        · refine zx_iload_n (k := 3) (nn := 49) dX11_taken_48 rfl rfl rfl ?_
          refine zx_bipush (v := 10) (nn := 51) rfl dX11_taken_49 rfl ?_
          refine zx_icmp_ge (tgt := 85) (nn := 54) dX11_taken_51 (by decide) rfl (fun h51 => ?_) (fun h51 => ?_)
          · refine zx_iload_n (k := 0) (nn := 86) dX11_taken_85 rfl rfl rfl ?_
            refine zx_iconst (v := 2) (nn := 87) rfl dX11_taken_86 rfl ?_
            refine zx_icmp_ne (tgt := 107) (nn := 90) dX11_taken_87 (by decide) rfl (fun h87 => ?_) (fun h87 => ?_)
            · refine zx_iconst (v := 0) (nn := 108) rfl dX11_taken_107 rfl ?_
              refine zx_istore (nn := 110) (lv' := [(4, zi 0), (3, zi (gH μ k1)), (0, zr 0), (1, zi (nI k1)), (2, zi as)]) dX11_taken_108 (by decide) rfl rfl ?_
              refine zx_iload (k := 0) (nn := 112) dX11_taken_110 rfl rfl ?_
              refine zx_if_eq (tgt := 124) (nn := 115) dX11_taken_112 (by decide) rfl (fun h112 => ?_) (fun h112 => ?_)
              · refine zx_bipush (v := -13) (nn := 126) rfl dX11_taken_124 rfl ?_
                refine zx_iret rfl dX11_taken_126 ?_
                refine ⟨congrArg (fun x => some (zi x)) ?_, rfl⟩
                unfold gTaken
                rw [if_pos h4, if_pos (Or.inr h30), n_h.2.2, if_neg h42, if_neg (Int32.not_lt.mpr h51), if_neg (fun q => h87 q.1)]
              · exact absurd h112 (by decide)
            · refine zx_aload_n (k := 1) (nn := 91) dX11_taken_90 rfl rfl rfl ?_
              refine zx_getR (q := 23) (nn := 94) flX11_64 rfl rfl dX11_taken_91 rfl ?_
              refine zx_iload_n (k := 2) (nn := 95) dX11_taken_94 rfl rfl rfl ?_
              refine zx_iald_n (j := k1) (nn := 96) rfl n_h.1 (by decide) dX11_taken_95 rfl ?_
              refine zx_iload_n (k := 3) (nn := 97) dX11_taken_96 rfl rfl rfl ?_
              refine zx_bipush (v := 10) (nn := 99) rfl dX11_taken_97 rfl ?_
              refine zx_isub (nn := 100) dX11_taken_99 rfl ?_
              refine zx_icmp_ne (tgt := 107) (nn := 103) dX11_taken_100 (by decide) rfl (fun h100 => ?_) (fun h100 => ?_)
              · refine zx_iconst (v := 0) (nn := 108) rfl dX11_taken_107 rfl ?_
                refine zx_istore (nn := 110) (lv' := [(4, zi 0), (3, zi (gH μ k1)), (0, zr 0), (1, zi (nI k1)), (2, zi as)]) dX11_taken_108 (by decide) rfl rfl ?_
                refine zx_iload (k := 0) (nn := 112) dX11_taken_110 rfl rfl ?_
                refine zx_if_eq (tgt := 124) (nn := 115) dX11_taken_112 (by decide) rfl (fun h112 => ?_) (fun h112 => ?_)
                · refine zx_bipush (v := -13) (nn := 126) rfl dX11_taken_124 rfl ?_
                  refine zx_iret rfl dX11_taken_126 ?_
                  refine ⟨congrArg (fun x => some (zi x)) ?_, rfl⟩
                  unfold gTaken
                  rw [if_pos h4, if_pos (Or.inr h30), n_h.2.2, if_neg h42, if_neg (Int32.not_lt.mpr h51), if_neg (fun q => h100 q.2)]
                · exact absurd h112 (by decide)
              · refine zx_iconst (v := 1) (nn := 104) rfl dX11_taken_103 rfl ?_
                refine zx_goto (tgt := 108) dX11_taken_104 (by decide) ?_
                refine zx_istore (nn := 110) (lv' := [(4, zi 1), (3, zi (gH μ k1)), (0, zr 0), (1, zi (nI k1)), (2, zi as)]) dX11_taken_108 (by decide) rfl rfl ?_
                refine zx_iload (k := 0) (nn := 112) dX11_taken_110 rfl rfl ?_
                refine zx_if_eq (tgt := 124) (nn := 115) dX11_taken_112 (by decide) rfl (fun h112 => ?_) (fun h112 => ?_)
                · exact absurd h112 (by decide)
                · refine zx_aload_n (k := 2) (nn := 116) dX11_taken_115 rfl rfl rfl ?_
                  refine zx_getR (q := 22) (nn := 119) flX11_61 rfl rfl dX11_taken_116 rfl ?_
                  refine zx_iload_n (k := 3) (nn := 120) dX11_taken_119 rfl rfl rfl ?_
                  refine zx_iald_n (j := k1) (nn := 121) rfl n_h.1 (by decide) dX11_taken_120 rfl ?_
                  refine zx_goto (tgt := 126) dX11_taken_121 (by decide) ?_
                  refine zx_iret rfl dX11_taken_126 ?_
                  refine ⟨congrArg (fun x => some (zi x)) ?_, rfl⟩
                  unfold gTaken
                  rw [if_pos h4, if_pos (Or.inr h30), n_h.2.2, if_neg h42, if_neg (Int32.not_lt.mpr h51), if_pos ⟨h87, h100⟩]
          · refine zx_iload_n (k := 0) (nn := 55) dX11_taken_54 rfl rfl rfl ?_
            refine zx_iconst (v := 1) (nn := 56) rfl dX11_taken_55 rfl ?_
            refine zx_icmp_ne (tgt := 81) (nn := 59) dX11_taken_56 (by decide) rfl (fun h56 => ?_) (fun h56 => ?_)
            · refine zx_iconst (v := 0) (nn := 82) rfl dX11_taken_81 rfl ?_
              refine zx_goto (tgt := 108) dX11_taken_82 (by decide) ?_
              refine zx_istore (nn := 110) (lv' := [(4, zi 0), (3, zi (gH μ k1)), (0, zr 0), (1, zi (nI k1)), (2, zi as)]) dX11_taken_108 (by decide) rfl rfl ?_
              refine zx_iload (k := 0) (nn := 112) dX11_taken_110 rfl rfl ?_
              refine zx_if_eq (tgt := 124) (nn := 115) dX11_taken_112 (by decide) rfl (fun h112 => ?_) (fun h112 => ?_)
              · refine zx_bipush (v := -13) (nn := 126) rfl dX11_taken_124 rfl ?_
                refine zx_iret rfl dX11_taken_126 ?_
                refine ⟨congrArg (fun x => some (zi x)) ?_, rfl⟩
                unfold gTaken
                rw [if_pos h4, if_pos (Or.inr h30), n_h.2.2, if_neg h42, if_pos (Int32.not_le.mp h51), if_neg (fun q => h56 q.1)]
              · exact absurd h112 (by decide)
            · refine zx_aload_n (k := 1) (nn := 60) dX11_taken_59 rfl rfl rfl ?_
              refine zx_aload_n (k := 1) (nn := 61) dX11_taken_60 rfl rfl rfl ?_
              refine zx_getR (q := 22) (nn := 64) flX11_61 rfl rfl dX11_taken_61 rfl ?_
              refine zx_iload_n (k := 2) (nn := 65) dX11_taken_64 rfl rfl rfl ?_
              refine zx_iald_n (j := k1) (nn := 66) rfl n_h.1 (by decide) dX11_taken_65 rfl ?_
              obtain ⟨l1, hj1, hj2⟩ := hasL ok (gH_1 h56)
              rw [show μ 22 k1 = nI l1 from hj2]
              show zX shR σ 3 MX11_taken 66 [(3, zi (gH μ k1)), (0, zr 0), (1, zi (nI k1)), (2, zi as)] [zi (nI l1), zr 0] μ _
              refine zx_iconst (v := 0) (nn := 67) rfl dX11_taken_66 rfl ?_
              refine zx_callVf (nn := 70) (k := 0) (d' := 0) (as := [zi (nI l1), zi 0]) (rest := []) (n := 2) (eX11_of_0 σ μ l1 0  hj1.2.1 (by decide)) kX11_of mlX11_88 rfl rfl rfl (by decide) rfl rfl (Nat.le_of_ble_eq_true rfl) dX11_taken_67 rfl ?_
              show zX shR σ 3 MX11_taken 70 [(3, zi (gH μ k1)), (0, zr 0), (1, zi (nI k1)), (2, zi as)] [zi (rS 1 μ (7 + 4 * l1 + 0))] μ _
              rw [show rS 1 μ (7 + 4 * l1 + 0) = (rS 1 μ) (7 + 4 * l1) from rfl]
              show zX shR σ 3 MX11_taken 70 [(3, zi (gH μ k1)), (0, zr 0), (1, zi (nI k1)), (2, zi as)] [zi ((rS 1 μ) (7 + 4 * l1))] μ _
              refine zx_iload_n (k := 3) (nn := 71) dX11_taken_70 rfl rfl rfl ?_
              refine zx_callSf (nn := 74) (d' := 0) (as := [zi ((rS 1 μ) (7 + 4 * l1)), zi as]) (rest := []) (n := 2) (eX11_isUnder σ μ ((rS 1 μ) (7 + 4 * l1)) as  ) kX11_isUnder mlX11_117 (by decide) rfl rfl (Nat.le_of_ble_eq_true rfl) dX11_taken_71 rfl ?_
              show zX shR σ 3 MX11_taken 74 [(3, zi (gH μ k1)), (0, zr 0), (1, zi (nI k1)), (2, zi as)] [zi (zb (pUnder ((rS 1 μ) (7 + 4 * l1)) as))] μ _
              refine zx_ifb_eq (tgt := 81) (nn := 77) dX11_taken_74 (by decide) rfl (fun h74 => ?_) (fun h74 => ?_)
              · refine zx_iconst (v := 0) (nn := 82) rfl dX11_taken_81 rfl ?_
                refine zx_goto (tgt := 108) dX11_taken_82 (by decide) ?_
                refine zx_istore (nn := 110) (lv' := [(4, zi 0), (3, zi (gH μ k1)), (0, zr 0), (1, zi (nI k1)), (2, zi as)]) dX11_taken_108 (by decide) rfl rfl ?_
                refine zx_iload (k := 0) (nn := 112) dX11_taken_110 rfl rfl ?_
                refine zx_if_eq (tgt := 124) (nn := 115) dX11_taken_112 (by decide) rfl (fun h112 => ?_) (fun h112 => ?_)
                · refine zx_bipush (v := -13) (nn := 126) rfl dX11_taken_124 rfl ?_
                  refine zx_iret rfl dX11_taken_126 ?_
                  refine ⟨congrArg (fun x => some (zi x)) ?_, rfl⟩
                  unfold gTaken
                  rw [if_pos h4, if_pos (Or.inr h30), n_h.2.2, if_neg h42, if_pos (Int32.not_le.mp h51), if_neg (fun q => absurd (h74.symm.trans (show pUnder (rS 1 μ (7 + 4 * l1)) as = true by rw [hj2, hj1.2.2] at q; exact q.2)) (by decide))]
                · exact absurd h112 (by decide)
              · refine zx_iconst (v := 1) (nn := 78) rfl dX11_taken_77 rfl ?_
                refine zx_goto (tgt := 108) dX11_taken_78 (by decide) ?_
                refine zx_istore (nn := 110) (lv' := [(4, zi 1), (3, zi (gH μ k1)), (0, zr 0), (1, zi (nI k1)), (2, zi as)]) dX11_taken_108 (by decide) rfl rfl ?_
                refine zx_iload (k := 0) (nn := 112) dX11_taken_110 rfl rfl ?_
                refine zx_if_eq (tgt := 124) (nn := 115) dX11_taken_112 (by decide) rfl (fun h112 => ?_) (fun h112 => ?_)
                · exact absurd h112 (by decide)
                · refine zx_aload_n (k := 2) (nn := 116) dX11_taken_115 rfl rfl rfl ?_
                  refine zx_getR (q := 22) (nn := 119) flX11_61 rfl rfl dX11_taken_116 rfl ?_
                  refine zx_iload_n (k := 3) (nn := 120) dX11_taken_119 rfl rfl rfl ?_
                  refine zx_iald_n (j := k1) (nn := 121) rfl n_h.1 (by decide) dX11_taken_120 rfl ?_
                  refine zx_goto (tgt := 126) dX11_taken_121 (by decide) ?_
                  refine zx_iret rfl dX11_taken_126 ?_
                  refine ⟨congrArg (fun x => some (zi x)) ?_, rfl⟩
                  unfold gTaken
                  rw [if_pos h4, if_pos (Or.inr h30), n_h.2.2, if_neg h42, if_pos (Int32.not_le.mp h51), if_pos ⟨h56, by rw [hj2, hj1.2.2]; exact h74⟩]
        · refine zx_bipush (v := -11) (nn := 47) rfl dX11_taken_45 rfl ?_
          refine zx_iret rfl dX11_taken_47 ?_
          refine ⟨congrArg (fun x => some (zi x)) ?_, rfl⟩
          unfold gTaken
          rw [if_pos h4, if_pos (Or.inr h30), n_h.2.2, if_pos h42]
      · refine zx_iconst (v := -1) (nn := 34) rfl dX11_taken_33 rfl ?_
        refine zx_iret rfl dX11_taken_34 ?_
        refine ⟨congrArg (fun x => some (zi x)) ?_, rfl⟩
        unfold gTaken
        rw [if_pos h4, if_neg (fun q => q.elim (fun z => absurd (h16.symm.trans z) (by decide)) (fun z => absurd (h30.symm.trans z) (by decide)))]
