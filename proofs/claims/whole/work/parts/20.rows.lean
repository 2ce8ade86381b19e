/-! rows -/
def pRunA (ρ : pR) (s : Nat → Int32) (A : Nat → Int32) : Nat → Nat → Int32
  | 0 => s
  | m + 1 => pGo ρ (pRunA ρ s A m) (A m - 1)
theorem pRunA_ok {ρ : pR} {s A : Nat → Int32} (ok : pOK s) : ∀ m, m ≤ pRem s → pOK (pRunA ρ s A m) ∧ pb (pRunA ρ s A m) = pb s + m ∧ pB (pRunA ρ s A m) = pB s ∧ ∀ i, (i < 7 ∨ 31 ≤ i) → i ≠ 2 → i ≠ 3 → pRunA ρ s A m i = s i
  | 0, _ => ⟨ok, rfl, rfl, fun _ _ _ _ => rfl⟩
  | m + 1, h => by
    unfold pRem at h
    obtain ⟨h1, h2, h3, h5⟩ := pRunA_ok (ρ := ρ) (A := A) ok m (by unfold pRem; omega)
    have hb : pb (pRunA ρ s A m) < pB (pRunA ρ s A m) := by rw [h2, h3]; omega
    refine ⟨pOK_go h1 hb, ?_, ?_, fun i hi h2' h3' => ?_⟩
    · show pb (pGo ρ _ _) = _
      rw [pGo_b h1 hb, h2]; omega
    · show pB (pGo ρ _ _) = _
      rw [pGo_B h1, h3]
    · show pGo ρ _ _ i = _
      rw [pGo_lo h1 hi h2' h3', h5 i hi h2' h3']
/-- she is seen at the beat that went by -/
theorem pGo_near {ρ : pR} {s : Nat → Int32} {h : Int32} (ok : pOK s) (hb : pb s < pB s) : pNear (pGo ρ s h) (pGo ρ s h 2 - 1) = s (31 + pb s) := by
  have g := pOK_go (ρ := ρ) (h := h) ok hb
  rw [pGo_2, nI_p1, (ok_b ok).1, pNear_at g (by rw [pGo_B ok]; exact hb), pGo_lo ok (by omega) (by omega) (by omega)]
/-- row k of the plan A: act, worth, the lamps in whose circle she is -/
def pRowOf (ρ : pR) (s A : Nat → Int32) (k : Nat) : Nat → Int32 := fun w =>
  if w = 0 then A k else if w = 1 then pGain ρ (pRunA ρ s A k) (A k - 1) else pSetOf (pRunA ρ s A (k + 1)) 2 (s (31 + (pb s + k)))
/-- the reader -/
def pJd (ρ : pR) (rw : Nat → Nat → Int32) : Nat → Nat → (Nat → Int32) → Int32
  | 0, _, _ => 0
  | m + 1, k, t => if pOver t || !(decide (rw k 0 = 0) || pHas (t 0) (rw k 0 - 1)) then nI (k + 1)
    else if rw k 1 = pGain ρ t (rw k 0 - 1) ∧ rw k 2 = pSetOf (pGo ρ t (rw k 0 - 1)) 2 (t (31 + pb t)) then pJd ρ rw m (k + 1) (pGo ρ t (rw k 0 - 1)) else nI (k + 1)
theorem rows_ix {k : Nat} (h : k < 4) : ([49, 50, 51, 52] : List Nat)[(nI k).toNatClampNeg]? = some (49 + k) := by
  rw [nI_clamp (by omega)]
  rcases (show k = 0 ∨ k = 1 ∨ k = 2 ∨ k = 3 by omega) with rfl | rfl | rfl | rfl <;> rfl
theorem rows_sh {k : Nat} (h : k < 4) : shC[49 + k]? = some (.inr (.inl 3)) := by
  rcases (show k = 0 ∨ k = 1 ∨ k = 2 ∨ k = 3 by omega) with rfl | rfl | rfl | rfl <;> rfl
theorem pOver_b {s : Nat → Int32} (ok : pOK s) (h : pOver s = false) : pb s < pB s := by
  rw [pOver_iff ok] at h
  have := of_decide_eq_false h
  omega
set_option maxHeartbeats 4000000 in
set_option maxRecDepth 100000 in
theorem eX3_hasCell_47 (σ : zG) (μ : zM) (k : Int32) (w : Int32) : zMet shC σ 0 MX3_hasCell yX3_hasCell [zr 47, zi k, zi w] μ (fun rr μ' => rr = some (zi (zb (pHas (μ 47 3) k && pHas 3 w))) ∧ μ' = μ) := by
  refine zmetF (by decide +kernel) rfl (Nat.le_of_ble_eq_true rfl) ?_
  show zX shC σ 0 MX3_hasCell 0 [(0, zr 47), (1, zi k), (2, zi w)] [] μ _
  refine zx_iload_n (k := 1) (nn := 1) dX3_hasCell_0 rfl rfl rfl ?_
  refine zx_if_lt (tgt := 25) (nn := 4) dX3_hasCell_1 (by decide) rfl (fun h1 => ?_) (fun h1 => ?_)
  · refine zx_iconst (v := 0) (nn := 26) rfl dX3_hasCell_25 rfl ?_
    refine zx_zret rfl rfl dX3_hasCell_26 ?_
    refine ⟨congrArg (fun x => some (zi x)) ?_, rfl⟩
    simp only [zb, pHas, Bool.and_eq_true, decide_eq_true_eq]
    (repeat' split) <;> first | rfl | (exfalso; simp only [decide_eq_true_eq, decide_eq_false_iff_not, Bool.and_eq_true, Bool.or_eq_true, Bool.and_eq_false_iff, Bool.or_eq_false_iff, Int32.lt_iff_toInt_lt, Int32.le_iff_toInt_le, ← Int32.toInt_inj, ztm2, ztm1, zt0, zt1, zt2, zt3, zt4, zt5, zt6, zt7, zt8, zt9, zt10, zt15, zt16, zt20, zt30, zt31, zt40, zt41, zt200, zt999] at *; omega)
  · refine zx_iload_n (k := 1) (nn := 5) dX3_hasCell_4 rfl rfl rfl ?_
    refine zx_aload_n (k := 0) (nn := 6) dX3_hasCell_5 rfl rfl rfl ?_
    refine zx_getI (nn := 9) flX3_23 rfl rfl dX3_hasCell_6 rfl ?_
    refine zx_icmp_ge (tgt := 25) (nn := 12) dX3_hasCell_9 (by decide) rfl (fun h9 => ?_) (fun h9 => ?_)
    · refine zx_iconst (v := 0) (nn := 26) rfl dX3_hasCell_25 rfl ?_
      refine zx_zret rfl rfl dX3_hasCell_26 ?_
      refine ⟨congrArg (fun x => some (zi x)) ?_, rfl⟩
      simp only [zb, pHas, Bool.and_eq_true, decide_eq_true_eq]
      (repeat' split) <;> first | rfl | (exfalso; simp only [decide_eq_true_eq, decide_eq_false_iff_not, Bool.and_eq_true, Bool.or_eq_true, Bool.and_eq_false_iff, Bool.or_eq_false_iff, Int32.lt_iff_toInt_lt, Int32.le_iff_toInt_le, ← Int32.toInt_inj, ztm2, ztm1, zt0, zt1, zt2, zt3, zt4, zt5, zt6, zt7, zt8, zt9, zt10, zt15, zt16, zt20, zt30, zt31, zt40, zt41, zt200, zt999] at *; omega)
    · refine zx_iload_n (k := 2) (nn := 13) dX3_hasCell_12 rfl rfl rfl ?_
      refine zx_if_lt (tgt := 25) (nn := 16) dX3_hasCell_13 (by decide) rfl (fun h13 => ?_) (fun h13 => ?_)
      · refine zx_iconst (v := 0) (nn := 26) rfl dX3_hasCell_25 rfl ?_
        refine zx_zret rfl rfl dX3_hasCell_26 ?_
        refine ⟨congrArg (fun x => some (zi x)) ?_, rfl⟩
        simp only [zb, pHas, Bool.and_eq_true, decide_eq_true_eq]
        (repeat' split) <;> first | rfl | (exfalso; simp only [decide_eq_true_eq, decide_eq_false_iff_not, Bool.and_eq_true, Bool.or_eq_true, Bool.and_eq_false_iff, Bool.or_eq_false_iff, Int32.lt_iff_toInt_lt, Int32.le_iff_toInt_le, ← Int32.toInt_inj, ztm2, ztm1, zt0, zt1, zt2, zt3, zt4, zt5, zt6, zt7, zt8, zt9, zt10, zt15, zt16, zt20, zt30, zt31, zt40, zt41, zt200, zt999] at *; omega)
      · refine zx_iload_n (k := 2) (nn := 17) dX3_hasCell_16 rfl rfl rfl ?_
        refine zx_iconst (v := 3) (nn := 18) rfl dX3_hasCell_17 rfl ?_
        refine zx_icmp_ge (tgt := 25) (nn := 21) dX3_hasCell_18 (by decide) rfl (fun h18 => ?_) (fun h18 => ?_)
        · refine zx_iconst (v := 0) (nn := 26) rfl dX3_hasCell_25 rfl ?_
          refine zx_zret rfl rfl dX3_hasCell_26 ?_
          refine ⟨congrArg (fun x => some (zi x)) ?_, rfl⟩
          simp only [zb, pHas, Bool.and_eq_true, decide_eq_true_eq]
          (repeat' split) <;> first | rfl | (exfalso; simp only [decide_eq_true_eq, decide_eq_false_iff_not, Bool.and_eq_true, Bool.or_eq_true, Bool.and_eq_false_iff, Bool.or_eq_false_iff, Int32.lt_iff_toInt_lt, Int32.le_iff_toInt_le, ← Int32.toInt_inj, ztm2, ztm1, zt0, zt1, zt2, zt3, zt4, zt5, zt6, zt7, zt8, zt9, zt10, zt15, zt16, zt20, zt30, zt31, zt40, zt41, zt200, zt999] at *; omega)
        · refine zx_iconst (v := 1) (nn := 22) rfl dX3_hasCell_21 rfl ?_
          refine zx_goto (tgt := 26) dX3_hasCell_22 (by decide) ?_
          refine zx_zret rfl rfl dX3_hasCell_26 ?_
          refine ⟨congrArg (fun x => some (zi x)) ?_, rfl⟩
          simp only [zb, pHas, Bool.and_eq_true, decide_eq_true_eq]
          (repeat' split) <;> first | rfl | (exfalso; simp only [decide_eq_true_eq, decide_eq_false_iff_not, Bool.and_eq_true, Bool.or_eq_true, Bool.and_eq_false_iff, Bool.or_eq_false_iff, Int32.lt_iff_toInt_lt, Int32.le_iff_toInt_le, ← Int32.toInt_inj, ztm2, ztm1, zt0, zt1, zt2, zt3, zt4, zt5, zt6, zt7, zt8, zt9, zt10, zt15, zt16, zt20, zt30, zt31, zt40, zt41, zt200, zt999] at *; omega)
set_option maxHeartbeats 4000000 in
set_option maxRecDepth 100000 in
theorem eX3_tell_47 (σ : zG) (μ : zM) (n : Nat) (ok : pOK (cS 18 μ)) (rok : cROK 1 μ) (hn : n ≤ 4) (hn2 : n ≤ pRem (cS 18 μ)) : zMet shC σ 5 MX3_tell yX3_tell [zr 47, zr 46, zi (nI n)] μ (fun rr μ' => rr = none ∧ zJ [6, 25, 26, 27, 28, 29, 30, 31, 47, 49, 50, 51, 52] μ μ' ∧ μ' 47 3 = nI n ∧ ∀ j, j < n → ∀ w, w < 3 → μ' (49 + j) w = pRowOf (cR 1 μ) (cS 18 μ) (μ 46) j w) := by
  have hB16 := (ok_B ok).2
  have hbB := (ok_b ok).2
  have hb1 : μ 18 9 = nI (pb (cS 18 μ)) := (ok_b ok).1
  have hBe : μ 18 8 = nI (pB (cS 18 μ)) := (ok_B ok).1
  have hrem : pRem (cS 18 μ) = pB (cS 18 μ) - pb (cS 18 μ) := rfl
  refine zmetF (by decide +kernel) rfl (Nat.le_of_ble_eq_true rfl) ?_
  show zX shC σ 5 MX3_tell 0 [(0, zr 47), (1, zr 46), (2, zi (nI n))] [] μ _
  refine zx_aload_n (k := 0) (nn := 1) dX3_tell_0 rfl rfl rfl ?_
  refine zx_getR (q := 25) (nn := 4) flX3_20 rfl rfl dX3_tell_1 rfl ?_
  refine zx_aload_n (k := 0) (nn := 5) dX3_tell_4 rfl rfl rfl ?_
  refine zx_getR (q := 18) (nn := 8) flX3_16 rfl rfl dX3_tell_5 rfl ?_
  refine zx_callV (nn := 11) (k := 25) (d' := 1) (as := [zr 18]) (rest := []) (n := 1) (eX8_copyFrom_25_18 σ μ) kX8_copyFrom mlX3_27 rfl rfl rfl (by decide) rfl rfl (Nat.le_of_ble_eq_true rfl) dX3_tell_8 rfl ?_
  rintro _ ν1 ⟨rfl, c1, c2⟩
  show zX shC σ 5 MX3_tell 11 [(0, zr 47), (1, zr 46), (2, zi (nI n))] [] ν1 _
  refine zx_aload_n (k := 0) (nn := 12) dX3_tell_11 rfl rfl rfl ?_
  refine zx_iload_n (k := 2) (nn := 13) dX3_tell_12 rfl rfl rfl ?_
  refine zx_iconst (v := 4) (nn := 14) rfl dX3_tell_13 rfl ?_
  refine zx_callSf (nn := 17) (d' := 0) (as := [zi (nI n), zi 4]) (rest := [zr 47]) (n := 2) (eJ9_min_7cf53 σ ν1 (nI n) 4) kJ9_min_7cf53 mlX3_33 (by decide) rfl rfl (Nat.le_of_ble_eq_true rfl) dX3_tell_14 rfl ?_
  show zX shC σ 5 MX3_tell 17 [(0, zr 47), (1, zr 46), (2, zi (nI n))] [zi (pMin (nI n) 4), zr 47] ν1 _
  rw [show pMin (nI n) 4 = nI n from if_pos (nI_le (b := 4) hn (by omega))]
  show zX shC σ 5 MX3_tell 17 [(0, zr 47), (1, zr 46), (2, zi (nI n))] [zi (nI n), zr 47] ν1 _
  refine zx_putI (nn := 20) fpX3_23 rfl rfl rfl rfl dX3_tell_17 rfl ?_
  refine zx_iconst (v := 0) (nn := 21) rfl dX3_tell_20 rfl ?_
  refine zx_istore_n (nn := 22) (lv' := [(3, zi 0), (0, zr 47), (1, zr 46), (2, zi (nI n))]) dX3_tell_21 rfl (by decide) rfl rfl ?_
  refine zx_lv (lv' := [(0, zr 47), (1, zr 46), (2, zi (nI n)), (3, zi 0)]) [1, 2, 3, 0] rfl ?_
  refine zx_while (τ := Nat × zM) (fun t_ => n - t_.1) (fun t_ => t_.1 ≤ n ∧ cS 25 t_.2 = pRunA (cR 1 μ) (cS 18 μ) (μ 46) t_.1 ∧ zJ [6, 25, 26, 27, 28, 29, 30, 31, 47, 49, 50, 51, 52] μ t_.2 ∧ t_.2 47 3 = nI n ∧ ∀ j, j < t_.1 → ∀ w, w < 3 → t_.2 (49 + j) w = pRowOf (cR 1 μ) (cS 18 μ) (μ 46) j w) (fun t_ => [(0, zr 47), (1, zr 46), (2, zi (nI n)), (3, zi (nI t_.1))]) (fun t_ => t_.2) (t0 := (0, zp ν1 47 3 (nI n))) (show 0 ≤ n ∧ cS 25 (zp ν1 47 3 (nI n)) = pRunA (cR 1 μ) (cS 18 μ) (μ 46) 0 ∧ zJ [6, 25, 26, 27, 28, 29, 30, 31, 47, 49, 50, 51, 52] μ (zp ν1 47 3 (nI n)) ∧ (zp ν1 47 3 (nI n)) 47 3 = nI n ∧ ∀ j, j < 0 → ∀ w, w < 3 → (zp ν1 47 3 (nI n)) (49 + j) w = pRowOf (cR 1 μ) (cS 18 μ) (μ 46) j w from ⟨Nat.zero_le _, (by rw [cS_eq (b := 25) (ν := ν1) (fun q hq => zp_ne (by omega))]; exact c1), (c2.mono (by decide)).p (by decide), by rw [zp_eq]; exact pk_us, fun j h => absurd h (by omega)⟩) ?_
  rintro ⟨k, μ1⟩ hI ih22
  replace hI : k ≤ n ∧ cS 25 μ1 = pRunA (cR 1 μ) (cS 18 μ) (μ 46) k ∧ zJ [6, 25, 26, 27, 28, 29, 30, 31, 47, 49, 50, 51, 52] μ μ1 ∧ μ1 47 3 = nI n ∧ ∀ j, j < k → ∀ w, w < 3 → μ1 (49 + j) w = pRowOf (cR 1 μ) (cS 18 μ) (μ 46) j w := hI
  show zX shC σ 5 MX3_tell 22 [(0, zr 47), (1, zr 46), (2, zi (nI n)), (3, zi (nI k))] [] μ1 _
  obtain ⟨hk, hs, hj, hc, hr⟩ := hI
  have hR1 : cR 1 μ1 = cR 1 μ := cR_μ (fun q h1 h2 => hj q (by simp; omega))
  have hok1 := pRunA_ok (ρ := cR 1 μ) (A := μ 46) ok k (by omega)
  have okm : pOK (cS 25 μ1) := by rw [hs]; exact hok1.1
  have rokm : cROK 1 μ1 := cROK_μ (hj 1 (by decide)).symm (hj 4 (by decide)).symm rok
  have e46 : μ1 46 = μ 46 := hj 46 (by decide)
  refine zx_iload_n (k := 3) (nn := 23) dX3_tell_22 rfl rfl rfl ?_
  refine zx_aload_n (k := 0) (nn := 24) dX3_tell_23 rfl rfl rfl ?_
  refine zx_getI (nn := 27) flX3_23 rfl rfl dX3_tell_24 rfl ?_
  rw [hc]
  show zX shC σ 5 MX3_tell 27 [(0, zr 47), (1, zr 46), (2, zi (nI n)), (3, zi (nI k))] [zi (nI n), zi (nI k)] μ1 _
  refine zx_icmp_ge (tgt := 83) (nn := 30) dX3_tell_27 (by decide) rfl (fun h27 => ?_) (fun h27 => ?_)
  · refine zx_vret rfl dX3_tell_83 ?_
    have hge := nI_le_le h27 (by omega)
    exact ⟨rfl, hj, hc, fun j hjn => hr j (by omega)⟩
  · have hlt : k < n := nI_nle_lt h27 (by omega)
    have hk4 : k < 4 := by omega
    refine zx_aload_n (k := 0) (nn := 31) dX3_tell_30 rfl rfl rfl ?_
    refine zx_getR (q := 48) (nn := 34) flX3_13 rfl rfl dX3_tell_31 rfl ?_
    refine zx_iload_n (k := 3) (nn := 35) dX3_tell_34 rfl rfl rfl ?_
    refine zx_aald (q := 49 + k) (nn := 36) rfl (vp_in_nI hk4 (by decide)) (rows_ix hk4) dX3_tell_35 rfl ?_
    refine zx_iconst (v := 0) (nn := 37) rfl dX3_tell_36 rfl ?_
    refine zx_aload_n (k := 1) (nn := 38) dX3_tell_37 rfl rfl rfl ?_
    refine zx_iload_n (k := 3) (nn := 39) dX3_tell_38 rfl rfl rfl ?_
    refine zx_iald_n (j := k) (nn := 40) rfl (by omega) (by decide) dX3_tell_39 rfl ?_
    rw [e46]
    show zX shC σ 5 MX3_tell 40 [(0, zr 47), (1, zr 46), (2, zi (nI n)), (3, zi (nI k))] [zi (μ 46 k), zi 0, zr (49 + k)] μ1 _
    refine zx_iast_n (j := 0) (nn := 41) (rows_sh hk4) (by omega) (by decide) dX3_tell_40 rfl ?_
    have hM0 : cS 25 (zp μ1 (49 + k) 0 (μ 46 k)) = cS 25 μ1 := cS_eq (fun q hq => zp_ne (by omega))
    have hR0 : cR 1 (zp μ1 (49 + k) 0 (μ 46 k)) = cR 1 μ := by rw [← hR1]; exact cR_μ (fun q h1 h2 => zp_ne (by omega))
    have hrJ : 49 + k ∈ ([6, 25, 26, 27, 28, 29, 30, 31, 47, 49, 50, 51, 52] : List Nat) := by simp; omega
    have hk4 : k < 4 := by omega
    refine zx_aload_n (k := 0) (nn := 42) dX3_tell_41 rfl rfl rfl ?_
    refine zx_getR (q := 48) (nn := 45) flX3_13 rfl rfl dX3_tell_42 rfl ?_
    refine zx_iload_n (k := 3) (nn := 46) dX3_tell_45 rfl rfl rfl ?_
    refine zx_aald (q := 49 + k) (nn := 47) rfl (vp_in_nI hk4 (by decide)) (rows_ix hk4) dX3_tell_46 rfl ?_
    refine zx_iconst (v := 1) (nn := 48) rfl dX3_tell_47 rfl ?_
    refine zx_aload_n (k := 0) (nn := 49) dX3_tell_48 rfl rfl rfl ?_
    refine zx_getR (q := 25) (nn := 52) flX3_20 rfl rfl dX3_tell_49 rfl ?_
    refine zx_aload_n (k := 1) (nn := 53) dX3_tell_52 rfl rfl rfl ?_
    refine zx_iload_n (k := 3) (nn := 54) dX3_tell_53 rfl rfl rfl ?_
    refine zx_iald_n (j := k) (nn := 55) rfl (by omega) (by decide) dX3_tell_54 rfl ?_
    rw [zp_ne (show 46 ≠ 49 + k by omega), e46]
    show zX shC σ 5 MX3_tell 55 [(0, zr 47), (1, zr 46), (2, zi (nI n)), (3, zi (nI k))] [zi (μ 46 k), zr 25, zi 1, zr (49 + k)] (zp μ1 (49 + k) 0 (μ 46 k)) _
    refine zx_iconst (v := 1) (nn := 56) rfl dX3_tell_55 rfl ?_
    refine zx_isub (nn := 57) dX3_tell_56 rfl ?_
    refine zx_callV (nn := 60) (k := 25) (d' := 4) (as := [zi ((μ 46 k) - 1)]) (rest := [zi 1, zr (49 + k)]) (n := 1) (eX8_goBy_25 σ (zp μ1 (49 + k) 0 (μ 46 k)) (μ 46 k - 1) (by rw [hM0]; exact okm) (by exact cROK_μ (μ := μ1) (by rw [zp_ne (by omega)]) (by rw [zp_ne (by omega)]) rokm) (by rw [hM0, hs, hok1.2.1, hok1.2.2.1]; omega)) kX8_goBy mlX3_39 rfl rfl rfl (by decide) rfl rfl (Nat.le_of_ble_eq_true rfl) dX3_tell_57 rfl ?_
    rintro _ ν2 ⟨rfl, g1, g2⟩
    show zX shC σ 5 MX3_tell 60 [(0, zr 47), (1, zr 46), (2, zi (nI n)), (3, zi (nI k))] [zi (pGain (cR 1 (zp μ1 (49 + k) 0 (μ 46 k))) (cS 25 (zp μ1 (49 + k) 0 (μ 46 k))) (μ 46 k - 1)), zi 1, zr (49 + k)] ν2 _
    rw [hR0, hM0, hs]
    have hsg : cS 25 ν2 = pRunA (cR 1 μ) (cS 18 μ) (μ 46) (k + 1) := by rw [g1, hR0, hM0, hs]; rfl
    show zX shC σ 5 MX3_tell 60 [(0, zr 47), (1, zr 46), (2, zi (nI n)), (3, zi (nI k))] [zi (pGain (cR 1 μ) (pRunA (cR 1 μ) (cS 18 μ) (μ 46) k) (μ 46 k - 1)), zi 1, zr (49 + k)] ν2 _
    refine zx_iast_n (j := 1) (nn := 61) (rows_sh hk4) (by omega) (by decide) dX3_tell_60 rfl ?_
    have hok2 := pRunA_ok (ρ := cR 1 μ) (A := μ 46) ok (k + 1) (by omega)
    have hs2 : cS 25 (zp ν2 (49 + k) 1 (pGain (cR 1 μ) (pRunA (cR 1 μ) (cS 18 μ) (μ 46) k) (μ 46 k - 1))) = pRunA (cR 1 μ) (cS 18 μ) (μ 46) (k + 1) := (cS_eq (b := 25) (fun q hq => zp_ne (by omega))).trans hsg
    have hj2 : zJ [6, 25, 26, 27, 28, 29, 30, 31, 47, 49, 50, 51, 52] μ (zp ν2 (49 + k) 1 (pGain (cR 1 μ) (pRunA (cR 1 μ) (cS 18 μ) (μ 46) k) (μ 46 k - 1))) := (((hj.p hrJ).tr (g2.mono (by decide))).p hrJ)
    have hc2 : (zp ν2 (49 + k) 1 (pGain (cR 1 μ) (pRunA (cR 1 μ) (cS 18 μ) (μ 46) k) (μ 46 k - 1))) 47 3 = nI n := by rw [zp_ne (by omega), g2 47 (by decide), zp_ne (by omega)]; exact hc
    have hrow0 : (zp ν2 (49 + k) 1 (pGain (cR 1 μ) (pRunA (cR 1 μ) (cS 18 μ) (μ 46) k) (μ 46 k - 1))) (49 + k) 0 = μ 46 k := by rw [zp_eq, pk_un (by omega), g2 _ (by simp; omega), zp_eq]; exact pk_us
    have hrow1 : (zp ν2 (49 + k) 1 (pGain (cR 1 μ) (pRunA (cR 1 μ) (cS 18 μ) (μ 46) k) (μ 46 k - 1))) (49 + k) 1 = pGain (cR 1 μ) (pRunA (cR 1 μ) (cS 18 μ) (μ 46) k) (μ 46 k - 1) := by rw [zp_eq]; exact pk_us
    have hold : ∀ j, j < k → ∀ w, w < 3 → (zp ν2 (49 + k) 1 (pGain (cR 1 μ) (pRunA (cR 1 μ) (cS 18 μ) (μ 46) k) (μ 46 k - 1))) (49 + j) w = pRowOf (cR 1 μ) (cS 18 μ) (μ 46) j w := fun j hj w hw => by rw [zp_ne (by omega), g2 _ (by simp; omega), zp_ne (by omega)]; exact hr j hj w hw
    refine zx_aload_n (k := 0) (nn := 62) dX3_tell_61 rfl rfl rfl ?_
    refine zx_getR (q := 48) (nn := 65) flX3_13 rfl rfl dX3_tell_62 rfl ?_
    refine zx_iload_n (k := 3) (nn := 66) dX3_tell_65 rfl rfl rfl ?_
    refine zx_aald (q := 49 + k) (nn := 67) rfl (vp_in_nI hk4 (by decide)) (rows_ix hk4) dX3_tell_66 rfl ?_
    refine zx_iconst (v := 2) (nn := 68) rfl dX3_tell_67 rfl ?_
    refine zx_aload_n (k := 0) (nn := 69) dX3_tell_68 rfl rfl rfl ?_
    refine zx_getR (q := 25) (nn := 72) flX3_20 rfl rfl dX3_tell_69 rfl ?_
    refine zx_iconst (v := 2) (nn := 73) rfl dX3_tell_72 rfl ?_
    refine zx_callVf (nn := 76) (k := 25) (d' := 3) (as := [zi 2]) (rest := [zi 2, zr (49 + k)]) (n := 1) (eX8_setOf_25 σ (zp ν2 (49 + k) 1 (pGain (cR 1 μ) (pRunA (cR 1 μ) (cS 18 μ) (μ 46) k) (μ 46 k - 1))) 2 (by rw [hs2]; exact hok2.1)) kX8_setOf mlX3_43 rfl rfl rfl (by decide) rfl rfl (Nat.le_of_ble_eq_true rfl) dX3_tell_73 rfl ?_
    show zX shC σ 5 MX3_tell 76 [(0, zr 47), (1, zr 46), (2, zi (nI n)), (3, zi (nI k))] [zi (pSet (fun l => decide (pSightL (cS 25 (zp ν2 (49 + k) 1 (pGain (cR 1 μ) (pRunA (cR 1 μ) (cS 18 μ) (μ 46) k) (μ 46 k - 1)))) l (pNear (cS 25 (zp ν2 (49 + k) 1 (pGain (cR 1 μ) (pRunA (cR 1 μ) (cS 18 μ) (μ 46) k) (μ 46 k - 1)))) (cS 25 (zp ν2 (49 + k) 1 (pGain (cR 1 μ) (pRunA (cR 1 μ) (cS 18 μ) (μ 46) k) (μ 46 k - 1))) 2 - 1)) = 2)) (pL (cS 25 (zp ν2 (49 + k) 1 (pGain (cR 1 μ) (pRunA (cR 1 μ) (cS 18 μ) (μ 46) k) (μ 46 k - 1)))))), zi 2, zr (49 + k)] (zp ν2 (49 + k) 1 (pGain (cR 1 μ) (pRunA (cR 1 μ) (cS 18 μ) (μ 46) k) (μ 46 k - 1))) _
    rw [show pSet (fun l => decide (pSightL (cS 25 (zp ν2 (49 + k) 1 (pGain (cR 1 μ) (pRunA (cR 1 μ) (cS 18 μ) (μ 46) k) (μ 46 k - 1)))) l (pNear (cS 25 (zp ν2 (49 + k) 1 (pGain (cR 1 μ) (pRunA (cR 1 μ) (cS 18 μ) (μ 46) k) (μ 46 k - 1)))) (cS 25 (zp ν2 (49 + k) 1 (pGain (cR 1 μ) (pRunA (cR 1 μ) (cS 18 μ) (μ 46) k) (μ 46 k - 1))) 2 - 1)) = 2)) (pL (cS 25 (zp ν2 (49 + k) 1 (pGain (cR 1 μ) (pRunA (cR 1 μ) (cS 18 μ) (μ 46) k) (μ 46 k - 1))))) = pSetOf (pRunA (cR 1 μ) (cS 18 μ) (μ 46) (k + 1)) 2 ((cS 18 μ) (31 + (pb (cS 18 μ) + k))) from by rw [hs2, show pRunA (cR 1 μ) (cS 18 μ) (μ 46) (k + 1) = pGo (cR 1 μ) (pRunA (cR 1 μ) (cS 18 μ) (μ 46) k) (μ 46 k - 1) from rfl, pGo_near hok1.1 (by rw [hok1.2.1, hok1.2.2.1]; omega), hok1.2.1, hok1.2.2.2 _ (by omega) (by omega) (by omega)]; rfl]
    show zX shC σ 5 MX3_tell 76 [(0, zr 47), (1, zr 46), (2, zi (nI n)), (3, zi (nI k))] [zi (pSetOf (pRunA (cR 1 μ) (cS 18 μ) (μ 46) (k + 1)) 2 ((cS 18 μ) (31 + (pb (cS 18 μ) + k)))), zi 2, zr (49 + k)] (zp ν2 (49 + k) 1 (pGain (cR 1 μ) (pRunA (cR 1 μ) (cS 18 μ) (μ 46) k) (μ 46 k - 1))) _
    refine zx_iast_n (j := 2) (nn := 77) (rows_sh hk4) (by omega) (by decide) dX3_tell_76 rfl ?_
    refine zx_iinc (k := 3) (v := nI (k + 1)) (lv' := [(3, zi (nI (k + 1))), (0, zr 47), (1, zr 46), (2, zi (nI n))]) (nn := 80) dX3_tell_77 rfl (nI_1 k) (by decide) rfl rfl ?_
    refine zx_goto (tgt := 22) dX3_tell_80 (by decide) ?_
    refine zx_lv (lv' := [(0, zr 47), (1, zr 46), (2, zi (nI n)), (3, zi (nI (k + 1)))]) [1, 2, 3, 0] rfl ?_
    exact ih22 (k + 1, zp (zp ν2 (49 + k) 1 (pGain (cR 1 μ) (pRunA (cR 1 μ) (cS 18 μ) (μ 46) k) (μ 46 k - 1))) (49 + k) 2 (pSetOf (pRunA (cR 1 μ) (cS 18 μ) (μ 46) (k + 1)) 2 ((cS 18 μ) (31 + (pb (cS 18 μ) + k))))) (show (k + 1) ≤ n ∧ cS 25 (zp (zp ν2 (49 + k) 1 (pGain (cR 1 μ) (pRunA (cR 1 μ) (cS 18 μ) (μ 46) k) (μ 46 k - 1))) (49 + k) 2 (pSetOf (pRunA (cR 1 μ) (cS 18 μ) (μ 46) (k + 1)) 2 ((cS 18 μ) (31 + (pb (cS 18 μ) + k))))) = pRunA (cR 1 μ) (cS 18 μ) (μ 46) (k + 1) ∧ zJ [6, 25, 26, 27, 28, 29, 30, 31, 47, 49, 50, 51, 52] μ (zp (zp ν2 (49 + k) 1 (pGain (cR 1 μ) (pRunA (cR 1 μ) (cS 18 μ) (μ 46) k) (μ 46 k - 1))) (49 + k) 2 (pSetOf (pRunA (cR 1 μ) (cS 18 μ) (μ 46) (k + 1)) 2 ((cS 18 μ) (31 + (pb (cS 18 μ) + k))))) ∧ (zp (zp ν2 (49 + k) 1 (pGain (cR 1 μ) (pRunA (cR 1 μ) (cS 18 μ) (μ 46) k) (μ 46 k - 1))) (49 + k) 2 (pSetOf (pRunA (cR 1 μ) (cS 18 μ) (μ 46) (k + 1)) 2 ((cS 18 μ) (31 + (pb (cS 18 μ) + k))))) 47 3 = nI n ∧ ∀ j, j < (k + 1) → ∀ w, w < 3 → (zp (zp ν2 (49 + k) 1 (pGain (cR 1 μ) (pRunA (cR 1 μ) (cS 18 μ) (μ 46) k) (μ 46 k - 1))) (49 + k) 2 (pSetOf (pRunA (cR 1 μ) (cS 18 μ) (μ 46) (k + 1)) 2 ((cS 18 μ) (31 + (pb (cS 18 μ) + k))))) (49 + j) w = pRowOf (cR 1 μ) (cS 18 μ) (μ 46) j w from ⟨by omega, (cS_eq (b := 25) (fun q hq => zp_ne (by omega))).trans hs2, (hj2.p hrJ), by rw [zp_ne (by omega)]; exact hc2, fun j hj w hw => by
            by_cases q : j = k
            · subst q
              rw [zp_eq]
              rcases (show w = 0 ∨ w = 1 ∨ w = 2 by omega) with rfl | rfl | rfl
              · rw [pk_un (by omega)]; exact hrow0
              · rw [pk_un (by omega)]; exact hrow1
              · exact pk_us
            · rw [zp_ne (by omega)]; exact hold j (by omega) w hw⟩) (by show n - (k + 1) < n - k; omega)
set_option maxHeartbeats 4000000 in
set_option maxRecDepth 100000 in
theorem eX3_firstWrong_47 (σ : zG) (μ : zM) (c : Nat) (ok : pOK (cS 18 μ)) (rok : cROK 1 μ) (hc4 : c ≤ 4) (hc : μ 47 3 = nI c) : zMet shC σ 5 MX3_firstWrong yX3_firstWrong [zr 47] μ (fun rr μ' => rr = some (zi (pJd (cR 1 μ) (fun k_ w_ => μ (49 + k_) w_) c 0 (cS 18 μ))) ∧ zJ [6, 25, 26, 27, 28, 29, 30, 31] μ μ') := by
  have hB16 := (ok_B ok).2
  have hbB := (ok_b ok).2
  have hb1 : μ 18 9 = nI (pb (cS 18 μ)) := (ok_b ok).1
  have hBe : μ 18 8 = nI (pB (cS 18 μ)) := (ok_B ok).1
  have hrem : pRem (cS 18 μ) = pB (cS 18 μ) - pb (cS 18 μ) := rfl
  refine zmetF (by decide +kernel) rfl (Nat.le_of_ble_eq_true rfl) ?_
  show zX shC σ 5 MX3_firstWrong 0 [(0, zr 47)] [] μ _
  refine zx_aload_n (k := 0) (nn := 1) dX3_firstWrong_0 rfl rfl rfl ?_
  refine zx_getR (q := 25) (nn := 4) flX3_20 rfl rfl dX3_firstWrong_1 rfl ?_
  refine zx_aload_n (k := 0) (nn := 5) dX3_firstWrong_4 rfl rfl rfl ?_
  refine zx_getR (q := 18) (nn := 8) flX3_16 rfl rfl dX3_firstWrong_5 rfl ?_
  refine zx_callV (nn := 11) (k := 25) (d' := 1) (as := [zr 18]) (rest := []) (n := 1) (eX8_copyFrom_25_18 σ μ) kX8_copyFrom mlX3_27 rfl rfl rfl (by decide) rfl rfl (Nat.le_of_ble_eq_true rfl) dX3_firstWrong_8 rfl ?_
  rintro _ ν1 ⟨rfl, c1, c2⟩
  show zX shC σ 5 MX3_firstWrong 11 [(0, zr 47)] [] ν1 _
  refine zx_iconst (v := 0) (nn := 12) rfl dX3_firstWrong_11 rfl ?_
  refine zx_istore_n (nn := 13) (lv' := [(1, zi 0), (0, zr 47)]) dX3_firstWrong_12 rfl (by decide) rfl rfl ?_
  refine zx_lv (lv' := [(0, zr 47), (1, zi 0)]) [1, 0] rfl ?_
  refine zx_while (τ := Nat × zM) (fun t_ => c - t_.1) (fun t_ => t_.1 ≤ c ∧ pOK (cS 25 t_.2) ∧ zJ [6, 25, 26, 27, 28, 29, 30, 31] μ t_.2 ∧ pJd (cR 1 μ) (fun k_ w_ => μ (49 + k_) w_) c 0 (cS 18 μ) = pJd (cR 1 μ) (fun k_ w_ => μ (49 + k_) w_) (c - t_.1) t_.1 (cS 25 t_.2)) (fun t_ => [(0, zr 47), (1, zi (nI t_.1))]) (fun t_ => t_.2) (t0 := (0, ν1)) (show 0 ≤ c ∧ pOK (cS 25 ν1) ∧ zJ [6, 25, 26, 27, 28, 29, 30, 31] μ ν1 ∧ pJd (cR 1 μ) (fun k_ w_ => μ (49 + k_) w_) c 0 (cS 18 μ) = pJd (cR 1 μ) (fun k_ w_ => μ (49 + k_) w_) (c - 0) 0 (cS 25 ν1) from ⟨Nat.zero_le _, (by rw [c1]; exact ok), c2.mono (by decide), by rw [c1, Nat.sub_zero]⟩) ?_
  rintro ⟨k, μ1⟩ hI ih13
  replace hI : k ≤ c ∧ pOK (cS 25 μ1) ∧ zJ [6, 25, 26, 27, 28, 29, 30, 31] μ μ1 ∧ pJd (cR 1 μ) (fun k_ w_ => μ (49 + k_) w_) c 0 (cS 18 μ) = pJd (cR 1 μ) (fun k_ w_ => μ (49 + k_) w_) (c - k) k (cS 25 μ1) := hI
  show zX shC σ 5 MX3_firstWrong 13 [(0, zr 47), (1, zi (nI k))] [] μ1 _
  obtain ⟨hk, okm, hj, hJ⟩ := hI
  have hR1 : cR 1 μ1 = cR 1 μ := cR_μ (fun q h1 h2 => hj q (by simp; omega))
  have rokm : cROK 1 μ1 := cROK_μ (hj 1 (by decide)).symm (hj 4 (by decide)).symm rok
  have e47 : μ1 47 = μ 47 := hj 47 (by decide)
  refine zx_iload_n (k := 1) (nn := 14) dX3_firstWrong_13 rfl rfl rfl ?_
  refine zx_aload_n (k := 0) (nn := 15) dX3_firstWrong_14 rfl rfl rfl ?_
  refine zx_getI (nn := 18) flX3_23 rfl rfl dX3_firstWrong_15 rfl ?_
  rw [e47, hc]
  show zX shC σ 5 MX3_firstWrong 18 [(0, zr 47), (1, zi (nI k))] [zi (nI c), zi (nI k)] μ1 _
  refine zx_icmp_ge (tgt := 107) (nn := 21) dX3_firstWrong_18 (by decide) rfl (fun h18 => ?_) (fun h18 => ?_)
  · refine zx_iconst (v := 0) (nn := 108) rfl dX3_firstWrong_107 rfl ?_
    refine zx_iret rfl dX3_firstWrong_108 ?_
    have hge := nI_le_le h18 (by omega)
    refine ⟨congrArg (fun x => some (zi x)) ?_, hj⟩
    rw [hJ, show c - k = 0 by omega]
    rfl
  · have hlt : k < c := nI_nle_lt h18 (by omega)
    have hk4 : k < 4 := by omega
    have er : μ1 (49 + k) = μ (49 + k) := hj _ (by simp; omega)
    refine zx_aload_n (k := 0) (nn := 22) dX3_firstWrong_21 rfl rfl rfl ?_
    refine zx_getR (q := 48) (nn := 25) flX3_13 rfl rfl dX3_firstWrong_22 rfl ?_
    refine zx_iload_n (k := 1) (nn := 26) dX3_firstWrong_25 rfl rfl rfl ?_
    refine zx_aald (q := 49 + k) (nn := 27) rfl (vp_in_nI hk4 (by decide)) (rows_ix hk4) dX3_firstWrong_26 rfl ?_
    refine zx_iconst (v := 0) (nn := 28) rfl dX3_firstWrong_27 rfl ?_
    refine zx_iald_n (j := 0) (nn := 29) (rows_sh hk4) (by omega) (by decide) dX3_firstWrong_28 rfl ?_
    rw [er]
    show zX shC σ 5 MX3_firstWrong 29 [(0, zr 47), (1, zi (nI k))] [zi (μ (49 + k) 0)] μ1 _
    refine zx_istore_n (nn := 30) (lv' := [(2, zi (μ (49 + k) 0)), (0, zr 47), (1, zi (nI k))]) dX3_firstWrong_29 rfl (by decide) rfl rfl ?_
    refine zx_aload_n (k := 1) (nn := 31) dX3_firstWrong_30 rfl rfl rfl ?_
    refine zx_getR (q := 25) (nn := 34) flX3_20 rfl rfl dX3_firstWrong_31 rfl ?_
    refine zx_callVf (nn := 37) (k := 25) (d' := 0) (as := []) (rest := []) (n := 0) (eX8_isOver_25 σ μ1) kX8_isOver mlX3_46 rfl rfl rfl (by decide) rfl rfl (Nat.le_of_ble_eq_true rfl) dX3_firstWrong_34 rfl ?_
    show zX shC σ 5 MX3_firstWrong 37 [(2, zi (μ (49 + k) 0)), (0, zr 47), (1, zi (nI k))] [zi (zb (pOver (cS 25 μ1)))] μ1 _
    refine zx_ifb_ne (tgt := 51) (nn := 40) dX3_firstWrong_37 (by decide) rfl (fun h37 => ?_) (fun h37 => ?_)
    · refine zx_iload_n (k := 2) (nn := 52) dX3_firstWrong_51 rfl rfl rfl ?_
      refine zx_iconst (v := 1) (nn := 53) rfl dX3_firstWrong_52 rfl ?_
      refine zx_iadd (nn := 54) dX3_firstWrong_53 rfl ?_
      refine zx_iret rfl dX3_firstWrong_54 ?_
      rw [nI_1 k]
      refine ⟨congrArg (fun x => some (zi x)) ?_, hj⟩
      rw [hJ, show c - k = (c - (k + 1)) + 1 by omega]
      show _ = if _ then _ else if _ then _ else _
      rw [if_pos (by rw [h37]; rfl)]
    · have hov := h37
      refine zx_aload_n (k := 1) (nn := 41) dX3_firstWrong_40 rfl rfl rfl ?_
      refine zx_getR (q := 25) (nn := 44) flX3_20 rfl rfl dX3_firstWrong_41 rfl ?_
      refine zx_iload_n (k := 0) (nn := 45) dX3_firstWrong_44 rfl rfl rfl ?_
      refine zx_callVf (nn := 48) (k := 25) (d' := 1) (as := [zi (μ (49 + k) 0)]) (rest := []) (n := 1) (eX8_isAct_25 σ μ1 (μ (49 + k) 0)) kX8_isAct mlX3_50 rfl rfl rfl (by decide) rfl rfl (Nat.le_of_ble_eq_true rfl) dX3_firstWrong_45 rfl ?_
      show zX shC σ 5 MX3_firstWrong 48 [(2, zi (μ (49 + k) 0)), (0, zr 47), (1, zi (nI k))] [zi (zb (decide (μ (49 + k) 0 = 0) || pHas (cS 25 μ1 0) (μ (49 + k) 0 - 1)))] μ1 _
      refine zx_ifb_ne (tgt := 55) (nn := 51) dX3_firstWrong_48 (by decide) rfl (fun h48 => ?_) (fun h48 => ?_)
      · have hbm : pb (cS 25 μ1) < pB (cS 25 μ1) := pOver_b okm hov
        have hact : (decide ((fun k_ w_ => μ (49 + k_) w_) k 0 = 0) || pHas (cS 25 μ1 0) ((fun k_ w_ => μ (49 + k_) w_) k 0 - 1)) = true := h48
        refine zx_aload_n (k := 1) (nn := 56) dX3_firstWrong_55 rfl rfl rfl ?_
        refine zx_getR (q := 25) (nn := 59) flX3_20 rfl rfl dX3_firstWrong_56 rfl ?_
        refine zx_iload_n (k := 0) (nn := 60) dX3_firstWrong_59 rfl rfl rfl ?_
        refine zx_iconst (v := 1) (nn := 61) rfl dX3_firstWrong_60 rfl ?_
        refine zx_isub (nn := 62) dX3_firstWrong_61 rfl ?_
        refine zx_callV (nn := 65) (k := 25) (d' := 4) (as := [zi ((μ (49 + k) 0) - 1)]) (rest := []) (n := 1) (eX8_goBy_25 σ μ1 (μ (49 + k) 0 - 1) okm rokm hbm) kX8_goBy mlX3_39 rfl rfl rfl (by decide) rfl rfl (Nat.le_of_ble_eq_true rfl) dX3_firstWrong_62 rfl ?_
        rintro _ ν2 ⟨rfl, g1, g2⟩
        show zX shC σ 5 MX3_firstWrong 65 [(2, zi (μ (49 + k) 0)), (0, zr 47), (1, zi (nI k))] [zi (pGain (cR 1 μ1) (cS 25 μ1) (μ (49 + k) 0 - 1))] ν2 _
        have hg : cS 25 ν2 = pGo (cR 1 μ) (cS 25 μ1) (μ (49 + k) 0 - 1) := by rw [g1, hR1]
        have hokg : pOK (cS 25 ν2) := by rw [hg]; exact pOK_go okm hbm
        have hjg : zJ [6, 25, 26, 27, 28, 29, 30, 31] μ ν2 := hj.tr (g2.mono (by decide))
        have er2 : ν2 (49 + k) = μ (49 + k) := hjg _ (by simp; omega)
        refine zx_istore_n (nn := 66) (lv' := [(3, zi (pGain (cR 1 μ1) (cS 25 μ1) (μ (49 + k) 0 - 1))), (2, zi (μ (49 + k) 0)), (0, zr 47), (1, zi (nI k))]) dX3_firstWrong_65 rfl (by decide) rfl rfl ?_
        refine zx_aload_n (k := 2) (nn := 67) dX3_firstWrong_66 rfl rfl rfl ?_
        refine zx_getR (q := 48) (nn := 70) flX3_13 rfl rfl dX3_firstWrong_67 rfl ?_
        refine zx_iload_n (k := 3) (nn := 71) dX3_firstWrong_70 rfl rfl rfl ?_
        refine zx_aald (q := 49 + k) (nn := 72) rfl (vp_in_nI hk4 (by decide)) (rows_ix hk4) dX3_firstWrong_71 rfl ?_
        refine zx_iconst (v := 1) (nn := 73) rfl dX3_firstWrong_72 rfl ?_
        refine zx_iald_n (j := 1) (nn := 74) (rows_sh hk4) (by omega) (by decide) dX3_firstWrong_73 rfl ?_
        rw [er2]
        show zX shC σ 5 MX3_firstWrong 74 [(3, zi (pGain (cR 1 μ1) (cS 25 μ1) (μ (49 + k) 0 - 1))), (2, zi (μ (49 + k) 0)), (0, zr 47), (1, zi (nI k))] [zi (μ (49 + k) 1)] ν2 _
        refine zx_iload_n (k := 0) (nn := 75) dX3_firstWrong_74 rfl rfl rfl ?_
        refine zx_icmp_ne (tgt := 97) (nn := 78) dX3_firstWrong_75 (by decide) rfl (fun h75 => ?_) (fun h75 => ?_)
        · refine zx_iload_n (k := 3) (nn := 98) dX3_firstWrong_97 rfl rfl rfl ?_
          refine zx_iconst (v := 1) (nn := 99) rfl dX3_firstWrong_98 rfl ?_
          refine zx_iadd (nn := 100) dX3_firstWrong_99 rfl ?_
          refine zx_iret rfl dX3_firstWrong_100 ?_
          rw [nI_1 k]
          refine ⟨congrArg (fun x => some (zi x)) ?_, hjg⟩
          rw [hJ, show c - k = (c - (k + 1)) + 1 by omega]
          show _ = if _ then _ else if _ then _ else _
          rw [if_neg (by rw [hov, hact]; decide), if_neg (fun q => h75 (q.1.trans (by rw [hR1])))]
        · refine zx_aload_n (k := 2) (nn := 79) dX3_firstWrong_78 rfl rfl rfl ?_
          refine zx_getR (q := 48) (nn := 82) flX3_13 rfl rfl dX3_firstWrong_79 rfl ?_
          refine zx_iload_n (k := 3) (nn := 83) dX3_firstWrong_82 rfl rfl rfl ?_
          refine zx_aald (q := 49 + k) (nn := 84) rfl (vp_in_nI hk4 (by decide)) (rows_ix hk4) dX3_firstWrong_83 rfl ?_
          refine zx_iconst (v := 2) (nn := 85) rfl dX3_firstWrong_84 rfl ?_
          refine zx_iald_n (j := 2) (nn := 86) (rows_sh hk4) (by omega) (by decide) dX3_firstWrong_85 rfl ?_
          rw [er2]
          show zX shC σ 5 MX3_firstWrong 86 [(3, zi (pGain (cR 1 μ1) (cS 25 μ1) (μ (49 + k) 0 - 1))), (2, zi (μ (49 + k) 0)), (0, zr 47), (1, zi (nI k))] [zi (μ (49 + k) 2)] ν2 _
          refine zx_aload_n (k := 2) (nn := 87) dX3_firstWrong_86 rfl rfl rfl ?_
          refine zx_getR (q := 25) (nn := 90) flX3_20 rfl rfl dX3_firstWrong_87 rfl ?_
          refine zx_iconst (v := 2) (nn := 91) rfl dX3_firstWrong_90 rfl ?_
          refine zx_callVf (nn := 94) (k := 25) (d' := 3) (as := [zi 2]) (rest := [zi (μ (49 + k) 2)]) (n := 1) (eX8_setOf_25 σ ν2 2 hokg) kX8_setOf mlX3_43 rfl rfl rfl (by decide) rfl rfl (Nat.le_of_ble_eq_true rfl) dX3_firstWrong_91 rfl ?_
          show zX shC σ 5 MX3_firstWrong 94 [(3, zi (pGain (cR 1 μ1) (cS 25 μ1) (μ (49 + k) 0 - 1))), (2, zi (μ (49 + k) 0)), (0, zr 47), (1, zi (nI k))] [zi (pSet (fun l => decide (pSightL (cS 25 ν2) l (pNear (cS 25 ν2) (cS 25 ν2 2 - 1)) = 2)) (pL (cS 25 ν2))), zi (μ (49 + k) 2)] ν2 _
          have hso : pSet (fun l => decide (pSightL (cS 25 ν2) l (pNear (cS 25 ν2) (cS 25 ν2 2 - 1)) = 2)) (pL (cS 25 ν2)) = pSetOf (pGo (cR 1 μ) (cS 25 μ1) (μ (49 + k) 0 - 1)) 2 (cS 25 μ1 (31 + pb (cS 25 μ1))) := by rw [hg, pGo_near okm hbm]; rfl
          refine zx_icmp_eq (tgt := 101) (nn := 97) dX3_firstWrong_94 (by decide) rfl (fun h94 => ?_) (fun h94 => ?_)
          · refine zx_iinc (k := 3) (v := nI (k + 1)) (lv' := [(1, zi (nI (k + 1))), (3, zi (pGain (cR 1 μ1) (cS 25 μ1) (μ (49 + k) 0 - 1))), (2, zi (μ (49 + k) 0)), (0, zr 47)]) (nn := 104) dX3_firstWrong_101 rfl (nI_1 k) (by decide) rfl rfl ?_
            refine zx_goto (tgt := 13) dX3_firstWrong_104 (by decide) ?_
            refine zx_lv (lv' := [(0, zr 47), (1, zi (nI (k + 1)))]) [3, 0] rfl ?_
            exact ih13 (k + 1, ν2) (show (k + 1) ≤ c ∧ pOK (cS 25 ν2) ∧ zJ [6, 25, 26, 27, 28, 29, 30, 31] μ ν2 ∧ pJd (cR 1 μ) (fun k_ w_ => μ (49 + k_) w_) c 0 (cS 18 μ) = pJd (cR 1 μ) (fun k_ w_ => μ (49 + k_) w_) (c - (k + 1)) (k + 1) (cS 25 ν2) from ⟨by omega, hokg, hjg, by rw [hJ, show c - k = (c - (k + 1)) + 1 by omega]; show (if _ then _ else if _ then _ else _) = _; rw [if_neg (by rw [hov, hact]; decide), if_pos ⟨h75.trans (by rw [hR1]), h94.trans hso⟩, ← hg]⟩) (by show c - (k + 1) < c - k; omega)
          · refine zx_iload_n (k := 3) (nn := 98) dX3_firstWrong_97 rfl rfl rfl ?_
            refine zx_iconst (v := 1) (nn := 99) rfl dX3_firstWrong_98 rfl ?_
            refine zx_iadd (nn := 100) dX3_firstWrong_99 rfl ?_
            refine zx_iret rfl dX3_firstWrong_100 ?_
            rw [nI_1 k]
            refine ⟨congrArg (fun x => some (zi x)) ?_, hjg⟩
            rw [hJ, show c - k = (c - (k + 1)) + 1 by omega]
            show _ = if _ then _ else if _ then _ else _
            rw [if_neg (by rw [hov, hact]; decide), if_neg (fun q => h94 (q.2.trans hso.symm))]
      · refine zx_iload_n (k := 2) (nn := 52) dX3_firstWrong_51 rfl rfl rfl ?_
        refine zx_iconst (v := 1) (nn := 53) rfl dX3_firstWrong_52 rfl ?_
        refine zx_iadd (nn := 54) dX3_firstWrong_53 rfl ?_
        refine zx_iret rfl dX3_firstWrong_54 ?_
        rw [nI_1 k]
        refine ⟨congrArg (fun x => some (zi x)) ?_, hj⟩
        rw [hJ, show c - k = (c - (k + 1)) + 1 by omega]
        show _ = if _ then _ else if _ then _ else _
        rw [if_pos (by show (_ || !(decide (μ (49 + k) 0 = 0) || pHas (cS 25 μ1 0) (μ (49 + k) 0 - 1))) = true; rw [h48]; simp)]
