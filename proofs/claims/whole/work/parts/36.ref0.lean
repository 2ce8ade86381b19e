/-! THE REFERENCE. The stage in its row k (1 the present, 2 kept, 3 aside) -/
def rS (k : Nat) (μ : zM) : Nat → Int32 := fun i => if i < 47 ∧ i ≠ 5 ∧ i ≠ 6 then μ k i else 0
theorem rS_i {k i : Nat} {μ : zM} (h : i < 47) (h5 : i ≠ 5) (h6 : i ≠ 6) : rS k μ i = μ k i := if_pos ⟨h, h5, h6⟩
theorem nI_mulN {a b : Nat} : nI a * nI b = nI (a * b) := by
  unfold nI
  apply Int32.toBitVec_inj.mp
  simp [Int32.toBitVec_mul]
theorem tS_le {T : Nat → Int32} {len k : Nat} : tP T len k ≤ len → tS T len k ≤ len := fun h => by
  unfold tS tSk
  have := (tRun_le (f := tB) (T := T) (m := len - tP T len k) (p := tP T len k)).2
  omega
theorem tP_le {T : Nat → Int32} {len : Nat} : ∀ k, tP T len k ≤ len
  | 0 => Nat.zero_le _
  | k + 1 => by
    have h := tS_le (T := T) (tP_le (T := T) (len := len) k)
    show (tTok T len (tS T len k)).2.2 ≤ len
    rcases Nat.lt_or_ge (tS T len k) len with q | q
    · exact (tTok_e q).2
    · unfold tTok
      rw [if_pos q]
      exact h
theorem cmp_gt {x y : Int64} : 0 < lg_cmp x y ↔ y < x := by
  unfold lg_cmp
  by_cases h : y < x
  · rw [if_pos h]; exact ⟨fun _ => h, fun _ => by decide⟩
  · rw [if_neg h]
    by_cases e : x = y
    · rw [if_pos e]; exact ⟨fun q => absurd q (by decide), fun q => absurd q h⟩
    · rw [if_neg e]; exact ⟨fun q => absurd q (by decide), fun q => absurd q h⟩
theorem cmp_lt {x y : Int64} : lg_cmp x y < 0 ↔ x < y := by
  unfold lg_cmp
  by_cases h : y < x
  · rw [if_pos h]
    refine ⟨fun q => absurd q (by decide), fun q => ?_⟩
    rw [Int64.lt_iff_toInt_lt] at q h
    omega
  · rw [if_neg h]
    by_cases e : x = y
    · rw [if_pos e]
      refine ⟨fun q => absurd q (by decide), fun q => ?_⟩
      rw [e, Int64.lt_iff_toInt_lt] at q
      omega
    · rw [if_neg e]
      refine ⟨fun _ => ?_, fun _ => by decide⟩
      rw [Int64.lt_iff_toInt_lt] at h ⊢
      rw [← Int64.toInt_inj] at e
      omega
theorem l64_le {x y : Int32} : x.toInt64 ≤ y.toInt64 ↔ x ≤ y := by
  rw [Int64.le_iff_toInt_le, Int32.le_iff_toInt_le, Int32.toInt_toInt64, Int32.toInt_toInt64]
set_option maxHeartbeats 4000000 in
set_option maxRecDepth 100000 in
theorem eX11_isIn (σ : zG) (μ : zM) (v : Int64) (a : Int64) (b : Int64) : zMet shR σ 0 MX11_isIn yX11_isIn [zj v, zj a, zj b] μ (fun rr μ' => rr = some (zi (zb (decide (a ≤ v) && decide (v ≤ b)))) ∧ μ' = μ) := by
  refine zmetF (by decide +kernel) rfl (Nat.le_of_ble_eq_true rfl) ?_
  show zX shR σ 0 MX11_isIn 0 [(0, zj v), (2, zj a), (4, zj b)] [] μ _
  refine zx_lload_n (k := 0) (nn := 1) dX11_isIn_0 rfl rfl rfl ?_
  refine zx_lload_n (k := 1) (nn := 2) dX11_isIn_1 rfl rfl rfl ?_
  refine zx_lcmp (nn := 3) dX11_isIn_2 rfl ?_
  refine zx_if_lt (tgt := 17) (nn := 6) dX11_isIn_3 (by decide) rfl (fun h3 => ?_) (fun h3 => ?_)
  · refine zx_iconst (v := 0) (nn := 18) rfl dX11_isIn_17 rfl ?_
    refine zx_zret rfl rfl dX11_isIn_18 ?_
    refine ⟨congrArg (fun x => some (zi x)) ?_, rfl⟩
    rw [decide_eq_false (fun q => Int64.not_lt.mpr q (cmp_lt.mp h3))]
    rfl
  · refine zx_lload_n (k := 0) (nn := 7) dX11_isIn_6 rfl rfl rfl ?_
    refine zx_lload (k := 2) (nn := 9) dX11_isIn_7 rfl rfl ?_
    refine zx_lcmp (nn := 10) dX11_isIn_9 rfl ?_
    refine zx_if_gt (tgt := 17) (nn := 13) dX11_isIn_10 (by decide) rfl (fun h10 => ?_) (fun h10 => ?_)
    · refine zx_iconst (v := 0) (nn := 18) rfl dX11_isIn_17 rfl ?_
      refine zx_zret rfl rfl dX11_isIn_18 ?_
      refine ⟨congrArg (fun x => some (zi x)) ?_, rfl⟩
      rw [decide_eq_true (Int64.not_lt.mp (fun q => h3 (cmp_lt.mpr q))), decide_eq_false (fun q => Int64.not_lt.mpr q (cmp_gt.mp h10))]
      rfl
    · refine zx_iconst (v := 1) (nn := 14) rfl dX11_isIn_13 rfl ?_
      refine zx_goto (tgt := 18) dX11_isIn_14 (by decide) ?_
      refine zx_zret rfl rfl dX11_isIn_18 ?_
      refine ⟨congrArg (fun x => some (zi x)) ?_, rfl⟩
      rw [decide_eq_true (Int64.not_lt.mp (fun q => h3 (cmp_lt.mpr q))), decide_eq_true (Int64.not_lt.mp (fun q => h10 (cmp_gt.mpr q)))]
      rfl
set_option maxHeartbeats 4000000 in
set_option maxRecDepth 100000 in
theorem eX11_within (σ : zG) (μ : zM) (v : Int32) (a : Int32) (b : Int32) : zMet shR σ 0 MX11_within yX11_within [zi v, zi a, zi b] μ (fun rr μ' => rr = some (zi (pW v a b)) ∧ μ' = μ) := by
  refine zmetF (by decide +kernel) rfl (Nat.le_of_ble_eq_true rfl) ?_
  show zX shR σ 0 MX11_within 0 [(0, zi v), (1, zi a), (2, zi b)] [] μ _
  refine zx_iload_n (k := 0) (nn := 1) dX11_within_0 rfl rfl rfl ?_
  refine zx_iload_n (k := 1) (nn := 2) dX11_within_1 rfl rfl rfl ?_
  refine zx_icmp_ge (tgt := 9) (nn := 5) dX11_within_2 (by decide) rfl (fun h2 => ?_) (fun h2 => ?_)
  · refine zx_iload_n (k := 0) (nn := 10) dX11_within_9 rfl rfl rfl ?_
    refine zx_iload_n (k := 2) (nn := 11) dX11_within_10 rfl rfl rfl ?_
    refine zx_icmp_le (tgt := 18) (nn := 14) dX11_within_11 (by decide) rfl (fun h11 => ?_) (fun h11 => ?_)
    · refine zx_iload_n (k := 0) (nn := 19) dX11_within_18 rfl rfl rfl ?_
      refine zx_iret rfl dX11_within_19 ?_
      refine ⟨congrArg (fun x => some (zi x)) ?_, rfl⟩
      unfold pW
      rw [if_neg (Int32.not_lt.mpr h2), if_neg (Int32.not_lt.mpr h11)]
    · refine zx_iload_n (k := 2) (nn := 15) dX11_within_14 rfl rfl rfl ?_
      refine zx_goto (tgt := 19) dX11_within_15 (by decide) ?_
      refine zx_iret rfl dX11_within_19 ?_
      refine ⟨congrArg (fun x => some (zi x)) ?_, rfl⟩
      unfold pW
      rw [if_neg (Int32.not_lt.mpr h2), if_pos (Int32.not_le.mp h11)]
  · refine zx_iload_n (k := 1) (nn := 6) dX11_within_5 rfl rfl rfl ?_
    refine zx_goto (tgt := 19) dX11_within_6 (by decide) ?_
    refine zx_iret rfl dX11_within_19 ?_
    refine ⟨congrArg (fun x => some (zi x)) ?_, rfl⟩
    unfold pW
    rw [if_pos (Int32.not_le.mp h2)]
set_option maxHeartbeats 4000000 in
set_option maxRecDepth 100000 in
theorem eX11_far (σ : zG) (μ : zM) (v : Int32) : zMet shR σ 0 MX11_far yX11_far [zi v] μ (fun rr μ' => rr = some (zi (pAbs v)) ∧ μ' = μ) := by
  refine zmetF (by decide +kernel) rfl (Nat.le_of_ble_eq_true rfl) ?_
  show zX shR σ 0 MX11_far 0 [(0, zi v)] [] μ _
  refine zx_iload_n (k := 0) (nn := 1) dX11_far_0 rfl rfl rfl ?_
  refine zx_if_ge (tgt := 9) (nn := 4) dX11_far_1 (by decide) rfl (fun h1 => ?_) (fun h1 => ?_)
  · refine zx_iload_n (k := 0) (nn := 10) dX11_far_9 rfl rfl rfl ?_
    refine zx_iret rfl dX11_far_10 ?_
    refine ⟨congrArg (fun x => some (zi x)) ?_, rfl⟩
    unfold pAbs
    rw [if_neg (Int32.not_lt.mpr h1)]
  · refine zx_iload_n (k := 0) (nn := 5) dX11_far_4 rfl rfl rfl ?_
    refine zx_ineg (nn := 6) dX11_far_5 rfl ?_
    refine zx_goto (tgt := 10) dX11_far_6 (by decide) ?_
    refine zx_iret rfl dX11_far_10 ?_
    refine ⟨congrArg (fun x => some (zi x)) ?_, rfl⟩
    unfold pAbs
    rw [if_pos (Int32.not_le.mp h1)]
