/-! THE REFERENCE. The stage in its row k (1 the present, 2 kept, 3 aside) -/
def rS (k : Nat) (μ : zM) : Nat → Int32 := fun i => if i < 47 ∧ i ≠ 5 ∧ i ≠ 6 then μ k i else 0
theorem rS_i {k i : Nat} {μ : zM} (h : i < 47) (h5 : i ≠ 5) (h6 : i ≠ 6) : rS k μ i = μ k i := if_pos ⟨h, h5, h6⟩
theorem nI_mulN {a b : Nat} : nI a * nI b = nI (a * b) := by
  unfold nI
  apply Int32.toBitVec_inj.mp
  simp [Int32.toBitVec_mul]
theorem tS_le {T : Nat → Int32} {len k : Nat} : tP T len k ≤ len → tS T len k ≤ len := fun h => by
  unfold tS tSk
  have := (tRun_le (f := tB) (T := T) (m := len - tP T len k) (p := tP T len k)).2
  omega
theorem tP_le {T : Nat → Int32} {len : Nat} : ∀ k, tP T len k ≤ len
  | 0 => Nat.zero_le _
  | k + 1 => by
    have h := tS_le (T := T) (tP_le (T := T) (len := len) k)
    show (tTok T len (tS T len k)).2.2 ≤ len
    rcases Nat.lt_or_ge (tS T len k) len with q | q
    · exact (tTok_e q).2
    · unfold tTok
      rw [if_pos q]
      exact h
theorem cmp_gt {x y : Int64} : 0 < lg_cmp x y ↔ y < x := by
  unfold lg_cmp
  by_cases h : y < x
  · rw [if_pos h]; exact ⟨fun _ => h, fun _ => by decide⟩
  · rw [if_neg h]
    by_cases e : x = y
    · rw [if_pos e]; exact ⟨fun q => absurd q (by decide), fun q => absurd q h⟩
    · rw [if_neg e]; exact ⟨fun q => absurd q (by decide), fun q => absurd q h⟩
theorem cmp_lt {x y : Int64} : lg_cmp x y < 0 ↔ x < y := by
  unfold lg_cmp
  by_cases h : y < x
  · rw [if_pos h]
    refine ⟨fun q => absurd q (by decide), fun q => ?_⟩
    rw [Int64.lt_iff_toInt_lt] at q h
    omega
  · rw [if_neg h]
    by_cases e : x = y
    · rw [if_pos e]
      refine ⟨fun q => absurd q (by decide), fun q => ?_⟩
      rw [e, Int64.lt_iff_toInt_lt] at q
      omega
    · rw [if_neg e]
      refine ⟨fun _ => ?_, fun _ => by decide⟩
      rw [Int64.lt_iff_toInt_lt] at h ⊢
      rw [← Int64.toInt_inj] at e
      omega
theorem s2_pos {μ : zM} (ok : pOK (rS 1 μ)) (h : ¬ μ 1 2 = 0) : 0 < μ 1 2 := by
  have h2 : μ 1 2 = nI (pb (rS 1 μ)) := (ok_b ok).1
  have hb := (ok_b ok).2
  have hB := (ok_B ok).2
  rw [h2] at h ⊢
  exact nI_lt (a := 0) (Nat.pos_of_ne_zero (fun q => h (by rw [q]; rfl))) (by omega)
theorem l64_le {x y : Int32} : x.toInt64 ≤ y.toInt64 ↔ x ≤ y := by
  rw [Int64.le_iff_toInt_le, Int32.le_iff_toInt_le, Int32.toInt_toInt64, Int32.toInt_toInt64]
set_option maxHeartbeats 4000000 in
set_option maxRecDepth 100000 in
theorem eX11_isIn (σ : zG) (μ : zM) (v : Int64) (a : Int64) (b : Int64) : zMet shR σ 0 MX11_isIn yX11_isIn [zj v, zj a, zj b] μ (fun rr μ' => rr = some (zi (zb (decide (a ≤ v) && decide (v ≤ b)))) ∧ μ' = μ) := by
  refine zmetF (by decide +kernel) rfl (Nat.le_of_ble_eq_true rfl) ?_
  show zX shR σ 0 MX11_isIn 0 [(0, zj v), (2, zj a), (4, zj b)] [] μ _
  refine zx_lload_n (k := 0) (nn := 1) dX11_isIn_0 rfl rfl rfl ?_
  refine zx_lload_n (k := 1) (nn := 2) dX11_isIn_1 rfl rfl rfl ?_
  refine zx_lcmp (nn := 3) dX11_isIn_2 rfl ?_
  refine zx_if_lt (tgt := 17) (nn := 6) dX11_isIn_3 (by decide) rfl (fun h3 => ?_) (fun h3 => ?_)
  · refine zx_iconst (v := 0) (nn := 18) rfl dX11_isIn_17 rfl ?_
    refine zx_zret rfl rfl dX11_isIn_18 ?_
    refine ⟨congrArg (fun x => some (zi x)) ?_, rfl⟩
    rw [decide_eq_false (fun q => Int64.not_lt.mpr q (cmp_lt.mp h3))]
    rfl
  · refine zx_lload_n (k := 0) (nn := 7) dX11_isIn_6 rfl rfl rfl ?_
    refine zx_lload (k := 2) (nn := 9) dX11_isIn_7 rfl rfl ?_
    refine zx_lcmp (nn := 10) dX11_isIn_9 rfl ?_
    refine zx_if_gt (tgt := 17) (nn := 13) dX11_isIn_10 (by decide) rfl (fun h10 => ?_) (fun h10 => ?_)
    · refine zx_iconst (v := 0) (nn := 18) rfl dX11_isIn_17 rfl ?_
      refine zx_zret rfl rfl dX11_isIn_18 ?_
      refine ⟨congrArg (fun x => some (zi x)) ?_, rfl⟩
      rw [decide_eq_true (Int64.not_lt.mp (fun q => h3 (cmp_lt.mpr q))), decide_eq_false (fun q => Int64.not_lt.mpr q (cmp_gt.mp h10))]
      rfl
    · refine zx_iconst (v := 1) (nn := 14) rfl dX11_isIn_13 rfl ?_
      refine zx_goto (tgt := 18) dX11_isIn_14 (by decide) ?_
      refine zx_zret rfl rfl dX11_isIn_18 ?_
      refine ⟨congrArg (fun x => some (zi x)) ?_, rfl⟩
      rw [decide_eq_true (Int64.not_lt.mp (fun q => h3 (cmp_lt.mpr q))), decide_eq_true (Int64.not_lt.mp (fun q => h10 (cmp_gt.mpr q)))]
      rfl
set_option maxHeartbeats 4000000 in
set_option maxRecDepth 100000 in
theorem eX11_within (σ : zG) (μ : zM) (v : Int32) (a : Int32) (b : Int32) : zMet shR σ 0 MX11_within yX11_within [zi v, zi a, zi b] μ (fun rr μ' => rr = some (zi (pW v a b)) ∧ μ' = μ) := by
  refine zmetF (by decide +kernel) rfl (Nat.le_of_ble_eq_true rfl) ?_
  show zX shR σ 0 MX11_within 0 [(0, zi v), (1, zi a), (2, zi b)] [] μ _
  refine zx_iload_n (k := 0) (nn := 1) dX11_within_0 rfl rfl rfl ?_
  refine zx_iload_n (k := 1) (nn := 2) dX11_within_1 rfl rfl rfl ?_
  refine zx_icmp_ge (tgt := 9) (nn := 5) dX11_within_2 (by decide) rfl (fun h2 => ?_) (fun h2 => ?_)
  · refine zx_iload_n (k := 0) (nn := 10) dX11_within_9 rfl rfl rfl ?_
    refine zx_iload_n (k := 2) (nn := 11) dX11_within_10 rfl rfl rfl ?_
    refine zx_icmp_le (tgt := 18) (nn := 14) dX11_within_11 (by decide) rfl (fun h11 => ?_) (fun h11 => ?_)
    · refine zx_iload_n (k := 0) (nn := 19) dX11_within_18 rfl rfl rfl ?_
      refine zx_iret rfl dX11_within_19 ?_
      refine ⟨congrArg (fun x => some (zi x)) ?_, rfl⟩
      unfold pW
      rw [if_neg (Int32.not_lt.mpr h2), if_neg (Int32.not_lt.mpr h11)]
    · refine zx_iload_n (k := 2) (nn := 15) dX11_within_14 rfl rfl rfl ?_
      refine zx_goto (tgt := 19) dX11_within_15 (by decide) ?_
      refine zx_iret rfl dX11_within_19 ?_
      refine ⟨congrArg (fun x => some (zi x)) ?_, rfl⟩
      unfold pW
      rw [if_neg (Int32.not_lt.mpr h2), if_pos (Int32.not_le.mp h11)]
  · refine zx_iload_n (k := 1) (nn := 6) dX11_within_5 rfl rfl rfl ?_
    refine zx_goto (tgt := 19) dX11_within_6 (by decide) ?_
    refine zx_iret rfl dX11_within_19 ?_
    refine ⟨congrArg (fun x => some (zi x)) ?_, rfl⟩
    unfold pW
    rw [if_pos (Int32.not_le.mp h2)]
set_option maxHeartbeats 4000000 in
set_option maxRecDepth 100000 in
theorem eX11_far (σ : zG) (μ : zM) (v : Int32) : zMet shR σ 0 MX11_far yX11_far [zi v] μ (fun rr μ' => rr = some (zi (pAbs v)) ∧ μ' = μ) := by
  refine zmetF (by decide +kernel) rfl (Nat.le_of_ble_eq_true rfl) ?_
  show zX shR σ 0 MX11_far 0 [(0, zi v)] [] μ _
  refine zx_iload_n (k := 0) (nn := 1) dX11_far_0 rfl rfl rfl ?_
  refine zx_if_ge (tgt := 9) (nn := 4) dX11_far_1 (by decide) rfl (fun h1 => ?_) (fun h1 => ?_)
  · refine zx_iload_n (k := 0) (nn := 10) dX11_far_9 rfl rfl rfl ?_
    refine zx_iret rfl dX11_far_10 ?_
    refine ⟨congrArg (fun x => some (zi x)) ?_, rfl⟩
    unfold pAbs
    rw [if_neg (Int32.not_lt.mpr h1)]
  · refine zx_iload_n (k := 0) (nn := 5) dX11_far_4 rfl rfl rfl ?_
    refine zx_ineg (nn := 6) dX11_far_5 rfl ?_
    refine zx_goto (tgt := 10) dX11_far_6 (by decide) ?_
    refine zx_iret rfl dX11_far_10 ?_
    refine ⟨congrArg (fun x => some (zi x)) ?_, rfl⟩
    unfold pAbs
    rw [if_pos (Int32.not_le.mp h1)]
set_option maxHeartbeats 4000000 in
set_option maxRecDepth 100000 in
theorem eX11_isUnder (σ : zG) (μ : zM) (k : Int32) (a : Int32) : zMet shR σ 0 MX11_isUnder yX11_isUnder [zi k, zi a] μ (fun rr μ' => rr = some (zi (zb (pUnder k a))) ∧ μ' = μ) := by
  refine zmetF (by decide +kernel) rfl (Nat.le_of_ble_eq_true rfl) ?_
  show zX shR σ 0 MX11_isUnder 0 [(0, zi k), (1, zi a)] [] μ _
  refine zx_iload_n (k := 1) (nn := 1) dX11_isUnder_0 rfl rfl rfl ?_
  refine zx_if_eq (tgt := 29) (nn := 4) dX11_isUnder_1 (by decide) rfl (fun h1 => ?_) (fun h1 => ?_)
  · refine zx_iconst (v := 1) (nn := 30) rfl dX11_isUnder_29 rfl ?_
    refine zx_goto (tgt := 34) dX11_isUnder_30 (by decide) ?_
    refine zx_zret rfl rfl dX11_isUnder_34 ?_
    refine ⟨congrArg (fun x => some (zi x)) ?_, rfl⟩
    simp [pUnder, zb, h1] <;> first | exact fun q => h6 (q.trans h21.symm) | exact fun q => h6 (q.trans h11.symm)
  · refine zx_iload_n (k := 0) (nn := 5) dX11_isUnder_4 rfl rfl rfl ?_
    refine zx_iload_n (k := 1) (nn := 6) dX11_isUnder_5 rfl rfl rfl ?_
    refine zx_icmp_eq (tgt := 29) (nn := 9) dX11_isUnder_6 (by decide) rfl (fun h6 => ?_) (fun h6 => ?_)
    · refine zx_iconst (v := 1) (nn := 30) rfl dX11_isUnder_29 rfl ?_
      refine zx_goto (tgt := 34) dX11_isUnder_30 (by decide) ?_
      refine zx_zret rfl rfl dX11_isUnder_34 ?_
      refine ⟨congrArg (fun x => some (zi x)) ?_, rfl⟩
      simp [pUnder, zb, h1, h6] <;> first | exact fun q => h6 (q.trans h21.symm) | exact fun q => h6 (q.trans h11.symm)
    · refine zx_iload_n (k := 1) (nn := 10) dX11_isUnder_9 rfl rfl rfl ?_
      refine zx_iconst (v := 2) (nn := 11) rfl dX11_isUnder_10 rfl ?_
      refine zx_icmp_ne (tgt := 19) (nn := 14) dX11_isUnder_11 (by decide) rfl (fun h11 => ?_) (fun h11 => ?_)
      · refine zx_iload_n (k := 1) (nn := 20) dX11_isUnder_19 rfl rfl rfl ?_
        refine zx_iconst (v := 4) (nn := 21) rfl dX11_isUnder_20 rfl ?_
        refine zx_icmp_ne (tgt := 33) (nn := 24) dX11_isUnder_21 (by decide) rfl (fun h21 => ?_) (fun h21 => ?_)
        · refine zx_iconst (v := 0) (nn := 34) rfl dX11_isUnder_33 rfl ?_
          refine zx_zret rfl rfl dX11_isUnder_34 ?_
          refine ⟨congrArg (fun x => some (zi x)) ?_, rfl⟩
          simp [pUnder, zb, h1, h6, h11, h21] <;> first | exact fun q => h6 (q.trans h21.symm) | exact fun q => h6 (q.trans h11.symm)
        · refine zx_iload_n (k := 0) (nn := 25) dX11_isUnder_24 rfl rfl rfl ?_
          refine zx_iconst (v := 5) (nn := 26) rfl dX11_isUnder_25 rfl ?_
          refine zx_icmp_ne (tgt := 33) (nn := 29) dX11_isUnder_26 (by decide) rfl (fun h26 => ?_) (fun h26 => ?_)
          · refine zx_iconst (v := 0) (nn := 34) rfl dX11_isUnder_33 rfl ?_
            refine zx_zret rfl rfl dX11_isUnder_34 ?_
            refine ⟨congrArg (fun x => some (zi x)) ?_, rfl⟩
            simp [pUnder, zb, h1, h6, h11, h21, h26] <;> first | exact fun q => h6 (q.trans h21.symm) | exact fun q => h6 (q.trans h11.symm)
          · refine zx_iconst (v := 1) (nn := 30) rfl dX11_isUnder_29 rfl ?_
            refine zx_goto (tgt := 34) dX11_isUnder_30 (by decide) ?_
            refine zx_zret rfl rfl dX11_isUnder_34 ?_
            refine ⟨congrArg (fun x => some (zi x)) ?_, rfl⟩
            simp [pUnder, zb, h1, h6, h11, h21, h26] <;> first | exact fun q => h6 (q.trans h21.symm) | exact fun q => h6 (q.trans h11.symm)
      · refine zx_iload_n (k := 0) (nn := 15) dX11_isUnder_14 rfl rfl rfl ?_
        refine zx_iconst (v := 3) (nn := 16) rfl dX11_isUnder_15 rfl ?_
        refine zx_icmp_eq (tgt := 29) (nn := 19) dX11_isUnder_16 (by decide) rfl (fun h16 => ?_) (fun h16 => ?_)
        · refine zx_iconst (v := 1) (nn := 30) rfl dX11_isUnder_29 rfl ?_
          refine zx_goto (tgt := 34) dX11_isUnder_30 (by decide) ?_
          refine zx_zret rfl rfl dX11_isUnder_34 ?_
          refine ⟨congrArg (fun x => some (zi x)) ?_, rfl⟩
          simp [pUnder, zb, h1, h6, h11, h16] <;> first | exact fun q => h6 (q.trans h21.symm) | exact fun q => h6 (q.trans h11.symm)
        · refine zx_iload_n (k := 1) (nn := 20) dX11_isUnder_19 rfl rfl rfl ?_
          refine zx_iconst (v := 4) (nn := 21) rfl dX11_isUnder_20 rfl ?_
          refine zx_icmp_ne (tgt := 33) (nn := 24) dX11_isUnder_21 (by decide) rfl (fun h21 => ?_) (fun h21 => ?_)
          · refine zx_iconst (v := 0) (nn := 34) rfl dX11_isUnder_33 rfl ?_
            refine zx_zret rfl rfl dX11_isUnder_34 ?_
            refine ⟨congrArg (fun x => some (zi x)) ?_, rfl⟩
            simp [pUnder, zb, h1, h6, h11, h16, h21] <;> first | exact fun q => h6 (q.trans h21.symm) | exact fun q => h6 (q.trans h11.symm)
          · exact absurd (h11.symm.trans h21) (by decide)
set_option maxHeartbeats 4000000 in
set_option maxRecDepth 100000 in
theorem eX11_isOver_0 (σ : zG) (μ : zM) : zMet shR σ 0 MX11_isOver yX11_isOver [zr 0] μ (fun rr μ' => rr = some (zi (zb (pOver (rS 1 μ)))) ∧ μ' = μ) := by
  refine zmetF (by decide +kernel) rfl (Nat.le_of_ble_eq_true rfl) ?_
  show zX shR σ 0 MX11_isOver 0 [(0, zr 0)] [] μ _
  refine zx_aload_n (k := 0) (nn := 1) dX11_isOver_0 rfl rfl rfl ?_
  refine zx_getR (q := 1) (nn := 4) flX11_9 rfl rfl dX11_isOver_1 rfl ?_
  refine zx_iconst (v := 2) (nn := 5) rfl dX11_isOver_4 rfl ?_
  refine zx_iald_n (j := 2) (nn := 6) rfl (by omega) (by decide) dX11_isOver_5 rfl ?_
  refine zx_aload_n (k := 0) (nn := 7) dX11_isOver_6 rfl rfl rfl ?_
  refine zx_getR (q := 1) (nn := 10) flX11_9 rfl rfl dX11_isOver_7 rfl ?_
  refine zx_iconst (v := 1) (nn := 11) rfl dX11_isOver_10 rfl ?_
  refine zx_iald_n (j := 1) (nn := 12) rfl (by omega) (by decide) dX11_isOver_11 rfl ?_
  refine zx_icmp_lt (tgt := 19) (nn := 15) dX11_isOver_12 (by decide) rfl (fun h12 => ?_) (fun h12 => ?_)
  · refine zx_iconst (v := 0) (nn := 20) rfl dX11_isOver_19 rfl ?_
    refine zx_zret rfl rfl dX11_isOver_20 ?_
    refine ⟨congrArg (fun x => some (zi x)) ?_, rfl⟩
    show _ = zb (decide (μ 1 1 ≤ μ 1 2))
    rw [decide_eq_false (Int32.not_le.mpr h12)]
    rfl
  · refine zx_iconst (v := 1) (nn := 16) rfl dX11_isOver_15 rfl ?_
    refine zx_goto (tgt := 20) dX11_isOver_16 (by decide) ?_
    refine zx_zret rfl rfl dX11_isOver_20 ?_
    refine ⟨congrArg (fun x => some (zi x)) ?_, rfl⟩
    show _ = zb (decide (μ 1 1 ≤ μ 1 2))
    rw [decide_eq_true (Int32.not_lt.mp h12)]
    rfl
set_option maxHeartbeats 4000000 in
set_option maxRecDepth 100000 in
theorem eX11_of_0 (σ : zG) (μ : zM) (l : Nat) (w : Nat) (hl : l < 6) (hw : w < 4) : zMet shR σ 0 MX11_of yX11_of [zr 0, zi (nI l), zi (nI w)] μ (fun rr μ' => rr = some (zi (rS 1 μ (7 + 4 * l + w))) ∧ μ' = μ) := by
  refine zmetF (by decide +kernel) rfl (Nat.le_of_ble_eq_true rfl) ?_
  show zX shR σ 0 MX11_of 0 [(0, zr 0), (1, zi (nI l)), (2, zi (nI w))] [] μ _
  refine zx_aload_n (k := 0) (nn := 1) dX11_of_0 rfl rfl rfl ?_
  refine zx_getR (q := 1) (nn := 4) flX11_9 rfl rfl dX11_of_1 rfl ?_
  refine zx_bipush (v := 7) (nn := 6) rfl dX11_of_4 rfl ?_
  refine zx_iconst (v := 4) (nn := 7) rfl dX11_of_6 rfl ?_
  refine zx_iload_n (k := 1) (nn := 8) dX11_of_7 rfl rfl rfl ?_
  refine zx_imul (nn := 9) dX11_of_8 rfl ?_
  refine zx_iadd (nn := 10) dX11_of_9 rfl ?_
  refine zx_iload_n (k := 2) (nn := 11) dX11_of_10 rfl rfl rfl ?_
  refine zx_iadd (nn := 12) dX11_of_11 rfl ?_
  rw [show (7 + (4 * (nI l))) + (nI w) = nI (7 + 4 * l + w) from by rw [show (4 : Int32) = nI 4 from rfl, nI_mulN, show (7 : Int32) = nI 7 from rfl, nI_add, nI_add]]
  show zX shR σ 0 MX11_of 12 [(0, zr 0), (1, zi (nI l)), (2, zi (nI w))] [zi (nI (7 + 4 * l + w)), zr 1] μ _
  refine zx_iald_n (j := 7 + 4 * l + w) (nn := 13) rfl (by omega) (by decide) dX11_of_12 rfl ?_
  refine zx_iret rfl dX11_of_13 ?_
  refine ⟨congrArg (fun x => some (zi x)) ?_, rfl⟩
  exact (rS_i (by omega) (by omega) (by omega)).symm
set_option maxHeartbeats 4000000 in
set_option maxRecDepth 100000 in
theorem eX11_seenAt_0 (σ : zG) (μ : zM) (ok : pOK (rS 1 μ)) : zMet shR σ 0 MX11_seenAt yX11_seenAt [zr 0] μ (fun rr μ' => rr = some (zi (pSeenAt (rS 1 μ))) ∧ μ' = μ) := by
  refine zmetF (by decide +kernel) rfl (Nat.le_of_ble_eq_true rfl) ?_
  show zX shR σ 0 MX11_seenAt 0 [(0, zr 0)] [] μ _
  refine zx_aload_n (k := 0) (nn := 1) dX11_seenAt_0 rfl rfl rfl ?_
  refine zx_getR (q := 1) (nn := 4) flX11_9 rfl rfl dX11_seenAt_1 rfl ?_
  refine zx_iconst (v := 2) (nn := 5) rfl dX11_seenAt_4 rfl ?_
  refine zx_iald_n (j := 2) (nn := 6) rfl (by omega) (by decide) dX11_seenAt_5 rfl ?_
  refine zx_if_ne (tgt := 13) (nn := 9) dX11_seenAt_6 (by decide) rfl (fun h6 => ?_) (fun h6 => ?_)
  · refine zx_aload_n (k := 0) (nn := 14) dX11_seenAt_13 rfl rfl rfl ?_
    refine zx_getR (q := 1) (nn := 17) flX11_9 rfl rfl dX11_seenAt_14 rfl ?_
    refine zx_iconst (v := 2) (nn := 18) rfl dX11_seenAt_17 rfl ?_
    refine zx_iald_n (j := 2) (nn := 19) rfl (by omega) (by decide) dX11_seenAt_18 rfl ?_
    refine zx_iconst (v := 1) (nn := 20) rfl dX11_seenAt_19 rfl ?_
    refine zx_isub (nn := 21) dX11_seenAt_20 rfl ?_
    refine zx_iret rfl dX11_seenAt_21 ?_
    refine ⟨congrArg (fun x => some (zi x)) ?_, rfl⟩
    show _ = (if 0 < μ 1 2 then μ 1 2 - 1 else 0)
    rw [if_pos (s2_pos ok h6)]
  · refine zx_iconst (v := 0) (nn := 10) rfl dX11_seenAt_9 rfl ?_
    refine zx_goto (tgt := 21) dX11_seenAt_10 (by decide) ?_
    refine zx_iret rfl dX11_seenAt_21 ?_
    refine ⟨congrArg (fun x => some (zi x)) ?_, rfl⟩
    show _ = (if 0 < μ 1 2 then μ 1 2 - 1 else 0)
    rw [h6, if_neg (by decide)]
