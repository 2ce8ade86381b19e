def pMax (a b : Int32) : Int32 := if b ≤ a then a else b
def pMin (a b : Int32) : Int32 := if a ≤ b then a else b
theorem pW_mm {v a b : Int32} (h : a ≤ b) : pMax a (pMin b v) = pW v a b := by
  unfold pMax pMin pW
  repeat' split
  all_goals first | rfl | (apply Int32.toInt_inj.mp; simp only [Int32.lt_iff_toInt_lt, Int32.le_iff_toInt_le] at *; omega)
theorem zk15 {k : Int32} (h1 : 1 ≤ k) (h2 : k ≤ 5) : k = 1 ∨ k = 2 ∨ k = 3 ∨ k = 4 ∨ k = 5 := by
  have e1 := Int32.le_iff_toInt_le.mp h1
  have e2 := Int32.le_iff_toInt_le.mp h2
  have f1 : (1 : Int32).toInt = 1 := rfl
  have f5 : (5 : Int32).toInt = 5 := rfl
  have g : k.toInt = 1 ∨ k.toInt = 2 ∨ k.toInt = 3 ∨ k.toInt = 4 ∨ k.toInt = 5 := by omega
  rcases g with g | g | g | g | g
  · exact Or.inl (Int32.toInt_inj.mp g)
  · exact Or.inr (Or.inl (Int32.toInt_inj.mp g))
  · exact Or.inr (Or.inr (Or.inl (Int32.toInt_inj.mp g)))
  · exact Or.inr (Or.inr (Or.inr (Or.inl (Int32.toInt_inj.mp g))))
  · exact Or.inr (Or.inr (Or.inr (Or.inr (Int32.toInt_inj.mp g))))
set_option maxHeartbeats 4000000 in
set_option maxRecDepth 100000 in
theorem eJ9_max_7cf53 (σ : zG) (μ : zM) (a : Int32) (b : Int32) : zMet shC σ 0 MJ9_max_7cf53 yJ9_max_7cf53 [zi a, zi b] μ (fun rr μ' => rr = some (zi (pMax a b)) ∧ μ' = μ) := by
  refine zmetF (by decide +kernel) rfl (Nat.le_of_ble_eq_true rfl) ?_
  show zX shC σ 0 MJ9_max_7cf53 0 [(0, zi a), (1, zi b)] [] μ _
  refine zx_iload_n (k := 0) (nn := 1) dJ9_max_7cf53_0 rfl rfl rfl ?_
  refine zx_iload_n (k := 1) (nn := 2) dJ9_max_7cf53_1 rfl rfl rfl ?_
  refine zx_icmp_lt (tgt := 9) (nn := 5) dJ9_max_7cf53_2 (by decide) rfl (fun h2 => ?_) (fun h2 => ?_)
  · refine zx_iload_n (k := 1) (nn := 10) dJ9_max_7cf53_9 rfl rfl rfl ?_
    refine zx_iret rfl dJ9_max_7cf53_10 ?_
    refine ⟨congrArg (fun x => some (zi x)) ?_, rfl⟩
    unfold pMax
    (repeat' split) <;> first | rfl | (exfalso; simp only [decide_eq_true_eq, decide_eq_false_iff_not, Bool.and_eq_true, Bool.or_eq_true, Bool.and_eq_false_iff, Bool.or_eq_false_iff, Int32.lt_iff_toInt_lt, Int32.le_iff_toInt_le, ← Int32.toInt_inj, ztm2, ztm1, zt0, zt1, zt2, zt3, zt4, zt5, zt6, zt7, zt8, zt9, zt10, zt15, zt16, zt20, zt30, zt31, zt40, zt41, zt200, zt999] at *; omega)
  · refine zx_iload_n (k := 0) (nn := 6) dJ9_max_7cf53_5 rfl rfl rfl ?_
    refine zx_goto (tgt := 10) dJ9_max_7cf53_6 (by decide) ?_
    refine zx_iret rfl dJ9_max_7cf53_10 ?_
    refine ⟨congrArg (fun x => some (zi x)) ?_, rfl⟩
    unfold pMax
    (repeat' split) <;> first | rfl | (exfalso; simp only [decide_eq_true_eq, decide_eq_false_iff_not, Bool.and_eq_true, Bool.or_eq_true, Bool.and_eq_false_iff, Bool.or_eq_false_iff, Int32.lt_iff_toInt_lt, Int32.le_iff_toInt_le, ← Int32.toInt_inj, ztm2, ztm1, zt0, zt1, zt2, zt3, zt4, zt5, zt6, zt7, zt8, zt9, zt10, zt15, zt16, zt20, zt30, zt31, zt40, zt41, zt200, zt999] at *; omega)
set_option maxHeartbeats 4000000 in
set_option maxRecDepth 100000 in
theorem eJ9_min_7cf53 (σ : zG) (μ : zM) (a : Int32) (b : Int32) : zMet shC σ 0 MJ9_min_7cf53 yJ9_min_7cf53 [zi a, zi b] μ (fun rr μ' => rr = some (zi (pMin a b)) ∧ μ' = μ) := by
  refine zmetF (by decide +kernel) rfl (Nat.le_of_ble_eq_true rfl) ?_
  show zX shC σ 0 MJ9_min_7cf53 0 [(0, zi a), (1, zi b)] [] μ _
  refine zx_iload_n (k := 0) (nn := 1) dJ9_min_7cf53_0 rfl rfl rfl ?_
  refine zx_iload_n (k := 1) (nn := 2) dJ9_min_7cf53_1 rfl rfl rfl ?_
  refine zx_icmp_gt (tgt := 9) (nn := 5) dJ9_min_7cf53_2 (by decide) rfl (fun h2 => ?_) (fun h2 => ?_)
  · refine zx_iload_n (k := 1) (nn := 10) dJ9_min_7cf53_9 rfl rfl rfl ?_
    refine zx_iret rfl dJ9_min_7cf53_10 ?_
    refine ⟨congrArg (fun x => some (zi x)) ?_, rfl⟩
    unfold pMin
    (repeat' split) <;> first | rfl | (exfalso; simp only [decide_eq_true_eq, decide_eq_false_iff_not, Bool.and_eq_true, Bool.or_eq_true, Bool.and_eq_false_iff, Bool.or_eq_false_iff, Int32.lt_iff_toInt_lt, Int32.le_iff_toInt_le, ← Int32.toInt_inj, ztm2, ztm1, zt0, zt1, zt2, zt3, zt4, zt5, zt6, zt7, zt8, zt9, zt10, zt15, zt16, zt20, zt30, zt31, zt40, zt41, zt200, zt999] at *; omega)
  · refine zx_iload_n (k := 0) (nn := 6) dJ9_min_7cf53_5 rfl rfl rfl ?_
    refine zx_goto (tgt := 10) dJ9_min_7cf53_6 (by decide) ?_
    refine zx_iret rfl dJ9_min_7cf53_10 ?_
    refine ⟨congrArg (fun x => some (zi x)) ?_, rfl⟩
    unfold pMin
    (repeat' split) <;> first | rfl | (exfalso; simp only [decide_eq_true_eq, decide_eq_false_iff_not, Bool.and_eq_true, Bool.or_eq_true, Bool.and_eq_false_iff, Bool.or_eq_false_iff, Int32.lt_iff_toInt_lt, Int32.le_iff_toInt_le, ← Int32.toInt_inj, ztm2, ztm1, zt0, zt1, zt2, zt3, zt4, zt5, zt6, zt7, zt8, zt9, zt10, zt15, zt16, zt20, zt30, zt31, zt40, zt41, zt200, zt999] at *; omega)
set_option maxHeartbeats 4000000 in
set_option maxRecDepth 100000 in
theorem eJ9_abs_0f7a4 (σ : zG) (μ : zM) (a : Int32) : zMet shC σ 0 MJ9_abs_0f7a4 yJ9_abs_0f7a4 [zi a] μ (fun rr μ' => rr = some (zi (pAbs a)) ∧ μ' = μ) := by
  refine zmetF (by decide +kernel) rfl (Nat.le_of_ble_eq_true rfl) ?_
  show zX shC σ 0 MJ9_abs_0f7a4 0 [(0, zi a)] [] μ _
  refine zx_iload_n (k := 0) (nn := 1) dJ9_abs_0f7a4_0 rfl rfl rfl ?_
  refine zx_if_ge (tgt := 9) (nn := 4) dJ9_abs_0f7a4_1 (by decide) rfl (fun h1 => ?_) (fun h1 => ?_)
  · refine zx_iload_n (k := 0) (nn := 10) dJ9_abs_0f7a4_9 rfl rfl rfl ?_
    refine zx_iret rfl dJ9_abs_0f7a4_10 ?_
    refine ⟨congrArg (fun x => some (zi x)) ?_, rfl⟩
    unfold pAbs
    (repeat' split) <;> first | rfl | (exfalso; simp only [decide_eq_true_eq, decide_eq_false_iff_not, Bool.and_eq_true, Bool.or_eq_true, Bool.and_eq_false_iff, Bool.or_eq_false_iff, Int32.lt_iff_toInt_lt, Int32.le_iff_toInt_le, ← Int32.toInt_inj, ztm2, ztm1, zt0, zt1, zt2, zt3, zt4, zt5, zt6, zt7, zt8, zt9, zt10, zt15, zt16, zt20, zt30, zt31, zt40, zt41, zt200, zt999] at *; omega)
  · refine zx_iload_n (k := 0) (nn := 5) dJ9_abs_0f7a4_4 rfl rfl rfl ?_
    refine zx_ineg (nn := 6) dJ9_abs_0f7a4_5 rfl ?_
    refine zx_goto (tgt := 10) dJ9_abs_0f7a4_6 (by decide) ?_
    refine zx_iret rfl dJ9_abs_0f7a4_10 ?_
    refine ⟨congrArg (fun x => some (zi x)) ?_, rfl⟩
    unfold pAbs
    (repeat' split) <;> first | rfl | (exfalso; simp only [decide_eq_true_eq, decide_eq_false_iff_not, Bool.and_eq_true, Bool.or_eq_true, Bool.and_eq_false_iff, Bool.or_eq_false_iff, Int32.lt_iff_toInt_lt, Int32.le_iff_toInt_le, ← Int32.toInt_inj, ztm2, ztm1, zt0, zt1, zt2, zt3, zt4, zt5, zt6, zt7, zt8, zt9, zt10, zt15, zt16, zt20, zt30, zt31, zt40, zt41, zt200, zt999] at *; omega)
set_option maxHeartbeats 4000000 in
set_option maxRecDepth 100000 in
theorem eJ6_compare_7cf53 (σ : zG) (μ : zM) (a : Int32) (b : Int32) : zMet shC σ 0 MJ6_compare_7cf53 yJ6_compare_7cf53 [zi a, zi b] μ (fun rr μ' => rr = some (zi (pCmp a b)) ∧ μ' = μ) := by
  refine zmetF (by decide +kernel) rfl (Nat.le_of_ble_eq_true rfl) ?_
  show zX shC σ 0 MJ6_compare_7cf53 0 [(0, zi a), (1, zi b)] [] μ _
  refine zx_iload_n (k := 0) (nn := 1) dJ6_compare_7cf53_0 rfl rfl rfl ?_
  refine zx_iload_n (k := 1) (nn := 2) dJ6_compare_7cf53_1 rfl rfl rfl ?_
  refine zx_icmp_ge (tgt := 9) (nn := 5) dJ6_compare_7cf53_2 (by decide) rfl (fun h2 => ?_) (fun h2 => ?_)
  · refine zx_iload_n (k := 0) (nn := 10) dJ6_compare_7cf53_9 rfl rfl rfl ?_
    refine zx_iload_n (k := 1) (nn := 11) dJ6_compare_7cf53_10 rfl rfl rfl ?_
    refine zx_icmp_ne (tgt := 18) (nn := 14) dJ6_compare_7cf53_11 (by decide) rfl (fun h11 => ?_) (fun h11 => ?_)
    · refine zx_iconst (v := 1) (nn := 19) rfl dJ6_compare_7cf53_18 rfl ?_
      refine zx_iret rfl dJ6_compare_7cf53_19 ?_
      refine ⟨congrArg (fun x => some (zi x)) ?_, rfl⟩
      unfold pCmp
      (repeat' split) <;> first | rfl | (exfalso; simp only [decide_eq_true_eq, decide_eq_false_iff_not, Bool.and_eq_true, Bool.or_eq_true, Bool.and_eq_false_iff, Bool.or_eq_false_iff, Int32.lt_iff_toInt_lt, Int32.le_iff_toInt_le, ← Int32.toInt_inj, ztm2, ztm1, zt0, zt1, zt2, zt3, zt4, zt5, zt6, zt7, zt8, zt9, zt10, zt15, zt16, zt20, zt30, zt31, zt40, zt41, zt200, zt999] at *; omega)
    · refine zx_iconst (v := 0) (nn := 15) rfl dJ6_compare_7cf53_14 rfl ?_
      refine zx_goto (tgt := 19) dJ6_compare_7cf53_15 (by decide) ?_
      refine zx_iret rfl dJ6_compare_7cf53_19 ?_
      refine ⟨congrArg (fun x => some (zi x)) ?_, rfl⟩
      unfold pCmp
      (repeat' split) <;> first | rfl | (exfalso; simp only [decide_eq_true_eq, decide_eq_false_iff_not, Bool.and_eq_true, Bool.or_eq_true, Bool.and_eq_false_iff, Bool.or_eq_false_iff, Int32.lt_iff_toInt_lt, Int32.le_iff_toInt_le, ← Int32.toInt_inj, ztm2, ztm1, zt0, zt1, zt2, zt3, zt4, zt5, zt6, zt7, zt8, zt9, zt10, zt15, zt16, zt20, zt30, zt31, zt40, zt41, zt200, zt999] at *; omega)
  · refine zx_iconst (v := -1) (nn := 6) rfl dJ6_compare_7cf53_5 rfl ?_
    refine zx_goto (tgt := 19) dJ6_compare_7cf53_6 (by decide) ?_
    refine zx_iret rfl dJ6_compare_7cf53_19 ?_
    refine ⟨congrArg (fun x => some (zi x)) ?_, rfl⟩
    unfold pCmp
    (repeat' split) <;> first | rfl | (exfalso; simp only [decide_eq_true_eq, decide_eq_false_iff_not, Bool.and_eq_true, Bool.or_eq_true, Bool.and_eq_false_iff, Bool.or_eq_false_iff, Int32.lt_iff_toInt_lt, Int32.le_iff_toInt_le, ← Int32.toInt_inj, ztm2, ztm1, zt0, zt1, zt2, zt3, zt4, zt5, zt6, zt7, zt8, zt9, zt10, zt15, zt16, zt20, zt30, zt31, zt40, zt41, zt200, zt999] at *; omega)
set_option maxHeartbeats 4000000 in
set_option maxRecDepth 100000 in
theorem eX10_isIn (σ : zG) (μ : zM) (v : Int32) (a : Int32) (b : Int32) : zMet shC σ 0 MX10_isIn yX10_isIn [zi v, zi a, zi b] μ (fun rr μ' => rr = some (zi (zb (pIn v a b))) ∧ μ' = μ) := by
  refine zmetF (by decide +kernel) rfl (Nat.le_of_ble_eq_true rfl) ?_
  show zX shC σ 0 MX10_isIn 0 [(0, zi v), (1, zi a), (2, zi b)] [] μ _
  refine zx_iload_n (k := 0) (nn := 1) dX10_isIn_0 rfl rfl rfl ?_
  refine zx_iload_n (k := 1) (nn := 2) dX10_isIn_1 rfl rfl rfl ?_
  refine zx_icmp_lt (tgt := 14) (nn := 5) dX10_isIn_2 (by decide) rfl (fun h2 => ?_) (fun h2 => ?_)
  · refine zx_iconst (v := 0) (nn := 15) rfl dX10_isIn_14 rfl ?_
    refine zx_zret rfl rfl dX10_isIn_15 ?_
    refine ⟨congrArg (fun x => some (zi x)) ?_, rfl⟩
    simp only [zb, pHas, pIn, Bool.and_eq_true, decide_eq_true_eq]
    (repeat' split) <;> first | rfl | (exfalso; simp only [decide_eq_true_eq, decide_eq_false_iff_not, Bool.and_eq_true, Bool.or_eq_true, Bool.and_eq_false_iff, Bool.or_eq_false_iff, Int32.lt_iff_toInt_lt, Int32.le_iff_toInt_le, ← Int32.toInt_inj, ztm2, ztm1, zt0, zt1, zt2, zt3, zt4, zt5, zt6, zt7, zt8, zt9, zt10, zt15, zt16, zt20, zt30, zt31, zt40, zt41, zt200, zt999] at *; omega)
  · refine zx_iload_n (k := 0) (nn := 6) dX10_isIn_5 rfl rfl rfl ?_
    refine zx_iload_n (k := 2) (nn := 7) dX10_isIn_6 rfl rfl rfl ?_
    refine zx_icmp_gt (tgt := 14) (nn := 10) dX10_isIn_7 (by decide) rfl (fun h7 => ?_) (fun h7 => ?_)
    · refine zx_iconst (v := 0) (nn := 15) rfl dX10_isIn_14 rfl ?_
      refine zx_zret rfl rfl dX10_isIn_15 ?_
      refine ⟨congrArg (fun x => some (zi x)) ?_, rfl⟩
      simp only [zb, pHas, pIn, Bool.and_eq_true, decide_eq_true_eq]
      (repeat' split) <;> first | rfl | (exfalso; simp only [decide_eq_true_eq, decide_eq_false_iff_not, Bool.and_eq_true, Bool.or_eq_true, Bool.and_eq_false_iff, Bool.or_eq_false_iff, Int32.lt_iff_toInt_lt, Int32.le_iff_toInt_le, ← Int32.toInt_inj, ztm2, ztm1, zt0, zt1, zt2, zt3, zt4, zt5, zt6, zt7, zt8, zt9, zt10, zt15, zt16, zt20, zt30, zt31, zt40, zt41, zt200, zt999] at *; omega)
    · refine zx_iconst (v := 1) (nn := 11) rfl dX10_isIn_10 rfl ?_
      refine zx_goto (tgt := 15) dX10_isIn_11 (by decide) ?_
      refine zx_zret rfl rfl dX10_isIn_15 ?_
      refine ⟨congrArg (fun x => some (zi x)) ?_, rfl⟩
      simp only [zb, pHas, pIn, Bool.and_eq_true, decide_eq_true_eq]
      (repeat' split) <;> first | rfl | (exfalso; simp only [decide_eq_true_eq, decide_eq_false_iff_not, Bool.and_eq_true, Bool.or_eq_true, Bool.and_eq_false_iff, Bool.or_eq_false_iff, Int32.lt_iff_toInt_lt, Int32.le_iff_toInt_le, ← Int32.toInt_inj, ztm2, ztm1, zt0, zt1, zt2, zt3, zt4, zt5, zt6, zt7, zt8, zt9, zt10, zt15, zt16, zt20, zt30, zt31, zt40, zt41, zt200, zt999] at *; omega)
set_option maxHeartbeats 4000000 in
set_option maxRecDepth 100000 in
theorem eX8_held (σ : zG) (μ : zM) (v : Int32) (a : Int32) (b : Int32) (hab : a ≤ b) : zMet shC σ 1 MX8_held yX8_held [zi v, zi a, zi b] μ (fun rr μ' => rr = some (zi (pW v a b)) ∧ μ' = μ) := by
  refine zmetF (by decide +kernel) rfl (Nat.le_of_ble_eq_true rfl) ?_
  show zX shC σ 1 MX8_held 0 [(0, zi v), (1, zi a), (2, zi b)] [] μ _
  refine zx_iload_n (k := 1) (nn := 1) dX8_held_0 rfl rfl rfl ?_
  refine zx_iload_n (k := 2) (nn := 2) dX8_held_1 rfl rfl rfl ?_
  refine zx_iload_n (k := 0) (nn := 3) dX8_held_2 rfl rfl rfl ?_
  refine zx_callSf (nn := 6) (d' := 0) (as := [zi b, zi v]) (rest := [zi a]) (n := 2) (eJ9_min_7cf53 σ μ b v  ) kJ9_min_7cf53 mlX8_124 (by decide) rfl rfl (Nat.le_of_ble_eq_true rfl) dX8_held_3 rfl ?_
  show zX shC σ 1 MX8_held 6 [(0, zi v), (1, zi a), (2, zi b)] [zi (pMin b v), zi a] μ _
  refine zx_callSf (nn := 9) (d' := 0) (as := [zi a, zi (pMin b v)]) (rest := []) (n := 2) (eJ9_max_7cf53 σ μ a (pMin b v)  ) kJ9_max_7cf53 mlX8_129 (by decide) rfl rfl (Nat.le_of_ble_eq_true rfl) dX8_held_6 rfl ?_
  show zX shC σ 1 MX8_held 9 [(0, zi v), (1, zi a), (2, zi b)] [zi (pMax a (pMin b v))] μ _
  refine zx_iret rfl dX8_held_9 ?_
  exact ⟨congrArg (fun x => some (zi x)) (pW_mm hab), rfl⟩
set_option maxHeartbeats 4000000 in
set_option maxRecDepth 100000 in
theorem eX8_sightFor (σ : zG) (μ : zM) (a : Int32) (z : Int32) (p : Int32) : zMet shC σ 1 MX8_sightFor yX8_sightFor [zi a, zi z, zi p] μ (fun rr μ' => rr = some (zi (pSight a z p)) ∧ μ' = μ) := by
  refine zmetF (by decide +kernel) rfl (Nat.le_of_ble_eq_true rfl) ?_
  show zX shC σ 1 MX8_sightFor 0 [(0, zi a), (1, zi z), (2, zi p)] [] μ _
  refine zx_iload_n (k := 2) (nn := 1) dX8_sightFor_0 rfl rfl rfl ?_
  refine zx_iload_n (k := 0) (nn := 2) dX8_sightFor_1 rfl rfl rfl ?_
  refine zx_isub (nn := 3) dX8_sightFor_2 rfl ?_
  refine zx_callSf (nn := 6) (d' := 0) (as := [zi (p - a)]) (rest := []) (n := 1) (eJ9_abs_0f7a4 σ μ (p - a)  ) kJ9_abs_0f7a4 mlX8_132 (by decide) rfl rfl (Nat.le_of_ble_eq_true rfl) dX8_sightFor_3 rfl ?_
  show zX shC σ 1 MX8_sightFor 6 [(0, zi a), (1, zi z), (2, zi p)] [zi (pAbs (p - a))] μ _
  refine zx_iload_n (k := 1) (nn := 7) dX8_sightFor_6 rfl rfl rfl ?_
  refine zx_isub (nn := 8) dX8_sightFor_7 rfl ?_
  refine zx_istore_n (nn := 9) (lv' := [(3, zi ((pAbs (p - a)) - z)), (0, zi a), (1, zi z), (2, zi p)]) dX8_sightFor_8 rfl (by decide) rfl rfl ?_
  refine zx_iload_n (k := 0) (nn := 10) dX8_sightFor_9 rfl rfl rfl ?_
  refine zx_if_gt (tgt := 15) (nn := 13) dX8_sightFor_10 (by decide) rfl (fun h10 => ?_) (fun h10 => ?_)
  · refine zx_iload_n (k := 0) (nn := 16) dX8_sightFor_15 rfl rfl rfl ?_
    refine zx_iconst (v := 1) (nn := 17) rfl dX8_sightFor_16 rfl ?_
    refine zx_icmp_ne (tgt := 24) (nn := 20) dX8_sightFor_17 (by decide) rfl (fun h17 => ?_) (fun h17 => ?_)
    · refine zx_iconst (v := 0) (nn := 25) rfl dX8_sightFor_24 rfl ?_
      refine zx_iret rfl dX8_sightFor_25 ?_
      refine ⟨congrArg (fun x => some (zi x)) ?_, rfl⟩
      unfold pSight
      (repeat' split) <;> first | rfl | (exfalso; simp only [decide_eq_true_eq, decide_eq_false_iff_not, Bool.and_eq_true, Bool.or_eq_true, Bool.and_eq_false_iff, Bool.or_eq_false_iff, Int32.lt_iff_toInt_lt, Int32.le_iff_toInt_le, ← Int32.toInt_inj, ztm2, ztm1, zt0, zt1, zt2, zt3, zt4, zt5, zt6, zt7, zt8, zt9, zt10, zt15, zt16, zt20, zt30, zt31, zt40, zt41, zt200, zt999] at *; omega)
    · refine zx_iconst (v := 1) (nn := 21) rfl dX8_sightFor_20 rfl ?_
      refine zx_goto (tgt := 25) dX8_sightFor_21 (by decide) ?_
      refine zx_iret rfl dX8_sightFor_25 ?_
      refine ⟨congrArg (fun x => some (zi x)) ?_, rfl⟩
      unfold pSight
      (repeat' split) <;> first | rfl | (exfalso; simp only [decide_eq_true_eq, decide_eq_false_iff_not, Bool.and_eq_true, Bool.or_eq_true, Bool.and_eq_false_iff, Bool.or_eq_false_iff, Int32.lt_iff_toInt_lt, Int32.le_iff_toInt_le, ← Int32.toInt_inj, ztm2, ztm1, zt0, zt1, zt2, zt3, zt4, zt5, zt6, zt7, zt8, zt9, zt10, zt15, zt16, zt20, zt30, zt31, zt40, zt41, zt200, zt999] at *; omega)
  · refine zx_iconst (v := 2) (nn := 14) rfl dX8_sightFor_13 rfl ?_
    refine zx_iret rfl dX8_sightFor_14 ?_
    refine ⟨congrArg (fun x => some (zi x)) ?_, rfl⟩
    unfold pSight
    (repeat' split) <;> first | rfl | (exfalso; simp only [decide_eq_true_eq, decide_eq_false_iff_not, Bool.and_eq_true, Bool.or_eq_true, Bool.and_eq_false_iff, Bool.or_eq_false_iff, Int32.lt_iff_toInt_lt, Int32.le_iff_toInt_le, ← Int32.toInt_inj, ztm2, ztm1, zt0, zt1, zt2, zt3, zt4, zt5, zt6, zt7, zt8, zt9, zt10, zt15, zt16, zt20, zt30, zt31, zt40, zt41, zt200, zt999] at *; omega)
set_option maxHeartbeats 4000000 in
set_option maxRecDepth 100000 in
theorem eX8_isUnder1 (σ : zG) (μ : zM) (a : Int32) : zMet shC σ 0 MX8_isUnder yX8_isUnder [zi 1, zi a] μ (fun rr μ' => rr = some (zi (zb (pUnder 1 a))) ∧ μ' = μ) := by
  refine zmetF (by decide +kernel) rfl (Nat.le_of_ble_eq_true rfl) ?_
  show zX shC σ 0 MX8_isUnder 0 [(0, zi 1), (1, zi a)] [] μ _
  refine zx_iload_n (k := 0) (nn := 1) dX8_isUnder_0 rfl rfl rfl ?_
  refine zx_istore_n (nn := 2) (lv' := [(2, zi 1), (0, zi 1), (1, zi a)]) dX8_isUnder_1 rfl (by decide) rfl rfl ?_
  refine zx_iconst (v := 0) (nn := 3) rfl dX8_isUnder_2 rfl ?_
  refine zx_istore_n (nn := 4) (lv' := [(3, zi 0), (2, zi 1), (0, zi 1), (1, zi a)]) dX8_isUnder_3 rfl (by decide) rfl rfl ?_
  refine zx_iload_n (k := 0) (nn := 5) dX8_isUnder_4 rfl rfl rfl ?_
  refine zx_iconst (v := 5) (nn := 6) rfl dX8_isUnder_5 rfl ?_
  refine zx_icmp_gt (tgt := 37) (nn := 9) dX8_isUnder_6 (by decide) rfl (fun h6 => ?_) (fun h6 => ?_)
  · exact absurd h6 (by decide)
  · refine zx_iload_n (k := 1) (nn := 10) dX8_isUnder_9 rfl rfl rfl ?_
    refine zx_if_lt (tgt := 37) (nn := 13) dX8_isUnder_10 (by decide) rfl (fun h10 => ?_) (fun h10 => ?_)
    · exact absurd h10 (by decide)
    · refine zx_iload_n (k := 1) (nn := 14) dX8_isUnder_13 rfl rfl rfl ?_
      refine zx_iconst (v := 5) (nn := 15) rfl dX8_isUnder_14 rfl ?_
      refine zx_icmp_gt (tgt := 37) (nn := 18) dX8_isUnder_15 (by decide) rfl (fun h15 => ?_) (fun h15 => ?_)
      · exact absurd h15 (by decide)
      · refine zx_iload_n (k := 1) (nn := 19) dX8_isUnder_18 rfl rfl rfl ?_
        refine zx_iload_n (k := 3) (nn := 20) dX8_isUnder_19 rfl rfl rfl ?_
        refine zx_icmp_ne (tgt := 25) (nn := 23) dX8_isUnder_20 (by decide) rfl (fun h20 => ?_) (fun h20 => ?_)
        · refine zx_getK (nn := 28) rfl dX8_isUnder_25 rfl ?_
          refine zx_iload_n (k := 1) (nn := 29) dX8_isUnder_28 rfl rfl rfl ?_
          refine zx_aldK (nn := 30) (vp_lit rfl) dX8_isUnder_29 rfl ?_
          show zX shC σ 0 MX8_isUnder 30 [(3, zi 0), (2, zi 1), (0, zi 1), (1, zi a)] [zi 0] μ _
          refine zx_istore_n (nn := 31) (lv' := [(2, zi 0), (3, zi 0), (0, zi 1), (1, zi a)]) dX8_isUnder_30 rfl (by decide) rfl rfl ?_
          refine zx_iinc (k := 1) (v := 1) (lv' := [(3, zi 1), (2, zi 0), (0, zi 1), (1, zi a)]) (nn := 34) dX8_isUnder_31 rfl (by decide) (by decide) rfl rfl ?_
          refine zx_goto (tgt := 4) dX8_isUnder_34 (by decide) ?_
          refine zx_iload_n (k := 0) (nn := 5) dX8_isUnder_4 rfl rfl rfl ?_
          refine zx_iconst (v := 5) (nn := 6) rfl dX8_isUnder_5 rfl ?_
          refine zx_icmp_gt (tgt := 37) (nn := 9) dX8_isUnder_6 (by decide) rfl (fun h6 => ?_) (fun h6 => ?_)
          · exact absurd h6 (by decide)
          · refine zx_iload_n (k := 1) (nn := 10) dX8_isUnder_9 rfl rfl rfl ?_
            refine zx_if_lt (tgt := 37) (nn := 13) dX8_isUnder_10 (by decide) rfl (fun h10 => ?_) (fun h10 => ?_)
            · exact absurd h10 (by decide)
            · refine zx_iload_n (k := 1) (nn := 14) dX8_isUnder_13 rfl rfl rfl ?_
              refine zx_iconst (v := 5) (nn := 15) rfl dX8_isUnder_14 rfl ?_
              refine zx_icmp_gt (tgt := 37) (nn := 18) dX8_isUnder_15 (by decide) rfl (fun h15 => ?_) (fun h15 => ?_)
              · exact absurd h15 (by decide)
              · refine zx_iload_n (k := 1) (nn := 19) dX8_isUnder_18 rfl rfl rfl ?_
                refine zx_iload_n (k := 3) (nn := 20) dX8_isUnder_19 rfl rfl rfl ?_
                refine zx_icmp_ne (tgt := 25) (nn := 23) dX8_isUnder_20 (by decide) rfl (fun h20 => ?_) (fun h20 => ?_)
                · refine zx_getK (nn := 28) rfl dX8_isUnder_25 rfl ?_
                  refine zx_iload_n (k := 1) (nn := 29) dX8_isUnder_28 rfl rfl rfl ?_
                  refine zx_aldK (nn := 30) (vp_lit rfl) dX8_isUnder_29 rfl ?_
                  show zX shC σ 0 MX8_isUnder 30 [(3, zi 1), (2, zi 0), (0, zi 1), (1, zi a)] [zi (-1)] μ _
                  refine zx_istore_n (nn := 31) (lv' := [(2, zi (-1)), (3, zi 1), (0, zi 1), (1, zi a)]) dX8_isUnder_30 rfl (by decide) rfl rfl ?_
                  refine zx_iinc (k := 1) (v := 2) (lv' := [(3, zi 2), (2, zi (-1)), (0, zi 1), (1, zi a)]) (nn := 34) dX8_isUnder_31 rfl (by decide) (by decide) rfl rfl ?_
                  refine zx_goto (tgt := 4) dX8_isUnder_34 (by decide) ?_
                  refine zx_iload_n (k := 0) (nn := 5) dX8_isUnder_4 rfl rfl rfl ?_
                  refine zx_iconst (v := 5) (nn := 6) rfl dX8_isUnder_5 rfl ?_
                  refine zx_icmp_gt (tgt := 37) (nn := 9) dX8_isUnder_6 (by decide) rfl (fun h6 => ?_) (fun h6 => ?_)
                  · exact absurd h6 (by decide)
                  · refine zx_iload_n (k := 1) (nn := 10) dX8_isUnder_9 rfl rfl rfl ?_
                    refine zx_if_lt (tgt := 37) (nn := 13) dX8_isUnder_10 (by decide) rfl (fun h10 => ?_) (fun h10 => ?_)
                    · refine zx_iconst (v := 0) (nn := 38) rfl dX8_isUnder_37 rfl ?_
                      refine zx_zret rfl rfl dX8_isUnder_38 ?_
                      refine ⟨congrArg (fun x => some (zi x)) ?_, rfl⟩
                      cases hq : pUnder 1 a <;> first | rfl | (exfalso; simp [pUnder] at hq;  simp only [decide_eq_true_eq, decide_eq_false_iff_not, Bool.and_eq_true, Bool.or_eq_true, Bool.and_eq_false_iff, Bool.or_eq_false_iff, Int32.lt_iff_toInt_lt, Int32.le_iff_toInt_le, ← Int32.toInt_inj, ztm2, ztm1, zt0, zt1, zt2, zt3, zt4, zt5, zt6, zt7, zt8, zt9, zt10, zt15, zt16, zt20, zt30, zt31, zt40, zt41, zt200, zt999] at *; omega) | (exfalso; simp_all [pUnder]; done)
                    · exact absurd h10 (by decide)
                · refine zx_iconst (v := 1) (nn := 24) rfl dX8_isUnder_23 rfl ?_
                  refine zx_zret rfl rfl dX8_isUnder_24 ?_
                  refine ⟨congrArg (fun x => some (zi x)) ?_, rfl⟩
                  cases hq : pUnder 1 a <;> first | rfl | (exfalso; simp [pUnder] at hq;  simp only [decide_eq_true_eq, decide_eq_false_iff_not, Bool.and_eq_true, Bool.or_eq_true, Bool.and_eq_false_iff, Bool.or_eq_false_iff, Int32.lt_iff_toInt_lt, Int32.le_iff_toInt_le, ← Int32.toInt_inj, ztm2, ztm1, zt0, zt1, zt2, zt3, zt4, zt5, zt6, zt7, zt8, zt9, zt10, zt15, zt16, zt20, zt30, zt31, zt40, zt41, zt200, zt999] at *; omega) | (exfalso; simp_all [pUnder]; done)
        · refine zx_iconst (v := 1) (nn := 24) rfl dX8_isUnder_23 rfl ?_
          refine zx_zret rfl rfl dX8_isUnder_24 ?_
          refine ⟨congrArg (fun x => some (zi x)) ?_, rfl⟩
          cases hq : pUnder 1 a <;> first | rfl | (exfalso; simp [pUnder] at hq;  simp only [decide_eq_true_eq, decide_eq_false_iff_not, Bool.and_eq_true, Bool.or_eq_true, Bool.and_eq_false_iff, Bool.or_eq_false_iff, Int32.lt_iff_toInt_lt, Int32.le_iff_toInt_le, ← Int32.toInt_inj, ztm2, ztm1, zt0, zt1, zt2, zt3, zt4, zt5, zt6, zt7, zt8, zt9, zt10, zt15, zt16, zt20, zt30, zt31, zt40, zt41, zt200, zt999] at *; omega) | (exfalso; simp_all [pUnder]; done)
set_option maxHeartbeats 4000000 in
set_option maxRecDepth 100000 in
theorem eX8_isUnder2 (σ : zG) (μ : zM) (a : Int32) : zMet shC σ 0 MX8_isUnder yX8_isUnder [zi 2, zi a] μ (fun rr μ' => rr = some (zi (zb (pUnder 2 a))) ∧ μ' = μ) := by
  refine zmetF (by decide +kernel) rfl (Nat.le_of_ble_eq_true rfl) ?_
  show zX shC σ 0 MX8_isUnder 0 [(0, zi 2), (1, zi a)] [] μ _
  refine zx_iload_n (k := 0) (nn := 1) dX8_isUnder_0 rfl rfl rfl ?_
  refine zx_istore_n (nn := 2) (lv' := [(2, zi 2), (0, zi 2), (1, zi a)]) dX8_isUnder_1 rfl (by decide) rfl rfl ?_
  refine zx_iconst (v := 0) (nn := 3) rfl dX8_isUnder_2 rfl ?_
  refine zx_istore_n (nn := 4) (lv' := [(3, zi 0), (2, zi 2), (0, zi 2), (1, zi a)]) dX8_isUnder_3 rfl (by decide) rfl rfl ?_
  refine zx_iload_n (k := 0) (nn := 5) dX8_isUnder_4 rfl rfl rfl ?_
  refine zx_iconst (v := 5) (nn := 6) rfl dX8_isUnder_5 rfl ?_
  refine zx_icmp_gt (tgt := 37) (nn := 9) dX8_isUnder_6 (by decide) rfl (fun h6 => ?_) (fun h6 => ?_)
  · exact absurd h6 (by decide)
  · refine zx_iload_n (k := 1) (nn := 10) dX8_isUnder_9 rfl rfl rfl ?_
    refine zx_if_lt (tgt := 37) (nn := 13) dX8_isUnder_10 (by decide) rfl (fun h10 => ?_) (fun h10 => ?_)
    · exact absurd h10 (by decide)
    · refine zx_iload_n (k := 1) (nn := 14) dX8_isUnder_13 rfl rfl rfl ?_
      refine zx_iconst (v := 5) (nn := 15) rfl dX8_isUnder_14 rfl ?_
      refine zx_icmp_gt (tgt := 37) (nn := 18) dX8_isUnder_15 (by decide) rfl (fun h15 => ?_) (fun h15 => ?_)
      · exact absurd h15 (by decide)
      · refine zx_iload_n (k := 1) (nn := 19) dX8_isUnder_18 rfl rfl rfl ?_
        refine zx_iload_n (k := 3) (nn := 20) dX8_isUnder_19 rfl rfl rfl ?_
        refine zx_icmp_ne (tgt := 25) (nn := 23) dX8_isUnder_20 (by decide) rfl (fun h20 => ?_) (fun h20 => ?_)
        · refine zx_getK (nn := 28) rfl dX8_isUnder_25 rfl ?_
          refine zx_iload_n (k := 1) (nn := 29) dX8_isUnder_28 rfl rfl rfl ?_
          refine zx_aldK (nn := 30) (vp_lit rfl) dX8_isUnder_29 rfl ?_
          show zX shC σ 0 MX8_isUnder 30 [(3, zi 0), (2, zi 2), (0, zi 2), (1, zi a)] [zi 0] μ _
          refine zx_istore_n (nn := 31) (lv' := [(2, zi 0), (3, zi 0), (0, zi 2), (1, zi a)]) dX8_isUnder_30 rfl (by decide) rfl rfl ?_
          refine zx_iinc (k := 1) (v := 1) (lv' := [(3, zi 1), (2, zi 0), (0, zi 2), (1, zi a)]) (nn := 34) dX8_isUnder_31 rfl (by decide) (by decide) rfl rfl ?_
          refine zx_goto (tgt := 4) dX8_isUnder_34 (by decide) ?_
          refine zx_iload_n (k := 0) (nn := 5) dX8_isUnder_4 rfl rfl rfl ?_
          refine zx_iconst (v := 5) (nn := 6) rfl dX8_isUnder_5 rfl ?_
          refine zx_icmp_gt (tgt := 37) (nn := 9) dX8_isUnder_6 (by decide) rfl (fun h6 => ?_) (fun h6 => ?_)
          · exact absurd h6 (by decide)
          · refine zx_iload_n (k := 1) (nn := 10) dX8_isUnder_9 rfl rfl rfl ?_
            refine zx_if_lt (tgt := 37) (nn := 13) dX8_isUnder_10 (by decide) rfl (fun h10 => ?_) (fun h10 => ?_)
            · exact absurd h10 (by decide)
            · refine zx_iload_n (k := 1) (nn := 14) dX8_isUnder_13 rfl rfl rfl ?_
              refine zx_iconst (v := 5) (nn := 15) rfl dX8_isUnder_14 rfl ?_
              refine zx_icmp_gt (tgt := 37) (nn := 18) dX8_isUnder_15 (by decide) rfl (fun h15 => ?_) (fun h15 => ?_)
              · exact absurd h15 (by decide)
              · refine zx_iload_n (k := 1) (nn := 19) dX8_isUnder_18 rfl rfl rfl ?_
                refine zx_iload_n (k := 3) (nn := 20) dX8_isUnder_19 rfl rfl rfl ?_
                refine zx_icmp_ne (tgt := 25) (nn := 23) dX8_isUnder_20 (by decide) rfl (fun h20 => ?_) (fun h20 => ?_)
                · refine zx_getK (nn := 28) rfl dX8_isUnder_25 rfl ?_
                  refine zx_iload_n (k := 1) (nn := 29) dX8_isUnder_28 rfl rfl rfl ?_
                  refine zx_aldK (nn := 30) (vp_lit rfl) dX8_isUnder_29 rfl ?_
                  show zX shC σ 0 MX8_isUnder 30 [(3, zi 1), (2, zi 0), (0, zi 2), (1, zi a)] [zi (-1)] μ _
                  refine zx_istore_n (nn := 31) (lv' := [(2, zi (-1)), (3, zi 1), (0, zi 2), (1, zi a)]) dX8_isUnder_30 rfl (by decide) rfl rfl ?_
                  refine zx_iinc (k := 1) (v := 2) (lv' := [(3, zi 2), (2, zi (-1)), (0, zi 2), (1, zi a)]) (nn := 34) dX8_isUnder_31 rfl (by decide) (by decide) rfl rfl ?_
                  refine zx_goto (tgt := 4) dX8_isUnder_34 (by decide) ?_
                  refine zx_iload_n (k := 0) (nn := 5) dX8_isUnder_4 rfl rfl rfl ?_
                  refine zx_iconst (v := 5) (nn := 6) rfl dX8_isUnder_5 rfl ?_
                  refine zx_icmp_gt (tgt := 37) (nn := 9) dX8_isUnder_6 (by decide) rfl (fun h6 => ?_) (fun h6 => ?_)
                  · exact absurd h6 (by decide)
                  · refine zx_iload_n (k := 1) (nn := 10) dX8_isUnder_9 rfl rfl rfl ?_
                    refine zx_if_lt (tgt := 37) (nn := 13) dX8_isUnder_10 (by decide) rfl (fun h10 => ?_) (fun h10 => ?_)
                    · refine zx_iconst (v := 0) (nn := 38) rfl dX8_isUnder_37 rfl ?_
                      refine zx_zret rfl rfl dX8_isUnder_38 ?_
                      refine ⟨congrArg (fun x => some (zi x)) ?_, rfl⟩
                      cases hq : pUnder 2 a <;> first | rfl | (exfalso; simp [pUnder] at hq;  simp only [decide_eq_true_eq, decide_eq_false_iff_not, Bool.and_eq_true, Bool.or_eq_true, Bool.and_eq_false_iff, Bool.or_eq_false_iff, Int32.lt_iff_toInt_lt, Int32.le_iff_toInt_le, ← Int32.toInt_inj, ztm2, ztm1, zt0, zt1, zt2, zt3, zt4, zt5, zt6, zt7, zt8, zt9, zt10, zt15, zt16, zt20, zt30, zt31, zt40, zt41, zt200, zt999] at *; omega) | (exfalso; simp_all [pUnder]; done)
                    · exact absurd h10 (by decide)
                · refine zx_iconst (v := 1) (nn := 24) rfl dX8_isUnder_23 rfl ?_
                  refine zx_zret rfl rfl dX8_isUnder_24 ?_
                  refine ⟨congrArg (fun x => some (zi x)) ?_, rfl⟩
                  cases hq : pUnder 2 a <;> first | rfl | (exfalso; simp [pUnder] at hq;  simp only [decide_eq_true_eq, decide_eq_false_iff_not, Bool.and_eq_true, Bool.or_eq_true, Bool.and_eq_false_iff, Bool.or_eq_false_iff, Int32.lt_iff_toInt_lt, Int32.le_iff_toInt_le, ← Int32.toInt_inj, ztm2, ztm1, zt0, zt1, zt2, zt3, zt4, zt5, zt6, zt7, zt8, zt9, zt10, zt15, zt16, zt20, zt30, zt31, zt40, zt41, zt200, zt999] at *; omega) | (exfalso; simp_all [pUnder]; done)
        · refine zx_iconst (v := 1) (nn := 24) rfl dX8_isUnder_23 rfl ?_
          refine zx_zret rfl rfl dX8_isUnder_24 ?_
          refine ⟨congrArg (fun x => some (zi x)) ?_, rfl⟩
          cases hq : pUnder 2 a <;> first | rfl | (exfalso; simp [pUnder] at hq;  simp only [decide_eq_true_eq, decide_eq_false_iff_not, Bool.and_eq_true, Bool.or_eq_true, Bool.and_eq_false_iff, Bool.or_eq_false_iff, Int32.lt_iff_toInt_lt, Int32.le_iff_toInt_le, ← Int32.toInt_inj, ztm2, ztm1, zt0, zt1, zt2, zt3, zt4, zt5, zt6, zt7, zt8, zt9, zt10, zt15, zt16, zt20, zt30, zt31, zt40, zt41, zt200, zt999] at *; omega) | (exfalso; simp_all [pUnder]; done)
set_option maxHeartbeats 4000000 in
set_option maxRecDepth 100000 in
theorem eX8_isUnder3 (σ : zG) (μ : zM) (a : Int32) : zMet shC σ 0 MX8_isUnder yX8_isUnder [zi 3, zi a] μ (fun rr μ' => rr = some (zi (zb (pUnder 3 a))) ∧ μ' = μ) := by
  refine zmetF (by decide +kernel) rfl (Nat.le_of_ble_eq_true rfl) ?_
  show zX shC σ 0 MX8_isUnder 0 [(0, zi 3), (1, zi a)] [] μ _
  refine zx_iload_n (k := 0) (nn := 1) dX8_isUnder_0 rfl rfl rfl ?_
  refine zx_istore_n (nn := 2) (lv' := [(2, zi 3), (0, zi 3), (1, zi a)]) dX8_isUnder_1 rfl (by decide) rfl rfl ?_
  refine zx_iconst (v := 0) (nn := 3) rfl dX8_isUnder_2 rfl ?_
  refine zx_istore_n (nn := 4) (lv' := [(3, zi 0), (2, zi 3), (0, zi 3), (1, zi a)]) dX8_isUnder_3 rfl (by decide) rfl rfl ?_
  refine zx_iload_n (k := 0) (nn := 5) dX8_isUnder_4 rfl rfl rfl ?_
  refine zx_iconst (v := 5) (nn := 6) rfl dX8_isUnder_5 rfl ?_
  refine zx_icmp_gt (tgt := 37) (nn := 9) dX8_isUnder_6 (by decide) rfl (fun h6 => ?_) (fun h6 => ?_)
  · exact absurd h6 (by decide)
  · refine zx_iload_n (k := 1) (nn := 10) dX8_isUnder_9 rfl rfl rfl ?_
    refine zx_if_lt (tgt := 37) (nn := 13) dX8_isUnder_10 (by decide) rfl (fun h10 => ?_) (fun h10 => ?_)
    · exact absurd h10 (by decide)
    · refine zx_iload_n (k := 1) (nn := 14) dX8_isUnder_13 rfl rfl rfl ?_
      refine zx_iconst (v := 5) (nn := 15) rfl dX8_isUnder_14 rfl ?_
      refine zx_icmp_gt (tgt := 37) (nn := 18) dX8_isUnder_15 (by decide) rfl (fun h15 => ?_) (fun h15 => ?_)
      · exact absurd h15 (by decide)
      · refine zx_iload_n (k := 1) (nn := 19) dX8_isUnder_18 rfl rfl rfl ?_
        refine zx_iload_n (k := 3) (nn := 20) dX8_isUnder_19 rfl rfl rfl ?_
        refine zx_icmp_ne (tgt := 25) (nn := 23) dX8_isUnder_20 (by decide) rfl (fun h20 => ?_) (fun h20 => ?_)
        · refine zx_getK (nn := 28) rfl dX8_isUnder_25 rfl ?_
          refine zx_iload_n (k := 1) (nn := 29) dX8_isUnder_28 rfl rfl rfl ?_
          refine zx_aldK (nn := 30) (vp_lit rfl) dX8_isUnder_29 rfl ?_
          show zX shC σ 0 MX8_isUnder 30 [(3, zi 0), (2, zi 3), (0, zi 3), (1, zi a)] [zi 2] μ _
          refine zx_istore_n (nn := 31) (lv' := [(2, zi 2), (3, zi 0), (0, zi 3), (1, zi a)]) dX8_isUnder_30 rfl (by decide) rfl rfl ?_
          refine zx_iinc (k := 1) (v := 1) (lv' := [(3, zi 1), (2, zi 2), (0, zi 3), (1, zi a)]) (nn := 34) dX8_isUnder_31 rfl (by decide) (by decide) rfl rfl ?_
          refine zx_goto (tgt := 4) dX8_isUnder_34 (by decide) ?_
          refine zx_iload_n (k := 0) (nn := 5) dX8_isUnder_4 rfl rfl rfl ?_
          refine zx_iconst (v := 5) (nn := 6) rfl dX8_isUnder_5 rfl ?_
          refine zx_icmp_gt (tgt := 37) (nn := 9) dX8_isUnder_6 (by decide) rfl (fun h6 => ?_) (fun h6 => ?_)
          · exact absurd h6 (by decide)
          · refine zx_iload_n (k := 1) (nn := 10) dX8_isUnder_9 rfl rfl rfl ?_
            refine zx_if_lt (tgt := 37) (nn := 13) dX8_isUnder_10 (by decide) rfl (fun h10 => ?_) (fun h10 => ?_)
            · exact absurd h10 (by decide)
            · refine zx_iload_n (k := 1) (nn := 14) dX8_isUnder_13 rfl rfl rfl ?_
              refine zx_iconst (v := 5) (nn := 15) rfl dX8_isUnder_14 rfl ?_
              refine zx_icmp_gt (tgt := 37) (nn := 18) dX8_isUnder_15 (by decide) rfl (fun h15 => ?_) (fun h15 => ?_)
              · exact absurd h15 (by decide)
              · refine zx_iload_n (k := 1) (nn := 19) dX8_isUnder_18 rfl rfl rfl ?_
                refine zx_iload_n (k := 3) (nn := 20) dX8_isUnder_19 rfl rfl rfl ?_
                refine zx_icmp_ne (tgt := 25) (nn := 23) dX8_isUnder_20 (by decide) rfl (fun h20 => ?_) (fun h20 => ?_)
                · refine zx_getK (nn := 28) rfl dX8_isUnder_25 rfl ?_
                  refine zx_iload_n (k := 1) (nn := 29) dX8_isUnder_28 rfl rfl rfl ?_
                  refine zx_aldK (nn := 30) (vp_lit rfl) dX8_isUnder_29 rfl ?_
                  show zX shC σ 0 MX8_isUnder 30 [(3, zi 1), (2, zi 2), (0, zi 3), (1, zi a)] [zi 0] μ _
                  refine zx_istore_n (nn := 31) (lv' := [(2, zi 0), (3, zi 1), (0, zi 3), (1, zi a)]) dX8_isUnder_30 rfl (by decide) rfl rfl ?_
                  refine zx_iinc (k := 1) (v := 2) (lv' := [(3, zi 2), (2, zi 0), (0, zi 3), (1, zi a)]) (nn := 34) dX8_isUnder_31 rfl (by decide) (by decide) rfl rfl ?_
                  refine zx_goto (tgt := 4) dX8_isUnder_34 (by decide) ?_
                  refine zx_iload_n (k := 0) (nn := 5) dX8_isUnder_4 rfl rfl rfl ?_
                  refine zx_iconst (v := 5) (nn := 6) rfl dX8_isUnder_5 rfl ?_
                  refine zx_icmp_gt (tgt := 37) (nn := 9) dX8_isUnder_6 (by decide) rfl (fun h6 => ?_) (fun h6 => ?_)
                  · exact absurd h6 (by decide)
                  · refine zx_iload_n (k := 1) (nn := 10) dX8_isUnder_9 rfl rfl rfl ?_
                    refine zx_if_lt (tgt := 37) (nn := 13) dX8_isUnder_10 (by decide) rfl (fun h10 => ?_) (fun h10 => ?_)
                    · exact absurd h10 (by decide)
                    · refine zx_iload_n (k := 1) (nn := 14) dX8_isUnder_13 rfl rfl rfl ?_
                      refine zx_iconst (v := 5) (nn := 15) rfl dX8_isUnder_14 rfl ?_
                      refine zx_icmp_gt (tgt := 37) (nn := 18) dX8_isUnder_15 (by decide) rfl (fun h15 => ?_) (fun h15 => ?_)
                      · exact absurd h15 (by decide)
                      · refine zx_iload_n (k := 1) (nn := 19) dX8_isUnder_18 rfl rfl rfl ?_
                        refine zx_iload_n (k := 3) (nn := 20) dX8_isUnder_19 rfl rfl rfl ?_
                        refine zx_icmp_ne (tgt := 25) (nn := 23) dX8_isUnder_20 (by decide) rfl (fun h20 => ?_) (fun h20 => ?_)
                        · refine zx_getK (nn := 28) rfl dX8_isUnder_25 rfl ?_
                          refine zx_iload_n (k := 1) (nn := 29) dX8_isUnder_28 rfl rfl rfl ?_
                          refine zx_aldK (nn := 30) (vp_lit rfl) dX8_isUnder_29 rfl ?_
                          show zX shC σ 0 MX8_isUnder 30 [(3, zi 2), (2, zi 0), (0, zi 3), (1, zi a)] [zi (-1)] μ _
                          refine zx_istore_n (nn := 31) (lv' := [(2, zi (-1)), (3, zi 2), (0, zi 3), (1, zi a)]) dX8_isUnder_30 rfl (by decide) rfl rfl ?_
                          refine zx_iinc (k := 1) (v := 3) (lv' := [(3, zi 3), (2, zi (-1)), (0, zi 3), (1, zi a)]) (nn := 34) dX8_isUnder_31 rfl (by decide) (by decide) rfl rfl ?_
                          refine zx_goto (tgt := 4) dX8_isUnder_34 (by decide) ?_
                          refine zx_iload_n (k := 0) (nn := 5) dX8_isUnder_4 rfl rfl rfl ?_
                          refine zx_iconst (v := 5) (nn := 6) rfl dX8_isUnder_5 rfl ?_
                          refine zx_icmp_gt (tgt := 37) (nn := 9) dX8_isUnder_6 (by decide) rfl (fun h6 => ?_) (fun h6 => ?_)
                          · exact absurd h6 (by decide)
                          · refine zx_iload_n (k := 1) (nn := 10) dX8_isUnder_9 rfl rfl rfl ?_
                            refine zx_if_lt (tgt := 37) (nn := 13) dX8_isUnder_10 (by decide) rfl (fun h10 => ?_) (fun h10 => ?_)
                            · refine zx_iconst (v := 0) (nn := 38) rfl dX8_isUnder_37 rfl ?_
                              refine zx_zret rfl rfl dX8_isUnder_38 ?_
                              refine ⟨congrArg (fun x => some (zi x)) ?_, rfl⟩
                              cases hq : pUnder 3 a <;> first | rfl | (exfalso; simp [pUnder] at hq;  simp only [decide_eq_true_eq, decide_eq_false_iff_not, Bool.and_eq_true, Bool.or_eq_true, Bool.and_eq_false_iff, Bool.or_eq_false_iff, Int32.lt_iff_toInt_lt, Int32.le_iff_toInt_le, ← Int32.toInt_inj, ztm2, ztm1, zt0, zt1, zt2, zt3, zt4, zt5, zt6, zt7, zt8, zt9, zt10, zt15, zt16, zt20, zt30, zt31, zt40, zt41, zt200, zt999] at *; omega) | (exfalso; simp_all [pUnder]; done)
                            · exact absurd h10 (by decide)
                        · refine zx_iconst (v := 1) (nn := 24) rfl dX8_isUnder_23 rfl ?_
                          refine zx_zret rfl rfl dX8_isUnder_24 ?_
                          refine ⟨congrArg (fun x => some (zi x)) ?_, rfl⟩
                          cases hq : pUnder 3 a <;> first | rfl | (exfalso; simp [pUnder] at hq;  simp only [decide_eq_true_eq, decide_eq_false_iff_not, Bool.and_eq_true, Bool.or_eq_true, Bool.and_eq_false_iff, Bool.or_eq_false_iff, Int32.lt_iff_toInt_lt, Int32.le_iff_toInt_le, ← Int32.toInt_inj, ztm2, ztm1, zt0, zt1, zt2, zt3, zt4, zt5, zt6, zt7, zt8, zt9, zt10, zt15, zt16, zt20, zt30, zt31, zt40, zt41, zt200, zt999] at *; omega) | (exfalso; simp_all [pUnder]; done)
                · refine zx_iconst (v := 1) (nn := 24) rfl dX8_isUnder_23 rfl ?_
                  refine zx_zret rfl rfl dX8_isUnder_24 ?_
                  refine ⟨congrArg (fun x => some (zi x)) ?_, rfl⟩
                  cases hq : pUnder 3 a <;> first | rfl | (exfalso; simp [pUnder] at hq;  simp only [decide_eq_true_eq, decide_eq_false_iff_not, Bool.and_eq_true, Bool.or_eq_true, Bool.and_eq_false_iff, Bool.or_eq_false_iff, Int32.lt_iff_toInt_lt, Int32.le_iff_toInt_le, ← Int32.toInt_inj, ztm2, ztm1, zt0, zt1, zt2, zt3, zt4, zt5, zt6, zt7, zt8, zt9, zt10, zt15, zt16, zt20, zt30, zt31, zt40, zt41, zt200, zt999] at *; omega) | (exfalso; simp_all [pUnder]; done)
        · refine zx_iconst (v := 1) (nn := 24) rfl dX8_isUnder_23 rfl ?_
          refine zx_zret rfl rfl dX8_isUnder_24 ?_
          refine ⟨congrArg (fun x => some (zi x)) ?_, rfl⟩
          cases hq : pUnder 3 a <;> first | rfl | (exfalso; simp [pUnder] at hq;  simp only [decide_eq_true_eq, decide_eq_false_iff_not, Bool.and_eq_true, Bool.or_eq_true, Bool.and_eq_false_iff, Bool.or_eq_false_iff, Int32.lt_iff_toInt_lt, Int32.le_iff_toInt_le, ← Int32.toInt_inj, ztm2, ztm1, zt0, zt1, zt2, zt3, zt4, zt5, zt6, zt7, zt8, zt9, zt10, zt15, zt16, zt20, zt30, zt31, zt40, zt41, zt200, zt999] at *; omega) | (exfalso; simp_all [pUnder]; done)
set_option maxHeartbeats 4000000 in
set_option maxRecDepth 100000 in
theorem eX8_isUnder4 (σ : zG) (μ : zM) (a : Int32) : zMet shC σ 0 MX8_isUnder yX8_isUnder [zi 4, zi a] μ (fun rr μ' => rr = some (zi (zb (pUnder 4 a))) ∧ μ' = μ) := by
  refine zmetF (by decide +kernel) rfl (Nat.le_of_ble_eq_true rfl) ?_
  show zX shC σ 0 MX8_isUnder 0 [(0, zi 4), (1, zi a)] [] μ _
  refine zx_iload_n (k := 0) (nn := 1) dX8_isUnder_0 rfl rfl rfl ?_
  refine zx_istore_n (nn := 2) (lv' := [(2, zi 4), (0, zi 4), (1, zi a)]) dX8_isUnder_1 rfl (by decide) rfl rfl ?_
  refine zx_iconst (v := 0) (nn := 3) rfl dX8_isUnder_2 rfl ?_
  refine zx_istore_n (nn := 4) (lv' := [(3, zi 0), (2, zi 4), (0, zi 4), (1, zi a)]) dX8_isUnder_3 rfl (by decide) rfl rfl ?_
  refine zx_iload_n (k := 0) (nn := 5) dX8_isUnder_4 rfl rfl rfl ?_
  refine zx_iconst (v := 5) (nn := 6) rfl dX8_isUnder_5 rfl ?_
  refine zx_icmp_gt (tgt := 37) (nn := 9) dX8_isUnder_6 (by decide) rfl (fun h6 => ?_) (fun h6 => ?_)
  · exact absurd h6 (by decide)
  · refine zx_iload_n (k := 1) (nn := 10) dX8_isUnder_9 rfl rfl rfl ?_
    refine zx_if_lt (tgt := 37) (nn := 13) dX8_isUnder_10 (by decide) rfl (fun h10 => ?_) (fun h10 => ?_)
    · exact absurd h10 (by decide)
    · refine zx_iload_n (k := 1) (nn := 14) dX8_isUnder_13 rfl rfl rfl ?_
      refine zx_iconst (v := 5) (nn := 15) rfl dX8_isUnder_14 rfl ?_
      refine zx_icmp_gt (tgt := 37) (nn := 18) dX8_isUnder_15 (by decide) rfl (fun h15 => ?_) (fun h15 => ?_)
      · exact absurd h15 (by decide)
      · refine zx_iload_n (k := 1) (nn := 19) dX8_isUnder_18 rfl rfl rfl ?_
        refine zx_iload_n (k := 3) (nn := 20) dX8_isUnder_19 rfl rfl rfl ?_
        refine zx_icmp_ne (tgt := 25) (nn := 23) dX8_isUnder_20 (by decide) rfl (fun h20 => ?_) (fun h20 => ?_)
        · refine zx_getK (nn := 28) rfl dX8_isUnder_25 rfl ?_
          refine zx_iload_n (k := 1) (nn := 29) dX8_isUnder_28 rfl rfl rfl ?_
          refine zx_aldK (nn := 30) (vp_lit rfl) dX8_isUnder_29 rfl ?_
          show zX shC σ 0 MX8_isUnder 30 [(3, zi 0), (2, zi 4), (0, zi 4), (1, zi a)] [zi 0] μ _
          refine zx_istore_n (nn := 31) (lv' := [(2, zi 0), (3, zi 0), (0, zi 4), (1, zi a)]) dX8_isUnder_30 rfl (by decide) rfl rfl ?_
          refine zx_iinc (k := 1) (v := 1) (lv' := [(3, zi 1), (2, zi 0), (0, zi 4), (1, zi a)]) (nn := 34) dX8_isUnder_31 rfl (by decide) (by decide) rfl rfl ?_
          refine zx_goto (tgt := 4) dX8_isUnder_34 (by decide) ?_
          refine zx_iload_n (k := 0) (nn := 5) dX8_isUnder_4 rfl rfl rfl ?_
          refine zx_iconst (v := 5) (nn := 6) rfl dX8_isUnder_5 rfl ?_
          refine zx_icmp_gt (tgt := 37) (nn := 9) dX8_isUnder_6 (by decide) rfl (fun h6 => ?_) (fun h6 => ?_)
          · exact absurd h6 (by decide)
          · refine zx_iload_n (k := 1) (nn := 10) dX8_isUnder_9 rfl rfl rfl ?_
            refine zx_if_lt (tgt := 37) (nn := 13) dX8_isUnder_10 (by decide) rfl (fun h10 => ?_) (fun h10 => ?_)
            · exact absurd h10 (by decide)
            · refine zx_iload_n (k := 1) (nn := 14) dX8_isUnder_13 rfl rfl rfl ?_
              refine zx_iconst (v := 5) (nn := 15) rfl dX8_isUnder_14 rfl ?_
              refine zx_icmp_gt (tgt := 37) (nn := 18) dX8_isUnder_15 (by decide) rfl (fun h15 => ?_) (fun h15 => ?_)
              · exact absurd h15 (by decide)
              · refine zx_iload_n (k := 1) (nn := 19) dX8_isUnder_18 rfl rfl rfl ?_
                refine zx_iload_n (k := 3) (nn := 20) dX8_isUnder_19 rfl rfl rfl ?_
                refine zx_icmp_ne (tgt := 25) (nn := 23) dX8_isUnder_20 (by decide) rfl (fun h20 => ?_) (fun h20 => ?_)
                · refine zx_getK (nn := 28) rfl dX8_isUnder_25 rfl ?_
                  refine zx_iload_n (k := 1) (nn := 29) dX8_isUnder_28 rfl rfl rfl ?_
                  refine zx_aldK (nn := 30) (vp_lit rfl) dX8_isUnder_29 rfl ?_
                  show zX shC σ 0 MX8_isUnder 30 [(3, zi 1), (2, zi 0), (0, zi 4), (1, zi a)] [zi (-1)] μ _
                  refine zx_istore_n (nn := 31) (lv' := [(2, zi (-1)), (3, zi 1), (0, zi 4), (1, zi a)]) dX8_isUnder_30 rfl (by decide) rfl rfl ?_
                  refine zx_iinc (k := 1) (v := 2) (lv' := [(3, zi 2), (2, zi (-1)), (0, zi 4), (1, zi a)]) (nn := 34) dX8_isUnder_31 rfl (by decide) (by decide) rfl rfl ?_
                  refine zx_goto (tgt := 4) dX8_isUnder_34 (by decide) ?_
                  refine zx_iload_n (k := 0) (nn := 5) dX8_isUnder_4 rfl rfl rfl ?_
                  refine zx_iconst (v := 5) (nn := 6) rfl dX8_isUnder_5 rfl ?_
                  refine zx_icmp_gt (tgt := 37) (nn := 9) dX8_isUnder_6 (by decide) rfl (fun h6 => ?_) (fun h6 => ?_)
                  · exact absurd h6 (by decide)
                  · refine zx_iload_n (k := 1) (nn := 10) dX8_isUnder_9 rfl rfl rfl ?_
                    refine zx_if_lt (tgt := 37) (nn := 13) dX8_isUnder_10 (by decide) rfl (fun h10 => ?_) (fun h10 => ?_)
                    · refine zx_iconst (v := 0) (nn := 38) rfl dX8_isUnder_37 rfl ?_
                      refine zx_zret rfl rfl dX8_isUnder_38 ?_
                      refine ⟨congrArg (fun x => some (zi x)) ?_, rfl⟩
                      cases hq : pUnder 4 a <;> first | rfl | (exfalso; simp [pUnder] at hq;  simp only [decide_eq_true_eq, decide_eq_false_iff_not, Bool.and_eq_true, Bool.or_eq_true, Bool.and_eq_false_iff, Bool.or_eq_false_iff, Int32.lt_iff_toInt_lt, Int32.le_iff_toInt_le, ← Int32.toInt_inj, ztm2, ztm1, zt0, zt1, zt2, zt3, zt4, zt5, zt6, zt7, zt8, zt9, zt10, zt15, zt16, zt20, zt30, zt31, zt40, zt41, zt200, zt999] at *; omega) | (exfalso; simp_all [pUnder]; done)
                    · exact absurd h10 (by decide)
                · refine zx_iconst (v := 1) (nn := 24) rfl dX8_isUnder_23 rfl ?_
                  refine zx_zret rfl rfl dX8_isUnder_24 ?_
                  refine ⟨congrArg (fun x => some (zi x)) ?_, rfl⟩
                  cases hq : pUnder 4 a <;> first | rfl | (exfalso; simp [pUnder] at hq;  simp only [decide_eq_true_eq, decide_eq_false_iff_not, Bool.and_eq_true, Bool.or_eq_true, Bool.and_eq_false_iff, Bool.or_eq_false_iff, Int32.lt_iff_toInt_lt, Int32.le_iff_toInt_le, ← Int32.toInt_inj, ztm2, ztm1, zt0, zt1, zt2, zt3, zt4, zt5, zt6, zt7, zt8, zt9, zt10, zt15, zt16, zt20, zt30, zt31, zt40, zt41, zt200, zt999] at *; omega) | (exfalso; simp_all [pUnder]; done)
        · refine zx_iconst (v := 1) (nn := 24) rfl dX8_isUnder_23 rfl ?_
          refine zx_zret rfl rfl dX8_isUnder_24 ?_
          refine ⟨congrArg (fun x => some (zi x)) ?_, rfl⟩
          cases hq : pUnder 4 a <;> first | rfl | (exfalso; simp [pUnder] at hq;  simp only [decide_eq_true_eq, decide_eq_false_iff_not, Bool.and_eq_true, Bool.or_eq_true, Bool.and_eq_false_iff, Bool.or_eq_false_iff, Int32.lt_iff_toInt_lt, Int32.le_iff_toInt_le, ← Int32.toInt_inj, ztm2, ztm1, zt0, zt1, zt2, zt3, zt4, zt5, zt6, zt7, zt8, zt9, zt10, zt15, zt16, zt20, zt30, zt31, zt40, zt41, zt200, zt999] at *; omega) | (exfalso; simp_all [pUnder]; done)
set_option maxHeartbeats 4000000 in
set_option maxRecDepth 100000 in
theorem eX8_isUnder5 (σ : zG) (μ : zM) (a : Int32) : zMet shC σ 0 MX8_isUnder yX8_isUnder [zi 5, zi a] μ (fun rr μ' => rr = some (zi (zb (pUnder 5 a))) ∧ μ' = μ) := by
  refine zmetF (by decide +kernel) rfl (Nat.le_of_ble_eq_true rfl) ?_
  show zX shC σ 0 MX8_isUnder 0 [(0, zi 5), (1, zi a)] [] μ _
  refine zx_iload_n (k := 0) (nn := 1) dX8_isUnder_0 rfl rfl rfl ?_
  refine zx_istore_n (nn := 2) (lv' := [(2, zi 5), (0, zi 5), (1, zi a)]) dX8_isUnder_1 rfl (by decide) rfl rfl ?_
  refine zx_iconst (v := 0) (nn := 3) rfl dX8_isUnder_2 rfl ?_
  refine zx_istore_n (nn := 4) (lv' := [(3, zi 0), (2, zi 5), (0, zi 5), (1, zi a)]) dX8_isUnder_3 rfl (by decide) rfl rfl ?_
  refine zx_iload_n (k := 0) (nn := 5) dX8_isUnder_4 rfl rfl rfl ?_
  refine zx_iconst (v := 5) (nn := 6) rfl dX8_isUnder_5 rfl ?_
  refine zx_icmp_gt (tgt := 37) (nn := 9) dX8_isUnder_6 (by decide) rfl (fun h6 => ?_) (fun h6 => ?_)
  · exact absurd h6 (by decide)
  · refine zx_iload_n (k := 1) (nn := 10) dX8_isUnder_9 rfl rfl rfl ?_
    refine zx_if_lt (tgt := 37) (nn := 13) dX8_isUnder_10 (by decide) rfl (fun h10 => ?_) (fun h10 => ?_)
    · exact absurd h10 (by decide)
    · refine zx_iload_n (k := 1) (nn := 14) dX8_isUnder_13 rfl rfl rfl ?_
      refine zx_iconst (v := 5) (nn := 15) rfl dX8_isUnder_14 rfl ?_
      refine zx_icmp_gt (tgt := 37) (nn := 18) dX8_isUnder_15 (by decide) rfl (fun h15 => ?_) (fun h15 => ?_)
      · exact absurd h15 (by decide)
      · refine zx_iload_n (k := 1) (nn := 19) dX8_isUnder_18 rfl rfl rfl ?_
        refine zx_iload_n (k := 3) (nn := 20) dX8_isUnder_19 rfl rfl rfl ?_
        refine zx_icmp_ne (tgt := 25) (nn := 23) dX8_isUnder_20 (by decide) rfl (fun h20 => ?_) (fun h20 => ?_)
        · refine zx_getK (nn := 28) rfl dX8_isUnder_25 rfl ?_
          refine zx_iload_n (k := 1) (nn := 29) dX8_isUnder_28 rfl rfl rfl ?_
          refine zx_aldK (nn := 30) (vp_lit rfl) dX8_isUnder_29 rfl ?_
          show zX shC σ 0 MX8_isUnder 30 [(3, zi 0), (2, zi 5), (0, zi 5), (1, zi a)] [zi 4] μ _
          refine zx_istore_n (nn := 31) (lv' := [(2, zi 4), (3, zi 0), (0, zi 5), (1, zi a)]) dX8_isUnder_30 rfl (by decide) rfl rfl ?_
          refine zx_iinc (k := 1) (v := 1) (lv' := [(3, zi 1), (2, zi 4), (0, zi 5), (1, zi a)]) (nn := 34) dX8_isUnder_31 rfl (by decide) (by decide) rfl rfl ?_
          refine zx_goto (tgt := 4) dX8_isUnder_34 (by decide) ?_
          refine zx_iload_n (k := 0) (nn := 5) dX8_isUnder_4 rfl rfl rfl ?_
          refine zx_iconst (v := 5) (nn := 6) rfl dX8_isUnder_5 rfl ?_
          refine zx_icmp_gt (tgt := 37) (nn := 9) dX8_isUnder_6 (by decide) rfl (fun h6 => ?_) (fun h6 => ?_)
          · exact absurd h6 (by decide)
          · refine zx_iload_n (k := 1) (nn := 10) dX8_isUnder_9 rfl rfl rfl ?_
            refine zx_if_lt (tgt := 37) (nn := 13) dX8_isUnder_10 (by decide) rfl (fun h10 => ?_) (fun h10 => ?_)
            · exact absurd h10 (by decide)
            · refine zx_iload_n (k := 1) (nn := 14) dX8_isUnder_13 rfl rfl rfl ?_
              refine zx_iconst (v := 5) (nn := 15) rfl dX8_isUnder_14 rfl ?_
              refine zx_icmp_gt (tgt := 37) (nn := 18) dX8_isUnder_15 (by decide) rfl (fun h15 => ?_) (fun h15 => ?_)
              · exact absurd h15 (by decide)
              · refine zx_iload_n (k := 1) (nn := 19) dX8_isUnder_18 rfl rfl rfl ?_
                refine zx_iload_n (k := 3) (nn := 20) dX8_isUnder_19 rfl rfl rfl ?_
                refine zx_icmp_ne (tgt := 25) (nn := 23) dX8_isUnder_20 (by decide) rfl (fun h20 => ?_) (fun h20 => ?_)
                · refine zx_getK (nn := 28) rfl dX8_isUnder_25 rfl ?_
                  refine zx_iload_n (k := 1) (nn := 29) dX8_isUnder_28 rfl rfl rfl ?_
                  refine zx_aldK (nn := 30) (vp_lit rfl) dX8_isUnder_29 rfl ?_
                  show zX shC σ 0 MX8_isUnder 30 [(3, zi 1), (2, zi 4), (0, zi 5), (1, zi a)] [zi 0] μ _
                  refine zx_istore_n (nn := 31) (lv' := [(2, zi 0), (3, zi 1), (0, zi 5), (1, zi a)]) dX8_isUnder_30 rfl (by decide) rfl rfl ?_
                  refine zx_iinc (k := 1) (v := 2) (lv' := [(3, zi 2), (2, zi 0), (0, zi 5), (1, zi a)]) (nn := 34) dX8_isUnder_31 rfl (by decide) (by decide) rfl rfl ?_
                  refine zx_goto (tgt := 4) dX8_isUnder_34 (by decide) ?_
                  refine zx_iload_n (k := 0) (nn := 5) dX8_isUnder_4 rfl rfl rfl ?_
                  refine zx_iconst (v := 5) (nn := 6) rfl dX8_isUnder_5 rfl ?_
                  refine zx_icmp_gt (tgt := 37) (nn := 9) dX8_isUnder_6 (by decide) rfl (fun h6 => ?_) (fun h6 => ?_)
                  · exact absurd h6 (by decide)
                  · refine zx_iload_n (k := 1) (nn := 10) dX8_isUnder_9 rfl rfl rfl ?_
                    refine zx_if_lt (tgt := 37) (nn := 13) dX8_isUnder_10 (by decide) rfl (fun h10 => ?_) (fun h10 => ?_)
                    · exact absurd h10 (by decide)
                    · refine zx_iload_n (k := 1) (nn := 14) dX8_isUnder_13 rfl rfl rfl ?_
                      refine zx_iconst (v := 5) (nn := 15) rfl dX8_isUnder_14 rfl ?_
                      refine zx_icmp_gt (tgt := 37) (nn := 18) dX8_isUnder_15 (by decide) rfl (fun h15 => ?_) (fun h15 => ?_)
                      · exact absurd h15 (by decide)
                      · refine zx_iload_n (k := 1) (nn := 19) dX8_isUnder_18 rfl rfl rfl ?_
                        refine zx_iload_n (k := 3) (nn := 20) dX8_isUnder_19 rfl rfl rfl ?_
                        refine zx_icmp_ne (tgt := 25) (nn := 23) dX8_isUnder_20 (by decide) rfl (fun h20 => ?_) (fun h20 => ?_)
                        · refine zx_getK (nn := 28) rfl dX8_isUnder_25 rfl ?_
                          refine zx_iload_n (k := 1) (nn := 29) dX8_isUnder_28 rfl rfl rfl ?_
                          refine zx_aldK (nn := 30) (vp_lit rfl) dX8_isUnder_29 rfl ?_
                          show zX shC σ 0 MX8_isUnder 30 [(3, zi 2), (2, zi 0), (0, zi 5), (1, zi a)] [zi (-1)] μ _
                          refine zx_istore_n (nn := 31) (lv' := [(2, zi (-1)), (3, zi 2), (0, zi 5), (1, zi a)]) dX8_isUnder_30 rfl (by decide) rfl rfl ?_
                          refine zx_iinc (k := 1) (v := 3) (lv' := [(3, zi 3), (2, zi (-1)), (0, zi 5), (1, zi a)]) (nn := 34) dX8_isUnder_31 rfl (by decide) (by decide) rfl rfl ?_
                          refine zx_goto (tgt := 4) dX8_isUnder_34 (by decide) ?_
                          refine zx_iload_n (k := 0) (nn := 5) dX8_isUnder_4 rfl rfl rfl ?_
                          refine zx_iconst (v := 5) (nn := 6) rfl dX8_isUnder_5 rfl ?_
                          refine zx_icmp_gt (tgt := 37) (nn := 9) dX8_isUnder_6 (by decide) rfl (fun h6 => ?_) (fun h6 => ?_)
                          · exact absurd h6 (by decide)
                          · refine zx_iload_n (k := 1) (nn := 10) dX8_isUnder_9 rfl rfl rfl ?_
                            refine zx_if_lt (tgt := 37) (nn := 13) dX8_isUnder_10 (by decide) rfl (fun h10 => ?_) (fun h10 => ?_)
                            · refine zx_iconst (v := 0) (nn := 38) rfl dX8_isUnder_37 rfl ?_
                              refine zx_zret rfl rfl dX8_isUnder_38 ?_
                              refine ⟨congrArg (fun x => some (zi x)) ?_, rfl⟩
                              cases hq : pUnder 5 a <;> first | rfl | (exfalso; simp [pUnder] at hq;  simp only [decide_eq_true_eq, decide_eq_false_iff_not, Bool.and_eq_true, Bool.or_eq_true, Bool.and_eq_false_iff, Bool.or_eq_false_iff, Int32.lt_iff_toInt_lt, Int32.le_iff_toInt_le, ← Int32.toInt_inj, ztm2, ztm1, zt0, zt1, zt2, zt3, zt4, zt5, zt6, zt7, zt8, zt9, zt10, zt15, zt16, zt20, zt30, zt31, zt40, zt41, zt200, zt999] at *; omega) | (exfalso; simp_all [pUnder]; done)
                            · exact absurd h10 (by decide)
                        · refine zx_iconst (v := 1) (nn := 24) rfl dX8_isUnder_23 rfl ?_
                          refine zx_zret rfl rfl dX8_isUnder_24 ?_
                          refine ⟨congrArg (fun x => some (zi x)) ?_, rfl⟩
                          cases hq : pUnder 5 a <;> first | rfl | (exfalso; simp [pUnder] at hq;  simp only [decide_eq_true_eq, decide_eq_false_iff_not, Bool.and_eq_true, Bool.or_eq_true, Bool.and_eq_false_iff, Bool.or_eq_false_iff, Int32.lt_iff_toInt_lt, Int32.le_iff_toInt_le, ← Int32.toInt_inj, ztm2, ztm1, zt0, zt1, zt2, zt3, zt4, zt5, zt6, zt7, zt8, zt9, zt10, zt15, zt16, zt20, zt30, zt31, zt40, zt41, zt200, zt999] at *; omega) | (exfalso; simp_all [pUnder]; done)
                · refine zx_iconst (v := 1) (nn := 24) rfl dX8_isUnder_23 rfl ?_
                  refine zx_zret rfl rfl dX8_isUnder_24 ?_
                  refine ⟨congrArg (fun x => some (zi x)) ?_, rfl⟩
                  cases hq : pUnder 5 a <;> first | rfl | (exfalso; simp [pUnder] at hq;  simp only [decide_eq_true_eq, decide_eq_false_iff_not, Bool.and_eq_true, Bool.or_eq_true, Bool.and_eq_false_iff, Bool.or_eq_false_iff, Int32.lt_iff_toInt_lt, Int32.le_iff_toInt_le, ← Int32.toInt_inj, ztm2, ztm1, zt0, zt1, zt2, zt3, zt4, zt5, zt6, zt7, zt8, zt9, zt10, zt15, zt16, zt20, zt30, zt31, zt40, zt41, zt200, zt999] at *; omega) | (exfalso; simp_all [pUnder]; done)
        · refine zx_iconst (v := 1) (nn := 24) rfl dX8_isUnder_23 rfl ?_
          refine zx_zret rfl rfl dX8_isUnder_24 ?_
          refine ⟨congrArg (fun x => some (zi x)) ?_, rfl⟩
          cases hq : pUnder 5 a <;> first | rfl | (exfalso; simp [pUnder] at hq;  simp only [decide_eq_true_eq, decide_eq_false_iff_not, Bool.and_eq_true, Bool.or_eq_true, Bool.and_eq_false_iff, Bool.or_eq_false_iff, Int32.lt_iff_toInt_lt, Int32.le_iff_toInt_le, ← Int32.toInt_inj, ztm2, ztm1, zt0, zt1, zt2, zt3, zt4, zt5, zt6, zt7, zt8, zt9, zt10, zt15, zt16, zt20, zt30, zt31, zt40, zt41, zt200, zt999] at *; omega) | (exfalso; simp_all [pUnder]; done)
theorem eX8_isUnder (σ : zG) (μ : zM) (k a : Int32) (h1 : 1 ≤ k) (h2 : k ≤ 5) : zMet shC σ 0 MX8_isUnder yX8_isUnder [zi k, zi a] μ (fun r μ' => r = some (zi (zb (pUnder k a))) ∧ μ' = μ) := by
  rcases zk15 h1 h2 with rfl | rfl | rfl | rfl | rfl
  · exact eX8_isUnder1 σ μ a
  · exact eX8_isUnder2 σ μ a
  · exact eX8_isUnder3 σ μ a
  · exact eX8_isUnder4 σ μ a
  · exact eX8_isUnder5 σ μ a
set_option maxHeartbeats 4000000 in
set_option maxRecDepth 100000 in
theorem eX8_hasLamp_18 (σ : zG) (μ : zM) (l : Int32) : zMet shC σ 0 MX8_hasLamp yX8_hasLamp [zr 18, zi l] μ (fun rr μ' => rr = some (zi (zb (pHas (cS 18 μ 0) l))) ∧ μ' = μ) := by
  refine zmetF (by decide +kernel) rfl (Nat.le_of_ble_eq_true rfl) ?_
  show zX shC σ 0 MX8_hasLamp 0 [(0, zr 18), (1, zi l)] [] μ _
  refine zx_iload_n (k := 1) (nn := 1) dX8_hasLamp_0 rfl rfl rfl ?_
  refine zx_if_lt (tgt := 16) (nn := 4) dX8_hasLamp_1 (by decide) rfl (fun h1 => ?_) (fun h1 => ?_)
  · refine zx_iconst (v := 0) (nn := 17) rfl dX8_hasLamp_16 rfl ?_
    refine zx_zret rfl rfl dX8_hasLamp_17 ?_
    refine ⟨congrArg (fun x => some (zi x)) ?_, rfl⟩
    simp only [cS_0, cS_1, cS_2, cS_over]
    simp only [zb, pHas, pIn, Bool.and_eq_true, decide_eq_true_eq]
    (repeat' split) <;> first | rfl | (exfalso; simp only [decide_eq_true_eq, decide_eq_false_iff_not, Bool.and_eq_true, Bool.or_eq_true, Bool.and_eq_false_iff, Bool.or_eq_false_iff, Int32.lt_iff_toInt_lt, Int32.le_iff_toInt_le, ← Int32.toInt_inj, ztm2, ztm1, zt0, zt1, zt2, zt3, zt4, zt5, zt6, zt7, zt8, zt9, zt10, zt15, zt16, zt20, zt30, zt31, zt40, zt41, zt200, zt999] at *; omega)
  · refine zx_iload_n (k := 1) (nn := 5) dX8_hasLamp_4 rfl rfl rfl ?_
    refine zx_aload_n (k := 0) (nn := 6) dX8_hasLamp_5 rfl rfl rfl ?_
    refine zx_getI (nn := 9) flX8_46 rfl rfl dX8_hasLamp_6 rfl ?_
    refine zx_icmp_ge (tgt := 16) (nn := 12) dX8_hasLamp_9 (by decide) rfl (fun h9 => ?_) (fun h9 => ?_)
    · refine zx_iconst (v := 0) (nn := 17) rfl dX8_hasLamp_16 rfl ?_
      refine zx_zret rfl rfl dX8_hasLamp_17 ?_
      refine ⟨congrArg (fun x => some (zi x)) ?_, rfl⟩
      simp only [cS_0, cS_1, cS_2, cS_over]
      simp only [zb, pHas, pIn, Bool.and_eq_true, decide_eq_true_eq]
      (repeat' split) <;> first | rfl | (exfalso; simp only [decide_eq_true_eq, decide_eq_false_iff_not, Bool.and_eq_true, Bool.or_eq_true, Bool.and_eq_false_iff, Bool.or_eq_false_iff, Int32.lt_iff_toInt_lt, Int32.le_iff_toInt_le, ← Int32.toInt_inj, ztm2, ztm1, zt0, zt1, zt2, zt3, zt4, zt5, zt6, zt7, zt8, zt9, zt10, zt15, zt16, zt20, zt30, zt31, zt40, zt41, zt200, zt999] at *; omega)
    · refine zx_iconst (v := 1) (nn := 13) rfl dX8_hasLamp_12 rfl ?_
      refine zx_goto (tgt := 17) dX8_hasLamp_13 (by decide) ?_
      refine zx_zret rfl rfl dX8_hasLamp_17 ?_
      refine ⟨congrArg (fun x => some (zi x)) ?_, rfl⟩
      simp only [cS_0, cS_1, cS_2, cS_over]
      simp only [zb, pHas, pIn, Bool.and_eq_true, decide_eq_true_eq]
      (repeat' split) <;> first | rfl | (exfalso; simp only [decide_eq_true_eq, decide_eq_false_iff_not, Bool.and_eq_true, Bool.or_eq_true, Bool.and_eq_false_iff, Bool.or_eq_false_iff, Int32.lt_iff_toInt_lt, Int32.le_iff_toInt_le, ← Int32.toInt_inj, ztm2, ztm1, zt0, zt1, zt2, zt3, zt4, zt5, zt6, zt7, zt8, zt9, zt10, zt15, zt16, zt20, zt30, zt31, zt40, zt41, zt200, zt999] at *; omega)
set_option maxHeartbeats 4000000 in
set_option maxRecDepth 100000 in
theorem eX8_hasBeat_18 (σ : zG) (μ : zM) (l : Int32) : zMet shC σ 0 MX8_hasBeat yX8_hasBeat [zr 18, zi l] μ (fun rr μ' => rr = some (zi (zb (pHas (cS 18 μ 1) l))) ∧ μ' = μ) := by
  refine zmetF (by decide +kernel) rfl (Nat.le_of_ble_eq_true rfl) ?_
  show zX shC σ 0 MX8_hasBeat 0 [(0, zr 18), (1, zi l)] [] μ _
  refine zx_iload_n (k := 1) (nn := 1) dX8_hasBeat_0 rfl rfl rfl ?_
  refine zx_if_lt (tgt := 16) (nn := 4) dX8_hasBeat_1 (by decide) rfl (fun h1 => ?_) (fun h1 => ?_)
  · refine zx_iconst (v := 0) (nn := 17) rfl dX8_hasBeat_16 rfl ?_
    refine zx_zret rfl rfl dX8_hasBeat_17 ?_
    refine ⟨congrArg (fun x => some (zi x)) ?_, rfl⟩
    simp only [cS_0, cS_1, cS_2, cS_over]
    simp only [zb, pHas, pIn, Bool.and_eq_true, decide_eq_true_eq]
    (repeat' split) <;> first | rfl | (exfalso; simp only [decide_eq_true_eq, decide_eq_false_iff_not, Bool.and_eq_true, Bool.or_eq_true, Bool.and_eq_false_iff, Bool.or_eq_false_iff, Int32.lt_iff_toInt_lt, Int32.le_iff_toInt_le, ← Int32.toInt_inj, ztm2, ztm1, zt0, zt1, zt2, zt3, zt4, zt5, zt6, zt7, zt8, zt9, zt10, zt15, zt16, zt20, zt30, zt31, zt40, zt41, zt200, zt999] at *; omega)
  · refine zx_iload_n (k := 1) (nn := 5) dX8_hasBeat_4 rfl rfl rfl ?_
    refine zx_aload_n (k := 0) (nn := 6) dX8_hasBeat_5 rfl rfl rfl ?_
    refine zx_getI (nn := 9) flX8_49 rfl rfl dX8_hasBeat_6 rfl ?_
    refine zx_icmp_ge (tgt := 16) (nn := 12) dX8_hasBeat_9 (by decide) rfl (fun h9 => ?_) (fun h9 => ?_)
    · refine zx_iconst (v := 0) (nn := 17) rfl dX8_hasBeat_16 rfl ?_
      refine zx_zret rfl rfl dX8_hasBeat_17 ?_
      refine ⟨congrArg (fun x => some (zi x)) ?_, rfl⟩
      simp only [cS_0, cS_1, cS_2, cS_over]
      simp only [zb, pHas, pIn, Bool.and_eq_true, decide_eq_true_eq]
      (repeat' split) <;> first | rfl | (exfalso; simp only [decide_eq_true_eq, decide_eq_false_iff_not, Bool.and_eq_true, Bool.or_eq_true, Bool.and_eq_false_iff, Bool.or_eq_false_iff, Int32.lt_iff_toInt_lt, Int32.le_iff_toInt_le, ← Int32.toInt_inj, ztm2, ztm1, zt0, zt1, zt2, zt3, zt4, zt5, zt6, zt7, zt8, zt9, zt10, zt15, zt16, zt20, zt30, zt31, zt40, zt41, zt200, zt999] at *; omega)
    · refine zx_iconst (v := 1) (nn := 13) rfl dX8_hasBeat_12 rfl ?_
      refine zx_goto (tgt := 17) dX8_hasBeat_13 (by decide) ?_
      refine zx_zret rfl rfl dX8_hasBeat_17 ?_
      refine ⟨congrArg (fun x => some (zi x)) ?_, rfl⟩
      simp only [cS_0, cS_1, cS_2, cS_over]
      simp only [zb, pHas, pIn, Bool.and_eq_true, decide_eq_true_eq]
      (repeat' split) <;> first | rfl | (exfalso; simp only [decide_eq_true_eq, decide_eq_false_iff_not, Bool.and_eq_true, Bool.or_eq_true, Bool.and_eq_false_iff, Bool.or_eq_false_iff, Int32.lt_iff_toInt_lt, Int32.le_iff_toInt_le, ← Int32.toInt_inj, ztm2, ztm1, zt0, zt1, zt2, zt3, zt4, zt5, zt6, zt7, zt8, zt9, zt10, zt15, zt16, zt20, zt30, zt31, zt40, zt41, zt200, zt999] at *; omega)
set_option maxHeartbeats 4000000 in
set_option maxRecDepth 100000 in
theorem eX8_isOver_18 (σ : zG) (μ : zM) : zMet shC σ 0 MX8_isOver yX8_isOver [zr 18] μ (fun rr μ' => rr = some (zi (zb (pOver (cS 18 μ)))) ∧ μ' = μ) := by
  refine zmetF (by decide +kernel) rfl (Nat.le_of_ble_eq_true rfl) ?_
  show zX shC σ 0 MX8_isOver 0 [(0, zr 18)] [] μ _
  refine zx_aload_n (k := 0) (nn := 1) dX8_isOver_0 rfl rfl rfl ?_
  refine zx_getI (nn := 4) flX8_52 rfl rfl dX8_isOver_1 rfl ?_
  refine zx_aload_n (k := 0) (nn := 5) dX8_isOver_4 rfl rfl rfl ?_
  refine zx_getI (nn := 8) flX8_49 rfl rfl dX8_isOver_5 rfl ?_
  refine zx_icmp_lt (tgt := 15) (nn := 11) dX8_isOver_8 (by decide) rfl (fun h8 => ?_) (fun h8 => ?_)
  · refine zx_iconst (v := 0) (nn := 16) rfl dX8_isOver_15 rfl ?_
    refine zx_zret rfl rfl dX8_isOver_16 ?_
    refine ⟨congrArg (fun x => some (zi x)) ?_, rfl⟩
    simp only [cS_0, cS_1, cS_2, cS_over]
    simp only [zb, pHas, pIn, Bool.and_eq_true, decide_eq_true_eq]
    (repeat' split) <;> first | rfl | (exfalso; simp only [decide_eq_true_eq, decide_eq_false_iff_not, Bool.and_eq_true, Bool.or_eq_true, Bool.and_eq_false_iff, Bool.or_eq_false_iff, Int32.lt_iff_toInt_lt, Int32.le_iff_toInt_le, ← Int32.toInt_inj, ztm2, ztm1, zt0, zt1, zt2, zt3, zt4, zt5, zt6, zt7, zt8, zt9, zt10, zt15, zt16, zt20, zt30, zt31, zt40, zt41, zt200, zt999] at *; omega)
  · refine zx_iconst (v := 1) (nn := 12) rfl dX8_isOver_11 rfl ?_
    refine zx_goto (tgt := 16) dX8_isOver_12 (by decide) ?_
    refine zx_zret rfl rfl dX8_isOver_16 ?_
    refine ⟨congrArg (fun x => some (zi x)) ?_, rfl⟩
    simp only [cS_0, cS_1, cS_2, cS_over]
    simp only [zb, pHas, pIn, Bool.and_eq_true, decide_eq_true_eq]
    (repeat' split) <;> first | rfl | (exfalso; simp only [decide_eq_true_eq, decide_eq_false_iff_not, Bool.and_eq_true, Bool.or_eq_true, Bool.and_eq_false_iff, Bool.or_eq_false_iff, Int32.lt_iff_toInt_lt, Int32.le_iff_toInt_le, ← Int32.toInt_inj, ztm2, ztm1, zt0, zt1, zt2, zt3, zt4, zt5, zt6, zt7, zt8, zt9, zt10, zt15, zt16, zt20, zt30, zt31, zt40, zt41, zt200, zt999] at *; omega)
set_option maxHeartbeats 4000000 in
set_option maxRecDepth 100000 in
theorem eX8_isAct_18 (σ : zG) (μ : zM) (a : Int32) : zMet shC σ 1 MX8_isAct yX8_isAct [zr 18, zi a] μ (fun rr μ' => rr = some (zi (zb (decide (a = 0) || pHas (cS 18 μ 0) (a - 1)))) ∧ μ' = μ) := by
  refine zmetF (by decide +kernel) rfl (Nat.le_of_ble_eq_true rfl) ?_
  show zX shC σ 1 MX8_isAct 0 [(0, zr 18), (1, zi a)] [] μ _
  refine zx_iload_n (k := 1) (nn := 1) dX8_isAct_0 rfl rfl rfl ?_
  refine zx_if_eq (tgt := 14) (nn := 4) dX8_isAct_1 (by decide) rfl (fun h1 => ?_) (fun h1 => ?_)
  · refine zx_iconst (v := 1) (nn := 15) rfl dX8_isAct_14 rfl ?_
    refine zx_goto (tgt := 19) dX8_isAct_15 (by decide) ?_
    refine zx_zret rfl rfl dX8_isAct_19 ?_
    refine ⟨congrArg (fun x => some (zi x)) ?_, rfl⟩
    simp_all [zb, cS_0]
  · refine zx_aload_n (k := 0) (nn := 5) dX8_isAct_4 rfl rfl rfl ?_
    refine zx_iload_n (k := 1) (nn := 6) dX8_isAct_5 rfl rfl rfl ?_
    refine zx_iconst (v := 1) (nn := 7) rfl dX8_isAct_6 rfl ?_
    refine zx_isub (nn := 8) dX8_isAct_7 rfl ?_
    refine zx_callVf (nn := 11) (k := 18) (d' := 0) (as := [zi (a - 1)]) (rest := []) (n := 1) (eX8_hasLamp_18 σ μ (a - 1)  ) kX8_hasLamp mlX8_58 rfl rfl rfl (by decide) rfl rfl (Nat.le_of_ble_eq_true rfl) dX8_isAct_8 rfl ?_
    show zX shC σ 1 MX8_isAct 11 [(0, zr 18), (1, zi a)] [zi (zb (pHas (cS 18 μ 0) (a - 1)))] μ _
    refine zx_ifb_eq (tgt := 18) (nn := 14) dX8_isAct_11 (by decide) rfl (fun h11 => ?_) (fun h11 => ?_)
    · refine zx_iconst (v := 0) (nn := 19) rfl dX8_isAct_18 rfl ?_
      refine zx_zret rfl rfl dX8_isAct_19 ?_
      refine ⟨congrArg (fun x => some (zi x)) ?_, rfl⟩
      simp_all [zb, cS_0]
    · refine zx_iconst (v := 1) (nn := 15) rfl dX8_isAct_14 rfl ?_
      refine zx_goto (tgt := 19) dX8_isAct_15 (by decide) ?_
      refine zx_zret rfl rfl dX8_isAct_19 ?_
      refine ⟨congrArg (fun x => some (zi x)) ?_, rfl⟩
      simp_all [zb, cS_0]
set_option maxHeartbeats 4000000 in
set_option maxRecDepth 100000 in
theorem eX8_hasLamp_25 (σ : zG) (μ : zM) (l : Int32) : zMet shC σ 0 MX8_hasLamp yX8_hasLamp [zr 25, zi l] μ (fun rr μ' => rr = some (zi (zb (pHas (cS 25 μ 0) l))) ∧ μ' = μ) := by
  refine zmetF (by decide +kernel) rfl (Nat.le_of_ble_eq_true rfl) ?_
  show zX shC σ 0 MX8_hasLamp 0 [(0, zr 25), (1, zi l)] [] μ _
  refine zx_iload_n (k := 1) (nn := 1) dX8_hasLamp_0 rfl rfl rfl ?_
  refine zx_if_lt (tgt := 16) (nn := 4) dX8_hasLamp_1 (by decide) rfl (fun h1 => ?_) (fun h1 => ?_)
  · refine zx_iconst (v := 0) (nn := 17) rfl dX8_hasLamp_16 rfl ?_
    refine zx_zret rfl rfl dX8_hasLamp_17 ?_
    refine ⟨congrArg (fun x => some (zi x)) ?_, rfl⟩
    simp only [cS_0, cS_1, cS_2, cS_over]
    simp only [zb, pHas, pIn, Bool.and_eq_true, decide_eq_true_eq]
    (repeat' split) <;> first | rfl | (exfalso; simp only [decide_eq_true_eq, decide_eq_false_iff_not, Bool.and_eq_true, Bool.or_eq_true, Bool.and_eq_false_iff, Bool.or_eq_false_iff, Int32.lt_iff_toInt_lt, Int32.le_iff_toInt_le, ← Int32.toInt_inj, ztm2, ztm1, zt0, zt1, zt2, zt3, zt4, zt5, zt6, zt7, zt8, zt9, zt10, zt15, zt16, zt20, zt30, zt31, zt40, zt41, zt200, zt999] at *; omega)
  · refine zx_iload_n (k := 1) (nn := 5) dX8_hasLamp_4 rfl rfl rfl ?_
    refine zx_aload_n (k := 0) (nn := 6) dX8_hasLamp_5 rfl rfl rfl ?_
    refine zx_getI (nn := 9) flX8_46 rfl rfl dX8_hasLamp_6 rfl ?_
    refine zx_icmp_ge (tgt := 16) (nn := 12) dX8_hasLamp_9 (by decide) rfl (fun h9 => ?_) (fun h9 => ?_)
    · refine zx_iconst (v := 0) (nn := 17) rfl dX8_hasLamp_16 rfl ?_
      refine zx_zret rfl rfl dX8_hasLamp_17 ?_
      refine ⟨congrArg (fun x => some (zi x)) ?_, rfl⟩
      simp only [cS_0, cS_1, cS_2, cS_over]
      simp only [zb, pHas, pIn, Bool.and_eq_true, decide_eq_true_eq]
      (repeat' split) <;> first | rfl | (exfalso; simp only [decide_eq_true_eq, decide_eq_false_iff_not, Bool.and_eq_true, Bool.or_eq_true, Bool.and_eq_false_iff, Bool.or_eq_false_iff, Int32.lt_iff_toInt_lt, Int32.le_iff_toInt_le, ← Int32.toInt_inj, ztm2, ztm1, zt0, zt1, zt2, zt3, zt4, zt5, zt6, zt7, zt8, zt9, zt10, zt15, zt16, zt20, zt30, zt31, zt40, zt41, zt200, zt999] at *; omega)
    · refine zx_iconst (v := 1) (nn := 13) rfl dX8_hasLamp_12 rfl ?_
      refine zx_goto (tgt := 17) dX8_hasLamp_13 (by decide) ?_
      refine zx_zret rfl rfl dX8_hasLamp_17 ?_
      refine ⟨congrArg (fun x => some (zi x)) ?_, rfl⟩
      simp only [cS_0, cS_1, cS_2, cS_over]
      simp only [zb, pHas, pIn, Bool.and_eq_true, decide_eq_true_eq]
      (repeat' split) <;> first | rfl | (exfalso; simp only [decide_eq_true_eq, decide_eq_false_iff_not, Bool.and_eq_true, Bool.or_eq_true, Bool.and_eq_false_iff, Bool.or_eq_false_iff, Int32.lt_iff_toInt_lt, Int32.le_iff_toInt_le, ← Int32.toInt_inj, ztm2, ztm1, zt0, zt1, zt2, zt3, zt4, zt5, zt6, zt7, zt8, zt9, zt10, zt15, zt16, zt20, zt30, zt31, zt40, zt41, zt200, zt999] at *; omega)
set_option maxHeartbeats 4000000 in
set_option maxRecDepth 100000 in
theorem eX8_hasBeat_25 (σ : zG) (μ : zM) (l : Int32) : zMet shC σ 0 MX8_hasBeat yX8_hasBeat [zr 25, zi l] μ (fun rr μ' => rr = some (zi (zb (pHas (cS 25 μ 1) l))) ∧ μ' = μ) := by
  refine zmetF (by decide +kernel) rfl (Nat.le_of_ble_eq_true rfl) ?_
  show zX shC σ 0 MX8_hasBeat 0 [(0, zr 25), (1, zi l)] [] μ _
  refine zx_iload_n (k := 1) (nn := 1) dX8_hasBeat_0 rfl rfl rfl ?_
  refine zx_if_lt (tgt := 16) (nn := 4) dX8_hasBeat_1 (by decide) rfl (fun h1 => ?_) (fun h1 => ?_)
  · refine zx_iconst (v := 0) (nn := 17) rfl dX8_hasBeat_16 rfl ?_
    refine zx_zret rfl rfl dX8_hasBeat_17 ?_
    refine ⟨congrArg (fun x => some (zi x)) ?_, rfl⟩
    simp only [cS_0, cS_1, cS_2, cS_over]
    simp only [zb, pHas, pIn, Bool.and_eq_true, decide_eq_true_eq]
    (repeat' split) <;> first | rfl | (exfalso; simp only [decide_eq_true_eq, decide_eq_false_iff_not, Bool.and_eq_true, Bool.or_eq_true, Bool.and_eq_false_iff, Bool.or_eq_false_iff, Int32.lt_iff_toInt_lt, Int32.le_iff_toInt_le, ← Int32.toInt_inj, ztm2, ztm1, zt0, zt1, zt2, zt3, zt4, zt5, zt6, zt7, zt8, zt9, zt10, zt15, zt16, zt20, zt30, zt31, zt40, zt41, zt200, zt999] at *; omega)
  · refine zx_iload_n (k := 1) (nn := 5) dX8_hasBeat_4 rfl rfl rfl ?_
    refine zx_aload_n (k := 0) (nn := 6) dX8_hasBeat_5 rfl rfl rfl ?_
    refine zx_getI (nn := 9) flX8_49 rfl rfl dX8_hasBeat_6 rfl ?_
    refine zx_icmp_ge (tgt := 16) (nn := 12) dX8_hasBeat_9 (by decide) rfl (fun h9 => ?_) (fun h9 => ?_)
    · refine zx_iconst (v := 0) (nn := 17) rfl dX8_hasBeat_16 rfl ?_
      refine zx_zret rfl rfl dX8_hasBeat_17 ?_
      refine ⟨congrArg (fun x => some (zi x)) ?_, rfl⟩
      simp only [cS_0, cS_1, cS_2, cS_over]
      simp only [zb, pHas, pIn, Bool.and_eq_true, decide_eq_true_eq]
      (repeat' split) <;> first | rfl | (exfalso; simp only [decide_eq_true_eq, decide_eq_false_iff_not, Bool.and_eq_true, Bool.or_eq_true, Bool.and_eq_false_iff, Bool.or_eq_false_iff, Int32.lt_iff_toInt_lt, Int32.le_iff_toInt_le, ← Int32.toInt_inj, ztm2, ztm1, zt0, zt1, zt2, zt3, zt4, zt5, zt6, zt7, zt8, zt9, zt10, zt15, zt16, zt20, zt30, zt31, zt40, zt41, zt200, zt999] at *; omega)
    · refine zx_iconst (v := 1) (nn := 13) rfl dX8_hasBeat_12 rfl ?_
      refine zx_goto (tgt := 17) dX8_hasBeat_13 (by decide) ?_
      refine zx_zret rfl rfl dX8_hasBeat_17 ?_
      refine ⟨congrArg (fun x => some (zi x)) ?_, rfl⟩
      simp only [cS_0, cS_1, cS_2, cS_over]
      simp only [zb, pHas, pIn, Bool.and_eq_true, decide_eq_true_eq]
      (repeat' split) <;> first | rfl | (exfalso; simp only [decide_eq_true_eq, decide_eq_false_iff_not, Bool.and_eq_true, Bool.or_eq_true, Bool.and_eq_false_iff, Bool.or_eq_false_iff, Int32.lt_iff_toInt_lt, Int32.le_iff_toInt_le, ← Int32.toInt_inj, ztm2, ztm1, zt0, zt1, zt2, zt3, zt4, zt5, zt6, zt7, zt8, zt9, zt10, zt15, zt16, zt20, zt30, zt31, zt40, zt41, zt200, zt999] at *; omega)
set_option maxHeartbeats 4000000 in
set_option maxRecDepth 100000 in
theorem eX8_isOver_25 (σ : zG) (μ : zM) : zMet shC σ 0 MX8_isOver yX8_isOver [zr 25] μ (fun rr μ' => rr = some (zi (zb (pOver (cS 25 μ)))) ∧ μ' = μ) := by
  refine zmetF (by decide +kernel) rfl (Nat.le_of_ble_eq_true rfl) ?_
  show zX shC σ 0 MX8_isOver 0 [(0, zr 25)] [] μ _
  refine zx_aload_n (k := 0) (nn := 1) dX8_isOver_0 rfl rfl rfl ?_
  refine zx_getI (nn := 4) flX8_52 rfl rfl dX8_isOver_1 rfl ?_
  refine zx_aload_n (k := 0) (nn := 5) dX8_isOver_4 rfl rfl rfl ?_
  refine zx_getI (nn := 8) flX8_49 rfl rfl dX8_isOver_5 rfl ?_
  refine zx_icmp_lt (tgt := 15) (nn := 11) dX8_isOver_8 (by decide) rfl (fun h8 => ?_) (fun h8 => ?_)
  · refine zx_iconst (v := 0) (nn := 16) rfl dX8_isOver_15 rfl ?_
    refine zx_zret rfl rfl dX8_isOver_16 ?_
    refine ⟨congrArg (fun x => some (zi x)) ?_, rfl⟩
    simp only [cS_0, cS_1, cS_2, cS_over]
    simp only [zb, pHas, pIn, Bool.and_eq_true, decide_eq_true_eq]
    (repeat' split) <;> first | rfl | (exfalso; simp only [decide_eq_true_eq, decide_eq_false_iff_not, Bool.and_eq_true, Bool.or_eq_true, Bool.and_eq_false_iff, Bool.or_eq_false_iff, Int32.lt_iff_toInt_lt, Int32.le_iff_toInt_le, ← Int32.toInt_inj, ztm2, ztm1, zt0, zt1, zt2, zt3, zt4, zt5, zt6, zt7, zt8, zt9, zt10, zt15, zt16, zt20, zt30, zt31, zt40, zt41, zt200, zt999] at *; omega)
  · refine zx_iconst (v := 1) (nn := 12) rfl dX8_isOver_11 rfl ?_
    refine zx_goto (tgt := 16) dX8_isOver_12 (by decide) ?_
    refine zx_zret rfl rfl dX8_isOver_16 ?_
    refine ⟨congrArg (fun x => some (zi x)) ?_, rfl⟩
    simp only [cS_0, cS_1, cS_2, cS_over]
    simp only [zb, pHas, pIn, Bool.and_eq_true, decide_eq_true_eq]
    (repeat' split) <;> first | rfl | (exfalso; simp only [decide_eq_true_eq, decide_eq_false_iff_not, Bool.and_eq_true, Bool.or_eq_true, Bool.and_eq_false_iff, Bool.or_eq_false_iff, Int32.lt_iff_toInt_lt, Int32.le_iff_toInt_le, ← Int32.toInt_inj, ztm2, ztm1, zt0, zt1, zt2, zt3, zt4, zt5, zt6, zt7, zt8, zt9, zt10, zt15, zt16, zt20, zt30, zt31, zt40, zt41, zt200, zt999] at *; omega)
set_option maxHeartbeats 4000000 in
set_option maxRecDepth 100000 in
theorem eX8_isAct_25 (σ : zG) (μ : zM) (a : Int32) : zMet shC σ 1 MX8_isAct yX8_isAct [zr 25, zi a] μ (fun rr μ' => rr = some (zi (zb (decide (a = 0) || pHas (cS 25 μ 0) (a - 1)))) ∧ μ' = μ) := by
  refine zmetF (by decide +kernel) rfl (Nat.le_of_ble_eq_true rfl) ?_
  show zX shC σ 1 MX8_isAct 0 [(0, zr 25), (1, zi a)] [] μ _
  refine zx_iload_n (k := 1) (nn := 1) dX8_isAct_0 rfl rfl rfl ?_
  refine zx_if_eq (tgt := 14) (nn := 4) dX8_isAct_1 (by decide) rfl (fun h1 => ?_) (fun h1 => ?_)
  · refine zx_iconst (v := 1) (nn := 15) rfl dX8_isAct_14 rfl ?_
    refine zx_goto (tgt := 19) dX8_isAct_15 (by decide) ?_
    refine zx_zret rfl rfl dX8_isAct_19 ?_
    refine ⟨congrArg (fun x => some (zi x)) ?_, rfl⟩
    simp_all [zb, cS_0]
  · refine zx_aload_n (k := 0) (nn := 5) dX8_isAct_4 rfl rfl rfl ?_
    refine zx_iload_n (k := 1) (nn := 6) dX8_isAct_5 rfl rfl rfl ?_
    refine zx_iconst (v := 1) (nn := 7) rfl dX8_isAct_6 rfl ?_
    refine zx_isub (nn := 8) dX8_isAct_7 rfl ?_
    refine zx_callVf (nn := 11) (k := 25) (d' := 0) (as := [zi (a - 1)]) (rest := []) (n := 1) (eX8_hasLamp_25 σ μ (a - 1)  ) kX8_hasLamp mlX8_58 rfl rfl rfl (by decide) rfl rfl (Nat.le_of_ble_eq_true rfl) dX8_isAct_8 rfl ?_
    show zX shC σ 1 MX8_isAct 11 [(0, zr 25), (1, zi a)] [zi (zb (pHas (cS 25 μ 0) (a - 1)))] μ _
    refine zx_ifb_eq (tgt := 18) (nn := 14) dX8_isAct_11 (by decide) rfl (fun h11 => ?_) (fun h11 => ?_)
    · refine zx_iconst (v := 0) (nn := 19) rfl dX8_isAct_18 rfl ?_
      refine zx_zret rfl rfl dX8_isAct_19 ?_
      refine ⟨congrArg (fun x => some (zi x)) ?_, rfl⟩
      simp_all [zb, cS_0]
    · refine zx_iconst (v := 1) (nn := 15) rfl dX8_isAct_14 rfl ?_
      refine zx_goto (tgt := 19) dX8_isAct_15 (by decide) ?_
      refine zx_zret rfl rfl dX8_isAct_19 ?_
      refine ⟨congrArg (fun x => some (zi x)) ?_, rfl⟩
      simp_all [zb, cS_0]
