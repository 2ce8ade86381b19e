/-! the thing -/
def pPush (a j b : Nat) (μ : zM) (t : Nat) : List Int32 → zM
  | [] => μ
  | v :: L => pPush a j b (zp (zp μ b t v) a j (nI (t + 1))) (t + 1) L
theorem pPush_app (a j b : Nat) : ∀ (L K : List Int32) (μ : zM) (t : Nat), pPush a j b μ t (L ++ K) = pPush a j b (pPush a j b μ t L) (t + L.length) K
  | [], K, μ, t => rfl
  | v :: L, K, μ, t => by
    show pPush a j b _ (t + 1) (L ++ K) = _
    rw [pPush_app a j b L K, show t + 1 + L.length = t + (v :: L).length by simp; omega]
    rfl
theorem pPush_n {a j b : Nat} : ∀ {L : List Int32} {μ : zM} {t : Nat}, μ a j = nI t → pPush a j b μ t L a j = nI (t + L.length)
  | [], μ, t, h => h
  | v :: L, μ, t, h => by
    have := pPush_n (a := a) (j := j) (b := b) (L := L) (μ := zp (zp μ b t v) a j (nI (t + 1))) (t := t + 1) (by rw [zp_eq]; exact pk_us)
    rw [show t + (v :: L).length = t + 1 + L.length by simp; omega]
    exact this
theorem pPush_o {a j b c i : Nat} (hb : c ≠ b) (ha : c ≠ a ∨ i ≠ j) : ∀ {L : List Int32} {μ : zM} {t : Nat}, pPush a j b μ t L c i = μ c i
  | [], μ, t => rfl
  | v :: L, μ, t => by
    refine (pPush_o hb ha (L := L)).trans ?_
    rcases ha with h | h
    · rw [zp_ne h, zp_ne hb]
    · by_cases q : c = a
      · rw [q, zp_eq, pk_un h, ← q, zp_ne hb]
      · rw [zp_ne q, zp_ne hb]
theorem pPush_J {a j b : Nat} : ∀ {L : List Int32} {μ : zM} {t : Nat}, zJ [a, b] μ (pPush a j b μ t L)
  | [], _, _ => zJ.rf
  | _ :: L, μ, t => ((zJ.rf.p (by simp)).p (by simp)).tr (pPush_J (L := L))
theorem pPush_lo {a j b i : Nat} (hab : a ≠ b) : ∀ {L : List Int32} {μ : zM} {t : Nat}, i < t → pPush a j b μ t L b i = μ b i
  | [], _, _, _ => rfl
  | v :: L, μ, t, h => by
    refine (pPush_lo hab (L := L) (t := t + 1) (by omega)).trans ?_
    rw [zp_ne (Ne.symm hab), zp_eq, pk_un (by omega)]
theorem pPush_at {a j b : Nat} (hab : a ≠ b) : ∀ {L : List Int32} {μ : zM} {t i : Nat}, i < L.length → pPush a j b μ t L b (t + i) = L.getD i 0
  | v :: L, μ, t, 0, _ => by
    refine (pPush_lo hab (L := L) (t := t + 1) (by omega)).trans ?_
    rw [zp_ne (Ne.symm hab), zp_eq]
    exact pk_us
  | v :: L, μ, t, i + 1, h => by
    have := pPush_at (j := j) hab (L := L) (μ := zp (zp μ b t v) a j (nI (t + 1))) (t := t + 1) (i := i) (by simp at h; omega)
    rw [show t + (i + 1) = t + 1 + i by omega]
    exact this
def pAimL (k : Int32) : List Int32 := (if k = 1 then [20] else []) ++ ((if k = 3 then [50] else []) ++ [10])
def pAimV (k a x : Int32) : Int32 := if k = 1 then (x + a) * 2 else if k = 3 then x + a - 1 else x + a
def pSwL (k : Int32) : List Int32 := (if k = 2 ∨ k = 3 then [30] else []) ++ ((if k = 5 then [60] else []) ++ (11 :: pAimL k))
def pSwV (k n a x : Int32) : Int32 := if k = 2 ∨ k = 3 then (pAimV k a x - n) ^^^ n else if k = 5 then 0 - (pAimV k a x - n) else pAimV k a x - n
def pDimL (k n a : Int32) : List Int32 := (if k = 5 then [61] else []) ++ ((if k = 4 ∨ k = 5 then [40] else []) ++ (12 :: (if a = n then [] else if k = 5 then pAimL k else [])))
def pDimV (k n a x : Int32) : Int32 := if a = n then 0 else if k = 5 then (x - 3) / (a - n) - pAimV k a n else if k = 4 then (x - 3) / (a - n) else x / (a - n)
def pFoL (k n a : Int32) : List Int32 := (if k = 3 then [51] else []) ++ (13 :: (pSwL k ++ (if k = 3 then pDimL k n a else [])))
def pFoV (k n a x : Int32) : Int32 := if k = 3 then (pSwV k n a x ^^^ a) + pDimV k n a a else pSwV k n a x ^^^ a
theorem pAimL_le (k : Int32) : (pAimL k).length ≤ 2 := by
  unfold pAimL
  by_cases h : k = 1
  · subst h; decide
  · rw [if_neg h]; split <;> decide
theorem pSwL_le (k : Int32) : (pSwL k).length ≤ 4 := by
  have := pAimL_le k
  unfold pSwL
  by_cases h : k = 5
  · subst h; decide
  · rw [if_neg h]; split <;> simp <;> omega
theorem pDimL_le (k n a : Int32) : (pDimL k n a).length ≤ 5 := by
  have := pAimL_le k
  unfold pDimL
  (repeat' split) <;> simp <;> omega
def pThL (act k n a : Int32) : List Int32 := if act = 0 then pAimL k else if act = 1 then pSwL k else if act = 2 then pDimL k n a else pFoL k n a
def pThV (act k n a x : Int32) : Int32 := if act = 0 then pAimV k a x else if act = 1 then pSwV k n a x else if act = 2 then pDimV k n a x else pFoV k n a x
def pThP (act k n a : Int32) : Bool := decide (a = n) && (decide (act = 2) || (decide (¬ act = 0) && decide (¬ act = 1) && decide (k = 3)))
theorem zsub_ne {a n : Int32} (h : ¬ a = n) : ¬ a - n = 0 := fun q => h (by
  rw [← Int32.toBitVec_inj] at *
  simp only [Int32.toBitVec_sub, Int32.toBitVec_ofNat] at q
  bv_omega)
set_option maxHeartbeats 4000000 in
set_option maxRecDepth 100000 in
theorem eX6_isSheet (σ : zG) (μ : zM) (k : Int32) : zMet shC σ 0 MX6_isSheet yX6_isSheet [zi k] μ (fun rr μ' => rr = some (zi (zb (pHas 4 k))) ∧ μ' = μ) := by
  refine zmetF (by decide +kernel) rfl (Nat.le_of_ble_eq_true rfl) ?_
  show zX shC σ 0 MX6_isSheet 0 [(0, zi k)] [] μ _
  refine zx_iload_n (k := 0) (nn := 1) dX6_isSheet_0 rfl rfl rfl ?_
  refine zx_if_lt (tgt := 13) (nn := 4) dX6_isSheet_1 (by decide) rfl (fun h1 => ?_) (fun h1 => ?_)
  · refine zx_iconst (v := 0) (nn := 14) rfl dX6_isSheet_13 rfl ?_
    refine zx_zret rfl rfl dX6_isSheet_14 ?_
    refine ⟨congrArg (fun x => some (zi x)) ?_, rfl⟩
    simp only [zb, pHas, Bool.and_eq_true, decide_eq_true_eq]
    (repeat' split) <;> first | rfl | (exfalso; simp only [decide_eq_true_eq, decide_eq_false_iff_not, Bool.and_eq_true, Bool.or_eq_true, Bool.and_eq_false_iff, Bool.or_eq_false_iff, Int32.lt_iff_toInt_lt, Int32.le_iff_toInt_le, ← Int32.toInt_inj, ztm2, ztm1, zt0, zt1, zt2, zt3, zt4, zt5, zt6, zt7, zt8, zt9, zt10, zt15, zt16, zt20, zt30, zt31, zt40, zt41, zt200, zt999] at *; omega)
  · refine zx_iload_n (k := 0) (nn := 5) dX6_isSheet_4 rfl rfl rfl ?_
    refine zx_iconst (v := 4) (nn := 6) rfl dX6_isSheet_5 rfl ?_
    refine zx_icmp_ge (tgt := 13) (nn := 9) dX6_isSheet_6 (by decide) rfl (fun h6 => ?_) (fun h6 => ?_)
    · refine zx_iconst (v := 0) (nn := 14) rfl dX6_isSheet_13 rfl ?_
      refine zx_zret rfl rfl dX6_isSheet_14 ?_
      refine ⟨congrArg (fun x => some (zi x)) ?_, rfl⟩
      simp only [zb, pHas, Bool.and_eq_true, decide_eq_true_eq]
      (repeat' split) <;> first | rfl | (exfalso; simp only [decide_eq_true_eq, decide_eq_false_iff_not, Bool.and_eq_true, Bool.or_eq_true, Bool.and_eq_false_iff, Bool.or_eq_false_iff, Int32.lt_iff_toInt_lt, Int32.le_iff_toInt_le, ← Int32.toInt_inj, ztm2, ztm1, zt0, zt1, zt2, zt3, zt4, zt5, zt6, zt7, zt8, zt9, zt10, zt15, zt16, zt20, zt30, zt31, zt40, zt41, zt200, zt999] at *; omega)
    · refine zx_iconst (v := 1) (nn := 10) rfl dX6_isSheet_9 rfl ?_
      refine zx_goto (tgt := 14) dX6_isSheet_10 (by decide) ?_
      refine zx_zret rfl rfl dX6_isSheet_14 ?_
      refine ⟨congrArg (fun x => some (zi x)) ?_, rfl⟩
      simp only [zb, pHas, Bool.and_eq_true, decide_eq_true_eq]
      (repeat' split) <;> first | rfl | (exfalso; simp only [decide_eq_true_eq, decide_eq_false_iff_not, Bool.and_eq_true, Bool.or_eq_true, Bool.and_eq_false_iff, Bool.or_eq_false_iff, Int32.lt_iff_toInt_lt, Int32.le_iff_toInt_le, ← Int32.toInt_inj, ztm2, ztm1, zt0, zt1, zt2, zt3, zt4, zt5, zt6, zt7, zt8, zt9, zt10, zt15, zt16, zt20, zt30, zt31, zt40, zt41, zt200, zt999] at *; omega)
set_option maxHeartbeats 4000000 in
set_option maxRecDepth 100000 in
theorem eX6_isMissing_53 (σ : zG) (μ : zM) (k : Nat) (hk : k < 4) : zMet shC σ 0 MX6_isMissing yX6_isMissing [zr 53, zi (nI k)] μ (fun rr μ' => rr = some (zi (zb (decide (μ 54 k = -1)))) ∧ μ' = μ) := by
  refine zmetF (by decide +kernel) rfl (Nat.le_of_ble_eq_true rfl) ?_
  show zX shC σ 0 MX6_isMissing 0 [(0, zr 53), (1, zi (nI k))] [] μ _
  refine zx_aload_n (k := 0) (nn := 1) dX6_isMissing_0 rfl rfl rfl ?_
  refine zx_getR (q := 54) (nn := 4) flX6_11 rfl rfl dX6_isMissing_1 rfl ?_
  refine zx_iload_n (k := 1) (nn := 5) dX6_isMissing_4 rfl rfl rfl ?_
  refine zx_iald_n (j := k) (nn := 6) rfl hk (by decide) dX6_isMissing_5 rfl ?_
  refine zx_iconst (v := -1) (nn := 7) rfl dX6_isMissing_6 rfl ?_
  refine zx_icmp_ne (tgt := 14) (nn := 10) dX6_isMissing_7 (by decide) rfl (fun h7 => ?_) (fun h7 => ?_)
  · refine zx_iconst (v := 0) (nn := 15) rfl dX6_isMissing_14 rfl ?_
    refine zx_zret rfl rfl dX6_isMissing_15 ?_
    refine ⟨congrArg (fun x => some (zi x)) ?_, rfl⟩
    rw [decide_eq_false h7]; rfl
  · refine zx_iconst (v := 1) (nn := 11) rfl dX6_isMissing_10 rfl ?_
    refine zx_goto (tgt := 15) dX6_isMissing_11 (by decide) ?_
    refine zx_zret rfl rfl dX6_isMissing_15 ?_
    refine ⟨congrArg (fun x => some (zi x)) ?_, rfl⟩
    rw [decide_eq_true h7]; rfl
set_option maxHeartbeats 4000000 in
set_option maxRecDepth 100000 in
theorem eX6_hasItem_53 (σ : zG) (μ : zM) (k : Nat) (i : Int32) (hk : k < 4) : zMet shC σ 0 MX6_hasItem yX6_hasItem [zr 53, zi (nI k), zi i] μ (fun rr μ' => rr = some (zi (zb (pHas (μ 55 k) i))) ∧ μ' = μ) := by
  refine zmetF (by decide +kernel) rfl (Nat.le_of_ble_eq_true rfl) ?_
  show zX shC σ 0 MX6_hasItem 0 [(0, zr 53), (1, zi (nI k)), (2, zi i)] [] μ _
  refine zx_iload_n (k := 2) (nn := 1) dX6_hasItem_0 rfl rfl rfl ?_
  refine zx_if_lt (tgt := 18) (nn := 4) dX6_hasItem_1 (by decide) rfl (fun h1 => ?_) (fun h1 => ?_)
  · refine zx_iconst (v := 0) (nn := 19) rfl dX6_hasItem_18 rfl ?_
    refine zx_zret rfl rfl dX6_hasItem_19 ?_
    refine ⟨congrArg (fun x => some (zi x)) ?_, rfl⟩
    simp only [zb, pHas, Bool.and_eq_true, decide_eq_true_eq]
    (repeat' split) <;> first | rfl | (exfalso; simp only [decide_eq_true_eq, decide_eq_false_iff_not, Bool.and_eq_true, Bool.or_eq_true, Bool.and_eq_false_iff, Bool.or_eq_false_iff, Int32.lt_iff_toInt_lt, Int32.le_iff_toInt_le, ← Int32.toInt_inj, ztm2, ztm1, zt0, zt1, zt2, zt3, zt4, zt5, zt6, zt7, zt8, zt9, zt10, zt15, zt16, zt20, zt30, zt31, zt40, zt41, zt200, zt999] at *; omega)
  · refine zx_iload_n (k := 2) (nn := 5) dX6_hasItem_4 rfl rfl rfl ?_
    refine zx_aload_n (k := 0) (nn := 6) dX6_hasItem_5 rfl rfl rfl ?_
    refine zx_getR (q := 55) (nn := 9) flX6_15 rfl rfl dX6_hasItem_6 rfl ?_
    refine zx_iload_n (k := 1) (nn := 10) dX6_hasItem_9 rfl rfl rfl ?_
    refine zx_iald_n (j := k) (nn := 11) rfl hk (by decide) dX6_hasItem_10 rfl ?_
    refine zx_icmp_ge (tgt := 18) (nn := 14) dX6_hasItem_11 (by decide) rfl (fun h11 => ?_) (fun h11 => ?_)
    · refine zx_iconst (v := 0) (nn := 19) rfl dX6_hasItem_18 rfl ?_
      refine zx_zret rfl rfl dX6_hasItem_19 ?_
      refine ⟨congrArg (fun x => some (zi x)) ?_, rfl⟩
      simp only [zb, pHas, Bool.and_eq_true, decide_eq_true_eq]
      (repeat' split) <;> first | rfl | (exfalso; simp only [decide_eq_true_eq, decide_eq_false_iff_not, Bool.and_eq_true, Bool.or_eq_true, Bool.and_eq_false_iff, Bool.or_eq_false_iff, Int32.lt_iff_toInt_lt, Int32.le_iff_toInt_le, ← Int32.toInt_inj, ztm2, ztm1, zt0, zt1, zt2, zt3, zt4, zt5, zt6, zt7, zt8, zt9, zt10, zt15, zt16, zt20, zt30, zt31, zt40, zt41, zt200, zt999] at *; omega)
    · refine zx_iconst (v := 1) (nn := 15) rfl dX6_hasItem_14 rfl ?_
      refine zx_goto (tgt := 19) dX6_hasItem_15 (by decide) ?_
      refine zx_zret rfl rfl dX6_hasItem_19 ?_
      refine ⟨congrArg (fun x => some (zi x)) ?_, rfl⟩
      simp only [zb, pHas, Bool.and_eq_true, decide_eq_true_eq]
      (repeat' split) <;> first | rfl | (exfalso; simp only [decide_eq_true_eq, decide_eq_false_iff_not, Bool.and_eq_true, Bool.or_eq_true, Bool.and_eq_false_iff, Bool.or_eq_false_iff, Int32.lt_iff_toInt_lt, Int32.le_iff_toInt_le, ← Int32.toInt_inj, ztm2, ztm1, zt0, zt1, zt2, zt3, zt4, zt5, zt6, zt7, zt8, zt9, zt10, zt15, zt16, zt20, zt30, zt31, zt40, zt41, zt200, zt999] at *; omega)
set_option maxHeartbeats 4000000 in
set_option maxRecDepth 100000 in
theorem eX6_narrowed (σ : zG) (μ : zM) (sort : Int32) (v : Int32) : zMet shC σ 0 MX6_narrowed yX6_narrowed [zi sort, zi v] μ (fun rr μ' => rr = some (zi (pNar sort v)) ∧ μ' = μ) := by
  refine zmetF (by decide +kernel) rfl (Nat.le_of_ble_eq_true rfl) ?_
  show zX shC σ 0 MX6_narrowed 0 [(0, zi sort), (1, zi v)] [] μ _
  refine zx_iload_n (k := 0) (nn := 1) dX6_narrowed_0 rfl rfl rfl ?_
  by_cases h1_0 : sort = 0
  · refine zx_sw h1_0 ?_
    refine zx_tabIn (tgt := 36) (off := 35) dX6_narrowed_1 (by decide +kernel) (by decide +kernel) (by decide +kernel) (by decide) ?_
    refine zx_iload_n (k := 1) (nn := 37) dX6_narrowed_36 rfl rfl rfl ?_
    refine zx_i2b (nn := 38) dX6_narrowed_37 rfl ?_
    refine zx_iret rfl dX6_narrowed_38 ?_
    refine ⟨congrArg (fun x => some (zi x)) ?_, rfl⟩
    unfold pNar
    rw [if_pos h1_0]
  by_cases h1_1 : sort = 1
  · refine zx_sw h1_1 ?_
    refine zx_tabIn (tgt := 39) (off := 38) dX6_narrowed_1 (by decide +kernel) (by decide +kernel) (by decide +kernel) (by decide) ?_
    refine zx_iload_n (k := 1) (nn := 40) dX6_narrowed_39 rfl rfl rfl ?_
    refine zx_i2s (nn := 41) dX6_narrowed_40 rfl ?_
    refine zx_iret rfl dX6_narrowed_41 ?_
    refine ⟨congrArg (fun x => some (zi x)) ?_, rfl⟩
    unfold pNar
    rw [if_neg h1_0, if_pos h1_1]
  by_cases h1_2 : sort = 2
  · refine zx_sw h1_2 ?_
    refine zx_tabIn (tgt := 52) (off := 51) dX6_narrowed_1 (by decide +kernel) (by decide +kernel) (by decide +kernel) (by decide) ?_
    refine zx_iload_n (k := 1) (nn := 53) dX6_narrowed_52 rfl rfl rfl ?_
    refine zx_iret rfl dX6_narrowed_53 ?_
    refine ⟨congrArg (fun x => some (zi x)) ?_, rfl⟩
    unfold pNar
    simp only [*, zb] <;> simp
  by_cases h1_3 : sort = 3
  · refine zx_sw h1_3 ?_
    refine zx_tabIn (tgt := 52) (off := 51) dX6_narrowed_1 (by decide +kernel) (by decide +kernel) (by decide +kernel) (by decide) ?_
    refine zx_iload_n (k := 1) (nn := 53) dX6_narrowed_52 rfl rfl rfl ?_
    refine zx_iret rfl dX6_narrowed_53 ?_
    refine ⟨congrArg (fun x => some (zi x)) ?_, rfl⟩
    unfold pNar
    simp only [*, zb] <;> simp
  by_cases h1_4 : sort = 4
  · refine zx_sw h1_4 ?_
    refine zx_tabIn (tgt := 42) (off := 41) dX6_narrowed_1 (by decide +kernel) (by decide +kernel) (by decide +kernel) (by decide) ?_
    refine zx_iload_n (k := 1) (nn := 43) dX6_narrowed_42 rfl rfl rfl ?_
    refine zx_if_eq (tgt := 50) (nn := 46) dX6_narrowed_43 (by decide) rfl (fun h43 => ?_) (fun h43 => ?_)
    · refine zx_iconst (v := 0) (nn := 51) rfl dX6_narrowed_50 rfl ?_
      refine zx_iret rfl dX6_narrowed_51 ?_
      refine ⟨congrArg (fun x => some (zi x)) ?_, rfl⟩
      unfold pNar
      simp only [*, zb] <;> simp
    · refine zx_iconst (v := 1) (nn := 47) rfl dX6_narrowed_46 rfl ?_
      refine zx_goto (tgt := 51) dX6_narrowed_47 (by decide) ?_
      refine zx_iret rfl dX6_narrowed_51 ?_
      refine ⟨congrArg (fun x => some (zi x)) ?_, rfl⟩
      unfold pNar
      simp only [*, zb] <;> simp
  refine zx_tabOut (tgt := 52) dX6_narrowed_1 (zsw_out (lo := 0) (hi := 4) (fun k hk1 hk2 => by rcases (show k = 0 ∨ k = 1 ∨ k = 2 ∨ k = 3 ∨ k = 4 by omega) with rfl | rfl | rfl | rfl | rfl; exact lv_neT h1_0 rfl; exact lv_neT h1_1 rfl; exact lv_neT h1_2 rfl; exact lv_neT h1_3 rfl; exact lv_neT h1_4 rfl)) (by decide) ?_
  refine zx_iload_n (k := 1) (nn := 53) dX6_narrowed_52 rfl rfl rfl ?_
  refine zx_iret rfl dX6_narrowed_53 ?_
  refine ⟨congrArg (fun x => some (zi x)) ?_, rfl⟩
  unfold pNar
  simp only [*, zb] <;> simp
set_option maxHeartbeats 4000000 in
set_option maxRecDepth 100000 in
theorem eX6_renew_53 (σ : zG) (μ : zM) (k : Nat) (sort : Int32) (len : Int32) (hk : k < 4) : zMet shC σ 2 MX6_renew yX6_renew [zr 53, zi (nI k), zi sort, zi len] μ (fun rr μ' => rr = some (zi 1) ∧ zJ [57 + k] (zp (zp μ 54 k sort) 55 k (pW len 0 40)) μ' ∧ ∀ q, q < 40 → μ' (57 + k) q = 0) := by
  refine zmetF (by decide +kernel) rfl (Nat.le_of_ble_eq_true rfl) ?_
  show zX shC σ 2 MX6_renew 0 [(0, zr 53), (1, zi (nI k)), (2, zi sort), (3, zi len)] [] μ _
  refine zx_aload_n (k := 0) (nn := 1) dX6_renew_0 rfl rfl rfl ?_
  refine zx_getR (q := 54) (nn := 4) flX6_11 rfl rfl dX6_renew_1 rfl ?_
  refine zx_iload_n (k := 1) (nn := 5) dX6_renew_4 rfl rfl rfl ?_
  refine zx_iload_n (k := 2) (nn := 6) dX6_renew_5 rfl rfl rfl ?_
  refine zx_iast_n (j := k) (nn := 7) rfl hk (by decide) dX6_renew_6 rfl ?_
  refine zx_aload_n (k := 0) (nn := 8) dX6_renew_7 rfl rfl rfl ?_
  refine zx_getR (q := 55) (nn := 11) flX6_15 rfl rfl dX6_renew_8 rfl ?_
  refine zx_iload_n (k := 1) (nn := 12) dX6_renew_11 rfl rfl rfl ?_
  refine zx_iload_n (k := 3) (nn := 13) dX6_renew_12 rfl rfl rfl ?_
  refine zx_iconst (v := 0) (nn := 14) rfl dX6_renew_13 rfl ?_
  refine zx_bipush (v := 40) (nn := 16) rfl dX6_renew_14 rfl ?_
  refine zx_callSf (nn := 19) (d' := 1) (as := [zi len, zi 0, zi 40]) (rest := [zi (nI k), zr 55]) (n := 3) (eX8_held σ (zp μ 54 k sort) len 0 40 (by decide)) kX8_held mlX6_23 (by decide) rfl rfl (Nat.le_of_ble_eq_true rfl) dX6_renew_16 rfl ?_
  show zX shC σ 2 MX6_renew 19 [(0, zr 53), (1, zi (nI k)), (2, zi sort), (3, zi len)] [zi (pW len 0 40), zi (nI k), zr 55] (zp μ 54 k sort) _
  refine zx_iast_n (j := k) (nn := 20) rfl hk (by decide) dX6_renew_19 rfl ?_
  refine zx_iconst (v := 0) (nn := 21) rfl dX6_renew_20 rfl ?_
  refine zx_istore (nn := 23) (lv' := [(4, zi 0), (0, zr 53), (1, zi (nI k)), (2, zi sort), (3, zi len)]) dX6_renew_21 (by decide) rfl rfl ?_
  refine zx_lv (lv' := [(0, zr 53), (1, zi (nI k)), (4, zi 0)]) [1, 2, 0] rfl ?_
  refine zx_while (τ := Nat × zM) (fun t_ => 40 - t_.1) (fun t_ => t_.1 ≤ 40 ∧ zJ [57 + k] (zp (zp μ 54 k sort) 55 k (pW len 0 40)) t_.2 ∧ ∀ q, q < t_.1 → t_.2 (57 + k) q = 0) (fun t_ => [(0, zr 53), (1, zi (nI k)), (4, zi (nI t_.1))]) (fun t_ => t_.2) (t0 := (0, zp (zp μ 54 k sort) 55 k (pW len 0 40))) (show 0 ≤ 40 ∧ zJ [57 + k] (zp (zp μ 54 k sort) 55 k (pW len 0 40)) (zp (zp μ 54 k sort) 55 k (pW len 0 40)) ∧ ∀ q, q < 0 → (zp (zp μ 54 k sort) 55 k (pW len 0 40)) (57 + k) q = 0 from ⟨Nat.zero_le _, zJ.rf, fun q h => absurd h (by omega)⟩) ?_
  rintro ⟨i, μ1⟩ hI ih23
  replace hI : i ≤ 40 ∧ zJ [57 + k] (zp (zp μ 54 k sort) 55 k (pW len 0 40)) μ1 ∧ ∀ q, q < i → μ1 (57 + k) q = 0 := hI
  show zX shC σ 2 MX6_renew 23 [(0, zr 53), (1, zi (nI k)), (4, zi (nI i))] [] μ1 _
  refine zx_iload (k := 2) (nn := 25) dX6_renew_23 rfl rfl ?_
  refine zx_bipush (v := 40) (nn := 27) rfl dX6_renew_25 rfl ?_
  refine zx_icmp_ge (tgt := 46) (nn := 30) dX6_renew_27 (by decide) rfl (fun h27 => ?_) (fun h27 => ?_)
  · refine zx_iconst (v := 1) (nn := 47) rfl dX6_renew_46 rfl ?_
    refine zx_iret rfl dX6_renew_47 ?_
    have hge : 40 ≤ i := nI_le_le (b := 40) h27 (by omega)
    exact ⟨rfl, hI.2.1, fun q h => hI.2.2 q (by omega)⟩
  · have hlt : i < 40 := nI_nle_lt (b := 40) h27 (by omega)
    refine zx_aload_n (k := 0) (nn := 31) dX6_renew_30 rfl rfl rfl ?_
    refine zx_getR (q := 56) (nn := 34) flX6_20 rfl rfl dX6_renew_31 rfl ?_
    refine zx_iload_n (k := 1) (nn := 35) dX6_renew_34 rfl rfl rfl ?_
    refine zx_aald (q := 57 + k) (nn := 36) rfl (vp_in_nI hk (by decide)) (item_ix hk) dX6_renew_35 rfl ?_
    refine zx_iload (k := 2) (nn := 38) dX6_renew_36 rfl rfl ?_
    refine zx_iconst (v := 0) (nn := 39) rfl dX6_renew_38 rfl ?_
    refine zx_iast_n (j := i) (nn := 40) (item_sh hk) (by omega) (by decide) dX6_renew_39 rfl ?_
    refine zx_iinc (k := 2) (v := nI (i + 1)) (lv' := [(4, zi (nI (i + 1))), (0, zr 53), (1, zi (nI k))]) (nn := 43) dX6_renew_40 rfl (nI_1 i) (by decide) rfl rfl ?_
    refine zx_goto (tgt := 23) dX6_renew_43 (by decide) ?_
    refine zx_lv (lv' := [(0, zr 53), (1, zi (nI k)), (4, zi (nI (i + 1)))]) [1, 2, 0] rfl ?_
    exact ih23 (i + 1, zp μ1 (57 + k) i 0) (show (i + 1) ≤ 40 ∧ zJ [57 + k] (zp (zp μ 54 k sort) 55 k (pW len 0 40)) (zp μ1 (57 + k) i 0) ∧ ∀ q, q < (i + 1) → (zp μ1 (57 + k) i 0) (57 + k) q = 0 from ⟨by omega, hI.2.1.p (by simp), fun q hq => by rw [zp_eq]; exact (Decidable.em (q = i)).elim (fun e => by subst e; exact pk_us) (fun e => by rw [pk_un e]; exact hI.2.2 q (by omega))⟩) (by show 40 - (i + 1) < 40 - i; omega)
set_option maxHeartbeats 4000000 in
set_option maxRecDepth 100000 in
theorem eX6_put_53 (σ : zG) (μ : zM) (k : Nat) (i : Nat) (v : Int32) (hk : k < 4) (hi : i < 40) : zMet shC σ 1 MX6_put yX6_put [zr 53, zi (nI k), zi (nI i), zi v] μ (fun rr μ' => rr = some (zi 1) ∧ μ' = zp μ (57 + k) i (pNar (μ 54 k) v)) := by
  refine zmetF (by decide +kernel) rfl (Nat.le_of_ble_eq_true rfl) ?_
  show zX shC σ 1 MX6_put 0 [(0, zr 53), (1, zi (nI k)), (2, zi (nI i)), (3, zi v)] [] μ _
  refine zx_aload_n (k := 0) (nn := 1) dX6_put_0 rfl rfl rfl ?_
  refine zx_getR (q := 56) (nn := 4) flX6_20 rfl rfl dX6_put_1 rfl ?_
  refine zx_iload_n (k := 1) (nn := 5) dX6_put_4 rfl rfl rfl ?_
  refine zx_aald (q := 57 + k) (nn := 6) rfl (vp_in_nI hk (by decide)) (item_ix hk) dX6_put_5 rfl ?_
  refine zx_iload_n (k := 2) (nn := 7) dX6_put_6 rfl rfl rfl ?_
  refine zx_aload_n (k := 0) (nn := 8) dX6_put_7 rfl rfl rfl ?_
  refine zx_getR (q := 54) (nn := 11) flX6_11 rfl rfl dX6_put_8 rfl ?_
  refine zx_iload_n (k := 1) (nn := 12) dX6_put_11 rfl rfl rfl ?_
  refine zx_iald_n (j := k) (nn := 13) rfl hk (by decide) dX6_put_12 rfl ?_
  refine zx_iload_n (k := 3) (nn := 14) dX6_put_13 rfl rfl rfl ?_
  refine zx_callSf (nn := 17) (d' := 0) (as := [zi (μ 54 k), zi v]) (rest := [zi (nI i), zr (57 + k)]) (n := 2) (eX6_narrowed σ μ (μ 54 k) v  ) kX6_narrowed mlX6_29 (by decide) rfl rfl (Nat.le_of_ble_eq_true rfl) dX6_put_14 rfl ?_
  show zX shC σ 1 MX6_put 17 [(0, zr 53), (1, zi (nI k)), (2, zi (nI i)), (3, zi v)] [zi (pNar (μ 54 k) v), zi (nI i), zr (57 + k)] μ _
  refine zx_iast_n (j := i) (nn := 18) (item_sh hk) hi (by decide) dX6_put_17 rfl ?_
  refine zx_iconst (v := 1) (nn := 19) rfl dX6_put_18 rfl ?_
  refine zx_iret rfl dX6_put_19 ?_
  exact ⟨rfl, rfl⟩
set_option maxHeartbeats 4000000 in
set_option maxRecDepth 100000 in
theorem eX6_refusalAs_53 (σ : zG) (μ : zM) (k : Nat) (s : Int32) (hk : k < 4) : zMet shC σ 1 MX6_refusalAs yX6_refusalAs [zr 53, zi (nI k), zi s] μ (fun rr μ' => rr = some (zi (if μ 54 k = -1 then -11 else if μ 54 k = s then 0 else -13)) ∧ μ' = μ) := by
  refine zmetF (by decide +kernel) rfl (Nat.le_of_ble_eq_true rfl) ?_
  show zX shC σ 1 MX6_refusalAs 0 [(0, zr 53), (1, zi (nI k)), (2, zi s)] [] μ _
  refine zx_aload_n (k := 0) (nn := 1) dX6_refusalAs_0 rfl rfl rfl ?_
  refine zx_iload_n (k := 1) (nn := 2) dX6_refusalAs_1 rfl rfl rfl ?_
  refine zx_callVf (nn := 5) (k := 53) (d' := 0) (as := [zi (nI k)]) (rest := []) (n := 1) (eX6_isMissing_53 σ μ k  hk) kX6_isMissing mlX6_33 rfl rfl rfl (by decide) rfl rfl (Nat.le_of_ble_eq_true rfl) dX6_refusalAs_2 rfl ?_
  show zX shC σ 1 MX6_refusalAs 5 [(0, zr 53), (1, zi (nI k)), (2, zi s)] [zi (zb (decide (μ 54 k = -1)))] μ _
  refine zx_ifb_eq (tgt := 11) (nn := 8) dX6_refusalAs_5 (by decide) rfl (fun h5 => ?_) (fun h5 => ?_)
  · refine zx_aload_n (k := 0) (nn := 12) dX6_refusalAs_11 rfl rfl rfl ?_
    refine zx_getR (q := 54) (nn := 15) flX6_11 rfl rfl dX6_refusalAs_12 rfl ?_
    refine zx_iload_n (k := 1) (nn := 16) dX6_refusalAs_15 rfl rfl rfl ?_
    refine zx_iald_n (j := k) (nn := 17) rfl hk (by decide) dX6_refusalAs_16 rfl ?_
    refine zx_iload_n (k := 2) (nn := 18) dX6_refusalAs_17 rfl rfl rfl ?_
    refine zx_icmp_ne (tgt := 25) (nn := 21) dX6_refusalAs_18 (by decide) rfl (fun h18 => ?_) (fun h18 => ?_)
    · refine zx_bipush (v := -13) (nn := 27) rfl dX6_refusalAs_25 rfl ?_
      refine zx_iret rfl dX6_refusalAs_27 ?_
      refine ⟨congrArg (fun x => some (zi x)) ?_, rfl⟩
      rw [if_neg (of_decide_eq_false h5), if_neg h18]
    · refine zx_iconst (v := 0) (nn := 22) rfl dX6_refusalAs_21 rfl ?_
      refine zx_goto (tgt := 27) dX6_refusalAs_22 (by decide) ?_
      refine zx_iret rfl dX6_refusalAs_27 ?_
      refine ⟨congrArg (fun x => some (zi x)) ?_, rfl⟩
      rw [if_neg (of_decide_eq_false h5), if_pos h18]
  · refine zx_bipush (v := -11) (nn := 10) rfl dX6_refusalAs_8 rfl ?_
    refine zx_iret rfl dX6_refusalAs_10 ?_
    refine ⟨congrArg (fun x => some (zi x)) ?_, rfl⟩
    rw [if_pos (of_decide_eq_true h5)]
set_option maxHeartbeats 4000000 in
set_option maxRecDepth 100000 in
theorem eX7_isShelf (σ : zG) (μ : zM) (k : Int32) : zMet shC σ 0 MX7_isShelf yX7_isShelf [zi k] μ (fun rr μ' => rr = some (zi (zb (pHas 4 k))) ∧ μ' = μ) := by
  refine zmetF (by decide +kernel) rfl (Nat.le_of_ble_eq_true rfl) ?_
  show zX shC σ 0 MX7_isShelf 0 [(0, zi k)] [] μ _
  refine zx_iload_n (k := 0) (nn := 1) dX7_isShelf_0 rfl rfl rfl ?_
  refine zx_if_lt (tgt := 13) (nn := 4) dX7_isShelf_1 (by decide) rfl (fun h1 => ?_) (fun h1 => ?_)
  · refine zx_iconst (v := 0) (nn := 14) rfl dX7_isShelf_13 rfl ?_
    refine zx_zret rfl rfl dX7_isShelf_14 ?_
    refine ⟨congrArg (fun x => some (zi x)) ?_, rfl⟩
    simp only [zb, pHas, Bool.and_eq_true, decide_eq_true_eq]
    (repeat' split) <;> first | rfl | (exfalso; simp only [decide_eq_true_eq, decide_eq_false_iff_not, Bool.and_eq_true, Bool.or_eq_true, Bool.and_eq_false_iff, Bool.or_eq_false_iff, Int32.lt_iff_toInt_lt, Int32.le_iff_toInt_le, ← Int32.toInt_inj, ztm2, ztm1, zt0, zt1, zt2, zt3, zt4, zt5, zt6, zt7, zt8, zt9, zt10, zt15, zt16, zt20, zt30, zt31, zt40, zt41, zt200, zt999] at *; omega)
  · refine zx_iload_n (k := 0) (nn := 5) dX7_isShelf_4 rfl rfl rfl ?_
    refine zx_iconst (v := 4) (nn := 6) rfl dX7_isShelf_5 rfl ?_
    refine zx_icmp_ge (tgt := 13) (nn := 9) dX7_isShelf_6 (by decide) rfl (fun h6 => ?_) (fun h6 => ?_)
    · refine zx_iconst (v := 0) (nn := 14) rfl dX7_isShelf_13 rfl ?_
      refine zx_zret rfl rfl dX7_isShelf_14 ?_
      refine ⟨congrArg (fun x => some (zi x)) ?_, rfl⟩
      simp only [zb, pHas, Bool.and_eq_true, decide_eq_true_eq]
      (repeat' split) <;> first | rfl | (exfalso; simp only [decide_eq_true_eq, decide_eq_false_iff_not, Bool.and_eq_true, Bool.or_eq_true, Bool.and_eq_false_iff, Bool.or_eq_false_iff, Int32.lt_iff_toInt_lt, Int32.le_iff_toInt_le, ← Int32.toInt_inj, ztm2, ztm1, zt0, zt1, zt2, zt3, zt4, zt5, zt6, zt7, zt8, zt9, zt10, zt15, zt16, zt20, zt30, zt31, zt40, zt41, zt200, zt999] at *; omega)
    · refine zx_iconst (v := 1) (nn := 10) rfl dX7_isShelf_9 rfl ?_
      refine zx_goto (tgt := 14) dX7_isShelf_10 (by decide) ?_
      refine zx_zret rfl rfl dX7_isShelf_14 ?_
      refine ⟨congrArg (fun x => some (zi x)) ?_, rfl⟩
      simp only [zb, pHas, Bool.and_eq_true, decide_eq_true_eq]
      (repeat' split) <;> first | rfl | (exfalso; simp only [decide_eq_true_eq, decide_eq_false_iff_not, Bool.and_eq_true, Bool.or_eq_true, Bool.and_eq_false_iff, Bool.or_eq_false_iff, Int32.lt_iff_toInt_lt, Int32.le_iff_toInt_le, ← Int32.toInt_inj, ztm2, ztm1, zt0, zt1, zt2, zt3, zt4, zt5, zt6, zt7, zt8, zt9, zt10, zt15, zt16, zt20, zt30, zt31, zt40, zt41, zt200, zt999] at *; omega)
set_option maxHeartbeats 4000000 in
set_option maxRecDepth 100000 in
theorem eX7_putLamp_61 (σ : zG) (μ : zM) (k : Nat) (l : Int32) (hk : k < 4) : zMet shC σ 0 MX7_putLamp yX7_putLamp [zr 61, zi (nI k), zi l] μ (fun rr μ' => rr = some (zi 1) ∧ μ' = zp (zp μ 62 k 1) 63 k l) := by
  refine zmetF (by decide +kernel) rfl (Nat.le_of_ble_eq_true rfl) ?_
  show zX shC σ 0 MX7_putLamp 0 [(0, zr 61), (1, zi (nI k)), (2, zi l)] [] μ _
  refine zx_aload_n (k := 0) (nn := 1) dX7_putLamp_0 rfl rfl rfl ?_
  refine zx_getR (q := 62) (nn := 4) flX7_9 rfl rfl dX7_putLamp_1 rfl ?_
  refine zx_iload_n (k := 1) (nn := 5) dX7_putLamp_4 rfl rfl rfl ?_
  refine zx_iconst (v := 1) (nn := 6) rfl dX7_putLamp_5 rfl ?_
  refine zx_iast_n (j := k) (nn := 7) rfl hk (by decide) dX7_putLamp_6 rfl ?_
  refine zx_aload_n (k := 0) (nn := 8) dX7_putLamp_7 rfl rfl rfl ?_
  refine zx_getR (q := 63) (nn := 11) flX7_15 rfl rfl dX7_putLamp_8 rfl ?_
  refine zx_iload_n (k := 1) (nn := 12) dX7_putLamp_11 rfl rfl rfl ?_
  refine zx_iload_n (k := 2) (nn := 13) dX7_putLamp_12 rfl rfl rfl ?_
  refine zx_iast_n (j := k) (nn := 14) rfl hk (by decide) dX7_putLamp_13 rfl ?_
  refine zx_iconst (v := 1) (nn := 15) rfl dX7_putLamp_14 rfl ?_
  refine zx_iret rfl dX7_putLamp_15 ?_
  exact ⟨rfl, rfl⟩
set_option maxHeartbeats 4000000 in
set_option maxRecDepth 100000 in
theorem eX7_putNothing_61 (σ : zG) (μ : zM) (k : Nat) (hk : k < 4) : zMet shC σ 0 MX7_putNothing yX7_putNothing [zr 61, zi (nI k)] μ (fun rr μ' => rr = some (zi 1) ∧ μ' = zp μ 62 k 0) := by
  refine zmetF (by decide +kernel) rfl (Nat.le_of_ble_eq_true rfl) ?_
  show zX shC σ 0 MX7_putNothing 0 [(0, zr 61), (1, zi (nI k))] [] μ _
  refine zx_aload_n (k := 0) (nn := 1) dX7_putNothing_0 rfl rfl rfl ?_
  refine zx_getR (q := 62) (nn := 4) flX7_9 rfl rfl dX7_putNothing_1 rfl ?_
  refine zx_iload_n (k := 1) (nn := 5) dX7_putNothing_4 rfl rfl rfl ?_
  refine zx_iconst (v := 0) (nn := 6) rfl dX7_putNothing_5 rfl ?_
  refine zx_iast_n (j := k) (nn := 7) rfl hk (by decide) dX7_putNothing_6 rfl ?_
  refine zx_iconst (v := 1) (nn := 8) rfl dX7_putNothing_7 rfl ?_
  refine zx_iret rfl dX7_putNothing_8 ?_
  exact ⟨rfl, rfl⟩
set_option maxHeartbeats 4000000 in
set_option maxRecDepth 100000 in
theorem eX7_putRow_61 (σ : zG) (μ : zM) (k : Nat) (r : Nat) (hk : k < 4) (hr : r < 4) : zMet shC σ 1 MX7_putRow yX7_putRow [zr 61, zi (nI k), zi (nI r)] μ (fun rr μ' => rr = some (zi 1) ∧ μ' = if μ 54 r = -1 then zp μ 62 k 0 else zp (zp (zp μ 62 k 2) 63 k (μ 54 r)) 64 k (μ 55 r)) := by
  refine zmetF (by decide +kernel) rfl (Nat.le_of_ble_eq_true rfl) ?_
  show zX shC σ 1 MX7_putRow 0 [(0, zr 61), (1, zi (nI k)), (2, zi (nI r))] [] μ _
  refine zx_aload_n (k := 0) (nn := 1) dX7_putRow_0 rfl rfl rfl ?_
  refine zx_getR (q := 53) (nn := 4) flX7_25 rfl rfl dX7_putRow_1 rfl ?_
  refine zx_iload_n (k := 2) (nn := 5) dX7_putRow_4 rfl rfl rfl ?_
  refine zx_callVf (nn := 8) (k := 53) (d' := 0) (as := [zi (nI r)]) (rest := []) (n := 1) (eX6_isMissing_53 σ μ r  hr) kX6_isMissing mlX7_29 rfl rfl rfl (by decide) rfl rfl (Nat.le_of_ble_eq_true rfl) dX7_putRow_5 rfl ?_
  show zX shC σ 1 MX7_putRow 8 [(0, zr 61), (1, zi (nI k)), (2, zi (nI r))] [zi (zb (decide (μ 54 r = -1)))] μ _
  refine zx_ifb_eq (tgt := 17) (nn := 11) dX7_putRow_8 (by decide) rfl (fun h8 => ?_) (fun h8 => ?_)
  · refine zx_aload_n (k := 0) (nn := 18) dX7_putRow_17 rfl rfl rfl ?_
    refine zx_getR (q := 62) (nn := 21) flX7_9 rfl rfl dX7_putRow_18 rfl ?_
    refine zx_iload_n (k := 1) (nn := 22) dX7_putRow_21 rfl rfl rfl ?_
    refine zx_iconst (v := 2) (nn := 23) rfl dX7_putRow_22 rfl ?_
    refine zx_iast_n (j := k) (nn := 24) rfl hk (by decide) dX7_putRow_23 rfl ?_
    refine zx_aload_n (k := 0) (nn := 25) dX7_putRow_24 rfl rfl rfl ?_
    refine zx_getR (q := 63) (nn := 28) flX7_15 rfl rfl dX7_putRow_25 rfl ?_
    refine zx_iload_n (k := 1) (nn := 29) dX7_putRow_28 rfl rfl rfl ?_
    refine zx_aload_n (k := 0) (nn := 30) dX7_putRow_29 rfl rfl rfl ?_
    refine zx_getR (q := 53) (nn := 33) flX7_25 rfl rfl dX7_putRow_30 rfl ?_
    refine zx_getR (q := 54) (nn := 36) flX7_39 rfl rfl dX7_putRow_33 rfl ?_
    refine zx_iload_n (k := 2) (nn := 37) dX7_putRow_36 rfl rfl rfl ?_
    refine zx_iald_n (j := r) (nn := 38) rfl hr (by decide) dX7_putRow_37 rfl ?_
    show zX shC σ 1 MX7_putRow 38 [(0, zr 61), (1, zi (nI k)), (2, zi (nI r))] [zi (μ 54 r), zi (nI k), zr 63] (zp μ 62 k 2) _
    refine zx_iast_n (j := k) (nn := 39) rfl hk (by decide) dX7_putRow_38 rfl ?_
    refine zx_aload_n (k := 0) (nn := 40) dX7_putRow_39 rfl rfl rfl ?_
    refine zx_getR (q := 64) (nn := 43) flX7_18 rfl rfl dX7_putRow_40 rfl ?_
    refine zx_iload_n (k := 1) (nn := 44) dX7_putRow_43 rfl rfl rfl ?_
    refine zx_aload_n (k := 0) (nn := 45) dX7_putRow_44 rfl rfl rfl ?_
    refine zx_getR (q := 53) (nn := 48) flX7_25 rfl rfl dX7_putRow_45 rfl ?_
    refine zx_getR (q := 55) (nn := 51) flX7_42 rfl rfl dX7_putRow_48 rfl ?_
    refine zx_iload_n (k := 2) (nn := 52) dX7_putRow_51 rfl rfl rfl ?_
    refine zx_iald_n (j := r) (nn := 53) rfl hr (by decide) dX7_putRow_52 rfl ?_
    show zX shC σ 1 MX7_putRow 53 [(0, zr 61), (1, zi (nI k)), (2, zi (nI r))] [zi (μ 55 r), zi (nI k), zr 64] (zp (zp μ 62 k 2) 63 k (μ 54 r)) _
    refine zx_iast_n (j := k) (nn := 54) rfl hk (by decide) dX7_putRow_53 rfl ?_
    refine zx_iconst (v := 1) (nn := 55) rfl dX7_putRow_54 rfl ?_
    refine zx_iret rfl dX7_putRow_55 ?_
    exact ⟨rfl, by rw [if_neg (of_decide_eq_false h8)]⟩
  · refine zx_aload_n (k := 0) (nn := 12) dX7_putRow_11 rfl rfl rfl ?_
    refine zx_iload_n (k := 1) (nn := 13) dX7_putRow_12 rfl rfl rfl ?_
    refine zx_callVf (nn := 16) (k := 61) (d' := 0) (as := [zi (nI k)]) (rest := []) (n := 1) (eX7_putNothing_61 σ μ k  hk) kX7_putNothing mlX7_35 rfl rfl rfl (by decide) rfl rfl (Nat.le_of_ble_eq_true rfl) dX7_putRow_13 rfl ?_
    show zX shC σ 1 MX7_putRow 16 [(0, zr 61), (1, zi (nI k)), (2, zi (nI r))] [zi 1] (zp μ 62 k 0) _
    refine zx_iret rfl dX7_putRow_16 ?_
    exact ⟨rfl, by rw [if_pos (of_decide_eq_true h8)]⟩
set_option maxHeartbeats 4000000 in
set_option maxRecDepth 100000 in
theorem eX7_holdsLamp_61 (σ : zG) (μ : zM) (k : Nat) (hk : k < 4) : zMet shC σ 1 MX7_holdsLamp yX7_holdsLamp [zr 61, zi (nI k)] μ (fun rr μ' => rr = some (zi (zb (decide (μ 62 k = 1) && pHas (μ 18 7) (μ 63 k)))) ∧ μ' = μ) := by
  refine zmetF (by decide +kernel) rfl (Nat.le_of_ble_eq_true rfl) ?_
  show zX shC σ 1 MX7_holdsLamp 0 [(0, zr 61), (1, zi (nI k))] [] μ _
  refine zx_aload_n (k := 0) (nn := 1) dX7_holdsLamp_0 rfl rfl rfl ?_
  refine zx_getR (q := 62) (nn := 4) flX7_9 rfl rfl dX7_holdsLamp_1 rfl ?_
  refine zx_iload_n (k := 1) (nn := 5) dX7_holdsLamp_4 rfl rfl rfl ?_
  refine zx_iald_n (j := k) (nn := 6) rfl hk (by decide) dX7_holdsLamp_5 rfl ?_
  refine zx_iconst (v := 1) (nn := 7) rfl dX7_holdsLamp_6 rfl ?_
  refine zx_icmp_ne (tgt := 30) (nn := 10) dX7_holdsLamp_7 (by decide) rfl (fun h7 => ?_) (fun h7 => ?_)
  · refine zx_iconst (v := 0) (nn := 31) rfl dX7_holdsLamp_30 rfl ?_
    refine zx_zret rfl rfl dX7_holdsLamp_31 ?_
    refine ⟨congrArg (fun x => some (zi x)) ?_, rfl⟩
    rw [decide_eq_false h7]; rfl
  · refine zx_aload_n (k := 0) (nn := 11) dX7_holdsLamp_10 rfl rfl rfl ?_
    refine zx_getR (q := 18) (nn := 14) flX7_21 rfl rfl dX7_holdsLamp_11 rfl ?_
    refine zx_aload_n (k := 0) (nn := 15) dX7_holdsLamp_14 rfl rfl rfl ?_
    refine zx_getR (q := 63) (nn := 18) flX7_15 rfl rfl dX7_holdsLamp_15 rfl ?_
    refine zx_iload_n (k := 1) (nn := 19) dX7_holdsLamp_18 rfl rfl rfl ?_
    refine zx_iald_n (j := k) (nn := 20) rfl hk (by decide) dX7_holdsLamp_19 rfl ?_
    refine zx_callVf (nn := 23) (k := 18) (d' := 0) (as := [zi (μ 63 k)]) (rest := []) (n := 1) (eX8_hasLamp_18 σ μ (μ 63 k)  ) kX8_hasLamp mlX7_43 rfl rfl rfl (by decide) rfl rfl (Nat.le_of_ble_eq_true rfl) dX7_holdsLamp_20 rfl ?_
    show zX shC σ 1 MX7_holdsLamp 23 [(0, zr 61), (1, zi (nI k))] [zi (zb (pHas (cS 18 μ 0) (μ 63 k)))] μ _
    refine zx_ifb_eq (tgt := 30) (nn := 26) dX7_holdsLamp_23 (by decide) rfl (fun h23 => ?_) (fun h23 => ?_)
    · refine zx_iconst (v := 0) (nn := 31) rfl dX7_holdsLamp_30 rfl ?_
      refine zx_zret rfl rfl dX7_holdsLamp_31 ?_
      refine ⟨congrArg (fun x => some (zi x)) ?_, rfl⟩
      rw [decide_eq_true h7, show pHas (μ 18 7) (μ 63 k) = _ from h23]; rfl
    · refine zx_iconst (v := 1) (nn := 27) rfl dX7_holdsLamp_26 rfl ?_
      refine zx_goto (tgt := 31) dX7_holdsLamp_27 (by decide) ?_
      refine zx_zret rfl rfl dX7_holdsLamp_31 ?_
      refine ⟨congrArg (fun x => some (zi x)) ?_, rfl⟩
      rw [decide_eq_true h7, show pHas (μ 18 7) (μ 63 k) = _ from h23]; rfl
set_option maxHeartbeats 4000000 in
set_option maxRecDepth 100000 in
theorem eX7_asLamp_61 (σ : zG) (μ : zM) (k : Nat) (as : Int32) (hk : k < 4) (ok : pOK (cS 18 μ)) : zMet shC σ 2 MX7_asLamp yX7_asLamp [zr 61, zi (nI k), zi as] μ (fun rr μ' => rr = some (zi (if (decide (μ 62 k = 1) && pHas (μ 18 7) (μ 63 k)) = true then (if pUnder (μ 19 (μ 63 k).toNatClampNeg) as = true then μ 63 k else -13) else if μ 62 k = 2 then -13 else -11)) ∧ μ' = μ) := by
  refine zmetF (by decide +kernel) rfl (Nat.le_of_ble_eq_true rfl) ?_
  show zX shC σ 2 MX7_asLamp 0 [(0, zr 61), (1, zi (nI k)), (2, zi as)] [] μ _
  refine zx_aload_n (k := 0) (nn := 1) dX7_asLamp_0 rfl rfl rfl ?_
  refine zx_iload_n (k := 1) (nn := 2) dX7_asLamp_1 rfl rfl rfl ?_
  refine zx_callVf (nn := 5) (k := 61) (d' := 1) (as := [zi (nI k)]) (rest := []) (n := 1) (eX7_holdsLamp_61 σ μ k  hk) kX7_holdsLamp mlX7_48 rfl rfl rfl (by decide) rfl rfl (Nat.le_of_ble_eq_true rfl) dX7_asLamp_2 rfl ?_
  show zX shC σ 2 MX7_asLamp 5 [(0, zr 61), (1, zi (nI k)), (2, zi as)] [zi (zb (decide (μ 62 k = 1) && pHas (μ 18 7) (μ 63 k)))] μ _
  refine zx_ifb_eq (tgt := 38) (nn := 8) dX7_asLamp_5 (by decide) rfl (fun h5 => ?_) (fun h5 => ?_)
  · refine zx_aload_n (k := 0) (nn := 39) dX7_asLamp_38 rfl rfl rfl ?_
    refine zx_getR (q := 62) (nn := 42) flX7_9 rfl rfl dX7_asLamp_39 rfl ?_
    refine zx_iload_n (k := 1) (nn := 43) dX7_asLamp_42 rfl rfl rfl ?_
    refine zx_iald_n (j := k) (nn := 44) rfl hk (by decide) dX7_asLamp_43 rfl ?_
    refine zx_iconst (v := 2) (nn := 45) rfl dX7_asLamp_44 rfl ?_
    refine zx_icmp_ne (tgt := 53) (nn := 48) dX7_asLamp_45 (by decide) rfl (fun h45 => ?_) (fun h45 => ?_)
    · refine zx_bipush (v := -11) (nn := 55) rfl dX7_asLamp_53 rfl ?_
      refine zx_iret rfl dX7_asLamp_55 ?_
      refine ⟨congrArg (fun x => some (zi x)) ?_, rfl⟩
      rw [if_neg (by rw [h5]; decide), if_neg h45]
    · refine zx_bipush (v := -13) (nn := 50) rfl dX7_asLamp_48 rfl ?_
      refine zx_goto (tgt := 55) dX7_asLamp_50 (by decide) ?_
      refine zx_iret rfl dX7_asLamp_55 ?_
      refine ⟨congrArg (fun x => some (zi x)) ?_, rfl⟩
      rw [if_neg (by rw [h5]; decide), if_pos h45]
  · have hh : (¬ μ 63 k < 0) ∧ μ 63 k < μ 18 7 := by
          have := (Bool.and_eq_true _ _).mp h5
          have := this.2
          unfold pHas at this
          rw [Bool.and_eq_true, decide_eq_true_eq, decide_eq_true_eq] at this
          exact ⟨Int32.not_lt.mpr this.1, this.2⟩
    have h6 := (ok_L ok).1
    have hn := (ok_L ok).2
    have hkd : 1 ≤ μ 19 (μ 63 k).toNatClampNeg ∧ μ 19 (μ 63 k).toNatClampNeg ≤ 5 := by
          have hq := ((Bool.and_eq_true _ _).mp h5).2
          rw [show μ 18 7 = nI (pL (cS 18 μ)) from h6] at hq
          obtain ⟨l, hl, e⟩ := pHas_n (by have := (ok_L ok).2; omega) hq
          have hl6 : l < 6 := Nat.lt_of_lt_of_le hl (ok_L ok).2
          rw [e, nI_clamp (by omega), ← cS_k (b := 18) (μ := μ) hl6]
          exact (ok.2.2.2 l hl).1
    refine zx_aload_n (k := 0) (nn := 9) dX7_asLamp_8 rfl rfl rfl ?_
    refine zx_getR (q := 63) (nn := 12) flX7_15 rfl rfl dX7_asLamp_9 rfl ?_
    refine zx_iload_n (k := 1) (nn := 13) dX7_asLamp_12 rfl rfl rfl ?_
    refine zx_iald_n (j := k) (nn := 14) rfl hk (by decide) dX7_asLamp_13 rfl ?_
    refine zx_istore_n (nn := 15) (lv' := [(3, zi (μ 63 k)), (0, zr 61), (1, zi (nI k)), (2, zi as)]) dX7_asLamp_14 rfl (by decide) rfl rfl ?_
    refine zx_aload_n (k := 1) (nn := 16) dX7_asLamp_15 rfl rfl rfl ?_
    refine zx_getR (q := 18) (nn := 19) flX7_21 rfl rfl dX7_asLamp_16 rfl ?_
    refine zx_getR (q := 19) (nn := 22) flX7_51 rfl rfl dX7_asLamp_19 rfl ?_
    refine zx_iload_n (k := 0) (nn := 23) dX7_asLamp_22 rfl rfl rfl ?_
    refine zx_iald (nn := 24) rfl (vp_of (Int32.not_lt.mp (fun q => hh.1 q)) hh.2 h6 hn (by decide)) dX7_asLamp_23 rfl ?_
    refine zx_iload_n (k := 3) (nn := 25) dX7_asLamp_24 rfl rfl rfl ?_
    refine zx_callSf (nn := 28) (d' := 0) (as := [zi (μ 19 ((μ 63 k).toNatClampNeg)), zi as]) (rest := []) (n := 2) (eX8_isUnder σ μ (μ 19 ((μ 63 k).toNatClampNeg)) as  hkd.1 hkd.2) kX8_isUnder mlX7_54 (by decide) rfl rfl (Nat.le_of_ble_eq_true rfl) dX7_asLamp_25 rfl ?_
    show zX shC σ 2 MX7_asLamp 28 [(3, zi (μ 63 k)), (0, zr 61), (1, zi (nI k)), (2, zi as)] [zi (zb (pUnder (μ 19 ((μ 63 k).toNatClampNeg)) as))] μ _
    refine zx_ifb_eq (tgt := 35) (nn := 31) dX7_asLamp_28 (by decide) rfl (fun h28 => ?_) (fun h28 => ?_)
    · refine zx_bipush (v := -13) (nn := 37) rfl dX7_asLamp_35 rfl ?_
      refine zx_iret rfl dX7_asLamp_37 ?_
      refine ⟨congrArg (fun x => some (zi x)) ?_, rfl⟩
      rw [if_pos h5, if_neg (by rw [h28]; decide)]
    · refine zx_iload_n (k := 0) (nn := 32) dX7_asLamp_31 rfl rfl rfl ?_
      refine zx_goto (tgt := 37) dX7_asLamp_32 (by decide) ?_
      refine zx_iret rfl dX7_asLamp_37 ?_
      refine ⟨congrArg (fun x => some (zi x)) ?_, rfl⟩
      rw [if_pos h5, if_pos h28]
set_option maxHeartbeats 4000000 in
set_option maxRecDepth 100000 in
theorem eX7_asRow_61 (σ : zG) (μ : zM) (k : Nat) (as : Int32) (hk : k < 4) : zMet shC σ 2 MX7_asRow yX7_asRow [zr 61, zi (nI k), zi as] μ (fun rr μ' => rr = some (zi (if μ 62 k = 2 then (if μ 63 k = as then μ 64 k else -13) else if (decide (μ 62 k = 1) && pHas (μ 18 7) (μ 63 k)) = true then -13 else -11)) ∧ μ' = μ) := by
  refine zmetF (by decide +kernel) rfl (Nat.le_of_ble_eq_true rfl) ?_
  show zX shC σ 2 MX7_asRow 0 [(0, zr 61), (1, zi (nI k)), (2, zi as)] [] μ _
  refine zx_aload_n (k := 0) (nn := 1) dX7_asRow_0 rfl rfl rfl ?_
  refine zx_getR (q := 62) (nn := 4) flX7_9 rfl rfl dX7_asRow_1 rfl ?_
  refine zx_iload_n (k := 1) (nn := 5) dX7_asRow_4 rfl rfl rfl ?_
  refine zx_iald_n (j := k) (nn := 6) rfl hk (by decide) dX7_asRow_5 rfl ?_
  refine zx_iconst (v := 2) (nn := 7) rfl dX7_asRow_6 rfl ?_
  refine zx_icmp_ne (tgt := 32) (nn := 10) dX7_asRow_7 (by decide) rfl (fun h7 => ?_) (fun h7 => ?_)
  · refine zx_aload_n (k := 0) (nn := 33) dX7_asRow_32 rfl rfl rfl ?_
    refine zx_iload_n (k := 1) (nn := 34) dX7_asRow_33 rfl rfl rfl ?_
    refine zx_callVf (nn := 37) (k := 61) (d' := 1) (as := [zi (nI k)]) (rest := []) (n := 1) (eX7_holdsLamp_61 σ μ k  hk) kX7_holdsLamp mlX7_48 rfl rfl rfl (by decide) rfl rfl (Nat.le_of_ble_eq_true rfl) dX7_asRow_34 rfl ?_
    show zX shC σ 2 MX7_asRow 37 [(0, zr 61), (1, zi (nI k)), (2, zi as)] [zi (zb (decide (μ 62 k = 1) && pHas (μ 18 7) (μ 63 k)))] μ _
    refine zx_ifb_eq (tgt := 45) (nn := 40) dX7_asRow_37 (by decide) rfl (fun h37 => ?_) (fun h37 => ?_)
    · refine zx_bipush (v := -11) (nn := 47) rfl dX7_asRow_45 rfl ?_
      refine zx_iret rfl dX7_asRow_47 ?_
      refine ⟨congrArg (fun x => some (zi x)) ?_, rfl⟩
      rw [if_neg h7, if_neg (by rw [h37]; decide)]
    · refine zx_bipush (v := -13) (nn := 42) rfl dX7_asRow_40 rfl ?_
      refine zx_goto (tgt := 47) dX7_asRow_42 (by decide) ?_
      refine zx_iret rfl dX7_asRow_47 ?_
      refine ⟨congrArg (fun x => some (zi x)) ?_, rfl⟩
      rw [if_neg h7, if_pos h37]
  · refine zx_aload_n (k := 0) (nn := 11) dX7_asRow_10 rfl rfl rfl ?_
    refine zx_getR (q := 63) (nn := 14) flX7_15 rfl rfl dX7_asRow_11 rfl ?_
    refine zx_iload_n (k := 1) (nn := 15) dX7_asRow_14 rfl rfl rfl ?_
    refine zx_iald_n (j := k) (nn := 16) rfl hk (by decide) dX7_asRow_15 rfl ?_
    refine zx_iload_n (k := 2) (nn := 17) dX7_asRow_16 rfl rfl rfl ?_
    refine zx_icmp_ne (tgt := 29) (nn := 20) dX7_asRow_17 (by decide) rfl (fun h17 => ?_) (fun h17 => ?_)
    · refine zx_bipush (v := -13) (nn := 31) rfl dX7_asRow_29 rfl ?_
      refine zx_iret rfl dX7_asRow_31 ?_
      refine ⟨congrArg (fun x => some (zi x)) ?_, rfl⟩
      rw [if_pos h7, if_neg h17]
    · refine zx_aload_n (k := 0) (nn := 21) dX7_asRow_20 rfl rfl rfl ?_
      refine zx_getR (q := 64) (nn := 24) flX7_18 rfl rfl dX7_asRow_21 rfl ?_
      refine zx_iload_n (k := 1) (nn := 25) dX7_asRow_24 rfl rfl rfl ?_
      refine zx_iald_n (j := k) (nn := 26) rfl hk (by decide) dX7_asRow_25 rfl ?_
      refine zx_goto (tgt := 31) dX7_asRow_26 (by decide) ?_
      refine zx_iret rfl dX7_asRow_31 ?_
      refine ⟨congrArg (fun x => some (zi x)) ?_, rfl⟩
      rw [if_pos h7, if_pos h17]
set_option maxHeartbeats 4000000 in
set_option maxRecDepth 100000 in
theorem eX9_become_65 (σ : zG) (μ : zM) (k : Int32) (n : Int32) (a : Int32) : zMet shC σ 0 MX9_become yX9_become [zr 65, zi k, zi n, zi a] μ (fun rr μ' => rr = none ∧ μ' = zp (zp (zp (zp μ 65 2 k) 65 3 n) 65 4 a) 65 5 0) := by
  refine zmetF (by decide +kernel) rfl (Nat.le_of_ble_eq_true rfl) ?_
  show zX shC σ 0 MX9_become 0 [(0, zr 65), (1, zi k), (2, zi n), (3, zi a)] [] μ _
  refine zx_aload_n (k := 0) (nn := 1) dX9_become_0 rfl rfl rfl ?_
  refine zx_iload_n (k := 1) (nn := 2) dX9_become_1 rfl rfl rfl ?_
  refine zx_putI (nn := 5) fpX9_15 rfl rfl rfl rfl dX9_become_2 rfl ?_
  refine zx_aload_n (k := 0) (nn := 6) dX9_become_5 rfl rfl rfl ?_
  refine zx_iload_n (k := 2) (nn := 7) dX9_become_6 rfl rfl rfl ?_
  refine zx_putI (nn := 10) fpX9_19 rfl rfl rfl rfl dX9_become_7 rfl ?_
  refine zx_aload_n (k := 0) (nn := 11) dX9_become_10 rfl rfl rfl ?_
  refine zx_iload_n (k := 3) (nn := 12) dX9_become_11 rfl rfl rfl ?_
  refine zx_putI (nn := 15) fpX9_22 rfl rfl rfl rfl dX9_become_12 rfl ?_
  refine zx_aload_n (k := 0) (nn := 16) dX9_become_15 rfl rfl rfl ?_
  refine zx_iconst (v := 0) (nn := 17) rfl dX9_become_16 rfl ?_
  refine zx_putI (nn := 20) fpX9_25 rfl rfl rfl rfl dX9_become_17 rfl ?_
  refine zx_vret rfl dX9_become_20 ?_
  exact ⟨rfl, rfl⟩
set_option maxHeartbeats 4000000 in
set_option maxRecDepth 100000 in
theorem eX9_begin_65 (σ : zG) (μ : zM) (v : Int32) (t : Nat) (ht : μ 65 1 = nI t) (hl : t < 30) : zMet shC σ 0 MX9_begin yX9_begin [zr 65, zi v] μ (fun rr μ' => rr = none ∧ μ' = zp (zp μ 66 t v) 65 1 (nI (t + 1))) := by
  refine zmetF (by decide +kernel) rfl (Nat.le_of_ble_eq_true rfl) ?_
  show zX shC σ 0 MX9_begin 0 [(0, zr 65), (1, zi v)] [] μ _
  refine zx_aload_n (k := 0) (nn := 1) dX9_begin_0 rfl rfl rfl ?_
  refine zx_getI (nn := 4) flX9_42 rfl rfl dX9_begin_1 rfl ?_
  refine zx_bipush (v := 30) (nn := 6) rfl dX9_begin_4 rfl ?_
  refine zx_icmp_ge (tgt := 29) (nn := 9) dX9_begin_6 (by decide) rfl (fun h6 => ?_) (fun h6 => ?_)
  · exact absurd (nI_le_le (b := 30) (a := t) (by rw [← ht]; exact h6) (by omega)) (by omega)
  · refine zx_aload_n (k := 0) (nn := 10) dX9_begin_9 rfl rfl rfl ?_
    refine zx_getR (q := 66) (nn := 13) flX9_9 rfl rfl dX9_begin_10 rfl ?_
    refine zx_aload_n (k := 0) (nn := 14) dX9_begin_13 rfl rfl rfl ?_
    refine zx_getI (nn := 17) flX9_42 rfl rfl dX9_begin_14 rfl ?_
    rw [ht]
    show zX shC σ 0 MX9_begin 17 [(0, zr 65), (1, zi v)] [zi (nI t), zr 66] μ _
    refine zx_iload_n (k := 1) (nn := 18) dX9_begin_17 rfl rfl rfl ?_
    refine zx_iast_n (j := t) (nn := 19) rfl (by omega) (by decide) dX9_begin_18 rfl ?_
    refine zx_aload_n (k := 0) (nn := 20) dX9_begin_19 rfl rfl rfl ?_
    refine zx_dupr (nn := 21) dX9_begin_20 rfl ?_
    refine zx_getI (nn := 24) flX9_42 rfl rfl dX9_begin_21 rfl ?_
    show zX shC σ 0 MX9_begin 24 [(0, zr 65), (1, zi v)] [zi (μ 65 1), zr 65] (zp μ 66 t v) _
    refine zx_iconst (v := 1) (nn := 25) rfl dX9_begin_24 rfl ?_
    refine zx_iadd (nn := 26) dX9_begin_25 rfl ?_
    refine zx_putI (nn := 29) fpX9_42 rfl rfl rfl rfl dX9_begin_26 rfl ?_
    refine zx_vret rfl dX9_begin_29 ?_
    exact ⟨rfl, by rw [← nI_1 t]; show zp (zp μ 66 t v) 65 1 (μ 65 1 + 1) = _; rw [ht]⟩
set_option maxHeartbeats 4000000 in
set_option maxRecDepth 100000 in
theorem eX9_aims_65 (σ : zG) (μ : zM) (x : Int32) (t : Nat) (ht : μ 65 1 = nI t) (hl : t ≤ 26) : zMet shC σ 1 MX9_aims yX9_aims [zr 65, zi x] μ (fun rr μ' => rr = some (zi (pAimV (μ 65 2) (μ 65 4) x)) ∧ μ' = pPush 65 1 66 μ t (pAimL (μ 65 2))) := by
  refine zmetF (by decide +kernel) rfl (Nat.le_of_ble_eq_true rfl) ?_
  show zX shC σ 1 MX9_aims 0 [(0, zr 65), (1, zi x)] [] μ _
  refine zx_aload_n (k := 0) (nn := 1) dX9_aims_0 rfl rfl rfl ?_
  refine zx_getI (nn := 4) flX9_15 rfl rfl dX9_aims_1 rfl ?_
  refine zx_iconst (v := 1) (nn := 5) rfl dX9_aims_4 rfl ?_
  refine zx_icmp_ne (tgt := 14) (nn := 8) dX9_aims_5 (by decide) rfl (fun h5 => ?_) (fun h5 => ?_)
  · refine zx_aload_n (k := 0) (nn := 15) dX9_aims_14 rfl rfl rfl ?_
    refine zx_getI (nn := 18) flX9_15 rfl rfl dX9_aims_15 rfl ?_
    refine zx_iconst (v := 3) (nn := 19) rfl dX9_aims_18 rfl ?_
    refine zx_icmp_ne (tgt := 28) (nn := 22) dX9_aims_19 (by decide) rfl (fun h19 => ?_) (fun h19 => ?_)
    · refine zx_aload_n (k := 0) (nn := 29) dX9_aims_28 rfl rfl rfl ?_
      refine zx_bipush (v := 10) (nn := 31) rfl dX9_aims_29 rfl ?_
      refine zx_callVf (nn := 34) (k := 65) (d' := 0) (as := [zi 10]) (rest := []) (n := 1) (eX9_begin_65 σ μ 10 (t) ht (by omega)) kX9_begin mlX9_45 rfl rfl rfl (by decide) rfl rfl (Nat.le_of_ble_eq_true rfl) dX9_aims_31 rfl ?_
      show zX shC σ 1 MX9_aims 34 [(0, zr 65), (1, zi x)] [] (zp (zp μ 66 (t) 10) 65 1 (nI (t + 1))) _
      refine zx_iload_n (k := 1) (nn := 35) dX9_aims_34 rfl rfl rfl ?_
      refine zx_aload_n (k := 0) (nn := 36) dX9_aims_35 rfl rfl rfl ?_
      refine zx_getI (nn := 39) flX9_22 rfl rfl dX9_aims_36 rfl ?_
      show zX shC σ 1 MX9_aims 39 [(0, zr 65), (1, zi x)] [zi (μ 65 4), zi x] (zp (zp μ 66 (t) 10) 65 1 (nI (t + 1))) _
      refine zx_iadd (nn := 40) dX9_aims_39 rfl ?_
      refine zx_istore_n (nn := 41) (lv' := [(2, zi (x + (μ 65 4))), (0, zr 65), (1, zi x)]) dX9_aims_40 rfl (by decide) rfl rfl ?_
      refine zx_aload_n (k := 1) (nn := 42) dX9_aims_41 rfl rfl rfl ?_
      refine zx_getI (nn := 45) flX9_15 rfl rfl dX9_aims_42 rfl ?_
      show zX shC σ 1 MX9_aims 45 [(2, zi (x + (μ 65 4))), (0, zr 65), (1, zi x)] [zi (μ 65 2)] (zp (zp μ 66 (t) 10) 65 1 (nI (t + 1))) _
      refine zx_iconst (v := 1) (nn := 46) rfl dX9_aims_45 rfl ?_
      refine zx_icmp_ne (tgt := 53) (nn := 49) dX9_aims_46 (by decide) rfl (fun h46 => ?_) (fun h46 => ?_)
      · refine zx_aload_n (k := 1) (nn := 54) dX9_aims_53 rfl rfl rfl ?_
        refine zx_getI (nn := 57) flX9_15 rfl rfl dX9_aims_54 rfl ?_
        show zX shC σ 1 MX9_aims 57 [(2, zi (x + (μ 65 4))), (0, zr 65), (1, zi x)] [zi (μ 65 2)] (zp (zp μ 66 (t) 10) 65 1 (nI (t + 1))) _
        refine zx_iconst (v := 3) (nn := 58) rfl dX9_aims_57 rfl ?_
        refine zx_icmp_ne (tgt := 67) (nn := 61) dX9_aims_58 (by decide) rfl (fun h58 => ?_) (fun h58 => ?_)
        · refine zx_iload_n (k := 0) (nn := 68) dX9_aims_67 rfl rfl rfl ?_
          refine zx_iret rfl dX9_aims_68 ?_
          exact ⟨by unfold pAimV; rw [if_neg h5, if_neg h19], by unfold pAimL; rw [if_neg h5, if_neg h19]; rfl⟩
        · exact absurd h58 h19
      · exact absurd h46 h5
    · refine zx_aload_n (k := 0) (nn := 23) dX9_aims_22 rfl rfl rfl ?_
      refine zx_bipush (v := 50) (nn := 25) rfl dX9_aims_23 rfl ?_
      refine zx_callVf (nn := 28) (k := 65) (d' := 0) (as := [zi 50]) (rest := []) (n := 1) (eX9_begin_65 σ μ 50 (t) ht (by omega)) kX9_begin mlX9_45 rfl rfl rfl (by decide) rfl rfl (Nat.le_of_ble_eq_true rfl) dX9_aims_25 rfl ?_
      show zX shC σ 1 MX9_aims 28 [(0, zr 65), (1, zi x)] [] (zp (zp μ 66 (t) 50) 65 1 (nI (t + 1))) _
      refine zx_aload_n (k := 0) (nn := 29) dX9_aims_28 rfl rfl rfl ?_
      refine zx_bipush (v := 10) (nn := 31) rfl dX9_aims_29 rfl ?_
      refine zx_callVf (nn := 34) (k := 65) (d' := 0) (as := [zi 10]) (rest := []) (n := 1) (eX9_begin_65 σ (zp (zp μ 66 (t) 50) 65 1 (nI (t + 1))) 10 (t + 1) (by rw [zp_eq]; exact pk_us) (by omega)) kX9_begin mlX9_45 rfl rfl rfl (by decide) rfl rfl (Nat.le_of_ble_eq_true rfl) dX9_aims_31 rfl ?_
      show zX shC σ 1 MX9_aims 34 [(0, zr 65), (1, zi x)] [] (zp (zp (zp (zp μ 66 (t) 50) 65 1 (nI (t + 1))) 66 (t + 1) 10) 65 1 (nI (t + 1 + 1))) _
      refine zx_iload_n (k := 1) (nn := 35) dX9_aims_34 rfl rfl rfl ?_
      refine zx_aload_n (k := 0) (nn := 36) dX9_aims_35 rfl rfl rfl ?_
      refine zx_getI (nn := 39) flX9_22 rfl rfl dX9_aims_36 rfl ?_
      show zX shC σ 1 MX9_aims 39 [(0, zr 65), (1, zi x)] [zi (μ 65 4), zi x] (zp (zp (zp (zp μ 66 (t) 50) 65 1 (nI (t + 1))) 66 (t + 1) 10) 65 1 (nI (t + 1 + 1))) _
      refine zx_iadd (nn := 40) dX9_aims_39 rfl ?_
      refine zx_istore_n (nn := 41) (lv' := [(2, zi (x + (μ 65 4))), (0, zr 65), (1, zi x)]) dX9_aims_40 rfl (by decide) rfl rfl ?_
      refine zx_aload_n (k := 1) (nn := 42) dX9_aims_41 rfl rfl rfl ?_
      refine zx_getI (nn := 45) flX9_15 rfl rfl dX9_aims_42 rfl ?_
      show zX shC σ 1 MX9_aims 45 [(2, zi (x + (μ 65 4))), (0, zr 65), (1, zi x)] [zi (μ 65 2)] (zp (zp (zp (zp μ 66 (t) 50) 65 1 (nI (t + 1))) 66 (t + 1) 10) 65 1 (nI (t + 1 + 1))) _
      refine zx_iconst (v := 1) (nn := 46) rfl dX9_aims_45 rfl ?_
      refine zx_icmp_ne (tgt := 53) (nn := 49) dX9_aims_46 (by decide) rfl (fun h46 => ?_) (fun h46 => ?_)
      · refine zx_aload_n (k := 1) (nn := 54) dX9_aims_53 rfl rfl rfl ?_
        refine zx_getI (nn := 57) flX9_15 rfl rfl dX9_aims_54 rfl ?_
        show zX shC σ 1 MX9_aims 57 [(2, zi (x + (μ 65 4))), (0, zr 65), (1, zi x)] [zi (μ 65 2)] (zp (zp (zp (zp μ 66 (t) 50) 65 1 (nI (t + 1))) 66 (t + 1) 10) 65 1 (nI (t + 1 + 1))) _
        refine zx_iconst (v := 3) (nn := 58) rfl dX9_aims_57 rfl ?_
        refine zx_icmp_ne (tgt := 67) (nn := 61) dX9_aims_58 (by decide) rfl (fun h58 => ?_) (fun h58 => ?_)
        · exact absurd h19 h58
        · refine zx_iload_n (k := 0) (nn := 62) dX9_aims_61 rfl rfl rfl ?_
          refine zx_iconst (v := 1) (nn := 63) rfl dX9_aims_62 rfl ?_
          refine zx_isub (nn := 64) dX9_aims_63 rfl ?_
          refine zx_goto (tgt := 68) dX9_aims_64 (by decide) ?_
          refine zx_iret rfl dX9_aims_68 ?_
          exact ⟨by unfold pAimV; rw [if_neg h5, if_pos h19], by unfold pAimL; rw [if_neg h5, if_pos h19]; rfl⟩
      · exact absurd h46 h5
  · refine zx_aload_n (k := 0) (nn := 9) dX9_aims_8 rfl rfl rfl ?_
    refine zx_bipush (v := 20) (nn := 11) rfl dX9_aims_9 rfl ?_
    refine zx_callVf (nn := 14) (k := 65) (d' := 0) (as := [zi 20]) (rest := []) (n := 1) (eX9_begin_65 σ μ 20 (t) ht (by omega)) kX9_begin mlX9_45 rfl rfl rfl (by decide) rfl rfl (Nat.le_of_ble_eq_true rfl) dX9_aims_11 rfl ?_
    show zX shC σ 1 MX9_aims 14 [(0, zr 65), (1, zi x)] [] (zp (zp μ 66 (t) 20) 65 1 (nI (t + 1))) _
    refine zx_aload_n (k := 0) (nn := 15) dX9_aims_14 rfl rfl rfl ?_
    refine zx_getI (nn := 18) flX9_15 rfl rfl dX9_aims_15 rfl ?_
    show zX shC σ 1 MX9_aims 18 [(0, zr 65), (1, zi x)] [zi (μ 65 2)] (zp (zp μ 66 (t) 20) 65 1 (nI (t + 1))) _
    refine zx_iconst (v := 3) (nn := 19) rfl dX9_aims_18 rfl ?_
    refine zx_icmp_ne (tgt := 28) (nn := 22) dX9_aims_19 (by decide) rfl (fun h19 => ?_) (fun h19 => ?_)
    · refine zx_aload_n (k := 0) (nn := 29) dX9_aims_28 rfl rfl rfl ?_
      refine zx_bipush (v := 10) (nn := 31) rfl dX9_aims_29 rfl ?_
      refine zx_callVf (nn := 34) (k := 65) (d' := 0) (as := [zi 10]) (rest := []) (n := 1) (eX9_begin_65 σ (zp (zp μ 66 (t) 20) 65 1 (nI (t + 1))) 10 (t + 1) (by rw [zp_eq]; exact pk_us) (by omega)) kX9_begin mlX9_45 rfl rfl rfl (by decide) rfl rfl (Nat.le_of_ble_eq_true rfl) dX9_aims_31 rfl ?_
      show zX shC σ 1 MX9_aims 34 [(0, zr 65), (1, zi x)] [] (zp (zp (zp (zp μ 66 (t) 20) 65 1 (nI (t + 1))) 66 (t + 1) 10) 65 1 (nI (t + 1 + 1))) _
      refine zx_iload_n (k := 1) (nn := 35) dX9_aims_34 rfl rfl rfl ?_
      refine zx_aload_n (k := 0) (nn := 36) dX9_aims_35 rfl rfl rfl ?_
      refine zx_getI (nn := 39) flX9_22 rfl rfl dX9_aims_36 rfl ?_
      show zX shC σ 1 MX9_aims 39 [(0, zr 65), (1, zi x)] [zi (μ 65 4), zi x] (zp (zp (zp (zp μ 66 (t) 20) 65 1 (nI (t + 1))) 66 (t + 1) 10) 65 1 (nI (t + 1 + 1))) _
      refine zx_iadd (nn := 40) dX9_aims_39 rfl ?_
      refine zx_istore_n (nn := 41) (lv' := [(2, zi (x + (μ 65 4))), (0, zr 65), (1, zi x)]) dX9_aims_40 rfl (by decide) rfl rfl ?_
      refine zx_aload_n (k := 1) (nn := 42) dX9_aims_41 rfl rfl rfl ?_
      refine zx_getI (nn := 45) flX9_15 rfl rfl dX9_aims_42 rfl ?_
      show zX shC σ 1 MX9_aims 45 [(2, zi (x + (μ 65 4))), (0, zr 65), (1, zi x)] [zi (μ 65 2)] (zp (zp (zp (zp μ 66 (t) 20) 65 1 (nI (t + 1))) 66 (t + 1) 10) 65 1 (nI (t + 1 + 1))) _
      refine zx_iconst (v := 1) (nn := 46) rfl dX9_aims_45 rfl ?_
      refine zx_icmp_ne (tgt := 53) (nn := 49) dX9_aims_46 (by decide) rfl (fun h46 => ?_) (fun h46 => ?_)
      · exact absurd h5 h46
      · refine zx_iload_n (k := 0) (nn := 50) dX9_aims_49 rfl rfl rfl ?_
        refine zx_iconst (v := 2) (nn := 51) rfl dX9_aims_50 rfl ?_
        refine zx_imul (nn := 52) dX9_aims_51 rfl ?_
        refine zx_iret rfl dX9_aims_52 ?_
        exact ⟨by unfold pAimV; rw [if_pos h5], by unfold pAimL; rw [h5]; rfl⟩
    · exact absurd (h5.symm.trans h19) (by decide)
set_option maxHeartbeats 4000000 in
set_option maxRecDepth 100000 in
theorem eX9_swings_65 (σ : zG) (μ : zM) (x : Int32) (t : Nat) (ht : μ 65 1 = nI t) (hl : t ≤ 22) : zMet shC σ 2 MX9_swings yX9_swings [zr 65, zi x] μ (fun rr μ' => rr = some (zi (pSwV (μ 65 2) (μ 65 3) (μ 65 4) x)) ∧ μ' = pPush 65 1 66 μ t (pSwL (μ 65 2))) := by
  refine zmetF (by decide +kernel) rfl (Nat.le_of_ble_eq_true rfl) ?_
  show zX shC σ 2 MX9_swings 0 [(0, zr 65), (1, zi x)] [] μ _
  refine zx_aload_n (k := 0) (nn := 1) dX9_swings_0 rfl rfl rfl ?_
  refine zx_getI (nn := 4) flX9_15 rfl rfl dX9_swings_1 rfl ?_
  refine zx_iconst (v := 2) (nn := 5) rfl dX9_swings_4 rfl ?_
  refine zx_icmp_eq (tgt := 16) (nn := 8) dX9_swings_5 (by decide) rfl (fun h5 => ?_) (fun h5 => ?_)
  · refine zx_iconst (v := 1) (nn := 17) rfl dX9_swings_16 rfl ?_
    refine zx_goto (tgt := 21) dX9_swings_17 (by decide) ?_
    refine zx_istore_n (nn := 22) (lv' := [(2, zi 1), (0, zr 65), (1, zi x)]) dX9_swings_21 rfl (by decide) rfl rfl ?_
    refine zx_iload_n (k := 0) (nn := 23) dX9_swings_22 rfl rfl rfl ?_
    refine zx_if_eq (tgt := 32) (nn := 26) dX9_swings_23 (by decide) rfl (fun h23 => ?_) (fun h23 => ?_)
    · exact absurd h23 (by decide)
    · refine zx_aload_n (k := 1) (nn := 27) dX9_swings_26 rfl rfl rfl ?_
      refine zx_bipush (v := 30) (nn := 29) rfl dX9_swings_27 rfl ?_
      refine zx_callVf (nn := 32) (k := 65) (d' := 0) (as := [zi 30]) (rest := []) (n := 1) (eX9_begin_65 σ μ 30 (t) ht (by omega)) kX9_begin mlX9_45 rfl rfl rfl (by decide) rfl rfl (Nat.le_of_ble_eq_true rfl) dX9_swings_29 rfl ?_
      show zX shC σ 2 MX9_swings 32 [(2, zi 1), (0, zr 65), (1, zi x)] [] (zp (zp μ 66 (t) 30) 65 1 (nI (t + 1))) _
      refine zx_aload_n (k := 1) (nn := 33) dX9_swings_32 rfl rfl rfl ?_
      refine zx_getI (nn := 36) flX9_15 rfl rfl dX9_swings_33 rfl ?_
      show zX shC σ 2 MX9_swings 36 [(2, zi 1), (0, zr 65), (1, zi x)] [zi (μ 65 2)] (zp (zp μ 66 (t) 30) 65 1 (nI (t + 1))) _
      refine zx_iconst (v := 5) (nn := 37) rfl dX9_swings_36 rfl ?_
      refine zx_icmp_ne (tgt := 46) (nn := 40) dX9_swings_37 (by decide) rfl (fun h37 => ?_) (fun h37 => ?_)
      · refine zx_aload_n (k := 1) (nn := 47) dX9_swings_46 rfl rfl rfl ?_
        refine zx_bipush (v := 11) (nn := 49) rfl dX9_swings_47 rfl ?_
        refine zx_callVf (nn := 52) (k := 65) (d' := 0) (as := [zi 11]) (rest := []) (n := 1) (eX9_begin_65 σ (zp (zp μ 66 (t) 30) 65 1 (nI (t + 1))) 11 (t + 1) (by rw [zp_eq]; exact pk_us) (by omega)) kX9_begin mlX9_45 rfl rfl rfl (by decide) rfl rfl (Nat.le_of_ble_eq_true rfl) dX9_swings_49 rfl ?_
        show zX shC σ 2 MX9_swings 52 [(2, zi 1), (0, zr 65), (1, zi x)] [] (zp (zp (zp (zp μ 66 (t) 30) 65 1 (nI (t + 1))) 66 (t + 1) 11) 65 1 (nI (t + 1 + 1))) _
        refine zx_aload_n (k := 1) (nn := 53) dX9_swings_52 rfl rfl rfl ?_
        refine zx_iload_n (k := 2) (nn := 54) dX9_swings_53 rfl rfl rfl ?_
        refine zx_callV (nn := 57) (k := 65) (d' := 1) (as := [zi x]) (rest := []) (n := 1) (eX9_aims_65 σ (zp (zp (zp (zp μ 66 (t) 30) 65 1 (nI (t + 1))) 66 (t + 1) 11) 65 1 (nI (t + 1 + 1))) x (t + 1 + 1) (by rw [zp_eq]; exact pk_us) (by omega)) kX9_aims mlX9_29 rfl rfl rfl (by decide) rfl rfl (Nat.le_of_ble_eq_true rfl) dX9_swings_54 rfl ?_
        rintro _ ν1 ⟨rfl, q1⟩
        show zX shC σ 2 MX9_swings 57 [(2, zi 1), (0, zr 65), (1, zi x)] [zi (pAimV (μ 65 2) (μ 65 4) x)] ν1 _
        have f2 : ν1 65 2 = μ 65 2 := by rw [q1, pPush_o (by decide) (Or.inr (by decide))]; rfl
        have f3 : ν1 65 3 = μ 65 3 := by rw [q1, pPush_o (by decide) (Or.inr (by decide))]; rfl
        refine zx_aload_n (k := 1) (nn := 58) dX9_swings_57 rfl rfl rfl ?_
        refine zx_getI (nn := 61) flX9_19 rfl rfl dX9_swings_58 rfl ?_
        rw [f3]
        show zX shC σ 2 MX9_swings 61 [(2, zi 1), (0, zr 65), (1, zi x)] [zi (μ 65 3), zi (pAimV (μ 65 2) (μ 65 4) x)] ν1 _
        refine zx_isub (nn := 62) dX9_swings_61 rfl ?_
        refine zx_istore_n (nn := 63) (lv' := [(3, zi ((pAimV (μ 65 2) (μ 65 4) x) - (μ 65 3))), (2, zi 1), (0, zr 65), (1, zi x)]) dX9_swings_62 rfl (by decide) rfl rfl ?_
        refine zx_iload_n (k := 1) (nn := 64) dX9_swings_63 rfl rfl rfl ?_
        refine zx_if_eq (tgt := 74) (nn := 67) dX9_swings_64 (by decide) rfl (fun h64 => ?_) (fun h64 => ?_)
        · exact absurd h64 (by decide)
        · refine zx_iload_n (k := 0) (nn := 68) dX9_swings_67 rfl rfl rfl ?_
          refine zx_aload_n (k := 2) (nn := 69) dX9_swings_68 rfl rfl rfl ?_
          refine zx_getI (nn := 72) flX9_19 rfl rfl dX9_swings_69 rfl ?_
          rw [f3]
          show zX shC σ 2 MX9_swings 72 [(3, zi ((pAimV (μ 65 2) (μ 65 4) x) - (μ 65 3))), (2, zi 1), (0, zr 65), (1, zi x)] [zi (μ 65 3), zi ((pAimV (μ 65 2) (μ 65 4) x) - (μ 65 3))] ν1 _
          refine zx_ixor (nn := 73) dX9_swings_72 rfl ?_
          refine zx_iret rfl dX9_swings_73 ?_
          have hc : μ 65 2 = 2 ∨ μ 65 2 = 3 := (Or.inl h5)
          exact ⟨by unfold pSwV; rw [if_pos hc], by rw [q1]; unfold pSwL; rw [if_pos hc, if_neg (by rw [h5]; decide)]; rfl⟩
      · exact absurd (h5.symm.trans h37) (by decide)
  · refine zx_aload_n (k := 0) (nn := 9) dX9_swings_8 rfl rfl rfl ?_
    refine zx_getI (nn := 12) flX9_15 rfl rfl dX9_swings_9 rfl ?_
    refine zx_iconst (v := 3) (nn := 13) rfl dX9_swings_12 rfl ?_
    refine zx_icmp_ne (tgt := 20) (nn := 16) dX9_swings_13 (by decide) rfl (fun h13 => ?_) (fun h13 => ?_)
    · refine zx_iconst (v := 0) (nn := 21) rfl dX9_swings_20 rfl ?_
      refine zx_istore_n (nn := 22) (lv' := [(2, zi 0), (0, zr 65), (1, zi x)]) dX9_swings_21 rfl (by decide) rfl rfl ?_
      refine zx_iload_n (k := 0) (nn := 23) dX9_swings_22 rfl rfl rfl ?_
      refine zx_if_eq (tgt := 32) (nn := 26) dX9_swings_23 (by decide) rfl (fun h23 => ?_) (fun h23 => ?_)
      · refine zx_aload_n (k := 1) (nn := 33) dX9_swings_32 rfl rfl rfl ?_
        refine zx_getI (nn := 36) flX9_15 rfl rfl dX9_swings_33 rfl ?_
        refine zx_iconst (v := 5) (nn := 37) rfl dX9_swings_36 rfl ?_
        refine zx_icmp_ne (tgt := 46) (nn := 40) dX9_swings_37 (by decide) rfl (fun h37 => ?_) (fun h37 => ?_)
        · refine zx_aload_n (k := 1) (nn := 47) dX9_swings_46 rfl rfl rfl ?_
          refine zx_bipush (v := 11) (nn := 49) rfl dX9_swings_47 rfl ?_
          refine zx_callVf (nn := 52) (k := 65) (d' := 0) (as := [zi 11]) (rest := []) (n := 1) (eX9_begin_65 σ μ 11 (t) ht (by omega)) kX9_begin mlX9_45 rfl rfl rfl (by decide) rfl rfl (Nat.le_of_ble_eq_true rfl) dX9_swings_49 rfl ?_
          show zX shC σ 2 MX9_swings 52 [(2, zi 0), (0, zr 65), (1, zi x)] [] (zp (zp μ 66 (t) 11) 65 1 (nI (t + 1))) _
          refine zx_aload_n (k := 1) (nn := 53) dX9_swings_52 rfl rfl rfl ?_
          refine zx_iload_n (k := 2) (nn := 54) dX9_swings_53 rfl rfl rfl ?_
          refine zx_callV (nn := 57) (k := 65) (d' := 1) (as := [zi x]) (rest := []) (n := 1) (eX9_aims_65 σ (zp (zp μ 66 (t) 11) 65 1 (nI (t + 1))) x (t + 1) (by rw [zp_eq]; exact pk_us) (by omega)) kX9_aims mlX9_29 rfl rfl rfl (by decide) rfl rfl (Nat.le_of_ble_eq_true rfl) dX9_swings_54 rfl ?_
          rintro _ ν2 ⟨rfl, q1⟩
          show zX shC σ 2 MX9_swings 57 [(2, zi 0), (0, zr 65), (1, zi x)] [zi (pAimV (μ 65 2) (μ 65 4) x)] ν2 _
          have f2 : ν2 65 2 = μ 65 2 := by rw [q1, pPush_o (by decide) (Or.inr (by decide))]; rfl
          have f3 : ν2 65 3 = μ 65 3 := by rw [q1, pPush_o (by decide) (Or.inr (by decide))]; rfl
          refine zx_aload_n (k := 1) (nn := 58) dX9_swings_57 rfl rfl rfl ?_
          refine zx_getI (nn := 61) flX9_19 rfl rfl dX9_swings_58 rfl ?_
          rw [f3]
          show zX shC σ 2 MX9_swings 61 [(2, zi 0), (0, zr 65), (1, zi x)] [zi (μ 65 3), zi (pAimV (μ 65 2) (μ 65 4) x)] ν2 _
          refine zx_isub (nn := 62) dX9_swings_61 rfl ?_
          refine zx_istore_n (nn := 63) (lv' := [(3, zi ((pAimV (μ 65 2) (μ 65 4) x) - (μ 65 3))), (2, zi 0), (0, zr 65), (1, zi x)]) dX9_swings_62 rfl (by decide) rfl rfl ?_
          refine zx_iload_n (k := 1) (nn := 64) dX9_swings_63 rfl rfl rfl ?_
          refine zx_if_eq (tgt := 74) (nn := 67) dX9_swings_64 (by decide) rfl (fun h64 => ?_) (fun h64 => ?_)
          · refine zx_aload_n (k := 2) (nn := 75) dX9_swings_74 rfl rfl rfl ?_
            refine zx_getI (nn := 78) flX9_15 rfl rfl dX9_swings_75 rfl ?_
            rw [f2]
            show zX shC σ 2 MX9_swings 78 [(3, zi ((pAimV (μ 65 2) (μ 65 4) x) - (μ 65 3))), (2, zi 0), (0, zr 65), (1, zi x)] [zi (μ 65 2)] ν2 _
            refine zx_iconst (v := 5) (nn := 79) rfl dX9_swings_78 rfl ?_
            refine zx_icmp_ne (tgt := 88) (nn := 82) dX9_swings_79 (by decide) rfl (fun h79 => ?_) (fun h79 => ?_)
            · refine zx_iload_n (k := 0) (nn := 89) dX9_swings_88 rfl rfl rfl ?_
              refine zx_iret rfl dX9_swings_89 ?_
              have hc : ¬ (μ 65 2 = 2 ∨ μ 65 2 = 3) := fun q => q.elim h5 h13
              exact ⟨by unfold pSwV; rw [if_neg hc, if_neg h37], by rw [q1]; unfold pSwL; rw [if_neg hc, if_neg h37]; rfl⟩
            · exact absurd h79 h37
          · exact absurd h64 (by decide)
        · refine zx_aload_n (k := 1) (nn := 41) dX9_swings_40 rfl rfl rfl ?_
          refine zx_bipush (v := 60) (nn := 43) rfl dX9_swings_41 rfl ?_
          refine zx_callVf (nn := 46) (k := 65) (d' := 0) (as := [zi 60]) (rest := []) (n := 1) (eX9_begin_65 σ μ 60 (t) ht (by omega)) kX9_begin mlX9_45 rfl rfl rfl (by decide) rfl rfl (Nat.le_of_ble_eq_true rfl) dX9_swings_43 rfl ?_
          show zX shC σ 2 MX9_swings 46 [(2, zi 0), (0, zr 65), (1, zi x)] [] (zp (zp μ 66 (t) 60) 65 1 (nI (t + 1))) _
          refine zx_aload_n (k := 1) (nn := 47) dX9_swings_46 rfl rfl rfl ?_
          refine zx_bipush (v := 11) (nn := 49) rfl dX9_swings_47 rfl ?_
          refine zx_callVf (nn := 52) (k := 65) (d' := 0) (as := [zi 11]) (rest := []) (n := 1) (eX9_begin_65 σ (zp (zp μ 66 (t) 60) 65 1 (nI (t + 1))) 11 (t + 1) (by rw [zp_eq]; exact pk_us) (by omega)) kX9_begin mlX9_45 rfl rfl rfl (by decide) rfl rfl (Nat.le_of_ble_eq_true rfl) dX9_swings_49 rfl ?_
          show zX shC σ 2 MX9_swings 52 [(2, zi 0), (0, zr 65), (1, zi x)] [] (zp (zp (zp (zp μ 66 (t) 60) 65 1 (nI (t + 1))) 66 (t + 1) 11) 65 1 (nI (t + 1 + 1))) _
          refine zx_aload_n (k := 1) (nn := 53) dX9_swings_52 rfl rfl rfl ?_
          refine zx_iload_n (k := 2) (nn := 54) dX9_swings_53 rfl rfl rfl ?_
          refine zx_callV (nn := 57) (k := 65) (d' := 1) (as := [zi x]) (rest := []) (n := 1) (eX9_aims_65 σ (zp (zp (zp (zp μ 66 (t) 60) 65 1 (nI (t + 1))) 66 (t + 1) 11) 65 1 (nI (t + 1 + 1))) x (t + 1 + 1) (by rw [zp_eq]; exact pk_us) (by omega)) kX9_aims mlX9_29 rfl rfl rfl (by decide) rfl rfl (Nat.le_of_ble_eq_true rfl) dX9_swings_54 rfl ?_
          rintro _ ν3 ⟨rfl, q1⟩
          show zX shC σ 2 MX9_swings 57 [(2, zi 0), (0, zr 65), (1, zi x)] [zi (pAimV (μ 65 2) (μ 65 4) x)] ν3 _
          have f2 : ν3 65 2 = μ 65 2 := by rw [q1, pPush_o (by decide) (Or.inr (by decide))]; rfl
          have f3 : ν3 65 3 = μ 65 3 := by rw [q1, pPush_o (by decide) (Or.inr (by decide))]; rfl
          refine zx_aload_n (k := 1) (nn := 58) dX9_swings_57 rfl rfl rfl ?_
          refine zx_getI (nn := 61) flX9_19 rfl rfl dX9_swings_58 rfl ?_
          rw [f3]
          show zX shC σ 2 MX9_swings 61 [(2, zi 0), (0, zr 65), (1, zi x)] [zi (μ 65 3), zi (pAimV (μ 65 2) (μ 65 4) x)] ν3 _
          refine zx_isub (nn := 62) dX9_swings_61 rfl ?_
          refine zx_istore_n (nn := 63) (lv' := [(3, zi ((pAimV (μ 65 2) (μ 65 4) x) - (μ 65 3))), (2, zi 0), (0, zr 65), (1, zi x)]) dX9_swings_62 rfl (by decide) rfl rfl ?_
          refine zx_iload_n (k := 1) (nn := 64) dX9_swings_63 rfl rfl rfl ?_
          refine zx_if_eq (tgt := 74) (nn := 67) dX9_swings_64 (by decide) rfl (fun h64 => ?_) (fun h64 => ?_)
          · refine zx_aload_n (k := 2) (nn := 75) dX9_swings_74 rfl rfl rfl ?_
            refine zx_getI (nn := 78) flX9_15 rfl rfl dX9_swings_75 rfl ?_
            rw [f2]
            show zX shC σ 2 MX9_swings 78 [(3, zi ((pAimV (μ 65 2) (μ 65 4) x) - (μ 65 3))), (2, zi 0), (0, zr 65), (1, zi x)] [zi (μ 65 2)] ν3 _
            refine zx_iconst (v := 5) (nn := 79) rfl dX9_swings_78 rfl ?_
            refine zx_icmp_ne (tgt := 88) (nn := 82) dX9_swings_79 (by decide) rfl (fun h79 => ?_) (fun h79 => ?_)
            · exact absurd h37 h79
            · refine zx_iconst (v := 0) (nn := 83) rfl dX9_swings_82 rfl ?_
              refine zx_iload_n (k := 0) (nn := 84) dX9_swings_83 rfl rfl rfl ?_
              refine zx_isub (nn := 85) dX9_swings_84 rfl ?_
              refine zx_goto (tgt := 89) dX9_swings_85 (by decide) ?_
              refine zx_iret rfl dX9_swings_89 ?_
              have hc : ¬ (μ 65 2 = 2 ∨ μ 65 2 = 3) := fun q => q.elim h5 h13
              exact ⟨by unfold pSwV; rw [if_neg hc, if_pos h37], by rw [q1]; unfold pSwL; rw [if_neg hc, if_pos h37]; rfl⟩
          · exact absurd h64 (by decide)
      · exact absurd h23 (by decide)
    · refine zx_iconst (v := 1) (nn := 17) rfl dX9_swings_16 rfl ?_
      refine zx_goto (tgt := 21) dX9_swings_17 (by decide) ?_
      refine zx_istore_n (nn := 22) (lv' := [(2, zi 1), (0, zr 65), (1, zi x)]) dX9_swings_21 rfl (by decide) rfl rfl ?_
      refine zx_iload_n (k := 0) (nn := 23) dX9_swings_22 rfl rfl rfl ?_
      refine zx_if_eq (tgt := 32) (nn := 26) dX9_swings_23 (by decide) rfl (fun h23 => ?_) (fun h23 => ?_)
      · exact absurd h23 (by decide)
      · refine zx_aload_n (k := 1) (nn := 27) dX9_swings_26 rfl rfl rfl ?_
        refine zx_bipush (v := 30) (nn := 29) rfl dX9_swings_27 rfl ?_
        refine zx_callVf (nn := 32) (k := 65) (d' := 0) (as := [zi 30]) (rest := []) (n := 1) (eX9_begin_65 σ μ 30 (t) ht (by omega)) kX9_begin mlX9_45 rfl rfl rfl (by decide) rfl rfl (Nat.le_of_ble_eq_true rfl) dX9_swings_29 rfl ?_
        show zX shC σ 2 MX9_swings 32 [(2, zi 1), (0, zr 65), (1, zi x)] [] (zp (zp μ 66 (t) 30) 65 1 (nI (t + 1))) _
        refine zx_aload_n (k := 1) (nn := 33) dX9_swings_32 rfl rfl rfl ?_
        refine zx_getI (nn := 36) flX9_15 rfl rfl dX9_swings_33 rfl ?_
        show zX shC σ 2 MX9_swings 36 [(2, zi 1), (0, zr 65), (1, zi x)] [zi (μ 65 2)] (zp (zp μ 66 (t) 30) 65 1 (nI (t + 1))) _
        refine zx_iconst (v := 5) (nn := 37) rfl dX9_swings_36 rfl ?_
        refine zx_icmp_ne (tgt := 46) (nn := 40) dX9_swings_37 (by decide) rfl (fun h37 => ?_) (fun h37 => ?_)
        · refine zx_aload_n (k := 1) (nn := 47) dX9_swings_46 rfl rfl rfl ?_
          refine zx_bipush (v := 11) (nn := 49) rfl dX9_swings_47 rfl ?_
          refine zx_callVf (nn := 52) (k := 65) (d' := 0) (as := [zi 11]) (rest := []) (n := 1) (eX9_begin_65 σ (zp (zp μ 66 (t) 30) 65 1 (nI (t + 1))) 11 (t + 1) (by rw [zp_eq]; exact pk_us) (by omega)) kX9_begin mlX9_45 rfl rfl rfl (by decide) rfl rfl (Nat.le_of_ble_eq_true rfl) dX9_swings_49 rfl ?_
          show zX shC σ 2 MX9_swings 52 [(2, zi 1), (0, zr 65), (1, zi x)] [] (zp (zp (zp (zp μ 66 (t) 30) 65 1 (nI (t + 1))) 66 (t + 1) 11) 65 1 (nI (t + 1 + 1))) _
          refine zx_aload_n (k := 1) (nn := 53) dX9_swings_52 rfl rfl rfl ?_
          refine zx_iload_n (k := 2) (nn := 54) dX9_swings_53 rfl rfl rfl ?_
          refine zx_callV (nn := 57) (k := 65) (d' := 1) (as := [zi x]) (rest := []) (n := 1) (eX9_aims_65 σ (zp (zp (zp (zp μ 66 (t) 30) 65 1 (nI (t + 1))) 66 (t + 1) 11) 65 1 (nI (t + 1 + 1))) x (t + 1 + 1) (by rw [zp_eq]; exact pk_us) (by omega)) kX9_aims mlX9_29 rfl rfl rfl (by decide) rfl rfl (Nat.le_of_ble_eq_true rfl) dX9_swings_54 rfl ?_
          rintro _ ν4 ⟨rfl, q1⟩
          show zX shC σ 2 MX9_swings 57 [(2, zi 1), (0, zr 65), (1, zi x)] [zi (pAimV (μ 65 2) (μ 65 4) x)] ν4 _
          have f2 : ν4 65 2 = μ 65 2 := by rw [q1, pPush_o (by decide) (Or.inr (by decide))]; rfl
          have f3 : ν4 65 3 = μ 65 3 := by rw [q1, pPush_o (by decide) (Or.inr (by decide))]; rfl
          refine zx_aload_n (k := 1) (nn := 58) dX9_swings_57 rfl rfl rfl ?_
          refine zx_getI (nn := 61) flX9_19 rfl rfl dX9_swings_58 rfl ?_
          rw [f3]
          show zX shC σ 2 MX9_swings 61 [(2, zi 1), (0, zr 65), (1, zi x)] [zi (μ 65 3), zi (pAimV (μ 65 2) (μ 65 4) x)] ν4 _
          refine zx_isub (nn := 62) dX9_swings_61 rfl ?_
          refine zx_istore_n (nn := 63) (lv' := [(3, zi ((pAimV (μ 65 2) (μ 65 4) x) - (μ 65 3))), (2, zi 1), (0, zr 65), (1, zi x)]) dX9_swings_62 rfl (by decide) rfl rfl ?_
          refine zx_iload_n (k := 1) (nn := 64) dX9_swings_63 rfl rfl rfl ?_
          refine zx_if_eq (tgt := 74) (nn := 67) dX9_swings_64 (by decide) rfl (fun h64 => ?_) (fun h64 => ?_)
          · exact absurd h64 (by decide)
          · refine zx_iload_n (k := 0) (nn := 68) dX9_swings_67 rfl rfl rfl ?_
            refine zx_aload_n (k := 2) (nn := 69) dX9_swings_68 rfl rfl rfl ?_
            refine zx_getI (nn := 72) flX9_19 rfl rfl dX9_swings_69 rfl ?_
            rw [f3]
            show zX shC σ 2 MX9_swings 72 [(3, zi ((pAimV (μ 65 2) (μ 65 4) x) - (μ 65 3))), (2, zi 1), (0, zr 65), (1, zi x)] [zi (μ 65 3), zi ((pAimV (μ 65 2) (μ 65 4) x) - (μ 65 3))] ν4 _
            refine zx_ixor (nn := 73) dX9_swings_72 rfl ?_
            refine zx_iret rfl dX9_swings_73 ?_
            have hc : μ 65 2 = 2 ∨ μ 65 2 = 3 := (Or.inr h13)
            exact ⟨by unfold pSwV; rw [if_pos hc], by rw [q1]; unfold pSwL; rw [if_pos hc, if_neg (by rw [h13]; decide)]; rfl⟩
        · exact absurd (h13.symm.trans h37) (by decide)
set_option maxHeartbeats 4000000 in
set_option maxRecDepth 100000 in
theorem eX9_dims_65 (σ : zG) (μ : zM) (x : Int32) (t : Nat) (ht : μ 65 1 = nI t) (hl : t ≤ 22) : zMet shC σ 2 MX9_dims yX9_dims [zr 65, zi x] μ (fun rr μ' => rr = some (zi (pDimV (μ 65 2) (μ 65 3) (μ 65 4) x)) ∧ μ' = if μ 65 4 = μ 65 3 then zp (pPush 65 1 66 μ t (pDimL (μ 65 2) (μ 65 3) (μ 65 4))) 65 5 1 else pPush 65 1 66 μ t (pDimL (μ 65 2) (μ 65 3) (μ 65 4))) := by
  refine zmetF (by decide +kernel) rfl (Nat.le_of_ble_eq_true rfl) ?_
  show zX shC σ 2 MX9_dims 0 [(0, zr 65), (1, zi x)] [] μ _
  refine zx_aload_n (k := 0) (nn := 1) dX9_dims_0 rfl rfl rfl ?_
  refine zx_getI (nn := 4) flX9_15 rfl rfl dX9_dims_1 rfl ?_
  refine zx_iconst (v := 4) (nn := 5) rfl dX9_dims_4 rfl ?_
  refine zx_icmp_eq (tgt := 16) (nn := 8) dX9_dims_5 (by decide) rfl (fun h5 => ?_) (fun h5 => ?_)
  · refine zx_iconst (v := 1) (nn := 17) rfl dX9_dims_16 rfl ?_
    refine zx_goto (tgt := 21) dX9_dims_17 (by decide) ?_
    refine zx_istore_n (nn := 22) (lv' := [(2, zi 1), (0, zr 65), (1, zi x)]) dX9_dims_21 rfl (by decide) rfl rfl ?_
    refine zx_aload_n (k := 1) (nn := 23) dX9_dims_22 rfl rfl rfl ?_
    refine zx_getI (nn := 26) flX9_15 rfl rfl dX9_dims_23 rfl ?_
    refine zx_iconst (v := 5) (nn := 27) rfl dX9_dims_26 rfl ?_
    refine zx_icmp_ne (tgt := 36) (nn := 30) dX9_dims_27 (by decide) rfl (fun h27 => ?_) (fun h27 => ?_)
    · refine zx_iload_n (k := 0) (nn := 37) dX9_dims_36 rfl rfl rfl ?_
      refine zx_if_eq (tgt := 46) (nn := 40) dX9_dims_37 (by decide) rfl (fun h37 => ?_) (fun h37 => ?_)
      · exact absurd h37 (by decide)
      · refine zx_aload_n (k := 1) (nn := 41) dX9_dims_40 rfl rfl rfl ?_
        refine zx_bipush (v := 40) (nn := 43) rfl dX9_dims_41 rfl ?_
        refine zx_callVf (nn := 46) (k := 65) (d' := 0) (as := [zi 40]) (rest := []) (n := 1) (eX9_begin_65 σ μ 40 (t) ht (by omega)) kX9_begin mlX9_45 rfl rfl rfl (by decide) rfl rfl (Nat.le_of_ble_eq_true rfl) dX9_dims_43 rfl ?_
        show zX shC σ 2 MX9_dims 46 [(2, zi 1), (0, zr 65), (1, zi x)] [] (zp (zp μ 66 (t) 40) 65 1 (nI (t + 1))) _
        refine zx_aload_n (k := 1) (nn := 47) dX9_dims_46 rfl rfl rfl ?_
        refine zx_bipush (v := 12) (nn := 49) rfl dX9_dims_47 rfl ?_
        refine zx_callVf (nn := 52) (k := 65) (d' := 0) (as := [zi 12]) (rest := []) (n := 1) (eX9_begin_65 σ (zp (zp μ 66 (t) 40) 65 1 (nI (t + 1))) 12 (t + 1) (by rw [zp_eq]; exact pk_us) (by omega)) kX9_begin mlX9_45 rfl rfl rfl (by decide) rfl rfl (Nat.le_of_ble_eq_true rfl) dX9_dims_49 rfl ?_
        show zX shC σ 2 MX9_dims 52 [(2, zi 1), (0, zr 65), (1, zi x)] [] (zp (zp (zp (zp μ 66 (t) 40) 65 1 (nI (t + 1))) 66 (t + 1) 12) 65 1 (nI (t + 1 + 1))) _
        refine zx_aload_n (k := 1) (nn := 53) dX9_dims_52 rfl rfl rfl ?_
        refine zx_getI (nn := 56) flX9_22 rfl rfl dX9_dims_53 rfl ?_
        show zX shC σ 2 MX9_dims 56 [(2, zi 1), (0, zr 65), (1, zi x)] [zi (μ 65 4)] (zp (zp (zp (zp μ 66 (t) 40) 65 1 (nI (t + 1))) 66 (t + 1) 12) 65 1 (nI (t + 1 + 1))) _
        refine zx_aload_n (k := 1) (nn := 57) dX9_dims_56 rfl rfl rfl ?_
        refine zx_getI (nn := 60) flX9_19 rfl rfl dX9_dims_57 rfl ?_
        show zX shC σ 2 MX9_dims 60 [(2, zi 1), (0, zr 65), (1, zi x)] [zi (μ 65 3), zi (μ 65 4)] (zp (zp (zp (zp μ 66 (t) 40) 65 1 (nI (t + 1))) 66 (t + 1) 12) 65 1 (nI (t + 1 + 1))) _
        refine zx_icmp_ne (tgt := 70) (nn := 63) dX9_dims_60 (by decide) rfl (fun h60 => ?_) (fun h60 => ?_)
        · refine zx_iload_n (k := 0) (nn := 71) dX9_dims_70 rfl rfl rfl ?_
          refine zx_if_eq (tgt := 80) (nn := 74) dX9_dims_71 (by decide) rfl (fun h71 => ?_) (fun h71 => ?_)
          · exact absurd h71 (by decide)
          · refine zx_iload_n (k := 2) (nn := 75) dX9_dims_74 rfl rfl rfl ?_
            refine zx_iconst (v := 3) (nn := 76) rfl dX9_dims_75 rfl ?_
            refine zx_isub (nn := 77) dX9_dims_76 rfl ?_
            refine zx_goto (tgt := 81) dX9_dims_77 (by decide) ?_
            refine zx_aload_n (k := 1) (nn := 82) dX9_dims_81 rfl rfl rfl ?_
            refine zx_getI (nn := 85) flX9_22 rfl rfl dX9_dims_82 rfl ?_
            show zX shC σ 2 MX9_dims 85 [(2, zi 1), (0, zr 65), (1, zi x)] [zi (μ 65 4), zi (x - 3)] (zp (zp (zp (zp μ 66 (t) 40) 65 1 (nI (t + 1))) 66 (t + 1) 12) 65 1 (nI (t + 1 + 1))) _
            refine zx_aload_n (k := 1) (nn := 86) dX9_dims_85 rfl rfl rfl ?_
            refine zx_getI (nn := 89) flX9_19 rfl rfl dX9_dims_86 rfl ?_
            show zX shC σ 2 MX9_dims 89 [(2, zi 1), (0, zr 65), (1, zi x)] [zi (μ 65 3), zi (μ 65 4), zi (x - 3)] (zp (zp (zp (zp μ 66 (t) 40) 65 1 (nI (t + 1))) 66 (t + 1) 12) 65 1 (nI (t + 1 + 1))) _
            refine zx_isub (nn := 90) dX9_dims_89 rfl ?_
            refine zx_idiv (nn := 91) (zsub_ne h60) dX9_dims_90 rfl ?_
            refine zx_istore_n (nn := 92) (lv' := [(3, zi ((x - 3) / ((μ 65 4) - (μ 65 3)))), (2, zi 1), (0, zr 65), (1, zi x)]) dX9_dims_91 rfl (by decide) rfl rfl ?_
            refine zx_aload_n (k := 2) (nn := 93) dX9_dims_92 rfl rfl rfl ?_
            refine zx_getI (nn := 96) flX9_15 rfl rfl dX9_dims_93 rfl ?_
            show zX shC σ 2 MX9_dims 96 [(3, zi ((x - 3) / ((μ 65 4) - (μ 65 3)))), (2, zi 1), (0, zr 65), (1, zi x)] [zi (μ 65 2)] (zp (zp (zp (zp μ 66 (t) 40) 65 1 (nI (t + 1))) 66 (t + 1) 12) 65 1 (nI (t + 1 + 1))) _
            refine zx_iconst (v := 5) (nn := 97) rfl dX9_dims_96 rfl ?_
            refine zx_icmp_ne (tgt := 113) (nn := 100) dX9_dims_97 (by decide) rfl (fun h97 => ?_) (fun h97 => ?_)
            · refine zx_iload_n (k := 0) (nn := 114) dX9_dims_113 rfl rfl rfl ?_
              refine zx_iret rfl dX9_dims_114 ?_
              exact ⟨by unfold pDimV; rw [if_neg h60, if_neg (by rw [h5]; decide), if_pos h5], by rw [if_neg h60]; unfold pDimL; rw [if_neg (by rw [h5]; decide), if_pos (Or.inl h5), if_neg h60, if_neg (by rw [h5]; decide)]; rfl⟩
            · exact absurd h97 h27
        · refine zx_aload_n (k := 1) (nn := 64) dX9_dims_63 rfl rfl rfl ?_
          refine zx_iconst (v := 1) (nn := 65) rfl dX9_dims_64 rfl ?_
          refine zx_putI (nn := 68) fpX9_25 rfl rfl rfl rfl dX9_dims_65 rfl ?_
          refine zx_iconst (v := 0) (nn := 69) rfl dX9_dims_68 rfl ?_
          refine zx_iret rfl dX9_dims_69 ?_
          exact ⟨by unfold pDimV; rw [if_pos h60], by rw [if_pos h60]; unfold pDimL; rw [if_neg (by rw [h5]; decide), if_pos (Or.inl h5), if_pos h60]; rfl⟩
    · exact absurd (h5.symm.trans h27) (by decide)
  · refine zx_aload_n (k := 0) (nn := 9) dX9_dims_8 rfl rfl rfl ?_
    refine zx_getI (nn := 12) flX9_15 rfl rfl dX9_dims_9 rfl ?_
    refine zx_iconst (v := 5) (nn := 13) rfl dX9_dims_12 rfl ?_
    refine zx_icmp_ne (tgt := 20) (nn := 16) dX9_dims_13 (by decide) rfl (fun h13 => ?_) (fun h13 => ?_)
    · refine zx_iconst (v := 0) (nn := 21) rfl dX9_dims_20 rfl ?_
      refine zx_istore_n (nn := 22) (lv' := [(2, zi 0), (0, zr 65), (1, zi x)]) dX9_dims_21 rfl (by decide) rfl rfl ?_
      refine zx_aload_n (k := 1) (nn := 23) dX9_dims_22 rfl rfl rfl ?_
      refine zx_getI (nn := 26) flX9_15 rfl rfl dX9_dims_23 rfl ?_
      refine zx_iconst (v := 5) (nn := 27) rfl dX9_dims_26 rfl ?_
      refine zx_icmp_ne (tgt := 36) (nn := 30) dX9_dims_27 (by decide) rfl (fun h27 => ?_) (fun h27 => ?_)
      · refine zx_iload_n (k := 0) (nn := 37) dX9_dims_36 rfl rfl rfl ?_
        refine zx_if_eq (tgt := 46) (nn := 40) dX9_dims_37 (by decide) rfl (fun h37 => ?_) (fun h37 => ?_)
        · refine zx_aload_n (k := 1) (nn := 47) dX9_dims_46 rfl rfl rfl ?_
          refine zx_bipush (v := 12) (nn := 49) rfl dX9_dims_47 rfl ?_
          refine zx_callVf (nn := 52) (k := 65) (d' := 0) (as := [zi 12]) (rest := []) (n := 1) (eX9_begin_65 σ μ 12 (t) ht (by omega)) kX9_begin mlX9_45 rfl rfl rfl (by decide) rfl rfl (Nat.le_of_ble_eq_true rfl) dX9_dims_49 rfl ?_
          show zX shC σ 2 MX9_dims 52 [(2, zi 0), (0, zr 65), (1, zi x)] [] (zp (zp μ 66 (t) 12) 65 1 (nI (t + 1))) _
          refine zx_aload_n (k := 1) (nn := 53) dX9_dims_52 rfl rfl rfl ?_
          refine zx_getI (nn := 56) flX9_22 rfl rfl dX9_dims_53 rfl ?_
          show zX shC σ 2 MX9_dims 56 [(2, zi 0), (0, zr 65), (1, zi x)] [zi (μ 65 4)] (zp (zp μ 66 (t) 12) 65 1 (nI (t + 1))) _
          refine zx_aload_n (k := 1) (nn := 57) dX9_dims_56 rfl rfl rfl ?_
          refine zx_getI (nn := 60) flX9_19 rfl rfl dX9_dims_57 rfl ?_
          show zX shC σ 2 MX9_dims 60 [(2, zi 0), (0, zr 65), (1, zi x)] [zi (μ 65 3), zi (μ 65 4)] (zp (zp μ 66 (t) 12) 65 1 (nI (t + 1))) _
          refine zx_icmp_ne (tgt := 70) (nn := 63) dX9_dims_60 (by decide) rfl (fun h60 => ?_) (fun h60 => ?_)
          · refine zx_iload_n (k := 0) (nn := 71) dX9_dims_70 rfl rfl rfl ?_
            refine zx_if_eq (tgt := 80) (nn := 74) dX9_dims_71 (by decide) rfl (fun h71 => ?_) (fun h71 => ?_)
            · refine zx_iload_n (k := 2) (nn := 81) dX9_dims_80 rfl rfl rfl ?_
              refine zx_aload_n (k := 1) (nn := 82) dX9_dims_81 rfl rfl rfl ?_
              refine zx_getI (nn := 85) flX9_22 rfl rfl dX9_dims_82 rfl ?_
              show zX shC σ 2 MX9_dims 85 [(2, zi 0), (0, zr 65), (1, zi x)] [zi (μ 65 4), zi x] (zp (zp μ 66 (t) 12) 65 1 (nI (t + 1))) _
              refine zx_aload_n (k := 1) (nn := 86) dX9_dims_85 rfl rfl rfl ?_
              refine zx_getI (nn := 89) flX9_19 rfl rfl dX9_dims_86 rfl ?_
              show zX shC σ 2 MX9_dims 89 [(2, zi 0), (0, zr 65), (1, zi x)] [zi (μ 65 3), zi (μ 65 4), zi x] (zp (zp μ 66 (t) 12) 65 1 (nI (t + 1))) _
              refine zx_isub (nn := 90) dX9_dims_89 rfl ?_
              refine zx_idiv (nn := 91) (zsub_ne h60) dX9_dims_90 rfl ?_
              refine zx_istore_n (nn := 92) (lv' := [(3, zi (x / ((μ 65 4) - (μ 65 3)))), (2, zi 0), (0, zr 65), (1, zi x)]) dX9_dims_91 rfl (by decide) rfl rfl ?_
              refine zx_aload_n (k := 2) (nn := 93) dX9_dims_92 rfl rfl rfl ?_
              refine zx_getI (nn := 96) flX9_15 rfl rfl dX9_dims_93 rfl ?_
              show zX shC σ 2 MX9_dims 96 [(3, zi (x / ((μ 65 4) - (μ 65 3)))), (2, zi 0), (0, zr 65), (1, zi x)] [zi (μ 65 2)] (zp (zp μ 66 (t) 12) 65 1 (nI (t + 1))) _
              refine zx_iconst (v := 5) (nn := 97) rfl dX9_dims_96 rfl ?_
              refine zx_icmp_ne (tgt := 113) (nn := 100) dX9_dims_97 (by decide) rfl (fun h97 => ?_) (fun h97 => ?_)
              · refine zx_iload_n (k := 0) (nn := 114) dX9_dims_113 rfl rfl rfl ?_
                refine zx_iret rfl dX9_dims_114 ?_
                exact ⟨by unfold pDimV; rw [if_neg h60, if_neg h13, if_neg h5], by rw [if_neg h60]; unfold pDimL; rw [if_neg h13, if_neg (fun q => q.elim h5 h13), if_neg h60, if_neg h13]; rfl⟩
              · exact absurd h97 h27
            · exact absurd h71 (by decide)
          · refine zx_aload_n (k := 1) (nn := 64) dX9_dims_63 rfl rfl rfl ?_
            refine zx_iconst (v := 1) (nn := 65) rfl dX9_dims_64 rfl ?_
            refine zx_putI (nn := 68) fpX9_25 rfl rfl rfl rfl dX9_dims_65 rfl ?_
            refine zx_iconst (v := 0) (nn := 69) rfl dX9_dims_68 rfl ?_
            refine zx_iret rfl dX9_dims_69 ?_
            exact ⟨by unfold pDimV; rw [if_pos h60], by rw [if_pos h60]; unfold pDimL; rw [if_neg h13, if_neg (fun q => q.elim h5 h13), if_pos h60]; rfl⟩
        · exact absurd h37 (by decide)
      · exact absurd h27 h13
    · refine zx_iconst (v := 1) (nn := 17) rfl dX9_dims_16 rfl ?_
      refine zx_goto (tgt := 21) dX9_dims_17 (by decide) ?_
      refine zx_istore_n (nn := 22) (lv' := [(2, zi 1), (0, zr 65), (1, zi x)]) dX9_dims_21 rfl (by decide) rfl rfl ?_
      refine zx_aload_n (k := 1) (nn := 23) dX9_dims_22 rfl rfl rfl ?_
      refine zx_getI (nn := 26) flX9_15 rfl rfl dX9_dims_23 rfl ?_
      refine zx_iconst (v := 5) (nn := 27) rfl dX9_dims_26 rfl ?_
      refine zx_icmp_ne (tgt := 36) (nn := 30) dX9_dims_27 (by decide) rfl (fun h27 => ?_) (fun h27 => ?_)
      · exact absurd h13 h27
      · refine zx_aload_n (k := 1) (nn := 31) dX9_dims_30 rfl rfl rfl ?_
        refine zx_bipush (v := 61) (nn := 33) rfl dX9_dims_31 rfl ?_
        refine zx_callVf (nn := 36) (k := 65) (d' := 0) (as := [zi 61]) (rest := []) (n := 1) (eX9_begin_65 σ μ 61 (t) ht (by omega)) kX9_begin mlX9_45 rfl rfl rfl (by decide) rfl rfl (Nat.le_of_ble_eq_true rfl) dX9_dims_33 rfl ?_
        show zX shC σ 2 MX9_dims 36 [(2, zi 1), (0, zr 65), (1, zi x)] [] (zp (zp μ 66 (t) 61) 65 1 (nI (t + 1))) _
        refine zx_iload_n (k := 0) (nn := 37) dX9_dims_36 rfl rfl rfl ?_
        refine zx_if_eq (tgt := 46) (nn := 40) dX9_dims_37 (by decide) rfl (fun h37 => ?_) (fun h37 => ?_)
        · exact absurd h37 (by decide)
        · refine zx_aload_n (k := 1) (nn := 41) dX9_dims_40 rfl rfl rfl ?_
          refine zx_bipush (v := 40) (nn := 43) rfl dX9_dims_41 rfl ?_
          refine zx_callVf (nn := 46) (k := 65) (d' := 0) (as := [zi 40]) (rest := []) (n := 1) (eX9_begin_65 σ (zp (zp μ 66 (t) 61) 65 1 (nI (t + 1))) 40 (t + 1) (by rw [zp_eq]; exact pk_us) (by omega)) kX9_begin mlX9_45 rfl rfl rfl (by decide) rfl rfl (Nat.le_of_ble_eq_true rfl) dX9_dims_43 rfl ?_
          show zX shC σ 2 MX9_dims 46 [(2, zi 1), (0, zr 65), (1, zi x)] [] (zp (zp (zp (zp μ 66 (t) 61) 65 1 (nI (t + 1))) 66 (t + 1) 40) 65 1 (nI (t + 1 + 1))) _
          refine zx_aload_n (k := 1) (nn := 47) dX9_dims_46 rfl rfl rfl ?_
          refine zx_bipush (v := 12) (nn := 49) rfl dX9_dims_47 rfl ?_
          refine zx_callVf (nn := 52) (k := 65) (d' := 0) (as := [zi 12]) (rest := []) (n := 1) (eX9_begin_65 σ (zp (zp (zp (zp μ 66 (t) 61) 65 1 (nI (t + 1))) 66 (t + 1) 40) 65 1 (nI (t + 1 + 1))) 12 (t + 1 + 1) (by rw [zp_eq]; exact pk_us) (by omega)) kX9_begin mlX9_45 rfl rfl rfl (by decide) rfl rfl (Nat.le_of_ble_eq_true rfl) dX9_dims_49 rfl ?_
          show zX shC σ 2 MX9_dims 52 [(2, zi 1), (0, zr 65), (1, zi x)] [] (zp (zp (zp (zp (zp (zp μ 66 (t) 61) 65 1 (nI (t + 1))) 66 (t + 1) 40) 65 1 (nI (t + 1 + 1))) 66 (t + 1 + 1) 12) 65 1 (nI (t + 1 + 1 + 1))) _
          refine zx_aload_n (k := 1) (nn := 53) dX9_dims_52 rfl rfl rfl ?_
          refine zx_getI (nn := 56) flX9_22 rfl rfl dX9_dims_53 rfl ?_
          show zX shC σ 2 MX9_dims 56 [(2, zi 1), (0, zr 65), (1, zi x)] [zi (μ 65 4)] (zp (zp (zp (zp (zp (zp μ 66 (t) 61) 65 1 (nI (t + 1))) 66 (t + 1) 40) 65 1 (nI (t + 1 + 1))) 66 (t + 1 + 1) 12) 65 1 (nI (t + 1 + 1 + 1))) _
          refine zx_aload_n (k := 1) (nn := 57) dX9_dims_56 rfl rfl rfl ?_
          refine zx_getI (nn := 60) flX9_19 rfl rfl dX9_dims_57 rfl ?_
          show zX shC σ 2 MX9_dims 60 [(2, zi 1), (0, zr 65), (1, zi x)] [zi (μ 65 3), zi (μ 65 4)] (zp (zp (zp (zp (zp (zp μ 66 (t) 61) 65 1 (nI (t + 1))) 66 (t + 1) 40) 65 1 (nI (t + 1 + 1))) 66 (t + 1 + 1) 12) 65 1 (nI (t + 1 + 1 + 1))) _
          refine zx_icmp_ne (tgt := 70) (nn := 63) dX9_dims_60 (by decide) rfl (fun h60 => ?_) (fun h60 => ?_)
          · refine zx_iload_n (k := 0) (nn := 71) dX9_dims_70 rfl rfl rfl ?_
            refine zx_if_eq (tgt := 80) (nn := 74) dX9_dims_71 (by decide) rfl (fun h71 => ?_) (fun h71 => ?_)
            · exact absurd h71 (by decide)
            · refine zx_iload_n (k := 2) (nn := 75) dX9_dims_74 rfl rfl rfl ?_
              refine zx_iconst (v := 3) (nn := 76) rfl dX9_dims_75 rfl ?_
              refine zx_isub (nn := 77) dX9_dims_76 rfl ?_
              refine zx_goto (tgt := 81) dX9_dims_77 (by decide) ?_
              refine zx_aload_n (k := 1) (nn := 82) dX9_dims_81 rfl rfl rfl ?_
              refine zx_getI (nn := 85) flX9_22 rfl rfl dX9_dims_82 rfl ?_
              show zX shC σ 2 MX9_dims 85 [(2, zi 1), (0, zr 65), (1, zi x)] [zi (μ 65 4), zi (x - 3)] (zp (zp (zp (zp (zp (zp μ 66 (t) 61) 65 1 (nI (t + 1))) 66 (t + 1) 40) 65 1 (nI (t + 1 + 1))) 66 (t + 1 + 1) 12) 65 1 (nI (t + 1 + 1 + 1))) _
              refine zx_aload_n (k := 1) (nn := 86) dX9_dims_85 rfl rfl rfl ?_
              refine zx_getI (nn := 89) flX9_19 rfl rfl dX9_dims_86 rfl ?_
              show zX shC σ 2 MX9_dims 89 [(2, zi 1), (0, zr 65), (1, zi x)] [zi (μ 65 3), zi (μ 65 4), zi (x - 3)] (zp (zp (zp (zp (zp (zp μ 66 (t) 61) 65 1 (nI (t + 1))) 66 (t + 1) 40) 65 1 (nI (t + 1 + 1))) 66 (t + 1 + 1) 12) 65 1 (nI (t + 1 + 1 + 1))) _
              refine zx_isub (nn := 90) dX9_dims_89 rfl ?_
              refine zx_idiv (nn := 91) (zsub_ne h60) dX9_dims_90 rfl ?_
              refine zx_istore_n (nn := 92) (lv' := [(3, zi ((x - 3) / ((μ 65 4) - (μ 65 3)))), (2, zi 1), (0, zr 65), (1, zi x)]) dX9_dims_91 rfl (by decide) rfl rfl ?_
              refine zx_aload_n (k := 2) (nn := 93) dX9_dims_92 rfl rfl rfl ?_
              refine zx_getI (nn := 96) flX9_15 rfl rfl dX9_dims_93 rfl ?_
              show zX shC σ 2 MX9_dims 96 [(3, zi ((x - 3) / ((μ 65 4) - (μ 65 3)))), (2, zi 1), (0, zr 65), (1, zi x)] [zi (μ 65 2)] (zp (zp (zp (zp (zp (zp μ 66 (t) 61) 65 1 (nI (t + 1))) 66 (t + 1) 40) 65 1 (nI (t + 1 + 1))) 66 (t + 1 + 1) 12) 65 1 (nI (t + 1 + 1 + 1))) _
              refine zx_iconst (v := 5) (nn := 97) rfl dX9_dims_96 rfl ?_
              refine zx_icmp_ne (tgt := 113) (nn := 100) dX9_dims_97 (by decide) rfl (fun h97 => ?_) (fun h97 => ?_)
              · exact absurd h27 h97
              · refine zx_iload_n (k := 0) (nn := 101) dX9_dims_100 rfl rfl rfl ?_
                refine zx_aload_n (k := 2) (nn := 102) dX9_dims_101 rfl rfl rfl ?_
                refine zx_aload_n (k := 2) (nn := 103) dX9_dims_102 rfl rfl rfl ?_
                refine zx_getI (nn := 106) flX9_19 rfl rfl dX9_dims_103 rfl ?_
                show zX shC σ 2 MX9_dims 106 [(3, zi ((x - 3) / ((μ 65 4) - (μ 65 3)))), (2, zi 1), (0, zr 65), (1, zi x)] [zi (μ 65 3), zr 65, zi ((x - 3) / ((μ 65 4) - (μ 65 3)))] (zp (zp (zp (zp (zp (zp μ 66 (t) 61) 65 1 (nI (t + 1))) 66 (t + 1) 40) 65 1 (nI (t + 1 + 1))) 66 (t + 1 + 1) 12) 65 1 (nI (t + 1 + 1 + 1))) _
                refine zx_callV (nn := 109) (k := 65) (d' := 1) (as := [zi (μ 65 3)]) (rest := [zi ((x - 3) / ((μ 65 4) - (μ 65 3)))]) (n := 1) (eX9_aims_65 σ (zp (zp (zp (zp (zp (zp μ 66 (t) 61) 65 1 (nI (t + 1))) 66 (t + 1) 40) 65 1 (nI (t + 1 + 1))) 66 (t + 1 + 1) 12) 65 1 (nI (t + 1 + 1 + 1))) (μ 65 3) (t + 1 + 1 + 1) (by rw [zp_eq]; exact pk_us) (by omega)) kX9_aims mlX9_29 rfl rfl rfl (by decide) rfl rfl (Nat.le_of_ble_eq_true rfl) dX9_dims_106 rfl ?_
                rintro _ ν1 ⟨rfl, q1⟩
                show zX shC σ 2 MX9_dims 109 [(3, zi ((x - 3) / ((μ 65 4) - (μ 65 3)))), (2, zi 1), (0, zr 65), (1, zi x)] [zi (pAimV (μ 65 2) (μ 65 4) (μ 65 3)), zi ((x - 3) / ((μ 65 4) - (μ 65 3)))] ν1 _
                have f2 : ν1 65 2 = μ 65 2 := by rw [q1, pPush_o (by decide) (Or.inr (by decide))]; rfl
                have f3 : ν1 65 3 = μ 65 3 := by rw [q1, pPush_o (by decide) (Or.inr (by decide))]; rfl
                refine zx_isub (nn := 110) dX9_dims_109 rfl ?_
                refine zx_goto (tgt := 114) dX9_dims_110 (by decide) ?_
                refine zx_iret rfl dX9_dims_114 ?_
                exact ⟨by unfold pDimV; rw [if_neg h60, if_pos h13], by rw [if_neg h60, q1]; unfold pDimL; rw [if_pos h13, if_pos (Or.inr h13), if_neg h60, if_pos h13]; rfl⟩
          · refine zx_aload_n (k := 1) (nn := 64) dX9_dims_63 rfl rfl rfl ?_
            refine zx_iconst (v := 1) (nn := 65) rfl dX9_dims_64 rfl ?_
            refine zx_putI (nn := 68) fpX9_25 rfl rfl rfl rfl dX9_dims_65 rfl ?_
            refine zx_iconst (v := 0) (nn := 69) rfl dX9_dims_68 rfl ?_
            refine zx_iret rfl dX9_dims_69 ?_
            exact ⟨by unfold pDimV; rw [if_pos h60], by rw [if_pos h60]; unfold pDimL; rw [if_pos h13, if_pos (Or.inr h13), if_pos h60]; rfl⟩
set_option maxHeartbeats 4000000 in
set_option maxRecDepth 100000 in
theorem eX9_follows_65 (σ : zG) (μ : zM) (x : Int32) (t : Nat) (ht : μ 65 1 = nI t) (hl : t ≤ 14) : zMet shC σ 3 MX9_follows yX9_follows [zr 65, zi x] μ (fun rr μ' => rr = some (zi (pFoV (μ 65 2) (μ 65 3) (μ 65 4) x)) ∧ μ' = if μ 65 2 = 3 ∧ μ 65 4 = μ 65 3 then zp (pPush 65 1 66 μ t (pFoL (μ 65 2) (μ 65 3) (μ 65 4))) 65 5 1 else pPush 65 1 66 μ t (pFoL (μ 65 2) (μ 65 3) (μ 65 4))) := by
  refine zmetF (by decide +kernel) rfl (Nat.le_of_ble_eq_true rfl) ?_
  show zX shC σ 3 MX9_follows 0 [(0, zr 65), (1, zi x)] [] μ _
  refine zx_aload_n (k := 0) (nn := 1) dX9_follows_0 rfl rfl rfl ?_
  refine zx_getI (nn := 4) flX9_15 rfl rfl dX9_follows_1 rfl ?_
  refine zx_iconst (v := 3) (nn := 5) rfl dX9_follows_4 rfl ?_
  refine zx_icmp_ne (tgt := 14) (nn := 8) dX9_follows_5 (by decide) rfl (fun h5 => ?_) (fun h5 => ?_)
  · refine zx_aload_n (k := 0) (nn := 15) dX9_follows_14 rfl rfl rfl ?_
    refine zx_bipush (v := 13) (nn := 17) rfl dX9_follows_15 rfl ?_
    refine zx_callVf (nn := 20) (k := 65) (d' := 0) (as := [zi 13]) (rest := []) (n := 1) (eX9_begin_65 σ μ 13 (t) ht (by omega)) kX9_begin mlX9_45 rfl rfl rfl (by decide) rfl rfl (Nat.le_of_ble_eq_true rfl) dX9_follows_17 rfl ?_
    show zX shC σ 3 MX9_follows 20 [(0, zr 65), (1, zi x)] [] (zp (zp μ 66 (t) 13) 65 1 (nI (t + 1))) _
    refine zx_aload_n (k := 0) (nn := 21) dX9_follows_20 rfl rfl rfl ?_
    refine zx_iload_n (k := 1) (nn := 22) dX9_follows_21 rfl rfl rfl ?_
    refine zx_callV (nn := 25) (k := 65) (d' := 2) (as := [zi x]) (rest := []) (n := 1) (eX9_swings_65 σ (zp (zp μ 66 (t) 13) 65 1 (nI (t + 1))) x (t + 1) (by rw [zp_eq]; exact pk_us) (by omega)) kX9_swings mlX9_33 rfl rfl rfl (by decide) rfl rfl (Nat.le_of_ble_eq_true rfl) dX9_follows_22 rfl ?_
    rintro _ ν1 ⟨rfl, q1⟩
    show zX shC σ 3 MX9_follows 25 [(0, zr 65), (1, zi x)] [zi (pSwV (μ 65 2) (μ 65 3) (μ 65 4) x)] ν1 _
    have f2 : ν1 65 2 = μ 65 2 := by rw [q1, pPush_o (by decide) (Or.inr (by decide))]; rfl
    have f3 : ν1 65 3 = μ 65 3 := by rw [q1, pPush_o (by decide) (Or.inr (by decide))]; rfl
    have f4 : ν1 65 4 = μ 65 4 := by rw [q1, pPush_o (by decide) (Or.inr (by decide))]; rfl
    have f5 : ν1 65 5 = μ 65 5 := by rw [q1, pPush_o (by decide) (Or.inr (by decide))]; rfl
    have f1 : ν1 65 1 = nI (t + 1 + (pSwL (μ 65 2)).length) := by rw [q1]; exact pPush_n (by rw [zp_eq]; exact pk_us)
    have hlS := pSwL_le (μ 65 2)
    refine zx_aload_n (k := 0) (nn := 26) dX9_follows_25 rfl rfl rfl ?_
    refine zx_getI (nn := 29) flX9_22 rfl rfl dX9_follows_26 rfl ?_
    rw [f4]
    show zX shC σ 3 MX9_follows 29 [(0, zr 65), (1, zi x)] [zi (μ 65 4), zi (pSwV (μ 65 2) (μ 65 3) (μ 65 4) x)] ν1 _
    refine zx_ixor (nn := 30) dX9_follows_29 rfl ?_
    refine zx_istore_n (nn := 31) (lv' := [(2, zi ((pSwV (μ 65 2) (μ 65 3) (μ 65 4) x) ^^^ (μ 65 4))), (0, zr 65), (1, zi x)]) dX9_follows_30 rfl (by decide) rfl rfl ?_
    refine zx_aload_n (k := 1) (nn := 32) dX9_follows_31 rfl rfl rfl ?_
    refine zx_getI (nn := 35) flX9_15 rfl rfl dX9_follows_32 rfl ?_
    rw [f2]
    show zX shC σ 3 MX9_follows 35 [(2, zi ((pSwV (μ 65 2) (μ 65 3) (μ 65 4) x) ^^^ (μ 65 4))), (0, zr 65), (1, zi x)] [zi (μ 65 2)] ν1 _
    refine zx_iconst (v := 3) (nn := 36) rfl dX9_follows_35 rfl ?_
    refine zx_icmp_ne (tgt := 52) (nn := 39) dX9_follows_36 (by decide) rfl (fun h36 => ?_) (fun h36 => ?_)
    · refine zx_iload_n (k := 0) (nn := 53) dX9_follows_52 rfl rfl rfl ?_
      refine zx_iret rfl dX9_follows_53 ?_
      exact ⟨by unfold pFoV; rw [if_neg h5], by rw [if_neg (fun q => h5 q.1), q1]; unfold pFoL; rw [if_neg h5, if_neg h5, List.append_nil]; rfl⟩
    · exact absurd h36 h5
  · refine zx_aload_n (k := 0) (nn := 9) dX9_follows_8 rfl rfl rfl ?_
    refine zx_bipush (v := 51) (nn := 11) rfl dX9_follows_9 rfl ?_
    refine zx_callVf (nn := 14) (k := 65) (d' := 0) (as := [zi 51]) (rest := []) (n := 1) (eX9_begin_65 σ μ 51 (t) ht (by omega)) kX9_begin mlX9_45 rfl rfl rfl (by decide) rfl rfl (Nat.le_of_ble_eq_true rfl) dX9_follows_11 rfl ?_
    show zX shC σ 3 MX9_follows 14 [(0, zr 65), (1, zi x)] [] (zp (zp μ 66 (t) 51) 65 1 (nI (t + 1))) _
    refine zx_aload_n (k := 0) (nn := 15) dX9_follows_14 rfl rfl rfl ?_
    refine zx_bipush (v := 13) (nn := 17) rfl dX9_follows_15 rfl ?_
    refine zx_callVf (nn := 20) (k := 65) (d' := 0) (as := [zi 13]) (rest := []) (n := 1) (eX9_begin_65 σ (zp (zp μ 66 (t) 51) 65 1 (nI (t + 1))) 13 (t + 1) (by rw [zp_eq]; exact pk_us) (by omega)) kX9_begin mlX9_45 rfl rfl rfl (by decide) rfl rfl (Nat.le_of_ble_eq_true rfl) dX9_follows_17 rfl ?_
    show zX shC σ 3 MX9_follows 20 [(0, zr 65), (1, zi x)] [] (zp (zp (zp (zp μ 66 (t) 51) 65 1 (nI (t + 1))) 66 (t + 1) 13) 65 1 (nI (t + 1 + 1))) _
    refine zx_aload_n (k := 0) (nn := 21) dX9_follows_20 rfl rfl rfl ?_
    refine zx_iload_n (k := 1) (nn := 22) dX9_follows_21 rfl rfl rfl ?_
    refine zx_callV (nn := 25) (k := 65) (d' := 2) (as := [zi x]) (rest := []) (n := 1) (eX9_swings_65 σ (zp (zp (zp (zp μ 66 (t) 51) 65 1 (nI (t + 1))) 66 (t + 1) 13) 65 1 (nI (t + 1 + 1))) x (t + 1 + 1) (by rw [zp_eq]; exact pk_us) (by omega)) kX9_swings mlX9_33 rfl rfl rfl (by decide) rfl rfl (Nat.le_of_ble_eq_true rfl) dX9_follows_22 rfl ?_
    rintro _ ν2 ⟨rfl, q1⟩
    show zX shC σ 3 MX9_follows 25 [(0, zr 65), (1, zi x)] [zi (pSwV (μ 65 2) (μ 65 3) (μ 65 4) x)] ν2 _
    have f2 : ν2 65 2 = μ 65 2 := by rw [q1, pPush_o (by decide) (Or.inr (by decide))]; rfl
    have f3 : ν2 65 3 = μ 65 3 := by rw [q1, pPush_o (by decide) (Or.inr (by decide))]; rfl
    have f4 : ν2 65 4 = μ 65 4 := by rw [q1, pPush_o (by decide) (Or.inr (by decide))]; rfl
    have f5 : ν2 65 5 = μ 65 5 := by rw [q1, pPush_o (by decide) (Or.inr (by decide))]; rfl
    have f1 : ν2 65 1 = nI (t + 1 + 1 + (pSwL (μ 65 2)).length) := by rw [q1]; exact pPush_n (by rw [zp_eq]; exact pk_us)
    have hlS := pSwL_le (μ 65 2)
    refine zx_aload_n (k := 0) (nn := 26) dX9_follows_25 rfl rfl rfl ?_
    refine zx_getI (nn := 29) flX9_22 rfl rfl dX9_follows_26 rfl ?_
    rw [f4]
    show zX shC σ 3 MX9_follows 29 [(0, zr 65), (1, zi x)] [zi (μ 65 4), zi (pSwV (μ 65 2) (μ 65 3) (μ 65 4) x)] ν2 _
    refine zx_ixor (nn := 30) dX9_follows_29 rfl ?_
    refine zx_istore_n (nn := 31) (lv' := [(2, zi ((pSwV (μ 65 2) (μ 65 3) (μ 65 4) x) ^^^ (μ 65 4))), (0, zr 65), (1, zi x)]) dX9_follows_30 rfl (by decide) rfl rfl ?_
    refine zx_aload_n (k := 1) (nn := 32) dX9_follows_31 rfl rfl rfl ?_
    refine zx_getI (nn := 35) flX9_15 rfl rfl dX9_follows_32 rfl ?_
    rw [f2]
    show zX shC σ 3 MX9_follows 35 [(2, zi ((pSwV (μ 65 2) (μ 65 3) (μ 65 4) x) ^^^ (μ 65 4))), (0, zr 65), (1, zi x)] [zi (μ 65 2)] ν2 _
    refine zx_iconst (v := 3) (nn := 36) rfl dX9_follows_35 rfl ?_
    refine zx_icmp_ne (tgt := 52) (nn := 39) dX9_follows_36 (by decide) rfl (fun h36 => ?_) (fun h36 => ?_)
    · exact absurd h5 h36
    · refine zx_iload_n (k := 0) (nn := 40) dX9_follows_39 rfl rfl rfl ?_
      refine zx_aload_n (k := 1) (nn := 41) dX9_follows_40 rfl rfl rfl ?_
      refine zx_aload_n (k := 1) (nn := 42) dX9_follows_41 rfl rfl rfl ?_
      refine zx_getI (nn := 45) flX9_22 rfl rfl dX9_follows_42 rfl ?_
      rw [f4]
      show zX shC σ 3 MX9_follows 45 [(2, zi ((pSwV (μ 65 2) (μ 65 3) (μ 65 4) x) ^^^ (μ 65 4))), (0, zr 65), (1, zi x)] [zi (μ 65 4), zr 65, zi ((pSwV (μ 65 2) (μ 65 3) (μ 65 4) x) ^^^ (μ 65 4))] ν2 _
      refine zx_callV (nn := 48) (k := 65) (d' := 2) (as := [zi (μ 65 4)]) (rest := [zi ((pSwV (μ 65 2) (μ 65 3) (μ 65 4) x) ^^^ (μ 65 4))]) (n := 1) (eX9_dims_65 σ ν2 (μ 65 4) (t + 1 + 1 + (pSwL (μ 65 2)).length) f1 (by omega)) kX9_dims mlX9_36 rfl rfl rfl (by decide) rfl rfl (Nat.le_of_ble_eq_true rfl) dX9_follows_45 rfl ?_
      rintro _ ν3 ⟨rfl, q2⟩
      show zX shC σ 3 MX9_follows 48 [(2, zi ((pSwV (μ 65 2) (μ 65 3) (μ 65 4) x) ^^^ (μ 65 4))), (0, zr 65), (1, zi x)] [zi (pDimV (ν2 65 2) (ν2 65 3) (ν2 65 4) (μ 65 4)), zi ((pSwV (μ 65 2) (μ 65 3) (μ 65 4) x) ^^^ (μ 65 4))] ν3 _
      refine zx_iadd (nn := 49) dX9_follows_48 rfl ?_
      refine zx_goto (tgt := 53) dX9_follows_49 (by decide) ?_
      refine zx_iret rfl dX9_follows_53 ?_
      have hm : ∀ L : List Int32, pPush 65 1 66 ν2 (t + 1 + 1 + (pSwL (μ 65 2)).length) L = pPush 65 1 66 μ t ([51] ++ (13 :: (pSwL (μ 65 2) ++ L))) := fun L => by
        rw [q1]
        exact (pPush_app 65 1 66 (pSwL (μ 65 2)) L _ (t + 1 + 1)).symm
      rw [f2, f3, f4, hm] at q2
      refine ⟨by unfold pFoV; rw [if_pos h5, f2, f3, f4], ?_⟩
      rw [q2]
      unfold pFoL
      rw [if_pos h5, if_pos h5]
      by_cases e : μ 65 4 = μ 65 3
      · rw [if_pos e, if_pos ⟨h5, e⟩]
      · rw [if_neg e, if_neg (fun q => e q.2)]
set_option maxHeartbeats 4000000 in
set_option maxRecDepth 100000 in
theorem eX9_answer_65 (σ : zG) (μ : zM) (act : Int32) (x : Int32) (ht : μ 65 1 = nI 0) (hp : μ 65 5 = 0) : zMet shC σ 4 MX9_answer yX9_answer [zr 65, zi act, zi x] μ (fun rr μ' => rr = some (zi (if pThP act (μ 65 2) (μ 65 3) (μ 65 4) = true then -15 else pThV act (μ 65 2) (μ 65 3) (μ 65 4) x)) ∧ μ' = if pThP act (μ 65 2) (μ 65 3) (μ 65 4) = true then zp (pPush 65 1 66 μ 0 (pThL act (μ 65 2) (μ 65 3) (μ 65 4))) 65 5 1 else pPush 65 1 66 μ 0 (pThL act (μ 65 2) (μ 65 3) (μ 65 4))) := by
  refine zmetF (by decide +kernel) rfl (Nat.le_of_ble_eq_true rfl) ?_
  show zX shC σ 4 MX9_answer 0 [(0, zr 65), (1, zi act), (2, zi x)] [] μ _
  refine zx_iload_n (k := 1) (nn := 1) dX9_answer_0 rfl rfl rfl ?_
  by_cases h1_0 : act = 0
  · refine zx_sw h1_0 ?_
    refine zx_tabIn (tgt := 28) (off := 27) dX9_answer_1 (by decide +kernel) (by decide +kernel) (by decide +kernel) (by decide) ?_
    refine zx_aload_n (k := 0) (nn := 29) dX9_answer_28 rfl rfl rfl ?_
    refine zx_iload_n (k := 2) (nn := 30) dX9_answer_29 rfl rfl rfl ?_
    refine zx_callV (nn := 33) (k := 65) (d' := 1) (as := [zi x]) (rest := []) (n := 1) (eX9_aims_65 σ μ x 0 ht (by omega)) kX9_aims mlX9_29 rfl rfl rfl (by decide) rfl rfl (Nat.le_of_ble_eq_true rfl) dX9_answer_30 rfl ?_
    rintro _ ν1 ⟨rfl, q1⟩
    show zX shC σ 4 MX9_answer 33 [(0, zr 65), (1, zi act), (2, zi x)] [zi (pAimV (μ 65 2) (μ 65 4) x)] ν1 _
    refine zx_istore_n (nn := 34) (lv' := [(3, zi (pAimV (μ 65 2) (μ 65 4) x)), (0, zr 65), (1, zi act), (2, zi x)]) dX9_answer_33 rfl (by decide) rfl rfl ?_
    refine zx_goto (tgt := 61) dX9_answer_34 (by decide) ?_
    refine zx_aload_n (k := 1) (nn := 62) dX9_answer_61 rfl rfl rfl ?_
    refine zx_getI (nn := 65) flX9_25 rfl rfl dX9_answer_62 rfl ?_
    have hL : pThL act (μ 65 2) (μ 65 3) (μ 65 4) = pAimL (μ 65 2) := by unfold pThL; rw [if_pos h1_0]
    have hV : pThV act (μ 65 2) (μ 65 3) (μ 65 4) x = pAimV (μ 65 2) (μ 65 4) x := by unfold pThV; rw [if_pos h1_0]
    have hP : pThP act (μ 65 2) (μ 65 3) (μ 65 4) = false := by unfold pThP; rw [h1_0]; simp
    have hM : ν1 = if pThP act (μ 65 2) (μ 65 3) (μ 65 4) = true then zp (pPush 65 1 66 μ 0 (pThL act (μ 65 2) (μ 65 3) (μ 65 4))) 65 5 1 else pPush 65 1 66 μ 0 (pThL act (μ 65 2) (μ 65 3) (μ 65 4)) := by rw [hP, q1, hL]; rfl
    have h55 : ν1 65 5 = zb (pThP act (μ 65 2) (μ 65 3) (μ 65 4)) := by
      rw [hM]
      by_cases e : pThP act (μ 65 2) (μ 65 3) (μ 65 4) = true
      · rw [if_pos e, zp_eq, e]; rfl
      · rw [if_neg e, pPush_o (by decide) (Or.inr (by decide)), hp, Bool.eq_false_iff.mpr e]; rfl
    rw [h55, ← hV]
    show zX shC σ 4 MX9_answer 65 [(3, zi (pThV act (μ 65 2) (μ 65 3) (μ 65 4) x)), (0, zr 65), (1, zi act), (2, zi x)] [zi (zb (pThP act (μ 65 2) (μ 65 3) (μ 65 4)))] ν1 _
    refine zx_ifb_eq (tgt := 73) (nn := 68) dX9_answer_65 (by decide) rfl (fun h65 => ?_) (fun h65 => ?_)
    · refine zx_iload_n (k := 0) (nn := 74) dX9_answer_73 rfl rfl rfl ?_
      refine zx_iret rfl dX9_answer_74 ?_
      exact ⟨congrArg (fun x => some (zi x)) (by rw [if_neg (by rw [h65]; decide)]), hM⟩
    · refine zx_bipush (v := -15) (nn := 70) rfl dX9_answer_68 rfl ?_
      refine zx_goto (tgt := 74) dX9_answer_70 (by decide) ?_
      refine zx_iret rfl dX9_answer_74 ?_
      exact ⟨congrArg (fun x => some (zi x)) (by rw [if_pos h65]), hM⟩
  by_cases h1_1 : act = 1
  · refine zx_sw h1_1 ?_
    refine zx_tabIn (tgt := 37) (off := 36) dX9_answer_1 (by decide +kernel) (by decide +kernel) (by decide +kernel) (by decide) ?_
    refine zx_aload_n (k := 0) (nn := 38) dX9_answer_37 rfl rfl rfl ?_
    refine zx_iload_n (k := 2) (nn := 39) dX9_answer_38 rfl rfl rfl ?_
    refine zx_callV (nn := 42) (k := 65) (d' := 2) (as := [zi x]) (rest := []) (n := 1) (eX9_swings_65 σ μ x 0 ht (by omega)) kX9_swings mlX9_33 rfl rfl rfl (by decide) rfl rfl (Nat.le_of_ble_eq_true rfl) dX9_answer_39 rfl ?_
    rintro _ ν2 ⟨rfl, q1⟩
    show zX shC σ 4 MX9_answer 42 [(0, zr 65), (1, zi act), (2, zi x)] [zi (pSwV (μ 65 2) (μ 65 3) (μ 65 4) x)] ν2 _
    refine zx_istore_n (nn := 43) (lv' := [(3, zi (pSwV (μ 65 2) (μ 65 3) (μ 65 4) x)), (0, zr 65), (1, zi act), (2, zi x)]) dX9_answer_42 rfl (by decide) rfl rfl ?_
    refine zx_goto (tgt := 61) dX9_answer_43 (by decide) ?_
    refine zx_aload_n (k := 1) (nn := 62) dX9_answer_61 rfl rfl rfl ?_
    refine zx_getI (nn := 65) flX9_25 rfl rfl dX9_answer_62 rfl ?_
    have hL : pThL act (μ 65 2) (μ 65 3) (μ 65 4) = pSwL (μ 65 2) := by unfold pThL; rw [if_neg h1_0, if_pos h1_1]
    have hV : pThV act (μ 65 2) (μ 65 3) (μ 65 4) x = pSwV (μ 65 2) (μ 65 3) (μ 65 4) x := by unfold pThV; rw [if_neg h1_0, if_pos h1_1]
    have hP : pThP act (μ 65 2) (μ 65 3) (μ 65 4) = false := by unfold pThP; rw [h1_1]; simp
    have hM : ν2 = if pThP act (μ 65 2) (μ 65 3) (μ 65 4) = true then zp (pPush 65 1 66 μ 0 (pThL act (μ 65 2) (μ 65 3) (μ 65 4))) 65 5 1 else pPush 65 1 66 μ 0 (pThL act (μ 65 2) (μ 65 3) (μ 65 4)) := by rw [hP, q1, hL]; rfl
    have h55 : ν2 65 5 = zb (pThP act (μ 65 2) (μ 65 3) (μ 65 4)) := by
      rw [hM]
      by_cases e : pThP act (μ 65 2) (μ 65 3) (μ 65 4) = true
      · rw [if_pos e, zp_eq, e]; rfl
      · rw [if_neg e, pPush_o (by decide) (Or.inr (by decide)), hp, Bool.eq_false_iff.mpr e]; rfl
    rw [h55, ← hV]
    show zX shC σ 4 MX9_answer 65 [(3, zi (pThV act (μ 65 2) (μ 65 3) (μ 65 4) x)), (0, zr 65), (1, zi act), (2, zi x)] [zi (zb (pThP act (μ 65 2) (μ 65 3) (μ 65 4)))] ν2 _
    refine zx_ifb_eq (tgt := 73) (nn := 68) dX9_answer_65 (by decide) rfl (fun h65 => ?_) (fun h65 => ?_)
    · refine zx_iload_n (k := 0) (nn := 74) dX9_answer_73 rfl rfl rfl ?_
      refine zx_iret rfl dX9_answer_74 ?_
      exact ⟨congrArg (fun x => some (zi x)) (by rw [if_neg (by rw [h65]; decide)]), hM⟩
    · refine zx_bipush (v := -15) (nn := 70) rfl dX9_answer_68 rfl ?_
      refine zx_goto (tgt := 74) dX9_answer_70 (by decide) ?_
      refine zx_iret rfl dX9_answer_74 ?_
      exact ⟨congrArg (fun x => some (zi x)) (by rw [if_pos h65]), hM⟩
  by_cases h1_2 : act = 2
  · refine zx_sw h1_2 ?_
    refine zx_tabIn (tgt := 46) (off := 45) dX9_answer_1 (by decide +kernel) (by decide +kernel) (by decide +kernel) (by decide) ?_
    refine zx_aload_n (k := 0) (nn := 47) dX9_answer_46 rfl rfl rfl ?_
    refine zx_iload_n (k := 2) (nn := 48) dX9_answer_47 rfl rfl rfl ?_
    refine zx_callV (nn := 51) (k := 65) (d' := 2) (as := [zi x]) (rest := []) (n := 1) (eX9_dims_65 σ μ x 0 ht (by omega)) kX9_dims mlX9_36 rfl rfl rfl (by decide) rfl rfl (Nat.le_of_ble_eq_true rfl) dX9_answer_48 rfl ?_
    rintro _ ν3 ⟨rfl, q1⟩
    show zX shC σ 4 MX9_answer 51 [(0, zr 65), (1, zi act), (2, zi x)] [zi (pDimV (μ 65 2) (μ 65 3) (μ 65 4) x)] ν3 _
    refine zx_istore_n (nn := 52) (lv' := [(3, zi (pDimV (μ 65 2) (μ 65 3) (μ 65 4) x)), (0, zr 65), (1, zi act), (2, zi x)]) dX9_answer_51 rfl (by decide) rfl rfl ?_
    refine zx_goto (tgt := 61) dX9_answer_52 (by decide) ?_
    refine zx_aload_n (k := 1) (nn := 62) dX9_answer_61 rfl rfl rfl ?_
    refine zx_getI (nn := 65) flX9_25 rfl rfl dX9_answer_62 rfl ?_
    have hL : pThL act (μ 65 2) (μ 65 3) (μ 65 4) = pDimL (μ 65 2) (μ 65 3) (μ 65 4) := by unfold pThL; rw [if_neg h1_0, if_neg h1_1, if_pos h1_2]
    have hV : pThV act (μ 65 2) (μ 65 3) (μ 65 4) x = pDimV (μ 65 2) (μ 65 3) (μ 65 4) x := by unfold pThV; rw [if_neg h1_0, if_neg h1_1, if_pos h1_2]
    have hP : pThP act (μ 65 2) (μ 65 3) (μ 65 4) = decide (μ 65 4 = μ 65 3) := by unfold pThP; rw [h1_2]; simp
    have hM : ν3 = if pThP act (μ 65 2) (μ 65 3) (μ 65 4) = true then zp (pPush 65 1 66 μ 0 (pThL act (μ 65 2) (μ 65 3) (μ 65 4))) 65 5 1 else pPush 65 1 66 μ 0 (pThL act (μ 65 2) (μ 65 3) (μ 65 4)) := by rw [q1, hL, hP]; simp only [decide_eq_true_eq]
    have h55 : ν3 65 5 = zb (pThP act (μ 65 2) (μ 65 3) (μ 65 4)) := by
      rw [hM]
      by_cases e : pThP act (μ 65 2) (μ 65 3) (μ 65 4) = true
      · rw [if_pos e, zp_eq, e]; rfl
      · rw [if_neg e, pPush_o (by decide) (Or.inr (by decide)), hp, Bool.eq_false_iff.mpr e]; rfl
    rw [h55, ← hV]
    show zX shC σ 4 MX9_answer 65 [(3, zi (pThV act (μ 65 2) (μ 65 3) (μ 65 4) x)), (0, zr 65), (1, zi act), (2, zi x)] [zi (zb (pThP act (μ 65 2) (μ 65 3) (μ 65 4)))] ν3 _
    refine zx_ifb_eq (tgt := 73) (nn := 68) dX9_answer_65 (by decide) rfl (fun h65 => ?_) (fun h65 => ?_)
    · refine zx_iload_n (k := 0) (nn := 74) dX9_answer_73 rfl rfl rfl ?_
      refine zx_iret rfl dX9_answer_74 ?_
      exact ⟨congrArg (fun x => some (zi x)) (by rw [if_neg (by rw [h65]; decide)]), hM⟩
    · refine zx_bipush (v := -15) (nn := 70) rfl dX9_answer_68 rfl ?_
      refine zx_goto (tgt := 74) dX9_answer_70 (by decide) ?_
      refine zx_iret rfl dX9_answer_74 ?_
      exact ⟨congrArg (fun x => some (zi x)) (by rw [if_pos h65]), hM⟩
  refine zx_tabOut (tgt := 55) dX9_answer_1 (zsw_out (lo := 0) (hi := 2) (fun k hk1 hk2 => by rcases (show k = 0 ∨ k = 1 ∨ k = 2 by omega) with rfl | rfl | rfl; exact lv_neT h1_0 rfl; exact lv_neT h1_1 rfl; exact lv_neT h1_2 rfl)) (by decide) ?_
  refine zx_aload_n (k := 0) (nn := 56) dX9_answer_55 rfl rfl rfl ?_
  refine zx_iload_n (k := 2) (nn := 57) dX9_answer_56 rfl rfl rfl ?_
  refine zx_callV (nn := 60) (k := 65) (d' := 3) (as := [zi x]) (rest := []) (n := 1) (eX9_follows_65 σ μ x 0 ht (by omega)) kX9_follows mlX9_39 rfl rfl rfl (by decide) rfl rfl (Nat.le_of_ble_eq_true rfl) dX9_answer_57 rfl ?_
  rintro _ ν4 ⟨rfl, q1⟩
  show zX shC σ 4 MX9_answer 60 [(0, zr 65), (1, zi act), (2, zi x)] [zi (pFoV (μ 65 2) (μ 65 3) (μ 65 4) x)] ν4 _
  refine zx_istore_n (nn := 61) (lv' := [(3, zi (pFoV (μ 65 2) (μ 65 3) (μ 65 4) x)), (0, zr 65), (1, zi act), (2, zi x)]) dX9_answer_60 rfl (by decide) rfl rfl ?_
  refine zx_aload_n (k := 1) (nn := 62) dX9_answer_61 rfl rfl rfl ?_
  refine zx_getI (nn := 65) flX9_25 rfl rfl dX9_answer_62 rfl ?_
  have hL : pThL act (μ 65 2) (μ 65 3) (μ 65 4) = pFoL (μ 65 2) (μ 65 3) (μ 65 4) := by unfold pThL; rw [if_neg h1_0, if_neg h1_1, if_neg h1_2]
  have hV : pThV act (μ 65 2) (μ 65 3) (μ 65 4) x = pFoV (μ 65 2) (μ 65 3) (μ 65 4) x := by unfold pThV; rw [if_neg h1_0, if_neg h1_1, if_neg h1_2]
  have hP : (pThP act (μ 65 2) (μ 65 3) (μ 65 4) = true) = (μ 65 2 = 3 ∧ μ 65 4 = μ 65 3) := by unfold pThP; simp [h1_0, h1_1, h1_2]; exact And.comm
  have hM : ν4 = if pThP act (μ 65 2) (μ 65 3) (μ 65 4) = true then zp (pPush 65 1 66 μ 0 (pThL act (μ 65 2) (μ 65 3) (μ 65 4))) 65 5 1 else pPush 65 1 66 μ 0 (pThL act (μ 65 2) (μ 65 3) (μ 65 4)) := by rw [q1, hL]; simp only [hP]
  have h55 : ν4 65 5 = zb (pThP act (μ 65 2) (μ 65 3) (μ 65 4)) := by
    rw [hM]
    by_cases e : pThP act (μ 65 2) (μ 65 3) (μ 65 4) = true
    · rw [if_pos e, zp_eq, e]; rfl
    · rw [if_neg e, pPush_o (by decide) (Or.inr (by decide)), hp, Bool.eq_false_iff.mpr e]; rfl
  rw [h55, ← hV]
  show zX shC σ 4 MX9_answer 65 [(3, zi (pThV act (μ 65 2) (μ 65 3) (μ 65 4) x)), (0, zr 65), (1, zi act), (2, zi x)] [zi (zb (pThP act (μ 65 2) (μ 65 3) (μ 65 4)))] ν4 _
  refine zx_ifb_eq (tgt := 73) (nn := 68) dX9_answer_65 (by decide) rfl (fun h65 => ?_) (fun h65 => ?_)
  · refine zx_iload_n (k := 0) (nn := 74) dX9_answer_73 rfl rfl rfl ?_
    refine zx_iret rfl dX9_answer_74 ?_
    exact ⟨congrArg (fun x => some (zi x)) (by rw [if_neg (by rw [h65]; decide)]), hM⟩
  · refine zx_bipush (v := -15) (nn := 70) rfl dX9_answer_68 rfl ?_
    refine zx_goto (tgt := 74) dX9_answer_70 (by decide) ?_
    refine zx_iret rfl dX9_answer_74 ?_
    exact ⟨congrArg (fun x => some (zi x)) (by rw [if_pos h65]), hM⟩
