theorem zJ_p {J : List Nat} {μ μ1 : zM} {k j : Nat} {v : Int32} (h : zJ J μ μ1) (hk : k ∈ J) : zJ J μ (zp μ1 k j v) := fun q hq => by
  rw [zp_ne (fun e => hq (by rw [e]; exact hk))]
  exact h q hq
theorem zJ_r {J : List Nat} {μ : zM} : zJ J μ μ := fun _ _ => rfl
theorem rS_x {μ ν : zM} (h : ∀ i, i < 47 → i ≠ 6 → ν 1 i = μ 1 i) : rS 1 ν = rS 1 μ := by
  funext i
  unfold rS
  by_cases c : i < 47 ∧ i ≠ 5 ∧ i ≠ 6
  · rw [if_pos c, if_pos c, h i c.1 c.2.2]
  · rw [if_neg c, if_neg c]
theorem wW_P {J K : List Nat} {μ μ' ν ν' : zM} (h : wW μ ν) (hJ : zJ J μ μ') (hK : zJ K ν ν') (h0 : ∀ j, (j = 3 ∨ j = 6 ∨ j = 27 ∨ j = 35) → ν' 0 j = ν 0 j) (h1 : ∀ i, i ≠ 6 → (i < 47 ∨ 70 < i) → ν' 1 i = ν 1 i) (new : wP 32 1 μ' ν') (dJ : ([0, 1, 2, 3, 4, 5, 7, 8, 15, 18, 19, 20, 21, 22, 23, 47, 49, 50, 51, 52, 54, 55, 57, 58, 59, 60, 62, 63, 64, 65, 66, 67, 68, 69, 70, 71, 72, 73, 74, 75, 76, 77, 78, 79, 80, 81, 82, 83, 84] : List Nat).all (fun k => decide (k ∉ J)) = true) (dK : ([2, 5, 17, 18, 19, 20, 21, 22, 23, 24] : List Nat).all (fun k => decide (k ∉ K)) = true) : wW μ' ν' := by
  obtain ⟨a1, a2, a3, a4, a5, a6, a7, a8, a9⟩ := h
  rw [List.all_eq_true] at dJ dK
  have c : ∀ k, k ∈ ([0, 1, 2, 3, 4, 5, 7, 8, 15, 18, 19, 20, 21, 22, 23, 47, 49, 50, 51, 52, 54, 55, 57, 58, 59, 60, 62, 63, 64, 65, 66, 67, 68, 69, 70, 71, 72, 73, 74, 75, 76, 77, 78, 79, 80, 81, 82, 83, 84] : List Nat) → μ' k = μ k := fun k hk => hJ k (by have := dJ k hk; rw [decide_eq_true_eq] at this; exact this)
  have d : ∀ k, k ∈ ([2, 5, 17, 18, 19, 20, 21, 22, 23, 24] : List Nat) → ν' k = ν k := fun k hk => hK k (by have := dK k hk; rw [decide_eq_true_eq] at this; exact this)
  refine ⟨wT_f (fun q hq => c _ ?_) (rS_x (fun i i1 i2 => h1 i i2 (Or.inl i1))) a1, wU_f (fun q hq => c _ ?_) (fun i hi => h1 i (by omega) (by omega)) a2, new, wF_f (by rw [c 7 (by decide)]) (c 8 (by decide)) (c 15 (by decide)) (h0 6 (by omega)) (d 5 (by decide)) a4, wR_f (by rw [c 47 (by decide)]) (fun k hk => c _ ?_) (h0 27 (by omega)) (d 17 (by decide)) a5, wH_f (c 54 (by decide)) (c 55 (by decide)) (fun k hk => c _ ?_) (d 18 (by decide)) (d 19 (by decide)) (d 20 (by decide)) a6, wL_f (c 62 (by decide)) (c 63 (by decide)) (c 64 (by decide)) (d 21 (by decide)) (d 22 (by decide)) (d 23 (by decide)) a7, wC_f (by rw [c 65 (by decide)]) (c 66 (by decide)) (h0 35 (by omega)) (d 24 (by decide)) a8, wK_f (by rw [c 0 (by decide)]) (fun k q1 q2 => c k ?_) (h0 3 (by omega)) (fun j _ => by rw [d 2 (by decide)]) a9⟩
  · rcases (show q = 0 ∨ q = 1 ∨ q = 2 ∨ q = 3 ∨ q = 4 ∨ q = 5 by omega) with rfl | rfl | rfl | rfl | rfl | rfl <;> decide
  · rcases (show q = 0 ∨ q = 1 ∨ q = 2 ∨ q = 3 ∨ q = 4 by omega) with rfl | rfl | rfl | rfl | rfl <;> decide
  · rcases (show k = 0 ∨ k = 1 ∨ k = 2 ∨ k = 3 by omega) with rfl | rfl | rfl | rfl <;> decide
  · rcases (show k = 0 ∨ k = 1 ∨ k = 2 ∨ k = 3 by omega) with rfl | rfl | rfl | rfl <;> decide
  · rcases (show k = 67 ∨ k = 68 ∨ k = 69 ∨ k = 70 ∨ k = 71 ∨ k = 72 ∨ k = 73 ∨ k = 74 ∨ k = 75 ∨ k = 76 ∨ k = 77 ∨ k = 78 ∨ k = 79 ∨ k = 80 ∨ k = 81 ∨ k = 82 ∨ k = 83 ∨ k = 84 by omega) with rfl | rfl | rfl | rfl | rfl | rfl | rfl | rfl | rfl | rfl | rfl | rfl | rfl | rfl | rfl | rfl | rfl | rfl <;> decide
theorem wW_F {J K : List Nat} {μ μ' ν ν' : zM} (h : wW μ ν) (hJ : zJ J μ μ') (hK : zJ K ν ν') (h0 : ∀ j, (j = 3 ∨ j = 27 ∨ j = 35) → ν' 0 j = ν 0 j) (new : wF μ' ν') (dJ : ([0, 1, 2, 3, 4, 5, 18, 19, 20, 21, 22, 23, 32, 33, 34, 35, 36, 47, 49, 50, 51, 52, 54, 55, 57, 58, 59, 60, 62, 63, 64, 65, 66, 67, 68, 69, 70, 71, 72, 73, 74, 75, 76, 77, 78, 79, 80, 81, 82, 83, 84] : List Nat).all (fun k => decide (k ∉ J)) = true) (dK : ([1, 2, 17, 18, 19, 20, 21, 22, 23, 24] : List Nat).all (fun k => decide (k ∉ K)) = true) : wW μ' ν' := by
  obtain ⟨a1, a2, a3, a4, a5, a6, a7, a8, a9⟩ := h
  rw [List.all_eq_true] at dJ dK
  have c : ∀ k, k ∈ ([0, 1, 2, 3, 4, 5, 18, 19, 20, 21, 22, 23, 32, 33, 34, 35, 36, 47, 49, 50, 51, 52, 54, 55, 57, 58, 59, 60, 62, 63, 64, 65, 66, 67, 68, 69, 70, 71, 72, 73, 74, 75, 76, 77, 78, 79, 80, 81, 82, 83, 84] : List Nat) → μ' k = μ k := fun k hk => hJ k (by have := dJ k hk; rw [decide_eq_true_eq] at this; exact this)
  have d : ∀ k, k ∈ ([1, 2, 17, 18, 19, 20, 21, 22, 23, 24] : List Nat) → ν' k = ν k := fun k hk => hK k (by have := dK k hk; rw [decide_eq_true_eq] at this; exact this)
  refine ⟨wT_f (fun q hq => c _ ?_) (rS_eq (d 1 (by decide))) a1, wU_f (fun q hq => c _ ?_) (fun i _ => by rw [d 1 (by decide)]) a2, wP_f (fun q hq => c _ ?_) (fun i _ => by rw [d 1 (by decide)]) a3, new, wR_f (by rw [c 47 (by decide)]) (fun k hk => c _ ?_) (h0 27 (by omega)) (d 17 (by decide)) a5, wH_f (c 54 (by decide)) (c 55 (by decide)) (fun k hk => c _ ?_) (d 18 (by decide)) (d 19 (by decide)) (d 20 (by decide)) a6, wL_f (c 62 (by decide)) (c 63 (by decide)) (c 64 (by decide)) (d 21 (by decide)) (d 22 (by decide)) (d 23 (by decide)) a7, wC_f (by rw [c 65 (by decide)]) (c 66 (by decide)) (h0 35 (by omega)) (d 24 (by decide)) a8, wK_f (by rw [c 0 (by decide)]) (fun k q1 q2 => c k ?_) (h0 3 (by omega)) (fun j _ => by rw [d 2 (by decide)]) a9⟩
  · rcases (show q = 0 ∨ q = 1 ∨ q = 2 ∨ q = 3 ∨ q = 4 ∨ q = 5 by omega) with rfl | rfl | rfl | rfl | rfl | rfl <;> decide
  · rcases (show q = 0 ∨ q = 1 ∨ q = 2 ∨ q = 3 ∨ q = 4 by omega) with rfl | rfl | rfl | rfl | rfl <;> decide
  · rcases (show q = 0 ∨ q = 1 ∨ q = 2 ∨ q = 3 ∨ q = 4 by omega) with rfl | rfl | rfl | rfl | rfl <;> decide
  · rcases (show k = 0 ∨ k = 1 ∨ k = 2 ∨ k = 3 by omega) with rfl | rfl | rfl | rfl <;> decide
  · rcases (show k = 0 ∨ k = 1 ∨ k = 2 ∨ k = 3 by omega) with rfl | rfl | rfl | rfl <;> decide
  · rcases (show k = 67 ∨ k = 68 ∨ k = 69 ∨ k = 70 ∨ k = 71 ∨ k = 72 ∨ k = 73 ∨ k = 74 ∨ k = 75 ∨ k = 76 ∨ k = 77 ∨ k = 78 ∨ k = 79 ∨ k = 80 ∨ k = 81 ∨ k = 82 ∨ k = 83 ∨ k = 84 by omega) with rfl | rfl | rfl | rfl | rfl | rfl | rfl | rfl | rfl | rfl | rfl | rfl | rfl | rfl | rfl | rfl | rfl | rfl <;> decide
theorem wW_R {J K : List Nat} {μ μ' ν ν' : zM} (h : wW μ ν) (hJ : zJ J μ μ') (hK : zJ K ν ν') (h0 : ∀ j, (j = 3 ∨ j = 6 ∨ j = 35) → ν' 0 j = ν 0 j) (new : wR μ' ν') (dJ : ([0, 1, 2, 3, 4, 5, 7, 8, 15, 18, 19, 20, 21, 22, 23, 32, 33, 34, 35, 36, 54, 55, 57, 58, 59, 60, 62, 63, 64, 65, 66, 67, 68, 69, 70, 71, 72, 73, 74, 75, 76, 77, 78, 79, 80, 81, 82, 83, 84] : List Nat).all (fun k => decide (k ∉ J)) = true) (dK : ([1, 2, 5, 18, 19, 20, 21, 22, 23, 24] : List Nat).all (fun k => decide (k ∉ K)) = true) : wW μ' ν' := by
  obtain ⟨a1, a2, a3, a4, a5, a6, a7, a8, a9⟩ := h
  rw [List.all_eq_true] at dJ dK
  have c : ∀ k, k ∈ ([0, 1, 2, 3, 4, 5, 7, 8, 15, 18, 19, 20, 21, 22, 23, 32, 33, 34, 35, 36, 54, 55, 57, 58, 59, 60, 62, 63, 64, 65, 66, 67, 68, 69, 70, 71, 72, 73, 74, 75, 76, 77, 78, 79, 80, 81, 82, 83, 84] : List Nat) → μ' k = μ k := fun k hk => hJ k (by have := dJ k hk; rw [decide_eq_true_eq] at this; exact this)
  have d : ∀ k, k ∈ ([1, 2, 5, 18, 19, 20, 21, 22, 23, 24] : List Nat) → ν' k = ν k := fun k hk => hK k (by have := dK k hk; rw [decide_eq_true_eq] at this; exact this)
  refine ⟨wT_f (fun q hq => c _ ?_) (rS_eq (d 1 (by decide))) a1, wU_f (fun q hq => c _ ?_) (fun i _ => by rw [d 1 (by decide)]) a2, wP_f (fun q hq => c _ ?_) (fun i _ => by rw [d 1 (by decide)]) a3, wF_f (by rw [c 7 (by decide)]) (c 8 (by decide)) (c 15 (by decide)) (h0 6 (by omega)) (d 5 (by decide)) a4, new, wH_f (c 54 (by decide)) (c 55 (by decide)) (fun k hk => c _ ?_) (d 18 (by decide)) (d 19 (by decide)) (d 20 (by decide)) a6, wL_f (c 62 (by decide)) (c 63 (by decide)) (c 64 (by decide)) (d 21 (by decide)) (d 22 (by decide)) (d 23 (by decide)) a7, wC_f (by rw [c 65 (by decide)]) (c 66 (by decide)) (h0 35 (by omega)) (d 24 (by decide)) a8, wK_f (by rw [c 0 (by decide)]) (fun k q1 q2 => c k ?_) (h0 3 (by omega)) (fun j _ => by rw [d 2 (by decide)]) a9⟩
  · rcases (show q = 0 ∨ q = 1 ∨ q = 2 ∨ q = 3 ∨ q = 4 ∨ q = 5 by omega) with rfl | rfl | rfl | rfl | rfl | rfl <;> decide
  · rcases (show q = 0 ∨ q = 1 ∨ q = 2 ∨ q = 3 ∨ q = 4 by omega) with rfl | rfl | rfl | rfl | rfl <;> decide
  · rcases (show q = 0 ∨ q = 1 ∨ q = 2 ∨ q = 3 ∨ q = 4 by omega) with rfl | rfl | rfl | rfl | rfl <;> decide
  · rcases (show k = 0 ∨ k = 1 ∨ k = 2 ∨ k = 3 by omega) with rfl | rfl | rfl | rfl <;> decide
  · rcases (show k = 67 ∨ k = 68 ∨ k = 69 ∨ k = 70 ∨ k = 71 ∨ k = 72 ∨ k = 73 ∨ k = 74 ∨ k = 75 ∨ k = 76 ∨ k = 77 ∨ k = 78 ∨ k = 79 ∨ k = 80 ∨ k = 81 ∨ k = 82 ∨ k = 83 ∨ k = 84 by omega) with rfl | rfl | rfl | rfl | rfl | rfl | rfl | rfl | rfl | rfl | rfl | rfl | rfl | rfl | rfl | rfl | rfl | rfl <;> decide
theorem wW_H {J K : List Nat} {μ μ' ν ν' : zM} (h : wW μ ν) (hJ : zJ J μ μ') (hK : zJ K ν ν') (h0 : ∀ j, (j = 3 ∨ j = 6 ∨ j = 27 ∨ j = 35) → ν' 0 j = ν 0 j) (new : wH μ' ν') (dJ : ([0, 1, 2, 3, 4, 5, 7, 8, 15, 18, 19, 20, 21, 22, 23, 32, 33, 34, 35, 36, 47, 49, 50, 51, 52, 62, 63, 64, 65, 66, 67, 68, 69, 70, 71, 72, 73, 74, 75, 76, 77, 78, 79, 80, 81, 82, 83, 84] : List Nat).all (fun k => decide (k ∉ J)) = true) (dK : ([1, 2, 5, 17, 21, 22, 23, 24] : List Nat).all (fun k => decide (k ∉ K)) = true) : wW μ' ν' := by
  obtain ⟨a1, a2, a3, a4, a5, a6, a7, a8, a9⟩ := h
  rw [List.all_eq_true] at dJ dK
  have c : ∀ k, k ∈ ([0, 1, 2, 3, 4, 5, 7, 8, 15, 18, 19, 20, 21, 22, 23, 32, 33, 34, 35, 36, 47, 49, 50, 51, 52, 62, 63, 64, 65, 66, 67, 68, 69, 70, 71, 72, 73, 74, 75, 76, 77, 78, 79, 80, 81, 82, 83, 84] : List Nat) → μ' k = μ k := fun k hk => hJ k (by have := dJ k hk; rw [decide_eq_true_eq] at this; exact this)
  have d : ∀ k, k ∈ ([1, 2, 5, 17, 21, 22, 23, 24] : List Nat) → ν' k = ν k := fun k hk => hK k (by have := dK k hk; rw [decide_eq_true_eq] at this; exact this)
  refine ⟨wT_f (fun q hq => c _ ?_) (rS_eq (d 1 (by decide))) a1, wU_f (fun q hq => c _ ?_) (fun i _ => by rw [d 1 (by decide)]) a2, wP_f (fun q hq => c _ ?_) (fun i _ => by rw [d 1 (by decide)]) a3, wF_f (by rw [c 7 (by decide)]) (c 8 (by decide)) (c 15 (by decide)) (h0 6 (by omega)) (d 5 (by decide)) a4, wR_f (by rw [c 47 (by decide)]) (fun k hk => c _ ?_) (h0 27 (by omega)) (d 17 (by decide)) a5, new, wL_f (c 62 (by decide)) (c 63 (by decide)) (c 64 (by decide)) (d 21 (by decide)) (d 22 (by decide)) (d 23 (by decide)) a7, wC_f (by rw [c 65 (by decide)]) (c 66 (by decide)) (h0 35 (by omega)) (d 24 (by decide)) a8, wK_f (by rw [c 0 (by decide)]) (fun k q1 q2 => c k ?_) (h0 3 (by omega)) (fun j _ => by rw [d 2 (by decide)]) a9⟩
  · rcases (show q = 0 ∨ q = 1 ∨ q = 2 ∨ q = 3 ∨ q = 4 ∨ q = 5 by omega) with rfl | rfl | rfl | rfl | rfl | rfl <;> decide
  · rcases (show q = 0 ∨ q = 1 ∨ q = 2 ∨ q = 3 ∨ q = 4 by omega) with rfl | rfl | rfl | rfl | rfl <;> decide
  · rcases (show q = 0 ∨ q = 1 ∨ q = 2 ∨ q = 3 ∨ q = 4 by omega) with rfl | rfl | rfl | rfl | rfl <;> decide
  · rcases (show k = 0 ∨ k = 1 ∨ k = 2 ∨ k = 3 by omega) with rfl | rfl | rfl | rfl <;> decide
  · rcases (show k = 67 ∨ k = 68 ∨ k = 69 ∨ k = 70 ∨ k = 71 ∨ k = 72 ∨ k = 73 ∨ k = 74 ∨ k = 75 ∨ k = 76 ∨ k = 77 ∨ k = 78 ∨ k = 79 ∨ k = 80 ∨ k = 81 ∨ k = 82 ∨ k = 83 ∨ k = 84 by omega) with rfl | rfl | rfl | rfl | rfl | rfl | rfl | rfl | rfl | rfl | rfl | rfl | rfl | rfl | rfl | rfl | rfl | rfl <;> decide
theorem wW_L {J K : List Nat} {μ μ' ν ν' : zM} (h : wW μ ν) (hJ : zJ J μ μ') (hK : zJ K ν ν') (h0 : ∀ j, (j = 3 ∨ j = 6 ∨ j = 27 ∨ j = 35) → ν' 0 j = ν 0 j) (new : wL μ' ν') (dJ : ([0, 1, 2, 3, 4, 5, 7, 8, 15, 18, 19, 20, 21, 22, 23, 32, 33, 34, 35, 36, 47, 49, 50, 51, 52, 54, 55, 57, 58, 59, 60, 65, 66, 67, 68, 69, 70, 71, 72, 73, 74, 75, 76, 77, 78, 79, 80, 81, 82, 83, 84] : List Nat).all (fun k => decide (k ∉ J)) = true) (dK : ([1, 2, 5, 17, 18, 19, 20, 24] : List Nat).all (fun k => decide (k ∉ K)) = true) : wW μ' ν' := by
  obtain ⟨a1, a2, a3, a4, a5, a6, a7, a8, a9⟩ := h
  rw [List.all_eq_true] at dJ dK
  have c : ∀ k, k ∈ ([0, 1, 2, 3, 4, 5, 7, 8, 15, 18, 19, 20, 21, 22, 23, 32, 33, 34, 35, 36, 47, 49, 50, 51, 52, 54, 55, 57, 58, 59, 60, 65, 66, 67, 68, 69, 70, 71, 72, 73, 74, 75, 76, 77, 78, 79, 80, 81, 82, 83, 84] : List Nat) → μ' k = μ k := fun k hk => hJ k (by have := dJ k hk; rw [decide_eq_true_eq] at this; exact this)
  have d : ∀ k, k ∈ ([1, 2, 5, 17, 18, 19, 20, 24] : List Nat) → ν' k = ν k := fun k hk => hK k (by have := dK k hk; rw [decide_eq_true_eq] at this; exact this)
  refine ⟨wT_f (fun q hq => c _ ?_) (rS_eq (d 1 (by decide))) a1, wU_f (fun q hq => c _ ?_) (fun i _ => by rw [d 1 (by decide)]) a2, wP_f (fun q hq => c _ ?_) (fun i _ => by rw [d 1 (by decide)]) a3, wF_f (by rw [c 7 (by decide)]) (c 8 (by decide)) (c 15 (by decide)) (h0 6 (by omega)) (d 5 (by decide)) a4, wR_f (by rw [c 47 (by decide)]) (fun k hk => c _ ?_) (h0 27 (by omega)) (d 17 (by decide)) a5, wH_f (c 54 (by decide)) (c 55 (by decide)) (fun k hk => c _ ?_) (d 18 (by decide)) (d 19 (by decide)) (d 20 (by decide)) a6, new, wC_f (by rw [c 65 (by decide)]) (c 66 (by decide)) (h0 35 (by omega)) (d 24 (by decide)) a8, wK_f (by rw [c 0 (by decide)]) (fun k q1 q2 => c k ?_) (h0 3 (by omega)) (fun j _ => by rw [d 2 (by decide)]) a9⟩
  · rcases (show q = 0 ∨ q = 1 ∨ q = 2 ∨ q = 3 ∨ q = 4 ∨ q = 5 by omega) with rfl | rfl | rfl | rfl | rfl | rfl <;> decide
  · rcases (show q = 0 ∨ q = 1 ∨ q = 2 ∨ q = 3 ∨ q = 4 by omega) with rfl | rfl | rfl | rfl | rfl <;> decide
  · rcases (show q = 0 ∨ q = 1 ∨ q = 2 ∨ q = 3 ∨ q = 4 by omega) with rfl | rfl | rfl | rfl | rfl <;> decide
  · rcases (show k = 0 ∨ k = 1 ∨ k = 2 ∨ k = 3 by omega) with rfl | rfl | rfl | rfl <;> decide
  · rcases (show k = 0 ∨ k = 1 ∨ k = 2 ∨ k = 3 by omega) with rfl | rfl | rfl | rfl <;> decide
  · rcases (show k = 67 ∨ k = 68 ∨ k = 69 ∨ k = 70 ∨ k = 71 ∨ k = 72 ∨ k = 73 ∨ k = 74 ∨ k = 75 ∨ k = 76 ∨ k = 77 ∨ k = 78 ∨ k = 79 ∨ k = 80 ∨ k = 81 ∨ k = 82 ∨ k = 83 ∨ k = 84 by omega) with rfl | rfl | rfl | rfl | rfl | rfl | rfl | rfl | rfl | rfl | rfl | rfl | rfl | rfl | rfl | rfl | rfl | rfl <;> decide
theorem wW_C {J K : List Nat} {μ μ' ν ν' : zM} (h : wW μ ν) (hJ : zJ J μ μ') (hK : zJ K ν ν') (h0 : ∀ j, (j = 3 ∨ j = 6 ∨ j = 27) → ν' 0 j = ν 0 j) (new : wC μ' ν') (dJ : ([0, 1, 2, 3, 4, 5, 7, 8, 15, 18, 19, 20, 21, 22, 23, 32, 33, 34, 35, 36, 47, 49, 50, 51, 52, 54, 55, 57, 58, 59, 60, 62, 63, 64, 67, 68, 69, 70, 71, 72, 73, 74, 75, 76, 77, 78, 79, 80, 81, 82, 83, 84] : List Nat).all (fun k => decide (k ∉ J)) = true) (dK : ([1, 2, 5, 17, 18, 19, 20, 21, 22, 23] : List Nat).all (fun k => decide (k ∉ K)) = true) : wW μ' ν' := by
  obtain ⟨a1, a2, a3, a4, a5, a6, a7, a8, a9⟩ := h
  rw [List.all_eq_true] at dJ dK
  have c : ∀ k, k ∈ ([0, 1, 2, 3, 4, 5, 7, 8, 15, 18, 19, 20, 21, 22, 23, 32, 33, 34, 35, 36, 47, 49, 50, 51, 52, 54, 55, 57, 58, 59, 60, 62, 63, 64, 67, 68, 69, 70, 71, 72, 73, 74, 75, 76, 77, 78, 79, 80, 81, 82, 83, 84] : List Nat) → μ' k = μ k := fun k hk => hJ k (by have := dJ k hk; rw [decide_eq_true_eq] at this; exact this)
  have d : ∀ k, k ∈ ([1, 2, 5, 17, 18, 19, 20, 21, 22, 23] : List Nat) → ν' k = ν k := fun k hk => hK k (by have := dK k hk; rw [decide_eq_true_eq] at this; exact this)
  refine ⟨wT_f (fun q hq => c _ ?_) (rS_eq (d 1 (by decide))) a1, wU_f (fun q hq => c _ ?_) (fun i _ => by rw [d 1 (by decide)]) a2, wP_f (fun q hq => c _ ?_) (fun i _ => by rw [d 1 (by decide)]) a3, wF_f (by rw [c 7 (by decide)]) (c 8 (by decide)) (c 15 (by decide)) (h0 6 (by omega)) (d 5 (by decide)) a4, wR_f (by rw [c 47 (by decide)]) (fun k hk => c _ ?_) (h0 27 (by omega)) (d 17 (by decide)) a5, wH_f (c 54 (by decide)) (c 55 (by decide)) (fun k hk => c _ ?_) (d 18 (by decide)) (d 19 (by decide)) (d 20 (by decide)) a6, wL_f (c 62 (by decide)) (c 63 (by decide)) (c 64 (by decide)) (d 21 (by decide)) (d 22 (by decide)) (d 23 (by decide)) a7, new, wK_f (by rw [c 0 (by decide)]) (fun k q1 q2 => c k ?_) (h0 3 (by omega)) (fun j _ => by rw [d 2 (by decide)]) a9⟩
  · rcases (show q = 0 ∨ q = 1 ∨ q = 2 ∨ q = 3 ∨ q = 4 ∨ q = 5 by omega) with rfl | rfl | rfl | rfl | rfl | rfl <;> decide
  · rcases (show q = 0 ∨ q = 1 ∨ q = 2 ∨ q = 3 ∨ q = 4 by omega) with rfl | rfl | rfl | rfl | rfl <;> decide
  · rcases (show q = 0 ∨ q = 1 ∨ q = 2 ∨ q = 3 ∨ q = 4 by omega) with rfl | rfl | rfl | rfl | rfl <;> decide
  · rcases (show k = 0 ∨ k = 1 ∨ k = 2 ∨ k = 3 by omega) with rfl | rfl | rfl | rfl <;> decide
  · rcases (show k = 0 ∨ k = 1 ∨ k = 2 ∨ k = 3 by omega) with rfl | rfl | rfl | rfl <;> decide
  · rcases (show k = 67 ∨ k = 68 ∨ k = 69 ∨ k = 70 ∨ k = 71 ∨ k = 72 ∨ k = 73 ∨ k = 74 ∨ k = 75 ∨ k = 76 ∨ k = 77 ∨ k = 78 ∨ k = 79 ∨ k = 80 ∨ k = 81 ∨ k = 82 ∨ k = 83 ∨ k = 84 by omega) with rfl | rfl | rfl | rfl | rfl | rfl | rfl | rfl | rfl | rfl | rfl | rfl | rfl | rfl | rfl | rfl | rfl | rfl <;> decide
theorem wW_K {J K : List Nat} {μ μ' ν ν' : zM} (h : wW μ ν) (hJ : zJ J μ μ') (hK : zJ K ν ν') (h0 : ∀ j, (j = 6 ∨ j = 27 ∨ j = 35) → ν' 0 j = ν 0 j) (new : wK μ' ν') (dJ : ([1, 2, 3, 4, 5, 7, 8, 15, 18, 19, 20, 21, 22, 23, 32, 33, 34, 35, 36, 47, 49, 50, 51, 52, 54, 55, 57, 58, 59, 60, 62, 63, 64, 65, 66] : List Nat).all (fun k => decide (k ∉ J)) = true) (dK : ([1, 5, 17, 18, 19, 20, 21, 22, 23, 24] : List Nat).all (fun k => decide (k ∉ K)) = true) : wW μ' ν' := by
  obtain ⟨a1, a2, a3, a4, a5, a6, a7, a8, a9⟩ := h
  rw [List.all_eq_true] at dJ dK
  have c : ∀ k, k ∈ ([1, 2, 3, 4, 5, 7, 8, 15, 18, 19, 20, 21, 22, 23, 32, 33, 34, 35, 36, 47, 49, 50, 51, 52, 54, 55, 57, 58, 59, 60, 62, 63, 64, 65, 66] : List Nat) → μ' k = μ k := fun k hk => hJ k (by have := dJ k hk; rw [decide_eq_true_eq] at this; exact this)
  have d : ∀ k, k ∈ ([1, 5, 17, 18, 19, 20, 21, 22, 23, 24] : List Nat) → ν' k = ν k := fun k hk => hK k (by have := dK k hk; rw [decide_eq_true_eq] at this; exact this)
  refine ⟨wT_f (fun q hq => c _ ?_) (rS_eq (d 1 (by decide))) a1, wU_f (fun q hq => c _ ?_) (fun i _ => by rw [d 1 (by decide)]) a2, wP_f (fun q hq => c _ ?_) (fun i _ => by rw [d 1 (by decide)]) a3, wF_f (by rw [c 7 (by decide)]) (c 8 (by decide)) (c 15 (by decide)) (h0 6 (by omega)) (d 5 (by decide)) a4, wR_f (by rw [c 47 (by decide)]) (fun k hk => c _ ?_) (h0 27 (by omega)) (d 17 (by decide)) a5, wH_f (c 54 (by decide)) (c 55 (by decide)) (fun k hk => c _ ?_) (d 18 (by decide)) (d 19 (by decide)) (d 20 (by decide)) a6, wL_f (c 62 (by decide)) (c 63 (by decide)) (c 64 (by decide)) (d 21 (by decide)) (d 22 (by decide)) (d 23 (by decide)) a7, wC_f (by rw [c 65 (by decide)]) (c 66 (by decide)) (h0 35 (by omega)) (d 24 (by decide)) a8, new⟩
  · rcases (show q = 0 ∨ q = 1 ∨ q = 2 ∨ q = 3 ∨ q = 4 ∨ q = 5 by omega) with rfl | rfl | rfl | rfl | rfl | rfl <;> decide
  · rcases (show q = 0 ∨ q = 1 ∨ q = 2 ∨ q = 3 ∨ q = 4 by omega) with rfl | rfl | rfl | rfl | rfl <;> decide
  · rcases (show q = 0 ∨ q = 1 ∨ q = 2 ∨ q = 3 ∨ q = 4 by omega) with rfl | rfl | rfl | rfl | rfl <;> decide
  · rcases (show k = 0 ∨ k = 1 ∨ k = 2 ∨ k = 3 by omega) with rfl | rfl | rfl | rfl <;> decide
  · rcases (show k = 0 ∨ k = 1 ∨ k = 2 ∨ k = 3 by omega) with rfl | rfl | rfl | rfl <;> decide
theorem w_report (b : Int32) (a : Int32) (z : Int32) (g : Int32) : wCall 2 MX10_report yX10_report 1 MX11_report yX11_report [zr 0, zi b, zi a, zi z, zi g] := by
  intro σ τ μ ν h
  have hW := h
  obtain ⟨⟨e, ok, ab⟩, ⟨rok, hρ⟩, a3, a4, a5, a6, a7, a8, a9⟩ := h
  obtain ⟨n, n6, h1, h2, h3⟩ := a3
  refine ⟨_, _, eX10_report_0 σ μ b a z g n h1 n6, eX11_report_0 τ ν b a z g n h2 n6, ?_⟩
  rintro r μ' t ν' ⟨p1, rfl⟩ ⟨q1, rfl⟩
  refine ⟨_, p1, q1, ?_⟩
  by_cases c : vReportC b a z g = true
  · by_cases d : n < 6
    · rw [if_pos c, if_pos c, if_pos d, if_pos d]
      unfold vReportC pTold at c
      rw [Bool.and_eq_true, Bool.and_eq_true, Bool.and_eq_true, if_pos rfl, if_neg (by decide), if_pos rfl] at c
      obtain ⟨⟨_, c2⟩, c3⟩ := c
      unfold pIn at c2 c3
      rw [Bool.and_eq_true, decide_eq_true_eq, decide_eq_true_eq] at c2 c3
      refine wW_P (J := [32, 33, 34, 35, 36]) (K := [1]) hW (zJ_p (zJ_p (zJ_p (zJ_p (zJ_p zJ_r (by decide)) (by decide)) (by decide)) (by decide)) (by decide)) (zJ_p (zJ_p (zJ_p (zJ_p (zJ_p zJ_r (by decide)) (by decide)) (by decide)) (by decide)) (by decide)) (fun j _ => by rw [zp_ne (by omega), zp_ne (by omega), zp_ne (by omega), zp_ne (by omega), zp_ne (by omega)]) (fun i i6 hi => ?_) ?_ (by decide) (by decide)
      · simp only [zp_eq, upd]
        rw [if_neg (by omega), if_neg (by omega), if_neg (by omega), if_neg (by omega), if_neg (by omega)]
      · refine ⟨n + 1, by omega, ?_, ?_, fun q hq => ?_⟩
        · rw [zp_eq]; unfold upd; rw [if_pos rfl, nI_1]
        · rw [zp_eq]; unfold upd; rw [if_pos rfl]
        · have hr : ∀ i, i ≠ 6 → zp (zp (zp (zp (zp ν 1 (47 + 4 * n) b) 1 (47 + 4 * n + 1) a) 1 (47 + 4 * n + 2) z) 1 (47 + 4 * n + 3) g) 1 6 (nI (n + 1)) 1 i = if i = 47 + 4 * n + 3 then g else if i = 47 + 4 * n + 2 then z else if i = 47 + 4 * n + 1 then a else if i = 47 + 4 * n then b else ν 1 i := fun i hi => by
            simp only [zp_eq, upd]
            rw [if_neg hi]
          have hl : ∀ w, w < 4 → cP 32 (zp (zp (zp (zp (zp μ 33 n b) 34 n a) 35 n z) 36 n g) 32 4 (nI n + 1)) q w = if q = n then (if w = 3 then g else if w = 2 then z else if w = 1 then a else b) else cP 32 μ q w := fun w hw => by
            unfold cP
            rcases (show w = 0 ∨ w = 1 ∨ w = 2 ∨ w = 3 by omega) with rfl | rfl | rfl | rfl <;> simp [zp, zu, upd]
          by_cases e1 : q = n
          · subst e1
            rw [hr _ (by omega), if_neg (by omega), if_neg (by omega), if_pos rfl, hr _ (by omega), if_neg (by omega), if_pos rfl]
            refine ⟨fun w hw => ?_, c2, c3⟩
            rw [hl w hw, if_pos rfl, hr _ (by omega)]
            rcases (show w = 0 ∨ w = 1 ∨ w = 2 ∨ w = 3 by omega) with rfl | rfl | rfl | rfl
            · rw [if_neg (by omega), if_neg (by omega), if_neg (by omega), if_neg (by omega), if_neg (by omega), if_neg (by omega), if_pos (by omega)]
            · rw [if_neg (by omega), if_neg (by omega), if_pos rfl, if_neg (by omega), if_neg (by omega), if_pos rfl]
            · rw [if_neg (by omega), if_pos rfl, if_neg (by omega), if_pos rfl]
            · rw [if_pos rfl, if_pos rfl]
          · obtain ⟨g1, g2, g3⟩ := h3 q (by omega)
            have hs : ∀ w, w < 4 → zp (zp (zp (zp (zp ν 1 (47 + 4 * n) b) 1 (47 + 4 * n + 1) a) 1 (47 + 4 * n + 2) z) 1 (47 + 4 * n + 3) g) 1 6 (nI (n + 1)) 1 (47 + 4 * q + w) = ν 1 (47 + 4 * q + w) := fun w hw => by
              rw [hr _ (by omega), if_neg (by omega), if_neg (by omega), if_neg (by omega), if_neg (by omega)]
            rw [hs 1 (by omega), hs 2 (by omega)]
            refine ⟨fun w hw => ?_, g2, g3⟩
            rw [hl w hw, if_neg e1, hs w hw]
            exact g1 w hw
    · rw [if_pos c, if_pos c, if_neg d, if_neg d]; exact hW
  · rw [if_neg c, if_neg c]; exact hW
theorem w_forget : wCall 0 MX10_forget yX10_forget 1 MX11_forget yX11_forget [zr 0] := by
  intro σ τ μ ν h
  have hW := h
  obtain ⟨⟨e, ok, ab⟩, ⟨rok, hρ⟩, a3, a4, a5, a6, a7, a8, a9⟩ := h
  have a3' := a3
  obtain ⟨n, n6, h1, h2, h3⟩ := a3
  refine ⟨_, _, eX10_forget_0 σ μ, eX11_forget_0 τ ν, ?_⟩
  rintro r μ' t ν' ⟨p1, rfl⟩ ⟨q1, rfl⟩
  refine ⟨_, p1, by rw [q1, h1, h2], ?_⟩
  refine wW_P (J := [32]) (K := [1]) hW (zJ_p zJ_r (by decide)) (zJ_p zJ_r (by decide)) (fun j _ => by rw [zp_ne (by omega)]) (fun i i6 hi => ?_) ⟨0, by omega, ?_, ?_, fun q hq => absurd hq (by omega)⟩ (by decide) (by decide)
  · rw [zp_eq]; unfold upd; rw [if_neg (by omega)]
  · rw [zp_eq]; unfold upd; rw [if_pos rfl]; rfl
  · rw [zp_eq]; unfold upd; rw [if_pos rfl]; rfl
theorem w_alterRow (k : Int32) (w : Int32) (v : Int32) : wCall 1 MX10_alterRow yX10_alterRow 2 MX11_alterRow yX11_alterRow [zr 0, zi k, zi w, zi v] := by
  intro σ τ μ ν h
  have hW := h
  obtain ⟨⟨e, ok, ab⟩, ⟨rok, hρ⟩, a3, a4, a5, a6, a7, a8, a9⟩ := h
  obtain ⟨c, c4, h1, h2, h3⟩ := a5
  refine ⟨_, _, eX10_alterRow_0 σ μ k w v c c4 h1, eX11_alterRow_0 τ ν k w v c c4 h2, ?_⟩
  rintro r μ' t ν' ⟨p1, rfl⟩ ⟨q1, rfl⟩
  refine ⟨_, p1, by rw [q1, wRow_v c4 h1 h3], ?_⟩
  rw [h1]
  by_cases q : (pHas (nI c) k && pHas 3 w) = true
  · rw [if_pos q, if_pos q]
    obtain ⟨k1, w1, ⟨i1, i2, i3, i4, i5⟩, rfl, rfl⟩ := pHas_row c4 q
    rw [i3, i4]
    refine wW_R (J := [49, 50, 51, 52]) (K := [17]) hW (zJ_p zJ_r ?_) (zJ_p zJ_r (by decide)) (fun j _ => by rw [zp_ne (by omega)]) ⟨c, c4, by rw [zp_ne (by omega)]; exact h1, by rw [zp_ne (by omega)]; exact h2, fun m hm x hx => ?_⟩ (by decide) (by decide)
    · rcases (show k1 = 0 ∨ k1 = 1 ∨ k1 = 2 ∨ k1 = 3 by omega) with rfl | rfl | rfl | rfl <;> decide
    · rw [zp_eq]
      by_cases e1 : m = k1
      · subst e1
        rw [zp_eq]
        unfold upd
        by_cases e2 : x = w1
        · rw [if_pos e2, if_pos (by omega)]
        · rw [if_neg e2, if_neg (by omega)]; exact h3 m hm x hx
      · rw [zp_ne (by omega)]
        unfold upd
        rw [if_neg (by omega)]; exact h3 m hm x hx
  · rw [if_neg q, if_neg q]; exact hW
theorem w_write (k : Int32) (i : Int32) (v : Int32) : wCall 2 MX10_write yX10_write 2 MX11_write yX11_write [zr 0, zi k, zi i, zi v] := by
  intro σ τ μ ν h
  have hW := h
  obtain ⟨⟨e, ok, ab⟩, ⟨rok, hρ⟩, a3, a4, a5, a6, a7, a8, a9⟩ := h
  refine ⟨_, _, eX10_write_0 σ μ k i v (wH_c a6), eX11_write_0 τ ν k i v (wH_r a6), ?_⟩
  rintro r μ' t ν' ⟨p1, rfl⟩ ⟨q1, rfl⟩
  by_cases c : pHas 4 k = true
  · obtain ⟨j, ⟨j1, j2, j3⟩, e⟩ := has_ok (s := fun _ => 0) (x := 4) (m := 4) (c := 4) rfl (Nat.le_refl _) (by omega) c
    subst e
    obtain ⟨g1, g2, g3, ⟨ln, l4, g4⟩, g5⟩ := a6 j j1
    refine ⟨_, p1, ?_, ?_⟩
    · rw [q1]
      unfold vWrite
      rw [if_pos c, if_pos c, j3, g1, g2]
      simp only [lt0_m1 g3.1]
    · rw [j3, g1, g2]
      simp only [lt0_m1 g3.1]
      by_cases q : pHas 4 (nI j) = true ∧ ¬ ν 18 j = -1 ∧ pHas (ν 19 j) i = true
      · rw [if_pos q, if_pos q]
        obtain ⟨i1, ⟨m1, m2, m3⟩, e⟩ := has_item g4 l4 q.2.2
        subst e
        rw [m3]
        refine wW_H (J := [57, 58, 59, 60]) (K := [20]) hW (zJ_p zJ_r ?_) (zJ_p zJ_r (by decide)) (fun j _ => by rw [zp_ne (by omega)]) (fun k hk => ?_) (by decide) (by decide)
        · rcases (show j = 0 ∨ j = 1 ∨ j = 2 ∨ j = 3 by omega) with rfl | rfl | rfl | rfl <;> decide
        · obtain ⟨b1, b2, b3, b4, b5⟩ := a6 k hk
          rw [zp_ne (by omega), zp_ne (by omega), zp_ne (by omega), zp_ne (by omega), zp_eq]
          refine ⟨b1, b2, b3, b4, fun x hx => ?_⟩
          by_cases e1 : k = j
          · subst e1
            rw [zp_eq]
            unfold upd
            by_cases e2 : x = i1
            · rw [if_pos e2, if_pos (by omega)]
            · rw [if_neg e2, if_neg (by omega)]; exact b5 x hx
          · rw [zp_ne (by omega)]
            unfold upd
            rw [if_neg (by omega)]; exact b5 x hx
      · rw [if_neg q, if_neg q]; exact hW
  · refine ⟨_, p1, ?_, ?_⟩
    · rw [q1]
      unfold vWrite
      rw [if_neg c, if_neg c]
    · rw [if_neg (fun q => c q.1), if_neg (fun q => c q.1)]; exact hW
