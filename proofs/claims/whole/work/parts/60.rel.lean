/-! what the class's state and the reference's have in common -/
def wT (b k : Nat) (μ ν : zM) : Prop := cS b μ = rS k ν ∧ pOK (rS k ν) ∧ pAB (rS k ν)
def wU (b k : Nat) (μ ν : zM) : Prop := cROK b μ ∧ rRep (cR b μ) (ν k)
def wP (b k : Nat) (μ ν : zM) : Prop := ∃ n, n ≤ 6 ∧ μ b 4 = nI n ∧ ν k 6 = nI n ∧ ∀ r, r < n → (∀ w, w < 4 → cP b μ r w = ν k (47 + 4 * r + w)) ∧ (0 ≤ ν k (47 + 4 * r + 1) ∧ ν k (47 + 4 * r + 1) ≤ 40) ∧ (0 ≤ ν k (47 + 4 * r + 2) ∧ ν k (47 + 4 * r + 2) ≤ 9)
def wF (μ ν : zM) : Prop := (∃ len, len ≤ 200 ∧ μ 7 5 = nI len ∧ ν 0 6 = nI len ∧ ∀ j, j < len → μ 8 j = ν 5 j ∧ 0 ≤ ν 5 j ∧ ν 5 j ≤ 255) ∧ ∀ r, r < 8 → ∃ e, e ≤ 200 ∧ μ 15 r = nI e
def wR (μ ν : zM) : Prop := ∃ c, c ≤ 4 ∧ μ 47 3 = nI c ∧ ν 0 27 = nI c ∧ ∀ k, k < c → ∀ w, w < 3 → μ (49 + k) w = ν 17 (3 * k + w)
def wH (μ ν : zM) : Prop := ∀ k, k < 4 → μ 54 k = ν 18 k ∧ μ 55 k = ν 19 k ∧ (-1 ≤ ν 18 k ∧ ν 18 k ≤ 4) ∧ (∃ n, n ≤ 40 ∧ ν 19 k = nI n) ∧ ∀ j, j < 40 → μ (57 + k) j = ν 20 (40 * k + j)
def wL (μ ν : zM) : Prop := ∀ k, k < 4 → μ 62 k = ν 21 k ∧ (μ 62 k = 0 ∨ (μ 62 k = 1 ∧ μ 63 k = ν 22 k) ∨ (μ 62 k = 2 ∧ μ 63 k = ν 23 k ∧ μ 64 k = ν 22 k))
def wC (μ ν : zM) : Prop := ∃ t, t ≤ 30 ∧ μ 65 1 = nI t ∧ ν 0 35 = nI t ∧ ∀ j, j < t → μ 66 j = ν 24 j
def wK (μ ν : zM) : Prop := ν 0 3 = μ 0 14 ∧ cROK 67 μ ∧ (μ 0 14 ≠ 0 → wT 73 2 μ ν ∧ wU 67 2 μ ν ∧ wP 80 2 μ ν)
def wW (μ ν : zM) : Prop := wT 18 1 μ ν ∧ wU 1 1 μ ν ∧ wP 32 1 μ ν ∧ wF μ ν ∧ wR μ ν ∧ wH μ ν ∧ wL μ ν ∧ wC μ ν ∧ wK μ ν
theorem cS_f {b : Nat} {μ μ' : zM} (h : ∀ k, k ≤ 5 → μ' (b + k) = μ (b + k)) : cS b μ' = cS b μ := by
  funext i
  have h0 := h 0 (by omega)
  have h1 := h (1 + (i - 7) % 4) (by omega)
  have h5 := h 5 (by omega)
  rw [← Nat.add_assoc] at h1
  unfold cS
  rw [Nat.add_zero] at h0
  rw [h0, h1, h5]
theorem cP_f {b : Nat} {μ μ' : zM} (h : ∀ k, 1 ≤ k → k ≤ 4 → μ' (b + k) = μ (b + k)) {r w : Nat} (hw : w < 4) : cP b μ' r w = cP b μ r w := by
  unfold cP
  rw [show b + 1 + w = b + (1 + w) by omega, h (1 + w) (by omega) (by omega)]
theorem wT_f {b k : Nat} {μ μ' ν ν' : zM} (hc : ∀ q, q ≤ 5 → μ' (b + q) = μ (b + q)) (hr : rS k ν' = rS k ν) (h : wT b k μ ν) : wT b k μ' ν' := by
  unfold wT at h ⊢
  rw [cS_f hc, hr]; exact h
theorem wU_f {b k : Nat} {μ μ' ν ν' : zM} (hc : ∀ q, q ≤ 4 → μ' (b + q) = μ (b + q)) (hr : ∀ i, i = 5 ∨ (71 ≤ i ∧ i < 521) → ν' k i = ν k i) (h : wU b k μ ν) : wU b k μ' ν' := by
  unfold wU at h ⊢
  refine ⟨cROK_μ (by have := hc 0 (by omega); exact this.symm) (hc 3 (by omega)).symm h.1, ?_⟩
  rw [← cR_μ (μ := μ) (fun q q1 q2 => by have := hc (q - b) (by omega); rw [show b + (q - b) = q by omega] at this; exact this.symm)]
  exact gRep_R hr h.2
theorem wP_f {b k : Nat} {μ μ' ν ν' : zM} (hc : ∀ q, q ≤ 4 → μ' (b + q) = μ (b + q)) (hr : ∀ i, i = 6 ∨ (47 ≤ i ∧ i < 71) → ν' k i = ν k i) (h : wP b k μ ν) : wP b k μ' ν' := by
  obtain ⟨n, n6, h1, h2, h3⟩ := h
  have h0 := hc 0 (by omega)
  rw [Nat.add_zero] at h0
  refine ⟨n, n6, by rw [h0]; exact h1, by rw [hr 6 (Or.inl rfl)]; exact h2, fun r hr1 => ?_⟩
  obtain ⟨g1, g2, g3⟩ := h3 r hr1
  rw [hr (47 + 4 * r + 1) (by omega), hr (47 + 4 * r + 2) (by omega)]
  refine ⟨fun w hw => ?_, g2, g3⟩
  rw [cP_f (fun q _ q2 => hc q q2) hw, hr (47 + 4 * r + w) (by omega)]
  exact g1 w hw
theorem wF_f {μ μ' ν ν' : zM} (h7 : μ' 7 5 = μ 7 5) (h8 : μ' 8 = μ 8) (h15 : μ' 15 = μ 15) (k6 : ν' 0 6 = ν 0 6) (k5 : ν' 5 = ν 5) (h : wF μ ν) : wF μ' ν' := by
  unfold wF at h ⊢
  rw [h7, h8, h15, k6, k5]; exact h
theorem wR_f {μ μ' ν ν' : zM} (h47 : μ' 47 3 = μ 47 3) (h49 : ∀ k, k < 4 → μ' (49 + k) = μ (49 + k)) (k27 : ν' 0 27 = ν 0 27) (k17 : ν' 17 = ν 17) (h : wR μ ν) : wR μ' ν' := by
  obtain ⟨c, c4, h1, h2, h3⟩ := h
  refine ⟨c, c4, by rw [h47]; exact h1, by rw [k27]; exact h2, fun k hk w hw => ?_⟩
  rw [h49 k (by omega), k17]; exact h3 k hk w hw
theorem wH_f {μ μ' ν ν' : zM} (h54 : μ' 54 = μ 54) (h55 : μ' 55 = μ 55) (h57 : ∀ k, k < 4 → μ' (57 + k) = μ (57 + k)) (k18 : ν' 18 = ν 18) (k19 : ν' 19 = ν 19) (k20 : ν' 20 = ν 20) (h : wH μ ν) : wH μ' ν' := by
  intro k hk
  have := h k hk
  rw [h54, h55, h57 k hk, k18, k19, k20]; exact this
theorem wL_f {μ μ' ν ν' : zM} (h62 : μ' 62 = μ 62) (h63 : μ' 63 = μ 63) (h64 : μ' 64 = μ 64) (k21 : ν' 21 = ν 21) (k22 : ν' 22 = ν 22) (k23 : ν' 23 = ν 23) (h : wL μ ν) : wL μ' ν' := by
  unfold wL at h ⊢
  rw [h62, h63, h64, k21, k22, k23]; exact h
theorem wC_f {μ μ' ν ν' : zM} (h65 : μ' 65 1 = μ 65 1) (h66 : μ' 66 = μ 66) (k35 : ν' 0 35 = ν 0 35) (k24 : ν' 24 = ν 24) (h : wC μ ν) : wC μ' ν' := by
  unfold wC at h ⊢
  rw [h65, h66, k35, k24]; exact h
theorem wK_f {μ μ' ν ν' : zM} (h0 : μ' 0 14 = μ 0 14) (hc : ∀ k, 67 ≤ k → k ≤ 84 → μ' k = μ k) (k3 : ν' 0 3 = ν 0 3) (k2 : ∀ j, j < 521 → ν' 2 j = ν 2 j) (h : wK μ ν) : wK μ' ν' := by
  obtain ⟨h1, h2, h3⟩ := h
  refine ⟨by rw [k3, h0]; exact h1, cROK_μ (hc 67 (by omega) (by omega)).symm (hc 70 (by omega) (by omega)).symm h2, fun g => ?_⟩
  rw [h0] at g
  obtain ⟨g1, g2, g3⟩ := h3 g
  exact ⟨wT_f (fun q hq => hc _ (by omega) (by omega)) (rS_521 k2) g1, wU_f (fun q hq => hc _ (by omega) (by omega)) (fun i hi => k2 i (by omega)) g2, wP_f (fun q hq => hc _ (by omega) (by omega)) (fun i hi => k2 i (by omega)) g3⟩
/-- the class's ids, and the reference's, of which the relation speaks -/
def wCc : List Nat := [0, 1, 2, 3, 4, 5, 7, 8, 15, 18, 19, 20, 21, 22, 23, 32, 33, 34, 35, 36, 47, 49, 50, 51, 52, 54, 55, 57, 58, 59, 60, 62, 63, 64, 65, 66, 67, 68, 69, 70, 71, 73, 74, 75, 76, 77, 78, 79, 80, 81, 82, 83, 84]
def wRc : List Nat := [2, 5, 17, 18, 19, 20, 21, 22, 23, 24]
/-- both sides leave all of it -/
theorem wW_f {μ μ' ν ν' : zM} (hc : ∀ k, k ∈ wCc → k ≠ 0 → k ≠ 72 → μ' k = μ k) (h0 : μ' 0 14 = μ 0 14) (h72 : μ' 72 = μ 72) (hr : ∀ k, k ∈ wRc → ν' k = ν k) (h1 : ∀ j, j < 521 → ν' 1 j = ν 1 j) (k3 : ν' 0 3 = ν 0 3) (k6 : ν' 0 6 = ν 0 6) (k27 : ν' 0 27 = ν 0 27) (k35 : ν' 0 35 = ν 0 35) (h : wW μ ν) : wW μ' ν' := by
  obtain ⟨a1, a2, a3, a4, a5, a6, a7, a8, a9⟩ := h
  have c : ∀ k, (k ∈ wCc ∧ k ≠ 0 ∧ k ≠ 72) → μ' k = μ k := fun k hk => hc k hk.1 hk.2.1 hk.2.2
  refine ⟨wT_f (fun q hq => c _ ?_) (rS_521 h1) a1, wU_f (fun q hq => c _ ?_) (fun i hi => h1 i (by omega)) a2, wP_f (fun q hq => c _ ?_) (fun i hi => h1 i (by omega)) a3,
    wF_f (by rw [c 7 (by decide)]) (c 8 (by decide)) (c 15 (by decide)) k6 (hr 5 (by decide)) a4, wR_f (by rw [c 47 (by decide)]) (fun k hk => c _ ?_) k27 (hr 17 (by decide)) a5,
    wH_f (c 54 (by decide)) (c 55 (by decide)) (fun k hk => c _ ?_) (hr 18 (by decide)) (hr 19 (by decide)) (hr 20 (by decide)) a6,
    wL_f (c 62 (by decide)) (c 63 (by decide)) (c 64 (by decide)) (hr 21 (by decide)) (hr 22 (by decide)) (hr 23 (by decide)) a7,
    wC_f (by rw [c 65 (by decide)]) (c 66 (by decide)) k35 (hr 24 (by decide)) a8, wK_f h0 (fun k q1 q2 => ?_) k3 (fun j _ => by rw [hr 2 (by decide)]) a9⟩
  · rcases (show q = 0 ∨ q = 1 ∨ q = 2 ∨ q = 3 ∨ q = 4 ∨ q = 5 by omega) with rfl | rfl | rfl | rfl | rfl | rfl <;> decide
  · rcases (show q = 0 ∨ q = 1 ∨ q = 2 ∨ q = 3 ∨ q = 4 by omega) with rfl | rfl | rfl | rfl | rfl <;> decide
  · rcases (show q = 0 ∨ q = 1 ∨ q = 2 ∨ q = 3 ∨ q = 4 by omega) with rfl | rfl | rfl | rfl | rfl <;> decide
  · rcases (show k = 0 ∨ k = 1 ∨ k = 2 ∨ k = 3 by omega) with rfl | rfl | rfl | rfl <;> decide
  · rcases (show k = 0 ∨ k = 1 ∨ k = 2 ∨ k = 3 by omega) with rfl | rfl | rfl | rfl <;> decide
  · by_cases e : k = 72
    · rw [e]; exact h72
    · refine c k ⟨?_, by omega, e⟩
      rcases (show k = 67 ∨ k = 68 ∨ k = 69 ∨ k = 70 ∨ k = 71 ∨ k = 73 ∨ k = 74 ∨ k = 75 ∨ k = 76 ∨ k = 77 ∨ k = 78 ∨ k = 79 ∨ k = 80 ∨ k = 81 ∨ k = 82 ∨ k = 83 ∨ k = 84 by omega) with rfl | rfl | rfl | rfl | rfl | rfl | rfl | rfl | rfl | rfl | rfl | rfl | rfl | rfl | rfl | rfl | rfl <;> decide
theorem wW_b {J K : List Nat} {μ μ' ν ν' : zM} (h : wW μ ν) (hJ : zJ J μ μ') (hK : zJ K ν ν') (dJ : (wCc ++ [72]).all (fun k => decide (k ∉ J)) = true) (dK : (wRc ++ [1]).all (fun k => decide (k ∉ K)) = true) (h0 : ∀ j, j = 3 ∨ j = 6 ∨ j = 27 ∨ j = 35 → ν' 0 j = ν 0 j) : wW μ' ν' := by
  rw [List.all_eq_true] at dJ dK
  have c : ∀ k, k ∈ wCc ++ [72] → μ' k = μ k := fun k hk => hJ k (by have := dJ k hk; rw [decide_eq_true_eq] at this; exact this)
  have d : ∀ k, k ∈ wRc ++ [1] → ν' k = ν k := fun k hk => hK k (by have := dK k hk; rw [decide_eq_true_eq] at this; exact this)
  exact wW_f (fun k hk _ _ => c k (List.mem_append_left _ hk)) (by rw [c 0 (by decide)]) (c 72 (by decide)) (fun k hk => d k (List.mem_append_left _ hk)) (fun j _ => by rw [d 1 (by decide)]) (h0 3 (by omega)) (h0 6 (by omega)) (h0 27 (by omega)) (h0 35 (by omega)) h
/-- a call that both sides take: the same answer, and the relation after it -/
def wCall (d : Nat) (M : zO) (y : MethodName) (e : Nat) (N : zO) (z : MethodName) (as : List zV) : Prop := ∀ (σ τ : zG) (μ ν : zM), wW μ ν → ∃ P Q, zMet shC σ d M y as μ P ∧ zMet shR τ e N z as ν Q ∧ ∀ r μ' t ν', P r μ' → Q t ν' → ∃ v, r = some (zi v) ∧ t = some (zi v) ∧ wW μ' ν'
