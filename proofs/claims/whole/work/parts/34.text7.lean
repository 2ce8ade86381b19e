theorem gd_cnd {K V : Nat → Int32} {c k : Nat} (hc : K c = -1) (hk : k + 1 ≤ c) : (k + 1 ≤ (rCnd K V k).2.1 ∧ (rCnd K V k).2.1 ≤ c) ∧ (rCnd K V k).2.2.1.length + k + 1 ≤ (rCnd K V k).2.1 ∧ (rCnd K V k).2.2.2.length + k + 1 ≤ (rCnd K V k).2.1 := by
  unfold rCnd
  by_cases h : K (k + 1) = 262
  · have hne : k + 1 ≠ c := fun e => by rw [e, hc] at h; exact absurd h (by decide)
    have := gd_cond (V := V) hc 3 (k + 2) (by omega)
    rw [if_pos h]; omega
  · rw [if_neg h]; simp; omega
theorem gd_fin {K : Nat → Int32} {c e : Nat} {kd d v : Int32} {a : pC} (hc : K c = -1) (he : e ≤ c) : (rFin K kd d v a e).2.1 ≤ c ∧ e ≤ (rFin K kd d v a e).2.1 := by
  unfold rFin
  by_cases h : K e = 59
  · have hne : e ≠ c := fun q => by rw [q, hc] at h; exact absurd h (by decide)
    rw [if_pos h]
    exact ⟨by show e + 1 ≤ c; omega, Nat.le_succ _⟩
  · rw [if_neg h]; exact ⟨he, Nat.le_refl _⟩
theorem gd_rule {K V : Nat → Int32} {c k : Nat} (hc : K c = -1) (hk : k ≤ c) : (rRule K V k).2.1 ≤ c ∧ k ≤ (rRule K V k).2.1 := by
  unfold rRule
  by_cases h1 : 0 ≤ K k - 256 ∧ K k - 256 ≤ 5
  · have hne : k ≠ c := fun e => by rw [e, hc] at h1; exact absurd h1.1 (by decide)
    have hg := gd_cnd (V := V) hc (k := k) (by omega)
    rw [if_pos h1]
    by_cases h2 : (rCnd K V k).1 = true
    · rw [if_pos h2]
      by_cases h3 : K (rCnd K V k).2.1 = 263 ∨ K (rCnd K V k).2.1 = 264 ∨ K (rCnd K V k).2.1 = 265
      · have hn : (rCnd K V k).2.1 ≠ c := fun e => by rw [e, hc] at h3; exact absurd h3 (by decide)
        rw [if_pos h3]
        by_cases h4 : K (rCnd K V k).2.1 = 265
        · have := gd_fin (kd := K k - 256) (d := 265) (v := 0) (a := rCnd K V k) (e := (rCnd K V k).2.1 + 1) hc (by omega)
          rw [if_pos h4]; omega
        · rw [if_neg h4]
          by_cases h5 : K ((rCnd K V k).2.1 + 1) = -2 ∧ V ((rCnd K V k).2.1 + 1) ≤ 99
          · have hn2 : (rCnd K V k).2.1 + 1 ≠ c := fun e => by rw [e, hc] at h5; exact absurd h5.1 (by decide)
            have := gd_fin (kd := K k - 256) (d := K (rCnd K V k).2.1) (v := V ((rCnd K V k).2.1 + 1)) (a := rCnd K V k) (e := (rCnd K V k).2.1 + 1 + 1) hc (by omega)
            rw [if_pos h5]; omega
          · rw [if_neg h5]; show (rCnd K V k).2.1 + 1 ≤ c ∧ k ≤ (rCnd K V k).2.1 + 1; omega
      · rw [if_neg h3]; show (rCnd K V k).2.1 ≤ c ∧ k ≤ (rCnd K V k).2.1; omega
    · rw [if_neg h2]; show (rCnd K V k).2.1 ≤ c ∧ k ≤ (rCnd K V k).2.1; omega
  · rw [if_neg h1]; exact ⟨hk, Nat.le_refl _⟩
/-- the rules one behind another -/
def rRules (K V : Nat → Int32) : Nat → Nat → List pRl → Bool × Nat × List pRl
  | 0, k, L => (true, k, L)
  | m + 1, k, L => if K k = -1 then (true, k, L) else if (rRule K V k).1 = true then rRules K V m (rRule K V k).2.1 (L ++ [(rRule K V k).2.2]) else (false, (rRule K V k).2.1, [])
def rFlat (L : List pRl) : List Int32 := L.flatMap (fun q => q.2.1)
/-- the draft holds them -/
def dR (μ : zM) (L : List pRl) : Prop := μ 12 5 = nI L.length ∧ (∀ r, r < L.length → μ 13 r = (L.getD r pRl0).1.1 ∧ μ 14 r = rShift (L.getD r pRl0) ∧ μ 15 r = nI (rFlat (L.take (r + 1))).length) ∧ ∀ j, j < (rFlat L).length → μ 16 j = (rFlat L).getD j 0
theorem rFlat_app (L : List pRl) (q : pRl) : rFlat (L ++ [q]) = rFlat L ++ q.2.1 := by
  unfold rFlat
  rw [List.flatMap_append]
  simp
theorem dR.add {K V : Nat → Int32} {c : Nat} {μ μ1 : zM} {L : List pRl} {r : pQ} (h : dR μ L) (g : rdQ K V c μ (rFlat L).length L.length r μ1) (ok : r.1 = true) : dR μ1 (L ++ [r.2.2]) := by
  obtain ⟨h1, h2, h3⟩ := h
  obtain ⟨-, -, g1, -⟩ := g
  obtain ⟨g2, g3, g4, g5, g6, g7, g8, -⟩ := g1 ok
  refine ⟨by rw [g4, List.length_append]; rfl, fun j hj => ?_, fun j hj => ?_⟩
  · rw [List.length_append] at hj
    by_cases q : j < L.length
    · have e : (L ++ [r.2.2]).getD j pRl0 = L.getD j pRl0 := by simp [List.getD, List.getElem?_append_left q]
      rw [e, (g5 j q).1, (g5 j q).2.1, (g5 j q).2.2, List.take_append_of_le_length (by omega)]
      exact h2 j q
    · obtain rfl : j = L.length := by simp at hj; omega
      have e : (L ++ [r.2.2]).getD L.length pRl0 = r.2.2 := by simp [List.getD]
      rw [e, List.take_of_length_le (by simp), rFlat_app, List.length_append]
      exact ⟨g6, g7, g8⟩
  · rw [rFlat_app, List.length_append] at hj
    rw [rFlat_app]
    by_cases q : j < (rFlat L).length
    · rw [g3.1 j q, h3 j q]
      simp [List.getD, List.getElem?_append_left q]
    · have := g3.2 (j - (rFlat L).length) (by omega)
      rw [show (rFlat L).length + (j - (rFlat L).length) = j by omega] at this
      rw [this]
      simp [List.getD, List.getElem?_append_right (Nat.not_lt.mp q)]
/-- a condition's codes as a list -/
def cRunL (F : Nat → Int32) : List Int32 → List Int32 → List Int32
  | [], st => st
  | x :: l, st => cRunL F l (cStep F x st)
theorem cRunL_app {F : Nat → Int32} : ∀ {a b st : List Int32}, cRunL F (a ++ b) st = cRunL F b (cRunL F a st)
  | [], _, _ => rfl
  | x :: a, b, st => cRunL_app (a := a)
theorem cRun_L {F code : Nat → Int32} : ∀ {l : List Int32} {i : Nat} {st : List Int32}, (∀ j, j < l.length → code (i + j) = l.getD j 0) → cRun F code i l.length st = cRunL F l st
  | [], _, _, _ => rfl
  | x :: l, i, st, h => by
    have h0 := h 0 (by simp)
    show cRun F code (i + 1) l.length (cStep F (code i) st) = cRunL F l (cStep F x st)
    rw [show code i = x from h0]
    exact cRun_L (fun j hj => by
      have := h (j + 1) (by simp; omega)
      rw [show i + 1 + j = i + (j + 1) by omega, this]
      rfl)
