/-! THE REFERENCE. The stage in its row k (1 the present, 2 kept, 3 aside) -/
def rS (k : Nat) (μ : zM) : Nat → Int32 := fun i => if i < 47 ∧ i ≠ 5 ∧ i ≠ 6 then μ k i else 0
theorem rS_i {k i : Nat} {μ : zM} (h : i < 47) (h5 : i ≠ 5) (h6 : i ≠ 6) : rS k μ i = μ k i := if_pos ⟨h, h5, h6⟩
theorem nI_mulN {a b : Nat} : nI a * nI b = nI (a * b) := by
  unfold nI
  apply Int32.toBitVec_inj.mp
  simp [Int32.toBitVec_mul]
theorem tS_le {T : Nat → Int32} {len k : Nat} : tP T len k ≤ len → tS T len k ≤ len := fun h => by
  unfold tS tSk
  have := (tRun_le (f := tB) (T := T) (m := len - tP T len k) (p := tP T len k)).2
  omega
theorem tP_le {T : Nat → Int32} {len : Nat} : ∀ k, tP T len k ≤ len
  | 0 => Nat.zero_le _
  | k + 1 => by
    have h := tS_le (T := T) (tP_le (T := T) (len := len) k)
    show (tTok T len (tS T len k)).2.2 ≤ len
    rcases Nat.lt_or_ge (tS T len k) len with q | q
    · exact (tTok_e q).2
    · unfold tTok
      rw [if_pos q]
      exact h
