/-! THE REFERENCE. The stage in its row k (1 the present, 2 kept, 3 aside) -/
def rS (k : Nat) (μ : zM) : Nat → Int32 := fun i => if i < 47 ∧ i ≠ 5 ∧ i ≠ 6 then μ k i else 0
theorem rS_i {k i : Nat} {μ : zM} (h : i < 47) (h5 : i ≠ 5) (h6 : i ≠ 6) : rS k μ i = μ k i := if_pos ⟨h, h5, h6⟩
theorem nI_mulN {a b : Nat} : nI a * nI b = nI (a * b) := by
  unfold nI
  apply Int32.toBitVec_inj.mp
  simp [Int32.toBitVec_mul]
theorem tS_le {T : Nat → Int32} {len k : Nat} : tP T len k ≤ len → tS T len k ≤ len := fun h => by
  unfold tS tSk
  have := (tRun_le (f := tB) (T := T) (m := len - tP T len k) (p := tP T len k)).2
  omega
theorem tP_le {T : Nat → Int32} {len : Nat} : ∀ k, tP T len k ≤ len
  | 0 => Nat.zero_le _
  | k + 1 => by
    have h := tS_le (T := T) (tP_le (T := T) (len := len) k)
    show (tTok T len (tS T len k)).2.2 ≤ len
    rcases Nat.lt_or_ge (tS T len k) len with q | q
    · exact (tTok_e q).2
    · unfold tTok
      rw [if_pos q]
      exact h
theorem cmp_gt {x y : Int64} : 0 < lg_cmp x y ↔ y < x := by
  unfold lg_cmp
  by_cases h : y < x
  · rw [if_pos h]; exact ⟨fun _ => h, fun _ => by decide⟩
  · rw [if_neg h]
    by_cases e : x = y
    · rw [if_pos e]; exact ⟨fun q => absurd q (by decide), fun q => absurd q h⟩
    · rw [if_neg e]; exact ⟨fun q => absurd q (by decide), fun q => absurd q h⟩
theorem cmp_lt {x y : Int64} : lg_cmp x y < 0 ↔ x < y := by
  unfold lg_cmp
  by_cases h : y < x
  · rw [if_pos h]
    refine ⟨fun q => absurd q (by decide), fun q => ?_⟩
    rw [Int64.lt_iff_toInt_lt] at q h
    omega
  · rw [if_neg h]
    by_cases e : x = y
    · rw [if_pos e]
      refine ⟨fun q => absurd q (by decide), fun q => ?_⟩
      rw [e, Int64.lt_iff_toInt_lt] at q
      omega
    · rw [if_neg e]
      refine ⟨fun _ => ?_, fun _ => by decide⟩
      rw [Int64.lt_iff_toInt_lt] at h ⊢
      rw [← Int64.toInt_inj] at e
      omega
theorem l64_le {x y : Int32} : x.toInt64 ≤ y.toInt64 ↔ x ≤ y := by
  rw [Int64.le_iff_toInt_le, Int32.le_iff_toInt_le, Int32.toInt_toInt64, Int32.toInt_toInt64]
