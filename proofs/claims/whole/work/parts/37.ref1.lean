/-- aims and places lie on the stage -/
def pAB (s : Nat → Int32) : Prop := (∀ l, l < pL s → 0 ≤ s (7 + 4 * l + 1) ∧ s (7 + 4 * l + 1) ≤ 40) ∧ ∀ b, b < pB s → 0 ≤ s (31 + b) ∧ s (31 + b) ≤ 40
theorem sb_le {a p z : Int32} (ha : 0 ≤ a ∧ a ≤ 40) (hp : 0 ≤ p ∧ p ≤ 40) (hz : 0 ≤ z ∧ z ≤ 9) : pAbs (p - a) - z ≤ 0 ↔ pAbs (p - a) ≤ z := by
  unfold pAbs
  rw [Int32.le_iff_toInt_le, Int32.le_iff_toInt_le] at ha hp hz
  have h0 : (0 : Int32).toInt = 0 := rfl
  have h40 : (40 : Int32).toInt = 40 := rfl
  have h9 : (9 : Int32).toInt = 9 := rfl
  rw [h0, h40] at ha hp
  rw [h0, h9] at hz
  have hd : (p - a).toInt = p.toInt - a.toInt := by rw [Int32.toInt_sub]; exact Int.bmod_eq_of_le (by omega) (by omega)
  by_cases h : p - a < 0
  · have hn : (-(p - a)).toInt = -(p.toInt - a.toInt) := by rw [Int32.toInt_neg, hd]; exact Int.bmod_eq_of_le (by omega) (by omega)
    rw [if_pos h, Int32.le_iff_toInt_le, Int32.le_iff_toInt_le, Int32.toInt_sub, hn, h0]
    rw [Int.bmod_eq_of_le (by omega) (by omega)]
    omega
  · rw [if_neg h, Int32.le_iff_toInt_le, Int32.le_iff_toInt_le, Int32.toInt_sub, hd, h0]
    rw [Int.bmod_eq_of_le (by omega) (by omega)]
    omega
