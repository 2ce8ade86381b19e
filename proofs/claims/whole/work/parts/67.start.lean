/-- the two as they are made -/
theorem wW_0 {μ ν : zM} (hμ : ∀ k, k ∈ wCc → ∀ j, μ k j = if k = 54 then -1 else if (k = 18 ∨ k = 73) ∧ j = 11 then 1 else 0) (hν : ∀ k, k ∈ [1, 5, 17, 18, 19, 20, 21, 22, 23, 24] → ∀ j, ν k j = if k = 18 then -1 else if k = 1 ∧ j = 4 then 1 else 0) (h3 : ν 0 3 = 0) (h6 : ν 0 6 = 0) (h27 : ν 0 27 = 0) (h35 : ν 0 35 = 0) : wW μ ν := by
  have z : ∀ k, k ∈ wCc → k ≠ 54 → k ≠ 18 → k ≠ 73 → ∀ j, μ k j = 0 := fun k hk a b c j => by
    rw [hμ k hk j, if_neg a, if_neg (fun q => q.1.elim b c)]
  have y : ∀ k, k ∈ [1, 5, 17, 18, 19, 20, 21, 22, 23, 24] → k ≠ 18 → k ≠ 1 → ∀ j, ν k j = 0 := fun k hk a b j => by
    rw [hν k hk j, if_neg a, if_neg (fun q => b q.1)]
  have s0 : ∀ j, j ≠ 11 → μ 18 j = 0 := fun j hj => by
    rw [hμ 18 (by decide) j, if_neg (by decide), if_neg (fun q => hj q.2)]
  have r0 : ∀ j, j ≠ 4 → ν 1 j = 0 := fun j hj => by
    rw [hν 1 (by decide) j, if_neg (by decide), if_neg (fun q => hj q.2)]
  have e : cS 18 μ = rS 1 ν := by
    funext i
    unfold cS rS
    by_cases c4 : i = 4
    · subst c4
      rw [if_neg (by omega), if_neg (by omega), if_neg (by omega), if_neg (by omega), if_pos rfl, if_pos (by omega), hμ 18 (by decide), hν 1 (by decide)]
      decide
    · have hr : (if i < 47 ∧ i ≠ 5 ∧ i ≠ 6 then ν 1 i else 0) = 0 := by
        by_cases q : i < 47 ∧ i ≠ 5 ∧ i ≠ 6
        · rw [if_pos q]; exact r0 i c4
        · rw [if_neg q]
      have hq : ∀ m, m < 4 → ∀ j, μ (18 + 1 + m) j = 0 := fun m hm => by
        rcases (show m = 0 ∨ m = 1 ∨ m = 2 ∨ m = 3 by omega) with rfl | rfl | rfl | rfl <;> exact z _ (by decide) (by decide) (by decide) (by decide)
      rw [hr, s0 7 (by omega), s0 8 (by omega), s0 9 (by omega), s0 10 (by omega), if_neg c4, hq _ (Nat.mod_lt _ (by omega)), z (18 + 5) (by decide) (by decide) (by decide) (by decide)]
      simp only [ite_self]
  have n0 : rS 1 ν 0 = 0 := r0 0 (by omega)
  have n1 : rS 1 ν 1 = 0 := r0 1 (by omega)
  have n2 : rS 1 ν 2 = 0 := r0 2 (by omega)
  have m0 : pL (rS 1 ν) = 0 := by unfold pL; rw [n0]; decide
  have m1 : pB (rS 1 ν) = 0 := by unfold pB; rw [n1]; decide
  have m2 : pb (rS 1 ν) = 0 := by unfold pb; rw [n2]; decide
  refine ⟨⟨e, ⟨⟨by rw [n0, m0]; rfl, by rw [m0]; omega⟩, ⟨by rw [n1, m1]; rfl, by rw [m1]; omega⟩, ⟨by rw [n2, m2]; rfl, by rw [m2]; omega⟩, fun l hl => by rw [m0] at hl; omega⟩, fun l hl => by rw [m0] at hl; omega, fun b hb => by rw [m1] at hb; omega⟩,
    ⟨⟨⟨0, by omega, z 1 (by decide) (by decide) (by decide) (by decide) 5⟩, fun r _ => ⟨0, by omega, z (1 + 3) (by decide) (by decide) (by decide) (by decide) r⟩⟩, ?_⟩,
    ⟨0, by omega, z 32 (by decide) (by decide) (by decide) (by decide) 4, r0 6 (by omega), fun r hr => by omega⟩,
    ⟨⟨0, by omega, z 7 (by decide) (by decide) (by decide) (by decide) 5, h6, fun j hj => by omega⟩, fun r _ => ⟨0, by omega, z 15 (by decide) (by decide) (by decide) (by decide) r⟩⟩,
    ⟨0, by omega, z 47 (by decide) (by decide) (by decide) (by decide) 3, h27, fun k hk => by omega⟩, fun k hk => ⟨?_, ?_, ?_, ⟨0, by omega, y 19 (by decide) (by decide) (by decide) k⟩, fun j _ => ?_⟩, fun k hk => ⟨?_, Or.inl (z 62 (by decide) (by decide) (by decide) (by decide) k)⟩,
    ⟨0, by omega, z 65 (by decide) (by decide) (by decide) (by decide) 1, h35, fun j hj => by omega⟩,
    ⟨by rw [h3, z 0 (by decide) (by decide) (by decide) (by decide)], ⟨⟨0, by omega, z 67 (by decide) (by decide) (by decide) (by decide) 5⟩, fun r _ => ⟨0, by omega, z (67 + 3) (by decide) (by decide) (by decide) (by decide) r⟩⟩, fun q => absurd (z 0 (by decide) (by decide) (by decide) (by decide) 14) q⟩⟩
  · have h5 : (cR 1 μ).1 = 0 := by show (μ 1 5).toNatClampNeg = 0; rw [z 1 (by decide) (by decide) (by decide) (by decide) 5]; decide
    refine ⟨by rw [h5]; exact r0 5 (by omega), by rw [h5]; omega, fun r hr => by rw [h5] at hr; omega⟩
  · rw [hμ 54 (by decide), hν 18 (by decide), if_pos rfl, if_pos rfl]
  · rw [z 55 (by decide) (by decide) (by decide) (by decide), y 19 (by decide) (by decide) (by decide)]
  · rw [hν 18 (by decide), if_pos rfl]; decide
  · rw [y 20 (by decide) (by decide) (by decide)]
    rcases (show k = 0 ∨ k = 1 ∨ k = 2 ∨ k = 3 by omega) with rfl | rfl | rfl | rfl <;> exact z _ (by decide) (by decide) (by decide) (by decide) j
  · rw [z 62 (by decide) (by decide) (by decide) (by decide), y 21 (by decide) (by decide) (by decide)]
