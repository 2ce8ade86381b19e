theorem rRep_q {ρ τ : pR} {c : Nat → Int32} (q : pREq ρ τ) (h : rRep τ c) : rRep ρ c := by
  obtain ⟨h1, h2, h3⟩ := h
  obtain ⟨q1, q2⟩ := q
  refine ⟨by rw [q1]; exact h1, by rw [q1]; exact h2, fun r hr => ?_⟩
  obtain ⟨e1, e2, e3⟩ := q2 r hr
  rw [e1, e2]
  simp only [e3]
  exact h3 r (by rw [← q1]; exact hr)
theorem tByte_b (e : Int64) (j : Nat) : 0 ≤ tByte e j ∧ tByte e j ≤ 255 := by
  unfold tByte
  generalize (zlushr e (8 * nI j)).toInt32 = x
  have h : (x &&& 255).toBitVec.toNat ≤ 255 := by
    rw [Int32.toBitVec_and, BitVec.toNat_and]
    exact Nat.le_trans Nat.and_le_right (by decide)
  have e : (x &&& 255).toInt = ((x &&& 255).toBitVec.toNat : Int) := by
    show (x &&& 255).toBitVec.toInt = _
    rw [BitVec.toInt_eq_toNat_of_lt (by omega)]
  rw [Int32.le_iff_toInt_le, Int32.le_iff_toInt_le, e, zt0, show (255 : Int32).toInt = 255 by decide +kernel]
  omega
theorem rS_x' {μ ν : zM} (h : ∀ i, i < 47 → i ≠ 5 → ν 1 i = μ 1 i) : rS 1 ν = rS 1 μ := by
  funext i
  unfold rS
  by_cases c : i < 47 ∧ i ≠ 5 ∧ i ≠ 6
  · rw [if_pos c, if_pos c, h i c.1 c.2.1]
  · rw [if_neg c, if_neg c]
theorem rules_q {T : Nat → Int32} {len : Nat} (hX : gX T len) : ∀ q ∈ (tRead T len).2.2, pRq q := by
  unfold tRead
  exact rules_c (fun k hk => tV_0 hX k hk) _ _ [] (fun q hq => absurd hq (by simp))
theorem w_keep : wCall 2 MX10_keep yX10_keep 1 MX11_keep yX11_keep [zr 0] := by
  intro σ τ μ ν h
  have hW := h
  obtain ⟨⟨e, ok, ab⟩, ⟨rok, hρ⟩, a3, a4, a5, a6, a7, a8, a9⟩ := h
  refine ⟨_, _, eX10_keep_0 σ μ rok, eX11_keep_0 τ ν, ?_⟩
  rintro r μ' t ν' ⟨p1, p2, p3, p4, p5, p6, p7, p8⟩ ⟨q1, q2, q3, q4, q5⟩
  refine ⟨_, p1, q1, ?_⟩
  refine wW_K hW p8 q5 (fun j hj => q4 j (by omega)) ⟨by rw [q3, p7], p4, fun _ => ⟨⟨?_, ?_, ?_⟩, ⟨p4, ?_⟩, ?_⟩⟩ (by decide) (by decide)
  · rw [p2, rS_521 q2, e]
  · rw [rS_521 q2]; exact ok
  · rw [rS_521 q2]; exact ab
  · exact gRep_R (fun i hi => q2 i (by omega)) (rRep_q p3 hρ)
  · obtain ⟨n, n6, h1, h2, h3⟩ := a3
    refine ⟨n, n6, by rw [p5]; exact h1, by rw [q2 6 (by omega)]; exact h2, fun r hr => ?_⟩
    obtain ⟨g1, g2, g3⟩ := h3 r hr
    rw [q2 _ (by omega), q2 _ (by omega)]
    refine ⟨fun w hw => ?_, g2, g3⟩
    rw [p6 r (by omega) w hw, q2 _ (by omega)]
    exact g1 w hw
theorem w_again : wCall 2 MX10_again yX10_again 1 MX11_again yX11_again [zr 0] := by
  intro σ τ μ ν h
  have hW := h
  obtain ⟨⟨e, ok, ab⟩, ⟨rok, hρ⟩, a3, a4, a5, a6, a7, a8, a9⟩ := h
  obtain ⟨k1, k2, k3⟩ := a9
  refine ⟨_, _, eX10_again_0 σ μ k2, eX11_again_0 τ ν, ?_⟩
  rintro r μ' t ν' ⟨p1, p2⟩ ⟨q1, q2⟩
  by_cases z : μ 0 14 = 0
  · rw [if_pos z] at p2
    rw [k1, if_pos z] at q2
    subst p2 q2
    exact ⟨_, p1, by rw [q1, k1, if_pos z, if_pos z], hW⟩
  · rw [if_neg z] at p2
    rw [k1, if_neg z] at q2
    obtain ⟨p2, p3, p4, p5, p6, p7⟩ := p2
    obtain ⟨q2, q3⟩ := q2
    obtain ⟨⟨b1, b2, b3⟩, ⟨b4, b5⟩, ⟨n, n6, h1, h2, h3⟩⟩ := k3 z
    have c : ∀ k, ¬ k ∈ [1, 2, 3, 4, 5, 18, 19, 20, 21, 22, 23, 32, 33, 34, 35, 36] → μ' k = μ k := p7
    have d : ∀ k, k ≠ 1 → ν' k = ν k := fun k hk => q3 k (by rw [List.mem_singleton]; exact hk)
    refine ⟨_, p1, ?_, ⟨?_, ?_, ?_⟩, ⟨p4, ?_⟩, ?_, wF_f (by rw [c 7 (by decide)]) (c 8 (by decide)) (c 15 (by decide)) (by rw [d 0 (by omega)]) (d 5 (by omega)) a4, wR_f (by rw [c 47 (by decide)]) (fun k hk => c _ ?_) (by rw [d 0 (by omega)]) (d 17 (by omega)) a5,
      wH_f (c 54 (by decide)) (c 55 (by decide)) (fun k hk => c _ ?_) (d 18 (by omega)) (d 19 (by omega)) (d 20 (by omega)) a6,
      wL_f (c 62 (by decide)) (c 63 (by decide)) (c 64 (by decide)) (d 21 (by omega)) (d 22 (by omega)) (d 23 (by omega)) a7,
      wC_f (by rw [c 65 (by decide)]) (c 66 (by decide)) (by rw [d 0 (by omega)]) (d 24 (by omega)) a8, wK_f (by rw [c 0 (by decide)]) (fun k q1 q2 => c k ?_) (by rw [d 0 (by omega)]) (fun j _ => by rw [d 2 (by omega)]) ⟨k1, k2, k3⟩⟩
    · rw [q1, k1, if_neg z, if_neg z, b1]; rfl
    · rw [p2, rS_521 q2, b1]
    · rw [rS_521 q2]; exact b2
    · rw [rS_521 q2]; exact b3
    · exact gRep_R (fun i hi => q2 i (by omega)) (rRep_q p3 b5)
    · refine ⟨n, n6, by rw [p5]; exact h1, by rw [q2 6 (by omega)]; exact h2, fun r hr => ?_⟩
      obtain ⟨g1, g2, g3⟩ := h3 r hr
      rw [q2 _ (by omega), q2 _ (by omega)]
      refine ⟨fun w hw => ?_, g2, g3⟩
      rw [p6 r (by omega) w hw, q2 _ (by omega)]
      exact g1 w hw
    · rcases (show k = 0 ∨ k = 1 ∨ k = 2 ∨ k = 3 by omega) with rfl | rfl | rfl | rfl <;> decide
    · rcases (show k = 0 ∨ k = 1 ∨ k = 2 ∨ k = 3 by omega) with rfl | rfl | rfl | rfl <;> decide
    · simp only [List.mem_cons, List.not_mem_nil, or_false]; omega
theorem w_feed (b : Int64) (n : Int32) : wCall 1 MX10_feed yX10_feed 1 MX11_feed yX11_feed [zr 0, zj b, zi n] := by
  intro σ τ μ ν h
  have hW := h
  obtain ⟨⟨e, ok, ab⟩, ⟨rok, hρ⟩, a3, a4, a5, a6, a7, a8, a9⟩ := h
  obtain ⟨⟨len, l2, h1, h2, h3⟩, h4⟩ := a4
  refine ⟨_, _, eX10_feed_0 σ μ b n len h1 l2, eX11_feed_0 τ ν b n len h2 l2, ?_⟩
  rintro r μ' t ν' ⟨p1, p2⟩ ⟨q1, q2⟩
  refine ⟨_, p1, q1, ?_⟩
  by_cases z : pIn n 1 8 = true ∧ len + n.toNatClampNeg ≤ 200
  · rw [if_pos z] at p2 q2
    obtain ⟨⟨p2, p3, p4⟩, p5, p6⟩ := p2
    obtain ⟨q2, q3, q4, q5, q6⟩ := q2
    refine wW_F hW p2 q2 (fun j hj => q4 j (by omega)) ⟨⟨len + n.toNatClampNeg, z.2, p4, q3, fun j hj => ?_⟩, fun r hr => ?_⟩ (by decide) (by decide)
    · by_cases g : j < len
      · rw [p6 j (Or.inl g), q6 j (Or.inl g)]; exact h3 j g
      · have a1 := p5 (j - len) (by omega)
        have a2 := q5 (j - len) (by omega)
        rw [show len + (j - len) = j by omega] at a1 a2
        rw [a1, a2]
        exact ⟨rfl, tByte_b _ _⟩
    · rw [p2 15 (by decide)]; exact h4 r hr
  · rw [if_neg z] at p2 q2
    rw [p2, q2]; exact hW
theorem w_rules : wCall 16 MX10_rules yX10_rules 24 MX11_rules yX11_rules [zr 0] := by
  intro σ τ μ ν h
  have hW := h
  obtain ⟨⟨e, ok, ab⟩, ⟨rok, hρ⟩, a3, a4, a5, a6, a7, a8, a9⟩ := h
  obtain ⟨⟨len, l2, h1, h2, h3⟩, h4⟩ := a4
  have hX : gX (μ 8) len := ⟨l2, fun j hj => by
    obtain ⟨g1, g2⟩ := h3 j hj
    rw [g1]; exact g2⟩
  refine ⟨_, _, eX10_rules_0 σ μ len h1 l2 (fun k hk => (hX.2 k hk).1) h4 (fun k => Nat.lt_of_le_of_lt (tS_le (tP_le k)) (by omega)), eX11_rules_0 τ ν (μ 8) len h2 hX (fun j hj => (h3 j hj).1.symm), ?_⟩
  rintro r μ' t ν' ⟨p1, ⟨p2, p3⟩, p4⟩ ⟨q1, q2, q3, q4, q5⟩
  refine ⟨_, p1, q1, ?_⟩
  have nF : wF μ' ν' := ⟨⟨0, by omega, p2, q2, fun j hj => absurd hj (by omega)⟩, p3⟩
  by_cases z : (tRead (μ 8) len).1 = true
  · rw [if_pos z] at p4 q5
    obtain ⟨p4, p5, p6⟩ := p4
    obtain ⟨q5, q6, q7, q8⟩ := q5
    have hq := rules_q hX
    have c : ∀ k, ¬ k ∈ [1, 2, 3, 4, 5, 7, 9, 10, 11, 12, 13, 14, 15, 16] → μ' k = μ k := p6
    have d : ∀ k, ¬ k ∈ [0, 1, 3] → ν' k = ν k := q4
    refine ⟨wT_f (fun q hq => c _ ?_) (rS_x' (fun i i1 i2 => q5 i (by omega) i2)) ⟨e, ok, ab⟩, ⟨p5, rRep_q p4 (gTb_rep q6 q7 q8 hq)⟩, wP_f (fun q hq => c _ ?_) (fun i hi => q5 i (by omega) (by omega)) a3, nF,
      wR_f (by rw [c 47 (by decide)]) (fun k hk => c _ ?_) (q3 27 (by omega) (by omega)) (d 17 (by decide)) a5,
      wH_f (c 54 (by decide)) (c 55 (by decide)) (fun k hk => c _ ?_) (d 18 (by decide)) (d 19 (by decide)) (d 20 (by decide)) a6,
      wL_f (c 62 (by decide)) (c 63 (by decide)) (c 64 (by decide)) (d 21 (by decide)) (d 22 (by decide)) (d 23 (by decide)) a7,
      wC_f (by rw [c 65 (by decide)]) (c 66 (by decide)) (q3 35 (by omega) (by omega)) (d 24 (by decide)) a8, wK_f (by rw [c 0 (by decide)]) (fun k q1 q2 => c k ?_) (q3 3 (by omega) (by omega)) (fun j _ => by rw [d 2 (by decide)]) a9⟩
    all_goals (simp only [List.mem_cons, List.not_mem_nil, or_false]; omega)
  · rw [if_neg z] at p4 q5
    have c : ∀ k, ¬ k ∈ [7, 9, 10, 11, 12, 13, 14, 15, 16] → μ' k = μ k := p4
    have d : ∀ k, ¬ k ∈ [0, 1, 3] → ν' k = ν k := q4
    refine ⟨wT_f (fun q hq => c _ ?_) (rS_521 q5) ⟨e, ok, ab⟩, wU_f (fun q hq => c _ ?_) (fun i hi => q5 i (by omega)) ⟨rok, hρ⟩, wP_f (fun q hq => c _ ?_) (fun i hi => q5 i (by omega)) a3, nF,
      wR_f (by rw [c 47 (by decide)]) (fun k hk => c _ ?_) (q3 27 (by omega) (by omega)) (d 17 (by decide)) a5,
      wH_f (c 54 (by decide)) (c 55 (by decide)) (fun k hk => c _ ?_) (d 18 (by decide)) (d 19 (by decide)) (d 20 (by decide)) a6,
      wL_f (c 62 (by decide)) (c 63 (by decide)) (c 64 (by decide)) (d 21 (by decide)) (d 22 (by decide)) (d 23 (by decide)) a7,
      wC_f (by rw [c 65 (by decide)]) (c 66 (by decide)) (q3 35 (by omega) (by omega)) (d 24 (by decide)) a8, wK_f (by rw [c 0 (by decide)]) (fun k q1 q2 => c k ?_) (q3 3 (by omega) (by omega)) (fun j _ => by rw [d 2 (by decide)]) a9⟩
    all_goals (simp only [List.mem_cons, List.not_mem_nil, or_false]; omega)
theorem w_prove (n : Int32) : wCall 11 MX10_prove yX10_prove 13 MX11_prove yX11_prove [zr 0, zi n] := by
  intro σ τ μ ν h
  have hW := h
  obtain ⟨⟨e, ok, ab⟩, ⟨rok, hρ⟩, a3, a4, a5, a6, a7, a8, a9⟩ := h
  refine ⟨_, _, eX10_prove_0 σ μ n (by rw [e]; exact ok) rok, eX11_prove_0 τ ν n ok ab hρ, ?_⟩
  rintro r μ' t ν' ⟨p1, p2⟩ ⟨q1, q2⟩
  rw [e] at p1 p2
  refine ⟨_, p1, q1, ?_⟩
  by_cases z : pIn n 0 4 = true
  · rw [if_pos z] at p2 q2
    obtain ⟨p2, p3, p4⟩ := p2
    obtain ⟨q2, q3, q4, q5⟩ := q2
    have m4 : min n.toNatClampNeg (pRem (rS 1 ν)) ≤ 4 := by
      obtain ⟨j, ⟨j1, j2⟩, rfl⟩ := pIn_n (b := 4) (by omega) (by decide) z
      have : (nI j).toNatClampNeg = j := nI_clamp (by omega)
      omega
    exact wW_R hW p2 q2 (fun j hj => q3 j (by omega) (by omega) (by omega) (by omega)) ⟨_, m4, p3, q4, fun k hk w hw => by rw [p4 k hk w hw, q5 k hk w hw]⟩ (by decide) (by decide)
  · rw [if_neg z] at p2 q2
    rw [p2, q2]; exact hW
