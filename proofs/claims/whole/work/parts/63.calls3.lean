def wOK (s : Nat → Int32) : Prop := pOK s ∧ pAB s
theorem k_lamp {s : Nat → Int32} {k a z t : Int32} (h : wOK s) : wOK (sLamp s k a z t) := by
  unfold sLamp
  by_cases c : vLampC k a z t = true
  · rw [if_pos c]
    by_cases d : s 0 < 6
    · rw [if_pos d]
      obtain ⟨ok, ab⟩ := h
      obtain ⟨l1, l2⟩ := ok_L ok
      have l3 : pL s < 6 := by
        rw [l1, Int32.lt_iff_toInt_lt, zt6, nI_toInt (by omega)] at d; omega
      unfold vLampC pTold at c
      rw [Bool.and_eq_true, Bool.and_eq_true, Bool.and_eq_true] at c
      obtain ⟨⟨⟨c1, c2⟩, c3⟩, c4⟩ := c
      rw [if_pos rfl] at c2
      rw [if_neg (by decide), if_pos rfl] at c3
      rw [if_neg (by decide), if_neg (by decide), if_pos rfl] at c4
      unfold pIn at c1 c2 c3 c4
      rw [Bool.and_eq_true, decide_eq_true_eq, decide_eq_true_eq] at c1 c2 c3 c4
      have e0 : pLamp s k a z t 0 = nI (pL s + 1) := by
        show s 0 + 1 = _
        rw [l1, nI_succ]
      have eL : pL (pLamp s k a z t) = pL s + 1 := by
        unfold pL; rw [e0, nI_clamp (by omega)]; rfl
      have e1 : pLamp s k a z t 1 = s 1 := by
        unfold pLamp; rw [if_neg (by omega), if_neg (by omega), if_neg (by omega), if_neg (by omega), if_neg (by omega)]
      have e2 : pLamp s k a z t 2 = s 2 := by
        unfold pLamp; rw [if_neg (by omega), if_neg (by omega), if_neg (by omega), if_neg (by omega), if_neg (by omega)]
      have eB : pB (pLamp s k a z t) = pB s := by unfold pB; rw [e1]
      have eb : pb (pLamp s k a z t) = pb s := by unfold pb; rw [e2]
      have f : ∀ l w, l < pL s → w < 4 → pLamp s k a z t (7 + 4 * l + w) = s (7 + 4 * l + w) := fun l w hl hw => by
        unfold pLamp; rw [if_neg (by omega), if_neg (by omega), if_neg (by omega), if_neg (by omega), if_neg (by omega)]
      have g0 : pLamp s k a z t (7 + 4 * pL s) = k := by
        unfold pLamp; rw [if_neg (by omega), if_pos rfl]
      have g1 : pLamp s k a z t (7 + 4 * pL s + 1) = a := by
        unfold pLamp; rw [if_neg (by omega), if_neg (by omega), if_pos rfl]
      have g2 : pLamp s k a z t (7 + 4 * pL s + 2) = z := by
        unfold pLamp; rw [if_neg (by omega), if_neg (by omega), if_neg (by omega), if_pos rfl]
      have g3 : pLamp s k a z t (7 + 4 * pL s + 3) = t := by
        unfold pLamp; rw [if_neg (by omega), if_neg (by omega), if_neg (by omega), if_neg (by omega), if_pos rfl]
      refine ⟨⟨⟨by rw [e0, eL], by rw [eL]; omega⟩, ⟨by rw [e1, eB]; exact ok.2.1.1, by rw [eB]; exact ok.2.1.2⟩, ⟨by rw [e2, eb]; exact ok.2.2.1.1, by rw [eb, eB]; exact ok.2.2.1.2⟩, fun l hl => ?_⟩, fun l hl => ?_, fun b hb => ?_⟩
      · rw [eL] at hl
        by_cases q : l = pL s
        · subst q
          rw [g0, g2, g3]; exact ⟨c1, c3, c4⟩
        · have q1 : l < pL s := by omega
          rw [show pLamp s k a z t (7 + 4 * l) = s (7 + 4 * l) from f l 0 q1 (by omega), f l 2 q1 (by omega), f l 3 q1 (by omega)]
          exact ok.2.2.2 l q1
      · rw [eL] at hl
        by_cases q : l = pL s
        · subst q
          rw [g1]; exact c2
        · have q1 : l < pL s := by omega
          rw [f l 1 q1 (by omega)]; exact ab.1 l q1
      · rw [eB] at hb
        have : pLamp s k a z t (31 + b) = s (31 + b) := by
          unfold pLamp; rw [if_neg (by omega), if_neg (by omega), if_neg (by omega), if_neg (by omega), if_neg (by omega)]
        rw [this]; exact ab.2 b hb
    · rw [if_neg d]; exact h
  · rw [if_neg c]; exact h
theorem k_has {s : Nat → Int32} {l : Int32} (ok : pOK s) (h : pHas (s 0) l = true) : ∃ j, j < pL s ∧ j < 6 ∧ (nI j).toNatClampNeg = j ∧ l = nI j := by
  obtain ⟨j, ⟨j1, j2, j3⟩, e⟩ := has_ok (s := s) (ok_L ok).1 (ok_L ok).2 (by omega) h
  exact ⟨j, j1, j2, j3, e⟩
theorem k_change {s : Nat → Int32} {l w v : Int32} (h : wOK s) : wOK (sChange s l w v) := by
  unfold sChange
  by_cases c : pHas (s 0) l = true ∧ pTold w v = true
  · rw [if_pos c]
    obtain ⟨ok, ab⟩ := h
    obtain ⟨j, j1, j2, j3, rfl⟩ := k_has ok c.1
    have c2 := c.2
    unfold pTold pIn at c2
    rw [j3]
    by_cases w1 : w = 1
    · rw [if_pos w1, Bool.and_eq_true, decide_eq_true_eq, decide_eq_true_eq] at c2
      rw [w1, show (1 : Int32).toNatClampNeg = 1 by decide]
      exact ⟨pOK_fld ok j1 (Or.inl rfl), pAB_put ab (by omega) (Or.inl c2) (ok_B ok).2⟩
    · rw [if_neg w1] at c2
      by_cases w2 : w = 2
      · rw [if_pos w2, Bool.and_eq_true, decide_eq_true_eq, decide_eq_true_eq] at c2
        rw [w2, show (2 : Int32).toNatClampNeg = 2 by decide]
        exact ⟨pOK_fld ok j1 (Or.inr (Or.inl ⟨rfl, c2⟩)), pAB_put ab (by omega) (Or.inr ⟨fun q => by omega, by omega⟩) (ok_B ok).2⟩
      · rw [if_neg w2] at c2
        by_cases w3 : w = 3
        · rw [if_pos w3, Bool.and_eq_true, decide_eq_true_eq, decide_eq_true_eq] at c2
          rw [w3, show (3 : Int32).toNatClampNeg = 3 by decide]
          exact ⟨pOK_fld ok j1 (Or.inr (Or.inr (Or.inl ⟨rfl, c2⟩))), pAB_put ab (by omega) (Or.inr ⟨fun q => by omega, by omega⟩) (ok_B ok).2⟩
        · rw [if_neg w3] at c2; exact absurd c2 (by decide)
  · rw [if_neg c]; exact h
theorem k_remake {s : Nat → Int32} {l k : Int32} (h : wOK s) : wOK (sRemake s l k) := by
  unfold sRemake
  by_cases c : pHas (s 0) l = true ∧ pIn k 1 5 = true
  · rw [if_pos c]
    obtain ⟨ok, ab⟩ := h
    obtain ⟨j, j1, j2, j3, rfl⟩ := k_has ok c.1
    have c2 := c.2
    unfold pIn at c2
    rw [Bool.and_eq_true, decide_eq_true_eq, decide_eq_true_eq] at c2
    rw [j3]
    exact ⟨pOK_fld (w := 0) ok j1 (Or.inr (Or.inr (Or.inr ⟨rfl, c2⟩))), pAB_put ab (by omega) (Or.inr ⟨fun q => by omega, by omega⟩) (ok_B ok).2⟩
  · rw [if_neg c]; exact h
theorem k_dance {s : Nat → Int32} {p : Int32} (h : wOK s) : wOK (sDance s p) := by
  unfold sDance
  by_cases c : pIn p 0 40 = true
  · rw [if_pos c]
    by_cases d : s 1 < 16
    · rw [if_pos d]
      obtain ⟨ok, ab⟩ := h
      obtain ⟨l1, l2⟩ := ok_B ok
      have l3 : pB s < 16 := by
        rw [l1, Int32.lt_iff_toInt_lt, zt16, nI_toInt (by omega)] at d; omega
      unfold pIn at c
      rw [Bool.and_eq_true, decide_eq_true_eq, decide_eq_true_eq] at c
      have e1 : pDance s p 1 = nI (pB s + 1) := by
        show s 1 + 1 = _
        rw [l1, nI_succ]
      have f : ∀ i, i ≠ 1 → i ≠ 31 + pB s → pDance s p i = s i := fun i a b => by
        unfold pDance; rw [if_neg a, if_neg b]
      have eL : pL (pDance s p) = pL s := by unfold pL; rw [f 0 (by omega) (by omega)]
      have eB : pB (pDance s p) = pB s + 1 := by unfold pB; rw [e1, nI_clamp (by omega)]; rfl
      have eb : pb (pDance s p) = pb s := by unfold pb; rw [f 2 (by omega) (by omega)]
      have l6 := (ok_L ok).2
      have b6 := (ok_b ok).2
      refine ⟨⟨⟨by rw [f 0 (by omega) (by omega), eL]; exact ok.1.1, by rw [eL]; exact l6⟩, ⟨by rw [e1, eB], by rw [eB]; omega⟩, ⟨by rw [f 2 (by omega) (by omega), eb]; exact ok.2.2.1.1, by rw [eb, eB]; omega⟩, fun l hl => ?_⟩, fun l hl => ?_, fun b hb => ?_⟩
      · rw [eL] at hl
        rw [f _ (by omega) (by omega), f _ (by omega) (by omega), f _ (by omega) (by omega)]
        exact ok.2.2.2 l hl
      · rw [eL] at hl
        rw [f _ (by omega) (by omega)]
        exact ab.1 l hl
      · rw [eB] at hb
        by_cases q : b = pB s
        · subst q
          have : pDance s p (31 + pB s) = p := by unfold pDance; rw [if_neg (by omega), if_pos rfl]
          rw [this]; exact c
        · rw [f _ (by omega) (by omega)]
          exact ab.2 b (by omega)
    · rw [if_neg d]; exact h
  · rw [if_neg c]; exact h
theorem k_steps {s : Nat → Int32} {b p : Int32} (h : wOK s) : wOK (sSteps s b p) := by
  unfold sSteps
  by_cases c : pHas (s 1) b = true ∧ pIn p 0 40 = true
  · rw [if_pos c]
    by_cases d : b < s 2
    · rw [if_pos d]; exact h
    · rw [if_neg d]
      obtain ⟨ok, ab⟩ := h
      have c2 := c.2
      unfold pIn at c2
      rw [Bool.and_eq_true, decide_eq_true_eq, decide_eq_true_eq] at c2
      exact ⟨pOK_put ok (by omega), pAB_put ab (by omega) (Or.inl c2) (ok_B ok).2⟩
  · rw [if_neg c]; exact h
theorem k_anew {s : Nat → Int32} (h : wOK s) : wOK (pPut (pPut s 2 0) 3 0) := by
  obtain ⟨ok, ab⟩ := h
  have f : ∀ i, i ≠ 2 → i ≠ 3 → pPut (pPut s 2 0) 3 0 i = s i := fun i a b => by
    unfold pPut; rw [if_neg b, if_neg a]
  have e2 : pPut (pPut s 2 0) 3 0 2 = 0 := rfl
  have eL : pL (pPut (pPut s 2 0) 3 0) = pL s := by unfold pL; rw [f 0 (by omega) (by omega)]
  have eB : pB (pPut (pPut s 2 0) 3 0) = pB s := by unfold pB; rw [f 1 (by omega) (by omega)]
  have eb : pb (pPut (pPut s 2 0) 3 0) = 0 := by unfold pb; rw [e2]; decide
  refine ⟨⟨⟨by rw [f 0 (by omega) (by omega), eL]; exact ok.1.1, by rw [eL]; exact ok.1.2⟩, ⟨by rw [f 1 (by omega) (by omega), eB]; exact ok.2.1.1, by rw [eB]; exact ok.2.1.2⟩, ⟨by rw [e2, eb]; decide, by rw [eb]; omega⟩, fun l hl => ?_⟩, fun l hl => ?_, fun b hb => ?_⟩
  · rw [eL] at hl
    rw [f _ (by omega) (by omega), f _ (by omega) (by omega), f _ (by omega) (by omega)]
    exact ok.2.2.2 l hl
  · rw [eL] at hl
    rw [f _ (by omega) (by omega)]
    exact ab.1 l hl
  · rw [eB] at hb
    rw [f _ (by omega) (by omega)]
    exact ab.2 b hb
theorem k_seed {s : Nat → Int32} {v : Int32} (h : wOK s) : wOK (pPut s 4 v) :=
  ⟨pOK_put h.1 (by omega), pAB_put h.2 (by omega) (Or.inr ⟨fun q => by omega, by omega⟩) (ok_B h.1).2⟩
theorem k_beat {ρ : pR} {s : Nat → Int32} (h : wOK s) : wOK (sBeat ρ s) := by
  unfold sBeat
  by_cases c : pOver s = true
  · rw [if_pos c]; exact h
  · rw [if_neg c]
    exact ⟨pOK_go h.1 (pOver_b h.1 (by cases q : pOver s; rfl; exact absurd q c)), pAB_go h.1 h.2⟩
theorem k_lot {ρ : pR} {s : Nat → Int32} (h : wOK s) : wOK (sLot ρ s) := by
  unfold sLot
  by_cases c : pOver s = true
  · rw [if_pos c]; exact h
  · rw [if_neg c]
    have b := pOver_b h.1 (by cases q : pOver s; rfl; exact absurd q c)
    have o := pOK_slip h.1
    exact ⟨pOK_go o (by rw [pSlip_n.1, pSlip_n.2.1]; exact b), pAB_go o (pAB_slip h.2 (ok_B h.1).2)⟩
/-- both sides go to the same stage, and leave the rest -/
theorem wW_s {J K : List Nat} {μ μ' ν ν' : zM} {s : Nat → Int32} (h : wW μ ν) (p : cS 18 μ' = s) (hJ : zJ J μ μ') (q : rS 1 ν' = s) (o : wOK s) (hk : ∀ i, i = 5 ∨ i = 6 ∨ 47 ≤ i → ν' 1 i = ν 1 i) (hK : zJ K ν ν') (dJ : (wCc ++ [72]).all (fun k => decide (k ∉ J) || decide (18 ≤ k ∧ k ≤ 23)) = true) (dK : (wRc ++ [0]).all (fun k => decide (k ∉ K)) = true) : wW μ' ν' := by
  obtain ⟨a1, a2, a3, a4, a5, a6, a7, a8, a9⟩ := h
  rw [List.all_eq_true] at dJ dK
  have c : ∀ k, (k ∈ wCc ++ [72] ∧ (k < 18 ∨ 23 < k)) → μ' k = μ k := fun k hk => hJ k (by
    have := dJ k hk.1
    rw [Bool.or_eq_true, decide_eq_true_eq, decide_eq_true_eq] at this
    rcases this with g | g
    · exact g
    · omega)
  have d : ∀ k, k ∈ wRc ++ [0] → ν' k = ν k := fun k hk => hK k (by have := dK k hk; rw [decide_eq_true_eq] at this; exact this)
  have d0 := d 0 (by decide)
  refine ⟨⟨by rw [p, q], by rw [q]; exact o.1, by rw [q]; exact o.2⟩, wU_f (fun q hq => c _ ?_) (fun i hi => hk i (by omega)) a2, wP_f (fun q hq => c _ ?_) (fun i hi => hk i (by omega)) a3,
    wF_f (by rw [c 7 (by decide)]) (c 8 (by decide)) (c 15 (by decide)) (by rw [d0]) (d 5 (by decide)) a4, wR_f (by rw [c 47 (by decide)]) (fun k hk => c _ ?_) (by rw [d0]) (d 17 (by decide)) a5,
    wH_f (c 54 (by decide)) (c 55 (by decide)) (fun k hk => c _ ?_) (d 18 (by decide)) (d 19 (by decide)) (d 20 (by decide)) a6,
    wL_f (c 62 (by decide)) (c 63 (by decide)) (c 64 (by decide)) (d 21 (by decide)) (d 22 (by decide)) (d 23 (by decide)) a7,
    wC_f (by rw [c 65 (by decide)]) (c 66 (by decide)) (by rw [d0]) (d 24 (by decide)) a8, wK_f (by rw [c 0 (by decide)]) (fun k q1 q2 => c k ?_) (by rw [d0]) (fun j _ => by rw [d 2 (by decide)]) a9⟩
  · rcases (show q = 0 ∨ q = 1 ∨ q = 2 ∨ q = 3 ∨ q = 4 by omega) with rfl | rfl | rfl | rfl | rfl <;> decide
  · rcases (show q = 0 ∨ q = 1 ∨ q = 2 ∨ q = 3 ∨ q = 4 by omega) with rfl | rfl | rfl | rfl | rfl <;> decide
  · rcases (show k = 0 ∨ k = 1 ∨ k = 2 ∨ k = 3 by omega) with rfl | rfl | rfl | rfl <;> decide
  · rcases (show k = 0 ∨ k = 1 ∨ k = 2 ∨ k = 3 by omega) with rfl | rfl | rfl | rfl <;> decide
  · rcases (show k = 67 ∨ k = 68 ∨ k = 69 ∨ k = 70 ∨ k = 71 ∨ k = 72 ∨ k = 73 ∨ k = 74 ∨ k = 75 ∨ k = 76 ∨ k = 77 ∨ k = 78 ∨ k = 79 ∨ k = 80 ∨ k = 81 ∨ k = 82 ∨ k = 83 ∨ k = 84 by omega) with rfl | rfl | rfl | rfl | rfl | rfl | rfl | rfl | rfl | rfl | rfl | rfl | rfl | rfl | rfl | rfl | rfl | rfl <;> decide
theorem w_lamp (k : Int32) (a : Int32) (z : Int32) (t : Int32) : wCall 2 MX10_lamp yX10_lamp 2 MX11_lamp yX11_lamp [zr 0, zi k, zi a, zi z, zi t] := by
  intro σ τ μ ν h
  have hW := h
  obtain ⟨⟨e, ok, ab⟩, ⟨rok, hρ⟩, a3, a4, a5, a6, a7, a8, a9⟩ := h
  refine ⟨_, _, eX10_lamp_0 σ μ k a z t (by rw [e]; exact ok), eX11_lamp_0 τ ν k a z t ok, ?_⟩
  rintro r μ' t ν' ⟨p1, p2, p3⟩ ⟨q1, q2, q3, q4⟩
  rw [e] at p2
  exact ⟨_, p1, by rw [q1, e], wW_s hW p2 p3 q2 (k_lamp ⟨ok, ab⟩) q3 q4 (by decide) (by decide)⟩
theorem w_change (l : Int32) (what : Int32) (v : Int32) : wCall 2 MX10_change yX10_change 2 MX11_change yX11_change [zr 0, zi l, zi what, zi v] := by
  intro σ τ μ ν h
  have hW := h
  obtain ⟨⟨e, ok, ab⟩, ⟨rok, hρ⟩, a3, a4, a5, a6, a7, a8, a9⟩ := h
  refine ⟨_, _, eX10_change_0 σ μ l what v (by rw [e]; exact ok), eX11_change_0 τ ν l what v ok, ?_⟩
  rintro r μ' t ν' ⟨p1, p2, p3⟩ ⟨q1, q2, q3, q4⟩
  rw [e] at p2
  exact ⟨_, p1, by rw [q1, e], wW_s hW p2 p3 q2 (k_change ⟨ok, ab⟩) q3 q4 (by decide) (by decide)⟩
theorem w_remake (l : Int32) (k : Int32) : wCall 2 MX10_remake yX10_remake 2 MX11_remake yX11_remake [zr 0, zi l, zi k] := by
  intro σ τ μ ν h
  have hW := h
  obtain ⟨⟨e, ok, ab⟩, ⟨rok, hρ⟩, a3, a4, a5, a6, a7, a8, a9⟩ := h
  refine ⟨_, _, eX10_remake_0 σ μ l k (by rw [e]; exact ok), eX11_remake_0 τ ν l k ok, ?_⟩
  rintro r μ' t ν' ⟨p1, p2, p3⟩ ⟨q1, q2, q3, q4⟩
  rw [e] at p2
  exact ⟨_, p1, by rw [q1, e], wW_s hW p2 p3 q2 (k_remake ⟨ok, ab⟩) q3 q4 (by decide) (by decide)⟩
theorem w_dance (p : Int32) : wCall 1 MX10_dance yX10_dance 1 MX11_dance yX11_dance [zr 0, zi p] := by
  intro σ τ μ ν h
  have hW := h
  obtain ⟨⟨e, ok, ab⟩, ⟨rok, hρ⟩, a3, a4, a5, a6, a7, a8, a9⟩ := h
  refine ⟨_, _, eX10_dance_0 σ μ p (by rw [e]; exact ok), eX11_dance_0 τ ν p ok, ?_⟩
  rintro r μ' t ν' ⟨p1, p2, p3⟩ ⟨q1, q2, q3, q4⟩
  rw [e] at p2
  exact ⟨_, p1, by rw [q1, e], wW_s hW p2 p3 q2 (k_dance ⟨ok, ab⟩) q3 q4 (by decide) (by decide)⟩
theorem w_steps (b : Int32) (p : Int32) : wCall 1 MX10_steps yX10_steps 2 MX11_steps yX11_steps [zr 0, zi b, zi p] := by
  intro σ τ μ ν h
  have hW := h
  obtain ⟨⟨e, ok, ab⟩, ⟨rok, hρ⟩, a3, a4, a5, a6, a7, a8, a9⟩ := h
  refine ⟨_, _, eX10_steps_0 σ μ b p (by rw [e]; exact ok), eX11_steps_0 τ ν b p ok, ?_⟩
  rintro r μ' t ν' ⟨p1, p2, p3⟩ ⟨q1, q2, q3, q4⟩
  rw [e] at p2
  exact ⟨_, p1, by rw [q1, e], wW_s hW p2 p3 q2 (k_steps ⟨ok, ab⟩) q3 q4 (by decide) (by decide)⟩
theorem w_anew : wCall 0 MX10_anew yX10_anew 1 MX11_anew yX11_anew [zr 0] := by
  intro σ τ μ ν h
  have hW := h
  obtain ⟨⟨e, ok, ab⟩, ⟨rok, hρ⟩, a3, a4, a5, a6, a7, a8, a9⟩ := h
  refine ⟨_, _, eX10_anew_0 σ μ  , eX11_anew_0 τ ν  , ?_⟩
  rintro r μ' t ν' ⟨p1, p2, p3⟩ ⟨q1, q2, q3, q4⟩
  rw [e] at p2
  exact ⟨_, p1, by rw [q1, e], wW_s hW p2 p3 q2 (k_anew ⟨ok, ab⟩) q3 q4 (by decide) (by decide)⟩
theorem w_seed (v : Int32) : wCall 0 MX10_seed yX10_seed 1 MX11_seed yX11_seed [zr 0, zi v] := by
  intro σ τ μ ν h
  have hW := h
  obtain ⟨⟨e, ok, ab⟩, ⟨rok, hρ⟩, a3, a4, a5, a6, a7, a8, a9⟩ := h
  refine ⟨_, _, eX10_seed_0 σ μ v , eX11_seed_0 τ ν v , ?_⟩
  rintro r μ' t ν' ⟨p1, p2, p3⟩ ⟨q1, q2, q3, q4⟩
  rw [e] at p2
  exact ⟨_, p1, by rw [q1, e], wW_s hW p2 p3 q2 (k_seed ⟨ok, ab⟩) q3 q4 (by decide) (by decide)⟩
theorem w_beat : wCall 5 MX10_beat yX10_beat 7 MX11_beat yX11_beat [zr 0] := by
  intro σ τ μ ν h
  have hW := h
  obtain ⟨⟨e, ok, ab⟩, ⟨rok, hρ⟩, a3, a4, a5, a6, a7, a8, a9⟩ := h
  refine ⟨_, _, eX10_beat_0 σ μ  (by rw [e]; exact ok) rok, eX11_beat_0 τ ν  ok ab hρ, ?_⟩
  rintro r μ' t ν' ⟨p1, p2, p3⟩ ⟨q1, q2, q3, q4⟩
  rw [e] at p2
  exact ⟨_, p1, by rw [q1, e], wW_s hW p2 p3 q2 (k_beat ⟨ok, ab⟩) q3 q4 (by decide) (by decide)⟩
theorem w_lot : wCall 6 MX10_lot yX10_lot 8 MX11_lot yX11_lot [zr 0] := by
  intro σ τ μ ν h
  have hW := h
  obtain ⟨⟨e, ok, ab⟩, ⟨rok, hρ⟩, a3, a4, a5, a6, a7, a8, a9⟩ := h
  refine ⟨_, _, eX10_lot_0 σ μ  (by rw [e]; exact ok) rok, eX11_lot_0 τ ν  ok ab hρ, ?_⟩
  rintro r μ' t ν' ⟨p1, p2, p3⟩ ⟨q1, q2, q3, q4⟩
  rw [e] at p2
  exact ⟨_, p1, by rw [q1, e], wW_s hW p2 p3 q2 (k_lot ⟨ok, ab⟩) q3 q4 (by decide) (by decide)⟩
theorem w_goAll (k : Int32) (i : Int32) (n : Int32) : wCall 6 MX10_goAll yX10_goAll 7 MX11_goAll yX11_goAll [zr 0, zi k, zi i, zi n] := by
  intro σ τ μ ν h
  have hW := h
  obtain ⟨⟨e, ok, ab⟩, ⟨rok, hρ⟩, a3, a4, a5, a6, a7, a8, a9⟩ := h
  refine ⟨_, _, eX10_goAll_0 σ μ k i n (by rw [e]; exact ok) rok (wH_c a6), eX11_goAll_0 τ ν k i n ok ab hρ (wH_r a6), ?_⟩
  rintro r μ' t ν' ⟨p1, p2, p3⟩ ⟨q1, q2, q3, q4, q5, q6⟩
  rw [← wNo a6] at q1 q2
  refine ⟨_, p1, ?_, wW_s hW (s := rS 1 ν') ?_ p3 rfl ⟨q3, q4⟩ (fun i hi => q5 i (by omega)) q6 (by decide) (by decide)⟩
  · rw [q1]
    by_cases z : vNoActs μ k n = 0
    · rw [if_pos z, if_pos z, wItems a6 e z]
    · rw [if_neg z, if_neg z]
  · rw [p2, q2]
    by_cases z : vNoActs μ k n = 0
    · rw [if_pos z, if_pos z, wItems a6 e z]
    · rw [if_neg z, if_neg z, e]
