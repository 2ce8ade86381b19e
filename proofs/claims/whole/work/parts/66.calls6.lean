theorem pW_n {n : Nat} (h : n ≤ 40) : pW (nI n) 0 40 = nI n := by
  unfold pW
  have h1 : ¬ nI n < 0 := Int32.not_lt.mpr (nI_pos' (by omega))
  have h2 : ¬ (40 : Int32) < nI n := Int32.not_lt.mpr (nI_le (b := 40) h (by omega))
  simp only [h1, h2, if_false]
theorem vSheet_1 {k sort n : Int32} (h : vSheetC k sort n = 1) : pHas 4 k = true ∧ (-1 ≤ sort ∧ sort ≤ 4) ∧ ∃ ln, ln ≤ 40 ∧ (if sort = -1 then 0 else n) = nI ln := by
  unfold vSheetC at h
  by_cases c : pHas 4 k = true ∧ pIn sort (-1) 4 = true
  · rw [if_pos c] at h
    refine ⟨c.1, ?_, ?_⟩
    · have := c.2
      unfold pIn at this
      rw [Bool.and_eq_true, decide_eq_true_eq, decide_eq_true_eq] at this
      exact this
    · by_cases d : sort = -1
      · exact ⟨0, by omega, by rw [if_pos d]; rfl⟩
      · rw [if_neg d] at h ⊢
        by_cases f : (40 : Int32) < n
        · rw [if_pos f] at h; exact absurd h (by decide)
        · rw [if_neg f] at h
          by_cases g : n < 0
          · rw [if_pos g] at h; exact absurd h (by decide)
          · obtain ⟨j, j1, rfl⟩ := nI_of2 (n := 40) (M := 40) (by decide) g (Int32.not_lt.mp f)
            exact ⟨j, j1, rfl⟩
  · rw [if_neg c] at h; exact absurd h (by decide)
theorem w_sheet (k : Int32) (sort : Int32) (n : Int32) : wCall 3 MX10_sheet yX10_sheet 2 MX11_sheet yX11_sheet [zr 0, zi k, zi sort, zi n] := by
  intro σ τ μ ν h
  have hW := h
  obtain ⟨⟨e, ok, ab⟩, ⟨rok, hρ⟩, a3, a4, a5, a6, a7, a8, a9⟩ := h
  refine ⟨_, _, eX10_sheet_0 σ μ k sort n, eX11_sheet_0 τ ν k sort n, ?_⟩
  rintro r μ' t ν' ⟨p1, p2⟩ ⟨q1, q2⟩
  refine ⟨_, p1, q1, ?_⟩
  by_cases z : vSheetC k sort n = 1
  · rw [if_pos z] at p2 q2
    obtain ⟨p2, p3⟩ := p2
    obtain ⟨q2, q3, q4, q5, q6⟩ := q2
    obtain ⟨hk, hs, ln, l4, hl⟩ := vSheet_1 z
    obtain ⟨j, ⟨j1, j2, j3⟩, e1⟩ := has_ok (s := fun _ => 0) (x := 4) (m := 4) (c := 4) rfl (Nat.le_refl _) (by omega) hk
    subst e1
    rw [j3] at p2 p3 q3 q4 q5 q6
    rw [hl] at p2 q4
    rw [pW_n l4] at p2
    have m1 : ∀ q, q ≠ 57 + j → q ≠ 54 → q ≠ 55 → μ' q = μ q := fun q a b c => by
      rw [p2 q (by rw [List.mem_singleton]; exact a), zp_ne c, zp_ne b]
    have m54 : μ' 54 = upd (μ 54) j sort := by
      rw [p2 54 (by rw [List.mem_singleton]; omega), zp_ne (by omega), zp_eq]
    have m55 : μ' 55 = upd (μ 55) j (nI ln) := by
      rw [p2 55 (by rw [List.mem_singleton]; omega), zp_eq, zp_ne (by omega)]
    refine wW_H (J := [54, 55, 57, 58, 59, 60]) hW (fun q hq => ?_) q2 (fun j _ => by rw [q2 0 (by decide)]) (fun k hk => ?_) (by decide) (by decide)
    · simp only [List.mem_cons, List.not_mem_nil, or_false] at hq
      exact m1 q (by omega) (by omega) (by omega)
    · obtain ⟨b1, b2, b3, b4, b5⟩ := a6 k hk
      rw [m54, m55, q3, q4]
      unfold upd
      by_cases e1 : k = j
      · subst e1
        rw [if_pos rfl, if_pos rfl, if_pos rfl, if_pos rfl]
        exact ⟨rfl, rfl, hs, ⟨ln, l4, rfl⟩, fun x hx => by rw [p3 x hx, q5 x hx]⟩
      · rw [if_neg e1, if_neg e1, if_neg e1, if_neg e1]
        refine ⟨b1, b2, b3, b4, fun x hx => ?_⟩
        rw [m1 _ (by omega) (by omega) (by omega), q6 _ (by omega)]
        exact b5 x hx
  · rw [if_neg z] at p2 q2
    rw [p2, q2]; exact hW
theorem w_shelf (h_ : Int32) (w : Int32) (n : Int32) : wCall 2 MX10_shelf yX10_shelf 2 MX11_shelf yX11_shelf [zr 0, zi h_, zi w, zi n] := by
  intro σ τ μ ν h
  have hW := h
  obtain ⟨⟨e, ok, ab⟩, ⟨rok, hρ⟩, a3, a4, a5, a6, a7, a8, a9⟩ := h
  refine ⟨_, _, eX10_shelf_0 σ μ h_ w n, eX11_shelf_0 τ ν h_ w n ok, ?_⟩
  rintro r μ' t ν' ⟨p1, p2⟩ ⟨q1, q2⟩
  rw [e] at p1 p2
  refine ⟨_, p1, q1, ?_⟩
  by_cases z : vShelf (rS 1 ν) h_ w n = 1
  · rw [if_pos z] at p2 q2
    unfold vShelf at z
    by_cases c : pHas 4 h_ = true
    · rw [if_pos c] at z
      obtain ⟨j, ⟨j1, j2, j3⟩, e1⟩ := has_ok (s := fun _ => 0) (x := 4) (m := 4) (c := 4) rfl (Nat.le_refl _) (by omega) c
      subst e1
      unfold mShelf at p2
      unfold gShelf at q2
      rw [j3] at p2 q2
      have v21 : ν' 21 = upd (ν 21) j (if w = 0 then 1 else if w = 1 ∧ ¬ ν 18 n.toNatClampNeg < 0 then 2 else 0) := by
        rw [q2, zp_ne (by omega), zp_ne (by omega), zp_eq]
      have v22 : ν' 22 = upd (ν 22) j (if w = 1 then ν 19 n.toNatClampNeg else n) := by
        rw [q2, zp_ne (by omega), zp_eq, zp_ne (by omega)]
      have v23 : ν' 23 = upd (ν 23) j (if w = 1 then ν 18 n.toNatClampNeg else 0) := by
        rw [q2, zp_eq, zp_ne (by omega), zp_ne (by omega)]
      have K : zJ [21, 22, 23] ν ν' := by
        rw [q2]; exact zJ_p (zJ_p (zJ_p zJ_r (by decide)) (by decide)) (by decide)
      have J : zJ [62, 63, 64] μ μ' := by
        rw [p2]
        by_cases w0 : w = 0
        · rw [if_pos w0]; exact zJ_p (zJ_p zJ_r (by decide)) (by decide)
        · rw [if_neg w0]
          by_cases w1 : w = 1
          · rw [if_pos w1]
            by_cases m : μ 54 n.toNatClampNeg = -1
            · rw [if_pos m]; exact zJ_p zJ_r (by decide)
            · rw [if_neg m]; exact zJ_p (zJ_p (zJ_p zJ_r (by decide)) (by decide)) (by decide)
          · rw [if_neg w1]; exact zJ_p zJ_r (by decide)
      refine wW_L hW J K (fun j _ => by rw [K 0 (by decide)]) (fun k hk => ?_) (by decide) (by decide)
      have old := a7 k hk
      by_cases e1 : k = j
      · subst e1
        rw [v21, v22, v23]
        unfold upd
        rw [if_pos rfl, if_pos rfl, if_pos rfl]
        by_cases w0 : w = 0
        · rw [if_pos w0] at p2
          have x62 : μ' 62 k = 1 := by rw [p2, zp_ne (by omega), zp_eq]; exact if_pos rfl
          have x63 : μ' 63 k = n := by rw [p2, zp_eq]; exact if_pos rfl
          rw [if_pos w0, x62, x63, if_neg (by rw [w0]; decide)]
          exact ⟨rfl, Or.inr (Or.inl ⟨rfl, rfl⟩)⟩
        · rw [if_neg w0] at p2 z
          rw [if_neg w0]
          by_cases w1 : w = 1
          · rw [if_pos w1] at p2 z
            by_cases hn : pHas 4 n = true
            · obtain ⟨i, ⟨i1, i2, i3⟩, e2⟩ := has_ok (s := fun _ => 0) (x := 4) (m := 4) (c := 4) rfl (Nat.le_refl _) (by omega) hn
              subst e2
              rw [i3] at p2 ⊢
              obtain ⟨g1, g2, g3, _, _⟩ := a6 i i1
              rw [g1, g2] at p2
              rw [if_pos w1, if_pos w1]
              simp only [lt0_m1 g3.1]
              by_cases m : ν 18 i = -1
              · rw [if_pos m] at p2
                have x62 : μ' 62 k = 0 := by rw [p2, zp_eq]; exact if_pos rfl
                rw [x62, if_neg (fun q => q.2 m)]
                exact ⟨rfl, Or.inl rfl⟩
              · rw [if_neg m] at p2
                have x62 : μ' 62 k = 2 := by rw [p2, zp_ne (by omega), zp_ne (by omega), zp_eq]; exact if_pos rfl
                have x63 : μ' 63 k = ν 18 i := by rw [p2, zp_ne (by omega), zp_eq]; exact if_pos rfl
                have x64 : μ' 64 k = ν 19 i := by rw [p2, zp_eq]; exact if_pos rfl
                rw [x62, x63, x64, if_pos ⟨w1, m⟩]
                exact ⟨rfl, Or.inr (Or.inr ⟨rfl, rfl, rfl⟩)⟩
            · rw [if_neg hn] at z; exact absurd z (by decide)
          · rw [if_neg w1] at p2
            have x62 : μ' 62 k = 0 := by rw [p2, zp_eq]; exact if_pos rfl
            rw [x62, if_neg (fun q => w1 q.1)]
            exact ⟨rfl, Or.inl rfl⟩
      · rw [v21, v22, v23]
        unfold upd
        rw [if_neg e1, if_neg e1, if_neg e1]
        have f62 : μ' 62 k = μ 62 k := by
          rw [p2]; (repeat' split) <;> simp [zp, zu, upd, e1]
        have f63 : μ' 63 k = μ 63 k := by
          rw [p2]; (repeat' split) <;> simp [zp, zu, upd, e1]
        have f64 : μ' 64 k = μ 64 k := by
          rw [p2]; (repeat' split) <;> simp [zp, zu, upd, e1]
        rw [f62, f63, f64]
        exact old
    · rw [if_neg c] at z; exact absurd z (by decide)
  · rw [if_neg z] at p2 q2
    rw [p2, q2]; exact hW
theorem wHeld {μ ν : zM} (e : cS 18 μ = rS 1 ν) (h : wL μ ν) {k : Nat} (hk : k < 4) :
    (gH ν k = 0 ∧ (decide (μ 62 k = 1) && pHas (μ 18 7) (μ 63 k)) = false ∧ ¬ μ 62 k = 2) ∨
    (gH ν k = 1 ∧ (decide (μ 62 k = 1) && pHas (μ 18 7) (μ 63 k)) = true ∧ μ 63 k = ν 22 k ∧ pHas (rS 1 ν 0) (ν 22 k) = true) ∨
    (gH ν k = 2 ∧ (decide (μ 62 k = 1) && pHas (μ 18 7) (μ 63 k)) = false ∧ μ 62 k = 2 ∧ μ 63 k = ν 23 k ∧ μ 64 k = ν 22 k) := by
  obtain ⟨h1, h2⟩ := h k hk
  unfold gH
  rw [← h1]
  have h0 := wT_0 e
  rcases h2 with g | ⟨g1, g2⟩ | ⟨g1, g2, g3⟩
  · refine Or.inl ⟨?_, ?_, ?_⟩
    · rw [if_neg (fun q => by rw [g] at q; exact absurd q.1 (by decide))]; exact g
    · rw [g]; rfl
    · rw [g]; decide
  · rw [g1, g2, h0]
    by_cases c : pHas (ν 1 0) (ν 22 k) = true
    · refine Or.inr (Or.inl ⟨?_, ?_, rfl, c⟩)
      · rw [if_neg (fun q => by rw [c] at q; exact absurd q.2 (by decide))]
      · rw [c]; decide
    · have c2 : pHas (ν 1 0) (ν 22 k) = false := by cases q : pHas (ν 1 0) (ν 22 k); rfl; exact absurd q c
      refine Or.inl ⟨?_, ?_, by decide⟩
      · rw [if_pos ⟨rfl, c2⟩]
      · rw [c2]; decide
  · refine Or.inr (Or.inr ⟨?_, ?_, g1, g2, g3⟩)
    · rw [if_neg (fun q => by rw [g1] at q; exact absurd q.1 (by decide))]; exact g1
    · rw [g1]; rfl
theorem wTaken {μ ν : zM} (e : cS 18 μ = rS 1 ν) (ok : pOK (rS 1 ν)) (hL : wL μ ν) (h as : Int32) : vTaken μ h as = gTaken ν h as := by
  unfold vTaken gTaken
  by_cases c : pHas 4 h = true
  · rw [if_pos c, if_pos c]
    obtain ⟨j, ⟨j1, j2, j3⟩, e1⟩ := has_ok (s := fun _ => 0) (x := 4) (m := 4) (c := 4) rfl (Nat.le_refl _) (by omega) c
    subst e1
    rw [j3]
    have H := wHeld e hL j1
    by_cases a : pIn as 0 5 = true
    · have a10 : as < 10 := by
        unfold pIn at a
        rw [Bool.and_eq_true, decide_eq_true_eq, decide_eq_true_eq] at a
        exact Int32.lt_of_le_of_lt a.2 (by decide)
      rw [if_pos a, if_pos (Or.inl a), if_pos a10]
      unfold vAsLamp
      rcases H with ⟨h1, h2, h3⟩ | ⟨h1, h2, h3, h4⟩ | ⟨h1, h2, h3, h4, h5⟩
      · rw [h1, h2, if_neg (by decide), if_neg h3, if_pos rfl]
      · obtain ⟨x, x1, x2, x3, x4⟩ := k_has ok h4
        rw [h1, h2, if_pos rfl, h3, if_neg (show ¬ (1 : Int32) = 0 by decide), x4, x3, wT_kd e x2]
        by_cases u : pUnder (rS 1 ν (7 + 4 * x)) as = true
        · rw [if_pos u, if_pos ⟨rfl, u⟩]
        · rw [if_neg u, if_neg (fun q => u q.2)]
      · rw [h1, h2, if_neg (by decide), if_pos h3, if_neg (by decide), if_neg (fun q => absurd q.1 (by decide))]
    · rw [if_neg a]
      by_cases b : pIn as 10 14 = true
      · have a10 : ¬ as < 10 := by
          unfold pIn at b
          rw [Bool.and_eq_true, decide_eq_true_eq, decide_eq_true_eq] at b
          exact Int32.not_lt.mpr b.1
        rw [if_pos b, if_pos (Or.inr b), if_neg a10]
        unfold vAsRow
        rcases H with ⟨h1, h2, h3⟩ | ⟨h1, h2, h3, h4⟩ | ⟨h1, h2, h3, h4, h5⟩
        · rw [h1, h2, if_neg h3, if_neg (by decide), if_pos rfl]
        · have n2 : ¬ μ 62 j = 2 := fun q => by
            rw [q, Bool.and_eq_true] at h2
            exact absurd h2.1 (by decide)
          rw [h1, h2, if_neg n2, if_pos rfl, if_neg (by decide), if_neg (fun q => absurd q.1 (by decide))]
        · rw [h1, if_pos h3, h4, h5, if_neg (show ¬ (2 : Int32) = 0 by decide)]
          by_cases u : ν 23 j = as - 10
          · rw [if_pos u, if_pos ⟨rfl, u⟩]
          · rw [if_neg u, if_neg (fun q => u q.2)]
      · rw [if_neg b, if_neg (fun q => q.elim a b)]
  · rw [if_neg c, if_neg c]
theorem pThL_le (act k n a : Int32) : (pThL act k n a).length ≤ 30 := by
  have h1 := pAimL_le k
  have h2 := pSwL_le k
  have h3 := pDimL_le k n a
  unfold pThL
  split
  · omega
  · split
    · omega
    · split
      · omega
      · unfold pFoL
        (repeat' split) <;> simp <;> omega
theorem wAct {μ ν : zM} (e : cS 18 μ = rS 1 ν) (ok : pOK (rS 1 ν)) (hL : wL μ ν) (h act x : Int32) : vAct μ h act x = gAct ν h act x ∧ vActL μ h act = gActL ν h act ∧ (gActL ν h act).length ≤ 30 := by
  unfold vAct gAct vActL gActL
  by_cases c : pHas 4 h = true
  · obtain ⟨j, ⟨j1, j2, j3⟩, e1⟩ := has_ok (s := fun _ => 0) (x := 4) (m := 4) (c := 4) rfl (Nat.le_refl _) (by omega) c
    subst e1
    have H := wHeld e hL j1
    have E : vActC μ (nI j) act = gActC ν (nI j) act := by
      unfold vActC gActC
      rw [j3]
      rcases H with ⟨h1, h2, h3⟩ | ⟨h1, h2, h3, h4⟩ | ⟨h1, h2, h3, h4, h5⟩ <;> rw [h1, h2] <;> rfl
    rw [E]
    by_cases g : gActC ν (nI j) act = true
    · rw [if_pos g, if_pos g, if_pos g, if_pos g]
      have G : gH ν j = 1 := by
        unfold gActC at g
        rw [Bool.and_eq_true, decide_eq_true_eq, j3] at g
        exact g.2
      rcases H with ⟨h1, h2, h3⟩ | ⟨h1, h2, h3, h4⟩ | ⟨h1, h2, h3, h4, h5⟩
      · rw [h1] at G; exact absurd G (by decide)
      · obtain ⟨y, y1, y2, y3, y4⟩ := k_has ok h4
        unfold gKd gSz gNm
        rw [j3, h3, y4, y3, wT_kd e y2, wT_sz e y2]
        exact ⟨rfl, rfl, pThL_le _ _ _ _⟩
      · rw [h1] at G; exact absurd G (by decide)
    · rw [if_neg g, if_neg g, if_neg g, if_neg g]
      exact ⟨rfl, rfl, by decide⟩
  · have c1 : vActC μ h act = false := by
      unfold vActC
      cases q : pHas 4 h
      · rfl
      · exact absurd q c
    have c2 : gActC ν h act = false := by
      unfold gActC
      cases q : pHas 4 h
      · rfl
      · exact absurd q c
    rw [c1, c2, if_neg (by decide), if_neg (by decide), if_neg (by decide), if_neg (by decide)]
    exact ⟨rfl, rfl, by decide⟩
theorem w_taken (h_ : Int32) (as : Int32) : wCall 3 MX10_taken yX10_taken 3 MX11_taken yX11_taken [zr 0, zi h_, zi as] := by
  intro σ τ μ ν h
  have hW := h
  obtain ⟨⟨e, ok, ab⟩, ⟨rok, hρ⟩, a3, a4, a5, a6, a7, a8, a9⟩ := h
  refine ⟨_, _, eX10_taken_0 σ μ h_ as (by rw [e]; exact ok), eX11_taken_0 τ ν h_ as ok, ?_⟩
  rintro r μ' t ν' ⟨p1, rfl⟩ ⟨q1, rfl⟩
  exact ⟨_, p1, by rw [q1, wTaken e ok a7], hW⟩
theorem w_act (h_ : Int32) (act : Int32) (x : Int32) : wCall 5 MX10_act yX10_act 10 MX11_act yX11_act [zr 0, zi h_, zi act, zi x] := by
  intro σ τ μ ν h
  have hW := h
  obtain ⟨⟨e, ok, ab⟩, ⟨rok, hρ⟩, a3, a4, a5, a6, a7, a8, a9⟩ := h
  refine ⟨_, _, eX10_act_0 σ μ h_ act x (by rw [e]; exact ok), eX11_act_0 τ ν h_ act x ok, ?_⟩
  rintro r μ' t ν' ⟨p1, p2, p3, p4⟩ ⟨q1, q2, q3, q4, q5⟩
  obtain ⟨w1, w2, w3⟩ := wAct e ok a7 h_ act x
  rw [w1] at p1
  rw [w2] at p3 p4
  exact ⟨_, p1, q1, wW_C hW p2 q2 (fun j hj => q3 j (by omega) (by omega) (by omega) (by omega) (by omega)) ⟨_, w3, p3, q4, fun j hj => by rw [p4 j hj, q5 j hj]⟩ (by decide) (by decide)⟩
