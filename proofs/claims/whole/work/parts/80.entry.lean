theorem kw_start : wW kμ kν := by
  refine wW_0 (fun k hk j => ?_) (fun k hk j => ?_) rfl rfl rfl rfl
  · have h25 : k ≠ 25 := fun h => absurd (h ▸ hk) (by decide)
    unfold kμ
    by_cases h1 : k = 54
    · rw [if_pos h1, if_pos h1]
    · rw [if_neg h1, if_neg h1]
      by_cases h2 : k = 18 ∨ k = 73
      · rw [if_pos (show k = 18 ∨ k = 25 ∨ k = 73 from h2.elim Or.inl (fun h => Or.inr (Or.inr h)))]
        by_cases h3 : j = 11
        · rw [if_pos (show (k = 18 ∨ k = 73) ∧ j = 11 from ⟨h2, h3⟩)]; show (if j = 11 then (1 : Int32) else 0) = 1; rw [if_pos h3]
        · rw [if_neg (fun h : (k = 18 ∨ k = 73) ∧ j = 11 => h3 h.2)]; show (if j = 11 then (1 : Int32) else 0) = 0; rw [if_neg h3]
      · rw [if_neg (fun h : k = 18 ∨ k = 25 ∨ k = 73 => h2 (h.elim Or.inl (fun h => h.elim (fun h => absurd h h25) Or.inr))), if_neg (fun h : (k = 18 ∨ k = 73) ∧ j = 11 => h2 h.1)]
  · unfold kν
    by_cases h1 : k = 18
    · rw [if_pos h1, if_pos h1]
    · rw [if_neg h1, if_neg h1]
      by_cases h2 : k = 1
      · rw [if_pos h2]
        by_cases h3 : j = 4
        · rw [if_pos (show k = 1 ∧ j = 4 from ⟨h2, h3⟩)]; show (if j = 4 then (1 : Int32) else 0) = 1; rw [if_pos h3]
        · rw [if_neg (fun h : k = 1 ∧ j = 4 => h3 h.2)]; show (if j = 4 then (1 : Int32) else 0) = 0; rw [if_neg h3]
      · rw [if_neg h2, if_neg (fun h : k = 1 ∧ j = 4 => h2 h.1)]
theorem kcL_7 : kCls RL 7 10 15 [.null, .null, .null, .null, .null, .null, .null, .null, .null, .null, .null, .null, .null, .null, .int 0] := ⟨RX10, TX10, tyX10, rfl, uX10, tyX10_ok, (zw_t (i := 20) (by decide +kernel) rfl), (zw_t (i := 21) (by decide +kernel) rfl), (zw_t (i := 1) (by decide +kernel) rfl), fun j hj => match j, hj with | 0, _ => rfl | 1, _ => rfl | 2, _ => rfl | 3, _ => rfl | 4, _ => rfl | 5, _ => rfl | 6, _ => rfl | 7, _ => rfl | 8, _ => rfl | 9, _ => rfl | 10, _ => rfl | 11, _ => rfl | 12, _ => rfl | 13, _ => rfl | 14, _ => rfl | j + 15, h => absurd h (by omega)⟩
theorem kcL_10 : kCls RL 10 11 40 [.null, .null, .null, .int 0, .null, .null, .int 0, .null, .int 0, .int 0, .int 0, .int 0, .int 0, .int 0, .int 0, .null, .null, .null, .null, .null, .int 0, .int 0, .int 0, .int 0, .int 0, .int 0, .null, .int 0, .null, .null, .null, .null, .null, .null, .null, .int 0, .int 0, .int 0, .int 0, .int 0] := ⟨RX11, TX11, tyX11, rfl, uX11, tyX11_ok, (zw_t (i := 1071) (by decide +kernel) rfl), (zw_t (i := 1072) (by decide +kernel) rfl), (zw_t (i := 12) (by decide +kernel) rfl), fun j hj => match j, hj with | 0, _ => rfl | 1, _ => rfl | 2, _ => rfl | 3, _ => rfl | 4, _ => rfl | 5, _ => rfl | 6, _ => rfl | 7, _ => rfl | 8, _ => rfl | 9, _ => rfl | 10, _ => rfl | 11, _ => rfl | 12, _ => rfl | 13, _ => rfl | 14, _ => rfl | 15, _ => rfl | 16, _ => rfl | 17, _ => rfl | 18, _ => rfl | 19, _ => rfl | 20, _ => rfl | 21, _ => rfl | 22, _ => rfl | 23, _ => rfl | 24, _ => rfl | 25, _ => rfl | 26, _ => rfl | 27, _ => rfl | 28, _ => rfl | 29, _ => rfl | 30, _ => rfl | 31, _ => rfl | 32, _ => rfl | 33, _ => rfl | 34, _ => rfl | 35, _ => rfl | 36, _ => rfl | 37, _ => rfl | 38, _ => rfl | 39, _ => rfl | j + 40, h => absurd h (by omega)⟩
set_option maxHeartbeats 8000000 in
set_option maxRecDepth 100000 in
/-- THE LAW, from its entry -/
theorem whole_start {p : Program} {e : Env} {s : State} {m : MethodId} {below : List Frame} {meth : Method} {c : Code} (l : Launch) (_hflags : l.flags = flags0) {b L : Nat} {xs : Nat → Int32} (hL : L ≤ 2560) (C0 : lw_At p s m meth c b L xs) : W p l e room_1 s m #[Value.ref b] below meth c s.heap [] 0 0 (lw_Z below #[Value.ref b] s) (entryFrame m ([Value.ref b] : List Value).toArray 4) := by
  obtain ⟨hx, hb, hr, hml, hown, hts, hX, hbl, hlocks, hgv⟩ := id C0
  have hA : ∀ q : Nat, s.heap.size ≤ q → (fun q : Nat => s.heap.size ≤ q) q := fun _ h => h
  have hzw : ∀ w ∈ zw, w.before #[Value.ref b] s = true := fun w hw => hts w (List.mem_filter.mp hw).1
  obtain ⟨D, hKc⟩ := k_known hts
  obtain ⟨cI, cL, cA, hKa⟩ := k_arrs hts
  have hK : va_K D vwCl (kT cI cL cA) s := ⟨hKc, hKa⟩
  have hN := k_nest hts
  obtain ⟨t, adK, hRO⟩ := k_ro hts hgv
  have hS : va_S (fun q : Nat => s.heap.size ≤ q) s.heap s.heap [] := va_S.rf
  have hP : va_P D vwCl [] s.heap := fun k q h => by simp at h
  have hD : va_D (fun q : Nat => s.heap.size ≤ q) [] := ⟨fun i j p q h => by simp at h, fun k q h => by simp at h⟩
  have hl := lv_entry ([.ref b]) (n := 4) (Nat.le_of_ble_eq_true rfl)
  rw [lg_entry_eq]
  generalize (lg_sl ([.ref b]) ++ List.replicate (4 - (lg_sl ([.ref b])).length) Slot.unset).toArray = ls at hl ⊢
  have hl : lv_has ls 4 [(0, .ref b)] := hl
  obtain ⟨C, T, ty, h1, h2, h3, h4, h5, h6, h7⟩ := kcL_7
  refine va_new (ci := 10) (C := C) (T := T) (N := 15) hx hb hzw h2 ty h3 hown (hzw _ h4) (hzw _ h5) (hzw _ h6) hK hP hD hS hA h1 h7 (Nat.le_of_ble_eq_true rfl) (Nat.le_of_ble_eq_true rfl) dL_law_0 (fun o1 H hP hD hS => ?_)
  clear h1 h2 h3 h4 h5 h6 h7 C T ty
  refine lv_dup hx hb dL_law_3 rfl ?_
  refine wk_call (as := []) (rest := [.ref o1]) (wr := []) (an := 0) hx hb hml hown hzw hK hA hN hP hD hS hl.1 (m_X10 l D cI cL cA o1) kX10_init rfl (zw_t (i := 23) (by decide +kernel) rfl) rfl rfl (Or.inl mlL_9) rfl ⟨Nat.le_of_ble_eq_true rfl, Nat.le_of_ble_eq_true rfl⟩ rfl (Nat.le_of_ble_eq_true rfl) (Nat.le_of_ble_eq_true rfl) (Nat.le_of_ble_eq_true rfl) dL_law_4 (fun wC H1 locs1 hwC hP1 hD1 hS1 => ?_)
  have hP1 : va_P D vwCl wC H1 := hP1
  have hD1 : va_D (fun q : Nat => s.heap.size ≤ q) wC := hD1
  refine lv_astore_n (lv' := [(1, .ref o1), (0, .ref b)]) hx hb dL_law_7 rfl hl (by decide) rfl (fun ls1 hl1 => ?_)
  obtain ⟨C, T, ty, h1, h2, h3, h4, h5, h6, h7⟩ := kcL_10
  refine va_new (ci := 11) (C := C) (T := T) (N := 40) hx hb hzw h2 ty h3 hown (hzw _ h4) (hzw _ h5) (hzw _ h6) hK hP1 hD1 hS1 hA h1 h7 (Nat.le_of_ble_eq_true rfl) (Nat.le_of_ble_eq_true rfl) dL_law_8 (fun o2 H2 hP2 hD2 hS2 => ?_)
  clear h1 h2 h3 h4 h5 h6 h7 C T ty
  refine lv_dup hx hb dL_law_11 rfl ?_
  refine wk_call (as := []) (rest := [.ref o2]) (wr := wC) (an := 0) hx hb hml hown hzw hK hA hN hP2 hD2 hS2 hl1.1 (m_X11 l D cI cL cA o2) kX11_init rfl (zw_t (i := 1074) (by decide +kernel) rfl) rfl rfl (Or.inl mlL_12) rfl ⟨Nat.le_of_ble_eq_true rfl, Nat.le_of_ble_eq_true rfl⟩ rfl (Nat.le_of_ble_eq_true rfl) (Nat.le_of_ble_eq_true rfl) (Nat.le_of_ble_eq_true rfl) dL_law_12 (fun wM H3 locs3 hwM hP3 hD3 hS3 => ?_)
  refine lv_astore_n (lv' := [(2, .ref o2), (1, .ref o1), (0, .ref b)]) hx hb dL_law_15 rfl hl1 (by decide) rfl (fun ls2 hl2 => ?_)
  refine lv_iconst (v := 0) hx hb dL_law_16 (by decide) ?_
  refine lv_istore_n (lv' := [(3, .int 0), (2, .ref o2), (1, .ref o1), (0, .ref b)]) hx hb dL_law_17 rfl hl2 (by decide) rfl (fun ls3 hl3 => ?_)
  refine W.widen (k := 600000) (n := 7302250) (Nat.le_of_ble_eq_true rfl) (Nat.le_of_ble_eq_true rfl) ?_
  obtain ⟨lenC, fC, eC⟩ := kC_world (cL := cL) hwC
  obtain ⟨lenM, fM, eM⟩ := kR_world hwM
  have hD4 := hD3
  have adE : ∀ w : va_W, ∀ k, k < 85 → (fun k => if k < 85 then (w.map Prod.fst).getD k 0 else if k = 199 then t else adK (k - 200)) k = (w.map Prod.fst).getD k 0 := fun w k hk => if_pos hk
  have eσ := eC D (fun k => if k < 85 then (wC.map Prod.fst).getD k 0 else if k = 199 then t else adK (k - 200)) (fun q => q ∈ wC.map Prod.fst) l (adE wC)
  have eτ := eM D (fun k => if k < 85 then (wM.map Prod.fst).getD k 0 else if k = 199 then t else adK (k - 200)) (fun q => q ∈ wM.map Prod.fst) l (fun k hk => adE wM k (by omega))
  have z0 : ∀ w : va_W, (fun k => if k < 85 then (w.map Prod.fst).getD k 0 else if k = 199 then t else adK (k - 200)) 199 = t := fun w => rfl
  have z1 : ∀ (w : va_W) (i : Nat), (fun k => if k < 85 then (w.map Prod.fst).getD k 0 else if k = 199 then t else adK (k - 200)) (200 + i) = adK i := fun w i => by
    show (if 200 + i < 85 then _ else _) = _
    rw [if_neg (by omega), if_neg (by omega), show 200 + i - 200 = i by omega]
  obtain ⟨σ, hσ⟩ : ∃ σ : zG, σ = (D, (cI, cL, cA), (fun k => if k < 85 then (wC.map Prod.fst).getD k 0 else if k = 199 then t else adK (k - 200)), (fun q => q ∈ wC.map Prod.fst), l) := ⟨_, rfl⟩
  obtain ⟨τ, hτ⟩ : ∃ τ : zG, τ = (D, (cI, cL, cA), (fun k => if k < 85 then (wM.map Prod.fst).getD k 0 else if k = 199 then t else adK (k - 200)), (fun q => q ∈ wM.map Prod.fst), l) := ⟨_, rfl⟩
  have eσ : zW σ shC kμ = wC := by rw [hσ]; exact eσ
  have eτ : zW τ shR kν = wM := by rw [hτ]; exact eτ
  have sA : ∀ q, zA σ q ↔ q ∈ wC.map Prod.fst := fun q => by subst hσ; exact Iff.rfl
  have tA : ∀ q, zA τ q ↔ q ∈ wM.map Prod.fst := fun q => by subst hτ; exact Iff.rfl
  have a0 : zad σ 0 = o1 := by
    subst hσ
    have h9 : (wC.map Prod.fst).getD 0 0 = o1 := by rw [List.getD_eq_getElem?_getD, fC]; rfl
    exact (adE wC 0 (by omega)).trans h9
  have b0 : zad τ 0 = o2 := by
    subst hτ
    have h9 : (wM.map Prod.fst).getD 0 0 = o2 := by rw [List.getD_eq_getElem?_getD, fM]; rfl
    exact (adE wM 0 (by omega)).trans h9
  have hLC : lC p s m meth c b L xs σ τ := by
    refine ⟨C0, hL, by subst hσ; subst hτ; rfl, fun q hq => ⟨k_in (k_D1 hD4) ((sA q).mp hq), fun h => k_apart hD4 ((sA q).mp hq) ((tA q).mp h)⟩, fun q hq => k_in (k_D2 hD4) ((tA q).mp hq), ⟨?_, ?_, k_all eσ (k_D1 hD4) (fun q hq => (sA q).mpr hq)⟩, ⟨?_, ?_, k_all eτ (k_D2 hD4) (fun q hq => (tA q).mpr hq)⟩⟩
    · subst hσ; exact hK
    · exact hRO σ (by subst hσ; rfl) (fun i => by subst hσ; exact z1 wC i) (fun q hq => k_in (k_D1 hD4) ((sA q).mp hq))
    · subst hτ; exact hK
    · exact hRO τ (by subst hτ; rfl) (fun i => by subst hτ; exact z1 wM i) (fun q hq => k_in (k_D2 hD4) ((tA q).mp hq))
  have hPC : va_P (zD σ) vwCl (zW σ shC kμ) H3 := by rw [eσ]; have h9 := k_P1 hP3; subst hσ; exact h9
  have hPM : va_P (zD τ) vwCl (zW τ shR kν) H3 := by rw [eτ]; have h9 := k_P2 hP3; subst hτ; exact h9
  have hlz : zlau σ = l := by subst hσ; rfl
  have hfin := law_loop (e := e) (below := below) hLC (L + 1) 0 kμ kν kw_start (Nat.zero_le _) (by omega) H3 locs3 ls3 hPC hPM hS3 (by
    show lv_has ls3 4 [(0, .ref b), (1, .ref (zad σ 0)), (2, .ref (zad τ 0)), (3, .int (nI 0))]
    rw [a0, b0]
    exact lv_sub hl3 [3, 2, 1, 0] rfl)
  rw [hlz] at hfin
  exact hfin
