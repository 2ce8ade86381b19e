/-! a beat goes by: what the loop over the lamps has done so far -/
def pAimsTo (ρ : pR) (s : Nat → Int32) (h : Int32) (n : Nat) : Nat → Int32 := fun i =>
  if 7 ≤ i ∧ i < 7 + 4 * n ∧ (i - 7) % 4 = 1 then (if nI ((i - 7) / 4) = h then s i else pBehind ρ s ((i - 7) / 4)) else s i
theorem pAims_to (ρ : pR) (s : Nat → Int32) (h : Int32) : pAims ρ s h = pAimsTo ρ s h (pL s) := rfl
theorem pAimsTo_0 (ρ : pR) (s : Nat → Int32) (h : Int32) : pAimsTo ρ s h 0 = s := by
  funext i
  unfold pAimsTo
  rw [if_neg (by omega)]
theorem pAimsTo_same {ρ : pR} {s : Nat → Int32} {h : Int32} {n l : Nat} (hl : n ≤ l) (hl6 : l < 6) : pSame s (pAimsTo ρ s h n) l := by
  intro i hi
  unfold pAimsTo
  rw [if_neg (by omega)]
theorem pAimsTo_a {ρ : pR} {s : Nat → Int32} {h : Int32} {n l : Nat} (hl : n ≤ l) : pAimsTo ρ s h n (7 + 4 * l + 1) = s (7 + 4 * l + 1) := by
  unfold pAimsTo
  rw [if_neg (by omega)]
theorem pAimsTo_lo {ρ : pR} {s : Nat → Int32} {h : Int32} {n i : Nat} (hi : i < 7 ∨ 31 ≤ i) (hn : n ≤ 6) : pAimsTo ρ s h n i = s i := by
  unfold pAimsTo
  rw [if_neg (by omega)]
theorem pAimsTo_o {ρ : pR} {s : Nat → Int32} {h : Int32} {n l w : Nat} (hw : w = 0 ∨ w = 2 ∨ w = 3) : pAimsTo ρ s h n (7 + 4 * l + w) = s (7 + 4 * l + w) := by
  unfold pAimsTo
  rw [if_neg (by omega)]
/-- held: as it was -/
theorem pAimsTo_h {ρ : pR} {s : Nat → Int32} {h : Int32} {n : Nat} (hh : nI n = h) : pAimsTo ρ s h (n + 1) = pAimsTo ρ s h n := by
  funext i
  unfold pAimsTo
  by_cases q : 7 ≤ i ∧ i < 7 + 4 * n ∧ (i - 7) % 4 = 1
  · rw [if_pos q, if_pos ⟨q.1, by omega, q.2.2⟩]
  · rw [if_neg q]
    by_cases q2 : 7 ≤ i ∧ i < 7 + 4 * (n + 1) ∧ (i - 7) % 4 = 1
    · rw [if_pos q2, show (i - 7) / 4 = n by omega, if_pos hh]
    · rw [if_neg q2]
/-- gone: the aim is the next one -/
theorem pAimsTo_g {ρ : pR} {s : Nat → Int32} {h : Int32} {n : Nat} (hh : ¬ nI n = h) (i : Nat) : pAimsTo ρ s h (n + 1) i = if i = 7 + 4 * n + 1 then pBehind ρ s n else pAimsTo ρ s h n i := by
  unfold pAimsTo
  by_cases q0 : i = 7 + 4 * n + 1
  · rw [if_pos q0, if_pos ⟨by omega, by omega, by omega⟩, show (i - 7) / 4 = n by omega, if_neg hh]
  · rw [if_neg q0]
    by_cases q : 7 ≤ i ∧ i < 7 + 4 * n ∧ (i - 7) % 4 = 1
    · rw [if_pos q, if_pos ⟨q.1, by omega, q.2.2⟩]
    · rw [if_neg q, if_neg (by omega)]
theorem cS_aim {b l : Nat} {μ : zM} {v : Int32} (hl : l < 6) (i : Nat) : cS b (zp μ (b + 2) l v) i = if i = 7 + 4 * l + 1 then v else cS b μ i := by
  unfold cS
  by_cases h7 : i < 7
  · rw [if_neg (show ¬ i = 7 + 4 * l + 1 by omega)]
    simp only [zp_ne (show b ≠ b + 2 by omega)]
    simp [h7]
  · by_cases h31 : i < 31
    · have hx : ¬ i = 0 ∧ ¬ i = 1 ∧ ¬ i = 2 ∧ ¬ i = 3 ∧ ¬ i = 4 := by omega
      simp only [hx, h7, h31, if_true, if_false]
      by_cases hw : (i - 7) % 4 = 1
      · rw [show b + 1 + (i - 7) % 4 = b + 2 by omega, zp_eq]
        unfold upd
        by_cases hq : (i - 7) / 4 = l
        · rw [if_pos hq, if_pos (by omega)]
        · rw [if_neg hq, if_neg (by omega)]
      · rw [zp_ne (by omega), if_neg (by omega)]
    · have hx : ¬ i = 0 ∧ ¬ i = 1 ∧ ¬ i = 2 ∧ ¬ i = 3 ∧ ¬ i = 4 := by omega
      simp only [hx, h7, h31, if_false]
      rw [zp_ne (show b + 5 ≠ b + 2 by omega), if_neg (show ¬ i = 7 + 4 * l + 1 by omega)]
theorem cS_int {b j k : Nat} {μ : zM} {v : Int32} (hj : (j = 7 ∧ k = 0) ∨ (j = 8 ∧ k = 1) ∨ (j = 9 ∧ k = 2) ∨ (j = 10 ∧ k = 3) ∨ (j = 11 ∧ k = 4)) (i : Nat) : cS b (zp μ b j v) i = if i = k then v else cS b μ i := by
  unfold cS
  have hne : ∀ q, b + 1 + q ≠ b := fun q => by omega
  have h5 : b + 5 ≠ b := by omega
  simp only [zp_ne (hne _), zp_ne h5, zp_eq]
  unfold upd
  rcases hj with ⟨rfl, rfl⟩ | ⟨rfl, rfl⟩ | ⟨rfl, rfl⟩ | ⟨rfl, rfl⟩ | ⟨rfl, rfl⟩ <;> (repeat' split) <;> first | rfl | omega
theorem cS_place {b l : Nat} {μ : zM} {v : Int32} (hl : l < 16) (i : Nat) : cS b (zp μ (b + 5) l v) i = if i = 31 + l then v else cS b μ i := by
  unfold cS
  have hne : b ≠ b + 5 := by omega
  by_cases h31 : i < 31
  · have e : zp μ (b + 5) l v (b + 1 + (i - 7) % 4) = μ (b + 1 + (i - 7) % 4) := zp_ne (by omega)
    rw [e, zp_ne hne, if_neg (show ¬ i = 31 + l by omega)]
    simp [h31]
  · have hx : ¬ i = 0 ∧ ¬ i = 1 ∧ ¬ i = 2 ∧ ¬ i = 3 ∧ ¬ i = 4 ∧ ¬ i < 7 := by omega
    simp only [hx, h31, if_false]
    by_cases h47 : i < 47
    · rw [if_pos h47, if_pos h47, zp_eq]
      unfold upd
      by_cases q : i - 31 = l
      · rw [if_pos q, if_pos (by omega)]
      · rw [if_neg q, if_neg (by omega)]
    · rw [if_neg h47, if_neg h47, if_neg (by omega)]
/-- it stays well when the aims and the beat move on -/
theorem pOK_aims {ρ : pR} {s : Nat → Int32} {h : Int32} {n : Nat} (ok : pOK s) (hn : n ≤ 6) : pOK (pAimsTo ρ s h n) := by
  have e0 := pAimsTo_lo (ρ := ρ) (s := s) (h := h) (n := n) (i := 0) (by omega) hn
  have e1 := pAimsTo_lo (ρ := ρ) (s := s) (h := h) (n := n) (i := 1) (by omega) hn
  have e2 := pAimsTo_lo (ρ := ρ) (s := s) (h := h) (n := n) (i := 2) (by omega) hn
  unfold pOK pL pB pb at *
  rw [e0, e1, e2]
  refine ⟨ok.1, ok.2.1, ok.2.2.1, fun l hl => ?_⟩
  have h0 := pAimsTo_o (ρ := ρ) (s := s) (h := h) (n := n) (l := l) (w := 0) (by omega)
  rw [show 7 + 4 * l + 0 = 7 + 4 * l from rfl] at h0
  rw [h0, pAimsTo_o (by omega), pAimsTo_o (by omega)]
  exact ok.2.2.2 l hl
def pBeat (s : Nat → Int32) : Nat → Int32 := fun i => if i = 2 then s 2 + 1 else s i
theorem pOK_beat {s : Nat → Int32} (ok : pOK s) (h : pb s < pB s) : pOK (pBeat s) := by
  have hb := ok_b ok
  have hB := ok_B ok
  have e2 : pBeat s 2 = nI (pb s + 1) := by
    show s 2 + 1 = _
    rw [hb.1]; exact nI_1 _
  have e3 : pb (pBeat s) = pb s + 1 := by
    unfold pb at *
    rw [e2, nI_clamp (by omega)]
  refine ⟨ok.1, ok.2.1, ⟨by rw [e3]; exact e2, by rw [e3]; exact h⟩, fun l hl => ?_⟩
  have hne : ∀ w, pBeat s (7 + 4 * l + w) = s (7 + 4 * l + w) := fun w => if_neg (by omega)
  have h0 := hne 0
  rw [show 7 + 4 * l + 0 = 7 + 4 * l from rfl] at h0
  rw [h0, hne, hne]
  exact ok.2.2.2 l hl
theorem pNear_at {s : Nat → Int32} {x : Nat} (ok : pOK s) (hx : x < pB s) : pNear s (nI x) = s (31 + x) := by
  obtain ⟨e1, e2⟩ := ok_B ok
  have h1 : ¬ s 1 = 0 := by
    rw [e1]; exact nI_ne0 (by omega) (by omega)
  unfold pNear
  rw [if_neg h1]
  by_cases h2 : nI x ≤ 0
  · rw [if_pos h2]
    have : x = 0 := by
      rcases Nat.eq_zero_or_pos x with q | q
      · exact q
      · exact absurd h2 (nI_nle q (by omega))
    rw [this]
  · rw [if_neg h2, if_pos (by rw [e1]; exact nI_lt hx (by omega)), nI_clamp (by omega)]
theorem pSum_eq {f g : Nat → Int32} : ∀ {n : Nat}, (∀ l, l < n → f l = g l) → pSum f n = pSum g n
  | 0, _ => rfl
  | n + 1, h => by
    show pSum f n + f n = pSum g n + g n
    rw [pSum_eq (fun l hl => h l (by omega)), h n (by omega)]
theorem pWorth_eq {s t : Nat → Int32} {l : Nat} {p : Int32} (h1 : t (7 + 4 * l + 1) = s (7 + 4 * l + 1)) (h2 : t (7 + 4 * l + 2) = s (7 + 4 * l + 2)) : pWorth t l p = pWorth s l p := by
  unfold pWorth pSightL
  rw [h1, h2]
set_option maxHeartbeats 4000000 in
set_option maxRecDepth 100000 in
theorem eX8_goBy_18 (σ : zG) (μ : zM) (h : Int32) (ok : pOK (cS 18 μ)) (rok : cROK 1 μ) (hb : pb (cS 18 μ) < pB (cS 18 μ)) : zMet shC σ 4 MX8_goBy yX8_goBy [zr 18, zi h] μ (fun rr μ' => rr = some (zi (pGain (cR 1 μ) (cS 18 μ) h)) ∧ cS 18 μ' = pGo (cR 1 μ) (cS 18 μ) h ∧ zJ [18, 20, 6, 24] μ μ') := by
  have hL1 : μ 18 7 = nI (pL (cS 18 μ)) := (ok_L ok).1
  have hL2 := (ok_L ok).2
  refine zmetF (by decide +kernel) rfl (Nat.le_of_ble_eq_true rfl) ?_
  show zX shC σ 4 MX8_goBy 0 [(0, zr 18), (1, zi h)] [] μ _
  refine zx_iconst (v := 0) (nn := 1) rfl dX8_goBy_0 rfl ?_
  refine zx_istore_n (nn := 2) (lv' := [(2, zi 0), (0, zr 18), (1, zi h)]) dX8_goBy_1 rfl (by decide) rfl rfl ?_
  refine zx_lv (lv' := [(0, zr 18), (1, zi h), (2, zi 0)]) [1, 2, 0] rfl ?_
  refine zx_while (τ := Nat × zM) (fun t_ => pL (cS 18 μ) - t_.1) (fun t_ => t_.1 ≤ pL (cS 18 μ) ∧ cS 18 t_.2 = pAimsTo (cR 1 μ) (cS 18 μ) h t_.1 ∧ zJ [20, 6, 24] μ t_.2) (fun t_ => [(0, zr 18), (1, zi h), (2, zi (nI t_.1))]) (fun t_ => t_.2) (t0 := (0, μ)) (⟨Nat.zero_le _, (pAimsTo_0 _ _ _).symm, zJ.rf⟩) ?_
  rintro ⟨n, μ1⟩ hI ih2
  replace hI : n ≤ pL (cS 18 μ) ∧ cS 18 μ1 = pAimsTo (cR 1 μ) (cS 18 μ) h n ∧ zJ [20, 6, 24] μ μ1 := hI
  show zX shC σ 4 MX8_goBy 2 [(0, zr 18), (1, zi h), (2, zi (nI n))] [] μ1 _
  obtain ⟨hr1, hr2, hr3⟩ := hI
  have eb : μ1 18 = μ 18 := hr3 18 (by decide)
  have eR : cR 1 μ1 = cR 1 μ := cR_μ (fun k h1 h2 => hr3 k (by simp; omega))
  have ok1 : pOK (cS 18 μ1) := by rw [hr2]; exact pOK_aims ok (by omega)
  have rok1 : cROK 1 μ1 := cROK_μ (hr3 1 (by decide)).symm (hr3 4 (by decide)).symm rok
  refine zx_iload_n (k := 2) (nn := 3) dX8_goBy_2 rfl rfl rfl ?_
  refine zx_aload_n (k := 0) (nn := 4) dX8_goBy_3 rfl rfl rfl ?_
  refine zx_getI (nn := 7) flX8_46 rfl rfl dX8_goBy_4 rfl ?_
  rw [eb, hL1]
  show zX shC σ 4 MX8_goBy 7 [(0, zr 18), (1, zi h), (2, zi (nI n))] [zi (nI (pL (cS 18 μ))), zi (nI n)] μ1 _
  refine zx_icmp_ge (tgt := 32) (nn := 10) dX8_goBy_7 (by decide) rfl (fun h7 => ?_) (fun h7 => ?_)
  · have hge := nI_le_le h7 (by omega)
    have hn : n = pL (cS 18 μ) := by omega
    have hA : cS 18 μ1 = (pAims (cR 1 μ) (cS 18 μ) h) := by rw [hr2, hn]; exact (pAims_to _ _ _).symm
    refine zx_aload_n (k := 0) (nn := 33) dX8_goBy_32 rfl rfl rfl ?_
    refine zx_dupr (nn := 34) dX8_goBy_33 rfl ?_
    refine zx_getI (nn := 37) flX8_52 rfl rfl dX8_goBy_34 rfl ?_
    refine zx_iconst (v := 1) (nn := 38) rfl dX8_goBy_37 rfl ?_
    refine zx_iadd (nn := 39) dX8_goBy_38 rfl ?_
    refine zx_putI (nn := 42) fpX8_52 rfl rfl rfl rfl dX8_goBy_39 rfl ?_
    have hA0 : (pAims (cR 1 μ) (cS 18 μ) h) 0 = (cS 18 μ) 0 := pAimsTo_lo (by omega) (by omega)
    have hA1 : (pAims (cR 1 μ) (cS 18 μ) h) 1 = (cS 18 μ) 1 := pAimsTo_lo (by omega) (by omega)
    have hA2 : (pAims (cR 1 μ) (cS 18 μ) h) 2 = (cS 18 μ) 2 := pAimsTo_lo (by omega) (by omega)
    have okA : pOK (pAims (cR 1 μ) (cS 18 μ) h) := pOK_aims ok hL2
    have hbA : pb (pAims (cR 1 μ) (cS 18 μ) h) < pB (pAims (cR 1 μ) (cS 18 μ) h) := by show ((pAims (cR 1 μ) (cS 18 μ) h) 2).toNatClampNeg < ((pAims (cR 1 μ) (cS 18 μ) h) 1).toNatClampNeg; rw [hA2, hA1]; exact hb
    have hT : cS 18 (zp μ1 18 9 (μ1 18 9 + 1)) = (pBeat (pAims (cR 1 μ) (cS 18 μ) h)) := by
      funext i
      rw [cS_int (b := 18) (j := 9) (k := 2) (by omega) i, hA]
      show (if i = 2 then μ1 18 9 + 1 else _) = if i = 2 then (pAims (cR 1 μ) (cS 18 μ) h) 2 + 1 else _
      rw [show μ1 18 9 = (pAims (cR 1 μ) (cS 18 μ) h) 2 by rw [← hA]; rfl]
    have okT : pOK (pBeat (pAims (cR 1 μ) (cS 18 μ) h)) := pOK_beat okA hbA
    have hpT : pNear (pBeat (pAims (cR 1 μ) (cS 18 μ) h)) ((pBeat (pAims (cR 1 μ) (cS 18 μ) h)) 2 - 1) = (cS 18 μ) (31 + pb (cS 18 μ)) := by
      rw [show (pBeat (pAims (cR 1 μ) (cS 18 μ) h)) 2 - 1 = nI (pb (cS 18 μ)) by show (pAims (cR 1 μ) (cS 18 μ) h) 2 + 1 - 1 = _; rw [hA2, (ok_b ok).1, nI_1]; exact nI_pred _]
      rw [pNear_at okT (by show _ < ((pAims (cR 1 μ) (cS 18 μ) h) 1).toNatClampNeg; rw [hA1]; exact hb)]
      show (if 31 + pb (cS 18 μ) = 2 then _ else (pAims (cR 1 μ) (cS 18 μ) h) (31 + pb (cS 18 μ))) = _
      rw [if_neg (by omega)]
      exact pAimsTo_lo (by omega) hL2
    have hwT : ∀ l, pWorth (pBeat (pAims (cR 1 μ) (cS 18 μ) h)) l (pNear (pBeat (pAims (cR 1 μ) (cS 18 μ) h)) ((pBeat (pAims (cR 1 μ) (cS 18 μ) h)) 2 - 1)) = (fun l => pWorth (pAims (cR 1 μ) (cS 18 μ) h) l ((cS 18 μ) (31 + pb (cS 18 μ)))) l := fun l => by
      rw [hpT]
      exact pWorth_eq (if_neg (by omega)) (if_neg (by omega))
    have eb2 : (zp μ1 18 9 (μ1 18 9 + 1)) 18 7 = nI (pL (cS 18 μ)) := by rw [zp_eq, pk_un (by omega), eb]; exact hL1
    refine zx_iconst (v := 0) (nn := 43) rfl dX8_goBy_42 rfl ?_
    refine zx_istore_n (nn := 44) (lv' := [(2, zi 0), (0, zr 18), (1, zi h)]) dX8_goBy_43 rfl (by decide) rfl rfl ?_
    refine zx_iconst (v := 0) (nn := 45) rfl dX8_goBy_44 rfl ?_
    refine zx_istore_n (nn := 46) (lv' := [(3, zi 0), (2, zi 0), (0, zr 18), (1, zi h)]) dX8_goBy_45 rfl (by decide) rfl rfl ?_
    refine zx_lv (lv' := [(0, zr 18), (1, zi h), (2, zi 0), (3, zi 0)]) [2, 3, 1, 0] rfl ?_
    refine zx_while (τ := Nat × Int32) (fun t_ => pL (cS 18 μ) - t_.1) (fun t_ => t_.1 ≤ pL (cS 18 μ) ∧ t_.2 = pSum (fun l => pWorth (pAims (cR 1 μ) (cS 18 μ) h) l ((cS 18 μ) (31 + pb (cS 18 μ)))) t_.1) (fun t_ => [(0, zr 18), (1, zi h), (2, zi t_.2), (3, zi (nI t_.1))]) (fun t_ => (zp μ1 18 9 (μ1 18 9 + 1))) (t0 := (0, 0)) (⟨Nat.zero_le _, rfl⟩) ?_
    rintro ⟨n, v⟩ hI ih46
    replace hI : n ≤ pL (cS 18 μ) ∧ v = pSum (fun l => pWorth (pAims (cR 1 μ) (cS 18 μ) h) l ((cS 18 μ) (31 + pb (cS 18 μ)))) n := hI
    show zX shC σ 4 MX8_goBy 46 [(0, zr 18), (1, zi h), (2, zi v), (3, zi (nI n))] [] (zp μ1 18 9 (μ1 18 9 + 1)) _
    refine zx_iload_n (k := 3) (nn := 47) dX8_goBy_46 rfl rfl rfl ?_
    refine zx_aload_n (k := 0) (nn := 48) dX8_goBy_47 rfl rfl rfl ?_
    refine zx_getI (nn := 51) flX8_46 rfl rfl dX8_goBy_48 rfl ?_
    rw [eb2]
    show zX shC σ 4 MX8_goBy 51 [(0, zr 18), (1, zi h), (2, zi v), (3, zi (nI n))] [zi (nI (pL (cS 18 μ))), zi (nI n)] (zp μ1 18 9 (μ1 18 9 + 1)) _
    refine zx_icmp_ge (tgt := 68) (nn := 54) dX8_goBy_51 (by decide) rfl (fun h51 => ?_) (fun h51 => ?_)
    · refine zx_aload_n (k := 0) (nn := 69) dX8_goBy_68 rfl rfl rfl ?_
      refine zx_dupr (nn := 70) dX8_goBy_69 rfl ?_
      refine zx_getI (nn := 73) flX8_55 rfl rfl dX8_goBy_70 rfl ?_
      refine zx_iload_n (k := 2) (nn := 74) dX8_goBy_73 rfl rfl rfl ?_
      refine zx_iadd (nn := 75) dX8_goBy_74 rfl ?_
      refine zx_putI (nn := 78) fpX8_55 rfl rfl rfl rfl dX8_goBy_75 rfl ?_
      refine zx_iload_n (k := 2) (nn := 79) dX8_goBy_78 rfl rfl rfl ?_
      refine zx_iret rfl dX8_goBy_79 ?_
      have hge2 := nI_le_le h51 (by omega)
      have hn2 : n = pL (cS 18 μ) := by omega
      refine ⟨congrArg (fun x => some (zi x)) ?_, ?_, ?_⟩
      · rw [hI.2, hn2]
        unfold pGain pWorths
        show _ = pSum (fun l => pWorth (pAims (cR 1 μ) (cS 18 μ) h) l ((cS 18 μ) (31 + pb (cS 18 μ)))) ((pAims (cR 1 μ) (cS 18 μ) h) 0).toNatClampNeg
        rw [hA0]; rfl
      · funext i
        rw [cS_int (b := 18) (j := 10) (k := 3) (by omega) i, hT]
        unfold pGo pBeat
        by_cases q3 : i = 3
        · subst q3
          rw [if_pos rfl, if_neg (by omega), if_pos rfl]
          rw [hI.2, hn2]
          have e3 : (zp μ1 18 9 (μ1 18 9 + 1)) 18 10 = (cS 18 μ) 3 := by rw [zp_eq, pk_un (by omega), eb]; rfl
          rw [e3]
          congr 1
        · rw [if_neg q3]
          by_cases q2 : i = 2
          · rw [if_pos q2, if_pos q2, hA2]
          · rw [if_neg q2, if_neg q2, if_neg q3]
      · exact (((hr3.mono (by simp)).p (by decide)).p (by decide))
    · have hlt2 : n < pL (cS 18 μ) := nI_nle_lt h51 (by omega)
      refine zx_iload_n (k := 2) (nn := 55) dX8_goBy_54 rfl rfl rfl ?_
      refine zx_aload_n (k := 0) (nn := 56) dX8_goBy_55 rfl rfl rfl ?_
      refine zx_iload_n (k := 3) (nn := 57) dX8_goBy_56 rfl rfl rfl ?_
      refine zx_callVf (nn := 60) (k := 18) (d' := 3) (as := [zi (nI n)]) (rest := [zi v]) (n := 1) (eX8_worthOf_18 σ (zp μ1 18 9 (μ1 18 9 + 1)) n (by rw [hT]; exact okT) (by rw [hT]; show n < ((pAims (cR 1 μ) (cS 18 μ) h) 0).toNatClampNeg; rw [hA0]; exact hlt2)) kX8_worthOf mlX8_114 rfl rfl rfl (by decide) rfl rfl (Nat.le_of_ble_eq_true rfl) dX8_goBy_57 rfl ?_
      show zX shC σ 4 MX8_goBy 60 [(0, zr 18), (1, zi h), (2, zi v), (3, zi (nI n))] [zi (pWorth (cS 18 (zp μ1 18 9 (μ1 18 9 + 1))) n (pNear (cS 18 (zp μ1 18 9 (μ1 18 9 + 1))) (cS 18 (zp μ1 18 9 (μ1 18 9 + 1)) 2 - 1))), zi v] (zp μ1 18 9 (μ1 18 9 + 1)) _
      rw [hT, hwT n]
      show zX shC σ 4 MX8_goBy 60 [(0, zr 18), (1, zi h), (2, zi v), (3, zi (nI n))] [zi ((fun l => pWorth (pAims (cR 1 μ) (cS 18 μ) h) l ((cS 18 μ) (31 + pb (cS 18 μ)))) n), zi v] (zp μ1 18 9 (μ1 18 9 + 1)) _
      refine zx_iadd (nn := 61) dX8_goBy_60 rfl ?_
      refine zx_istore_n (nn := 62) (lv' := [(2, zi (v + ((fun l => pWorth (pAims (cR 1 μ) (cS 18 μ) h) l ((cS 18 μ) (31 + pb (cS 18 μ)))) n))), (0, zr 18), (1, zi h), (3, zi (nI n))]) dX8_goBy_61 rfl (by decide) rfl rfl ?_
      refine zx_iinc (k := 3) (v := nI (n + 1)) (lv' := [(3, zi (nI (n + 1))), (2, zi (v + ((fun l => pWorth (pAims (cR 1 μ) (cS 18 μ) h) l ((cS 18 μ) (31 + pb (cS 18 μ)))) n))), (0, zr 18), (1, zi h)]) (nn := 65) dX8_goBy_62 rfl (nI_1 n) (by decide) rfl rfl ?_
      refine zx_goto (tgt := 46) dX8_goBy_65 (by decide) ?_
      refine zx_lv (lv' := [(0, zr 18), (1, zi h), (2, zi (v + ((fun l => pWorth (pAims (cR 1 μ) (cS 18 μ) h) l ((cS 18 μ) (31 + pb (cS 18 μ)))) n))), (3, zi (nI (n + 1)))]) [2, 3, 1, 0] rfl ?_
      exact ih46 (n + 1, v + (fun l => pWorth (pAims (cR 1 μ) (cS 18 μ) h) l ((cS 18 μ) (31 + pb (cS 18 μ)))) n) (show (n + 1) ≤ pL (cS 18 μ) ∧ (v + (fun l => pWorth (pAims (cR 1 μ) (cS 18 μ) h) l ((cS 18 μ) (31 + pb (cS 18 μ)))) n) = pSum (fun l => pWorth (pAims (cR 1 μ) (cS 18 μ) h) l ((cS 18 μ) (31 + pb (cS 18 μ)))) (n + 1) from ⟨by omega, by show _ + _ = pSum _ n + _; rw [hI.2]⟩) (by show pL (cS 18 μ) - (n + 1) < pL (cS 18 μ) - n; omega)
  · have hlt : n < pL (cS 18 μ) := nI_nle_lt h7 (by omega)
    refine zx_iload_n (k := 2) (nn := 11) dX8_goBy_10 rfl rfl rfl ?_
    refine zx_iload_n (k := 1) (nn := 12) dX8_goBy_11 rfl rfl rfl ?_
    refine zx_icmp_eq (tgt := 26) (nn := 15) dX8_goBy_12 (by decide) rfl (fun h12 => ?_) (fun h12 => ?_)
    · refine zx_iinc (k := 2) (v := nI (n + 1)) (lv' := [(2, zi (nI (n + 1))), (0, zr 18), (1, zi h)]) (nn := 29) dX8_goBy_26 rfl (nI_1 n) (by decide) rfl rfl ?_
      refine zx_goto (tgt := 2) dX8_goBy_29 (by decide) ?_
      refine zx_lv (lv' := [(0, zr 18), (1, zi h), (2, zi (nI (n + 1)))]) [1, 2, 0] rfl ?_
      exact ih2 (n + 1, μ1) (show (n + 1) ≤ pL (cS 18 μ) ∧ cS 18 μ1 = pAimsTo (cR 1 μ) (cS 18 μ) h (n + 1) ∧ zJ [20, 6, 24] μ μ1 from ⟨by omega, by rw [hr2]; exact (pAimsTo_h h12).symm, hr3⟩) (by show pL (cS 18 μ) - (n + 1) < pL (cS 18 μ) - n; omega)
    · refine zx_aload_n (k := 0) (nn := 16) dX8_goBy_15 rfl rfl rfl ?_
      refine zx_getR (q := 20) (nn := 19) flX8_15 rfl rfl dX8_goBy_16 rfl ?_
      refine zx_iload_n (k := 2) (nn := 20) dX8_goBy_19 rfl rfl rfl ?_
      refine zx_aload_n (k := 0) (nn := 21) dX8_goBy_20 rfl rfl rfl ?_
      refine zx_iload_n (k := 2) (nn := 22) dX8_goBy_21 rfl rfl rfl ?_
      refine zx_callV (nn := 25) (k := 18) (d' := 3) (as := [zi (nI n)]) (rest := [zi (nI n), zr 20]) (n := 1) (eX8_aimBehind_18 σ μ1 n ok1 (by rw [hr2]; show n < (pAimsTo _ _ _ _ 0).toNatClampNeg; rw [pAimsTo_lo (by omega) (by omega)]; exact hlt) rok1) kX8_aimBehind mlX8_111 rfl rfl rfl (by decide) rfl rfl (Nat.le_of_ble_eq_true rfl) dX8_goBy_22 rfl ?_
      rintro _ ν1 ⟨rfl, qb⟩
      show zX shC σ 4 MX8_goBy 25 [(0, zr 18), (1, zi h), (2, zi (nI n))] [zi (pBehind (cR 1 μ1) (cS 18 μ1) n), zi (nI n), zr 20] ν1 _
      rw [show pBehind (cR 1 μ1) (cS 18 μ1) n = pBehind (cR 1 μ) (cS 18 μ) n by rw [eR, hr2]; exact pBehind_eq ok (pAimsTo_same (Nat.le_refl _) (by omega))]
      show zX shC σ 4 MX8_goBy 25 [(0, zr 18), (1, zi h), (2, zi (nI n))] [zi (pBehind (cR 1 μ) (cS 18 μ) n), zi (nI n), zr 20] ν1 _
      refine zx_iast_n (j := n) (nn := 26) rfl (by omega) (by decide) dX8_goBy_25 rfl ?_
      refine zx_iinc (k := 2) (v := nI (n + 1)) (lv' := [(2, zi (nI (n + 1))), (0, zr 18), (1, zi h)]) (nn := 29) dX8_goBy_26 rfl (nI_1 n) (by decide) rfl rfl ?_
      refine zx_goto (tgt := 2) dX8_goBy_29 (by decide) ?_
      refine zx_lv (lv' := [(0, zr 18), (1, zi h), (2, zi (nI (n + 1)))]) [1, 2, 0] rfl ?_
      exact ih2 (n + 1, zp ν1 20 n (pBehind (cR 1 μ) (cS 18 μ) n)) (show (n + 1) ≤ pL (cS 18 μ) ∧ cS 18 (zp ν1 20 n (pBehind (cR 1 μ) (cS 18 μ) n)) = pAimsTo (cR 1 μ) (cS 18 μ) h (n + 1) ∧ zJ [20, 6, 24] μ (zp ν1 20 n (pBehind (cR 1 μ) (cS 18 μ) n)) from ⟨by omega, by funext i; rw [cS_aim (b := 18) (by omega) i, pAimsTo_g h12 i, cS_eq (b := 18) (fun k hk => qb k (by simp; omega)), hr2], (hr3.tr (qb.mono (by simp))).p (by decide)⟩) (by show pL (cS 18 μ) - (n + 1) < pL (cS 18 μ) - n; omega)
set_option maxHeartbeats 4000000 in
set_option maxRecDepth 100000 in
theorem eX8_goBy_25 (σ : zG) (μ : zM) (h : Int32) (ok : pOK (cS 25 μ)) (rok : cROK 1 μ) (hb : pb (cS 25 μ) < pB (cS 25 μ)) : zMet shC σ 4 MX8_goBy yX8_goBy [zr 25, zi h] μ (fun rr μ' => rr = some (zi (pGain (cR 1 μ) (cS 25 μ) h)) ∧ cS 25 μ' = pGo (cR 1 μ) (cS 25 μ) h ∧ zJ [25, 27, 6, 31] μ μ') := by
  have hL1 : μ 25 7 = nI (pL (cS 25 μ)) := (ok_L ok).1
  have hL2 := (ok_L ok).2
  refine zmetF (by decide +kernel) rfl (Nat.le_of_ble_eq_true rfl) ?_
  show zX shC σ 4 MX8_goBy 0 [(0, zr 25), (1, zi h)] [] μ _
  refine zx_iconst (v := 0) (nn := 1) rfl dX8_goBy_0 rfl ?_
  refine zx_istore_n (nn := 2) (lv' := [(2, zi 0), (0, zr 25), (1, zi h)]) dX8_goBy_1 rfl (by decide) rfl rfl ?_
  refine zx_lv (lv' := [(0, zr 25), (1, zi h), (2, zi 0)]) [1, 2, 0] rfl ?_
  refine zx_while (τ := Nat × zM) (fun t_ => pL (cS 25 μ) - t_.1) (fun t_ => t_.1 ≤ pL (cS 25 μ) ∧ cS 25 t_.2 = pAimsTo (cR 1 μ) (cS 25 μ) h t_.1 ∧ zJ [27, 6, 31] μ t_.2) (fun t_ => [(0, zr 25), (1, zi h), (2, zi (nI t_.1))]) (fun t_ => t_.2) (t0 := (0, μ)) (⟨Nat.zero_le _, (pAimsTo_0 _ _ _).symm, zJ.rf⟩) ?_
  rintro ⟨n, μ1⟩ hI ih2
  replace hI : n ≤ pL (cS 25 μ) ∧ cS 25 μ1 = pAimsTo (cR 1 μ) (cS 25 μ) h n ∧ zJ [27, 6, 31] μ μ1 := hI
  show zX shC σ 4 MX8_goBy 2 [(0, zr 25), (1, zi h), (2, zi (nI n))] [] μ1 _
  obtain ⟨hr1, hr2, hr3⟩ := hI
  have eb : μ1 25 = μ 25 := hr3 25 (by decide)
  have eR : cR 1 μ1 = cR 1 μ := cR_μ (fun k h1 h2 => hr3 k (by simp; omega))
  have ok1 : pOK (cS 25 μ1) := by rw [hr2]; exact pOK_aims ok (by omega)
  have rok1 : cROK 1 μ1 := cROK_μ (hr3 1 (by decide)).symm (hr3 4 (by decide)).symm rok
  refine zx_iload_n (k := 2) (nn := 3) dX8_goBy_2 rfl rfl rfl ?_
  refine zx_aload_n (k := 0) (nn := 4) dX8_goBy_3 rfl rfl rfl ?_
  refine zx_getI (nn := 7) flX8_46 rfl rfl dX8_goBy_4 rfl ?_
  rw [eb, hL1]
  show zX shC σ 4 MX8_goBy 7 [(0, zr 25), (1, zi h), (2, zi (nI n))] [zi (nI (pL (cS 25 μ))), zi (nI n)] μ1 _
  refine zx_icmp_ge (tgt := 32) (nn := 10) dX8_goBy_7 (by decide) rfl (fun h7 => ?_) (fun h7 => ?_)
  · have hge := nI_le_le h7 (by omega)
    have hn : n = pL (cS 25 μ) := by omega
    have hA : cS 25 μ1 = (pAims (cR 1 μ) (cS 25 μ) h) := by rw [hr2, hn]; exact (pAims_to _ _ _).symm
    refine zx_aload_n (k := 0) (nn := 33) dX8_goBy_32 rfl rfl rfl ?_
    refine zx_dupr (nn := 34) dX8_goBy_33 rfl ?_
    refine zx_getI (nn := 37) flX8_52 rfl rfl dX8_goBy_34 rfl ?_
    refine zx_iconst (v := 1) (nn := 38) rfl dX8_goBy_37 rfl ?_
    refine zx_iadd (nn := 39) dX8_goBy_38 rfl ?_
    refine zx_putI (nn := 42) fpX8_52 rfl rfl rfl rfl dX8_goBy_39 rfl ?_
    have hA0 : (pAims (cR 1 μ) (cS 25 μ) h) 0 = (cS 25 μ) 0 := pAimsTo_lo (by omega) (by omega)
    have hA1 : (pAims (cR 1 μ) (cS 25 μ) h) 1 = (cS 25 μ) 1 := pAimsTo_lo (by omega) (by omega)
    have hA2 : (pAims (cR 1 μ) (cS 25 μ) h) 2 = (cS 25 μ) 2 := pAimsTo_lo (by omega) (by omega)
    have okA : pOK (pAims (cR 1 μ) (cS 25 μ) h) := pOK_aims ok hL2
    have hbA : pb (pAims (cR 1 μ) (cS 25 μ) h) < pB (pAims (cR 1 μ) (cS 25 μ) h) := by show ((pAims (cR 1 μ) (cS 25 μ) h) 2).toNatClampNeg < ((pAims (cR 1 μ) (cS 25 μ) h) 1).toNatClampNeg; rw [hA2, hA1]; exact hb
    have hT : cS 25 (zp μ1 25 9 (μ1 25 9 + 1)) = (pBeat (pAims (cR 1 μ) (cS 25 μ) h)) := by
      funext i
      rw [cS_int (b := 25) (j := 9) (k := 2) (by omega) i, hA]
      show (if i = 2 then μ1 25 9 + 1 else _) = if i = 2 then (pAims (cR 1 μ) (cS 25 μ) h) 2 + 1 else _
      rw [show μ1 25 9 = (pAims (cR 1 μ) (cS 25 μ) h) 2 by rw [← hA]; rfl]
    have okT : pOK (pBeat (pAims (cR 1 μ) (cS 25 μ) h)) := pOK_beat okA hbA
    have hpT : pNear (pBeat (pAims (cR 1 μ) (cS 25 μ) h)) ((pBeat (pAims (cR 1 μ) (cS 25 μ) h)) 2 - 1) = (cS 25 μ) (31 + pb (cS 25 μ)) := by
      rw [show (pBeat (pAims (cR 1 μ) (cS 25 μ) h)) 2 - 1 = nI (pb (cS 25 μ)) by show (pAims (cR 1 μ) (cS 25 μ) h) 2 + 1 - 1 = _; rw [hA2, (ok_b ok).1, nI_1]; exact nI_pred _]
      rw [pNear_at okT (by show _ < ((pAims (cR 1 μ) (cS 25 μ) h) 1).toNatClampNeg; rw [hA1]; exact hb)]
      show (if 31 + pb (cS 25 μ) = 2 then _ else (pAims (cR 1 μ) (cS 25 μ) h) (31 + pb (cS 25 μ))) = _
      rw [if_neg (by omega)]
      exact pAimsTo_lo (by omega) hL2
    have hwT : ∀ l, pWorth (pBeat (pAims (cR 1 μ) (cS 25 μ) h)) l (pNear (pBeat (pAims (cR 1 μ) (cS 25 μ) h)) ((pBeat (pAims (cR 1 μ) (cS 25 μ) h)) 2 - 1)) = (fun l => pWorth (pAims (cR 1 μ) (cS 25 μ) h) l ((cS 25 μ) (31 + pb (cS 25 μ)))) l := fun l => by
      rw [hpT]
      exact pWorth_eq (if_neg (by omega)) (if_neg (by omega))
    have eb2 : (zp μ1 25 9 (μ1 25 9 + 1)) 25 7 = nI (pL (cS 25 μ)) := by rw [zp_eq, pk_un (by omega), eb]; exact hL1
    refine zx_iconst (v := 0) (nn := 43) rfl dX8_goBy_42 rfl ?_
    refine zx_istore_n (nn := 44) (lv' := [(2, zi 0), (0, zr 25), (1, zi h)]) dX8_goBy_43 rfl (by decide) rfl rfl ?_
    refine zx_iconst (v := 0) (nn := 45) rfl dX8_goBy_44 rfl ?_
    refine zx_istore_n (nn := 46) (lv' := [(3, zi 0), (2, zi 0), (0, zr 25), (1, zi h)]) dX8_goBy_45 rfl (by decide) rfl rfl ?_
    refine zx_lv (lv' := [(0, zr 25), (1, zi h), (2, zi 0), (3, zi 0)]) [2, 3, 1, 0] rfl ?_
    refine zx_while (τ := Nat × Int32) (fun t_ => pL (cS 25 μ) - t_.1) (fun t_ => t_.1 ≤ pL (cS 25 μ) ∧ t_.2 = pSum (fun l => pWorth (pAims (cR 1 μ) (cS 25 μ) h) l ((cS 25 μ) (31 + pb (cS 25 μ)))) t_.1) (fun t_ => [(0, zr 25), (1, zi h), (2, zi t_.2), (3, zi (nI t_.1))]) (fun t_ => (zp μ1 25 9 (μ1 25 9 + 1))) (t0 := (0, 0)) (⟨Nat.zero_le _, rfl⟩) ?_
    rintro ⟨n, v⟩ hI ih46
    replace hI : n ≤ pL (cS 25 μ) ∧ v = pSum (fun l => pWorth (pAims (cR 1 μ) (cS 25 μ) h) l ((cS 25 μ) (31 + pb (cS 25 μ)))) n := hI
    show zX shC σ 4 MX8_goBy 46 [(0, zr 25), (1, zi h), (2, zi v), (3, zi (nI n))] [] (zp μ1 25 9 (μ1 25 9 + 1)) _
    refine zx_iload_n (k := 3) (nn := 47) dX8_goBy_46 rfl rfl rfl ?_
    refine zx_aload_n (k := 0) (nn := 48) dX8_goBy_47 rfl rfl rfl ?_
    refine zx_getI (nn := 51) flX8_46 rfl rfl dX8_goBy_48 rfl ?_
    rw [eb2]
    show zX shC σ 4 MX8_goBy 51 [(0, zr 25), (1, zi h), (2, zi v), (3, zi (nI n))] [zi (nI (pL (cS 25 μ))), zi (nI n)] (zp μ1 25 9 (μ1 25 9 + 1)) _
    refine zx_icmp_ge (tgt := 68) (nn := 54) dX8_goBy_51 (by decide) rfl (fun h51 => ?_) (fun h51 => ?_)
    · refine zx_aload_n (k := 0) (nn := 69) dX8_goBy_68 rfl rfl rfl ?_
      refine zx_dupr (nn := 70) dX8_goBy_69 rfl ?_
      refine zx_getI (nn := 73) flX8_55 rfl rfl dX8_goBy_70 rfl ?_
      refine zx_iload_n (k := 2) (nn := 74) dX8_goBy_73 rfl rfl rfl ?_
      refine zx_iadd (nn := 75) dX8_goBy_74 rfl ?_
      refine zx_putI (nn := 78) fpX8_55 rfl rfl rfl rfl dX8_goBy_75 rfl ?_
      refine zx_iload_n (k := 2) (nn := 79) dX8_goBy_78 rfl rfl rfl ?_
      refine zx_iret rfl dX8_goBy_79 ?_
      have hge2 := nI_le_le h51 (by omega)
      have hn2 : n = pL (cS 25 μ) := by omega
      refine ⟨congrArg (fun x => some (zi x)) ?_, ?_, ?_⟩
      · rw [hI.2, hn2]
        unfold pGain pWorths
        show _ = pSum (fun l => pWorth (pAims (cR 1 μ) (cS 25 μ) h) l ((cS 25 μ) (31 + pb (cS 25 μ)))) ((pAims (cR 1 μ) (cS 25 μ) h) 0).toNatClampNeg
        rw [hA0]; rfl
      · funext i
        rw [cS_int (b := 25) (j := 10) (k := 3) (by omega) i, hT]
        unfold pGo pBeat
        by_cases q3 : i = 3
        · subst q3
          rw [if_pos rfl, if_neg (by omega), if_pos rfl]
          rw [hI.2, hn2]
          have e3 : (zp μ1 25 9 (μ1 25 9 + 1)) 25 10 = (cS 25 μ) 3 := by rw [zp_eq, pk_un (by omega), eb]; rfl
          rw [e3]
          congr 1
        · rw [if_neg q3]
          by_cases q2 : i = 2
          · rw [if_pos q2, if_pos q2, hA2]
          · rw [if_neg q2, if_neg q2, if_neg q3]
      · exact (((hr3.mono (by simp)).p (by decide)).p (by decide))
    · have hlt2 : n < pL (cS 25 μ) := nI_nle_lt h51 (by omega)
      refine zx_iload_n (k := 2) (nn := 55) dX8_goBy_54 rfl rfl rfl ?_
      refine zx_aload_n (k := 0) (nn := 56) dX8_goBy_55 rfl rfl rfl ?_
      refine zx_iload_n (k := 3) (nn := 57) dX8_goBy_56 rfl rfl rfl ?_
      refine zx_callVf (nn := 60) (k := 25) (d' := 3) (as := [zi (nI n)]) (rest := [zi v]) (n := 1) (eX8_worthOf_25 σ (zp μ1 25 9 (μ1 25 9 + 1)) n (by rw [hT]; exact okT) (by rw [hT]; show n < ((pAims (cR 1 μ) (cS 25 μ) h) 0).toNatClampNeg; rw [hA0]; exact hlt2)) kX8_worthOf mlX8_114 rfl rfl rfl (by decide) rfl rfl (Nat.le_of_ble_eq_true rfl) dX8_goBy_57 rfl ?_
      show zX shC σ 4 MX8_goBy 60 [(0, zr 25), (1, zi h), (2, zi v), (3, zi (nI n))] [zi (pWorth (cS 25 (zp μ1 25 9 (μ1 25 9 + 1))) n (pNear (cS 25 (zp μ1 25 9 (μ1 25 9 + 1))) (cS 25 (zp μ1 25 9 (μ1 25 9 + 1)) 2 - 1))), zi v] (zp μ1 25 9 (μ1 25 9 + 1)) _
      rw [hT, hwT n]
      show zX shC σ 4 MX8_goBy 60 [(0, zr 25), (1, zi h), (2, zi v), (3, zi (nI n))] [zi ((fun l => pWorth (pAims (cR 1 μ) (cS 25 μ) h) l ((cS 25 μ) (31 + pb (cS 25 μ)))) n), zi v] (zp μ1 25 9 (μ1 25 9 + 1)) _
      refine zx_iadd (nn := 61) dX8_goBy_60 rfl ?_
      refine zx_istore_n (nn := 62) (lv' := [(2, zi (v + ((fun l => pWorth (pAims (cR 1 μ) (cS 25 μ) h) l ((cS 25 μ) (31 + pb (cS 25 μ)))) n))), (0, zr 25), (1, zi h), (3, zi (nI n))]) dX8_goBy_61 rfl (by decide) rfl rfl ?_
      refine zx_iinc (k := 3) (v := nI (n + 1)) (lv' := [(3, zi (nI (n + 1))), (2, zi (v + ((fun l => pWorth (pAims (cR 1 μ) (cS 25 μ) h) l ((cS 25 μ) (31 + pb (cS 25 μ)))) n))), (0, zr 25), (1, zi h)]) (nn := 65) dX8_goBy_62 rfl (nI_1 n) (by decide) rfl rfl ?_
      refine zx_goto (tgt := 46) dX8_goBy_65 (by decide) ?_
      refine zx_lv (lv' := [(0, zr 25), (1, zi h), (2, zi (v + ((fun l => pWorth (pAims (cR 1 μ) (cS 25 μ) h) l ((cS 25 μ) (31 + pb (cS 25 μ)))) n))), (3, zi (nI (n + 1)))]) [2, 3, 1, 0] rfl ?_
      exact ih46 (n + 1, v + (fun l => pWorth (pAims (cR 1 μ) (cS 25 μ) h) l ((cS 25 μ) (31 + pb (cS 25 μ)))) n) (show (n + 1) ≤ pL (cS 25 μ) ∧ (v + (fun l => pWorth (pAims (cR 1 μ) (cS 25 μ) h) l ((cS 25 μ) (31 + pb (cS 25 μ)))) n) = pSum (fun l => pWorth (pAims (cR 1 μ) (cS 25 μ) h) l ((cS 25 μ) (31 + pb (cS 25 μ)))) (n + 1) from ⟨by omega, by show _ + _ = pSum _ n + _; rw [hI.2]⟩) (by show pL (cS 25 μ) - (n + 1) < pL (cS 25 μ) - n; omega)
  · have hlt : n < pL (cS 25 μ) := nI_nle_lt h7 (by omega)
    refine zx_iload_n (k := 2) (nn := 11) dX8_goBy_10 rfl rfl rfl ?_
    refine zx_iload_n (k := 1) (nn := 12) dX8_goBy_11 rfl rfl rfl ?_
    refine zx_icmp_eq (tgt := 26) (nn := 15) dX8_goBy_12 (by decide) rfl (fun h12 => ?_) (fun h12 => ?_)
    · refine zx_iinc (k := 2) (v := nI (n + 1)) (lv' := [(2, zi (nI (n + 1))), (0, zr 25), (1, zi h)]) (nn := 29) dX8_goBy_26 rfl (nI_1 n) (by decide) rfl rfl ?_
      refine zx_goto (tgt := 2) dX8_goBy_29 (by decide) ?_
      refine zx_lv (lv' := [(0, zr 25), (1, zi h), (2, zi (nI (n + 1)))]) [1, 2, 0] rfl ?_
      exact ih2 (n + 1, μ1) (show (n + 1) ≤ pL (cS 25 μ) ∧ cS 25 μ1 = pAimsTo (cR 1 μ) (cS 25 μ) h (n + 1) ∧ zJ [27, 6, 31] μ μ1 from ⟨by omega, by rw [hr2]; exact (pAimsTo_h h12).symm, hr3⟩) (by show pL (cS 25 μ) - (n + 1) < pL (cS 25 μ) - n; omega)
    · refine zx_aload_n (k := 0) (nn := 16) dX8_goBy_15 rfl rfl rfl ?_
      refine zx_getR (q := 27) (nn := 19) flX8_15 rfl rfl dX8_goBy_16 rfl ?_
      refine zx_iload_n (k := 2) (nn := 20) dX8_goBy_19 rfl rfl rfl ?_
      refine zx_aload_n (k := 0) (nn := 21) dX8_goBy_20 rfl rfl rfl ?_
      refine zx_iload_n (k := 2) (nn := 22) dX8_goBy_21 rfl rfl rfl ?_
      refine zx_callV (nn := 25) (k := 25) (d' := 3) (as := [zi (nI n)]) (rest := [zi (nI n), zr 27]) (n := 1) (eX8_aimBehind_25 σ μ1 n ok1 (by rw [hr2]; show n < (pAimsTo _ _ _ _ 0).toNatClampNeg; rw [pAimsTo_lo (by omega) (by omega)]; exact hlt) rok1) kX8_aimBehind mlX8_111 rfl rfl rfl (by decide) rfl rfl (Nat.le_of_ble_eq_true rfl) dX8_goBy_22 rfl ?_
      rintro _ ν1 ⟨rfl, qb⟩
      show zX shC σ 4 MX8_goBy 25 [(0, zr 25), (1, zi h), (2, zi (nI n))] [zi (pBehind (cR 1 μ1) (cS 25 μ1) n), zi (nI n), zr 27] ν1 _
      rw [show pBehind (cR 1 μ1) (cS 25 μ1) n = pBehind (cR 1 μ) (cS 25 μ) n by rw [eR, hr2]; exact pBehind_eq ok (pAimsTo_same (Nat.le_refl _) (by omega))]
      show zX shC σ 4 MX8_goBy 25 [(0, zr 25), (1, zi h), (2, zi (nI n))] [zi (pBehind (cR 1 μ) (cS 25 μ) n), zi (nI n), zr 27] ν1 _
      refine zx_iast_n (j := n) (nn := 26) rfl (by omega) (by decide) dX8_goBy_25 rfl ?_
      refine zx_iinc (k := 2) (v := nI (n + 1)) (lv' := [(2, zi (nI (n + 1))), (0, zr 25), (1, zi h)]) (nn := 29) dX8_goBy_26 rfl (nI_1 n) (by decide) rfl rfl ?_
      refine zx_goto (tgt := 2) dX8_goBy_29 (by decide) ?_
      refine zx_lv (lv' := [(0, zr 25), (1, zi h), (2, zi (nI (n + 1)))]) [1, 2, 0] rfl ?_
      exact ih2 (n + 1, zp ν1 27 n (pBehind (cR 1 μ) (cS 25 μ) n)) (show (n + 1) ≤ pL (cS 25 μ) ∧ cS 25 (zp ν1 27 n (pBehind (cR 1 μ) (cS 25 μ) n)) = pAimsTo (cR 1 μ) (cS 25 μ) h (n + 1) ∧ zJ [27, 6, 31] μ (zp ν1 27 n (pBehind (cR 1 μ) (cS 25 μ) n)) from ⟨by omega, by funext i; rw [cS_aim (b := 25) (by omega) i, pAimsTo_g h12 i, cS_eq (b := 25) (fun k hk => qb k (by simp; omega)), hr2], (hr3.tr (qb.mono (by simp))).p (by decide)⟩) (by show pL (cS 25 μ) - (n + 1) < pL (cS 25 μ) - n; omega)
