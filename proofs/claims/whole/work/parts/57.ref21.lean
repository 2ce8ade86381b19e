def gFl (L : List pRl) : List (Int32 × Int32) := L.flatMap (fun q => q.2.2)
theorem gFl_app (L : List pRl) (q : pRl) : gFl (L ++ [q]) = gFl L ++ q.2.2 := by
  unfold gFl
  rw [List.flatMap_append]
  simp
/-- row 1 holds the rules L -/
def gTb (μ : zM) (L : List pRl) : Prop := μ 1 5 = nI L.length ∧ (∀ r, r < L.length → μ 1 (71 + 5 * r) = (L.getD r pRl0).1.1 ∧ μ 1 (71 + 5 * r + 1) = (L.getD r pRl0).1.2.1 - 263 ∧ μ 1 (71 + 5 * r + 2) = (L.getD r pRl0).1.2.2 ∧ μ 1 (71 + 5 * r + 3) = nI (gFl (L.take r)).length ∧ μ 1 (71 + 5 * r + 4) = nI (gFl (L.take (r + 1))).length) ∧
  ∀ j, j < (gFl L).length → μ 1 (111 + 2 * j) = ((gFl L).getD j (0, 0)).1 ∧ μ 1 (111 + 2 * j + 1) = ((gFl L).getD j (0, 0)).2
theorem gTb.keep {μ ν : zM} {L : List pRl} (h : gTb μ L) (e : ν 1 = μ 1) : gTb ν L := by
  unfold gTb at *
  rw [e]
  exact h
theorem gTb.add {T : Nat → Int32} {len k : Nat} {μ ν : zM} {L : List pRl} {r : pQ} (h : gTb μ L) (h8 : L.length < 8) (g : gQs T len k (gFl L).length L.length r μ ν) (ok : r.1 = true) : gTb ν (L ++ [r.2.2]) := by
  obtain ⟨h1, h2, h3⟩ := h
  obtain ⟨⟨-, -, g0⟩, g1, -⟩ := g
  obtain ⟨g2, g3, g4, g5, g6, g7, g8, g9, g10⟩ := g1 ok
  refine ⟨by rw [g4, List.length_append]; rfl, fun j hj => ?_, fun j hj => ?_⟩
  · rw [List.length_append] at hj
    by_cases q : j < L.length
    · have e : (L ++ [r.2.2]).getD j pRl0 = L.getD j pRl0 := by simp [List.getD, List.getElem?_append_left q]
      rw [e, g0 _ (by omega), g0 _ (by omega), g0 _ (by omega), g0 _ (by omega), g0 _ (by omega), List.take_append_of_le_length (by omega), List.take_append_of_le_length (by omega)]
      exact h2 j q
    · obtain rfl : j = L.length := by simp at hj; omega
      have e : (L ++ [r.2.2]).getD L.length pRl0 = r.2.2 := by simp [List.getD]
      rw [e, List.take_append_of_le_length (Nat.le_refl _), List.take_of_length_le (Nat.le_refl _), List.take_of_length_le (by simp), gFl_app, List.length_append]
      exact ⟨g6, g7, g8, g9, g10⟩
  · rw [gFl_app, List.length_append] at hj
    rw [gFl_app]
    by_cases q : j < (gFl L).length
    · rw [g5.1 _ (by omega) (by omega), g5.1 _ (by omega) (by omega), getD_l2 q]
      exact h3 j q
    · have := g5.2 (j - (gFl L).length) (by omega)
      rw [show (gFl L).length + (j - (gFl L).length) = j by omega] at this
      rw [getD_r2 (by omega)]
      exact this
theorem rules_s {K V : Nat → Int32} {m k : Nat} {L : List pRl} (h : ¬ K k = -1) (g : (rRule K V k).1 = true) : rRules K V (m + 1) k L = rRules K V m (rRule K V k).2.1 (L ++ [(rRule K V k).2.2]) := by
  show (if _ then _ else if _ then _ else _) = _
  rw [if_neg h, if_pos g]
theorem rules_f {K V : Nat → Int32} {m k : Nat} {L : List pRl} (h : ¬ K k = -1) (g : (rRule K V k).1 = false) : rRules K V (m + 1) k L = (false, (rRule K V k).2.1, []) := by
  show (if _ then _ else if _ then _ else _) = _
  rw [if_neg h, if_neg (by rw [g]; decide)]
theorem rules_e {K V : Nat → Int32} {k : Nat} {L : List pRl} (h : K k = -1) : ∀ m, rRules K V m k L = (true, k, L)
  | 0 => rfl
  | m + 1 => if_pos h
theorem rule_gd {K V : Nat → Int32} {k c : Nat} (hc : K c = -1) (hk : k ≤ c) (h : (rRule K V k).1 = true) : (k < (rRule K V k).2.1 ∧ (rRule K V k).2.1 ≤ c) ∧ (rRule K V k).2.2.2.2.length + k ≤ (rRule K V k).2.1 := by
  by_cases h1 : 0 ≤ K k - 256 ∧ K k - 256 ≤ 5
  · have hne : k ≠ c := fun e => by rw [e, hc] at h1; exact absurd h1.1 (by decide)
    have hg := gd_cnd (V := V) hc (k := k) (by omega)
    by_cases h2 : (rCnd K V k).1 = true
    · rw [rule_d h1 h2] at h ⊢
      by_cases h3 : (rDo K V (rCnd K V k).2.1).1 = true
      · have hd := do_le (K := K) (V := V) (k := (rCnd K V k).2.1) hc hg.1.2
        rw [if_pos h3] at h ⊢
        unfold rFin at h ⊢
        by_cases h4 : K (rDo K V (rCnd K V k).2.1).2.1 = 59
        · have hn2 : (rDo K V (rCnd K V k).2.1).2.1 ≠ c := fun e => by rw [e, hc] at h4; exact absurd h4 (by decide)
          rw [if_pos h4]
          refine ⟨⟨by show k < (rDo K V (rCnd K V k).2.1).2.1 + 1; omega, by show (rDo K V (rCnd K V k).2.1).2.1 + 1 ≤ c; omega⟩, ?_⟩
          show (rCnd K V k).2.2.2.length + k ≤ (rDo K V (rCnd K V k).2.1).2.1 + 1
          omega
        · rw [if_neg h4] at h
          cases h
      · rw [if_neg h3] at h
        cases h
    · unfold rRule at h
      rw [if_pos h1, if_neg h2] at h
      cases h
  · unfold rRule at h
    rw [if_neg h1] at h
    cases h
set_option maxHeartbeats 4000000 in
set_option maxRecDepth 100000 in
theorem eX11_rules_0 (σ : zG) (μ : zM) (T : Nat → Int32) (len : Nat) (hl : μ 0 6 = nI len) (hX : gX T len) (hT : ∀ j, j < len → μ 5 j = T j) : zMet shR σ 24 MX11_rules yX11_rules [zr 0] μ (fun rr μ' => rr = some (zi (if (tRead T len).1 = true then nI (tRead T len).2.2.length else -100 - nI (tS T len (tRead T len).2.1))) ∧ μ' 0 6 = 0 ∧ (∀ j, j ≠ 6 → j < 8 ∨ 14 < j → μ' 0 j = μ 0 j) ∧ zJ [0, 1, 3] μ μ' ∧ (if (tRead T len).1 = true then (∀ i, i < 71 → i ≠ 5 → μ' 1 i = μ 1 i) ∧ gTb μ' (tRead T len).2.2 ∧ (tRead T len).2.2.length ≤ 8 ∧ (gFl (tRead T len).2.2).length ≤ 200 else ∀ j, j < 521 → μ' 1 j = μ 1 j)) := by
  refine zmetF (by decide +kernel) rfl (Nat.le_of_ble_eq_true rfl) ?_
  show zX shR σ 24 MX11_rules 0 [(0, zr 0)] [] μ _
  refine zx_aload_n (k := 0) (nn := 1) dX11_rules_0 rfl rfl rfl ?_
  refine zx_getR (q := 1) (nn := 4) flX11_9 rfl rfl dX11_rules_1 rfl ?_
  refine zx_aload_n (k := 0) (nn := 5) dX11_rules_4 rfl rfl rfl ?_
  refine zx_getR (q := 3) (nn := 8) flX11_16 rfl rfl dX11_rules_5 rfl ?_
  refine zx_callS (nn := 11) (d' := 0) (as := [zr 1, zr 3]) (rest := []) (n := 2) (eX11_over_1_3 σ μ) kX11_over mlX11_277 (by decide) rfl rfl (Nat.le_of_ble_eq_true rfl) dX11_rules_8 rfl ?_
  rintro _ ν1 ⟨rfl, o1, o2⟩
  show zX shR σ 24 MX11_rules 11 [(0, zr 0)] [] ν1 _
  refine zx_aload_n (k := 0) (nn := 12) dX11_rules_11 rfl rfl rfl ?_
  refine zx_iconst (v := 0) (nn := 13) rfl dX11_rules_12 rfl ?_
  refine zx_putI (nn := 16) fpX11_161 rfl rfl rfl rfl dX11_rules_13 rfl ?_
  refine zx_aload_n (k := 0) (nn := 17) dX11_rules_16 rfl rfl rfl ?_
  refine zx_iconst (v := 0) (nn := 18) rfl dX11_rules_17 rfl ?_
  refine zx_putI (nn := 21) fpX11_239 rfl rfl rfl rfl dX11_rules_18 rfl ?_
  refine zx_aload_n (k := 0) (nn := 22) dX11_rules_21 rfl rfl rfl ?_
  refine zx_iconst (v := 0) (nn := 23) rfl dX11_rules_22 rfl ?_
  refine zx_putI (nn := 26) fpX11_191 rfl rfl rfl rfl dX11_rules_23 rfl ?_
  refine zx_aload_n (k := 0) (nn := 27) dX11_rules_26 rfl rfl rfl ?_
  refine zx_getR (q := 1) (nn := 30) flX11_9 rfl rfl dX11_rules_27 rfl ?_
  refine zx_iconst (v := 5) (nn := 31) rfl dX11_rules_30 rfl ?_
  refine zx_iconst (v := 0) (nn := 32) rfl dX11_rules_31 rfl ?_
  refine zx_iast_n (j := 5) (nn := 33) rfl (by omega) (by decide) dX11_rules_32 rfl ?_
  refine zx_aload_n (k := 0) (nn := 34) dX11_rules_33 rfl rfl rfl ?_
  have f0 : ∀ j, j ≠ 8 → j ≠ 13 → j ≠ 14 → (zp (zp (zp (zp ν1 0 8 0) 0 13 0) 0 14 0) 1 5 0) 0 j = μ 0 j := fun j a b c => by rw [zp_ne (by decide), zp_eq, pk_un c, zp_eq, pk_un b, zp_eq, pk_un a, o1 0 (by decide)]
  have t0 : ∀ j, j < len → (zp (zp (zp (zp ν1 0 8 0) 0 13 0) 0 14 0) 1 5 0) 5 j = T j := fun j hj => by rw [zp_ne (by decide), zp_ne (by decide), zp_ne (by decide), zp_ne (by decide), o1 5 (by decide)]; exact hT j hj
  refine zx_callV (nn := 37) (k := 0) (d' := 1) (as := []) (rest := []) (n := 0) (eX11_look_0 σ (zp (zp (zp (zp ν1 0 8 0) 0 13 0) 0 14 0) 1 5 0) T len 0 ((f0 6 (by decide) (by decide) (by decide)).trans hl) hX.1 rfl (Nat.zero_le _) t0) kX11_look mlX11_230 rfl rfl rfl (by decide) rfl rfl (Nat.le_of_ble_eq_true rfl) dX11_rules_34 rfl ?_
  rintro _ ν2 ⟨rfl, g2⟩
  show zX shR σ 24 MX11_rules 37 [(0, zr 0)] [] ν2 _
  have S0 : gS T len ν2 0 0 := ⟨⟨(g2.2.1 6 (by omega)).trans ((f0 6 (by decide) (by decide) (by decide)).trans hl), fun j hj => by rw [g2.1 5 (by decide)]; exact t0 j hj⟩, ⟨g2.2.2.1, g2.2.2.2.1, g2.2.2.2.2.1⟩, g2.2.2.2.2.2.1, g2.2.2.2.2.2.2, ⟨Nat.zero_le _, tS_le (tP_le 0), tP_le 1⟩, g2.2.1 14 (by omega)⟩
  refine zx_iconst (v := 1) (nn := 38) rfl dX11_rules_37 rfl ?_
  refine zx_istore_n (nn := 39) (lv' := [(1, zi 1), (0, zr 0)]) dX11_rules_38 rfl (by decide) rfl rfl ?_
  refine zx_lv (lv' := [(0, zr 0), (1, zi 1)]) [1, 0] rfl ?_
  refine zx_while (τ := Nat × List pRl × Bool × zM) (fun t_ => 300 - t_.1) (fun t_ => zJ [0, 1, 3] μ t_.2.2.2 ∧ (∀ j, j < 521 → t_.2.2.2 3 j = μ 1 j) ∧ (∀ j, j < 8 ∨ 14 < j → t_.2.2.2 0 j = μ 0 j) ∧ (∀ i, i < 71 → i ≠ 5 → t_.2.2.2 1 i = μ 1 i) ∧ (t_.2.2.1 = true → t_.1 ≤ len ∧ t_.2.1.length ≤ 8 ∧ rRules (tK T len) (tV T len) 8 0 [] = rRules (tK T len) (tV T len) (8 - t_.2.1.length) t_.1 t_.2.1 ∧ gS T len t_.2.2.2 t_.1 (gFl t_.2.1).length ∧ (gFl t_.2.1).length ≤ t_.1 ∧ t_.2.2.2 0 13 = nI 0 ∧ gTb t_.2.2.2 t_.2.1) ∧ (t_.2.2.1 = false → (tRead T len).1 = false ∧ t_.2.2.2 0 12 = nI (tS T len (tRead T len).2.1))) (fun t_ => [(0, zr 0), (1, zi (zb t_.2.2.1))]) (fun t_ => t_.2.2.2) (t0 := (0, [], true, ν2)) (show zJ [0, 1, 3] μ ν2 ∧ (∀ j, j < 521 → ν2 3 j = μ 1 j) ∧ (∀ j, j < 8 ∨ 14 < j → ν2 0 j = μ 0 j) ∧ (∀ i, i < 71 → i ≠ 5 → ν2 1 i = μ 1 i) ∧ (true = true → 0 ≤ len ∧ ([]).length ≤ 8 ∧ rRules (tK T len) (tV T len) 8 0 [] = rRules (tK T len) (tV T len) (8 - ([]).length) 0 ([]) ∧ gS T len ν2 0 (gFl ([])).length ∧ (gFl ([])).length ≤ 0 ∧ ν2 0 13 = nI 0 ∧ gTb ν2 ([])) ∧ (true = false → (tRead T len).1 = false ∧ ν2 0 12 = nI (tS T len (tRead T len).2.1)) from ⟨((((o1.mono (by decide)).p (by decide)).p (by decide)).p (by decide)).p (by decide) |>.tr (g2.1.mono (by decide)), fun j hj_ => by rw [g2.1 3 (by decide), zp_ne (by decide), zp_ne (by decide), zp_ne (by decide), zp_ne (by decide)]; exact o2 j hj_, fun j hj_ => (g2.2.1 j (by omega)).trans (f0 j (by omega) (by omega) (by omega)), fun i a b => by rw [g2.1 1 (by decide), zp_eq, pk_un b, zp_ne (by decide), zp_ne (by decide), zp_ne (by decide), o1 1 (by decide)], fun _ => ⟨Nat.zero_le _, Nat.zero_le _, rfl, S0, Nat.zero_le _, (g2.2.1 13 (by omega)), by rw [g2.1 1 (by decide), zp_eq]; exact pk_us, fun r h => absurd h (by simp), fun j h => absurd h (by simp [gFl])⟩, fun h => by cases h⟩) ?_
  rintro ⟨k, L, ok, μ1⟩ hI ih39
  replace hI : zJ [0, 1, 3] μ μ1 ∧ (∀ j, j < 521 → μ1 3 j = μ 1 j) ∧ (∀ j, j < 8 ∨ 14 < j → μ1 0 j = μ 0 j) ∧ (∀ i, i < 71 → i ≠ 5 → μ1 1 i = μ 1 i) ∧ (ok = true → k ≤ len ∧ L.length ≤ 8 ∧ rRules (tK T len) (tV T len) 8 0 [] = rRules (tK T len) (tV T len) (8 - L.length) k L ∧ gS T len μ1 k (gFl L).length ∧ (gFl L).length ≤ k ∧ μ1 0 13 = nI 0 ∧ gTb μ1 L) ∧ (ok = false → (tRead T len).1 = false ∧ μ1 0 12 = nI (tS T len (tRead T len).2.1)) := hI
  show zX shR σ 24 MX11_rules 39 [(0, zr 0), (1, zi (zb ok))] [] μ1 _
  obtain ⟨hj, h3, hf, hr, hY, hN⟩ := hI
  refine zx_iload_n (k := 1) (nn := 40) dX11_rules_39 rfl rfl rfl ?_
  refine zx_ifb_eq (tgt := 58) (nn := 43) dX11_rules_40 (by decide) rfl (fun h40 => ?_) (fun h40 => ?_)
  · refine zx_aload_n (k := 0) (nn := 59) dX11_rules_58 rfl rfl rfl ?_
    refine zx_iconst (v := 0) (nn := 60) rfl dX11_rules_59 rfl ?_
    refine zx_putI (nn := 63) fpX11_155 rfl rfl rfl rfl dX11_rules_60 rfl ?_
    refine zx_iload_n (k := 1) (nn := 64) dX11_rules_63 rfl rfl rfl ?_
    refine zx_ifb_ne (tgt := 86) (nn := 67) dX11_rules_64 (by decide) rfl (fun h64 => ?_) (fun h64 => ?_)
    · exact absurd (h40.symm.trans h64) (by decide)
    · refine zx_aload_n (k := 0) (nn := 68) dX11_rules_67 rfl rfl rfl ?_
      refine zx_getR (q := 3) (nn := 71) flX11_16 rfl rfl dX11_rules_68 rfl ?_
      refine zx_aload_n (k := 0) (nn := 72) dX11_rules_71 rfl rfl rfl ?_
      refine zx_getR (q := 1) (nn := 75) flX11_9 rfl rfl dX11_rules_72 rfl ?_
      refine zx_callS (nn := 78) (d' := 0) (as := [zr 3, zr 1]) (rest := []) (n := 2) (eX11_over_3_1 σ (zp μ1 0 6 0)) kX11_over mlX11_277 (by decide) rfl rfl (Nat.le_of_ble_eq_true rfl) dX11_rules_75 rfl ?_
      rintro _ ν3 ⟨rfl, b1, b2⟩
      show zX shR σ 24 MX11_rules 78 [(0, zr 0), (1, zi (zb ok))] [] ν3 _
      refine zx_bipush (v := -100) (nn := 80) rfl dX11_rules_78 rfl ?_
      refine zx_aload_n (k := 0) (nn := 81) dX11_rules_80 rfl rfl rfl ?_
      refine zx_getI (nn := 84) flX11_179 rfl rfl dX11_rules_81 rfl ?_
      rw [show ν3 0 12 = nI (tS T len (tRead T len).2.1) from by rw [b1 0 (by decide), zp_eq, pk_un (by decide)]; exact (hN h40).2]
      show zX shR σ 24 MX11_rules 84 [(0, zr 0), (1, zi (zb ok))] [zi (nI (tS T len (tRead T len).2.1)), zi (-100)] ν3 _
      refine zx_isub (nn := 85) dX11_rules_84 rfl ?_
      refine zx_iret rfl dX11_rules_85 ?_
      have hn := hN h40
      refine ⟨congrArg (fun x => some (zi x)) ?_, ?_, ?_, ?_, ?_⟩
      · rw [if_neg (by rw [hn.1]; decide)]
      · rw [b1 0 (by decide), zp_eq]; exact pk_us
      · intro j a b; rw [b1 0 (by decide), zp_eq, pk_un a]; exact hf j b
      · exact (hj.p (by decide)).tr (b1.mono (by decide))
      · rw [if_neg (by rw [hn.1]; decide)]
        intro j hj_
        rw [b2 j hj_, zp_ne (by decide)]
        exact h3 j hj_
  · obtain ⟨hkl, hL8, hR, hSk, hck, h13, hTb⟩ := hY h40
    refine zx_aload_n (k := 0) (nn := 44) dX11_rules_43 rfl rfl rfl ?_
    refine zx_getI (nn := 47) flX11_167 rfl rfl dX11_rules_44 rfl ?_
    rw [show μ1 0 10 = gTk T len k from hSk.2.1.2.2]
    show zX shR σ 24 MX11_rules 47 [(0, zr 0), (1, zi (zb ok))] [zi (gTk T len k)] μ1 _
    refine zx_if_eq (tgt := 58) (nn := 50) dX11_rules_47 (by decide) rfl (fun h47 => ?_) (fun h47 => ?_)
    · refine zx_aload_n (k := 0) (nn := 59) dX11_rules_58 rfl rfl rfl ?_
      refine zx_iconst (v := 0) (nn := 60) rfl dX11_rules_59 rfl ?_
      refine zx_putI (nn := 63) fpX11_155 rfl rfl rfl rfl dX11_rules_60 rfl ?_
      refine zx_iload_n (k := 1) (nn := 64) dX11_rules_63 rfl rfl rfl ?_
      refine zx_ifb_ne (tgt := 86) (nn := 67) dX11_rules_64 (by decide) rfl (fun h64 => ?_) (fun h64 => ?_)
      · refine zx_aload_n (k := 0) (nn := 87) dX11_rules_86 rfl rfl rfl ?_
        refine zx_getR (q := 1) (nn := 90) flX11_9 rfl rfl dX11_rules_87 rfl ?_
        refine zx_iconst (v := 5) (nn := 91) rfl dX11_rules_90 rfl ?_
        refine zx_iald_n (j := 5) (nn := 92) rfl (by omega) (by decide) dX11_rules_91 rfl ?_
        show zX shR σ 24 MX11_rules 92 [(0, zr 0), (1, zi (zb ok))] [zi (μ1 1 5)] (zp μ1 0 6 0) _
        rw [show μ1 1 5 = nI L.length from hTb.1]
        show zX shR σ 24 MX11_rules 92 [(0, zr 0), (1, zi (zb ok))] [zi (nI L.length)] (zp μ1 0 6 0) _
        refine zx_iret rfl dX11_rules_92 ?_
        have hk1 : tK T len k = -1 := (K_0 hX).mp h47
        have hst : rRules (tK T len) (tV T len) 8 0 [] = (true, k, L) := hR.trans (rules_e hk1 _)
        have hE : (tRead T len) = (true, k, L) := by unfold tRead; rw [hst, decide_eq_true hk1]; rfl
        rw [hE]
        refine ⟨congrArg (fun x => some (zi x)) (by rw [if_pos rfl]), by rw [zp_eq]; exact pk_us, fun j a b => by rw [zp_eq, pk_un a]; exact hf j b, hj.p (by decide), ?_⟩
        rw [if_pos rfl]
        have h200 := hX.1
        exact ⟨fun i a b => by rw [zp_ne (by decide)]; exact hr i a b, hTb.keep (zp_ne (by decide)), hL8, by show (gFl L).length ≤ 200; omega⟩
      · exact absurd (h40.symm.trans h64) (by decide)
    · have hne : ¬ tK T len k = -1 := fun q => h47 ((K_0 hX).mpr q)
      refine zx_aload_n (k := 0) (nn := 51) dX11_rules_50 rfl rfl rfl ?_
      refine zx_callV (nn := 54) (k := 0) (d' := 23) (as := []) (rest := []) (n := 0) (eX11_takesRule_0 σ μ1 L.length T len k (gFl L).length hL8 hTb.1 hX hSk hck h13) kX11_takesRule mlX11_281 rfl rfl rfl (by decide) rfl rfl (Nat.le_of_ble_eq_true rfl) dX11_rules_51 rfl ?_
      rintro _ ν4 ⟨rfl, q1⟩
      show zX shR σ 24 MX11_rules 54 [(0, zr 0), (1, zi (zb ok))] [zi (zb (rRu (tK T len) (tV T len) L.length k).1)] ν4 _
      have hj2 : zJ [0, 1, 3] μ ν4 := hj.tr (q1.1.1.mono (by decide))
      have h32 : ∀ j, j < 521 → ν4 3 j = μ 1 j := fun j hj_ => by rw [q1.1.1 3 (by decide)]; exact h3 j hj_
      have hf2 : ∀ j, j < 8 ∨ 14 < j → ν4 0 j = μ 0 j := fun j hj_ => (q1.1.2.1 j hj_).trans (hf j hj_)
      have hr2 : ∀ i, i < 71 → i ≠ 5 → ν4 1 i = μ 1 i := fun i a b => (q1.1.2.2 i (by omega)).trans (hr i a b)
      have hmain : ((rRu (tK T len) (tV T len) L.length k).1 = true → ((if (rRu (tK T len) (tV T len) L.length k).1 = true then (rRu (tK T len) (tV T len) L.length k).2.1 else 301) ≤ len ∧ k < (if (rRu (tK T len) (tV T len) L.length k).1 = true then (rRu (tK T len) (tV T len) L.length k).2.1 else 301)) ∧ (if (rRu (tK T len) (tV T len) L.length k).1 = true then L ++ [(rRu (tK T len) (tV T len) L.length k).2.2] else L).length ≤ 8 ∧ rRules (tK T len) (tV T len) 8 0 [] = rRules (tK T len) (tV T len) (8 - (if (rRu (tK T len) (tV T len) L.length k).1 = true then L ++ [(rRu (tK T len) (tV T len) L.length k).2.2] else L).length) (if (rRu (tK T len) (tV T len) L.length k).1 = true then (rRu (tK T len) (tV T len) L.length k).2.1 else 301) (if (rRu (tK T len) (tV T len) L.length k).1 = true then L ++ [(rRu (tK T len) (tV T len) L.length k).2.2] else L) ∧ gS T len ν4 (if (rRu (tK T len) (tV T len) L.length k).1 = true then (rRu (tK T len) (tV T len) L.length k).2.1 else 301) (gFl (if (rRu (tK T len) (tV T len) L.length k).1 = true then L ++ [(rRu (tK T len) (tV T len) L.length k).2.2] else L)).length ∧ (gFl (if (rRu (tK T len) (tV T len) L.length k).1 = true then L ++ [(rRu (tK T len) (tV T len) L.length k).2.2] else L)).length ≤ (if (rRu (tK T len) (tV T len) L.length k).1 = true then (rRu (tK T len) (tV T len) L.length k).2.1 else 301) ∧ ν4 0 13 = nI 0 ∧ gTb ν4 (if (rRu (tK T len) (tV T len) L.length k).1 = true then L ++ [(rRu (tK T len) (tV T len) L.length k).2.2] else L)) ∧ ((rRu (tK T len) (tV T len) L.length k).1 = false → (tRead T len).1 = false ∧ ν4 0 12 = nI (tS T len (tRead T len).2.1)) := by
        by_cases hn : L.length < 8
        · have hru : (rRu (tK T len) (tV T len) L.length k) = rRule (tK T len) (tV T len) k := if_pos hn
          rw [hru] at q1 ⊢
          cases hb : (rRule (tK T len) (tV T len) k).1 with
          | true =>
            refine ⟨fun _ => ?_, fun h => by cases h⟩
            rw [if_pos rfl, if_pos rfl]
            have hst := hR.trans ((show rRules (tK T len) (tV T len) (8 - L.length) k L = rRules (tK T len) (tV T len) ((8 - (L.length + 1)) + 1) k L by rw [show 8 - L.length = (8 - (L.length + 1)) + 1 by omega]).trans (rules_s hne hb))
            have hgr := rule_gd (K := (tK T len)) (V := (tV T len)) (k := k) (tK_len (T := T) (len := len)) hkl hb
            have hg := q1.2.1 hb
            refine ⟨⟨hgr.1.2, hgr.1.1⟩, by rw [List.length_append]; show L.length + 1 ≤ 8; omega, by rw [List.length_append]; exact hst, ?_, ?_, hg.2.1, hTb.add hn q1 hb⟩
            · rw [gFl_app, List.length_append]; exact hg.1
            · rw [gFl_app, List.length_append]; have := hgr.2; omega
          | false =>
            refine ⟨(fun h => by cases h), fun _ => ?_⟩
            have hst := hR.trans ((show rRules (tK T len) (tV T len) (8 - L.length) k L = rRules (tK T len) (tV T len) ((8 - (L.length + 1)) + 1) k L by rw [show 8 - L.length = (8 - (L.length + 1)) + 1 by omega]).trans (rules_f hne hb))
            have hE : (tRead T len) = (false, (rRule (tK T len) (tV T len) k).2.1, []) := by unfold tRead; rw [hst]; rfl
            rw [hE]
            exact ⟨rfl, q1.2.2 hb⟩
        · have hru : (rRu (tK T len) (tV T len) L.length k) = (false, k, pRl0) := if_neg hn
          rw [hru] at q1 ⊢
          refine ⟨(fun h => by cases h), fun _ => ?_⟩
          have hst : rRules (tK T len) (tV T len) 8 0 [] = (true, k, L) := by rw [hR, show 8 - L.length = 0 by omega]; rfl
          have hE : (tRead T len) = (false, k, L) := by unfold tRead; rw [hst, decide_eq_false hne]; rfl
          rw [hE]
          exact ⟨rfl, q1.2.2 rfl⟩
      refine zx_istore_n (nn := 55) (lv' := [(1, zi (zb (rRu (tK T len) (tV T len) L.length k).1)), (0, zr 0)]) dX11_rules_54 rfl (by decide) rfl rfl ?_
      refine zx_goto (tgt := 39) dX11_rules_55 (by decide) ?_
      refine zx_lv (lv' := [(0, zr 0), (1, zi (zb (rRu (tK T len) (tV T len) L.length k).1))]) [1, 0] rfl ?_
      exact ih39 ((if (rRu (tK T len) (tV T len) L.length k).1 = true then (rRu (tK T len) (tV T len) L.length k).2.1 else 301), (if (rRu (tK T len) (tV T len) L.length k).1 = true then L ++ [(rRu (tK T len) (tV T len) L.length k).2.2] else L), (rRu (tK T len) (tV T len) L.length k).1, ν4) (show zJ [0, 1, 3] μ ν4 ∧ (∀ j, j < 521 → ν4 3 j = μ 1 j) ∧ (∀ j, j < 8 ∨ 14 < j → ν4 0 j = μ 0 j) ∧ (∀ i, i < 71 → i ≠ 5 → ν4 1 i = μ 1 i) ∧ (((rRu (tK T len) (tV T len) L.length k).1) = true → (if (rRu (tK T len) (tV T len) L.length k).1 = true then (rRu (tK T len) (tV T len) L.length k).2.1 else 301) ≤ len ∧ (if (rRu (tK T len) (tV T len) L.length k).1 = true then L ++ [(rRu (tK T len) (tV T len) L.length k).2.2] else L).length ≤ 8 ∧ rRules (tK T len) (tV T len) 8 0 [] = rRules (tK T len) (tV T len) (8 - (if (rRu (tK T len) (tV T len) L.length k).1 = true then L ++ [(rRu (tK T len) (tV T len) L.length k).2.2] else L).length) (if (rRu (tK T len) (tV T len) L.length k).1 = true then (rRu (tK T len) (tV T len) L.length k).2.1 else 301) (if (rRu (tK T len) (tV T len) L.length k).1 = true then L ++ [(rRu (tK T len) (tV T len) L.length k).2.2] else L) ∧ gS T len ν4 (if (rRu (tK T len) (tV T len) L.length k).1 = true then (rRu (tK T len) (tV T len) L.length k).2.1 else 301) (gFl (if (rRu (tK T len) (tV T len) L.length k).1 = true then L ++ [(rRu (tK T len) (tV T len) L.length k).2.2] else L)).length ∧ (gFl (if (rRu (tK T len) (tV T len) L.length k).1 = true then L ++ [(rRu (tK T len) (tV T len) L.length k).2.2] else L)).length ≤ (if (rRu (tK T len) (tV T len) L.length k).1 = true then (rRu (tK T len) (tV T len) L.length k).2.1 else 301) ∧ ν4 0 13 = nI 0 ∧ gTb ν4 (if (rRu (tK T len) (tV T len) L.length k).1 = true then L ++ [(rRu (tK T len) (tV T len) L.length k).2.2] else L)) ∧ (((rRu (tK T len) (tV T len) L.length k).1) = false → (tRead T len).1 = false ∧ ν4 0 12 = nI (tS T len (tRead T len).2.1)) from ⟨hj2, h32, hf2, hr2, fun h => ⟨(hmain.1 h).1.1, (hmain.1 h).2⟩, hmain.2⟩) (by show 300 - (if (rRu (tK T len) (tV T len) L.length k).1 = true then (rRu (tK T len) (tV T len) L.length k).2.1 else 301) < 300 - k; have h200 := hX.1; split; (rename_i hz; have := ((hmain.1 hz).1.2); rw [if_pos hz] at this; omega); omega)
