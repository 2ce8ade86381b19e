theorem gPs.no {T : Nat → Int32} {len k cc e : Nat} {μ ν : zM} {c' : Nat} (h : gE μ ν) (h1 : ν 0 12 = nI (tS T len e)) (h2 : ν 0 14 = nI c') (h3 : c' + k ≤ cc + e) : gPs T len k cc (false, e, [], []) μ ν := ⟨h, (fun h => by cases h), fun _ => ⟨h1, c', h2, h3⟩⟩
theorem K_lt {T : Nat → Int32} {len k : Nat} (h : k ≤ len) (hk : tK T len k ≠ -1) : k < len := by
  have : k ≠ len := fun q => hk (by rw [q]; exact tK_len)
  omega
theorem gC.len {μ ν : zM} {cc : Nat} {a b : List (Int32 × Int32)} (h : gC μ ν cc a) (e : a = b) : gC μ ν cc b := e ▸ h
set_option maxHeartbeats 8000000 in
set_option maxRecDepth 100000 in
theorem eX11_takesAll (σ : zG) (T : Nat → Int32) (len op D : Nat) (hX : gX T len) (hD : 4 ≤ D) (one : Nat → pC) (hg : pGd len one) (hf : ∀ k, (one k).1 = false → (false, (one k).2.1, [], []) = one k) (hone : ∀ μ k cc, gS T len μ k cc → cc ≤ k → μ 0 13 = nI op → zMet shR σ D MX11_takesOne yX11_takesOne [zr 0] μ (fun rr μ' => rr = some (zi (zb (one k).1)) ∧ gPs T len k cc (one k) μ μ')) (μ : zM) (k cc : Nat) (hS : gS T len μ k cc) (hcc : cc ≤ k) (hop : μ 0 13 = nI op) : zMet shR σ (D + 1) MX11_takesAll yX11_takesAll [zr 0] μ (fun rr μ' => rr = some (zi (zb (rJoin (tK T len) one 267 (-10) 4 k).1)) ∧ gPs T len k cc (rJoin (tK T len) one 267 (-10) 4 k) μ μ') := by
  refine zmetF (by decide +kernel) rfl (Nat.le_of_ble_eq_true rfl) ?_
  show zX shR σ (D + 1) MX11_takesAll 0 [(0, zr 0)] [] μ _
  refine zx_aload_n (k := 0) (nn := 1) dX11_takesAll_0 rfl rfl rfl ?_
  refine zx_callV (nn := 4) (k := 0) (d' := D) (as := []) (rest := []) (n := 0) (hone μ k cc hS hcc hop) kX11_takesOne mlX11_253 rfl rfl rfl (by omega) rfl rfl (Nat.le_of_ble_eq_true rfl) dX11_takesAll_1 rfl ?_
  rintro _ ν1 ⟨rfl, q1⟩
  show zX shR σ (D + 1) MX11_takesAll 4 [(0, zr 0)] [zi (zb (one k).1)] ν1 _
  refine zx_istore_n (nn := 5) (lv' := [(1, zi (zb (one k).1)), (0, zr 0)]) dX11_takesAll_4 rfl (by decide) rfl rfl ?_
  refine zx_lv (lv' := [(0, zr 0), (1, zi (zb (one k).1))]) [1, 0] rfl ?_
  refine zx_while (τ := Nat × pC × zM) (fun t_ => 300 - t_.1) (fun t_ => t_.1 ≤ 200 ∧ gPs T len k cc t_.2.1 μ t_.2.2 ∧ (t_.2.1.1 = true → rJoin (tK T len) one 267 (-10) 4 k = rMore (tK T len) one 267 (-10) 4 (200 - t_.1) t_.2.1 ∧ t_.1 ≤ t_.2.1.2.1 ∧ (k ≤ t_.2.1.2.1 ∧ t_.2.1.2.1 ≤ len) ∧ t_.2.1.2.2.2.length + k ≤ t_.2.1.2.1) ∧ (t_.2.1.1 = false → rJoin (tK T len) one 267 (-10) 4 k = t_.2.1)) (fun t_ => [(0, zr 0), (1, zi (zb t_.2.1.1))]) (fun t_ => t_.2.2) (t0 := (0, one k, ν1)) (show 0 ≤ 200 ∧ gPs T len k cc (one k) μ ν1 ∧ ((one k).1 = true → rJoin (tK T len) one 267 (-10) 4 k = rMore (tK T len) one 267 (-10) 4 (200 - 0) (one k) ∧ 0 ≤ (one k).2.1 ∧ (k ≤ (one k).2.1 ∧ (one k).2.1 ≤ len) ∧ (one k).2.2.2.length + k ≤ (one k).2.1) ∧ ((one k).1 = false → rJoin (tK T len) one 267 (-10) 4 k = (one k)) from ⟨Nat.zero_le _, q1, fun h => ⟨by unfold rJoin; rw [if_pos h], Nat.zero_le _, (hg k hS.2.2.2.2.1.1).1, (hg k hS.2.2.2.2.1.1).2.2⟩, fun h => by unfold rJoin; rw [if_neg (by rw [h]; decide)]; exact hf k h⟩) ?_
  rintro ⟨i, a, μ1⟩ hI ih5
  replace hI : i ≤ 200 ∧ gPs T len k cc a μ μ1 ∧ (a.1 = true → rJoin (tK T len) one 267 (-10) 4 k = rMore (tK T len) one 267 (-10) 4 (200 - i) a ∧ i ≤ a.2.1 ∧ (k ≤ a.2.1 ∧ a.2.1 ≤ len) ∧ a.2.2.2.length + k ≤ a.2.1) ∧ (a.1 = false → rJoin (tK T len) one 267 (-10) 4 k = a) := hI
  show zX shR σ (D + 1) MX11_takesAll 5 [(0, zr 0), (1, zi (zb a.1))] [] μ1 _
  obtain ⟨hi, hP, hA0, hF⟩ := hI
  refine zx_iload_n (k := 1) (nn := 6) dX11_takesAll_5 rfl rfl rfl ?_
  refine zx_ifb_eq (tgt := 37) (nn := 9) dX11_takesAll_6 (by decide) rfl (fun h6 => ?_) (fun h6 => ?_)
  · refine zx_iload_n (k := 1) (nn := 38) dX11_takesAll_37 rfl rfl rfl ?_
    refine zx_zret rfl (zb_nar _) dX11_takesAll_38 ?_
    have hE : rJoin (tK T len) one 267 (-10) 4 k = a := hF h6
    rw [hE]
    exact ⟨rfl, hP⟩
  · have hA := hA0 h6
    have Sa := (hP.2.1 h6).1
    refine zx_aload_n (k := 0) (nn := 10) dX11_takesAll_9 rfl rfl rfl ?_
    refine zx_ldcSw (k := 11) (nn := 13) (by decide +kernel) dX11_takesAll_10 rfl ?_
    refine zx_callVf (nn := 16) (k := 0) (d' := 4) (as := [zr 211]) (rest := []) (n := 1) (eX11_isName_0 σ μ1 11 T len (a.2.1) (cc + a.2.2.2.length) (by decide) hX (Sa)) kX11_isName mlX11_196 rfl rfl rfl (by omega) rfl rfl (Nat.le_of_ble_eq_true rfl) dX11_takesAll_13 rfl ?_
    show zX shR σ (D + 1) MX11_takesAll 16 [(0, zr 0), (1, zi (zb a.1))] [zi (zb (decide (tK T len (a.2.1) = nI (256 + 11))))] μ1 _
    refine zx_ifb_eq (tgt := 37) (nn := 19) dX11_takesAll_16 (by decide) rfl (fun h16 => ?_) (fun h16 => ?_)
    · refine zx_iload_n (k := 1) (nn := 38) dX11_takesAll_37 rfl rfl rfl ?_
      refine zx_zret rfl (zb_nar _) dX11_takesAll_38 ?_
      have hE : rJoin (tK T len) one 267 (-10) 4 k = a := (hA0 h6).1.trans (rMore_n (of_decide_eq_false h16) _)
      rw [hE]
      exact ⟨rfl, hP⟩
    · have hsep : tK T len a.2.1 = 267 := of_decide_eq_true h16
      have hne : tK T len a.2.1 ≠ -1 := by rw [hsep]; decide
      have hlt : a.2.1 < len := K_lt hA.2.2.1.2 hne
      have h200 := hX.1
      have hb2 := hg (a.2.1 + 1) (by omega)
      refine zx_aload_n (k := 0) (nn := 20) dX11_takesAll_19 rfl rfl rfl ?_
      have Lb : gS T len μ1 (a.2.1) (cc + a.2.2.2.length) := Sa
      refine zx_callV (nn := 23) (k := 0) (d' := 1) (as := []) (rest := []) (n := 0) (eX11_look_0 σ μ1 T len (tP T len (a.2.1 + 1)) Lb.1.1 hX.1 Lb.2.1.2.1 Lb.2.2.2.2.1.2.2 Lb.1.2) kX11_look mlX11_230 rfl rfl rfl (by omega) rfl rfl (Nat.le_of_ble_eq_true rfl) dX11_takesAll_20 rfl ?_
      rintro _ ν2 ⟨rfl, g2⟩
      show zX shR σ (D + 1) MX11_takesAll 23 [(0, zr 0), (1, zi (zb a.1))] [] ν2 _
      have Sb : gS T len ν2 (a.2.1 + 1) (cc + a.2.2.2.length) := Lb.look hne rfl g2
      have Eb := gE.l g2
      have eb1 : ν2 1 = μ1 1 := g2.1 1 (by decide)
      have ebo : ν2 0 13 = μ1 0 13 := g2.2.1 13 (by omega)
      refine zx_aload_n (k := 0) (nn := 24) dX11_takesAll_23 rfl rfl rfl ?_
      refine zx_callV (nn := 27) (k := 0) (d' := D) (as := []) (rest := []) (n := 0) (hone ν2 (a.2.1 + 1) (cc + a.2.2.2.length) Sb (by omega) (ebo.trans ((hP.2.1 h6).2.2.trans hop))) kX11_takesOne mlX11_253 rfl rfl rfl (by omega) rfl rfl (Nat.le_of_ble_eq_true rfl) dX11_takesAll_24 rfl ?_
      rintro _ ν3 ⟨rfl, q2⟩
      show zX shR σ (D + 1) MX11_takesAll 27 [(0, zr 0), (1, zi (zb a.1))] [zi (zb (one (a.2.1 + 1)).1)] ν3 _
      obtain ⟨cx, hx14, hxb, hxT⟩ : ∃ cx, ν3 0 14 = nI cx ∧ (cx + (a.2.1 + 1) ≤ cc + a.2.2.2.length + (one (a.2.1 + 1)).2.1) ∧ ((one (a.2.1 + 1)).1 = true → cx = cc + a.2.2.2.length + (one (a.2.1 + 1)).2.2.2.length) := by
        cases hb : (one (a.2.1 + 1)).1 with
        | true => exact ⟨_, (q2.2.1 hb).1.2.2.2.2.2, by have := hb2.2.2; omega, fun _ => rfl⟩
        | false => obtain ⟨z1, z2, z3, z4⟩ := q2.2.2 hb; exact ⟨z2, z3, z4, fun h => by cases h⟩
      refine zx_istore_n (nn := 28) (lv' := [(1, zi (zb (one (a.2.1 + 1)).1)), (0, zr 0)]) dX11_takesAll_27 rfl (by decide) rfl rfl ?_
      refine zx_aload_n (k := 1) (nn := 29) dX11_takesAll_28 rfl rfl rfl ?_
      refine zx_iconst (v := 4) (nn := 30) rfl dX11_takesAll_29 rfl ?_
      refine zx_iconst (v := 0) (nn := 31) rfl dX11_takesAll_30 rfl ?_
      refine zx_callVf (nn := 34) (k := 0) (d' := 0) (as := [zi 4, zi 0]) (rest := []) (n := 2) (eX11_lays_0 σ ν3 4 0 cx hx14 (by have := hX.1; omega)) kX11_lays mlX11_226 rfl rfl rfl (by omega) rfl rfl (Nat.le_of_ble_eq_true rfl) dX11_takesAll_31 rfl ?_
      show zX shR σ (D + 1) MX11_takesAll 34 [(1, zi (zb (one (a.2.1 + 1)).1)), (0, zr 0)] [] (gLay ν3 cx 4 0) _
      have hEn : gE μ (gLay ν3 cx 4 0) := ((hP.1.tr Eb).tr q2.1).tr gE.lay
      have hN : gPs T len k cc ((if (one (a.2.1 + 1)).1 = true then (true, (one (a.2.1 + 1)).2.1, a.2.2.1 ++ ((one (a.2.1 + 1)).2.2.1 ++ [(-10 : Int32)]), a.2.2.2 ++ ((one (a.2.1 + 1)).2.2.2 ++ [((4 : Int32), (0 : Int32))])) else (false, (one (a.2.1 + 1)).2.1, [], [])) : pC) μ (gLay ν3 cx 4 0) := by
        cases hb : (one (a.2.1 + 1)).1 with
        | false =>
          rw [if_neg (by decide)]
          obtain ⟨z1, z2, z3, z4⟩ := q2.2.2 hb
          exact gPs.no hEn (by unfold gLay; rw [zp_eq, pk_un (by decide), zp_ne (by decide), zp_ne (by decide)]; exact z1) (by unfold gLay; rw [zp_eq]; exact pk_us) (by omega)
        | true =>
          rw [if_pos rfl]
          have hc := hxT hb
          subst hc
          refine ⟨hEn, fun _ => ⟨?_, ?_, ?_⟩, fun h => by cases h⟩
          · have hh := (q2.2.1 hb).1.lay (w := 4) (v := 0)
            rw [show cc + (a.2.2.2 ++ ((one (a.2.1 + 1)).2.2.2 ++ [((4 : Int32), (0 : Int32))])).length = cc + a.2.2.2.length + (one (a.2.1 + 1)).2.2.2.length + 1 by simp only [List.length_append, List.length_cons, List.length_nil]; omega]
            exact hh
          · exact (hP.2.1 h6).2.1.app (gC.pre eb1 ((q2.2.1 hb).2.1.app gC.one))
          · unfold gLay
            rw [zp_eq, pk_un (by decide), zp_ne (by decide), zp_ne (by decide), (q2.2.1 hb).2.2, ebo]
            exact (hP.2.1 h6).2.2
      have hst : rMore (tK T len) one 267 (-10) 4 (200 - i) a = rMore (tK T len) one 267 (-10) 4 (200 - (i + 1)) ((if (one (a.2.1 + 1)).1 = true then (true, (one (a.2.1 + 1)).2.1, a.2.2.1 ++ ((one (a.2.1 + 1)).2.2.1 ++ [(-10 : Int32)]), a.2.2.2 ++ ((one (a.2.1 + 1)).2.2.2 ++ [((4 : Int32), (0 : Int32))])) else (false, (one (a.2.1 + 1)).2.1, [], [])) : pC) ∨ (one (a.2.1 + 1)).1 = false := by
        cases hb : (one (a.2.1 + 1)).1 with
        | false => exact Or.inr rfl
        | true => refine Or.inl ?_; rw [show 200 - i = (200 - (i + 1)) + 1 by omega, rMore_s hsep hb, if_pos rfl]
      have hN1 : ((if (one (a.2.1 + 1)).1 = true then (true, (one (a.2.1 + 1)).2.1, a.2.2.1 ++ ((one (a.2.1 + 1)).2.2.1 ++ [(-10 : Int32)]), a.2.2.2 ++ ((one (a.2.1 + 1)).2.2.2 ++ [((4 : Int32), (0 : Int32))])) else (false, (one (a.2.1 + 1)).2.1, [], [])) : pC).1 = true → rJoin (tK T len) one 267 (-10) 4 k = rMore (tK T len) one 267 (-10) 4 (200 - (i + 1)) ((if (one (a.2.1 + 1)).1 = true then (true, (one (a.2.1 + 1)).2.1, a.2.2.1 ++ ((one (a.2.1 + 1)).2.2.1 ++ [(-10 : Int32)]), a.2.2.2 ++ ((one (a.2.1 + 1)).2.2.2 ++ [((4 : Int32), (0 : Int32))])) else (false, (one (a.2.1 + 1)).2.1, [], [])) : pC) ∧ i + 1 ≤ ((if (one (a.2.1 + 1)).1 = true then (true, (one (a.2.1 + 1)).2.1, a.2.2.1 ++ ((one (a.2.1 + 1)).2.2.1 ++ [(-10 : Int32)]), a.2.2.2 ++ ((one (a.2.1 + 1)).2.2.2 ++ [((4 : Int32), (0 : Int32))])) else (false, (one (a.2.1 + 1)).2.1, [], [])) : pC).2.1 ∧ (k ≤ ((if (one (a.2.1 + 1)).1 = true then (true, (one (a.2.1 + 1)).2.1, a.2.2.1 ++ ((one (a.2.1 + 1)).2.2.1 ++ [(-10 : Int32)]), a.2.2.2 ++ ((one (a.2.1 + 1)).2.2.2 ++ [((4 : Int32), (0 : Int32))])) else (false, (one (a.2.1 + 1)).2.1, [], [])) : pC).2.1 ∧ ((if (one (a.2.1 + 1)).1 = true then (true, (one (a.2.1 + 1)).2.1, a.2.2.1 ++ ((one (a.2.1 + 1)).2.2.1 ++ [(-10 : Int32)]), a.2.2.2 ++ ((one (a.2.1 + 1)).2.2.2 ++ [((4 : Int32), (0 : Int32))])) else (false, (one (a.2.1 + 1)).2.1, [], [])) : pC).2.1 ≤ len) ∧ ((if (one (a.2.1 + 1)).1 = true then (true, (one (a.2.1 + 1)).2.1, a.2.2.1 ++ ((one (a.2.1 + 1)).2.2.1 ++ [(-10 : Int32)]), a.2.2.2 ++ ((one (a.2.1 + 1)).2.2.2 ++ [((4 : Int32), (0 : Int32))])) else (false, (one (a.2.1 + 1)).2.1, [], [])) : pC).2.2.2.length + k ≤ ((if (one (a.2.1 + 1)).1 = true then (true, (one (a.2.1 + 1)).2.1, a.2.2.1 ++ ((one (a.2.1 + 1)).2.2.1 ++ [(-10 : Int32)]), a.2.2.2 ++ ((one (a.2.1 + 1)).2.2.2 ++ [((4 : Int32), (0 : Int32))])) else (false, (one (a.2.1 + 1)).2.1, [], [])) : pC).2.1 := by
        intro hq
        have hb : (one (a.2.1 + 1)).1 = true := by
          cases hb : (one (a.2.1 + 1)).1 with
          | true => rfl
          | false => rw [if_neg (by rw [hb]; decide)] at hq; cases hq
        refine ⟨hA.1.trans (hst.elim id (fun q => absurd (hb.symm.trans q) (by decide))), ?_⟩
        rw [if_pos hb]
        refine ⟨by show i + 1 ≤ (one (a.2.1 + 1)).2.1; omega, ⟨by show k ≤ (one (a.2.1 + 1)).2.1; omega, hb2.1.2⟩, ?_⟩
        show (a.2.2.2 ++ ((one (a.2.1 + 1)).2.2.2 ++ [((4 : Int32), (0 : Int32))])).length + k ≤ (one (a.2.1 + 1)).2.1
        simp only [List.length_append, List.length_cons, List.length_nil]
        have := hb2.2.2
        omega
      have hN2 : ((if (one (a.2.1 + 1)).1 = true then (true, (one (a.2.1 + 1)).2.1, a.2.2.1 ++ ((one (a.2.1 + 1)).2.2.1 ++ [(-10 : Int32)]), a.2.2.2 ++ ((one (a.2.1 + 1)).2.2.2 ++ [((4 : Int32), (0 : Int32))])) else (false, (one (a.2.1 + 1)).2.1, [], [])) : pC).1 = false → rJoin (tK T len) one 267 (-10) 4 k = ((if (one (a.2.1 + 1)).1 = true then (true, (one (a.2.1 + 1)).2.1, a.2.2.1 ++ ((one (a.2.1 + 1)).2.2.1 ++ [(-10 : Int32)]), a.2.2.2 ++ ((one (a.2.1 + 1)).2.2.2 ++ [((4 : Int32), (0 : Int32))])) else (false, (one (a.2.1 + 1)).2.1, [], [])) : pC) := by
        intro hq
        have hb : (one (a.2.1 + 1)).1 = false := by
          cases hb : (one (a.2.1 + 1)).1 with
          | false => rfl
          | true => rw [if_pos hb] at hq; cases hq
        rw [if_neg (by rw [hb]; decide), hA.1, show 200 - i = (200 - (i + 1)) + 1 by omega]
        exact rMore_f hsep hb
      have hv : zb (one (a.2.1 + 1)).1 = zb ((if (one (a.2.1 + 1)).1 = true then (true, (one (a.2.1 + 1)).2.1, a.2.2.1 ++ ((one (a.2.1 + 1)).2.2.1 ++ [(-10 : Int32)]), a.2.2.2 ++ ((one (a.2.1 + 1)).2.2.2 ++ [((4 : Int32), (0 : Int32))])) else (false, (one (a.2.1 + 1)).2.1, [], [])) : pC).1 := by cases hb : (one (a.2.1 + 1)).1 with
        | true => rw [if_pos rfl]
        | false => rw [if_neg (by decide)]
      rw [show zb (one (a.2.1 + 1)).1 = zb ((if (one (a.2.1 + 1)).1 = true then (true, (one (a.2.1 + 1)).2.1, a.2.2.1 ++ ((one (a.2.1 + 1)).2.2.1 ++ [(-10 : Int32)]), a.2.2.2 ++ ((one (a.2.1 + 1)).2.2.2 ++ [((4 : Int32), (0 : Int32))])) else (false, (one (a.2.1 + 1)).2.1, [], [])) : pC).1 from hv]
      show zX shR σ (D + 1) MX11_takesAll 34 [(1, zi (zb ((if (one (a.2.1 + 1)).1 = true then (true, (one (a.2.1 + 1)).2.1, a.2.2.1 ++ ((one (a.2.1 + 1)).2.2.1 ++ [(-10 : Int32)]), a.2.2.2 ++ ((one (a.2.1 + 1)).2.2.2 ++ [((4 : Int32), (0 : Int32))])) else (false, (one (a.2.1 + 1)).2.1, [], [])) : pC).1)), (0, zr 0)] [] (gLay ν3 cx 4 0) _
      refine zx_goto (tgt := 5) dX11_takesAll_34 (by decide) ?_
      refine zx_lv (lv' := [(0, zr 0), (1, zi (zb ((if (one (a.2.1 + 1)).1 = true then (true, (one (a.2.1 + 1)).2.1, a.2.2.1 ++ ((one (a.2.1 + 1)).2.2.1 ++ [(-10 : Int32)]), a.2.2.2 ++ ((one (a.2.1 + 1)).2.2.2 ++ [((4 : Int32), (0 : Int32))])) else (false, (one (a.2.1 + 1)).2.1, [], [])) : pC).1))]) [1, 0] rfl ?_
      exact ih5 (i + 1, ((if (one (a.2.1 + 1)).1 = true then (true, (one (a.2.1 + 1)).2.1, a.2.2.1 ++ ((one (a.2.1 + 1)).2.2.1 ++ [(-10 : Int32)]), a.2.2.2 ++ ((one (a.2.1 + 1)).2.2.2 ++ [((4 : Int32), (0 : Int32))])) else (false, (one (a.2.1 + 1)).2.1, [], [])) : pC), gLay ν3 cx 4 0) (show (i + 1) ≤ 200 ∧ gPs T len k cc ((if (one (a.2.1 + 1)).1 = true then (true, (one (a.2.1 + 1)).2.1, a.2.2.1 ++ ((one (a.2.1 + 1)).2.2.1 ++ [(-10 : Int32)]), a.2.2.2 ++ ((one (a.2.1 + 1)).2.2.2 ++ [((4 : Int32), (0 : Int32))])) else (false, (one (a.2.1 + 1)).2.1, [], [])) : pC) μ (gLay ν3 cx 4 0) ∧ (((if (one (a.2.1 + 1)).1 = true then (true, (one (a.2.1 + 1)).2.1, a.2.2.1 ++ ((one (a.2.1 + 1)).2.2.1 ++ [(-10 : Int32)]), a.2.2.2 ++ ((one (a.2.1 + 1)).2.2.2 ++ [((4 : Int32), (0 : Int32))])) else (false, (one (a.2.1 + 1)).2.1, [], [])) : pC).1 = true → rJoin (tK T len) one 267 (-10) 4 k = rMore (tK T len) one 267 (-10) 4 (200 - (i + 1)) ((if (one (a.2.1 + 1)).1 = true then (true, (one (a.2.1 + 1)).2.1, a.2.2.1 ++ ((one (a.2.1 + 1)).2.2.1 ++ [(-10 : Int32)]), a.2.2.2 ++ ((one (a.2.1 + 1)).2.2.2 ++ [((4 : Int32), (0 : Int32))])) else (false, (one (a.2.1 + 1)).2.1, [], [])) : pC) ∧ (i + 1) ≤ ((if (one (a.2.1 + 1)).1 = true then (true, (one (a.2.1 + 1)).2.1, a.2.2.1 ++ ((one (a.2.1 + 1)).2.2.1 ++ [(-10 : Int32)]), a.2.2.2 ++ ((one (a.2.1 + 1)).2.2.2 ++ [((4 : Int32), (0 : Int32))])) else (false, (one (a.2.1 + 1)).2.1, [], [])) : pC).2.1 ∧ (k ≤ ((if (one (a.2.1 + 1)).1 = true then (true, (one (a.2.1 + 1)).2.1, a.2.2.1 ++ ((one (a.2.1 + 1)).2.2.1 ++ [(-10 : Int32)]), a.2.2.2 ++ ((one (a.2.1 + 1)).2.2.2 ++ [((4 : Int32), (0 : Int32))])) else (false, (one (a.2.1 + 1)).2.1, [], [])) : pC).2.1 ∧ ((if (one (a.2.1 + 1)).1 = true then (true, (one (a.2.1 + 1)).2.1, a.2.2.1 ++ ((one (a.2.1 + 1)).2.2.1 ++ [(-10 : Int32)]), a.2.2.2 ++ ((one (a.2.1 + 1)).2.2.2 ++ [((4 : Int32), (0 : Int32))])) else (false, (one (a.2.1 + 1)).2.1, [], [])) : pC).2.1 ≤ len) ∧ ((if (one (a.2.1 + 1)).1 = true then (true, (one (a.2.1 + 1)).2.1, a.2.2.1 ++ ((one (a.2.1 + 1)).2.2.1 ++ [(-10 : Int32)]), a.2.2.2 ++ ((one (a.2.1 + 1)).2.2.2 ++ [((4 : Int32), (0 : Int32))])) else (false, (one (a.2.1 + 1)).2.1, [], [])) : pC).2.2.2.length + k ≤ ((if (one (a.2.1 + 1)).1 = true then (true, (one (a.2.1 + 1)).2.1, a.2.2.1 ++ ((one (a.2.1 + 1)).2.2.1 ++ [(-10 : Int32)]), a.2.2.2 ++ ((one (a.2.1 + 1)).2.2.2 ++ [((4 : Int32), (0 : Int32))])) else (false, (one (a.2.1 + 1)).2.1, [], [])) : pC).2.1) ∧ (((if (one (a.2.1 + 1)).1 = true then (true, (one (a.2.1 + 1)).2.1, a.2.2.1 ++ ((one (a.2.1 + 1)).2.2.1 ++ [(-10 : Int32)]), a.2.2.2 ++ ((one (a.2.1 + 1)).2.2.2 ++ [((4 : Int32), (0 : Int32))])) else (false, (one (a.2.1 + 1)).2.1, [], [])) : pC).1 = false → rJoin (tK T len) one 267 (-10) 4 k = ((if (one (a.2.1 + 1)).1 = true then (true, (one (a.2.1 + 1)).2.1, a.2.2.1 ++ ((one (a.2.1 + 1)).2.2.1 ++ [(-10 : Int32)]), a.2.2.2 ++ ((one (a.2.1 + 1)).2.2.2 ++ [((4 : Int32), (0 : Int32))])) else (false, (one (a.2.1 + 1)).2.1, [], [])) : pC)) from ⟨by omega, hN, hN1, hN2⟩) (by show 300 - (i + 1) < 300 - i; omega)
set_option maxHeartbeats 8000000 in
set_option maxRecDepth 100000 in
theorem eX11_takesCondition (σ : zG) (T : Nat → Int32) (len op D : Nat) (hX : gX T len) (hD : 4 ≤ D) (one : Nat → pC) (hg : pGd len one) (hf : ∀ k, (one k).1 = false → (false, (one k).2.1, [], []) = one k) (hone : ∀ μ k cc, gS T len μ k cc → cc ≤ k → μ 0 13 = nI op → zMet shR σ D MX11_takesAll yX11_takesAll [zr 0] μ (fun rr μ' => rr = some (zi (zb (one k).1)) ∧ gPs T len k cc (one k) μ μ')) (μ : zM) (k cc : Nat) (hS : gS T len μ k cc) (hcc : cc ≤ k) (hop : μ 0 13 = nI op) : zMet shR σ (D + 1) MX11_takesCondition yX11_takesCondition [zr 0] μ (fun rr μ' => rr = some (zi (zb (rJoin (tK T len) one 266 (-11) 5 k).1)) ∧ gPs T len k cc (rJoin (tK T len) one 266 (-11) 5 k) μ μ') := by
  refine zmetF (by decide +kernel) rfl (Nat.le_of_ble_eq_true rfl) ?_
  show zX shR σ (D + 1) MX11_takesCondition 0 [(0, zr 0)] [] μ _
  refine zx_aload_n (k := 0) (nn := 1) dX11_takesCondition_0 rfl rfl rfl ?_
  refine zx_callV (nn := 4) (k := 0) (d' := D) (as := []) (rest := []) (n := 0) (hone μ k cc hS hcc hop) kX11_takesAll mlX11_258 rfl rfl rfl (by omega) rfl rfl (Nat.le_of_ble_eq_true rfl) dX11_takesCondition_1 rfl ?_
  rintro _ ν1 ⟨rfl, q1⟩
  show zX shR σ (D + 1) MX11_takesCondition 4 [(0, zr 0)] [zi (zb (one k).1)] ν1 _
  refine zx_istore_n (nn := 5) (lv' := [(1, zi (zb (one k).1)), (0, zr 0)]) dX11_takesCondition_4 rfl (by decide) rfl rfl ?_
  refine zx_lv (lv' := [(0, zr 0), (1, zi (zb (one k).1))]) [1, 0] rfl ?_
  refine zx_while (τ := Nat × pC × zM) (fun t_ => 300 - t_.1) (fun t_ => t_.1 ≤ 200 ∧ gPs T len k cc t_.2.1 μ t_.2.2 ∧ (t_.2.1.1 = true → rJoin (tK T len) one 266 (-11) 5 k = rMore (tK T len) one 266 (-11) 5 (200 - t_.1) t_.2.1 ∧ t_.1 ≤ t_.2.1.2.1 ∧ (k ≤ t_.2.1.2.1 ∧ t_.2.1.2.1 ≤ len) ∧ t_.2.1.2.2.2.length + k ≤ t_.2.1.2.1) ∧ (t_.2.1.1 = false → rJoin (tK T len) one 266 (-11) 5 k = t_.2.1)) (fun t_ => [(0, zr 0), (1, zi (zb t_.2.1.1))]) (fun t_ => t_.2.2) (t0 := (0, one k, ν1)) (show 0 ≤ 200 ∧ gPs T len k cc (one k) μ ν1 ∧ ((one k).1 = true → rJoin (tK T len) one 266 (-11) 5 k = rMore (tK T len) one 266 (-11) 5 (200 - 0) (one k) ∧ 0 ≤ (one k).2.1 ∧ (k ≤ (one k).2.1 ∧ (one k).2.1 ≤ len) ∧ (one k).2.2.2.length + k ≤ (one k).2.1) ∧ ((one k).1 = false → rJoin (tK T len) one 266 (-11) 5 k = (one k)) from ⟨Nat.zero_le _, q1, fun h => ⟨by unfold rJoin; rw [if_pos h], Nat.zero_le _, (hg k hS.2.2.2.2.1.1).1, (hg k hS.2.2.2.2.1.1).2.2⟩, fun h => by unfold rJoin; rw [if_neg (by rw [h]; decide)]; exact hf k h⟩) ?_
  rintro ⟨i, a, μ1⟩ hI ih5
  replace hI : i ≤ 200 ∧ gPs T len k cc a μ μ1 ∧ (a.1 = true → rJoin (tK T len) one 266 (-11) 5 k = rMore (tK T len) one 266 (-11) 5 (200 - i) a ∧ i ≤ a.2.1 ∧ (k ≤ a.2.1 ∧ a.2.1 ≤ len) ∧ a.2.2.2.length + k ≤ a.2.1) ∧ (a.1 = false → rJoin (tK T len) one 266 (-11) 5 k = a) := hI
  show zX shR σ (D + 1) MX11_takesCondition 5 [(0, zr 0), (1, zi (zb a.1))] [] μ1 _
  obtain ⟨hi, hP, hA0, hF⟩ := hI
  refine zx_iload_n (k := 1) (nn := 6) dX11_takesCondition_5 rfl rfl rfl ?_
  refine zx_ifb_eq (tgt := 37) (nn := 9) dX11_takesCondition_6 (by decide) rfl (fun h6 => ?_) (fun h6 => ?_)
  · refine zx_iload_n (k := 1) (nn := 38) dX11_takesCondition_37 rfl rfl rfl ?_
    refine zx_zret rfl (zb_nar _) dX11_takesCondition_38 ?_
    have hE : rJoin (tK T len) one 266 (-11) 5 k = a := hF h6
    rw [hE]
    exact ⟨rfl, hP⟩
  · have hA := hA0 h6
    have Sa := (hP.2.1 h6).1
    refine zx_aload_n (k := 0) (nn := 10) dX11_takesCondition_9 rfl rfl rfl ?_
    refine zx_ldcSw (k := 10) (nn := 13) (by decide +kernel) dX11_takesCondition_10 rfl ?_
    refine zx_callVf (nn := 16) (k := 0) (d' := 4) (as := [zr 210]) (rest := []) (n := 1) (eX11_isName_0 σ μ1 10 T len (a.2.1) (cc + a.2.2.2.length) (by decide) hX (Sa)) kX11_isName mlX11_196 rfl rfl rfl (by omega) rfl rfl (Nat.le_of_ble_eq_true rfl) dX11_takesCondition_13 rfl ?_
    show zX shR σ (D + 1) MX11_takesCondition 16 [(0, zr 0), (1, zi (zb a.1))] [zi (zb (decide (tK T len (a.2.1) = nI (256 + 10))))] μ1 _
    refine zx_ifb_eq (tgt := 37) (nn := 19) dX11_takesCondition_16 (by decide) rfl (fun h16 => ?_) (fun h16 => ?_)
    · refine zx_iload_n (k := 1) (nn := 38) dX11_takesCondition_37 rfl rfl rfl ?_
      refine zx_zret rfl (zb_nar _) dX11_takesCondition_38 ?_
      have hE : rJoin (tK T len) one 266 (-11) 5 k = a := (hA0 h6).1.trans (rMore_n (of_decide_eq_false h16) _)
      rw [hE]
      exact ⟨rfl, hP⟩
    · have hsep : tK T len a.2.1 = 266 := of_decide_eq_true h16
      have hne : tK T len a.2.1 ≠ -1 := by rw [hsep]; decide
      have hlt : a.2.1 < len := K_lt hA.2.2.1.2 hne
      have h200 := hX.1
      have hb2 := hg (a.2.1 + 1) (by omega)
      refine zx_aload_n (k := 0) (nn := 20) dX11_takesCondition_19 rfl rfl rfl ?_
      have Lb : gS T len μ1 (a.2.1) (cc + a.2.2.2.length) := Sa
      refine zx_callV (nn := 23) (k := 0) (d' := 1) (as := []) (rest := []) (n := 0) (eX11_look_0 σ μ1 T len (tP T len (a.2.1 + 1)) Lb.1.1 hX.1 Lb.2.1.2.1 Lb.2.2.2.2.1.2.2 Lb.1.2) kX11_look mlX11_230 rfl rfl rfl (by omega) rfl rfl (Nat.le_of_ble_eq_true rfl) dX11_takesCondition_20 rfl ?_
      rintro _ ν2 ⟨rfl, g2⟩
      show zX shR σ (D + 1) MX11_takesCondition 23 [(0, zr 0), (1, zi (zb a.1))] [] ν2 _
      have Sb : gS T len ν2 (a.2.1 + 1) (cc + a.2.2.2.length) := Lb.look hne rfl g2
      have Eb := gE.l g2
      have eb1 : ν2 1 = μ1 1 := g2.1 1 (by decide)
      have ebo : ν2 0 13 = μ1 0 13 := g2.2.1 13 (by omega)
      refine zx_aload_n (k := 0) (nn := 24) dX11_takesCondition_23 rfl rfl rfl ?_
      refine zx_callV (nn := 27) (k := 0) (d' := D) (as := []) (rest := []) (n := 0) (hone ν2 (a.2.1 + 1) (cc + a.2.2.2.length) Sb (by omega) (ebo.trans ((hP.2.1 h6).2.2.trans hop))) kX11_takesAll mlX11_258 rfl rfl rfl (by omega) rfl rfl (Nat.le_of_ble_eq_true rfl) dX11_takesCondition_24 rfl ?_
      rintro _ ν3 ⟨rfl, q2⟩
      show zX shR σ (D + 1) MX11_takesCondition 27 [(0, zr 0), (1, zi (zb a.1))] [zi (zb (one (a.2.1 + 1)).1)] ν3 _
      obtain ⟨cx, hx14, hxb, hxT⟩ : ∃ cx, ν3 0 14 = nI cx ∧ (cx + (a.2.1 + 1) ≤ cc + a.2.2.2.length + (one (a.2.1 + 1)).2.1) ∧ ((one (a.2.1 + 1)).1 = true → cx = cc + a.2.2.2.length + (one (a.2.1 + 1)).2.2.2.length) := by
        cases hb : (one (a.2.1 + 1)).1 with
        | true => exact ⟨_, (q2.2.1 hb).1.2.2.2.2.2, by have := hb2.2.2; omega, fun _ => rfl⟩
        | false => obtain ⟨z1, z2, z3, z4⟩ := q2.2.2 hb; exact ⟨z2, z3, z4, fun h => by cases h⟩
      refine zx_istore_n (nn := 28) (lv' := [(1, zi (zb (one (a.2.1 + 1)).1)), (0, zr 0)]) dX11_takesCondition_27 rfl (by decide) rfl rfl ?_
      refine zx_aload_n (k := 1) (nn := 29) dX11_takesCondition_28 rfl rfl rfl ?_
      refine zx_iconst (v := 5) (nn := 30) rfl dX11_takesCondition_29 rfl ?_
      refine zx_iconst (v := 0) (nn := 31) rfl dX11_takesCondition_30 rfl ?_
      refine zx_callVf (nn := 34) (k := 0) (d' := 0) (as := [zi 5, zi 0]) (rest := []) (n := 2) (eX11_lays_0 σ ν3 5 0 cx hx14 (by have := hX.1; omega)) kX11_lays mlX11_226 rfl rfl rfl (by omega) rfl rfl (Nat.le_of_ble_eq_true rfl) dX11_takesCondition_31 rfl ?_
      show zX shR σ (D + 1) MX11_takesCondition 34 [(1, zi (zb (one (a.2.1 + 1)).1)), (0, zr 0)] [] (gLay ν3 cx 5 0) _
      have hEn : gE μ (gLay ν3 cx 5 0) := ((hP.1.tr Eb).tr q2.1).tr gE.lay
      have hN : gPs T len k cc ((if (one (a.2.1 + 1)).1 = true then (true, (one (a.2.1 + 1)).2.1, a.2.2.1 ++ ((one (a.2.1 + 1)).2.2.1 ++ [(-11 : Int32)]), a.2.2.2 ++ ((one (a.2.1 + 1)).2.2.2 ++ [((5 : Int32), (0 : Int32))])) else (false, (one (a.2.1 + 1)).2.1, [], [])) : pC) μ (gLay ν3 cx 5 0) := by
        cases hb : (one (a.2.1 + 1)).1 with
        | false =>
          rw [if_neg (by decide)]
          obtain ⟨z1, z2, z3, z4⟩ := q2.2.2 hb
          exact gPs.no hEn (by unfold gLay; rw [zp_eq, pk_un (by decide), zp_ne (by decide), zp_ne (by decide)]; exact z1) (by unfold gLay; rw [zp_eq]; exact pk_us) (by omega)
        | true =>
          rw [if_pos rfl]
          have hc := hxT hb
          subst hc
          refine ⟨hEn, fun _ => ⟨?_, ?_, ?_⟩, fun h => by cases h⟩
          · have hh := (q2.2.1 hb).1.lay (w := 5) (v := 0)
            rw [show cc + (a.2.2.2 ++ ((one (a.2.1 + 1)).2.2.2 ++ [((5 : Int32), (0 : Int32))])).length = cc + a.2.2.2.length + (one (a.2.1 + 1)).2.2.2.length + 1 by simp only [List.length_append, List.length_cons, List.length_nil]; omega]
            exact hh
          · exact (hP.2.1 h6).2.1.app (gC.pre eb1 ((q2.2.1 hb).2.1.app gC.one))
          · unfold gLay
            rw [zp_eq, pk_un (by decide), zp_ne (by decide), zp_ne (by decide), (q2.2.1 hb).2.2, ebo]
            exact (hP.2.1 h6).2.2
      have hst : rMore (tK T len) one 266 (-11) 5 (200 - i) a = rMore (tK T len) one 266 (-11) 5 (200 - (i + 1)) ((if (one (a.2.1 + 1)).1 = true then (true, (one (a.2.1 + 1)).2.1, a.2.2.1 ++ ((one (a.2.1 + 1)).2.2.1 ++ [(-11 : Int32)]), a.2.2.2 ++ ((one (a.2.1 + 1)).2.2.2 ++ [((5 : Int32), (0 : Int32))])) else (false, (one (a.2.1 + 1)).2.1, [], [])) : pC) ∨ (one (a.2.1 + 1)).1 = false := by
        cases hb : (one (a.2.1 + 1)).1 with
        | false => exact Or.inr rfl
        | true => refine Or.inl ?_; rw [show 200 - i = (200 - (i + 1)) + 1 by omega, rMore_s hsep hb, if_pos rfl]
      have hN1 : ((if (one (a.2.1 + 1)).1 = true then (true, (one (a.2.1 + 1)).2.1, a.2.2.1 ++ ((one (a.2.1 + 1)).2.2.1 ++ [(-11 : Int32)]), a.2.2.2 ++ ((one (a.2.1 + 1)).2.2.2 ++ [((5 : Int32), (0 : Int32))])) else (false, (one (a.2.1 + 1)).2.1, [], [])) : pC).1 = true → rJoin (tK T len) one 266 (-11) 5 k = rMore (tK T len) one 266 (-11) 5 (200 - (i + 1)) ((if (one (a.2.1 + 1)).1 = true then (true, (one (a.2.1 + 1)).2.1, a.2.2.1 ++ ((one (a.2.1 + 1)).2.2.1 ++ [(-11 : Int32)]), a.2.2.2 ++ ((one (a.2.1 + 1)).2.2.2 ++ [((5 : Int32), (0 : Int32))])) else (false, (one (a.2.1 + 1)).2.1, [], [])) : pC) ∧ i + 1 ≤ ((if (one (a.2.1 + 1)).1 = true then (true, (one (a.2.1 + 1)).2.1, a.2.2.1 ++ ((one (a.2.1 + 1)).2.2.1 ++ [(-11 : Int32)]), a.2.2.2 ++ ((one (a.2.1 + 1)).2.2.2 ++ [((5 : Int32), (0 : Int32))])) else (false, (one (a.2.1 + 1)).2.1, [], [])) : pC).2.1 ∧ (k ≤ ((if (one (a.2.1 + 1)).1 = true then (true, (one (a.2.1 + 1)).2.1, a.2.2.1 ++ ((one (a.2.1 + 1)).2.2.1 ++ [(-11 : Int32)]), a.2.2.2 ++ ((one (a.2.1 + 1)).2.2.2 ++ [((5 : Int32), (0 : Int32))])) else (false, (one (a.2.1 + 1)).2.1, [], [])) : pC).2.1 ∧ ((if (one (a.2.1 + 1)).1 = true then (true, (one (a.2.1 + 1)).2.1, a.2.2.1 ++ ((one (a.2.1 + 1)).2.2.1 ++ [(-11 : Int32)]), a.2.2.2 ++ ((one (a.2.1 + 1)).2.2.2 ++ [((5 : Int32), (0 : Int32))])) else (false, (one (a.2.1 + 1)).2.1, [], [])) : pC).2.1 ≤ len) ∧ ((if (one (a.2.1 + 1)).1 = true then (true, (one (a.2.1 + 1)).2.1, a.2.2.1 ++ ((one (a.2.1 + 1)).2.2.1 ++ [(-11 : Int32)]), a.2.2.2 ++ ((one (a.2.1 + 1)).2.2.2 ++ [((5 : Int32), (0 : Int32))])) else (false, (one (a.2.1 + 1)).2.1, [], [])) : pC).2.2.2.length + k ≤ ((if (one (a.2.1 + 1)).1 = true then (true, (one (a.2.1 + 1)).2.1, a.2.2.1 ++ ((one (a.2.1 + 1)).2.2.1 ++ [(-11 : Int32)]), a.2.2.2 ++ ((one (a.2.1 + 1)).2.2.2 ++ [((5 : Int32), (0 : Int32))])) else (false, (one (a.2.1 + 1)).2.1, [], [])) : pC).2.1 := by
        intro hq
        have hb : (one (a.2.1 + 1)).1 = true := by
          cases hb : (one (a.2.1 + 1)).1 with
          | true => rfl
          | false => rw [if_neg (by rw [hb]; decide)] at hq; cases hq
        refine ⟨hA.1.trans (hst.elim id (fun q => absurd (hb.symm.trans q) (by decide))), ?_⟩
        rw [if_pos hb]
        refine ⟨by show i + 1 ≤ (one (a.2.1 + 1)).2.1; omega, ⟨by show k ≤ (one (a.2.1 + 1)).2.1; omega, hb2.1.2⟩, ?_⟩
        show (a.2.2.2 ++ ((one (a.2.1 + 1)).2.2.2 ++ [((5 : Int32), (0 : Int32))])).length + k ≤ (one (a.2.1 + 1)).2.1
        simp only [List.length_append, List.length_cons, List.length_nil]
        have := hb2.2.2
        omega
      have hN2 : ((if (one (a.2.1 + 1)).1 = true then (true, (one (a.2.1 + 1)).2.1, a.2.2.1 ++ ((one (a.2.1 + 1)).2.2.1 ++ [(-11 : Int32)]), a.2.2.2 ++ ((one (a.2.1 + 1)).2.2.2 ++ [((5 : Int32), (0 : Int32))])) else (false, (one (a.2.1 + 1)).2.1, [], [])) : pC).1 = false → rJoin (tK T len) one 266 (-11) 5 k = ((if (one (a.2.1 + 1)).1 = true then (true, (one (a.2.1 + 1)).2.1, a.2.2.1 ++ ((one (a.2.1 + 1)).2.2.1 ++ [(-11 : Int32)]), a.2.2.2 ++ ((one (a.2.1 + 1)).2.2.2 ++ [((5 : Int32), (0 : Int32))])) else (false, (one (a.2.1 + 1)).2.1, [], [])) : pC) := by
        intro hq
        have hb : (one (a.2.1 + 1)).1 = false := by
          cases hb : (one (a.2.1 + 1)).1 with
          | false => rfl
          | true => rw [if_pos hb] at hq; cases hq
        rw [if_neg (by rw [hb]; decide), hA.1, show 200 - i = (200 - (i + 1)) + 1 by omega]
        exact rMore_f hsep hb
      have hv : zb (one (a.2.1 + 1)).1 = zb ((if (one (a.2.1 + 1)).1 = true then (true, (one (a.2.1 + 1)).2.1, a.2.2.1 ++ ((one (a.2.1 + 1)).2.2.1 ++ [(-11 : Int32)]), a.2.2.2 ++ ((one (a.2.1 + 1)).2.2.2 ++ [((5 : Int32), (0 : Int32))])) else (false, (one (a.2.1 + 1)).2.1, [], [])) : pC).1 := by cases hb : (one (a.2.1 + 1)).1 with
        | true => rw [if_pos rfl]
        | false => rw [if_neg (by decide)]
      rw [show zb (one (a.2.1 + 1)).1 = zb ((if (one (a.2.1 + 1)).1 = true then (true, (one (a.2.1 + 1)).2.1, a.2.2.1 ++ ((one (a.2.1 + 1)).2.2.1 ++ [(-11 : Int32)]), a.2.2.2 ++ ((one (a.2.1 + 1)).2.2.2 ++ [((5 : Int32), (0 : Int32))])) else (false, (one (a.2.1 + 1)).2.1, [], [])) : pC).1 from hv]
      show zX shR σ (D + 1) MX11_takesCondition 34 [(1, zi (zb ((if (one (a.2.1 + 1)).1 = true then (true, (one (a.2.1 + 1)).2.1, a.2.2.1 ++ ((one (a.2.1 + 1)).2.2.1 ++ [(-11 : Int32)]), a.2.2.2 ++ ((one (a.2.1 + 1)).2.2.2 ++ [((5 : Int32), (0 : Int32))])) else (false, (one (a.2.1 + 1)).2.1, [], [])) : pC).1)), (0, zr 0)] [] (gLay ν3 cx 5 0) _
      refine zx_goto (tgt := 5) dX11_takesCondition_34 (by decide) ?_
      refine zx_lv (lv' := [(0, zr 0), (1, zi (zb ((if (one (a.2.1 + 1)).1 = true then (true, (one (a.2.1 + 1)).2.1, a.2.2.1 ++ ((one (a.2.1 + 1)).2.2.1 ++ [(-11 : Int32)]), a.2.2.2 ++ ((one (a.2.1 + 1)).2.2.2 ++ [((5 : Int32), (0 : Int32))])) else (false, (one (a.2.1 + 1)).2.1, [], [])) : pC).1))]) [1, 0] rfl ?_
      exact ih5 (i + 1, ((if (one (a.2.1 + 1)).1 = true then (true, (one (a.2.1 + 1)).2.1, a.2.2.1 ++ ((one (a.2.1 + 1)).2.2.1 ++ [(-11 : Int32)]), a.2.2.2 ++ ((one (a.2.1 + 1)).2.2.2 ++ [((5 : Int32), (0 : Int32))])) else (false, (one (a.2.1 + 1)).2.1, [], [])) : pC), gLay ν3 cx 5 0) (show (i + 1) ≤ 200 ∧ gPs T len k cc ((if (one (a.2.1 + 1)).1 = true then (true, (one (a.2.1 + 1)).2.1, a.2.2.1 ++ ((one (a.2.1 + 1)).2.2.1 ++ [(-11 : Int32)]), a.2.2.2 ++ ((one (a.2.1 + 1)).2.2.2 ++ [((5 : Int32), (0 : Int32))])) else (false, (one (a.2.1 + 1)).2.1, [], [])) : pC) μ (gLay ν3 cx 5 0) ∧ (((if (one (a.2.1 + 1)).1 = true then (true, (one (a.2.1 + 1)).2.1, a.2.2.1 ++ ((one (a.2.1 + 1)).2.2.1 ++ [(-11 : Int32)]), a.2.2.2 ++ ((one (a.2.1 + 1)).2.2.2 ++ [((5 : Int32), (0 : Int32))])) else (false, (one (a.2.1 + 1)).2.1, [], [])) : pC).1 = true → rJoin (tK T len) one 266 (-11) 5 k = rMore (tK T len) one 266 (-11) 5 (200 - (i + 1)) ((if (one (a.2.1 + 1)).1 = true then (true, (one (a.2.1 + 1)).2.1, a.2.2.1 ++ ((one (a.2.1 + 1)).2.2.1 ++ [(-11 : Int32)]), a.2.2.2 ++ ((one (a.2.1 + 1)).2.2.2 ++ [((5 : Int32), (0 : Int32))])) else (false, (one (a.2.1 + 1)).2.1, [], [])) : pC) ∧ (i + 1) ≤ ((if (one (a.2.1 + 1)).1 = true then (true, (one (a.2.1 + 1)).2.1, a.2.2.1 ++ ((one (a.2.1 + 1)).2.2.1 ++ [(-11 : Int32)]), a.2.2.2 ++ ((one (a.2.1 + 1)).2.2.2 ++ [((5 : Int32), (0 : Int32))])) else (false, (one (a.2.1 + 1)).2.1, [], [])) : pC).2.1 ∧ (k ≤ ((if (one (a.2.1 + 1)).1 = true then (true, (one (a.2.1 + 1)).2.1, a.2.2.1 ++ ((one (a.2.1 + 1)).2.2.1 ++ [(-11 : Int32)]), a.2.2.2 ++ ((one (a.2.1 + 1)).2.2.2 ++ [((5 : Int32), (0 : Int32))])) else (false, (one (a.2.1 + 1)).2.1, [], [])) : pC).2.1 ∧ ((if (one (a.2.1 + 1)).1 = true then (true, (one (a.2.1 + 1)).2.1, a.2.2.1 ++ ((one (a.2.1 + 1)).2.2.1 ++ [(-11 : Int32)]), a.2.2.2 ++ ((one (a.2.1 + 1)).2.2.2 ++ [((5 : Int32), (0 : Int32))])) else (false, (one (a.2.1 + 1)).2.1, [], [])) : pC).2.1 ≤ len) ∧ ((if (one (a.2.1 + 1)).1 = true then (true, (one (a.2.1 + 1)).2.1, a.2.2.1 ++ ((one (a.2.1 + 1)).2.2.1 ++ [(-11 : Int32)]), a.2.2.2 ++ ((one (a.2.1 + 1)).2.2.2 ++ [((5 : Int32), (0 : Int32))])) else (false, (one (a.2.1 + 1)).2.1, [], [])) : pC).2.2.2.length + k ≤ ((if (one (a.2.1 + 1)).1 = true then (true, (one (a.2.1 + 1)).2.1, a.2.2.1 ++ ((one (a.2.1 + 1)).2.2.1 ++ [(-11 : Int32)]), a.2.2.2 ++ ((one (a.2.1 + 1)).2.2.2 ++ [((5 : Int32), (0 : Int32))])) else (false, (one (a.2.1 + 1)).2.1, [], [])) : pC).2.1) ∧ (((if (one (a.2.1 + 1)).1 = true then (true, (one (a.2.1 + 1)).2.1, a.2.2.1 ++ ((one (a.2.1 + 1)).2.2.1 ++ [(-11 : Int32)]), a.2.2.2 ++ ((one (a.2.1 + 1)).2.2.2 ++ [((5 : Int32), (0 : Int32))])) else (false, (one (a.2.1 + 1)).2.1, [], [])) : pC).1 = false → rJoin (tK T len) one 266 (-11) 5 k = ((if (one (a.2.1 + 1)).1 = true then (true, (one (a.2.1 + 1)).2.1, a.2.2.1 ++ ((one (a.2.1 + 1)).2.2.1 ++ [(-11 : Int32)]), a.2.2.2 ++ ((one (a.2.1 + 1)).2.2.2 ++ [((5 : Int32), (0 : Int32))])) else (false, (one (a.2.1 + 1)).2.1, [], [])) : pC)) from ⟨by omega, hN, hN1, hN2⟩) (by show 300 - (i + 1) < 300 - i; omega)
