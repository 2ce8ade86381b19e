theorem gS.op {T : Nat → Int32} {len k cc : Nat} {μ : zM} {v : Int32} (h : gS T len μ k cc) : gS T len (zp μ 0 13 v) k cc := by
  obtain ⟨⟨h1, h2⟩, ⟨h3, h4, h5⟩, h6, h7, h8, h9⟩ := h
  have e : ∀ j, j ≠ 13 → zp μ 0 13 v 0 j = μ 0 j := fun j hj => by rw [zp_eq, pk_un hj]
  exact ⟨⟨(e 6 (by decide)).trans h1, fun j hj => by rw [zp_ne (by decide)]; exact h2 j hj⟩, ⟨(e 9 (by decide)).trans h3, (e 8 (by decide)).trans h4, (e 10 (by decide)).trans h5⟩, fun q => (e 11 (by decide)).trans (h6 q), fun q => (e 11 (by decide)).trans (h7 q), h8, (e 14 (by decide)).trans h9⟩
theorem core_t {K V : Nat → Int32} {any : Nat → pC} {may : Bool} {k : Nat} (h : ¬ K k = 40) : rCore K V any may k = rTest K V k := if_neg h
theorem gPs.back {T : Nat → Int32} {len k n cc : Nat} {r : pC} {μ m ν : zM} (hE : gE μ m) (h1 : m 1 = μ 1) (ho : m 0 13 = μ 0 13) (g : gPs T len (k + n) cc r m ν) : gPs T len k cc r μ ν :=
  ⟨hE.tr g.1, fun h => ⟨(g.2.1 h).1, gC.pre h1 (g.2.1 h).2.1, (g.2.1 h).2.2.trans ho⟩, fun h => by obtain ⟨a, c, b, d⟩ := g.2.2 h; exact ⟨a, c, b, by omega⟩⟩
set_option maxHeartbeats 8000000 in
set_option maxRecDepth 100000 in
theorem eX11_takesOpen (σ : zG) (T : Nat → Int32) (len op D : Nat) (hX : gX T len) (hD : 1 ≤ D) (ho3 : op ≤ 3) (any : Nat → pC) (may : Bool) (hmay : may = decide (op < 3)) (hg : may = true → pGd len any) (hany : op < 3 → ∀ μ k cc, gS T len μ k cc → cc ≤ k → μ 0 13 = nI (op + 1) → zMet shR σ D MX11_takesCondition yX11_takesCondition [zr 0] μ (fun rr μ' => rr = some (zi (zb (any k).1)) ∧ gPs T len k cc (any k) μ μ')) (μ : zM) (k cc : Nat) (hS : gS T len μ k cc) (hcc : cc ≤ k) (hop : μ 0 13 = nI op) (hk40 : tK T len k = 40) : zMet shR σ (D + 1) MX11_takesOpen yX11_takesOpen [zr 0] μ (fun rr μ' => rr = some (zi (zb (rCore (tK T len) (tV T len) any may k).1)) ∧ gPs T len k cc (rCore (tK T len) (tV T len) any may k) μ μ') := by
  refine zmetF (by decide +kernel) rfl (Nat.le_of_ble_eq_true rfl) ?_
  show zX shR σ (D + 1) MX11_takesOpen 0 [(0, zr 0)] [] μ _
  refine zx_aload_n (k := 0) (nn := 1) dX11_takesOpen_0 rfl rfl rfl ?_
  refine zx_getI (nn := 4) flX11_239 rfl rfl dX11_takesOpen_1 rfl ?_
  rw [show μ 0 13 = nI op from hop]
  show zX shR σ (D + 1) MX11_takesOpen 4 [(0, zr 0)] [zi (nI op)] μ _
  refine zx_iconst (v := 3) (nn := 5) rfl dX11_takesOpen_4 rfl ?_
  refine zx_icmp_ne (tgt := 13) (nn := 8) dX11_takesOpen_5 (by decide) rfl (fun h5 => ?_) (fun h5 => ?_)
  · have hop3 : op < 3 := by have : op ≠ 3 := fun q => h5 (by rw [q]; rfl); omega
    have hmt : may = true := hmay.trans (decide_eq_true hop3)
    have hga := hg hmt (k + 1) (K_lt hS.2.2.2.2.1.1 (by rw [hk40]; decide))
    refine zx_aload_n (k := 0) (nn := 14) dX11_takesOpen_13 rfl rfl rfl ?_
    refine zx_dupr (nn := 15) dX11_takesOpen_14 rfl ?_
    refine zx_getI (nn := 18) flX11_239 rfl rfl dX11_takesOpen_15 rfl ?_
    rw [show μ 0 13 = nI op from hop]
    show zX shR σ (D + 1) MX11_takesOpen 18 [(0, zr 0)] [zi (nI op), zr 0] μ _
    refine zx_iconst (v := 1) (nn := 19) rfl dX11_takesOpen_18 rfl ?_
    refine zx_iadd (nn := 20) dX11_takesOpen_19 rfl ?_
    rw [show (nI op) + 1 = nI (op + 1) from nI_1 op]
    show zX shR σ (D + 1) MX11_takesOpen 20 [(0, zr 0)] [zi (nI (op + 1)), zr 0] μ _
    refine zx_putI (nn := 23) fpX11_239 rfl rfl rfl rfl dX11_takesOpen_20 rfl ?_
    refine zx_aload_n (k := 0) (nn := 24) dX11_takesOpen_23 rfl rfl rfl ?_
    have Lb : gS T len (zp μ 0 13 (nI (op + 1))) (k) (cc) := hS.op
    refine zx_callV (nn := 27) (k := 0) (d' := 1) (as := []) (rest := []) (n := 0) (eX11_look_0 σ (zp μ 0 13 (nI (op + 1))) T len (tP T len (k + 1)) Lb.1.1 hX.1 Lb.2.1.2.1 Lb.2.2.2.2.1.2.2 Lb.1.2) kX11_look mlX11_230 rfl rfl rfl (by omega) rfl rfl (Nat.le_of_ble_eq_true rfl) dX11_takesOpen_24 rfl ?_
    rintro _ ν1 ⟨rfl, g1⟩
    show zX shR σ (D + 1) MX11_takesOpen 27 [(0, zr 0)] [] ν1 _
    have Sb : gS T len ν1 (k + 1) (cc) := Lb.look (by rw [hk40]; decide) rfl g1
    have Eb := gE.l g1
    have eb1 : ν1 1 = (zp μ 0 13 (nI (op + 1))) 1 := g1.1 1 (by decide)
    have ebo : ν1 0 13 = (zp μ 0 13 (nI (op + 1))) 0 13 := g1.2.1 13 (by omega)
    refine zx_aload_n (k := 0) (nn := 28) dX11_takesOpen_27 rfl rfl rfl ?_
    refine zx_callV (nn := 31) (k := 0) (d' := D) (as := []) (rest := []) (n := 0) (hany hop3 ν1 (k + 1) cc Sb (by omega) (by rw [ebo, zp_eq]; exact pk_us)) kX11_takesCondition mlX11_242 rfl rfl rfl (by omega) rfl rfl (Nat.le_of_ble_eq_true rfl) dX11_takesOpen_28 rfl ?_
    rintro _ ν2 ⟨rfl, q1⟩
    show zX shR σ (D + 1) MX11_takesOpen 31 [(0, zr 0)] [zi (zb (any (k + 1)).1)] ν2 _
    refine zx_ifb_ne (tgt := 36) (nn := 34) dX11_takesOpen_31 (by decide) rfl (fun h31 => ?_) (fun h31 => ?_)
    · have Sc := (q1.2.1 h31).1
      refine zx_aload_n (k := 0) (nn := 37) dX11_takesOpen_36 rfl rfl rfl ?_
      refine zx_bipush (v := 41) (nn := 39) rfl dX11_takesOpen_37 rfl ?_
      refine zx_callVf (nn := 42) (k := 0) (d' := 0) (as := [zi 41]) (rest := []) (n := 1) (eX11_isSign_0 σ ν2 41 T len ((any (k + 1)).2.1) (cc + (any (k + 1)).2.2.2.length) (Sc) (by decide)) kX11_isSign mlX11_236 rfl rfl rfl (by omega) rfl rfl (Nat.le_of_ble_eq_true rfl) dX11_takesOpen_39 rfl ?_
      show zX shR σ (D + 1) MX11_takesOpen 42 [(0, zr 0)] [zi (zb (decide (tK T len ((any (k + 1)).2.1) = 41)))] ν2 _
      refine zx_ifb_ne (tgt := 50) (nn := 45) dX11_takesOpen_42 (by decide) rfl (fun h42 => ?_) (fun h42 => ?_)
      · have h41 : tK T len (any (k + 1)).2.1 = 41 := of_decide_eq_true h42
        refine zx_aload_n (k := 0) (nn := 51) dX11_takesOpen_50 rfl rfl rfl ?_
        refine zx_dupr (nn := 52) dX11_takesOpen_51 rfl ?_
        refine zx_getI (nn := 55) flX11_239 rfl rfl dX11_takesOpen_52 rfl ?_
        rw [show ν2 0 13 = nI (op + 1) from (q1.2.1 h31).2.2.trans (ebo.trans (by rw [zp_eq]; exact pk_us))]
        show zX shR σ (D + 1) MX11_takesOpen 55 [(0, zr 0)] [zi (nI (op + 1)), zr 0] ν2 _
        refine zx_iconst (v := 1) (nn := 56) rfl dX11_takesOpen_55 rfl ?_
        refine zx_isub (nn := 57) dX11_takesOpen_56 rfl ?_
        rw [show (nI (op + 1)) - 1 = nI op from nI_pred op]
        show zX shR σ (D + 1) MX11_takesOpen 57 [(0, zr 0)] [zi (nI op), zr 0] ν2 _
        refine zx_putI (nn := 60) fpX11_239 rfl rfl rfl rfl dX11_takesOpen_57 rfl ?_
        refine zx_aload_n (k := 0) (nn := 61) dX11_takesOpen_60 rfl rfl rfl ?_
        have Ld : gS T len (zp ν2 0 13 (nI op)) ((any (k + 1)).2.1) (cc + (any (k + 1)).2.2.2.length) := Sc.op
        refine zx_callV (nn := 64) (k := 0) (d' := 1) (as := []) (rest := []) (n := 0) (eX11_look_0 σ (zp ν2 0 13 (nI op)) T len (tP T len ((any (k + 1)).2.1 + 1)) Ld.1.1 hX.1 Ld.2.1.2.1 Ld.2.2.2.2.1.2.2 Ld.1.2) kX11_look mlX11_230 rfl rfl rfl (by omega) rfl rfl (Nat.le_of_ble_eq_true rfl) dX11_takesOpen_61 rfl ?_
        rintro _ ν3 ⟨rfl, g3⟩
        show zX shR σ (D + 1) MX11_takesOpen 64 [(0, zr 0)] [] ν3 _
        have Sd : gS T len ν3 ((any (k + 1)).2.1 + 1) (cc + (any (k + 1)).2.2.2.length) := Ld.look (by rw [h41]; decide) rfl g3
        have Ed := gE.l g3
        have ed1 : ν3 1 = (zp ν2 0 13 (nI op)) 1 := g3.1 1 (by decide)
        have edo : ν3 0 13 = (zp ν2 0 13 (nI op)) 0 13 := g3.2.1 13 (by omega)
        refine zx_iconst (v := 1) (nn := 65) rfl dX11_takesOpen_64 rfl ?_
        refine zx_zret rfl rfl dX11_takesOpen_65 ?_
        have hE : (rCore (tK T len) (tV T len) any may k) = (true, (any (k + 1)).2.1 + 1, (any (k + 1)).2.2.1, (any (k + 1)).2.2.2) := by unfold rCore; rw [if_pos hk40, if_pos hmt, if_pos ⟨h31, h41⟩]
        rw [hE]
        refine ⟨rfl, ((((gE.f (by omega) (by omega)).tr Eb).tr q1.1).tr (gE.f (by omega) (by omega))).tr Ed, fun _ => ⟨Sd, gC.post (gC.post (gC.pre (eb1.trans (zp_ne (by decide))) (q1.2.1 h31).2.1) (zp_ne (by decide))) ed1, ?_⟩, fun h => by cases h⟩
        rw [edo, zp_eq, pk_us, hop]
      · refine zx_aload_n (k := 0) (nn := 46) dX11_takesOpen_45 rfl rfl rfl ?_
        refine zx_callVf (nn := 49) (k := 0) (d' := 0) (as := []) (rest := []) (n := 0) (eX11_wrong_0 σ ν2   ) kX11_wrong mlX11_223 rfl rfl rfl (by omega) rfl rfl (Nat.le_of_ble_eq_true rfl) dX11_takesOpen_46 rfl ?_
        show zX shR σ (D + 1) MX11_takesOpen 49 [(0, zr 0)] [zi 0] (zp ν2 0 12 (ν2 0 9)) _
        refine zx_zret rfl rfl dX11_takesOpen_49 ?_
        have hn41 := of_decide_eq_false h42
        have hE : (rCore (tK T len) (tV T len) any may k) = (false, (any (k + 1)).2.1, [], []) := by unfold rCore; rw [if_pos hk40, if_pos hmt, if_neg (fun q => hn41 q.2)]
        rw [hE]
        exact ⟨rfl, gPs.no ((((gE.f (by omega) (by omega)).tr Eb).tr q1.1).tr (gE.f (by omega) (by omega))) (by rw [zp_eq, pk_us]; exact Sc.2.1.1) (by rw [zp_eq, pk_un (by decide)]; exact Sc.2.2.2.2.2) (by omega)⟩
    · refine zx_iconst (v := 0) (nn := 35) rfl dX11_takesOpen_34 rfl ?_
      refine zx_zret rfl rfl dX11_takesOpen_35 ?_
      have hE : (rCore (tK T len) (tV T len) any may k) = (false, (any (k + 1)).2.1, [], []) := by unfold rCore; rw [if_pos hk40, if_pos hmt, if_neg (fun q => by rw [h31] at q; cases q.1)]
      rw [hE]
      obtain ⟨z1, z2, z3, z4⟩ := q1.2.2 h31
      exact ⟨rfl, gPs.no (((gE.f (by omega) (by omega)).tr Eb).tr q1.1) z1 z3 (by omega)⟩
  · refine zx_aload_n (k := 0) (nn := 9) dX11_takesOpen_8 rfl rfl rfl ?_
    refine zx_callVf (nn := 12) (k := 0) (d' := 0) (as := []) (rest := []) (n := 0) (eX11_wrong_0 σ μ   ) kX11_wrong mlX11_223 rfl rfl rfl (by omega) rfl rfl (Nat.le_of_ble_eq_true rfl) dX11_takesOpen_9 rfl ?_
    show zX shR σ (D + 1) MX11_takesOpen 12 [(0, zr 0)] [zi 0] (zp μ 0 12 (μ 0 9)) _
    refine zx_zret rfl rfl dX11_takesOpen_12 ?_
    have hm : ¬ may = true := fun q => by rw [hmay] at q; have := of_decide_eq_true q; have := (nI_eq (b := 3) (by omega) (by omega)).mp h5; omega
    have hE : (rCore (tK T len) (tV T len) any may k) = (false, k, [], []) := by unfold rCore; rw [if_pos hk40, if_neg hm]
    rw [hE]
    exact ⟨rfl, gPs.no (gE.f (by omega) (by omega)) (by rw [zp_eq, pk_us]; exact hS.2.1.1) (by rw [zp_eq, pk_un (by decide)]; exact hS.2.2.2.2.2) (Nat.le_refl _)⟩
theorem gC.at_ {μ ν : zM} {a b : Nat} {l : List (Int32 × Int32)} (h : gC μ ν a l) (e : a = b) : gC μ ν b l := e ▸ h
theorem one_f {K V : Nat → Int32} {any : Nat → pC} {may : Bool} (k : Nat) (h : (rOne K V any may k).1 = false) : (false, (rOne K V any may k).2.1, [], []) = rOne K V any may k := by
  unfold rOne at h ⊢
  by_cases q : (rCore K V any may (k + rNots K 200 k)).1 = true
  · rw [if_pos q] at h; cases h
  · rw [if_neg q]
theorem more_f {K : Nat → Int32} {one : Nat → pC} {sep x rc : Int32} : ∀ (m : Nat) (a : pC), a.1 = true → (rMore K one sep x rc m a).1 = false → (false, (rMore K one sep x rc m a).2.1, [], []) = rMore K one sep x rc m a
  | 0, a, h, g => absurd (h.symm.trans g) (by decide)
  | m + 1, a, h, g => by
    by_cases q : K a.2.1 = sep
    · cases r : (one (a.2.1 + 1)).1 with
      | true =>
        rw [rMore_s q r] at g ⊢
        exact more_f m _ rfl g
      | false => rw [rMore_f q r]
    · rw [rMore_n q] at g
      exact absurd (h.symm.trans g) (by decide)
theorem join_f {K : Nat → Int32} {one : Nat → pC} {sep x rc : Int32} (k : Nat) (h : (rJoin K one sep x rc k).1 = false) : (false, (rJoin K one sep x rc k).2.1, [], []) = rJoin K one sep x rc k := by
  unfold rJoin at h ⊢
  by_cases q : (one k).1 = true
  · rw [if_pos q] at h ⊢
    exact more_f 200 _ q h
  · rw [if_neg q]
set_option maxHeartbeats 8000000 in
set_option maxRecDepth 100000 in
theorem eX11_takesOne (σ : zG) (T : Nat → Int32) (len op D : Nat) (hX : gX T len) (hD : 7 ≤ D) (any : Nat → pC) (may : Bool) (hg : may = true → pGd len any) (hopen : ∀ μ k cc, gS T len μ k cc → cc ≤ k → μ 0 13 = nI op → tK T len k = 40 → zMet shR σ D MX11_takesOpen yX11_takesOpen [zr 0] μ (fun rr μ' => rr = some (zi (zb (rCore (tK T len) (tV T len) any may k).1)) ∧ gPs T len k cc (rCore (tK T len) (tV T len) any may k) μ μ')) (μ : zM) (k cc : Nat) (hS : gS T len μ k cc) (hcc : cc ≤ k) (hop : μ 0 13 = nI op) : zMet shR σ (D + 1) MX11_takesOne yX11_takesOne [zr 0] μ (fun rr μ' => rr = some (zi (zb (rOne (tK T len) (tV T len) any may k).1)) ∧ gPs T len k cc (rOne (tK T len) (tV T len) any may k) μ μ') := by
  refine zmetF (by decide +kernel) rfl (Nat.le_of_ble_eq_true rfl) ?_
  show zX shR σ (D + 1) MX11_takesOne 0 [(0, zr 0)] [] μ _
  refine zx_iconst (v := 0) (nn := 1) rfl dX11_takesOne_0 rfl ?_
  refine zx_istore_n (nn := 2) (lv' := [(1, zi 0), (0, zr 0)]) dX11_takesOne_1 rfl (by decide) rfl rfl ?_
  refine zx_lv (lv' := [(0, zr 0), (1, zi 0)]) [1, 0] rfl ?_
  refine zx_while (τ := Nat × zM) (fun t_ => 200 - t_.1) (fun t_ => t_.1 ≤ 200 ∧ rNots (tK T len) 200 k = t_.1 + rNots (tK T len) (200 - t_.1) (k + t_.1) ∧ gS T len t_.2 (k + t_.1) cc ∧ gE μ t_.2 ∧ t_.2 1 = μ 1 ∧ t_.2 0 13 = μ 0 13) (fun t_ => [(0, zr 0), (1, zi (nI t_.1))]) (fun t_ => t_.2) (t0 := (0, μ)) (show 0 ≤ 200 ∧ rNots (tK T len) 200 k = 0 + rNots (tK T len) (200 - 0) (k + 0) ∧ gS T len μ (k + 0) cc ∧ gE μ μ ∧ μ 1 = μ 1 ∧ μ 0 13 = μ 0 13 from ⟨Nat.zero_le _, by rw [Nat.zero_add]; rfl, hS, gE.rf, rfl, rfl⟩) ?_
  rintro ⟨n, μ1⟩ hI ih2
  replace hI : n ≤ 200 ∧ rNots (tK T len) 200 k = n + rNots (tK T len) (200 - n) (k + n) ∧ gS T len μ1 (k + n) cc ∧ gE μ μ1 ∧ μ1 1 = μ 1 ∧ μ1 0 13 = μ 0 13 := hI
  show zX shR σ (D + 1) MX11_takesOne 2 [(0, zr 0), (1, zi (nI n))] [] μ1 _
  obtain ⟨hn, hN, hS1, hE1, h11, h13⟩ := hI
  refine zx_aload_n (k := 0) (nn := 3) dX11_takesOne_2 rfl rfl rfl ?_
  refine zx_ldcS (k := 12) (nn := 5) (by decide +kernel) dX11_takesOne_3 rfl ?_
  refine zx_callVf (nn := 8) (k := 0) (d' := 4) (as := [zr 212]) (rest := []) (n := 1) (eX11_isName_0 σ μ1 12 T len (k + n) (cc) (by decide) hX (hS1)) kX11_isName mlX11_196 rfl rfl rfl (by omega) rfl rfl (Nat.le_of_ble_eq_true rfl) dX11_takesOne_5 rfl ?_
  show zX shR σ (D + 1) MX11_takesOne 8 [(0, zr 0), (1, zi (nI n))] [zi (zb (decide (tK T len (k + n) = nI (256 + 12))))] μ1 _
  refine zx_ifb_eq (tgt := 21) (nn := 11) dX11_takesOne_8 (by decide) rfl (fun h8 => ?_) (fun h8 => ?_)
  · have hz : rNots (tK T len) (200 - n) (k + n) = 0 := rNots_n (of_decide_eq_false h8) _
    have hN2 : rNots (tK T len) 200 k = n := by omega
    have hkn := hS1.2.2.2.2.1.1
    have h200 := hX.1
    have hgc := gd_core (V := (tV T len)) (tK_len (T := T) (len := len)) hg (k + n) hkn
    refine zx_aload_n (k := 0) (nn := 22) dX11_takesOne_21 rfl rfl rfl ?_
    refine zx_bipush (v := 40) (nn := 24) rfl dX11_takesOne_22 rfl ?_
    refine zx_callVf (nn := 27) (k := 0) (d' := 0) (as := [zi 40]) (rest := []) (n := 1) (eX11_isSign_0 σ μ1 40 T len (k + n) (cc) (hS1) (by decide)) kX11_isSign mlX11_236 rfl rfl rfl (by omega) rfl rfl (Nat.le_of_ble_eq_true rfl) dX11_takesOne_24 rfl ?_
    show zX shR σ (D + 1) MX11_takesOne 27 [(0, zr 0), (1, zi (nI n))] [zi (zb (decide (tK T len (k + n) = 40)))] μ1 _
    refine zx_ifb_eq (tgt := 37) (nn := 30) dX11_takesOne_27 (by decide) rfl (fun h27 => ?_) (fun h27 => ?_)
    · refine zx_aload_n (k := 0) (nn := 38) dX11_takesOne_37 rfl rfl rfl ?_
      refine zx_callV (nn := 41) (k := 0) (d' := 7) (as := []) (rest := []) (n := 0) (eX11_takesTest_0 σ μ1 T len (k + n) cc hX hS1 (by omega)) kX11_takesTest mlX11_250 rfl rfl rfl (by omega) rfl rfl (Nat.le_of_ble_eq_true rfl) dX11_takesOne_38 rfl ?_
      rintro _ ν1 ⟨rfl, q0⟩
      show zX shR σ (D + 1) MX11_takesOne 41 [(0, zr 0), (1, zi (nI n))] [zi (zb (rTest (tK T len) (tV T len) (k + n)).1)] ν1 _
      rw [← core_t (any := any) (may := may) (V := (tV T len)) (of_decide_eq_false h27)] at q0
      rw [show zb (rTest (tK T len) (tV T len) (k + n)).1 = zb (rCore (tK T len) (tV T len) any may (k + n)).1 from by rw [core_t (of_decide_eq_false h27)]]
      show zX shR σ (D + 1) MX11_takesOne 41 [(0, zr 0), (1, zi (nI n))] [zi (zb (rCore (tK T len) (tV T len) any may (k + n)).1)] ν1 _
      have q1 := gPs.back (k := k) (n := n) hE1 h11 h13 q0
      refine zx_istore_n (nn := 42) (lv' := [(2, zi (zb (rCore (tK T len) (tV T len) any may (k + n)).1)), (0, zr 0), (1, zi (nI n))]) dX11_takesOne_41 rfl (by decide) rfl rfl ?_
      refine zx_iconst (v := 0) (nn := 43) rfl dX11_takesOne_42 rfl ?_
      refine zx_istore_n (nn := 44) (lv' := [(3, zi 0), (2, zi (zb (rCore (tK T len) (tV T len) any may (k + n)).1)), (0, zr 0), (1, zi (nI n))]) dX11_takesOne_43 rfl (by decide) rfl rfl ?_
      refine zx_lv (lv' := [(0, zr 0), (1, zi (nI n)), (2, zi (zb (rCore (tK T len) (tV T len) any may (k + n)).1)), (3, zi 0)]) [2, 3, 1, 0] rfl ?_
      refine zx_while (τ := Nat × zM) (fun t_ => n - t_.1) (fun t_ => t_.1 ≤ n ∧ gE μ t_.2 ∧ ((rCore (tK T len) (tV T len) any may (k + n)).1 = true → gS T len t_.2 (rCore (tK T len) (tV T len) any may (k + n)).2.1 (cc + (rCore (tK T len) (tV T len) any may (k + n)).2.2.2.length + t_.1) ∧ gC μ t_.2 cc ((rCore (tK T len) (tV T len) any may (k + n)).2.2.2 ++ List.replicate t_.1 (3, 0)) ∧ t_.2 0 13 = μ 0 13) ∧ ((rCore (tK T len) (tV T len) any may (k + n)).1 = false → t_.2 0 12 = nI (tS T len (rCore (tK T len) (tV T len) any may (k + n)).2.1) ∧ ∃ c', t_.2 0 14 = nI c' ∧ c' + k ≤ cc + (rCore (tK T len) (tV T len) any may (k + n)).2.1)) (fun t_ => [(0, zr 0), (1, zi (nI n)), (2, zi (zb (rCore (tK T len) (tV T len) any may (k + n)).1)), (3, zi (nI t_.1))]) (fun t_ => t_.2) (t0 := (0, ν1)) (show 0 ≤ n ∧ gE μ ν1 ∧ ((rCore (tK T len) (tV T len) any may (k + n)).1 = true → gS T len ν1 (rCore (tK T len) (tV T len) any may (k + n)).2.1 (cc + (rCore (tK T len) (tV T len) any may (k + n)).2.2.2.length + 0) ∧ gC μ ν1 cc ((rCore (tK T len) (tV T len) any may (k + n)).2.2.2 ++ List.replicate 0 (3, 0)) ∧ ν1 0 13 = μ 0 13) ∧ ((rCore (tK T len) (tV T len) any may (k + n)).1 = false → ν1 0 12 = nI (tS T len (rCore (tK T len) (tV T len) any may (k + n)).2.1) ∧ ∃ c', ν1 0 14 = nI c' ∧ c' + k ≤ cc + (rCore (tK T len) (tV T len) any may (k + n)).2.1) from ⟨Nat.zero_le _, q1.1, fun h => ⟨(q1.2.1 h).1, gC.len (q1.2.1 h).2.1 (List.append_nil _).symm, (q1.2.1 h).2.2⟩, q1.2.2⟩) ?_
      rintro ⟨j, μ3⟩ hI ih44
      replace hI : j ≤ n ∧ gE μ μ3 ∧ ((rCore (tK T len) (tV T len) any may (k + n)).1 = true → gS T len μ3 (rCore (tK T len) (tV T len) any may (k + n)).2.1 (cc + (rCore (tK T len) (tV T len) any may (k + n)).2.2.2.length + j) ∧ gC μ μ3 cc ((rCore (tK T len) (tV T len) any may (k + n)).2.2.2 ++ List.replicate j (3, 0)) ∧ μ3 0 13 = μ 0 13) ∧ ((rCore (tK T len) (tV T len) any may (k + n)).1 = false → μ3 0 12 = nI (tS T len (rCore (tK T len) (tV T len) any may (k + n)).2.1) ∧ ∃ c', μ3 0 14 = nI c' ∧ c' + k ≤ cc + (rCore (tK T len) (tV T len) any may (k + n)).2.1) := hI
      show zX shR σ (D + 1) MX11_takesOne 44 [(0, zr 0), (1, zi (nI n)), (2, zi (zb (rCore (tK T len) (tV T len) any may (k + n)).1)), (3, zi (nI j))] [] μ3 _
      obtain ⟨z1, z2, z3, z4⟩ := hI
      refine zx_iload_n (k := 3) (nn := 45) dX11_takesOne_44 rfl rfl rfl ?_
      refine zx_iload_n (k := 1) (nn := 46) dX11_takesOne_45 rfl rfl rfl ?_
      refine zx_icmp_ge (tgt := 65) (nn := 49) dX11_takesOne_46 (by decide) rfl (fun h46 => ?_) (fun h46 => ?_)
      · refine zx_iload_n (k := 2) (nn := 66) dX11_takesOne_65 rfl rfl rfl ?_
        refine zx_zret rfl (zb_nar _) dX11_takesOne_66 ?_
        cases hb : (rCore (tK T len) (tV T len) any may (k + n)).1 with
        | false =>
          have hE : (rOne (tK T len) (tV T len) any may k) = (false, (rCore (tK T len) (tV T len) any may (k + n)).2.1, [], []) := by unfold rOne; rw [hN2, if_neg (by rw [hb]; decide)]
          rw [hE]
          obtain ⟨y1, y2, y3, y4⟩ := z4 hb
          exact ⟨rfl, gPs.no z2 y1 y3 y4⟩
        | true =>
          have hE : (rOne (tK T len) (tV T len) any may k) = (true, (rCore (tK T len) (tV T len) any may (k + n)).2.1, (rCore (tK T len) (tV T len) any may (k + n)).2.2.1 ++ (if n % 2 = 1 then [-9] else []), (rCore (tK T len) (tV T len) any may (k + n)).2.2.2 ++ List.replicate n (3, 0)) := by unfold rOne; rw [hN2, if_pos hb]
          rw [hE]
          have hjn : j = n := by have := nI_le_le h46 (by omega); omega
          rw [hjn] at z3
          exact ⟨rfl, z2, fun _ => ⟨by rw [List.length_append, List.length_replicate, ← Nat.add_assoc]; exact (z3 hb).1, (z3 hb).2⟩, fun h => by cases h⟩
      · have hjlt : j < n := nI_nle_lt h46 (by omega)
        refine zx_iload_n (k := 2) (nn := 50) dX11_takesOne_49 rfl rfl rfl ?_
        refine zx_ifb_eq (tgt := 65) (nn := 53) dX11_takesOne_50 (by decide) rfl (fun h50 => ?_) (fun h50 => ?_)
        · refine zx_iload_n (k := 2) (nn := 66) dX11_takesOne_65 rfl rfl rfl ?_
          refine zx_zret rfl (zb_nar _) dX11_takesOne_66 ?_
          have hb := h50
          rw [h50]
          have hE : (rOne (tK T len) (tV T len) any may k) = (false, (rCore (tK T len) (tV T len) any may (k + n)).2.1, [], []) := by unfold rOne; rw [hN2, if_neg (by rw [hb]; decide)]
          rw [hE]
          obtain ⟨y1, y2, y3, y4⟩ := z4 hb
          exact ⟨rfl, gPs.no z2 y1 y3 y4⟩
        · refine zx_aload_n (k := 0) (nn := 54) dX11_takesOne_53 rfl rfl rfl ?_
          refine zx_iconst (v := 3) (nn := 55) rfl dX11_takesOne_54 rfl ?_
          refine zx_iconst (v := 0) (nn := 56) rfl dX11_takesOne_55 rfl ?_
          refine zx_callVf (nn := 59) (k := 0) (d' := 0) (as := [zi 3, zi 0]) (rest := []) (n := 2) (eX11_lays_0 σ μ3 3 0 (cc + (rCore (tK T len) (tV T len) any may (k + n)).2.2.2.length + j) (z3 h50).1.2.2.2.2.2 (by omega)) kX11_lays mlX11_226 rfl rfl rfl (by omega) rfl rfl (Nat.le_of_ble_eq_true rfl) dX11_takesOne_56 rfl ?_
          show zX shR σ (D + 1) MX11_takesOne 59 [(0, zr 0), (1, zi (nI n)), (2, zi (zb (rCore (tK T len) (tV T len) any may (k + n)).1)), (3, zi (nI j))] [] (gLay μ3 (cc + (rCore (tK T len) (tV T len) any may (k + n)).2.2.2.length + j) 3 0) _
          refine zx_iinc (k := 3) (v := nI (j + 1)) (lv' := [(3, zi (nI (j + 1))), (0, zr 0), (1, zi (nI n)), (2, zi (zb (rCore (tK T len) (tV T len) any may (k + n)).1))]) (nn := 62) dX11_takesOne_59 rfl (nI_1 j) (by decide) rfl rfl ?_
          refine zx_goto (tgt := 44) dX11_takesOne_62 (by decide) ?_
          refine zx_lv (lv' := [(0, zr 0), (1, zi (nI n)), (2, zi (zb (rCore (tK T len) (tV T len) any may (k + n)).1)), (3, zi (nI (j + 1)))]) [1, 2, 3, 0] rfl ?_
          exact ih44 (j + 1, gLay μ3 (cc + (rCore (tK T len) (tV T len) any may (k + n)).2.2.2.length + j) 3 0) (show (j + 1) ≤ n ∧ gE μ (gLay μ3 (cc + (rCore (tK T len) (tV T len) any may (k + n)).2.2.2.length + j) 3 0) ∧ ((rCore (tK T len) (tV T len) any may (k + n)).1 = true → gS T len (gLay μ3 (cc + (rCore (tK T len) (tV T len) any may (k + n)).2.2.2.length + j) 3 0) (rCore (tK T len) (tV T len) any may (k + n)).2.1 (cc + (rCore (tK T len) (tV T len) any may (k + n)).2.2.2.length + (j + 1)) ∧ gC μ (gLay μ3 (cc + (rCore (tK T len) (tV T len) any may (k + n)).2.2.2.length + j) 3 0) cc ((rCore (tK T len) (tV T len) any may (k + n)).2.2.2 ++ List.replicate (j + 1) (3, 0)) ∧ (gLay μ3 (cc + (rCore (tK T len) (tV T len) any may (k + n)).2.2.2.length + j) 3 0) 0 13 = μ 0 13) ∧ ((rCore (tK T len) (tV T len) any may (k + n)).1 = false → (gLay μ3 (cc + (rCore (tK T len) (tV T len) any may (k + n)).2.2.2.length + j) 3 0) 0 12 = nI (tS T len (rCore (tK T len) (tV T len) any may (k + n)).2.1) ∧ ∃ c', (gLay μ3 (cc + (rCore (tK T len) (tV T len) any may (k + n)).2.2.2.length + j) 3 0) 0 14 = nI c' ∧ c' + k ≤ cc + (rCore (tK T len) (tV T len) any may (k + n)).2.1) from ⟨by omega, z2.tr gE.lay, fun h => ⟨(z3 h).1.lay, gC.len ((z3 h).2.1.app (gC.at_ gC.one (by rw [List.length_append, List.length_replicate]; omega))) (by rw [List.append_assoc, ← List.replicate_succ']), by unfold gLay; rw [zp_eq, pk_un (by decide), zp_ne (by decide), zp_ne (by decide)]; exact (z3 h).2.2⟩, fun h => absurd (h50.symm.trans h) (by decide)⟩) (by show n - (j + 1) < n - j; omega)
    · refine zx_aload_n (k := 0) (nn := 31) dX11_takesOne_30 rfl rfl rfl ?_
      refine zx_callV (nn := 34) (k := 0) (d' := D) (as := []) (rest := []) (n := 0) (hopen μ1 (k + n) cc hS1 (by omega) (h13.trans hop) (of_decide_eq_true h27)) kX11_takesOpen mlX11_247 rfl rfl rfl (by omega) rfl rfl (Nat.le_of_ble_eq_true rfl) dX11_takesOne_31 rfl ?_
      rintro _ ν2 ⟨rfl, q0⟩
      show zX shR σ (D + 1) MX11_takesOne 34 [(0, zr 0), (1, zi (nI n))] [zi (zb (rCore (tK T len) (tV T len) any may (k + n)).1)] ν2 _
      refine zx_goto (tgt := 41) dX11_takesOne_34 (by decide) ?_
      have q1 := gPs.back (k := k) (n := n) hE1 h11 h13 q0
      refine zx_istore_n (nn := 42) (lv' := [(2, zi (zb (rCore (tK T len) (tV T len) any may (k + n)).1)), (0, zr 0), (1, zi (nI n))]) dX11_takesOne_41 rfl (by decide) rfl rfl ?_
      refine zx_iconst (v := 0) (nn := 43) rfl dX11_takesOne_42 rfl ?_
      refine zx_istore_n (nn := 44) (lv' := [(3, zi 0), (2, zi (zb (rCore (tK T len) (tV T len) any may (k + n)).1)), (0, zr 0), (1, zi (nI n))]) dX11_takesOne_43 rfl (by decide) rfl rfl ?_
      refine zx_lv (lv' := [(0, zr 0), (1, zi (nI n)), (2, zi (zb (rCore (tK T len) (tV T len) any may (k + n)).1)), (3, zi 0)]) [2, 3, 1, 0] rfl ?_
      refine zx_while (τ := Nat × zM) (fun t_ => n - t_.1) (fun t_ => t_.1 ≤ n ∧ gE μ t_.2 ∧ ((rCore (tK T len) (tV T len) any may (k + n)).1 = true → gS T len t_.2 (rCore (tK T len) (tV T len) any may (k + n)).2.1 (cc + (rCore (tK T len) (tV T len) any may (k + n)).2.2.2.length + t_.1) ∧ gC μ t_.2 cc ((rCore (tK T len) (tV T len) any may (k + n)).2.2.2 ++ List.replicate t_.1 (3, 0)) ∧ t_.2 0 13 = μ 0 13) ∧ ((rCore (tK T len) (tV T len) any may (k + n)).1 = false → t_.2 0 12 = nI (tS T len (rCore (tK T len) (tV T len) any may (k + n)).2.1) ∧ ∃ c', t_.2 0 14 = nI c' ∧ c' + k ≤ cc + (rCore (tK T len) (tV T len) any may (k + n)).2.1)) (fun t_ => [(0, zr 0), (1, zi (nI n)), (2, zi (zb (rCore (tK T len) (tV T len) any may (k + n)).1)), (3, zi (nI t_.1))]) (fun t_ => t_.2) (t0 := (0, ν2)) (show 0 ≤ n ∧ gE μ ν2 ∧ ((rCore (tK T len) (tV T len) any may (k + n)).1 = true → gS T len ν2 (rCore (tK T len) (tV T len) any may (k + n)).2.1 (cc + (rCore (tK T len) (tV T len) any may (k + n)).2.2.2.length + 0) ∧ gC μ ν2 cc ((rCore (tK T len) (tV T len) any may (k + n)).2.2.2 ++ List.replicate 0 (3, 0)) ∧ ν2 0 13 = μ 0 13) ∧ ((rCore (tK T len) (tV T len) any may (k + n)).1 = false → ν2 0 12 = nI (tS T len (rCore (tK T len) (tV T len) any may (k + n)).2.1) ∧ ∃ c', ν2 0 14 = nI c' ∧ c' + k ≤ cc + (rCore (tK T len) (tV T len) any may (k + n)).2.1) from ⟨Nat.zero_le _, q1.1, fun h => ⟨(q1.2.1 h).1, gC.len (q1.2.1 h).2.1 (List.append_nil _).symm, (q1.2.1 h).2.2⟩, q1.2.2⟩) ?_
      rintro ⟨j, μ3⟩ hI ih44
      replace hI : j ≤ n ∧ gE μ μ3 ∧ ((rCore (tK T len) (tV T len) any may (k + n)).1 = true → gS T len μ3 (rCore (tK T len) (tV T len) any may (k + n)).2.1 (cc + (rCore (tK T len) (tV T len) any may (k + n)).2.2.2.length + j) ∧ gC μ μ3 cc ((rCore (tK T len) (tV T len) any may (k + n)).2.2.2 ++ List.replicate j (3, 0)) ∧ μ3 0 13 = μ 0 13) ∧ ((rCore (tK T len) (tV T len) any may (k + n)).1 = false → μ3 0 12 = nI (tS T len (rCore (tK T len) (tV T len) any may (k + n)).2.1) ∧ ∃ c', μ3 0 14 = nI c' ∧ c' + k ≤ cc + (rCore (tK T len) (tV T len) any may (k + n)).2.1) := hI
      show zX shR σ (D + 1) MX11_takesOne 44 [(0, zr 0), (1, zi (nI n)), (2, zi (zb (rCore (tK T len) (tV T len) any may (k + n)).1)), (3, zi (nI j))] [] μ3 _
      obtain ⟨z1, z2, z3, z4⟩ := hI
      refine zx_iload_n (k := 3) (nn := 45) dX11_takesOne_44 rfl rfl rfl ?_
      refine zx_iload_n (k := 1) (nn := 46) dX11_takesOne_45 rfl rfl rfl ?_
      refine zx_icmp_ge (tgt := 65) (nn := 49) dX11_takesOne_46 (by decide) rfl (fun h46 => ?_) (fun h46 => ?_)
      · refine zx_iload_n (k := 2) (nn := 66) dX11_takesOne_65 rfl rfl rfl ?_
        refine zx_zret rfl (zb_nar _) dX11_takesOne_66 ?_
        cases hb : (rCore (tK T len) (tV T len) any may (k + n)).1 with
        | false =>
          have hE : (rOne (tK T len) (tV T len) any may k) = (false, (rCore (tK T len) (tV T len) any may (k + n)).2.1, [], []) := by unfold rOne; rw [hN2, if_neg (by rw [hb]; decide)]
          rw [hE]
          obtain ⟨y1, y2, y3, y4⟩ := z4 hb
          exact ⟨rfl, gPs.no z2 y1 y3 y4⟩
        | true =>
          have hE : (rOne (tK T len) (tV T len) any may k) = (true, (rCore (tK T len) (tV T len) any may (k + n)).2.1, (rCore (tK T len) (tV T len) any may (k + n)).2.2.1 ++ (if n % 2 = 1 then [-9] else []), (rCore (tK T len) (tV T len) any may (k + n)).2.2.2 ++ List.replicate n (3, 0)) := by unfold rOne; rw [hN2, if_pos hb]
          rw [hE]
          have hjn : j = n := by have := nI_le_le h46 (by omega); omega
          rw [hjn] at z3
          exact ⟨rfl, z2, fun _ => ⟨by rw [List.length_append, List.length_replicate, ← Nat.add_assoc]; exact (z3 hb).1, (z3 hb).2⟩, fun h => by cases h⟩
      · have hjlt : j < n := nI_nle_lt h46 (by omega)
        refine zx_iload_n (k := 2) (nn := 50) dX11_takesOne_49 rfl rfl rfl ?_
        refine zx_ifb_eq (tgt := 65) (nn := 53) dX11_takesOne_50 (by decide) rfl (fun h50 => ?_) (fun h50 => ?_)
        · refine zx_iload_n (k := 2) (nn := 66) dX11_takesOne_65 rfl rfl rfl ?_
          refine zx_zret rfl (zb_nar _) dX11_takesOne_66 ?_
          have hb := h50
          rw [h50]
          have hE : (rOne (tK T len) (tV T len) any may k) = (false, (rCore (tK T len) (tV T len) any may (k + n)).2.1, [], []) := by unfold rOne; rw [hN2, if_neg (by rw [hb]; decide)]
          rw [hE]
          obtain ⟨y1, y2, y3, y4⟩ := z4 hb
          exact ⟨rfl, gPs.no z2 y1 y3 y4⟩
        · refine zx_aload_n (k := 0) (nn := 54) dX11_takesOne_53 rfl rfl rfl ?_
          refine zx_iconst (v := 3) (nn := 55) rfl dX11_takesOne_54 rfl ?_
          refine zx_iconst (v := 0) (nn := 56) rfl dX11_takesOne_55 rfl ?_
          refine zx_callVf (nn := 59) (k := 0) (d' := 0) (as := [zi 3, zi 0]) (rest := []) (n := 2) (eX11_lays_0 σ μ3 3 0 (cc + (rCore (tK T len) (tV T len) any may (k + n)).2.2.2.length + j) (z3 h50).1.2.2.2.2.2 (by omega)) kX11_lays mlX11_226 rfl rfl rfl (by omega) rfl rfl (Nat.le_of_ble_eq_true rfl) dX11_takesOne_56 rfl ?_
          show zX shR σ (D + 1) MX11_takesOne 59 [(0, zr 0), (1, zi (nI n)), (2, zi (zb (rCore (tK T len) (tV T len) any may (k + n)).1)), (3, zi (nI j))] [] (gLay μ3 (cc + (rCore (tK T len) (tV T len) any may (k + n)).2.2.2.length + j) 3 0) _
          refine zx_iinc (k := 3) (v := nI (j + 1)) (lv' := [(3, zi (nI (j + 1))), (0, zr 0), (1, zi (nI n)), (2, zi (zb (rCore (tK T len) (tV T len) any may (k + n)).1))]) (nn := 62) dX11_takesOne_59 rfl (nI_1 j) (by decide) rfl rfl ?_
          refine zx_goto (tgt := 44) dX11_takesOne_62 (by decide) ?_
          refine zx_lv (lv' := [(0, zr 0), (1, zi (nI n)), (2, zi (zb (rCore (tK T len) (tV T len) any may (k + n)).1)), (3, zi (nI (j + 1)))]) [1, 2, 3, 0] rfl ?_
          exact ih44 (j + 1, gLay μ3 (cc + (rCore (tK T len) (tV T len) any may (k + n)).2.2.2.length + j) 3 0) (show (j + 1) ≤ n ∧ gE μ (gLay μ3 (cc + (rCore (tK T len) (tV T len) any may (k + n)).2.2.2.length + j) 3 0) ∧ ((rCore (tK T len) (tV T len) any may (k + n)).1 = true → gS T len (gLay μ3 (cc + (rCore (tK T len) (tV T len) any may (k + n)).2.2.2.length + j) 3 0) (rCore (tK T len) (tV T len) any may (k + n)).2.1 (cc + (rCore (tK T len) (tV T len) any may (k + n)).2.2.2.length + (j + 1)) ∧ gC μ (gLay μ3 (cc + (rCore (tK T len) (tV T len) any may (k + n)).2.2.2.length + j) 3 0) cc ((rCore (tK T len) (tV T len) any may (k + n)).2.2.2 ++ List.replicate (j + 1) (3, 0)) ∧ (gLay μ3 (cc + (rCore (tK T len) (tV T len) any may (k + n)).2.2.2.length + j) 3 0) 0 13 = μ 0 13) ∧ ((rCore (tK T len) (tV T len) any may (k + n)).1 = false → (gLay μ3 (cc + (rCore (tK T len) (tV T len) any may (k + n)).2.2.2.length + j) 3 0) 0 12 = nI (tS T len (rCore (tK T len) (tV T len) any may (k + n)).2.1) ∧ ∃ c', (gLay μ3 (cc + (rCore (tK T len) (tV T len) any may (k + n)).2.2.2.length + j) 3 0) 0 14 = nI c' ∧ c' + k ≤ cc + (rCore (tK T len) (tV T len) any may (k + n)).2.1) from ⟨by omega, z2.tr gE.lay, fun h => ⟨(z3 h).1.lay, gC.len ((z3 h).2.1.app (gC.at_ gC.one (by rw [List.length_append, List.length_replicate]; omega))) (by rw [List.append_assoc, ← List.replicate_succ']), by unfold gLay; rw [zp_eq, pk_un (by decide), zp_ne (by decide), zp_ne (by decide)]; exact (z3 h).2.2⟩, fun h => absurd (h50.symm.trans h) (by decide)⟩) (by show n - (j + 1) < n - j; omega)
  · have h268 : tK T len (k + n) = 268 := of_decide_eq_true h8
    have hne : tK T len (k + n) ≠ -1 := by rw [h268]; decide
    have hlt : k + n < len := K_lt hS1.2.2.2.2.1.1 hne
    have h200 := hX.1
    refine zx_iinc (k := 1) (v := nI (n + 1)) (lv' := [(1, zi (nI (n + 1))), (0, zr 0)]) (nn := 14) dX11_takesOne_11 rfl (nI_1 n) (by decide) rfl rfl ?_
    refine zx_aload_n (k := 1) (nn := 15) dX11_takesOne_14 rfl rfl rfl ?_
    have Lb : gS T len μ1 ((k + n)) (cc) := hS1
    refine zx_callV (nn := 18) (k := 0) (d' := 1) (as := []) (rest := []) (n := 0) (eX11_look_0 σ μ1 T len (tP T len ((k + n) + 1)) Lb.1.1 hX.1 Lb.2.1.2.1 Lb.2.2.2.2.1.2.2 Lb.1.2) kX11_look mlX11_230 rfl rfl rfl (by omega) rfl rfl (Nat.le_of_ble_eq_true rfl) dX11_takesOne_15 rfl ?_
    rintro _ ν3 ⟨rfl, g3⟩
    show zX shR σ (D + 1) MX11_takesOne 18 [(1, zi (nI (n + 1))), (0, zr 0)] [] ν3 _
    have Sb : gS T len ν3 ((k + n) + 1) (cc) := Lb.look hne rfl g3
    have Eb := gE.l g3
    have eb1 : ν3 1 = μ1 1 := g3.1 1 (by decide)
    have ebo : ν3 0 13 = μ1 0 13 := g3.2.1 13 (by omega)
    refine zx_goto (tgt := 2) dX11_takesOne_18 (by decide) ?_
    refine zx_lv (lv' := [(0, zr 0), (1, zi (nI (n + 1)))]) [1, 0] rfl ?_
    exact ih2 (n + 1, ν3) (show (n + 1) ≤ 200 ∧ rNots (tK T len) 200 k = (n + 1) + rNots (tK T len) (200 - (n + 1)) (k + (n + 1)) ∧ gS T len ν3 (k + (n + 1)) cc ∧ gE μ ν3 ∧ ν3 1 = μ 1 ∧ ν3 0 13 = μ 0 13 from ⟨by omega, by rw [hN, show 200 - n = (200 - (n + 1)) + 1 by omega, rNots_s h268, show k + (n + 1) = k + n + 1 by omega]; omega, Sb, hE1.tr Eb, eb1.trans h11, ebo.trans h13⟩) (by show 200 - (n + 1) < 200 - n; omega)
/-- a condition, o times deeper at most -/
theorem eX11_cond (σ : zG) (T : Nat → Int32) (len : Nat) (hX : gX T len) : ∀ o, o ≤ 3 → ∀ μ k cc, gS T len μ k cc → cc ≤ k → μ 0 13 = nI (3 - o) → zMet shR σ (4 * o + 10) MX11_takesCondition yX11_takesCondition [zr 0] μ (fun rr μ' => rr = some (zi (zb (rCond (tK T len) (tV T len) o k).1)) ∧ gPs T len k cc (rCond (tK T len) (tV T len) o k) μ μ')
  | 0, _ => fun μ k cc hS hcc hop => eX11_takesCondition σ T len 3 9 hX (by decide) _ (gd_join tK_len (gd_one tK_len (fun h => by cases h)) (by decide)) join_f
      (eX11_takesAll σ T len 3 8 hX (by decide) _ (gd_one tK_len (fun h => by cases h)) one_f (eX11_takesOne σ T len 3 7 hX (by decide) (fun k => (false, k, [], [])) false (fun h => by cases h) (eX11_takesOpen σ T len 3 6 hX (by decide) (by decide) (fun k => (false, k, [], [])) false rfl (fun h => by cases h) (fun h => absurd h (by decide))))) μ k cc hS hcc hop
  | o + 1, h => fun μ k cc hS hcc hop => by
    have ih := eX11_cond σ T len hX o (by omega)
    have he : 3 - (o + 1) + 1 = 3 - o := by omega
    have h0 := eX11_takesOpen σ T len (3 - (o + 1)) (4 * o + 10) hX (by omega) (by omega) (rCond (tK T len) (tV T len) o) true (decide_eq_true (by omega)).symm (fun _ => gd_cond tK_len o) (fun _ => by rw [he]; exact ih)
    have h1 := eX11_takesOne σ T len (3 - (o + 1)) (4 * o + 10 + 1) hX (by omega) (rCond (tK T len) (tV T len) o) true (fun _ => gd_cond tK_len o) h0
    have h2 := eX11_takesAll σ T len (3 - (o + 1)) (4 * o + 10 + 1 + 1) hX (by omega) (rOne (tK T len) (tV T len) (rCond (tK T len) (tV T len) o) true) (gd_one tK_len (fun _ => gd_cond tK_len o)) one_f h1
    have h3 := eX11_takesCondition σ T len (3 - (o + 1)) (4 * o + 10 + 1 + 1 + 1) hX (by omega) (rAll (tK T len) (tV T len) (rCond (tK T len) (tV T len) o) true) (gd_join tK_len (gd_one tK_len (fun _ => gd_cond tK_len o)) (by decide)) join_f h2 μ k cc hS hcc hop
    exact h3
