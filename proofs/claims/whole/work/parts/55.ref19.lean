theorem gS.r1 {T : Nat → Int32} {len k cc j : Nat} {μ : zM} {v : Int32} (h : gS T len μ k cc) : gS T len (zp μ 1 j v) k cc := by
  obtain ⟨⟨h1, h2⟩, ⟨h3, h4, h5⟩, h6, h7, h8, h9⟩ := h
  have e : ∀ i, zp μ 1 j v 0 i = μ 0 i := fun i => by rw [zp_ne (by decide)]
  exact ⟨⟨(e 6).trans h1, fun j hj => by rw [zp_ne (by decide)]; exact h2 j hj⟩, ⟨(e 9).trans h3, (e 8).trans h4, (e 10).trans h5⟩, fun q => (e 11).trans (h6 q), fun q => (e 11).trans (h7 q), h8, (e 14).trans h9⟩
/-- the deed: did it go, the token behind it (or at fault), deed, number -/
def rDo (K V : Nat → Int32) (k : Nat) : Bool × Nat × Int32 × Int32 :=
  if K k = 265 then (true, k + 1, 265, 0) else if K k = 263 ∨ K k = 264 then (if K (k + 1) = -2 ∧ V (k + 1) ≤ 99 then (true, k + 1 + 1, K k, V (k + 1)) else (false, k + 1, 0, 0)) else (false, k, 0, 0)
/-- only this of the reader's fields and of row 1 is written -/
def gF (lo : Nat → Prop) (μ ν : zM) : Prop := zJ [0, 1] μ ν ∧ (∀ j, j < 8 ∨ 14 < j → ν 0 j = μ 0 j) ∧ ∀ i, ¬ lo i → ν 1 i = μ 1 i
theorem gF.rf {lo : Nat → Prop} {μ : zM} : gF lo μ μ := ⟨zJ.rf, fun _ _ => rfl, fun _ _ => rfl⟩
theorem gF.tr {lo : Nat → Prop} {μ ν ξ : zM} (h : gF lo μ ν) (g : gF lo ν ξ) : gF lo μ ξ := ⟨h.1.tr g.1, fun j hj => (g.2.1 j hj).trans (h.2.1 j hj), fun i hi => (g.2.2 i hi).trans (h.2.2 i hi)⟩
theorem gF.mono {lo hi : Nat → Prop} {μ ν : zM} (h : gF lo μ ν) (hs : ∀ i, lo i → hi i) : gF hi μ ν := ⟨h.1, h.2.1, fun i q => h.2.2 i (fun z => q (hs i z))⟩
theorem gF.f {lo : Nat → Prop} {μ ν : zM} {j : Nat} {v : Int32} (h : gF lo μ ν) (h1 : 8 ≤ j) (h2 : j ≤ 14) : gF lo μ (zp ν 0 j v) := ⟨h.1.p (by decide), fun i hi => by rw [zp_eq, pk_un (by omega)]; exact h.2.1 i hi, fun i hi => by rw [zp_ne (by decide)]; exact h.2.2 i hi⟩
theorem gF.r {lo : Nat → Prop} {μ ν : zM} {j : Nat} {v : Int32} (h : gF lo μ ν) (hj : lo j) : gF lo μ (zp ν 1 j v) := ⟨h.1.p (by decide), fun i hi => by rw [zp_ne (by decide)]; exact h.2.1 i hi, fun i hi => by rw [zp_eq, pk_un (fun e => hi (by rw [e]; exact hj))]; exact h.2.2 i hi⟩
theorem gF.l {lo : Nat → Prop} {T : Nat → Int32} {len p : Nat} {μ ν ξ : zM} (h : gF lo μ ν) (g : gL T len p ν ξ) : gF lo μ ξ := ⟨h.1.tr (g.1.mono (by decide)), fun j hj => (g.2.1 j (by omega)).trans (h.2.1 j hj), fun i hi => by rw [g.1 1 (by decide)]; exact h.2.2 i hi⟩
theorem gF.e {μ ν ξ : zM} {lo : Nat → Prop} (h : gF lo μ ν) (g : gE ν ξ) (hl : ∀ i, 111 ≤ i → lo i) : gF lo μ ξ := ⟨h.1.tr g.1, fun j hj => (g.2.1 j hj).trans (h.2.1 j hj), fun i hi => (g.2.2 i (Nat.lt_of_not_le (fun z => hi (hl i z)))).trans (h.2.2 i hi)⟩
set_option maxHeartbeats 4000000 in
set_option maxRecDepth 100000 in
theorem eX11_takesDo_0 (σ : zG) (μ : zM) (nr : Nat) (T : Nat → Int32) (len k cc : Nat) (hnr : nr < 8) (hX : gX T len) (hS : gS T len μ k cc) : zMet shR σ 5 MX11_takesDo yX11_takesDo [zr 0, zi (nI (71 + 5 * nr))] μ (fun rr μ' => rr = some (zi (zb (rDo (tK T len) (tV T len) k).1)) ∧ gF (fun i => i = 71 + 5 * nr + 1 ∨ i = 71 + 5 * nr + 2) μ μ' ∧ μ' 0 13 = μ 0 13 ∧ μ' 0 14 = μ 0 14 ∧ ((rDo (tK T len) (tV T len) k).1 = true → gS T len μ' (rDo (tK T len) (tV T len) k).2.1 cc ∧ μ' 1 (71 + 5 * nr + 1) = (rDo (tK T len) (tV T len) k).2.2.1 - 263 ∧ μ' 1 (71 + 5 * nr + 2) = (rDo (tK T len) (tV T len) k).2.2.2) ∧ ((rDo (tK T len) (tV T len) k).1 = false → μ' 0 12 = nI (tS T len (rDo (tK T len) (tV T len) k).2.1))) := by
  refine zmetF (by decide +kernel) rfl (Nat.le_of_ble_eq_true rfl) ?_
  show zX shR σ 5 MX11_takesDo 0 [(0, zr 0), (1, zi (nI (71 + 5 * nr)))] [] μ _
  refine zx_aload_n (k := 0) (nn := 1) dX11_takesDo_0 rfl rfl rfl ?_
  refine zx_ldcSw (k := 7) (nn := 4) (by decide +kernel) dX11_takesDo_1 rfl ?_
  refine zx_callVf (nn := 7) (k := 0) (d' := 4) (as := [zr 207]) (rest := []) (n := 1) (eX11_isName_0 σ μ 7 T len (k) (cc) (by decide) hX (hS)) kX11_isName mlX11_196 rfl rfl rfl (by decide) rfl rfl (Nat.le_of_ble_eq_true rfl) dX11_takesDo_4 rfl ?_
  show zX shR σ 5 MX11_takesDo 7 [(0, zr 0), (1, zi (nI (71 + 5 * nr)))] [zi (zb (decide (tK T len (k) = nI (256 + 7))))] μ _
  refine zx_ifb_eq (tgt := 14) (nn := 10) dX11_takesDo_7 (by decide) rfl (fun h7 => ?_) (fun h7 => ?_)
  · refine zx_aload_n (k := 0) (nn := 15) dX11_takesDo_14 rfl rfl rfl ?_
    refine zx_ldcSw (k := 8) (nn := 18) (by decide +kernel) dX11_takesDo_15 rfl ?_
    refine zx_callVf (nn := 21) (k := 0) (d' := 4) (as := [zr 208]) (rest := []) (n := 1) (eX11_isName_0 σ μ 8 T len (k) (cc) (by decide) hX (hS)) kX11_isName mlX11_196 rfl rfl rfl (by decide) rfl rfl (Nat.le_of_ble_eq_true rfl) dX11_takesDo_18 rfl ?_
    show zX shR σ 5 MX11_takesDo 21 [(0, zr 0), (1, zi (nI (71 + 5 * nr)))] [zi (zb (decide (tK T len (k) = nI (256 + 8))))] μ _
    refine zx_ifb_eq (tgt := 28) (nn := 24) dX11_takesDo_21 (by decide) rfl (fun h21 => ?_) (fun h21 => ?_)
    · refine zx_aload_n (k := 0) (nn := 29) dX11_takesDo_28 rfl rfl rfl ?_
      refine zx_ldcSw (k := 9) (nn := 32) (by decide +kernel) dX11_takesDo_29 rfl ?_
      refine zx_callVf (nn := 35) (k := 0) (d' := 4) (as := [zr 209]) (rest := []) (n := 1) (eX11_isName_0 σ μ 9 T len (k) (cc) (by decide) hX (hS)) kX11_isName mlX11_196 rfl rfl rfl (by decide) rfl rfl (Nat.le_of_ble_eq_true rfl) dX11_takesDo_32 rfl ?_
      show zX shR σ 5 MX11_takesDo 35 [(0, zr 0), (1, zi (nI (71 + 5 * nr)))] [zi (zb (decide (tK T len (k) = nI (256 + 9))))] μ _
      refine zx_ifb_eq (tgt := 42) (nn := 38) dX11_takesDo_35 (by decide) rfl (fun h35 => ?_) (fun h35 => ?_)
      · refine zx_iconst (v := -1) (nn := 43) rfl dX11_takesDo_42 rfl ?_
        refine zx_istore_n (nn := 44) (lv' := [(2, zi (-1)), (0, zr 0), (1, zi (nI (71 + 5 * nr)))]) dX11_takesDo_43 rfl (by decide) rfl rfl ?_
        refine zx_iload_n (k := 0) (nn := 45) dX11_takesDo_44 rfl rfl rfl ?_
        refine zx_if_ge (tgt := 53) (nn := 48) dX11_takesDo_45 (by decide) rfl (fun h45 => ?_) (fun h45 => ?_)
        · exact absurd h45 (by decide)
        · refine zx_aload_n (k := 1) (nn := 49) dX11_takesDo_48 rfl rfl rfl ?_
          refine zx_callVf (nn := 52) (k := 0) (d' := 0) (as := []) (rest := []) (n := 0) (eX11_wrong_0 σ μ   ) kX11_wrong mlX11_223 rfl rfl rfl (by decide) rfl rfl (Nat.le_of_ble_eq_true rfl) dX11_takesDo_49 rfl ?_
          show zX shR σ 5 MX11_takesDo 52 [(2, zi (-1)), (0, zr 0), (1, zi (nI (71 + 5 * nr)))] [zi 0] (zp μ 0 12 (μ 0 9)) _
          refine zx_zret rfl rfl dX11_takesDo_52 ?_
          have hE : (rDo (tK T len) (tV T len) k) = (false, k, 0, 0) := by unfold rDo; rw [if_neg (show ¬ tK T len k = 265 from of_decide_eq_false h35), if_neg (fun q => q.elim (fun z => of_decide_eq_false h7 z) (fun z => of_decide_eq_false h21 z))]
          rw [hE]
          exact ⟨rfl, gF.rf.f (by omega) (by omega), by rw [zp_eq, pk_un (by decide)], by rw [zp_eq, pk_un (by decide)], (fun h => by cases h), fun _ => by rw [zp_eq, pk_us]; exact hS.2.1.1⟩
      · refine zx_iconst (v := 2) (nn := 39) rfl dX11_takesDo_38 rfl ?_
        refine zx_goto (tgt := 43) dX11_takesDo_39 (by decide) ?_
        refine zx_istore_n (nn := 44) (lv' := [(2, zi 2), (0, zr 0), (1, zi (nI (71 + 5 * nr)))]) dX11_takesDo_43 rfl (by decide) rfl rfl ?_
        refine zx_iload_n (k := 0) (nn := 45) dX11_takesDo_44 rfl rfl rfl ?_
        refine zx_if_ge (tgt := 53) (nn := 48) dX11_takesDo_45 (by decide) rfl (fun h45 => ?_) (fun h45 => ?_)
        · refine zx_aload_n (k := 1) (nn := 54) dX11_takesDo_53 rfl rfl rfl ?_
          have La : gS T len μ (k) (cc) := hS
          refine zx_callV (nn := 57) (k := 0) (d' := 1) (as := []) (rest := []) (n := 0) (eX11_look_0 σ μ T len (tP T len (k + 1)) La.1.1 hX.1 La.2.1.2.1 La.2.2.2.2.1.2.2 La.1.2) kX11_look mlX11_230 rfl rfl rfl (by decide) rfl rfl (Nat.le_of_ble_eq_true rfl) dX11_takesDo_54 rfl ?_
          rintro _ ν1 ⟨rfl, g1⟩
          show zX shR σ 5 MX11_takesDo 57 [(2, zi 2), (0, zr 0), (1, zi (nI (71 + 5 * nr)))] [] ν1 _
          have Sa : gS T len ν1 (k + 1) (cc) := La.look (by rw [of_decide_eq_true h35]; decide) rfl g1
          have Ea := gE.l g1
          have ea1 : ν1 1 = μ 1 := g1.1 1 (by decide)
          have eao : ν1 0 13 = μ 0 13 := g1.2.1 13 (by omega)
          refine zx_aload_n (k := 1) (nn := 58) dX11_takesDo_57 rfl rfl rfl ?_
          refine zx_getR (q := 1) (nn := 61) flX11_9 rfl rfl dX11_takesDo_58 rfl ?_
          refine zx_iload_n (k := 2) (nn := 62) dX11_takesDo_61 rfl rfl rfl ?_
          refine zx_iconst (v := 1) (nn := 63) rfl dX11_takesDo_62 rfl ?_
          refine zx_iadd (nn := 64) dX11_takesDo_63 rfl ?_
          rw [show (nI (71 + 5 * nr)) + 1 = nI (71 + 5 * nr + 1) from by simp only [show (2 : Int32) = nI 2 from rfl, show (3 : Int32) = nI 3 from rfl, show (1 : Int32) = nI 1 from rfl, show (4 : Int32) = nI 4 from rfl, show (5 : Int32) = nI 5 from rfl, show (7 : Int32) = nI 7 from rfl, show (31 : Int32) = nI 31 from rfl, show (47 : Int32) = nI 47 from rfl, show (71 : Int32) = nI 71 from rfl, show (111 : Int32) = nI 111 from rfl, nI_mulN, nI_add]]
          show zX shR σ 5 MX11_takesDo 64 [(2, zi 2), (0, zr 0), (1, zi (nI (71 + 5 * nr)))] [zi (nI (71 + 5 * nr + 1)), zr 1] ν1 _
          refine zx_iload_n (k := 0) (nn := 65) dX11_takesDo_64 rfl rfl rfl ?_
          refine zx_iast_n (j := 71 + 5 * nr + 1) (nn := 66) rfl (by omega) (by decide) dX11_takesDo_65 rfl ?_
          refine zx_aload_n (k := 1) (nn := 67) dX11_takesDo_66 rfl rfl rfl ?_
          refine zx_getR (q := 1) (nn := 70) flX11_9 rfl rfl dX11_takesDo_67 rfl ?_
          refine zx_iload_n (k := 2) (nn := 71) dX11_takesDo_70 rfl rfl rfl ?_
          refine zx_iconst (v := 2) (nn := 72) rfl dX11_takesDo_71 rfl ?_
          refine zx_iadd (nn := 73) dX11_takesDo_72 rfl ?_
          rw [show (nI (71 + 5 * nr)) + 2 = nI (71 + 5 * nr + 2) from by simp only [show (2 : Int32) = nI 2 from rfl, show (3 : Int32) = nI 3 from rfl, show (1 : Int32) = nI 1 from rfl, show (4 : Int32) = nI 4 from rfl, show (5 : Int32) = nI 5 from rfl, show (7 : Int32) = nI 7 from rfl, show (31 : Int32) = nI 31 from rfl, show (47 : Int32) = nI 47 from rfl, show (71 : Int32) = nI 71 from rfl, show (111 : Int32) = nI 111 from rfl, nI_mulN, nI_add]]
          show zX shR σ 5 MX11_takesDo 73 [(2, zi 2), (0, zr 0), (1, zi (nI (71 + 5 * nr)))] [zi (nI (71 + 5 * nr + 2)), zr 1] (zp ν1 1 (71 + 5 * nr + 1) 2) _
          refine zx_iconst (v := 0) (nn := 74) rfl dX11_takesDo_73 rfl ?_
          refine zx_iast_n (j := 71 + 5 * nr + 2) (nn := 75) rfl (by omega) (by decide) dX11_takesDo_74 rfl ?_
          refine zx_iload_n (k := 0) (nn := 76) dX11_takesDo_75 rfl rfl rfl ?_
          refine zx_iconst (v := 2) (nn := 77) rfl dX11_takesDo_76 rfl ?_
          refine zx_icmp_ne (tgt := 82) (nn := 80) dX11_takesDo_77 (by decide) rfl (fun h77 => ?_) (fun h77 => ?_)
          · exact absurd h77 (by decide)
          · refine zx_iconst (v := 1) (nn := 81) rfl dX11_takesDo_80 rfl ?_
            refine zx_zret rfl rfl dX11_takesDo_81 ?_
            have hk_ : tK T len k = 265 := of_decide_eq_true h35
            have hE : (rDo (tK T len) (tV T len) k) = (true, k + 1, 265, 0) := by unfold rDo; rw [if_pos hk_]
            rw [hE]
            exact ⟨rfl, ((gF.rf.l g1).r (Or.inl rfl)).r (Or.inr rfl), by rw [zp_ne (by decide), zp_ne (by decide)]; exact eao, by rw [zp_ne (by decide), zp_ne (by decide)]; exact (g1.2.1 14 (by omega)), fun _ => ⟨Sa.r1.r1, by rw [zp_eq, pk_un (by omega), zp_eq, pk_us]; show (2 : Int32) = 265 - 263; decide, by rw [zp_eq, pk_us]⟩, fun h => by cases h⟩
        · exact absurd h45 (by decide)
    · refine zx_iconst (v := 1) (nn := 25) rfl dX11_takesDo_24 rfl ?_
      refine zx_goto (tgt := 43) dX11_takesDo_25 (by decide) ?_
      refine zx_istore_n (nn := 44) (lv' := [(2, zi 1), (0, zr 0), (1, zi (nI (71 + 5 * nr)))]) dX11_takesDo_43 rfl (by decide) rfl rfl ?_
      refine zx_iload_n (k := 0) (nn := 45) dX11_takesDo_44 rfl rfl rfl ?_
      refine zx_if_ge (tgt := 53) (nn := 48) dX11_takesDo_45 (by decide) rfl (fun h45 => ?_) (fun h45 => ?_)
      · refine zx_aload_n (k := 1) (nn := 54) dX11_takesDo_53 rfl rfl rfl ?_
        have La : gS T len μ (k) (cc) := hS
        refine zx_callV (nn := 57) (k := 0) (d' := 1) (as := []) (rest := []) (n := 0) (eX11_look_0 σ μ T len (tP T len (k + 1)) La.1.1 hX.1 La.2.1.2.1 La.2.2.2.2.1.2.2 La.1.2) kX11_look mlX11_230 rfl rfl rfl (by decide) rfl rfl (Nat.le_of_ble_eq_true rfl) dX11_takesDo_54 rfl ?_
        rintro _ ν2 ⟨rfl, g2⟩
        show zX shR σ 5 MX11_takesDo 57 [(2, zi 1), (0, zr 0), (1, zi (nI (71 + 5 * nr)))] [] ν2 _
        have Sa : gS T len ν2 (k + 1) (cc) := La.look (by rw [of_decide_eq_true h21]; decide) rfl g2
        have Ea := gE.l g2
        have ea1 : ν2 1 = μ 1 := g2.1 1 (by decide)
        have eao : ν2 0 13 = μ 0 13 := g2.2.1 13 (by omega)
        refine zx_aload_n (k := 1) (nn := 58) dX11_takesDo_57 rfl rfl rfl ?_
        refine zx_getR (q := 1) (nn := 61) flX11_9 rfl rfl dX11_takesDo_58 rfl ?_
        refine zx_iload_n (k := 2) (nn := 62) dX11_takesDo_61 rfl rfl rfl ?_
        refine zx_iconst (v := 1) (nn := 63) rfl dX11_takesDo_62 rfl ?_
        refine zx_iadd (nn := 64) dX11_takesDo_63 rfl ?_
        rw [show (nI (71 + 5 * nr)) + 1 = nI (71 + 5 * nr + 1) from by simp only [show (2 : Int32) = nI 2 from rfl, show (3 : Int32) = nI 3 from rfl, show (1 : Int32) = nI 1 from rfl, show (4 : Int32) = nI 4 from rfl, show (5 : Int32) = nI 5 from rfl, show (7 : Int32) = nI 7 from rfl, show (31 : Int32) = nI 31 from rfl, show (47 : Int32) = nI 47 from rfl, show (71 : Int32) = nI 71 from rfl, show (111 : Int32) = nI 111 from rfl, nI_mulN, nI_add]]
        show zX shR σ 5 MX11_takesDo 64 [(2, zi 1), (0, zr 0), (1, zi (nI (71 + 5 * nr)))] [zi (nI (71 + 5 * nr + 1)), zr 1] ν2 _
        refine zx_iload_n (k := 0) (nn := 65) dX11_takesDo_64 rfl rfl rfl ?_
        refine zx_iast_n (j := 71 + 5 * nr + 1) (nn := 66) rfl (by omega) (by decide) dX11_takesDo_65 rfl ?_
        refine zx_aload_n (k := 1) (nn := 67) dX11_takesDo_66 rfl rfl rfl ?_
        refine zx_getR (q := 1) (nn := 70) flX11_9 rfl rfl dX11_takesDo_67 rfl ?_
        refine zx_iload_n (k := 2) (nn := 71) dX11_takesDo_70 rfl rfl rfl ?_
        refine zx_iconst (v := 2) (nn := 72) rfl dX11_takesDo_71 rfl ?_
        refine zx_iadd (nn := 73) dX11_takesDo_72 rfl ?_
        rw [show (nI (71 + 5 * nr)) + 2 = nI (71 + 5 * nr + 2) from by simp only [show (2 : Int32) = nI 2 from rfl, show (3 : Int32) = nI 3 from rfl, show (1 : Int32) = nI 1 from rfl, show (4 : Int32) = nI 4 from rfl, show (5 : Int32) = nI 5 from rfl, show (7 : Int32) = nI 7 from rfl, show (31 : Int32) = nI 31 from rfl, show (47 : Int32) = nI 47 from rfl, show (71 : Int32) = nI 71 from rfl, show (111 : Int32) = nI 111 from rfl, nI_mulN, nI_add]]
        show zX shR σ 5 MX11_takesDo 73 [(2, zi 1), (0, zr 0), (1, zi (nI (71 + 5 * nr)))] [zi (nI (71 + 5 * nr + 2)), zr 1] (zp ν2 1 (71 + 5 * nr + 1) 1) _
        refine zx_iconst (v := 0) (nn := 74) rfl dX11_takesDo_73 rfl ?_
        refine zx_iast_n (j := 71 + 5 * nr + 2) (nn := 75) rfl (by omega) (by decide) dX11_takesDo_74 rfl ?_
        refine zx_iload_n (k := 0) (nn := 76) dX11_takesDo_75 rfl rfl rfl ?_
        refine zx_iconst (v := 2) (nn := 77) rfl dX11_takesDo_76 rfl ?_
        refine zx_icmp_ne (tgt := 82) (nn := 80) dX11_takesDo_77 (by decide) rfl (fun h77 => ?_) (fun h77 => ?_)
        · refine zx_aload_n (k := 1) (nn := 83) dX11_takesDo_82 rfl rfl rfl ?_
          refine zx_getI (nn := 86) flX11_167 rfl rfl dX11_takesDo_83 rfl ?_
          show zX shR σ 5 MX11_takesDo 86 [(2, zi 1), (0, zr 0), (1, zi (nI (71 + 5 * nr)))] [zi (ν2 0 10)] (zp (zp ν2 1 (71 + 5 * nr + 1) 1) 1 (71 + 5 * nr + 2) 0) _
          rw [show ν2 0 10 = gTk T len (k + 1) from Sa.2.1.2.2]
          show zX shR σ 5 MX11_takesDo 86 [(2, zi 1), (0, zr 0), (1, zi (nI (71 + 5 * nr)))] [zi (gTk T len (k + 1))] (zp (zp ν2 1 (71 + 5 * nr + 1) 1) 1 (71 + 5 * nr + 2) 0) _
          refine zx_iconst (v := 2) (nn := 87) rfl dX11_takesDo_86 rfl ?_
          refine zx_icmp_ne (tgt := 99) (nn := 90) dX11_takesDo_87 (by decide) rfl (fun h87 => ?_) (fun h87 => ?_)
          · refine zx_aload_n (k := 1) (nn := 100) dX11_takesDo_99 rfl rfl rfl ?_
            refine zx_callVf (nn := 103) (k := 0) (d' := 0) (as := []) (rest := []) (n := 0) (eX11_wrong_0 σ (zp (zp ν2 1 (71 + 5 * nr + 1) 1) 1 (71 + 5 * nr + 2) 0)   ) kX11_wrong mlX11_223 rfl rfl rfl (by decide) rfl rfl (Nat.le_of_ble_eq_true rfl) dX11_takesDo_100 rfl ?_
            show zX shR σ 5 MX11_takesDo 103 [(2, zi 1), (0, zr 0), (1, zi (nI (71 + 5 * nr)))] [zi 0] (zp (zp (zp ν2 1 (71 + 5 * nr + 1) 1) 1 (71 + 5 * nr + 2) 0) 0 12 ((zp (zp ν2 1 (71 + 5 * nr + 1) 1) 1 (71 + 5 * nr + 2) 0) 0 9)) _
            refine zx_zret rfl rfl dX11_takesDo_103 ?_
            have hk_ : tK T len k = 264 := of_decide_eq_true h21
            have hE : (rDo (tK T len) (tV T len) k) = (false, k + 1, 0, 0) := by unfold rDo; rw [if_neg (show ¬ tK T len k = 265 by rw [hk_]; decide), if_pos (show tK T len k = 263 ∨ tK T len k = 264 from Or.inr hk_), if_neg (fun q => h87 ((K_2 hX).mpr q.1))]
            rw [hE]
            exact ⟨rfl, (((gF.rf.l g2).r (Or.inl rfl)).r (Or.inr rfl)).f (by omega) (by omega), by rw [zp_eq, pk_un (by decide), zp_ne (by decide), zp_ne (by decide)]; exact eao, by rw [zp_eq, pk_un (by decide), zp_ne (by decide), zp_ne (by decide)]; exact g2.2.1 14 (by omega), (fun h => by cases h), fun _ => by rw [zp_eq, pk_us]; exact Sa.2.1.1⟩
          · refine zx_aload_n (k := 1) (nn := 91) dX11_takesDo_90 rfl rfl rfl ?_
            refine zx_getI (nn := 94) flX11_176 rfl rfl dX11_takesDo_91 rfl ?_
            show zX shR σ 5 MX11_takesDo 94 [(2, zi 1), (0, zr 0), (1, zi (nI (71 + 5 * nr)))] [zi (ν2 0 11)] (zp (zp ν2 1 (71 + 5 * nr + 1) 1) 1 (71 + 5 * nr + 2) 0) _
            rw [show ν2 0 11 = tV T len (k + 1) from Sa.2.2.1 h87]
            show zX shR σ 5 MX11_takesDo 94 [(2, zi 1), (0, zr 0), (1, zi (nI (71 + 5 * nr)))] [zi (tV T len (k + 1))] (zp (zp ν2 1 (71 + 5 * nr + 1) 1) 1 (71 + 5 * nr + 2) 0) _
            refine zx_bipush (v := 99) (nn := 96) rfl dX11_takesDo_94 rfl ?_
            refine zx_icmp_le (tgt := 104) (nn := 99) dX11_takesDo_96 (by decide) rfl (fun h96 => ?_) (fun h96 => ?_)
            · refine zx_aload_n (k := 1) (nn := 105) dX11_takesDo_104 rfl rfl rfl ?_
              refine zx_getR (q := 1) (nn := 108) flX11_9 rfl rfl dX11_takesDo_105 rfl ?_
              refine zx_iload_n (k := 2) (nn := 109) dX11_takesDo_108 rfl rfl rfl ?_
              refine zx_iconst (v := 2) (nn := 110) rfl dX11_takesDo_109 rfl ?_
              refine zx_iadd (nn := 111) dX11_takesDo_110 rfl ?_
              rw [show (nI (71 + 5 * nr)) + 2 = nI (71 + 5 * nr + 2) from by simp only [show (2 : Int32) = nI 2 from rfl, show (3 : Int32) = nI 3 from rfl, show (1 : Int32) = nI 1 from rfl, show (4 : Int32) = nI 4 from rfl, show (5 : Int32) = nI 5 from rfl, show (7 : Int32) = nI 7 from rfl, show (31 : Int32) = nI 31 from rfl, show (47 : Int32) = nI 47 from rfl, show (71 : Int32) = nI 71 from rfl, show (111 : Int32) = nI 111 from rfl, nI_mulN, nI_add]]
              show zX shR σ 5 MX11_takesDo 111 [(2, zi 1), (0, zr 0), (1, zi (nI (71 + 5 * nr)))] [zi (nI (71 + 5 * nr + 2)), zr 1] (zp (zp ν2 1 (71 + 5 * nr + 1) 1) 1 (71 + 5 * nr + 2) 0) _
              refine zx_aload_n (k := 1) (nn := 112) dX11_takesDo_111 rfl rfl rfl ?_
              refine zx_getI (nn := 115) flX11_176 rfl rfl dX11_takesDo_112 rfl ?_
              show zX shR σ 5 MX11_takesDo 115 [(2, zi 1), (0, zr 0), (1, zi (nI (71 + 5 * nr)))] [zi (ν2 0 11), zi (nI (71 + 5 * nr + 2)), zr 1] (zp (zp ν2 1 (71 + 5 * nr + 1) 1) 1 (71 + 5 * nr + 2) 0) _
              rw [show ν2 0 11 = tV T len (k + 1) from Sa.2.2.1 h87]
              show zX shR σ 5 MX11_takesDo 115 [(2, zi 1), (0, zr 0), (1, zi (nI (71 + 5 * nr)))] [zi (tV T len (k + 1)), zi (nI (71 + 5 * nr + 2)), zr 1] (zp (zp ν2 1 (71 + 5 * nr + 1) 1) 1 (71 + 5 * nr + 2) 0) _
              refine zx_iast_n (j := 71 + 5 * nr + 2) (nn := 116) rfl (by omega) (by decide) dX11_takesDo_115 rfl ?_
              refine zx_aload_n (k := 1) (nn := 117) dX11_takesDo_116 rfl rfl rfl ?_
              have Lb : gS T len (zp (zp (zp ν2 1 (71 + 5 * nr + 1) 1) 1 (71 + 5 * nr + 2) 0) 1 (71 + 5 * nr + 2) (tV T len (k + 1))) ((k + 1)) (cc) := Sa.r1.r1.r1
              refine zx_callV (nn := 120) (k := 0) (d' := 1) (as := []) (rest := []) (n := 0) (eX11_look_0 σ (zp (zp (zp ν2 1 (71 + 5 * nr + 1) 1) 1 (71 + 5 * nr + 2) 0) 1 (71 + 5 * nr + 2) (tV T len (k + 1))) T len (tP T len ((k + 1) + 1)) Lb.1.1 hX.1 Lb.2.1.2.1 Lb.2.2.2.2.1.2.2 Lb.1.2) kX11_look mlX11_230 rfl rfl rfl (by decide) rfl rfl (Nat.le_of_ble_eq_true rfl) dX11_takesDo_117 rfl ?_
              rintro _ ν3 ⟨rfl, g3⟩
              show zX shR σ 5 MX11_takesDo 120 [(2, zi 1), (0, zr 0), (1, zi (nI (71 + 5 * nr)))] [] ν3 _
              have Sb : gS T len ν3 ((k + 1) + 1) (cc) := Lb.look (by rw [(K_2 hX).mp h87]; decide) rfl g3
              have Eb := gE.l g3
              have eb1 : ν3 1 = (zp (zp (zp ν2 1 (71 + 5 * nr + 1) 1) 1 (71 + 5 * nr + 2) 0) 1 (71 + 5 * nr + 2) (tV T len (k + 1))) 1 := g3.1 1 (by decide)
              have ebo : ν3 0 13 = (zp (zp (zp ν2 1 (71 + 5 * nr + 1) 1) 1 (71 + 5 * nr + 2) 0) 1 (71 + 5 * nr + 2) (tV T len (k + 1))) 0 13 := g3.2.1 13 (by omega)
              refine zx_iconst (v := 1) (nn := 121) rfl dX11_takesDo_120 rfl ?_
              refine zx_zret rfl rfl dX11_takesDo_121 ?_
              have hk_ : tK T len k = 264 := of_decide_eq_true h21
              have hE : (rDo (tK T len) (tV T len) k) = (true, k + 1 + 1, tK T len k, tV T len (k + 1)) := by unfold rDo; rw [if_neg (show ¬ tK T len k = 265 by rw [hk_]; decide), if_pos (show tK T len k = 263 ∨ tK T len k = 264 from Or.inr hk_), if_pos ⟨(K_2 hX).mp h87, h96⟩]
              rw [hE]
              exact ⟨rfl, ((((gF.rf.l g2).r (Or.inl rfl)).r (Or.inr rfl)).r (Or.inr rfl)).l g3, by rw [ebo, zp_ne (by decide), zp_ne (by decide), zp_ne (by decide)]; exact eao, by rw [g3.2.1 14 (by omega), zp_ne (by decide), zp_ne (by decide), zp_ne (by decide)]; exact g2.2.1 14 (by omega), fun _ => ⟨Sb, by rw [eb1, zp_eq, pk_un (by omega), zp_eq, pk_un (by omega), zp_eq, pk_us, hk_]; show (1 : Int32) = 264 - 263; decide, by rw [eb1, zp_eq, pk_us]⟩, fun h => by cases h⟩
            · refine zx_aload_n (k := 1) (nn := 100) dX11_takesDo_99 rfl rfl rfl ?_
              refine zx_callVf (nn := 103) (k := 0) (d' := 0) (as := []) (rest := []) (n := 0) (eX11_wrong_0 σ (zp (zp ν2 1 (71 + 5 * nr + 1) 1) 1 (71 + 5 * nr + 2) 0)   ) kX11_wrong mlX11_223 rfl rfl rfl (by decide) rfl rfl (Nat.le_of_ble_eq_true rfl) dX11_takesDo_100 rfl ?_
              show zX shR σ 5 MX11_takesDo 103 [(2, zi 1), (0, zr 0), (1, zi (nI (71 + 5 * nr)))] [zi 0] (zp (zp (zp ν2 1 (71 + 5 * nr + 1) 1) 1 (71 + 5 * nr + 2) 0) 0 12 ((zp (zp ν2 1 (71 + 5 * nr + 1) 1) 1 (71 + 5 * nr + 2) 0) 0 9)) _
              refine zx_zret rfl rfl dX11_takesDo_103 ?_
              have hk_ : tK T len k = 264 := of_decide_eq_true h21
              have hE : (rDo (tK T len) (tV T len) k) = (false, k + 1, 0, 0) := by unfold rDo; rw [if_neg (show ¬ tK T len k = 265 by rw [hk_]; decide), if_pos (show tK T len k = 263 ∨ tK T len k = 264 from Or.inr hk_), if_neg (fun q => h96 q.2)]
              rw [hE]
              exact ⟨rfl, (((gF.rf.l g2).r (Or.inl rfl)).r (Or.inr rfl)).f (by omega) (by omega), by rw [zp_eq, pk_un (by decide), zp_ne (by decide), zp_ne (by decide)]; exact eao, by rw [zp_eq, pk_un (by decide), zp_ne (by decide), zp_ne (by decide)]; exact g2.2.1 14 (by omega), (fun h => by cases h), fun _ => by rw [zp_eq, pk_us]; exact Sa.2.1.1⟩
        · exact absurd h77 (by decide)
      · exact absurd h45 (by decide)
  · refine zx_iconst (v := 0) (nn := 11) rfl dX11_takesDo_10 rfl ?_
    refine zx_goto (tgt := 43) dX11_takesDo_11 (by decide) ?_
    refine zx_istore_n (nn := 44) (lv' := [(2, zi 0), (0, zr 0), (1, zi (nI (71 + 5 * nr)))]) dX11_takesDo_43 rfl (by decide) rfl rfl ?_
    refine zx_iload_n (k := 0) (nn := 45) dX11_takesDo_44 rfl rfl rfl ?_
    refine zx_if_ge (tgt := 53) (nn := 48) dX11_takesDo_45 (by decide) rfl (fun h45 => ?_) (fun h45 => ?_)
    · refine zx_aload_n (k := 1) (nn := 54) dX11_takesDo_53 rfl rfl rfl ?_
      have La : gS T len μ (k) (cc) := hS
      refine zx_callV (nn := 57) (k := 0) (d' := 1) (as := []) (rest := []) (n := 0) (eX11_look_0 σ μ T len (tP T len (k + 1)) La.1.1 hX.1 La.2.1.2.1 La.2.2.2.2.1.2.2 La.1.2) kX11_look mlX11_230 rfl rfl rfl (by decide) rfl rfl (Nat.le_of_ble_eq_true rfl) dX11_takesDo_54 rfl ?_
      rintro _ ν4 ⟨rfl, g4⟩
      show zX shR σ 5 MX11_takesDo 57 [(2, zi 0), (0, zr 0), (1, zi (nI (71 + 5 * nr)))] [] ν4 _
      have Sa : gS T len ν4 (k + 1) (cc) := La.look (by rw [of_decide_eq_true h7]; decide) rfl g4
      have Ea := gE.l g4
      have ea1 : ν4 1 = μ 1 := g4.1 1 (by decide)
      have eao : ν4 0 13 = μ 0 13 := g4.2.1 13 (by omega)
      refine zx_aload_n (k := 1) (nn := 58) dX11_takesDo_57 rfl rfl rfl ?_
      refine zx_getR (q := 1) (nn := 61) flX11_9 rfl rfl dX11_takesDo_58 rfl ?_
      refine zx_iload_n (k := 2) (nn := 62) dX11_takesDo_61 rfl rfl rfl ?_
      refine zx_iconst (v := 1) (nn := 63) rfl dX11_takesDo_62 rfl ?_
      refine zx_iadd (nn := 64) dX11_takesDo_63 rfl ?_
      rw [show (nI (71 + 5 * nr)) + 1 = nI (71 + 5 * nr + 1) from by simp only [show (2 : Int32) = nI 2 from rfl, show (3 : Int32) = nI 3 from rfl, show (1 : Int32) = nI 1 from rfl, show (4 : Int32) = nI 4 from rfl, show (5 : Int32) = nI 5 from rfl, show (7 : Int32) = nI 7 from rfl, show (31 : Int32) = nI 31 from rfl, show (47 : Int32) = nI 47 from rfl, show (71 : Int32) = nI 71 from rfl, show (111 : Int32) = nI 111 from rfl, nI_mulN, nI_add]]
      show zX shR σ 5 MX11_takesDo 64 [(2, zi 0), (0, zr 0), (1, zi (nI (71 + 5 * nr)))] [zi (nI (71 + 5 * nr + 1)), zr 1] ν4 _
      refine zx_iload_n (k := 0) (nn := 65) dX11_takesDo_64 rfl rfl rfl ?_
      refine zx_iast_n (j := 71 + 5 * nr + 1) (nn := 66) rfl (by omega) (by decide) dX11_takesDo_65 rfl ?_
      refine zx_aload_n (k := 1) (nn := 67) dX11_takesDo_66 rfl rfl rfl ?_
      refine zx_getR (q := 1) (nn := 70) flX11_9 rfl rfl dX11_takesDo_67 rfl ?_
      refine zx_iload_n (k := 2) (nn := 71) dX11_takesDo_70 rfl rfl rfl ?_
      refine zx_iconst (v := 2) (nn := 72) rfl dX11_takesDo_71 rfl ?_
      refine zx_iadd (nn := 73) dX11_takesDo_72 rfl ?_
      rw [show (nI (71 + 5 * nr)) + 2 = nI (71 + 5 * nr + 2) from by simp only [show (2 : Int32) = nI 2 from rfl, show (3 : Int32) = nI 3 from rfl, show (1 : Int32) = nI 1 from rfl, show (4 : Int32) = nI 4 from rfl, show (5 : Int32) = nI 5 from rfl, show (7 : Int32) = nI 7 from rfl, show (31 : Int32) = nI 31 from rfl, show (47 : Int32) = nI 47 from rfl, show (71 : Int32) = nI 71 from rfl, show (111 : Int32) = nI 111 from rfl, nI_mulN, nI_add]]
      show zX shR σ 5 MX11_takesDo 73 [(2, zi 0), (0, zr 0), (1, zi (nI (71 + 5 * nr)))] [zi (nI (71 + 5 * nr + 2)), zr 1] (zp ν4 1 (71 + 5 * nr + 1) 0) _
      refine zx_iconst (v := 0) (nn := 74) rfl dX11_takesDo_73 rfl ?_
      refine zx_iast_n (j := 71 + 5 * nr + 2) (nn := 75) rfl (by omega) (by decide) dX11_takesDo_74 rfl ?_
      refine zx_iload_n (k := 0) (nn := 76) dX11_takesDo_75 rfl rfl rfl ?_
      refine zx_iconst (v := 2) (nn := 77) rfl dX11_takesDo_76 rfl ?_
      refine zx_icmp_ne (tgt := 82) (nn := 80) dX11_takesDo_77 (by decide) rfl (fun h77 => ?_) (fun h77 => ?_)
      · refine zx_aload_n (k := 1) (nn := 83) dX11_takesDo_82 rfl rfl rfl ?_
        refine zx_getI (nn := 86) flX11_167 rfl rfl dX11_takesDo_83 rfl ?_
        show zX shR σ 5 MX11_takesDo 86 [(2, zi 0), (0, zr 0), (1, zi (nI (71 + 5 * nr)))] [zi (ν4 0 10)] (zp (zp ν4 1 (71 + 5 * nr + 1) 0) 1 (71 + 5 * nr + 2) 0) _
        rw [show ν4 0 10 = gTk T len (k + 1) from Sa.2.1.2.2]
        show zX shR σ 5 MX11_takesDo 86 [(2, zi 0), (0, zr 0), (1, zi (nI (71 + 5 * nr)))] [zi (gTk T len (k + 1))] (zp (zp ν4 1 (71 + 5 * nr + 1) 0) 1 (71 + 5 * nr + 2) 0) _
        refine zx_iconst (v := 2) (nn := 87) rfl dX11_takesDo_86 rfl ?_
        refine zx_icmp_ne (tgt := 99) (nn := 90) dX11_takesDo_87 (by decide) rfl (fun h87 => ?_) (fun h87 => ?_)
        · refine zx_aload_n (k := 1) (nn := 100) dX11_takesDo_99 rfl rfl rfl ?_
          refine zx_callVf (nn := 103) (k := 0) (d' := 0) (as := []) (rest := []) (n := 0) (eX11_wrong_0 σ (zp (zp ν4 1 (71 + 5 * nr + 1) 0) 1 (71 + 5 * nr + 2) 0)   ) kX11_wrong mlX11_223 rfl rfl rfl (by decide) rfl rfl (Nat.le_of_ble_eq_true rfl) dX11_takesDo_100 rfl ?_
          show zX shR σ 5 MX11_takesDo 103 [(2, zi 0), (0, zr 0), (1, zi (nI (71 + 5 * nr)))] [zi 0] (zp (zp (zp ν4 1 (71 + 5 * nr + 1) 0) 1 (71 + 5 * nr + 2) 0) 0 12 ((zp (zp ν4 1 (71 + 5 * nr + 1) 0) 1 (71 + 5 * nr + 2) 0) 0 9)) _
          refine zx_zret rfl rfl dX11_takesDo_103 ?_
          have hk_ : tK T len k = 263 := of_decide_eq_true h7
          have hE : (rDo (tK T len) (tV T len) k) = (false, k + 1, 0, 0) := by unfold rDo; rw [if_neg (show ¬ tK T len k = 265 by rw [hk_]; decide), if_pos (show tK T len k = 263 ∨ tK T len k = 264 from Or.inl hk_), if_neg (fun q => h87 ((K_2 hX).mpr q.1))]
          rw [hE]
          exact ⟨rfl, (((gF.rf.l g4).r (Or.inl rfl)).r (Or.inr rfl)).f (by omega) (by omega), by rw [zp_eq, pk_un (by decide), zp_ne (by decide), zp_ne (by decide)]; exact eao, by rw [zp_eq, pk_un (by decide), zp_ne (by decide), zp_ne (by decide)]; exact g4.2.1 14 (by omega), (fun h => by cases h), fun _ => by rw [zp_eq, pk_us]; exact Sa.2.1.1⟩
        · refine zx_aload_n (k := 1) (nn := 91) dX11_takesDo_90 rfl rfl rfl ?_
          refine zx_getI (nn := 94) flX11_176 rfl rfl dX11_takesDo_91 rfl ?_
          show zX shR σ 5 MX11_takesDo 94 [(2, zi 0), (0, zr 0), (1, zi (nI (71 + 5 * nr)))] [zi (ν4 0 11)] (zp (zp ν4 1 (71 + 5 * nr + 1) 0) 1 (71 + 5 * nr + 2) 0) _
          rw [show ν4 0 11 = tV T len (k + 1) from Sa.2.2.1 h87]
          show zX shR σ 5 MX11_takesDo 94 [(2, zi 0), (0, zr 0), (1, zi (nI (71 + 5 * nr)))] [zi (tV T len (k + 1))] (zp (zp ν4 1 (71 + 5 * nr + 1) 0) 1 (71 + 5 * nr + 2) 0) _
          refine zx_bipush (v := 99) (nn := 96) rfl dX11_takesDo_94 rfl ?_
          refine zx_icmp_le (tgt := 104) (nn := 99) dX11_takesDo_96 (by decide) rfl (fun h96 => ?_) (fun h96 => ?_)
          · refine zx_aload_n (k := 1) (nn := 105) dX11_takesDo_104 rfl rfl rfl ?_
            refine zx_getR (q := 1) (nn := 108) flX11_9 rfl rfl dX11_takesDo_105 rfl ?_
            refine zx_iload_n (k := 2) (nn := 109) dX11_takesDo_108 rfl rfl rfl ?_
            refine zx_iconst (v := 2) (nn := 110) rfl dX11_takesDo_109 rfl ?_
            refine zx_iadd (nn := 111) dX11_takesDo_110 rfl ?_
            rw [show (nI (71 + 5 * nr)) + 2 = nI (71 + 5 * nr + 2) from by simp only [show (2 : Int32) = nI 2 from rfl, show (3 : Int32) = nI 3 from rfl, show (1 : Int32) = nI 1 from rfl, show (4 : Int32) = nI 4 from rfl, show (5 : Int32) = nI 5 from rfl, show (7 : Int32) = nI 7 from rfl, show (31 : Int32) = nI 31 from rfl, show (47 : Int32) = nI 47 from rfl, show (71 : Int32) = nI 71 from rfl, show (111 : Int32) = nI 111 from rfl, nI_mulN, nI_add]]
            show zX shR σ 5 MX11_takesDo 111 [(2, zi 0), (0, zr 0), (1, zi (nI (71 + 5 * nr)))] [zi (nI (71 + 5 * nr + 2)), zr 1] (zp (zp ν4 1 (71 + 5 * nr + 1) 0) 1 (71 + 5 * nr + 2) 0) _
            refine zx_aload_n (k := 1) (nn := 112) dX11_takesDo_111 rfl rfl rfl ?_
            refine zx_getI (nn := 115) flX11_176 rfl rfl dX11_takesDo_112 rfl ?_
            show zX shR σ 5 MX11_takesDo 115 [(2, zi 0), (0, zr 0), (1, zi (nI (71 + 5 * nr)))] [zi (ν4 0 11), zi (nI (71 + 5 * nr + 2)), zr 1] (zp (zp ν4 1 (71 + 5 * nr + 1) 0) 1 (71 + 5 * nr + 2) 0) _
            rw [show ν4 0 11 = tV T len (k + 1) from Sa.2.2.1 h87]
            show zX shR σ 5 MX11_takesDo 115 [(2, zi 0), (0, zr 0), (1, zi (nI (71 + 5 * nr)))] [zi (tV T len (k + 1)), zi (nI (71 + 5 * nr + 2)), zr 1] (zp (zp ν4 1 (71 + 5 * nr + 1) 0) 1 (71 + 5 * nr + 2) 0) _
            refine zx_iast_n (j := 71 + 5 * nr + 2) (nn := 116) rfl (by omega) (by decide) dX11_takesDo_115 rfl ?_
            refine zx_aload_n (k := 1) (nn := 117) dX11_takesDo_116 rfl rfl rfl ?_
            have Lb : gS T len (zp (zp (zp ν4 1 (71 + 5 * nr + 1) 0) 1 (71 + 5 * nr + 2) 0) 1 (71 + 5 * nr + 2) (tV T len (k + 1))) ((k + 1)) (cc) := Sa.r1.r1.r1
            refine zx_callV (nn := 120) (k := 0) (d' := 1) (as := []) (rest := []) (n := 0) (eX11_look_0 σ (zp (zp (zp ν4 1 (71 + 5 * nr + 1) 0) 1 (71 + 5 * nr + 2) 0) 1 (71 + 5 * nr + 2) (tV T len (k + 1))) T len (tP T len ((k + 1) + 1)) Lb.1.1 hX.1 Lb.2.1.2.1 Lb.2.2.2.2.1.2.2 Lb.1.2) kX11_look mlX11_230 rfl rfl rfl (by decide) rfl rfl (Nat.le_of_ble_eq_true rfl) dX11_takesDo_117 rfl ?_
            rintro _ ν5 ⟨rfl, g5⟩
            show zX shR σ 5 MX11_takesDo 120 [(2, zi 0), (0, zr 0), (1, zi (nI (71 + 5 * nr)))] [] ν5 _
            have Sb : gS T len ν5 ((k + 1) + 1) (cc) := Lb.look (by rw [(K_2 hX).mp h87]; decide) rfl g5
            have Eb := gE.l g5
            have eb1 : ν5 1 = (zp (zp (zp ν4 1 (71 + 5 * nr + 1) 0) 1 (71 + 5 * nr + 2) 0) 1 (71 + 5 * nr + 2) (tV T len (k + 1))) 1 := g5.1 1 (by decide)
            have ebo : ν5 0 13 = (zp (zp (zp ν4 1 (71 + 5 * nr + 1) 0) 1 (71 + 5 * nr + 2) 0) 1 (71 + 5 * nr + 2) (tV T len (k + 1))) 0 13 := g5.2.1 13 (by omega)
            refine zx_iconst (v := 1) (nn := 121) rfl dX11_takesDo_120 rfl ?_
            refine zx_zret rfl rfl dX11_takesDo_121 ?_
            have hk_ : tK T len k = 263 := of_decide_eq_true h7
            have hE : (rDo (tK T len) (tV T len) k) = (true, k + 1 + 1, tK T len k, tV T len (k + 1)) := by unfold rDo; rw [if_neg (show ¬ tK T len k = 265 by rw [hk_]; decide), if_pos (show tK T len k = 263 ∨ tK T len k = 264 from Or.inl hk_), if_pos ⟨(K_2 hX).mp h87, h96⟩]
            rw [hE]
            exact ⟨rfl, ((((gF.rf.l g4).r (Or.inl rfl)).r (Or.inr rfl)).r (Or.inr rfl)).l g5, by rw [ebo, zp_ne (by decide), zp_ne (by decide), zp_ne (by decide)]; exact eao, by rw [g5.2.1 14 (by omega), zp_ne (by decide), zp_ne (by decide), zp_ne (by decide)]; exact g4.2.1 14 (by omega), fun _ => ⟨Sb, by rw [eb1, zp_eq, pk_un (by omega), zp_eq, pk_un (by omega), zp_eq, pk_us, hk_]; show (0 : Int32) = 263 - 263; decide, by rw [eb1, zp_eq, pk_us]⟩, fun h => by cases h⟩
          · refine zx_aload_n (k := 1) (nn := 100) dX11_takesDo_99 rfl rfl rfl ?_
            refine zx_callVf (nn := 103) (k := 0) (d' := 0) (as := []) (rest := []) (n := 0) (eX11_wrong_0 σ (zp (zp ν4 1 (71 + 5 * nr + 1) 0) 1 (71 + 5 * nr + 2) 0)   ) kX11_wrong mlX11_223 rfl rfl rfl (by decide) rfl rfl (Nat.le_of_ble_eq_true rfl) dX11_takesDo_100 rfl ?_
            show zX shR σ 5 MX11_takesDo 103 [(2, zi 0), (0, zr 0), (1, zi (nI (71 + 5 * nr)))] [zi 0] (zp (zp (zp ν4 1 (71 + 5 * nr + 1) 0) 1 (71 + 5 * nr + 2) 0) 0 12 ((zp (zp ν4 1 (71 + 5 * nr + 1) 0) 1 (71 + 5 * nr + 2) 0) 0 9)) _
            refine zx_zret rfl rfl dX11_takesDo_103 ?_
            have hk_ : tK T len k = 263 := of_decide_eq_true h7
            have hE : (rDo (tK T len) (tV T len) k) = (false, k + 1, 0, 0) := by unfold rDo; rw [if_neg (show ¬ tK T len k = 265 by rw [hk_]; decide), if_pos (show tK T len k = 263 ∨ tK T len k = 264 from Or.inl hk_), if_neg (fun q => h96 q.2)]
            rw [hE]
            exact ⟨rfl, (((gF.rf.l g4).r (Or.inl rfl)).r (Or.inr rfl)).f (by omega) (by omega), by rw [zp_eq, pk_un (by decide), zp_ne (by decide), zp_ne (by decide)]; exact eao, by rw [zp_eq, pk_un (by decide), zp_ne (by decide), zp_ne (by decide)]; exact g4.2.1 14 (by omega), (fun h => by cases h), fun _ => by rw [zp_eq, pk_us]; exact Sa.2.1.1⟩
      · exact absurd h77 (by decide)
    · exact absurd h45 (by decide)
