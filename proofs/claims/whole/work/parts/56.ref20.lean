theorem knd_no {x : Int32} (h : gKnd x < 0) : ¬ (0 ≤ x - 256 ∧ x - 256 ≤ 5) := fun q => by
  unfold gKnd at h
  rw [if_pos q] at h
  exact Int32.not_lt.mpr q.1 h
theorem knd_yes {x : Int32} (h : ¬ gKnd x < 0) : (0 ≤ x - 256 ∧ x - 256 ≤ 5) ∧ gKnd x = x - 256 := by
  unfold gKnd at h ⊢
  by_cases q : 0 ≤ x - 256 ∧ x - 256 ≤ 5
  · rw [if_pos q]
    exact ⟨q, rfl⟩
  · rw [if_neg q] at h
    exact absurd (by decide) h
theorem rule_d {K V : Nat → Int32} {k : Nat} (h1 : 0 ≤ K k - 256 ∧ K k - 256 ≤ 5) (h2 : (rCnd K V k).1 = true) : rRule K V k = if (rDo K V (rCnd K V k).2.1).1 = true then rFin K (K k - 256) (rDo K V (rCnd K V k).2.1).2.2.1 (rDo K V (rCnd K V k).2.1).2.2.2 (rCnd K V k) (rDo K V (rCnd K V k).2.1).2.1 else (false, (rDo K V (rCnd K V k).2.1).2.1, pRl0) := by
  unfold rRule
  rw [if_pos h1, if_pos h2]
  generalize (rCnd K V k).2.1 = c
  unfold rDo
  by_cases a : K c = 265
  · rw [if_pos (Or.inr (Or.inr a)), if_pos a, if_pos a, if_pos rfl]
  · by_cases b : K c = 263 ∨ K c = 264
    · rw [if_pos (b.elim Or.inl (fun z => Or.inr (Or.inl z))), if_neg a, if_neg a, if_pos b]
      by_cases d : K (c + 1) = -2 ∧ V (c + 1) ≤ 99
      · rw [if_pos d, if_pos d, if_pos rfl]
      · rw [if_neg d, if_neg d, if_neg (fun h => by cases h)]
    · rw [if_neg (fun q => q.elim (fun z => b (Or.inl z)) (fun q => q.elim (fun z => b (Or.inr z)) a)), if_neg a, if_neg b, if_neg (fun h => by cases h)]
theorem do_le {K V : Nat → Int32} {k c : Nat} (hc : K c = -1) (hk : k ≤ c) : (rDo K V k).2.1 ≤ c ∧ k ≤ (rDo K V k).2.1 := by
  unfold rDo
  by_cases a : K k = 265
  · have : k ≠ c := fun q => by rw [q, hc] at a; exact absurd a (by decide)
    rw [if_pos a]; exact ⟨by show k + 1 ≤ c; omega, Nat.le_succ _⟩
  · rw [if_neg a]
    by_cases b : K k = 263 ∨ K k = 264
    · have h1 : k ≠ c := fun q => by rw [q, hc] at b; exact absurd b (by decide)
      rw [if_pos b]
      by_cases d : K (k + 1) = -2 ∧ V (k + 1) ≤ 99
      · have h2 : k + 1 ≠ c := fun q => by rw [q, hc] at d; exact absurd d.1 (by decide)
        rw [if_pos d]; exact ⟨by show k + 1 + 1 ≤ c; omega, by show k ≤ k + 1 + 1; omega⟩
      · rw [if_neg d]; exact ⟨by show k + 1 ≤ c; omega, Nat.le_succ _⟩
    · rw [if_neg b]; exact ⟨hk, Nat.le_refl _⟩
/-- codes alone -/
def gC2 (μ ν : zM) (cc : Nat) (rs : List (Int32 × Int32)) : Prop := (∀ i, 111 ≤ i → i < 111 + 2 * cc → ν 1 i = μ 1 i) ∧ ∀ j, j < rs.length → ν 1 (111 + 2 * (cc + j)) = (rs.getD j (0, 0)).1 ∧ ν 1 (111 + 2 * (cc + j) + 1) = (rs.getD j (0, 0)).2
theorem gC2.keep {μ ν ξ : zM} {cc : Nat} {rs : List (Int32 × Int32)} (h : gC2 μ ν cc rs) (g : ∀ i, 111 ≤ i → ξ 1 i = ν 1 i) : gC2 μ ξ cc rs :=
  ⟨fun i h1 h2 => (g i h1).trans (h.1 i h1 h2), fun j hj => ⟨(g _ (by omega)).trans (h.2 j hj).1, (g _ (by omega)).trans (h.2 j hj).2⟩⟩
def rRu (K V : Nat → Int32) (nr k : Nat) : pQ := if nr < 8 then rRule K V k else (false, k, pRl0)
def gQs (T : Nat → Int32) (len k cc nr : Nat) (r : pQ) (μ ν : zM) : Prop := gF (fun i => i = 5 ∨ 71 + 5 * nr ≤ i) μ ν ∧ (r.1 = true → gS T len ν r.2.1 (cc + r.2.2.2.2.length) ∧ ν 0 13 = nI 0 ∧ ν 1 5 = nI (nr + 1) ∧ gC2 μ ν cc r.2.2.2.2 ∧ (ν 1 (71 + 5 * nr) = r.2.2.1.1 ∧ ν 1 (71 + 5 * nr + 1) = r.2.2.1.2.1 - 263 ∧ ν 1 (71 + 5 * nr + 2) = r.2.2.1.2.2 ∧ ν 1 (71 + 5 * nr + 3) = nI cc ∧ ν 1 (71 + 5 * nr + 4) = nI (cc + r.2.2.2.2.length))) ∧ (r.1 = false → ν 0 12 = nI (tS T len r.2.1))
set_option maxHeartbeats 4000000 in
set_option maxRecDepth 100000 in
theorem eX11_takesRule_0 (σ : zG) (μ : zM) (nr : Nat) (T : Nat → Int32) (len k cc : Nat) (hn8 : nr ≤ 8) (h5 : μ 1 5 = nI nr) (hX : gX T len) (hS : gS T len μ k cc) (hcc : cc ≤ k) (hop : μ 0 13 = nI 0) : zMet shR σ 23 MX11_takesRule yX11_takesRule [zr 0] μ (fun rr μ' => rr = some (zi (zb (rRu (tK T len) (tV T len) nr k).1)) ∧ gQs T len k cc nr (rRu (tK T len) (tV T len) nr k) μ μ') := by
  refine zmetF (by decide +kernel) rfl (Nat.le_of_ble_eq_true rfl) ?_
  show zX shR σ 23 MX11_takesRule 0 [(0, zr 0)] [] μ _
  refine zx_aload_n (k := 0) (nn := 1) dX11_takesRule_0 rfl rfl rfl ?_
  refine zx_callVf (nn := 4) (k := 0) (d' := 5) (as := []) (rest := []) (n := 0) (eX11_kindHere_0 σ μ T len k cc hX hS) kX11_kindHere mlX11_269 rfl rfl rfl (by decide) rfl rfl (Nat.le_of_ble_eq_true rfl) dX11_takesRule_1 rfl ?_
  show zX shR σ 23 MX11_takesRule 4 [(0, zr 0)] [zi (gKnd (tK T len k))] μ _
  refine zx_istore_n (nn := 5) (lv' := [(1, zi (gKnd (tK T len k))), (0, zr 0)]) dX11_takesRule_4 rfl (by decide) rfl rfl ?_
  refine zx_iload_n (k := 0) (nn := 6) dX11_takesRule_5 rfl rfl rfl ?_
  refine zx_if_lt (tgt := 20) (nn := 9) dX11_takesRule_6 (by decide) rfl (fun h6 => ?_) (fun h6 => ?_)
  · refine zx_aload_n (k := 1) (nn := 21) dX11_takesRule_20 rfl rfl rfl ?_
    refine zx_callVf (nn := 24) (k := 0) (d' := 0) (as := []) (rest := []) (n := 0) (eX11_wrong_0 σ μ   ) kX11_wrong mlX11_223 rfl rfl rfl (by decide) rfl rfl (Nat.le_of_ble_eq_true rfl) dX11_takesRule_21 rfl ?_
    show zX shR σ 23 MX11_takesRule 24 [(1, zi (gKnd (tK T len k))), (0, zr 0)] [zi 0] (zp μ 0 12 (μ 0 9)) _
    refine zx_zret rfl rfl dX11_takesRule_24 ?_
    have hE : (rRu (tK T len) (tV T len) nr k) = (false, k, pRl0) := by unfold rRu rRule; rw [if_neg (knd_no h6)]; split <;> rfl
    rw [hE]
    exact ⟨rfl, gF.rf.f (by omega) (by omega), (fun h => by cases h), fun _ => by rw [zp_eq, pk_us]; exact hS.2.1.1⟩
  · refine zx_aload_n (k := 1) (nn := 10) dX11_takesRule_9 rfl rfl rfl ?_
    refine zx_getR (q := 1) (nn := 13) flX11_9 rfl rfl dX11_takesRule_10 rfl ?_
    refine zx_iconst (v := 5) (nn := 14) rfl dX11_takesRule_13 rfl ?_
    refine zx_iald_n (j := 5) (nn := 15) rfl (by omega) (by decide) dX11_takesRule_14 rfl ?_
    rw [show μ 1 5 = nI nr from h5]
    show zX shR σ 23 MX11_takesRule 15 [(1, zi (gKnd (tK T len k))), (0, zr 0)] [zi (nI nr)] μ _
    refine zx_bipush (v := 8) (nn := 17) rfl dX11_takesRule_15 rfl ?_
    refine zx_icmp_ne (tgt := 25) (nn := 20) dX11_takesRule_17 (by decide) rfl (fun h17 => ?_) (fun h17 => ?_)
    · have hnr : nr < 8 := by have : nr ≠ 8 := fun q => h17 (by rw [q]; rfl); omega
      have hne : tK T len k ≠ -1 := fun q => by have := (knd_yes h6).1.1; rw [q] at this; exact absurd this (by decide)
      have hklt := K_lt hS.2.2.2.2.1.1 hne
      refine zx_bipush (v := 71) (nn := 27) rfl dX11_takesRule_25 rfl ?_
      refine zx_iconst (v := 5) (nn := 28) rfl dX11_takesRule_27 rfl ?_
      refine zx_aload_n (k := 1) (nn := 29) dX11_takesRule_28 rfl rfl rfl ?_
      refine zx_getR (q := 1) (nn := 32) flX11_9 rfl rfl dX11_takesRule_29 rfl ?_
      refine zx_iconst (v := 5) (nn := 33) rfl dX11_takesRule_32 rfl ?_
      refine zx_iald_n (j := 5) (nn := 34) rfl (by omega) (by decide) dX11_takesRule_33 rfl ?_
      rw [show μ 1 5 = nI nr from h5]
      show zX shR σ 23 MX11_takesRule 34 [(1, zi (gKnd (tK T len k))), (0, zr 0)] [zi (nI nr), zi 5, zi 71] μ _
      refine zx_imul (nn := 35) dX11_takesRule_34 rfl ?_
      refine zx_iadd (nn := 36) dX11_takesRule_35 rfl ?_
      rw [show 71 + (5 * (nI nr)) = nI (71 + 5 * nr) from by simp only [show (2 : Int32) = nI 2 from rfl, show (3 : Int32) = nI 3 from rfl, show (1 : Int32) = nI 1 from rfl, show (4 : Int32) = nI 4 from rfl, show (5 : Int32) = nI 5 from rfl, show (7 : Int32) = nI 7 from rfl, show (31 : Int32) = nI 31 from rfl, show (47 : Int32) = nI 47 from rfl, show (71 : Int32) = nI 71 from rfl, show (111 : Int32) = nI 111 from rfl, nI_mulN, nI_add]]
      show zX shR σ 23 MX11_takesRule 36 [(1, zi (gKnd (tK T len k))), (0, zr 0)] [zi (nI (71 + 5 * nr))] μ _
      refine zx_istore_n (nn := 37) (lv' := [(2, zi (nI (71 + 5 * nr))), (1, zi (gKnd (tK T len k))), (0, zr 0)]) dX11_takesRule_36 rfl (by decide) rfl rfl ?_
      refine zx_aload_n (k := 2) (nn := 38) dX11_takesRule_37 rfl rfl rfl ?_
      refine zx_getR (q := 1) (nn := 41) flX11_9 rfl rfl dX11_takesRule_38 rfl ?_
      refine zx_iload_n (k := 0) (nn := 42) dX11_takesRule_41 rfl rfl rfl ?_
      refine zx_iload_n (k := 1) (nn := 43) dX11_takesRule_42 rfl rfl rfl ?_
      refine zx_iast_n (j := 71 + 5 * nr) (nn := 44) rfl (by omega) (by decide) dX11_takesRule_43 rfl ?_
      refine zx_aload_n (k := 2) (nn := 45) dX11_takesRule_44 rfl rfl rfl ?_
      refine zx_getR (q := 1) (nn := 48) flX11_9 rfl rfl dX11_takesRule_45 rfl ?_
      refine zx_iload_n (k := 0) (nn := 49) dX11_takesRule_48 rfl rfl rfl ?_
      refine zx_iconst (v := 3) (nn := 50) rfl dX11_takesRule_49 rfl ?_
      refine zx_iadd (nn := 51) dX11_takesRule_50 rfl ?_
      rw [show (nI (71 + 5 * nr)) + 3 = nI (71 + 5 * nr + 3) from by simp only [show (2 : Int32) = nI 2 from rfl, show (3 : Int32) = nI 3 from rfl, show (1 : Int32) = nI 1 from rfl, show (4 : Int32) = nI 4 from rfl, show (5 : Int32) = nI 5 from rfl, show (7 : Int32) = nI 7 from rfl, show (31 : Int32) = nI 31 from rfl, show (47 : Int32) = nI 47 from rfl, show (71 : Int32) = nI 71 from rfl, show (111 : Int32) = nI 111 from rfl, nI_mulN, nI_add]]
      show zX shR σ 23 MX11_takesRule 51 [(2, zi (nI (71 + 5 * nr))), (1, zi (gKnd (tK T len k))), (0, zr 0)] [zi (nI (71 + 5 * nr + 3)), zr 1] (zp μ 1 (71 + 5 * nr) (gKnd (tK T len k))) _
      refine zx_aload_n (k := 2) (nn := 52) dX11_takesRule_51 rfl rfl rfl ?_
      refine zx_getI (nn := 55) flX11_191 rfl rfl dX11_takesRule_52 rfl ?_
      show zX shR σ 23 MX11_takesRule 55 [(2, zi (nI (71 + 5 * nr))), (1, zi (gKnd (tK T len k))), (0, zr 0)] [zi (μ 0 14), zi (nI (71 + 5 * nr + 3)), zr 1] (zp μ 1 (71 + 5 * nr) (gKnd (tK T len k))) _
      rw [show μ 0 14 = nI cc from hS.2.2.2.2.2]
      show zX shR σ 23 MX11_takesRule 55 [(2, zi (nI (71 + 5 * nr))), (1, zi (gKnd (tK T len k))), (0, zr 0)] [zi (nI cc), zi (nI (71 + 5 * nr + 3)), zr 1] (zp μ 1 (71 + 5 * nr) (gKnd (tK T len k))) _
      refine zx_iast_n (j := 71 + 5 * nr + 3) (nn := 56) rfl (by omega) (by decide) dX11_takesRule_55 rfl ?_
      refine zx_aload_n (k := 2) (nn := 57) dX11_takesRule_56 rfl rfl rfl ?_
      have La : gS T len (zp (zp μ 1 (71 + 5 * nr) (gKnd (tK T len k))) 1 (71 + 5 * nr + 3) (nI cc)) (k) (cc) := hS.r1.r1
      refine zx_callV (nn := 60) (k := 0) (d' := 1) (as := []) (rest := []) (n := 0) (eX11_look_0 σ (zp (zp μ 1 (71 + 5 * nr) (gKnd (tK T len k))) 1 (71 + 5 * nr + 3) (nI cc)) T len (tP T len (k + 1)) La.1.1 hX.1 La.2.1.2.1 La.2.2.2.2.1.2.2 La.1.2) kX11_look mlX11_230 rfl rfl rfl (by decide) rfl rfl (Nat.le_of_ble_eq_true rfl) dX11_takesRule_57 rfl ?_
      rintro _ ν1 ⟨rfl, g1⟩
      show zX shR σ 23 MX11_takesRule 60 [(2, zi (nI (71 + 5 * nr))), (1, zi (gKnd (tK T len k))), (0, zr 0)] [] ν1 _
      have Sa : gS T len ν1 (k + 1) (cc) := La.look hne rfl g1
      have Ea := gE.l g1
      have ea1 : ν1 1 = (zp (zp μ 1 (71 + 5 * nr) (gKnd (tK T len k))) 1 (71 + 5 * nr + 3) (nI cc)) 1 := g1.1 1 (by decide)
      have eao : ν1 0 13 = (zp (zp μ 1 (71 + 5 * nr) (gKnd (tK T len k))) 1 (71 + 5 * nr + 3) (nI cc)) 0 13 := g1.2.1 13 (by omega)
      refine zx_aload_n (k := 2) (nn := 61) dX11_takesRule_60 rfl rfl rfl ?_
      refine zx_ldcSw (k := 6) (nn := 64) (by decide +kernel) dX11_takesRule_61 rfl ?_
      refine zx_callVf (nn := 67) (k := 0) (d' := 4) (as := [zr 206]) (rest := []) (n := 1) (eX11_isName_0 σ ν1 6 T len (k + 1) (cc) (by decide) hX (Sa)) kX11_isName mlX11_196 rfl rfl rfl (by decide) rfl rfl (Nat.le_of_ble_eq_true rfl) dX11_takesRule_64 rfl ?_
      show zX shR σ 23 MX11_takesRule 67 [(2, zi (nI (71 + 5 * nr))), (1, zi (gKnd (tK T len k))), (0, zr 0)] [zi (zb (decide (tK T len (k + 1) = nI (256 + 6))))] ν1 _
      refine zx_ifb_eq (tgt := 83) (nn := 70) dX11_takesRule_67 (by decide) rfl (fun h67 => ?_) (fun h67 => ?_)
      · have hcn : (rCnd (tK T len) (tV T len) k) = (true, k + 1, [], []) := if_neg (of_decide_eq_false h67)
        have hc1 : (rCnd (tK T len) (tV T len) k).1 = true := by rw [hcn]
        have Sc : gS T len ν1 (rCnd (tK T len) (tV T len) k).2.1 (cc + (rCnd (tK T len) (tV T len) k).2.2.2.length) := by rw [hcn]; exact Sa
        have r1 : ∀ i, i < 111 → ν1 1 i = zp (zp μ 1 (71 + 5 * nr) (gKnd (tK T len k))) 1 (71 + 5 * nr + 3) (nI cc) 1 i := fun i hi => by rw [ea1]
        have Oc : ν1 0 13 = nI 0 := by rw [eao, zp_ne (by decide), zp_ne (by decide)]; exact hop
        have Gc : gF (fun i => i = 5 ∨ 71 + 5 * nr ≤ i) μ ν1 := ((gF.rf.r (Or.inr (by omega))).r (Or.inr (by omega))).l g1
        have Cc : gC2 μ ν1 cc (rCnd (tK T len) (tV T len) k).2.2.2 := by rw [hcn]; exact ⟨fun i h1 h2 => by rw [ea1, zp_eq, pk_un (by omega), zp_eq, pk_un (by omega)], fun j h => absurd h (by simp)⟩
        have hgc := gd_cnd (V := (tV T len)) (tK_len (T := T) (len := len)) (k := k) (by omega)
        have hdl := do_le (K := (tK T len)) (V := (tV T len)) (k := (rCnd (tK T len) (tV T len) k).2.1) (tK_len (T := T) (len := len)) hgc.1.2
        have hru : (rRu (tK T len) (tV T len) nr k) = rRule (tK T len) (tV T len) k := if_pos hnr
        refine zx_aload_n (k := 2) (nn := 84) dX11_takesRule_83 rfl rfl rfl ?_
        refine zx_getR (q := 1) (nn := 87) flX11_9 rfl rfl dX11_takesRule_84 rfl ?_
        refine zx_iload_n (k := 0) (nn := 88) dX11_takesRule_87 rfl rfl rfl ?_
        refine zx_iconst (v := 4) (nn := 89) rfl dX11_takesRule_88 rfl ?_
        refine zx_iadd (nn := 90) dX11_takesRule_89 rfl ?_
        rw [show (nI (71 + 5 * nr)) + 4 = nI (71 + 5 * nr + 4) from by simp only [show (2 : Int32) = nI 2 from rfl, show (3 : Int32) = nI 3 from rfl, show (1 : Int32) = nI 1 from rfl, show (4 : Int32) = nI 4 from rfl, show (5 : Int32) = nI 5 from rfl, show (7 : Int32) = nI 7 from rfl, show (31 : Int32) = nI 31 from rfl, show (47 : Int32) = nI 47 from rfl, show (71 : Int32) = nI 71 from rfl, show (111 : Int32) = nI 111 from rfl, nI_mulN, nI_add]]
        show zX shR σ 23 MX11_takesRule 90 [(2, zi (nI (71 + 5 * nr))), (1, zi (gKnd (tK T len k))), (0, zr 0)] [zi (nI (71 + 5 * nr + 4)), zr 1] ν1 _
        refine zx_aload_n (k := 2) (nn := 91) dX11_takesRule_90 rfl rfl rfl ?_
        refine zx_getI (nn := 94) flX11_191 rfl rfl dX11_takesRule_91 rfl ?_
        rw [show ν1 0 14 = nI (cc + (rCnd (tK T len) (tV T len) k).2.2.2.length) from Sc.2.2.2.2.2]
        show zX shR σ 23 MX11_takesRule 94 [(2, zi (nI (71 + 5 * nr))), (1, zi (gKnd (tK T len k))), (0, zr 0)] [zi (nI (cc + (rCnd (tK T len) (tV T len) k).2.2.2.length)), zi (nI (71 + 5 * nr + 4)), zr 1] ν1 _
        refine zx_iast_n (j := 71 + 5 * nr + 4) (nn := 95) rfl (by omega) (by decide) dX11_takesRule_94 rfl ?_
        refine zx_aload_n (k := 2) (nn := 96) dX11_takesRule_95 rfl rfl rfl ?_
        refine zx_iload_n (k := 0) (nn := 97) dX11_takesRule_96 rfl rfl rfl ?_
        refine zx_callV (nn := 100) (k := 0) (d' := 5) (as := [zi (nI (71 + 5 * nr))]) (rest := []) (n := 1) (eX11_takesDo_0 σ (zp ν1 1 (71 + 5 * nr + 4) (nI (cc + (rCnd (tK T len) (tV T len) k).2.2.2.length))) nr T len (rCnd (tK T len) (tV T len) k).2.1 (cc + (rCnd (tK T len) (tV T len) k).2.2.2.length) hnr hX Sc.r1) kX11_takesDo mlX11_274 rfl rfl rfl (by decide) rfl rfl (Nat.le_of_ble_eq_true rfl) dX11_takesRule_97 rfl ?_
        rintro _ ν2 ⟨rfl, d1, d2, d3, d4, d5⟩
        show zX shR σ 23 MX11_takesRule 100 [(2, zi (nI (71 + 5 * nr))), (1, zi (gKnd (tK T len k))), (0, zr 0)] [zi (zb (rDo (tK T len) (tV T len) (rCnd (tK T len) (tV T len) k).2.1).1)] ν2 _
        have Gd := (Gc.r (j := 71 + 5 * nr + 4) (v := nI (cc + (rCnd (tK T len) (tV T len) k).2.2.2.length)) (Or.inr (by omega))).tr (d1.mono (fun i hi => Or.inr (by omega)))
        refine zx_ifb_ne (tgt := 105) (nn := 103) dX11_takesRule_100 (by decide) rfl (fun h100 => ?_) (fun h100 => ?_)
        · refine zx_aload_n (k := 2) (nn := 106) dX11_takesRule_105 rfl rfl rfl ?_
          refine zx_bipush (v := 59) (nn := 108) rfl dX11_takesRule_106 rfl ?_
          refine zx_callVf (nn := 111) (k := 0) (d' := 0) (as := [zi 59]) (rest := []) (n := 1) (eX11_isSign_0 σ ν2 59 T len ((rDo (tK T len) (tV T len) (rCnd (tK T len) (tV T len) k).2.1).2.1) ((cc + (rCnd (tK T len) (tV T len) k).2.2.2.length)) ((d4 h100).1) (by decide)) kX11_isSign mlX11_236 rfl rfl rfl (by decide) rfl rfl (Nat.le_of_ble_eq_true rfl) dX11_takesRule_108 rfl ?_
          show zX shR σ 23 MX11_takesRule 111 [(2, zi (nI (71 + 5 * nr))), (1, zi (gKnd (tK T len k))), (0, zr 0)] [zi (zb (decide (tK T len ((rDo (tK T len) (tV T len) (rCnd (tK T len) (tV T len) k).2.1).2.1) = 59)))] ν2 _
          refine zx_ifb_ne (tgt := 119) (nn := 114) dX11_takesRule_111 (by decide) rfl (fun h111 => ?_) (fun h111 => ?_)
          · refine zx_aload_n (k := 2) (nn := 120) dX11_takesRule_119 rfl rfl rfl ?_
            have Lf : gS T len ν2 ((rDo (tK T len) (tV T len) (rCnd (tK T len) (tV T len) k).2.1).2.1) ((cc + (rCnd (tK T len) (tV T len) k).2.2.2.length)) := (d4 h100).1
            refine zx_callV (nn := 123) (k := 0) (d' := 1) (as := []) (rest := []) (n := 0) (eX11_look_0 σ ν2 T len (tP T len ((rDo (tK T len) (tV T len) (rCnd (tK T len) (tV T len) k).2.1).2.1 + 1)) Lf.1.1 hX.1 Lf.2.1.2.1 Lf.2.2.2.2.1.2.2 Lf.1.2) kX11_look mlX11_230 rfl rfl rfl (by decide) rfl rfl (Nat.le_of_ble_eq_true rfl) dX11_takesRule_120 rfl ?_
            rintro _ ν3 ⟨rfl, g3⟩
            show zX shR σ 23 MX11_takesRule 123 [(2, zi (nI (71 + 5 * nr))), (1, zi (gKnd (tK T len k))), (0, zr 0)] [] ν3 _
            have Sf : gS T len ν3 ((rDo (tK T len) (tV T len) (rCnd (tK T len) (tV T len) k).2.1).2.1 + 1) ((cc + (rCnd (tK T len) (tV T len) k).2.2.2.length)) := Lf.look (by rw [of_decide_eq_true h111]; decide) rfl g3
            have Ef := gE.l g3
            have ef1 : ν3 1 = ν2 1 := g3.1 1 (by decide)
            have efo : ν3 0 13 = ν2 0 13 := g3.2.1 13 (by omega)
            refine zx_aload_n (k := 2) (nn := 124) dX11_takesRule_123 rfl rfl rfl ?_
            refine zx_getR (q := 1) (nn := 127) flX11_9 rfl rfl dX11_takesRule_124 rfl ?_
            refine zx_iconst (v := 5) (nn := 128) rfl dX11_takesRule_127 rfl ?_
            refine zx_dup2 (nn := 129) dX11_takesRule_128 rfl ?_
            refine zx_iald_n (j := 5) (nn := 130) rfl (by omega) (by decide) dX11_takesRule_129 rfl ?_
            rw [show ν3 1 5 = nI nr from by rw [ef1, d1.2.2 _ (by omega), zp_eq, pk_un (by omega), r1 _ (by omega), zp_eq, pk_un (by omega), zp_eq, pk_un (by omega)]; exact h5]
            show zX shR σ 23 MX11_takesRule 130 [(2, zi (nI (71 + 5 * nr))), (1, zi (gKnd (tK T len k))), (0, zr 0)] [zi (nI nr), zi 5, zr 1] ν3 _
            refine zx_iconst (v := 1) (nn := 131) rfl dX11_takesRule_130 rfl ?_
            refine zx_iadd (nn := 132) dX11_takesRule_131 rfl ?_
            rw [show (nI nr) + 1 = nI (nr + 1) from nI_1 nr]
            show zX shR σ 23 MX11_takesRule 132 [(2, zi (nI (71 + 5 * nr))), (1, zi (gKnd (tK T len k))), (0, zr 0)] [zi (nI (nr + 1)), zi 5, zr 1] ν3 _
            refine zx_iast_n (j := 5) (nn := 133) rfl (by omega) (by decide) dX11_takesRule_132 rfl ?_
            refine zx_iconst (v := 1) (nn := 134) rfl dX11_takesRule_133 rfl ?_
            refine zx_zret rfl rfl dX11_takesRule_134 ?_
            have hE : (rRu (tK T len) (tV T len) nr k) = (true, (rDo (tK T len) (tV T len) (rCnd (tK T len) (tV T len) k).2.1).2.1 + 1, (tK T len k - 256, (rDo (tK T len) (tV T len) (rCnd (tK T len) (tV T len) k).2.1).2.2.1, (rDo (tK T len) (tV T len) (rCnd (tK T len) (tV T len) k).2.1).2.2.2), (rCnd (tK T len) (tV T len) k).2.2.1, (rCnd (tK T len) (tV T len) k).2.2.2) := by rw [hru, rule_d (knd_yes h6).1 hc1, if_pos h100]; exact if_pos (of_decide_eq_true h111)
            rw [hE]
            have rd : ∀ i, i ≠ 71 + 5 * nr + 1 → i ≠ 71 + 5 * nr + 2 → i ≠ 71 + 5 * nr + 4 → ν3 1 i = ν1 1 i := fun i a b c => by rw [ef1, d1.2.2 i (fun q => q.elim a b), zp_eq, pk_un c]
            refine ⟨rfl, (Gd.l g3).r (Or.inl rfl), fun _ => ⟨Sf.r1, ?_, by rw [zp_eq]; exact pk_us, ?_, ?_, ?_, ?_, ?_, ?_⟩, fun h => by cases h⟩
            · rw [zp_ne (by decide), efo, d2, zp_ne (by decide)]; exact Oc
            · exact Cc.keep (fun i hi => by rw [zp_eq, pk_un (by omega)]; exact rd i (by omega) (by omega) (by omega))
            · rw [zp_eq, pk_un (by omega), rd _ (by omega) (by omega) (by omega), r1 _ (by omega), zp_eq, pk_un (by omega), zp_eq, pk_us]; exact (knd_yes h6).2
            · rw [zp_eq, pk_un (by omega), ef1]; exact (d4 h100).2.1
            · rw [zp_eq, pk_un (by omega), ef1]; exact (d4 h100).2.2
            · rw [zp_eq, pk_un (by omega), rd _ (by omega) (by omega) (by omega), r1 _ (by omega), zp_eq]; exact pk_us
            · rw [zp_eq, pk_un (by omega), ef1, d1.2.2 _ (by omega), zp_eq]; exact pk_us
          · refine zx_aload_n (k := 2) (nn := 115) dX11_takesRule_114 rfl rfl rfl ?_
            refine zx_callVf (nn := 118) (k := 0) (d' := 0) (as := []) (rest := []) (n := 0) (eX11_wrong_0 σ ν2   ) kX11_wrong mlX11_223 rfl rfl rfl (by decide) rfl rfl (Nat.le_of_ble_eq_true rfl) dX11_takesRule_115 rfl ?_
            show zX shR σ 23 MX11_takesRule 118 [(2, zi (nI (71 + 5 * nr))), (1, zi (gKnd (tK T len k))), (0, zr 0)] [zi 0] (zp ν2 0 12 (ν2 0 9)) _
            refine zx_zret rfl rfl dX11_takesRule_118 ?_
            have hE : (rRu (tK T len) (tV T len) nr k) = (false, (rDo (tK T len) (tV T len) (rCnd (tK T len) (tV T len) k).2.1).2.1, pRl0) := by rw [hru, rule_d (knd_yes h6).1 hc1, if_pos h100]; exact if_neg (of_decide_eq_false h111)
            rw [hE]
            exact ⟨rfl, Gd.f (by omega) (by omega), (fun h => by cases h), fun _ => by rw [zp_eq, pk_us]; exact (d4 h100).1.2.1.1⟩
        · refine zx_iconst (v := 0) (nn := 104) rfl dX11_takesRule_103 rfl ?_
          refine zx_zret rfl rfl dX11_takesRule_104 ?_
          have hE : (rRu (tK T len) (tV T len) nr k) = (false, (rDo (tK T len) (tV T len) (rCnd (tK T len) (tV T len) k).2.1).2.1, pRl0) := by rw [hru, rule_d (knd_yes h6).1 hc1, if_neg (by rw [h100]; decide)]
          rw [hE]
          exact ⟨rfl, Gd, (fun h => by cases h), fun _ => d5 h100⟩
      · refine zx_aload_n (k := 2) (nn := 71) dX11_takesRule_70 rfl rfl rfl ?_
        have Lb : gS T len ν1 ((k + 1)) (cc) := Sa
        refine zx_callV (nn := 74) (k := 0) (d' := 1) (as := []) (rest := []) (n := 0) (eX11_look_0 σ ν1 T len (tP T len ((k + 1) + 1)) Lb.1.1 hX.1 Lb.2.1.2.1 Lb.2.2.2.2.1.2.2 Lb.1.2) kX11_look mlX11_230 rfl rfl rfl (by decide) rfl rfl (Nat.le_of_ble_eq_true rfl) dX11_takesRule_71 rfl ?_
        rintro _ ν4 ⟨rfl, g4⟩
        show zX shR σ 23 MX11_takesRule 74 [(2, zi (nI (71 + 5 * nr))), (1, zi (gKnd (tK T len k))), (0, zr 0)] [] ν4 _
        have Sb : gS T len ν4 ((k + 1) + 1) (cc) := Lb.look (by rw [of_decide_eq_true h67]; decide) rfl g4
        have Eb := gE.l g4
        have eb1 : ν4 1 = ν1 1 := g4.1 1 (by decide)
        have ebo : ν4 0 13 = ν1 0 13 := g4.2.1 13 (by omega)
        refine zx_aload_n (k := 2) (nn := 75) dX11_takesRule_74 rfl rfl rfl ?_
        refine zx_callV (nn := 78) (k := 0) (d' := 22) (as := []) (rest := []) (n := 0) (eX11_cond σ T len hX 3 (by decide) ν4 (k + 1 + 1) cc Sb (by omega) (by rw [ebo, eao, zp_ne (by decide), zp_ne (by decide)]; exact hop)) kX11_takesCondition mlX11_242 rfl rfl rfl (by decide) rfl rfl (Nat.le_of_ble_eq_true rfl) dX11_takesRule_75 rfl ?_
        rintro _ ν5 ⟨rfl, p1⟩
        show zX shR σ 23 MX11_takesRule 78 [(2, zi (nI (71 + 5 * nr))), (1, zi (gKnd (tK T len k))), (0, zr 0)] [zi (zb (rCond (tK T len) (tV T len) 3 (k + 1 + 1)).1)] ν5 _
        refine zx_ifb_ne (tgt := 83) (nn := 81) dX11_takesRule_78 (by decide) rfl (fun h78 => ?_) (fun h78 => ?_)
        · have hcn : (rCnd (tK T len) (tV T len) k) = rCond (tK T len) (tV T len) 3 (k + 1 + 1) := if_pos (of_decide_eq_true h67)
          have hc1 : (rCnd (tK T len) (tV T len) k).1 = true := by rw [hcn]; exact h78
          rw [← hcn] at p1
          obtain ⟨Sc, Cc0, Oc0⟩ := p1.2.1 hc1
          have r1 : ∀ i, i < 111 → ν5 1 i = zp (zp μ 1 (71 + 5 * nr) (gKnd (tK T len k))) 1 (71 + 5 * nr + 3) (nI cc) 1 i := fun i hi => by rw [p1.1.2.2 i hi, eb1, ea1]
          have Oc : ν5 0 13 = nI 0 := by rw [Oc0, ebo, eao, zp_ne (by decide), zp_ne (by decide)]; exact hop
          have Gc : gF (fun i => i = 5 ∨ 71 + 5 * nr ≤ i) μ ν5 := (((gF.rf.r (Or.inr (by omega))).r (Or.inr (by omega))).l g1).l g4 |>.e p1.1 (fun i hi => Or.inr (by omega))
          have Cc : gC2 μ ν5 cc (rCnd (tK T len) (tV T len) k).2.2.2 := ⟨fun i h1 h2 => by rw [Cc0.1 i h2, eb1, ea1, zp_eq, pk_un (by omega), zp_eq, pk_un (by omega)], Cc0.2⟩
          have hgc := gd_cnd (V := (tV T len)) (tK_len (T := T) (len := len)) (k := k) (by omega)
          have hdl := do_le (K := (tK T len)) (V := (tV T len)) (k := (rCnd (tK T len) (tV T len) k).2.1) (tK_len (T := T) (len := len)) hgc.1.2
          have hru : (rRu (tK T len) (tV T len) nr k) = rRule (tK T len) (tV T len) k := if_pos hnr
          refine zx_aload_n (k := 2) (nn := 84) dX11_takesRule_83 rfl rfl rfl ?_
          refine zx_getR (q := 1) (nn := 87) flX11_9 rfl rfl dX11_takesRule_84 rfl ?_
          refine zx_iload_n (k := 0) (nn := 88) dX11_takesRule_87 rfl rfl rfl ?_
          refine zx_iconst (v := 4) (nn := 89) rfl dX11_takesRule_88 rfl ?_
          refine zx_iadd (nn := 90) dX11_takesRule_89 rfl ?_
          rw [show (nI (71 + 5 * nr)) + 4 = nI (71 + 5 * nr + 4) from by simp only [show (2 : Int32) = nI 2 from rfl, show (3 : Int32) = nI 3 from rfl, show (1 : Int32) = nI 1 from rfl, show (4 : Int32) = nI 4 from rfl, show (5 : Int32) = nI 5 from rfl, show (7 : Int32) = nI 7 from rfl, show (31 : Int32) = nI 31 from rfl, show (47 : Int32) = nI 47 from rfl, show (71 : Int32) = nI 71 from rfl, show (111 : Int32) = nI 111 from rfl, nI_mulN, nI_add]]
          show zX shR σ 23 MX11_takesRule 90 [(2, zi (nI (71 + 5 * nr))), (1, zi (gKnd (tK T len k))), (0, zr 0)] [zi (nI (71 + 5 * nr + 4)), zr 1] ν5 _
          refine zx_aload_n (k := 2) (nn := 91) dX11_takesRule_90 rfl rfl rfl ?_
          refine zx_getI (nn := 94) flX11_191 rfl rfl dX11_takesRule_91 rfl ?_
          rw [show ν5 0 14 = nI (cc + (rCnd (tK T len) (tV T len) k).2.2.2.length) from Sc.2.2.2.2.2]
          show zX shR σ 23 MX11_takesRule 94 [(2, zi (nI (71 + 5 * nr))), (1, zi (gKnd (tK T len k))), (0, zr 0)] [zi (nI (cc + (rCnd (tK T len) (tV T len) k).2.2.2.length)), zi (nI (71 + 5 * nr + 4)), zr 1] ν5 _
          refine zx_iast_n (j := 71 + 5 * nr + 4) (nn := 95) rfl (by omega) (by decide) dX11_takesRule_94 rfl ?_
          refine zx_aload_n (k := 2) (nn := 96) dX11_takesRule_95 rfl rfl rfl ?_
          refine zx_iload_n (k := 0) (nn := 97) dX11_takesRule_96 rfl rfl rfl ?_
          refine zx_callV (nn := 100) (k := 0) (d' := 5) (as := [zi (nI (71 + 5 * nr))]) (rest := []) (n := 1) (eX11_takesDo_0 σ (zp ν5 1 (71 + 5 * nr + 4) (nI (cc + (rCnd (tK T len) (tV T len) k).2.2.2.length))) nr T len (rCnd (tK T len) (tV T len) k).2.1 (cc + (rCnd (tK T len) (tV T len) k).2.2.2.length) hnr hX Sc.r1) kX11_takesDo mlX11_274 rfl rfl rfl (by decide) rfl rfl (Nat.le_of_ble_eq_true rfl) dX11_takesRule_97 rfl ?_
          rintro _ ν6 ⟨rfl, d1, d2, d3, d4, d5⟩
          show zX shR σ 23 MX11_takesRule 100 [(2, zi (nI (71 + 5 * nr))), (1, zi (gKnd (tK T len k))), (0, zr 0)] [zi (zb (rDo (tK T len) (tV T len) (rCnd (tK T len) (tV T len) k).2.1).1)] ν6 _
          have Gd := (Gc.r (j := 71 + 5 * nr + 4) (v := nI (cc + (rCnd (tK T len) (tV T len) k).2.2.2.length)) (Or.inr (by omega))).tr (d1.mono (fun i hi => Or.inr (by omega)))
          refine zx_ifb_ne (tgt := 105) (nn := 103) dX11_takesRule_100 (by decide) rfl (fun h100 => ?_) (fun h100 => ?_)
          · refine zx_aload_n (k := 2) (nn := 106) dX11_takesRule_105 rfl rfl rfl ?_
            refine zx_bipush (v := 59) (nn := 108) rfl dX11_takesRule_106 rfl ?_
            refine zx_callVf (nn := 111) (k := 0) (d' := 0) (as := [zi 59]) (rest := []) (n := 1) (eX11_isSign_0 σ ν6 59 T len ((rDo (tK T len) (tV T len) (rCnd (tK T len) (tV T len) k).2.1).2.1) ((cc + (rCnd (tK T len) (tV T len) k).2.2.2.length)) ((d4 h100).1) (by decide)) kX11_isSign mlX11_236 rfl rfl rfl (by decide) rfl rfl (Nat.le_of_ble_eq_true rfl) dX11_takesRule_108 rfl ?_
            show zX shR σ 23 MX11_takesRule 111 [(2, zi (nI (71 + 5 * nr))), (1, zi (gKnd (tK T len k))), (0, zr 0)] [zi (zb (decide (tK T len ((rDo (tK T len) (tV T len) (rCnd (tK T len) (tV T len) k).2.1).2.1) = 59)))] ν6 _
            refine zx_ifb_ne (tgt := 119) (nn := 114) dX11_takesRule_111 (by decide) rfl (fun h111 => ?_) (fun h111 => ?_)
            · refine zx_aload_n (k := 2) (nn := 120) dX11_takesRule_119 rfl rfl rfl ?_
              have Lf : gS T len ν6 ((rDo (tK T len) (tV T len) (rCnd (tK T len) (tV T len) k).2.1).2.1) ((cc + (rCnd (tK T len) (tV T len) k).2.2.2.length)) := (d4 h100).1
              refine zx_callV (nn := 123) (k := 0) (d' := 1) (as := []) (rest := []) (n := 0) (eX11_look_0 σ ν6 T len (tP T len ((rDo (tK T len) (tV T len) (rCnd (tK T len) (tV T len) k).2.1).2.1 + 1)) Lf.1.1 hX.1 Lf.2.1.2.1 Lf.2.2.2.2.1.2.2 Lf.1.2) kX11_look mlX11_230 rfl rfl rfl (by decide) rfl rfl (Nat.le_of_ble_eq_true rfl) dX11_takesRule_120 rfl ?_
              rintro _ ν7 ⟨rfl, g7⟩
              show zX shR σ 23 MX11_takesRule 123 [(2, zi (nI (71 + 5 * nr))), (1, zi (gKnd (tK T len k))), (0, zr 0)] [] ν7 _
              have Sf : gS T len ν7 ((rDo (tK T len) (tV T len) (rCnd (tK T len) (tV T len) k).2.1).2.1 + 1) ((cc + (rCnd (tK T len) (tV T len) k).2.2.2.length)) := Lf.look (by rw [of_decide_eq_true h111]; decide) rfl g7
              have Ef := gE.l g7
              have ef1 : ν7 1 = ν6 1 := g7.1 1 (by decide)
              have efo : ν7 0 13 = ν6 0 13 := g7.2.1 13 (by omega)
              refine zx_aload_n (k := 2) (nn := 124) dX11_takesRule_123 rfl rfl rfl ?_
              refine zx_getR (q := 1) (nn := 127) flX11_9 rfl rfl dX11_takesRule_124 rfl ?_
              refine zx_iconst (v := 5) (nn := 128) rfl dX11_takesRule_127 rfl ?_
              refine zx_dup2 (nn := 129) dX11_takesRule_128 rfl ?_
              refine zx_iald_n (j := 5) (nn := 130) rfl (by omega) (by decide) dX11_takesRule_129 rfl ?_
              rw [show ν7 1 5 = nI nr from by rw [ef1, d1.2.2 _ (by omega), zp_eq, pk_un (by omega), r1 _ (by omega), zp_eq, pk_un (by omega), zp_eq, pk_un (by omega)]; exact h5]
              show zX shR σ 23 MX11_takesRule 130 [(2, zi (nI (71 + 5 * nr))), (1, zi (gKnd (tK T len k))), (0, zr 0)] [zi (nI nr), zi 5, zr 1] ν7 _
              refine zx_iconst (v := 1) (nn := 131) rfl dX11_takesRule_130 rfl ?_
              refine zx_iadd (nn := 132) dX11_takesRule_131 rfl ?_
              rw [show (nI nr) + 1 = nI (nr + 1) from nI_1 nr]
              show zX shR σ 23 MX11_takesRule 132 [(2, zi (nI (71 + 5 * nr))), (1, zi (gKnd (tK T len k))), (0, zr 0)] [zi (nI (nr + 1)), zi 5, zr 1] ν7 _
              refine zx_iast_n (j := 5) (nn := 133) rfl (by omega) (by decide) dX11_takesRule_132 rfl ?_
              refine zx_iconst (v := 1) (nn := 134) rfl dX11_takesRule_133 rfl ?_
              refine zx_zret rfl rfl dX11_takesRule_134 ?_
              have hE : (rRu (tK T len) (tV T len) nr k) = (true, (rDo (tK T len) (tV T len) (rCnd (tK T len) (tV T len) k).2.1).2.1 + 1, (tK T len k - 256, (rDo (tK T len) (tV T len) (rCnd (tK T len) (tV T len) k).2.1).2.2.1, (rDo (tK T len) (tV T len) (rCnd (tK T len) (tV T len) k).2.1).2.2.2), (rCnd (tK T len) (tV T len) k).2.2.1, (rCnd (tK T len) (tV T len) k).2.2.2) := by rw [hru, rule_d (knd_yes h6).1 hc1, if_pos h100]; exact if_pos (of_decide_eq_true h111)
              rw [hE]
              have rd : ∀ i, i ≠ 71 + 5 * nr + 1 → i ≠ 71 + 5 * nr + 2 → i ≠ 71 + 5 * nr + 4 → ν7 1 i = ν5 1 i := fun i a b c => by rw [ef1, d1.2.2 i (fun q => q.elim a b), zp_eq, pk_un c]
              refine ⟨rfl, (Gd.l g7).r (Or.inl rfl), fun _ => ⟨Sf.r1, ?_, by rw [zp_eq]; exact pk_us, ?_, ?_, ?_, ?_, ?_, ?_⟩, fun h => by cases h⟩
              · rw [zp_ne (by decide), efo, d2, zp_ne (by decide)]; exact Oc
              · exact Cc.keep (fun i hi => by rw [zp_eq, pk_un (by omega)]; exact rd i (by omega) (by omega) (by omega))
              · rw [zp_eq, pk_un (by omega), rd _ (by omega) (by omega) (by omega), r1 _ (by omega), zp_eq, pk_un (by omega), zp_eq, pk_us]; exact (knd_yes h6).2
              · rw [zp_eq, pk_un (by omega), ef1]; exact (d4 h100).2.1
              · rw [zp_eq, pk_un (by omega), ef1]; exact (d4 h100).2.2
              · rw [zp_eq, pk_un (by omega), rd _ (by omega) (by omega) (by omega), r1 _ (by omega), zp_eq]; exact pk_us
              · rw [zp_eq, pk_un (by omega), ef1, d1.2.2 _ (by omega), zp_eq]; exact pk_us
            · refine zx_aload_n (k := 2) (nn := 115) dX11_takesRule_114 rfl rfl rfl ?_
              refine zx_callVf (nn := 118) (k := 0) (d' := 0) (as := []) (rest := []) (n := 0) (eX11_wrong_0 σ ν6   ) kX11_wrong mlX11_223 rfl rfl rfl (by decide) rfl rfl (Nat.le_of_ble_eq_true rfl) dX11_takesRule_115 rfl ?_
              show zX shR σ 23 MX11_takesRule 118 [(2, zi (nI (71 + 5 * nr))), (1, zi (gKnd (tK T len k))), (0, zr 0)] [zi 0] (zp ν6 0 12 (ν6 0 9)) _
              refine zx_zret rfl rfl dX11_takesRule_118 ?_
              have hE : (rRu (tK T len) (tV T len) nr k) = (false, (rDo (tK T len) (tV T len) (rCnd (tK T len) (tV T len) k).2.1).2.1, pRl0) := by rw [hru, rule_d (knd_yes h6).1 hc1, if_pos h100]; exact if_neg (of_decide_eq_false h111)
              rw [hE]
              exact ⟨rfl, Gd.f (by omega) (by omega), (fun h => by cases h), fun _ => by rw [zp_eq, pk_us]; exact (d4 h100).1.2.1.1⟩
          · refine zx_iconst (v := 0) (nn := 104) rfl dX11_takesRule_103 rfl ?_
            refine zx_zret rfl rfl dX11_takesRule_104 ?_
            have hE : (rRu (tK T len) (tV T len) nr k) = (false, (rDo (tK T len) (tV T len) (rCnd (tK T len) (tV T len) k).2.1).2.1, pRl0) := by rw [hru, rule_d (knd_yes h6).1 hc1, if_neg (by rw [h100]; decide)]
            rw [hE]
            exact ⟨rfl, Gd, (fun h => by cases h), fun _ => d5 h100⟩
        · refine zx_iconst (v := 0) (nn := 82) rfl dX11_takesRule_81 rfl ?_
          refine zx_zret rfl rfl dX11_takesRule_82 ?_
          have hcn : (rCnd (tK T len) (tV T len) k) = rCond (tK T len) (tV T len) 3 (k + 1 + 1) := if_pos (of_decide_eq_true h67)
          have hE : (rRu (tK T len) (tV T len) nr k) = (false, (rCond (tK T len) (tV T len) 3 (k + 1 + 1)).2.1, pRl0) := by unfold rRu rRule; rw [if_pos hnr, if_pos (knd_yes h6).1, hcn, if_neg (by rw [h78]; decide)]
          rw [hE]
          exact ⟨rfl, (((gF.rf.r (Or.inr (by omega))).r (Or.inr (by omega))).l g1).l g4 |>.e p1.1 (fun i hi => Or.inr (by omega)), (fun h => by cases h), fun _ => (p1.2.2 h78).1⟩
    · refine zx_aload_n (k := 1) (nn := 21) dX11_takesRule_20 rfl rfl rfl ?_
      refine zx_callVf (nn := 24) (k := 0) (d' := 0) (as := []) (rest := []) (n := 0) (eX11_wrong_0 σ μ   ) kX11_wrong mlX11_223 rfl rfl rfl (by decide) rfl rfl (Nat.le_of_ble_eq_true rfl) dX11_takesRule_21 rfl ?_
      show zX shR σ 23 MX11_takesRule 24 [(1, zi (gKnd (tK T len k))), (0, zr 0)] [zi 0] (zp μ 0 12 (μ 0 9)) _
      refine zx_zret rfl rfl dX11_takesRule_24 ?_
      have h8 : nr = 8 := (nI_eq (b := 8) (by omega) (by omega)).mp h17
      have hE : (rRu (tK T len) (tV T len) nr k) = (false, k, pRl0) := by unfold rRu; rw [if_neg (by omega)]
      rw [hE]
      exact ⟨rfl, gF.rf.f (by omega) (by omega), (fun h => by cases h), fun _ => by rw [zp_eq, pk_us]; exact hS.2.1.1⟩
