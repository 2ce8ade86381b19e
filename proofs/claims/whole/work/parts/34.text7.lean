theorem gd_cnd {K V : Nat → Int32} {c k : Nat} (hc : K c = -1) (hk : k + 1 ≤ c) : (k + 1 ≤ (rCnd K V k).2.1 ∧ (rCnd K V k).2.1 ≤ c) ∧ (rCnd K V k).2.2.1.length + k + 1 ≤ (rCnd K V k).2.1 ∧ (rCnd K V k).2.2.2.length + k + 1 ≤ (rCnd K V k).2.1 := by
  unfold rCnd
  by_cases h : K (k + 1) = 262
  · have hne : k + 1 ≠ c := fun e => by rw [e, hc] at h; exact absurd h (by decide)
    have := gd_cond (V := V) hc 3 (k + 2) (by omega)
    rw [if_pos h]; omega
  · rw [if_neg h]; simp; omega
theorem gd_fin {K : Nat → Int32} {c e : Nat} {kd d v : Int32} {a : pC} (hc : K c = -1) (he : e ≤ c) : (rFin K kd d v a e).2.1 ≤ c ∧ e ≤ (rFin K kd d v a e).2.1 := by
  unfold rFin
  by_cases h : K e = 59
  · have hne : e ≠ c := fun q => by rw [q, hc] at h; exact absurd h (by decide)
    rw [if_pos h]
    exact ⟨by show e + 1 ≤ c; omega, Nat.le_succ _⟩
  · rw [if_neg h]; exact ⟨he, Nat.le_refl _⟩
theorem gd_rule {K V : Nat → Int32} {c k : Nat} (hc : K c = -1) (hk : k ≤ c) : (rRule K V k).2.1 ≤ c ∧ k ≤ (rRule K V k).2.1 := by
  unfold rRule
  by_cases h1 : 0 ≤ K k - 256 ∧ K k - 256 ≤ 5
  · have hne : k ≠ c := fun e => by rw [e, hc] at h1; exact absurd h1.1 (by decide)
    have hg := gd_cnd (V := V) hc (k := k) (by omega)
    rw [if_pos h1]
    by_cases h2 : (rCnd K V k).1 = true
    · rw [if_pos h2]
      by_cases h3 : K (rCnd K V k).2.1 = 263 ∨ K (rCnd K V k).2.1 = 264 ∨ K (rCnd K V k).2.1 = 265
      · have hn : (rCnd K V k).2.1 ≠ c := fun e => by rw [e, hc] at h3; exact absurd h3 (by decide)
        rw [if_pos h3]
        by_cases h4 : K (rCnd K V k).2.1 = 265
        · have := gd_fin (kd := K k - 256) (d := 265) (v := 0) (a := rCnd K V k) (e := (rCnd K V k).2.1 + 1) hc (by omega)
          rw [if_pos h4]; omega
        · rw [if_neg h4]
          by_cases h5 : K ((rCnd K V k).2.1 + 1) = -2 ∧ V ((rCnd K V k).2.1 + 1) ≤ 99
          · have hn2 : (rCnd K V k).2.1 + 1 ≠ c := fun e => by rw [e, hc] at h5; exact absurd h5.1 (by decide)
            have := gd_fin (kd := K k - 256) (d := K (rCnd K V k).2.1) (v := V ((rCnd K V k).2.1 + 1)) (a := rCnd K V k) (e := (rCnd K V k).2.1 + 1 + 1) hc (by omega)
            rw [if_pos h5]; omega
          · rw [if_neg h5]; show (rCnd K V k).2.1 + 1 ≤ c ∧ k ≤ (rCnd K V k).2.1 + 1; omega
      · rw [if_neg h3]; show (rCnd K V k).2.1 ≤ c ∧ k ≤ (rCnd K V k).2.1; omega
    · rw [if_neg h2]; show (rCnd K V k).2.1 ≤ c ∧ k ≤ (rCnd K V k).2.1; omega
  · rw [if_neg h1]; exact ⟨hk, Nat.le_refl _⟩
/-- the rules one behind another -/
def rRules (K V : Nat → Int32) : Nat → Nat → List pRl → Bool × Nat × List pRl
  | 0, k, L => (true, k, L)
  | m + 1, k, L => if K k = -1 then (true, k, L) else if (rRule K V k).1 = true then rRules K V m (rRule K V k).2.1 (L ++ [(rRule K V k).2.2]) else (false, (rRule K V k).2.1, [])
def rFlat (L : List pRl) : List Int32 := L.flatMap (fun q => q.2.1)
/-- the draft holds them -/
def dR (μ : zM) (L : List pRl) : Prop := μ 12 5 = nI L.length ∧ (∀ r, r < L.length → μ 13 r = (L.getD r pRl0).1.1 ∧ μ 14 r = rShift (L.getD r pRl0) ∧ μ 15 r = nI (rFlat (L.take (r + 1))).length) ∧ ∀ j, j < (rFlat L).length → μ 16 j = (rFlat L).getD j 0
theorem rFlat_app (L : List pRl) (q : pRl) : rFlat (L ++ [q]) = rFlat L ++ q.2.1 := by
  unfold rFlat
  rw [List.flatMap_append]
  simp
theorem dR.add {K V : Nat → Int32} {c : Nat} {μ μ1 : zM} {L : List pRl} {r : pQ} (h : dR μ L) (g : rdQ K V c μ (rFlat L).length L.length r μ1) (ok : r.1 = true) : dR μ1 (L ++ [r.2.2]) := by
  obtain ⟨h1, h2, h3⟩ := h
  obtain ⟨-, -, g1, -⟩ := g
  obtain ⟨g2, g3, g4, g5, g6, g7, g8, -⟩ := g1 ok
  refine ⟨by rw [g4, List.length_append]; rfl, fun j hj => ?_, fun j hj => ?_⟩
  · rw [List.length_append] at hj
    by_cases q : j < L.length
    · have e : (L ++ [r.2.2]).getD j pRl0 = L.getD j pRl0 := by simp [List.getD, List.getElem?_append_left q]
      rw [e, (g5 j q).1, (g5 j q).2.1, (g5 j q).2.2, List.take_append_of_le_length (by omega)]
      exact h2 j q
    · obtain rfl : j = L.length := by simp at hj; omega
      have e : (L ++ [r.2.2]).getD L.length pRl0 = r.2.2 := by simp [List.getD]
      rw [e, List.take_of_length_le (by simp), rFlat_app, List.length_append]
      exact ⟨g6, g7, g8⟩
  · rw [rFlat_app, List.length_append] at hj
    rw [rFlat_app]
    by_cases q : j < (rFlat L).length
    · rw [g3.1 j q, h3 j q]
      simp [List.getD, List.getElem?_append_left q]
    · have := g3.2 (j - (rFlat L).length) (by omega)
      rw [show (rFlat L).length + (j - (rFlat L).length) = j by omega] at this
      rw [this]
      simp [List.getD, List.getElem?_append_right (Nat.not_lt.mp q)]
/-- a condition's codes as a list -/
def cRunL (F : Nat → Int32) : List Int32 → List Int32 → List Int32
  | [], st => st
  | x :: l, st => cRunL F l (cStep F x st)
theorem cRunL_app {F : Nat → Int32} : ∀ {a b st : List Int32}, cRunL F (a ++ b) st = cRunL F b (cRunL F a st)
  | [], _, _ => rfl
  | x :: a, b, st => cRunL_app (a := a)
theorem cRun_L {F code : Nat → Int32} : ∀ {l : List Int32} {i : Nat} {st : List Int32}, (∀ j, j < l.length → code (i + j) = l.getD j 0) → cRun F code i l.length st = cRunL F l st
  | [], _, _, _ => rfl
  | x :: l, i, st, h => by
    have h0 := h 0 (by simp)
    show cRun F code (i + 1) l.length (cStep F (code i) st) = cRunL F l (cStep F x st)
    rw [show code i = x from h0]
    exact cRun_L (fun j hj => by
      have := h (j + 1) (by simp; omega)
      rw [show i + 1 + j = i + (j + 1) by omega, this]
      rfl)
/-- while it reads: i rules were tried; b: all went; k the token that comes; L the rules -/
def rdI (T : Nat → Int32) (len c : Nat) (μ : zM) (i : Nat) (b : Bool) (k : Nat) (L : List pRl) (μ1 : zM) : Prop :=
  (zJ [7, 9, 10, 11, 12, 13, 14, 15, 16] μ μ1 ∧ μ1 7 5 = 0) ∧ (k ≤ c ∧ μ1 7 7 = nI k) ∧ (∀ q, q ≤ c → μ1 11 q = nI (tS T len q) ∧ μ1 9 q = tK T len q) ∧ (∀ r, r < 8 → ∃ e, e ≤ 200 ∧ μ1 15 r = nI e) ∧
  (b = true → rdS (tK T len) (tV T len) c μ1 k (rFlat L).length ∧ dR μ1 L ∧ L.length = i ∧ rRules (tK T len) (tV T len) 8 0 [] = rRules (tK T len) (tV T len) (8 - i) k L) ∧ (b = false → rRules (tK T len) (tV T len) 8 0 [] = (false, k, []))
/-- the text read: the rules, or the token at fault -/
def rTbl (L : List pRl) : pR := (L.length, fun r => (L.getD r pRl0).1.1, fun r => rShift (L.getD r pRl0), fun r F => cTrue (cRunL F (L.getD r pRl0).2.1 []))
theorem dR_ok {μ : zM} {L : List pRl} (h : dR μ L) (h8 : L.length ≤ 8) (hw : ∀ r, r < 8 → ∃ e, e ≤ 200 ∧ μ 15 r = nI e) : cROK 12 μ := ⟨⟨L.length, h8, h.1⟩, hw⟩
theorem pREq.trans {a b c : pR} (h : pREq a b) (g : pREq b c) : pREq a c := ⟨h.1.trans g.1, fun r hr => by
  have h1 := h.2 r hr
  have g1 := g.2 r (by rw [← h.1]; exact hr)
  exact ⟨h1.1.trans g1.1, h1.2.1.trans g1.2.1, fun F => (h1.2.2 F).trans (g1.2.2 F)⟩⟩
theorem rFlat_at {L : List pRl} {r : Nat} (hr : r < L.length) : rFlat (L.take (r + 1)) = rFlat (L.take r) ++ (L.getD r pRl0).2.1 ∧ ∃ t, rFlat L = rFlat (L.take (r + 1)) ++ t := by
  have e : L.take (r + 1) = L.take r ++ [L.getD r pRl0] := by
    rw [List.take_succ]
    simp [List.getD, List.getElem?_eq_getElem hr]
  refine ⟨by rw [e, rFlat_app], rFlat (L.drop (r + 1)), ?_⟩
  unfold rFlat
  rw [← List.flatMap_append, List.take_append_drop]
theorem getD_mid {a b t : List Int32} {j : Nat} (h : j < b.length) : (a ++ b ++ t).getD (a.length + j) 0 = b.getD j 0 := by
  rw [List.append_assoc]
  simp [List.getD, List.getElem?_append_right, List.getElem?_append_left h]
theorem dR_tbl {μ : zM} {L : List pRl} (h : dR μ L) (h8 : L.length ≤ 8) (hc : μ 12 6 = nI (rFlat L).length) (hl : (rFlat L).length ≤ 200) : pREq (cR 12 μ) (rTbl L) := by
  obtain ⟨h1, h2, h3⟩ := h
  have hn : (cR 12 μ).1 = L.length := by show (μ 12 5).toNatClampNeg = _; rw [h1, nI_clamp (by omega)]
  refine ⟨hn, fun r hr => ?_⟩
  rw [hn] at hr
  refine ⟨(h2 r hr).1, (h2 r hr).2.1, fun F => ?_⟩
  show cHolds 12 μ r F = cTrue (cRunL F (L.getD r pRl0).2.1 [])
  obtain ⟨f1, t, f2⟩ := rFlat_at hr
  have hlen : (rFlat (L.take (r + 1))).length ≤ (rFlat L).length := by rw [f2, List.length_append]; omega
  have hend : cEnd (μ 15) r = (rFlat (L.take r)).length + (L.getD r pRl0).2.1.length := by
    unfold cEnd
    rw [(h2 r hr).2.2, nI_clamp (by omega), f1, List.length_append]
  have hfrom : cFrom (μ 15) r = (rFlat (L.take r)).length := by
    unfold cFrom
    by_cases q : r = 0
    · subst q; rfl
    · rw [if_neg q, (h2 (r - 1) (by omega)).2.2, show r - 1 + 1 = r by omega, nI_clamp (by rw [f1, List.length_append] at hlen; omega)]
  unfold cHolds
  rw [hend, hfrom, Nat.add_sub_cancel_left]
  rw [cRun_L (fun j hj => by
    rw [h3 _ (by rw [f1, List.length_append] at hlen; omega), f2, f1]
    exact getD_mid hj)]
def tRead (T : Nat → Int32) (len : Nat) : Bool × Nat × List pRl := ((rRules (tK T len) (tV T len) 8 0 []).1 && decide (tK T len (rRules (tK T len) (tV T len) 8 0 []).2.1 = -1), (rRules (tK T len) (tV T len) 8 0 []).2.1, (rRules (tK T len) (tV T len) 8 0 []).2.2)
set_option maxHeartbeats 4000000 in
set_option maxRecDepth 100000 in
theorem eX4_readInto_7 (σ : zG) (μ : zM) (len : Nat) (hl : μ 7 5 = nI len) (hlen : len ≤ 200) (hby : ∀ k, k < len → 0 ≤ μ 8 k) (hD : ∀ r, r < 8 → ∃ e, e ≤ 200 ∧ μ 15 r = nI e) : zMet shC σ 15 MX4_readInto yX4_readInto [zr 7, zr 1] μ (fun rr μ' => rr = some (zi (if (tRead (μ 8) len).1 = true then -1 else nI (tS (μ 8) len (tRead (μ 8) len).2.1))) ∧ (μ' 7 5 = 0 ∧ ∀ r, r < 8 → ∃ e, e ≤ 200 ∧ μ' 15 r = nI e) ∧ (if (tRead (μ 8) len).1 = true then pREq (cR 1 μ') (rTbl (tRead (μ 8) len).2.2) ∧ cROK 1 μ' ∧ zJ [1, 2, 3, 4, 5, 7, 9, 10, 11, 12, 13, 14, 15, 16] μ μ' else zJ [7, 9, 10, 11, 12, 13, 14, 15, 16] μ μ')) := by
  refine zmetF (by decide +kernel) rfl (Nat.le_of_ble_eq_true rfl) ?_
  show zX shC σ 15 MX4_readInto 0 [(0, zr 7), (1, zr 1)] [] μ _
  refine zx_aload_n (k := 0) (nn := 1) dX4_readInto_0 rfl rfl rfl ?_
  refine zx_callV (nn := 4) (k := 7) (d' := 7) (as := []) (rest := []) (n := 0) (eX4_scan_7 σ μ len hl hlen hby) kX4_scan mlX4_35 rfl rfl rfl (by decide) rfl rfl (Nat.le_of_ble_eq_true rfl) dX4_readInto_1 rfl ?_
  rintro _ ν1 ⟨rfl, ⟨a1, a2⟩, c, hc, tb1, tb2, tb3, tb4⟩
  show zX shC σ 15 MX4_readInto 4 [(0, zr 7), (1, zr 1)] [] ν1 _
  refine zx_aload_n (k := 0) (nn := 5) dX4_readInto_4 rfl rfl rfl ?_
  refine zx_iconst (v := 0) (nn := 6) rfl dX4_readInto_5 rfl ?_
  refine zx_putI (nn := 9) fpX4_31 rfl rfl rfl rfl dX4_readInto_6 rfl ?_
  refine zx_aload_n (k := 0) (nn := 10) dX4_readInto_9 rfl rfl rfl ?_
  refine zx_iconst (v := 0) (nn := 11) rfl dX4_readInto_10 rfl ?_
  refine zx_putI (nn := 14) fpX4_38 rfl rfl rfl rfl dX4_readInto_11 rfl ?_
  refine zx_aload_n (k := 0) (nn := 15) dX4_readInto_14 rfl rfl rfl ?_
  refine zx_getR (q := 12) (nn := 18) flX4_27 rfl rfl dX4_readInto_15 rfl ?_
  refine zx_callVf (nn := 21) (k := 12) (d' := 0) (as := []) (rest := []) (n := 0) (eX5_clear_12 σ (zp (zp ν1 7 5 0) 7 7 0)   ) kX5_clear mlX4_41 rfl rfl rfl (by decide) rfl rfl (Nat.le_of_ble_eq_true rfl) dX4_readInto_18 rfl ?_
  show zX shC σ 15 MX4_readInto 21 [(0, zr 7), (1, zr 1)] [] (zp (zp (zp (zp ν1 7 5 0) 7 7 0) 12 5 0) 12 6 0) _
  have hc0 : ∀ q, q ≤ c → (zp (zp (zp (zp ν1 7 5 0) 7 7 0) 12 5 0) 12 6 0) 11 q = nI (tS (μ 8) len q) ∧ (zp (zp (zp (zp ν1 7 5 0) 7 7 0) 12 5 0) 12 6 0) 9 q = tK (μ 8) len q := by
    intro q hq
    rw [zp_ne (show (11 : Nat) ≠ 12 by decide), zp_ne (show (11 : Nat) ≠ 12 by decide), zp_ne (show (11 : Nat) ≠ 7 by decide), zp_ne (show (11 : Nat) ≠ 7 by decide), zp_ne (show (9 : Nat) ≠ 12 by decide), zp_ne (show (9 : Nat) ≠ 12 by decide), zp_ne (show (9 : Nat) ≠ 7 by decide), zp_ne (show (9 : Nat) ≠ 7 by decide)]
    rcases Nat.lt_or_ge q c with e | e
    · exact ⟨(tb1 q e).2.2.1, (tb1 q e).1⟩
    · obtain rfl : q = c := by omega
      exact ⟨tb4, tb2.trans tb3.symm⟩
  have hcl : c ≤ 200 := by omega
  have hI0 : rdI (μ 8) len c μ 0 true 0 [] (zp (zp (zp (zp ν1 7 5 0) 7 7 0) 12 5 0) 12 6 0) := by
    refine ⟨⟨(((((a1.mono (by decide)).p (by decide)).p (by decide)).p (by decide)).p (by decide)), ?_⟩, ⟨Nat.zero_le _, ?_⟩, hc0, fun r hr => ?_, fun _ => ⟨⟨fun q hq => (hc0 q hq).2, fun q hq => ?_, ⟨tb3, by omega⟩, ⟨?_, Nat.zero_le _⟩, ?_, Nat.le_refl _⟩, ⟨?_, fun r hr => absurd hr (by simp), fun j hj => absurd hj (by simp [rFlat])⟩, rfl, rfl⟩, fun h => by cases h⟩
    · rfl
    · rfl
    · rw [show (zp (zp (zp (zp ν1 7 5 0) 7 7 0) 12 5 0) 12 6 0) 15 = μ 15 from (by rw [zp_ne (by decide), zp_ne (by decide), zp_ne (by decide), zp_ne (by decide)]; exact a1 15 (by decide))]; exact hD r hr
    · exact (tb1 q hq).2.1
    · rfl
    · rfl
    · rfl
  refine zx_iconst (v := 1) (nn := 22) rfl dX4_readInto_21 rfl ?_
  refine zx_istore_n (nn := 23) (lv' := [(2, zi 1), (0, zr 7), (1, zr 1)]) dX4_readInto_22 rfl (by decide) rfl rfl ?_
  refine zx_iconst (v := 0) (nn := 24) rfl dX4_readInto_23 rfl ?_
  refine zx_istore_n (nn := 25) (lv' := [(3, zi 0), (2, zi 1), (0, zr 7), (1, zr 1)]) dX4_readInto_24 rfl (by decide) rfl rfl ?_
  refine zx_lv (lv' := [(0, zr 7), (1, zr 1), (2, zi 1), (3, zi 0)]) [2, 3, 1, 0] rfl ?_
  refine zx_while (τ := Nat × Bool × Nat × List pRl × zM) (fun t_ => 8 - t_.1) (fun t_ => t_.1 ≤ 8 ∧ rdI (μ 8) len c μ t_.1 t_.2.1 t_.2.2.1 t_.2.2.2.1 t_.2.2.2.2) (fun t_ => [(0, zr 7), (1, zr 1), (2, zi (zb t_.2.1)), (3, zi (nI t_.1))]) (fun t_ => t_.2.2.2.2) (t0 := (0, true, 0, [], zp (zp (zp (zp ν1 7 5 0) 7 7 0) 12 5 0) 12 6 0)) (show 0 ≤ 8 ∧ rdI (μ 8) len c μ 0 true 0 ([]) (zp (zp (zp (zp ν1 7 5 0) 7 7 0) 12 5 0) 12 6 0) from ⟨Nat.zero_le _, hI0⟩) ?_
  rintro ⟨i, b, k, L, μ1⟩ hI ih25
  replace hI : i ≤ 8 ∧ rdI (μ 8) len c μ i b k L μ1 := hI
  show zX shC σ 15 MX4_readInto 25 [(0, zr 7), (1, zr 1), (2, zi (zb b)), (3, zi (nI i))] [] μ1 _
  obtain ⟨hi, h7, hk, ht, hw, hT, hF⟩ := hI
  refine zx_iload_n (k := 3) (nn := 26) dX4_readInto_25 rfl rfl rfl ?_
  refine zx_bipush (v := 8) (nn := 28) rfl dX4_readInto_26 rfl ?_
  refine zx_icmp_ge (tgt := 59) (nn := 31) dX4_readInto_28 (by decide) rfl (fun h28 => ?_) (fun h28 => ?_)
  · have hi8e : i = 8 := by have := nI_le_le (b := 8) (a := i) h28 (by omega); omega
    refine zx_iload_n (k := 2) (nn := 60) dX4_readInto_59 rfl rfl rfl ?_
    refine zx_ifb_eq (tgt := 76) (nn := 63) dX4_readInto_60 (by decide) rfl (fun h60 => ?_) (fun h60 => ?_)
    · refine zx_aload_n (k := 0) (nn := 77) dX4_readInto_76 rfl rfl rfl ?_
      refine zx_getR (q := 11) (nn := 80) flX4_21 rfl rfl dX4_readInto_77 rfl ?_
      refine zx_aload_n (k := 0) (nn := 81) dX4_readInto_80 rfl rfl rfl ?_
      refine zx_getI (nn := 84) flX4_38 rfl rfl dX4_readInto_81 rfl ?_
      rw [show μ1 7 7 = nI k from hk.2]
      show zX shC σ 15 MX4_readInto 84 [(0, zr 7), (1, zr 1), (2, zi (zb b)), (3, zi (nI i))] [zi (nI k), zr 11] μ1 _
      refine zx_iald_n (j := k) (nn := 85) rfl (by have := hcl; have := hk.1; omega) (by decide) dX4_readInto_84 rfl ?_
      rw [show μ1 11 k = nI (tS (μ 8) len k) from (ht k hk.1).1]
      show zX shC σ 15 MX4_readInto 85 [(0, zr 7), (1, zr 1), (2, zi (zb b)), (3, zi (nI i))] [zi (nI (tS (μ 8) len k))] μ1 _
      refine zx_iret rfl dX4_readInto_85 ?_
      have hR := hF h60
      have hE : tRead (μ 8) len = (false, k, []) := by unfold tRead; rw [hR]; rfl
      rw [hE]
      exact ⟨congrArg (fun x => some (zi x)) (if_neg (by simp)).symm, ⟨h7.2, hw⟩, by rw [if_neg (by simp)]; exact h7.1⟩
    · have hSf := hT h60
      have hi8 : L.length ≤ 8 := by have := hSf.2.2.1; omega
      refine zx_aload_n (k := 0) (nn := 64) dX4_readInto_63 rfl rfl rfl ?_
      refine zx_getR (q := 9) (nn := 67) flX4_15 rfl rfl dX4_readInto_64 rfl ?_
      refine zx_aload_n (k := 0) (nn := 68) dX4_readInto_67 rfl rfl rfl ?_
      refine zx_getI (nn := 71) flX4_38 rfl rfl dX4_readInto_68 rfl ?_
      rw [show μ1 7 7 = nI k from hk.2]
      show zX shC σ 15 MX4_readInto 71 [(0, zr 7), (1, zr 1), (2, zi (zb b)), (3, zi (nI i))] [zi (nI k), zr 9] μ1 _
      refine zx_iald_n (j := k) (nn := 72) rfl (by have := (hT h60).1.2.2.1.2; have := hk.1; omega) (by decide) dX4_readInto_71 rfl ?_
      rw [show μ1 9 k = tK (μ 8) len k from (ht k hk.1).2]
      show zX shC σ 15 MX4_readInto 72 [(0, zr 7), (1, zr 1), (2, zi (zb b)), (3, zi (nI i))] [zi (tK (μ 8) len k)] μ1 _
      refine zx_iconst (v := -1) (nn := 73) rfl dX4_readInto_72 rfl ?_
      refine zx_icmp_eq (tgt := 86) (nn := 76) dX4_readInto_73 (by decide) rfl (fun h73 => ?_) (fun h73 => ?_)
      · refine zx_aload_n (k := 1) (nn := 87) dX4_readInto_86 rfl rfl rfl ?_
        refine zx_aload_n (k := 0) (nn := 88) dX4_readInto_87 rfl rfl rfl ?_
        refine zx_getR (q := 12) (nn := 91) flX4_27 rfl rfl dX4_readInto_88 rfl ?_
        refine zx_callV (nn := 94) (k := 1) (d' := 1) (as := [zr 12]) (rest := []) (n := 1) (eX5_copyFrom_1_12 σ μ1 (dR_ok hSf.2.1 hi8 hw)) kX5_copyFrom mlX4_48 rfl rfl rfl (by decide) rfl rfl (Nat.le_of_ble_eq_true rfl) dX4_readInto_91 rfl ?_
        rintro _ ν2 ⟨rfl, z1, z2, z3⟩
        show zX shC σ 15 MX4_readInto 94 [(0, zr 7), (1, zr 1), (2, zi (zb b)), (3, zi (nI i))] [] ν2 _
        refine zx_iconst (v := -1) (nn := 95) rfl dX4_readInto_94 rfl ?_
        refine zx_iret rfl dX4_readInto_95 ?_
        have hR : rRules (tK (μ 8) len) (tV (μ 8) len) 8 0 [] = (true, k, L) := by rw [hSf.2.2.2, show 8 - i = 0 by omega]; rfl
        have hE : tRead (μ 8) len = (true, k, L) := by unfold tRead; rw [hR, decide_eq_true h73]; rfl
        rw [hE]
        refine ⟨congrArg (fun x => some (zi x)) (if_pos rfl).symm, ⟨by rw [z3 7 (by decide)]; exact h7.2, fun r hr => by rw [z3 15 (by decide)]; exact hw r hr⟩, ?_⟩
        rw [if_pos rfl]
        exact ⟨z1.trans (dR_tbl hSf.2.1 hi8 hSf.1.2.2.2.2.1 (show (rFlat L).length ≤ 200 by have := hSf.1.2.2.2.2.2; have := hk.1; have := hSf.1.2.2.1.2; omega)), z2, (h7.1.mono (by decide)).tr (z3.mono (by decide))⟩
      · refine zx_aload_n (k := 0) (nn := 77) dX4_readInto_76 rfl rfl rfl ?_
        refine zx_getR (q := 11) (nn := 80) flX4_21 rfl rfl dX4_readInto_77 rfl ?_
        refine zx_aload_n (k := 0) (nn := 81) dX4_readInto_80 rfl rfl rfl ?_
        refine zx_getI (nn := 84) flX4_38 rfl rfl dX4_readInto_81 rfl ?_
        rw [show μ1 7 7 = nI k from hk.2]
        show zX shC σ 15 MX4_readInto 84 [(0, zr 7), (1, zr 1), (2, zi (zb b)), (3, zi (nI i))] [zi (nI k), zr 11] μ1 _
        refine zx_iald_n (j := k) (nn := 85) rfl (by have := hcl; have := hk.1; omega) (by decide) dX4_readInto_84 rfl ?_
        rw [show μ1 11 k = nI (tS (μ 8) len k) from (ht k hk.1).1]
        show zX shC σ 15 MX4_readInto 85 [(0, zr 7), (1, zr 1), (2, zi (zb b)), (3, zi (nI i))] [zi (nI (tS (μ 8) len k))] μ1 _
        refine zx_iret rfl dX4_readInto_85 ?_
        have hR : rRules (tK (μ 8) len) (tV (μ 8) len) 8 0 [] = (true, k, L) := by rw [hSf.2.2.2, show 8 - i = 0 by omega]; rfl
        have hE : tRead (μ 8) len = (false, k, L) := by unfold tRead; rw [hR, decide_eq_false h73]; rfl
        rw [hE]
        exact ⟨congrArg (fun x => some (zi x)) (if_neg (by simp)).symm, ⟨h7.2, hw⟩, by rw [if_neg (by simp)]; exact h7.1⟩
  · refine zx_iload_n (k := 2) (nn := 32) dX4_readInto_31 rfl rfl rfl ?_
    refine zx_ifb_eq (tgt := 59) (nn := 35) dX4_readInto_32 (by decide) rfl (fun h32 => ?_) (fun h32 => ?_)
    · refine zx_iload_n (k := 2) (nn := 60) dX4_readInto_59 rfl rfl rfl ?_
      refine zx_ifb_eq (tgt := 76) (nn := 63) dX4_readInto_60 (by decide) rfl (fun h60 => ?_) (fun h60 => ?_)
      · refine zx_aload_n (k := 0) (nn := 77) dX4_readInto_76 rfl rfl rfl ?_
        refine zx_getR (q := 11) (nn := 80) flX4_21 rfl rfl dX4_readInto_77 rfl ?_
        refine zx_aload_n (k := 0) (nn := 81) dX4_readInto_80 rfl rfl rfl ?_
        refine zx_getI (nn := 84) flX4_38 rfl rfl dX4_readInto_81 rfl ?_
        rw [show μ1 7 7 = nI k from hk.2]
        show zX shC σ 15 MX4_readInto 84 [(0, zr 7), (1, zr 1), (2, zi (zb b)), (3, zi (nI i))] [zi (nI k), zr 11] μ1 _
        refine zx_iald_n (j := k) (nn := 85) rfl (by have := hcl; have := hk.1; omega) (by decide) dX4_readInto_84 rfl ?_
        rw [show μ1 11 k = nI (tS (μ 8) len k) from (ht k hk.1).1]
        show zX shC σ 15 MX4_readInto 85 [(0, zr 7), (1, zr 1), (2, zi (zb b)), (3, zi (nI i))] [zi (nI (tS (μ 8) len k))] μ1 _
        refine zx_iret rfl dX4_readInto_85 ?_
        have hR := hF h60
        have hE : tRead (μ 8) len = (false, k, []) := by unfold tRead; rw [hR]; rfl
        rw [hE]
        exact ⟨congrArg (fun x => some (zi x)) (if_neg (by simp)).symm, ⟨h7.2, hw⟩, by rw [if_neg (by simp)]; exact h7.1⟩
      · exact absurd (h60.symm.trans h32) (by decide)
    · have hSk := hT h32
      refine zx_aload_n (k := 0) (nn := 36) dX4_readInto_35 rfl rfl rfl ?_
      refine zx_getR (q := 9) (nn := 39) flX4_15 rfl rfl dX4_readInto_36 rfl ?_
      refine zx_aload_n (k := 0) (nn := 40) dX4_readInto_39 rfl rfl rfl ?_
      refine zx_getI (nn := 43) flX4_38 rfl rfl dX4_readInto_40 rfl ?_
      rw [show μ1 7 7 = nI k from hk.2]
      show zX shC σ 15 MX4_readInto 43 [(0, zr 7), (1, zr 1), (2, zi (zb b)), (3, zi (nI i))] [zi (nI k), zr 9] μ1 _
      refine zx_iald_n (j := k) (nn := 44) rfl (by have := (hT h32).1.2.2.1.2; have := hk.1; omega) (by decide) dX4_readInto_43 rfl ?_
      rw [show μ1 9 k = tK (μ 8) len k from (ht k hk.1).2]
      show zX shC σ 15 MX4_readInto 44 [(0, zr 7), (1, zr 1), (2, zi (zb b)), (3, zi (nI i))] [zi (tK (μ 8) len k)] μ1 _
      refine zx_iconst (v := -1) (nn := 45) rfl dX4_readInto_44 rfl ?_
      refine zx_icmp_eq (tgt := 59) (nn := 48) dX4_readInto_45 (by decide) rfl (fun h45 => ?_) (fun h45 => ?_)
      · refine zx_iload_n (k := 2) (nn := 60) dX4_readInto_59 rfl rfl rfl ?_
        refine zx_ifb_eq (tgt := 76) (nn := 63) dX4_readInto_60 (by decide) rfl (fun h60 => ?_) (fun h60 => ?_)
        · exact absurd (h60.symm.trans h32) (by decide)
        · have hSf := hT h60
          have hi8 : L.length ≤ 8 := by have := hSf.2.2.1; omega
          refine zx_aload_n (k := 0) (nn := 64) dX4_readInto_63 rfl rfl rfl ?_
          refine zx_getR (q := 9) (nn := 67) flX4_15 rfl rfl dX4_readInto_64 rfl ?_
          refine zx_aload_n (k := 0) (nn := 68) dX4_readInto_67 rfl rfl rfl ?_
          refine zx_getI (nn := 71) flX4_38 rfl rfl dX4_readInto_68 rfl ?_
          rw [show μ1 7 7 = nI k from hk.2]
          show zX shC σ 15 MX4_readInto 71 [(0, zr 7), (1, zr 1), (2, zi (zb b)), (3, zi (nI i))] [zi (nI k), zr 9] μ1 _
          refine zx_iald_n (j := k) (nn := 72) rfl (by have := (hT h60).1.2.2.1.2; have := hk.1; omega) (by decide) dX4_readInto_71 rfl ?_
          rw [show μ1 9 k = tK (μ 8) len k from (ht k hk.1).2]
          show zX shC σ 15 MX4_readInto 72 [(0, zr 7), (1, zr 1), (2, zi (zb b)), (3, zi (nI i))] [zi (tK (μ 8) len k)] μ1 _
          refine zx_iconst (v := -1) (nn := 73) rfl dX4_readInto_72 rfl ?_
          refine zx_icmp_eq (tgt := 86) (nn := 76) dX4_readInto_73 (by decide) rfl (fun h73 => ?_) (fun h73 => ?_)
          · refine zx_aload_n (k := 1) (nn := 87) dX4_readInto_86 rfl rfl rfl ?_
            refine zx_aload_n (k := 0) (nn := 88) dX4_readInto_87 rfl rfl rfl ?_
            refine zx_getR (q := 12) (nn := 91) flX4_27 rfl rfl dX4_readInto_88 rfl ?_
            refine zx_callV (nn := 94) (k := 1) (d' := 1) (as := [zr 12]) (rest := []) (n := 1) (eX5_copyFrom_1_12 σ μ1 (dR_ok hSf.2.1 hi8 hw)) kX5_copyFrom mlX4_48 rfl rfl rfl (by decide) rfl rfl (Nat.le_of_ble_eq_true rfl) dX4_readInto_91 rfl ?_
            rintro _ ν3 ⟨rfl, z1, z2, z3⟩
            show zX shC σ 15 MX4_readInto 94 [(0, zr 7), (1, zr 1), (2, zi (zb b)), (3, zi (nI i))] [] ν3 _
            refine zx_iconst (v := -1) (nn := 95) rfl dX4_readInto_94 rfl ?_
            refine zx_iret rfl dX4_readInto_95 ?_
            have hR : rRules (tK (μ 8) len) (tV (μ 8) len) 8 0 [] = (true, k, L) := by rw [hSf.2.2.2, show 8 - i = (8 - (i + 1)) + 1 by have := nI_nle_lt (b := 8) h28 (by omega); omega]; exact if_pos h45
            have hE : tRead (μ 8) len = (true, k, L) := by unfold tRead; rw [hR, decide_eq_true h73]; rfl
            rw [hE]
            refine ⟨congrArg (fun x => some (zi x)) (if_pos rfl).symm, ⟨by rw [z3 7 (by decide)]; exact h7.2, fun r hr => by rw [z3 15 (by decide)]; exact hw r hr⟩, ?_⟩
            rw [if_pos rfl]
            exact ⟨z1.trans (dR_tbl hSf.2.1 hi8 hSf.1.2.2.2.2.1 (show (rFlat L).length ≤ 200 by have := hSf.1.2.2.2.2.2; have := hk.1; have := hSf.1.2.2.1.2; omega)), z2, (h7.1.mono (by decide)).tr (z3.mono (by decide))⟩
          · exact absurd h45 h73
      · have hne : ¬ tK (μ 8) len k = -1 := h45
        have hlt : i < 8 := nI_nle_lt (b := 8) h28 (by omega)
        refine zx_aload_n (k := 0) (nn := 49) dX4_readInto_48 rfl rfl rfl ?_
        refine zx_callV (nn := 52) (k := 7) (d' := 14) (as := []) (rest := []) (n := 0) (eX4_readRule_7 σ μ1 (tK (μ 8) len) (tV (μ 8) len) c k (rFlat L).length L.length hSk.1 hSk.2.1.1 (by rw [hSk.2.2.1]; exact hlt)) kX4_readRule mlX4_44 rfl rfl rfl (by decide) rfl rfl (Nat.le_of_ble_eq_true rfl) dX4_readInto_49 rfl ?_
        rintro _ ν4 ⟨rfl, q1⟩
        show zX shC σ 15 MX4_readInto 52 [(0, zr 7), (1, zr 1), (2, zi (zb b)), (3, zi (nI i))] [zi (zb (rRule (tK (μ 8) len) (tV (μ 8) len) k).1)] ν4 _
        have hnext : rdI (μ 8) len c μ (i + 1) (rRule (tK (μ 8) len) (tV (μ 8) len) k).1 (rRule (tK (μ 8) len) (tV (μ 8) len) k).2.1 (if (rRule (tK (μ 8) len) (tV (μ 8) len) k).1 = true then L ++ [(rRule (tK (μ 8) len) (tV (μ 8) len) k).2.2] else L) ν4 := by
          have hgd := gd_rule (V := (tV (μ 8) len)) hSk.1.2.2.1.1 hk.1
          obtain ⟨⟨r1, r2⟩, r3, r4, r5⟩ := id q1
          refine ⟨⟨h7.1.tr (r1.mono (by decide)), (r2 5 (by decide)).trans h7.2⟩, ⟨hgd.1, r3⟩, fun q hq => ⟨by rw [r1 11 (by decide)]; exact (ht q hq).1, by rw [r1 9 (by decide)]; exact (ht q hq).2⟩, fun r hr => ?_, fun ok => ?_, fun no => ?_⟩
          · by_cases ok : (rRule (tK (μ 8) len) (tV (μ 8) len) k).1 = true
            · obtain ⟨g2, g3, g4, g5, g6, g7, g8, g9⟩ := r4 ok
              rcases Nat.lt_trichotomy r L.length with e | e | e
              · rw [(g5 r e).2.2]; exact hw r hr
              · rw [e, g8]; exact ⟨_, by have := g2.2.2.2.2.2; have := g2.2.2.2.1.2; have := g2.2.2.1.2; omega, rfl⟩
              · rw [g9 r e]; exact hw r hr
            · rw [r5 (Bool.eq_false_iff.mpr ok)]; exact hw r hr
          · rw [if_pos ok]
            refine ⟨by rw [rFlat_app, List.length_append]; exact (r4 ok).1, dR.add hSk.2.1 q1 ok, by rw [List.length_append, hSk.2.2.1]; rfl, ?_⟩
            rw [hSk.2.2.2, show 8 - i = (8 - (i + 1)) + 1 by omega]
            show (if _ then _ else if _ then _ else _) = _
            rw [if_neg hne, if_pos ok]
          · rw [hSk.2.2.2, show 8 - i = (8 - (i + 1)) + 1 by omega]
            show (if _ then _ else if _ then _ else _) = _
            rw [if_neg hne, if_neg (by rw [no]; decide)]
        refine zx_istore_n (nn := 53) (lv' := [(2, zi (zb (rRule (tK (μ 8) len) (tV (μ 8) len) k).1)), (0, zr 7), (1, zr 1), (3, zi (nI i))]) dX4_readInto_52 rfl (by decide) rfl rfl ?_
        refine zx_iinc (k := 3) (v := nI (i + 1)) (lv' := [(3, zi (nI (i + 1))), (2, zi (zb (rRule (tK (μ 8) len) (tV (μ 8) len) k).1)), (0, zr 7), (1, zr 1)]) (nn := 56) dX4_readInto_53 rfl (nI_1 i) (by decide) rfl rfl ?_
        refine zx_goto (tgt := 25) dX4_readInto_56 (by decide) ?_
        refine zx_lv (lv' := [(0, zr 7), (1, zr 1), (2, zi (zb (rRule (tK (μ 8) len) (tV (μ 8) len) k).1)), (3, zi (nI (i + 1)))]) [2, 3, 1, 0] rfl ?_
        exact ih25 (i + 1, (rRule (tK (μ 8) len) (tV (μ 8) len) k).1, (rRule (tK (μ 8) len) (tV (μ 8) len) k).2.1, (if (rRule (tK (μ 8) len) (tV (μ 8) len) k).1 = true then L ++ [(rRule (tK (μ 8) len) (tV (μ 8) len) k).2.2] else L), ν4) (show (i + 1) ≤ 8 ∧ rdI (μ 8) len c μ (i + 1) ((rRule (tK (μ 8) len) (tV (μ 8) len) k).1) ((rRule (tK (μ 8) len) (tV (μ 8) len) k).2.1) (if (rRule (tK (μ 8) len) (tV (μ 8) len) k).1 = true then L ++ [(rRule (tK (μ 8) len) (tV (μ 8) len) k).2.2] else L) ν4 from ⟨by omega, hnext⟩) (by show 8 - (i + 1) < 8 - i; omega)
