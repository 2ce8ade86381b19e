/-! the class's rules: a condition is run over a stack -/
def cVal (F : Nat → Int32) (c : Int32) : Int32 := if c < 0 then F (-1 - c).toNatClampNeg else c
def cComb (c x y : Int32) : Int32 := if c = -6 then zb (decide (x < y)) else if c = -7 then zb (decide (x = y)) else if c = -8 then zb (decide (y < x)) else if c = -10 then x &&& y else x ||| y
def cStep (F : Nat → Int32) (c : Int32) (st : List Int32) : List Int32 :=
  if c ≤ -6 then (if c = -9 then (match st with
    | [] => []
    | x :: r => (1 - x) :: r) else (match st with
    | y :: x :: r => cComb c x y :: r
    | [x] => [x]
    | [] => [])) else cVal F c :: st
def cRun (F : Nat → Int32) (code : Nat → Int32) : Nat → Nat → List Int32 → List Int32
  | _, 0, st => st
  | i, m + 1, st => cRun F code (i + 1) m (cStep F (code i) st)
def cTrue : List Int32 → Bool
  | [] => true
  | [x] => decide (¬ x = 0)
  | _ :: x :: r => cTrue (x :: r)
def cFrom (e : Nat → Int32) (r : Nat) : Nat := if r = 0 then 0 else (e (r - 1)).toNatClampNeg
def cEnd (e : Nat → Int32) (r : Nat) : Nat := (e r).toNatClampNeg
/-- the rules at b: does rule r's condition hold by the facts F -/
def cHolds (b : Nat) (μ : zM) (r : Nat) (F : Nat → Int32) : Bool := cTrue (cRun F (μ (b + 4)) (cFrom (μ (b + 3)) r) (cEnd (μ (b + 3)) r - cFrom (μ (b + 3)) r) [])
def cROK (b : Nat) (μ : zM) : Prop := (∃ n, n ≤ 8 ∧ μ b 5 = nI n) ∧ ∀ r, r < 8 → ∃ e, e ≤ 200 ∧ μ (b + 3) r = nI e
def cR (b : Nat) (μ : zM) : pR := ((μ b 5).toNatClampNeg, μ (b + 1), μ (b + 2), cHolds b μ)
def stRep (a : Nat → Int32) : List Int32 → Prop
  | [] => True
  | x :: r => a r.length = x ∧ stRep a r
theorem stRep_upd {a : Nat → Int32} {n : Nat} {v : Int32} : ∀ {st : List Int32}, st.length ≤ n → stRep a st → stRep (upd a n v) st
  | [], _, _ => trivial
  | x :: r, h, hs => by
    have hl : r.length < n := h
    refine ⟨?_, stRep_upd (Nat.le_of_lt hl) hs.2⟩
    rw [pk_un (by omega)]
    exact hs.1
theorem stRep_bot {a : Nat → Int32} : ∀ {st : List Int32}, st ≠ [] → stRep a st → cTrue st = decide (¬ a 0 = 0)
  | [], h, _ => absurd rfl h
  | [x], _, hs => by
    have h1 : a 0 = x := hs.1
    rw [h1]; rfl
  | _ :: x :: r, _, hs => stRep_bot (st := x :: r) (by simp) hs.2
/-- but for the cells in J all is as it was -/
def zJ (J : List Nat) (μ μ' : zM) : Prop := ∀ k, k ∉ J → μ' k = μ k
theorem zJ.rf {J : List Nat} {μ : zM} : zJ J μ μ := fun _ _ => rfl
theorem zJ.tr {J : List Nat} {μ μ1 μ2 : zM} (h1 : zJ J μ μ1) (h2 : zJ J μ1 μ2) : zJ J μ μ2 := fun k hk => (h2 k hk).trans (h1 k hk)
theorem zJ.mono {J J' : List Nat} {μ μ1 : zM} (h : zJ J μ μ1) (hs : ∀ k ∈ J, k ∈ J') : zJ J' μ μ1 := fun k hk => h k (fun q => hk (hs k q))
theorem zp_ne {μ : zM} {k j q : Nat} {v : Int32} (h : q ≠ k) : zp μ k j v q = μ q := if_neg h
theorem zp_eq {μ : zM} {k j : Nat} {v : Int32} : zp μ k j v k = upd (μ k) j v := if_pos rfl
theorem zJ.p {J : List Nat} {μ μ1 : zM} (h : zJ J μ μ1) {k j : Nat} {v : Int32} (hk : k ∈ J) : zJ J μ (zp μ1 k j v) := fun q hq => (zp_ne (fun e => hq (by rw [e]; exact hk))).trans (h q hq)
theorem nI_s1 {n : Nat} : nI (n + 1) - 1 = nI n := nI_pred n
theorem cIdx {c : Int32} (h1 : ¬ c ≤ -6) (h2 : c < 0) : vp_in (-1 - c) 5 := by
  rw [vp_in_iff]
  have e1 : ¬ c.toInt ≤ -6 := fun q => h1 (Int32.le_iff_toInt_le.mpr (by rw [show (-6 : Int32).toInt = -6 from by decide +kernel]; exact q))
  have e2 := Int32.lt_iff_toInt_lt.mp h2
  rw [zt0] at e2
  have e3 : (-1 - c).toInt = -1 - c.toInt := by
    rw [Int32.toInt_sub, ztm1]
    exact Int.bmod_eq_of_le (by omega) (by omega)
  omega
theorem nI_nle_lt {a b : Nat} (h : ¬ nI b ≤ nI a) (ha : a < 2 ^ 31) : a < b := by
  rcases Nat.lt_or_ge a b with q | q
  · exact q
  · exact absurd (nI_le q ha) h
theorem nI_le_le {a b : Nat} (h : nI b ≤ nI a) (hb : b < 2 ^ 31) : b ≤ a := by
  rcases Nat.lt_or_ge a b with q | q
  · exact absurd h (nI_ge q hb)
  · exact q
theorem nI_eq0 {a : Nat} (h : nI a = 0) (ha : a < 2 ^ 31) : a = 0 := (nI_eq (b := 0) ha (by omega)).mp h
theorem nI_sub1 {r : Nat} (h : r ≠ 0) : nI r - 1 = nI (r - 1) := by
  obtain ⟨k, rfl⟩ : ∃ k, r = k + 1 := ⟨r - 1, by omega⟩
  exact nI_pred k
theorem nI_dec (n : Nat) : nI (n + 2) + (-1) = nI (n + 1) := by
  rw [show n + 2 = (n + 1) + 1 from rfl, nI_succ (n + 1), Int32.add_assoc, show (1 : Int32) + (-1) = 0 from rfl, Int32.add_zero]
set_option maxHeartbeats 4000000 in
set_option maxRecDepth 100000 in
theorem eX5_combine (σ : zG) (μ : zM) (c : Int32) (x : Int32) (y : Int32) : zMet shC σ 0 MX5_combine yX5_combine [zi c, zi x, zi y] μ (fun rr μ' => rr = some (zi (cComb c x y)) ∧ μ' = μ) := by
  refine zmetF (by decide +kernel) rfl (Nat.le_of_ble_eq_true rfl) ?_
  show zX shC σ 0 MX5_combine 0 [(0, zi c), (1, zi x), (2, zi y)] [] μ _
  refine zx_iload_n (k := 0) (nn := 1) dX5_combine_0 rfl rfl rfl ?_
  by_cases h1_m10 : c = (-10)
  · refine zx_sw h1_m10 ?_
    refine zx_tabIn (tgt := 69) (off := 68) dX5_combine_1 (by decide +kernel) (by decide +kernel) (by decide +kernel) (by decide) ?_
    refine zx_iload_n (k := 1) (nn := 70) dX5_combine_69 rfl rfl rfl ?_
    refine zx_iload_n (k := 2) (nn := 71) dX5_combine_70 rfl rfl rfl ?_
    refine zx_iand (nn := 72) dX5_combine_71 rfl ?_
    refine zx_iret rfl dX5_combine_72 ?_
    refine ⟨congrArg (fun x => some (zi x)) ?_, rfl⟩
    unfold cComb zb
    simp_all
  by_cases h1_m9 : c = (-9)
  · refine zx_sw h1_m9 ?_
    refine zx_tabIn (tgt := 73) (off := 72) dX5_combine_1 (by decide +kernel) (by decide +kernel) (by decide +kernel) (by decide) ?_
    refine zx_iload_n (k := 1) (nn := 74) dX5_combine_73 rfl rfl rfl ?_
    refine zx_iload_n (k := 2) (nn := 75) dX5_combine_74 rfl rfl rfl ?_
    refine zx_ior (nn := 76) dX5_combine_75 rfl ?_
    refine zx_iret rfl dX5_combine_76 ?_
    refine ⟨congrArg (fun x => some (zi x)) ?_, rfl⟩
    unfold cComb zb
    simp_all
  by_cases h1_m8 : c = (-8)
  · refine zx_sw h1_m8 ?_
    refine zx_tabIn (tgt := 58) (off := 57) dX5_combine_1 (by decide +kernel) (by decide +kernel) (by decide +kernel) (by decide) ?_
    refine zx_iload_n (k := 1) (nn := 59) dX5_combine_58 rfl rfl rfl ?_
    refine zx_iload_n (k := 2) (nn := 60) dX5_combine_59 rfl rfl rfl ?_
    refine zx_icmp_le (tgt := 67) (nn := 63) dX5_combine_60 (by decide) rfl (fun h60 => ?_) (fun h60 => ?_)
    · refine zx_iconst (v := 0) (nn := 68) rfl dX5_combine_67 rfl ?_
      refine zx_iret rfl dX5_combine_68 ?_
      refine ⟨congrArg (fun x => some (zi x)) ?_, rfl⟩
      unfold cComb zb
      simp_all
    · refine zx_iconst (v := 1) (nn := 64) rfl dX5_combine_63 rfl ?_
      refine zx_goto (tgt := 68) dX5_combine_64 (by decide) ?_
      refine zx_iret rfl dX5_combine_68 ?_
      refine ⟨congrArg (fun x => some (zi x)) ?_, rfl⟩
      unfold cComb zb
      simp_all
  by_cases h1_m7 : c = (-7)
  · refine zx_sw h1_m7 ?_
    refine zx_tabIn (tgt := 47) (off := 46) dX5_combine_1 (by decide +kernel) (by decide +kernel) (by decide +kernel) (by decide) ?_
    refine zx_iload_n (k := 1) (nn := 48) dX5_combine_47 rfl rfl rfl ?_
    refine zx_iload_n (k := 2) (nn := 49) dX5_combine_48 rfl rfl rfl ?_
    refine zx_icmp_ne (tgt := 56) (nn := 52) dX5_combine_49 (by decide) rfl (fun h49 => ?_) (fun h49 => ?_)
    · refine zx_iconst (v := 0) (nn := 57) rfl dX5_combine_56 rfl ?_
      refine zx_iret rfl dX5_combine_57 ?_
      refine ⟨congrArg (fun x => some (zi x)) ?_, rfl⟩
      unfold cComb zb
      simp_all
    · refine zx_iconst (v := 1) (nn := 53) rfl dX5_combine_52 rfl ?_
      refine zx_goto (tgt := 57) dX5_combine_53 (by decide) ?_
      refine zx_iret rfl dX5_combine_57 ?_
      refine ⟨congrArg (fun x => some (zi x)) ?_, rfl⟩
      unfold cComb zb
      simp_all
  by_cases h1_m6 : c = (-6)
  · refine zx_sw h1_m6 ?_
    refine zx_tabIn (tgt := 36) (off := 35) dX5_combine_1 (by decide +kernel) (by decide +kernel) (by decide +kernel) (by decide) ?_
    refine zx_iload_n (k := 1) (nn := 37) dX5_combine_36 rfl rfl rfl ?_
    refine zx_iload_n (k := 2) (nn := 38) dX5_combine_37 rfl rfl rfl ?_
    refine zx_icmp_ge (tgt := 45) (nn := 41) dX5_combine_38 (by decide) rfl (fun h38 => ?_) (fun h38 => ?_)
    · refine zx_iconst (v := 0) (nn := 46) rfl dX5_combine_45 rfl ?_
      refine zx_iret rfl dX5_combine_46 ?_
      refine ⟨congrArg (fun x => some (zi x)) ?_, rfl⟩
      unfold cComb zb
      simp_all
    · refine zx_iconst (v := 1) (nn := 42) rfl dX5_combine_41 rfl ?_
      refine zx_goto (tgt := 46) dX5_combine_42 (by decide) ?_
      refine zx_iret rfl dX5_combine_46 ?_
      refine ⟨congrArg (fun x => some (zi x)) ?_, rfl⟩
      unfold cComb zb
      simp_all
  refine zx_tabOut (tgt := 73) dX5_combine_1 (zsw_out (lo := -10) (hi := -6) (fun k hk1 hk2 => by rcases (show k = -10 ∨ k = -9 ∨ k = -8 ∨ k = -7 ∨ k = -6 by omega) with rfl | rfl | rfl | rfl | rfl; exact lv_neT h1_m10 rfl; exact lv_neT h1_m9 rfl; exact lv_neT h1_m8 rfl; exact lv_neT h1_m7 rfl; exact lv_neT h1_m6 rfl)) (by decide) ?_
  refine zx_iload_n (k := 1) (nn := 74) dX5_combine_73 rfl rfl rfl ?_
  refine zx_iload_n (k := 2) (nn := 75) dX5_combine_74 rfl rfl rfl ?_
  refine zx_ior (nn := 76) dX5_combine_75 rfl ?_
  refine zx_iret rfl dX5_combine_76 ?_
  refine ⟨congrArg (fun x => some (zi x)) ?_, rfl⟩
  unfold cComb zb
  simp_all
set_option maxHeartbeats 4000000 in
set_option maxRecDepth 100000 in
theorem eX5_valueOf_24 (σ : zG) (μ : zM) (c : Int32) (hc : ¬ c ≤ -6) : zMet shC σ 0 MX5_valueOf yX5_valueOf [zi c, zr 24] μ (fun rr μ' => rr = some (zi (cVal (μ 24) c)) ∧ μ' = μ) := by
  refine zmetF (by decide +kernel) rfl (Nat.le_of_ble_eq_true rfl) ?_
  show zX shC σ 0 MX5_valueOf 0 [(0, zi c), (1, zr 24)] [] μ _
  refine zx_iload_n (k := 0) (nn := 1) dX5_valueOf_0 rfl rfl rfl ?_
  refine zx_if_lt (tgt := 8) (nn := 4) dX5_valueOf_1 (by decide) rfl (fun h1 => ?_) (fun h1 => ?_)
  · refine zx_aload_n (k := 1) (nn := 9) dX5_valueOf_8 rfl rfl rfl ?_
    refine zx_iconst (v := -1) (nn := 10) rfl dX5_valueOf_9 rfl ?_
    refine zx_iload_n (k := 0) (nn := 11) dX5_valueOf_10 rfl rfl rfl ?_
    refine zx_isub (nn := 12) dX5_valueOf_11 rfl ?_
    refine zx_iald (nn := 13) rfl (cIdx hc h1) dX5_valueOf_12 rfl ?_
    refine zx_iret rfl dX5_valueOf_13 ?_
    refine ⟨congrArg (fun x => some (zi x)) ?_, rfl⟩
    unfold cVal
    (repeat' split) <;> first | rfl | (exfalso; exact absurd (by assumption) (by assumption))
  · refine zx_iload_n (k := 0) (nn := 5) dX5_valueOf_4 rfl rfl rfl ?_
    refine zx_goto (tgt := 13) dX5_valueOf_5 (by decide) ?_
    refine zx_iret rfl dX5_valueOf_13 ?_
    refine ⟨congrArg (fun x => some (zi x)) ?_, rfl⟩
    unfold cVal
    (repeat' split) <;> first | rfl | (exfalso; exact absurd (by assumption) (by assumption))
set_option maxHeartbeats 4000000 in
set_option maxRecDepth 100000 in
theorem eX5_valueOf_31 (σ : zG) (μ : zM) (c : Int32) (hc : ¬ c ≤ -6) : zMet shC σ 0 MX5_valueOf yX5_valueOf [zi c, zr 31] μ (fun rr μ' => rr = some (zi (cVal (μ 31) c)) ∧ μ' = μ) := by
  refine zmetF (by decide +kernel) rfl (Nat.le_of_ble_eq_true rfl) ?_
  show zX shC σ 0 MX5_valueOf 0 [(0, zi c), (1, zr 31)] [] μ _
  refine zx_iload_n (k := 0) (nn := 1) dX5_valueOf_0 rfl rfl rfl ?_
  refine zx_if_lt (tgt := 8) (nn := 4) dX5_valueOf_1 (by decide) rfl (fun h1 => ?_) (fun h1 => ?_)
  · refine zx_aload_n (k := 1) (nn := 9) dX5_valueOf_8 rfl rfl rfl ?_
    refine zx_iconst (v := -1) (nn := 10) rfl dX5_valueOf_9 rfl ?_
    refine zx_iload_n (k := 0) (nn := 11) dX5_valueOf_10 rfl rfl rfl ?_
    refine zx_isub (nn := 12) dX5_valueOf_11 rfl ?_
    refine zx_iald (nn := 13) rfl (cIdx hc h1) dX5_valueOf_12 rfl ?_
    refine zx_iret rfl dX5_valueOf_13 ?_
    refine ⟨congrArg (fun x => some (zi x)) ?_, rfl⟩
    unfold cVal
    (repeat' split) <;> first | rfl | (exfalso; exact absurd (by assumption) (by assumption))
  · refine zx_iload_n (k := 0) (nn := 5) dX5_valueOf_4 rfl rfl rfl ?_
    refine zx_goto (tgt := 13) dX5_valueOf_5 (by decide) ?_
    refine zx_iret rfl dX5_valueOf_13 ?_
    refine ⟨congrArg (fun x => some (zi x)) ?_, rfl⟩
    unfold cVal
    (repeat' split) <;> first | rfl | (exfalso; exact absurd (by assumption) (by assumption))
set_option maxHeartbeats 4000000 in
set_option maxRecDepth 100000 in
theorem eX5_holds_24 (σ : zG) (μ : zM) (r : Nat) (hr : r < 8) (ok : cROK 1 μ) : zMet shC σ 1 MX5_holds yX5_holds [zr 1, zi (nI r), zr 24] μ (fun rr μ' => rr = some (zi (zb (cHolds 1 μ r (μ 24)))) ∧ zJ [6] μ μ') := by
  obtain ⟨en, hen, he⟩ := ok.2 r hr
  have hend : cEnd (μ 4) r = en := by
    show (μ 4 r).toNatClampNeg = en
    rw [show μ 4 r = nI en from he]; exact nI_clamp (by omega)
  generalize hfr : cFrom (μ 4) r = fr
  have hfr0 : (nI r ≤ 0) → (0 : Int32) = nI fr := fun h => by
    have : r = 0 := by
      rcases Nat.eq_zero_or_pos r with q | q
      · exact q
      · exact absurd h (nI_nle q (by omega))
    rw [← hfr, this]; rfl
  have hfr1 : ¬ (nI r ≤ 0) → (μ 4 (r - 1)) = nI fr ∧ r ≠ 0 := fun h => by
    have h0 : r ≠ 0 := fun q => h (by rw [q]; decide)
    obtain ⟨e2, he2, hq2⟩ := ok.2 (r - 1) (by omega)
    refine ⟨?_, h0⟩
    rw [← hfr, cFrom, if_neg h0, show μ 4 (r - 1) = nI e2 from hq2, nI_clamp (by omega)]
  have hfrl : fr ≤ 200 := by
    rw [← hfr]; unfold cFrom; split
    · omega
    · obtain ⟨e2, he2, hq2⟩ := ok.2 (r - 1) (by omega)
      rw [show μ 4 (r - 1) = nI e2 from hq2, nI_clamp (by omega)]; exact he2
  refine zmetF (by decide +kernel) rfl (Nat.le_of_ble_eq_true rfl) ?_
  show zX shC σ 1 MX5_holds 0 [(0, zr 1), (1, zi (nI r)), (2, zr 24)] [] μ _
  refine zx_iload_n (k := 1) (nn := 1) dX5_holds_0 rfl rfl rfl ?_
  refine zx_cut (pc' := 16) (lv' := [(0, zr 1), (1, zi (nI r)), (2, zr 24)]) (st' := [zi (nI fr)]) (μ' := μ) (fun J16 => ?_) ?_
  · refine zx_if_le (tgt := 15) (nn := 4) dX5_holds_1 (by decide) rfl (fun h1 => ?_) (fun h1 => ?_)
    · refine zx_iconst (v := 0) (nn := 16) rfl dX5_holds_15 rfl ?_
      rw [hfr0 h1]
      exact J16
    · refine zx_aload_n (k := 0) (nn := 5) dX5_holds_4 rfl rfl rfl ?_
      refine zx_getR (q := 4) (nn := 8) flX5_18 rfl rfl dX5_holds_5 rfl ?_
      refine zx_iload_n (k := 1) (nn := 9) dX5_holds_8 rfl rfl rfl ?_
      refine zx_iconst (v := 1) (nn := 10) rfl dX5_holds_9 rfl ?_
      refine zx_isub (nn := 11) dX5_holds_10 rfl ?_
      obtain ⟨hq1, hq0⟩ := hfr1 h1
      rw [show nI r - 1 = nI (r - 1) from nI_sub1 hq0]
      show zX shC σ 1 MX5_holds 11 [(0, zr 1), (1, zi (nI r)), (2, zr 24)] [zi (nI (r - 1)), zr 4] μ _
      refine zx_iald_n (j := r - 1) (nn := 12) rfl (by omega) (by decide) dX5_holds_11 rfl ?_
      rw [hq1]
      show zX shC σ 1 MX5_holds 12 [(0, zr 1), (1, zi (nI r)), (2, zr 24)] [zi (nI fr)] μ _
      refine zx_goto (tgt := 16) dX5_holds_12 (by decide) ?_
      exact J16
  refine zx_istore_n (nn := 17) (lv' := [(3, zi (nI fr)), (0, zr 1), (1, zi (nI r)), (2, zr 24)]) dX5_holds_16 rfl (by decide) rfl rfl ?_
  refine zx_iconst (v := 0) (nn := 18) rfl dX5_holds_17 rfl ?_
  refine zx_istore (nn := 20) (lv' := [(4, zi 0), (3, zi (nI fr)), (0, zr 1), (1, zi (nI r)), (2, zr 24)]) dX5_holds_18 (by decide) rfl rfl ?_
  refine zx_iload_n (k := 1) (nn := 21) dX5_holds_20 rfl rfl rfl ?_
  refine zx_istore (nn := 23) (lv' := [(5, zi (nI fr)), (4, zi 0), (3, zi (nI fr)), (0, zr 1), (1, zi (nI r)), (2, zr 24)]) dX5_holds_21 (by decide) rfl rfl ?_
  refine zx_lv (lv' := [(0, zr 1), (1, zi (nI r)), (2, zr 24), (4, zi 0), (5, zi (nI fr))]) [3, 4, 5, 1, 0] rfl ?_
  refine zx_while (τ := Nat × List Int32 × zM) (fun t_ => en - t_.1) (fun t_ => cRun (μ 24) (μ 5) fr (en - fr) [] = cRun (μ 24) (μ 5) t_.1 (en - t_.1) t_.2.1 ∧ (fr ≤ t_.1 ∧ t_.1 < 2 ^ 30) ∧ t_.2.1.length ≤ t_.1 - fr ∧ stRep (t_.2.2 6) t_.2.1 ∧ zJ [6] μ t_.2.2) (fun t_ => [(0, zr 1), (1, zi (nI r)), (2, zr 24), (4, zi (nI t_.2.1.length)), (5, zi (nI t_.1))]) (fun t_ => t_.2.2) (t0 := (fr, [], μ)) (⟨rfl, ⟨Nat.le_refl _, by omega⟩, Nat.zero_le _, trivial, zJ.rf⟩) ?_
  rintro ⟨i, st, μ1⟩ hI ih23
  replace hI : cRun (μ 24) (μ 5) fr (en - fr) [] = cRun (μ 24) (μ 5) i (en - i) st ∧ (fr ≤ i ∧ i < 2 ^ 30) ∧ st.length ≤ i - fr ∧ stRep (μ1 6) st ∧ zJ [6] μ μ1 := hI
  show zX shC σ 1 MX5_holds 23 [(0, zr 1), (1, zi (nI r)), (2, zr 24), (4, zi (nI st.length)), (5, zi (nI i))] [] μ1 _
  obtain ⟨hr1, ⟨hr2, hr2b⟩, hr3, hr4, hr5⟩ := hI
  have e4 : μ1 4 = μ 4 := hr5 4 (by decide)
  have e5 : μ1 5 = μ 5 := hr5 5 (by decide)
  have ef : μ1 24 = μ 24 := hr5 24 (by decide)
  refine zx_iload (k := 4) (nn := 25) dX5_holds_23 rfl rfl ?_
  refine zx_aload_n (k := 0) (nn := 26) dX5_holds_25 rfl rfl rfl ?_
  refine zx_getR (q := 4) (nn := 29) flX5_18 rfl rfl dX5_holds_26 rfl ?_
  refine zx_iload_n (k := 1) (nn := 30) dX5_holds_29 rfl rfl rfl ?_
  refine zx_iald_n (j := r) (nn := 31) rfl (by omega) (by decide) dX5_holds_30 rfl ?_
  rw [show μ1 4 r = nI en from by rw [e4]; exact he]
  show zX shC σ 1 MX5_holds 31 [(0, zr 1), (1, zi (nI r)), (2, zr 24), (4, zi (nI st.length)), (5, zi (nI i))] [zi (nI en), zi (nI i)] μ1 _
  refine zx_icmp_ge (tgt := 158) (nn := 34) dX5_holds_31 (by decide) rfl (fun h31 => ?_) (fun h31 => ?_)
  · refine zx_iload (k := 3) (nn := 160) dX5_holds_158 rfl rfl ?_
    refine zx_if_eq (tgt := 172) (nn := 163) dX5_holds_160 (by decide) rfl (fun h160 => ?_) (fun h160 => ?_)
    · refine zx_iconst (v := 1) (nn := 173) rfl dX5_holds_172 rfl ?_
      refine zx_goto (tgt := 177) dX5_holds_173 (by decide) ?_
      refine zx_zret rfl rfl dX5_holds_177 ?_
      have hfin : cHolds 1 μ r (μ 24) = cTrue st := by
        unfold cHolds
        show cTrue (cRun (μ 24) (μ 5) (cFrom (μ 4) r) (cEnd (μ 4) r - cFrom (μ 4) r) []) = _
        rw [hend, hfr, hr1, show en - i = 0 by have := nI_le_le h31 (by omega); omega]
        rfl
      refine ⟨congrArg (fun x => some (zi x)) ?_, hr5⟩
      rw [hfin]
      have h0 := nI_eq0 h160 (by omega)
      rw [List.length_eq_zero_iff.mp h0]
      rfl
    · refine zx_aload_n (k := 0) (nn := 164) dX5_holds_163 rfl rfl rfl ?_
      refine zx_getR (q := 6) (nn := 167) flX5_24 rfl rfl dX5_holds_164 rfl ?_
      refine zx_iconst (v := 0) (nn := 168) rfl dX5_holds_167 rfl ?_
      refine zx_iald_n (j := 0) (nn := 169) rfl (by omega) (by decide) dX5_holds_168 rfl ?_
      refine zx_if_eq (tgt := 176) (nn := 172) dX5_holds_169 (by decide) rfl (fun h169 => ?_) (fun h169 => ?_)
      · refine zx_iconst (v := 0) (nn := 177) rfl dX5_holds_176 rfl ?_
        refine zx_zret rfl rfl dX5_holds_177 ?_
        have hfin : cHolds 1 μ r (μ 24) = cTrue st := by
          unfold cHolds
          show cTrue (cRun (μ 24) (μ 5) (cFrom (μ 4) r) (cEnd (μ 4) r - cFrom (μ 4) r) []) = _
          rw [hend, hfr, hr1, show en - i = 0 by have := nI_le_le h31 (by omega); omega]
          rfl
        refine ⟨congrArg (fun x => some (zi x)) ?_, hr5⟩
        rw [hfin]
        rw [stRep_bot (fun q => h160 (by rw [q]; rfl)) hr4]
        simp [h169, zb]
      · refine zx_iconst (v := 1) (nn := 173) rfl dX5_holds_172 rfl ?_
        refine zx_goto (tgt := 177) dX5_holds_173 (by decide) ?_
        refine zx_zret rfl rfl dX5_holds_177 ?_
        have hfin : cHolds 1 μ r (μ 24) = cTrue st := by
          unfold cHolds
          show cTrue (cRun (μ 24) (μ 5) (cFrom (μ 4) r) (cEnd (μ 4) r - cFrom (μ 4) r) []) = _
          rw [hend, hfr, hr1, show en - i = 0 by have := nI_le_le h31 (by omega); omega]
          rfl
        refine ⟨congrArg (fun x => some (zi x)) ?_, hr5⟩
        rw [hfin]
        rw [stRep_bot (fun q => h160 (by rw [q]; rfl)) hr4]
        simp [h169, zb]
  · have hlt : i < en := nI_nle_lt h31 (by omega)
    refine zx_aload_n (k := 0) (nn := 35) dX5_holds_34 rfl rfl rfl ?_
    refine zx_getR (q := 5) (nn := 38) flX5_21 rfl rfl dX5_holds_35 rfl ?_
    refine zx_iload (k := 4) (nn := 40) dX5_holds_38 rfl rfl ?_
    refine zx_iald_n (j := i) (nn := 41) rfl (by omega) (by decide) dX5_holds_40 rfl ?_
    rw [e5]
    show zX shC σ 1 MX5_holds 41 [(0, zr 1), (1, zi (nI r)), (2, zr 24), (4, zi (nI st.length)), (5, zi (nI i))] [zi (μ 5 i)] μ1 _
    refine zx_istore (nn := 43) (lv' := [(6, zi (μ 5 i)), (0, zr 1), (1, zi (nI r)), (2, zr 24), (4, zi (nI st.length)), (5, zi (nI i))]) dX5_holds_41 (by decide) rfl rfl ?_
    refine zx_iload (k := 0) (nn := 45) dX5_holds_43 rfl rfl ?_
    refine zx_bipush (v := -6) (nn := 47) rfl dX5_holds_45 rfl ?_
    refine zx_icmp_le (tgt := 77) (nn := 50) dX5_holds_47 (by decide) rfl (fun h47 => ?_) (fun h47 => ?_)
    · refine zx_iload (k := 0) (nn := 79) dX5_holds_77 rfl rfl ?_
      refine zx_bipush (v := -9) (nn := 81) rfl dX5_holds_79 rfl ?_
      refine zx_icmp_ne (tgt := 113) (nn := 84) dX5_holds_81 (by decide) rfl (fun h81 => ?_) (fun h81 => ?_)
      · rcases st with _ | ⟨y, _ | ⟨x, r1⟩⟩
        · show zX shC σ 1 MX5_holds 113 [(6, zi (μ 5 i)), (0, zr 1), (1, zi (nI r)), (2, zr 24), (4, zi (nI 0)), (5, zi (nI i))] [] μ1 _
          refine zx_iload (k := 4) (nn := 115) dX5_holds_113 rfl rfl ?_
          refine zx_iconst (v := 2) (nn := 116) rfl dX5_holds_115 rfl ?_
          refine zx_icmp_lt (tgt := 152) (nn := 119) dX5_holds_116 (by decide) rfl (fun h116 => ?_) (fun h116 => ?_)
          · refine zx_iinc (k := 5) (v := nI (i + 1)) (lv' := [(5, zi (nI (i + 1))), (6, zi (μ 5 i)), (0, zr 1), (1, zi (nI r)), (2, zr 24), (4, zi (nI 0))]) (nn := 155) dX5_holds_152 rfl (nI_1 i) (by decide) rfl rfl ?_
            refine zx_goto (tgt := 23) dX5_holds_155 (by decide) ?_
            refine zx_lv (lv' := [(0, zr 1), (1, zi (nI r)), (2, zr 24), (4, zi (nI 0)), (5, zi (nI (i + 1)))]) [2, 3, 4, 5, 0] rfl ?_
            exact ih23 (i + 1, [], μ1) (show cRun (μ 24) (μ 5) fr (en - fr) [] = cRun (μ 24) (μ 5) (i + 1) (en - (i + 1)) ([]) ∧ (fr ≤ (i + 1) ∧ (i + 1) < 2 ^ 30) ∧ ([]).length ≤ (i + 1) - fr ∧ stRep (μ1 6) ([]) ∧ zJ [6] μ μ1 from ⟨hr1.trans (by rw [show en - i = (en - (i + 1)) + 1 by omega]; show cRun _ _ (i + 1) _ (cStep _ _ _) = _; rw [show cStep (μ 24) (μ 5 i) [] = [] from (if_pos h47).trans (if_neg h81)]), ⟨by omega, by omega⟩, by simp, trivial, hr5⟩) (by show en - (i + 1) < en - i; omega)
          · exact absurd (show nI 0 < 2 from by decide) h116
        · show zX shC σ 1 MX5_holds 113 [(6, zi (μ 5 i)), (0, zr 1), (1, zi (nI r)), (2, zr 24), (4, zi (nI 1)), (5, zi (nI i))] [] μ1 _
          refine zx_iload (k := 4) (nn := 115) dX5_holds_113 rfl rfl ?_
          refine zx_iconst (v := 2) (nn := 116) rfl dX5_holds_115 rfl ?_
          refine zx_icmp_lt (tgt := 152) (nn := 119) dX5_holds_116 (by decide) rfl (fun h116 => ?_) (fun h116 => ?_)
          · refine zx_iinc (k := 5) (v := nI (i + 1)) (lv' := [(5, zi (nI (i + 1))), (6, zi (μ 5 i)), (0, zr 1), (1, zi (nI r)), (2, zr 24), (4, zi (nI 1))]) (nn := 155) dX5_holds_152 rfl (nI_1 i) (by decide) rfl rfl ?_
            refine zx_goto (tgt := 23) dX5_holds_155 (by decide) ?_
            refine zx_lv (lv' := [(0, zr 1), (1, zi (nI r)), (2, zr 24), (4, zi (nI 1)), (5, zi (nI (i + 1)))]) [2, 3, 4, 5, 0] rfl ?_
            exact ih23 (i + 1, [y], μ1) (show cRun (μ 24) (μ 5) fr (en - fr) [] = cRun (μ 24) (μ 5) (i + 1) (en - (i + 1)) ([y]) ∧ (fr ≤ (i + 1) ∧ (i + 1) < 2 ^ 30) ∧ ([y]).length ≤ (i + 1) - fr ∧ stRep (μ1 6) ([y]) ∧ zJ [6] μ μ1 from ⟨hr1.trans (by rw [show en - i = (en - (i + 1)) + 1 by omega]; show cRun _ _ (i + 1) _ (cStep _ _ _) = _; rw [show cStep (μ 24) (μ 5 i) [y] = [y] from (if_pos h47).trans (if_neg h81)]), ⟨by omega, by omega⟩, by simp at hr3 ⊢; omega, hr4, hr5⟩) (by show en - (i + 1) < en - i; omega)
          · exact absurd (show nI 1 < 2 from by decide) h116
        · show zX shC σ 1 MX5_holds 113 [(6, zi (μ 5 i)), (0, zr 1), (1, zi (nI r)), (2, zr 24), (4, zi (nI (r1.length + 2))), (5, zi (nI i))] [] μ1 _
          refine zx_iload (k := 4) (nn := 115) dX5_holds_113 rfl rfl ?_
          refine zx_iconst (v := 2) (nn := 116) rfl dX5_holds_115 rfl ?_
          refine zx_icmp_lt (tgt := 152) (nn := 119) dX5_holds_116 (by decide) rfl (fun h116 => ?_) (fun h116 => ?_)
          · exact absurd h116 (nI_nlt (a := r1.length + 2) (b := 2) (by omega) (by simp at hr3; omega))
          · refine zx_iinc (k := 4) (v := (nI (r1.length + 2)) + (-1)) (lv' := [(4, zi ((nI (r1.length + 2)) + (-1))), (6, zi (μ 5 i)), (0, zr 1), (1, zi (nI r)), (2, zr 24), (5, zi (nI i))]) (nn := 122) dX5_holds_119 rfl rfl (by decide) rfl rfl ?_
            rw [show nI (r1.length + 2) + (-1) = nI (r1.length + 1) from nI_dec _]
            show zX shC σ 1 MX5_holds 122 [(4, zi (nI (r1.length + 1))), (6, zi (μ 5 i)), (0, zr 1), (1, zi (nI r)), (2, zr 24), (5, zi (nI i))] [] μ1 _
            refine zx_aload_n (k := 2) (nn := 123) dX5_holds_122 rfl rfl rfl ?_
            refine zx_getR (q := 6) (nn := 126) flX5_24 rfl rfl dX5_holds_123 rfl ?_
            refine zx_iload (k := 0) (nn := 128) dX5_holds_126 rfl rfl ?_
            refine zx_iconst (v := 1) (nn := 129) rfl dX5_holds_128 rfl ?_
            refine zx_isub (nn := 130) dX5_holds_129 rfl ?_
            rw [show (nI (r1.length + 1)) - 1 = nI r1.length from nI_pred _]
            show zX shC σ 1 MX5_holds 130 [(4, zi (nI (r1.length + 1))), (6, zi (μ 5 i)), (0, zr 1), (1, zi (nI r)), (2, zr 24), (5, zi (nI i))] [zi (nI r1.length), zr 6] μ1 _
            refine zx_iload (k := 1) (nn := 132) dX5_holds_130 rfl rfl ?_
            refine zx_aload_n (k := 2) (nn := 133) dX5_holds_132 rfl rfl rfl ?_
            refine zx_getR (q := 6) (nn := 136) flX5_24 rfl rfl dX5_holds_133 rfl ?_
            refine zx_iload (k := 0) (nn := 138) dX5_holds_136 rfl rfl ?_
            refine zx_iconst (v := 1) (nn := 139) rfl dX5_holds_138 rfl ?_
            refine zx_isub (nn := 140) dX5_holds_139 rfl ?_
            rw [show (nI (r1.length + 1)) - 1 = nI r1.length from nI_pred _]
            show zX shC σ 1 MX5_holds 140 [(4, zi (nI (r1.length + 1))), (6, zi (μ 5 i)), (0, zr 1), (1, zi (nI r)), (2, zr 24), (5, zi (nI i))] [zi (nI r1.length), zr 6, zi (μ 5 i), zi (nI r1.length), zr 6] μ1 _
            refine zx_iald_n (j := r1.length) (nn := 141) rfl (by simp at hr3; omega) (by decide) dX5_holds_140 rfl ?_
            refine zx_aload_n (k := 2) (nn := 142) dX5_holds_141 rfl rfl rfl ?_
            refine zx_getR (q := 6) (nn := 145) flX5_24 rfl rfl dX5_holds_142 rfl ?_
            refine zx_iload (k := 0) (nn := 147) dX5_holds_145 rfl rfl ?_
            refine zx_iald_n (j := r1.length + 1) (nn := 148) rfl (by simp at hr3; omega) (by decide) dX5_holds_147 rfl ?_
            refine zx_callSf (nn := 151) (d' := 0) (as := [zi (μ 5 i), zi (μ1 6 r1.length), zi (μ1 6 (r1.length + 1))]) (rest := [zi (nI r1.length), zr 6]) (n := 3) (eX5_combine σ μ1 (μ 5 i) (μ1 6 r1.length) (μ1 6 (r1.length + 1))  ) kX5_combine mlX5_44 (by decide) rfl rfl (Nat.le_of_ble_eq_true rfl) dX5_holds_148 rfl ?_
            show zX shC σ 1 MX5_holds 151 [(4, zi (nI (r1.length + 1))), (6, zi (μ 5 i)), (0, zr 1), (1, zi (nI r)), (2, zr 24), (5, zi (nI i))] [zi (cComb (μ 5 i) (μ1 6 r1.length) (μ1 6 (r1.length + 1))), zi (nI r1.length), zr 6] μ1 _
            refine zx_iast_n (j := r1.length) (nn := 152) rfl (by simp at hr3; omega) (by decide) dX5_holds_151 rfl ?_
            refine zx_iinc (k := 5) (v := nI (i + 1)) (lv' := [(5, zi (nI (i + 1))), (4, zi (nI (r1.length + 1))), (6, zi (μ 5 i)), (0, zr 1), (1, zi (nI r)), (2, zr 24)]) (nn := 155) dX5_holds_152 rfl (nI_1 i) (by decide) rfl rfl ?_
            refine zx_goto (tgt := 23) dX5_holds_155 (by decide) ?_
            refine zx_lv (lv' := [(0, zr 1), (1, zi (nI r)), (2, zr 24), (4, zi (nI (r1.length + 1))), (5, zi (nI (i + 1)))]) [3, 4, 5, 1, 0] rfl ?_
            exact ih23 (i + 1, cComb (μ 5 i) x y :: r1, zp μ1 6 r1.length (cComb (μ 5 i) (μ1 6 r1.length) (μ1 6 (r1.length + 1)))) (show cRun (μ 24) (μ 5) fr (en - fr) [] = cRun (μ 24) (μ 5) (i + 1) (en - (i + 1)) (cComb (μ 5 i) x y :: r1) ∧ (fr ≤ (i + 1) ∧ (i + 1) < 2 ^ 30) ∧ (cComb (μ 5 i) x y :: r1).length ≤ (i + 1) - fr ∧ stRep ((zp μ1 6 r1.length (cComb (μ 5 i) (μ1 6 r1.length) (μ1 6 (r1.length + 1)))) 6) (cComb (μ 5 i) x y :: r1) ∧ zJ [6] μ (zp μ1 6 r1.length (cComb (μ 5 i) (μ1 6 r1.length) (μ1 6 (r1.length + 1)))) from ⟨hr1.trans (by rw [show en - i = (en - (i + 1)) + 1 by omega]; show cRun _ _ (i + 1) _ (cStep _ _ _) = _; rw [show cStep (μ 24) (μ 5 i) (y :: x :: r1) = cComb (μ 5 i) x y :: r1 from (if_pos h47).trans (if_neg h81)]), ⟨by omega, by omega⟩, by simp at hr3 ⊢; omega, ⟨by rw [zp_eq, show μ1 6 r1.length = x from hr4.2.1, show μ1 6 (r1.length + 1) = y from hr4.1]; exact pk_us, by rw [zp_eq]; exact stRep_upd (Nat.le_refl _) hr4.2.2⟩, hr5.p (by decide)⟩) (by show en - (i + 1) < en - i; omega)
      · rcases st with _ | ⟨y, r1⟩
        · show zX shC σ 1 MX5_holds 84 [(6, zi (μ 5 i)), (0, zr 1), (1, zi (nI r)), (2, zr 24), (4, zi (nI 0)), (5, zi (nI i))] [] μ1 _
          refine zx_iload (k := 4) (nn := 86) dX5_holds_84 rfl rfl ?_
          refine zx_iconst (v := 1) (nn := 87) rfl dX5_holds_86 rfl ?_
          refine zx_icmp_lt (tgt := 152) (nn := 90) dX5_holds_87 (by decide) rfl (fun h87 => ?_) (fun h87 => ?_)
          · refine zx_iinc (k := 5) (v := nI (i + 1)) (lv' := [(5, zi (nI (i + 1))), (6, zi (μ 5 i)), (0, zr 1), (1, zi (nI r)), (2, zr 24), (4, zi (nI 0))]) (nn := 155) dX5_holds_152 rfl (nI_1 i) (by decide) rfl rfl ?_
            refine zx_goto (tgt := 23) dX5_holds_155 (by decide) ?_
            refine zx_lv (lv' := [(0, zr 1), (1, zi (nI r)), (2, zr 24), (4, zi (nI 0)), (5, zi (nI (i + 1)))]) [2, 3, 4, 5, 0] rfl ?_
            exact ih23 (i + 1, [], μ1) (show cRun (μ 24) (μ 5) fr (en - fr) [] = cRun (μ 24) (μ 5) (i + 1) (en - (i + 1)) ([]) ∧ (fr ≤ (i + 1) ∧ (i + 1) < 2 ^ 30) ∧ ([]).length ≤ (i + 1) - fr ∧ stRep (μ1 6) ([]) ∧ zJ [6] μ μ1 from ⟨hr1.trans (by rw [show en - i = (en - (i + 1)) + 1 by omega]; show cRun _ _ (i + 1) _ (cStep _ _ _) = _; rw [show cStep (μ 24) (μ 5 i) [] = [] from (if_pos h47).trans (if_pos h81)]), ⟨by omega, by omega⟩, by simp, trivial, hr5⟩) (by show en - (i + 1) < en - i; omega)
          · exact absurd (show nI 0 < 1 from by decide) h87
        · show zX shC σ 1 MX5_holds 84 [(6, zi (μ 5 i)), (0, zr 1), (1, zi (nI r)), (2, zr 24), (4, zi (nI (r1.length + 1))), (5, zi (nI i))] [] μ1 _
          refine zx_iload (k := 4) (nn := 86) dX5_holds_84 rfl rfl ?_
          refine zx_iconst (v := 1) (nn := 87) rfl dX5_holds_86 rfl ?_
          refine zx_icmp_lt (tgt := 152) (nn := 90) dX5_holds_87 (by decide) rfl (fun h87 => ?_) (fun h87 => ?_)
          · exact absurd h87 (nI_nlt (a := r1.length + 1) (b := 1) (by omega) (by simp at hr3; omega))
          · refine zx_aload_n (k := 1) (nn := 91) dX5_holds_90 rfl rfl rfl ?_
            refine zx_getR (q := 6) (nn := 94) flX5_24 rfl rfl dX5_holds_91 rfl ?_
            refine zx_iload (k := 4) (nn := 96) dX5_holds_94 rfl rfl ?_
            refine zx_iconst (v := 1) (nn := 97) rfl dX5_holds_96 rfl ?_
            refine zx_isub (nn := 98) dX5_holds_97 rfl ?_
            rw [show (nI (r1.length + 1)) - 1 = nI r1.length from nI_pred _]
            show zX shC σ 1 MX5_holds 98 [(6, zi (μ 5 i)), (0, zr 1), (1, zi (nI r)), (2, zr 24), (4, zi (nI (r1.length + 1))), (5, zi (nI i))] [zi (nI r1.length), zr 6] μ1 _
            refine zx_iconst (v := 1) (nn := 99) rfl dX5_holds_98 rfl ?_
            refine zx_aload_n (k := 1) (nn := 100) dX5_holds_99 rfl rfl rfl ?_
            refine zx_getR (q := 6) (nn := 103) flX5_24 rfl rfl dX5_holds_100 rfl ?_
            refine zx_iload (k := 4) (nn := 105) dX5_holds_103 rfl rfl ?_
            refine zx_iconst (v := 1) (nn := 106) rfl dX5_holds_105 rfl ?_
            refine zx_isub (nn := 107) dX5_holds_106 rfl ?_
            rw [show (nI (r1.length + 1)) - 1 = nI r1.length from nI_pred _]
            show zX shC σ 1 MX5_holds 107 [(6, zi (μ 5 i)), (0, zr 1), (1, zi (nI r)), (2, zr 24), (4, zi (nI (r1.length + 1))), (5, zi (nI i))] [zi (nI r1.length), zr 6, zi 1, zi (nI r1.length), zr 6] μ1 _
            refine zx_iald_n (j := r1.length) (nn := 108) rfl (by simp at hr3; omega) (by decide) dX5_holds_107 rfl ?_
            refine zx_isub (nn := 109) dX5_holds_108 rfl ?_
            refine zx_iast_n (j := r1.length) (nn := 110) rfl (by simp at hr3; omega) (by decide) dX5_holds_109 rfl ?_
            refine zx_goto (tgt := 152) dX5_holds_110 (by decide) ?_
            refine zx_iinc (k := 5) (v := nI (i + 1)) (lv' := [(5, zi (nI (i + 1))), (6, zi (μ 5 i)), (0, zr 1), (1, zi (nI r)), (2, zr 24), (4, zi (nI (r1.length + 1)))]) (nn := 155) dX5_holds_152 rfl (nI_1 i) (by decide) rfl rfl ?_
            refine zx_goto (tgt := 23) dX5_holds_155 (by decide) ?_
            refine zx_lv (lv' := [(0, zr 1), (1, zi (nI r)), (2, zr 24), (4, zi (nI (r1.length + 1))), (5, zi (nI (i + 1)))]) [2, 3, 4, 5, 0] rfl ?_
            exact ih23 (i + 1, (1 - y) :: r1, zp μ1 6 r1.length (1 - (μ1 6 r1.length))) (show cRun (μ 24) (μ 5) fr (en - fr) [] = cRun (μ 24) (μ 5) (i + 1) (en - (i + 1)) ((1 - y) :: r1) ∧ (fr ≤ (i + 1) ∧ (i + 1) < 2 ^ 30) ∧ ((1 - y) :: r1).length ≤ (i + 1) - fr ∧ stRep ((zp μ1 6 r1.length (1 - (μ1 6 r1.length))) 6) ((1 - y) :: r1) ∧ zJ [6] μ (zp μ1 6 r1.length (1 - (μ1 6 r1.length))) from ⟨hr1.trans (by rw [show en - i = (en - (i + 1)) + 1 by omega]; show cRun _ _ (i + 1) _ (cStep _ _ _) = _; rw [show cStep (μ 24) (μ 5 i) (y :: r1) = (1 - y) :: r1 from (if_pos h47).trans (if_pos h81)]), ⟨by omega, by omega⟩, by simp at hr3 ⊢; omega, ⟨by rw [zp_eq, show μ1 6 r1.length = y from hr4.1]; exact pk_us, by rw [zp_eq]; exact stRep_upd (Nat.le_refl _) hr4.2⟩, hr5.p (by decide)⟩) (by show en - (i + 1) < en - i; omega)
    · refine zx_iload (k := 4) (nn := 52) dX5_holds_50 rfl rfl ?_
      refine zx_sipush (v := 200) (nn := 55) rfl dX5_holds_52 rfl ?_
      refine zx_icmp_ge (tgt := 71) (nn := 58) dX5_holds_55 (by decide) rfl (fun h55 => ?_) (fun h55 => ?_)
      · exact absurd h55 (nI_ge (a := st.length) (b := 200) (by omega) (by omega))
      · refine zx_aload_n (k := 1) (nn := 59) dX5_holds_58 rfl rfl rfl ?_
        refine zx_getR (q := 6) (nn := 62) flX5_24 rfl rfl dX5_holds_59 rfl ?_
        refine zx_iload (k := 4) (nn := 64) dX5_holds_62 rfl rfl ?_
        refine zx_iload (k := 0) (nn := 66) dX5_holds_64 rfl rfl ?_
        refine zx_aload_n (k := 3) (nn := 67) dX5_holds_66 rfl rfl rfl ?_
        refine zx_callSf (nn := 70) (d' := 0) (as := [zi (μ 5 i), zr 24]) (rest := [zi (nI st.length), zr 6]) (n := 2) (eX5_valueOf_24 σ μ1 (μ 5 i) h47) kX5_valueOf mlX5_40 (by decide) rfl rfl (Nat.le_of_ble_eq_true rfl) dX5_holds_67 rfl ?_
        show zX shC σ 1 MX5_holds 70 [(6, zi (μ 5 i)), (0, zr 1), (1, zi (nI r)), (2, zr 24), (4, zi (nI st.length)), (5, zi (nI i))] [zi (cVal (μ1 24) (μ 5 i)), zi (nI st.length), zr 6] μ1 _
        rw [ef]
        show zX shC σ 1 MX5_holds 70 [(6, zi (μ 5 i)), (0, zr 1), (1, zi (nI r)), (2, zr 24), (4, zi (nI st.length)), (5, zi (nI i))] [zi (cVal (μ 24) (μ 5 i)), zi (nI st.length), zr 6] μ1 _
        refine zx_iast_n (j := st.length) (nn := 71) rfl (by omega) (by decide) dX5_holds_70 rfl ?_
        refine zx_iinc (k := 4) (v := nI (st.length + 1)) (lv' := [(4, zi (nI (st.length + 1))), (6, zi (μ 5 i)), (0, zr 1), (1, zi (nI r)), (2, zr 24), (5, zi (nI i))]) (nn := 74) dX5_holds_71 rfl (nI_1 st.length) (by decide) rfl rfl ?_
        refine zx_goto (tgt := 152) dX5_holds_74 (by decide) ?_
        refine zx_iinc (k := 5) (v := nI (i + 1)) (lv' := [(5, zi (nI (i + 1))), (4, zi (nI (st.length + 1))), (6, zi (μ 5 i)), (0, zr 1), (1, zi (nI r)), (2, zr 24)]) (nn := 155) dX5_holds_152 rfl (nI_1 i) (by decide) rfl rfl ?_
        refine zx_goto (tgt := 23) dX5_holds_155 (by decide) ?_
        refine zx_lv (lv' := [(0, zr 1), (1, zi (nI r)), (2, zr 24), (4, zi (nI (st.length + 1))), (5, zi (nI (i + 1)))]) [3, 4, 5, 1, 0] rfl ?_
        exact ih23 (i + 1, cVal (μ 24) (μ 5 i) :: st, zp μ1 6 st.length (cVal (μ 24) (μ 5 i))) (show cRun (μ 24) (μ 5) fr (en - fr) [] = cRun (μ 24) (μ 5) (i + 1) (en - (i + 1)) (cVal (μ 24) (μ 5 i) :: st) ∧ (fr ≤ (i + 1) ∧ (i + 1) < 2 ^ 30) ∧ (cVal (μ 24) (μ 5 i) :: st).length ≤ (i + 1) - fr ∧ stRep ((zp μ1 6 st.length (cVal (μ 24) (μ 5 i))) 6) (cVal (μ 24) (μ 5 i) :: st) ∧ zJ [6] μ (zp μ1 6 st.length (cVal (μ 24) (μ 5 i))) from ⟨hr1.trans (by rw [show en - i = (en - (i + 1)) + 1 by omega]; show cRun _ _ (i + 1) _ (cStep _ _ _) = _; rw [show cStep (μ 24) (μ 5 i) st = cVal (μ 24) (μ 5 i) :: st from if_neg h47]), ⟨by omega, by omega⟩, by simp; omega, ⟨by rw [zp_eq]; exact pk_us, by rw [zp_eq]; exact stRep_upd (Nat.le_refl _) hr4⟩, hr5.p (by decide)⟩) (by show en - (i + 1) < en - i; omega)
set_option maxHeartbeats 4000000 in
set_option maxRecDepth 100000 in
theorem eX5_holds_31 (σ : zG) (μ : zM) (r : Nat) (hr : r < 8) (ok : cROK 1 μ) : zMet shC σ 1 MX5_holds yX5_holds [zr 1, zi (nI r), zr 31] μ (fun rr μ' => rr = some (zi (zb (cHolds 1 μ r (μ 31)))) ∧ zJ [6] μ μ') := by
  obtain ⟨en, hen, he⟩ := ok.2 r hr
  have hend : cEnd (μ 4) r = en := by
    show (μ 4 r).toNatClampNeg = en
    rw [show μ 4 r = nI en from he]; exact nI_clamp (by omega)
  generalize hfr : cFrom (μ 4) r = fr
  have hfr0 : (nI r ≤ 0) → (0 : Int32) = nI fr := fun h => by
    have : r = 0 := by
      rcases Nat.eq_zero_or_pos r with q | q
      · exact q
      · exact absurd h (nI_nle q (by omega))
    rw [← hfr, this]; rfl
  have hfr1 : ¬ (nI r ≤ 0) → (μ 4 (r - 1)) = nI fr ∧ r ≠ 0 := fun h => by
    have h0 : r ≠ 0 := fun q => h (by rw [q]; decide)
    obtain ⟨e2, he2, hq2⟩ := ok.2 (r - 1) (by omega)
    refine ⟨?_, h0⟩
    rw [← hfr, cFrom, if_neg h0, show μ 4 (r - 1) = nI e2 from hq2, nI_clamp (by omega)]
  have hfrl : fr ≤ 200 := by
    rw [← hfr]; unfold cFrom; split
    · omega
    · obtain ⟨e2, he2, hq2⟩ := ok.2 (r - 1) (by omega)
      rw [show μ 4 (r - 1) = nI e2 from hq2, nI_clamp (by omega)]; exact he2
  refine zmetF (by decide +kernel) rfl (Nat.le_of_ble_eq_true rfl) ?_
  show zX shC σ 1 MX5_holds 0 [(0, zr 1), (1, zi (nI r)), (2, zr 31)] [] μ _
  refine zx_iload_n (k := 1) (nn := 1) dX5_holds_0 rfl rfl rfl ?_
  refine zx_cut (pc' := 16) (lv' := [(0, zr 1), (1, zi (nI r)), (2, zr 31)]) (st' := [zi (nI fr)]) (μ' := μ) (fun J16 => ?_) ?_
  · refine zx_if_le (tgt := 15) (nn := 4) dX5_holds_1 (by decide) rfl (fun h1 => ?_) (fun h1 => ?_)
    · refine zx_iconst (v := 0) (nn := 16) rfl dX5_holds_15 rfl ?_
      rw [hfr0 h1]
      exact J16
    · refine zx_aload_n (k := 0) (nn := 5) dX5_holds_4 rfl rfl rfl ?_
      refine zx_getR (q := 4) (nn := 8) flX5_18 rfl rfl dX5_holds_5 rfl ?_
      refine zx_iload_n (k := 1) (nn := 9) dX5_holds_8 rfl rfl rfl ?_
      refine zx_iconst (v := 1) (nn := 10) rfl dX5_holds_9 rfl ?_
      refine zx_isub (nn := 11) dX5_holds_10 rfl ?_
      obtain ⟨hq1, hq0⟩ := hfr1 h1
      rw [show nI r - 1 = nI (r - 1) from nI_sub1 hq0]
      show zX shC σ 1 MX5_holds 11 [(0, zr 1), (1, zi (nI r)), (2, zr 31)] [zi (nI (r - 1)), zr 4] μ _
      refine zx_iald_n (j := r - 1) (nn := 12) rfl (by omega) (by decide) dX5_holds_11 rfl ?_
      rw [hq1]
      show zX shC σ 1 MX5_holds 12 [(0, zr 1), (1, zi (nI r)), (2, zr 31)] [zi (nI fr)] μ _
      refine zx_goto (tgt := 16) dX5_holds_12 (by decide) ?_
      exact J16
  refine zx_istore_n (nn := 17) (lv' := [(3, zi (nI fr)), (0, zr 1), (1, zi (nI r)), (2, zr 31)]) dX5_holds_16 rfl (by decide) rfl rfl ?_
  refine zx_iconst (v := 0) (nn := 18) rfl dX5_holds_17 rfl ?_
  refine zx_istore (nn := 20) (lv' := [(4, zi 0), (3, zi (nI fr)), (0, zr 1), (1, zi (nI r)), (2, zr 31)]) dX5_holds_18 (by decide) rfl rfl ?_
  refine zx_iload_n (k := 1) (nn := 21) dX5_holds_20 rfl rfl rfl ?_
  refine zx_istore (nn := 23) (lv' := [(5, zi (nI fr)), (4, zi 0), (3, zi (nI fr)), (0, zr 1), (1, zi (nI r)), (2, zr 31)]) dX5_holds_21 (by decide) rfl rfl ?_
  refine zx_lv (lv' := [(0, zr 1), (1, zi (nI r)), (2, zr 31), (4, zi 0), (5, zi (nI fr))]) [3, 4, 5, 1, 0] rfl ?_
  refine zx_while (τ := Nat × List Int32 × zM) (fun t_ => en - t_.1) (fun t_ => cRun (μ 31) (μ 5) fr (en - fr) [] = cRun (μ 31) (μ 5) t_.1 (en - t_.1) t_.2.1 ∧ (fr ≤ t_.1 ∧ t_.1 < 2 ^ 30) ∧ t_.2.1.length ≤ t_.1 - fr ∧ stRep (t_.2.2 6) t_.2.1 ∧ zJ [6] μ t_.2.2) (fun t_ => [(0, zr 1), (1, zi (nI r)), (2, zr 31), (4, zi (nI t_.2.1.length)), (5, zi (nI t_.1))]) (fun t_ => t_.2.2) (t0 := (fr, [], μ)) (⟨rfl, ⟨Nat.le_refl _, by omega⟩, Nat.zero_le _, trivial, zJ.rf⟩) ?_
  rintro ⟨i, st, μ1⟩ hI ih23
  replace hI : cRun (μ 31) (μ 5) fr (en - fr) [] = cRun (μ 31) (μ 5) i (en - i) st ∧ (fr ≤ i ∧ i < 2 ^ 30) ∧ st.length ≤ i - fr ∧ stRep (μ1 6) st ∧ zJ [6] μ μ1 := hI
  show zX shC σ 1 MX5_holds 23 [(0, zr 1), (1, zi (nI r)), (2, zr 31), (4, zi (nI st.length)), (5, zi (nI i))] [] μ1 _
  obtain ⟨hr1, ⟨hr2, hr2b⟩, hr3, hr4, hr5⟩ := hI
  have e4 : μ1 4 = μ 4 := hr5 4 (by decide)
  have e5 : μ1 5 = μ 5 := hr5 5 (by decide)
  have ef : μ1 31 = μ 31 := hr5 31 (by decide)
  refine zx_iload (k := 4) (nn := 25) dX5_holds_23 rfl rfl ?_
  refine zx_aload_n (k := 0) (nn := 26) dX5_holds_25 rfl rfl rfl ?_
  refine zx_getR (q := 4) (nn := 29) flX5_18 rfl rfl dX5_holds_26 rfl ?_
  refine zx_iload_n (k := 1) (nn := 30) dX5_holds_29 rfl rfl rfl ?_
  refine zx_iald_n (j := r) (nn := 31) rfl (by omega) (by decide) dX5_holds_30 rfl ?_
  rw [show μ1 4 r = nI en from by rw [e4]; exact he]
  show zX shC σ 1 MX5_holds 31 [(0, zr 1), (1, zi (nI r)), (2, zr 31), (4, zi (nI st.length)), (5, zi (nI i))] [zi (nI en), zi (nI i)] μ1 _
  refine zx_icmp_ge (tgt := 158) (nn := 34) dX5_holds_31 (by decide) rfl (fun h31 => ?_) (fun h31 => ?_)
  · refine zx_iload (k := 3) (nn := 160) dX5_holds_158 rfl rfl ?_
    refine zx_if_eq (tgt := 172) (nn := 163) dX5_holds_160 (by decide) rfl (fun h160 => ?_) (fun h160 => ?_)
    · refine zx_iconst (v := 1) (nn := 173) rfl dX5_holds_172 rfl ?_
      refine zx_goto (tgt := 177) dX5_holds_173 (by decide) ?_
      refine zx_zret rfl rfl dX5_holds_177 ?_
      have hfin : cHolds 1 μ r (μ 31) = cTrue st := by
        unfold cHolds
        show cTrue (cRun (μ 31) (μ 5) (cFrom (μ 4) r) (cEnd (μ 4) r - cFrom (μ 4) r) []) = _
        rw [hend, hfr, hr1, show en - i = 0 by have := nI_le_le h31 (by omega); omega]
        rfl
      refine ⟨congrArg (fun x => some (zi x)) ?_, hr5⟩
      rw [hfin]
      have h0 := nI_eq0 h160 (by omega)
      rw [List.length_eq_zero_iff.mp h0]
      rfl
    · refine zx_aload_n (k := 0) (nn := 164) dX5_holds_163 rfl rfl rfl ?_
      refine zx_getR (q := 6) (nn := 167) flX5_24 rfl rfl dX5_holds_164 rfl ?_
      refine zx_iconst (v := 0) (nn := 168) rfl dX5_holds_167 rfl ?_
      refine zx_iald_n (j := 0) (nn := 169) rfl (by omega) (by decide) dX5_holds_168 rfl ?_
      refine zx_if_eq (tgt := 176) (nn := 172) dX5_holds_169 (by decide) rfl (fun h169 => ?_) (fun h169 => ?_)
      · refine zx_iconst (v := 0) (nn := 177) rfl dX5_holds_176 rfl ?_
        refine zx_zret rfl rfl dX5_holds_177 ?_
        have hfin : cHolds 1 μ r (μ 31) = cTrue st := by
          unfold cHolds
          show cTrue (cRun (μ 31) (μ 5) (cFrom (μ 4) r) (cEnd (μ 4) r - cFrom (μ 4) r) []) = _
          rw [hend, hfr, hr1, show en - i = 0 by have := nI_le_le h31 (by omega); omega]
          rfl
        refine ⟨congrArg (fun x => some (zi x)) ?_, hr5⟩
        rw [hfin]
        rw [stRep_bot (fun q => h160 (by rw [q]; rfl)) hr4]
        simp [h169, zb]
      · refine zx_iconst (v := 1) (nn := 173) rfl dX5_holds_172 rfl ?_
        refine zx_goto (tgt := 177) dX5_holds_173 (by decide) ?_
        refine zx_zret rfl rfl dX5_holds_177 ?_
        have hfin : cHolds 1 μ r (μ 31) = cTrue st := by
          unfold cHolds
          show cTrue (cRun (μ 31) (μ 5) (cFrom (μ 4) r) (cEnd (μ 4) r - cFrom (μ 4) r) []) = _
          rw [hend, hfr, hr1, show en - i = 0 by have := nI_le_le h31 (by omega); omega]
          rfl
        refine ⟨congrArg (fun x => some (zi x)) ?_, hr5⟩
        rw [hfin]
        rw [stRep_bot (fun q => h160 (by rw [q]; rfl)) hr4]
        simp [h169, zb]
  · have hlt : i < en := nI_nle_lt h31 (by omega)
    refine zx_aload_n (k := 0) (nn := 35) dX5_holds_34 rfl rfl rfl ?_
    refine zx_getR (q := 5) (nn := 38) flX5_21 rfl rfl dX5_holds_35 rfl ?_
    refine zx_iload (k := 4) (nn := 40) dX5_holds_38 rfl rfl ?_
    refine zx_iald_n (j := i) (nn := 41) rfl (by omega) (by decide) dX5_holds_40 rfl ?_
    rw [e5]
    show zX shC σ 1 MX5_holds 41 [(0, zr 1), (1, zi (nI r)), (2, zr 31), (4, zi (nI st.length)), (5, zi (nI i))] [zi (μ 5 i)] μ1 _
    refine zx_istore (nn := 43) (lv' := [(6, zi (μ 5 i)), (0, zr 1), (1, zi (nI r)), (2, zr 31), (4, zi (nI st.length)), (5, zi (nI i))]) dX5_holds_41 (by decide) rfl rfl ?_
    refine zx_iload (k := 0) (nn := 45) dX5_holds_43 rfl rfl ?_
    refine zx_bipush (v := -6) (nn := 47) rfl dX5_holds_45 rfl ?_
    refine zx_icmp_le (tgt := 77) (nn := 50) dX5_holds_47 (by decide) rfl (fun h47 => ?_) (fun h47 => ?_)
    · refine zx_iload (k := 0) (nn := 79) dX5_holds_77 rfl rfl ?_
      refine zx_bipush (v := -9) (nn := 81) rfl dX5_holds_79 rfl ?_
      refine zx_icmp_ne (tgt := 113) (nn := 84) dX5_holds_81 (by decide) rfl (fun h81 => ?_) (fun h81 => ?_)
      · rcases st with _ | ⟨y, _ | ⟨x, r1⟩⟩
        · show zX shC σ 1 MX5_holds 113 [(6, zi (μ 5 i)), (0, zr 1), (1, zi (nI r)), (2, zr 31), (4, zi (nI 0)), (5, zi (nI i))] [] μ1 _
          refine zx_iload (k := 4) (nn := 115) dX5_holds_113 rfl rfl ?_
          refine zx_iconst (v := 2) (nn := 116) rfl dX5_holds_115 rfl ?_
          refine zx_icmp_lt (tgt := 152) (nn := 119) dX5_holds_116 (by decide) rfl (fun h116 => ?_) (fun h116 => ?_)
          · refine zx_iinc (k := 5) (v := nI (i + 1)) (lv' := [(5, zi (nI (i + 1))), (6, zi (μ 5 i)), (0, zr 1), (1, zi (nI r)), (2, zr 31), (4, zi (nI 0))]) (nn := 155) dX5_holds_152 rfl (nI_1 i) (by decide) rfl rfl ?_
            refine zx_goto (tgt := 23) dX5_holds_155 (by decide) ?_
            refine zx_lv (lv' := [(0, zr 1), (1, zi (nI r)), (2, zr 31), (4, zi (nI 0)), (5, zi (nI (i + 1)))]) [2, 3, 4, 5, 0] rfl ?_
            exact ih23 (i + 1, [], μ1) (show cRun (μ 31) (μ 5) fr (en - fr) [] = cRun (μ 31) (μ 5) (i + 1) (en - (i + 1)) ([]) ∧ (fr ≤ (i + 1) ∧ (i + 1) < 2 ^ 30) ∧ ([]).length ≤ (i + 1) - fr ∧ stRep (μ1 6) ([]) ∧ zJ [6] μ μ1 from ⟨hr1.trans (by rw [show en - i = (en - (i + 1)) + 1 by omega]; show cRun _ _ (i + 1) _ (cStep _ _ _) = _; rw [show cStep (μ 31) (μ 5 i) [] = [] from (if_pos h47).trans (if_neg h81)]), ⟨by omega, by omega⟩, by simp, trivial, hr5⟩) (by show en - (i + 1) < en - i; omega)
          · exact absurd (show nI 0 < 2 from by decide) h116
        · show zX shC σ 1 MX5_holds 113 [(6, zi (μ 5 i)), (0, zr 1), (1, zi (nI r)), (2, zr 31), (4, zi (nI 1)), (5, zi (nI i))] [] μ1 _
          refine zx_iload (k := 4) (nn := 115) dX5_holds_113 rfl rfl ?_
          refine zx_iconst (v := 2) (nn := 116) rfl dX5_holds_115 rfl ?_
          refine zx_icmp_lt (tgt := 152) (nn := 119) dX5_holds_116 (by decide) rfl (fun h116 => ?_) (fun h116 => ?_)
          · refine zx_iinc (k := 5) (v := nI (i + 1)) (lv' := [(5, zi (nI (i + 1))), (6, zi (μ 5 i)), (0, zr 1), (1, zi (nI r)), (2, zr 31), (4, zi (nI 1))]) (nn := 155) dX5_holds_152 rfl (nI_1 i) (by decide) rfl rfl ?_
            refine zx_goto (tgt := 23) dX5_holds_155 (by decide) ?_
            refine zx_lv (lv' := [(0, zr 1), (1, zi (nI r)), (2, zr 31), (4, zi (nI 1)), (5, zi (nI (i + 1)))]) [2, 3, 4, 5, 0] rfl ?_
            exact ih23 (i + 1, [y], μ1) (show cRun (μ 31) (μ 5) fr (en - fr) [] = cRun (μ 31) (μ 5) (i + 1) (en - (i + 1)) ([y]) ∧ (fr ≤ (i + 1) ∧ (i + 1) < 2 ^ 30) ∧ ([y]).length ≤ (i + 1) - fr ∧ stRep (μ1 6) ([y]) ∧ zJ [6] μ μ1 from ⟨hr1.trans (by rw [show en - i = (en - (i + 1)) + 1 by omega]; show cRun _ _ (i + 1) _ (cStep _ _ _) = _; rw [show cStep (μ 31) (μ 5 i) [y] = [y] from (if_pos h47).trans (if_neg h81)]), ⟨by omega, by omega⟩, by simp at hr3 ⊢; omega, hr4, hr5⟩) (by show en - (i + 1) < en - i; omega)
          · exact absurd (show nI 1 < 2 from by decide) h116
        · show zX shC σ 1 MX5_holds 113 [(6, zi (μ 5 i)), (0, zr 1), (1, zi (nI r)), (2, zr 31), (4, zi (nI (r1.length + 2))), (5, zi (nI i))] [] μ1 _
          refine zx_iload (k := 4) (nn := 115) dX5_holds_113 rfl rfl ?_
          refine zx_iconst (v := 2) (nn := 116) rfl dX5_holds_115 rfl ?_
          refine zx_icmp_lt (tgt := 152) (nn := 119) dX5_holds_116 (by decide) rfl (fun h116 => ?_) (fun h116 => ?_)
          · exact absurd h116 (nI_nlt (a := r1.length + 2) (b := 2) (by omega) (by simp at hr3; omega))
          · refine zx_iinc (k := 4) (v := (nI (r1.length + 2)) + (-1)) (lv' := [(4, zi ((nI (r1.length + 2)) + (-1))), (6, zi (μ 5 i)), (0, zr 1), (1, zi (nI r)), (2, zr 31), (5, zi (nI i))]) (nn := 122) dX5_holds_119 rfl rfl (by decide) rfl rfl ?_
            rw [show nI (r1.length + 2) + (-1) = nI (r1.length + 1) from nI_dec _]
            show zX shC σ 1 MX5_holds 122 [(4, zi (nI (r1.length + 1))), (6, zi (μ 5 i)), (0, zr 1), (1, zi (nI r)), (2, zr 31), (5, zi (nI i))] [] μ1 _
            refine zx_aload_n (k := 2) (nn := 123) dX5_holds_122 rfl rfl rfl ?_
            refine zx_getR (q := 6) (nn := 126) flX5_24 rfl rfl dX5_holds_123 rfl ?_
            refine zx_iload (k := 0) (nn := 128) dX5_holds_126 rfl rfl ?_
            refine zx_iconst (v := 1) (nn := 129) rfl dX5_holds_128 rfl ?_
            refine zx_isub (nn := 130) dX5_holds_129 rfl ?_
            rw [show (nI (r1.length + 1)) - 1 = nI r1.length from nI_pred _]
            show zX shC σ 1 MX5_holds 130 [(4, zi (nI (r1.length + 1))), (6, zi (μ 5 i)), (0, zr 1), (1, zi (nI r)), (2, zr 31), (5, zi (nI i))] [zi (nI r1.length), zr 6] μ1 _
            refine zx_iload (k := 1) (nn := 132) dX5_holds_130 rfl rfl ?_
            refine zx_aload_n (k := 2) (nn := 133) dX5_holds_132 rfl rfl rfl ?_
            refine zx_getR (q := 6) (nn := 136) flX5_24 rfl rfl dX5_holds_133 rfl ?_
            refine zx_iload (k := 0) (nn := 138) dX5_holds_136 rfl rfl ?_
            refine zx_iconst (v := 1) (nn := 139) rfl dX5_holds_138 rfl ?_
            refine zx_isub (nn := 140) dX5_holds_139 rfl ?_
            rw [show (nI (r1.length + 1)) - 1 = nI r1.length from nI_pred _]
            show zX shC σ 1 MX5_holds 140 [(4, zi (nI (r1.length + 1))), (6, zi (μ 5 i)), (0, zr 1), (1, zi (nI r)), (2, zr 31), (5, zi (nI i))] [zi (nI r1.length), zr 6, zi (μ 5 i), zi (nI r1.length), zr 6] μ1 _
            refine zx_iald_n (j := r1.length) (nn := 141) rfl (by simp at hr3; omega) (by decide) dX5_holds_140 rfl ?_
            refine zx_aload_n (k := 2) (nn := 142) dX5_holds_141 rfl rfl rfl ?_
            refine zx_getR (q := 6) (nn := 145) flX5_24 rfl rfl dX5_holds_142 rfl ?_
            refine zx_iload (k := 0) (nn := 147) dX5_holds_145 rfl rfl ?_
            refine zx_iald_n (j := r1.length + 1) (nn := 148) rfl (by simp at hr3; omega) (by decide) dX5_holds_147 rfl ?_
            refine zx_callSf (nn := 151) (d' := 0) (as := [zi (μ 5 i), zi (μ1 6 r1.length), zi (μ1 6 (r1.length + 1))]) (rest := [zi (nI r1.length), zr 6]) (n := 3) (eX5_combine σ μ1 (μ 5 i) (μ1 6 r1.length) (μ1 6 (r1.length + 1))  ) kX5_combine mlX5_44 (by decide) rfl rfl (Nat.le_of_ble_eq_true rfl) dX5_holds_148 rfl ?_
            show zX shC σ 1 MX5_holds 151 [(4, zi (nI (r1.length + 1))), (6, zi (μ 5 i)), (0, zr 1), (1, zi (nI r)), (2, zr 31), (5, zi (nI i))] [zi (cComb (μ 5 i) (μ1 6 r1.length) (μ1 6 (r1.length + 1))), zi (nI r1.length), zr 6] μ1 _
            refine zx_iast_n (j := r1.length) (nn := 152) rfl (by simp at hr3; omega) (by decide) dX5_holds_151 rfl ?_
            refine zx_iinc (k := 5) (v := nI (i + 1)) (lv' := [(5, zi (nI (i + 1))), (4, zi (nI (r1.length + 1))), (6, zi (μ 5 i)), (0, zr 1), (1, zi (nI r)), (2, zr 31)]) (nn := 155) dX5_holds_152 rfl (nI_1 i) (by decide) rfl rfl ?_
            refine zx_goto (tgt := 23) dX5_holds_155 (by decide) ?_
            refine zx_lv (lv' := [(0, zr 1), (1, zi (nI r)), (2, zr 31), (4, zi (nI (r1.length + 1))), (5, zi (nI (i + 1)))]) [3, 4, 5, 1, 0] rfl ?_
            exact ih23 (i + 1, cComb (μ 5 i) x y :: r1, zp μ1 6 r1.length (cComb (μ 5 i) (μ1 6 r1.length) (μ1 6 (r1.length + 1)))) (show cRun (μ 31) (μ 5) fr (en - fr) [] = cRun (μ 31) (μ 5) (i + 1) (en - (i + 1)) (cComb (μ 5 i) x y :: r1) ∧ (fr ≤ (i + 1) ∧ (i + 1) < 2 ^ 30) ∧ (cComb (μ 5 i) x y :: r1).length ≤ (i + 1) - fr ∧ stRep ((zp μ1 6 r1.length (cComb (μ 5 i) (μ1 6 r1.length) (μ1 6 (r1.length + 1)))) 6) (cComb (μ 5 i) x y :: r1) ∧ zJ [6] μ (zp μ1 6 r1.length (cComb (μ 5 i) (μ1 6 r1.length) (μ1 6 (r1.length + 1)))) from ⟨hr1.trans (by rw [show en - i = (en - (i + 1)) + 1 by omega]; show cRun _ _ (i + 1) _ (cStep _ _ _) = _; rw [show cStep (μ 31) (μ 5 i) (y :: x :: r1) = cComb (μ 5 i) x y :: r1 from (if_pos h47).trans (if_neg h81)]), ⟨by omega, by omega⟩, by simp at hr3 ⊢; omega, ⟨by rw [zp_eq, show μ1 6 r1.length = x from hr4.2.1, show μ1 6 (r1.length + 1) = y from hr4.1]; exact pk_us, by rw [zp_eq]; exact stRep_upd (Nat.le_refl _) hr4.2.2⟩, hr5.p (by decide)⟩) (by show en - (i + 1) < en - i; omega)
      · rcases st with _ | ⟨y, r1⟩
        · show zX shC σ 1 MX5_holds 84 [(6, zi (μ 5 i)), (0, zr 1), (1, zi (nI r)), (2, zr 31), (4, zi (nI 0)), (5, zi (nI i))] [] μ1 _
          refine zx_iload (k := 4) (nn := 86) dX5_holds_84 rfl rfl ?_
          refine zx_iconst (v := 1) (nn := 87) rfl dX5_holds_86 rfl ?_
          refine zx_icmp_lt (tgt := 152) (nn := 90) dX5_holds_87 (by decide) rfl (fun h87 => ?_) (fun h87 => ?_)
          · refine zx_iinc (k := 5) (v := nI (i + 1)) (lv' := [(5, zi (nI (i + 1))), (6, zi (μ 5 i)), (0, zr 1), (1, zi (nI r)), (2, zr 31), (4, zi (nI 0))]) (nn := 155) dX5_holds_152 rfl (nI_1 i) (by decide) rfl rfl ?_
            refine zx_goto (tgt := 23) dX5_holds_155 (by decide) ?_
            refine zx_lv (lv' := [(0, zr 1), (1, zi (nI r)), (2, zr 31), (4, zi (nI 0)), (5, zi (nI (i + 1)))]) [2, 3, 4, 5, 0] rfl ?_
            exact ih23 (i + 1, [], μ1) (show cRun (μ 31) (μ 5) fr (en - fr) [] = cRun (μ 31) (μ 5) (i + 1) (en - (i + 1)) ([]) ∧ (fr ≤ (i + 1) ∧ (i + 1) < 2 ^ 30) ∧ ([]).length ≤ (i + 1) - fr ∧ stRep (μ1 6) ([]) ∧ zJ [6] μ μ1 from ⟨hr1.trans (by rw [show en - i = (en - (i + 1)) + 1 by omega]; show cRun _ _ (i + 1) _ (cStep _ _ _) = _; rw [show cStep (μ 31) (μ 5 i) [] = [] from (if_pos h47).trans (if_pos h81)]), ⟨by omega, by omega⟩, by simp, trivial, hr5⟩) (by show en - (i + 1) < en - i; omega)
          · exact absurd (show nI 0 < 1 from by decide) h87
        · show zX shC σ 1 MX5_holds 84 [(6, zi (μ 5 i)), (0, zr 1), (1, zi (nI r)), (2, zr 31), (4, zi (nI (r1.length + 1))), (5, zi (nI i))] [] μ1 _
          refine zx_iload (k := 4) (nn := 86) dX5_holds_84 rfl rfl ?_
          refine zx_iconst (v := 1) (nn := 87) rfl dX5_holds_86 rfl ?_
          refine zx_icmp_lt (tgt := 152) (nn := 90) dX5_holds_87 (by decide) rfl (fun h87 => ?_) (fun h87 => ?_)
          · exact absurd h87 (nI_nlt (a := r1.length + 1) (b := 1) (by omega) (by simp at hr3; omega))
          · refine zx_aload_n (k := 1) (nn := 91) dX5_holds_90 rfl rfl rfl ?_
            refine zx_getR (q := 6) (nn := 94) flX5_24 rfl rfl dX5_holds_91 rfl ?_
            refine zx_iload (k := 4) (nn := 96) dX5_holds_94 rfl rfl ?_
            refine zx_iconst (v := 1) (nn := 97) rfl dX5_holds_96 rfl ?_
            refine zx_isub (nn := 98) dX5_holds_97 rfl ?_
            rw [show (nI (r1.length + 1)) - 1 = nI r1.length from nI_pred _]
            show zX shC σ 1 MX5_holds 98 [(6, zi (μ 5 i)), (0, zr 1), (1, zi (nI r)), (2, zr 31), (4, zi (nI (r1.length + 1))), (5, zi (nI i))] [zi (nI r1.length), zr 6] μ1 _
            refine zx_iconst (v := 1) (nn := 99) rfl dX5_holds_98 rfl ?_
            refine zx_aload_n (k := 1) (nn := 100) dX5_holds_99 rfl rfl rfl ?_
            refine zx_getR (q := 6) (nn := 103) flX5_24 rfl rfl dX5_holds_100 rfl ?_
            refine zx_iload (k := 4) (nn := 105) dX5_holds_103 rfl rfl ?_
            refine zx_iconst (v := 1) (nn := 106) rfl dX5_holds_105 rfl ?_
            refine zx_isub (nn := 107) dX5_holds_106 rfl ?_
            rw [show (nI (r1.length + 1)) - 1 = nI r1.length from nI_pred _]
            show zX shC σ 1 MX5_holds 107 [(6, zi (μ 5 i)), (0, zr 1), (1, zi (nI r)), (2, zr 31), (4, zi (nI (r1.length + 1))), (5, zi (nI i))] [zi (nI r1.length), zr 6, zi 1, zi (nI r1.length), zr 6] μ1 _
            refine zx_iald_n (j := r1.length) (nn := 108) rfl (by simp at hr3; omega) (by decide) dX5_holds_107 rfl ?_
            refine zx_isub (nn := 109) dX5_holds_108 rfl ?_
            refine zx_iast_n (j := r1.length) (nn := 110) rfl (by simp at hr3; omega) (by decide) dX5_holds_109 rfl ?_
            refine zx_goto (tgt := 152) dX5_holds_110 (by decide) ?_
            refine zx_iinc (k := 5) (v := nI (i + 1)) (lv' := [(5, zi (nI (i + 1))), (6, zi (μ 5 i)), (0, zr 1), (1, zi (nI r)), (2, zr 31), (4, zi (nI (r1.length + 1)))]) (nn := 155) dX5_holds_152 rfl (nI_1 i) (by decide) rfl rfl ?_
            refine zx_goto (tgt := 23) dX5_holds_155 (by decide) ?_
            refine zx_lv (lv' := [(0, zr 1), (1, zi (nI r)), (2, zr 31), (4, zi (nI (r1.length + 1))), (5, zi (nI (i + 1)))]) [2, 3, 4, 5, 0] rfl ?_
            exact ih23 (i + 1, (1 - y) :: r1, zp μ1 6 r1.length (1 - (μ1 6 r1.length))) (show cRun (μ 31) (μ 5) fr (en - fr) [] = cRun (μ 31) (μ 5) (i + 1) (en - (i + 1)) ((1 - y) :: r1) ∧ (fr ≤ (i + 1) ∧ (i + 1) < 2 ^ 30) ∧ ((1 - y) :: r1).length ≤ (i + 1) - fr ∧ stRep ((zp μ1 6 r1.length (1 - (μ1 6 r1.length))) 6) ((1 - y) :: r1) ∧ zJ [6] μ (zp μ1 6 r1.length (1 - (μ1 6 r1.length))) from ⟨hr1.trans (by rw [show en - i = (en - (i + 1)) + 1 by omega]; show cRun _ _ (i + 1) _ (cStep _ _ _) = _; rw [show cStep (μ 31) (μ 5 i) (y :: r1) = (1 - y) :: r1 from (if_pos h47).trans (if_pos h81)]), ⟨by omega, by omega⟩, by simp at hr3 ⊢; omega, ⟨by rw [zp_eq, show μ1 6 r1.length = y from hr4.1]; exact pk_us, by rw [zp_eq]; exact stRep_upd (Nat.le_refl _) hr4.2⟩, hr5.p (by decide)⟩) (by show en - (i + 1) < en - i; omega)
    · refine zx_iload (k := 4) (nn := 52) dX5_holds_50 rfl rfl ?_
      refine zx_sipush (v := 200) (nn := 55) rfl dX5_holds_52 rfl ?_
      refine zx_icmp_ge (tgt := 71) (nn := 58) dX5_holds_55 (by decide) rfl (fun h55 => ?_) (fun h55 => ?_)
      · exact absurd h55 (nI_ge (a := st.length) (b := 200) (by omega) (by omega))
      · refine zx_aload_n (k := 1) (nn := 59) dX5_holds_58 rfl rfl rfl ?_
        refine zx_getR (q := 6) (nn := 62) flX5_24 rfl rfl dX5_holds_59 rfl ?_
        refine zx_iload (k := 4) (nn := 64) dX5_holds_62 rfl rfl ?_
        refine zx_iload (k := 0) (nn := 66) dX5_holds_64 rfl rfl ?_
        refine zx_aload_n (k := 3) (nn := 67) dX5_holds_66 rfl rfl rfl ?_
        refine zx_callSf (nn := 70) (d' := 0) (as := [zi (μ 5 i), zr 31]) (rest := [zi (nI st.length), zr 6]) (n := 2) (eX5_valueOf_31 σ μ1 (μ 5 i) h47) kX5_valueOf mlX5_40 (by decide) rfl rfl (Nat.le_of_ble_eq_true rfl) dX5_holds_67 rfl ?_
        show zX shC σ 1 MX5_holds 70 [(6, zi (μ 5 i)), (0, zr 1), (1, zi (nI r)), (2, zr 31), (4, zi (nI st.length)), (5, zi (nI i))] [zi (cVal (μ1 31) (μ 5 i)), zi (nI st.length), zr 6] μ1 _
        rw [ef]
        show zX shC σ 1 MX5_holds 70 [(6, zi (μ 5 i)), (0, zr 1), (1, zi (nI r)), (2, zr 31), (4, zi (nI st.length)), (5, zi (nI i))] [zi (cVal (μ 31) (μ 5 i)), zi (nI st.length), zr 6] μ1 _
        refine zx_iast_n (j := st.length) (nn := 71) rfl (by omega) (by decide) dX5_holds_70 rfl ?_
        refine zx_iinc (k := 4) (v := nI (st.length + 1)) (lv' := [(4, zi (nI (st.length + 1))), (6, zi (μ 5 i)), (0, zr 1), (1, zi (nI r)), (2, zr 31), (5, zi (nI i))]) (nn := 74) dX5_holds_71 rfl (nI_1 st.length) (by decide) rfl rfl ?_
        refine zx_goto (tgt := 152) dX5_holds_74 (by decide) ?_
        refine zx_iinc (k := 5) (v := nI (i + 1)) (lv' := [(5, zi (nI (i + 1))), (4, zi (nI (st.length + 1))), (6, zi (μ 5 i)), (0, zr 1), (1, zi (nI r)), (2, zr 31)]) (nn := 155) dX5_holds_152 rfl (nI_1 i) (by decide) rfl rfl ?_
        refine zx_goto (tgt := 23) dX5_holds_155 (by decide) ?_
        refine zx_lv (lv' := [(0, zr 1), (1, zi (nI r)), (2, zr 31), (4, zi (nI (st.length + 1))), (5, zi (nI (i + 1)))]) [3, 4, 5, 1, 0] rfl ?_
        exact ih23 (i + 1, cVal (μ 31) (μ 5 i) :: st, zp μ1 6 st.length (cVal (μ 31) (μ 5 i))) (show cRun (μ 31) (μ 5) fr (en - fr) [] = cRun (μ 31) (μ 5) (i + 1) (en - (i + 1)) (cVal (μ 31) (μ 5 i) :: st) ∧ (fr ≤ (i + 1) ∧ (i + 1) < 2 ^ 30) ∧ (cVal (μ 31) (μ 5 i) :: st).length ≤ (i + 1) - fr ∧ stRep ((zp μ1 6 st.length (cVal (μ 31) (μ 5 i))) 6) (cVal (μ 31) (μ 5 i) :: st) ∧ zJ [6] μ (zp μ1 6 st.length (cVal (μ 31) (μ 5 i))) from ⟨hr1.trans (by rw [show en - i = (en - (i + 1)) + 1 by omega]; show cRun _ _ (i + 1) _ (cStep _ _ _) = _; rw [show cStep (μ 31) (μ 5 i) st = cVal (μ 31) (μ 5 i) :: st from if_neg h47]), ⟨by omega, by omega⟩, by simp; omega, ⟨by rw [zp_eq]; exact pk_us, by rw [zp_eq]; exact stRep_upd (Nat.le_refl _) hr4⟩, hr5.p (by decide)⟩) (by show en - (i + 1) < en - i; omega)
