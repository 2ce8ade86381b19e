section ZT
variable {sh : List zS} {σ : zG} {d d' : Nat} {M M' : zO} {pc n nn idx i : Nat} {lv : List (Nat × zV)} {st rest as : List zV} {μ μ1 : zM} {v : Option zV} {Q : Option zV → zM → Prop} {y : MethodName}
/-- a call on text number i -/
theorem zx_callTf (hm : zMet sh σ d' M' y (zr (200 + i) :: as) μ (fun r μ' => r = v ∧ μ' = μ1)) (hc : zCalV M' y n) (hyc : y.cls = "java/lang/String") (hlk : Cond.methodLink M.1 idx y ∈ zw) (hi : i < 18) (hd : d' + 1 ≤ d) (hn : as.length = n) (hst : st = as.reverse ++ zr (200 + i) :: rest) (hW : zcat rest ≤ 8)
    (hdg : decode M.2.1 pc = .ok (.invokevirtual idx, 3)) (hpc : nn = pc + 3) (kk : zX sh σ d M nn lv (v.toList ++ rest) μ1 Q) : zX sh σ d M pc lv st μ Q := by
  subst hpc
  subst hst
  intro p e R s m args below meth c hC H locs ls hP hD hS hl
  obtain ⟨hx, hb, hml, hr, hlk2, hown, hts, hroom, hK, hRO⟩ := id hC
  obtain ⟨⟨hc1, hc2, hc3, hc4⟩, hc5, hc6⟩ := hc
  have hR2 : d' + 1 ≤ R.frames ∧ 8 + (M'.2.2.1 + 11) + 200 * d' ≤ R.locals := ⟨by omega, by omega⟩
  have hstk : ((as.reverse ++ zr (200 + i) :: rest).map (zval (zad σ))) = (as.map (zval (zad σ))).reverse ++ Value.ref (zad σ (200 + i)) :: rest.map (zval (zad σ)) := by
    rw [List.map_append, List.map_reverse]; rfl
  rw [hstk]
  have hgood : GoodIn zw (wsV M.1 idx y.cls y (zws M' y)) := by
    intro w hw
    rcases List.mem_append.mp hw with h | h
    · simp at h
      rcases h with rfl | rfl | rfl | rfl
      · exact ⟨hlk, zw_good _ hlk⟩
      · exact ⟨hc5, zw_good _ hc5⟩
      · exact ⟨hc6, zw_good _ hc6⟩
      · exact ⟨hc2, zw_good _ hc2⟩
    · exact zws_good hc1 w h
  obtain ⟨aV, hE⟩ := hRO.2.2.1
  have hrc := vk_recv hE hi hS
  exact zx_after (lv := lv) (va_runV (As := as.map (zval (zad σ))) ⟨hx, hb, hml, hown, hts⟩ hm (cwV n hts hgood rfl rfl rfl ⟨rfl, hc3⟩ hR2) ⟨zB_blind _, by rw [hyc]; exact hrc, fun U hU hW => ⟨rfl, ⟨by rw [hU]; exact hP, va_K.moved hW.alike hK, hD⟩, zRO_go hW (fun q h1 h2 => by rw [hU]; exact hS.2.1 q h1 h2) hRO⟩⟩ rfl (by rw [List.length_map]; exact hn) hl.1 rfl (lv_room (by rw [zcat_eq]; exact hW)) hdg ⟨Nat.zero_le _, Nat.zero_le _⟩) hC hS hl (fun r μ' h => by rw [h.1, h.2]; exact kk)
end ZT
/-! THE TEXT AS TOKENS. T: the bytes, len: how many. A token: its kind (-1 the end, -2 a number, -3 nothing known, 256 + w name w, else the byte), its value, where it starts, where it ends -/
def tL (c : Int32) : Bool := pIn c 97 122
def tD (c : Int32) : Bool := pIn c 48 57
def tB (c : Int32) : Bool := decide (c = 32)
def tRun (f : Int32 → Bool) (T : Nat → Int32) : Nat → Nat → Nat
  | 0, p => p
  | m + 1, p => if f (T p) = true then tRun f T m (p + 1) else p
theorem tRun_le {f : Int32 → Bool} {T : Nat → Int32} : ∀ {m p : Nat}, p ≤ tRun f T m p ∧ tRun f T m p ≤ p + m
  | 0, p => ⟨Nat.le_refl _, Nat.le_refl _⟩
  | m + 1, p => by
    show p ≤ (if _ then _ else _) ∧ (if _ then _ else _) ≤ _
    have := tRun_le (f := f) (T := T) (m := m) (p := p + 1)
    split <;> omega
def tVal (T : Nat → Int32) (p : Nat) : Nat → Int32
  | 0 => 0
  | n + 1 => if n < 4 then tVal T p n * 10 + T (p + n) - 48 else tVal T p n
def tAll (f : Nat → Bool) : Nat → Bool
  | 0 => true
  | n + 1 => tAll f n && f n
theorem tAll_no {f : Nat → Bool} {m : Nat} (h : f m = false) : ∀ {n : Nat}, m < n → tAll f n = false
  | 0, q => absurd q (by omega)
  | n + 1, q => by
    show (tAll f n && f n) = false
    rcases Nat.lt_or_ge m n with r | r
    · rw [tAll_no h r]; rfl
    · rw [show n = m by omega, h, Bool.and_false]
def tIs (T : Nat → Int32) (p n w : Nat) : Bool := decide (n = zLn.getD w 0) && tAll (fun j => decide (T (p + j) = (zBy.getD w []).getD j 0)) n
def tWord (T : Nat → Int32) (p n : Nat) : Int32 := match pFirst (fun w => tIs T p n w) 0 18 with
  | none => -3
  | some w => nI (256 + w)
def tTok (T : Nat → Int32) (len q : Nat) : Int32 × Int32 × Nat :=
  if len ≤ q then (-1, 0, q)
  else if tL (T q) = true then (tWord T q (tRun tL T (len - q) q - q), 0, tRun tL T (len - q) q)
  else if tD (T q) = true then ((if 4 < tRun tD T (len - q) q - q then -3 else -2), tVal T q (tRun tD T (len - q) q - q), tRun tD T (len - q) q)
  else (T q, 0, q + 1)
def tSk (T : Nat → Int32) (len p : Nat) : Nat := tRun tB T (len - p) p
def tP (T : Nat → Int32) (len : Nat) : Nat → Nat
  | 0 => 0
  | k + 1 => (tTok T len (tSk T len (tP T len k))).2.2
def tS (T : Nat → Int32) (len k : Nat) : Nat := tSk T len (tP T len k)
def tK (T : Nat → Int32) (len k : Nat) : Int32 := (tTok T len (tS T len k)).1
def tV (T : Nat → Int32) (len k : Nat) : Int32 := (tTok T len (tS T len k)).2.1
theorem tSk_b {T : Nat → Int32} {len p : Nat} (h : p < len) (hb : T p = 32) : tSk T len p = tSk T len (p + 1) := by
  unfold tSk
  rw [show len - p = (len - (p + 1)) + 1 by omega]
  show (if _ then _ else _) = _
  rw [if_pos (show tB (T p) = true from decide_eq_true hb)]
theorem tSk_n {T : Nat → Int32} {len p : Nat} (hb : ¬ T p = 32) : tSk T len p = p := by
  unfold tSk
  cases hm : len - p with
  | zero => rfl
  | succ m =>
    show (if _ then _ else _) = _
    rw [if_neg (by show ¬ tB (T p) = true; unfold tB; rw [decide_eq_false hb]; decide)]
theorem tSk_e {T : Nat → Int32} {len p : Nat} (h : len ≤ p) : tSk T len p = p := by
  unfold tSk
  rw [show len - p = 0 by omega]
  rfl
theorem tRun_s {f : Int32 → Bool} {T : Nat → Int32} {len p : Nat} (h : p < len) (hf : f (T p) = true) : tRun f T (len - p) p = tRun f T (len - (p + 1)) (p + 1) := by
  rw [show len - p = (len - (p + 1)) + 1 by omega]
  show (if _ then _ else _) = _
  rw [if_pos hf]
theorem tRun_0 {f : Int32 → Bool} {T : Nat → Int32} {len p : Nat} (hf : len ≤ p ∨ f (T p) = false) : tRun f T (len - p) p = p := by
  rcases hf with h | h
  · rw [show len - p = 0 by omega]
    rfl
  · cases hm : len - p with
    | zero => rfl
    | succ m =>
      show (if _ then _ else _) = _
      rw [if_neg (by rw [h]; decide)]
set_option maxHeartbeats 4000000 in
set_option maxRecDepth 100000 in
theorem eX4_isLetter (σ : zG) (μ : zM) (c : Int32) : zMet shC σ 0 MX4_isLetter yX4_isLetter [zi c] μ (fun rr μ' => rr = some (zi (zb (tL c))) ∧ μ' = μ) := by
  refine zmetF (by decide +kernel) rfl (Nat.le_of_ble_eq_true rfl) ?_
  show zX shC σ 0 MX4_isLetter 0 [(0, zi c)] [] μ _
  refine zx_iload_n (k := 0) (nn := 1) dX4_isLetter_0 rfl rfl rfl ?_
  refine zx_bipush (v := 97) (nn := 3) rfl dX4_isLetter_1 rfl ?_
  refine zx_icmp_lt (tgt := 16) (nn := 6) dX4_isLetter_3 (by decide) rfl (fun h3 => ?_) (fun h3 => ?_)
  · refine zx_iconst (v := 0) (nn := 17) rfl dX4_isLetter_16 rfl ?_
    refine zx_zret rfl rfl dX4_isLetter_17 ?_
    refine ⟨congrArg (fun x => some (zi x)) ?_, rfl⟩
    cases hq : tL c <;> first | rfl | (exfalso; simp [tL, pIn, *] at hq; done) | (exfalso; simp only [tL, pIn, Bool.and_eq_true, Bool.and_eq_false_iff, decide_eq_true_eq, decide_eq_false_iff_not, Int32.not_le, Int32.not_lt] at *; first | (rcases hq with hq | hq <;> first | exact absurd ‹_› (Int32.not_le.mpr hq) | exact absurd hq (by assumption) | exact absurd ‹_› (Int32.not_lt.mpr (by assumption))) | (exact absurd ‹c < 97› (Int32.not_lt.mpr hq.1)) | (exact absurd ‹122 < c› (Int32.not_lt.mpr hq.2)))
  · refine zx_iload_n (k := 0) (nn := 7) dX4_isLetter_6 rfl rfl rfl ?_
    refine zx_bipush (v := 122) (nn := 9) rfl dX4_isLetter_7 rfl ?_
    refine zx_icmp_gt (tgt := 16) (nn := 12) dX4_isLetter_9 (by decide) rfl (fun h9 => ?_) (fun h9 => ?_)
    · refine zx_iconst (v := 0) (nn := 17) rfl dX4_isLetter_16 rfl ?_
      refine zx_zret rfl rfl dX4_isLetter_17 ?_
      refine ⟨congrArg (fun x => some (zi x)) ?_, rfl⟩
      cases hq : tL c <;> first | rfl | (exfalso; simp [tL, pIn, *] at hq; done) | (exfalso; simp only [tL, pIn, Bool.and_eq_true, Bool.and_eq_false_iff, decide_eq_true_eq, decide_eq_false_iff_not, Int32.not_le, Int32.not_lt] at *; first | (rcases hq with hq | hq <;> first | exact absurd ‹_› (Int32.not_le.mpr hq) | exact absurd hq (by assumption) | exact absurd ‹_› (Int32.not_lt.mpr (by assumption))) | (exact absurd ‹c < 97› (Int32.not_lt.mpr hq.1)) | (exact absurd ‹122 < c› (Int32.not_lt.mpr hq.2)))
    · refine zx_iconst (v := 1) (nn := 13) rfl dX4_isLetter_12 rfl ?_
      refine zx_goto (tgt := 17) dX4_isLetter_13 (by decide) ?_
      refine zx_zret rfl rfl dX4_isLetter_17 ?_
      refine ⟨congrArg (fun x => some (zi x)) ?_, rfl⟩
      cases hq : tL c <;> first | rfl | (exfalso; simp [tL, pIn, *] at hq; done) | (exfalso; simp only [tL, pIn, Bool.and_eq_true, Bool.and_eq_false_iff, decide_eq_true_eq, decide_eq_false_iff_not, Int32.not_le, Int32.not_lt] at *; first | (rcases hq with hq | hq <;> first | exact absurd ‹_› (Int32.not_le.mpr hq) | exact absurd hq (by assumption) | exact absurd ‹_› (Int32.not_lt.mpr (by assumption))) | (exact absurd ‹c < 97› (Int32.not_lt.mpr hq.1)) | (exact absurd ‹122 < c› (Int32.not_lt.mpr hq.2)))
set_option maxHeartbeats 4000000 in
set_option maxRecDepth 100000 in
theorem eX4_isDigit (σ : zG) (μ : zM) (c : Int32) : zMet shC σ 0 MX4_isDigit yX4_isDigit [zi c] μ (fun rr μ' => rr = some (zi (zb (tD c))) ∧ μ' = μ) := by
  refine zmetF (by decide +kernel) rfl (Nat.le_of_ble_eq_true rfl) ?_
  show zX shC σ 0 MX4_isDigit 0 [(0, zi c)] [] μ _
  refine zx_iload_n (k := 0) (nn := 1) dX4_isDigit_0 rfl rfl rfl ?_
  refine zx_bipush (v := 48) (nn := 3) rfl dX4_isDigit_1 rfl ?_
  refine zx_icmp_lt (tgt := 16) (nn := 6) dX4_isDigit_3 (by decide) rfl (fun h3 => ?_) (fun h3 => ?_)
  · refine zx_iconst (v := 0) (nn := 17) rfl dX4_isDigit_16 rfl ?_
    refine zx_zret rfl rfl dX4_isDigit_17 ?_
    refine ⟨congrArg (fun x => some (zi x)) ?_, rfl⟩
    cases hq : tD c <;> first | rfl | (exfalso; simp [tD, pIn, *] at hq; done) | (exfalso; simp only [tD, pIn, Bool.and_eq_true, Bool.and_eq_false_iff, decide_eq_true_eq, decide_eq_false_iff_not, Int32.not_le, Int32.not_lt] at *; first | (rcases hq with hq | hq <;> first | exact absurd ‹_› (Int32.not_le.mpr hq) | exact absurd hq (by assumption) | exact absurd ‹_› (Int32.not_lt.mpr (by assumption))) | (exact absurd ‹c < 48› (Int32.not_lt.mpr hq.1)) | (exact absurd ‹57 < c› (Int32.not_lt.mpr hq.2)))
  · refine zx_iload_n (k := 0) (nn := 7) dX4_isDigit_6 rfl rfl rfl ?_
    refine zx_bipush (v := 57) (nn := 9) rfl dX4_isDigit_7 rfl ?_
    refine zx_icmp_gt (tgt := 16) (nn := 12) dX4_isDigit_9 (by decide) rfl (fun h9 => ?_) (fun h9 => ?_)
    · refine zx_iconst (v := 0) (nn := 17) rfl dX4_isDigit_16 rfl ?_
      refine zx_zret rfl rfl dX4_isDigit_17 ?_
      refine ⟨congrArg (fun x => some (zi x)) ?_, rfl⟩
      cases hq : tD c <;> first | rfl | (exfalso; simp [tD, pIn, *] at hq; done) | (exfalso; simp only [tD, pIn, Bool.and_eq_true, Bool.and_eq_false_iff, decide_eq_true_eq, decide_eq_false_iff_not, Int32.not_le, Int32.not_lt] at *; first | (rcases hq with hq | hq <;> first | exact absurd ‹_› (Int32.not_le.mpr hq) | exact absurd hq (by assumption) | exact absurd ‹_› (Int32.not_lt.mpr (by assumption))) | (exact absurd ‹c < 48› (Int32.not_lt.mpr hq.1)) | (exact absurd ‹57 < c› (Int32.not_lt.mpr hq.2)))
    · refine zx_iconst (v := 1) (nn := 13) rfl dX4_isDigit_12 rfl ?_
      refine zx_goto (tgt := 17) dX4_isDigit_13 (by decide) ?_
      refine zx_zret rfl rfl dX4_isDigit_17 ?_
      refine ⟨congrArg (fun x => some (zi x)) ?_, rfl⟩
      cases hq : tD c <;> first | rfl | (exfalso; simp [tD, pIn, *] at hq; done) | (exfalso; simp only [tD, pIn, Bool.and_eq_true, Bool.and_eq_false_iff, decide_eq_true_eq, decide_eq_false_iff_not, Int32.not_le, Int32.not_lt] at *; first | (rcases hq with hq | hq <;> first | exact absurd ‹_› (Int32.not_le.mpr hq) | exact absurd hq (by assumption) | exact absurd ‹_› (Int32.not_lt.mpr (by assumption))) | (exact absurd ‹c < 48› (Int32.not_lt.mpr hq.1)) | (exact absurd ‹57 < c› (Int32.not_lt.mpr hq.2)))
set_option maxHeartbeats 4000000 in
set_option maxRecDepth 100000 in
theorem eX4_nameOf (σ : zG) (μ : zM) (w : Nat) (hw : w < 18) : zMet shC σ 0 MX4_nameOf yX4_nameOf [zi (nI w)] μ (fun rr μ' => rr = some (zr (200 + w)) ∧ μ' = μ) := by
  refine zmetF (by decide +kernel) rfl (Nat.le_of_ble_eq_true rfl) ?_
  show zX shC σ 0 MX4_nameOf 0 [(0, zi (nI w))] [] μ _
  refine zx_iload_n (k := 0) (nn := 1) dX4_nameOf_0 rfl rfl rfl ?_
  by_cases h1_0 : (nI w) = 0
  · refine zx_sw h1_0 ?_
    refine zx_tabIn (tgt := 84) (off := 83) dX4_nameOf_1 (by decide +kernel) (by decide +kernel) (by decide +kernel) (by decide) ?_
    refine zx_ldcS (k := 0) (nn := 86) (by decide +kernel) dX4_nameOf_84 rfl ?_
    refine zx_aret rfl (Or.inl ⟨_, rfl⟩) dX4_nameOf_86 ?_
    have e : w = 0 := (nI_eq (b := 0) (by omega) (by omega)).mp h1_0
    subst e
    exact ⟨rfl, rfl⟩
  by_cases h1_1 : (nI w) = 1
  · refine zx_sw h1_1 ?_
    refine zx_tabIn (tgt := 87) (off := 86) dX4_nameOf_1 (by decide +kernel) (by decide +kernel) (by decide +kernel) (by decide) ?_
    refine zx_ldcS (k := 1) (nn := 89) (by decide +kernel) dX4_nameOf_87 rfl ?_
    refine zx_aret rfl (Or.inl ⟨_, rfl⟩) dX4_nameOf_89 ?_
    have e : w = 1 := (nI_eq (b := 1) (by omega) (by omega)).mp h1_1
    subst e
    exact ⟨rfl, rfl⟩
  by_cases h1_2 : (nI w) = 2
  · refine zx_sw h1_2 ?_
    refine zx_tabIn (tgt := 90) (off := 89) dX4_nameOf_1 (by decide +kernel) (by decide +kernel) (by decide +kernel) (by decide) ?_
    refine zx_ldcS (k := 2) (nn := 92) (by decide +kernel) dX4_nameOf_90 rfl ?_
    refine zx_aret rfl (Or.inl ⟨_, rfl⟩) dX4_nameOf_92 ?_
    have e : w = 2 := (nI_eq (b := 2) (by omega) (by omega)).mp h1_2
    subst e
    exact ⟨rfl, rfl⟩
  by_cases h1_3 : (nI w) = 3
  · refine zx_sw h1_3 ?_
    refine zx_tabIn (tgt := 93) (off := 92) dX4_nameOf_1 (by decide +kernel) (by decide +kernel) (by decide +kernel) (by decide) ?_
    refine zx_ldcS (k := 3) (nn := 95) (by decide +kernel) dX4_nameOf_93 rfl ?_
    refine zx_aret rfl (Or.inl ⟨_, rfl⟩) dX4_nameOf_95 ?_
    have e : w = 3 := (nI_eq (b := 3) (by omega) (by omega)).mp h1_3
    subst e
    exact ⟨rfl, rfl⟩
  by_cases h1_4 : (nI w) = 4
  · refine zx_sw h1_4 ?_
    refine zx_tabIn (tgt := 96) (off := 95) dX4_nameOf_1 (by decide +kernel) (by decide +kernel) (by decide +kernel) (by decide) ?_
    refine zx_ldcS (k := 4) (nn := 98) (by decide +kernel) dX4_nameOf_96 rfl ?_
    refine zx_aret rfl (Or.inl ⟨_, rfl⟩) dX4_nameOf_98 ?_
    have e : w = 4 := (nI_eq (b := 4) (by omega) (by omega)).mp h1_4
    subst e
    exact ⟨rfl, rfl⟩
  by_cases h1_5 : (nI w) = 5
  · refine zx_sw h1_5 ?_
    refine zx_tabIn (tgt := 99) (off := 98) dX4_nameOf_1 (by decide +kernel) (by decide +kernel) (by decide +kernel) (by decide) ?_
    refine zx_ldcS (k := 5) (nn := 101) (by decide +kernel) dX4_nameOf_99 rfl ?_
    refine zx_aret rfl (Or.inl ⟨_, rfl⟩) dX4_nameOf_101 ?_
    have e : w = 5 := (nI_eq (b := 5) (by omega) (by omega)).mp h1_5
    subst e
    exact ⟨rfl, rfl⟩
  by_cases h1_6 : (nI w) = 6
  · refine zx_sw h1_6 ?_
    refine zx_tabIn (tgt := 102) (off := 101) dX4_nameOf_1 (by decide +kernel) (by decide +kernel) (by decide +kernel) (by decide) ?_
    refine zx_ldcS (k := 6) (nn := 104) (by decide +kernel) dX4_nameOf_102 rfl ?_
    refine zx_aret rfl (Or.inl ⟨_, rfl⟩) dX4_nameOf_104 ?_
    have e : w = 6 := (nI_eq (b := 6) (by omega) (by omega)).mp h1_6
    subst e
    exact ⟨rfl, rfl⟩
  by_cases h1_7 : (nI w) = 7
  · refine zx_sw h1_7 ?_
    refine zx_tabIn (tgt := 105) (off := 104) dX4_nameOf_1 (by decide +kernel) (by decide +kernel) (by decide +kernel) (by decide) ?_
    refine zx_ldcS (k := 7) (nn := 107) (by decide +kernel) dX4_nameOf_105 rfl ?_
    refine zx_aret rfl (Or.inl ⟨_, rfl⟩) dX4_nameOf_107 ?_
    have e : w = 7 := (nI_eq (b := 7) (by omega) (by omega)).mp h1_7
    subst e
    exact ⟨rfl, rfl⟩
  by_cases h1_8 : (nI w) = 8
  · refine zx_sw h1_8 ?_
    refine zx_tabIn (tgt := 108) (off := 107) dX4_nameOf_1 (by decide +kernel) (by decide +kernel) (by decide +kernel) (by decide) ?_
    refine zx_ldcS (k := 8) (nn := 110) (by decide +kernel) dX4_nameOf_108 rfl ?_
    refine zx_aret rfl (Or.inl ⟨_, rfl⟩) dX4_nameOf_110 ?_
    have e : w = 8 := (nI_eq (b := 8) (by omega) (by omega)).mp h1_8
    subst e
    exact ⟨rfl, rfl⟩
  by_cases h1_9 : (nI w) = 9
  · refine zx_sw h1_9 ?_
    refine zx_tabIn (tgt := 111) (off := 110) dX4_nameOf_1 (by decide +kernel) (by decide +kernel) (by decide +kernel) (by decide) ?_
    refine zx_ldcS (k := 9) (nn := 113) (by decide +kernel) dX4_nameOf_111 rfl ?_
    refine zx_aret rfl (Or.inl ⟨_, rfl⟩) dX4_nameOf_113 ?_
    have e : w = 9 := (nI_eq (b := 9) (by omega) (by omega)).mp h1_9
    subst e
    exact ⟨rfl, rfl⟩
  by_cases h1_10 : (nI w) = 10
  · refine zx_sw h1_10 ?_
    refine zx_tabIn (tgt := 114) (off := 113) dX4_nameOf_1 (by decide +kernel) (by decide +kernel) (by decide +kernel) (by decide) ?_
    refine zx_ldcS (k := 10) (nn := 116) (by decide +kernel) dX4_nameOf_114 rfl ?_
    refine zx_aret rfl (Or.inl ⟨_, rfl⟩) dX4_nameOf_116 ?_
    have e : w = 10 := (nI_eq (b := 10) (by omega) (by omega)).mp h1_10
    subst e
    exact ⟨rfl, rfl⟩
  by_cases h1_11 : (nI w) = 11
  · refine zx_sw h1_11 ?_
    refine zx_tabIn (tgt := 117) (off := 116) dX4_nameOf_1 (by decide +kernel) (by decide +kernel) (by decide +kernel) (by decide) ?_
    refine zx_ldcS (k := 11) (nn := 119) (by decide +kernel) dX4_nameOf_117 rfl ?_
    refine zx_aret rfl (Or.inl ⟨_, rfl⟩) dX4_nameOf_119 ?_
    have e : w = 11 := (nI_eq (b := 11) (by omega) (by omega)).mp h1_11
    subst e
    exact ⟨rfl, rfl⟩
  by_cases h1_12 : (nI w) = 12
  · refine zx_sw h1_12 ?_
    refine zx_tabIn (tgt := 120) (off := 119) dX4_nameOf_1 (by decide +kernel) (by decide +kernel) (by decide +kernel) (by decide) ?_
    refine zx_ldcS (k := 12) (nn := 122) (by decide +kernel) dX4_nameOf_120 rfl ?_
    refine zx_aret rfl (Or.inl ⟨_, rfl⟩) dX4_nameOf_122 ?_
    have e : w = 12 := (nI_eq (b := 12) (by omega) (by omega)).mp h1_12
    subst e
    exact ⟨rfl, rfl⟩
  by_cases h1_13 : (nI w) = 13
  · refine zx_sw h1_13 ?_
    refine zx_tabIn (tgt := 123) (off := 122) dX4_nameOf_1 (by decide +kernel) (by decide +kernel) (by decide +kernel) (by decide) ?_
    refine zx_ldcS (k := 13) (nn := 125) (by decide +kernel) dX4_nameOf_123 rfl ?_
    refine zx_aret rfl (Or.inl ⟨_, rfl⟩) dX4_nameOf_125 ?_
    have e : w = 13 := (nI_eq (b := 13) (by omega) (by omega)).mp h1_13
    subst e
    exact ⟨rfl, rfl⟩
  by_cases h1_14 : (nI w) = 14
  · refine zx_sw h1_14 ?_
    refine zx_tabIn (tgt := 126) (off := 125) dX4_nameOf_1 (by decide +kernel) (by decide +kernel) (by decide +kernel) (by decide) ?_
    refine zx_ldcS (k := 14) (nn := 128) (by decide +kernel) dX4_nameOf_126 rfl ?_
    refine zx_aret rfl (Or.inl ⟨_, rfl⟩) dX4_nameOf_128 ?_
    have e : w = 14 := (nI_eq (b := 14) (by omega) (by omega)).mp h1_14
    subst e
    exact ⟨rfl, rfl⟩
  by_cases h1_15 : (nI w) = 15
  · refine zx_sw h1_15 ?_
    refine zx_tabIn (tgt := 129) (off := 128) dX4_nameOf_1 (by decide +kernel) (by decide +kernel) (by decide +kernel) (by decide) ?_
    refine zx_ldcS (k := 15) (nn := 131) (by decide +kernel) dX4_nameOf_129 rfl ?_
    refine zx_aret rfl (Or.inl ⟨_, rfl⟩) dX4_nameOf_131 ?_
    have e : w = 15 := (nI_eq (b := 15) (by omega) (by omega)).mp h1_15
    subst e
    exact ⟨rfl, rfl⟩
  by_cases h1_16 : (nI w) = 16
  · refine zx_sw h1_16 ?_
    refine zx_tabIn (tgt := 132) (off := 131) dX4_nameOf_1 (by decide +kernel) (by decide +kernel) (by decide +kernel) (by decide) ?_
    refine zx_ldcS (k := 16) (nn := 134) (by decide +kernel) dX4_nameOf_132 rfl ?_
    refine zx_aret rfl (Or.inl ⟨_, rfl⟩) dX4_nameOf_134 ?_
    have e : w = 16 := (nI_eq (b := 16) (by omega) (by omega)).mp h1_16
    subst e
    exact ⟨rfl, rfl⟩
  refine zx_tabOut (tgt := 135) dX4_nameOf_1 (zsw_out (lo := 0) (hi := 16) (fun k hk1 hk2 => by rcases (show k = 0 ∨ k = 1 ∨ k = 2 ∨ k = 3 ∨ k = 4 ∨ k = 5 ∨ k = 6 ∨ k = 7 ∨ k = 8 ∨ k = 9 ∨ k = 10 ∨ k = 11 ∨ k = 12 ∨ k = 13 ∨ k = 14 ∨ k = 15 ∨ k = 16 by omega) with rfl | rfl | rfl | rfl | rfl | rfl | rfl | rfl | rfl | rfl | rfl | rfl | rfl | rfl | rfl | rfl | rfl; exact lv_neT h1_0 rfl; exact lv_neT h1_1 rfl; exact lv_neT h1_2 rfl; exact lv_neT h1_3 rfl; exact lv_neT h1_4 rfl; exact lv_neT h1_5 rfl; exact lv_neT h1_6 rfl; exact lv_neT h1_7 rfl; exact lv_neT h1_8 rfl; exact lv_neT h1_9 rfl; exact lv_neT h1_10 rfl; exact lv_neT h1_11 rfl; exact lv_neT h1_12 rfl; exact lv_neT h1_13 rfl; exact lv_neT h1_14 rfl; exact lv_neT h1_15 rfl; exact lv_neT h1_16 rfl)) (by decide) ?_
  refine zx_ldcS (k := 17) (nn := 137) (by decide +kernel) dX4_nameOf_135 rfl ?_
  refine zx_aret rfl (Or.inl ⟨_, rfl⟩) dX4_nameOf_137 ?_
  have e : w = 17 := by
    have g0 : w ≠ 0 := fun q => h1_0 (by rw [q]; rfl)
    have g1 : w ≠ 1 := fun q => h1_1 (by rw [q]; rfl)
    have g2 : w ≠ 2 := fun q => h1_2 (by rw [q]; rfl)
    have g3 : w ≠ 3 := fun q => h1_3 (by rw [q]; rfl)
    have g4 : w ≠ 4 := fun q => h1_4 (by rw [q]; rfl)
    have g5 : w ≠ 5 := fun q => h1_5 (by rw [q]; rfl)
    have g6 : w ≠ 6 := fun q => h1_6 (by rw [q]; rfl)
    have g7 : w ≠ 7 := fun q => h1_7 (by rw [q]; rfl)
    have g8 : w ≠ 8 := fun q => h1_8 (by rw [q]; rfl)
    have g9 : w ≠ 9 := fun q => h1_9 (by rw [q]; rfl)
    have g10 : w ≠ 10 := fun q => h1_10 (by rw [q]; rfl)
    have g11 : w ≠ 11 := fun q => h1_11 (by rw [q]; rfl)
    have g12 : w ≠ 12 := fun q => h1_12 (by rw [q]; rfl)
    have g13 : w ≠ 13 := fun q => h1_13 (by rw [q]; rfl)
    have g14 : w ≠ 14 := fun q => h1_14 (by rw [q]; rfl)
    have g15 : w ≠ 15 := fun q => h1_15 (by rw [q]; rfl)
    have g16 : w ≠ 16 := fun q => h1_16 (by rw [q]; rfl)
    omega
  subst e
  exact ⟨rfl, rfl⟩
set_option maxHeartbeats 4000000 in
set_option maxRecDepth 100000 in
theorem eX4_isName_7 (σ : zG) (μ : zM) (p : Nat) (w n : Nat) (hw : w < 18) (hat : μ 7 6 = nI (p + n)) (hpn : p + n ≤ 200) : zMet shC σ 4 MX4_isName yX4_isName [zr 7, zi (nI p), zr (200 + w)] μ (fun rr μ' => rr = some (zi (zb (tIs (μ 8) p n w))) ∧ μ' = μ) := by
  refine zmetF (by decide +kernel) rfl (Nat.le_of_ble_eq_true rfl) ?_
  show zX shC σ 4 MX4_isName 0 [(0, zr 7), (1, zi (nI p)), (2, zr (200 + w))] [] μ _
  refine zx_aload_n (k := 0) (nn := 1) dX4_isName_0 rfl rfl rfl ?_
  refine zx_getI (nn := 4) flX4_77 rfl rfl dX4_isName_1 rfl ?_
  refine zx_iload_n (k := 1) (nn := 5) dX4_isName_4 rfl rfl rfl ?_
  rw [hat]
  show zX shC σ 4 MX4_isName 5 [(0, zr 7), (1, zi (nI p)), (2, zr (200 + w))] [zi (nI p), zi (nI (p + n))] μ _
  refine zx_isub (nn := 6) dX4_isName_5 rfl ?_
  rw [show (nI (p + n)) - (nI p) = nI n from by rw [nI_subN (by omega), show p + n - p = n by omega]]
  show zX shC σ 4 MX4_isName 6 [(0, zr 7), (1, zi (nI p)), (2, zr (200 + w))] [zi (nI n)] μ _
  refine zx_aload_n (k := 2) (nn := 7) dX4_isName_6 rfl rfl rfl ?_
  refine zx_callTf (nn := 10) (i := w) (d' := 1) (as := []) (rest := [zi (nI n)]) (n := 0) (eJ0_length shC σ μ w hw) kJ0_length_8abf5 rfl mlX4_101 hw (by decide) rfl rfl (Nat.le_of_ble_eq_true rfl) dX4_isName_7 rfl ?_
  show zX shC σ 4 MX4_isName 10 [(0, zr 7), (1, zi (nI p)), (2, zr (200 + w))] [zi (nI (zLn.getD w 0)), zi (nI n)] μ _
  refine zx_icmp_eq (tgt := 15) (nn := 13) dX4_isName_10 (by decide) rfl (fun h10 => ?_) (fun h10 => ?_)
  · have hn : n = zLn.getD w 0 := (nI_eq (by omega) (by have := (tx_len hw).1; omega)).mp h10
    have h7 := (tx_len hw).1
    refine zx_iconst (v := 0) (nn := 16) rfl dX4_isName_15 rfl ?_
    refine zx_istore_n (nn := 17) (lv' := [(3, zi 0), (0, zr 7), (1, zi (nI p)), (2, zr (200 + w))]) dX4_isName_16 rfl (by decide) rfl rfl ?_
    refine zx_lv (lv' := [(0, zr 7), (1, zi (nI p)), (2, zr (200 + w)), (3, zi 0)]) [1, 2, 3, 0] rfl ?_
    refine zx_while (τ := Nat) (fun j => n - j) (fun j => j ≤ n ∧ tAll (fun j_ => decide (μ 8 (p + j_) = (zBy.getD w []).getD j_ 0)) j = true) (fun j => [(0, zr 7), (1, zi (nI p)), (2, zr (200 + w)), (3, zi (nI j))]) (fun j => μ) (t0 := (0)) (show 0 ≤ n ∧ tAll (fun j_ => decide (μ 8 (p + j_) = (zBy.getD w []).getD j_ 0)) 0 = true from ⟨Nat.zero_le _, rfl⟩) ?_
    rintro j hI ih17
    replace hI : j ≤ n ∧ tAll (fun j_ => decide (μ 8 (p + j_) = (zBy.getD w []).getD j_ 0)) j = true := hI
    show zX shC σ 4 MX4_isName 17 [(0, zr 7), (1, zi (nI p)), (2, zr (200 + w)), (3, zi (nI j))] [] μ _
    refine zx_iload_n (k := 3) (nn := 18) dX4_isName_17 rfl rfl rfl ?_
    refine zx_aload_n (k := 2) (nn := 19) dX4_isName_18 rfl rfl rfl ?_
    refine zx_callTf (nn := 22) (i := w) (d' := 1) (as := []) (rest := [zi (nI j)]) (n := 0) (eJ0_length shC σ μ w hw) kJ0_length_8abf5 rfl mlX4_101 hw (by decide) rfl rfl (Nat.le_of_ble_eq_true rfl) dX4_isName_19 rfl ?_
    show zX shC σ 4 MX4_isName 22 [(0, zr 7), (1, zi (nI p)), (2, zr (200 + w)), (3, zi (nI j))] [zi (nI (zLn.getD w 0)), zi (nI j)] μ _
    refine zx_icmp_ge (tgt := 49) (nn := 25) dX4_isName_22 (by decide) rfl (fun h22 => ?_) (fun h22 => ?_)
    · refine zx_iconst (v := 1) (nn := 50) rfl dX4_isName_49 rfl ?_
      refine zx_zret rfl rfl dX4_isName_50 ?_
      refine ⟨congrArg (fun x => some (zi x)) ?_, rfl⟩
      have hge := nI_le_le h22 (by omega)
      unfold tIs
      rw [decide_eq_true hn, show n = j by omega, hI.2]
      rfl
    · have hlt : j < n := nI_nle_lt (by rw [hn]; exact h22) (by omega)
      refine zx_aload_n (k := 0) (nn := 26) dX4_isName_25 rfl rfl rfl ?_
      refine zx_getR (q := 8) (nn := 29) flX4_11 rfl rfl dX4_isName_26 rfl ?_
      refine zx_iload_n (k := 1) (nn := 30) dX4_isName_29 rfl rfl rfl ?_
      refine zx_iload_n (k := 3) (nn := 31) dX4_isName_30 rfl rfl rfl ?_
      refine zx_iadd (nn := 32) dX4_isName_31 rfl ?_
      rw [show (nI p) + (nI j) = nI (p + j) from (nI_add p j)]
      show zX shC σ 4 MX4_isName 32 [(0, zr 7), (1, zi (nI p)), (2, zr (200 + w)), (3, zi (nI j))] [zi (nI (p + j)), zr 8] μ _
      refine zx_iald_n (j := p + j) (nn := 33) rfl (by omega) (by decide) dX4_isName_32 rfl ?_
      refine zx_aload_n (k := 2) (nn := 34) dX4_isName_33 rfl rfl rfl ?_
      refine zx_iload_n (k := 3) (nn := 35) dX4_isName_34 rfl rfl rfl ?_
      refine zx_callTf (nn := 38) (i := w) (d' := 3) (as := [zi (nI j)]) (rest := [zi (μ 8 (p + j))]) (n := 1) (eJ0_charAt shC σ μ w j hw (by rw [← hn]; exact hlt)) kJ0_charAt_5068e rfl mlX4_105 hw (by decide) rfl rfl (Nat.le_of_ble_eq_true rfl) dX4_isName_35 rfl ?_
      show zX shC σ 4 MX4_isName 38 [(0, zr 7), (1, zi (nI p)), (2, zr (200 + w)), (3, zi (nI j))] [zi ((zBy.getD w []).getD j 0), zi (μ 8 (p + j))] μ _
      refine zx_icmp_eq (tgt := 43) (nn := 41) dX4_isName_38 (by decide) rfl (fun h38 => ?_) (fun h38 => ?_)
      · refine zx_iinc (k := 3) (v := nI (j + 1)) (lv' := [(3, zi (nI (j + 1))), (0, zr 7), (1, zi (nI p)), (2, zr (200 + w))]) (nn := 46) dX4_isName_43 rfl (nI_1 j) (by decide) rfl rfl ?_
        refine zx_goto (tgt := 17) dX4_isName_46 (by decide) ?_
        refine zx_lv (lv' := [(0, zr 7), (1, zi (nI p)), (2, zr (200 + w)), (3, zi (nI (j + 1)))]) [1, 2, 3, 0] rfl ?_
        exact ih17 (j + 1) (show (j + 1) ≤ n ∧ tAll (fun j_ => decide (μ 8 (p + j_) = (zBy.getD w []).getD j_ 0)) (j + 1) = true from ⟨by omega, by show (tAll _ j && decide _) = true; rw [hI.2, decide_eq_true h38]; rfl⟩) (by show n - (j + 1) < n - j; omega)
      · refine zx_iconst (v := 0) (nn := 42) rfl dX4_isName_41 rfl ?_
        refine zx_zret rfl rfl dX4_isName_42 ?_
        refine ⟨congrArg (fun x => some (zi x)) ?_, rfl⟩
        unfold tIs
        rw [tAll_no (m := j) (decide_eq_false h38) hlt, Bool.and_false]
        rfl
  · refine zx_iconst (v := 0) (nn := 14) rfl dX4_isName_13 rfl ?_
    refine zx_zret rfl rfl dX4_isName_14 ?_
    refine ⟨congrArg (fun x => some (zi x)) ?_, rfl⟩
    unfold tIs
    rw [decide_eq_false (fun q => h10 (by rw [q]))]
    rfl
set_option maxHeartbeats 4000000 in
set_option maxRecDepth 100000 in
theorem eX4_wordFrom_7 (σ : zG) (μ : zM) (p : Nat) (n : Nat) (hat : μ 7 6 = nI (p + n)) (hpn : p + n ≤ 200) : zMet shC σ 5 MX4_wordFrom yX4_wordFrom [zr 7, zi (nI p)] μ (fun rr μ' => rr = some (zi (tWord (μ 8) p n)) ∧ μ' = μ) := by
  refine zmetF (by decide +kernel) rfl (Nat.le_of_ble_eq_true rfl) ?_
  show zX shC σ 5 MX4_wordFrom 0 [(0, zr 7), (1, zi (nI p))] [] μ _
  refine zx_iconst (v := 0) (nn := 1) rfl dX4_wordFrom_0 rfl ?_
  refine zx_istore_n (nn := 2) (lv' := [(2, zi 0), (0, zr 7), (1, zi (nI p))]) dX4_wordFrom_1 rfl (by decide) rfl rfl ?_
  refine zx_lv (lv' := [(0, zr 7), (1, zi (nI p)), (2, zi 0)]) [1, 2, 0] rfl ?_
  refine zx_while (τ := Nat) (fun w => 18 - w) (fun w => w ≤ 18 ∧ pFirst (fun w_ => tIs (μ 8) p n w_) 0 18 = pFirst (fun w_ => tIs (μ 8) p n w_) w (18 - w)) (fun w => [(0, zr 7), (1, zi (nI p)), (2, zi (nI w))]) (fun w => μ) (t0 := (0)) (show 0 ≤ 18 ∧ pFirst (fun w_ => tIs (μ 8) p n w_) 0 18 = pFirst (fun w_ => tIs (μ 8) p n w_) 0 (18 - 0) from ⟨Nat.zero_le _, rfl⟩) ?_
  rintro w hI ih2
  replace hI : w ≤ 18 ∧ pFirst (fun w_ => tIs (μ 8) p n w_) 0 18 = pFirst (fun w_ => tIs (μ 8) p n w_) w (18 - w) := hI
  show zX shC σ 5 MX4_wordFrom 2 [(0, zr 7), (1, zi (nI p)), (2, zi (nI w))] [] μ _
  refine zx_iload_n (k := 2) (nn := 3) dX4_wordFrom_2 rfl rfl rfl ?_
  refine zx_bipush (v := 18) (nn := 5) rfl dX4_wordFrom_3 rfl ?_
  refine zx_icmp_ge (tgt := 32) (nn := 8) dX4_wordFrom_5 (by decide) rfl (fun h5 => ?_) (fun h5 => ?_)
  · refine zx_bipush (v := -3) (nn := 34) rfl dX4_wordFrom_32 rfl ?_
    refine zx_iret rfl dX4_wordFrom_34 ?_
    refine ⟨congrArg (fun x => some (zi x)) ?_, rfl⟩
    have hge := nI_le_le (b := 18) h5 (by omega)
    unfold tWord
    rw [hI.2, show 18 - w = 0 by omega]
    rfl
  · have hlt : w < 18 := nI_nle_lt (b := 18) h5 (by omega)
    refine zx_aload_n (k := 0) (nn := 9) dX4_wordFrom_8 rfl rfl rfl ?_
    refine zx_iload_n (k := 1) (nn := 10) dX4_wordFrom_9 rfl rfl rfl ?_
    refine zx_iload_n (k := 2) (nn := 11) dX4_wordFrom_10 rfl rfl rfl ?_
    refine zx_callSf (nn := 14) (d' := 0) (as := [zi (nI w)]) (rest := [zi (nI p), zr 7]) (n := 1) (eX4_nameOf σ μ w  hlt) kX4_nameOf mlX4_93 (by decide) rfl rfl (Nat.le_of_ble_eq_true rfl) dX4_wordFrom_11 rfl ?_
    show zX shC σ 5 MX4_wordFrom 14 [(0, zr 7), (1, zi (nI p)), (2, zi (nI w))] [zr (200 + w), zi (nI p), zr 7] μ _
    refine zx_callVf (nn := 17) (k := 7) (d' := 4) (as := [zi (nI p), zr (200 + w)]) (rest := []) (n := 2) (eX4_isName_7 σ μ p w n hlt hat hpn) kX4_isName mlX4_97 rfl rfl rfl (by decide) rfl rfl (Nat.le_of_ble_eq_true rfl) dX4_wordFrom_14 rfl ?_
    show zX shC σ 5 MX4_wordFrom 17 [(0, zr 7), (1, zi (nI p)), (2, zi (nI w))] [zi (zb (tIs (μ 8) p n w))] μ _
    refine zx_ifb_eq (tgt := 26) (nn := 20) dX4_wordFrom_17 (by decide) rfl (fun h17 => ?_) (fun h17 => ?_)
    · refine zx_iinc (k := 2) (v := nI (w + 1)) (lv' := [(2, zi (nI (w + 1))), (0, zr 7), (1, zi (nI p))]) (nn := 29) dX4_wordFrom_26 rfl (nI_1 w) (by decide) rfl rfl ?_
      refine zx_goto (tgt := 2) dX4_wordFrom_29 (by decide) ?_
      refine zx_lv (lv' := [(0, zr 7), (1, zi (nI p)), (2, zi (nI (w + 1)))]) [1, 2, 0] rfl ?_
      exact ih2 (w + 1) (show (w + 1) ≤ 18 ∧ pFirst (fun w_ => tIs (μ 8) p n w_) 0 18 = pFirst (fun w_ => tIs (μ 8) p n w_) (w + 1) (18 - (w + 1)) from ⟨by omega, by rw [hI.2, pFirst_step hlt, show tIs (μ 8) p n w = false from h17]; rfl⟩) (by show 18 - (w + 1) < 18 - w; omega)
    · refine zx_sipush (v := 256) (nn := 23) rfl dX4_wordFrom_20 rfl ?_
      refine zx_iload_n (k := 2) (nn := 24) dX4_wordFrom_23 rfl rfl rfl ?_
      refine zx_iadd (nn := 25) dX4_wordFrom_24 rfl ?_
      refine zx_iret rfl dX4_wordFrom_25 ?_
      refine ⟨congrArg (fun x => some (zi x)) ?_, rfl⟩
      unfold tWord
      rw [hI.2, pFirst_step hlt, show tIs (μ 8) p n w = true from h17]
      exact nI_add 256 w
