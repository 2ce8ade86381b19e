/-! the reference's reader -/
def gTq (T : Nat → Int32) (len q : Nat) : Int32 := if len ≤ q then 0 else if tL (T q) = true then 1 else if tD (T q) = true then (if 4 < tRun tD T (len - q) q - q then 4 else 2) else 3
def gTk (T : Nat → Int32) (len k : Nat) : Int32 := gTq T len (tS T len k)
/-- the text that it reads -/
def gX (T : Nat → Int32) (len : Nat) : Prop := len ≤ 200 ∧ ∀ j, j < len → 0 ≤ T j ∧ T j ≤ 255
/-- the fields at token k, cc pairs being laid -/
def gS (T : Nat → Int32) (len : Nat) (μ : zM) (k cc : Nat) : Prop := (μ 0 6 = nI len ∧ ∀ j, j < len → μ 5 j = T j) ∧ (μ 0 9 = nI (tS T len k) ∧ μ 0 8 = nI (tP T len (k + 1)) ∧ μ 0 10 = gTk T len k) ∧ (gTk T len k = 2 → μ 0 11 = tV T len k) ∧ (gTk T len k = 3 → μ 0 11 = T (tS T len k)) ∧ (k ≤ len ∧ tS T len k ≤ len ∧ tP T len (k + 1) ≤ len) ∧ μ 0 14 = nI cc
def gL (T : Nat → Int32) (len p : Nat) (μ ν : zM) : Prop := zJ [0] μ ν ∧ (∀ j, j < 8 ∨ 11 < j → ν 0 j = μ 0 j) ∧ ν 0 9 = nI (tSk T len p) ∧ ν 0 8 = nI (tTok T len (tSk T len p)).2.2 ∧ ν 0 10 = gTq T len (tSk T len p) ∧ (gTq T len (tSk T len p) = 2 → ν 0 11 = (tTok T len (tSk T len p)).2.1) ∧ (gTq T len (tSk T len p) = 3 → ν 0 11 = T (tSk T len p))
def gE (μ ν : zM) : Prop := zJ [0, 1] μ ν ∧ (∀ j, j < 8 ∨ 14 < j → ν 0 j = μ 0 j) ∧ ∀ i, i < 111 → ν 1 i = μ 1 i
def gC (μ ν : zM) (cc : Nat) (rs : List (Int32 × Int32)) : Prop := (∀ i, i < 111 + 2 * cc → ν 1 i = μ 1 i) ∧ ∀ j, j < rs.length → ν 1 (111 + 2 * (cc + j)) = (rs.getD j (0, 0)).1 ∧ ν 1 (111 + 2 * (cc + j) + 1) = (rs.getD j (0, 0)).2
def gPs (T : Nat → Int32) (len k cc : Nat) (r : pC) (μ ν : zM) : Prop := gE μ ν ∧ (r.1 = true → gS T len ν r.2.1 (cc + r.2.2.2.length) ∧ gC μ ν cc r.2.2.2 ∧ ν 0 13 = μ 0 13) ∧ (r.1 = false → ν 0 12 = nI (tS T len r.2.1) ∧ ∃ c', ν 0 14 = nI c' ∧ c' + k ≤ cc + r.2.1)
theorem gE.rf {μ : zM} : gE μ μ := ⟨zJ.rf, fun _ _ => rfl, fun _ _ => rfl⟩
theorem gE.tr {μ ν ξ : zM} (h : gE μ ν) (g : gE ν ξ) : gE μ ξ := ⟨h.1.tr g.1, fun j hj => (g.2.1 j hj).trans (h.2.1 j hj), fun i hi => (g.2.2 i hi).trans (h.2.2 i hi)⟩
theorem gE.f {μ : zM} {j : Nat} {v : Int32} (h1 : 8 ≤ j) (h2 : j ≤ 14) : gE μ (zp μ 0 j v) := ⟨zJ.rf.p (by decide), fun i hi => by rw [zp_eq, pk_un (by omega)], fun i _ => by rw [zp_ne (by decide)]⟩
theorem gE.l {T : Nat → Int32} {len p : Nat} {μ ν : zM} (h : gL T len p μ ν) : gE μ ν := ⟨h.1.mono (by decide), fun j hj => h.2.1 j (by omega), fun i _ => by rw [h.1 1 (by decide)]⟩
theorem gC.rf {μ : zM} {cc : Nat} : gC μ μ cc [] := ⟨fun _ _ => rfl, fun j h => absurd h (by simp)⟩
theorem gC.e {μ ν : zM} {cc : Nat} (h : ν 1 = μ 1) : gC μ ν cc [] := ⟨fun i _ => by rw [h], fun j h => absurd h (by simp)⟩
theorem gC.pre {μ m ν : zM} {cc : Nat} {b : List (Int32 × Int32)} (h : m 1 = μ 1) (g : gC m ν cc b) : gC μ ν cc b := ⟨fun i hi => (g.1 i hi).trans (by rw [h]), g.2⟩
theorem gC.post {μ m ν : zM} {cc : Nat} {b : List (Int32 × Int32)} (g : gC μ m cc b) (h : ν 1 = m 1) : gC μ ν cc b := ⟨fun i hi => (by rw [h]; exact g.1 i hi), fun j hj => (by rw [h]; exact g.2 j hj)⟩
theorem getD_l2 {L K : List (Int32 × Int32)} {i : Nat} {d : Int32 × Int32} (h : i < L.length) : (L ++ K).getD i d = L.getD i d := by
  simp only [List.getD_eq_getElem?_getD]
  rw [List.getElem?_append_left h]
theorem getD_r2 {L K : List (Int32 × Int32)} {i : Nat} {d : Int32 × Int32} (h : L.length ≤ i) : (L ++ K).getD i d = K.getD (i - L.length) d := by
  simp only [List.getD_eq_getElem?_getD]
  rw [List.getElem?_append_right h]
theorem gC.app {μ ν ξ : zM} {cc : Nat} {a b : List (Int32 × Int32)} (h : gC μ ν cc a) (g : gC ν ξ (cc + a.length) b) : gC μ ξ cc (a ++ b) := by
  refine ⟨fun i hi => (g.1 i (by omega)).trans (h.1 i hi), fun j hj => ?_⟩
  rw [List.length_append] at hj
  by_cases q : j < a.length
  · rw [g.1 _ (by omega), g.1 _ (by omega), getD_l2 q]
    exact h.2 j q
  · have := g.2 (j - a.length) (by omega)
    rw [show cc + a.length + (j - a.length) = cc + j by omega] at this
    rw [getD_r2 (by omega)]
    exact this
/-- one pair laid -/
abbrev gLay (μ : zM) (cc : Nat) (w v : Int32) : zM := zp (zp (zp μ 1 (111 + 2 * cc) w) 1 (111 + 2 * cc + 1) v) 0 14 (nI (cc + 1))
theorem gC.one {μ : zM} {cc : Nat} {w v : Int32} : gC μ (gLay μ cc w v) cc [(w, v)] := by
  refine ⟨fun i hi => by unfold gLay; rw [zp_ne (by decide), zp_eq, pk_un (by omega), zp_eq, pk_un (by omega)], fun j hj => ?_⟩
  have : j = 0 := by simp at hj; exact hj
  subst this
  unfold gLay
  rw [zp_ne (by decide), zp_eq]
  exact ⟨by rw [pk_un (by omega), zp_eq]; exact pk_us, pk_us⟩
theorem gE.lay {μ : zM} {cc : Nat} {w v : Int32} : gE μ (gLay μ cc w v) := ⟨((zJ.rf.p (by decide)).p (by decide)).p (by decide), fun j hj => by unfold gLay; rw [zp_eq, pk_un (by omega), zp_ne (by decide), zp_ne (by decide)], fun i hi => by unfold gLay; rw [zp_ne (by decide), zp_eq, pk_un (by omega), zp_eq, pk_un (by omega)]⟩
theorem gS.lay {T : Nat → Int32} {len k cc : Nat} {μ : zM} {w v : Int32} (h : gS T len μ k cc) : gS T len (gLay μ cc w v) k (cc + 1) := by
  obtain ⟨⟨h1, h2⟩, ⟨h3, h4, h5⟩, h6, h7, h8, h9⟩ := h
  have e : ∀ j, j ≠ 14 → gLay μ cc w v 0 j = μ 0 j := fun j hj => by unfold gLay; rw [zp_eq, pk_un hj, zp_ne (by decide), zp_ne (by decide)]
  exact ⟨⟨by rw [e 6 (by decide)]; exact h1, fun j hj => by unfold gLay; rw [zp_ne (by decide), zp_ne (by decide), zp_ne (by decide)]; exact h2 j hj⟩, ⟨by rw [e 9 (by decide)]; exact h3, by rw [e 8 (by decide)]; exact h4, by rw [e 10 (by decide)]; exact h5⟩, fun q => by rw [e 11 (by decide)]; exact h6 q, fun q => by rw [e 11 (by decide)]; exact h7 q, h8, by unfold gLay; rw [zp_eq]; exact pk_us⟩
/-- it never goes back; the end stays the end -/
theorem tP_mono {T : Nat → Int32} {len : Nat} {k : Nat} : tP T len k ≤ tS T len k ∧ tS T len k ≤ tP T len (k + 1) := by
  refine ⟨(tRun_le (f := tB) (T := T)).1, ?_⟩
  show tS T len k ≤ (tTok T len (tS T len k)).2.2
  rcases Nat.lt_or_ge (tS T len k) len with q | q
  · exact Nat.le_of_lt (tTok_e q).1
  · unfold tTok; rw [if_pos q]; exact Nat.le_refl _
theorem tK_end {T : Nat → Int32} {len k : Nat} (h : len ≤ tS T len k) : tK T len k = -1 := by
  unfold tK tTok
  rw [if_pos h]
theorem tP_end {T : Nat → Int32} {len k : Nat} (h : len ≤ tP T len k) : len ≤ tS T len k := Nat.le_trans h tP_mono.1
theorem tP_ge {T : Nat → Int32} {len : Nat} : ∀ {k : Nat}, ¬ len ≤ tP T len k → k ≤ tP T len k
  | 0, _ => Nat.zero_le _
  | k + 1, h => by
    have h1 : ¬ len ≤ tS T len k := fun q => h (Nat.le_trans q tP_mono.2)
    have h2 : ¬ len ≤ tP T len k := fun q => h1 (tP_end q)
    have h3 := tP_ge h2
    have h4 := (tTok_e (T := T) (Nat.lt_of_not_le h1)).1
    have h5 := (tP_mono (T := T) (len := len) (k := k)).1
    show k + 1 ≤ (tTok T len (tS T len k)).2.2
    omega
theorem tK_n1 {T : Nat → Int32} {len k : Nat} (h : tK T len k ≠ -1) : k + 1 ≤ tP T len (k + 1) := by
  have h1 : ¬ len ≤ tS T len k := fun q => h (tK_end q)
  have h2 : ¬ len ≤ tP T len k := fun q => h1 (tP_end q)
  have h3 := tP_ge h2
  have h4 := (tTok_e (T := T) (Nat.lt_of_not_le h1)).1
  have h5 := (tP_mono (T := T) (len := len) (k := k)).1
  show k + 1 ≤ (tTok T len (tS T len k)).2.2
  omega
theorem tK_len {T : Nat → Int32} {len : Nat} : tK T len len = -1 := by
  by_cases h : len ≤ tP T len len
  · exact tK_end (tP_end h)
  · exact absurd (tP_ge h) h
/-- the next token is looked up -/
theorem gS.look {T : Nat → Int32} {len k cc : Nat} {μ m ν : zM} (h : gS T len μ k cc) (hk : tK T len k ≠ -1) (hm : m = μ) (g : gL T len (tP T len (k + 1)) m ν) : gS T len ν (k + 1) cc := by
  subst hm
  obtain ⟨⟨h1, h2⟩, ⟨h3, h4, h5⟩, h6, h7, h8, h9⟩ := h
  obtain ⟨g1, g2, g3, g4, g5, g6, g7⟩ := g
  have h11 := tK_n1 hk
  have h12 : tS T len (k + 1) ≤ len := tS_le h8.2.2
  exact ⟨⟨(g2 6 (by omega)).trans h1, fun j hj => by rw [g1 5 (by decide)]; exact h2 j hj⟩, ⟨g3, g4, g5⟩, g6, g7, ⟨by omega, h12, tP_le (k + 1 + 1)⟩, (g2 14 (by omega)).trans h9⟩
/-! tokens and their kinds -/
theorem K_3 {T : Nat → Int32} {len k : Nat} (h : gTk T len k = 3) : tK T len k = T (tS T len k) := by
  unfold gTk gTq at h
  unfold tK tTok
  by_cases a : len ≤ tS T len k
  · rw [if_pos a] at h; exact absurd h (by decide)
  · rw [if_neg a] at h ⊢
    by_cases b : tL (T (tS T len k)) = true
    · rw [if_pos b] at h; exact absurd h (by decide)
    · rw [if_neg b] at h ⊢
      by_cases c : tD (T (tS T len k)) = true
      · rw [if_pos c] at h
        split at h <;> exact absurd h (by decide)
      · rw [if_neg c]
theorem word_c (T : Nat → Int32) (p n : Nat) : tWord T p n = -3 ∨ ∃ w, w < 18 ∧ tWord T p n = nI (256 + w) := by
  unfold tWord
  have hb : ∀ {f : Nat → Bool} {m k w : Nat}, pFirst f k m = some w → w < k + m := by
    intro f m
    induction m with
    | zero => intro k w e; exact absurd e (by simp [pFirst])
    | succ m ih =>
      intro k w e
      have e2 : (if f k then some k else pFirst f (k + 1) m) = some w := e
      split at e2
      · cases e2; omega
      · have := ih e2; omega
  cases q : pFirst (fun w => tIs T p n w) 0 18 with
  | none => exact Or.inl rfl
  | some w => exact Or.inr ⟨w, by have := hb q; omega, rfl⟩
theorem K_n3 {T : Nat → Int32} {len k : Nat} (h : ¬ gTk T len k = 3) : tK T len k = -1 ∨ tK T len k = -2 ∨ tK T len k = -3 ∨ ∃ w, w < 18 ∧ tK T len k = nI (256 + w) := by
  unfold gTk gTq at h
  unfold tK tTok
  by_cases a : len ≤ tS T len k
  · rw [if_pos a]; exact Or.inl rfl
  · rw [if_neg a] at h ⊢
    by_cases b : tL (T (tS T len k)) = true
    · rw [if_pos b]
      exact (word_c T _ _).elim (fun q => Or.inr (Or.inr (Or.inl q))) (fun q => Or.inr (Or.inr (Or.inr q)))
    · rw [if_neg b] at h ⊢
      by_cases c : tD (T (tS T len k)) = true
      · rw [if_pos c]
        by_cases d : 4 < tRun tD T (len - tS T len k) (tS T len k) - tS T len k
        · rw [if_pos d]; exact Or.inr (Or.inr (Or.inl rfl))
        · rw [if_neg d]; exact Or.inr (Or.inl rfl)
      · rw [if_neg c] at h; exact absurd rfl h
theorem K_sign {T : Nat → Int32} {len k : Nat} {c : Int32} (hc : 0 ≤ c ∧ c ≤ 255) : (decide (gTk T len k = 3) && decide (T (tS T len k) = c)) = decide (tK T len k = c) := by
  by_cases h : gTk T len k = 3
  · rw [decide_eq_true h, K_3 h, Bool.true_and]
  · rw [decide_eq_false h, Bool.false_and]
    refine (decide_eq_false (fun q => ?_)).symm
    rw [Int32.le_iff_toInt_le, Int32.le_iff_toInt_le, zt0, show (255 : Int32).toInt = 255 by decide +kernel] at hc
    rcases K_n3 h with e | e | e | ⟨w, hw, e⟩
    · rw [← q, e, ztm1] at hc; omega
    · rw [← q, e, ztm2] at hc; omega
    · rw [← q, e, show (-3 : Int32).toInt = -3 by decide +kernel] at hc; omega
    · rw [← q, e, nI_toInt (by omega)] at hc; omega
theorem K_2 {T : Nat → Int32} {len k : Nat} (hX : gX T len) : gTk T len k = 2 ↔ tK T len k = -2 := by
  unfold gTk gTq tK tTok
  by_cases a : len ≤ tS T len k
  · rw [if_pos a, if_pos a]; exact ⟨fun h => absurd h (by decide), fun h => absurd h (by show ¬ (-1 : Int32) = -2; decide)⟩
  · rw [if_neg a, if_neg a]
    by_cases b : tL (T (tS T len k)) = true
    · rw [if_pos b, if_pos b]
      refine ⟨fun h => absurd h (by decide), fun h => ?_⟩
      rcases word_c T (tS T len k) (tRun tL T (len - tS T len k) (tS T len k) - tS T len k) with e | ⟨w, hw, e⟩
      · rw [e] at h; exact absurd (show (-3 : Int32) = -2 from h) (by decide)
      · rw [e] at h
        have := congrArg Int32.toInt (show nI (256 + w) = -2 from h)
        rw [nI_toInt (by omega), ztm2] at this
        omega
    · rw [if_neg b, if_neg b]
      by_cases c : tD (T (tS T len k)) = true
      · rw [if_pos c, if_pos c]
        by_cases d : 4 < tRun tD T (len - tS T len k) (tS T len k) - tS T len k
        · rw [if_pos d, if_pos d]; exact ⟨fun h => absurd h (by decide), fun h => absurd h (by show ¬ (-3 : Int32) = -2; decide)⟩
        · rw [if_neg d, if_neg d]; exact ⟨fun _ => rfl, fun _ => rfl⟩
      · rw [if_neg c, if_neg c]
        refine ⟨fun h => absurd h (by decide), fun h => ?_⟩
        have := (hX.2 _ (Nat.lt_of_not_le a)).1
        rw [show T (tS T len k) = -2 from h] at this
        exact absurd this (by decide)
theorem K_0 {T : Nat → Int32} {len k : Nat} (hX : gX T len) : gTk T len k = 0 ↔ tK T len k = -1 := by
  by_cases a : len ≤ tS T len k
  · unfold gTk gTq
    rw [if_pos a, tK_end a]
    exact ⟨fun _ => rfl, fun _ => rfl⟩
  · refine ⟨fun h => ?_, fun h => absurd h (tTok_k (Nat.lt_of_not_le a) (hX.2 _ (Nat.lt_of_not_le a)).1)⟩
    unfold gTk gTq at h
    rw [if_neg a] at h
    split at h
    · exact absurd h (by decide)
    · split at h
      · split at h <;> exact absurd h (by decide)
      · exact absurd h (by decide)
theorem is_u : ∀ w, w < 18 → ∀ v, v < 18 → zLn.getD w 0 = zLn.getD v 0 → (∀ j, j < zLn.getD w 0 → (zBy.getD w []).getD j 0 = (zBy.getD v []).getD j 0) → w = v := by decide +kernel
theorem tAll_at {f : Nat → Bool} : ∀ {n j : Nat}, tAll f n = true → j < n → f j = true
  | 0, j, _, h => absurd h (by omega)
  | n + 1, j, h, hj => by
    have h2 : (tAll f n && f n) = true := h
    rw [Bool.and_eq_true] at h2
    rcases Nat.lt_or_ge j n with q | q
    · exact tAll_at h2.1 q
    · rw [show j = n by omega]; exact h2.2
theorem tIs_u {T : Nat → Int32} {p n w v : Nat} (hw : w < 18) (hv : v < 18) (h : tIs T p n w = true) (g : tIs T p n v = true) : w = v := by
  unfold tIs at h g
  rw [Bool.and_eq_true, decide_eq_true_eq] at h g
  refine is_u w hw v hv (h.1.symm.trans g.1) (fun j hj => ?_)
  rw [← h.1] at hj
  rw [← of_decide_eq_true (tAll_at h.2 hj), ← of_decide_eq_true (tAll_at g.2 hj)]
theorem pFirst_is {f : Nat → Bool} : ∀ {m k w : Nat}, pFirst f k m = some w → f w = true ∧ w < k + m
  | 0, k, w, e => absurd e (by simp [pFirst])
  | m + 1, k, w, e => by
    have e2 : (if f k then some k else pFirst f (k + 1) m) = some w := e
    split at e2
    · rename_i q; cases e2; exact ⟨q, by omega⟩
    · have := pFirst_is e2; exact ⟨this.1, by omega⟩
theorem pFirst_no {f : Nat → Bool} : ∀ {m k : Nat}, pFirst f k m = none → ∀ w, k ≤ w → w < k + m → f w = false
  | 0, k, _, w, h1, h2 => absurd h2 (by omega)
  | m + 1, k, e, w, h1, h2 => by
    have e2 : (if f k then some k else pFirst f (k + 1) m) = none := e
    split at e2
    · cases e2
    · rename_i q
      by_cases z : w = k
      · rw [z]; cases r : f k with
        | true => exact absurd r q
        | false => rfl
      · exact pFirst_no e2 w (by omega) (by omega)
theorem is_K {T : Nat → Int32} {len k w : Nat} (hX : gX T len) (hw : w < 18) : (decide (gTk T len k = 1) && tIs T (tS T len k) (tP T len (k + 1) - tS T len k) w) = decide (tK T len k = nI (256 + w)) := by
  by_cases h : gTk T len k = 1
  · rw [decide_eq_true h, Bool.true_and]
    unfold gTk gTq at h
    by_cases a : len ≤ tS T len k
    · rw [if_pos a] at h; exact absurd h (by decide)
    · rw [if_neg a] at h
      by_cases b : tL (T (tS T len k)) = true
      · have e1 : tK T len k = tWord T (tS T len k) (tP T len (k + 1) - tS T len k) := by
          show (tTok T len (tS T len k)).1 = tWord T (tS T len k) ((tTok T len (tS T len k)).2.2 - tS T len k)
          unfold tTok
          rw [if_neg a, if_pos b]
        rw [e1]
        unfold tWord
        cases q : pFirst (fun w => tIs T (tS T len k) (tP T len (k + 1) - tS T len k) w) 0 18 with
        | none =>
          have := pFirst_no q w (Nat.zero_le _) (by omega)
          rw [this]
          refine (decide_eq_false (fun z => ?_)).symm
          have := congrArg Int32.toInt z
          rw [nI_toInt (by omega), show (-3 : Int32).toInt = -3 by decide +kernel] at this
          omega
        | some v =>
          have hv := pFirst_is q
          by_cases e : v = w
          · subst e
            rw [hv.1]
            exact (decide_eq_true rfl).symm
          · have h1 : tIs T (tS T len k) (tP T len (k + 1) - tS T len k) w = false := by
              cases r : tIs T (tS T len k) (tP T len (k + 1) - tS T len k) w with
              | true => exact absurd (tIs_u (by omega) hw hv.1 r) e
              | false => rfl
            rw [h1]
            refine (decide_eq_false (fun z => e ?_)).symm
            have := (nI_eq (by omega) (by omega)).mp z
            omega
      · rw [if_neg b] at h
        split at h
        · split at h <;> exact absurd h (by decide)
        · exact absurd h (by decide)
  · rw [decide_eq_false h, Bool.false_and]
    refine (decide_eq_false (fun q => h ?_)).symm
    have ht := congrArg Int32.toInt q
    rw [nI_toInt (by omega)] at ht
    have hs : ¬ len ≤ tS T len k := fun z => by rw [tK_end z, ztm1] at ht; omega
    unfold gTk gTq
    rw [if_neg hs]
    by_cases b : tL (T (tS T len k)) = true
    · rw [if_pos b]
    · exfalso
      have hT := hX.2 _ (Nat.lt_of_not_le hs)
      rw [Int32.le_iff_toInt_le, Int32.le_iff_toInt_le, zt0, show (255 : Int32).toInt = 255 by decide +kernel] at hT
      have e1 : tK T len k = (if tD (T (tS T len k)) = true then (if 4 < tRun tD T (len - tS T len k) (tS T len k) - tS T len k then -3 else -2) else T (tS T len k)) := by
        unfold tK tTok
        rw [if_neg hs, if_neg b]
        split <;> rfl
      rw [e1] at ht
      split at ht
      · split at ht
        · rw [show (-3 : Int32).toInt = -3 by decide +kernel] at ht; omega
        · rw [ztm2] at ht; omega
      · omega
theorem tAll_mono {f : Nat → Bool} {m : Nat} : ∀ {n : Nat}, tAll f m = false → m ≤ n → tAll f n = false
  | 0, h, q => by rw [show m = 0 by omega] at h; exact h
  | n + 1, h, q => by
    rcases Nat.lt_or_ge n m with r | r
    · rw [show n + 1 = m by omega]; exact h
    · show (tAll f n && f n) = false
      rw [tAll_mono h r]; rfl
set_option maxHeartbeats 4000000 in
set_option maxRecDepth 100000 in
theorem eX11_isLetter_0 (σ : zG) (μ : zM) (k : Nat) (len : Nat) (hl : μ 0 6 = nI len) (hlen : len ≤ 200) (hk : k ≤ 200) : zMet shR σ 0 MX11_isLetter yX11_isLetter [zr 0, zi (nI k)] μ (fun rr μ' => rr = some (zi (zb (decide (k < len) && tL (μ 5 k)))) ∧ μ' = μ) := by
  refine zmetF (by decide +kernel) rfl (Nat.le_of_ble_eq_true rfl) ?_
  show zX shR σ 0 MX11_isLetter 0 [(0, zr 0), (1, zi (nI k))] [] μ _
  refine zx_iload_n (k := 1) (nn := 1) dX11_isLetter_0 rfl rfl rfl ?_
  refine zx_aload_n (k := 0) (nn := 2) dX11_isLetter_1 rfl rfl rfl ?_
  refine zx_getI (nn := 5) flX11_155 rfl rfl dX11_isLetter_2 rfl ?_
  rw [show μ 0 6 = nI len from hl]
  show zX shR σ 0 MX11_isLetter 5 [(0, zr 0), (1, zi (nI k))] [zi (nI len), zi (nI k)] μ _
  refine zx_icmp_ge (tgt := 34) (nn := 8) dX11_isLetter_5 (by decide) rfl (fun h5 => ?_) (fun h5 => ?_)
  · refine zx_iconst (v := 0) (nn := 35) rfl dX11_isLetter_34 rfl ?_
    refine zx_zret rfl rfl dX11_isLetter_35 ?_
    refine ⟨congrArg (fun x => some (zi x)) ?_, rfl⟩
    have hge := nI_le_le h5 (by omega)
    rw [decide_eq_false (by omega)]
    rfl
  · have hlt : k < len := nI_nle_lt h5 (by omega)
    refine zx_aload_n (k := 0) (nn := 9) dX11_isLetter_8 rfl rfl rfl ?_
    refine zx_getR (q := 5) (nn := 12) flX11_22 rfl rfl dX11_isLetter_9 rfl ?_
    refine zx_iload_n (k := 1) (nn := 13) dX11_isLetter_12 rfl rfl rfl ?_
    refine zx_iald_n (j := k) (nn := 14) rfl (by omega) (by decide) dX11_isLetter_13 rfl ?_
    refine zx_bipush (v := 97) (nn := 16) rfl dX11_isLetter_14 rfl ?_
    refine zx_icmp_lt (tgt := 34) (nn := 19) dX11_isLetter_16 (by decide) rfl (fun h16 => ?_) (fun h16 => ?_)
    · refine zx_iconst (v := 0) (nn := 35) rfl dX11_isLetter_34 rfl ?_
      refine zx_zret rfl rfl dX11_isLetter_35 ?_
      refine ⟨congrArg (fun x => some (zi x)) ?_, rfl⟩
      have hlt : k < len := nI_nle_lt h5 (by omega)
      rw [decide_eq_true hlt]
      unfold tL pIn
      rw [decide_eq_false (Int32.not_le.mpr h16)]
      rfl
    · refine zx_aload_n (k := 0) (nn := 20) dX11_isLetter_19 rfl rfl rfl ?_
      refine zx_getR (q := 5) (nn := 23) flX11_22 rfl rfl dX11_isLetter_20 rfl ?_
      refine zx_iload_n (k := 1) (nn := 24) dX11_isLetter_23 rfl rfl rfl ?_
      refine zx_iald_n (j := k) (nn := 25) rfl (by omega) (by decide) dX11_isLetter_24 rfl ?_
      refine zx_bipush (v := 122) (nn := 27) rfl dX11_isLetter_25 rfl ?_
      refine zx_icmp_gt (tgt := 34) (nn := 30) dX11_isLetter_27 (by decide) rfl (fun h27 => ?_) (fun h27 => ?_)
      · refine zx_iconst (v := 0) (nn := 35) rfl dX11_isLetter_34 rfl ?_
        refine zx_zret rfl rfl dX11_isLetter_35 ?_
        refine ⟨congrArg (fun x => some (zi x)) ?_, rfl⟩
        have hlt : k < len := nI_nle_lt h5 (by omega)
        rw [decide_eq_true hlt]
        unfold tL pIn
        rw [decide_eq_true (Int32.not_lt.mp h16), decide_eq_false (Int32.not_le.mpr h27)]
        rfl
      · refine zx_iconst (v := 1) (nn := 31) rfl dX11_isLetter_30 rfl ?_
        refine zx_goto (tgt := 35) dX11_isLetter_31 (by decide) ?_
        refine zx_zret rfl rfl dX11_isLetter_35 ?_
        refine ⟨congrArg (fun x => some (zi x)) ?_, rfl⟩
        have hlt : k < len := nI_nle_lt h5 (by omega)
        rw [decide_eq_true hlt]
        unfold tL pIn
        rw [decide_eq_true (Int32.not_lt.mp h16), decide_eq_true (Int32.not_lt.mp h27)]
        rfl
set_option maxHeartbeats 4000000 in
set_option maxRecDepth 100000 in
theorem eX11_isDigit_0 (σ : zG) (μ : zM) (k : Nat) (len : Nat) (hl : μ 0 6 = nI len) (hlen : len ≤ 200) (hk : k ≤ 200) : zMet shR σ 0 MX11_isDigit yX11_isDigit [zr 0, zi (nI k)] μ (fun rr μ' => rr = some (zi (zb (decide (k < len) && tD (μ 5 k)))) ∧ μ' = μ) := by
  refine zmetF (by decide +kernel) rfl (Nat.le_of_ble_eq_true rfl) ?_
  show zX shR σ 0 MX11_isDigit 0 [(0, zr 0), (1, zi (nI k))] [] μ _
  refine zx_iload_n (k := 1) (nn := 1) dX11_isDigit_0 rfl rfl rfl ?_
  refine zx_aload_n (k := 0) (nn := 2) dX11_isDigit_1 rfl rfl rfl ?_
  refine zx_getI (nn := 5) flX11_155 rfl rfl dX11_isDigit_2 rfl ?_
  rw [show μ 0 6 = nI len from hl]
  show zX shR σ 0 MX11_isDigit 5 [(0, zr 0), (1, zi (nI k))] [zi (nI len), zi (nI k)] μ _
  refine zx_icmp_ge (tgt := 34) (nn := 8) dX11_isDigit_5 (by decide) rfl (fun h5 => ?_) (fun h5 => ?_)
  · refine zx_iconst (v := 0) (nn := 35) rfl dX11_isDigit_34 rfl ?_
    refine zx_zret rfl rfl dX11_isDigit_35 ?_
    refine ⟨congrArg (fun x => some (zi x)) ?_, rfl⟩
    have hge := nI_le_le h5 (by omega)
    rw [decide_eq_false (by omega)]
    rfl
  · have hlt : k < len := nI_nle_lt h5 (by omega)
    refine zx_aload_n (k := 0) (nn := 9) dX11_isDigit_8 rfl rfl rfl ?_
    refine zx_getR (q := 5) (nn := 12) flX11_22 rfl rfl dX11_isDigit_9 rfl ?_
    refine zx_iload_n (k := 1) (nn := 13) dX11_isDigit_12 rfl rfl rfl ?_
    refine zx_iald_n (j := k) (nn := 14) rfl (by omega) (by decide) dX11_isDigit_13 rfl ?_
    refine zx_bipush (v := 48) (nn := 16) rfl dX11_isDigit_14 rfl ?_
    refine zx_icmp_lt (tgt := 34) (nn := 19) dX11_isDigit_16 (by decide) rfl (fun h16 => ?_) (fun h16 => ?_)
    · refine zx_iconst (v := 0) (nn := 35) rfl dX11_isDigit_34 rfl ?_
      refine zx_zret rfl rfl dX11_isDigit_35 ?_
      refine ⟨congrArg (fun x => some (zi x)) ?_, rfl⟩
      have hlt : k < len := nI_nle_lt h5 (by omega)
      rw [decide_eq_true hlt]
      unfold tD pIn
      rw [decide_eq_false (Int32.not_le.mpr h16)]
      rfl
    · refine zx_aload_n (k := 0) (nn := 20) dX11_isDigit_19 rfl rfl rfl ?_
      refine zx_getR (q := 5) (nn := 23) flX11_22 rfl rfl dX11_isDigit_20 rfl ?_
      refine zx_iload_n (k := 1) (nn := 24) dX11_isDigit_23 rfl rfl rfl ?_
      refine zx_iald_n (j := k) (nn := 25) rfl (by omega) (by decide) dX11_isDigit_24 rfl ?_
      refine zx_bipush (v := 57) (nn := 27) rfl dX11_isDigit_25 rfl ?_
      refine zx_icmp_gt (tgt := 34) (nn := 30) dX11_isDigit_27 (by decide) rfl (fun h27 => ?_) (fun h27 => ?_)
      · refine zx_iconst (v := 0) (nn := 35) rfl dX11_isDigit_34 rfl ?_
        refine zx_zret rfl rfl dX11_isDigit_35 ?_
        refine ⟨congrArg (fun x => some (zi x)) ?_, rfl⟩
        have hlt : k < len := nI_nle_lt h5 (by omega)
        rw [decide_eq_true hlt]
        unfold tD pIn
        rw [decide_eq_true (Int32.not_lt.mp h16), decide_eq_false (Int32.not_le.mpr h27)]
        rfl
      · refine zx_iconst (v := 1) (nn := 31) rfl dX11_isDigit_30 rfl ?_
        refine zx_goto (tgt := 35) dX11_isDigit_31 (by decide) ?_
        refine zx_zret rfl rfl dX11_isDigit_35 ?_
        refine ⟨congrArg (fun x => some (zi x)) ?_, rfl⟩
        have hlt : k < len := nI_nle_lt h5 (by omega)
        rw [decide_eq_true hlt]
        unfold tD pIn
        rw [decide_eq_true (Int32.not_lt.mp h16), decide_eq_true (Int32.not_lt.mp h27)]
        rfl
set_option maxHeartbeats 4000000 in
set_option maxRecDepth 100000 in
theorem eX11_look_0 (σ : zG) (μ : zM) (T : Nat → Int32) (len p0 : Nat) (hl : μ 0 6 = nI len) (hlen : len ≤ 200) (hat : μ 0 8 = nI p0) (hp0 : p0 ≤ len) (hT : ∀ j, j < len → μ 5 j = T j) : zMet shR σ 1 MX11_look yX11_look [zr 0] μ (fun rr μ' => rr = none ∧ gL T len p0 μ μ') := by
  refine zmetF (by decide +kernel) rfl (Nat.le_of_ble_eq_true rfl) ?_
  show zX shR σ 1 MX11_look 0 [(0, zr 0)] [] μ _
  refine zx_lv (lv' := [(0, zr 0)]) [0] rfl ?_
  refine zx_while (τ := Nat × zM) (fun t_ => len - t_.1) (fun t_ => (p0 ≤ t_.1 ∧ t_.1 ≤ len) ∧ tSk T len p0 = tSk T len t_.1 ∧ zJ [0] μ t_.2 ∧ (∀ j, j ≠ 8 → t_.2 0 j = μ 0 j) ∧ t_.2 0 8 = nI t_.1) (fun t_ => [(0, zr 0)]) (fun t_ => t_.2) (t0 := (p0, μ)) (show (p0 ≤ p0 ∧ p0 ≤ len) ∧ tSk T len p0 = tSk T len p0 ∧ zJ [0] μ μ ∧ (∀ j, j ≠ 8 → μ 0 j = μ 0 j) ∧ μ 0 8 = nI p0 from ⟨⟨Nat.le_refl _, hp0⟩, rfl, zJ.rf, fun _ _ => rfl, hat⟩) ?_
  rintro ⟨p, μ1⟩ hI ih0
  replace hI : (p0 ≤ p ∧ p ≤ len) ∧ tSk T len p0 = tSk T len p ∧ zJ [0] μ μ1 ∧ (∀ j, j ≠ 8 → μ1 0 j = μ 0 j) ∧ μ1 0 8 = nI p := hI
  show zX shR σ 1 MX11_look 0 [(0, zr 0)] [] μ1 _
  obtain ⟨b1, b2, b3, b4, b5⟩ := hI
  have e5 : μ1 5 = μ 5 := b3 5 (by decide)
  have e6 : μ1 0 6 = nI len := (b4 6 (by decide)).trans hl
  refine zx_aload_n (k := 0) (nn := 1) dX11_look_0 rfl rfl rfl ?_
  refine zx_getI (nn := 4) flX11_161 rfl rfl dX11_look_1 rfl ?_
  rw [show μ1 0 8 = nI p from b5]
  show zX shR σ 1 MX11_look 4 [(0, zr 0)] [zi (nI p)] μ1 _
  refine zx_aload_n (k := 0) (nn := 5) dX11_look_4 rfl rfl rfl ?_
  refine zx_getI (nn := 8) flX11_155 rfl rfl dX11_look_5 rfl ?_
  rw [show μ1 0 6 = nI len from e6]
  show zX shR σ 1 MX11_look 8 [(0, zr 0)] [zi (nI len), zi (nI p)] μ1 _
  refine zx_icmp_ge (tgt := 38) (nn := 11) dX11_look_8 (by decide) rfl (fun h8 => ?_) (fun h8 => ?_)
  · have hge : len ≤ p := nI_le_le h8 (by omega)
    have hq : tSk T len p0 = p := b2.trans (tSk_e hge)
    refine zx_aload_n (k := 0) (nn := 39) dX11_look_38 rfl rfl rfl ?_
    refine zx_aload_n (k := 0) (nn := 40) dX11_look_39 rfl rfl rfl ?_
    refine zx_getI (nn := 43) flX11_161 rfl rfl dX11_look_40 rfl ?_
    rw [show μ1 0 8 = nI p from b5]
    show zX shR σ 1 MX11_look 43 [(0, zr 0)] [zi (nI p), zr 0] μ1 _
    refine zx_putI (nn := 46) fpX11_164 rfl rfl rfl rfl dX11_look_43 rfl ?_
    refine zx_aload_n (k := 0) (nn := 47) dX11_look_46 rfl rfl rfl ?_
    refine zx_getI (nn := 50) flX11_161 rfl rfl dX11_look_47 rfl ?_
    show zX shR σ 1 MX11_look 50 [(0, zr 0)] [zi (μ1 0 8)] (zp μ1 0 9 (nI p)) _
    rw [show μ1 0 8 = nI p from b5]
    show zX shR σ 1 MX11_look 50 [(0, zr 0)] [zi (nI p)] (zp μ1 0 9 (nI p)) _
    refine zx_aload_n (k := 0) (nn := 51) dX11_look_50 rfl rfl rfl ?_
    refine zx_getI (nn := 54) flX11_155 rfl rfl dX11_look_51 rfl ?_
    show zX shR σ 1 MX11_look 54 [(0, zr 0)] [zi (μ1 0 6), zi (nI p)] (zp μ1 0 9 (nI p)) _
    rw [show μ1 0 6 = nI len from by first | exact e6 | (rw [zp_eq, pk_un (by decide)]; exact e6)]
    show zX shR σ 1 MX11_look 54 [(0, zr 0)] [zi (nI len), zi (nI p)] (zp μ1 0 9 (nI p)) _
    refine zx_icmp_ne (tgt := 65) (nn := 57) dX11_look_54 (by decide) rfl (fun h54 => ?_) (fun h54 => ?_)
    · exact absurd ((nI_eq (by omega) (by omega)).mpr (show p = len by omega)) h54
    · refine zx_aload_n (k := 0) (nn := 58) dX11_look_57 rfl rfl rfl ?_
      refine zx_iconst (v := 0) (nn := 59) rfl dX11_look_58 rfl ?_
      refine zx_putI (nn := 62) fpX11_167 rfl rfl rfl rfl dX11_look_59 rfl ?_
      refine zx_goto (tgt := 242) dX11_look_62 (by decide) ?_
      refine zx_vret rfl dX11_look_242 ?_
      have hz : gTq T len p = 0 := by unfold gTq; rw [if_pos (by omega)]
      unfold gL
      rw [hq, hz]
      refine ⟨rfl, (b3.p (by decide)).p (by decide), fun j hj => by rw [zp_eq, pk_un (by omega), zp_eq, pk_un (by omega)]; exact b4 j (by omega), by rw [zp_eq, pk_un (by decide), zp_eq]; exact pk_us, by rw [zp_eq, pk_un (by decide), zp_eq, pk_un (by decide)]; unfold tTok; rw [if_pos (by omega)]; exact b5, by rw [zp_eq]; exact pk_us, fun h => absurd h (by decide), fun h => absurd h (by decide)⟩
  · have hlt : p < len := nI_nle_lt h8 (by omega)
    refine zx_aload_n (k := 0) (nn := 12) dX11_look_11 rfl rfl rfl ?_
    refine zx_getR (q := 5) (nn := 15) flX11_22 rfl rfl dX11_look_12 rfl ?_
    refine zx_aload_n (k := 0) (nn := 16) dX11_look_15 rfl rfl rfl ?_
    refine zx_getI (nn := 19) flX11_161 rfl rfl dX11_look_16 rfl ?_
    rw [show μ1 0 8 = nI p from b5]
    show zX shR σ 1 MX11_look 19 [(0, zr 0)] [zi (nI p), zr 5] μ1 _
    refine zx_iald_n (j := p) (nn := 20) rfl (by omega) (by decide) dX11_look_19 rfl ?_
    rw [show μ1 5 p = T p from by rw [e5]; exact hT p hlt]
    show zX shR σ 1 MX11_look 20 [(0, zr 0)] [zi (T p)] μ1 _
    refine zx_bipush (v := 32) (nn := 22) rfl dX11_look_20 rfl ?_
    refine zx_icmp_ne (tgt := 38) (nn := 25) dX11_look_22 (by decide) rfl (fun h22 => ?_) (fun h22 => ?_)
    · have hq : tSk T len p0 = p := b2.trans (tSk_n h22)
      refine zx_aload_n (k := 0) (nn := 39) dX11_look_38 rfl rfl rfl ?_
      refine zx_aload_n (k := 0) (nn := 40) dX11_look_39 rfl rfl rfl ?_
      refine zx_getI (nn := 43) flX11_161 rfl rfl dX11_look_40 rfl ?_
      rw [show μ1 0 8 = nI p from b5]
      show zX shR σ 1 MX11_look 43 [(0, zr 0)] [zi (nI p), zr 0] μ1 _
      refine zx_putI (nn := 46) fpX11_164 rfl rfl rfl rfl dX11_look_43 rfl ?_
      refine zx_aload_n (k := 0) (nn := 47) dX11_look_46 rfl rfl rfl ?_
      refine zx_getI (nn := 50) flX11_161 rfl rfl dX11_look_47 rfl ?_
      show zX shR σ 1 MX11_look 50 [(0, zr 0)] [zi (μ1 0 8)] (zp μ1 0 9 (nI p)) _
      rw [show μ1 0 8 = nI p from b5]
      show zX shR σ 1 MX11_look 50 [(0, zr 0)] [zi (nI p)] (zp μ1 0 9 (nI p)) _
      refine zx_aload_n (k := 0) (nn := 51) dX11_look_50 rfl rfl rfl ?_
      refine zx_getI (nn := 54) flX11_155 rfl rfl dX11_look_51 rfl ?_
      show zX shR σ 1 MX11_look 54 [(0, zr 0)] [zi (μ1 0 6), zi (nI p)] (zp μ1 0 9 (nI p)) _
      rw [show μ1 0 6 = nI len from by first | exact e6 | (rw [zp_eq, pk_un (by decide)]; exact e6)]
      show zX shR σ 1 MX11_look 54 [(0, zr 0)] [zi (nI len), zi (nI p)] (zp μ1 0 9 (nI p)) _
      refine zx_icmp_ne (tgt := 65) (nn := 57) dX11_look_54 (by decide) rfl (fun h54 => ?_) (fun h54 => ?_)
      · have hplt : p < len := by have : p ≠ len := fun q => h54 (by rw [q]); omega
        refine zx_aload_n (k := 0) (nn := 66) dX11_look_65 rfl rfl rfl ?_
        refine zx_aload_n (k := 0) (nn := 67) dX11_look_66 rfl rfl rfl ?_
        refine zx_getI (nn := 70) flX11_161 rfl rfl dX11_look_67 rfl ?_
        show zX shR σ 1 MX11_look 70 [(0, zr 0)] [zi (μ1 0 8), zr 0] (zp μ1 0 9 (nI p)) _
        rw [show μ1 0 8 = nI p from b5]
        show zX shR σ 1 MX11_look 70 [(0, zr 0)] [zi (nI p), zr 0] (zp μ1 0 9 (nI p)) _
        refine zx_callVf (nn := 73) (k := 0) (d' := 0) (as := [zi (nI p)]) (rest := []) (n := 1) (eX11_isLetter_0 σ (zp μ1 0 9 (nI p)) p len (by rw [zp_eq, pk_un (by decide)]; exact e6) hlen (by omega)) kX11_isLetter mlX11_170 rfl rfl rfl (by decide) rfl rfl (Nat.le_of_ble_eq_true rfl) dX11_look_70 rfl ?_
        show zX shR σ 1 MX11_look 73 [(0, zr 0)] [zi (zb (decide (p < len) && tL ((zp μ1 0 9 (nI p)) 5 p)))] (zp μ1 0 9 (nI p)) _
        rw [show zb (decide (p < len) && tL ((zp μ1 0 9 (nI p)) 5 p)) = zb (tL (T p)) from by rw [zp_ne (by decide), e5, hT p hplt, decide_eq_true hplt, Bool.true_and]]
        show zX shR σ 1 MX11_look 73 [(0, zr 0)] [zi (zb (tL (T p)))] (zp μ1 0 9 (nI p)) _
        refine zx_ifb_eq (tgt := 105) (nn := 76) dX11_look_73 (by decide) rfl (fun h73 => ?_) (fun h73 => ?_)
        · refine zx_aload_n (k := 0) (nn := 106) dX11_look_105 rfl rfl rfl ?_
          refine zx_aload_n (k := 0) (nn := 107) dX11_look_106 rfl rfl rfl ?_
          refine zx_getI (nn := 110) flX11_161 rfl rfl dX11_look_107 rfl ?_
          show zX shR σ 1 MX11_look 110 [(0, zr 0)] [zi (μ1 0 8), zr 0] (zp μ1 0 9 (nI p)) _
          rw [show μ1 0 8 = nI p from by first | exact b5 | (rw [zp_eq, pk_un (by decide)]; exact b5)]
          show zX shR σ 1 MX11_look 110 [(0, zr 0)] [zi (nI p), zr 0] (zp μ1 0 9 (nI p)) _
          refine zx_callVf (nn := 113) (k := 0) (d' := 0) (as := [zi (nI p)]) (rest := []) (n := 1) (eX11_isDigit_0 σ (zp μ1 0 9 (nI p)) p len (by rw [zp_eq, pk_un (by decide)]; exact e6) hlen (by omega)) kX11_isDigit mlX11_173 rfl rfl rfl (by decide) rfl rfl (Nat.le_of_ble_eq_true rfl) dX11_look_110 rfl ?_
          show zX shR σ 1 MX11_look 113 [(0, zr 0)] [zi (zb (decide (p < len) && tD ((zp μ1 0 9 (nI p)) 5 p)))] (zp μ1 0 9 (nI p)) _
          rw [show zb (decide (p < len) && tD ((zp μ1 0 9 (nI p)) 5 p)) = zb (tD (T p)) from by rw [zp_ne (by decide), e5, hT p hplt, decide_eq_true hplt, Bool.true_and]]
          show zX shR σ 1 MX11_look 113 [(0, zr 0)] [zi (zb (tD (T p)))] (zp μ1 0 9 (nI p)) _
          refine zx_ifb_eq (tgt := 214) (nn := 116) dX11_look_113 (by decide) rfl (fun h113 => ?_) (fun h113 => ?_)
          · refine zx_aload_n (k := 0) (nn := 215) dX11_look_214 rfl rfl rfl ?_
            refine zx_iconst (v := 3) (nn := 216) rfl dX11_look_215 rfl ?_
            refine zx_putI (nn := 219) fpX11_167 rfl rfl rfl rfl dX11_look_216 rfl ?_
            refine zx_aload_n (k := 0) (nn := 220) dX11_look_219 rfl rfl rfl ?_
            refine zx_aload_n (k := 0) (nn := 221) dX11_look_220 rfl rfl rfl ?_
            refine zx_getR (q := 5) (nn := 224) flX11_22 rfl rfl dX11_look_221 rfl ?_
            refine zx_aload_n (k := 0) (nn := 225) dX11_look_224 rfl rfl rfl ?_
            refine zx_getI (nn := 228) flX11_161 rfl rfl dX11_look_225 rfl ?_
            show zX shR σ 1 MX11_look 228 [(0, zr 0)] [zi (μ1 0 8), zr 5, zr 0] (zp (zp μ1 0 9 (nI p)) 0 10 3) _
            rw [show μ1 0 8 = nI p from by first | exact b5 | (rw [zp_eq, pk_un (by decide), zp_eq, pk_un (by decide)]; exact b5)]
            show zX shR σ 1 MX11_look 228 [(0, zr 0)] [zi (nI p), zr 5, zr 0] (zp (zp μ1 0 9 (nI p)) 0 10 3) _
            refine zx_iald_n (j := p) (nn := 229) rfl (by omega) (by decide) dX11_look_228 rfl ?_
            show zX shR σ 1 MX11_look 229 [(0, zr 0)] [zi (μ1 5 p), zr 0] (zp (zp μ1 0 9 (nI p)) 0 10 3) _
            rw [show μ1 5 p = T p from by first | (rw [e5]; exact hT p hplt) | (rw [zp_ne (by decide), zp_ne (by decide), e5]; exact hT p hplt)]
            show zX shR σ 1 MX11_look 229 [(0, zr 0)] [zi (T p), zr 0] (zp (zp μ1 0 9 (nI p)) 0 10 3) _
            refine zx_putI (nn := 232) fpX11_176 rfl rfl rfl rfl dX11_look_229 rfl ?_
            refine zx_aload_n (k := 0) (nn := 233) dX11_look_232 rfl rfl rfl ?_
            refine zx_dupr (nn := 234) dX11_look_233 rfl ?_
            refine zx_getI (nn := 237) flX11_161 rfl rfl dX11_look_234 rfl ?_
            show zX shR σ 1 MX11_look 237 [(0, zr 0)] [zi (μ1 0 8), zr 0] (zp (zp (zp μ1 0 9 (nI p)) 0 10 3) 0 11 (T p)) _
            rw [show μ1 0 8 = nI p from by first | exact b5 | (rw [zp_eq, pk_un (by decide), zp_eq, pk_un (by decide), zp_eq, pk_un (by decide)]; exact b5)]
            show zX shR σ 1 MX11_look 237 [(0, zr 0)] [zi (nI p), zr 0] (zp (zp (zp μ1 0 9 (nI p)) 0 10 3) 0 11 (T p)) _
            refine zx_iconst (v := 1) (nn := 238) rfl dX11_look_237 rfl ?_
            refine zx_iadd (nn := 239) dX11_look_238 rfl ?_
            rw [show (nI p) + 1 = nI (p + 1) from nI_1 p]
            show zX shR σ 1 MX11_look 239 [(0, zr 0)] [zi (nI (p + 1)), zr 0] (zp (zp (zp μ1 0 9 (nI p)) 0 10 3) 0 11 (T p)) _
            refine zx_putI (nn := 242) fpX11_161 rfl rfl rfl rfl dX11_look_239 rfl ?_
            refine zx_vret rfl dX11_look_242 ?_
            have hz : gTq T len p = 3 := by unfold gTq; rw [if_neg (by omega), if_neg (by rw [h73]; decide), if_neg (by rw [h113]; decide)]
            have ht : tTok T len p = (T p, 0, p + 1) := by unfold tTok; rw [if_neg (by omega), if_neg (by rw [h73]; decide), if_neg (by rw [h113]; decide)]
            unfold gL
            rw [hq, hz, ht]
            refine ⟨rfl, (((b3.p (by decide)).p (by decide)).p (by decide)).p (by decide), fun j hj => by rw [zp_eq, pk_un (by omega), zp_eq, pk_un (by omega), zp_eq, pk_un (by omega), zp_eq, pk_un (by omega)]; exact b4 j (by omega), ?_, by rw [zp_eq]; exact pk_us, ?_, fun h => absurd h (by decide), fun _ => ?_⟩
            · rw [zp_eq, pk_un (by decide), zp_eq, pk_un (by decide), zp_eq, pk_un (by decide), zp_eq]; exact pk_us
            · rw [zp_eq, pk_un (by decide), zp_eq, pk_un (by decide), zp_eq]; exact pk_us
            · rw [zp_eq, pk_un (by decide), zp_eq]; exact pk_us
          · refine zx_aload_n (k := 0) (nn := 117) dX11_look_116 rfl rfl rfl ?_
            refine zx_iconst (v := 0) (nn := 118) rfl dX11_look_117 rfl ?_
            refine zx_putI (nn := 121) fpX11_176 rfl rfl rfl rfl dX11_look_118 rfl ?_
            refine zx_lv (lv' := [(0, zr 0)]) [0] rfl ?_
            refine zx_while (τ := Nat × zM) (fun t_ => len - t_.1) (fun t_ => (p ≤ t_.1 ∧ t_.1 ≤ len) ∧ tRun tD T (len - p) p = tRun tD T (len - t_.1) t_.1 ∧ zJ [0] μ t_.2 ∧ (∀ j, j < 8 ∨ 11 < j → t_.2 0 j = μ 0 j) ∧ t_.2 0 8 = nI t_.1 ∧ t_.2 0 9 = nI p ∧ t_.2 0 11 = tVal T p (t_.1 - p)) (fun t_ => [(0, zr 0)]) (fun t_ => t_.2) (t0 := (p, zp (zp μ1 0 9 (nI p)) 0 11 0)) (show (p ≤ p ∧ p ≤ len) ∧ tRun tD T (len - p) p = tRun tD T (len - p) p ∧ zJ [0] μ (zp (zp μ1 0 9 (nI p)) 0 11 0) ∧ (∀ j, j < 8 ∨ 11 < j → (zp (zp μ1 0 9 (nI p)) 0 11 0) 0 j = μ 0 j) ∧ (zp (zp μ1 0 9 (nI p)) 0 11 0) 0 8 = nI p ∧ (zp (zp μ1 0 9 (nI p)) 0 11 0) 0 9 = nI p ∧ (zp (zp μ1 0 9 (nI p)) 0 11 0) 0 11 = tVal T p (p - p) from ⟨⟨Nat.le_refl _, b1.2⟩, rfl, (b3.p (by decide)).p (by decide), fun j hj => by rw [zp_eq, pk_un (by omega), zp_eq, pk_un (by omega)]; exact b4 j (by omega), by rw [zp_eq, pk_un (by decide), zp_eq, pk_un (by decide)]; exact b5, by rw [zp_eq, pk_un (by decide), zp_eq]; exact pk_us, by rw [Nat.sub_self, zp_eq]; exact pk_us⟩) ?_
            rintro ⟨q, μ2⟩ hI ih121
            replace hI : (p ≤ q ∧ q ≤ len) ∧ tRun tD T (len - p) p = tRun tD T (len - q) q ∧ zJ [0] μ μ2 ∧ (∀ j, j < 8 ∨ 11 < j → μ2 0 j = μ 0 j) ∧ μ2 0 8 = nI q ∧ μ2 0 9 = nI p ∧ μ2 0 11 = tVal T p (q - p) := hI
            show zX shR σ 1 MX11_look 121 [(0, zr 0)] [] μ2 _
            obtain ⟨c1, c2, c3, c4, c5, c6, c7⟩ := hI
            have e6b : μ2 0 6 = nI len := (c4 6 (by omega)).trans hl
            have e5b : μ2 5 = μ 5 := c3 5 (by decide)
            refine zx_aload_n (k := 0) (nn := 122) dX11_look_121 rfl rfl rfl ?_
            refine zx_aload_n (k := 0) (nn := 123) dX11_look_122 rfl rfl rfl ?_
            refine zx_getI (nn := 126) flX11_161 rfl rfl dX11_look_123 rfl ?_
            rw [show μ2 0 8 = nI q from c5]
            show zX shR σ 1 MX11_look 126 [(0, zr 0)] [zi (nI q), zr 0] μ2 _
            refine zx_callVf (nn := 129) (k := 0) (d' := 0) (as := [zi (nI q)]) (rest := []) (n := 1) (eX11_isDigit_0 σ μ2 q len e6b hlen (by omega)) kX11_isDigit mlX11_173 rfl rfl rfl (by decide) rfl rfl (Nat.le_of_ble_eq_true rfl) dX11_look_126 rfl ?_
            show zX shR σ 1 MX11_look 129 [(0, zr 0)] [zi (zb (decide (q < len) && tD (μ2 5 q)))] μ2 _
            refine zx_ifb_eq (tgt := 189) (nn := 132) dX11_look_129 (by decide) rfl (fun h129 => ?_) (fun h129 => ?_)
            · have hx : len ≤ q ∨ tD (T q) = false := by
                by_cases z : q < len
                · rw [decide_eq_true z, Bool.true_and, e5b, hT q z] at h129; exact Or.inr h129
                · exact Or.inl (by omega)
              refine zx_aload_n (k := 0) (nn := 190) dX11_look_189 rfl rfl rfl ?_
              refine zx_aload_n (k := 0) (nn := 191) dX11_look_190 rfl rfl rfl ?_
              refine zx_getI (nn := 194) flX11_161 rfl rfl dX11_look_191 rfl ?_
              rw [show μ2 0 8 = nI q from c5]
              show zX shR σ 1 MX11_look 194 [(0, zr 0)] [zi (nI q), zr 0] μ2 _
              refine zx_aload_n (k := 0) (nn := 195) dX11_look_194 rfl rfl rfl ?_
              refine zx_getI (nn := 198) flX11_164 rfl rfl dX11_look_195 rfl ?_
              rw [show μ2 0 9 = nI p from c6]
              show zX shR σ 1 MX11_look 198 [(0, zr 0)] [zi (nI p), zi (nI q), zr 0] μ2 _
              refine zx_isub (nn := 199) dX11_look_198 rfl ?_
              rw [show (nI q) - (nI p) = nI (q - p) from nI_subN c1.1]
              show zX shR σ 1 MX11_look 199 [(0, zr 0)] [zi (nI (q - p)), zr 0] μ2 _
              refine zx_iconst (v := 4) (nn := 200) rfl dX11_look_199 rfl ?_
              refine zx_icmp_le (tgt := 207) (nn := 203) dX11_look_200 (by decide) rfl (fun h200 => ?_) (fun h200 => ?_)
              · refine zx_iconst (v := 2) (nn := 208) rfl dX11_look_207 rfl ?_
                refine zx_putI (nn := 211) fpX11_167 rfl rfl rfl rfl dX11_look_208 rfl ?_
                refine zx_goto (tgt := 242) dX11_look_211 (by decide) ?_
                refine zx_vret rfl dX11_look_242 ?_
                have hend : tRun tD T (len - p) p = q := by rw [c2]; exact tRun_0 hx
                have hz : gTq T len p = 2 := by unfold gTq; rw [if_neg (by omega), if_neg (by rw [h73]; decide), if_pos h113, hend, if_neg (fun z => absurd (nI_le_le (b := q - p) (a := 4) h200 (by omega)) (by omega))]
                have ht : tTok T len p = (-2, tVal T p (q - p), q) := by unfold tTok; rw [if_neg (by omega), if_neg (by rw [h73]; decide), if_pos h113, hend, if_neg (fun z => absurd (nI_le_le (b := q - p) (a := 4) h200 (by omega)) (by omega))]
                unfold gL
                rw [hq, hz, ht]
                exact ⟨rfl, c3.p (by decide), fun j hj => by rw [zp_eq, pk_un (by omega)]; exact c4 j hj, by rw [zp_eq, pk_un (by decide)]; exact c6, by rw [zp_eq, pk_un (by decide)]; exact c5, by rw [zp_eq]; exact pk_us, fun _ => by rw [zp_eq, pk_un (by decide)]; exact c7, fun h => absurd h (by decide)⟩
              · refine zx_iconst (v := 4) (nn := 204) rfl dX11_look_203 rfl ?_
                refine zx_goto (tgt := 208) dX11_look_204 (by decide) ?_
                refine zx_putI (nn := 211) fpX11_167 rfl rfl rfl rfl dX11_look_208 rfl ?_
                refine zx_goto (tgt := 242) dX11_look_211 (by decide) ?_
                refine zx_vret rfl dX11_look_242 ?_
                have hend : tRun tD T (len - p) p = q := by rw [c2]; exact tRun_0 hx
                have hz : gTq T len p = 4 := by unfold gTq; rw [if_neg (by omega), if_neg (by rw [h73]; decide), if_pos h113, hend, if_pos (nI_nle_lt (b := q - p) (a := 4) h200 (by omega))]
                have ht : tTok T len p = (-3, tVal T p (q - p), q) := by unfold tTok; rw [if_neg (by omega), if_neg (by rw [h73]; decide), if_pos h113, hend, if_pos (nI_nle_lt (b := q - p) (a := 4) h200 (by omega))]
                unfold gL
                rw [hq, hz, ht]
                exact ⟨rfl, c3.p (by decide), fun j hj => by rw [zp_eq, pk_un (by omega)]; exact c4 j hj, by rw [zp_eq, pk_un (by decide)]; exact c6, by rw [zp_eq, pk_un (by decide)]; exact c5, by rw [zp_eq]; exact pk_us, fun _ => by rw [zp_eq, pk_un (by decide)]; exact c7, fun h => absurd h (by decide)⟩
            · have hltq : q < len := of_decide_eq_true ((Bool.and_eq_true _ _).mp h129).1
              have htq : tD (T q) = true := by rw [← hT q hltq, ← e5b]; exact ((Bool.and_eq_true _ _).mp h129).2
              refine zx_aload_n (k := 0) (nn := 133) dX11_look_132 rfl rfl rfl ?_
              refine zx_aload_n (k := 0) (nn := 134) dX11_look_133 rfl rfl rfl ?_
              refine zx_getI (nn := 137) flX11_161 rfl rfl dX11_look_134 rfl ?_
              rw [show μ2 0 8 = nI q from c5]
              show zX shR σ 1 MX11_look 137 [(0, zr 0)] [zi (nI q), zr 0] μ2 _
              refine zx_aload_n (k := 0) (nn := 138) dX11_look_137 rfl rfl rfl ?_
              refine zx_getI (nn := 141) flX11_164 rfl rfl dX11_look_138 rfl ?_
              rw [show μ2 0 9 = nI p from c6]
              show zX shR σ 1 MX11_look 141 [(0, zr 0)] [zi (nI p), zi (nI q), zr 0] μ2 _
              refine zx_isub (nn := 142) dX11_look_141 rfl ?_
              rw [show (nI q) - (nI p) = nI (q - p) from nI_subN c1.1]
              show zX shR σ 1 MX11_look 142 [(0, zr 0)] [zi (nI (q - p)), zr 0] μ2 _
              refine zx_iconst (v := 4) (nn := 143) rfl dX11_look_142 rfl ?_
              refine zx_icmp_ge (tgt := 169) (nn := 146) dX11_look_143 (by decide) rfl (fun h143 => ?_) (fun h143 => ?_)
              · refine zx_aload_n (k := 0) (nn := 170) dX11_look_169 rfl rfl rfl ?_
                refine zx_getI (nn := 173) flX11_176 rfl rfl dX11_look_170 rfl ?_
                rw [show μ2 0 11 = tVal T p (q - p) from c7]
                show zX shR σ 1 MX11_look 173 [(0, zr 0)] [zi (tVal T p (q - p)), zr 0] μ2 _
                refine zx_putI (nn := 176) fpX11_176 rfl rfl rfl rfl dX11_look_173 rfl ?_
                refine zx_aload_n (k := 0) (nn := 177) dX11_look_176 rfl rfl rfl ?_
                refine zx_dupr (nn := 178) dX11_look_177 rfl ?_
                refine zx_getI (nn := 181) flX11_161 rfl rfl dX11_look_178 rfl ?_
                show zX shR σ 1 MX11_look 181 [(0, zr 0)] [zi (μ2 0 8), zr 0] (zp μ2 0 11 (tVal T p (q - p))) _
                rw [show μ2 0 8 = nI q from by first | exact c5 | (rw [zp_eq, pk_un (by decide)]; exact c5)]
                show zX shR σ 1 MX11_look 181 [(0, zr 0)] [zi (nI q), zr 0] (zp μ2 0 11 (tVal T p (q - p))) _
                refine zx_iconst (v := 1) (nn := 182) rfl dX11_look_181 rfl ?_
                refine zx_iadd (nn := 183) dX11_look_182 rfl ?_
                rw [show (nI q) + 1 = nI (q + 1) from nI_1 q]
                show zX shR σ 1 MX11_look 183 [(0, zr 0)] [zi (nI (q + 1)), zr 0] (zp μ2 0 11 (tVal T p (q - p))) _
                refine zx_putI (nn := 186) fpX11_161 rfl rfl rfl rfl dX11_look_183 rfl ?_
                refine zx_goto (tgt := 121) dX11_look_186 (by decide) ?_
                refine zx_lv (lv' := [(0, zr 0)]) [0] rfl ?_
                exact ih121 (q + 1, zp (zp μ2 0 11 (tVal T p (q - p))) 0 8 (nI (q + 1))) (show (p ≤ (q + 1) ∧ (q + 1) ≤ len) ∧ tRun tD T (len - p) p = tRun tD T (len - (q + 1)) (q + 1) ∧ zJ [0] μ (zp (zp μ2 0 11 (tVal T p (q - p))) 0 8 (nI (q + 1))) ∧ (∀ j, j < 8 ∨ 11 < j → (zp (zp μ2 0 11 (tVal T p (q - p))) 0 8 (nI (q + 1))) 0 j = μ 0 j) ∧ (zp (zp μ2 0 11 (tVal T p (q - p))) 0 8 (nI (q + 1))) 0 8 = nI (q + 1) ∧ (zp (zp μ2 0 11 (tVal T p (q - p))) 0 8 (nI (q + 1))) 0 9 = nI p ∧ (zp (zp μ2 0 11 (tVal T p (q - p))) 0 8 (nI (q + 1))) 0 11 = tVal T p ((q + 1) - p) from ⟨by omega, by rw [c2, tRun_s hltq htq], (c3.p (by decide)).p (by decide), fun j hj => by rw [zp_eq, pk_un (by omega), zp_eq, pk_un (by omega)]; exact c4 j hj, by rw [zp_eq]; exact pk_us, by rw [zp_eq, pk_un (by decide), zp_eq, pk_un (by decide)]; exact c6, by rw [zp_eq, pk_un (by decide), zp_eq, pk_us, show q + 1 - p = (q - p) + 1 by omega]; show _ = if _ then _ else _; rw [if_neg (by have := nI_le_le (b := 4) h143 (by omega); omega)]⟩) (by show len - (q + 1) < len - q; omega)
              · refine zx_bipush (v := 10) (nn := 148) rfl dX11_look_146 rfl ?_
                refine zx_aload_n (k := 0) (nn := 149) dX11_look_148 rfl rfl rfl ?_
                refine zx_getI (nn := 152) flX11_176 rfl rfl dX11_look_149 rfl ?_
                rw [show μ2 0 11 = tVal T p (q - p) from c7]
                show zX shR σ 1 MX11_look 152 [(0, zr 0)] [zi (tVal T p (q - p)), zi 10, zr 0] μ2 _
                refine zx_imul (nn := 153) dX11_look_152 rfl ?_
                refine zx_aload_n (k := 0) (nn := 154) dX11_look_153 rfl rfl rfl ?_
                refine zx_getR (q := 5) (nn := 157) flX11_22 rfl rfl dX11_look_154 rfl ?_
                refine zx_aload_n (k := 0) (nn := 158) dX11_look_157 rfl rfl rfl ?_
                refine zx_getI (nn := 161) flX11_161 rfl rfl dX11_look_158 rfl ?_
                rw [show μ2 0 8 = nI q from c5]
                show zX shR σ 1 MX11_look 161 [(0, zr 0)] [zi (nI q), zr 5, zi (10 * (tVal T p (q - p))), zr 0] μ2 _
                refine zx_iald_n (j := q) (nn := 162) rfl (by omega) (by decide) dX11_look_161 rfl ?_
                rw [show μ2 5 q = T q from by rw [e5b]; exact hT q hltq]
                show zX shR σ 1 MX11_look 162 [(0, zr 0)] [zi (T q), zi (10 * (tVal T p (q - p))), zr 0] μ2 _
                refine zx_iadd (nn := 163) dX11_look_162 rfl ?_
                refine zx_bipush (v := 48) (nn := 165) rfl dX11_look_163 rfl ?_
                refine zx_isub (nn := 166) dX11_look_165 rfl ?_
                refine zx_goto (tgt := 173) dX11_look_166 (by decide) ?_
                refine zx_putI (nn := 176) fpX11_176 rfl rfl rfl rfl dX11_look_173 rfl ?_
                refine zx_aload_n (k := 0) (nn := 177) dX11_look_176 rfl rfl rfl ?_
                refine zx_dupr (nn := 178) dX11_look_177 rfl ?_
                refine zx_getI (nn := 181) flX11_161 rfl rfl dX11_look_178 rfl ?_
                show zX shR σ 1 MX11_look 181 [(0, zr 0)] [zi (μ2 0 8), zr 0] (zp μ2 0 11 (((10 * (tVal T p (q - p))) + (T q)) - 48)) _
                rw [show μ2 0 8 = nI q from by first | exact c5 | (rw [zp_eq, pk_un (by decide)]; exact c5)]
                show zX shR σ 1 MX11_look 181 [(0, zr 0)] [zi (nI q), zr 0] (zp μ2 0 11 (((10 * (tVal T p (q - p))) + (T q)) - 48)) _
                refine zx_iconst (v := 1) (nn := 182) rfl dX11_look_181 rfl ?_
                refine zx_iadd (nn := 183) dX11_look_182 rfl ?_
                rw [show (nI q) + 1 = nI (q + 1) from nI_1 q]
                show zX shR σ 1 MX11_look 183 [(0, zr 0)] [zi (nI (q + 1)), zr 0] (zp μ2 0 11 (((10 * (tVal T p (q - p))) + (T q)) - 48)) _
                refine zx_putI (nn := 186) fpX11_161 rfl rfl rfl rfl dX11_look_183 rfl ?_
                refine zx_goto (tgt := 121) dX11_look_186 (by decide) ?_
                refine zx_lv (lv' := [(0, zr 0)]) [0] rfl ?_
                exact ih121 (q + 1, zp (zp μ2 0 11 (((10 * (tVal T p (q - p))) + (T q)) - 48)) 0 8 (nI (q + 1))) (show (p ≤ (q + 1) ∧ (q + 1) ≤ len) ∧ tRun tD T (len - p) p = tRun tD T (len - (q + 1)) (q + 1) ∧ zJ [0] μ (zp (zp μ2 0 11 (((10 * (tVal T p (q - p))) + (T q)) - 48)) 0 8 (nI (q + 1))) ∧ (∀ j, j < 8 ∨ 11 < j → (zp (zp μ2 0 11 (((10 * (tVal T p (q - p))) + (T q)) - 48)) 0 8 (nI (q + 1))) 0 j = μ 0 j) ∧ (zp (zp μ2 0 11 (((10 * (tVal T p (q - p))) + (T q)) - 48)) 0 8 (nI (q + 1))) 0 8 = nI (q + 1) ∧ (zp (zp μ2 0 11 (((10 * (tVal T p (q - p))) + (T q)) - 48)) 0 8 (nI (q + 1))) 0 9 = nI p ∧ (zp (zp μ2 0 11 (((10 * (tVal T p (q - p))) + (T q)) - 48)) 0 8 (nI (q + 1))) 0 11 = tVal T p ((q + 1) - p) from ⟨by omega, by rw [c2, tRun_s hltq htq], (c3.p (by decide)).p (by decide), fun j hj => by rw [zp_eq, pk_un (by omega), zp_eq, pk_un (by omega)]; exact c4 j hj, by rw [zp_eq]; exact pk_us, by rw [zp_eq, pk_un (by decide), zp_eq, pk_un (by decide)]; exact c6, by rw [zp_eq, pk_un (by decide), zp_eq, pk_us, show q + 1 - p = (q - p) + 1 by omega]; show _ = if _ then _ else _; rw [if_pos (nI_nle_lt (b := 4) h143 (by omega)), show p + (q - p) = q by omega, Int32.mul_comm]⟩) (by show len - (q + 1) < len - q; omega)
        · refine zx_aload_n (k := 0) (nn := 77) dX11_look_76 rfl rfl rfl ?_
          refine zx_iconst (v := 1) (nn := 78) rfl dX11_look_77 rfl ?_
          refine zx_putI (nn := 81) fpX11_167 rfl rfl rfl rfl dX11_look_78 rfl ?_
          refine zx_lv (lv' := [(0, zr 0)]) [0] rfl ?_
          refine zx_while (τ := Nat × zM) (fun t_ => len - t_.1) (fun t_ => (p ≤ t_.1 ∧ t_.1 ≤ len) ∧ tRun tL T (len - p) p = tRun tL T (len - t_.1) t_.1 ∧ zJ [0] μ t_.2 ∧ (∀ j, j < 8 ∨ 11 < j → t_.2 0 j = μ 0 j) ∧ t_.2 0 8 = nI t_.1 ∧ t_.2 0 9 = nI p ∧ t_.2 0 10 = 1) (fun t_ => [(0, zr 0)]) (fun t_ => t_.2) (t0 := (p, zp (zp μ1 0 9 (nI p)) 0 10 1)) (show (p ≤ p ∧ p ≤ len) ∧ tRun tL T (len - p) p = tRun tL T (len - p) p ∧ zJ [0] μ (zp (zp μ1 0 9 (nI p)) 0 10 1) ∧ (∀ j, j < 8 ∨ 11 < j → (zp (zp μ1 0 9 (nI p)) 0 10 1) 0 j = μ 0 j) ∧ (zp (zp μ1 0 9 (nI p)) 0 10 1) 0 8 = nI p ∧ (zp (zp μ1 0 9 (nI p)) 0 10 1) 0 9 = nI p ∧ (zp (zp μ1 0 9 (nI p)) 0 10 1) 0 10 = 1 from ⟨⟨Nat.le_refl _, b1.2⟩, rfl, (b3.p (by decide)).p (by decide), fun j hj => by rw [zp_eq, pk_un (by omega), zp_eq, pk_un (by omega)]; exact b4 j (by omega), by rw [zp_eq, pk_un (by decide), zp_eq, pk_un (by decide)]; exact b5, by rw [zp_eq, pk_un (by decide), zp_eq]; exact pk_us, by rw [zp_eq]; exact pk_us⟩) ?_
          rintro ⟨q, μ2⟩ hI ih81
          replace hI : (p ≤ q ∧ q ≤ len) ∧ tRun tL T (len - p) p = tRun tL T (len - q) q ∧ zJ [0] μ μ2 ∧ (∀ j, j < 8 ∨ 11 < j → μ2 0 j = μ 0 j) ∧ μ2 0 8 = nI q ∧ μ2 0 9 = nI p ∧ μ2 0 10 = 1 := hI
          show zX shR σ 1 MX11_look 81 [(0, zr 0)] [] μ2 _
          obtain ⟨c1, c2, c3, c4, c5, c6, c7⟩ := hI
          have e6b : μ2 0 6 = nI len := (c4 6 (by omega)).trans hl
          have e5b : μ2 5 = μ 5 := c3 5 (by decide)
          refine zx_aload_n (k := 0) (nn := 82) dX11_look_81 rfl rfl rfl ?_
          refine zx_aload_n (k := 0) (nn := 83) dX11_look_82 rfl rfl rfl ?_
          refine zx_getI (nn := 86) flX11_161 rfl rfl dX11_look_83 rfl ?_
          rw [show μ2 0 8 = nI q from c5]
          show zX shR σ 1 MX11_look 86 [(0, zr 0)] [zi (nI q), zr 0] μ2 _
          refine zx_callVf (nn := 89) (k := 0) (d' := 0) (as := [zi (nI q)]) (rest := []) (n := 1) (eX11_isLetter_0 σ μ2 q len e6b hlen (by omega)) kX11_isLetter mlX11_170 rfl rfl rfl (by decide) rfl rfl (Nat.le_of_ble_eq_true rfl) dX11_look_86 rfl ?_
          show zX shR σ 1 MX11_look 89 [(0, zr 0)] [zi (zb (decide (q < len) && tL (μ2 5 q)))] μ2 _
          refine zx_ifb_eq (tgt := 242) (nn := 92) dX11_look_89 (by decide) rfl (fun h89 => ?_) (fun h89 => ?_)
          · have hx : len ≤ q ∨ tL (T q) = false := by
              by_cases z : q < len
              · rw [decide_eq_true z, Bool.true_and, e5b, hT q z] at h89; exact Or.inr h89
              · exact Or.inl (by omega)
            refine zx_vret rfl dX11_look_242 ?_
            have hend : tRun tL T (len - p) p = q := by rw [c2]; exact tRun_0 hx
            have hz : gTq T len p = 1 := by unfold gTq; rw [if_neg (by omega), if_pos h73]
            have ht : tTok T len p = (tWord T p (q - p), 0, q) := by unfold tTok; rw [if_neg (by omega), if_pos h73, hend]
            unfold gL
            rw [hq, hz, ht]
            exact ⟨rfl, c3, c4, c6, c5, c7, fun h => absurd h (by decide), fun h => absurd h (by decide)⟩
          · have hltq : q < len := of_decide_eq_true ((Bool.and_eq_true _ _).mp h89).1
            have htq : tL (T q) = true := by rw [← hT q hltq, ← e5b]; exact ((Bool.and_eq_true _ _).mp h89).2
            refine zx_aload_n (k := 0) (nn := 93) dX11_look_92 rfl rfl rfl ?_
            refine zx_dupr (nn := 94) dX11_look_93 rfl ?_
            refine zx_getI (nn := 97) flX11_161 rfl rfl dX11_look_94 rfl ?_
            rw [show μ2 0 8 = nI q from c5]
            show zX shR σ 1 MX11_look 97 [(0, zr 0)] [zi (nI q), zr 0] μ2 _
            refine zx_iconst (v := 1) (nn := 98) rfl dX11_look_97 rfl ?_
            refine zx_iadd (nn := 99) dX11_look_98 rfl ?_
            rw [show (nI q) + 1 = nI (q + 1) from nI_1 q]
            show zX shR σ 1 MX11_look 99 [(0, zr 0)] [zi (nI (q + 1)), zr 0] μ2 _
            refine zx_putI (nn := 102) fpX11_161 rfl rfl rfl rfl dX11_look_99 rfl ?_
            refine zx_goto (tgt := 81) dX11_look_102 (by decide) ?_
            refine zx_lv (lv' := [(0, zr 0)]) [0] rfl ?_
            exact ih81 (q + 1, zp μ2 0 8 (nI (q + 1))) (show (p ≤ (q + 1) ∧ (q + 1) ≤ len) ∧ tRun tL T (len - p) p = tRun tL T (len - (q + 1)) (q + 1) ∧ zJ [0] μ (zp μ2 0 8 (nI (q + 1))) ∧ (∀ j, j < 8 ∨ 11 < j → (zp μ2 0 8 (nI (q + 1))) 0 j = μ 0 j) ∧ (zp μ2 0 8 (nI (q + 1))) 0 8 = nI (q + 1) ∧ (zp μ2 0 8 (nI (q + 1))) 0 9 = nI p ∧ (zp μ2 0 8 (nI (q + 1))) 0 10 = 1 from ⟨by omega, by rw [c2, tRun_s hltq htq], c3.p (by decide), fun j hj => by rw [zp_eq, pk_un (by omega)]; exact c4 j hj, by rw [zp_eq]; exact pk_us, by rw [zp_eq, pk_un (by decide)]; exact c6, by rw [zp_eq, pk_un (by decide)]; exact c7⟩) (by show len - (q + 1) < len - q; omega)
      · exact absurd ((nI_eq (by omega) (by omega)).mp h54) (by omega)
    · refine zx_aload_n (k := 0) (nn := 26) dX11_look_25 rfl rfl rfl ?_
      refine zx_dupr (nn := 27) dX11_look_26 rfl ?_
      refine zx_getI (nn := 30) flX11_161 rfl rfl dX11_look_27 rfl ?_
      rw [show μ1 0 8 = nI p from b5]
      show zX shR σ 1 MX11_look 30 [(0, zr 0)] [zi (nI p), zr 0] μ1 _
      refine zx_iconst (v := 1) (nn := 31) rfl dX11_look_30 rfl ?_
      refine zx_iadd (nn := 32) dX11_look_31 rfl ?_
      rw [show (nI p) + 1 = nI (p + 1) from nI_1 p]
      show zX shR σ 1 MX11_look 32 [(0, zr 0)] [zi (nI (p + 1)), zr 0] μ1 _
      refine zx_putI (nn := 35) fpX11_161 rfl rfl rfl rfl dX11_look_32 rfl ?_
      refine zx_goto (tgt := 0) dX11_look_35 (by decide) ?_
      refine zx_lv (lv' := [(0, zr 0)]) [0] rfl ?_
      exact ih0 (p + 1, zp μ1 0 8 (nI (p + 1))) (show (p0 ≤ (p + 1) ∧ (p + 1) ≤ len) ∧ tSk T len p0 = tSk T len (p + 1) ∧ zJ [0] μ (zp μ1 0 8 (nI (p + 1))) ∧ (∀ j, j ≠ 8 → (zp μ1 0 8 (nI (p + 1))) 0 j = μ 0 j) ∧ (zp μ1 0 8 (nI (p + 1))) 0 8 = nI (p + 1) from ⟨by omega, b2.trans (tSk_b hlt h22), b3.p (by decide), fun j hj => by rw [zp_eq, pk_un hj]; exact b4 j hj, by rw [zp_eq]; exact pk_us⟩) (by show len - (p + 1) < len - p; omega)
set_option maxHeartbeats 4000000 in
set_option maxRecDepth 100000 in
theorem eX11_wrong_0 (σ : zG) (μ : zM) : zMet shR σ 0 MX11_wrong yX11_wrong [zr 0] μ (fun rr μ' => rr = some (zi 0) ∧ μ' = zp μ 0 12 (μ 0 9)) := by
  refine zmetF (by decide +kernel) rfl (Nat.le_of_ble_eq_true rfl) ?_
  show zX shR σ 0 MX11_wrong 0 [(0, zr 0)] [] μ _
  refine zx_aload_n (k := 0) (nn := 1) dX11_wrong_0 rfl rfl rfl ?_
  refine zx_aload_n (k := 0) (nn := 2) dX11_wrong_1 rfl rfl rfl ?_
  refine zx_getI (nn := 5) flX11_164 rfl rfl dX11_wrong_2 rfl ?_
  refine zx_putI (nn := 8) fpX11_179 rfl rfl rfl rfl dX11_wrong_5 rfl ?_
  refine zx_iconst (v := 0) (nn := 9) rfl dX11_wrong_8 rfl ?_
  refine zx_zret rfl rfl dX11_wrong_9 ?_
  exact ⟨rfl, rfl⟩
set_option maxHeartbeats 4000000 in
set_option maxRecDepth 100000 in
theorem eX11_isSign_0 (σ : zG) (μ : zM) (c : Int32) (T : Nat → Int32) (len k cc : Nat) (hS : gS T len μ k cc) (hc : 0 ≤ c ∧ c ≤ 255) : zMet shR σ 0 MX11_isSign yX11_isSign [zr 0, zi c] μ (fun rr μ' => rr = some (zi (zb (decide (tK T len k = c)))) ∧ μ' = μ) := by
  refine zmetF (by decide +kernel) rfl (Nat.le_of_ble_eq_true rfl) ?_
  show zX shR σ 0 MX11_isSign 0 [(0, zr 0), (1, zi c)] [] μ _
  refine zx_aload_n (k := 0) (nn := 1) dX11_isSign_0 rfl rfl rfl ?_
  refine zx_getI (nn := 4) flX11_167 rfl rfl dX11_isSign_1 rfl ?_
  rw [show μ 0 10 = gTk T len k from hS.2.1.2.2]
  show zX shR σ 0 MX11_isSign 4 [(0, zr 0), (1, zi c)] [zi (gTk T len k)] μ _
  refine zx_iconst (v := 3) (nn := 5) rfl dX11_isSign_4 rfl ?_
  refine zx_icmp_ne (tgt := 20) (nn := 8) dX11_isSign_5 (by decide) rfl (fun h5 => ?_) (fun h5 => ?_)
  · refine zx_iconst (v := 0) (nn := 21) rfl dX11_isSign_20 rfl ?_
    refine zx_zret rfl rfl dX11_isSign_21 ?_
    refine ⟨congrArg (fun x => some (zi x)) ?_, rfl⟩
    rw [← K_sign hc]
    rw [decide_eq_false h5]
    rfl
  · refine zx_aload_n (k := 0) (nn := 9) dX11_isSign_8 rfl rfl rfl ?_
    refine zx_getI (nn := 12) flX11_176 rfl rfl dX11_isSign_9 rfl ?_
    rw [show μ 0 11 = T (tS T len k) from hS.2.2.2.1 h5]
    show zX shR σ 0 MX11_isSign 12 [(0, zr 0), (1, zi c)] [zi (T (tS T len k))] μ _
    refine zx_iload_n (k := 1) (nn := 13) dX11_isSign_12 rfl rfl rfl ?_
    refine zx_icmp_ne (tgt := 20) (nn := 16) dX11_isSign_13 (by decide) rfl (fun h13 => ?_) (fun h13 => ?_)
    · refine zx_iconst (v := 0) (nn := 21) rfl dX11_isSign_20 rfl ?_
      refine zx_zret rfl rfl dX11_isSign_21 ?_
      refine ⟨congrArg (fun x => some (zi x)) ?_, rfl⟩
      rw [← K_sign hc]
      rw [decide_eq_true h5, decide_eq_false h13]
      rfl
    · refine zx_iconst (v := 1) (nn := 17) rfl dX11_isSign_16 rfl ?_
      refine zx_goto (tgt := 21) dX11_isSign_17 (by decide) ?_
      refine zx_zret rfl rfl dX11_isSign_21 ?_
      refine ⟨congrArg (fun x => some (zi x)) ?_, rfl⟩
      rw [← K_sign hc]
      rw [decide_eq_true h5, decide_eq_true h13]
      rfl
set_option maxHeartbeats 4000000 in
set_option maxRecDepth 100000 in
theorem eX11_lays_0 (σ : zG) (μ : zM) (w : Int32) (v : Int32) (cc : Nat) (h14 : μ 0 14 = nI cc) (hcc : cc ≤ 204) : zMet shR σ 0 MX11_lays yX11_lays [zr 0, zi w, zi v] μ (fun rr μ' => rr = none ∧ μ' = gLay μ cc w v) := by
  refine zmetF (by decide +kernel) rfl (Nat.le_of_ble_eq_true rfl) ?_
  show zX shR σ 0 MX11_lays 0 [(0, zr 0), (1, zi w), (2, zi v)] [] μ _
  refine zx_aload_n (k := 0) (nn := 1) dX11_lays_0 rfl rfl rfl ?_
  refine zx_getR (q := 1) (nn := 4) flX11_9 rfl rfl dX11_lays_1 rfl ?_
  refine zx_bipush (v := 111) (nn := 6) rfl dX11_lays_4 rfl ?_
  refine zx_iconst (v := 2) (nn := 7) rfl dX11_lays_6 rfl ?_
  refine zx_aload_n (k := 0) (nn := 8) dX11_lays_7 rfl rfl rfl ?_
  refine zx_getI (nn := 11) flX11_191 rfl rfl dX11_lays_8 rfl ?_
  rw [show μ 0 14 = nI cc from h14]
  show zX shR σ 0 MX11_lays 11 [(0, zr 0), (1, zi w), (2, zi v)] [zi (nI cc), zi 2, zi 111, zr 1] μ _
  refine zx_imul (nn := 12) dX11_lays_11 rfl ?_
  refine zx_iadd (nn := 13) dX11_lays_12 rfl ?_
  rw [show 111 + (2 * (nI cc)) = nI (111 + 2 * cc) from by simp only [show (2 : Int32) = nI 2 from rfl, show (3 : Int32) = nI 3 from rfl, show (1 : Int32) = nI 1 from rfl, show (4 : Int32) = nI 4 from rfl, show (5 : Int32) = nI 5 from rfl, show (7 : Int32) = nI 7 from rfl, show (31 : Int32) = nI 31 from rfl, show (47 : Int32) = nI 47 from rfl, show (71 : Int32) = nI 71 from rfl, show (111 : Int32) = nI 111 from rfl, nI_mulN, nI_add]]
  show zX shR σ 0 MX11_lays 13 [(0, zr 0), (1, zi w), (2, zi v)] [zi (nI (111 + 2 * cc)), zr 1] μ _
  refine zx_iload_n (k := 1) (nn := 14) dX11_lays_13 rfl rfl rfl ?_
  refine zx_iast_n (j := 111 + 2 * cc) (nn := 15) rfl (by omega) (by decide) dX11_lays_14 rfl ?_
  refine zx_aload_n (k := 0) (nn := 16) dX11_lays_15 rfl rfl rfl ?_
  refine zx_getR (q := 1) (nn := 19) flX11_9 rfl rfl dX11_lays_16 rfl ?_
  refine zx_bipush (v := 111) (nn := 21) rfl dX11_lays_19 rfl ?_
  refine zx_iconst (v := 2) (nn := 22) rfl dX11_lays_21 rfl ?_
  refine zx_aload_n (k := 0) (nn := 23) dX11_lays_22 rfl rfl rfl ?_
  refine zx_getI (nn := 26) flX11_191 rfl rfl dX11_lays_23 rfl ?_
  show zX shR σ 0 MX11_lays 26 [(0, zr 0), (1, zi w), (2, zi v)] [zi (μ 0 14), zi 2, zi 111, zr 1] (zp μ 1 (111 + 2 * cc) w) _
  rw [show μ 0 14 = nI cc from h14]
  show zX shR σ 0 MX11_lays 26 [(0, zr 0), (1, zi w), (2, zi v)] [zi (nI cc), zi 2, zi 111, zr 1] (zp μ 1 (111 + 2 * cc) w) _
  refine zx_imul (nn := 27) dX11_lays_26 rfl ?_
  refine zx_iadd (nn := 28) dX11_lays_27 rfl ?_
  refine zx_iconst (v := 1) (nn := 29) rfl dX11_lays_28 rfl ?_
  refine zx_iadd (nn := 30) dX11_lays_29 rfl ?_
  rw [show (111 + (2 * (nI cc))) + 1 = nI (111 + 2 * cc + 1) from by simp only [show (2 : Int32) = nI 2 from rfl, show (3 : Int32) = nI 3 from rfl, show (1 : Int32) = nI 1 from rfl, show (4 : Int32) = nI 4 from rfl, show (5 : Int32) = nI 5 from rfl, show (7 : Int32) = nI 7 from rfl, show (31 : Int32) = nI 31 from rfl, show (47 : Int32) = nI 47 from rfl, show (71 : Int32) = nI 71 from rfl, show (111 : Int32) = nI 111 from rfl, nI_mulN, nI_add]]
  show zX shR σ 0 MX11_lays 30 [(0, zr 0), (1, zi w), (2, zi v)] [zi (nI (111 + 2 * cc + 1)), zr 1] (zp μ 1 (111 + 2 * cc) w) _
  refine zx_iload_n (k := 2) (nn := 31) dX11_lays_30 rfl rfl rfl ?_
  refine zx_iast_n (j := 111 + 2 * cc + 1) (nn := 32) rfl (by omega) (by decide) dX11_lays_31 rfl ?_
  refine zx_aload_n (k := 0) (nn := 33) dX11_lays_32 rfl rfl rfl ?_
  refine zx_dupr (nn := 34) dX11_lays_33 rfl ?_
  refine zx_getI (nn := 37) flX11_191 rfl rfl dX11_lays_34 rfl ?_
  show zX shR σ 0 MX11_lays 37 [(0, zr 0), (1, zi w), (2, zi v)] [zi (μ 0 14), zr 0] (zp (zp μ 1 (111 + 2 * cc) w) 1 (111 + 2 * cc + 1) v) _
  rw [show μ 0 14 = nI cc from h14]
  show zX shR σ 0 MX11_lays 37 [(0, zr 0), (1, zi w), (2, zi v)] [zi (nI cc), zr 0] (zp (zp μ 1 (111 + 2 * cc) w) 1 (111 + 2 * cc + 1) v) _
  refine zx_iconst (v := 1) (nn := 38) rfl dX11_lays_37 rfl ?_
  refine zx_iadd (nn := 39) dX11_lays_38 rfl ?_
  rw [show (nI cc) + 1 = nI (cc + 1) from nI_1 cc]
  show zX shR σ 0 MX11_lays 39 [(0, zr 0), (1, zi w), (2, zi v)] [zi (nI (cc + 1)), zr 0] (zp (zp μ 1 (111 + 2 * cc) w) 1 (111 + 2 * cc + 1) v) _
  refine zx_putI (nn := 42) fpX11_191 rfl rfl rfl rfl dX11_lays_39 rfl ?_
  refine zx_vret rfl dX11_lays_42 ?_
  exact ⟨rfl, rfl⟩
set_option maxHeartbeats 4000000 in
set_option maxRecDepth 100000 in
theorem eX11_isName_0 (σ : zG) (μ : zM) (w : Nat) (T : Nat → Int32) (len k cc : Nat) (hw : w < 18) (hX : gX T len) (hS : gS T len μ k cc) : zMet shR σ 4 MX11_isName yX11_isName [zr 0, zr (200 + w)] μ (fun rr μ' => rr = some (zi (zb (decide (tK T len k = nI (256 + w))))) ∧ μ' = μ) := by
  have h7 := (tx_len hw).1
  obtain ⟨⟨s1, s2⟩, ⟨s3, s4, s5⟩, s6, s7, ⟨s8, s9, s10⟩, s11⟩ := id hS
  have hm := (tP_mono (T := T) (len := len) (k := k)).2
  have h200 := hX.1
  refine zmetF (by decide +kernel) rfl (Nat.le_of_ble_eq_true rfl) ?_
  show zX shR σ 4 MX11_isName 0 [(0, zr 0), (1, zr (200 + w))] [] μ _
  refine zx_cut (pc' := 29) (lv' := [(0, zr 0), (1, zr (200 + w))]) (st' := [zi (zb (decide (gTk T len k = 1) && decide ((tP T len (k + 1) - tS T len k) = zLn.getD w 0)))]) (μ' := μ) (fun J29 => ?_) ?_
  · refine zx_aload_n (k := 0) (nn := 1) dX11_isName_0 rfl rfl rfl ?_
    refine zx_getI (nn := 4) flX11_167 rfl rfl dX11_isName_1 rfl ?_
    rw [show μ 0 10 = gTk T len k from s5]
    show zX shR σ 4 MX11_isName 4 [(0, zr 0), (1, zr (200 + w))] [zi (gTk T len k)] μ _
    refine zx_iconst (v := 1) (nn := 5) rfl dX11_isName_4 rfl ?_
    refine zx_icmp_ne (tgt := 28) (nn := 8) dX11_isName_5 (by decide) rfl (fun h5 => ?_) (fun h5 => ?_)
    · refine zx_iconst (v := 0) (nn := 29) rfl dX11_isName_28 rfl ?_
      rw [show (decide (gTk T len k = 1) && decide ((tP T len (k + 1) - tS T len k) = zLn.getD w 0)) = false from by rw [decide_eq_false h5]; rfl] at J29
      exact J29
    · refine zx_aload_n (k := 0) (nn := 9) dX11_isName_8 rfl rfl rfl ?_
      refine zx_getI (nn := 12) flX11_161 rfl rfl dX11_isName_9 rfl ?_
      rw [show μ 0 8 = nI (tP T len (k + 1)) from s4]
      show zX shR σ 4 MX11_isName 12 [(0, zr 0), (1, zr (200 + w))] [zi (nI (tP T len (k + 1)))] μ _
      refine zx_aload_n (k := 0) (nn := 13) dX11_isName_12 rfl rfl rfl ?_
      refine zx_getI (nn := 16) flX11_164 rfl rfl dX11_isName_13 rfl ?_
      rw [show μ 0 9 = nI (tS T len k) from s3]
      show zX shR σ 4 MX11_isName 16 [(0, zr 0), (1, zr (200 + w))] [zi (nI (tS T len k)), zi (nI (tP T len (k + 1)))] μ _
      refine zx_isub (nn := 17) dX11_isName_16 rfl ?_
      rw [show (nI (tP T len (k + 1))) - (nI (tS T len k)) = nI (tP T len (k + 1) - tS T len k) from nI_subN hm]
      show zX shR σ 4 MX11_isName 17 [(0, zr 0), (1, zr (200 + w))] [zi (nI (tP T len (k + 1) - tS T len k))] μ _
      refine zx_aload_n (k := 1) (nn := 18) dX11_isName_17 rfl rfl rfl ?_
      refine zx_callTf (nn := 21) (i := w) (d' := 1) (as := []) (rest := [zi (nI (tP T len (k + 1) - tS T len k))]) (n := 0) (eJ0_length shR σ μ w hw) kJ0_length_8abf5 rfl mlX11_182 hw (by decide) rfl rfl (Nat.le_of_ble_eq_true rfl) dX11_isName_18 rfl ?_
      show zX shR σ 4 MX11_isName 21 [(0, zr 0), (1, zr (200 + w))] [zi (nI (zLn.getD w 0)), zi (nI (tP T len (k + 1) - tS T len k))] μ _
      refine zx_icmp_ne (tgt := 28) (nn := 24) dX11_isName_21 (by decide) rfl (fun h21 => ?_) (fun h21 => ?_)
      · refine zx_iconst (v := 0) (nn := 29) rfl dX11_isName_28 rfl ?_
        rw [show (decide (gTk T len k = 1) && decide ((tP T len (k + 1) - tS T len k) = zLn.getD w 0)) = false from by rw [decide_eq_true h5, decide_eq_false (fun q => h21 (by rw [q]))]; rfl] at J29
        exact J29
      · refine zx_iconst (v := 1) (nn := 25) rfl dX11_isName_24 rfl ?_
        refine zx_goto (tgt := 29) dX11_isName_25 (by decide) ?_
        rw [show (decide (gTk T len k = 1) && decide ((tP T len (k + 1) - tS T len k) = zLn.getD w 0)) = true from by rw [decide_eq_true h5, decide_eq_true ((nI_eq (by omega) (by omega)).mp h21)]; rfl] at J29
        exact J29
  refine zx_istore_n (nn := 30) (lv' := [(2, zi (zb (decide (gTk T len k = 1) && decide ((tP T len (k + 1) - tS T len k) = zLn.getD w 0)))), (0, zr 0), (1, zr (200 + w))]) dX11_isName_29 rfl (by decide) rfl rfl ?_
  refine zx_iconst (v := 0) (nn := 31) rfl dX11_isName_30 rfl ?_
  refine zx_istore_n (nn := 32) (lv' := [(3, zi 0), (2, zi (zb (decide (gTk T len k = 1) && decide ((tP T len (k + 1) - tS T len k) = zLn.getD w 0)))), (0, zr 0), (1, zr (200 + w))]) dX11_isName_31 rfl (by decide) rfl rfl ?_
  refine zx_lv (lv' := [(0, zr 0), (1, zr (200 + w)), (2, zi (zb (decide (gTk T len k = 1) && decide ((tP T len (k + 1) - tS T len k) = zLn.getD w 0)))), (3, zi 0)]) [2, 3, 1, 0] rfl ?_
  refine zx_while (τ := Nat × Bool) (fun t_ => zLn.getD w 0 - t_.1) (fun t_ => t_.1 ≤ zLn.getD w 0 ∧ t_.2 = ((decide (gTk T len k = 1) && decide ((tP T len (k + 1) - tS T len k) = zLn.getD w 0)) && tAll (fun j_ => decide (T ((tS T len k) + j_) = (zBy.getD w []).getD j_ 0)) t_.1)) (fun t_ => [(0, zr 0), (1, zr (200 + w)), (2, zi (zb t_.2)), (3, zi (nI t_.1))]) (fun t_ => μ) (t0 := (0, (decide (gTk T len k = 1) && decide ((tP T len (k + 1) - tS T len k) = zLn.getD w 0)))) (show 0 ≤ zLn.getD w 0 ∧ (decide (gTk T len k = 1) && decide ((tP T len (k + 1) - tS T len k) = zLn.getD w 0)) = ((decide (gTk T len k = 1) && decide ((tP T len (k + 1) - tS T len k) = zLn.getD w 0)) && tAll (fun j_ => decide (T ((tS T len k) + j_) = (zBy.getD w []).getD j_ 0)) 0) from ⟨Nat.zero_le _, (Bool.and_true _).symm⟩) ?_
  rintro ⟨j, b⟩ hI ih32
  replace hI : j ≤ zLn.getD w 0 ∧ b = ((decide (gTk T len k = 1) && decide ((tP T len (k + 1) - tS T len k) = zLn.getD w 0)) && tAll (fun j_ => decide (T ((tS T len k) + j_) = (zBy.getD w []).getD j_ 0)) j) := hI
  show zX shR σ 4 MX11_isName 32 [(0, zr 0), (1, zr (200 + w)), (2, zi (zb b)), (3, zi (nI j))] [] μ _
  refine zx_iload_n (k := 3) (nn := 33) dX11_isName_32 rfl rfl rfl ?_
  refine zx_aload_n (k := 1) (nn := 34) dX11_isName_33 rfl rfl rfl ?_
  refine zx_callTf (nn := 37) (i := w) (d' := 1) (as := []) (rest := [zi (nI j)]) (n := 0) (eJ0_length shR σ μ w hw) kJ0_length_8abf5 rfl mlX11_182 hw (by decide) rfl rfl (Nat.le_of_ble_eq_true rfl) dX11_isName_34 rfl ?_
  show zX shR σ 4 MX11_isName 37 [(0, zr 0), (1, zr (200 + w)), (2, zi (zb b)), (3, zi (nI j))] [zi (nI (zLn.getD w 0)), zi (nI j)] μ _
  refine zx_icmp_ge (tgt := 75) (nn := 40) dX11_isName_37 (by decide) rfl (fun h37 => ?_) (fun h37 => ?_)
  · refine zx_iload_n (k := 2) (nn := 76) dX11_isName_75 rfl rfl rfl ?_
    refine zx_zret rfl (zb_nar _) dX11_isName_76 ?_
    have hE : (decide (gTk T len k = 1) && tIs T (tS T len k) (tP T len (k + 1) - tS T len k) w) = b := by
      unfold tIs
      rw [← Bool.and_assoc]
      have hge : zLn.getD w 0 ≤ j := nI_le_le h37 (by omega)
      rw [hI.2, show j = zLn.getD w 0 by omega]
      by_cases z : (tP T len (k + 1) - tS T len k) = zLn.getD w 0
      · rw [z]
      · rw [decide_eq_false z]; simp
    refine ⟨congrArg (fun x => some (zi x)) ?_, rfl⟩
    rw [← is_K hX hw, hE]
  · have hlt : j < zLn.getD w 0 := nI_nle_lt h37 (by omega)
    refine zx_iload_n (k := 2) (nn := 41) dX11_isName_40 rfl rfl rfl ?_
    refine zx_ifb_eq (tgt := 75) (nn := 44) dX11_isName_41 (by decide) rfl (fun h41 => ?_) (fun h41 => ?_)
    · refine zx_iload_n (k := 2) (nn := 76) dX11_isName_75 rfl rfl rfl ?_
      refine zx_zret rfl (zb_nar _) dX11_isName_76 ?_
      have hE : (decide (gTk T len k = 1) && tIs T (tS T len k) (tP T len (k + 1) - tS T len k) w) = b := by
        unfold tIs
        rw [← Bool.and_assoc]
        have hb := hI.2
        rw [h41] at hb ⊢
        by_cases z : (tP T len (k + 1) - tS T len k) = zLn.getD w 0
        · rw [z] at hb ⊢
          cases y : (decide (gTk T len k = 1) && decide (zLn.getD w 0 = zLn.getD w 0)) with
          | false => rfl
          | true =>
            rw [y, Bool.true_and] at hb
            rw [Bool.true_and]
            exact tAll_mono hb.symm hI.1
        · rw [decide_eq_false z]; simp
      refine ⟨congrArg (fun x => some (zi x)) ?_, rfl⟩
      rw [← is_K hX hw, hE]
    · have hin : (tP T len (k + 1) - tS T len k) = zLn.getD w 0 := by have hb := hI.2; rw [h41] at hb; exact of_decide_eq_true ((Bool.and_eq_true _ _).mp ((Bool.and_eq_true _ _).mp hb.symm).1).2
      refine zx_aload_n (k := 0) (nn := 45) dX11_isName_44 rfl rfl rfl ?_
      refine zx_getR (q := 5) (nn := 48) flX11_22 rfl rfl dX11_isName_45 rfl ?_
      refine zx_aload_n (k := 0) (nn := 49) dX11_isName_48 rfl rfl rfl ?_
      refine zx_getI (nn := 52) flX11_164 rfl rfl dX11_isName_49 rfl ?_
      rw [show μ 0 9 = nI (tS T len k) from s3]
      show zX shR σ 4 MX11_isName 52 [(0, zr 0), (1, zr (200 + w)), (2, zi (zb b)), (3, zi (nI j))] [zi (nI (tS T len k)), zr 5] μ _
      refine zx_iload_n (k := 3) (nn := 53) dX11_isName_52 rfl rfl rfl ?_
      refine zx_iadd (nn := 54) dX11_isName_53 rfl ?_
      rw [show (nI (tS T len k)) + (nI j) = nI (tS T len k + j) from nI_add _ j]
      show zX shR σ 4 MX11_isName 54 [(0, zr 0), (1, zr (200 + w)), (2, zi (zb b)), (3, zi (nI j))] [zi (nI (tS T len k + j)), zr 5] μ _
      refine zx_iald_n (j := tS T len k + j) (nn := 55) rfl (by omega) (by decide) dX11_isName_54 rfl ?_
      rw [show μ 5 (tS T len k + j) = T (tS T len k + j) from s2 _ (by omega)]
      show zX shR σ 4 MX11_isName 55 [(0, zr 0), (1, zr (200 + w)), (2, zi (zb b)), (3, zi (nI j))] [zi (T (tS T len k + j))] μ _
      refine zx_aload_n (k := 1) (nn := 56) dX11_isName_55 rfl rfl rfl ?_
      refine zx_iload_n (k := 3) (nn := 57) dX11_isName_56 rfl rfl rfl ?_
      refine zx_callTf (nn := 60) (i := w) (d' := 3) (as := [zi (nI j)]) (rest := [zi (T (tS T len k + j))]) (n := 1) (eJ0_charAt shR σ μ w j hw hlt) kJ0_charAt_5068e rfl mlX11_187 hw (by decide) rfl rfl (Nat.le_of_ble_eq_true rfl) dX11_isName_57 rfl ?_
      show zX shR σ 4 MX11_isName 60 [(0, zr 0), (1, zr (200 + w)), (2, zi (zb b)), (3, zi (nI j))] [zi ((zBy.getD w []).getD j 0), zi (T (tS T len k + j))] μ _
      refine zx_icmp_ne (tgt := 67) (nn := 63) dX11_isName_60 (by decide) rfl (fun h60 => ?_) (fun h60 => ?_)
      · refine zx_iconst (v := 0) (nn := 68) rfl dX11_isName_67 rfl ?_
        refine zx_istore_n (nn := 69) (lv' := [(2, zi 0), (0, zr 0), (1, zr (200 + w)), (3, zi (nI j))]) dX11_isName_68 rfl (by decide) rfl rfl ?_
        refine zx_iinc (k := 3) (v := nI (j + 1)) (lv' := [(3, zi (nI (j + 1))), (2, zi 0), (0, zr 0), (1, zr (200 + w))]) (nn := 72) dX11_isName_69 rfl (nI_1 j) (by decide) rfl rfl ?_
        refine zx_goto (tgt := 32) dX11_isName_72 (by decide) ?_
        refine zx_lv (lv' := [(0, zr 0), (1, zr (200 + w)), (2, zi 0), (3, zi (nI (j + 1)))]) [2, 3, 1, 0] rfl ?_
        exact ih32 (j + 1, false) (show (j + 1) ≤ zLn.getD w 0 ∧ false = ((decide (gTk T len k = 1) && decide ((tP T len (k + 1) - tS T len k) = zLn.getD w 0)) && tAll (fun j_ => decide (T ((tS T len k) + j_) = (zBy.getD w []).getD j_ 0)) (j + 1)) from ⟨by omega, by have hb := hI.2; rw [h41] at hb; show _ = ((decide (gTk T len k = 1) && decide ((tP T len (k + 1) - tS T len k) = zLn.getD w 0)) && (tAll (fun j_ => decide (T ((tS T len k) + j_) = (zBy.getD w []).getD j_ 0)) j && decide (T ((tS T len k) + j) = (zBy.getD w []).getD j 0))); rw [← Bool.and_assoc, ← hb, decide_eq_false h60]; rfl⟩) (by show zLn.getD w 0 - (j + 1) < zLn.getD w 0 - j; omega)
      · refine zx_iconst (v := 1) (nn := 64) rfl dX11_isName_63 rfl ?_
        refine zx_goto (tgt := 68) dX11_isName_64 (by decide) ?_
        refine zx_istore_n (nn := 69) (lv' := [(2, zi 1), (0, zr 0), (1, zr (200 + w)), (3, zi (nI j))]) dX11_isName_68 rfl (by decide) rfl rfl ?_
        refine zx_iinc (k := 3) (v := nI (j + 1)) (lv' := [(3, zi (nI (j + 1))), (2, zi 1), (0, zr 0), (1, zr (200 + w))]) (nn := 72) dX11_isName_69 rfl (nI_1 j) (by decide) rfl rfl ?_
        refine zx_goto (tgt := 32) dX11_isName_72 (by decide) ?_
        refine zx_lv (lv' := [(0, zr 0), (1, zr (200 + w)), (2, zi 1), (3, zi (nI (j + 1)))]) [2, 3, 1, 0] rfl ?_
        exact ih32 (j + 1, true) (show (j + 1) ≤ zLn.getD w 0 ∧ true = ((decide (gTk T len k = 1) && decide ((tP T len (k + 1) - tS T len k) = zLn.getD w 0)) && tAll (fun j_ => decide (T ((tS T len k) + j_) = (zBy.getD w []).getD j_ 0)) (j + 1)) from ⟨by omega, by have hb := hI.2; rw [h41] at hb; show _ = ((decide (gTk T len k = 1) && decide ((tP T len (k + 1) - tS T len k) = zLn.getD w 0)) && (tAll (fun j_ => decide (T ((tS T len k) + j_) = (zBy.getD w []).getD j_ 0)) j && decide (T ((tS T len k) + j) = (zBy.getD w []).getD j 0))); rw [← Bool.and_assoc, ← hb, decide_eq_true h60]; rfl⟩) (by show zLn.getD w 0 - (j + 1) < zLn.getD w 0 - j; omega)
