/-! what the class's codes and the reference's pairs come to is the same -/
def gRunL (F : Nat → Int32) : List (Int32 × Int32) → List Int32 → Option (List Int32)
  | [], st => some st
  | q :: l, st => match rStep F q.1 q.2 st with
    | none => none
    | some t => gRunL F l t
theorem gRunL_app {F : Nat → Int32} : ∀ {a b : List (Int32 × Int32)} {st t : List Int32}, gRunL F a st = some t → gRunL F (a ++ b) st = gRunL F b t
  | [], b, st, t, h => by
    have : st = t := Option.some.inj h
    rw [this]; rfl
  | q :: a, b, st, t, h => by
    show (match rStep F q.1 q.2 st with
      | none => none
      | some t => gRunL F (a ++ b) t) = _
    have h2 : (match rStep F q.1 q.2 st with
      | none => none
      | some t => gRunL F a t) = some t := h
    cases e : rStep F q.1 q.2 st with
    | none => rw [e] at h2; cases h2
    | some u =>
      rw [e] at h2
      exact gRunL_app (a := a) h2
theorem rRun_L {F c : Nat → Int32} : ∀ {l : List (Int32 × Int32)} {k : Nat} {st : List Int32}, (∀ j, j < l.length → c (111 + 2 * (k + j)) = (l.getD j (0, 0)).1 ∧ c (111 + 2 * (k + j) + 1) = (l.getD j (0, 0)).2) → rRun F c k l.length st = gRunL F l st
  | [], _, _, _ => rfl
  | q :: l, k, st, h => by
    have h0 := h 0 (by simp)
    have ih : ∀ t, rRun F c (k + 1) l.length t = gRunL F l t := fun t => rRun_L (fun j hj => by
      have := h (j + 1) (by simp; omega)
      rw [show k + 1 + j = k + (j + 1) by omega]
      exact this)
    show (match rStep F (c (111 + 2 * k)) (c (111 + 2 * k + 1)) st with
      | none => none
      | some t => rRun F c (k + 1) l.length t) = (match rStep F q.1 q.2 st with
      | none => none
      | some t => gRunL F l t)
    rw [show c (111 + 2 * k) = q.1 from h0.1, show c (111 + 2 * k + 1) = q.2 from h0.2]
    cases rStep F q.1 q.2 st with
    | none => rfl
    | some t => exact ih t
def pVl (F : Nat → Int32) (cs : List Int32) (rs : List (Int32 × Int32)) (v : Int32) : Prop := (∀ st, cRunL F cs st = v :: st) ∧ ∀ st, gRunL F rs st = some (v :: st)
def pCd (F : Nat → Int32) (a : pC) : Prop := a.1 = true → ∃ b : Bool, pVl F a.2.2.1 a.2.2.2 (zb b)
theorem pVl.bin {F : Nat → Int32} {c1 c2 : List Int32} {r1 r2 : List (Int32 × Int32)} {x y v c w u : Int32} (h1 : pVl F c1 r1 x) (h2 : pVl F c2 r2 y) (hc : ∀ st, cStep F c (y :: x :: st) = v :: st) (hr : ∀ st, rStep F w u (y :: x :: st) = some (v :: st)) : pVl F (c1 ++ (c2 ++ [c])) (r1 ++ (r2 ++ [(w, u)])) v := by
  refine ⟨fun st => ?_, fun st => ?_⟩
  · rw [cRunL_app, h1.1, cRunL_app, h2.1]
    exact hc st
  · rw [gRunL_app (h1.2 st), gRunL_app (h2.2 _)]
    show (match rStep F w u (y :: x :: st) with
      | none => none
      | some t => gRunL F [] t) = _
    rw [hr st]
    rfl
theorem val_c {F K V : Nat → Int32} (hV : ∀ k, K k = -2 → 0 ≤ V k) (k : Nat) (h : (rVal K V k).1 = true) : ∃ v, pVl F (rVal K V k).2.2.1 (rVal K V k).2.2.2 v := by
  unfold rVal at h ⊢
  by_cases a : K k = -2
  · rw [if_pos a]
    have h0 := hV k a
    have n6 : ¬ V k ≤ -6 := fun q => absurd (Int32.le_trans h0 q) (by decide)
    refine ⟨V k, fun st => ?_, fun st => ?_⟩
    · show cStep F (V k) st = _
      unfold cStep cVal
      rw [if_neg n6, if_neg (Int32.not_lt.mpr h0)]
    · show (match rStep F 0 (V k) st with
        | none => none
        | some t => gRunL F [] t) = _
      rfl
  · rw [if_neg a] at h ⊢
    by_cases b : 0 ≤ K k - 269 ∧ K k - 269 < 5
    · rw [if_pos b]
      generalize K k - 269 = j at b ⊢
      have e1 := Int32.le_iff_toInt_le.mp b.1
      have e2 := Int32.lt_iff_toInt_lt.mp b.2
      rw [zt0] at e1
      rw [zt5] at e2
      have e3 : (-1 - j).toInt = -1 - j.toInt := by
        rw [Int32.toInt_sub, ztm1]
        exact Int.bmod_eq_of_le (by omega) (by omega)
      have n6 : ¬ -1 - j ≤ -6 := fun q => by
        have := Int32.le_iff_toInt_le.mp q
        rw [e3, show (-6 : Int32).toInt = -6 by decide +kernel] at this
        omega
      have n0 : -1 - j < 0 := by
        rw [Int32.lt_iff_toInt_lt, e3, zt0]
        omega
      have n1 : -1 - (-1 - j) = j := by
        apply Int32.toInt_inj.mp
        rw [Int32.toInt_sub, e3, ztm1, Int.bmod_eq_of_le (by omega) (by omega)]
        omega
      refine ⟨F j.toNatClampNeg, fun st => ?_, fun st => ?_⟩
      · show cStep F (-1 - j) st = _
        unfold cStep cVal
        rw [if_neg n6, if_pos n0, n1]
      · show (match rStep F 1 j st with
          | none => none
          | some t => gRunL F [] t) = _
        have e : rStep F 1 j st = some (F j.toNatClampNeg :: st) := by
          unfold rStep
          rw [if_neg (by decide), if_pos rfl, if_pos b.1]
        rw [e]
        rfl
    · rw [if_neg b] at h
      cases h
theorem rStep_b {F : Nat → Int32} {w u x y : Int32} {st : List Int32} (hw : w = 2 ∨ w = 4 ∨ w = 5) : rStep F w u (y :: x :: st) = some (zb (gJoin w u x y) :: st) := by
  unfold rStep
  rw [if_neg (by rcases hw with rfl | rfl | rfl <;> decide), if_neg (by rcases hw with rfl | rfl | rfl <;> decide), if_neg (by rcases hw with rfl | rfl | rfl <;> decide), if_pos hw]
theorem cStep_b {F : Nat → Int32} {c x y : Int32} {st : List Int32} (h6 : c ≤ -6) (h9 : ¬ c = -9) : cStep F c (y :: x :: st) = cComb c x y :: st := by
  unfold cStep
  rw [if_pos h6, if_neg h9]
theorem test_c {F K V : Nat → Int32} (hV : ∀ k, K k = -2 → 0 ≤ V k) (k : Nat) : pCd F (rTest K V k) := by
  intro h
  unfold rTest at h ⊢
  by_cases a : (rVal K V k).1 = true
  · rw [if_pos a] at h ⊢
    by_cases b : rSign (K (rVal K V k).2.1) = 0
    · rw [if_pos b] at h; cases h
    · rw [if_neg b] at h ⊢
      by_cases d : (rVal K V ((rVal K V k).2.1 + 1)).1 = true
      · rw [if_pos d]
        obtain ⟨x, hx⟩ := val_c (F := F) hV k a
        obtain ⟨y, hy⟩ := val_c (F := F) hV _ d
        generalize K (rVal K V k).2.1 = s at b ⊢
        refine ⟨gJoin 2 s x y, pVl.bin hx hy (fun st => ?_) (fun st => rStep_b (Or.inl rfl))⟩
        have hs : s = 60 ∨ s = 61 ∨ s = 62 := by
          unfold rSign at b
          by_cases s1 : s = 60
          · exact Or.inl s1
          · rw [if_neg s1] at b
            by_cases s2 : s = 61
            · exact Or.inr (Or.inl s2)
            · rw [if_neg s2] at b
              by_cases s3 : s = 62
              · exact Or.inr (Or.inr s3)
              · rw [if_neg s3] at b; exact absurd rfl b
        rcases hs with rfl | rfl | rfl
        · rw [show rSign 60 = -6 from rfl, cStep_b (by decide) (by decide)]; rfl
        · rw [show rSign 61 = -7 from rfl, cStep_b (by decide) (by decide)]; rfl
        · rw [show rSign 62 = -8 from rfl, cStep_b (by decide) (by decide)]; rfl
      · rw [if_neg d] at h; cases h
  · rw [if_neg a] at h; cases h
theorem core_c {F K V : Nat → Int32} (hV : ∀ k, K k = -2 → 0 ≤ V k) {any : Nat → pC} {may : Bool} (ha : may = true → ∀ k, pCd F (any k)) (k : Nat) : pCd F (rCore K V any may k) := by
  intro h
  unfold rCore at h ⊢
  by_cases a : K k = 40
  · rw [if_pos a] at h ⊢
    by_cases b : may = true
    · rw [if_pos b] at h ⊢
      by_cases d : (any (k + 1)).1 = true ∧ K (any (k + 1)).2.1 = 41
      · rw [if_pos d]
        exact ha b (k + 1) d.1
      · rw [if_neg d] at h; cases h
    · rw [if_neg b] at h; cases h
  · rw [if_neg a] at h ⊢
    exact test_c hV k h
theorem nots_c {F : Nat → Int32} {st : List Int32} : ∀ (n : Nat) (b : Bool), gRunL F (List.replicate n (3, 0)) (zb b :: st) = some (zb (if n % 2 = 1 then !b else b) :: st)
  | 0, b => rfl
  | n + 1, b => by
    have e : rStep F 3 0 (zb b :: st) = some (zb (!b) :: st) := by
      unfold rStep
      rw [if_neg (by decide), if_neg (by decide), if_pos rfl]
      cases b <;> rfl
    show (match rStep F 3 0 (zb b :: st) with
      | none => none
      | some t => gRunL F (List.replicate n (3, 0)) t) = _
    rw [e]
    show gRunL F (List.replicate n (3, 0)) (zb (!b) :: st) = _
    rw [nots_c n (!b)]
    by_cases q : n % 2 = 1
    · rw [if_pos q, if_neg (by omega), Bool.not_not]
    · rw [if_neg q, if_pos (by omega)]
theorem one_c {F K V : Nat → Int32} (hV : ∀ k, K k = -2 → 0 ≤ V k) {any : Nat → pC} {may : Bool} (ha : may = true → ∀ k, pCd F (any k)) (k : Nat) : pCd F (rOne K V any may k) := by
  intro h
  unfold rOne at h ⊢
  by_cases a : (rCore K V any may (k + rNots K 200 k)).1 = true
  · rw [if_pos a]
    obtain ⟨b, h1, h2⟩ := core_c (F := F) hV ha _ a
    refine ⟨if rNots K 200 k % 2 = 1 then !b else b, fun st => ?_, fun st => ?_⟩
    · rw [cRunL_app, h1]
      by_cases q : rNots K 200 k % 2 = 1
      · rw [if_pos q, if_pos q]
        show cStep F (-9) (zb b :: st) = _
        unfold cStep
        rw [if_pos (by decide), if_pos rfl]
        cases b <;> rfl
      · rw [if_neg q, if_neg q]
        rfl
    · rw [gRunL_app (h2 st)]
      exact nots_c _ b
  · rw [if_neg a] at h; cases h
theorem more_c {F K : Nat → Int32} {one : Nat → pC} {sep x rc : Int32} (h1 : ∀ k, pCd F (one k)) (hx : (x = -10 ∧ rc = 4) ∨ (x = -11 ∧ rc = 5)) : ∀ (m : Nat) (a : pC), a.1 = true → pCd F a → pCd F (rMore K one sep x rc m a)
  | 0, a, _, h => h
  | m + 1, a, ha, h => by
    by_cases q : K a.2.1 = sep
    · cases r : (one (a.2.1 + 1)).1 with
      | false => rw [rMore_f q r]; intro z; cases z
      | true =>
        rw [rMore_s q r]
        refine more_c h1 hx m _ rfl (fun _ => ?_)
        obtain ⟨b1, g1⟩ := h ha
        obtain ⟨b2, g2⟩ := h1 _ r
        rcases hx with ⟨rfl, rfl⟩ | ⟨rfl, rfl⟩
        · refine ⟨b1 && b2, pVl.bin g1 g2 (fun st => ?_) (fun st => ?_)⟩
          · rw [cStep_b (by decide) (by decide)]
            cases b1 <;> cases b2 <;> rfl
          · rw [rStep_b (Or.inr (Or.inl rfl))]
            cases b1 <;> cases b2 <;> rfl
        · refine ⟨b1 || b2, pVl.bin g1 g2 (fun st => ?_) (fun st => ?_)⟩
          · rw [cStep_b (by decide) (by decide)]
            cases b1 <;> cases b2 <;> rfl
          · rw [rStep_b (Or.inr (Or.inr rfl))]
            cases b1 <;> cases b2 <;> rfl
    · rw [rMore_n q]; exact h
theorem join_c {F K : Nat → Int32} {one : Nat → pC} {sep x rc : Int32} (h1 : ∀ k, pCd F (one k)) (hx : (x = -10 ∧ rc = 4) ∨ (x = -11 ∧ rc = 5)) (k : Nat) : pCd F (rJoin K one sep x rc k) := by
  intro h
  unfold rJoin at h ⊢
  by_cases q : (one k).1 = true
  · rw [if_pos q] at h ⊢
    exact more_c h1 hx 200 _ q (h1 k) h
  · rw [if_neg q] at h; cases h
theorem cond_c {F K V : Nat → Int32} (hV : ∀ k, K k = -2 → 0 ≤ V k) : ∀ o k, pCd F (rCond K V o k)
  | 0, k => join_c (join_c (one_c hV (fun h => by cases h)) (Or.inl ⟨rfl, rfl⟩)) (Or.inr ⟨rfl, rfl⟩) k
  | o + 1, k => join_c (join_c (one_c hV (fun _ => cond_c hV o)) (Or.inl ⟨rfl, rfl⟩)) (Or.inr ⟨rfl, rfl⟩) k
/-- what a rule lays is well laid -/
def pRq (q : pRl) : Prop := ((q.2.1 = [] ∧ q.2.2 = []) ∨ ∀ F, ∃ b : Bool, pVl F q.2.1 q.2.2 (zb b)) ∧ (q.1.2.1 = 265 ∨ ((q.1.2.1 = 263 ∨ q.1.2.1 = 264) ∧ ∃ n, n ≤ 99 ∧ q.1.2.2 = nI n))
theorem rule_c {K V : Nat → Int32} (hV : ∀ k, K k = -2 → 0 ≤ V k) (k : Nat) (h : (rRule K V k).1 = true) : pRq (rRule K V k).2.2 := by
  by_cases h1 : 0 ≤ K k - 256 ∧ K k - 256 ≤ 5
  · by_cases h2 : (rCnd K V k).1 = true
    · rw [rule_d h1 h2] at h ⊢
      by_cases h3 : (rDo K V (rCnd K V k).2.1).1 = true
      · rw [if_pos h3] at h ⊢
        unfold rFin at h ⊢
        by_cases h4 : K (rDo K V (rCnd K V k).2.1).2.1 = 59
        · rw [if_pos h4]
          refine ⟨?_, ?_⟩
          · show ((rCnd K V k).2.2.1 = [] ∧ (rCnd K V k).2.2.2 = []) ∨ ∀ F, ∃ b : Bool, pVl F (rCnd K V k).2.2.1 (rCnd K V k).2.2.2 (zb b)
            unfold rCnd at h2 ⊢
            by_cases c : K (k + 1) = 262
            · rw [if_pos c] at h2 ⊢
              exact Or.inr (fun F => cond_c hV 3 (k + 2) h2)
            · rw [if_neg c]
              exact Or.inl ⟨rfl, rfl⟩
          · show (rDo K V (rCnd K V k).2.1).2.2.1 = 265 ∨ (((rDo K V (rCnd K V k).2.1).2.2.1 = 263 ∨ (rDo K V (rCnd K V k).2.1).2.2.1 = 264) ∧ ∃ n, n ≤ 99 ∧ (rDo K V (rCnd K V k).2.1).2.2.2 = nI n)
            generalize (rCnd K V k).2.1 = c at h3 ⊢
            unfold rDo at h3 ⊢
            by_cases a : K c = 265
            · rw [if_pos a]; exact Or.inl rfl
            · rw [if_neg a] at h3 ⊢
              by_cases b : K c = 263 ∨ K c = 264
              · rw [if_pos b] at h3 ⊢
                by_cases d : K (c + 1) = -2 ∧ V (c + 1) ≤ 99
                · rw [if_pos d]
                  refine Or.inr ⟨b, ?_⟩
                  obtain ⟨n, ⟨hn, _⟩, e⟩ := pIn_n (v := V (c + 1)) (a := 0) (b := 99) (by omega) (by decide) (by unfold pIn; rw [decide_eq_true (hV _ d.1), decide_eq_true (show V (c + 1) ≤ nI 99 from d.2)]; rfl)
                  exact ⟨n, hn, e⟩
                · rw [if_neg d] at h3; cases h3
              · rw [if_neg b] at h3; cases h3
        · rw [if_neg h4] at h; cases h
      · rw [if_neg h3] at h; cases h
    · unfold rRule at h
      rw [if_pos h1, if_neg h2] at h; cases h
  · unfold rRule at h
    rw [if_neg h1] at h; cases h
theorem rules_c {K V : Nat → Int32} (hV : ∀ k, K k = -2 → 0 ≤ V k) : ∀ (m k : Nat) (L : List pRl), (∀ q ∈ L, pRq q) → ∀ q ∈ (rRules K V m k L).2.2, pRq q
  | 0, k, L, h => h
  | m + 1, k, L, h => by
    by_cases a : K k = -1
    · rw [rules_e a]; exact h
    · cases b : (rRule K V k).1 with
      | true =>
        rw [rules_s a b]
        refine rules_c hV m _ _ (fun q hq => ?_)
        rcases List.mem_append.mp hq with z | z
        · exact h q z
        · rw [List.mem_singleton.mp z]
          exact rule_c hV k b
      | false =>
        rw [rules_f a b]
        intro q hq
        cases hq
theorem run_in {f : Int32 → Bool} {T : Nat → Int32} : ∀ {m p j : Nat}, p ≤ p + j → j < tRun f T m p - p → f (T (p + j)) = true
  | 0, p, j, _, h => absurd h (by show ¬ j < p - p; omega)
  | m + 1, p, j, _, h => by
    have h2 : j < (if f (T p) = true then tRun f T m (p + 1) else p) - p := h
    by_cases q : f (T p) = true
    · rw [if_pos q] at h2
      rcases Nat.eq_zero_or_pos j with z | z
      · rw [z]; exact q
      · have := run_in (f := f) (T := T) (m := m) (p := p + 1) (j := j - 1) (by omega) (by omega)
        rw [show p + 1 + (j - 1) = p + j by omega] at this
        exact this
    · rw [if_neg q] at h2; omega
theorem tVal_b {T : Nat → Int32} {p : Nat} : ∀ n, (∀ j, j < n → tD (T (p + j)) = true) → 0 ≤ (tVal T p n).toInt ∧ (tVal T p n).toInt < 10 ^ (min n 4)
  | 0, _ => by
    show 0 ≤ (0 : Int32).toInt ∧ (0 : Int32).toInt < 1
    rw [zt0]; omega
  | n + 1, h => by
    have ih := tVal_b n (fun j hj => h j (by omega))
    have hd := h n (by omega)
    unfold tD pIn at hd
    rw [Bool.and_eq_true, decide_eq_true_eq, decide_eq_true_eq, Int32.le_iff_toInt_le, Int32.le_iff_toInt_le, show (48 : Int32).toInt = 48 by decide +kernel, show (57 : Int32).toInt = 57 by decide +kernel] at hd
    show 0 ≤ (if n < 4 then tVal T p n * 10 + T (p + n) - 48 else tVal T p n).toInt ∧ (if n < 4 then tVal T p n * 10 + T (p + n) - 48 else tVal T p n).toInt < 10 ^ (min (n + 1) 4)
    by_cases q : n < 4
    · rw [if_pos q]
      have hp : (tVal T p n).toInt < 1000 := by
        rcases (show n = 0 ∨ n = 1 ∨ n = 2 ∨ n = 3 by omega) with rfl | rfl | rfl | rfl <;> (simp at ih; omega)
      have e : (tVal T p n * 10 + T (p + n) - 48).toInt = (tVal T p n).toInt * 10 + (T (p + n)).toInt - 48 := by
        rw [Int32.toInt_sub, Int32.toInt_add, Int32.toInt_mul, zt10, show (48 : Int32).toInt = 48 by decide +kernel]
        rw [Int.bmod_eq_of_le (n := (tVal T p n).toInt * 10) (by omega) (by omega), Int.bmod_eq_of_le (n := (tVal T p n).toInt * 10 + (T (p + n)).toInt) (by omega) (by omega), Int.bmod_eq_of_le (by omega) (by omega)]
      rw [e]
      refine ⟨by omega, ?_⟩
      clear e h hp
      generalize (T (p + n)).toInt = d at hd ⊢
      generalize (tVal T p n).toInt = v at ih ⊢
      rcases (show n = 0 ∨ n = 1 ∨ n = 2 ∨ n = 3 by omega) with rfl | rfl | rfl | rfl <;> (simp at ih ⊢; omega)
    · rw [if_neg q, show min (n + 1) 4 = min n 4 by omega]
      exact ih
theorem tVal_0 {T : Nat → Int32} {p n : Nat} (h : ∀ j, j < n → tD (T (p + j)) = true) : 0 ≤ tVal T p n := by
  rw [Int32.le_iff_toInt_le, zt0]
  exact (tVal_b n h).1
theorem tV_0 {T : Nat → Int32} {len : Nat} (hX : gX T len) (k : Nat) (h : tK T len k = -2) : 0 ≤ tV T len k := by
  have hk := (K_2 hX).mpr h
  unfold gTk gTq at hk
  unfold tV tTok
  by_cases a : len ≤ tS T len k
  · rw [if_pos a] at hk; exact absurd hk (by decide)
  · rw [if_neg a] at hk ⊢
    by_cases b : tL (T (tS T len k)) = true
    · rw [if_pos b] at hk; exact absurd hk (by decide)
    · rw [if_neg b] at hk ⊢
      by_cases c : tD (T (tS T len k)) = true
      · rw [if_pos c] at hk ⊢
        exact tVal_0 (fun j hj => run_in (by omega) hj)
      · rw [if_neg c] at hk; exact absurd hk (by decide)
/-- the tables that a good reading leaves: row 1 holds the rules that the class's have -/
theorem gTb_rep {μ : zM} {L : List pRl} (h : gTb μ L) (h8 : L.length ≤ 8) (h200 : (gFl L).length ≤ 200) (hq : ∀ q ∈ L, pRq q) : rRep (rTbl L) (μ 1) := by
  obtain ⟨h1, h2, h3⟩ := h
  refine ⟨h1, h8, fun r hr => ?_⟩
  have hr : r < L.length := hr
  obtain ⟨g1, g2, g3, g4, g5⟩ := h2 r hr
  have hm : L.getD r pRl0 ∈ L := by
    rw [List.getD_eq_getElem?_getD, List.getElem?_eq_getElem hr]
    exact List.getElem_mem hr
  obtain ⟨hc, hd⟩ := hq _ hm
  have hf : gFl (L.take (r + 1)) = gFl (L.take r) ++ (L.getD r pRl0).2.2 := by
    rw [List.take_succ_eq_append_getElem hr, gFl_app, List.getD_eq_getElem?_getD, List.getElem?_eq_getElem hr]
    rfl
  have hl : gFl L = gFl (L.take (r + 1)) ++ gFl (L.drop (r + 1)) := by
    unfold gFl
    rw [← List.flatMap_append, List.take_append_drop]
  have hlen1 : (gFl (L.take (r + 1))).length = (gFl (L.take r)).length + (L.getD r pRl0).2.2.length := by rw [hf, List.length_append]
  have hlen2 : (gFl (L.take (r + 1))).length ≤ 200 := by
    have := congrArg List.length hl
    rw [List.length_append] at this
    omega
  refine ⟨g1.symm, ?_, (gFl (L.take r)).length, (gFl (L.take (r + 1))).length, by omega, hlen2, g4, g5, fun F => ⟨fun e => ?_, fun e => ?_⟩⟩
  · show (μ 1 (71 + 5 * r + 1) = 2 ∧ rShift (L.getD r pRl0) = 1000) ∨ _
    rcases hd with d | ⟨d, n, hn, hv⟩
    · exact Or.inl ⟨by rw [g2, d]; decide, by unfold rShift; rw [if_pos d]⟩
    · refine Or.inr ⟨n, hn, by rw [g3, hv], ?_⟩
      show (_ ∧ rShift (L.getD r pRl0) = nI n) ∨ (_ ∧ rShift (L.getD r pRl0) = -nI n)
      rcases d with d | d
      · exact Or.inl ⟨by rw [g2, d]; decide, by unfold rShift; rw [if_neg (by rw [d]; decide), if_pos d, hv]⟩
      · exact Or.inr ⟨by rw [g2, d]; decide, by unfold rShift; rw [if_neg (by rw [d]; decide), if_neg (by rw [d]; decide), hv]⟩
  · show cTrue (cRunL F (L.getD r pRl0).2.1 []) = true
    have h0 : (L.getD r pRl0).2.2 = [] := List.length_eq_zero_iff.mp (by omega)
    rcases hc with ⟨c1, _⟩ | c
    · rw [c1]; rfl
    · obtain ⟨b, hb⟩ := c F
      have := hb.2 []
      rw [h0] at this
      cases this
  · show ∃ v, _ ∧ cTrue (cRunL F (L.getD r pRl0).2.1 []) = _
    rcases hc with ⟨_, c2⟩ | c
    · exact absurd (by rw [hlen1, c2]; rfl) e
    · obtain ⟨b, hb1, hb2⟩ := c F
      refine ⟨zb b, ?_, ?_⟩
      · rw [show (gFl (L.take (r + 1))).length - (gFl (L.take r)).length = (L.getD r pRl0).2.2.length by omega]
        rw [rRun_L (fun j hj => ?_)]
        · exact hb2 []
        · have z := h3 ((gFl (L.take r)).length + j) (by rw [hl, List.length_append]; omega)
          have e1 : (gFl L).getD ((gFl (L.take r)).length + j) (0, 0) = (L.getD r pRl0).2.2.getD j (0, 0) := by
            rw [hl, getD_l2 (by omega), hf, getD_r2 (by omega)]
            rw [show (gFl (L.take r)).length + j - (gFl (L.take r)).length = j by omega]
          rw [e1] at z
          exact z
      · rw [hb1 []]
        show decide (¬ zb b = 0) = !decide (zb b = 0)
        cases b <;> rfl
