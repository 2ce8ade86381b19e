/-! WHAT THE SYSTEM IS, in numbers: s holds the stage by places (0 how many lamps, 1 beats, 2 the beat that comes, 3 score, 4 z, 5 rules, 6 reports, 7 + 4 l + w a lamp's, 31 + b where she is at a beat, 47 + 4 r + w a report's) -/
def pL (s : Nat → Int32) : Nat := (s 0).toNatClampNeg
def pB (s : Nat → Int32) : Nat := (s 1).toNatClampNeg
def pb (s : Nat → Int32) : Nat := (s 2).toNatClampNeg
def pW (v a b : Int32) : Int32 := if v < a then a else if b < v then b else v
def pHas (n l : Int32) : Bool := decide (0 ≤ l) && decide (l < n)
def pIn (v a b : Int32) : Bool := decide (a ≤ v) && decide (v ≤ b)
def pOver (s : Nat → Int32) : Bool := decide (s 1 ≤ s 2)
def pSeenAt (s : Nat → Int32) : Int32 := if 0 < s 2 then s 2 - 1 else 0
/-- where she is near a beat; ahead of the first one as at that, behind the last one as at that -/
def pNear (s : Nat → Int32) (b : Int32) : Int32 := if s 1 = 0 then 0 else if b ≤ 0 then s 31 else if b < s 1 then s (31 + b.toNatClampNeg) else s (31 + (s 1 - 1).toNatClampNeg)
def pSeen (s : Nat → Int32) : Int32 := pNear s (pSeenAt s)
def pUnder (k a : Int32) : Bool := decide (a = 0) || decide (k = a) || (decide (a = 2) && decide (k = 3)) || (decide (a = 4) && decide (k = 5))
def pFact (s : Nat → Int32) (l : Nat) : Nat → Int32 := fun i => if i = 0 then s 2 else if i = 1 then pSeen s else if i = 2 then s (7 + 4 * l + 1) else if i = 3 then s (7 + 4 * l + 2) else nI l
/-- rules: how many, the kind, the shift (1000: it waits), whether the condition holds by the facts -/
abbrev pR : Type := Nat × (Nat → Int32) × (Nat → Int32) × (Nat → (Nat → Int32) → Bool)
def pFirst (f : Nat → Bool) : Nat → Nat → Option Nat
  | _, 0 => none
  | r, m + 1 => if f r then some r else pFirst f (r + 1) m
def pHit (ρ : pR) (s : Nat → Int32) (l : Nat) (r : Nat) : Bool := pUnder (s (7 + 4 * l)) (ρ.2.1 r) && ρ.2.2.2 r (pFact s l)
def pGoal (ρ : pR) (s : Nat → Int32) (l : Nat) : Int32 := match pFirst (pHit ρ s l) 0 ρ.1 with
  | none => pSeen s
  | some r => if ρ.2.2.1 r = 1000 then 41 else pNear s (pSeenAt s + ρ.2.2.1 r)
def pCmp (a b : Int32) : Int32 := if a < b then -1 else if a = b then 0 else 1
def pWay (s : Nat → Int32) (l : Nat) (d : Int32) : Int32 :=
  let t := s (7 + 4 * l + 3)
  let q := pW d (-2 * t) (2 * t)
  let k := s (7 + 4 * l)
  if k = 2 then q else if k = 3 then q + pCmp q 0 else if k = 4 then pW (d / 2) (-t) t else if k = 5 then (if s 2 - s 2 / 4 * 4 = 3 then 0 else pW (d / 2) (-t) t) else pW d (-t) t
def pBehind (ρ : pR) (s : Nat → Int32) (l : Nat) : Int32 :=
  let a := s (7 + 4 * l + 1)
  let g := pGoal ρ s l
  if g = 41 then a else pW (a + pWay s l (g - a)) 0 40
def pAbs (v : Int32) : Int32 := if v < 0 then -v else v
def pSight (a z p : Int32) : Int32 := if pAbs (p - a) - z ≤ 0 then 2 else if pAbs (p - a) - z = 1 then 1 else 0
def pSightL (s : Nat → Int32) (l : Nat) (p : Int32) : Int32 := pSight (s (7 + 4 * l + 1)) (s (7 + 4 * l + 2)) p
def pWorth (s : Nat → Int32) (l : Nat) (p : Int32) : Int32 := if pSightL s l p = 2 then 10 - s (7 + 4 * l + 2) else if pSightL s l p = 1 then 1 else 0
/-- the sum of f over 0, 1, .. below n, as ints wrap -/
def pSum (f : Nat → Int32) : Nat → Int32
  | 0 => 0
  | n + 1 => pSum f n + f n
def pSet (f : Nat → Bool) : Nat → Int32
  | 0 => 0
  | n + 1 => if f n then pSet f n ||| (1 <<< nI n) else pSet f n
def pSetOf (s : Nat → Int32) (g p : Int32) : Int32 := pSet (fun l => decide (pSightL s l p = g)) (pL s)
def pWorths (s : Nat → Int32) (p : Int32) : Int32 := pSum (fun l => pWorth s l p) (pL s)
/-- the aims behind a beat; the lamp h (or none) is held -/
def pAims (ρ : pR) (s : Nat → Int32) (h : Int32) : Nat → Int32 := fun i =>
  if 7 ≤ i ∧ i < 7 + 4 * pL s ∧ (i - 7) % 4 = 1 then (if nI ((i - 7) / 4) = h then s i else pBehind ρ s ((i - 7) / 4)) else s i
def pGain (ρ : pR) (s : Nat → Int32) (h : Int32) : Int32 := pWorths (pAims ρ s h) (s (31 + pb s))
/-- a beat goes by -/
def pGo (ρ : pR) (s : Nat → Int32) (h : Int32) : Nat → Int32 := fun i => if i = 2 then s 2 + 1 else if i = 3 then s 3 + pGain ρ s h else pAims ρ s h i
/-- what always holds of the stage -/
def pOK (s : Nat → Int32) : Prop := (s 0 = nI (pL s) ∧ pL s ≤ 6) ∧ (s 1 = nI (pB s) ∧ pB s ≤ 16) ∧ (s 2 = nI (pb s) ∧ pb s ≤ pB s) ∧
  ∀ l, l < pL s → (1 ≤ s (7 + 4 * l) ∧ s (7 + 4 * l) ≤ 5) ∧ (0 ≤ s (7 + 4 * l + 2) ∧ s (7 + 4 * l + 2) ≤ 9) ∧ (1 ≤ s (7 + 4 * l + 3) ∧ s (7 + 4 * l + 3) ≤ 9)
/-- the same but what isn't read: the score -/
def pEq (s t : Nat → Int32) : Prop := ∀ i, i < 47 → i ≠ 3 → i ≠ 5 → i ≠ 6 → s i = t i
/-! the class's stage at b, in those numbers -/
def cS (b : Nat) (μ : zM) : Nat → Int32 := fun i =>
  if i = 0 then μ b 7 else if i = 1 then μ b 8 else if i = 2 then μ b 9 else if i = 3 then μ b 10 else if i = 4 then μ b 11 else if i < 7 then 0
  else if i < 31 then μ (b + 1 + (i - 7) % 4) ((i - 7) / 4) else if i < 47 then μ (b + 5) (i - 31) else 0
theorem cS_0 (b : Nat) (μ : zM) : cS b μ 0 = μ b 7 := rfl
theorem cS_1 (b : Nat) (μ : zM) : cS b μ 1 = μ b 8 := rfl
theorem cS_2 (b : Nat) (μ : zM) : cS b μ 2 = μ b 9 := rfl
theorem cS_3 (b : Nat) (μ : zM) : cS b μ 3 = μ b 10 := rfl
theorem cS_4 (b : Nat) (μ : zM) : cS b μ 4 = μ b 11 := rfl
theorem cS_over (b : Nat) (μ : zM) : pOver (cS b μ) = decide (μ b 8 ≤ μ b 9) := rfl
theorem cS_k {b l : Nat} {μ : zM} (h : l < 6) : cS b μ (7 + 4 * l) = μ (b + 1) l := by
  unfold cS
  rw [if_neg (by omega), if_neg (by omega), if_neg (by omega), if_neg (by omega), if_neg (by omega), if_neg (by omega), if_pos (by omega)]
  rw [show (7 + 4 * l - 7) % 4 = 0 by omega, show (7 + 4 * l - 7) / 4 = l by omega]
theorem cS_w {b l : Nat} {μ : zM} (w : Nat) (hw : w < 4) (h : l < 6) : cS b μ (7 + 4 * l + w) = μ (b + 1 + w) l := by
  unfold cS
  rw [if_neg (by omega), if_neg (by omega), if_neg (by omega), if_neg (by omega), if_neg (by omega), if_neg (by omega), if_pos (by omega)]
  rw [show (7 + 4 * l + w - 7) % 4 = w by omega, show (7 + 4 * l + w - 7) / 4 = l by omega]
theorem cS_a {b l : Nat} {μ : zM} (h : l < 6) : cS b μ (7 + 4 * l + 1) = μ (b + 2) l := cS_w 1 (by omega) h
theorem cS_z {b l : Nat} {μ : zM} (h : l < 6) : cS b μ (7 + 4 * l + 2) = μ (b + 3) l := cS_w 2 (by omega) h
theorem cS_t {b l : Nat} {μ : zM} (h : l < 6) : cS b μ (7 + 4 * l + 3) = μ (b + 4) l := cS_w 3 (by omega) h
theorem cS_p {b j : Nat} {μ : zM} (h : j < 16) : cS b μ (31 + j) = μ (b + 5) j := by
  unfold cS
  rw [if_neg (by omega), if_neg (by omega), if_neg (by omega), if_neg (by omega), if_neg (by omega), if_neg (by omega), if_neg (by omega), if_pos (by omega)]
  rw [show 31 + j - 31 = j by omega]
/-- only what the stage at b holds is looked at -/
theorem cS_eq {b : Nat} {μ ν : zM} (h : ∀ k, (k = b ∨ (b + 1 ≤ k ∧ k ≤ b + 5)) → μ k = ν k) : cS b μ = cS b ν := by
  funext i
  unfold cS
  rw [h b (Or.inl rfl), h (b + 5) (Or.inr ⟨by omega, by omega⟩)]
  by_cases hi : i < 31
  · rw [h (b + 1 + (i - 7) % 4) (Or.inr ⟨by omega, by omega⟩)]
  · simp [hi]
/-! small facts -/
theorem vp_of {x n : Int32} {B N : Nat} (h0 : 0 ≤ x) (h1 : x < n) (hn : n = nI B) (hB : B ≤ N) (hN : N < 2 ^ 31) : vp_in x N := by
  subst hn
  rw [vp_in_iff]
  have h2 := Int32.lt_iff_toInt_lt.mp h1
  rw [nI_toInt (by omega)] at h2
  have h3 := Int32.le_iff_toInt_le.mp h0
  have h4 : (0 : Int32).toInt = 0 := rfl
  omega
theorem ok_L {s : Nat → Int32} (h : pOK s) : s 0 = nI (pL s) ∧ pL s ≤ 6 := h.1
theorem ok_B {s : Nat → Int32} (h : pOK s) : s 1 = nI (pB s) ∧ pB s ≤ 16 := h.2.1
theorem ok_b {s : Nat → Int32} (h : pOK s) : s 2 = nI (pb s) ∧ pb s ≤ pB s := h.2.2.1
