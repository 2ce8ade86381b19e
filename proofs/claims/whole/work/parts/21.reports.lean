/-! reports, by their places: P r w is what report r holds (0 its beat, 1 aim, 2 size, 3 sight) -/
def cP (b : Nat) (μ : zM) : Nat → Nat → Int32 := fun r w => μ (b + 1 + w) r
def pFitAt (P : Nat → Nat → Int32) (st pc but : Int32) (r : Nat) : Bool := decide (nI r = but) || decide (pSight (P r 1) (P r 2) (pW (st + P r 0 * pc) 0 40) = P r 3)
def pFit (P : Nat → Nat → Int32) (st pc but : Int32) : Nat → Bool
  | 0 => true
  | n + 1 => pFit P st pc but n && pFitAt P st pc but n
theorem pFit_no {P : Nat → Nat → Int32} {st pc but : Int32} {m : Nat} (h : pFitAt P st pc but m = false) : ∀ {n : Nat}, m < n → pFit P st pc but n = false
  | 0, q => absurd q (by omega)
  | n + 1, q => by
    show (pFit P st pc but n && _) = false
    rcases Nat.lt_or_ge m n with r | r
    · rw [pFit_no h r]; rfl
    · rw [show n = m by omega, h, Bool.and_false]
/-- walk number w: its start, its pace -/
def pStart (w : Nat) : Int32 := nI (w / 5)
def pPace (w : Nat) : Int32 := nI (w % 5) - 2
abbrev pWT : Type := Nat × Int32 × Int32
def pWalk (P : Nat → Nat → Int32) (n : Nat) (but : Int32) (x : Int32 × Int32) : Nat → pWT
  | 0 => (0, x)
  | w + 1 => let q := pWalk P n but x w; if pFit P (pStart w) (pPace w) but n then (q.1 + 1, if q.1 = 0 then (pStart w, pPace w) else q.2) else q
theorem pWalk_le {P : Nat → Nat → Int32} {n : Nat} {but : Int32} {x : Int32 × Int32} : ∀ w, (pWalk P n but x w).1 ≤ w
  | 0 => Nat.le_refl _
  | w + 1 => by
    have := pWalk_le (P := P) (n := n) (but := but) (x := x) w
    unfold pWalk
    dsimp only
    split <;> simp <;> omega
theorem pWalk_s {P : Nat → Nat → Int32} {n : Nat} {but : Int32} {x : Int32 × Int32} {w : Nat} : pWalk P n but x (w + 1) = (if pFit P (pStart w) (pPace w) but n = true then ((pWalk P n but x w).1 + 1, if (pWalk P n but x w).1 = 0 then (pStart w, pPace w) else (pWalk P n but x w).2) else pWalk P n but x w) := rfl
theorem cP_p {b k j : Nat} {v : Int32} {μ : zM} (h : k ≤ b) : cP b (zp μ k j v) = cP b μ := by
  funext r w
  exact congrFun (zp_ne (by omega)) r
def pWalks (P : Nat → Nat → Int32) (n : Nat) (but : Int32) : pWT := pWalk P n but (0, 0) 205
/-- how many doesn't hang on what lay there; nor the first one, if there is one -/
theorem pWalk_x {P : Nat → Nat → Int32} {n : Nat} {but : Int32} {x y : Int32 × Int32} : ∀ w, (pWalk P n but x w).1 = (pWalk P n but y w).1 ∧ ((pWalk P n but x w).1 ≠ 0 → (pWalk P n but x w).2 = (pWalk P n but y w).2)
  | 0 => ⟨rfl, fun h => absurd rfl h⟩
  | w + 1 => by
    obtain ⟨h1, h2⟩ := pWalk_x (P := P) (n := n) (but := but) (x := x) (y := y) w
    unfold pWalk
    dsimp only
    by_cases q : pFit P (pStart w) (pPace w) but n = true
    · rw [if_pos q, if_pos q, ← h1]
      refine ⟨rfl, fun _ => ?_⟩
      dsimp only
      by_cases z : (pWalk P n but x w).1 = 0
      · rw [if_pos z, if_pos z]
      · rw [if_neg z, if_neg z]
        exact h2 z
    · rw [if_neg q, if_neg q]
      exact ⟨h1, h2⟩
def pLiar (P : Nat → Nat → Int32) (n : Nat) (none_ : Int32) : Int32 := if (pWalks P n none_).1 ≠ 0 then -3 else match pFirst (fun r => decide ((pWalks P n (nI r)).1 ≠ 0)) 0 n with
  | none => -3
  | some r => nI r
theorem zpace {j : Nat} (h : j ≤ 5) : ((2 : Int32) < nI j - 2) ↔ j = 5 := by
  rcases (show j = 0 ∨ j = 1 ∨ j = 2 ∨ j = 3 ∨ j = 4 ∨ j = 5 by omega) with rfl | rfl | rfl | rfl | rfl | rfl <;> decide
theorem zpace1 {j : Nat} (h : j ≤ 5) : nI j - 2 + 1 = nI (j + 1) - 2 := by
  rcases (show j = 0 ∨ j = 1 ∨ j = 2 ∨ j = 3 ∨ j = 4 ∨ j = 5 by omega) with rfl | rfl | rfl | rfl | rfl | rfl <;> decide
/-! sheets -/
def pNar (sort v : Int32) : Int32 := if sort = 0 then v.toInt8.toInt32 else if sort = 1 then v.toInt16.toInt32 else if sort = 4 then zb (decide (¬ v = 0)) else v
theorem item_ix {k : Nat} (h : k < 4) : ([57, 58, 59, 60] : List Nat)[(nI k).toNatClampNeg]? = some (57 + k) := by
  rw [nI_clamp (by omega)]
  rcases (show k = 0 ∨ k = 1 ∨ k = 2 ∨ k = 3 by omega) with rfl | rfl | rfl | rfl <;> rfl
theorem item_sh {k : Nat} (h : k < 4) : shC[57 + k]? = some (.inr (.inl 40)) := by
  rcases (show k = 0 ∨ k = 1 ∨ k = 2 ∨ k = 3 by omega) with rfl | rfl | rfl | rfl <;> rfl
theorem pHas_n {n : Nat} {x : Int32} (hn : n < 2 ^ 31) (h : pHas (nI n) x = true) : ∃ j, j < n ∧ x = nI j := by
  unfold pHas at h
  rw [Bool.and_eq_true, decide_eq_true_eq, decide_eq_true_eq] at h
  obtain ⟨j, hj, rfl⟩ := nI_of (x := x) (Int32.not_lt.mpr h.1)
  exact ⟨j, (nI_ltI hj hn).mp h.2, rfl⟩
set_option maxHeartbeats 4000000 in
set_option maxRecDepth 100000 in
theorem eX1_copyFrom_80_32 (σ : zG) (μ : zM) : zMet shC σ 1 MX1_copyFrom yX1_copyFrom [zr 80, zr 32] μ (fun rr μ' => rr = none ∧ μ' 80 4 = μ 32 4 ∧ (∀ r, r < 6 → ∀ w, w < 4 → cP 80 μ' r w = cP 32 μ r w) ∧ zJ [80, 81, 82, 83, 84] μ μ') := by
  refine zmetF (by decide +kernel) rfl (Nat.le_of_ble_eq_true rfl) ?_
  show zX shC σ 1 MX1_copyFrom 0 [(0, zr 80), (1, zr 32)] [] μ _
  refine zx_aload_n (k := 1) (nn := 1) dX1_copyFrom_0 rfl rfl rfl ?_
  refine zx_getR (q := 33) (nn := 4) flX1_9 rfl rfl dX1_copyFrom_1 rfl ?_
  refine zx_iconst (v := 0) (nn := 5) rfl dX1_copyFrom_4 rfl ?_
  refine zx_aload_n (k := 0) (nn := 6) dX1_copyFrom_5 rfl rfl rfl ?_
  refine zx_getR (q := 81) (nn := 9) flX1_9 rfl rfl dX1_copyFrom_6 rfl ?_
  refine zx_iconst (v := 0) (nn := 10) rfl dX1_copyFrom_9 rfl ?_
  refine zx_bipush (v := 6) (nn := 12) rfl dX1_copyFrom_10 rfl ?_
  refine zx_copy (nn := 15) cplX1 rfl rfl (by decide) (by decide) (by decide) (by decide) (Nat.le_of_ble_eq_true rfl) dX1_copyFrom_12 rfl ?_
  show zX shC σ 1 MX1_copyFrom 15 [(0, zr 80), (1, zr 32)] [] (zu μ 81 (va_cpy (μ 33) (μ 81) 0 0 6)) _
  refine zx_aload_n (k := 1) (nn := 16) dX1_copyFrom_15 rfl rfl rfl ?_
  refine zx_getR (q := 34) (nn := 19) flX1_15 rfl rfl dX1_copyFrom_16 rfl ?_
  refine zx_iconst (v := 0) (nn := 20) rfl dX1_copyFrom_19 rfl ?_
  refine zx_aload_n (k := 0) (nn := 21) dX1_copyFrom_20 rfl rfl rfl ?_
  refine zx_getR (q := 82) (nn := 24) flX1_15 rfl rfl dX1_copyFrom_21 rfl ?_
  refine zx_iconst (v := 0) (nn := 25) rfl dX1_copyFrom_24 rfl ?_
  refine zx_bipush (v := 6) (nn := 27) rfl dX1_copyFrom_25 rfl ?_
  refine zx_copy (nn := 30) cplX1 rfl rfl (by decide) (by decide) (by decide) (by decide) (Nat.le_of_ble_eq_true rfl) dX1_copyFrom_27 rfl ?_
  show zX shC σ 1 MX1_copyFrom 30 [(0, zr 80), (1, zr 32)] [] (zu (zu μ 81 (va_cpy (μ 33) (μ 81) 0 0 6)) 82 (va_cpy ((zu μ 81 (va_cpy (μ 33) (μ 81) 0 0 6)) 34) ((zu μ 81 (va_cpy (μ 33) (μ 81) 0 0 6)) 82) 0 0 6)) _
  refine zx_aload_n (k := 1) (nn := 31) dX1_copyFrom_30 rfl rfl rfl ?_
  refine zx_getR (q := 35) (nn := 34) flX1_18 rfl rfl dX1_copyFrom_31 rfl ?_
  refine zx_iconst (v := 0) (nn := 35) rfl dX1_copyFrom_34 rfl ?_
  refine zx_aload_n (k := 0) (nn := 36) dX1_copyFrom_35 rfl rfl rfl ?_
  refine zx_getR (q := 83) (nn := 39) flX1_18 rfl rfl dX1_copyFrom_36 rfl ?_
  refine zx_iconst (v := 0) (nn := 40) rfl dX1_copyFrom_39 rfl ?_
  refine zx_bipush (v := 6) (nn := 42) rfl dX1_copyFrom_40 rfl ?_
  refine zx_copy (nn := 45) cplX1 rfl rfl (by decide) (by decide) (by decide) (by decide) (Nat.le_of_ble_eq_true rfl) dX1_copyFrom_42 rfl ?_
  show zX shC σ 1 MX1_copyFrom 45 [(0, zr 80), (1, zr 32)] [] (zu (zu (zu μ 81 (va_cpy (μ 33) (μ 81) 0 0 6)) 82 (va_cpy ((zu μ 81 (va_cpy (μ 33) (μ 81) 0 0 6)) 34) ((zu μ 81 (va_cpy (μ 33) (μ 81) 0 0 6)) 82) 0 0 6)) 83 (va_cpy ((zu (zu μ 81 (va_cpy (μ 33) (μ 81) 0 0 6)) 82 (va_cpy ((zu μ 81 (va_cpy (μ 33) (μ 81) 0 0 6)) 34) ((zu μ 81 (va_cpy (μ 33) (μ 81) 0 0 6)) 82) 0 0 6)) 35) ((zu (zu μ 81 (va_cpy (μ 33) (μ 81) 0 0 6)) 82 (va_cpy ((zu μ 81 (va_cpy (μ 33) (μ 81) 0 0 6)) 34) ((zu μ 81 (va_cpy (μ 33) (μ 81) 0 0 6)) 82) 0 0 6)) 83) 0 0 6)) _
  refine zx_aload_n (k := 1) (nn := 46) dX1_copyFrom_45 rfl rfl rfl ?_
  refine zx_getR (q := 36) (nn := 49) flX1_21 rfl rfl dX1_copyFrom_46 rfl ?_
  refine zx_iconst (v := 0) (nn := 50) rfl dX1_copyFrom_49 rfl ?_
  refine zx_aload_n (k := 0) (nn := 51) dX1_copyFrom_50 rfl rfl rfl ?_
  refine zx_getR (q := 84) (nn := 54) flX1_21 rfl rfl dX1_copyFrom_51 rfl ?_
  refine zx_iconst (v := 0) (nn := 55) rfl dX1_copyFrom_54 rfl ?_
  refine zx_bipush (v := 6) (nn := 57) rfl dX1_copyFrom_55 rfl ?_
  refine zx_copy (nn := 60) cplX1 rfl rfl (by decide) (by decide) (by decide) (by decide) (Nat.le_of_ble_eq_true rfl) dX1_copyFrom_57 rfl ?_
  show zX shC σ 1 MX1_copyFrom 60 [(0, zr 80), (1, zr 32)] [] (zu (zu (zu (zu μ 81 (va_cpy (μ 33) (μ 81) 0 0 6)) 82 (va_cpy ((zu μ 81 (va_cpy (μ 33) (μ 81) 0 0 6)) 34) ((zu μ 81 (va_cpy (μ 33) (μ 81) 0 0 6)) 82) 0 0 6)) 83 (va_cpy ((zu (zu μ 81 (va_cpy (μ 33) (μ 81) 0 0 6)) 82 (va_cpy ((zu μ 81 (va_cpy (μ 33) (μ 81) 0 0 6)) 34) ((zu μ 81 (va_cpy (μ 33) (μ 81) 0 0 6)) 82) 0 0 6)) 35) ((zu (zu μ 81 (va_cpy (μ 33) (μ 81) 0 0 6)) 82 (va_cpy ((zu μ 81 (va_cpy (μ 33) (μ 81) 0 0 6)) 34) ((zu μ 81 (va_cpy (μ 33) (μ 81) 0 0 6)) 82) 0 0 6)) 83) 0 0 6)) 84 (va_cpy ((zu (zu (zu μ 81 (va_cpy (μ 33) (μ 81) 0 0 6)) 82 (va_cpy ((zu μ 81 (va_cpy (μ 33) (μ 81) 0 0 6)) 34) ((zu μ 81 (va_cpy (μ 33) (μ 81) 0 0 6)) 82) 0 0 6)) 83 (va_cpy ((zu (zu μ 81 (va_cpy (μ 33) (μ 81) 0 0 6)) 82 (va_cpy ((zu μ 81 (va_cpy (μ 33) (μ 81) 0 0 6)) 34) ((zu μ 81 (va_cpy (μ 33) (μ 81) 0 0 6)) 82) 0 0 6)) 35) ((zu (zu μ 81 (va_cpy (μ 33) (μ 81) 0 0 6)) 82 (va_cpy ((zu μ 81 (va_cpy (μ 33) (μ 81) 0 0 6)) 34) ((zu μ 81 (va_cpy (μ 33) (μ 81) 0 0 6)) 82) 0 0 6)) 83) 0 0 6)) 36) ((zu (zu (zu μ 81 (va_cpy (μ 33) (μ 81) 0 0 6)) 82 (va_cpy ((zu μ 81 (va_cpy (μ 33) (μ 81) 0 0 6)) 34) ((zu μ 81 (va_cpy (μ 33) (μ 81) 0 0 6)) 82) 0 0 6)) 83 (va_cpy ((zu (zu μ 81 (va_cpy (μ 33) (μ 81) 0 0 6)) 82 (va_cpy ((zu μ 81 (va_cpy (μ 33) (μ 81) 0 0 6)) 34) ((zu μ 81 (va_cpy (μ 33) (μ 81) 0 0 6)) 82) 0 0 6)) 35) ((zu (zu μ 81 (va_cpy (μ 33) (μ 81) 0 0 6)) 82 (va_cpy ((zu μ 81 (va_cpy (μ 33) (μ 81) 0 0 6)) 34) ((zu μ 81 (va_cpy (μ 33) (μ 81) 0 0 6)) 82) 0 0 6)) 83) 0 0 6)) 84) 0 0 6)) _
  refine zx_aload_n (k := 0) (nn := 61) dX1_copyFrom_60 rfl rfl rfl ?_
  refine zx_aload_n (k := 1) (nn := 62) dX1_copyFrom_61 rfl rfl rfl ?_
  refine zx_getI (nn := 65) flX1_30 rfl rfl dX1_copyFrom_62 rfl ?_
  show zX shC σ 1 MX1_copyFrom 65 [(0, zr 80), (1, zr 32)] [zi (μ 32 4), zr 80] (zu (zu (zu (zu μ 81 (va_cpy (μ 33) (μ 81) 0 0 6)) 82 (va_cpy ((zu μ 81 (va_cpy (μ 33) (μ 81) 0 0 6)) 34) ((zu μ 81 (va_cpy (μ 33) (μ 81) 0 0 6)) 82) 0 0 6)) 83 (va_cpy ((zu (zu μ 81 (va_cpy (μ 33) (μ 81) 0 0 6)) 82 (va_cpy ((zu μ 81 (va_cpy (μ 33) (μ 81) 0 0 6)) 34) ((zu μ 81 (va_cpy (μ 33) (μ 81) 0 0 6)) 82) 0 0 6)) 35) ((zu (zu μ 81 (va_cpy (μ 33) (μ 81) 0 0 6)) 82 (va_cpy ((zu μ 81 (va_cpy (μ 33) (μ 81) 0 0 6)) 34) ((zu μ 81 (va_cpy (μ 33) (μ 81) 0 0 6)) 82) 0 0 6)) 83) 0 0 6)) 84 (va_cpy ((zu (zu (zu μ 81 (va_cpy (μ 33) (μ 81) 0 0 6)) 82 (va_cpy ((zu μ 81 (va_cpy (μ 33) (μ 81) 0 0 6)) 34) ((zu μ 81 (va_cpy (μ 33) (μ 81) 0 0 6)) 82) 0 0 6)) 83 (va_cpy ((zu (zu μ 81 (va_cpy (μ 33) (μ 81) 0 0 6)) 82 (va_cpy ((zu μ 81 (va_cpy (μ 33) (μ 81) 0 0 6)) 34) ((zu μ 81 (va_cpy (μ 33) (μ 81) 0 0 6)) 82) 0 0 6)) 35) ((zu (zu μ 81 (va_cpy (μ 33) (μ 81) 0 0 6)) 82 (va_cpy ((zu μ 81 (va_cpy (μ 33) (μ 81) 0 0 6)) 34) ((zu μ 81 (va_cpy (μ 33) (μ 81) 0 0 6)) 82) 0 0 6)) 83) 0 0 6)) 36) ((zu (zu (zu μ 81 (va_cpy (μ 33) (μ 81) 0 0 6)) 82 (va_cpy ((zu μ 81 (va_cpy (μ 33) (μ 81) 0 0 6)) 34) ((zu μ 81 (va_cpy (μ 33) (μ 81) 0 0 6)) 82) 0 0 6)) 83 (va_cpy ((zu (zu μ 81 (va_cpy (μ 33) (μ 81) 0 0 6)) 82 (va_cpy ((zu μ 81 (va_cpy (μ 33) (μ 81) 0 0 6)) 34) ((zu μ 81 (va_cpy (μ 33) (μ 81) 0 0 6)) 82) 0 0 6)) 35) ((zu (zu μ 81 (va_cpy (μ 33) (μ 81) 0 0 6)) 82 (va_cpy ((zu μ 81 (va_cpy (μ 33) (μ 81) 0 0 6)) 34) ((zu μ 81 (va_cpy (μ 33) (μ 81) 0 0 6)) 82) 0 0 6)) 83) 0 0 6)) 84) 0 0 6)) _
  refine zx_putI (nn := 68) fpX1_30 rfl rfl rfl rfl dX1_copyFrom_65 rfl ?_
  refine zx_vret rfl dX1_copyFrom_68 ?_
  refine ⟨rfl, by simp [zp, zu, upd], fun r hr w hw => ?_, (((((zJ.rf.u (by decide)).u (by decide)).u (by decide)).u (by decide)).p (by decide))⟩
  unfold cP
  rcases (show w = 0 ∨ w = 1 ∨ w = 2 ∨ w = 3 by omega) with rfl | rfl | rfl | rfl <;> simp [zp, zu, upd, va_cpy, hr]
set_option maxHeartbeats 4000000 in
set_option maxRecDepth 100000 in
theorem eX1_copyFrom_32_80 (σ : zG) (μ : zM) : zMet shC σ 1 MX1_copyFrom yX1_copyFrom [zr 32, zr 80] μ (fun rr μ' => rr = none ∧ μ' 32 4 = μ 80 4 ∧ (∀ r, r < 6 → ∀ w, w < 4 → cP 32 μ' r w = cP 80 μ r w) ∧ zJ [32, 33, 34, 35, 36] μ μ') := by
  refine zmetF (by decide +kernel) rfl (Nat.le_of_ble_eq_true rfl) ?_
  show zX shC σ 1 MX1_copyFrom 0 [(0, zr 32), (1, zr 80)] [] μ _
  refine zx_aload_n (k := 1) (nn := 1) dX1_copyFrom_0 rfl rfl rfl ?_
  refine zx_getR (q := 81) (nn := 4) flX1_9 rfl rfl dX1_copyFrom_1 rfl ?_
  refine zx_iconst (v := 0) (nn := 5) rfl dX1_copyFrom_4 rfl ?_
  refine zx_aload_n (k := 0) (nn := 6) dX1_copyFrom_5 rfl rfl rfl ?_
  refine zx_getR (q := 33) (nn := 9) flX1_9 rfl rfl dX1_copyFrom_6 rfl ?_
  refine zx_iconst (v := 0) (nn := 10) rfl dX1_copyFrom_9 rfl ?_
  refine zx_bipush (v := 6) (nn := 12) rfl dX1_copyFrom_10 rfl ?_
  refine zx_copy (nn := 15) cplX1 rfl rfl (by decide) (by decide) (by decide) (by decide) (Nat.le_of_ble_eq_true rfl) dX1_copyFrom_12 rfl ?_
  show zX shC σ 1 MX1_copyFrom 15 [(0, zr 32), (1, zr 80)] [] (zu μ 33 (va_cpy (μ 81) (μ 33) 0 0 6)) _
  refine zx_aload_n (k := 1) (nn := 16) dX1_copyFrom_15 rfl rfl rfl ?_
  refine zx_getR (q := 82) (nn := 19) flX1_15 rfl rfl dX1_copyFrom_16 rfl ?_
  refine zx_iconst (v := 0) (nn := 20) rfl dX1_copyFrom_19 rfl ?_
  refine zx_aload_n (k := 0) (nn := 21) dX1_copyFrom_20 rfl rfl rfl ?_
  refine zx_getR (q := 34) (nn := 24) flX1_15 rfl rfl dX1_copyFrom_21 rfl ?_
  refine zx_iconst (v := 0) (nn := 25) rfl dX1_copyFrom_24 rfl ?_
  refine zx_bipush (v := 6) (nn := 27) rfl dX1_copyFrom_25 rfl ?_
  refine zx_copy (nn := 30) cplX1 rfl rfl (by decide) (by decide) (by decide) (by decide) (Nat.le_of_ble_eq_true rfl) dX1_copyFrom_27 rfl ?_
  show zX shC σ 1 MX1_copyFrom 30 [(0, zr 32), (1, zr 80)] [] (zu (zu μ 33 (va_cpy (μ 81) (μ 33) 0 0 6)) 34 (va_cpy ((zu μ 33 (va_cpy (μ 81) (μ 33) 0 0 6)) 82) ((zu μ 33 (va_cpy (μ 81) (μ 33) 0 0 6)) 34) 0 0 6)) _
  refine zx_aload_n (k := 1) (nn := 31) dX1_copyFrom_30 rfl rfl rfl ?_
  refine zx_getR (q := 83) (nn := 34) flX1_18 rfl rfl dX1_copyFrom_31 rfl ?_
  refine zx_iconst (v := 0) (nn := 35) rfl dX1_copyFrom_34 rfl ?_
  refine zx_aload_n (k := 0) (nn := 36) dX1_copyFrom_35 rfl rfl rfl ?_
  refine zx_getR (q := 35) (nn := 39) flX1_18 rfl rfl dX1_copyFrom_36 rfl ?_
  refine zx_iconst (v := 0) (nn := 40) rfl dX1_copyFrom_39 rfl ?_
  refine zx_bipush (v := 6) (nn := 42) rfl dX1_copyFrom_40 rfl ?_
  refine zx_copy (nn := 45) cplX1 rfl rfl (by decide) (by decide) (by decide) (by decide) (Nat.le_of_ble_eq_true rfl) dX1_copyFrom_42 rfl ?_
  show zX shC σ 1 MX1_copyFrom 45 [(0, zr 32), (1, zr 80)] [] (zu (zu (zu μ 33 (va_cpy (μ 81) (μ 33) 0 0 6)) 34 (va_cpy ((zu μ 33 (va_cpy (μ 81) (μ 33) 0 0 6)) 82) ((zu μ 33 (va_cpy (μ 81) (μ 33) 0 0 6)) 34) 0 0 6)) 35 (va_cpy ((zu (zu μ 33 (va_cpy (μ 81) (μ 33) 0 0 6)) 34 (va_cpy ((zu μ 33 (va_cpy (μ 81) (μ 33) 0 0 6)) 82) ((zu μ 33 (va_cpy (μ 81) (μ 33) 0 0 6)) 34) 0 0 6)) 83) ((zu (zu μ 33 (va_cpy (μ 81) (μ 33) 0 0 6)) 34 (va_cpy ((zu μ 33 (va_cpy (μ 81) (μ 33) 0 0 6)) 82) ((zu μ 33 (va_cpy (μ 81) (μ 33) 0 0 6)) 34) 0 0 6)) 35) 0 0 6)) _
  refine zx_aload_n (k := 1) (nn := 46) dX1_copyFrom_45 rfl rfl rfl ?_
  refine zx_getR (q := 84) (nn := 49) flX1_21 rfl rfl dX1_copyFrom_46 rfl ?_
  refine zx_iconst (v := 0) (nn := 50) rfl dX1_copyFrom_49 rfl ?_
  refine zx_aload_n (k := 0) (nn := 51) dX1_copyFrom_50 rfl rfl rfl ?_
  refine zx_getR (q := 36) (nn := 54) flX1_21 rfl rfl dX1_copyFrom_51 rfl ?_
  refine zx_iconst (v := 0) (nn := 55) rfl dX1_copyFrom_54 rfl ?_
  refine zx_bipush (v := 6) (nn := 57) rfl dX1_copyFrom_55 rfl ?_
  refine zx_copy (nn := 60) cplX1 rfl rfl (by decide) (by decide) (by decide) (by decide) (Nat.le_of_ble_eq_true rfl) dX1_copyFrom_57 rfl ?_
  show zX shC σ 1 MX1_copyFrom 60 [(0, zr 32), (1, zr 80)] [] (zu (zu (zu (zu μ 33 (va_cpy (μ 81) (μ 33) 0 0 6)) 34 (va_cpy ((zu μ 33 (va_cpy (μ 81) (μ 33) 0 0 6)) 82) ((zu μ 33 (va_cpy (μ 81) (μ 33) 0 0 6)) 34) 0 0 6)) 35 (va_cpy ((zu (zu μ 33 (va_cpy (μ 81) (μ 33) 0 0 6)) 34 (va_cpy ((zu μ 33 (va_cpy (μ 81) (μ 33) 0 0 6)) 82) ((zu μ 33 (va_cpy (μ 81) (μ 33) 0 0 6)) 34) 0 0 6)) 83) ((zu (zu μ 33 (va_cpy (μ 81) (μ 33) 0 0 6)) 34 (va_cpy ((zu μ 33 (va_cpy (μ 81) (μ 33) 0 0 6)) 82) ((zu μ 33 (va_cpy (μ 81) (μ 33) 0 0 6)) 34) 0 0 6)) 35) 0 0 6)) 36 (va_cpy ((zu (zu (zu μ 33 (va_cpy (μ 81) (μ 33) 0 0 6)) 34 (va_cpy ((zu μ 33 (va_cpy (μ 81) (μ 33) 0 0 6)) 82) ((zu μ 33 (va_cpy (μ 81) (μ 33) 0 0 6)) 34) 0 0 6)) 35 (va_cpy ((zu (zu μ 33 (va_cpy (μ 81) (μ 33) 0 0 6)) 34 (va_cpy ((zu μ 33 (va_cpy (μ 81) (μ 33) 0 0 6)) 82) ((zu μ 33 (va_cpy (μ 81) (μ 33) 0 0 6)) 34) 0 0 6)) 83) ((zu (zu μ 33 (va_cpy (μ 81) (μ 33) 0 0 6)) 34 (va_cpy ((zu μ 33 (va_cpy (μ 81) (μ 33) 0 0 6)) 82) ((zu μ 33 (va_cpy (μ 81) (μ 33) 0 0 6)) 34) 0 0 6)) 35) 0 0 6)) 84) ((zu (zu (zu μ 33 (va_cpy (μ 81) (μ 33) 0 0 6)) 34 (va_cpy ((zu μ 33 (va_cpy (μ 81) (μ 33) 0 0 6)) 82) ((zu μ 33 (va_cpy (μ 81) (μ 33) 0 0 6)) 34) 0 0 6)) 35 (va_cpy ((zu (zu μ 33 (va_cpy (μ 81) (μ 33) 0 0 6)) 34 (va_cpy ((zu μ 33 (va_cpy (μ 81) (μ 33) 0 0 6)) 82) ((zu μ 33 (va_cpy (μ 81) (μ 33) 0 0 6)) 34) 0 0 6)) 83) ((zu (zu μ 33 (va_cpy (μ 81) (μ 33) 0 0 6)) 34 (va_cpy ((zu μ 33 (va_cpy (μ 81) (μ 33) 0 0 6)) 82) ((zu μ 33 (va_cpy (μ 81) (μ 33) 0 0 6)) 34) 0 0 6)) 35) 0 0 6)) 36) 0 0 6)) _
  refine zx_aload_n (k := 0) (nn := 61) dX1_copyFrom_60 rfl rfl rfl ?_
  refine zx_aload_n (k := 1) (nn := 62) dX1_copyFrom_61 rfl rfl rfl ?_
  refine zx_getI (nn := 65) flX1_30 rfl rfl dX1_copyFrom_62 rfl ?_
  show zX shC σ 1 MX1_copyFrom 65 [(0, zr 32), (1, zr 80)] [zi (μ 80 4), zr 32] (zu (zu (zu (zu μ 33 (va_cpy (μ 81) (μ 33) 0 0 6)) 34 (va_cpy ((zu μ 33 (va_cpy (μ 81) (μ 33) 0 0 6)) 82) ((zu μ 33 (va_cpy (μ 81) (μ 33) 0 0 6)) 34) 0 0 6)) 35 (va_cpy ((zu (zu μ 33 (va_cpy (μ 81) (μ 33) 0 0 6)) 34 (va_cpy ((zu μ 33 (va_cpy (μ 81) (μ 33) 0 0 6)) 82) ((zu μ 33 (va_cpy (μ 81) (μ 33) 0 0 6)) 34) 0 0 6)) 83) ((zu (zu μ 33 (va_cpy (μ 81) (μ 33) 0 0 6)) 34 (va_cpy ((zu μ 33 (va_cpy (μ 81) (μ 33) 0 0 6)) 82) ((zu μ 33 (va_cpy (μ 81) (μ 33) 0 0 6)) 34) 0 0 6)) 35) 0 0 6)) 36 (va_cpy ((zu (zu (zu μ 33 (va_cpy (μ 81) (μ 33) 0 0 6)) 34 (va_cpy ((zu μ 33 (va_cpy (μ 81) (μ 33) 0 0 6)) 82) ((zu μ 33 (va_cpy (μ 81) (μ 33) 0 0 6)) 34) 0 0 6)) 35 (va_cpy ((zu (zu μ 33 (va_cpy (μ 81) (μ 33) 0 0 6)) 34 (va_cpy ((zu μ 33 (va_cpy (μ 81) (μ 33) 0 0 6)) 82) ((zu μ 33 (va_cpy (μ 81) (μ 33) 0 0 6)) 34) 0 0 6)) 83) ((zu (zu μ 33 (va_cpy (μ 81) (μ 33) 0 0 6)) 34 (va_cpy ((zu μ 33 (va_cpy (μ 81) (μ 33) 0 0 6)) 82) ((zu μ 33 (va_cpy (μ 81) (μ 33) 0 0 6)) 34) 0 0 6)) 35) 0 0 6)) 84) ((zu (zu (zu μ 33 (va_cpy (μ 81) (μ 33) 0 0 6)) 34 (va_cpy ((zu μ 33 (va_cpy (μ 81) (μ 33) 0 0 6)) 82) ((zu μ 33 (va_cpy (μ 81) (μ 33) 0 0 6)) 34) 0 0 6)) 35 (va_cpy ((zu (zu μ 33 (va_cpy (μ 81) (μ 33) 0 0 6)) 34 (va_cpy ((zu μ 33 (va_cpy (μ 81) (μ 33) 0 0 6)) 82) ((zu μ 33 (va_cpy (μ 81) (μ 33) 0 0 6)) 34) 0 0 6)) 83) ((zu (zu μ 33 (va_cpy (μ 81) (μ 33) 0 0 6)) 34 (va_cpy ((zu μ 33 (va_cpy (μ 81) (μ 33) 0 0 6)) 82) ((zu μ 33 (va_cpy (μ 81) (μ 33) 0 0 6)) 34) 0 0 6)) 35) 0 0 6)) 36) 0 0 6)) _
  refine zx_putI (nn := 68) fpX1_30 rfl rfl rfl rfl dX1_copyFrom_65 rfl ?_
  refine zx_vret rfl dX1_copyFrom_68 ?_
  refine ⟨rfl, by simp [zp, zu, upd], fun r hr w hw => ?_, (((((zJ.rf.u (by decide)).u (by decide)).u (by decide)).u (by decide)).p (by decide))⟩
  unfold cP
  rcases (show w = 0 ∨ w = 1 ∨ w = 2 ∨ w = 3 by omega) with rfl | rfl | rfl | rfl <;> simp [zp, zu, upd, va_cpy, hr]
set_option maxHeartbeats 4000000 in
set_option maxRecDepth 100000 in
theorem eX1_addReport_32 (σ : zG) (μ : zM) (b : Int32) (a : Int32) (z : Int32) (g : Int32) (n : Nat) (hc : μ 32 4 = nI n) (hn : n ≤ 6) : zMet shC σ 0 MX1_addReport yX1_addReport [zr 32, zi b, zi a, zi z, zi g] μ (fun rr μ' => rr = some (zi (if n < 6 then nI n else -2)) ∧ μ' = if n < 6 then zp (zp (zp (zp (zp μ 33 n b) 34 n a) 35 n z) 36 n g) 32 4 (nI n + 1) else μ) := by
  refine zmetF (by decide +kernel) rfl (Nat.le_of_ble_eq_true rfl) ?_
  show zX shC σ 0 MX1_addReport 0 [(0, zr 32), (1, zi b), (2, zi a), (3, zi z), (4, zi g)] [] μ _
  refine zx_aload_n (k := 0) (nn := 1) dX1_addReport_0 rfl rfl rfl ?_
  refine zx_getI (nn := 4) flX1_30 rfl rfl dX1_addReport_1 rfl ?_
  rw [hc]
  show zX shC σ 0 MX1_addReport 4 [(0, zr 32), (1, zi b), (2, zi a), (3, zi z), (4, zi g)] [zi (nI n)] μ _
  refine zx_istore (nn := 6) (lv' := [(5, zi (nI n)), (0, zr 32), (1, zi b), (2, zi a), (3, zi z), (4, zi g)]) dX1_addReport_4 (by decide) rfl rfl ?_
  refine zx_iload (k := 0) (nn := 8) dX1_addReport_6 rfl rfl ?_
  refine zx_bipush (v := 6) (nn := 10) rfl dX1_addReport_8 rfl ?_
  refine zx_icmp_lt (tgt := 16) (nn := 13) dX1_addReport_10 (by decide) rfl (fun h10 => ?_) (fun h10 => ?_)
  · have h6 : n < 6 := (nI_ltI (b := 6) (by omega) (by omega)).mp h10
    refine zx_aload_n (k := 1) (nn := 17) dX1_addReport_16 rfl rfl rfl ?_
    refine zx_getR (q := 33) (nn := 20) flX1_9 rfl rfl dX1_addReport_17 rfl ?_
    refine zx_iload (k := 0) (nn := 22) dX1_addReport_20 rfl rfl ?_
    refine zx_iload_n (k := 2) (nn := 23) dX1_addReport_22 rfl rfl rfl ?_
    refine zx_iast_n (j := n) (nn := 24) rfl (by omega) (by decide) dX1_addReport_23 rfl ?_
    refine zx_aload_n (k := 1) (nn := 25) dX1_addReport_24 rfl rfl rfl ?_
    refine zx_getR (q := 34) (nn := 28) flX1_15 rfl rfl dX1_addReport_25 rfl ?_
    refine zx_iload (k := 0) (nn := 30) dX1_addReport_28 rfl rfl ?_
    refine zx_iload_n (k := 3) (nn := 31) dX1_addReport_30 rfl rfl rfl ?_
    refine zx_iast_n (j := n) (nn := 32) rfl (by omega) (by decide) dX1_addReport_31 rfl ?_
    refine zx_aload_n (k := 1) (nn := 33) dX1_addReport_32 rfl rfl rfl ?_
    refine zx_getR (q := 35) (nn := 36) flX1_18 rfl rfl dX1_addReport_33 rfl ?_
    refine zx_iload (k := 0) (nn := 38) dX1_addReport_36 rfl rfl ?_
    refine zx_iload_n (k := 4) (nn := 39) dX1_addReport_38 rfl rfl rfl ?_
    refine zx_iast_n (j := n) (nn := 40) rfl (by omega) (by decide) dX1_addReport_39 rfl ?_
    refine zx_aload_n (k := 1) (nn := 41) dX1_addReport_40 rfl rfl rfl ?_
    refine zx_getR (q := 36) (nn := 44) flX1_21 rfl rfl dX1_addReport_41 rfl ?_
    refine zx_iload (k := 0) (nn := 46) dX1_addReport_44 rfl rfl ?_
    refine zx_iload (k := 5) (nn := 48) dX1_addReport_46 rfl rfl ?_
    refine zx_iast_n (j := n) (nn := 49) rfl (by omega) (by decide) dX1_addReport_48 rfl ?_
    refine zx_aload_n (k := 1) (nn := 50) dX1_addReport_49 rfl rfl rfl ?_
    refine zx_iload (k := 0) (nn := 52) dX1_addReport_50 rfl rfl ?_
    refine zx_iconst (v := 1) (nn := 53) rfl dX1_addReport_52 rfl ?_
    refine zx_iadd (nn := 54) dX1_addReport_53 rfl ?_
    refine zx_putI (nn := 57) fpX1_30 rfl rfl rfl rfl dX1_addReport_54 rfl ?_
    refine zx_iload (k := 0) (nn := 59) dX1_addReport_57 rfl rfl ?_
    refine zx_iret rfl dX1_addReport_59 ?_
    exact ⟨by rw [if_pos h6], by rw [if_pos h6]⟩
  · refine zx_bipush (v := -2) (nn := 15) rfl dX1_addReport_13 rfl ?_
    refine zx_iret rfl dX1_addReport_15 ?_
    exact ⟨by rw [if_neg (fun q => h10 (nI_lt (b := 6) q (by omega)))], by rw [if_neg (fun q => h10 (nI_lt (b := 6) q (by omega)))]⟩
set_option maxHeartbeats 4000000 in
set_option maxRecDepth 100000 in
theorem eX1_fitsAll_32 (σ : zG) (μ : zM) (st : Int32) (pc : Int32) (but : Int32) (n : Nat) (hc : μ 32 4 = nI n) (hn : n ≤ 6) : zMet shC σ 2 MX1_fitsAll yX1_fitsAll [zr 32, zi st, zi pc, zi but] μ (fun rr μ' => rr = some (zi (zb (pFit (cP 32 μ) st pc but n))) ∧ μ' = μ) := by
  refine zmetF (by decide +kernel) rfl (Nat.le_of_ble_eq_true rfl) ?_
  show zX shC σ 2 MX1_fitsAll 0 [(0, zr 32), (1, zi st), (2, zi pc), (3, zi but)] [] μ _
  refine zx_iconst (v := 0) (nn := 1) rfl dX1_fitsAll_0 rfl ?_
  refine zx_istore (nn := 3) (lv' := [(4, zi 0), (0, zr 32), (1, zi st), (2, zi pc), (3, zi but)]) dX1_fitsAll_1 (by decide) rfl rfl ?_
  refine zx_lv (lv' := [(0, zr 32), (1, zi st), (2, zi pc), (3, zi but), (4, zi 0)]) [1, 2, 3, 4, 0] rfl ?_
  refine zx_while (τ := Nat) (fun r => n - r) (fun r => r ≤ n ∧ pFit (cP 32 μ) st pc but r = true) (fun r => [(0, zr 32), (1, zi st), (2, zi pc), (3, zi but), (4, zi (nI r))]) (fun r => μ) (t0 := (0)) (show 0 ≤ n ∧ pFit (cP 32 μ) st pc but 0 = true from ⟨Nat.zero_le _, rfl⟩) ?_
  rintro r hI ih3
  replace hI : r ≤ n ∧ pFit (cP 32 μ) st pc but r = true := hI
  show zX shC σ 2 MX1_fitsAll 3 [(0, zr 32), (1, zi st), (2, zi pc), (3, zi but), (4, zi (nI r))] [] μ _
  refine zx_iload (k := 4) (nn := 5) dX1_fitsAll_3 rfl rfl ?_
  refine zx_aload_n (k := 0) (nn := 6) dX1_fitsAll_5 rfl rfl rfl ?_
  refine zx_getI (nn := 9) flX1_30 rfl rfl dX1_fitsAll_6 rfl ?_
  rw [hc]
  show zX shC σ 2 MX1_fitsAll 9 [(0, zr 32), (1, zi st), (2, zi pc), (3, zi but), (4, zi (nI r))] [zi (nI n), zi (nI r)] μ _
  refine zx_icmp_ge (tgt := 74) (nn := 12) dX1_fitsAll_9 (by decide) rfl (fun h9 => ?_) (fun h9 => ?_)
  · refine zx_iconst (v := 1) (nn := 75) rfl dX1_fitsAll_74 rfl ?_
    refine zx_zret rfl rfl dX1_fitsAll_75 ?_
    have hge := nI_le_le h9 (by omega)
    refine ⟨congrArg (fun x => some (zi x)) ?_, rfl⟩
    rw [show n = r by omega, hI.2]
    rfl
  · have hlt : r < n := nI_nle_lt h9 (by omega)
    refine zx_iload_n (k := 1) (nn := 13) dX1_fitsAll_12 rfl rfl rfl ?_
    refine zx_aload_n (k := 0) (nn := 14) dX1_fitsAll_13 rfl rfl rfl ?_
    refine zx_getR (q := 33) (nn := 17) flX1_9 rfl rfl dX1_fitsAll_14 rfl ?_
    refine zx_iload (k := 4) (nn := 19) dX1_fitsAll_17 rfl rfl ?_
    refine zx_iald_n (j := r) (nn := 20) rfl (by omega) (by decide) dX1_fitsAll_19 rfl ?_
    refine zx_iload_n (k := 2) (nn := 21) dX1_fitsAll_20 rfl rfl rfl ?_
    refine zx_imul (nn := 22) dX1_fitsAll_21 rfl ?_
    refine zx_iadd (nn := 23) dX1_fitsAll_22 rfl ?_
    refine zx_iconst (v := 0) (nn := 24) rfl dX1_fitsAll_23 rfl ?_
    refine zx_bipush (v := 40) (nn := 26) rfl dX1_fitsAll_24 rfl ?_
    refine zx_callSf (nn := 29) (d' := 1) (as := [zi (st + ((μ 33 r) * pc)), zi 0, zi 40]) (rest := []) (n := 3) (eX8_held σ μ (st + ((μ 33 r) * pc)) 0 40  (by decide)) kX8_held mlX1_44 (by decide) rfl rfl (Nat.le_of_ble_eq_true rfl) dX1_fitsAll_26 rfl ?_
    show zX shC σ 2 MX1_fitsAll 29 [(0, zr 32), (1, zi st), (2, zi pc), (3, zi but), (4, zi (nI r))] [zi (pW (st + ((μ 33 r) * pc)) 0 40)] μ _
    refine zx_istore (nn := 31) (lv' := [(5, zi (pW (st + ((μ 33 r) * pc)) 0 40)), (0, zr 32), (1, zi st), (2, zi pc), (3, zi but), (4, zi (nI r))]) dX1_fitsAll_29 (by decide) rfl rfl ?_
    refine zx_iload (k := 5) (nn := 33) dX1_fitsAll_31 rfl rfl ?_
    refine zx_iload_n (k := 4) (nn := 34) dX1_fitsAll_33 rfl rfl rfl ?_
    refine zx_icmp_eq (tgt := 68) (nn := 37) dX1_fitsAll_34 (by decide) rfl (fun h34 => ?_) (fun h34 => ?_)
    · refine zx_iinc (k := 5) (v := nI (r + 1)) (lv' := [(4, zi (nI (r + 1))), (5, zi (pW (st + ((μ 33 r) * pc)) 0 40)), (0, zr 32), (1, zi st), (2, zi pc), (3, zi but)]) (nn := 71) dX1_fitsAll_68 rfl (nI_1 r) (by decide) rfl rfl ?_
      refine zx_goto (tgt := 3) dX1_fitsAll_71 (by decide) ?_
      refine zx_lv (lv' := [(0, zr 32), (1, zi st), (2, zi pc), (3, zi but), (4, zi (nI (r + 1)))]) [2, 3, 4, 5, 0] rfl ?_
      exact ih3 (r + 1) (show (r + 1) ≤ n ∧ pFit (cP 32 μ) st pc but (r + 1) = true from ⟨by omega, by show (pFit (cP 32 μ) st pc but r && (decide (nI r = but) || decide (pSight (μ 34 r) (μ 35 r) (pW (st + μ 33 r * pc) 0 40) = μ 36 r))) = true; rw [hI.2, decide_eq_true h34]; simp⟩) (by show n - (r + 1) < n - r; omega)
    · refine zx_aload_n (k := 1) (nn := 38) dX1_fitsAll_37 rfl rfl rfl ?_
      refine zx_getR (q := 34) (nn := 41) flX1_15 rfl rfl dX1_fitsAll_38 rfl ?_
      refine zx_iload (k := 5) (nn := 43) dX1_fitsAll_41 rfl rfl ?_
      refine zx_iald_n (j := r) (nn := 44) rfl (by omega) (by decide) dX1_fitsAll_43 rfl ?_
      refine zx_aload_n (k := 1) (nn := 45) dX1_fitsAll_44 rfl rfl rfl ?_
      refine zx_getR (q := 35) (nn := 48) flX1_18 rfl rfl dX1_fitsAll_45 rfl ?_
      refine zx_iload (k := 5) (nn := 50) dX1_fitsAll_48 rfl rfl ?_
      refine zx_iald_n (j := r) (nn := 51) rfl (by omega) (by decide) dX1_fitsAll_50 rfl ?_
      refine zx_iload (k := 0) (nn := 53) dX1_fitsAll_51 rfl rfl ?_
      refine zx_callSf (nn := 56) (d' := 1) (as := [zi (μ 34 r), zi (μ 35 r), zi (pW (st + ((μ 33 r) * pc)) 0 40)]) (rest := []) (n := 3) (eX8_sightFor σ μ (μ 34 r) (μ 35 r) (pW (st + ((μ 33 r) * pc)) 0 40)  ) kX8_sightFor mlX1_50 (by decide) rfl rfl (Nat.le_of_ble_eq_true rfl) dX1_fitsAll_53 rfl ?_
      show zX shC σ 2 MX1_fitsAll 56 [(5, zi (pW (st + ((μ 33 r) * pc)) 0 40)), (0, zr 32), (1, zi st), (2, zi pc), (3, zi but), (4, zi (nI r))] [zi (pSight (μ 34 r) (μ 35 r) (pW (st + ((μ 33 r) * pc)) 0 40))] μ _
      refine zx_aload_n (k := 1) (nn := 57) dX1_fitsAll_56 rfl rfl rfl ?_
      refine zx_getR (q := 36) (nn := 60) flX1_21 rfl rfl dX1_fitsAll_57 rfl ?_
      refine zx_iload (k := 5) (nn := 62) dX1_fitsAll_60 rfl rfl ?_
      refine zx_iald_n (j := r) (nn := 63) rfl (by omega) (by decide) dX1_fitsAll_62 rfl ?_
      refine zx_icmp_eq (tgt := 68) (nn := 66) dX1_fitsAll_63 (by decide) rfl (fun h63 => ?_) (fun h63 => ?_)
      · refine zx_iinc (k := 5) (v := nI (r + 1)) (lv' := [(4, zi (nI (r + 1))), (5, zi (pW (st + ((μ 33 r) * pc)) 0 40)), (0, zr 32), (1, zi st), (2, zi pc), (3, zi but)]) (nn := 71) dX1_fitsAll_68 rfl (nI_1 r) (by decide) rfl rfl ?_
        refine zx_goto (tgt := 3) dX1_fitsAll_71 (by decide) ?_
        refine zx_lv (lv' := [(0, zr 32), (1, zi st), (2, zi pc), (3, zi but), (4, zi (nI (r + 1)))]) [2, 3, 4, 5, 0] rfl ?_
        exact ih3 (r + 1) (show (r + 1) ≤ n ∧ pFit (cP 32 μ) st pc but (r + 1) = true from ⟨by omega, by show (pFit (cP 32 μ) st pc but r && (decide (nI r = but) || decide (pSight (μ 34 r) (μ 35 r) (pW (st + μ 33 r * pc) 0 40) = μ 36 r))) = true; rw [hI.2, decide_eq_true (p := pSight (μ 34 r) (μ 35 r) (pW (st + μ 33 r * pc) 0 40) = μ 36 r) h63]; simp⟩) (by show n - (r + 1) < n - r; omega)
      · refine zx_iconst (v := 0) (nn := 67) rfl dX1_fitsAll_66 rfl ?_
        refine zx_zret rfl rfl dX1_fitsAll_67 ?_
        refine ⟨congrArg (fun x => some (zi x)) ?_, rfl⟩
        rw [pFit_no (m := r) (by show (decide (nI r = but) || decide (pSight (μ 34 r) (μ 35 r) (pW (st + μ 33 r * pc) 0 40) = μ 36 r)) = false; rw [decide_eq_false h34, decide_eq_false h63]; rfl) (by omega)]
        rfl
set_option maxHeartbeats 4000000 in
set_option maxRecDepth 100000 in
theorem eX1_countWalks_32 (σ : zG) (μ : zM) (but : Int32) (n : Nat) (hc : μ 32 4 = nI n) (hn : n ≤ 6) : zMet shC σ 3 MX1_countWalks yX1_countWalks [zr 32, zi but] μ (fun rr μ' => rr = some (zi (nI (pWalks (cP 32 μ) n but).1)) ∧ zJ [32] μ μ' ∧ cP 32 μ' = cP 32 μ ∧ μ' 32 4 = nI n ∧ ((pWalks (cP 32 μ) n but).1 ≠ 0 → μ' 32 5 = (pWalks (cP 32 μ) n but).2.1 ∧ μ' 32 6 = (pWalks (cP 32 μ) n but).2.2)) := by
  refine zmetF (by decide +kernel) rfl (Nat.le_of_ble_eq_true rfl) ?_
  show zX shC σ 3 MX1_countWalks 0 [(0, zr 32), (1, zi but)] [] μ _
  refine zx_iconst (v := 0) (nn := 1) rfl dX1_countWalks_0 rfl ?_
  refine zx_istore_n (nn := 2) (lv' := [(2, zi 0), (0, zr 32), (1, zi but)]) dX1_countWalks_1 rfl (by decide) rfl rfl ?_
  refine zx_iconst (v := 0) (nn := 3) rfl dX1_countWalks_2 rfl ?_
  refine zx_istore_n (nn := 4) (lv' := [(3, zi 0), (2, zi 0), (0, zr 32), (1, zi but)]) dX1_countWalks_3 rfl (by decide) rfl rfl ?_
  refine zx_lv (lv' := [(0, zr 32), (1, zi but), (2, zi 0), (3, zi 0)]) [2, 3, 1, 0] rfl ?_
  refine zx_while (τ := Nat × Nat × zM) (fun t_ => 41 - t_.1) (fun t_ => t_.1 ≤ 41 ∧ cP 32 t_.2.2 = cP 32 μ ∧ zJ [32] μ t_.2.2 ∧ t_.2.2 32 4 = nI n ∧ (pWalk (cP 32 μ) n but (μ 32 5, μ 32 6)) (5 * t_.1) = (t_.2.1, t_.2.2 32 5, t_.2.2 32 6)) (fun t_ => [(0, zr 32), (1, zi but), (2, zi (nI t_.2.1)), (3, zi (nI t_.1))]) (fun t_ => t_.2.2) (t0 := (0, 0, μ)) (show 0 ≤ 41 ∧ cP 32 μ = cP 32 μ ∧ zJ [32] μ μ ∧ μ 32 4 = nI n ∧ (pWalk (cP 32 μ) n but (μ 32 5, μ 32 6)) (5 * 0) = (0, μ 32 5, μ 32 6) from ⟨Nat.zero_le _, rfl, zJ.rf, hc, rfl⟩) ?_
  rintro ⟨a, c, μ1⟩ hI ih4
  replace hI : a ≤ 41 ∧ cP 32 μ1 = cP 32 μ ∧ zJ [32] μ μ1 ∧ μ1 32 4 = nI n ∧ (pWalk (cP 32 μ) n but (μ 32 5, μ 32 6)) (5 * a) = (c, μ1 32 5, μ1 32 6) := hI
  show zX shC σ 3 MX1_countWalks 4 [(0, zr 32), (1, zi but), (2, zi (nI c)), (3, zi (nI a))] [] μ1 _
  obtain ⟨a1, a2, a3, a4, a5⟩ := hI
  refine zx_iload_n (k := 3) (nn := 5) dX1_countWalks_4 rfl rfl rfl ?_
  refine zx_bipush (v := 40) (nn := 7) rfl dX1_countWalks_5 rfl ?_
  refine zx_icmp_gt (tgt := 61) (nn := 10) dX1_countWalks_7 (by decide) rfl (fun h7 => ?_) (fun h7 => ?_)
  · refine zx_iload_n (k := 2) (nn := 62) dX1_countWalks_61 rfl rfl rfl ?_
    refine zx_iret rfl dX1_countWalks_62 ?_
    have hge : 40 < a := (nI_ltI (a := 40) (by omega) (by omega)).mp h7
    rw [show 5 * a = 205 by omega] at a5
    have hx := pWalk_x (P := cP 32 μ) (n := n) (but := but) (x := (μ 32 5, μ 32 6)) (y := (0, 0)) 205
    rw [a5] at hx
    have h1 : c = (pWalks (cP 32 μ) n but).1 := hx.1
    refine ⟨congrArg (fun x => some (zi x)) (by rw [h1]), a3, a2, a4, fun h => ?_⟩
    have h2 := hx.2 (by show c ≠ 0; rw [h1]; exact h)
    have h3 : (μ1 32 5, μ1 32 6) = (pWalks (cP 32 μ) n but).2 := h2
    rw [← h3]
    exact ⟨rfl, rfl⟩
  · have hlt : a < 41 := (nI_leI (b := 40) (by omega) (by omega)).mp (Int32.not_lt.mp h7) |> fun q => by omega
    refine zx_bipush (v := -2) (nn := 12) rfl dX1_countWalks_10 rfl ?_
    refine zx_istore (nn := 14) (lv' := [(4, zi (-2)), (0, zr 32), (1, zi but), (2, zi (nI c)), (3, zi (nI a))]) dX1_countWalks_12 (by decide) rfl rfl ?_
    refine zx_lv (lv' := [(0, zr 32), (1, zi but), (2, zi (nI c)), (3, zi (nI a)), (4, zi (-2))]) [1, 2, 3, 4, 0] rfl ?_
    refine zx_while (τ := Nat × Nat × zM) (fun t_ => 5 - t_.1) (fun t_ => t_.1 ≤ 5 ∧ cP 32 t_.2.2 = cP 32 μ ∧ zJ [32] μ t_.2.2 ∧ t_.2.2 32 4 = nI n ∧ (pWalk (cP 32 μ) n but (μ 32 5, μ 32 6)) (5 * a + t_.1) = (t_.2.1, t_.2.2 32 5, t_.2.2 32 6)) (fun t_ => [(0, zr 32), (1, zi but), (2, zi (nI t_.2.1)), (3, zi (nI a)), (4, zi (nI t_.1 - 2))]) (fun t_ => t_.2.2) (t0 := (0, c, μ1)) (show 0 ≤ 5 ∧ cP 32 μ1 = cP 32 μ ∧ zJ [32] μ μ1 ∧ μ1 32 4 = nI n ∧ (pWalk (cP 32 μ) n but (μ 32 5, μ 32 6)) (5 * a + 0) = (c, μ1 32 5, μ1 32 6) from ⟨Nat.zero_le _, a2, a3, a4, a5⟩) ?_
    rintro ⟨j, d, μ2⟩ hI ih14
    replace hI : j ≤ 5 ∧ cP 32 μ2 = cP 32 μ ∧ zJ [32] μ μ2 ∧ μ2 32 4 = nI n ∧ (pWalk (cP 32 μ) n but (μ 32 5, μ 32 6)) (5 * a + j) = (d, μ2 32 5, μ2 32 6) := hI
    show zX shC σ 3 MX1_countWalks 14 [(0, zr 32), (1, zi but), (2, zi (nI d)), (3, zi (nI a)), (4, zi (nI j - 2))] [] μ2 _
    obtain ⟨k0, k1, k2, k3, k4⟩ := hI
    refine zx_iload (k := 4) (nn := 16) dX1_countWalks_14 rfl rfl ?_
    refine zx_iconst (v := 2) (nn := 17) rfl dX1_countWalks_16 rfl ?_
    refine zx_icmp_gt (tgt := 55) (nn := 20) dX1_countWalks_17 (by decide) rfl (fun h17 => ?_) (fun h17 => ?_)
    · have hj5 : j = 5 := (zpace k0).mp h17
      refine zx_iinc (k := 3) (v := nI (a + 1)) (lv' := [(3, zi (nI (a + 1))), (0, zr 32), (1, zi but), (2, zi (nI d)), (4, zi (nI j - 2))]) (nn := 58) dX1_countWalks_55 rfl (nI_1 a) (by decide) rfl rfl ?_
      refine zx_goto (tgt := 4) dX1_countWalks_58 (by decide) ?_
      refine zx_lv (lv' := [(0, zr 32), (1, zi but), (2, zi (nI d)), (3, zi (nI (a + 1)))]) [1, 2, 3, 0] rfl ?_
      exact ih4 (a + 1, d, μ2) (show (a + 1) ≤ 41 ∧ cP 32 μ2 = cP 32 μ ∧ zJ [32] μ μ2 ∧ μ2 32 4 = nI n ∧ (pWalk (cP 32 μ) n but (μ 32 5, μ 32 6)) (5 * (a + 1)) = (d, μ2 32 5, μ2 32 6) from ⟨by omega, k1, k2, k3, by rw [show 5 * (a + 1) = 5 * a + j by omega]; exact k4⟩) (by show 41 - (a + 1) < 41 - a; omega)
    · have hj5 : j < 5 := by have hne : ¬ j = 5 := (fun q => h17 ((zpace k0).mpr q)); omega
      have hdiv : (5 * a + j) / 5 = a := by omega
      have hmod : (5 * a + j) % 5 = j := by omega
      have hsp : pFit (cP 32 μ) (pStart (5 * a + j)) (pPace (5 * a + j)) but n = pFit (cP 32 μ2) (nI a) (nI j - 2) but n := by unfold pStart pPace; rw [hdiv, hmod, k1]
      have hdle : d ≤ 205 := by have := pWalk_le (P := cP 32 μ) (n := n) (but := but) (x := (μ 32 5, μ 32 6)) (5 * a + j); rw [k4] at this; simp at this; omega
      refine zx_aload_n (k := 0) (nn := 21) dX1_countWalks_20 rfl rfl rfl ?_
      refine zx_iload_n (k := 3) (nn := 22) dX1_countWalks_21 rfl rfl rfl ?_
      refine zx_iload (k := 4) (nn := 24) dX1_countWalks_22 rfl rfl ?_
      refine zx_iload_n (k := 1) (nn := 25) dX1_countWalks_24 rfl rfl rfl ?_
      refine zx_callVf (nn := 28) (k := 32) (d' := 2) (as := [zi (nI a), zi (nI j - 2), zi but]) (rest := []) (n := 3) (eX1_fitsAll_32 σ μ2 (nI a) (nI j - 2) but n k3 hn) kX1_fitsAll mlX1_34 rfl rfl rfl (by decide) rfl rfl (Nat.le_of_ble_eq_true rfl) dX1_countWalks_25 rfl ?_
      show zX shC σ 3 MX1_countWalks 28 [(0, zr 32), (1, zi but), (2, zi (nI d)), (3, zi (nI a)), (4, zi (nI j - 2))] [zi (zb (pFit (cP 32 μ2) (nI a) (nI j - 2) but n))] μ2 _
      refine zx_ifb_eq (tgt := 49) (nn := 31) dX1_countWalks_28 (by decide) rfl (fun h28 => ?_) (fun h28 => ?_)
      · refine zx_iinc (k := 4) (v := (nI j - 2) + 1) (lv' := [(4, zi ((nI j - 2) + 1)), (0, zr 32), (1, zi but), (2, zi (nI d)), (3, zi (nI a))]) (nn := 52) dX1_countWalks_49 rfl rfl (by decide) rfl rfl ?_
        rw [show (nI j - 2) + 1 = nI (j + 1) - 2 from zpace1 (by omega)]
        show zX shC σ 3 MX1_countWalks 52 [(4, zi (nI (j + 1) - 2)), (0, zr 32), (1, zi but), (2, zi (nI d)), (3, zi (nI a))] [] μ2 _
        refine zx_goto (tgt := 14) dX1_countWalks_52 (by decide) ?_
        refine zx_lv (lv' := [(0, zr 32), (1, zi but), (2, zi (nI d)), (3, zi (nI a)), (4, zi (nI (j + 1) - 2))]) [1, 2, 3, 4, 0] rfl ?_
        exact ih14 (j + 1, d, μ2) (show (j + 1) ≤ 5 ∧ cP 32 μ2 = cP 32 μ ∧ zJ [32] μ μ2 ∧ μ2 32 4 = nI n ∧ (pWalk (cP 32 μ) n but (μ 32 5, μ 32 6)) (5 * a + (j + 1)) = (d, μ2 32 5, μ2 32 6) from ⟨by omega, k1, k2, k3, by show (pWalk (cP 32 μ) n but (μ 32 5, μ 32 6)) (5 * a + j + 1) = _; rw [pWalk_s, k4, hsp]; rw [if_neg (by rw [h28]; decide)]⟩) (by show 5 - (j + 1) < 5 - j; omega)
      · refine zx_iload_n (k := 2) (nn := 32) dX1_countWalks_31 rfl rfl rfl ?_
        refine zx_if_ne (tgt := 46) (nn := 35) dX1_countWalks_32 (by decide) rfl (fun h32 => ?_) (fun h32 => ?_)
        · refine zx_iinc (k := 2) (v := nI (d + 1)) (lv' := [(2, zi (nI (d + 1))), (0, zr 32), (1, zi but), (3, zi (nI a)), (4, zi (nI j - 2))]) (nn := 49) dX1_countWalks_46 rfl (nI_1 d) (by decide) rfl rfl ?_
          refine zx_iinc (k := 4) (v := (nI j - 2) + 1) (lv' := [(4, zi ((nI j - 2) + 1)), (2, zi (nI (d + 1))), (0, zr 32), (1, zi but), (3, zi (nI a))]) (nn := 52) dX1_countWalks_49 rfl rfl (by decide) rfl rfl ?_
          rw [show (nI j - 2) + 1 = nI (j + 1) - 2 from zpace1 (by omega)]
          show zX shC σ 3 MX1_countWalks 52 [(4, zi (nI (j + 1) - 2)), (2, zi (nI (d + 1))), (0, zr 32), (1, zi but), (3, zi (nI a))] [] μ2 _
          refine zx_goto (tgt := 14) dX1_countWalks_52 (by decide) ?_
          refine zx_lv (lv' := [(0, zr 32), (1, zi but), (2, zi (nI (d + 1))), (3, zi (nI a)), (4, zi (nI (j + 1) - 2))]) [2, 3, 1, 4, 0] rfl ?_
          exact ih14 (j + 1, d + 1, μ2) (show (j + 1) ≤ 5 ∧ cP 32 μ2 = cP 32 μ ∧ zJ [32] μ μ2 ∧ μ2 32 4 = nI n ∧ (pWalk (cP 32 μ) n but (μ 32 5, μ 32 6)) (5 * a + (j + 1)) = ((d + 1), μ2 32 5, μ2 32 6) from ⟨by omega, k1, k2, k3, by show (pWalk (cP 32 μ) n but (μ 32 5, μ 32 6)) (5 * a + j + 1) = _; rw [pWalk_s, k4, hsp]; rw [if_pos h28, if_neg (fun q => h32 (by rw [show d = 0 from q]; rfl))]⟩) (by show 5 - (j + 1) < 5 - j; omega)
        · refine zx_aload_n (k := 0) (nn := 36) dX1_countWalks_35 rfl rfl rfl ?_
          refine zx_iload_n (k := 3) (nn := 37) dX1_countWalks_36 rfl rfl rfl ?_
          refine zx_putI (nn := 40) fpX1_38 rfl rfl rfl rfl dX1_countWalks_37 rfl ?_
          refine zx_aload_n (k := 0) (nn := 41) dX1_countWalks_40 rfl rfl rfl ?_
          refine zx_iload (k := 4) (nn := 43) dX1_countWalks_41 rfl rfl ?_
          refine zx_putI (nn := 46) fpX1_41 rfl rfl rfl rfl dX1_countWalks_43 rfl ?_
          refine zx_iinc (k := 2) (v := nI (d + 1)) (lv' := [(2, zi (nI (d + 1))), (0, zr 32), (1, zi but), (3, zi (nI a)), (4, zi (nI j - 2))]) (nn := 49) dX1_countWalks_46 rfl (nI_1 d) (by decide) rfl rfl ?_
          refine zx_iinc (k := 4) (v := (nI j - 2) + 1) (lv' := [(4, zi ((nI j - 2) + 1)), (2, zi (nI (d + 1))), (0, zr 32), (1, zi but), (3, zi (nI a))]) (nn := 52) dX1_countWalks_49 rfl rfl (by decide) rfl rfl ?_
          rw [show (nI j - 2) + 1 = nI (j + 1) - 2 from zpace1 (by omega)]
          show zX shC σ 3 MX1_countWalks 52 [(4, zi (nI (j + 1) - 2)), (2, zi (nI (d + 1))), (0, zr 32), (1, zi but), (3, zi (nI a))] [] (zp (zp μ2 32 5 (nI a)) 32 6 (nI j - 2)) _
          refine zx_goto (tgt := 14) dX1_countWalks_52 (by decide) ?_
          refine zx_lv (lv' := [(0, zr 32), (1, zi but), (2, zi (nI (d + 1))), (3, zi (nI a)), (4, zi (nI (j + 1) - 2))]) [2, 3, 1, 4, 0] rfl ?_
          exact ih14 (j + 1, d + 1, zp (zp μ2 32 5 (nI a)) 32 6 (nI j - 2)) (show (j + 1) ≤ 5 ∧ cP 32 (zp (zp μ2 32 5 (nI a)) 32 6 (nI j - 2)) = cP 32 μ ∧ zJ [32] μ (zp (zp μ2 32 5 (nI a)) 32 6 (nI j - 2)) ∧ (zp (zp μ2 32 5 (nI a)) 32 6 (nI j - 2)) 32 4 = nI n ∧ (pWalk (cP 32 μ) n but (μ 32 5, μ 32 6)) (5 * a + (j + 1)) = ((d + 1), (zp (zp μ2 32 5 (nI a)) 32 6 (nI j - 2)) 32 5, (zp (zp μ2 32 5 (nI a)) 32 6 (nI j - 2)) 32 6) from ⟨by omega, ((cP_p (by decide)).trans (cP_p (by decide))).trans k1, (k2.p (by decide)).p (by decide), by simp [zp, zu, upd]; exact k3, by show (pWalk (cP 32 μ) n but (μ 32 5, μ 32 6)) (5 * a + j + 1) = _; rw [pWalk_s, k4, hsp]; rw [if_pos h28, if_pos (nI_eq0 h32 (by omega))]; simp [zp, zu, upd, pStart, pPace, hdiv, hmod]⟩) (by show 5 - (j + 1) < 5 - j; omega)
set_option maxHeartbeats 4000000 in
set_option maxRecDepth 100000 in
theorem eX1_leastLiar_32 (σ : zG) (μ : zM) (n : Nat) (hc : μ 32 4 = nI n) (hn : n ≤ 6) : zMet shC σ 4 MX1_leastLiar yX1_leastLiar [zr 32] μ (fun rr μ' => rr = some (zi (pLiar (cP 32 μ) n (-3))) ∧ zJ [32] μ μ' ∧ cP 32 μ' = cP 32 μ ∧ μ' 32 4 = nI n) := by
  refine zmetF (by decide +kernel) rfl (Nat.le_of_ble_eq_true rfl) ?_
  show zX shC σ 4 MX1_leastLiar 0 [(0, zr 32)] [] μ _
  refine zx_aload_n (k := 0) (nn := 1) dX1_leastLiar_0 rfl rfl rfl ?_
  refine zx_bipush (v := -3) (nn := 3) rfl dX1_leastLiar_1 rfl ?_
  refine zx_callV (nn := 6) (k := 32) (d' := 3) (as := [zi (-3)]) (rest := []) (n := 1) (eX1_countWalks_32 σ μ (-3) n hc hn) kX1_countWalks mlX1_53 rfl rfl rfl (by decide) rfl rfl (Nat.le_of_ble_eq_true rfl) dX1_leastLiar_3 rfl ?_
  rintro _ ν1 ⟨rfl, c1, c2, c3, -⟩
  show zX shC σ 4 MX1_leastLiar 6 [(0, zr 32)] [zi (nI (pWalks (cP 32 μ) n (-3)).1)] ν1 _
  have hw : ∀ b, (pWalks (cP 32 μ) n b).1 ≤ 205 := fun b => pWalk_le 205
  refine zx_if_le (tgt := 12) (nn := 9) dX1_leastLiar_6 (by decide) rfl (fun h6 => ?_) (fun h6 => ?_)
  · refine zx_iconst (v := 0) (nn := 13) rfl dX1_leastLiar_12 rfl ?_
    refine zx_istore_n (nn := 14) (lv' := [(1, zi 0), (0, zr 32)]) dX1_leastLiar_13 rfl (by decide) rfl rfl ?_
    refine zx_lv (lv' := [(0, zr 32), (1, zi 0)]) [1, 0] rfl ?_
    refine zx_while (τ := Nat × zM) (fun t_ => n - t_.1) (fun t_ => t_.1 ≤ n ∧ cP 32 t_.2 = cP 32 μ ∧ zJ [32] μ t_.2 ∧ t_.2 32 4 = nI n ∧ pFirst (fun r_ => decide ((pWalks (cP 32 μ) n (nI r_)).1 ≠ 0)) 0 n = pFirst (fun r_ => decide ((pWalks (cP 32 μ) n (nI r_)).1 ≠ 0)) t_.1 (n - t_.1)) (fun t_ => [(0, zr 32), (1, zi (nI t_.1))]) (fun t_ => t_.2) (t0 := (0, ν1)) (show 0 ≤ n ∧ cP 32 ν1 = cP 32 μ ∧ zJ [32] μ ν1 ∧ ν1 32 4 = nI n ∧ pFirst (fun r_ => decide ((pWalks (cP 32 μ) n (nI r_)).1 ≠ 0)) 0 n = pFirst (fun r_ => decide ((pWalks (cP 32 μ) n (nI r_)).1 ≠ 0)) 0 (n - 0) from ⟨Nat.zero_le _, c2, c1, c3, rfl⟩) ?_
    rintro ⟨r, μ1⟩ hI ih14
    replace hI : r ≤ n ∧ cP 32 μ1 = cP 32 μ ∧ zJ [32] μ μ1 ∧ μ1 32 4 = nI n ∧ pFirst (fun r_ => decide ((pWalks (cP 32 μ) n (nI r_)).1 ≠ 0)) 0 n = pFirst (fun r_ => decide ((pWalks (cP 32 μ) n (nI r_)).1 ≠ 0)) r (n - r) := hI
    show zX shC σ 4 MX1_leastLiar 14 [(0, zr 32), (1, zi (nI r))] [] μ1 _
    obtain ⟨l0, l1, l2, l3, l4⟩ := hI
    have hpos : ∀ {x : Nat}, x ≠ 0 → x ≤ 205 → ¬ (nI x ≤ 0) := fun {x} h1 h2 => nI_nle (by omega) (by omega)
    refine zx_iload_n (k := 1) (nn := 15) dX1_leastLiar_14 rfl rfl rfl ?_
    refine zx_aload_n (k := 0) (nn := 16) dX1_leastLiar_15 rfl rfl rfl ?_
    refine zx_getI (nn := 19) flX1_30 rfl rfl dX1_leastLiar_16 rfl ?_
    rw [l3]
    show zX shC σ 4 MX1_leastLiar 19 [(0, zr 32), (1, zi (nI r))] [zi (nI n), zi (nI r)] μ1 _
    refine zx_icmp_ge (tgt := 38) (nn := 22) dX1_leastLiar_19 (by decide) rfl (fun h19 => ?_) (fun h19 => ?_)
    · refine zx_bipush (v := -3) (nn := 40) rfl dX1_leastLiar_38 rfl ?_
      refine zx_iret rfl dX1_leastLiar_40 ?_
      have h0 : (pWalks (cP 32 μ) n (-3)).1 = 0 := by
        rcases Nat.eq_zero_or_pos (pWalks (cP 32 μ) n (-3)).1 with q | q
        · exact q
        · exact absurd h6 (nI_nle q (by have := hw (-3); omega))
      have hge := nI_le_le h19 (by omega)
      refine ⟨congrArg (fun x => some (zi x)) ?_, l2, l1, l3⟩
      unfold pLiar
      rw [if_neg (fun q => q h0), l4, show n - r = 0 by omega]
      rfl
    · have hlt : r < n := nI_nle_lt h19 (by omega)
      refine zx_aload_n (k := 0) (nn := 23) dX1_leastLiar_22 rfl rfl rfl ?_
      refine zx_iload_n (k := 1) (nn := 24) dX1_leastLiar_23 rfl rfl rfl ?_
      refine zx_callV (nn := 27) (k := 32) (d' := 3) (as := [zi (nI r)]) (rest := []) (n := 1) (eX1_countWalks_32 σ μ1 (nI r) n l3 hn) kX1_countWalks mlX1_53 rfl rfl rfl (by decide) rfl rfl (Nat.le_of_ble_eq_true rfl) dX1_leastLiar_24 rfl ?_
      rintro _ ν2 ⟨rfl, d1, d2, d3, -⟩
      show zX shC σ 4 MX1_leastLiar 27 [(0, zr 32), (1, zi (nI r))] [zi (nI (pWalks (cP 32 μ1) n (nI r)).1)] ν2 _
      refine zx_if_le (tgt := 32) (nn := 30) dX1_leastLiar_27 (by decide) rfl (fun h27 => ?_) (fun h27 => ?_)
      · refine zx_iinc (k := 1) (v := nI (r + 1)) (lv' := [(1, zi (nI (r + 1))), (0, zr 32)]) (nn := 35) dX1_leastLiar_32 rfl (nI_1 r) (by decide) rfl rfl ?_
        refine zx_goto (tgt := 14) dX1_leastLiar_35 (by decide) ?_
        refine zx_lv (lv' := [(0, zr 32), (1, zi (nI (r + 1)))]) [1, 0] rfl ?_
        exact ih14 (r + 1, ν2) (show (r + 1) ≤ n ∧ cP 32 ν2 = cP 32 μ ∧ zJ [32] μ ν2 ∧ ν2 32 4 = nI n ∧ pFirst (fun r_ => decide ((pWalks (cP 32 μ) n (nI r_)).1 ≠ 0)) 0 n = pFirst (fun r_ => decide ((pWalks (cP 32 μ) n (nI r_)).1 ≠ 0)) (r + 1) (n - (r + 1)) from ⟨by omega, d2.trans l1, l2.tr d1, d3, by rw [l4, pFirst_step hlt, if_neg (by rw [l1] at h27; rw [decide_eq_true_eq]; exact fun q => hpos q (pWalk_le 205) h27)]⟩) (by show n - (r + 1) < n - r; omega)
      · refine zx_iload_n (k := 1) (nn := 31) dX1_leastLiar_30 rfl rfl rfl ?_
        refine zx_iret rfl dX1_leastLiar_31 ?_
        have h0 : (pWalks (cP 32 μ) n (-3)).1 = 0 := by
          rcases Nat.eq_zero_or_pos (pWalks (cP 32 μ) n (-3)).1 with q | q
          · exact q
          · exact absurd h6 (nI_nle q (by have := hw (-3); omega))
        refine ⟨congrArg (fun x => some (zi x)) ?_, l2.tr d1, d2.trans l1, d3⟩
        unfold pLiar
        rw [if_neg (fun q => q h0), l4, pFirst_step hlt, if_pos (by rw [decide_eq_true_eq, ← l1]; exact fun q => h27 (by rw [q]; decide))]
  · refine zx_bipush (v := -3) (nn := 11) rfl dX1_leastLiar_9 rfl ?_
    refine zx_iret rfl dX1_leastLiar_11 ?_
    refine ⟨congrArg (fun x => some (zi x)) ?_, c1, c2, c3⟩
    unfold pLiar
    rw [if_pos (fun q => h6 (by rw [q]; decide))]
