theorem cplX8 : Cond.methodLink RX8 40 arraycopyName ∈ zw := zw_t (i := 700) (by decide +kernel) rfl
theorem cplX5 : Cond.methodLink RX5 27 arraycopyName ∈ zw := zw_t (i := 653) (by decide +kernel) rfl
theorem cplX0 : Cond.methodLink RX0 79 arraycopyName ∈ zw := zw_t (i := 789) (by decide +kernel) rfl
theorem cplX1 : Cond.methodLink RX1 24 arraycopyName ∈ zw := zw_t (i := 1066) (by decide +kernel) rfl
theorem cS_fld {b l : Nat} {μ : zM} {v : Int32} (w : Nat) (hw : w < 4) (hl : l < 6) (i : Nat) : cS b (zp μ (b + 1 + w) l v) i = if i = 7 + 4 * l + w then v else cS b μ i := by
  unfold cS
  by_cases h7 : i < 7
  · rw [if_neg (show ¬ i = 7 + 4 * l + w by omega)]
    simp only [zp_ne (show b ≠ b + 1 + w by omega)]
    simp [h7]
  · have hx : ¬ i = 0 ∧ ¬ i = 1 ∧ ¬ i = 2 ∧ ¬ i = 3 ∧ ¬ i = 4 := by omega
    by_cases h31 : i < 31
    · simp only [hx, h7, h31, if_true, if_false]
      by_cases hq : (i - 7) % 4 = w
      · rw [hq, zp_eq]
        unfold upd
        by_cases hq2 : (i - 7) / 4 = l
        · rw [if_pos hq2, if_pos (by omega)]
        · rw [if_neg hq2, if_neg (by omega)]
      · rw [zp_ne (by omega), if_neg (by omega)]
    · simp only [hx, h7, h31, if_false]
      rw [zp_ne (show b + 5 ≠ b + 1 + w by omega), if_neg (show ¬ i = 7 + 4 * l + w by omega)]
theorem cS_copy {b c : Nat} {μ ν : zM} (h7 : ν b 7 = μ c 7) (h8 : ν b 8 = μ c 8) (h9 : ν b 9 = μ c 9) (h10 : ν b 10 = μ c 10) (h11 : ν b 11 = μ c 11)
    (hr : ∀ w, 1 ≤ w → w ≤ 4 → ∀ j, j < 6 → ν (b + w) j = μ (c + w) j) (hp : ∀ j, j < 16 → ν (b + 5) j = μ (c + 5) j) : cS b ν = cS c μ := by
  funext i
  unfold cS
  rw [h7, h8, h9, h10, h11]
  by_cases h31 : i < 31
  · by_cases hi7 : i < 7
    · simp only [hi7, if_true]
    · simp only [hi7, h31, if_true, if_false]
      have e := hr (1 + (i - 7) % 4) (by omega) (by omega) ((i - 7) / 4) (by omega)
      rw [show b + (1 + (i - 7) % 4) = b + 1 + (i - 7) % 4 by omega, show c + (1 + (i - 7) % 4) = c + 1 + (i - 7) % 4 by omega] at e
      rw [e]
  · by_cases h47 : i < 47
    · simp only [h31, h47, if_true, if_false]
      rw [hp (i - 31) (by omega)]
    · simp only [h31, h47, if_false]
/-! the stage's spec, on -/
def pLamp (s : Nat → Int32) (k a z t : Int32) : Nat → Int32 := fun i =>
  if i = 0 then s 0 + 1 else if i = 7 + 4 * pL s then k else if i = 7 + 4 * pL s + 1 then a else if i = 7 + 4 * pL s + 2 then z else if i = 7 + 4 * pL s + 3 then t else s i
def pDance (s : Nat → Int32) (p : Int32) : Nat → Int32 := fun i => if i = 1 then s 1 + 1 else if i = 31 + pB s then p else s i
def pPut (s : Nat → Int32) (k : Nat) (v : Int32) : Nat → Int32 := fun i => if i = k then v else s i
def pZ (s : Nat → Int32) : Int32 := s 4 * 1103515245 + 12345
def pLot5 (z : Int32) : Int32 := zushr z 16 - zushr z 16 / 5 * 5
def pSlip (s : Nat → Int32) : Nat → Int32 := pPut (pPut s 4 (pZ s)) (31 + pb s) (pW (s (31 + pb s) + pLot5 (pZ s) - 2) 0 40)
theorem pOK_put {s : Nat → Int32} {k : Nat} {v : Int32} (ok : pOK s) (hk : k = 3 ∨ k = 4 ∨ 31 ≤ k) : pOK (pPut s k v) := by
  have e : ∀ i, i ≠ k → pPut s k v i = s i := fun i hi => if_neg hi
  unfold pOK pL pB pb at *
  rw [e 0 (by omega), e 1 (by omega), e 2 (by omega)]
  refine ⟨ok.1, ok.2.1, ok.2.2.1, fun l hl => ?_⟩
  have : l < 6 := Nat.lt_of_lt_of_le hl ok.1.2
  rw [e _ (by omega), e _ (by omega), e _ (by omega)]
  exact ok.2.2.2 l hl
/-- all beats that are left go by, m of them -/
def pRun (ρ : pR) (s : Nat → Int32) : Nat → Nat → Int32
  | 0 => s
  | m + 1 => pGo ρ (pRun ρ s m) (-1)
theorem pOK_go {ρ : pR} {s : Nat → Int32} {h : Int32} (ok : pOK s) (hb : pb s < pB s) : pOK (pGo ρ s h) := by
  have hA := pOK_aims (ρ := ρ) (h := h) ok (ok_L ok).2
  have e1 : pAimsTo ρ s h (pL s) 1 = s 1 := pAimsTo_lo (by omega) (ok_L ok).2
  have e2 : pAimsTo ρ s h (pL s) 2 = s 2 := pAimsTo_lo (by omega) (ok_L ok).2
  have hB := pOK_beat hA (by unfold pb pB at *; rw [e1, e2]; exact hb)
  have hP := pOK_put (k := 3) (v := s 3 + pGain ρ s h) hB (Or.inl rfl)
  have e : pPut (pBeat (pAimsTo ρ s h (pL s))) 3 (s 3 + pGain ρ s h) = pGo ρ s h := by
    funext i
    unfold pPut pBeat pGo
    rw [pAims_to, e2]
    by_cases h3 : i = 3
    · rw [if_pos h3, if_neg (by omega), if_pos h3]
    · rw [if_neg h3]
      by_cases h2 : i = 2
      · rw [if_pos h2, if_pos h2]
      · rw [if_neg h2, if_neg h2, if_neg h3]
  rw [e] at hP
  exact hP
theorem pGo_lo {ρ : pR} {s : Nat → Int32} {h : Int32} {i : Nat} (ok : pOK s) (hi : i < 7 ∨ 31 ≤ i) (h2 : i ≠ 2) (h3 : i ≠ 3) : pGo ρ s h i = s i := by
  unfold pGo
  rw [if_neg h2, if_neg h3, pAims_to]
  exact pAimsTo_lo hi (ok_L ok).2
theorem pGo_2 {ρ : pR} {s : Nat → Int32} {h : Int32} : pGo ρ s h 2 = s 2 + 1 := rfl
theorem pGo_b {ρ : pR} {s : Nat → Int32} {h : Int32} (ok : pOK s) (hb : pb s < pB s) : pb (pGo ρ s h) = pb s + 1 := by
  show (s 2 + 1).toNatClampNeg = _
  rw [(ok_b ok).1, nI_1, nI_clamp (by have := (ok_B ok).2; omega)]
theorem pGo_B {ρ : pR} {s : Nat → Int32} {h : Int32} (ok : pOK s) : pB (pGo ρ s h) = pB s := by
  unfold pB
  rw [pGo_lo ok (by omega) (by omega) (by omega)]
theorem pGo_L {ρ : pR} {s : Nat → Int32} {h : Int32} (ok : pOK s) : pL (pGo ρ s h) = pL s := by
  unfold pL
  rw [pGo_lo ok (by omega) (by omega) (by omega)]
/-- what stays through m beats -/
theorem pRun_ok {ρ : pR} {s : Nat → Int32} (ok : pOK s) : ∀ m, m ≤ pB s - pb s → pOK (pRun ρ s m) ∧ pb (pRun ρ s m) = pb s + m ∧ pB (pRun ρ s m) = pB s ∧ pL (pRun ρ s m) = pL s ∧ ∀ i, (i < 7 ∨ 31 ≤ i) → i ≠ 2 → i ≠ 3 → pRun ρ s m i = s i
  | 0, _ => ⟨ok, rfl, rfl, rfl, fun _ _ _ _ => rfl⟩
  | m + 1, h => by
    obtain ⟨h1, h2, h3, h4, h5⟩ := pRun_ok (ρ := ρ) ok m (by omega)
    have hb : pb (pRun ρ s m) < pB (pRun ρ s m) := by rw [h2, h3]; omega
    refine ⟨pOK_go h1 hb, ?_, ?_, ?_, fun i hi h2' h3' => ?_⟩
    · show pb (pGo ρ _ _) = _
      rw [pGo_b h1 hb, h2]; omega
    · show pB (pGo ρ _ _) = _
      rw [pGo_B h1, h3]
    · show pL (pGo ρ _ _) = _
      rw [pGo_L h1, h4]
    · show pGo ρ _ _ i = _
      rw [pGo_lo h1 hi h2' h3', h5 i hi h2' h3']
set_option maxHeartbeats 4000000 in
set_option maxRecDepth 100000 in
theorem eX8_copyFrom_25_18 (σ : zG) (μ : zM) : zMet shC σ 1 MX8_copyFrom yX8_copyFrom [zr 25, zr 18] μ (fun rr μ' => rr = none ∧ cS 25 μ' = cS 18 μ ∧ zJ [25, 26, 27, 28, 29, 30] μ μ') := by
  refine zmetF (by decide +kernel) rfl (Nat.le_of_ble_eq_true rfl) ?_
  show zX shC σ 1 MX8_copyFrom 0 [(0, zr 25), (1, zr 18)] [] μ _
  refine zx_aload_n (k := 1) (nn := 1) dX8_copyFrom_0 rfl rfl rfl ?_
  refine zx_getR (q := 19) (nn := 4) flX8_9 rfl rfl dX8_copyFrom_1 rfl ?_
  refine zx_iconst (v := 0) (nn := 5) rfl dX8_copyFrom_4 rfl ?_
  refine zx_aload_n (k := 0) (nn := 6) dX8_copyFrom_5 rfl rfl rfl ?_
  refine zx_getR (q := 26) (nn := 9) flX8_9 rfl rfl dX8_copyFrom_6 rfl ?_
  refine zx_iconst (v := 0) (nn := 10) rfl dX8_copyFrom_9 rfl ?_
  refine zx_bipush (v := 6) (nn := 12) rfl dX8_copyFrom_10 rfl ?_
  refine zx_copy (nn := 15) cplX8 rfl rfl (by decide) (by decide) (by decide) (by decide) (Nat.le_of_ble_eq_true rfl) dX8_copyFrom_12 rfl ?_
  show zX shC σ 1 MX8_copyFrom 15 [(0, zr 25), (1, zr 18)] [] (zu μ 26 (va_cpy (μ 19) (μ 26) 0 0 6)) _
  refine zx_aload_n (k := 1) (nn := 16) dX8_copyFrom_15 rfl rfl rfl ?_
  refine zx_getR (q := 20) (nn := 19) flX8_15 rfl rfl dX8_copyFrom_16 rfl ?_
  refine zx_iconst (v := 0) (nn := 20) rfl dX8_copyFrom_19 rfl ?_
  refine zx_aload_n (k := 0) (nn := 21) dX8_copyFrom_20 rfl rfl rfl ?_
  refine zx_getR (q := 27) (nn := 24) flX8_15 rfl rfl dX8_copyFrom_21 rfl ?_
  refine zx_iconst (v := 0) (nn := 25) rfl dX8_copyFrom_24 rfl ?_
  refine zx_bipush (v := 6) (nn := 27) rfl dX8_copyFrom_25 rfl ?_
  refine zx_copy (nn := 30) cplX8 rfl rfl (by decide) (by decide) (by decide) (by decide) (Nat.le_of_ble_eq_true rfl) dX8_copyFrom_27 rfl ?_
  show zX shC σ 1 MX8_copyFrom 30 [(0, zr 25), (1, zr 18)] [] (zu (zu μ 26 (va_cpy (μ 19) (μ 26) 0 0 6)) 27 (va_cpy ((zu μ 26 (va_cpy (μ 19) (μ 26) 0 0 6)) 20) ((zu μ 26 (va_cpy (μ 19) (μ 26) 0 0 6)) 27) 0 0 6)) _
  refine zx_aload_n (k := 1) (nn := 31) dX8_copyFrom_30 rfl rfl rfl ?_
  refine zx_getR (q := 21) (nn := 34) flX8_18 rfl rfl dX8_copyFrom_31 rfl ?_
  refine zx_iconst (v := 0) (nn := 35) rfl dX8_copyFrom_34 rfl ?_
  refine zx_aload_n (k := 0) (nn := 36) dX8_copyFrom_35 rfl rfl rfl ?_
  refine zx_getR (q := 28) (nn := 39) flX8_18 rfl rfl dX8_copyFrom_36 rfl ?_
  refine zx_iconst (v := 0) (nn := 40) rfl dX8_copyFrom_39 rfl ?_
  refine zx_bipush (v := 6) (nn := 42) rfl dX8_copyFrom_40 rfl ?_
  refine zx_copy (nn := 45) cplX8 rfl rfl (by decide) (by decide) (by decide) (by decide) (Nat.le_of_ble_eq_true rfl) dX8_copyFrom_42 rfl ?_
  show zX shC σ 1 MX8_copyFrom 45 [(0, zr 25), (1, zr 18)] [] (zu (zu (zu μ 26 (va_cpy (μ 19) (μ 26) 0 0 6)) 27 (va_cpy ((zu μ 26 (va_cpy (μ 19) (μ 26) 0 0 6)) 20) ((zu μ 26 (va_cpy (μ 19) (μ 26) 0 0 6)) 27) 0 0 6)) 28 (va_cpy ((zu (zu μ 26 (va_cpy (μ 19) (μ 26) 0 0 6)) 27 (va_cpy ((zu μ 26 (va_cpy (μ 19) (μ 26) 0 0 6)) 20) ((zu μ 26 (va_cpy (μ 19) (μ 26) 0 0 6)) 27) 0 0 6)) 21) ((zu (zu μ 26 (va_cpy (μ 19) (μ 26) 0 0 6)) 27 (va_cpy ((zu μ 26 (va_cpy (μ 19) (μ 26) 0 0 6)) 20) ((zu μ 26 (va_cpy (μ 19) (μ 26) 0 0 6)) 27) 0 0 6)) 28) 0 0 6)) _
  refine zx_aload_n (k := 1) (nn := 46) dX8_copyFrom_45 rfl rfl rfl ?_
  refine zx_getR (q := 22) (nn := 49) flX8_21 rfl rfl dX8_copyFrom_46 rfl ?_
  refine zx_iconst (v := 0) (nn := 50) rfl dX8_copyFrom_49 rfl ?_
  refine zx_aload_n (k := 0) (nn := 51) dX8_copyFrom_50 rfl rfl rfl ?_
  refine zx_getR (q := 29) (nn := 54) flX8_21 rfl rfl dX8_copyFrom_51 rfl ?_
  refine zx_iconst (v := 0) (nn := 55) rfl dX8_copyFrom_54 rfl ?_
  refine zx_bipush (v := 6) (nn := 57) rfl dX8_copyFrom_55 rfl ?_
  refine zx_copy (nn := 60) cplX8 rfl rfl (by decide) (by decide) (by decide) (by decide) (Nat.le_of_ble_eq_true rfl) dX8_copyFrom_57 rfl ?_
  show zX shC σ 1 MX8_copyFrom 60 [(0, zr 25), (1, zr 18)] [] (zu (zu (zu (zu μ 26 (va_cpy (μ 19) (μ 26) 0 0 6)) 27 (va_cpy ((zu μ 26 (va_cpy (μ 19) (μ 26) 0 0 6)) 20) ((zu μ 26 (va_cpy (μ 19) (μ 26) 0 0 6)) 27) 0 0 6)) 28 (va_cpy ((zu (zu μ 26 (va_cpy (μ 19) (μ 26) 0 0 6)) 27 (va_cpy ((zu μ 26 (va_cpy (μ 19) (μ 26) 0 0 6)) 20) ((zu μ 26 (va_cpy (μ 19) (μ 26) 0 0 6)) 27) 0 0 6)) 21) ((zu (zu μ 26 (va_cpy (μ 19) (μ 26) 0 0 6)) 27 (va_cpy ((zu μ 26 (va_cpy (μ 19) (μ 26) 0 0 6)) 20) ((zu μ 26 (va_cpy (μ 19) (μ 26) 0 0 6)) 27) 0 0 6)) 28) 0 0 6)) 29 (va_cpy ((zu (zu (zu μ 26 (va_cpy (μ 19) (μ 26) 0 0 6)) 27 (va_cpy ((zu μ 26 (va_cpy (μ 19) (μ 26) 0 0 6)) 20) ((zu μ 26 (va_cpy (μ 19) (μ 26) 0 0 6)) 27) 0 0 6)) 28 (va_cpy ((zu (zu μ 26 (va_cpy (μ 19) (μ 26) 0 0 6)) 27 (va_cpy ((zu μ 26 (va_cpy (μ 19) (μ 26) 0 0 6)) 20) ((zu μ 26 (va_cpy (μ 19) (μ 26) 0 0 6)) 27) 0 0 6)) 21) ((zu (zu μ 26 (va_cpy (μ 19) (μ 26) 0 0 6)) 27 (va_cpy ((zu μ 26 (va_cpy (μ 19) (μ 26) 0 0 6)) 20) ((zu μ 26 (va_cpy (μ 19) (μ 26) 0 0 6)) 27) 0 0 6)) 28) 0 0 6)) 22) ((zu (zu (zu μ 26 (va_cpy (μ 19) (μ 26) 0 0 6)) 27 (va_cpy ((zu μ 26 (va_cpy (μ 19) (μ 26) 0 0 6)) 20) ((zu μ 26 (va_cpy (μ 19) (μ 26) 0 0 6)) 27) 0 0 6)) 28 (va_cpy ((zu (zu μ 26 (va_cpy (μ 19) (μ 26) 0 0 6)) 27 (va_cpy ((zu μ 26 (va_cpy (μ 19) (μ 26) 0 0 6)) 20) ((zu μ 26 (va_cpy (μ 19) (μ 26) 0 0 6)) 27) 0 0 6)) 21) ((zu (zu μ 26 (va_cpy (μ 19) (μ 26) 0 0 6)) 27 (va_cpy ((zu μ 26 (va_cpy (μ 19) (μ 26) 0 0 6)) 20) ((zu μ 26 (va_cpy (μ 19) (μ 26) 0 0 6)) 27) 0 0 6)) 28) 0 0 6)) 29) 0 0 6)) _
  refine zx_aload_n (k := 1) (nn := 61) dX8_copyFrom_60 rfl rfl rfl ?_
  refine zx_getR (q := 23) (nn := 64) flX8_24 rfl rfl dX8_copyFrom_61 rfl ?_
  refine zx_iconst (v := 0) (nn := 65) rfl dX8_copyFrom_64 rfl ?_
  refine zx_aload_n (k := 0) (nn := 66) dX8_copyFrom_65 rfl rfl rfl ?_
  refine zx_getR (q := 30) (nn := 69) flX8_24 rfl rfl dX8_copyFrom_66 rfl ?_
  refine zx_iconst (v := 0) (nn := 70) rfl dX8_copyFrom_69 rfl ?_
  refine zx_bipush (v := 16) (nn := 72) rfl dX8_copyFrom_70 rfl ?_
  refine zx_copy (nn := 75) cplX8 rfl rfl (by decide) (by decide) (by decide) (by decide) (Nat.le_of_ble_eq_true rfl) dX8_copyFrom_72 rfl ?_
  show zX shC σ 1 MX8_copyFrom 75 [(0, zr 25), (1, zr 18)] [] (zu (zu (zu (zu (zu μ 26 (va_cpy (μ 19) (μ 26) 0 0 6)) 27 (va_cpy ((zu μ 26 (va_cpy (μ 19) (μ 26) 0 0 6)) 20) ((zu μ 26 (va_cpy (μ 19) (μ 26) 0 0 6)) 27) 0 0 6)) 28 (va_cpy ((zu (zu μ 26 (va_cpy (μ 19) (μ 26) 0 0 6)) 27 (va_cpy ((zu μ 26 (va_cpy (μ 19) (μ 26) 0 0 6)) 20) ((zu μ 26 (va_cpy (μ 19) (μ 26) 0 0 6)) 27) 0 0 6)) 21) ((zu (zu μ 26 (va_cpy (μ 19) (μ 26) 0 0 6)) 27 (va_cpy ((zu μ 26 (va_cpy (μ 19) (μ 26) 0 0 6)) 20) ((zu μ 26 (va_cpy (μ 19) (μ 26) 0 0 6)) 27) 0 0 6)) 28) 0 0 6)) 29 (va_cpy ((zu (zu (zu μ 26 (va_cpy (μ 19) (μ 26) 0 0 6)) 27 (va_cpy ((zu μ 26 (va_cpy (μ 19) (μ 26) 0 0 6)) 20) ((zu μ 26 (va_cpy (μ 19) (μ 26) 0 0 6)) 27) 0 0 6)) 28 (va_cpy ((zu (zu μ 26 (va_cpy (μ 19) (μ 26) 0 0 6)) 27 (va_cpy ((zu μ 26 (va_cpy (μ 19) (μ 26) 0 0 6)) 20) ((zu μ 26 (va_cpy (μ 19) (μ 26) 0 0 6)) 27) 0 0 6)) 21) ((zu (zu μ 26 (va_cpy (μ 19) (μ 26) 0 0 6)) 27 (va_cpy ((zu μ 26 (va_cpy (μ 19) (μ 26) 0 0 6)) 20) ((zu μ 26 (va_cpy (μ 19) (μ 26) 0 0 6)) 27) 0 0 6)) 28) 0 0 6)) 22) ((zu (zu (zu μ 26 (va_cpy (μ 19) (μ 26) 0 0 6)) 27 (va_cpy ((zu μ 26 (va_cpy (μ 19) (μ 26) 0 0 6)) 20) ((zu μ 26 (va_cpy (μ 19) (μ 26) 0 0 6)) 27) 0 0 6)) 28 (va_cpy ((zu (zu μ 26 (va_cpy (μ 19) (μ 26) 0 0 6)) 27 (va_cpy ((zu μ 26 (va_cpy (μ 19) (μ 26) 0 0 6)) 20) ((zu μ 26 (va_cpy (μ 19) (μ 26) 0 0 6)) 27) 0 0 6)) 21) ((zu (zu μ 26 (va_cpy (μ 19) (μ 26) 0 0 6)) 27 (va_cpy ((zu μ 26 (va_cpy (μ 19) (μ 26) 0 0 6)) 20) ((zu μ 26 (va_cpy (μ 19) (μ 26) 0 0 6)) 27) 0 0 6)) 28) 0 0 6)) 29) 0 0 6)) 30 (va_cpy ((zu (zu (zu (zu μ 26 (va_cpy (μ 19) (μ 26) 0 0 6)) 27 (va_cpy ((zu μ 26 (va_cpy (μ 19) (μ 26) 0 0 6)) 20) ((zu μ 26 (va_cpy (μ 19) (μ 26) 0 0 6)) 27) 0 0 6)) 28 (va_cpy ((zu (zu μ 26 (va_cpy (μ 19) (μ 26) 0 0 6)) 27 (va_cpy ((zu μ 26 (va_cpy (μ 19) (μ 26) 0 0 6)) 20) ((zu μ 26 (va_cpy (μ 19) (μ 26) 0 0 6)) 27) 0 0 6)) 21) ((zu (zu μ 26 (va_cpy (μ 19) (μ 26) 0 0 6)) 27 (va_cpy ((zu μ 26 (va_cpy (μ 19) (μ 26) 0 0 6)) 20) ((zu μ 26 (va_cpy (μ 19) (μ 26) 0 0 6)) 27) 0 0 6)) 28) 0 0 6)) 29 (va_cpy ((zu (zu (zu μ 26 (va_cpy (μ 19) (μ 26) 0 0 6)) 27 (va_cpy ((zu μ 26 (va_cpy (μ 19) (μ 26) 0 0 6)) 20) ((zu μ 26 (va_cpy (μ 19) (μ 26) 0 0 6)) 27) 0 0 6)) 28 (va_cpy ((zu (zu μ 26 (va_cpy (μ 19) (μ 26) 0 0 6)) 27 (va_cpy ((zu μ 26 (va_cpy (μ 19) (μ 26) 0 0 6)) 20) ((zu μ 26 (va_cpy (μ 19) (μ 26) 0 0 6)) 27) 0 0 6)) 21) ((zu (zu μ 26 (va_cpy (μ 19) (μ 26) 0 0 6)) 27 (va_cpy ((zu μ 26 (va_cpy (μ 19) (μ 26) 0 0 6)) 20) ((zu μ 26 (va_cpy (μ 19) (μ 26) 0 0 6)) 27) 0 0 6)) 28) 0 0 6)) 22) ((zu (zu (zu μ 26 (va_cpy (μ 19) (μ 26) 0 0 6)) 27 (va_cpy ((zu μ 26 (va_cpy (μ 19) (μ 26) 0 0 6)) 20) ((zu μ 26 (va_cpy (μ 19) (μ 26) 0 0 6)) 27) 0 0 6)) 28 (va_cpy ((zu (zu μ 26 (va_cpy (μ 19) (μ 26) 0 0 6)) 27 (va_cpy ((zu μ 26 (va_cpy (μ 19) (μ 26) 0 0 6)) 20) ((zu μ 26 (va_cpy (μ 19) (μ 26) 0 0 6)) 27) 0 0 6)) 21) ((zu (zu μ 26 (va_cpy (μ 19) (μ 26) 0 0 6)) 27 (va_cpy ((zu μ 26 (va_cpy (μ 19) (μ 26) 0 0 6)) 20) ((zu μ 26 (va_cpy (μ 19) (μ 26) 0 0 6)) 27) 0 0 6)) 28) 0 0 6)) 29) 0 0 6)) 23) ((zu (zu (zu (zu μ 26 (va_cpy (μ 19) (μ 26) 0 0 6)) 27 (va_cpy ((zu μ 26 (va_cpy (μ 19) (μ 26) 0 0 6)) 20) ((zu μ 26 (va_cpy (μ 19) (μ 26) 0 0 6)) 27) 0 0 6)) 28 (va_cpy ((zu (zu μ 26 (va_cpy (μ 19) (μ 26) 0 0 6)) 27 (va_cpy ((zu μ 26 (va_cpy (μ 19) (μ 26) 0 0 6)) 20) ((zu μ 26 (va_cpy (μ 19) (μ 26) 0 0 6)) 27) 0 0 6)) 21) ((zu (zu μ 26 (va_cpy (μ 19) (μ 26) 0 0 6)) 27 (va_cpy ((zu μ 26 (va_cpy (μ 19) (μ 26) 0 0 6)) 20) ((zu μ 26 (va_cpy (μ 19) (μ 26) 0 0 6)) 27) 0 0 6)) 28) 0 0 6)) 29 (va_cpy ((zu (zu (zu μ 26 (va_cpy (μ 19) (μ 26) 0 0 6)) 27 (va_cpy ((zu μ 26 (va_cpy (μ 19) (μ 26) 0 0 6)) 20) ((zu μ 26 (va_cpy (μ 19) (μ 26) 0 0 6)) 27) 0 0 6)) 28 (va_cpy ((zu (zu μ 26 (va_cpy (μ 19) (μ 26) 0 0 6)) 27 (va_cpy ((zu μ 26 (va_cpy (μ 19) (μ 26) 0 0 6)) 20) ((zu μ 26 (va_cpy (μ 19) (μ 26) 0 0 6)) 27) 0 0 6)) 21) ((zu (zu μ 26 (va_cpy (μ 19) (μ 26) 0 0 6)) 27 (va_cpy ((zu μ 26 (va_cpy (μ 19) (μ 26) 0 0 6)) 20) ((zu μ 26 (va_cpy (μ 19) (μ 26) 0 0 6)) 27) 0 0 6)) 28) 0 0 6)) 22) ((zu (zu (zu μ 26 (va_cpy (μ 19) (μ 26) 0 0 6)) 27 (va_cpy ((zu μ 26 (va_cpy (μ 19) (μ 26) 0 0 6)) 20) ((zu μ 26 (va_cpy (μ 19) (μ 26) 0 0 6)) 27) 0 0 6)) 28 (va_cpy ((zu (zu μ 26 (va_cpy (μ 19) (μ 26) 0 0 6)) 27 (va_cpy ((zu μ 26 (va_cpy (μ 19) (μ 26) 0 0 6)) 20) ((zu μ 26 (va_cpy (μ 19) (μ 26) 0 0 6)) 27) 0 0 6)) 21) ((zu (zu μ 26 (va_cpy (μ 19) (μ 26) 0 0 6)) 27 (va_cpy ((zu μ 26 (va_cpy (μ 19) (μ 26) 0 0 6)) 20) ((zu μ 26 (va_cpy (μ 19) (μ 26) 0 0 6)) 27) 0 0 6)) 28) 0 0 6)) 29) 0 0 6)) 30) 0 0 16)) _
  refine zx_aload_n (k := 0) (nn := 76) dX8_copyFrom_75 rfl rfl rfl ?_
  refine zx_aload_n (k := 1) (nn := 77) dX8_copyFrom_76 rfl rfl rfl ?_
  refine zx_getI (nn := 80) flX8_46 rfl rfl dX8_copyFrom_77 rfl ?_
  show zX shC σ 1 MX8_copyFrom 80 [(0, zr 25), (1, zr 18)] [zi (μ 18 7), zr 25] (zu (zu (zu (zu (zu μ 26 (va_cpy (μ 19) (μ 26) 0 0 6)) 27 (va_cpy ((zu μ 26 (va_cpy (μ 19) (μ 26) 0 0 6)) 20) ((zu μ 26 (va_cpy (μ 19) (μ 26) 0 0 6)) 27) 0 0 6)) 28 (va_cpy ((zu (zu μ 26 (va_cpy (μ 19) (μ 26) 0 0 6)) 27 (va_cpy ((zu μ 26 (va_cpy (μ 19) (μ 26) 0 0 6)) 20) ((zu μ 26 (va_cpy (μ 19) (μ 26) 0 0 6)) 27) 0 0 6)) 21) ((zu (zu μ 26 (va_cpy (μ 19) (μ 26) 0 0 6)) 27 (va_cpy ((zu μ 26 (va_cpy (μ 19) (μ 26) 0 0 6)) 20) ((zu μ 26 (va_cpy (μ 19) (μ 26) 0 0 6)) 27) 0 0 6)) 28) 0 0 6)) 29 (va_cpy ((zu (zu (zu μ 26 (va_cpy (μ 19) (μ 26) 0 0 6)) 27 (va_cpy ((zu μ 26 (va_cpy (μ 19) (μ 26) 0 0 6)) 20) ((zu μ 26 (va_cpy (μ 19) (μ 26) 0 0 6)) 27) 0 0 6)) 28 (va_cpy ((zu (zu μ 26 (va_cpy (μ 19) (μ 26) 0 0 6)) 27 (va_cpy ((zu μ 26 (va_cpy (μ 19) (μ 26) 0 0 6)) 20) ((zu μ 26 (va_cpy (μ 19) (μ 26) 0 0 6)) 27) 0 0 6)) 21) ((zu (zu μ 26 (va_cpy (μ 19) (μ 26) 0 0 6)) 27 (va_cpy ((zu μ 26 (va_cpy (μ 19) (μ 26) 0 0 6)) 20) ((zu μ 26 (va_cpy (μ 19) (μ 26) 0 0 6)) 27) 0 0 6)) 28) 0 0 6)) 22) ((zu (zu (zu μ 26 (va_cpy (μ 19) (μ 26) 0 0 6)) 27 (va_cpy ((zu μ 26 (va_cpy (μ 19) (μ 26) 0 0 6)) 20) ((zu μ 26 (va_cpy (μ 19) (μ 26) 0 0 6)) 27) 0 0 6)) 28 (va_cpy ((zu (zu μ 26 (va_cpy (μ 19) (μ 26) 0 0 6)) 27 (va_cpy ((zu μ 26 (va_cpy (μ 19) (μ 26) 0 0 6)) 20) ((zu μ 26 (va_cpy (μ 19) (μ 26) 0 0 6)) 27) 0 0 6)) 21) ((zu (zu μ 26 (va_cpy (μ 19) (μ 26) 0 0 6)) 27 (va_cpy ((zu μ 26 (va_cpy (μ 19) (μ 26) 0 0 6)) 20) ((zu μ 26 (va_cpy (μ 19) (μ 26) 0 0 6)) 27) 0 0 6)) 28) 0 0 6)) 29) 0 0 6)) 30 (va_cpy ((zu (zu (zu (zu μ 26 (va_cpy (μ 19) (μ 26) 0 0 6)) 27 (va_cpy ((zu μ 26 (va_cpy (μ 19) (μ 26) 0 0 6)) 20) ((zu μ 26 (va_cpy (μ 19) (μ 26) 0 0 6)) 27) 0 0 6)) 28 (va_cpy ((zu (zu μ 26 (va_cpy (μ 19) (μ 26) 0 0 6)) 27 (va_cpy ((zu μ 26 (va_cpy (μ 19) (μ 26) 0 0 6)) 20) ((zu μ 26 (va_cpy (μ 19) (μ 26) 0 0 6)) 27) 0 0 6)) 21) ((zu (zu μ 26 (va_cpy (μ 19) (μ 26) 0 0 6)) 27 (va_cpy ((zu μ 26 (va_cpy (μ 19) (μ 26) 0 0 6)) 20) ((zu μ 26 (va_cpy (μ 19) (μ 26) 0 0 6)) 27) 0 0 6)) 28) 0 0 6)) 29 (va_cpy ((zu (zu (zu μ 26 (va_cpy (μ 19) (μ 26) 0 0 6)) 27 (va_cpy ((zu μ 26 (va_cpy (μ 19) (μ 26) 0 0 6)) 20) ((zu μ 26 (va_cpy (μ 19) (μ 26) 0 0 6)) 27) 0 0 6)) 28 (va_cpy ((zu (zu μ 26 (va_cpy (μ 19) (μ 26) 0 0 6)) 27 (va_cpy ((zu μ 26 (va_cpy (μ 19) (μ 26) 0 0 6)) 20) ((zu μ 26 (va_cpy (μ 19) (μ 26) 0 0 6)) 27) 0 0 6)) 21) ((zu (zu μ 26 (va_cpy (μ 19) (μ 26) 0 0 6)) 27 (va_cpy ((zu μ 26 (va_cpy (μ 19) (μ 26) 0 0 6)) 20) ((zu μ 26 (va_cpy (μ 19) (μ 26) 0 0 6)) 27) 0 0 6)) 28) 0 0 6)) 22) ((zu (zu (zu μ 26 (va_cpy (μ 19) (μ 26) 0 0 6)) 27 (va_cpy ((zu μ 26 (va_cpy (μ 19) (μ 26) 0 0 6)) 20) ((zu μ 26 (va_cpy (μ 19) (μ 26) 0 0 6)) 27) 0 0 6)) 28 (va_cpy ((zu (zu μ 26 (va_cpy (μ 19) (μ 26) 0 0 6)) 27 (va_cpy ((zu μ 26 (va_cpy (μ 19) (μ 26) 0 0 6)) 20) ((zu μ 26 (va_cpy (μ 19) (μ 26) 0 0 6)) 27) 0 0 6)) 21) ((zu (zu μ 26 (va_cpy (μ 19) (μ 26) 0 0 6)) 27 (va_cpy ((zu μ 26 (va_cpy (μ 19) (μ 26) 0 0 6)) 20) ((zu μ 26 (va_cpy (μ 19) (μ 26) 0 0 6)) 27) 0 0 6)) 28) 0 0 6)) 29) 0 0 6)) 23) ((zu (zu (zu (zu μ 26 (va_cpy (μ 19) (μ 26) 0 0 6)) 27 (va_cpy ((zu μ 26 (va_cpy (μ 19) (μ 26) 0 0 6)) 20) ((zu μ 26 (va_cpy (μ 19) (μ 26) 0 0 6)) 27) 0 0 6)) 28 (va_cpy ((zu (zu μ 26 (va_cpy (μ 19) (μ 26) 0 0 6)) 27 (va_cpy ((zu μ 26 (va_cpy (μ 19) (μ 26) 0 0 6)) 20) ((zu μ 26 (va_cpy (μ 19) (μ 26) 0 0 6)) 27) 0 0 6)) 21) ((zu (zu μ 26 (va_cpy (μ 19) (μ 26) 0 0 6)) 27 (va_cpy ((zu μ 26 (va_cpy (μ 19) (μ 26) 0 0 6)) 20) ((zu μ 26 (va_cpy (μ 19) (μ 26) 0 0 6)) 27) 0 0 6)) 28) 0 0 6)) 29 (va_cpy ((zu (zu (zu μ 26 (va_cpy (μ 19) (μ 26) 0 0 6)) 27 (va_cpy ((zu μ 26 (va_cpy (μ 19) (μ 26) 0 0 6)) 20) ((zu μ 26 (va_cpy (μ 19) (μ 26) 0 0 6)) 27) 0 0 6)) 28 (va_cpy ((zu (zu μ 26 (va_cpy (μ 19) (μ 26) 0 0 6)) 27 (va_cpy ((zu μ 26 (va_cpy (μ 19) (μ 26) 0 0 6)) 20) ((zu μ 26 (va_cpy (μ 19) (μ 26) 0 0 6)) 27) 0 0 6)) 21) ((zu (zu μ 26 (va_cpy (μ 19) (μ 26) 0 0 6)) 27 (va_cpy ((zu μ 26 (va_cpy (μ 19) (μ 26) 0 0 6)) 20) ((zu μ 26 (va_cpy (μ 19) (μ 26) 0 0 6)) 27) 0 0 6)) 28) 0 0 6)) 22) ((zu (zu (zu μ 26 (va_cpy (μ 19) (μ 26) 0 0 6)) 27 (va_cpy ((zu μ 26 (va_cpy (μ 19) (μ 26) 0 0 6)) 20) ((zu μ 26 (va_cpy (μ 19) (μ 26) 0 0 6)) 27) 0 0 6)) 28 (va_cpy ((zu (zu μ 26 (va_cpy (μ 19) (μ 26) 0 0 6)) 27 (va_cpy ((zu μ 26 (va_cpy (μ 19) (μ 26) 0 0 6)) 20) ((zu μ 26 (va_cpy (μ 19) (μ 26) 0 0 6)) 27) 0 0 6)) 21) ((zu (zu μ 26 (va_cpy (μ 19) (μ 26) 0 0 6)) 27 (va_cpy ((zu μ 26 (va_cpy (μ 19) (μ 26) 0 0 6)) 20) ((zu μ 26 (va_cpy (μ 19) (μ 26) 0 0 6)) 27) 0 0 6)) 28) 0 0 6)) 29) 0 0 6)) 30) 0 0 16)) _
  refine zx_putI (nn := 83) fpX8_46 rfl rfl rfl rfl dX8_copyFrom_80 rfl ?_
  refine zx_aload_n (k := 0) (nn := 84) dX8_copyFrom_83 rfl rfl rfl ?_
  refine zx_aload_n (k := 1) (nn := 85) dX8_copyFrom_84 rfl rfl rfl ?_
  refine zx_getI (nn := 88) flX8_49 rfl rfl dX8_copyFrom_85 rfl ?_
  show zX shC σ 1 MX8_copyFrom 88 [(0, zr 25), (1, zr 18)] [zi (μ 18 8), zr 25] (zp (zu (zu (zu (zu (zu μ 26 (va_cpy (μ 19) (μ 26) 0 0 6)) 27 (va_cpy ((zu μ 26 (va_cpy (μ 19) (μ 26) 0 0 6)) 20) ((zu μ 26 (va_cpy (μ 19) (μ 26) 0 0 6)) 27) 0 0 6)) 28 (va_cpy ((zu (zu μ 26 (va_cpy (μ 19) (μ 26) 0 0 6)) 27 (va_cpy ((zu μ 26 (va_cpy (μ 19) (μ 26) 0 0 6)) 20) ((zu μ 26 (va_cpy (μ 19) (μ 26) 0 0 6)) 27) 0 0 6)) 21) ((zu (zu μ 26 (va_cpy (μ 19) (μ 26) 0 0 6)) 27 (va_cpy ((zu μ 26 (va_cpy (μ 19) (μ 26) 0 0 6)) 20) ((zu μ 26 (va_cpy (μ 19) (μ 26) 0 0 6)) 27) 0 0 6)) 28) 0 0 6)) 29 (va_cpy ((zu (zu (zu μ 26 (va_cpy (μ 19) (μ 26) 0 0 6)) 27 (va_cpy ((zu μ 26 (va_cpy (μ 19) (μ 26) 0 0 6)) 20) ((zu μ 26 (va_cpy (μ 19) (μ 26) 0 0 6)) 27) 0 0 6)) 28 (va_cpy ((zu (zu μ 26 (va_cpy (μ 19) (μ 26) 0 0 6)) 27 (va_cpy ((zu μ 26 (va_cpy (μ 19) (μ 26) 0 0 6)) 20) ((zu μ 26 (va_cpy (μ 19) (μ 26) 0 0 6)) 27) 0 0 6)) 21) ((zu (zu μ 26 (va_cpy (μ 19) (μ 26) 0 0 6)) 27 (va_cpy ((zu μ 26 (va_cpy (μ 19) (μ 26) 0 0 6)) 20) ((zu μ 26 (va_cpy (μ 19) (μ 26) 0 0 6)) 27) 0 0 6)) 28) 0 0 6)) 22) ((zu (zu (zu μ 26 (va_cpy (μ 19) (μ 26) 0 0 6)) 27 (va_cpy ((zu μ 26 (va_cpy (μ 19) (μ 26) 0 0 6)) 20) ((zu μ 26 (va_cpy (μ 19) (μ 26) 0 0 6)) 27) 0 0 6)) 28 (va_cpy ((zu (zu μ 26 (va_cpy (μ 19) (μ 26) 0 0 6)) 27 (va_cpy ((zu μ 26 (va_cpy (μ 19) (μ 26) 0 0 6)) 20) ((zu μ 26 (va_cpy (μ 19) (μ 26) 0 0 6)) 27) 0 0 6)) 21) ((zu (zu μ 26 (va_cpy (μ 19) (μ 26) 0 0 6)) 27 (va_cpy ((zu μ 26 (va_cpy (μ 19) (μ 26) 0 0 6)) 20) ((zu μ 26 (va_cpy (μ 19) (μ 26) 0 0 6)) 27) 0 0 6)) 28) 0 0 6)) 29) 0 0 6)) 30 (va_cpy ((zu (zu (zu (zu μ 26 (va_cpy (μ 19) (μ 26) 0 0 6)) 27 (va_cpy ((zu μ 26 (va_cpy (μ 19) (μ 26) 0 0 6)) 20) ((zu μ 26 (va_cpy (μ 19) (μ 26) 0 0 6)) 27) 0 0 6)) 28 (va_cpy ((zu (zu μ 26 (va_cpy (μ 19) (μ 26) 0 0 6)) 27 (va_cpy ((zu μ 26 (va_cpy (μ 19) (μ 26) 0 0 6)) 20) ((zu μ 26 (va_cpy (μ 19) (μ 26) 0 0 6)) 27) 0 0 6)) 21) ((zu (zu μ 26 (va_cpy (μ 19) (μ 26) 0 0 6)) 27 (va_cpy ((zu μ 26 (va_cpy (μ 19) (μ 26) 0 0 6)) 20) ((zu μ 26 (va_cpy (μ 19) (μ 26) 0 0 6)) 27) 0 0 6)) 28) 0 0 6)) 29 (va_cpy ((zu (zu (zu μ 26 (va_cpy (μ 19) (μ 26) 0 0 6)) 27 (va_cpy ((zu μ 26 (va_cpy (μ 19) (μ 26) 0 0 6)) 20) ((zu μ 26 (va_cpy (μ 19) (μ 26) 0 0 6)) 27) 0 0 6)) 28 (va_cpy ((zu (zu μ 26 (va_cpy (μ 19) (μ 26) 0 0 6)) 27 (va_cpy ((zu μ 26 (va_cpy (μ 19) (μ 26) 0 0 6)) 20) ((zu μ 26 (va_cpy (μ 19) (μ 26) 0 0 6)) 27) 0 0 6)) 21) ((zu (zu μ 26 (va_cpy (μ 19) (μ 26) 0 0 6)) 27 (va_cpy ((zu μ 26 (va_cpy (μ 19) (μ 26) 0 0 6)) 20) ((zu μ 26 (va_cpy (μ 19) (μ 26) 0 0 6)) 27) 0 0 6)) 28) 0 0 6)) 22) ((zu (zu (zu μ 26 (va_cpy (μ 19) (μ 26) 0 0 6)) 27 (va_cpy ((zu μ 26 (va_cpy (μ 19) (μ 26) 0 0 6)) 20) ((zu μ 26 (va_cpy (μ 19) (μ 26) 0 0 6)) 27) 0 0 6)) 28 (va_cpy ((zu (zu μ 26 (va_cpy (μ 19) (μ 26) 0 0 6)) 27 (va_cpy ((zu μ 26 (va_cpy (μ 19) (μ 26) 0 0 6)) 20) ((zu μ 26 (va_cpy (μ 19) (μ 26) 0 0 6)) 27) 0 0 6)) 21) ((zu (zu μ 26 (va_cpy (μ 19) (μ 26) 0 0 6)) 27 (va_cpy ((zu μ 26 (va_cpy (μ 19) (μ 26) 0 0 6)) 20) ((zu μ 26 (va_cpy (μ 19) (μ 26) 0 0 6)) 27) 0 0 6)) 28) 0 0 6)) 29) 0 0 6)) 23) ((zu (zu (zu (zu μ 26 (va_cpy (μ 19) (μ 26) 0 0 6)) 27 (va_cpy ((zu μ 26 (va_cpy (μ 19) (μ 26) 0 0 6)) 20) ((zu μ 26 (va_cpy (μ 19) (μ 26) 0 0 6)) 27) 0 0 6)) 28 (va_cpy ((zu (zu μ 26 (va_cpy (μ 19) (μ 26) 0 0 6)) 27 (va_cpy ((zu μ 26 (va_cpy (μ 19) (μ 26) 0 0 6)) 20) ((zu μ 26 (va_cpy (μ 19) (μ 26) 0 0 6)) 27) 0 0 6)) 21) ((zu (zu μ 26 (va_cpy (μ 19) (μ 26) 0 0 6)) 27 (va_cpy ((zu μ 26 (va_cpy (μ 19) (μ 26) 0 0 6)) 20) ((zu μ 26 (va_cpy (μ 19) (μ 26) 0 0 6)) 27) 0 0 6)) 28) 0 0 6)) 29 (va_cpy ((zu (zu (zu μ 26 (va_cpy (μ 19) (μ 26) 0 0 6)) 27 (va_cpy ((zu μ 26 (va_cpy (μ 19) (μ 26) 0 0 6)) 20) ((zu μ 26 (va_cpy (μ 19) (μ 26) 0 0 6)) 27) 0 0 6)) 28 (va_cpy ((zu (zu μ 26 (va_cpy (μ 19) (μ 26) 0 0 6)) 27 (va_cpy ((zu μ 26 (va_cpy (μ 19) (μ 26) 0 0 6)) 20) ((zu μ 26 (va_cpy (μ 19) (μ 26) 0 0 6)) 27) 0 0 6)) 21) ((zu (zu μ 26 (va_cpy (μ 19) (μ 26) 0 0 6)) 27 (va_cpy ((zu μ 26 (va_cpy (μ 19) (μ 26) 0 0 6)) 20) ((zu μ 26 (va_cpy (μ 19) (μ 26) 0 0 6)) 27) 0 0 6)) 28) 0 0 6)) 22) ((zu (zu (zu μ 26 (va_cpy (μ 19) (μ 26) 0 0 6)) 27 (va_cpy ((zu μ 26 (va_cpy (μ 19) (μ 26) 0 0 6)) 20) ((zu μ 26 (va_cpy (μ 19) (μ 26) 0 0 6)) 27) 0 0 6)) 28 (va_cpy ((zu (zu μ 26 (va_cpy (μ 19) (μ 26) 0 0 6)) 27 (va_cpy ((zu μ 26 (va_cpy (μ 19) (μ 26) 0 0 6)) 20) ((zu μ 26 (va_cpy (μ 19) (μ 26) 0 0 6)) 27) 0 0 6)) 21) ((zu (zu μ 26 (va_cpy (μ 19) (μ 26) 0 0 6)) 27 (va_cpy ((zu μ 26 (va_cpy (μ 19) (μ 26) 0 0 6)) 20) ((zu μ 26 (va_cpy (μ 19) (μ 26) 0 0 6)) 27) 0 0 6)) 28) 0 0 6)) 29) 0 0 6)) 30) 0 0 16)) 25 7 (μ 18 7)) _
  refine zx_putI (nn := 91) fpX8_49 rfl rfl rfl rfl dX8_copyFrom_88 rfl ?_
  refine zx_aload_n (k := 0) (nn := 92) dX8_copyFrom_91 rfl rfl rfl ?_
  refine zx_aload_n (k := 1) (nn := 93) dX8_copyFrom_92 rfl rfl rfl ?_
  refine zx_getI (nn := 96) flX8_52 rfl rfl dX8_copyFrom_93 rfl ?_
  show zX shC σ 1 MX8_copyFrom 96 [(0, zr 25), (1, zr 18)] [zi (μ 18 9), zr 25] (zp (zp (zu (zu (zu (zu (zu μ 26 (va_cpy (μ 19) (μ 26) 0 0 6)) 27 (va_cpy ((zu μ 26 (va_cpy (μ 19) (μ 26) 0 0 6)) 20) ((zu μ 26 (va_cpy (μ 19) (μ 26) 0 0 6)) 27) 0 0 6)) 28 (va_cpy ((zu (zu μ 26 (va_cpy (μ 19) (μ 26) 0 0 6)) 27 (va_cpy ((zu μ 26 (va_cpy (μ 19) (μ 26) 0 0 6)) 20) ((zu μ 26 (va_cpy (μ 19) (μ 26) 0 0 6)) 27) 0 0 6)) 21) ((zu (zu μ 26 (va_cpy (μ 19) (μ 26) 0 0 6)) 27 (va_cpy ((zu μ 26 (va_cpy (μ 19) (μ 26) 0 0 6)) 20) ((zu μ 26 (va_cpy (μ 19) (μ 26) 0 0 6)) 27) 0 0 6)) 28) 0 0 6)) 29 (va_cpy ((zu (zu (zu μ 26 (va_cpy (μ 19) (μ 26) 0 0 6)) 27 (va_cpy ((zu μ 26 (va_cpy (μ 19) (μ 26) 0 0 6)) 20) ((zu μ 26 (va_cpy (μ 19) (μ 26) 0 0 6)) 27) 0 0 6)) 28 (va_cpy ((zu (zu μ 26 (va_cpy (μ 19) (μ 26) 0 0 6)) 27 (va_cpy ((zu μ 26 (va_cpy (μ 19) (μ 26) 0 0 6)) 20) ((zu μ 26 (va_cpy (μ 19) (μ 26) 0 0 6)) 27) 0 0 6)) 21) ((zu (zu μ 26 (va_cpy (μ 19) (μ 26) 0 0 6)) 27 (va_cpy ((zu μ 26 (va_cpy (μ 19) (μ 26) 0 0 6)) 20) ((zu μ 26 (va_cpy (μ 19) (μ 26) 0 0 6)) 27) 0 0 6)) 28) 0 0 6)) 22) ((zu (zu (zu μ 26 (va_cpy (μ 19) (μ 26) 0 0 6)) 27 (va_cpy ((zu μ 26 (va_cpy (μ 19) (μ 26) 0 0 6)) 20) ((zu μ 26 (va_cpy (μ 19) (μ 26) 0 0 6)) 27) 0 0 6)) 28 (va_cpy ((zu (zu μ 26 (va_cpy (μ 19) (μ 26) 0 0 6)) 27 (va_cpy ((zu μ 26 (va_cpy (μ 19) (μ 26) 0 0 6)) 20) ((zu μ 26 (va_cpy (μ 19) (μ 26) 0 0 6)) 27) 0 0 6)) 21) ((zu (zu μ 26 (va_cpy (μ 19) (μ 26) 0 0 6)) 27 (va_cpy ((zu μ 26 (va_cpy (μ 19) (μ 26) 0 0 6)) 20) ((zu μ 26 (va_cpy (μ 19) (μ 26) 0 0 6)) 27) 0 0 6)) 28) 0 0 6)) 29) 0 0 6)) 30 (va_cpy ((zu (zu (zu (zu μ 26 (va_cpy (μ 19) (μ 26) 0 0 6)) 27 (va_cpy ((zu μ 26 (va_cpy (μ 19) (μ 26) 0 0 6)) 20) ((zu μ 26 (va_cpy (μ 19) (μ 26) 0 0 6)) 27) 0 0 6)) 28 (va_cpy ((zu (zu μ 26 (va_cpy (μ 19) (μ 26) 0 0 6)) 27 (va_cpy ((zu μ 26 (va_cpy (μ 19) (μ 26) 0 0 6)) 20) ((zu μ 26 (va_cpy (μ 19) (μ 26) 0 0 6)) 27) 0 0 6)) 21) ((zu (zu μ 26 (va_cpy (μ 19) (μ 26) 0 0 6)) 27 (va_cpy ((zu μ 26 (va_cpy (μ 19) (μ 26) 0 0 6)) 20) ((zu μ 26 (va_cpy (μ 19) (μ 26) 0 0 6)) 27) 0 0 6)) 28) 0 0 6)) 29 (va_cpy ((zu (zu (zu μ 26 (va_cpy (μ 19) (μ 26) 0 0 6)) 27 (va_cpy ((zu μ 26 (va_cpy (μ 19) (μ 26) 0 0 6)) 20) ((zu μ 26 (va_cpy (μ 19) (μ 26) 0 0 6)) 27) 0 0 6)) 28 (va_cpy ((zu (zu μ 26 (va_cpy (μ 19) (μ 26) 0 0 6)) 27 (va_cpy ((zu μ 26 (va_cpy (μ 19) (μ 26) 0 0 6)) 20) ((zu μ 26 (va_cpy (μ 19) (μ 26) 0 0 6)) 27) 0 0 6)) 21) ((zu (zu μ 26 (va_cpy (μ 19) (μ 26) 0 0 6)) 27 (va_cpy ((zu μ 26 (va_cpy (μ 19) (μ 26) 0 0 6)) 20) ((zu μ 26 (va_cpy (μ 19) (μ 26) 0 0 6)) 27) 0 0 6)) 28) 0 0 6)) 22) ((zu (zu (zu μ 26 (va_cpy (μ 19) (μ 26) 0 0 6)) 27 (va_cpy ((zu μ 26 (va_cpy (μ 19) (μ 26) 0 0 6)) 20) ((zu μ 26 (va_cpy (μ 19) (μ 26) 0 0 6)) 27) 0 0 6)) 28 (va_cpy ((zu (zu μ 26 (va_cpy (μ 19) (μ 26) 0 0 6)) 27 (va_cpy ((zu μ 26 (va_cpy (μ 19) (μ 26) 0 0 6)) 20) ((zu μ 26 (va_cpy (μ 19) (μ 26) 0 0 6)) 27) 0 0 6)) 21) ((zu (zu μ 26 (va_cpy (μ 19) (μ 26) 0 0 6)) 27 (va_cpy ((zu μ 26 (va_cpy (μ 19) (μ 26) 0 0 6)) 20) ((zu μ 26 (va_cpy (μ 19) (μ 26) 0 0 6)) 27) 0 0 6)) 28) 0 0 6)) 29) 0 0 6)) 23) ((zu (zu (zu (zu μ 26 (va_cpy (μ 19) (μ 26) 0 0 6)) 27 (va_cpy ((zu μ 26 (va_cpy (μ 19) (μ 26) 0 0 6)) 20) ((zu μ 26 (va_cpy (μ 19) (μ 26) 0 0 6)) 27) 0 0 6)) 28 (va_cpy ((zu (zu μ 26 (va_cpy (μ 19) (μ 26) 0 0 6)) 27 (va_cpy ((zu μ 26 (va_cpy (μ 19) (μ 26) 0 0 6)) 20) ((zu μ 26 (va_cpy (μ 19) (μ 26) 0 0 6)) 27) 0 0 6)) 21) ((zu (zu μ 26 (va_cpy (μ 19) (μ 26) 0 0 6)) 27 (va_cpy ((zu μ 26 (va_cpy (μ 19) (μ 26) 0 0 6)) 20) ((zu μ 26 (va_cpy (μ 19) (μ 26) 0 0 6)) 27) 0 0 6)) 28) 0 0 6)) 29 (va_cpy ((zu (zu (zu μ 26 (va_cpy (μ 19) (μ 26) 0 0 6)) 27 (va_cpy ((zu μ 26 (va_cpy (μ 19) (μ 26) 0 0 6)) 20) ((zu μ 26 (va_cpy (μ 19) (μ 26) 0 0 6)) 27) 0 0 6)) 28 (va_cpy ((zu (zu μ 26 (va_cpy (μ 19) (μ 26) 0 0 6)) 27 (va_cpy ((zu μ 26 (va_cpy (μ 19) (μ 26) 0 0 6)) 20) ((zu μ 26 (va_cpy (μ 19) (μ 26) 0 0 6)) 27) 0 0 6)) 21) ((zu (zu μ 26 (va_cpy (μ 19) (μ 26) 0 0 6)) 27 (va_cpy ((zu μ 26 (va_cpy (μ 19) (μ 26) 0 0 6)) 20) ((zu μ 26 (va_cpy (μ 19) (μ 26) 0 0 6)) 27) 0 0 6)) 28) 0 0 6)) 22) ((zu (zu (zu μ 26 (va_cpy (μ 19) (μ 26) 0 0 6)) 27 (va_cpy ((zu μ 26 (va_cpy (μ 19) (μ 26) 0 0 6)) 20) ((zu μ 26 (va_cpy (μ 19) (μ 26) 0 0 6)) 27) 0 0 6)) 28 (va_cpy ((zu (zu μ 26 (va_cpy (μ 19) (μ 26) 0 0 6)) 27 (va_cpy ((zu μ 26 (va_cpy (μ 19) (μ 26) 0 0 6)) 20) ((zu μ 26 (va_cpy (μ 19) (μ 26) 0 0 6)) 27) 0 0 6)) 21) ((zu (zu μ 26 (va_cpy (μ 19) (μ 26) 0 0 6)) 27 (va_cpy ((zu μ 26 (va_cpy (μ 19) (μ 26) 0 0 6)) 20) ((zu μ 26 (va_cpy (μ 19) (μ 26) 0 0 6)) 27) 0 0 6)) 28) 0 0 6)) 29) 0 0 6)) 30) 0 0 16)) 25 7 (μ 18 7)) 25 8 (μ 18 8)) _
  refine zx_putI (nn := 99) fpX8_52 rfl rfl rfl rfl dX8_copyFrom_96 rfl ?_
  refine zx_aload_n (k := 0) (nn := 100) dX8_copyFrom_99 rfl rfl rfl ?_
  refine zx_aload_n (k := 1) (nn := 101) dX8_copyFrom_100 rfl rfl rfl ?_
  refine zx_getI (nn := 104) flX8_55 rfl rfl dX8_copyFrom_101 rfl ?_
  show zX shC σ 1 MX8_copyFrom 104 [(0, zr 25), (1, zr 18)] [zi (μ 18 10), zr 25] (zp (zp (zp (zu (zu (zu (zu (zu μ 26 (va_cpy (μ 19) (μ 26) 0 0 6)) 27 (va_cpy ((zu μ 26 (va_cpy (μ 19) (μ 26) 0 0 6)) 20) ((zu μ 26 (va_cpy (μ 19) (μ 26) 0 0 6)) 27) 0 0 6)) 28 (va_cpy ((zu (zu μ 26 (va_cpy (μ 19) (μ 26) 0 0 6)) 27 (va_cpy ((zu μ 26 (va_cpy (μ 19) (μ 26) 0 0 6)) 20) ((zu μ 26 (va_cpy (μ 19) (μ 26) 0 0 6)) 27) 0 0 6)) 21) ((zu (zu μ 26 (va_cpy (μ 19) (μ 26) 0 0 6)) 27 (va_cpy ((zu μ 26 (va_cpy (μ 19) (μ 26) 0 0 6)) 20) ((zu μ 26 (va_cpy (μ 19) (μ 26) 0 0 6)) 27) 0 0 6)) 28) 0 0 6)) 29 (va_cpy ((zu (zu (zu μ 26 (va_cpy (μ 19) (μ 26) 0 0 6)) 27 (va_cpy ((zu μ 26 (va_cpy (μ 19) (μ 26) 0 0 6)) 20) ((zu μ 26 (va_cpy (μ 19) (μ 26) 0 0 6)) 27) 0 0 6)) 28 (va_cpy ((zu (zu μ 26 (va_cpy (μ 19) (μ 26) 0 0 6)) 27 (va_cpy ((zu μ 26 (va_cpy (μ 19) (μ 26) 0 0 6)) 20) ((zu μ 26 (va_cpy (μ 19) (μ 26) 0 0 6)) 27) 0 0 6)) 21) ((zu (zu μ 26 (va_cpy (μ 19) (μ 26) 0 0 6)) 27 (va_cpy ((zu μ 26 (va_cpy (μ 19) (μ 26) 0 0 6)) 20) ((zu μ 26 (va_cpy (μ 19) (μ 26) 0 0 6)) 27) 0 0 6)) 28) 0 0 6)) 22) ((zu (zu (zu μ 26 (va_cpy (μ 19) (μ 26) 0 0 6)) 27 (va_cpy ((zu μ 26 (va_cpy (μ 19) (μ 26) 0 0 6)) 20) ((zu μ 26 (va_cpy (μ 19) (μ 26) 0 0 6)) 27) 0 0 6)) 28 (va_cpy ((zu (zu μ 26 (va_cpy (μ 19) (μ 26) 0 0 6)) 27 (va_cpy ((zu μ 26 (va_cpy (μ 19) (μ 26) 0 0 6)) 20) ((zu μ 26 (va_cpy (μ 19) (μ 26) 0 0 6)) 27) 0 0 6)) 21) ((zu (zu μ 26 (va_cpy (μ 19) (μ 26) 0 0 6)) 27 (va_cpy ((zu μ 26 (va_cpy (μ 19) (μ 26) 0 0 6)) 20) ((zu μ 26 (va_cpy (μ 19) (μ 26) 0 0 6)) 27) 0 0 6)) 28) 0 0 6)) 29) 0 0 6)) 30 (va_cpy ((zu (zu (zu (zu μ 26 (va_cpy (μ 19) (μ 26) 0 0 6)) 27 (va_cpy ((zu μ 26 (va_cpy (μ 19) (μ 26) 0 0 6)) 20) ((zu μ 26 (va_cpy (μ 19) (μ 26) 0 0 6)) 27) 0 0 6)) 28 (va_cpy ((zu (zu μ 26 (va_cpy (μ 19) (μ 26) 0 0 6)) 27 (va_cpy ((zu μ 26 (va_cpy (μ 19) (μ 26) 0 0 6)) 20) ((zu μ 26 (va_cpy (μ 19) (μ 26) 0 0 6)) 27) 0 0 6)) 21) ((zu (zu μ 26 (va_cpy (μ 19) (μ 26) 0 0 6)) 27 (va_cpy ((zu μ 26 (va_cpy (μ 19) (μ 26) 0 0 6)) 20) ((zu μ 26 (va_cpy (μ 19) (μ 26) 0 0 6)) 27) 0 0 6)) 28) 0 0 6)) 29 (va_cpy ((zu (zu (zu μ 26 (va_cpy (μ 19) (μ 26) 0 0 6)) 27 (va_cpy ((zu μ 26 (va_cpy (μ 19) (μ 26) 0 0 6)) 20) ((zu μ 26 (va_cpy (μ 19) (μ 26) 0 0 6)) 27) 0 0 6)) 28 (va_cpy ((zu (zu μ 26 (va_cpy (μ 19) (μ 26) 0 0 6)) 27 (va_cpy ((zu μ 26 (va_cpy (μ 19) (μ 26) 0 0 6)) 20) ((zu μ 26 (va_cpy (μ 19) (μ 26) 0 0 6)) 27) 0 0 6)) 21) ((zu (zu μ 26 (va_cpy (μ 19) (μ 26) 0 0 6)) 27 (va_cpy ((zu μ 26 (va_cpy (μ 19) (μ 26) 0 0 6)) 20) ((zu μ 26 (va_cpy (μ 19) (μ 26) 0 0 6)) 27) 0 0 6)) 28) 0 0 6)) 22) ((zu (zu (zu μ 26 (va_cpy (μ 19) (μ 26) 0 0 6)) 27 (va_cpy ((zu μ 26 (va_cpy (μ 19) (μ 26) 0 0 6)) 20) ((zu μ 26 (va_cpy (μ 19) (μ 26) 0 0 6)) 27) 0 0 6)) 28 (va_cpy ((zu (zu μ 26 (va_cpy (μ 19) (μ 26) 0 0 6)) 27 (va_cpy ((zu μ 26 (va_cpy (μ 19) (μ 26) 0 0 6)) 20) ((zu μ 26 (va_cpy (μ 19) (μ 26) 0 0 6)) 27) 0 0 6)) 21) ((zu (zu μ 26 (va_cpy (μ 19) (μ 26) 0 0 6)) 27 (va_cpy ((zu μ 26 (va_cpy (μ 19) (μ 26) 0 0 6)) 20) ((zu μ 26 (va_cpy (μ 19) (μ 26) 0 0 6)) 27) 0 0 6)) 28) 0 0 6)) 29) 0 0 6)) 23) ((zu (zu (zu (zu μ 26 (va_cpy (μ 19) (μ 26) 0 0 6)) 27 (va_cpy ((zu μ 26 (va_cpy (μ 19) (μ 26) 0 0 6)) 20) ((zu μ 26 (va_cpy (μ 19) (μ 26) 0 0 6)) 27) 0 0 6)) 28 (va_cpy ((zu (zu μ 26 (va_cpy (μ 19) (μ 26) 0 0 6)) 27 (va_cpy ((zu μ 26 (va_cpy (μ 19) (μ 26) 0 0 6)) 20) ((zu μ 26 (va_cpy (μ 19) (μ 26) 0 0 6)) 27) 0 0 6)) 21) ((zu (zu μ 26 (va_cpy (μ 19) (μ 26) 0 0 6)) 27 (va_cpy ((zu μ 26 (va_cpy (μ 19) (μ 26) 0 0 6)) 20) ((zu μ 26 (va_cpy (μ 19) (μ 26) 0 0 6)) 27) 0 0 6)) 28) 0 0 6)) 29 (va_cpy ((zu (zu (zu μ 26 (va_cpy (μ 19) (μ 26) 0 0 6)) 27 (va_cpy ((zu μ 26 (va_cpy (μ 19) (μ 26) 0 0 6)) 20) ((zu μ 26 (va_cpy (μ 19) (μ 26) 0 0 6)) 27) 0 0 6)) 28 (va_cpy ((zu (zu μ 26 (va_cpy (μ 19) (μ 26) 0 0 6)) 27 (va_cpy ((zu μ 26 (va_cpy (μ 19) (μ 26) 0 0 6)) 20) ((zu μ 26 (va_cpy (μ 19) (μ 26) 0 0 6)) 27) 0 0 6)) 21) ((zu (zu μ 26 (va_cpy (μ 19) (μ 26) 0 0 6)) 27 (va_cpy ((zu μ 26 (va_cpy (μ 19) (μ 26) 0 0 6)) 20) ((zu μ 26 (va_cpy (μ 19) (μ 26) 0 0 6)) 27) 0 0 6)) 28) 0 0 6)) 22) ((zu (zu (zu μ 26 (va_cpy (μ 19) (μ 26) 0 0 6)) 27 (va_cpy ((zu μ 26 (va_cpy (μ 19) (μ 26) 0 0 6)) 20) ((zu μ 26 (va_cpy (μ 19) (μ 26) 0 0 6)) 27) 0 0 6)) 28 (va_cpy ((zu (zu μ 26 (va_cpy (μ 19) (μ 26) 0 0 6)) 27 (va_cpy ((zu μ 26 (va_cpy (μ 19) (μ 26) 0 0 6)) 20) ((zu μ 26 (va_cpy (μ 19) (μ 26) 0 0 6)) 27) 0 0 6)) 21) ((zu (zu μ 26 (va_cpy (μ 19) (μ 26) 0 0 6)) 27 (va_cpy ((zu μ 26 (va_cpy (μ 19) (μ 26) 0 0 6)) 20) ((zu μ 26 (va_cpy (μ 19) (μ 26) 0 0 6)) 27) 0 0 6)) 28) 0 0 6)) 29) 0 0 6)) 30) 0 0 16)) 25 7 (μ 18 7)) 25 8 (μ 18 8)) 25 9 (μ 18 9)) _
  refine zx_putI (nn := 107) fpX8_55 rfl rfl rfl rfl dX8_copyFrom_104 rfl ?_
  refine zx_aload_n (k := 0) (nn := 108) dX8_copyFrom_107 rfl rfl rfl ?_
  refine zx_aload_n (k := 1) (nn := 109) dX8_copyFrom_108 rfl rfl rfl ?_
  refine zx_getI (nn := 112) flX8_32 rfl rfl dX8_copyFrom_109 rfl ?_
  show zX shC σ 1 MX8_copyFrom 112 [(0, zr 25), (1, zr 18)] [zi (μ 18 11), zr 25] (zp (zp (zp (zp (zu (zu (zu (zu (zu μ 26 (va_cpy (μ 19) (μ 26) 0 0 6)) 27 (va_cpy ((zu μ 26 (va_cpy (μ 19) (μ 26) 0 0 6)) 20) ((zu μ 26 (va_cpy (μ 19) (μ 26) 0 0 6)) 27) 0 0 6)) 28 (va_cpy ((zu (zu μ 26 (va_cpy (μ 19) (μ 26) 0 0 6)) 27 (va_cpy ((zu μ 26 (va_cpy (μ 19) (μ 26) 0 0 6)) 20) ((zu μ 26 (va_cpy (μ 19) (μ 26) 0 0 6)) 27) 0 0 6)) 21) ((zu (zu μ 26 (va_cpy (μ 19) (μ 26) 0 0 6)) 27 (va_cpy ((zu μ 26 (va_cpy (μ 19) (μ 26) 0 0 6)) 20) ((zu μ 26 (va_cpy (μ 19) (μ 26) 0 0 6)) 27) 0 0 6)) 28) 0 0 6)) 29 (va_cpy ((zu (zu (zu μ 26 (va_cpy (μ 19) (μ 26) 0 0 6)) 27 (va_cpy ((zu μ 26 (va_cpy (μ 19) (μ 26) 0 0 6)) 20) ((zu μ 26 (va_cpy (μ 19) (μ 26) 0 0 6)) 27) 0 0 6)) 28 (va_cpy ((zu (zu μ 26 (va_cpy (μ 19) (μ 26) 0 0 6)) 27 (va_cpy ((zu μ 26 (va_cpy (μ 19) (μ 26) 0 0 6)) 20) ((zu μ 26 (va_cpy (μ 19) (μ 26) 0 0 6)) 27) 0 0 6)) 21) ((zu (zu μ 26 (va_cpy (μ 19) (μ 26) 0 0 6)) 27 (va_cpy ((zu μ 26 (va_cpy (μ 19) (μ 26) 0 0 6)) 20) ((zu μ 26 (va_cpy (μ 19) (μ 26) 0 0 6)) 27) 0 0 6)) 28) 0 0 6)) 22) ((zu (zu (zu μ 26 (va_cpy (μ 19) (μ 26) 0 0 6)) 27 (va_cpy ((zu μ 26 (va_cpy (μ 19) (μ 26) 0 0 6)) 20) ((zu μ 26 (va_cpy (μ 19) (μ 26) 0 0 6)) 27) 0 0 6)) 28 (va_cpy ((zu (zu μ 26 (va_cpy (μ 19) (μ 26) 0 0 6)) 27 (va_cpy ((zu μ 26 (va_cpy (μ 19) (μ 26) 0 0 6)) 20) ((zu μ 26 (va_cpy (μ 19) (μ 26) 0 0 6)) 27) 0 0 6)) 21) ((zu (zu μ 26 (va_cpy (μ 19) (μ 26) 0 0 6)) 27 (va_cpy ((zu μ 26 (va_cpy (μ 19) (μ 26) 0 0 6)) 20) ((zu μ 26 (va_cpy (μ 19) (μ 26) 0 0 6)) 27) 0 0 6)) 28) 0 0 6)) 29) 0 0 6)) 30 (va_cpy ((zu (zu (zu (zu μ 26 (va_cpy (μ 19) (μ 26) 0 0 6)) 27 (va_cpy ((zu μ 26 (va_cpy (μ 19) (μ 26) 0 0 6)) 20) ((zu μ 26 (va_cpy (μ 19) (μ 26) 0 0 6)) 27) 0 0 6)) 28 (va_cpy ((zu (zu μ 26 (va_cpy (μ 19) (μ 26) 0 0 6)) 27 (va_cpy ((zu μ 26 (va_cpy (μ 19) (μ 26) 0 0 6)) 20) ((zu μ 26 (va_cpy (μ 19) (μ 26) 0 0 6)) 27) 0 0 6)) 21) ((zu (zu μ 26 (va_cpy (μ 19) (μ 26) 0 0 6)) 27 (va_cpy ((zu μ 26 (va_cpy (μ 19) (μ 26) 0 0 6)) 20) ((zu μ 26 (va_cpy (μ 19) (μ 26) 0 0 6)) 27) 0 0 6)) 28) 0 0 6)) 29 (va_cpy ((zu (zu (zu μ 26 (va_cpy (μ 19) (μ 26) 0 0 6)) 27 (va_cpy ((zu μ 26 (va_cpy (μ 19) (μ 26) 0 0 6)) 20) ((zu μ 26 (va_cpy (μ 19) (μ 26) 0 0 6)) 27) 0 0 6)) 28 (va_cpy ((zu (zu μ 26 (va_cpy (μ 19) (μ 26) 0 0 6)) 27 (va_cpy ((zu μ 26 (va_cpy (μ 19) (μ 26) 0 0 6)) 20) ((zu μ 26 (va_cpy (μ 19) (μ 26) 0 0 6)) 27) 0 0 6)) 21) ((zu (zu μ 26 (va_cpy (μ 19) (μ 26) 0 0 6)) 27 (va_cpy ((zu μ 26 (va_cpy (μ 19) (μ 26) 0 0 6)) 20) ((zu μ 26 (va_cpy (μ 19) (μ 26) 0 0 6)) 27) 0 0 6)) 28) 0 0 6)) 22) ((zu (zu (zu μ 26 (va_cpy (μ 19) (μ 26) 0 0 6)) 27 (va_cpy ((zu μ 26 (va_cpy (μ 19) (μ 26) 0 0 6)) 20) ((zu μ 26 (va_cpy (μ 19) (μ 26) 0 0 6)) 27) 0 0 6)) 28 (va_cpy ((zu (zu μ 26 (va_cpy (μ 19) (μ 26) 0 0 6)) 27 (va_cpy ((zu μ 26 (va_cpy (μ 19) (μ 26) 0 0 6)) 20) ((zu μ 26 (va_cpy (μ 19) (μ 26) 0 0 6)) 27) 0 0 6)) 21) ((zu (zu μ 26 (va_cpy (μ 19) (μ 26) 0 0 6)) 27 (va_cpy ((zu μ 26 (va_cpy (μ 19) (μ 26) 0 0 6)) 20) ((zu μ 26 (va_cpy (μ 19) (μ 26) 0 0 6)) 27) 0 0 6)) 28) 0 0 6)) 29) 0 0 6)) 23) ((zu (zu (zu (zu μ 26 (va_cpy (μ 19) (μ 26) 0 0 6)) 27 (va_cpy ((zu μ 26 (va_cpy (μ 19) (μ 26) 0 0 6)) 20) ((zu μ 26 (va_cpy (μ 19) (μ 26) 0 0 6)) 27) 0 0 6)) 28 (va_cpy ((zu (zu μ 26 (va_cpy (μ 19) (μ 26) 0 0 6)) 27 (va_cpy ((zu μ 26 (va_cpy (μ 19) (μ 26) 0 0 6)) 20) ((zu μ 26 (va_cpy (μ 19) (μ 26) 0 0 6)) 27) 0 0 6)) 21) ((zu (zu μ 26 (va_cpy (μ 19) (μ 26) 0 0 6)) 27 (va_cpy ((zu μ 26 (va_cpy (μ 19) (μ 26) 0 0 6)) 20) ((zu μ 26 (va_cpy (μ 19) (μ 26) 0 0 6)) 27) 0 0 6)) 28) 0 0 6)) 29 (va_cpy ((zu (zu (zu μ 26 (va_cpy (μ 19) (μ 26) 0 0 6)) 27 (va_cpy ((zu μ 26 (va_cpy (μ 19) (μ 26) 0 0 6)) 20) ((zu μ 26 (va_cpy (μ 19) (μ 26) 0 0 6)) 27) 0 0 6)) 28 (va_cpy ((zu (zu μ 26 (va_cpy (μ 19) (μ 26) 0 0 6)) 27 (va_cpy ((zu μ 26 (va_cpy (μ 19) (μ 26) 0 0 6)) 20) ((zu μ 26 (va_cpy (μ 19) (μ 26) 0 0 6)) 27) 0 0 6)) 21) ((zu (zu μ 26 (va_cpy (μ 19) (μ 26) 0 0 6)) 27 (va_cpy ((zu μ 26 (va_cpy (μ 19) (μ 26) 0 0 6)) 20) ((zu μ 26 (va_cpy (μ 19) (μ 26) 0 0 6)) 27) 0 0 6)) 28) 0 0 6)) 22) ((zu (zu (zu μ 26 (va_cpy (μ 19) (μ 26) 0 0 6)) 27 (va_cpy ((zu μ 26 (va_cpy (μ 19) (μ 26) 0 0 6)) 20) ((zu μ 26 (va_cpy (μ 19) (μ 26) 0 0 6)) 27) 0 0 6)) 28 (va_cpy ((zu (zu μ 26 (va_cpy (μ 19) (μ 26) 0 0 6)) 27 (va_cpy ((zu μ 26 (va_cpy (μ 19) (μ 26) 0 0 6)) 20) ((zu μ 26 (va_cpy (μ 19) (μ 26) 0 0 6)) 27) 0 0 6)) 21) ((zu (zu μ 26 (va_cpy (μ 19) (μ 26) 0 0 6)) 27 (va_cpy ((zu μ 26 (va_cpy (μ 19) (μ 26) 0 0 6)) 20) ((zu μ 26 (va_cpy (μ 19) (μ 26) 0 0 6)) 27) 0 0 6)) 28) 0 0 6)) 29) 0 0 6)) 30) 0 0 16)) 25 7 (μ 18 7)) 25 8 (μ 18 8)) 25 9 (μ 18 9)) 25 10 (μ 18 10)) _
  refine zx_putI (nn := 115) fpX8_32 rfl rfl rfl rfl dX8_copyFrom_112 rfl ?_
  refine zx_vret rfl dX8_copyFrom_115 ?_
  refine ⟨rfl, cS_copy ?_ ?_ ?_ ?_ ?_ ?_ ?_, ?_⟩
  · simp [zp, zu, upd]
  · simp [zp, zu, upd]
  · simp [zp, zu, upd]
  · simp [zp, zu, upd]
  · simp [zp, zu, upd]
  · intro w h1 h2 j hj
    rcases (show w = 1 ∨ w = 2 ∨ w = 3 ∨ w = 4 by omega) with rfl | rfl | rfl | rfl <;> simp [zp, zu, upd, va_cpy, hj]
  · intro j hj
    simp [zp, zu, upd, va_cpy, hj]
  · exact ((((((((((zJ.rf.u (by decide)).u (by decide)).u (by decide)).u (by decide)).u (by decide)).p (by decide)).p (by decide)).p (by decide)).p (by decide)).p (by decide))
set_option maxHeartbeats 4000000 in
set_option maxRecDepth 100000 in
theorem eX8_copyFrom_73_18 (σ : zG) (μ : zM) : zMet shC σ 1 MX8_copyFrom yX8_copyFrom [zr 73, zr 18] μ (fun rr μ' => rr = none ∧ cS 73 μ' = cS 18 μ ∧ zJ [73, 74, 75, 76, 77, 78] μ μ') := by
  refine zmetF (by decide +kernel) rfl (Nat.le_of_ble_eq_true rfl) ?_
  show zX shC σ 1 MX8_copyFrom 0 [(0, zr 73), (1, zr 18)] [] μ _
  refine zx_aload_n (k := 1) (nn := 1) dX8_copyFrom_0 rfl rfl rfl ?_
  refine zx_getR (q := 19) (nn := 4) flX8_9 rfl rfl dX8_copyFrom_1 rfl ?_
  refine zx_iconst (v := 0) (nn := 5) rfl dX8_copyFrom_4 rfl ?_
  refine zx_aload_n (k := 0) (nn := 6) dX8_copyFrom_5 rfl rfl rfl ?_
  refine zx_getR (q := 74) (nn := 9) flX8_9 rfl rfl dX8_copyFrom_6 rfl ?_
  refine zx_iconst (v := 0) (nn := 10) rfl dX8_copyFrom_9 rfl ?_
  refine zx_bipush (v := 6) (nn := 12) rfl dX8_copyFrom_10 rfl ?_
  refine zx_copy (nn := 15) cplX8 rfl rfl (by decide) (by decide) (by decide) (by decide) (Nat.le_of_ble_eq_true rfl) dX8_copyFrom_12 rfl ?_
  show zX shC σ 1 MX8_copyFrom 15 [(0, zr 73), (1, zr 18)] [] (zu μ 74 (va_cpy (μ 19) (μ 74) 0 0 6)) _
  refine zx_aload_n (k := 1) (nn := 16) dX8_copyFrom_15 rfl rfl rfl ?_
  refine zx_getR (q := 20) (nn := 19) flX8_15 rfl rfl dX8_copyFrom_16 rfl ?_
  refine zx_iconst (v := 0) (nn := 20) rfl dX8_copyFrom_19 rfl ?_
  refine zx_aload_n (k := 0) (nn := 21) dX8_copyFrom_20 rfl rfl rfl ?_
  refine zx_getR (q := 75) (nn := 24) flX8_15 rfl rfl dX8_copyFrom_21 rfl ?_
  refine zx_iconst (v := 0) (nn := 25) rfl dX8_copyFrom_24 rfl ?_
  refine zx_bipush (v := 6) (nn := 27) rfl dX8_copyFrom_25 rfl ?_
  refine zx_copy (nn := 30) cplX8 rfl rfl (by decide) (by decide) (by decide) (by decide) (Nat.le_of_ble_eq_true rfl) dX8_copyFrom_27 rfl ?_
  show zX shC σ 1 MX8_copyFrom 30 [(0, zr 73), (1, zr 18)] [] (zu (zu μ 74 (va_cpy (μ 19) (μ 74) 0 0 6)) 75 (va_cpy ((zu μ 74 (va_cpy (μ 19) (μ 74) 0 0 6)) 20) ((zu μ 74 (va_cpy (μ 19) (μ 74) 0 0 6)) 75) 0 0 6)) _
  refine zx_aload_n (k := 1) (nn := 31) dX8_copyFrom_30 rfl rfl rfl ?_
  refine zx_getR (q := 21) (nn := 34) flX8_18 rfl rfl dX8_copyFrom_31 rfl ?_
  refine zx_iconst (v := 0) (nn := 35) rfl dX8_copyFrom_34 rfl ?_
  refine zx_aload_n (k := 0) (nn := 36) dX8_copyFrom_35 rfl rfl rfl ?_
  refine zx_getR (q := 76) (nn := 39) flX8_18 rfl rfl dX8_copyFrom_36 rfl ?_
  refine zx_iconst (v := 0) (nn := 40) rfl dX8_copyFrom_39 rfl ?_
  refine zx_bipush (v := 6) (nn := 42) rfl dX8_copyFrom_40 rfl ?_
  refine zx_copy (nn := 45) cplX8 rfl rfl (by decide) (by decide) (by decide) (by decide) (Nat.le_of_ble_eq_true rfl) dX8_copyFrom_42 rfl ?_
  show zX shC σ 1 MX8_copyFrom 45 [(0, zr 73), (1, zr 18)] [] (zu (zu (zu μ 74 (va_cpy (μ 19) (μ 74) 0 0 6)) 75 (va_cpy ((zu μ 74 (va_cpy (μ 19) (μ 74) 0 0 6)) 20) ((zu μ 74 (va_cpy (μ 19) (μ 74) 0 0 6)) 75) 0 0 6)) 76 (va_cpy ((zu (zu μ 74 (va_cpy (μ 19) (μ 74) 0 0 6)) 75 (va_cpy ((zu μ 74 (va_cpy (μ 19) (μ 74) 0 0 6)) 20) ((zu μ 74 (va_cpy (μ 19) (μ 74) 0 0 6)) 75) 0 0 6)) 21) ((zu (zu μ 74 (va_cpy (μ 19) (μ 74) 0 0 6)) 75 (va_cpy ((zu μ 74 (va_cpy (μ 19) (μ 74) 0 0 6)) 20) ((zu μ 74 (va_cpy (μ 19) (μ 74) 0 0 6)) 75) 0 0 6)) 76) 0 0 6)) _
  refine zx_aload_n (k := 1) (nn := 46) dX8_copyFrom_45 rfl rfl rfl ?_
  refine zx_getR (q := 22) (nn := 49) flX8_21 rfl rfl dX8_copyFrom_46 rfl ?_
  refine zx_iconst (v := 0) (nn := 50) rfl dX8_copyFrom_49 rfl ?_
  refine zx_aload_n (k := 0) (nn := 51) dX8_copyFrom_50 rfl rfl rfl ?_
  refine zx_getR (q := 77) (nn := 54) flX8_21 rfl rfl dX8_copyFrom_51 rfl ?_
  refine zx_iconst (v := 0) (nn := 55) rfl dX8_copyFrom_54 rfl ?_
  refine zx_bipush (v := 6) (nn := 57) rfl dX8_copyFrom_55 rfl ?_
  refine zx_copy (nn := 60) cplX8 rfl rfl (by decide) (by decide) (by decide) (by decide) (Nat.le_of_ble_eq_true rfl) dX8_copyFrom_57 rfl ?_
  show zX shC σ 1 MX8_copyFrom 60 [(0, zr 73), (1, zr 18)] [] (zu (zu (zu (zu μ 74 (va_cpy (μ 19) (μ 74) 0 0 6)) 75 (va_cpy ((zu μ 74 (va_cpy (μ 19) (μ 74) 0 0 6)) 20) ((zu μ 74 (va_cpy (μ 19) (μ 74) 0 0 6)) 75) 0 0 6)) 76 (va_cpy ((zu (zu μ 74 (va_cpy (μ 19) (μ 74) 0 0 6)) 75 (va_cpy ((zu μ 74 (va_cpy (μ 19) (μ 74) 0 0 6)) 20) ((zu μ 74 (va_cpy (μ 19) (μ 74) 0 0 6)) 75) 0 0 6)) 21) ((zu (zu μ 74 (va_cpy (μ 19) (μ 74) 0 0 6)) 75 (va_cpy ((zu μ 74 (va_cpy (μ 19) (μ 74) 0 0 6)) 20) ((zu μ 74 (va_cpy (μ 19) (μ 74) 0 0 6)) 75) 0 0 6)) 76) 0 0 6)) 77 (va_cpy ((zu (zu (zu μ 74 (va_cpy (μ 19) (μ 74) 0 0 6)) 75 (va_cpy ((zu μ 74 (va_cpy (μ 19) (μ 74) 0 0 6)) 20) ((zu μ 74 (va_cpy (μ 19) (μ 74) 0 0 6)) 75) 0 0 6)) 76 (va_cpy ((zu (zu μ 74 (va_cpy (μ 19) (μ 74) 0 0 6)) 75 (va_cpy ((zu μ 74 (va_cpy (μ 19) (μ 74) 0 0 6)) 20) ((zu μ 74 (va_cpy (μ 19) (μ 74) 0 0 6)) 75) 0 0 6)) 21) ((zu (zu μ 74 (va_cpy (μ 19) (μ 74) 0 0 6)) 75 (va_cpy ((zu μ 74 (va_cpy (μ 19) (μ 74) 0 0 6)) 20) ((zu μ 74 (va_cpy (μ 19) (μ 74) 0 0 6)) 75) 0 0 6)) 76) 0 0 6)) 22) ((zu (zu (zu μ 74 (va_cpy (μ 19) (μ 74) 0 0 6)) 75 (va_cpy ((zu μ 74 (va_cpy (μ 19) (μ 74) 0 0 6)) 20) ((zu μ 74 (va_cpy (μ 19) (μ 74) 0 0 6)) 75) 0 0 6)) 76 (va_cpy ((zu (zu μ 74 (va_cpy (μ 19) (μ 74) 0 0 6)) 75 (va_cpy ((zu μ 74 (va_cpy (μ 19) (μ 74) 0 0 6)) 20) ((zu μ 74 (va_cpy (μ 19) (μ 74) 0 0 6)) 75) 0 0 6)) 21) ((zu (zu μ 74 (va_cpy (μ 19) (μ 74) 0 0 6)) 75 (va_cpy ((zu μ 74 (va_cpy (μ 19) (μ 74) 0 0 6)) 20) ((zu μ 74 (va_cpy (μ 19) (μ 74) 0 0 6)) 75) 0 0 6)) 76) 0 0 6)) 77) 0 0 6)) _
  refine zx_aload_n (k := 1) (nn := 61) dX8_copyFrom_60 rfl rfl rfl ?_
  refine zx_getR (q := 23) (nn := 64) flX8_24 rfl rfl dX8_copyFrom_61 rfl ?_
  refine zx_iconst (v := 0) (nn := 65) rfl dX8_copyFrom_64 rfl ?_
  refine zx_aload_n (k := 0) (nn := 66) dX8_copyFrom_65 rfl rfl rfl ?_
  refine zx_getR (q := 78) (nn := 69) flX8_24 rfl rfl dX8_copyFrom_66 rfl ?_
  refine zx_iconst (v := 0) (nn := 70) rfl dX8_copyFrom_69 rfl ?_
  refine zx_bipush (v := 16) (nn := 72) rfl dX8_copyFrom_70 rfl ?_
  refine zx_copy (nn := 75) cplX8 rfl rfl (by decide) (by decide) (by decide) (by decide) (Nat.le_of_ble_eq_true rfl) dX8_copyFrom_72 rfl ?_
  show zX shC σ 1 MX8_copyFrom 75 [(0, zr 73), (1, zr 18)] [] (zu (zu (zu (zu (zu μ 74 (va_cpy (μ 19) (μ 74) 0 0 6)) 75 (va_cpy ((zu μ 74 (va_cpy (μ 19) (μ 74) 0 0 6)) 20) ((zu μ 74 (va_cpy (μ 19) (μ 74) 0 0 6)) 75) 0 0 6)) 76 (va_cpy ((zu (zu μ 74 (va_cpy (μ 19) (μ 74) 0 0 6)) 75 (va_cpy ((zu μ 74 (va_cpy (μ 19) (μ 74) 0 0 6)) 20) ((zu μ 74 (va_cpy (μ 19) (μ 74) 0 0 6)) 75) 0 0 6)) 21) ((zu (zu μ 74 (va_cpy (μ 19) (μ 74) 0 0 6)) 75 (va_cpy ((zu μ 74 (va_cpy (μ 19) (μ 74) 0 0 6)) 20) ((zu μ 74 (va_cpy (μ 19) (μ 74) 0 0 6)) 75) 0 0 6)) 76) 0 0 6)) 77 (va_cpy ((zu (zu (zu μ 74 (va_cpy (μ 19) (μ 74) 0 0 6)) 75 (va_cpy ((zu μ 74 (va_cpy (μ 19) (μ 74) 0 0 6)) 20) ((zu μ 74 (va_cpy (μ 19) (μ 74) 0 0 6)) 75) 0 0 6)) 76 (va_cpy ((zu (zu μ 74 (va_cpy (μ 19) (μ 74) 0 0 6)) 75 (va_cpy ((zu μ 74 (va_cpy (μ 19) (μ 74) 0 0 6)) 20) ((zu μ 74 (va_cpy (μ 19) (μ 74) 0 0 6)) 75) 0 0 6)) 21) ((zu (zu μ 74 (va_cpy (μ 19) (μ 74) 0 0 6)) 75 (va_cpy ((zu μ 74 (va_cpy (μ 19) (μ 74) 0 0 6)) 20) ((zu μ 74 (va_cpy (μ 19) (μ 74) 0 0 6)) 75) 0 0 6)) 76) 0 0 6)) 22) ((zu (zu (zu μ 74 (va_cpy (μ 19) (μ 74) 0 0 6)) 75 (va_cpy ((zu μ 74 (va_cpy (μ 19) (μ 74) 0 0 6)) 20) ((zu μ 74 (va_cpy (μ 19) (μ 74) 0 0 6)) 75) 0 0 6)) 76 (va_cpy ((zu (zu μ 74 (va_cpy (μ 19) (μ 74) 0 0 6)) 75 (va_cpy ((zu μ 74 (va_cpy (μ 19) (μ 74) 0 0 6)) 20) ((zu μ 74 (va_cpy (μ 19) (μ 74) 0 0 6)) 75) 0 0 6)) 21) ((zu (zu μ 74 (va_cpy (μ 19) (μ 74) 0 0 6)) 75 (va_cpy ((zu μ 74 (va_cpy (μ 19) (μ 74) 0 0 6)) 20) ((zu μ 74 (va_cpy (μ 19) (μ 74) 0 0 6)) 75) 0 0 6)) 76) 0 0 6)) 77) 0 0 6)) 78 (va_cpy ((zu (zu (zu (zu μ 74 (va_cpy (μ 19) (μ 74) 0 0 6)) 75 (va_cpy ((zu μ 74 (va_cpy (μ 19) (μ 74) 0 0 6)) 20) ((zu μ 74 (va_cpy (μ 19) (μ 74) 0 0 6)) 75) 0 0 6)) 76 (va_cpy ((zu (zu μ 74 (va_cpy (μ 19) (μ 74) 0 0 6)) 75 (va_cpy ((zu μ 74 (va_cpy (μ 19) (μ 74) 0 0 6)) 20) ((zu μ 74 (va_cpy (μ 19) (μ 74) 0 0 6)) 75) 0 0 6)) 21) ((zu (zu μ 74 (va_cpy (μ 19) (μ 74) 0 0 6)) 75 (va_cpy ((zu μ 74 (va_cpy (μ 19) (μ 74) 0 0 6)) 20) ((zu μ 74 (va_cpy (μ 19) (μ 74) 0 0 6)) 75) 0 0 6)) 76) 0 0 6)) 77 (va_cpy ((zu (zu (zu μ 74 (va_cpy (μ 19) (μ 74) 0 0 6)) 75 (va_cpy ((zu μ 74 (va_cpy (μ 19) (μ 74) 0 0 6)) 20) ((zu μ 74 (va_cpy (μ 19) (μ 74) 0 0 6)) 75) 0 0 6)) 76 (va_cpy ((zu (zu μ 74 (va_cpy (μ 19) (μ 74) 0 0 6)) 75 (va_cpy ((zu μ 74 (va_cpy (μ 19) (μ 74) 0 0 6)) 20) ((zu μ 74 (va_cpy (μ 19) (μ 74) 0 0 6)) 75) 0 0 6)) 21) ((zu (zu μ 74 (va_cpy (μ 19) (μ 74) 0 0 6)) 75 (va_cpy ((zu μ 74 (va_cpy (μ 19) (μ 74) 0 0 6)) 20) ((zu μ 74 (va_cpy (μ 19) (μ 74) 0 0 6)) 75) 0 0 6)) 76) 0 0 6)) 22) ((zu (zu (zu μ 74 (va_cpy (μ 19) (μ 74) 0 0 6)) 75 (va_cpy ((zu μ 74 (va_cpy (μ 19) (μ 74) 0 0 6)) 20) ((zu μ 74 (va_cpy (μ 19) (μ 74) 0 0 6)) 75) 0 0 6)) 76 (va_cpy ((zu (zu μ 74 (va_cpy (μ 19) (μ 74) 0 0 6)) 75 (va_cpy ((zu μ 74 (va_cpy (μ 19) (μ 74) 0 0 6)) 20) ((zu μ 74 (va_cpy (μ 19) (μ 74) 0 0 6)) 75) 0 0 6)) 21) ((zu (zu μ 74 (va_cpy (μ 19) (μ 74) 0 0 6)) 75 (va_cpy ((zu μ 74 (va_cpy (μ 19) (μ 74) 0 0 6)) 20) ((zu μ 74 (va_cpy (μ 19) (μ 74) 0 0 6)) 75) 0 0 6)) 76) 0 0 6)) 77) 0 0 6)) 23) ((zu (zu (zu (zu μ 74 (va_cpy (μ 19) (μ 74) 0 0 6)) 75 (va_cpy ((zu μ 74 (va_cpy (μ 19) (μ 74) 0 0 6)) 20) ((zu μ 74 (va_cpy (μ 19) (μ 74) 0 0 6)) 75) 0 0 6)) 76 (va_cpy ((zu (zu μ 74 (va_cpy (μ 19) (μ 74) 0 0 6)) 75 (va_cpy ((zu μ 74 (va_cpy (μ 19) (μ 74) 0 0 6)) 20) ((zu μ 74 (va_cpy (μ 19) (μ 74) 0 0 6)) 75) 0 0 6)) 21) ((zu (zu μ 74 (va_cpy (μ 19) (μ 74) 0 0 6)) 75 (va_cpy ((zu μ 74 (va_cpy (μ 19) (μ 74) 0 0 6)) 20) ((zu μ 74 (va_cpy (μ 19) (μ 74) 0 0 6)) 75) 0 0 6)) 76) 0 0 6)) 77 (va_cpy ((zu (zu (zu μ 74 (va_cpy (μ 19) (μ 74) 0 0 6)) 75 (va_cpy ((zu μ 74 (va_cpy (μ 19) (μ 74) 0 0 6)) 20) ((zu μ 74 (va_cpy (μ 19) (μ 74) 0 0 6)) 75) 0 0 6)) 76 (va_cpy ((zu (zu μ 74 (va_cpy (μ 19) (μ 74) 0 0 6)) 75 (va_cpy ((zu μ 74 (va_cpy (μ 19) (μ 74) 0 0 6)) 20) ((zu μ 74 (va_cpy (μ 19) (μ 74) 0 0 6)) 75) 0 0 6)) 21) ((zu (zu μ 74 (va_cpy (μ 19) (μ 74) 0 0 6)) 75 (va_cpy ((zu μ 74 (va_cpy (μ 19) (μ 74) 0 0 6)) 20) ((zu μ 74 (va_cpy (μ 19) (μ 74) 0 0 6)) 75) 0 0 6)) 76) 0 0 6)) 22) ((zu (zu (zu μ 74 (va_cpy (μ 19) (μ 74) 0 0 6)) 75 (va_cpy ((zu μ 74 (va_cpy (μ 19) (μ 74) 0 0 6)) 20) ((zu μ 74 (va_cpy (μ 19) (μ 74) 0 0 6)) 75) 0 0 6)) 76 (va_cpy ((zu (zu μ 74 (va_cpy (μ 19) (μ 74) 0 0 6)) 75 (va_cpy ((zu μ 74 (va_cpy (μ 19) (μ 74) 0 0 6)) 20) ((zu μ 74 (va_cpy (μ 19) (μ 74) 0 0 6)) 75) 0 0 6)) 21) ((zu (zu μ 74 (va_cpy (μ 19) (μ 74) 0 0 6)) 75 (va_cpy ((zu μ 74 (va_cpy (μ 19) (μ 74) 0 0 6)) 20) ((zu μ 74 (va_cpy (μ 19) (μ 74) 0 0 6)) 75) 0 0 6)) 76) 0 0 6)) 77) 0 0 6)) 78) 0 0 16)) _
  refine zx_aload_n (k := 0) (nn := 76) dX8_copyFrom_75 rfl rfl rfl ?_
  refine zx_aload_n (k := 1) (nn := 77) dX8_copyFrom_76 rfl rfl rfl ?_
  refine zx_getI (nn := 80) flX8_46 rfl rfl dX8_copyFrom_77 rfl ?_
  show zX shC σ 1 MX8_copyFrom 80 [(0, zr 73), (1, zr 18)] [zi (μ 18 7), zr 73] (zu (zu (zu (zu (zu μ 74 (va_cpy (μ 19) (μ 74) 0 0 6)) 75 (va_cpy ((zu μ 74 (va_cpy (μ 19) (μ 74) 0 0 6)) 20) ((zu μ 74 (va_cpy (μ 19) (μ 74) 0 0 6)) 75) 0 0 6)) 76 (va_cpy ((zu (zu μ 74 (va_cpy (μ 19) (μ 74) 0 0 6)) 75 (va_cpy ((zu μ 74 (va_cpy (μ 19) (μ 74) 0 0 6)) 20) ((zu μ 74 (va_cpy (μ 19) (μ 74) 0 0 6)) 75) 0 0 6)) 21) ((zu (zu μ 74 (va_cpy (μ 19) (μ 74) 0 0 6)) 75 (va_cpy ((zu μ 74 (va_cpy (μ 19) (μ 74) 0 0 6)) 20) ((zu μ 74 (va_cpy (μ 19) (μ 74) 0 0 6)) 75) 0 0 6)) 76) 0 0 6)) 77 (va_cpy ((zu (zu (zu μ 74 (va_cpy (μ 19) (μ 74) 0 0 6)) 75 (va_cpy ((zu μ 74 (va_cpy (μ 19) (μ 74) 0 0 6)) 20) ((zu μ 74 (va_cpy (μ 19) (μ 74) 0 0 6)) 75) 0 0 6)) 76 (va_cpy ((zu (zu μ 74 (va_cpy (μ 19) (μ 74) 0 0 6)) 75 (va_cpy ((zu μ 74 (va_cpy (μ 19) (μ 74) 0 0 6)) 20) ((zu μ 74 (va_cpy (μ 19) (μ 74) 0 0 6)) 75) 0 0 6)) 21) ((zu (zu μ 74 (va_cpy (μ 19) (μ 74) 0 0 6)) 75 (va_cpy ((zu μ 74 (va_cpy (μ 19) (μ 74) 0 0 6)) 20) ((zu μ 74 (va_cpy (μ 19) (μ 74) 0 0 6)) 75) 0 0 6)) 76) 0 0 6)) 22) ((zu (zu (zu μ 74 (va_cpy (μ 19) (μ 74) 0 0 6)) 75 (va_cpy ((zu μ 74 (va_cpy (μ 19) (μ 74) 0 0 6)) 20) ((zu μ 74 (va_cpy (μ 19) (μ 74) 0 0 6)) 75) 0 0 6)) 76 (va_cpy ((zu (zu μ 74 (va_cpy (μ 19) (μ 74) 0 0 6)) 75 (va_cpy ((zu μ 74 (va_cpy (μ 19) (μ 74) 0 0 6)) 20) ((zu μ 74 (va_cpy (μ 19) (μ 74) 0 0 6)) 75) 0 0 6)) 21) ((zu (zu μ 74 (va_cpy (μ 19) (μ 74) 0 0 6)) 75 (va_cpy ((zu μ 74 (va_cpy (μ 19) (μ 74) 0 0 6)) 20) ((zu μ 74 (va_cpy (μ 19) (μ 74) 0 0 6)) 75) 0 0 6)) 76) 0 0 6)) 77) 0 0 6)) 78 (va_cpy ((zu (zu (zu (zu μ 74 (va_cpy (μ 19) (μ 74) 0 0 6)) 75 (va_cpy ((zu μ 74 (va_cpy (μ 19) (μ 74) 0 0 6)) 20) ((zu μ 74 (va_cpy (μ 19) (μ 74) 0 0 6)) 75) 0 0 6)) 76 (va_cpy ((zu (zu μ 74 (va_cpy (μ 19) (μ 74) 0 0 6)) 75 (va_cpy ((zu μ 74 (va_cpy (μ 19) (μ 74) 0 0 6)) 20) ((zu μ 74 (va_cpy (μ 19) (μ 74) 0 0 6)) 75) 0 0 6)) 21) ((zu (zu μ 74 (va_cpy (μ 19) (μ 74) 0 0 6)) 75 (va_cpy ((zu μ 74 (va_cpy (μ 19) (μ 74) 0 0 6)) 20) ((zu μ 74 (va_cpy (μ 19) (μ 74) 0 0 6)) 75) 0 0 6)) 76) 0 0 6)) 77 (va_cpy ((zu (zu (zu μ 74 (va_cpy (μ 19) (μ 74) 0 0 6)) 75 (va_cpy ((zu μ 74 (va_cpy (μ 19) (μ 74) 0 0 6)) 20) ((zu μ 74 (va_cpy (μ 19) (μ 74) 0 0 6)) 75) 0 0 6)) 76 (va_cpy ((zu (zu μ 74 (va_cpy (μ 19) (μ 74) 0 0 6)) 75 (va_cpy ((zu μ 74 (va_cpy (μ 19) (μ 74) 0 0 6)) 20) ((zu μ 74 (va_cpy (μ 19) (μ 74) 0 0 6)) 75) 0 0 6)) 21) ((zu (zu μ 74 (va_cpy (μ 19) (μ 74) 0 0 6)) 75 (va_cpy ((zu μ 74 (va_cpy (μ 19) (μ 74) 0 0 6)) 20) ((zu μ 74 (va_cpy (μ 19) (μ 74) 0 0 6)) 75) 0 0 6)) 76) 0 0 6)) 22) ((zu (zu (zu μ 74 (va_cpy (μ 19) (μ 74) 0 0 6)) 75 (va_cpy ((zu μ 74 (va_cpy (μ 19) (μ 74) 0 0 6)) 20) ((zu μ 74 (va_cpy (μ 19) (μ 74) 0 0 6)) 75) 0 0 6)) 76 (va_cpy ((zu (zu μ 74 (va_cpy (μ 19) (μ 74) 0 0 6)) 75 (va_cpy ((zu μ 74 (va_cpy (μ 19) (μ 74) 0 0 6)) 20) ((zu μ 74 (va_cpy (μ 19) (μ 74) 0 0 6)) 75) 0 0 6)) 21) ((zu (zu μ 74 (va_cpy (μ 19) (μ 74) 0 0 6)) 75 (va_cpy ((zu μ 74 (va_cpy (μ 19) (μ 74) 0 0 6)) 20) ((zu μ 74 (va_cpy (μ 19) (μ 74) 0 0 6)) 75) 0 0 6)) 76) 0 0 6)) 77) 0 0 6)) 23) ((zu (zu (zu (zu μ 74 (va_cpy (μ 19) (μ 74) 0 0 6)) 75 (va_cpy ((zu μ 74 (va_cpy (μ 19) (μ 74) 0 0 6)) 20) ((zu μ 74 (va_cpy (μ 19) (μ 74) 0 0 6)) 75) 0 0 6)) 76 (va_cpy ((zu (zu μ 74 (va_cpy (μ 19) (μ 74) 0 0 6)) 75 (va_cpy ((zu μ 74 (va_cpy (μ 19) (μ 74) 0 0 6)) 20) ((zu μ 74 (va_cpy (μ 19) (μ 74) 0 0 6)) 75) 0 0 6)) 21) ((zu (zu μ 74 (va_cpy (μ 19) (μ 74) 0 0 6)) 75 (va_cpy ((zu μ 74 (va_cpy (μ 19) (μ 74) 0 0 6)) 20) ((zu μ 74 (va_cpy (μ 19) (μ 74) 0 0 6)) 75) 0 0 6)) 76) 0 0 6)) 77 (va_cpy ((zu (zu (zu μ 74 (va_cpy (μ 19) (μ 74) 0 0 6)) 75 (va_cpy ((zu μ 74 (va_cpy (μ 19) (μ 74) 0 0 6)) 20) ((zu μ 74 (va_cpy (μ 19) (μ 74) 0 0 6)) 75) 0 0 6)) 76 (va_cpy ((zu (zu μ 74 (va_cpy (μ 19) (μ 74) 0 0 6)) 75 (va_cpy ((zu μ 74 (va_cpy (μ 19) (μ 74) 0 0 6)) 20) ((zu μ 74 (va_cpy (μ 19) (μ 74) 0 0 6)) 75) 0 0 6)) 21) ((zu (zu μ 74 (va_cpy (μ 19) (μ 74) 0 0 6)) 75 (va_cpy ((zu μ 74 (va_cpy (μ 19) (μ 74) 0 0 6)) 20) ((zu μ 74 (va_cpy (μ 19) (μ 74) 0 0 6)) 75) 0 0 6)) 76) 0 0 6)) 22) ((zu (zu (zu μ 74 (va_cpy (μ 19) (μ 74) 0 0 6)) 75 (va_cpy ((zu μ 74 (va_cpy (μ 19) (μ 74) 0 0 6)) 20) ((zu μ 74 (va_cpy (μ 19) (μ 74) 0 0 6)) 75) 0 0 6)) 76 (va_cpy ((zu (zu μ 74 (va_cpy (μ 19) (μ 74) 0 0 6)) 75 (va_cpy ((zu μ 74 (va_cpy (μ 19) (μ 74) 0 0 6)) 20) ((zu μ 74 (va_cpy (μ 19) (μ 74) 0 0 6)) 75) 0 0 6)) 21) ((zu (zu μ 74 (va_cpy (μ 19) (μ 74) 0 0 6)) 75 (va_cpy ((zu μ 74 (va_cpy (μ 19) (μ 74) 0 0 6)) 20) ((zu μ 74 (va_cpy (μ 19) (μ 74) 0 0 6)) 75) 0 0 6)) 76) 0 0 6)) 77) 0 0 6)) 78) 0 0 16)) _
  refine zx_putI (nn := 83) fpX8_46 rfl rfl rfl rfl dX8_copyFrom_80 rfl ?_
  refine zx_aload_n (k := 0) (nn := 84) dX8_copyFrom_83 rfl rfl rfl ?_
  refine zx_aload_n (k := 1) (nn := 85) dX8_copyFrom_84 rfl rfl rfl ?_
  refine zx_getI (nn := 88) flX8_49 rfl rfl dX8_copyFrom_85 rfl ?_
  show zX shC σ 1 MX8_copyFrom 88 [(0, zr 73), (1, zr 18)] [zi (μ 18 8), zr 73] (zp (zu (zu (zu (zu (zu μ 74 (va_cpy (μ 19) (μ 74) 0 0 6)) 75 (va_cpy ((zu μ 74 (va_cpy (μ 19) (μ 74) 0 0 6)) 20) ((zu μ 74 (va_cpy (μ 19) (μ 74) 0 0 6)) 75) 0 0 6)) 76 (va_cpy ((zu (zu μ 74 (va_cpy (μ 19) (μ 74) 0 0 6)) 75 (va_cpy ((zu μ 74 (va_cpy (μ 19) (μ 74) 0 0 6)) 20) ((zu μ 74 (va_cpy (μ 19) (μ 74) 0 0 6)) 75) 0 0 6)) 21) ((zu (zu μ 74 (va_cpy (μ 19) (μ 74) 0 0 6)) 75 (va_cpy ((zu μ 74 (va_cpy (μ 19) (μ 74) 0 0 6)) 20) ((zu μ 74 (va_cpy (μ 19) (μ 74) 0 0 6)) 75) 0 0 6)) 76) 0 0 6)) 77 (va_cpy ((zu (zu (zu μ 74 (va_cpy (μ 19) (μ 74) 0 0 6)) 75 (va_cpy ((zu μ 74 (va_cpy (μ 19) (μ 74) 0 0 6)) 20) ((zu μ 74 (va_cpy (μ 19) (μ 74) 0 0 6)) 75) 0 0 6)) 76 (va_cpy ((zu (zu μ 74 (va_cpy (μ 19) (μ 74) 0 0 6)) 75 (va_cpy ((zu μ 74 (va_cpy (μ 19) (μ 74) 0 0 6)) 20) ((zu μ 74 (va_cpy (μ 19) (μ 74) 0 0 6)) 75) 0 0 6)) 21) ((zu (zu μ 74 (va_cpy (μ 19) (μ 74) 0 0 6)) 75 (va_cpy ((zu μ 74 (va_cpy (μ 19) (μ 74) 0 0 6)) 20) ((zu μ 74 (va_cpy (μ 19) (μ 74) 0 0 6)) 75) 0 0 6)) 76) 0 0 6)) 22) ((zu (zu (zu μ 74 (va_cpy (μ 19) (μ 74) 0 0 6)) 75 (va_cpy ((zu μ 74 (va_cpy (μ 19) (μ 74) 0 0 6)) 20) ((zu μ 74 (va_cpy (μ 19) (μ 74) 0 0 6)) 75) 0 0 6)) 76 (va_cpy ((zu (zu μ 74 (va_cpy (μ 19) (μ 74) 0 0 6)) 75 (va_cpy ((zu μ 74 (va_cpy (μ 19) (μ 74) 0 0 6)) 20) ((zu μ 74 (va_cpy (μ 19) (μ 74) 0 0 6)) 75) 0 0 6)) 21) ((zu (zu μ 74 (va_cpy (μ 19) (μ 74) 0 0 6)) 75 (va_cpy ((zu μ 74 (va_cpy (μ 19) (μ 74) 0 0 6)) 20) ((zu μ 74 (va_cpy (μ 19) (μ 74) 0 0 6)) 75) 0 0 6)) 76) 0 0 6)) 77) 0 0 6)) 78 (va_cpy ((zu (zu (zu (zu μ 74 (va_cpy (μ 19) (μ 74) 0 0 6)) 75 (va_cpy ((zu μ 74 (va_cpy (μ 19) (μ 74) 0 0 6)) 20) ((zu μ 74 (va_cpy (μ 19) (μ 74) 0 0 6)) 75) 0 0 6)) 76 (va_cpy ((zu (zu μ 74 (va_cpy (μ 19) (μ 74) 0 0 6)) 75 (va_cpy ((zu μ 74 (va_cpy (μ 19) (μ 74) 0 0 6)) 20) ((zu μ 74 (va_cpy (μ 19) (μ 74) 0 0 6)) 75) 0 0 6)) 21) ((zu (zu μ 74 (va_cpy (μ 19) (μ 74) 0 0 6)) 75 (va_cpy ((zu μ 74 (va_cpy (μ 19) (μ 74) 0 0 6)) 20) ((zu μ 74 (va_cpy (μ 19) (μ 74) 0 0 6)) 75) 0 0 6)) 76) 0 0 6)) 77 (va_cpy ((zu (zu (zu μ 74 (va_cpy (μ 19) (μ 74) 0 0 6)) 75 (va_cpy ((zu μ 74 (va_cpy (μ 19) (μ 74) 0 0 6)) 20) ((zu μ 74 (va_cpy (μ 19) (μ 74) 0 0 6)) 75) 0 0 6)) 76 (va_cpy ((zu (zu μ 74 (va_cpy (μ 19) (μ 74) 0 0 6)) 75 (va_cpy ((zu μ 74 (va_cpy (μ 19) (μ 74) 0 0 6)) 20) ((zu μ 74 (va_cpy (μ 19) (μ 74) 0 0 6)) 75) 0 0 6)) 21) ((zu (zu μ 74 (va_cpy (μ 19) (μ 74) 0 0 6)) 75 (va_cpy ((zu μ 74 (va_cpy (μ 19) (μ 74) 0 0 6)) 20) ((zu μ 74 (va_cpy (μ 19) (μ 74) 0 0 6)) 75) 0 0 6)) 76) 0 0 6)) 22) ((zu (zu (zu μ 74 (va_cpy (μ 19) (μ 74) 0 0 6)) 75 (va_cpy ((zu μ 74 (va_cpy (μ 19) (μ 74) 0 0 6)) 20) ((zu μ 74 (va_cpy (μ 19) (μ 74) 0 0 6)) 75) 0 0 6)) 76 (va_cpy ((zu (zu μ 74 (va_cpy (μ 19) (μ 74) 0 0 6)) 75 (va_cpy ((zu μ 74 (va_cpy (μ 19) (μ 74) 0 0 6)) 20) ((zu μ 74 (va_cpy (μ 19) (μ 74) 0 0 6)) 75) 0 0 6)) 21) ((zu (zu μ 74 (va_cpy (μ 19) (μ 74) 0 0 6)) 75 (va_cpy ((zu μ 74 (va_cpy (μ 19) (μ 74) 0 0 6)) 20) ((zu μ 74 (va_cpy (μ 19) (μ 74) 0 0 6)) 75) 0 0 6)) 76) 0 0 6)) 77) 0 0 6)) 23) ((zu (zu (zu (zu μ 74 (va_cpy (μ 19) (μ 74) 0 0 6)) 75 (va_cpy ((zu μ 74 (va_cpy (μ 19) (μ 74) 0 0 6)) 20) ((zu μ 74 (va_cpy (μ 19) (μ 74) 0 0 6)) 75) 0 0 6)) 76 (va_cpy ((zu (zu μ 74 (va_cpy (μ 19) (μ 74) 0 0 6)) 75 (va_cpy ((zu μ 74 (va_cpy (μ 19) (μ 74) 0 0 6)) 20) ((zu μ 74 (va_cpy (μ 19) (μ 74) 0 0 6)) 75) 0 0 6)) 21) ((zu (zu μ 74 (va_cpy (μ 19) (μ 74) 0 0 6)) 75 (va_cpy ((zu μ 74 (va_cpy (μ 19) (μ 74) 0 0 6)) 20) ((zu μ 74 (va_cpy (μ 19) (μ 74) 0 0 6)) 75) 0 0 6)) 76) 0 0 6)) 77 (va_cpy ((zu (zu (zu μ 74 (va_cpy (μ 19) (μ 74) 0 0 6)) 75 (va_cpy ((zu μ 74 (va_cpy (μ 19) (μ 74) 0 0 6)) 20) ((zu μ 74 (va_cpy (μ 19) (μ 74) 0 0 6)) 75) 0 0 6)) 76 (va_cpy ((zu (zu μ 74 (va_cpy (μ 19) (μ 74) 0 0 6)) 75 (va_cpy ((zu μ 74 (va_cpy (μ 19) (μ 74) 0 0 6)) 20) ((zu μ 74 (va_cpy (μ 19) (μ 74) 0 0 6)) 75) 0 0 6)) 21) ((zu (zu μ 74 (va_cpy (μ 19) (μ 74) 0 0 6)) 75 (va_cpy ((zu μ 74 (va_cpy (μ 19) (μ 74) 0 0 6)) 20) ((zu μ 74 (va_cpy (μ 19) (μ 74) 0 0 6)) 75) 0 0 6)) 76) 0 0 6)) 22) ((zu (zu (zu μ 74 (va_cpy (μ 19) (μ 74) 0 0 6)) 75 (va_cpy ((zu μ 74 (va_cpy (μ 19) (μ 74) 0 0 6)) 20) ((zu μ 74 (va_cpy (μ 19) (μ 74) 0 0 6)) 75) 0 0 6)) 76 (va_cpy ((zu (zu μ 74 (va_cpy (μ 19) (μ 74) 0 0 6)) 75 (va_cpy ((zu μ 74 (va_cpy (μ 19) (μ 74) 0 0 6)) 20) ((zu μ 74 (va_cpy (μ 19) (μ 74) 0 0 6)) 75) 0 0 6)) 21) ((zu (zu μ 74 (va_cpy (μ 19) (μ 74) 0 0 6)) 75 (va_cpy ((zu μ 74 (va_cpy (μ 19) (μ 74) 0 0 6)) 20) ((zu μ 74 (va_cpy (μ 19) (μ 74) 0 0 6)) 75) 0 0 6)) 76) 0 0 6)) 77) 0 0 6)) 78) 0 0 16)) 73 7 (μ 18 7)) _
  refine zx_putI (nn := 91) fpX8_49 rfl rfl rfl rfl dX8_copyFrom_88 rfl ?_
  refine zx_aload_n (k := 0) (nn := 92) dX8_copyFrom_91 rfl rfl rfl ?_
  refine zx_aload_n (k := 1) (nn := 93) dX8_copyFrom_92 rfl rfl rfl ?_
  refine zx_getI (nn := 96) flX8_52 rfl rfl dX8_copyFrom_93 rfl ?_
  show zX shC σ 1 MX8_copyFrom 96 [(0, zr 73), (1, zr 18)] [zi (μ 18 9), zr 73] (zp (zp (zu (zu (zu (zu (zu μ 74 (va_cpy (μ 19) (μ 74) 0 0 6)) 75 (va_cpy ((zu μ 74 (va_cpy (μ 19) (μ 74) 0 0 6)) 20) ((zu μ 74 (va_cpy (μ 19) (μ 74) 0 0 6)) 75) 0 0 6)) 76 (va_cpy ((zu (zu μ 74 (va_cpy (μ 19) (μ 74) 0 0 6)) 75 (va_cpy ((zu μ 74 (va_cpy (μ 19) (μ 74) 0 0 6)) 20) ((zu μ 74 (va_cpy (μ 19) (μ 74) 0 0 6)) 75) 0 0 6)) 21) ((zu (zu μ 74 (va_cpy (μ 19) (μ 74) 0 0 6)) 75 (va_cpy ((zu μ 74 (va_cpy (μ 19) (μ 74) 0 0 6)) 20) ((zu μ 74 (va_cpy (μ 19) (μ 74) 0 0 6)) 75) 0 0 6)) 76) 0 0 6)) 77 (va_cpy ((zu (zu (zu μ 74 (va_cpy (μ 19) (μ 74) 0 0 6)) 75 (va_cpy ((zu μ 74 (va_cpy (μ 19) (μ 74) 0 0 6)) 20) ((zu μ 74 (va_cpy (μ 19) (μ 74) 0 0 6)) 75) 0 0 6)) 76 (va_cpy ((zu (zu μ 74 (va_cpy (μ 19) (μ 74) 0 0 6)) 75 (va_cpy ((zu μ 74 (va_cpy (μ 19) (μ 74) 0 0 6)) 20) ((zu μ 74 (va_cpy (μ 19) (μ 74) 0 0 6)) 75) 0 0 6)) 21) ((zu (zu μ 74 (va_cpy (μ 19) (μ 74) 0 0 6)) 75 (va_cpy ((zu μ 74 (va_cpy (μ 19) (μ 74) 0 0 6)) 20) ((zu μ 74 (va_cpy (μ 19) (μ 74) 0 0 6)) 75) 0 0 6)) 76) 0 0 6)) 22) ((zu (zu (zu μ 74 (va_cpy (μ 19) (μ 74) 0 0 6)) 75 (va_cpy ((zu μ 74 (va_cpy (μ 19) (μ 74) 0 0 6)) 20) ((zu μ 74 (va_cpy (μ 19) (μ 74) 0 0 6)) 75) 0 0 6)) 76 (va_cpy ((zu (zu μ 74 (va_cpy (μ 19) (μ 74) 0 0 6)) 75 (va_cpy ((zu μ 74 (va_cpy (μ 19) (μ 74) 0 0 6)) 20) ((zu μ 74 (va_cpy (μ 19) (μ 74) 0 0 6)) 75) 0 0 6)) 21) ((zu (zu μ 74 (va_cpy (μ 19) (μ 74) 0 0 6)) 75 (va_cpy ((zu μ 74 (va_cpy (μ 19) (μ 74) 0 0 6)) 20) ((zu μ 74 (va_cpy (μ 19) (μ 74) 0 0 6)) 75) 0 0 6)) 76) 0 0 6)) 77) 0 0 6)) 78 (va_cpy ((zu (zu (zu (zu μ 74 (va_cpy (μ 19) (μ 74) 0 0 6)) 75 (va_cpy ((zu μ 74 (va_cpy (μ 19) (μ 74) 0 0 6)) 20) ((zu μ 74 (va_cpy (μ 19) (μ 74) 0 0 6)) 75) 0 0 6)) 76 (va_cpy ((zu (zu μ 74 (va_cpy (μ 19) (μ 74) 0 0 6)) 75 (va_cpy ((zu μ 74 (va_cpy (μ 19) (μ 74) 0 0 6)) 20) ((zu μ 74 (va_cpy (μ 19) (μ 74) 0 0 6)) 75) 0 0 6)) 21) ((zu (zu μ 74 (va_cpy (μ 19) (μ 74) 0 0 6)) 75 (va_cpy ((zu μ 74 (va_cpy (μ 19) (μ 74) 0 0 6)) 20) ((zu μ 74 (va_cpy (μ 19) (μ 74) 0 0 6)) 75) 0 0 6)) 76) 0 0 6)) 77 (va_cpy ((zu (zu (zu μ 74 (va_cpy (μ 19) (μ 74) 0 0 6)) 75 (va_cpy ((zu μ 74 (va_cpy (μ 19) (μ 74) 0 0 6)) 20) ((zu μ 74 (va_cpy (μ 19) (μ 74) 0 0 6)) 75) 0 0 6)) 76 (va_cpy ((zu (zu μ 74 (va_cpy (μ 19) (μ 74) 0 0 6)) 75 (va_cpy ((zu μ 74 (va_cpy (μ 19) (μ 74) 0 0 6)) 20) ((zu μ 74 (va_cpy (μ 19) (μ 74) 0 0 6)) 75) 0 0 6)) 21) ((zu (zu μ 74 (va_cpy (μ 19) (μ 74) 0 0 6)) 75 (va_cpy ((zu μ 74 (va_cpy (μ 19) (μ 74) 0 0 6)) 20) ((zu μ 74 (va_cpy (μ 19) (μ 74) 0 0 6)) 75) 0 0 6)) 76) 0 0 6)) 22) ((zu (zu (zu μ 74 (va_cpy (μ 19) (μ 74) 0 0 6)) 75 (va_cpy ((zu μ 74 (va_cpy (μ 19) (μ 74) 0 0 6)) 20) ((zu μ 74 (va_cpy (μ 19) (μ 74) 0 0 6)) 75) 0 0 6)) 76 (va_cpy ((zu (zu μ 74 (va_cpy (μ 19) (μ 74) 0 0 6)) 75 (va_cpy ((zu μ 74 (va_cpy (μ 19) (μ 74) 0 0 6)) 20) ((zu μ 74 (va_cpy (μ 19) (μ 74) 0 0 6)) 75) 0 0 6)) 21) ((zu (zu μ 74 (va_cpy (μ 19) (μ 74) 0 0 6)) 75 (va_cpy ((zu μ 74 (va_cpy (μ 19) (μ 74) 0 0 6)) 20) ((zu μ 74 (va_cpy (μ 19) (μ 74) 0 0 6)) 75) 0 0 6)) 76) 0 0 6)) 77) 0 0 6)) 23) ((zu (zu (zu (zu μ 74 (va_cpy (μ 19) (μ 74) 0 0 6)) 75 (va_cpy ((zu μ 74 (va_cpy (μ 19) (μ 74) 0 0 6)) 20) ((zu μ 74 (va_cpy (μ 19) (μ 74) 0 0 6)) 75) 0 0 6)) 76 (va_cpy ((zu (zu μ 74 (va_cpy (μ 19) (μ 74) 0 0 6)) 75 (va_cpy ((zu μ 74 (va_cpy (μ 19) (μ 74) 0 0 6)) 20) ((zu μ 74 (va_cpy (μ 19) (μ 74) 0 0 6)) 75) 0 0 6)) 21) ((zu (zu μ 74 (va_cpy (μ 19) (μ 74) 0 0 6)) 75 (va_cpy ((zu μ 74 (va_cpy (μ 19) (μ 74) 0 0 6)) 20) ((zu μ 74 (va_cpy (μ 19) (μ 74) 0 0 6)) 75) 0 0 6)) 76) 0 0 6)) 77 (va_cpy ((zu (zu (zu μ 74 (va_cpy (μ 19) (μ 74) 0 0 6)) 75 (va_cpy ((zu μ 74 (va_cpy (μ 19) (μ 74) 0 0 6)) 20) ((zu μ 74 (va_cpy (μ 19) (μ 74) 0 0 6)) 75) 0 0 6)) 76 (va_cpy ((zu (zu μ 74 (va_cpy (μ 19) (μ 74) 0 0 6)) 75 (va_cpy ((zu μ 74 (va_cpy (μ 19) (μ 74) 0 0 6)) 20) ((zu μ 74 (va_cpy (μ 19) (μ 74) 0 0 6)) 75) 0 0 6)) 21) ((zu (zu μ 74 (va_cpy (μ 19) (μ 74) 0 0 6)) 75 (va_cpy ((zu μ 74 (va_cpy (μ 19) (μ 74) 0 0 6)) 20) ((zu μ 74 (va_cpy (μ 19) (μ 74) 0 0 6)) 75) 0 0 6)) 76) 0 0 6)) 22) ((zu (zu (zu μ 74 (va_cpy (μ 19) (μ 74) 0 0 6)) 75 (va_cpy ((zu μ 74 (va_cpy (μ 19) (μ 74) 0 0 6)) 20) ((zu μ 74 (va_cpy (μ 19) (μ 74) 0 0 6)) 75) 0 0 6)) 76 (va_cpy ((zu (zu μ 74 (va_cpy (μ 19) (μ 74) 0 0 6)) 75 (va_cpy ((zu μ 74 (va_cpy (μ 19) (μ 74) 0 0 6)) 20) ((zu μ 74 (va_cpy (μ 19) (μ 74) 0 0 6)) 75) 0 0 6)) 21) ((zu (zu μ 74 (va_cpy (μ 19) (μ 74) 0 0 6)) 75 (va_cpy ((zu μ 74 (va_cpy (μ 19) (μ 74) 0 0 6)) 20) ((zu μ 74 (va_cpy (μ 19) (μ 74) 0 0 6)) 75) 0 0 6)) 76) 0 0 6)) 77) 0 0 6)) 78) 0 0 16)) 73 7 (μ 18 7)) 73 8 (μ 18 8)) _
  refine zx_putI (nn := 99) fpX8_52 rfl rfl rfl rfl dX8_copyFrom_96 rfl ?_
  refine zx_aload_n (k := 0) (nn := 100) dX8_copyFrom_99 rfl rfl rfl ?_
  refine zx_aload_n (k := 1) (nn := 101) dX8_copyFrom_100 rfl rfl rfl ?_
  refine zx_getI (nn := 104) flX8_55 rfl rfl dX8_copyFrom_101 rfl ?_
  show zX shC σ 1 MX8_copyFrom 104 [(0, zr 73), (1, zr 18)] [zi (μ 18 10), zr 73] (zp (zp (zp (zu (zu (zu (zu (zu μ 74 (va_cpy (μ 19) (μ 74) 0 0 6)) 75 (va_cpy ((zu μ 74 (va_cpy (μ 19) (μ 74) 0 0 6)) 20) ((zu μ 74 (va_cpy (μ 19) (μ 74) 0 0 6)) 75) 0 0 6)) 76 (va_cpy ((zu (zu μ 74 (va_cpy (μ 19) (μ 74) 0 0 6)) 75 (va_cpy ((zu μ 74 (va_cpy (μ 19) (μ 74) 0 0 6)) 20) ((zu μ 74 (va_cpy (μ 19) (μ 74) 0 0 6)) 75) 0 0 6)) 21) ((zu (zu μ 74 (va_cpy (μ 19) (μ 74) 0 0 6)) 75 (va_cpy ((zu μ 74 (va_cpy (μ 19) (μ 74) 0 0 6)) 20) ((zu μ 74 (va_cpy (μ 19) (μ 74) 0 0 6)) 75) 0 0 6)) 76) 0 0 6)) 77 (va_cpy ((zu (zu (zu μ 74 (va_cpy (μ 19) (μ 74) 0 0 6)) 75 (va_cpy ((zu μ 74 (va_cpy (μ 19) (μ 74) 0 0 6)) 20) ((zu μ 74 (va_cpy (μ 19) (μ 74) 0 0 6)) 75) 0 0 6)) 76 (va_cpy ((zu (zu μ 74 (va_cpy (μ 19) (μ 74) 0 0 6)) 75 (va_cpy ((zu μ 74 (va_cpy (μ 19) (μ 74) 0 0 6)) 20) ((zu μ 74 (va_cpy (μ 19) (μ 74) 0 0 6)) 75) 0 0 6)) 21) ((zu (zu μ 74 (va_cpy (μ 19) (μ 74) 0 0 6)) 75 (va_cpy ((zu μ 74 (va_cpy (μ 19) (μ 74) 0 0 6)) 20) ((zu μ 74 (va_cpy (μ 19) (μ 74) 0 0 6)) 75) 0 0 6)) 76) 0 0 6)) 22) ((zu (zu (zu μ 74 (va_cpy (μ 19) (μ 74) 0 0 6)) 75 (va_cpy ((zu μ 74 (va_cpy (μ 19) (μ 74) 0 0 6)) 20) ((zu μ 74 (va_cpy (μ 19) (μ 74) 0 0 6)) 75) 0 0 6)) 76 (va_cpy ((zu (zu μ 74 (va_cpy (μ 19) (μ 74) 0 0 6)) 75 (va_cpy ((zu μ 74 (va_cpy (μ 19) (μ 74) 0 0 6)) 20) ((zu μ 74 (va_cpy (μ 19) (μ 74) 0 0 6)) 75) 0 0 6)) 21) ((zu (zu μ 74 (va_cpy (μ 19) (μ 74) 0 0 6)) 75 (va_cpy ((zu μ 74 (va_cpy (μ 19) (μ 74) 0 0 6)) 20) ((zu μ 74 (va_cpy (μ 19) (μ 74) 0 0 6)) 75) 0 0 6)) 76) 0 0 6)) 77) 0 0 6)) 78 (va_cpy ((zu (zu (zu (zu μ 74 (va_cpy (μ 19) (μ 74) 0 0 6)) 75 (va_cpy ((zu μ 74 (va_cpy (μ 19) (μ 74) 0 0 6)) 20) ((zu μ 74 (va_cpy (μ 19) (μ 74) 0 0 6)) 75) 0 0 6)) 76 (va_cpy ((zu (zu μ 74 (va_cpy (μ 19) (μ 74) 0 0 6)) 75 (va_cpy ((zu μ 74 (va_cpy (μ 19) (μ 74) 0 0 6)) 20) ((zu μ 74 (va_cpy (μ 19) (μ 74) 0 0 6)) 75) 0 0 6)) 21) ((zu (zu μ 74 (va_cpy (μ 19) (μ 74) 0 0 6)) 75 (va_cpy ((zu μ 74 (va_cpy (μ 19) (μ 74) 0 0 6)) 20) ((zu μ 74 (va_cpy (μ 19) (μ 74) 0 0 6)) 75) 0 0 6)) 76) 0 0 6)) 77 (va_cpy ((zu (zu (zu μ 74 (va_cpy (μ 19) (μ 74) 0 0 6)) 75 (va_cpy ((zu μ 74 (va_cpy (μ 19) (μ 74) 0 0 6)) 20) ((zu μ 74 (va_cpy (μ 19) (μ 74) 0 0 6)) 75) 0 0 6)) 76 (va_cpy ((zu (zu μ 74 (va_cpy (μ 19) (μ 74) 0 0 6)) 75 (va_cpy ((zu μ 74 (va_cpy (μ 19) (μ 74) 0 0 6)) 20) ((zu μ 74 (va_cpy (μ 19) (μ 74) 0 0 6)) 75) 0 0 6)) 21) ((zu (zu μ 74 (va_cpy (μ 19) (μ 74) 0 0 6)) 75 (va_cpy ((zu μ 74 (va_cpy (μ 19) (μ 74) 0 0 6)) 20) ((zu μ 74 (va_cpy (μ 19) (μ 74) 0 0 6)) 75) 0 0 6)) 76) 0 0 6)) 22) ((zu (zu (zu μ 74 (va_cpy (μ 19) (μ 74) 0 0 6)) 75 (va_cpy ((zu μ 74 (va_cpy (μ 19) (μ 74) 0 0 6)) 20) ((zu μ 74 (va_cpy (μ 19) (μ 74) 0 0 6)) 75) 0 0 6)) 76 (va_cpy ((zu (zu μ 74 (va_cpy (μ 19) (μ 74) 0 0 6)) 75 (va_cpy ((zu μ 74 (va_cpy (μ 19) (μ 74) 0 0 6)) 20) ((zu μ 74 (va_cpy (μ 19) (μ 74) 0 0 6)) 75) 0 0 6)) 21) ((zu (zu μ 74 (va_cpy (μ 19) (μ 74) 0 0 6)) 75 (va_cpy ((zu μ 74 (va_cpy (μ 19) (μ 74) 0 0 6)) 20) ((zu μ 74 (va_cpy (μ 19) (μ 74) 0 0 6)) 75) 0 0 6)) 76) 0 0 6)) 77) 0 0 6)) 23) ((zu (zu (zu (zu μ 74 (va_cpy (μ 19) (μ 74) 0 0 6)) 75 (va_cpy ((zu μ 74 (va_cpy (μ 19) (μ 74) 0 0 6)) 20) ((zu μ 74 (va_cpy (μ 19) (μ 74) 0 0 6)) 75) 0 0 6)) 76 (va_cpy ((zu (zu μ 74 (va_cpy (μ 19) (μ 74) 0 0 6)) 75 (va_cpy ((zu μ 74 (va_cpy (μ 19) (μ 74) 0 0 6)) 20) ((zu μ 74 (va_cpy (μ 19) (μ 74) 0 0 6)) 75) 0 0 6)) 21) ((zu (zu μ 74 (va_cpy (μ 19) (μ 74) 0 0 6)) 75 (va_cpy ((zu μ 74 (va_cpy (μ 19) (μ 74) 0 0 6)) 20) ((zu μ 74 (va_cpy (μ 19) (μ 74) 0 0 6)) 75) 0 0 6)) 76) 0 0 6)) 77 (va_cpy ((zu (zu (zu μ 74 (va_cpy (μ 19) (μ 74) 0 0 6)) 75 (va_cpy ((zu μ 74 (va_cpy (μ 19) (μ 74) 0 0 6)) 20) ((zu μ 74 (va_cpy (μ 19) (μ 74) 0 0 6)) 75) 0 0 6)) 76 (va_cpy ((zu (zu μ 74 (va_cpy (μ 19) (μ 74) 0 0 6)) 75 (va_cpy ((zu μ 74 (va_cpy (μ 19) (μ 74) 0 0 6)) 20) ((zu μ 74 (va_cpy (μ 19) (μ 74) 0 0 6)) 75) 0 0 6)) 21) ((zu (zu μ 74 (va_cpy (μ 19) (μ 74) 0 0 6)) 75 (va_cpy ((zu μ 74 (va_cpy (μ 19) (μ 74) 0 0 6)) 20) ((zu μ 74 (va_cpy (μ 19) (μ 74) 0 0 6)) 75) 0 0 6)) 76) 0 0 6)) 22) ((zu (zu (zu μ 74 (va_cpy (μ 19) (μ 74) 0 0 6)) 75 (va_cpy ((zu μ 74 (va_cpy (μ 19) (μ 74) 0 0 6)) 20) ((zu μ 74 (va_cpy (μ 19) (μ 74) 0 0 6)) 75) 0 0 6)) 76 (va_cpy ((zu (zu μ 74 (va_cpy (μ 19) (μ 74) 0 0 6)) 75 (va_cpy ((zu μ 74 (va_cpy (μ 19) (μ 74) 0 0 6)) 20) ((zu μ 74 (va_cpy (μ 19) (μ 74) 0 0 6)) 75) 0 0 6)) 21) ((zu (zu μ 74 (va_cpy (μ 19) (μ 74) 0 0 6)) 75 (va_cpy ((zu μ 74 (va_cpy (μ 19) (μ 74) 0 0 6)) 20) ((zu μ 74 (va_cpy (μ 19) (μ 74) 0 0 6)) 75) 0 0 6)) 76) 0 0 6)) 77) 0 0 6)) 78) 0 0 16)) 73 7 (μ 18 7)) 73 8 (μ 18 8)) 73 9 (μ 18 9)) _
  refine zx_putI (nn := 107) fpX8_55 rfl rfl rfl rfl dX8_copyFrom_104 rfl ?_
  refine zx_aload_n (k := 0) (nn := 108) dX8_copyFrom_107 rfl rfl rfl ?_
  refine zx_aload_n (k := 1) (nn := 109) dX8_copyFrom_108 rfl rfl rfl ?_
  refine zx_getI (nn := 112) flX8_32 rfl rfl dX8_copyFrom_109 rfl ?_
  show zX shC σ 1 MX8_copyFrom 112 [(0, zr 73), (1, zr 18)] [zi (μ 18 11), zr 73] (zp (zp (zp (zp (zu (zu (zu (zu (zu μ 74 (va_cpy (μ 19) (μ 74) 0 0 6)) 75 (va_cpy ((zu μ 74 (va_cpy (μ 19) (μ 74) 0 0 6)) 20) ((zu μ 74 (va_cpy (μ 19) (μ 74) 0 0 6)) 75) 0 0 6)) 76 (va_cpy ((zu (zu μ 74 (va_cpy (μ 19) (μ 74) 0 0 6)) 75 (va_cpy ((zu μ 74 (va_cpy (μ 19) (μ 74) 0 0 6)) 20) ((zu μ 74 (va_cpy (μ 19) (μ 74) 0 0 6)) 75) 0 0 6)) 21) ((zu (zu μ 74 (va_cpy (μ 19) (μ 74) 0 0 6)) 75 (va_cpy ((zu μ 74 (va_cpy (μ 19) (μ 74) 0 0 6)) 20) ((zu μ 74 (va_cpy (μ 19) (μ 74) 0 0 6)) 75) 0 0 6)) 76) 0 0 6)) 77 (va_cpy ((zu (zu (zu μ 74 (va_cpy (μ 19) (μ 74) 0 0 6)) 75 (va_cpy ((zu μ 74 (va_cpy (μ 19) (μ 74) 0 0 6)) 20) ((zu μ 74 (va_cpy (μ 19) (μ 74) 0 0 6)) 75) 0 0 6)) 76 (va_cpy ((zu (zu μ 74 (va_cpy (μ 19) (μ 74) 0 0 6)) 75 (va_cpy ((zu μ 74 (va_cpy (μ 19) (μ 74) 0 0 6)) 20) ((zu μ 74 (va_cpy (μ 19) (μ 74) 0 0 6)) 75) 0 0 6)) 21) ((zu (zu μ 74 (va_cpy (μ 19) (μ 74) 0 0 6)) 75 (va_cpy ((zu μ 74 (va_cpy (μ 19) (μ 74) 0 0 6)) 20) ((zu μ 74 (va_cpy (μ 19) (μ 74) 0 0 6)) 75) 0 0 6)) 76) 0 0 6)) 22) ((zu (zu (zu μ 74 (va_cpy (μ 19) (μ 74) 0 0 6)) 75 (va_cpy ((zu μ 74 (va_cpy (μ 19) (μ 74) 0 0 6)) 20) ((zu μ 74 (va_cpy (μ 19) (μ 74) 0 0 6)) 75) 0 0 6)) 76 (va_cpy ((zu (zu μ 74 (va_cpy (μ 19) (μ 74) 0 0 6)) 75 (va_cpy ((zu μ 74 (va_cpy (μ 19) (μ 74) 0 0 6)) 20) ((zu μ 74 (va_cpy (μ 19) (μ 74) 0 0 6)) 75) 0 0 6)) 21) ((zu (zu μ 74 (va_cpy (μ 19) (μ 74) 0 0 6)) 75 (va_cpy ((zu μ 74 (va_cpy (μ 19) (μ 74) 0 0 6)) 20) ((zu μ 74 (va_cpy (μ 19) (μ 74) 0 0 6)) 75) 0 0 6)) 76) 0 0 6)) 77) 0 0 6)) 78 (va_cpy ((zu (zu (zu (zu μ 74 (va_cpy (μ 19) (μ 74) 0 0 6)) 75 (va_cpy ((zu μ 74 (va_cpy (μ 19) (μ 74) 0 0 6)) 20) ((zu μ 74 (va_cpy (μ 19) (μ 74) 0 0 6)) 75) 0 0 6)) 76 (va_cpy ((zu (zu μ 74 (va_cpy (μ 19) (μ 74) 0 0 6)) 75 (va_cpy ((zu μ 74 (va_cpy (μ 19) (μ 74) 0 0 6)) 20) ((zu μ 74 (va_cpy (μ 19) (μ 74) 0 0 6)) 75) 0 0 6)) 21) ((zu (zu μ 74 (va_cpy (μ 19) (μ 74) 0 0 6)) 75 (va_cpy ((zu μ 74 (va_cpy (μ 19) (μ 74) 0 0 6)) 20) ((zu μ 74 (va_cpy (μ 19) (μ 74) 0 0 6)) 75) 0 0 6)) 76) 0 0 6)) 77 (va_cpy ((zu (zu (zu μ 74 (va_cpy (μ 19) (μ 74) 0 0 6)) 75 (va_cpy ((zu μ 74 (va_cpy (μ 19) (μ 74) 0 0 6)) 20) ((zu μ 74 (va_cpy (μ 19) (μ 74) 0 0 6)) 75) 0 0 6)) 76 (va_cpy ((zu (zu μ 74 (va_cpy (μ 19) (μ 74) 0 0 6)) 75 (va_cpy ((zu μ 74 (va_cpy (μ 19) (μ 74) 0 0 6)) 20) ((zu μ 74 (va_cpy (μ 19) (μ 74) 0 0 6)) 75) 0 0 6)) 21) ((zu (zu μ 74 (va_cpy (μ 19) (μ 74) 0 0 6)) 75 (va_cpy ((zu μ 74 (va_cpy (μ 19) (μ 74) 0 0 6)) 20) ((zu μ 74 (va_cpy (μ 19) (μ 74) 0 0 6)) 75) 0 0 6)) 76) 0 0 6)) 22) ((zu (zu (zu μ 74 (va_cpy (μ 19) (μ 74) 0 0 6)) 75 (va_cpy ((zu μ 74 (va_cpy (μ 19) (μ 74) 0 0 6)) 20) ((zu μ 74 (va_cpy (μ 19) (μ 74) 0 0 6)) 75) 0 0 6)) 76 (va_cpy ((zu (zu μ 74 (va_cpy (μ 19) (μ 74) 0 0 6)) 75 (va_cpy ((zu μ 74 (va_cpy (μ 19) (μ 74) 0 0 6)) 20) ((zu μ 74 (va_cpy (μ 19) (μ 74) 0 0 6)) 75) 0 0 6)) 21) ((zu (zu μ 74 (va_cpy (μ 19) (μ 74) 0 0 6)) 75 (va_cpy ((zu μ 74 (va_cpy (μ 19) (μ 74) 0 0 6)) 20) ((zu μ 74 (va_cpy (μ 19) (μ 74) 0 0 6)) 75) 0 0 6)) 76) 0 0 6)) 77) 0 0 6)) 23) ((zu (zu (zu (zu μ 74 (va_cpy (μ 19) (μ 74) 0 0 6)) 75 (va_cpy ((zu μ 74 (va_cpy (μ 19) (μ 74) 0 0 6)) 20) ((zu μ 74 (va_cpy (μ 19) (μ 74) 0 0 6)) 75) 0 0 6)) 76 (va_cpy ((zu (zu μ 74 (va_cpy (μ 19) (μ 74) 0 0 6)) 75 (va_cpy ((zu μ 74 (va_cpy (μ 19) (μ 74) 0 0 6)) 20) ((zu μ 74 (va_cpy (μ 19) (μ 74) 0 0 6)) 75) 0 0 6)) 21) ((zu (zu μ 74 (va_cpy (μ 19) (μ 74) 0 0 6)) 75 (va_cpy ((zu μ 74 (va_cpy (μ 19) (μ 74) 0 0 6)) 20) ((zu μ 74 (va_cpy (μ 19) (μ 74) 0 0 6)) 75) 0 0 6)) 76) 0 0 6)) 77 (va_cpy ((zu (zu (zu μ 74 (va_cpy (μ 19) (μ 74) 0 0 6)) 75 (va_cpy ((zu μ 74 (va_cpy (μ 19) (μ 74) 0 0 6)) 20) ((zu μ 74 (va_cpy (μ 19) (μ 74) 0 0 6)) 75) 0 0 6)) 76 (va_cpy ((zu (zu μ 74 (va_cpy (μ 19) (μ 74) 0 0 6)) 75 (va_cpy ((zu μ 74 (va_cpy (μ 19) (μ 74) 0 0 6)) 20) ((zu μ 74 (va_cpy (μ 19) (μ 74) 0 0 6)) 75) 0 0 6)) 21) ((zu (zu μ 74 (va_cpy (μ 19) (μ 74) 0 0 6)) 75 (va_cpy ((zu μ 74 (va_cpy (μ 19) (μ 74) 0 0 6)) 20) ((zu μ 74 (va_cpy (μ 19) (μ 74) 0 0 6)) 75) 0 0 6)) 76) 0 0 6)) 22) ((zu (zu (zu μ 74 (va_cpy (μ 19) (μ 74) 0 0 6)) 75 (va_cpy ((zu μ 74 (va_cpy (μ 19) (μ 74) 0 0 6)) 20) ((zu μ 74 (va_cpy (μ 19) (μ 74) 0 0 6)) 75) 0 0 6)) 76 (va_cpy ((zu (zu μ 74 (va_cpy (μ 19) (μ 74) 0 0 6)) 75 (va_cpy ((zu μ 74 (va_cpy (μ 19) (μ 74) 0 0 6)) 20) ((zu μ 74 (va_cpy (μ 19) (μ 74) 0 0 6)) 75) 0 0 6)) 21) ((zu (zu μ 74 (va_cpy (μ 19) (μ 74) 0 0 6)) 75 (va_cpy ((zu μ 74 (va_cpy (μ 19) (μ 74) 0 0 6)) 20) ((zu μ 74 (va_cpy (μ 19) (μ 74) 0 0 6)) 75) 0 0 6)) 76) 0 0 6)) 77) 0 0 6)) 78) 0 0 16)) 73 7 (μ 18 7)) 73 8 (μ 18 8)) 73 9 (μ 18 9)) 73 10 (μ 18 10)) _
  refine zx_putI (nn := 115) fpX8_32 rfl rfl rfl rfl dX8_copyFrom_112 rfl ?_
  refine zx_vret rfl dX8_copyFrom_115 ?_
  refine ⟨rfl, cS_copy ?_ ?_ ?_ ?_ ?_ ?_ ?_, ?_⟩
  · simp [zp, zu, upd]
  · simp [zp, zu, upd]
  · simp [zp, zu, upd]
  · simp [zp, zu, upd]
  · simp [zp, zu, upd]
  · intro w h1 h2 j hj
    rcases (show w = 1 ∨ w = 2 ∨ w = 3 ∨ w = 4 by omega) with rfl | rfl | rfl | rfl <;> simp [zp, zu, upd, va_cpy, hj]
  · intro j hj
    simp [zp, zu, upd, va_cpy, hj]
  · exact ((((((((((zJ.rf.u (by decide)).u (by decide)).u (by decide)).u (by decide)).u (by decide)).p (by decide)).p (by decide)).p (by decide)).p (by decide)).p (by decide))
set_option maxHeartbeats 4000000 in
set_option maxRecDepth 100000 in
theorem eX8_copyFrom_18_73 (σ : zG) (μ : zM) : zMet shC σ 1 MX8_copyFrom yX8_copyFrom [zr 18, zr 73] μ (fun rr μ' => rr = none ∧ cS 18 μ' = cS 73 μ ∧ zJ [18, 19, 20, 21, 22, 23] μ μ') := by
  refine zmetF (by decide +kernel) rfl (Nat.le_of_ble_eq_true rfl) ?_
  show zX shC σ 1 MX8_copyFrom 0 [(0, zr 18), (1, zr 73)] [] μ _
  refine zx_aload_n (k := 1) (nn := 1) dX8_copyFrom_0 rfl rfl rfl ?_
  refine zx_getR (q := 74) (nn := 4) flX8_9 rfl rfl dX8_copyFrom_1 rfl ?_
  refine zx_iconst (v := 0) (nn := 5) rfl dX8_copyFrom_4 rfl ?_
  refine zx_aload_n (k := 0) (nn := 6) dX8_copyFrom_5 rfl rfl rfl ?_
  refine zx_getR (q := 19) (nn := 9) flX8_9 rfl rfl dX8_copyFrom_6 rfl ?_
  refine zx_iconst (v := 0) (nn := 10) rfl dX8_copyFrom_9 rfl ?_
  refine zx_bipush (v := 6) (nn := 12) rfl dX8_copyFrom_10 rfl ?_
  refine zx_copy (nn := 15) cplX8 rfl rfl (by decide) (by decide) (by decide) (by decide) (Nat.le_of_ble_eq_true rfl) dX8_copyFrom_12 rfl ?_
  show zX shC σ 1 MX8_copyFrom 15 [(0, zr 18), (1, zr 73)] [] (zu μ 19 (va_cpy (μ 74) (μ 19) 0 0 6)) _
  refine zx_aload_n (k := 1) (nn := 16) dX8_copyFrom_15 rfl rfl rfl ?_
  refine zx_getR (q := 75) (nn := 19) flX8_15 rfl rfl dX8_copyFrom_16 rfl ?_
  refine zx_iconst (v := 0) (nn := 20) rfl dX8_copyFrom_19 rfl ?_
  refine zx_aload_n (k := 0) (nn := 21) dX8_copyFrom_20 rfl rfl rfl ?_
  refine zx_getR (q := 20) (nn := 24) flX8_15 rfl rfl dX8_copyFrom_21 rfl ?_
  refine zx_iconst (v := 0) (nn := 25) rfl dX8_copyFrom_24 rfl ?_
  refine zx_bipush (v := 6) (nn := 27) rfl dX8_copyFrom_25 rfl ?_
  refine zx_copy (nn := 30) cplX8 rfl rfl (by decide) (by decide) (by decide) (by decide) (Nat.le_of_ble_eq_true rfl) dX8_copyFrom_27 rfl ?_
  show zX shC σ 1 MX8_copyFrom 30 [(0, zr 18), (1, zr 73)] [] (zu (zu μ 19 (va_cpy (μ 74) (μ 19) 0 0 6)) 20 (va_cpy ((zu μ 19 (va_cpy (μ 74) (μ 19) 0 0 6)) 75) ((zu μ 19 (va_cpy (μ 74) (μ 19) 0 0 6)) 20) 0 0 6)) _
  refine zx_aload_n (k := 1) (nn := 31) dX8_copyFrom_30 rfl rfl rfl ?_
  refine zx_getR (q := 76) (nn := 34) flX8_18 rfl rfl dX8_copyFrom_31 rfl ?_
  refine zx_iconst (v := 0) (nn := 35) rfl dX8_copyFrom_34 rfl ?_
  refine zx_aload_n (k := 0) (nn := 36) dX8_copyFrom_35 rfl rfl rfl ?_
  refine zx_getR (q := 21) (nn := 39) flX8_18 rfl rfl dX8_copyFrom_36 rfl ?_
  refine zx_iconst (v := 0) (nn := 40) rfl dX8_copyFrom_39 rfl ?_
  refine zx_bipush (v := 6) (nn := 42) rfl dX8_copyFrom_40 rfl ?_
  refine zx_copy (nn := 45) cplX8 rfl rfl (by decide) (by decide) (by decide) (by decide) (Nat.le_of_ble_eq_true rfl) dX8_copyFrom_42 rfl ?_
  show zX shC σ 1 MX8_copyFrom 45 [(0, zr 18), (1, zr 73)] [] (zu (zu (zu μ 19 (va_cpy (μ 74) (μ 19) 0 0 6)) 20 (va_cpy ((zu μ 19 (va_cpy (μ 74) (μ 19) 0 0 6)) 75) ((zu μ 19 (va_cpy (μ 74) (μ 19) 0 0 6)) 20) 0 0 6)) 21 (va_cpy ((zu (zu μ 19 (va_cpy (μ 74) (μ 19) 0 0 6)) 20 (va_cpy ((zu μ 19 (va_cpy (μ 74) (μ 19) 0 0 6)) 75) ((zu μ 19 (va_cpy (μ 74) (μ 19) 0 0 6)) 20) 0 0 6)) 76) ((zu (zu μ 19 (va_cpy (μ 74) (μ 19) 0 0 6)) 20 (va_cpy ((zu μ 19 (va_cpy (μ 74) (μ 19) 0 0 6)) 75) ((zu μ 19 (va_cpy (μ 74) (μ 19) 0 0 6)) 20) 0 0 6)) 21) 0 0 6)) _
  refine zx_aload_n (k := 1) (nn := 46) dX8_copyFrom_45 rfl rfl rfl ?_
  refine zx_getR (q := 77) (nn := 49) flX8_21 rfl rfl dX8_copyFrom_46 rfl ?_
  refine zx_iconst (v := 0) (nn := 50) rfl dX8_copyFrom_49 rfl ?_
  refine zx_aload_n (k := 0) (nn := 51) dX8_copyFrom_50 rfl rfl rfl ?_
  refine zx_getR (q := 22) (nn := 54) flX8_21 rfl rfl dX8_copyFrom_51 rfl ?_
  refine zx_iconst (v := 0) (nn := 55) rfl dX8_copyFrom_54 rfl ?_
  refine zx_bipush (v := 6) (nn := 57) rfl dX8_copyFrom_55 rfl ?_
  refine zx_copy (nn := 60) cplX8 rfl rfl (by decide) (by decide) (by decide) (by decide) (Nat.le_of_ble_eq_true rfl) dX8_copyFrom_57 rfl ?_
  show zX shC σ 1 MX8_copyFrom 60 [(0, zr 18), (1, zr 73)] [] (zu (zu (zu (zu μ 19 (va_cpy (μ 74) (μ 19) 0 0 6)) 20 (va_cpy ((zu μ 19 (va_cpy (μ 74) (μ 19) 0 0 6)) 75) ((zu μ 19 (va_cpy (μ 74) (μ 19) 0 0 6)) 20) 0 0 6)) 21 (va_cpy ((zu (zu μ 19 (va_cpy (μ 74) (μ 19) 0 0 6)) 20 (va_cpy ((zu μ 19 (va_cpy (μ 74) (μ 19) 0 0 6)) 75) ((zu μ 19 (va_cpy (μ 74) (μ 19) 0 0 6)) 20) 0 0 6)) 76) ((zu (zu μ 19 (va_cpy (μ 74) (μ 19) 0 0 6)) 20 (va_cpy ((zu μ 19 (va_cpy (μ 74) (μ 19) 0 0 6)) 75) ((zu μ 19 (va_cpy (μ 74) (μ 19) 0 0 6)) 20) 0 0 6)) 21) 0 0 6)) 22 (va_cpy ((zu (zu (zu μ 19 (va_cpy (μ 74) (μ 19) 0 0 6)) 20 (va_cpy ((zu μ 19 (va_cpy (μ 74) (μ 19) 0 0 6)) 75) ((zu μ 19 (va_cpy (μ 74) (μ 19) 0 0 6)) 20) 0 0 6)) 21 (va_cpy ((zu (zu μ 19 (va_cpy (μ 74) (μ 19) 0 0 6)) 20 (va_cpy ((zu μ 19 (va_cpy (μ 74) (μ 19) 0 0 6)) 75) ((zu μ 19 (va_cpy (μ 74) (μ 19) 0 0 6)) 20) 0 0 6)) 76) ((zu (zu μ 19 (va_cpy (μ 74) (μ 19) 0 0 6)) 20 (va_cpy ((zu μ 19 (va_cpy (μ 74) (μ 19) 0 0 6)) 75) ((zu μ 19 (va_cpy (μ 74) (μ 19) 0 0 6)) 20) 0 0 6)) 21) 0 0 6)) 77) ((zu (zu (zu μ 19 (va_cpy (μ 74) (μ 19) 0 0 6)) 20 (va_cpy ((zu μ 19 (va_cpy (μ 74) (μ 19) 0 0 6)) 75) ((zu μ 19 (va_cpy (μ 74) (μ 19) 0 0 6)) 20) 0 0 6)) 21 (va_cpy ((zu (zu μ 19 (va_cpy (μ 74) (μ 19) 0 0 6)) 20 (va_cpy ((zu μ 19 (va_cpy (μ 74) (μ 19) 0 0 6)) 75) ((zu μ 19 (va_cpy (μ 74) (μ 19) 0 0 6)) 20) 0 0 6)) 76) ((zu (zu μ 19 (va_cpy (μ 74) (μ 19) 0 0 6)) 20 (va_cpy ((zu μ 19 (va_cpy (μ 74) (μ 19) 0 0 6)) 75) ((zu μ 19 (va_cpy (μ 74) (μ 19) 0 0 6)) 20) 0 0 6)) 21) 0 0 6)) 22) 0 0 6)) _
  refine zx_aload_n (k := 1) (nn := 61) dX8_copyFrom_60 rfl rfl rfl ?_
  refine zx_getR (q := 78) (nn := 64) flX8_24 rfl rfl dX8_copyFrom_61 rfl ?_
  refine zx_iconst (v := 0) (nn := 65) rfl dX8_copyFrom_64 rfl ?_
  refine zx_aload_n (k := 0) (nn := 66) dX8_copyFrom_65 rfl rfl rfl ?_
  refine zx_getR (q := 23) (nn := 69) flX8_24 rfl rfl dX8_copyFrom_66 rfl ?_
  refine zx_iconst (v := 0) (nn := 70) rfl dX8_copyFrom_69 rfl ?_
  refine zx_bipush (v := 16) (nn := 72) rfl dX8_copyFrom_70 rfl ?_
  refine zx_copy (nn := 75) cplX8 rfl rfl (by decide) (by decide) (by decide) (by decide) (Nat.le_of_ble_eq_true rfl) dX8_copyFrom_72 rfl ?_
  show zX shC σ 1 MX8_copyFrom 75 [(0, zr 18), (1, zr 73)] [] (zu (zu (zu (zu (zu μ 19 (va_cpy (μ 74) (μ 19) 0 0 6)) 20 (va_cpy ((zu μ 19 (va_cpy (μ 74) (μ 19) 0 0 6)) 75) ((zu μ 19 (va_cpy (μ 74) (μ 19) 0 0 6)) 20) 0 0 6)) 21 (va_cpy ((zu (zu μ 19 (va_cpy (μ 74) (μ 19) 0 0 6)) 20 (va_cpy ((zu μ 19 (va_cpy (μ 74) (μ 19) 0 0 6)) 75) ((zu μ 19 (va_cpy (μ 74) (μ 19) 0 0 6)) 20) 0 0 6)) 76) ((zu (zu μ 19 (va_cpy (μ 74) (μ 19) 0 0 6)) 20 (va_cpy ((zu μ 19 (va_cpy (μ 74) (μ 19) 0 0 6)) 75) ((zu μ 19 (va_cpy (μ 74) (μ 19) 0 0 6)) 20) 0 0 6)) 21) 0 0 6)) 22 (va_cpy ((zu (zu (zu μ 19 (va_cpy (μ 74) (μ 19) 0 0 6)) 20 (va_cpy ((zu μ 19 (va_cpy (μ 74) (μ 19) 0 0 6)) 75) ((zu μ 19 (va_cpy (μ 74) (μ 19) 0 0 6)) 20) 0 0 6)) 21 (va_cpy ((zu (zu μ 19 (va_cpy (μ 74) (μ 19) 0 0 6)) 20 (va_cpy ((zu μ 19 (va_cpy (μ 74) (μ 19) 0 0 6)) 75) ((zu μ 19 (va_cpy (μ 74) (μ 19) 0 0 6)) 20) 0 0 6)) 76) ((zu (zu μ 19 (va_cpy (μ 74) (μ 19) 0 0 6)) 20 (va_cpy ((zu μ 19 (va_cpy (μ 74) (μ 19) 0 0 6)) 75) ((zu μ 19 (va_cpy (μ 74) (μ 19) 0 0 6)) 20) 0 0 6)) 21) 0 0 6)) 77) ((zu (zu (zu μ 19 (va_cpy (μ 74) (μ 19) 0 0 6)) 20 (va_cpy ((zu μ 19 (va_cpy (μ 74) (μ 19) 0 0 6)) 75) ((zu μ 19 (va_cpy (μ 74) (μ 19) 0 0 6)) 20) 0 0 6)) 21 (va_cpy ((zu (zu μ 19 (va_cpy (μ 74) (μ 19) 0 0 6)) 20 (va_cpy ((zu μ 19 (va_cpy (μ 74) (μ 19) 0 0 6)) 75) ((zu μ 19 (va_cpy (μ 74) (μ 19) 0 0 6)) 20) 0 0 6)) 76) ((zu (zu μ 19 (va_cpy (μ 74) (μ 19) 0 0 6)) 20 (va_cpy ((zu μ 19 (va_cpy (μ 74) (μ 19) 0 0 6)) 75) ((zu μ 19 (va_cpy (μ 74) (μ 19) 0 0 6)) 20) 0 0 6)) 21) 0 0 6)) 22) 0 0 6)) 23 (va_cpy ((zu (zu (zu (zu μ 19 (va_cpy (μ 74) (μ 19) 0 0 6)) 20 (va_cpy ((zu μ 19 (va_cpy (μ 74) (μ 19) 0 0 6)) 75) ((zu μ 19 (va_cpy (μ 74) (μ 19) 0 0 6)) 20) 0 0 6)) 21 (va_cpy ((zu (zu μ 19 (va_cpy (μ 74) (μ 19) 0 0 6)) 20 (va_cpy ((zu μ 19 (va_cpy (μ 74) (μ 19) 0 0 6)) 75) ((zu μ 19 (va_cpy (μ 74) (μ 19) 0 0 6)) 20) 0 0 6)) 76) ((zu (zu μ 19 (va_cpy (μ 74) (μ 19) 0 0 6)) 20 (va_cpy ((zu μ 19 (va_cpy (μ 74) (μ 19) 0 0 6)) 75) ((zu μ 19 (va_cpy (μ 74) (μ 19) 0 0 6)) 20) 0 0 6)) 21) 0 0 6)) 22 (va_cpy ((zu (zu (zu μ 19 (va_cpy (μ 74) (μ 19) 0 0 6)) 20 (va_cpy ((zu μ 19 (va_cpy (μ 74) (μ 19) 0 0 6)) 75) ((zu μ 19 (va_cpy (μ 74) (μ 19) 0 0 6)) 20) 0 0 6)) 21 (va_cpy ((zu (zu μ 19 (va_cpy (μ 74) (μ 19) 0 0 6)) 20 (va_cpy ((zu μ 19 (va_cpy (μ 74) (μ 19) 0 0 6)) 75) ((zu μ 19 (va_cpy (μ 74) (μ 19) 0 0 6)) 20) 0 0 6)) 76) ((zu (zu μ 19 (va_cpy (μ 74) (μ 19) 0 0 6)) 20 (va_cpy ((zu μ 19 (va_cpy (μ 74) (μ 19) 0 0 6)) 75) ((zu μ 19 (va_cpy (μ 74) (μ 19) 0 0 6)) 20) 0 0 6)) 21) 0 0 6)) 77) ((zu (zu (zu μ 19 (va_cpy (μ 74) (μ 19) 0 0 6)) 20 (va_cpy ((zu μ 19 (va_cpy (μ 74) (μ 19) 0 0 6)) 75) ((zu μ 19 (va_cpy (μ 74) (μ 19) 0 0 6)) 20) 0 0 6)) 21 (va_cpy ((zu (zu μ 19 (va_cpy (μ 74) (μ 19) 0 0 6)) 20 (va_cpy ((zu μ 19 (va_cpy (μ 74) (μ 19) 0 0 6)) 75) ((zu μ 19 (va_cpy (μ 74) (μ 19) 0 0 6)) 20) 0 0 6)) 76) ((zu (zu μ 19 (va_cpy (μ 74) (μ 19) 0 0 6)) 20 (va_cpy ((zu μ 19 (va_cpy (μ 74) (μ 19) 0 0 6)) 75) ((zu μ 19 (va_cpy (μ 74) (μ 19) 0 0 6)) 20) 0 0 6)) 21) 0 0 6)) 22) 0 0 6)) 78) ((zu (zu (zu (zu μ 19 (va_cpy (μ 74) (μ 19) 0 0 6)) 20 (va_cpy ((zu μ 19 (va_cpy (μ 74) (μ 19) 0 0 6)) 75) ((zu μ 19 (va_cpy (μ 74) (μ 19) 0 0 6)) 20) 0 0 6)) 21 (va_cpy ((zu (zu μ 19 (va_cpy (μ 74) (μ 19) 0 0 6)) 20 (va_cpy ((zu μ 19 (va_cpy (μ 74) (μ 19) 0 0 6)) 75) ((zu μ 19 (va_cpy (μ 74) (μ 19) 0 0 6)) 20) 0 0 6)) 76) ((zu (zu μ 19 (va_cpy (μ 74) (μ 19) 0 0 6)) 20 (va_cpy ((zu μ 19 (va_cpy (μ 74) (μ 19) 0 0 6)) 75) ((zu μ 19 (va_cpy (μ 74) (μ 19) 0 0 6)) 20) 0 0 6)) 21) 0 0 6)) 22 (va_cpy ((zu (zu (zu μ 19 (va_cpy (μ 74) (μ 19) 0 0 6)) 20 (va_cpy ((zu μ 19 (va_cpy (μ 74) (μ 19) 0 0 6)) 75) ((zu μ 19 (va_cpy (μ 74) (μ 19) 0 0 6)) 20) 0 0 6)) 21 (va_cpy ((zu (zu μ 19 (va_cpy (μ 74) (μ 19) 0 0 6)) 20 (va_cpy ((zu μ 19 (va_cpy (μ 74) (μ 19) 0 0 6)) 75) ((zu μ 19 (va_cpy (μ 74) (μ 19) 0 0 6)) 20) 0 0 6)) 76) ((zu (zu μ 19 (va_cpy (μ 74) (μ 19) 0 0 6)) 20 (va_cpy ((zu μ 19 (va_cpy (μ 74) (μ 19) 0 0 6)) 75) ((zu μ 19 (va_cpy (μ 74) (μ 19) 0 0 6)) 20) 0 0 6)) 21) 0 0 6)) 77) ((zu (zu (zu μ 19 (va_cpy (μ 74) (μ 19) 0 0 6)) 20 (va_cpy ((zu μ 19 (va_cpy (μ 74) (μ 19) 0 0 6)) 75) ((zu μ 19 (va_cpy (μ 74) (μ 19) 0 0 6)) 20) 0 0 6)) 21 (va_cpy ((zu (zu μ 19 (va_cpy (μ 74) (μ 19) 0 0 6)) 20 (va_cpy ((zu μ 19 (va_cpy (μ 74) (μ 19) 0 0 6)) 75) ((zu μ 19 (va_cpy (μ 74) (μ 19) 0 0 6)) 20) 0 0 6)) 76) ((zu (zu μ 19 (va_cpy (μ 74) (μ 19) 0 0 6)) 20 (va_cpy ((zu μ 19 (va_cpy (μ 74) (μ 19) 0 0 6)) 75) ((zu μ 19 (va_cpy (μ 74) (μ 19) 0 0 6)) 20) 0 0 6)) 21) 0 0 6)) 22) 0 0 6)) 23) 0 0 16)) _
  refine zx_aload_n (k := 0) (nn := 76) dX8_copyFrom_75 rfl rfl rfl ?_
  refine zx_aload_n (k := 1) (nn := 77) dX8_copyFrom_76 rfl rfl rfl ?_
  refine zx_getI (nn := 80) flX8_46 rfl rfl dX8_copyFrom_77 rfl ?_
  show zX shC σ 1 MX8_copyFrom 80 [(0, zr 18), (1, zr 73)] [zi (μ 73 7), zr 18] (zu (zu (zu (zu (zu μ 19 (va_cpy (μ 74) (μ 19) 0 0 6)) 20 (va_cpy ((zu μ 19 (va_cpy (μ 74) (μ 19) 0 0 6)) 75) ((zu μ 19 (va_cpy (μ 74) (μ 19) 0 0 6)) 20) 0 0 6)) 21 (va_cpy ((zu (zu μ 19 (va_cpy (μ 74) (μ 19) 0 0 6)) 20 (va_cpy ((zu μ 19 (va_cpy (μ 74) (μ 19) 0 0 6)) 75) ((zu μ 19 (va_cpy (μ 74) (μ 19) 0 0 6)) 20) 0 0 6)) 76) ((zu (zu μ 19 (va_cpy (μ 74) (μ 19) 0 0 6)) 20 (va_cpy ((zu μ 19 (va_cpy (μ 74) (μ 19) 0 0 6)) 75) ((zu μ 19 (va_cpy (μ 74) (μ 19) 0 0 6)) 20) 0 0 6)) 21) 0 0 6)) 22 (va_cpy ((zu (zu (zu μ 19 (va_cpy (μ 74) (μ 19) 0 0 6)) 20 (va_cpy ((zu μ 19 (va_cpy (μ 74) (μ 19) 0 0 6)) 75) ((zu μ 19 (va_cpy (μ 74) (μ 19) 0 0 6)) 20) 0 0 6)) 21 (va_cpy ((zu (zu μ 19 (va_cpy (μ 74) (μ 19) 0 0 6)) 20 (va_cpy ((zu μ 19 (va_cpy (μ 74) (μ 19) 0 0 6)) 75) ((zu μ 19 (va_cpy (μ 74) (μ 19) 0 0 6)) 20) 0 0 6)) 76) ((zu (zu μ 19 (va_cpy (μ 74) (μ 19) 0 0 6)) 20 (va_cpy ((zu μ 19 (va_cpy (μ 74) (μ 19) 0 0 6)) 75) ((zu μ 19 (va_cpy (μ 74) (μ 19) 0 0 6)) 20) 0 0 6)) 21) 0 0 6)) 77) ((zu (zu (zu μ 19 (va_cpy (μ 74) (μ 19) 0 0 6)) 20 (va_cpy ((zu μ 19 (va_cpy (μ 74) (μ 19) 0 0 6)) 75) ((zu μ 19 (va_cpy (μ 74) (μ 19) 0 0 6)) 20) 0 0 6)) 21 (va_cpy ((zu (zu μ 19 (va_cpy (μ 74) (μ 19) 0 0 6)) 20 (va_cpy ((zu μ 19 (va_cpy (μ 74) (μ 19) 0 0 6)) 75) ((zu μ 19 (va_cpy (μ 74) (μ 19) 0 0 6)) 20) 0 0 6)) 76) ((zu (zu μ 19 (va_cpy (μ 74) (μ 19) 0 0 6)) 20 (va_cpy ((zu μ 19 (va_cpy (μ 74) (μ 19) 0 0 6)) 75) ((zu μ 19 (va_cpy (μ 74) (μ 19) 0 0 6)) 20) 0 0 6)) 21) 0 0 6)) 22) 0 0 6)) 23 (va_cpy ((zu (zu (zu (zu μ 19 (va_cpy (μ 74) (μ 19) 0 0 6)) 20 (va_cpy ((zu μ 19 (va_cpy (μ 74) (μ 19) 0 0 6)) 75) ((zu μ 19 (va_cpy (μ 74) (μ 19) 0 0 6)) 20) 0 0 6)) 21 (va_cpy ((zu (zu μ 19 (va_cpy (μ 74) (μ 19) 0 0 6)) 20 (va_cpy ((zu μ 19 (va_cpy (μ 74) (μ 19) 0 0 6)) 75) ((zu μ 19 (va_cpy (μ 74) (μ 19) 0 0 6)) 20) 0 0 6)) 76) ((zu (zu μ 19 (va_cpy (μ 74) (μ 19) 0 0 6)) 20 (va_cpy ((zu μ 19 (va_cpy (μ 74) (μ 19) 0 0 6)) 75) ((zu μ 19 (va_cpy (μ 74) (μ 19) 0 0 6)) 20) 0 0 6)) 21) 0 0 6)) 22 (va_cpy ((zu (zu (zu μ 19 (va_cpy (μ 74) (μ 19) 0 0 6)) 20 (va_cpy ((zu μ 19 (va_cpy (μ 74) (μ 19) 0 0 6)) 75) ((zu μ 19 (va_cpy (μ 74) (μ 19) 0 0 6)) 20) 0 0 6)) 21 (va_cpy ((zu (zu μ 19 (va_cpy (μ 74) (μ 19) 0 0 6)) 20 (va_cpy ((zu μ 19 (va_cpy (μ 74) (μ 19) 0 0 6)) 75) ((zu μ 19 (va_cpy (μ 74) (μ 19) 0 0 6)) 20) 0 0 6)) 76) ((zu (zu μ 19 (va_cpy (μ 74) (μ 19) 0 0 6)) 20 (va_cpy ((zu μ 19 (va_cpy (μ 74) (μ 19) 0 0 6)) 75) ((zu μ 19 (va_cpy (μ 74) (μ 19) 0 0 6)) 20) 0 0 6)) 21) 0 0 6)) 77) ((zu (zu (zu μ 19 (va_cpy (μ 74) (μ 19) 0 0 6)) 20 (va_cpy ((zu μ 19 (va_cpy (μ 74) (μ 19) 0 0 6)) 75) ((zu μ 19 (va_cpy (μ 74) (μ 19) 0 0 6)) 20) 0 0 6)) 21 (va_cpy ((zu (zu μ 19 (va_cpy (μ 74) (μ 19) 0 0 6)) 20 (va_cpy ((zu μ 19 (va_cpy (μ 74) (μ 19) 0 0 6)) 75) ((zu μ 19 (va_cpy (μ 74) (μ 19) 0 0 6)) 20) 0 0 6)) 76) ((zu (zu μ 19 (va_cpy (μ 74) (μ 19) 0 0 6)) 20 (va_cpy ((zu μ 19 (va_cpy (μ 74) (μ 19) 0 0 6)) 75) ((zu μ 19 (va_cpy (μ 74) (μ 19) 0 0 6)) 20) 0 0 6)) 21) 0 0 6)) 22) 0 0 6)) 78) ((zu (zu (zu (zu μ 19 (va_cpy (μ 74) (μ 19) 0 0 6)) 20 (va_cpy ((zu μ 19 (va_cpy (μ 74) (μ 19) 0 0 6)) 75) ((zu μ 19 (va_cpy (μ 74) (μ 19) 0 0 6)) 20) 0 0 6)) 21 (va_cpy ((zu (zu μ 19 (va_cpy (μ 74) (μ 19) 0 0 6)) 20 (va_cpy ((zu μ 19 (va_cpy (μ 74) (μ 19) 0 0 6)) 75) ((zu μ 19 (va_cpy (μ 74) (μ 19) 0 0 6)) 20) 0 0 6)) 76) ((zu (zu μ 19 (va_cpy (μ 74) (μ 19) 0 0 6)) 20 (va_cpy ((zu μ 19 (va_cpy (μ 74) (μ 19) 0 0 6)) 75) ((zu μ 19 (va_cpy (μ 74) (μ 19) 0 0 6)) 20) 0 0 6)) 21) 0 0 6)) 22 (va_cpy ((zu (zu (zu μ 19 (va_cpy (μ 74) (μ 19) 0 0 6)) 20 (va_cpy ((zu μ 19 (va_cpy (μ 74) (μ 19) 0 0 6)) 75) ((zu μ 19 (va_cpy (μ 74) (μ 19) 0 0 6)) 20) 0 0 6)) 21 (va_cpy ((zu (zu μ 19 (va_cpy (μ 74) (μ 19) 0 0 6)) 20 (va_cpy ((zu μ 19 (va_cpy (μ 74) (μ 19) 0 0 6)) 75) ((zu μ 19 (va_cpy (μ 74) (μ 19) 0 0 6)) 20) 0 0 6)) 76) ((zu (zu μ 19 (va_cpy (μ 74) (μ 19) 0 0 6)) 20 (va_cpy ((zu μ 19 (va_cpy (μ 74) (μ 19) 0 0 6)) 75) ((zu μ 19 (va_cpy (μ 74) (μ 19) 0 0 6)) 20) 0 0 6)) 21) 0 0 6)) 77) ((zu (zu (zu μ 19 (va_cpy (μ 74) (μ 19) 0 0 6)) 20 (va_cpy ((zu μ 19 (va_cpy (μ 74) (μ 19) 0 0 6)) 75) ((zu μ 19 (va_cpy (μ 74) (μ 19) 0 0 6)) 20) 0 0 6)) 21 (va_cpy ((zu (zu μ 19 (va_cpy (μ 74) (μ 19) 0 0 6)) 20 (va_cpy ((zu μ 19 (va_cpy (μ 74) (μ 19) 0 0 6)) 75) ((zu μ 19 (va_cpy (μ 74) (μ 19) 0 0 6)) 20) 0 0 6)) 76) ((zu (zu μ 19 (va_cpy (μ 74) (μ 19) 0 0 6)) 20 (va_cpy ((zu μ 19 (va_cpy (μ 74) (μ 19) 0 0 6)) 75) ((zu μ 19 (va_cpy (μ 74) (μ 19) 0 0 6)) 20) 0 0 6)) 21) 0 0 6)) 22) 0 0 6)) 23) 0 0 16)) _
  refine zx_putI (nn := 83) fpX8_46 rfl rfl rfl rfl dX8_copyFrom_80 rfl ?_
  refine zx_aload_n (k := 0) (nn := 84) dX8_copyFrom_83 rfl rfl rfl ?_
  refine zx_aload_n (k := 1) (nn := 85) dX8_copyFrom_84 rfl rfl rfl ?_
  refine zx_getI (nn := 88) flX8_49 rfl rfl dX8_copyFrom_85 rfl ?_
  show zX shC σ 1 MX8_copyFrom 88 [(0, zr 18), (1, zr 73)] [zi (μ 73 8), zr 18] (zp (zu (zu (zu (zu (zu μ 19 (va_cpy (μ 74) (μ 19) 0 0 6)) 20 (va_cpy ((zu μ 19 (va_cpy (μ 74) (μ 19) 0 0 6)) 75) ((zu μ 19 (va_cpy (μ 74) (μ 19) 0 0 6)) 20) 0 0 6)) 21 (va_cpy ((zu (zu μ 19 (va_cpy (μ 74) (μ 19) 0 0 6)) 20 (va_cpy ((zu μ 19 (va_cpy (μ 74) (μ 19) 0 0 6)) 75) ((zu μ 19 (va_cpy (μ 74) (μ 19) 0 0 6)) 20) 0 0 6)) 76) ((zu (zu μ 19 (va_cpy (μ 74) (μ 19) 0 0 6)) 20 (va_cpy ((zu μ 19 (va_cpy (μ 74) (μ 19) 0 0 6)) 75) ((zu μ 19 (va_cpy (μ 74) (μ 19) 0 0 6)) 20) 0 0 6)) 21) 0 0 6)) 22 (va_cpy ((zu (zu (zu μ 19 (va_cpy (μ 74) (μ 19) 0 0 6)) 20 (va_cpy ((zu μ 19 (va_cpy (μ 74) (μ 19) 0 0 6)) 75) ((zu μ 19 (va_cpy (μ 74) (μ 19) 0 0 6)) 20) 0 0 6)) 21 (va_cpy ((zu (zu μ 19 (va_cpy (μ 74) (μ 19) 0 0 6)) 20 (va_cpy ((zu μ 19 (va_cpy (μ 74) (μ 19) 0 0 6)) 75) ((zu μ 19 (va_cpy (μ 74) (μ 19) 0 0 6)) 20) 0 0 6)) 76) ((zu (zu μ 19 (va_cpy (μ 74) (μ 19) 0 0 6)) 20 (va_cpy ((zu μ 19 (va_cpy (μ 74) (μ 19) 0 0 6)) 75) ((zu μ 19 (va_cpy (μ 74) (μ 19) 0 0 6)) 20) 0 0 6)) 21) 0 0 6)) 77) ((zu (zu (zu μ 19 (va_cpy (μ 74) (μ 19) 0 0 6)) 20 (va_cpy ((zu μ 19 (va_cpy (μ 74) (μ 19) 0 0 6)) 75) ((zu μ 19 (va_cpy (μ 74) (μ 19) 0 0 6)) 20) 0 0 6)) 21 (va_cpy ((zu (zu μ 19 (va_cpy (μ 74) (μ 19) 0 0 6)) 20 (va_cpy ((zu μ 19 (va_cpy (μ 74) (μ 19) 0 0 6)) 75) ((zu μ 19 (va_cpy (μ 74) (μ 19) 0 0 6)) 20) 0 0 6)) 76) ((zu (zu μ 19 (va_cpy (μ 74) (μ 19) 0 0 6)) 20 (va_cpy ((zu μ 19 (va_cpy (μ 74) (μ 19) 0 0 6)) 75) ((zu μ 19 (va_cpy (μ 74) (μ 19) 0 0 6)) 20) 0 0 6)) 21) 0 0 6)) 22) 0 0 6)) 23 (va_cpy ((zu (zu (zu (zu μ 19 (va_cpy (μ 74) (μ 19) 0 0 6)) 20 (va_cpy ((zu μ 19 (va_cpy (μ 74) (μ 19) 0 0 6)) 75) ((zu μ 19 (va_cpy (μ 74) (μ 19) 0 0 6)) 20) 0 0 6)) 21 (va_cpy ((zu (zu μ 19 (va_cpy (μ 74) (μ 19) 0 0 6)) 20 (va_cpy ((zu μ 19 (va_cpy (μ 74) (μ 19) 0 0 6)) 75) ((zu μ 19 (va_cpy (μ 74) (μ 19) 0 0 6)) 20) 0 0 6)) 76) ((zu (zu μ 19 (va_cpy (μ 74) (μ 19) 0 0 6)) 20 (va_cpy ((zu μ 19 (va_cpy (μ 74) (μ 19) 0 0 6)) 75) ((zu μ 19 (va_cpy (μ 74) (μ 19) 0 0 6)) 20) 0 0 6)) 21) 0 0 6)) 22 (va_cpy ((zu (zu (zu μ 19 (va_cpy (μ 74) (μ 19) 0 0 6)) 20 (va_cpy ((zu μ 19 (va_cpy (μ 74) (μ 19) 0 0 6)) 75) ((zu μ 19 (va_cpy (μ 74) (μ 19) 0 0 6)) 20) 0 0 6)) 21 (va_cpy ((zu (zu μ 19 (va_cpy (μ 74) (μ 19) 0 0 6)) 20 (va_cpy ((zu μ 19 (va_cpy (μ 74) (μ 19) 0 0 6)) 75) ((zu μ 19 (va_cpy (μ 74) (μ 19) 0 0 6)) 20) 0 0 6)) 76) ((zu (zu μ 19 (va_cpy (μ 74) (μ 19) 0 0 6)) 20 (va_cpy ((zu μ 19 (va_cpy (μ 74) (μ 19) 0 0 6)) 75) ((zu μ 19 (va_cpy (μ 74) (μ 19) 0 0 6)) 20) 0 0 6)) 21) 0 0 6)) 77) ((zu (zu (zu μ 19 (va_cpy (μ 74) (μ 19) 0 0 6)) 20 (va_cpy ((zu μ 19 (va_cpy (μ 74) (μ 19) 0 0 6)) 75) ((zu μ 19 (va_cpy (μ 74) (μ 19) 0 0 6)) 20) 0 0 6)) 21 (va_cpy ((zu (zu μ 19 (va_cpy (μ 74) (μ 19) 0 0 6)) 20 (va_cpy ((zu μ 19 (va_cpy (μ 74) (μ 19) 0 0 6)) 75) ((zu μ 19 (va_cpy (μ 74) (μ 19) 0 0 6)) 20) 0 0 6)) 76) ((zu (zu μ 19 (va_cpy (μ 74) (μ 19) 0 0 6)) 20 (va_cpy ((zu μ 19 (va_cpy (μ 74) (μ 19) 0 0 6)) 75) ((zu μ 19 (va_cpy (μ 74) (μ 19) 0 0 6)) 20) 0 0 6)) 21) 0 0 6)) 22) 0 0 6)) 78) ((zu (zu (zu (zu μ 19 (va_cpy (μ 74) (μ 19) 0 0 6)) 20 (va_cpy ((zu μ 19 (va_cpy (μ 74) (μ 19) 0 0 6)) 75) ((zu μ 19 (va_cpy (μ 74) (μ 19) 0 0 6)) 20) 0 0 6)) 21 (va_cpy ((zu (zu μ 19 (va_cpy (μ 74) (μ 19) 0 0 6)) 20 (va_cpy ((zu μ 19 (va_cpy (μ 74) (μ 19) 0 0 6)) 75) ((zu μ 19 (va_cpy (μ 74) (μ 19) 0 0 6)) 20) 0 0 6)) 76) ((zu (zu μ 19 (va_cpy (μ 74) (μ 19) 0 0 6)) 20 (va_cpy ((zu μ 19 (va_cpy (μ 74) (μ 19) 0 0 6)) 75) ((zu μ 19 (va_cpy (μ 74) (μ 19) 0 0 6)) 20) 0 0 6)) 21) 0 0 6)) 22 (va_cpy ((zu (zu (zu μ 19 (va_cpy (μ 74) (μ 19) 0 0 6)) 20 (va_cpy ((zu μ 19 (va_cpy (μ 74) (μ 19) 0 0 6)) 75) ((zu μ 19 (va_cpy (μ 74) (μ 19) 0 0 6)) 20) 0 0 6)) 21 (va_cpy ((zu (zu μ 19 (va_cpy (μ 74) (μ 19) 0 0 6)) 20 (va_cpy ((zu μ 19 (va_cpy (μ 74) (μ 19) 0 0 6)) 75) ((zu μ 19 (va_cpy (μ 74) (μ 19) 0 0 6)) 20) 0 0 6)) 76) ((zu (zu μ 19 (va_cpy (μ 74) (μ 19) 0 0 6)) 20 (va_cpy ((zu μ 19 (va_cpy (μ 74) (μ 19) 0 0 6)) 75) ((zu μ 19 (va_cpy (μ 74) (μ 19) 0 0 6)) 20) 0 0 6)) 21) 0 0 6)) 77) ((zu (zu (zu μ 19 (va_cpy (μ 74) (μ 19) 0 0 6)) 20 (va_cpy ((zu μ 19 (va_cpy (μ 74) (μ 19) 0 0 6)) 75) ((zu μ 19 (va_cpy (μ 74) (μ 19) 0 0 6)) 20) 0 0 6)) 21 (va_cpy ((zu (zu μ 19 (va_cpy (μ 74) (μ 19) 0 0 6)) 20 (va_cpy ((zu μ 19 (va_cpy (μ 74) (μ 19) 0 0 6)) 75) ((zu μ 19 (va_cpy (μ 74) (μ 19) 0 0 6)) 20) 0 0 6)) 76) ((zu (zu μ 19 (va_cpy (μ 74) (μ 19) 0 0 6)) 20 (va_cpy ((zu μ 19 (va_cpy (μ 74) (μ 19) 0 0 6)) 75) ((zu μ 19 (va_cpy (μ 74) (μ 19) 0 0 6)) 20) 0 0 6)) 21) 0 0 6)) 22) 0 0 6)) 23) 0 0 16)) 18 7 (μ 73 7)) _
  refine zx_putI (nn := 91) fpX8_49 rfl rfl rfl rfl dX8_copyFrom_88 rfl ?_
  refine zx_aload_n (k := 0) (nn := 92) dX8_copyFrom_91 rfl rfl rfl ?_
  refine zx_aload_n (k := 1) (nn := 93) dX8_copyFrom_92 rfl rfl rfl ?_
  refine zx_getI (nn := 96) flX8_52 rfl rfl dX8_copyFrom_93 rfl ?_
  show zX shC σ 1 MX8_copyFrom 96 [(0, zr 18), (1, zr 73)] [zi (μ 73 9), zr 18] (zp (zp (zu (zu (zu (zu (zu μ 19 (va_cpy (μ 74) (μ 19) 0 0 6)) 20 (va_cpy ((zu μ 19 (va_cpy (μ 74) (μ 19) 0 0 6)) 75) ((zu μ 19 (va_cpy (μ 74) (μ 19) 0 0 6)) 20) 0 0 6)) 21 (va_cpy ((zu (zu μ 19 (va_cpy (μ 74) (μ 19) 0 0 6)) 20 (va_cpy ((zu μ 19 (va_cpy (μ 74) (μ 19) 0 0 6)) 75) ((zu μ 19 (va_cpy (μ 74) (μ 19) 0 0 6)) 20) 0 0 6)) 76) ((zu (zu μ 19 (va_cpy (μ 74) (μ 19) 0 0 6)) 20 (va_cpy ((zu μ 19 (va_cpy (μ 74) (μ 19) 0 0 6)) 75) ((zu μ 19 (va_cpy (μ 74) (μ 19) 0 0 6)) 20) 0 0 6)) 21) 0 0 6)) 22 (va_cpy ((zu (zu (zu μ 19 (va_cpy (μ 74) (μ 19) 0 0 6)) 20 (va_cpy ((zu μ 19 (va_cpy (μ 74) (μ 19) 0 0 6)) 75) ((zu μ 19 (va_cpy (μ 74) (μ 19) 0 0 6)) 20) 0 0 6)) 21 (va_cpy ((zu (zu μ 19 (va_cpy (μ 74) (μ 19) 0 0 6)) 20 (va_cpy ((zu μ 19 (va_cpy (μ 74) (μ 19) 0 0 6)) 75) ((zu μ 19 (va_cpy (μ 74) (μ 19) 0 0 6)) 20) 0 0 6)) 76) ((zu (zu μ 19 (va_cpy (μ 74) (μ 19) 0 0 6)) 20 (va_cpy ((zu μ 19 (va_cpy (μ 74) (μ 19) 0 0 6)) 75) ((zu μ 19 (va_cpy (μ 74) (μ 19) 0 0 6)) 20) 0 0 6)) 21) 0 0 6)) 77) ((zu (zu (zu μ 19 (va_cpy (μ 74) (μ 19) 0 0 6)) 20 (va_cpy ((zu μ 19 (va_cpy (μ 74) (μ 19) 0 0 6)) 75) ((zu μ 19 (va_cpy (μ 74) (μ 19) 0 0 6)) 20) 0 0 6)) 21 (va_cpy ((zu (zu μ 19 (va_cpy (μ 74) (μ 19) 0 0 6)) 20 (va_cpy ((zu μ 19 (va_cpy (μ 74) (μ 19) 0 0 6)) 75) ((zu μ 19 (va_cpy (μ 74) (μ 19) 0 0 6)) 20) 0 0 6)) 76) ((zu (zu μ 19 (va_cpy (μ 74) (μ 19) 0 0 6)) 20 (va_cpy ((zu μ 19 (va_cpy (μ 74) (μ 19) 0 0 6)) 75) ((zu μ 19 (va_cpy (μ 74) (μ 19) 0 0 6)) 20) 0 0 6)) 21) 0 0 6)) 22) 0 0 6)) 23 (va_cpy ((zu (zu (zu (zu μ 19 (va_cpy (μ 74) (μ 19) 0 0 6)) 20 (va_cpy ((zu μ 19 (va_cpy (μ 74) (μ 19) 0 0 6)) 75) ((zu μ 19 (va_cpy (μ 74) (μ 19) 0 0 6)) 20) 0 0 6)) 21 (va_cpy ((zu (zu μ 19 (va_cpy (μ 74) (μ 19) 0 0 6)) 20 (va_cpy ((zu μ 19 (va_cpy (μ 74) (μ 19) 0 0 6)) 75) ((zu μ 19 (va_cpy (μ 74) (μ 19) 0 0 6)) 20) 0 0 6)) 76) ((zu (zu μ 19 (va_cpy (μ 74) (μ 19) 0 0 6)) 20 (va_cpy ((zu μ 19 (va_cpy (μ 74) (μ 19) 0 0 6)) 75) ((zu μ 19 (va_cpy (μ 74) (μ 19) 0 0 6)) 20) 0 0 6)) 21) 0 0 6)) 22 (va_cpy ((zu (zu (zu μ 19 (va_cpy (μ 74) (μ 19) 0 0 6)) 20 (va_cpy ((zu μ 19 (va_cpy (μ 74) (μ 19) 0 0 6)) 75) ((zu μ 19 (va_cpy (μ 74) (μ 19) 0 0 6)) 20) 0 0 6)) 21 (va_cpy ((zu (zu μ 19 (va_cpy (μ 74) (μ 19) 0 0 6)) 20 (va_cpy ((zu μ 19 (va_cpy (μ 74) (μ 19) 0 0 6)) 75) ((zu μ 19 (va_cpy (μ 74) (μ 19) 0 0 6)) 20) 0 0 6)) 76) ((zu (zu μ 19 (va_cpy (μ 74) (μ 19) 0 0 6)) 20 (va_cpy ((zu μ 19 (va_cpy (μ 74) (μ 19) 0 0 6)) 75) ((zu μ 19 (va_cpy (μ 74) (μ 19) 0 0 6)) 20) 0 0 6)) 21) 0 0 6)) 77) ((zu (zu (zu μ 19 (va_cpy (μ 74) (μ 19) 0 0 6)) 20 (va_cpy ((zu μ 19 (va_cpy (μ 74) (μ 19) 0 0 6)) 75) ((zu μ 19 (va_cpy (μ 74) (μ 19) 0 0 6)) 20) 0 0 6)) 21 (va_cpy ((zu (zu μ 19 (va_cpy (μ 74) (μ 19) 0 0 6)) 20 (va_cpy ((zu μ 19 (va_cpy (μ 74) (μ 19) 0 0 6)) 75) ((zu μ 19 (va_cpy (μ 74) (μ 19) 0 0 6)) 20) 0 0 6)) 76) ((zu (zu μ 19 (va_cpy (μ 74) (μ 19) 0 0 6)) 20 (va_cpy ((zu μ 19 (va_cpy (μ 74) (μ 19) 0 0 6)) 75) ((zu μ 19 (va_cpy (μ 74) (μ 19) 0 0 6)) 20) 0 0 6)) 21) 0 0 6)) 22) 0 0 6)) 78) ((zu (zu (zu (zu μ 19 (va_cpy (μ 74) (μ 19) 0 0 6)) 20 (va_cpy ((zu μ 19 (va_cpy (μ 74) (μ 19) 0 0 6)) 75) ((zu μ 19 (va_cpy (μ 74) (μ 19) 0 0 6)) 20) 0 0 6)) 21 (va_cpy ((zu (zu μ 19 (va_cpy (μ 74) (μ 19) 0 0 6)) 20 (va_cpy ((zu μ 19 (va_cpy (μ 74) (μ 19) 0 0 6)) 75) ((zu μ 19 (va_cpy (μ 74) (μ 19) 0 0 6)) 20) 0 0 6)) 76) ((zu (zu μ 19 (va_cpy (μ 74) (μ 19) 0 0 6)) 20 (va_cpy ((zu μ 19 (va_cpy (μ 74) (μ 19) 0 0 6)) 75) ((zu μ 19 (va_cpy (μ 74) (μ 19) 0 0 6)) 20) 0 0 6)) 21) 0 0 6)) 22 (va_cpy ((zu (zu (zu μ 19 (va_cpy (μ 74) (μ 19) 0 0 6)) 20 (va_cpy ((zu μ 19 (va_cpy (μ 74) (μ 19) 0 0 6)) 75) ((zu μ 19 (va_cpy (μ 74) (μ 19) 0 0 6)) 20) 0 0 6)) 21 (va_cpy ((zu (zu μ 19 (va_cpy (μ 74) (μ 19) 0 0 6)) 20 (va_cpy ((zu μ 19 (va_cpy (μ 74) (μ 19) 0 0 6)) 75) ((zu μ 19 (va_cpy (μ 74) (μ 19) 0 0 6)) 20) 0 0 6)) 76) ((zu (zu μ 19 (va_cpy (μ 74) (μ 19) 0 0 6)) 20 (va_cpy ((zu μ 19 (va_cpy (μ 74) (μ 19) 0 0 6)) 75) ((zu μ 19 (va_cpy (μ 74) (μ 19) 0 0 6)) 20) 0 0 6)) 21) 0 0 6)) 77) ((zu (zu (zu μ 19 (va_cpy (μ 74) (μ 19) 0 0 6)) 20 (va_cpy ((zu μ 19 (va_cpy (μ 74) (μ 19) 0 0 6)) 75) ((zu μ 19 (va_cpy (μ 74) (μ 19) 0 0 6)) 20) 0 0 6)) 21 (va_cpy ((zu (zu μ 19 (va_cpy (μ 74) (μ 19) 0 0 6)) 20 (va_cpy ((zu μ 19 (va_cpy (μ 74) (μ 19) 0 0 6)) 75) ((zu μ 19 (va_cpy (μ 74) (μ 19) 0 0 6)) 20) 0 0 6)) 76) ((zu (zu μ 19 (va_cpy (μ 74) (μ 19) 0 0 6)) 20 (va_cpy ((zu μ 19 (va_cpy (μ 74) (μ 19) 0 0 6)) 75) ((zu μ 19 (va_cpy (μ 74) (μ 19) 0 0 6)) 20) 0 0 6)) 21) 0 0 6)) 22) 0 0 6)) 23) 0 0 16)) 18 7 (μ 73 7)) 18 8 (μ 73 8)) _
  refine zx_putI (nn := 99) fpX8_52 rfl rfl rfl rfl dX8_copyFrom_96 rfl ?_
  refine zx_aload_n (k := 0) (nn := 100) dX8_copyFrom_99 rfl rfl rfl ?_
  refine zx_aload_n (k := 1) (nn := 101) dX8_copyFrom_100 rfl rfl rfl ?_
  refine zx_getI (nn := 104) flX8_55 rfl rfl dX8_copyFrom_101 rfl ?_
  show zX shC σ 1 MX8_copyFrom 104 [(0, zr 18), (1, zr 73)] [zi (μ 73 10), zr 18] (zp (zp (zp (zu (zu (zu (zu (zu μ 19 (va_cpy (μ 74) (μ 19) 0 0 6)) 20 (va_cpy ((zu μ 19 (va_cpy (μ 74) (μ 19) 0 0 6)) 75) ((zu μ 19 (va_cpy (μ 74) (μ 19) 0 0 6)) 20) 0 0 6)) 21 (va_cpy ((zu (zu μ 19 (va_cpy (μ 74) (μ 19) 0 0 6)) 20 (va_cpy ((zu μ 19 (va_cpy (μ 74) (μ 19) 0 0 6)) 75) ((zu μ 19 (va_cpy (μ 74) (μ 19) 0 0 6)) 20) 0 0 6)) 76) ((zu (zu μ 19 (va_cpy (μ 74) (μ 19) 0 0 6)) 20 (va_cpy ((zu μ 19 (va_cpy (μ 74) (μ 19) 0 0 6)) 75) ((zu μ 19 (va_cpy (μ 74) (μ 19) 0 0 6)) 20) 0 0 6)) 21) 0 0 6)) 22 (va_cpy ((zu (zu (zu μ 19 (va_cpy (μ 74) (μ 19) 0 0 6)) 20 (va_cpy ((zu μ 19 (va_cpy (μ 74) (μ 19) 0 0 6)) 75) ((zu μ 19 (va_cpy (μ 74) (μ 19) 0 0 6)) 20) 0 0 6)) 21 (va_cpy ((zu (zu μ 19 (va_cpy (μ 74) (μ 19) 0 0 6)) 20 (va_cpy ((zu μ 19 (va_cpy (μ 74) (μ 19) 0 0 6)) 75) ((zu μ 19 (va_cpy (μ 74) (μ 19) 0 0 6)) 20) 0 0 6)) 76) ((zu (zu μ 19 (va_cpy (μ 74) (μ 19) 0 0 6)) 20 (va_cpy ((zu μ 19 (va_cpy (μ 74) (μ 19) 0 0 6)) 75) ((zu μ 19 (va_cpy (μ 74) (μ 19) 0 0 6)) 20) 0 0 6)) 21) 0 0 6)) 77) ((zu (zu (zu μ 19 (va_cpy (μ 74) (μ 19) 0 0 6)) 20 (va_cpy ((zu μ 19 (va_cpy (μ 74) (μ 19) 0 0 6)) 75) ((zu μ 19 (va_cpy (μ 74) (μ 19) 0 0 6)) 20) 0 0 6)) 21 (va_cpy ((zu (zu μ 19 (va_cpy (μ 74) (μ 19) 0 0 6)) 20 (va_cpy ((zu μ 19 (va_cpy (μ 74) (μ 19) 0 0 6)) 75) ((zu μ 19 (va_cpy (μ 74) (μ 19) 0 0 6)) 20) 0 0 6)) 76) ((zu (zu μ 19 (va_cpy (μ 74) (μ 19) 0 0 6)) 20 (va_cpy ((zu μ 19 (va_cpy (μ 74) (μ 19) 0 0 6)) 75) ((zu μ 19 (va_cpy (μ 74) (μ 19) 0 0 6)) 20) 0 0 6)) 21) 0 0 6)) 22) 0 0 6)) 23 (va_cpy ((zu (zu (zu (zu μ 19 (va_cpy (μ 74) (μ 19) 0 0 6)) 20 (va_cpy ((zu μ 19 (va_cpy (μ 74) (μ 19) 0 0 6)) 75) ((zu μ 19 (va_cpy (μ 74) (μ 19) 0 0 6)) 20) 0 0 6)) 21 (va_cpy ((zu (zu μ 19 (va_cpy (μ 74) (μ 19) 0 0 6)) 20 (va_cpy ((zu μ 19 (va_cpy (μ 74) (μ 19) 0 0 6)) 75) ((zu μ 19 (va_cpy (μ 74) (μ 19) 0 0 6)) 20) 0 0 6)) 76) ((zu (zu μ 19 (va_cpy (μ 74) (μ 19) 0 0 6)) 20 (va_cpy ((zu μ 19 (va_cpy (μ 74) (μ 19) 0 0 6)) 75) ((zu μ 19 (va_cpy (μ 74) (μ 19) 0 0 6)) 20) 0 0 6)) 21) 0 0 6)) 22 (va_cpy ((zu (zu (zu μ 19 (va_cpy (μ 74) (μ 19) 0 0 6)) 20 (va_cpy ((zu μ 19 (va_cpy (μ 74) (μ 19) 0 0 6)) 75) ((zu μ 19 (va_cpy (μ 74) (μ 19) 0 0 6)) 20) 0 0 6)) 21 (va_cpy ((zu (zu μ 19 (va_cpy (μ 74) (μ 19) 0 0 6)) 20 (va_cpy ((zu μ 19 (va_cpy (μ 74) (μ 19) 0 0 6)) 75) ((zu μ 19 (va_cpy (μ 74) (μ 19) 0 0 6)) 20) 0 0 6)) 76) ((zu (zu μ 19 (va_cpy (μ 74) (μ 19) 0 0 6)) 20 (va_cpy ((zu μ 19 (va_cpy (μ 74) (μ 19) 0 0 6)) 75) ((zu μ 19 (va_cpy (μ 74) (μ 19) 0 0 6)) 20) 0 0 6)) 21) 0 0 6)) 77) ((zu (zu (zu μ 19 (va_cpy (μ 74) (μ 19) 0 0 6)) 20 (va_cpy ((zu μ 19 (va_cpy (μ 74) (μ 19) 0 0 6)) 75) ((zu μ 19 (va_cpy (μ 74) (μ 19) 0 0 6)) 20) 0 0 6)) 21 (va_cpy ((zu (zu μ 19 (va_cpy (μ 74) (μ 19) 0 0 6)) 20 (va_cpy ((zu μ 19 (va_cpy (μ 74) (μ 19) 0 0 6)) 75) ((zu μ 19 (va_cpy (μ 74) (μ 19) 0 0 6)) 20) 0 0 6)) 76) ((zu (zu μ 19 (va_cpy (μ 74) (μ 19) 0 0 6)) 20 (va_cpy ((zu μ 19 (va_cpy (μ 74) (μ 19) 0 0 6)) 75) ((zu μ 19 (va_cpy (μ 74) (μ 19) 0 0 6)) 20) 0 0 6)) 21) 0 0 6)) 22) 0 0 6)) 78) ((zu (zu (zu (zu μ 19 (va_cpy (μ 74) (μ 19) 0 0 6)) 20 (va_cpy ((zu μ 19 (va_cpy (μ 74) (μ 19) 0 0 6)) 75) ((zu μ 19 (va_cpy (μ 74) (μ 19) 0 0 6)) 20) 0 0 6)) 21 (va_cpy ((zu (zu μ 19 (va_cpy (μ 74) (μ 19) 0 0 6)) 20 (va_cpy ((zu μ 19 (va_cpy (μ 74) (μ 19) 0 0 6)) 75) ((zu μ 19 (va_cpy (μ 74) (μ 19) 0 0 6)) 20) 0 0 6)) 76) ((zu (zu μ 19 (va_cpy (μ 74) (μ 19) 0 0 6)) 20 (va_cpy ((zu μ 19 (va_cpy (μ 74) (μ 19) 0 0 6)) 75) ((zu μ 19 (va_cpy (μ 74) (μ 19) 0 0 6)) 20) 0 0 6)) 21) 0 0 6)) 22 (va_cpy ((zu (zu (zu μ 19 (va_cpy (μ 74) (μ 19) 0 0 6)) 20 (va_cpy ((zu μ 19 (va_cpy (μ 74) (μ 19) 0 0 6)) 75) ((zu μ 19 (va_cpy (μ 74) (μ 19) 0 0 6)) 20) 0 0 6)) 21 (va_cpy ((zu (zu μ 19 (va_cpy (μ 74) (μ 19) 0 0 6)) 20 (va_cpy ((zu μ 19 (va_cpy (μ 74) (μ 19) 0 0 6)) 75) ((zu μ 19 (va_cpy (μ 74) (μ 19) 0 0 6)) 20) 0 0 6)) 76) ((zu (zu μ 19 (va_cpy (μ 74) (μ 19) 0 0 6)) 20 (va_cpy ((zu μ 19 (va_cpy (μ 74) (μ 19) 0 0 6)) 75) ((zu μ 19 (va_cpy (μ 74) (μ 19) 0 0 6)) 20) 0 0 6)) 21) 0 0 6)) 77) ((zu (zu (zu μ 19 (va_cpy (μ 74) (μ 19) 0 0 6)) 20 (va_cpy ((zu μ 19 (va_cpy (μ 74) (μ 19) 0 0 6)) 75) ((zu μ 19 (va_cpy (μ 74) (μ 19) 0 0 6)) 20) 0 0 6)) 21 (va_cpy ((zu (zu μ 19 (va_cpy (μ 74) (μ 19) 0 0 6)) 20 (va_cpy ((zu μ 19 (va_cpy (μ 74) (μ 19) 0 0 6)) 75) ((zu μ 19 (va_cpy (μ 74) (μ 19) 0 0 6)) 20) 0 0 6)) 76) ((zu (zu μ 19 (va_cpy (μ 74) (μ 19) 0 0 6)) 20 (va_cpy ((zu μ 19 (va_cpy (μ 74) (μ 19) 0 0 6)) 75) ((zu μ 19 (va_cpy (μ 74) (μ 19) 0 0 6)) 20) 0 0 6)) 21) 0 0 6)) 22) 0 0 6)) 23) 0 0 16)) 18 7 (μ 73 7)) 18 8 (μ 73 8)) 18 9 (μ 73 9)) _
  refine zx_putI (nn := 107) fpX8_55 rfl rfl rfl rfl dX8_copyFrom_104 rfl ?_
  refine zx_aload_n (k := 0) (nn := 108) dX8_copyFrom_107 rfl rfl rfl ?_
  refine zx_aload_n (k := 1) (nn := 109) dX8_copyFrom_108 rfl rfl rfl ?_
  refine zx_getI (nn := 112) flX8_32 rfl rfl dX8_copyFrom_109 rfl ?_
  show zX shC σ 1 MX8_copyFrom 112 [(0, zr 18), (1, zr 73)] [zi (μ 73 11), zr 18] (zp (zp (zp (zp (zu (zu (zu (zu (zu μ 19 (va_cpy (μ 74) (μ 19) 0 0 6)) 20 (va_cpy ((zu μ 19 (va_cpy (μ 74) (μ 19) 0 0 6)) 75) ((zu μ 19 (va_cpy (μ 74) (μ 19) 0 0 6)) 20) 0 0 6)) 21 (va_cpy ((zu (zu μ 19 (va_cpy (μ 74) (μ 19) 0 0 6)) 20 (va_cpy ((zu μ 19 (va_cpy (μ 74) (μ 19) 0 0 6)) 75) ((zu μ 19 (va_cpy (μ 74) (μ 19) 0 0 6)) 20) 0 0 6)) 76) ((zu (zu μ 19 (va_cpy (μ 74) (μ 19) 0 0 6)) 20 (va_cpy ((zu μ 19 (va_cpy (μ 74) (μ 19) 0 0 6)) 75) ((zu μ 19 (va_cpy (μ 74) (μ 19) 0 0 6)) 20) 0 0 6)) 21) 0 0 6)) 22 (va_cpy ((zu (zu (zu μ 19 (va_cpy (μ 74) (μ 19) 0 0 6)) 20 (va_cpy ((zu μ 19 (va_cpy (μ 74) (μ 19) 0 0 6)) 75) ((zu μ 19 (va_cpy (μ 74) (μ 19) 0 0 6)) 20) 0 0 6)) 21 (va_cpy ((zu (zu μ 19 (va_cpy (μ 74) (μ 19) 0 0 6)) 20 (va_cpy ((zu μ 19 (va_cpy (μ 74) (μ 19) 0 0 6)) 75) ((zu μ 19 (va_cpy (μ 74) (μ 19) 0 0 6)) 20) 0 0 6)) 76) ((zu (zu μ 19 (va_cpy (μ 74) (μ 19) 0 0 6)) 20 (va_cpy ((zu μ 19 (va_cpy (μ 74) (μ 19) 0 0 6)) 75) ((zu μ 19 (va_cpy (μ 74) (μ 19) 0 0 6)) 20) 0 0 6)) 21) 0 0 6)) 77) ((zu (zu (zu μ 19 (va_cpy (μ 74) (μ 19) 0 0 6)) 20 (va_cpy ((zu μ 19 (va_cpy (μ 74) (μ 19) 0 0 6)) 75) ((zu μ 19 (va_cpy (μ 74) (μ 19) 0 0 6)) 20) 0 0 6)) 21 (va_cpy ((zu (zu μ 19 (va_cpy (μ 74) (μ 19) 0 0 6)) 20 (va_cpy ((zu μ 19 (va_cpy (μ 74) (μ 19) 0 0 6)) 75) ((zu μ 19 (va_cpy (μ 74) (μ 19) 0 0 6)) 20) 0 0 6)) 76) ((zu (zu μ 19 (va_cpy (μ 74) (μ 19) 0 0 6)) 20 (va_cpy ((zu μ 19 (va_cpy (μ 74) (μ 19) 0 0 6)) 75) ((zu μ 19 (va_cpy (μ 74) (μ 19) 0 0 6)) 20) 0 0 6)) 21) 0 0 6)) 22) 0 0 6)) 23 (va_cpy ((zu (zu (zu (zu μ 19 (va_cpy (μ 74) (μ 19) 0 0 6)) 20 (va_cpy ((zu μ 19 (va_cpy (μ 74) (μ 19) 0 0 6)) 75) ((zu μ 19 (va_cpy (μ 74) (μ 19) 0 0 6)) 20) 0 0 6)) 21 (va_cpy ((zu (zu μ 19 (va_cpy (μ 74) (μ 19) 0 0 6)) 20 (va_cpy ((zu μ 19 (va_cpy (μ 74) (μ 19) 0 0 6)) 75) ((zu μ 19 (va_cpy (μ 74) (μ 19) 0 0 6)) 20) 0 0 6)) 76) ((zu (zu μ 19 (va_cpy (μ 74) (μ 19) 0 0 6)) 20 (va_cpy ((zu μ 19 (va_cpy (μ 74) (μ 19) 0 0 6)) 75) ((zu μ 19 (va_cpy (μ 74) (μ 19) 0 0 6)) 20) 0 0 6)) 21) 0 0 6)) 22 (va_cpy ((zu (zu (zu μ 19 (va_cpy (μ 74) (μ 19) 0 0 6)) 20 (va_cpy ((zu μ 19 (va_cpy (μ 74) (μ 19) 0 0 6)) 75) ((zu μ 19 (va_cpy (μ 74) (μ 19) 0 0 6)) 20) 0 0 6)) 21 (va_cpy ((zu (zu μ 19 (va_cpy (μ 74) (μ 19) 0 0 6)) 20 (va_cpy ((zu μ 19 (va_cpy (μ 74) (μ 19) 0 0 6)) 75) ((zu μ 19 (va_cpy (μ 74) (μ 19) 0 0 6)) 20) 0 0 6)) 76) ((zu (zu μ 19 (va_cpy (μ 74) (μ 19) 0 0 6)) 20 (va_cpy ((zu μ 19 (va_cpy (μ 74) (μ 19) 0 0 6)) 75) ((zu μ 19 (va_cpy (μ 74) (μ 19) 0 0 6)) 20) 0 0 6)) 21) 0 0 6)) 77) ((zu (zu (zu μ 19 (va_cpy (μ 74) (μ 19) 0 0 6)) 20 (va_cpy ((zu μ 19 (va_cpy (μ 74) (μ 19) 0 0 6)) 75) ((zu μ 19 (va_cpy (μ 74) (μ 19) 0 0 6)) 20) 0 0 6)) 21 (va_cpy ((zu (zu μ 19 (va_cpy (μ 74) (μ 19) 0 0 6)) 20 (va_cpy ((zu μ 19 (va_cpy (μ 74) (μ 19) 0 0 6)) 75) ((zu μ 19 (va_cpy (μ 74) (μ 19) 0 0 6)) 20) 0 0 6)) 76) ((zu (zu μ 19 (va_cpy (μ 74) (μ 19) 0 0 6)) 20 (va_cpy ((zu μ 19 (va_cpy (μ 74) (μ 19) 0 0 6)) 75) ((zu μ 19 (va_cpy (μ 74) (μ 19) 0 0 6)) 20) 0 0 6)) 21) 0 0 6)) 22) 0 0 6)) 78) ((zu (zu (zu (zu μ 19 (va_cpy (μ 74) (μ 19) 0 0 6)) 20 (va_cpy ((zu μ 19 (va_cpy (μ 74) (μ 19) 0 0 6)) 75) ((zu μ 19 (va_cpy (μ 74) (μ 19) 0 0 6)) 20) 0 0 6)) 21 (va_cpy ((zu (zu μ 19 (va_cpy (μ 74) (μ 19) 0 0 6)) 20 (va_cpy ((zu μ 19 (va_cpy (μ 74) (μ 19) 0 0 6)) 75) ((zu μ 19 (va_cpy (μ 74) (μ 19) 0 0 6)) 20) 0 0 6)) 76) ((zu (zu μ 19 (va_cpy (μ 74) (μ 19) 0 0 6)) 20 (va_cpy ((zu μ 19 (va_cpy (μ 74) (μ 19) 0 0 6)) 75) ((zu μ 19 (va_cpy (μ 74) (μ 19) 0 0 6)) 20) 0 0 6)) 21) 0 0 6)) 22 (va_cpy ((zu (zu (zu μ 19 (va_cpy (μ 74) (μ 19) 0 0 6)) 20 (va_cpy ((zu μ 19 (va_cpy (μ 74) (μ 19) 0 0 6)) 75) ((zu μ 19 (va_cpy (μ 74) (μ 19) 0 0 6)) 20) 0 0 6)) 21 (va_cpy ((zu (zu μ 19 (va_cpy (μ 74) (μ 19) 0 0 6)) 20 (va_cpy ((zu μ 19 (va_cpy (μ 74) (μ 19) 0 0 6)) 75) ((zu μ 19 (va_cpy (μ 74) (μ 19) 0 0 6)) 20) 0 0 6)) 76) ((zu (zu μ 19 (va_cpy (μ 74) (μ 19) 0 0 6)) 20 (va_cpy ((zu μ 19 (va_cpy (μ 74) (μ 19) 0 0 6)) 75) ((zu μ 19 (va_cpy (μ 74) (μ 19) 0 0 6)) 20) 0 0 6)) 21) 0 0 6)) 77) ((zu (zu (zu μ 19 (va_cpy (μ 74) (μ 19) 0 0 6)) 20 (va_cpy ((zu μ 19 (va_cpy (μ 74) (μ 19) 0 0 6)) 75) ((zu μ 19 (va_cpy (μ 74) (μ 19) 0 0 6)) 20) 0 0 6)) 21 (va_cpy ((zu (zu μ 19 (va_cpy (μ 74) (μ 19) 0 0 6)) 20 (va_cpy ((zu μ 19 (va_cpy (μ 74) (μ 19) 0 0 6)) 75) ((zu μ 19 (va_cpy (μ 74) (μ 19) 0 0 6)) 20) 0 0 6)) 76) ((zu (zu μ 19 (va_cpy (μ 74) (μ 19) 0 0 6)) 20 (va_cpy ((zu μ 19 (va_cpy (μ 74) (μ 19) 0 0 6)) 75) ((zu μ 19 (va_cpy (μ 74) (μ 19) 0 0 6)) 20) 0 0 6)) 21) 0 0 6)) 22) 0 0 6)) 23) 0 0 16)) 18 7 (μ 73 7)) 18 8 (μ 73 8)) 18 9 (μ 73 9)) 18 10 (μ 73 10)) _
  refine zx_putI (nn := 115) fpX8_32 rfl rfl rfl rfl dX8_copyFrom_112 rfl ?_
  refine zx_vret rfl dX8_copyFrom_115 ?_
  refine ⟨rfl, cS_copy ?_ ?_ ?_ ?_ ?_ ?_ ?_, ?_⟩
  · simp [zp, zu, upd]
  · simp [zp, zu, upd]
  · simp [zp, zu, upd]
  · simp [zp, zu, upd]
  · simp [zp, zu, upd]
  · intro w h1 h2 j hj
    rcases (show w = 1 ∨ w = 2 ∨ w = 3 ∨ w = 4 by omega) with rfl | rfl | rfl | rfl <;> simp [zp, zu, upd, va_cpy, hj]
  · intro j hj
    simp [zp, zu, upd, va_cpy, hj]
  · exact ((((((((((zJ.rf.u (by decide)).u (by decide)).u (by decide)).u (by decide)).u (by decide)).p (by decide)).p (by decide)).p (by decide)).p (by decide)).p (by decide))
set_option maxHeartbeats 4000000 in
set_option maxRecDepth 100000 in
theorem eX8_fieldOf_18_0 (σ : zG) (μ : zM) : zMet shC σ 0 MX8_fieldOf yX8_fieldOf [zr 18, zi 0] μ (fun rr μ' => rr = some (zr 19) ∧ μ' = μ) := by
  refine zmetF (by decide +kernel) rfl (Nat.le_of_ble_eq_true rfl) ?_
  show zX shC σ 0 MX8_fieldOf 0 [(0, zr 18), (1, zi 0)] [] μ _
  refine zx_iload_n (k := 1) (nn := 1) dX8_fieldOf_0 rfl rfl rfl ?_
  refine zx_tabOut (tgt := 43) dX8_fieldOf_1 (by decide +kernel) (by decide) ?_
  refine zx_aload_n (k := 0) (nn := 44) dX8_fieldOf_43 rfl rfl rfl ?_
  refine zx_getR (q := 19) (nn := 47) flX8_9 rfl rfl dX8_fieldOf_44 rfl ?_
  refine zx_aret rfl (Or.inr ⟨_, rfl⟩) dX8_fieldOf_47 ?_
  exact ⟨rfl, rfl⟩
set_option maxHeartbeats 4000000 in
set_option maxRecDepth 100000 in
theorem eX8_exchange_18_0 (σ : zG) (μ : zM) (l : Nat) (v : Int32) (hl6 : l < 6) : zMet shC σ 1 MX8_exchange yX8_exchange [zr 18, zi (nI l), zi 0, zi v] μ (fun rr μ' => rr = some (zi (μ 19 l)) ∧ μ' = zp μ 19 l v) := by
  refine zmetF (by decide +kernel) rfl (Nat.le_of_ble_eq_true rfl) ?_
  show zX shC σ 1 MX8_exchange 0 [(0, zr 18), (1, zi (nI l)), (2, zi 0), (3, zi v)] [] μ _
  refine zx_aload_n (k := 0) (nn := 1) dX8_exchange_0 rfl rfl rfl ?_
  refine zx_iload_n (k := 2) (nn := 2) dX8_exchange_1 rfl rfl rfl ?_
  refine zx_callVf (nn := 5) (k := 18) (d' := 0) (as := [zi 0]) (rest := []) (n := 1) (eX8_fieldOf_18_0 σ μ) kX8_fieldOf mlX8_62 rfl rfl rfl (by decide) rfl rfl (Nat.le_of_ble_eq_true rfl) dX8_exchange_2 rfl ?_
  show zX shC σ 1 MX8_exchange 5 [(0, zr 18), (1, zi (nI l)), (2, zi 0), (3, zi v)] [zr 19] μ _
  refine zx_astore (nn := 7) (lv' := [(4, zr 19), (0, zr 18), (1, zi (nI l)), (2, zi 0), (3, zi v)]) dX8_exchange_5 (by decide) rfl rfl ?_
  refine zx_aload (k := 0) (nn := 9) dX8_exchange_7 rfl rfl ?_
  refine zx_iload_n (k := 2) (nn := 10) dX8_exchange_9 rfl rfl rfl ?_
  refine zx_iald_n (j := l) (nn := 11) rfl hl6 (by decide) dX8_exchange_10 rfl ?_
  refine zx_istore (nn := 13) (lv' := [(5, zi (μ 19 l)), (4, zr 19), (0, zr 18), (1, zi (nI l)), (2, zi 0), (3, zi v)]) dX8_exchange_11 (by decide) rfl rfl ?_
  refine zx_aload (k := 1) (nn := 15) dX8_exchange_13 rfl rfl ?_
  refine zx_iload_n (k := 3) (nn := 16) dX8_exchange_15 rfl rfl rfl ?_
  refine zx_iload_n (k := 5) (nn := 17) dX8_exchange_16 rfl rfl rfl ?_
  refine zx_iast_n (j := l) (nn := 18) rfl hl6 (by decide) dX8_exchange_17 rfl ?_
  refine zx_iload (k := 0) (nn := 20) dX8_exchange_18 rfl rfl ?_
  refine zx_iret rfl dX8_exchange_20 ?_
  exact ⟨rfl, rfl⟩
set_option maxHeartbeats 4000000 in
set_option maxRecDepth 100000 in
theorem eX8_fieldOf_18_1 (σ : zG) (μ : zM) : zMet shC σ 0 MX8_fieldOf yX8_fieldOf [zr 18, zi 1] μ (fun rr μ' => rr = some (zr 20) ∧ μ' = μ) := by
  refine zmetF (by decide +kernel) rfl (Nat.le_of_ble_eq_true rfl) ?_
  show zX shC σ 0 MX8_fieldOf 0 [(0, zr 18), (1, zi 1)] [] μ _
  refine zx_iload_n (k := 1) (nn := 1) dX8_fieldOf_0 rfl rfl rfl ?_
  refine zx_tabIn (tgt := 28) (off := 27) dX8_fieldOf_1 (by decide +kernel) (by decide +kernel) (by decide +kernel) (by decide) ?_
  refine zx_aload_n (k := 0) (nn := 29) dX8_fieldOf_28 rfl rfl rfl ?_
  refine zx_getR (q := 20) (nn := 32) flX8_15 rfl rfl dX8_fieldOf_29 rfl ?_
  refine zx_aret rfl (Or.inr ⟨_, rfl⟩) dX8_fieldOf_32 ?_
  exact ⟨rfl, rfl⟩
set_option maxHeartbeats 4000000 in
set_option maxRecDepth 100000 in
theorem eX8_exchange_18_1 (σ : zG) (μ : zM) (l : Nat) (v : Int32) (hl6 : l < 6) : zMet shC σ 1 MX8_exchange yX8_exchange [zr 18, zi (nI l), zi 1, zi v] μ (fun rr μ' => rr = some (zi (μ 20 l)) ∧ μ' = zp μ 20 l v) := by
  refine zmetF (by decide +kernel) rfl (Nat.le_of_ble_eq_true rfl) ?_
  show zX shC σ 1 MX8_exchange 0 [(0, zr 18), (1, zi (nI l)), (2, zi 1), (3, zi v)] [] μ _
  refine zx_aload_n (k := 0) (nn := 1) dX8_exchange_0 rfl rfl rfl ?_
  refine zx_iload_n (k := 2) (nn := 2) dX8_exchange_1 rfl rfl rfl ?_
  refine zx_callVf (nn := 5) (k := 18) (d' := 0) (as := [zi 1]) (rest := []) (n := 1) (eX8_fieldOf_18_1 σ μ) kX8_fieldOf mlX8_62 rfl rfl rfl (by decide) rfl rfl (Nat.le_of_ble_eq_true rfl) dX8_exchange_2 rfl ?_
  show zX shC σ 1 MX8_exchange 5 [(0, zr 18), (1, zi (nI l)), (2, zi 1), (3, zi v)] [zr 20] μ _
  refine zx_astore (nn := 7) (lv' := [(4, zr 20), (0, zr 18), (1, zi (nI l)), (2, zi 1), (3, zi v)]) dX8_exchange_5 (by decide) rfl rfl ?_
  refine zx_aload (k := 0) (nn := 9) dX8_exchange_7 rfl rfl ?_
  refine zx_iload_n (k := 2) (nn := 10) dX8_exchange_9 rfl rfl rfl ?_
  refine zx_iald_n (j := l) (nn := 11) rfl hl6 (by decide) dX8_exchange_10 rfl ?_
  refine zx_istore (nn := 13) (lv' := [(5, zi (μ 20 l)), (4, zr 20), (0, zr 18), (1, zi (nI l)), (2, zi 1), (3, zi v)]) dX8_exchange_11 (by decide) rfl rfl ?_
  refine zx_aload (k := 1) (nn := 15) dX8_exchange_13 rfl rfl ?_
  refine zx_iload_n (k := 3) (nn := 16) dX8_exchange_15 rfl rfl rfl ?_
  refine zx_iload_n (k := 5) (nn := 17) dX8_exchange_16 rfl rfl rfl ?_
  refine zx_iast_n (j := l) (nn := 18) rfl hl6 (by decide) dX8_exchange_17 rfl ?_
  refine zx_iload (k := 0) (nn := 20) dX8_exchange_18 rfl rfl ?_
  refine zx_iret rfl dX8_exchange_20 ?_
  exact ⟨rfl, rfl⟩
set_option maxHeartbeats 4000000 in
set_option maxRecDepth 100000 in
theorem eX8_fieldOf_18_2 (σ : zG) (μ : zM) : zMet shC σ 0 MX8_fieldOf yX8_fieldOf [zr 18, zi 2] μ (fun rr μ' => rr = some (zr 21) ∧ μ' = μ) := by
  refine zmetF (by decide +kernel) rfl (Nat.le_of_ble_eq_true rfl) ?_
  show zX shC σ 0 MX8_fieldOf 0 [(0, zr 18), (1, zi 2)] [] μ _
  refine zx_iload_n (k := 1) (nn := 1) dX8_fieldOf_0 rfl rfl rfl ?_
  refine zx_tabIn (tgt := 33) (off := 32) dX8_fieldOf_1 (by decide +kernel) (by decide +kernel) (by decide +kernel) (by decide) ?_
  refine zx_aload_n (k := 0) (nn := 34) dX8_fieldOf_33 rfl rfl rfl ?_
  refine zx_getR (q := 21) (nn := 37) flX8_18 rfl rfl dX8_fieldOf_34 rfl ?_
  refine zx_aret rfl (Or.inr ⟨_, rfl⟩) dX8_fieldOf_37 ?_
  exact ⟨rfl, rfl⟩
set_option maxHeartbeats 4000000 in
set_option maxRecDepth 100000 in
theorem eX8_exchange_18_2 (σ : zG) (μ : zM) (l : Nat) (v : Int32) (hl6 : l < 6) : zMet shC σ 1 MX8_exchange yX8_exchange [zr 18, zi (nI l), zi 2, zi v] μ (fun rr μ' => rr = some (zi (μ 21 l)) ∧ μ' = zp μ 21 l v) := by
  refine zmetF (by decide +kernel) rfl (Nat.le_of_ble_eq_true rfl) ?_
  show zX shC σ 1 MX8_exchange 0 [(0, zr 18), (1, zi (nI l)), (2, zi 2), (3, zi v)] [] μ _
  refine zx_aload_n (k := 0) (nn := 1) dX8_exchange_0 rfl rfl rfl ?_
  refine zx_iload_n (k := 2) (nn := 2) dX8_exchange_1 rfl rfl rfl ?_
  refine zx_callVf (nn := 5) (k := 18) (d' := 0) (as := [zi 2]) (rest := []) (n := 1) (eX8_fieldOf_18_2 σ μ) kX8_fieldOf mlX8_62 rfl rfl rfl (by decide) rfl rfl (Nat.le_of_ble_eq_true rfl) dX8_exchange_2 rfl ?_
  show zX shC σ 1 MX8_exchange 5 [(0, zr 18), (1, zi (nI l)), (2, zi 2), (3, zi v)] [zr 21] μ _
  refine zx_astore (nn := 7) (lv' := [(4, zr 21), (0, zr 18), (1, zi (nI l)), (2, zi 2), (3, zi v)]) dX8_exchange_5 (by decide) rfl rfl ?_
  refine zx_aload (k := 0) (nn := 9) dX8_exchange_7 rfl rfl ?_
  refine zx_iload_n (k := 2) (nn := 10) dX8_exchange_9 rfl rfl rfl ?_
  refine zx_iald_n (j := l) (nn := 11) rfl hl6 (by decide) dX8_exchange_10 rfl ?_
  refine zx_istore (nn := 13) (lv' := [(5, zi (μ 21 l)), (4, zr 21), (0, zr 18), (1, zi (nI l)), (2, zi 2), (3, zi v)]) dX8_exchange_11 (by decide) rfl rfl ?_
  refine zx_aload (k := 1) (nn := 15) dX8_exchange_13 rfl rfl ?_
  refine zx_iload_n (k := 3) (nn := 16) dX8_exchange_15 rfl rfl rfl ?_
  refine zx_iload_n (k := 5) (nn := 17) dX8_exchange_16 rfl rfl rfl ?_
  refine zx_iast_n (j := l) (nn := 18) rfl hl6 (by decide) dX8_exchange_17 rfl ?_
  refine zx_iload (k := 0) (nn := 20) dX8_exchange_18 rfl rfl ?_
  refine zx_iret rfl dX8_exchange_20 ?_
  exact ⟨rfl, rfl⟩
set_option maxHeartbeats 4000000 in
set_option maxRecDepth 100000 in
theorem eX8_fieldOf_18_3 (σ : zG) (μ : zM) : zMet shC σ 0 MX8_fieldOf yX8_fieldOf [zr 18, zi 3] μ (fun rr μ' => rr = some (zr 22) ∧ μ' = μ) := by
  refine zmetF (by decide +kernel) rfl (Nat.le_of_ble_eq_true rfl) ?_
  show zX shC σ 0 MX8_fieldOf 0 [(0, zr 18), (1, zi 3)] [] μ _
  refine zx_iload_n (k := 1) (nn := 1) dX8_fieldOf_0 rfl rfl rfl ?_
  refine zx_tabIn (tgt := 38) (off := 37) dX8_fieldOf_1 (by decide +kernel) (by decide +kernel) (by decide +kernel) (by decide) ?_
  refine zx_aload_n (k := 0) (nn := 39) dX8_fieldOf_38 rfl rfl rfl ?_
  refine zx_getR (q := 22) (nn := 42) flX8_21 rfl rfl dX8_fieldOf_39 rfl ?_
  refine zx_aret rfl (Or.inr ⟨_, rfl⟩) dX8_fieldOf_42 ?_
  exact ⟨rfl, rfl⟩
set_option maxHeartbeats 4000000 in
set_option maxRecDepth 100000 in
theorem eX8_exchange_18_3 (σ : zG) (μ : zM) (l : Nat) (v : Int32) (hl6 : l < 6) : zMet shC σ 1 MX8_exchange yX8_exchange [zr 18, zi (nI l), zi 3, zi v] μ (fun rr μ' => rr = some (zi (μ 22 l)) ∧ μ' = zp μ 22 l v) := by
  refine zmetF (by decide +kernel) rfl (Nat.le_of_ble_eq_true rfl) ?_
  show zX shC σ 1 MX8_exchange 0 [(0, zr 18), (1, zi (nI l)), (2, zi 3), (3, zi v)] [] μ _
  refine zx_aload_n (k := 0) (nn := 1) dX8_exchange_0 rfl rfl rfl ?_
  refine zx_iload_n (k := 2) (nn := 2) dX8_exchange_1 rfl rfl rfl ?_
  refine zx_callVf (nn := 5) (k := 18) (d' := 0) (as := [zi 3]) (rest := []) (n := 1) (eX8_fieldOf_18_3 σ μ) kX8_fieldOf mlX8_62 rfl rfl rfl (by decide) rfl rfl (Nat.le_of_ble_eq_true rfl) dX8_exchange_2 rfl ?_
  show zX shC σ 1 MX8_exchange 5 [(0, zr 18), (1, zi (nI l)), (2, zi 3), (3, zi v)] [zr 22] μ _
  refine zx_astore (nn := 7) (lv' := [(4, zr 22), (0, zr 18), (1, zi (nI l)), (2, zi 3), (3, zi v)]) dX8_exchange_5 (by decide) rfl rfl ?_
  refine zx_aload (k := 0) (nn := 9) dX8_exchange_7 rfl rfl ?_
  refine zx_iload_n (k := 2) (nn := 10) dX8_exchange_9 rfl rfl rfl ?_
  refine zx_iald_n (j := l) (nn := 11) rfl hl6 (by decide) dX8_exchange_10 rfl ?_
  refine zx_istore (nn := 13) (lv' := [(5, zi (μ 22 l)), (4, zr 22), (0, zr 18), (1, zi (nI l)), (2, zi 3), (3, zi v)]) dX8_exchange_11 (by decide) rfl rfl ?_
  refine zx_aload (k := 1) (nn := 15) dX8_exchange_13 rfl rfl ?_
  refine zx_iload_n (k := 3) (nn := 16) dX8_exchange_15 rfl rfl rfl ?_
  refine zx_iload_n (k := 5) (nn := 17) dX8_exchange_16 rfl rfl rfl ?_
  refine zx_iast_n (j := l) (nn := 18) rfl hl6 (by decide) dX8_exchange_17 rfl ?_
  refine zx_iload (k := 0) (nn := 20) dX8_exchange_18 rfl rfl ?_
  refine zx_iret rfl dX8_exchange_20 ?_
  exact ⟨rfl, rfl⟩
set_option maxHeartbeats 4000000 in
set_option maxRecDepth 100000 in
theorem eX8_fieldOf_25_1 (σ : zG) (μ : zM) : zMet shC σ 0 MX8_fieldOf yX8_fieldOf [zr 25, zi 1] μ (fun rr μ' => rr = some (zr 27) ∧ μ' = μ) := by
  refine zmetF (by decide +kernel) rfl (Nat.le_of_ble_eq_true rfl) ?_
  show zX shC σ 0 MX8_fieldOf 0 [(0, zr 25), (1, zi 1)] [] μ _
  refine zx_iload_n (k := 1) (nn := 1) dX8_fieldOf_0 rfl rfl rfl ?_
  refine zx_tabIn (tgt := 28) (off := 27) dX8_fieldOf_1 (by decide +kernel) (by decide +kernel) (by decide +kernel) (by decide) ?_
  refine zx_aload_n (k := 0) (nn := 29) dX8_fieldOf_28 rfl rfl rfl ?_
  refine zx_getR (q := 27) (nn := 32) flX8_15 rfl rfl dX8_fieldOf_29 rfl ?_
  refine zx_aret rfl (Or.inr ⟨_, rfl⟩) dX8_fieldOf_32 ?_
  exact ⟨rfl, rfl⟩
set_option maxHeartbeats 4000000 in
set_option maxRecDepth 100000 in
theorem eX8_exchange_25_1 (σ : zG) (μ : zM) (l : Nat) (v : Int32) (hl6 : l < 6) : zMet shC σ 1 MX8_exchange yX8_exchange [zr 25, zi (nI l), zi 1, zi v] μ (fun rr μ' => rr = some (zi (μ 27 l)) ∧ μ' = zp μ 27 l v) := by
  refine zmetF (by decide +kernel) rfl (Nat.le_of_ble_eq_true rfl) ?_
  show zX shC σ 1 MX8_exchange 0 [(0, zr 25), (1, zi (nI l)), (2, zi 1), (3, zi v)] [] μ _
  refine zx_aload_n (k := 0) (nn := 1) dX8_exchange_0 rfl rfl rfl ?_
  refine zx_iload_n (k := 2) (nn := 2) dX8_exchange_1 rfl rfl rfl ?_
  refine zx_callVf (nn := 5) (k := 25) (d' := 0) (as := [zi 1]) (rest := []) (n := 1) (eX8_fieldOf_25_1 σ μ) kX8_fieldOf mlX8_62 rfl rfl rfl (by decide) rfl rfl (Nat.le_of_ble_eq_true rfl) dX8_exchange_2 rfl ?_
  show zX shC σ 1 MX8_exchange 5 [(0, zr 25), (1, zi (nI l)), (2, zi 1), (3, zi v)] [zr 27] μ _
  refine zx_astore (nn := 7) (lv' := [(4, zr 27), (0, zr 25), (1, zi (nI l)), (2, zi 1), (3, zi v)]) dX8_exchange_5 (by decide) rfl rfl ?_
  refine zx_aload (k := 0) (nn := 9) dX8_exchange_7 rfl rfl ?_
  refine zx_iload_n (k := 2) (nn := 10) dX8_exchange_9 rfl rfl rfl ?_
  refine zx_iald_n (j := l) (nn := 11) rfl hl6 (by decide) dX8_exchange_10 rfl ?_
  refine zx_istore (nn := 13) (lv' := [(5, zi (μ 27 l)), (4, zr 27), (0, zr 25), (1, zi (nI l)), (2, zi 1), (3, zi v)]) dX8_exchange_11 (by decide) rfl rfl ?_
  refine zx_aload (k := 1) (nn := 15) dX8_exchange_13 rfl rfl ?_
  refine zx_iload_n (k := 3) (nn := 16) dX8_exchange_15 rfl rfl rfl ?_
  refine zx_iload_n (k := 5) (nn := 17) dX8_exchange_16 rfl rfl rfl ?_
  refine zx_iast_n (j := l) (nn := 18) rfl hl6 (by decide) dX8_exchange_17 rfl ?_
  refine zx_iload (k := 0) (nn := 20) dX8_exchange_18 rfl rfl ?_
  refine zx_iret rfl dX8_exchange_20 ?_
  exact ⟨rfl, rfl⟩
set_option maxHeartbeats 4000000 in
set_option maxRecDepth 100000 in
theorem eX8_fieldOf_25_2 (σ : zG) (μ : zM) : zMet shC σ 0 MX8_fieldOf yX8_fieldOf [zr 25, zi 2] μ (fun rr μ' => rr = some (zr 28) ∧ μ' = μ) := by
  refine zmetF (by decide +kernel) rfl (Nat.le_of_ble_eq_true rfl) ?_
  show zX shC σ 0 MX8_fieldOf 0 [(0, zr 25), (1, zi 2)] [] μ _
  refine zx_iload_n (k := 1) (nn := 1) dX8_fieldOf_0 rfl rfl rfl ?_
  refine zx_tabIn (tgt := 33) (off := 32) dX8_fieldOf_1 (by decide +kernel) (by decide +kernel) (by decide +kernel) (by decide) ?_
  refine zx_aload_n (k := 0) (nn := 34) dX8_fieldOf_33 rfl rfl rfl ?_
  refine zx_getR (q := 28) (nn := 37) flX8_18 rfl rfl dX8_fieldOf_34 rfl ?_
  refine zx_aret rfl (Or.inr ⟨_, rfl⟩) dX8_fieldOf_37 ?_
  exact ⟨rfl, rfl⟩
set_option maxHeartbeats 4000000 in
set_option maxRecDepth 100000 in
theorem eX8_exchange_25_2 (σ : zG) (μ : zM) (l : Nat) (v : Int32) (hl6 : l < 6) : zMet shC σ 1 MX8_exchange yX8_exchange [zr 25, zi (nI l), zi 2, zi v] μ (fun rr μ' => rr = some (zi (μ 28 l)) ∧ μ' = zp μ 28 l v) := by
  refine zmetF (by decide +kernel) rfl (Nat.le_of_ble_eq_true rfl) ?_
  show zX shC σ 1 MX8_exchange 0 [(0, zr 25), (1, zi (nI l)), (2, zi 2), (3, zi v)] [] μ _
  refine zx_aload_n (k := 0) (nn := 1) dX8_exchange_0 rfl rfl rfl ?_
  refine zx_iload_n (k := 2) (nn := 2) dX8_exchange_1 rfl rfl rfl ?_
  refine zx_callVf (nn := 5) (k := 25) (d' := 0) (as := [zi 2]) (rest := []) (n := 1) (eX8_fieldOf_25_2 σ μ) kX8_fieldOf mlX8_62 rfl rfl rfl (by decide) rfl rfl (Nat.le_of_ble_eq_true rfl) dX8_exchange_2 rfl ?_
  show zX shC σ 1 MX8_exchange 5 [(0, zr 25), (1, zi (nI l)), (2, zi 2), (3, zi v)] [zr 28] μ _
  refine zx_astore (nn := 7) (lv' := [(4, zr 28), (0, zr 25), (1, zi (nI l)), (2, zi 2), (3, zi v)]) dX8_exchange_5 (by decide) rfl rfl ?_
  refine zx_aload (k := 0) (nn := 9) dX8_exchange_7 rfl rfl ?_
  refine zx_iload_n (k := 2) (nn := 10) dX8_exchange_9 rfl rfl rfl ?_
  refine zx_iald_n (j := l) (nn := 11) rfl hl6 (by decide) dX8_exchange_10 rfl ?_
  refine zx_istore (nn := 13) (lv' := [(5, zi (μ 28 l)), (4, zr 28), (0, zr 25), (1, zi (nI l)), (2, zi 2), (3, zi v)]) dX8_exchange_11 (by decide) rfl rfl ?_
  refine zx_aload (k := 1) (nn := 15) dX8_exchange_13 rfl rfl ?_
  refine zx_iload_n (k := 3) (nn := 16) dX8_exchange_15 rfl rfl rfl ?_
  refine zx_iload_n (k := 5) (nn := 17) dX8_exchange_16 rfl rfl rfl ?_
  refine zx_iast_n (j := l) (nn := 18) rfl hl6 (by decide) dX8_exchange_17 rfl ?_
  refine zx_iload (k := 0) (nn := 20) dX8_exchange_18 rfl rfl ?_
  refine zx_iret rfl dX8_exchange_20 ?_
  exact ⟨rfl, rfl⟩
set_option maxHeartbeats 4000000 in
set_option maxRecDepth 100000 in
theorem eX8_fieldOf_25_3 (σ : zG) (μ : zM) : zMet shC σ 0 MX8_fieldOf yX8_fieldOf [zr 25, zi 3] μ (fun rr μ' => rr = some (zr 29) ∧ μ' = μ) := by
  refine zmetF (by decide +kernel) rfl (Nat.le_of_ble_eq_true rfl) ?_
  show zX shC σ 0 MX8_fieldOf 0 [(0, zr 25), (1, zi 3)] [] μ _
  refine zx_iload_n (k := 1) (nn := 1) dX8_fieldOf_0 rfl rfl rfl ?_
  refine zx_tabIn (tgt := 38) (off := 37) dX8_fieldOf_1 (by decide +kernel) (by decide +kernel) (by decide +kernel) (by decide) ?_
  refine zx_aload_n (k := 0) (nn := 39) dX8_fieldOf_38 rfl rfl rfl ?_
  refine zx_getR (q := 29) (nn := 42) flX8_21 rfl rfl dX8_fieldOf_39 rfl ?_
  refine zx_aret rfl (Or.inr ⟨_, rfl⟩) dX8_fieldOf_42 ?_
  exact ⟨rfl, rfl⟩
set_option maxHeartbeats 4000000 in
set_option maxRecDepth 100000 in
theorem eX8_exchange_25_3 (σ : zG) (μ : zM) (l : Nat) (v : Int32) (hl6 : l < 6) : zMet shC σ 1 MX8_exchange yX8_exchange [zr 25, zi (nI l), zi 3, zi v] μ (fun rr μ' => rr = some (zi (μ 29 l)) ∧ μ' = zp μ 29 l v) := by
  refine zmetF (by decide +kernel) rfl (Nat.le_of_ble_eq_true rfl) ?_
  show zX shC σ 1 MX8_exchange 0 [(0, zr 25), (1, zi (nI l)), (2, zi 3), (3, zi v)] [] μ _
  refine zx_aload_n (k := 0) (nn := 1) dX8_exchange_0 rfl rfl rfl ?_
  refine zx_iload_n (k := 2) (nn := 2) dX8_exchange_1 rfl rfl rfl ?_
  refine zx_callVf (nn := 5) (k := 25) (d' := 0) (as := [zi 3]) (rest := []) (n := 1) (eX8_fieldOf_25_3 σ μ) kX8_fieldOf mlX8_62 rfl rfl rfl (by decide) rfl rfl (Nat.le_of_ble_eq_true rfl) dX8_exchange_2 rfl ?_
  show zX shC σ 1 MX8_exchange 5 [(0, zr 25), (1, zi (nI l)), (2, zi 3), (3, zi v)] [zr 29] μ _
  refine zx_astore (nn := 7) (lv' := [(4, zr 29), (0, zr 25), (1, zi (nI l)), (2, zi 3), (3, zi v)]) dX8_exchange_5 (by decide) rfl rfl ?_
  refine zx_aload (k := 0) (nn := 9) dX8_exchange_7 rfl rfl ?_
  refine zx_iload_n (k := 2) (nn := 10) dX8_exchange_9 rfl rfl rfl ?_
  refine zx_iald_n (j := l) (nn := 11) rfl hl6 (by decide) dX8_exchange_10 rfl ?_
  refine zx_istore (nn := 13) (lv' := [(5, zi (μ 29 l)), (4, zr 29), (0, zr 25), (1, zi (nI l)), (2, zi 3), (3, zi v)]) dX8_exchange_11 (by decide) rfl rfl ?_
  refine zx_aload (k := 1) (nn := 15) dX8_exchange_13 rfl rfl ?_
  refine zx_iload_n (k := 3) (nn := 16) dX8_exchange_15 rfl rfl rfl ?_
  refine zx_iload_n (k := 5) (nn := 17) dX8_exchange_16 rfl rfl rfl ?_
  refine zx_iast_n (j := l) (nn := 18) rfl hl6 (by decide) dX8_exchange_17 rfl ?_
  refine zx_iload (k := 0) (nn := 20) dX8_exchange_18 rfl rfl ?_
  refine zx_iret rfl dX8_exchange_20 ?_
  exact ⟨rfl, rfl⟩
set_option maxHeartbeats 4000000 in
set_option maxRecDepth 100000 in
theorem eX8_goByLot_18 (σ : zG) (μ : zM) (ok : pOK (cS 18 μ)) (rok : cROK 1 μ) (hb : pb (cS 18 μ) < pB (cS 18 μ)) : zMet shC σ 5 MX8_goByLot yX8_goByLot [zr 18] μ (fun rr μ' => rr = some (zi (pGain (cR 1 μ) (pSlip (cS 18 μ)) (-1))) ∧ cS 18 μ' = pGo (cR 1 μ) (pSlip (cS 18 μ)) (-1) ∧ zJ [18, 20, 23, 6, 24] μ μ') := by
  have hb1 : μ 18 9 = nI (pb (cS 18 μ)) := (ok_b ok).1
  have hB1 := ok_B ok
  refine zmetF (by decide +kernel) rfl (Nat.le_of_ble_eq_true rfl) ?_
  show zX shC σ 5 MX8_goByLot 0 [(0, zr 18)] [] μ _
  refine zx_aload_n (k := 0) (nn := 1) dX8_goByLot_0 rfl rfl rfl ?_
  refine zx_aload_n (k := 0) (nn := 2) dX8_goByLot_1 rfl rfl rfl ?_
  refine zx_getI (nn := 5) flX8_52 rfl rfl dX8_goByLot_2 rfl ?_
  refine zx_callVf (nn := 8) (k := 18) (d' := 0) (as := [zi (μ 18 9)]) (rest := []) (n := 1) (eX8_hasBeat_18 σ μ (μ 18 9)  ) kX8_hasBeat mlX8_117 rfl rfl rfl (by decide) rfl rfl (Nat.le_of_ble_eq_true rfl) dX8_goByLot_5 rfl ?_
  show zX shC σ 5 MX8_goByLot 8 [(0, zr 18)] [zi (zb (pHas (cS 18 μ 1) (μ 18 9)))] μ _
  refine zx_ifb_ne (tgt := 14) (nn := 11) dX8_goByLot_8 (by decide) rfl (fun h8 => ?_) (fun h8 => ?_)
  · refine zx_aload_n (k := 0) (nn := 15) dX8_goByLot_14 rfl rfl rfl ?_
    refine zx_aload_n (k := 0) (nn := 16) dX8_goByLot_15 rfl rfl rfl ?_
    refine zx_getI (nn := 19) flX8_32 rfl rfl dX8_goByLot_16 rfl ?_
    refine zx_ldc (v := 1103515245) (nn := 21) cwX8_120 dX8_goByLot_19 rfl ?_
    refine zx_imul (nn := 22) dX8_goByLot_21 rfl ?_
    refine zx_sipush (v := 12345) (nn := 25) rfl dX8_goByLot_22 rfl ?_
    refine zx_iadd (nn := 26) dX8_goByLot_25 rfl ?_
    rw [show ((μ 18 11) * 1103515245) + 12345 = pZ (cS 18 μ) from rfl]
    show zX shC σ 5 MX8_goByLot 26 [(0, zr 18)] [zi (pZ (cS 18 μ)), zr 18] μ _
    refine zx_putI (nn := 29) fpX8_32 rfl rfl rfl rfl dX8_goByLot_26 rfl ?_
    refine zx_aload_n (k := 0) (nn := 30) dX8_goByLot_29 rfl rfl rfl ?_
    refine zx_getR (q := 23) (nn := 33) flX8_24 rfl rfl dX8_goByLot_30 rfl ?_
    refine zx_aload_n (k := 0) (nn := 34) dX8_goByLot_33 rfl rfl rfl ?_
    refine zx_getI (nn := 37) flX8_52 rfl rfl dX8_goByLot_34 rfl ?_
    show zX shC σ 5 MX8_goByLot 37 [(0, zr 18)] [zi (μ 18 9), zr 23] (zp μ 18 11 (pZ (cS 18 μ))) _
    rw [show μ 18 9 = nI (pb (cS 18 μ)) from hb1]
    show zX shC σ 5 MX8_goByLot 37 [(0, zr 18)] [zi (nI (pb (cS 18 μ))), zr 23] (zp μ 18 11 (pZ (cS 18 μ))) _
    refine zx_aload_n (k := 0) (nn := 38) dX8_goByLot_37 rfl rfl rfl ?_
    refine zx_getR (q := 23) (nn := 41) flX8_24 rfl rfl dX8_goByLot_38 rfl ?_
    refine zx_aload_n (k := 0) (nn := 42) dX8_goByLot_41 rfl rfl rfl ?_
    refine zx_getI (nn := 45) flX8_52 rfl rfl dX8_goByLot_42 rfl ?_
    show zX shC σ 5 MX8_goByLot 45 [(0, zr 18)] [zi (μ 18 9), zr 23, zi (nI (pb (cS 18 μ))), zr 23] (zp μ 18 11 (pZ (cS 18 μ))) _
    rw [show μ 18 9 = nI (pb (cS 18 μ)) from hb1]
    show zX shC σ 5 MX8_goByLot 45 [(0, zr 18)] [zi (nI (pb (cS 18 μ))), zr 23, zi (nI (pb (cS 18 μ))), zr 23] (zp μ 18 11 (pZ (cS 18 μ))) _
    refine zx_iald_n (j := pb (cS 18 μ)) (nn := 46) rfl (by omega) (by decide) dX8_goByLot_45 rfl ?_
    show zX shC σ 5 MX8_goByLot 46 [(0, zr 18)] [zi (μ 23 (pb (cS 18 μ))), zi (nI (pb (cS 18 μ))), zr 23] (zp μ 18 11 (pZ (cS 18 μ))) _
    refine zx_aload_n (k := 0) (nn := 47) dX8_goByLot_46 rfl rfl rfl ?_
    refine zx_getI (nn := 50) flX8_32 rfl rfl dX8_goByLot_47 rfl ?_
    show zX shC σ 5 MX8_goByLot 50 [(0, zr 18)] [zi (pZ (cS 18 μ)), zi (μ 23 (pb (cS 18 μ))), zi (nI (pb (cS 18 μ))), zr 23] (zp μ 18 11 (pZ (cS 18 μ))) _
    refine zx_bipush (v := 16) (nn := 52) rfl dX8_goByLot_50 rfl ?_
    refine zx_iushr (v := zushr (pZ (cS 18 μ)) 16) (nn := 53) rfl dX8_goByLot_52 rfl ?_
    refine zx_iconst (v := 5) (nn := 54) rfl dX8_goByLot_53 rfl ?_
    refine zx_irem (nn := 55) (by decide) dX8_goByLot_54 rfl ?_
    rw [show (zushr (pZ (cS 18 μ)) 16) - (zushr (pZ (cS 18 μ)) 16) / 5 * 5 = pLot5 (pZ (cS 18 μ)) from rfl]
    show zX shC σ 5 MX8_goByLot 55 [(0, zr 18)] [zi (pLot5 (pZ (cS 18 μ))), zi (μ 23 (pb (cS 18 μ))), zi (nI (pb (cS 18 μ))), zr 23] (zp μ 18 11 (pZ (cS 18 μ))) _
    refine zx_iadd (nn := 56) dX8_goByLot_55 rfl ?_
    refine zx_iconst (v := 2) (nn := 57) rfl dX8_goByLot_56 rfl ?_
    refine zx_isub (nn := 58) dX8_goByLot_57 rfl ?_
    refine zx_iconst (v := 0) (nn := 59) rfl dX8_goByLot_58 rfl ?_
    refine zx_bipush (v := 40) (nn := 61) rfl dX8_goByLot_59 rfl ?_
    refine zx_callSf (nn := 64) (d' := 1) (as := [zi (((μ 23 (pb (cS 18 μ))) + (pLot5 (pZ (cS 18 μ)))) - 2), zi 0, zi 40]) (rest := [zi (nI (pb (cS 18 μ))), zr 23]) (n := 3) (eX8_held σ (zp μ 18 11 (pZ (cS 18 μ))) (((μ 23 (pb (cS 18 μ))) + (pLot5 (pZ (cS 18 μ)))) - 2) 0 40  (by decide)) kX8_held mlX8_96 (by decide) rfl rfl (Nat.le_of_ble_eq_true rfl) dX8_goByLot_61 rfl ?_
    show zX shC σ 5 MX8_goByLot 64 [(0, zr 18)] [zi (pW (((μ 23 (pb (cS 18 μ))) + (pLot5 (pZ (cS 18 μ)))) - 2) 0 40), zi (nI (pb (cS 18 μ))), zr 23] (zp μ 18 11 (pZ (cS 18 μ))) _
    refine zx_iast_n (j := pb (cS 18 μ)) (nn := 65) rfl (by omega) (by decide) dX8_goByLot_64 rfl ?_
    have hb16 : pb (cS 18 μ) < 16 := by omega
    have hM : cS 18 (zp (zp μ 18 11 (pZ (cS 18 μ))) 23 (pb (cS 18 μ)) (pW (((μ 23 (pb (cS 18 μ))) + (pLot5 (pZ (cS 18 μ)))) - 2) 0 40)) = pSlip (cS 18 μ) := by
      funext i
      rw [cS_place (b := 18) hb16 i, cS_int (b := 18) (j := 11) (k := 4) (by omega) i]
      unfold pSlip pPut
      rw [show (cS 18 μ) (31 + pb (cS 18 μ)) = μ 23 (pb (cS 18 μ)) from cS_p hb16]
    have okM : pOK (pSlip (cS 18 μ)) := pOK_put (pOK_put ok (by omega)) (by omega)
    have hbM : pb (pSlip (cS 18 μ)) < pB (pSlip (cS 18 μ)) := by show (pSlip (cS 18 μ) 2).toNatClampNeg < (pSlip (cS 18 μ) 1).toNatClampNeg; unfold pSlip pPut; rw [if_neg (by omega), if_neg (by omega), if_neg (by omega), if_neg (by omega)]; exact hb
    have eRM : cR 1 (zp (zp μ 18 11 (pZ (cS 18 μ))) 23 (pb (cS 18 μ)) (pW (((μ 23 (pb (cS 18 μ))) + (pLot5 (pZ (cS 18 μ)))) - 2) 0 40)) = cR 1 μ := cR_μ (fun k h1 h2 => by rw [zp_ne (by omega), zp_ne (by omega)])
    refine zx_aload_n (k := 0) (nn := 66) dX8_goByLot_65 rfl rfl rfl ?_
    refine zx_iconst (v := -1) (nn := 67) rfl dX8_goByLot_66 rfl ?_
    refine zx_callV (nn := 70) (k := 18) (d' := 4) (as := [zi (-1)]) (rest := []) (n := 1) (eX8_goBy_18 σ (zp (zp μ 18 11 (pZ (cS 18 μ))) 23 (pb (cS 18 μ)) (pW (((μ 23 (pb (cS 18 μ))) + (pLot5 (pZ (cS 18 μ)))) - 2) 0 40)) (-1) (by rw [hM]; exact okM) (cROK_μ (μ := μ) (by rw [zp_ne (by omega), zp_ne (by omega)]) (by rw [zp_ne (by omega), zp_ne (by omega)]) rok) (by rw [hM]; exact hbM)) kX8_goBy mlX8_121 rfl rfl rfl (by decide) rfl rfl (Nat.le_of_ble_eq_true rfl) dX8_goByLot_67 rfl ?_
    rintro _ ν1 ⟨rfl, q1, q2⟩
    show zX shC σ 5 MX8_goByLot 70 [(0, zr 18)] [zi (pGain (cR 1 (zp (zp μ 18 11 (pZ (cS 18 μ))) 23 (pb (cS 18 μ)) (pW (((μ 23 (pb (cS 18 μ))) + (pLot5 (pZ (cS 18 μ)))) - 2) 0 40))) (cS 18 (zp (zp μ 18 11 (pZ (cS 18 μ))) 23 (pb (cS 18 μ)) (pW (((μ 23 (pb (cS 18 μ))) + (pLot5 (pZ (cS 18 μ)))) - 2) 0 40))) (-1))] ν1 _
    refine zx_iret rfl dX8_goByLot_70 ?_
    rw [hM, eRM] at q1
    exact ⟨by rw [hM, eRM], q1, fun k hk => (q2 k (by simp at hk ⊢; omega)).trans (by rw [zp_ne (by simp at hk; omega), zp_ne (by simp at hk; omega)])⟩
  · exact absurd h8 (by rw [show pHas (cS 18 μ 1) (μ 18 9) = true by unfold pHas; rw [hb1, hB1.1, decide_eq_true (nI_pos' (by omega)), decide_eq_true (nI_lt hb (by omega))]; rfl]; decide)
set_option maxHeartbeats 4000000 in
set_option maxRecDepth 100000 in
theorem eX8_goByLot_25 (σ : zG) (μ : zM) (ok : pOK (cS 25 μ)) (rok : cROK 1 μ) (hb : pb (cS 25 μ) < pB (cS 25 μ)) : zMet shC σ 5 MX8_goByLot yX8_goByLot [zr 25] μ (fun rr μ' => rr = some (zi (pGain (cR 1 μ) (pSlip (cS 25 μ)) (-1))) ∧ cS 25 μ' = pGo (cR 1 μ) (pSlip (cS 25 μ)) (-1) ∧ zJ [25, 27, 30, 6, 31] μ μ') := by
  have hb1 : μ 25 9 = nI (pb (cS 25 μ)) := (ok_b ok).1
  have hB1 := ok_B ok
  refine zmetF (by decide +kernel) rfl (Nat.le_of_ble_eq_true rfl) ?_
  show zX shC σ 5 MX8_goByLot 0 [(0, zr 25)] [] μ _
  refine zx_aload_n (k := 0) (nn := 1) dX8_goByLot_0 rfl rfl rfl ?_
  refine zx_aload_n (k := 0) (nn := 2) dX8_goByLot_1 rfl rfl rfl ?_
  refine zx_getI (nn := 5) flX8_52 rfl rfl dX8_goByLot_2 rfl ?_
  refine zx_callVf (nn := 8) (k := 25) (d' := 0) (as := [zi (μ 25 9)]) (rest := []) (n := 1) (eX8_hasBeat_25 σ μ (μ 25 9)  ) kX8_hasBeat mlX8_117 rfl rfl rfl (by decide) rfl rfl (Nat.le_of_ble_eq_true rfl) dX8_goByLot_5 rfl ?_
  show zX shC σ 5 MX8_goByLot 8 [(0, zr 25)] [zi (zb (pHas (cS 25 μ 1) (μ 25 9)))] μ _
  refine zx_ifb_ne (tgt := 14) (nn := 11) dX8_goByLot_8 (by decide) rfl (fun h8 => ?_) (fun h8 => ?_)
  · refine zx_aload_n (k := 0) (nn := 15) dX8_goByLot_14 rfl rfl rfl ?_
    refine zx_aload_n (k := 0) (nn := 16) dX8_goByLot_15 rfl rfl rfl ?_
    refine zx_getI (nn := 19) flX8_32 rfl rfl dX8_goByLot_16 rfl ?_
    refine zx_ldc (v := 1103515245) (nn := 21) cwX8_120 dX8_goByLot_19 rfl ?_
    refine zx_imul (nn := 22) dX8_goByLot_21 rfl ?_
    refine zx_sipush (v := 12345) (nn := 25) rfl dX8_goByLot_22 rfl ?_
    refine zx_iadd (nn := 26) dX8_goByLot_25 rfl ?_
    rw [show ((μ 25 11) * 1103515245) + 12345 = pZ (cS 25 μ) from rfl]
    show zX shC σ 5 MX8_goByLot 26 [(0, zr 25)] [zi (pZ (cS 25 μ)), zr 25] μ _
    refine zx_putI (nn := 29) fpX8_32 rfl rfl rfl rfl dX8_goByLot_26 rfl ?_
    refine zx_aload_n (k := 0) (nn := 30) dX8_goByLot_29 rfl rfl rfl ?_
    refine zx_getR (q := 30) (nn := 33) flX8_24 rfl rfl dX8_goByLot_30 rfl ?_
    refine zx_aload_n (k := 0) (nn := 34) dX8_goByLot_33 rfl rfl rfl ?_
    refine zx_getI (nn := 37) flX8_52 rfl rfl dX8_goByLot_34 rfl ?_
    show zX shC σ 5 MX8_goByLot 37 [(0, zr 25)] [zi (μ 25 9), zr 30] (zp μ 25 11 (pZ (cS 25 μ))) _
    rw [show μ 25 9 = nI (pb (cS 25 μ)) from hb1]
    show zX shC σ 5 MX8_goByLot 37 [(0, zr 25)] [zi (nI (pb (cS 25 μ))), zr 30] (zp μ 25 11 (pZ (cS 25 μ))) _
    refine zx_aload_n (k := 0) (nn := 38) dX8_goByLot_37 rfl rfl rfl ?_
    refine zx_getR (q := 30) (nn := 41) flX8_24 rfl rfl dX8_goByLot_38 rfl ?_
    refine zx_aload_n (k := 0) (nn := 42) dX8_goByLot_41 rfl rfl rfl ?_
    refine zx_getI (nn := 45) flX8_52 rfl rfl dX8_goByLot_42 rfl ?_
    show zX shC σ 5 MX8_goByLot 45 [(0, zr 25)] [zi (μ 25 9), zr 30, zi (nI (pb (cS 25 μ))), zr 30] (zp μ 25 11 (pZ (cS 25 μ))) _
    rw [show μ 25 9 = nI (pb (cS 25 μ)) from hb1]
    show zX shC σ 5 MX8_goByLot 45 [(0, zr 25)] [zi (nI (pb (cS 25 μ))), zr 30, zi (nI (pb (cS 25 μ))), zr 30] (zp μ 25 11 (pZ (cS 25 μ))) _
    refine zx_iald_n (j := pb (cS 25 μ)) (nn := 46) rfl (by omega) (by decide) dX8_goByLot_45 rfl ?_
    show zX shC σ 5 MX8_goByLot 46 [(0, zr 25)] [zi (μ 30 (pb (cS 25 μ))), zi (nI (pb (cS 25 μ))), zr 30] (zp μ 25 11 (pZ (cS 25 μ))) _
    refine zx_aload_n (k := 0) (nn := 47) dX8_goByLot_46 rfl rfl rfl ?_
    refine zx_getI (nn := 50) flX8_32 rfl rfl dX8_goByLot_47 rfl ?_
    show zX shC σ 5 MX8_goByLot 50 [(0, zr 25)] [zi (pZ (cS 25 μ)), zi (μ 30 (pb (cS 25 μ))), zi (nI (pb (cS 25 μ))), zr 30] (zp μ 25 11 (pZ (cS 25 μ))) _
    refine zx_bipush (v := 16) (nn := 52) rfl dX8_goByLot_50 rfl ?_
    refine zx_iushr (v := zushr (pZ (cS 25 μ)) 16) (nn := 53) rfl dX8_goByLot_52 rfl ?_
    refine zx_iconst (v := 5) (nn := 54) rfl dX8_goByLot_53 rfl ?_
    refine zx_irem (nn := 55) (by decide) dX8_goByLot_54 rfl ?_
    rw [show (zushr (pZ (cS 25 μ)) 16) - (zushr (pZ (cS 25 μ)) 16) / 5 * 5 = pLot5 (pZ (cS 25 μ)) from rfl]
    show zX shC σ 5 MX8_goByLot 55 [(0, zr 25)] [zi (pLot5 (pZ (cS 25 μ))), zi (μ 30 (pb (cS 25 μ))), zi (nI (pb (cS 25 μ))), zr 30] (zp μ 25 11 (pZ (cS 25 μ))) _
    refine zx_iadd (nn := 56) dX8_goByLot_55 rfl ?_
    refine zx_iconst (v := 2) (nn := 57) rfl dX8_goByLot_56 rfl ?_
    refine zx_isub (nn := 58) dX8_goByLot_57 rfl ?_
    refine zx_iconst (v := 0) (nn := 59) rfl dX8_goByLot_58 rfl ?_
    refine zx_bipush (v := 40) (nn := 61) rfl dX8_goByLot_59 rfl ?_
    refine zx_callSf (nn := 64) (d' := 1) (as := [zi (((μ 30 (pb (cS 25 μ))) + (pLot5 (pZ (cS 25 μ)))) - 2), zi 0, zi 40]) (rest := [zi (nI (pb (cS 25 μ))), zr 30]) (n := 3) (eX8_held σ (zp μ 25 11 (pZ (cS 25 μ))) (((μ 30 (pb (cS 25 μ))) + (pLot5 (pZ (cS 25 μ)))) - 2) 0 40  (by decide)) kX8_held mlX8_96 (by decide) rfl rfl (Nat.le_of_ble_eq_true rfl) dX8_goByLot_61 rfl ?_
    show zX shC σ 5 MX8_goByLot 64 [(0, zr 25)] [zi (pW (((μ 30 (pb (cS 25 μ))) + (pLot5 (pZ (cS 25 μ)))) - 2) 0 40), zi (nI (pb (cS 25 μ))), zr 30] (zp μ 25 11 (pZ (cS 25 μ))) _
    refine zx_iast_n (j := pb (cS 25 μ)) (nn := 65) rfl (by omega) (by decide) dX8_goByLot_64 rfl ?_
    have hb16 : pb (cS 25 μ) < 16 := by omega
    have hM : cS 25 (zp (zp μ 25 11 (pZ (cS 25 μ))) 30 (pb (cS 25 μ)) (pW (((μ 30 (pb (cS 25 μ))) + (pLot5 (pZ (cS 25 μ)))) - 2) 0 40)) = pSlip (cS 25 μ) := by
      funext i
      rw [cS_place (b := 25) hb16 i, cS_int (b := 25) (j := 11) (k := 4) (by omega) i]
      unfold pSlip pPut
      rw [show (cS 25 μ) (31 + pb (cS 25 μ)) = μ 30 (pb (cS 25 μ)) from cS_p hb16]
    have okM : pOK (pSlip (cS 25 μ)) := pOK_put (pOK_put ok (by omega)) (by omega)
    have hbM : pb (pSlip (cS 25 μ)) < pB (pSlip (cS 25 μ)) := by show (pSlip (cS 25 μ) 2).toNatClampNeg < (pSlip (cS 25 μ) 1).toNatClampNeg; unfold pSlip pPut; rw [if_neg (by omega), if_neg (by omega), if_neg (by omega), if_neg (by omega)]; exact hb
    have eRM : cR 1 (zp (zp μ 25 11 (pZ (cS 25 μ))) 30 (pb (cS 25 μ)) (pW (((μ 30 (pb (cS 25 μ))) + (pLot5 (pZ (cS 25 μ)))) - 2) 0 40)) = cR 1 μ := cR_μ (fun k h1 h2 => by rw [zp_ne (by omega), zp_ne (by omega)])
    refine zx_aload_n (k := 0) (nn := 66) dX8_goByLot_65 rfl rfl rfl ?_
    refine zx_iconst (v := -1) (nn := 67) rfl dX8_goByLot_66 rfl ?_
    refine zx_callV (nn := 70) (k := 25) (d' := 4) (as := [zi (-1)]) (rest := []) (n := 1) (eX8_goBy_25 σ (zp (zp μ 25 11 (pZ (cS 25 μ))) 30 (pb (cS 25 μ)) (pW (((μ 30 (pb (cS 25 μ))) + (pLot5 (pZ (cS 25 μ)))) - 2) 0 40)) (-1) (by rw [hM]; exact okM) (cROK_μ (μ := μ) (by rw [zp_ne (by omega), zp_ne (by omega)]) (by rw [zp_ne (by omega), zp_ne (by omega)]) rok) (by rw [hM]; exact hbM)) kX8_goBy mlX8_121 rfl rfl rfl (by decide) rfl rfl (Nat.le_of_ble_eq_true rfl) dX8_goByLot_67 rfl ?_
    rintro _ ν1 ⟨rfl, q1, q2⟩
    show zX shC σ 5 MX8_goByLot 70 [(0, zr 25)] [zi (pGain (cR 1 (zp (zp μ 25 11 (pZ (cS 25 μ))) 30 (pb (cS 25 μ)) (pW (((μ 30 (pb (cS 25 μ))) + (pLot5 (pZ (cS 25 μ)))) - 2) 0 40))) (cS 25 (zp (zp μ 25 11 (pZ (cS 25 μ))) 30 (pb (cS 25 μ)) (pW (((μ 30 (pb (cS 25 μ))) + (pLot5 (pZ (cS 25 μ)))) - 2) 0 40))) (-1))] ν1 _
    refine zx_iret rfl dX8_goByLot_70 ?_
    rw [hM, eRM] at q1
    exact ⟨by rw [hM, eRM], q1, fun k hk => (q2 k (by simp at hk ⊢; omega)).trans (by rw [zp_ne (by simp at hk; omega), zp_ne (by simp at hk; omega)])⟩
  · exact absurd h8 (by rw [show pHas (cS 25 μ 1) (μ 25 9) = true by unfold pHas; rw [hb1, hB1.1, decide_eq_true (nI_pos' (by omega)), decide_eq_true (nI_lt hb (by omega))]; rfl]; decide)
set_option maxHeartbeats 4000000 in
set_option maxRecDepth 100000 in
theorem eX8_addLamp_18 (σ : zG) (μ : zM) (k : Int32) (a : Int32) (z : Int32) (t : Int32) (ok : pOK (cS 18 μ)) : zMet shC σ 0 MX8_addLamp yX8_addLamp [zr 18, zi k, zi a, zi z, zi t] μ (fun rr μ' => rr = some (zi (if (cS 18 μ) 0 < 6 then (cS 18 μ) 0 else -2)) ∧ cS 18 μ' = (if (cS 18 μ) 0 < 6 then pLamp (cS 18 μ) k a z t else (cS 18 μ)) ∧ zJ [18, 19, 20, 21, 22] μ μ') := by
  have hL1 : μ 18 7 = nI (pL (cS 18 μ)) := (ok_L ok).1
  have hL2 := (ok_L ok).2
  refine zmetF (by decide +kernel) rfl (Nat.le_of_ble_eq_true rfl) ?_
  show zX shC σ 0 MX8_addLamp 0 [(0, zr 18), (1, zi k), (2, zi a), (3, zi z), (4, zi t)] [] μ _
  refine zx_aload_n (k := 0) (nn := 1) dX8_addLamp_0 rfl rfl rfl ?_
  refine zx_getI (nn := 4) flX8_46 rfl rfl dX8_addLamp_1 rfl ?_
  rw [hL1]
  show zX shC σ 0 MX8_addLamp 4 [(0, zr 18), (1, zi k), (2, zi a), (3, zi z), (4, zi t)] [zi (nI (pL (cS 18 μ)))] μ _
  refine zx_istore (nn := 6) (lv' := [(5, zi (nI (pL (cS 18 μ)))), (0, zr 18), (1, zi k), (2, zi a), (3, zi z), (4, zi t)]) dX8_addLamp_4 (by decide) rfl rfl ?_
  refine zx_iload (k := 0) (nn := 8) dX8_addLamp_6 rfl rfl ?_
  refine zx_bipush (v := 6) (nn := 10) rfl dX8_addLamp_8 rfl ?_
  refine zx_icmp_lt (tgt := 16) (nn := 13) dX8_addLamp_10 (by decide) rfl (fun h10 => ?_) (fun h10 => ?_)
  · have hl6 : pL (cS 18 μ) < 6 := (nI_ltI (b := 6) (by omega) (by omega)).mp h10
    refine zx_aload_n (k := 1) (nn := 17) dX8_addLamp_16 rfl rfl rfl ?_
    refine zx_getR (q := 19) (nn := 20) flX8_9 rfl rfl dX8_addLamp_17 rfl ?_
    refine zx_iload (k := 0) (nn := 22) dX8_addLamp_20 rfl rfl ?_
    refine zx_iload_n (k := 2) (nn := 23) dX8_addLamp_22 rfl rfl rfl ?_
    refine zx_iast_n (j := pL (cS 18 μ)) (nn := 24) rfl hl6 (by decide) dX8_addLamp_23 rfl ?_
    refine zx_aload_n (k := 1) (nn := 25) dX8_addLamp_24 rfl rfl rfl ?_
    refine zx_getR (q := 20) (nn := 28) flX8_15 rfl rfl dX8_addLamp_25 rfl ?_
    refine zx_iload (k := 0) (nn := 30) dX8_addLamp_28 rfl rfl ?_
    refine zx_iload_n (k := 3) (nn := 31) dX8_addLamp_30 rfl rfl rfl ?_
    refine zx_iast_n (j := pL (cS 18 μ)) (nn := 32) rfl hl6 (by decide) dX8_addLamp_31 rfl ?_
    refine zx_aload_n (k := 1) (nn := 33) dX8_addLamp_32 rfl rfl rfl ?_
    refine zx_getR (q := 21) (nn := 36) flX8_18 rfl rfl dX8_addLamp_33 rfl ?_
    refine zx_iload (k := 0) (nn := 38) dX8_addLamp_36 rfl rfl ?_
    refine zx_iload_n (k := 4) (nn := 39) dX8_addLamp_38 rfl rfl rfl ?_
    refine zx_iast_n (j := pL (cS 18 μ)) (nn := 40) rfl hl6 (by decide) dX8_addLamp_39 rfl ?_
    refine zx_aload_n (k := 1) (nn := 41) dX8_addLamp_40 rfl rfl rfl ?_
    refine zx_getR (q := 22) (nn := 44) flX8_21 rfl rfl dX8_addLamp_41 rfl ?_
    refine zx_iload (k := 0) (nn := 46) dX8_addLamp_44 rfl rfl ?_
    refine zx_iload (k := 5) (nn := 48) dX8_addLamp_46 rfl rfl ?_
    refine zx_iast_n (j := pL (cS 18 μ)) (nn := 49) rfl hl6 (by decide) dX8_addLamp_48 rfl ?_
    refine zx_aload_n (k := 1) (nn := 50) dX8_addLamp_49 rfl rfl rfl ?_
    refine zx_iload (k := 0) (nn := 52) dX8_addLamp_50 rfl rfl ?_
    refine zx_iconst (v := 1) (nn := 53) rfl dX8_addLamp_52 rfl ?_
    refine zx_iadd (nn := 54) dX8_addLamp_53 rfl ?_
    refine zx_putI (nn := 57) fpX8_46 rfl rfl rfl rfl dX8_addLamp_54 rfl ?_
    refine zx_iload (k := 0) (nn := 59) dX8_addLamp_57 rfl rfl ?_
    refine zx_iret rfl dX8_addLamp_59 ?_
    refine ⟨by rw [if_pos (by rw [(ok_L ok).1]; exact h10)]; rw [(ok_L ok).1], ?_, (((((zJ.rf.p (by decide)).p (by decide)).p (by decide)).p (by decide)).p (by decide))⟩
    rw [if_pos (by rw [(ok_L ok).1]; exact h10)]
    funext i
    rw [cS_int (b := 18) (j := 7) (k := 0) (by omega) i, cS_fld (b := 18) 3 (by omega) hl6 i, cS_fld (b := 18) 2 (by omega) hl6 i, cS_fld (b := 18) 1 (by omega) hl6 i, cS_fld (b := 18) 0 (by omega) hl6 i]
    unfold pLamp
    rw [show cS 18 μ 0 = nI (pL (cS 18 μ)) from hL1]
    (repeat' split) <;> first | rfl | omega
  · refine zx_bipush (v := -2) (nn := 15) rfl dX8_addLamp_13 rfl ?_
    refine zx_iret rfl dX8_addLamp_15 ?_
    exact ⟨by rw [if_neg (by rw [(ok_L ok).1]; exact h10)], by rw [if_neg (by rw [(ok_L ok).1]; exact h10)], zJ.rf⟩
set_option maxHeartbeats 4000000 in
set_option maxRecDepth 100000 in
theorem eX8_addBeat_18 (σ : zG) (μ : zM) (p : Int32) (ok : pOK (cS 18 μ)) : zMet shC σ 0 MX8_addBeat yX8_addBeat [zr 18, zi p] μ (fun rr μ' => rr = some (zi (if (cS 18 μ) 1 < 16 then (cS 18 μ) 1 else -2)) ∧ cS 18 μ' = (if (cS 18 μ) 1 < 16 then pDance (cS 18 μ) p else (cS 18 μ)) ∧ zJ [18, 23] μ μ') := by
  have hB1 : μ 18 8 = nI (pB (cS 18 μ)) := (ok_B ok).1
  have hB2 := (ok_B ok).2
  refine zmetF (by decide +kernel) rfl (Nat.le_of_ble_eq_true rfl) ?_
  show zX shC σ 0 MX8_addBeat 0 [(0, zr 18), (1, zi p)] [] μ _
  refine zx_aload_n (k := 0) (nn := 1) dX8_addBeat_0 rfl rfl rfl ?_
  refine zx_getI (nn := 4) flX8_49 rfl rfl dX8_addBeat_1 rfl ?_
  rw [hB1]
  show zX shC σ 0 MX8_addBeat 4 [(0, zr 18), (1, zi p)] [zi (nI (pB (cS 18 μ)))] μ _
  refine zx_istore_n (nn := 5) (lv' := [(2, zi (nI (pB (cS 18 μ)))), (0, zr 18), (1, zi p)]) dX8_addBeat_4 rfl (by decide) rfl rfl ?_
  refine zx_iload_n (k := 0) (nn := 6) dX8_addBeat_5 rfl rfl rfl ?_
  refine zx_bipush (v := 16) (nn := 8) rfl dX8_addBeat_6 rfl ?_
  refine zx_icmp_lt (tgt := 14) (nn := 11) dX8_addBeat_8 (by decide) rfl (fun h8 => ?_) (fun h8 => ?_)
  · have hb16 : pB (cS 18 μ) < 16 := (nI_ltI (b := 16) (by omega) (by omega)).mp h8
    refine zx_aload_n (k := 1) (nn := 15) dX8_addBeat_14 rfl rfl rfl ?_
    refine zx_getR (q := 23) (nn := 18) flX8_24 rfl rfl dX8_addBeat_15 rfl ?_
    refine zx_iload_n (k := 0) (nn := 19) dX8_addBeat_18 rfl rfl rfl ?_
    refine zx_iload_n (k := 2) (nn := 20) dX8_addBeat_19 rfl rfl rfl ?_
    refine zx_iast_n (j := pB (cS 18 μ)) (nn := 21) rfl hb16 (by decide) dX8_addBeat_20 rfl ?_
    refine zx_aload_n (k := 1) (nn := 22) dX8_addBeat_21 rfl rfl rfl ?_
    refine zx_iload_n (k := 0) (nn := 23) dX8_addBeat_22 rfl rfl rfl ?_
    refine zx_iconst (v := 1) (nn := 24) rfl dX8_addBeat_23 rfl ?_
    refine zx_iadd (nn := 25) dX8_addBeat_24 rfl ?_
    refine zx_putI (nn := 28) fpX8_49 rfl rfl rfl rfl dX8_addBeat_25 rfl ?_
    refine zx_iload_n (k := 0) (nn := 29) dX8_addBeat_28 rfl rfl rfl ?_
    refine zx_iret rfl dX8_addBeat_29 ?_
    refine ⟨by rw [if_pos (by rw [(ok_B ok).1]; exact h8)]; rw [(ok_B ok).1], ?_, ((zJ.rf.p (by decide)).p (by decide))⟩
    rw [if_pos (by rw [(ok_B ok).1]; exact h8)]
    funext i
    rw [cS_int (b := 18) (j := 8) (k := 1) (by omega) i, cS_place (b := 18) hb16 i]
    unfold pDance
    rw [show cS 18 μ 1 = nI (pB (cS 18 μ)) from hB1]
  · refine zx_bipush (v := -2) (nn := 13) rfl dX8_addBeat_11 rfl ?_
    refine zx_iret rfl dX8_addBeat_13 ?_
    exact ⟨by rw [if_neg (by rw [(ok_B ok).1]; exact h8)], by rw [if_neg (by rw [(ok_B ok).1]; exact h8)], zJ.rf⟩
