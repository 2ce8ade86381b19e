/-! plans -/
/-- the score isn't read -/
def pNo (s : Nat → Int32) : Nat → Int32 := pPut s 3 0
theorem pNo_ne {s : Nat → Int32} {i : Nat} (h : i ≠ 3) : pNo s i = s i := if_neg h
theorem pNo_no (s : Nat → Int32) : pNo (pNo s) = pNo s := by
  funext i
  unfold pNo pPut
  split <;> rfl
theorem pNo_ok {s : Nat → Int32} : pOK (pNo s) ↔ pOK s := by
  unfold pOK pL pB pb
  rw [pNo_ne (i := 0) (by omega), pNo_ne (i := 1) (by omega), pNo_ne (i := 2) (by omega)]
  have e : ∀ l w, pNo s (7 + 4 * l + w) = s (7 + 4 * l + w) := fun l w => pNo_ne (by omega)
  have e0 : ∀ l, pNo s (7 + 4 * l) = s (7 + 4 * l) := fun l => pNo_ne (by omega)
  simp only [e, e0]
theorem pNo_same {s t : Nat → Int32} (h : pNo s = pNo t) (l : Nat) : pSame s t l := by
  intro i hi
  have := congrFun h i
  rw [pNo_ne (by omega), pNo_ne (by omega)] at this
  exact this.symm
theorem pNo_at {s t : Nat → Int32} (h : pNo s = pNo t) {i : Nat} (hi : i ≠ 3) : s i = t i := by
  have := congrFun h i
  rw [pNo_ne hi, pNo_ne hi] at this
  exact this
theorem pAims_no {ρ : pR} {s t : Nat → Int32} {h : Int32} (ok : pOK s) (e : pNo s = pNo t) {i : Nat} (hi : i ≠ 3) : pAims ρ s h i = pAims ρ t h i := by
  unfold pAims
  have e0 : pL s = pL t := by unfold pL; rw [pNo_at e (by omega)]
  rw [e0, pNo_at e hi, pBehind_eq (s := s) (t := t) ok (pNo_same e _)]
theorem pGain_no {ρ : pR} {s t : Nat → Int32} {h : Int32} (ok : pOK s) (e : pNo s = pNo t) : pGain ρ s h = pGain ρ t h := by
  unfold pGain pWorths
  have e2 : pb s = pb t := by unfold pb; rw [pNo_at e (by omega)]
  have e0 : pL (pAims ρ s h) = pL (pAims ρ t h) := by unfold pL; rw [pAims_no ok e (by omega)]
  rw [e0, e2, pNo_at e (show 31 + pb t ≠ 3 by omega)]
  exact pSum_eq (fun l _ => pWorth_eq (pAims_no ok e (by omega)) (pAims_no ok e (by omega)))
theorem pGo_no {ρ : pR} {s t : Nat → Int32} {h : Int32} (ok : pOK s) (e : pNo s = pNo t) : pNo (pGo ρ s h) = pNo (pGo ρ t h) := by
  funext i
  by_cases h3 : i = 3
  · subst h3
    unfold pNo pPut
    rw [if_pos rfl, if_pos rfl]
  · rw [pNo_ne h3, pNo_ne h3]
    unfold pGo
    by_cases h2 : i = 2
    · rw [if_pos h2, if_pos h2, pNo_at e (by omega)]
    · rw [if_neg h2, if_neg h2, if_neg h3, if_neg h3, pAims_no ok e h3]
theorem pNo_n {s : Nat → Int32} : pb (pNo s) = pb s ∧ pB (pNo s) = pB s ∧ pL (pNo s) = pL s ∧ pRem (pNo s) = pRem s := pPut_n (by omega)
abbrev pBT : Type := Int32 × Nat × (Nat → Int32)
def pWeigh (sum : Int32) (acts : Nat → Int32) (B : pBT) : pBT := if B.1 < sum then (sum, 1, acts) else if sum = B.1 then (B.1, B.2.1 + 1, B.2.2) else B
def pFoldB (f : Nat → pBT → pBT) : Nat → pBT → pBT
  | 0, B => B
  | a + 1, B => f a (pFoldB f a B)
/-- all plans of m beats more, k acts being told -/
def pSearch (ρ : pR) : Nat → Nat → (Nat → Int32) → Int32 → (Nat → Int32) → pBT → pBT
  | 0, _, _, sum, acts, B => pWeigh sum acts B
  | m + 1, k, s, sum, acts, B => pFoldB (fun a B => pSearch ρ m (k + 1) (pNo (pGo ρ s (nI a - 1))) (sum + pGain ρ s (nI a - 1)) (upd acts k (nI a)) B) (pL s + 1) B
def pPlan (ρ : pR) (s : Nat → Int32) (n : Nat) : pBT := pSearch ρ (min n (pRem s)) 0 (pNo s) 0 (fun _ => 0) (-1, 0, fun _ => 0)
/-- the game: the value from here on, the first act by which it comes -/
def pFoldG (most : Bool) (f : Nat → Int32) : Nat → Int32 × Int32
  | 0 => (0, 0)
  | a + 1 => if a = 0 ∨ (if most then (pFoldG most f a).1 < f a else f a < (pFoldG most f a).1) then (f a, nI a) else pFoldG most f a
def pGame (ρ : pR) : Nat → Nat → (Nat → Int32) → Int32 × Int32
  | 0, _, _ => (0, 0)
  | m + 1, k, s => pFoldG (decide (k % 2 = 0)) (fun a => pGain ρ s (nI a - 1) + (pGame ρ m (k + 1) (pNo (pGo ρ s (nI a - 1)))).1) (pL s + 1)
/-! where they lie -/
def pBr (μ : zM) (n : Nat) (B : pBT) : Prop := μ 39 6 = B.1 ∧ μ 39 7 = nI B.2.1 ∧ ∀ i, i < n → μ 46 i = B.2.2 i
theorem aims_ix {k : Nat} (h : k < 4) : ([41, 42, 43, 44] : List Nat)[(nI k).toNatClampNeg]? = some (41 + k) := by
  rw [nI_clamp (by omega)]
  rcases (show k = 0 ∨ k = 1 ∨ k = 2 ∨ k = 3 by omega) with rfl | rfl | rfl | rfl <;> rfl
theorem aims_sh {k : Nat} (h : k < 4) : shC[41 + k]? = some (.inr (.inl 6)) := by
  rcases (show k = 0 ∨ k = 1 ∨ k = 2 ∨ k = 3 by omega) with rfl | rfl | rfl | rfl <;> rfl
theorem cS_cpy {μ : zM} {f : Nat → Int32} (i : Nat) : cS 25 (zu μ 27 f) i = if 7 ≤ i ∧ i < 31 ∧ (i - 7) % 4 = 1 then f ((i - 7) / 4) else cS 25 μ i := by
  unfold cS
  by_cases h7 : i < 7
  · rw [if_neg (show ¬ (7 ≤ i ∧ i < 31 ∧ (i - 7) % 4 = 1) by omega)]
    simp only [zu_ne (show 25 ≠ 27 by omega)]
    simp [h7]
  · have hx : ¬ i = 0 ∧ ¬ i = 1 ∧ ¬ i = 2 ∧ ¬ i = 3 ∧ ¬ i = 4 := by omega
    by_cases h31 : i < 31
    · simp only [hx, h7, h31, if_true, if_false]
      by_cases hq : (i - 7) % 4 = 1
      · rw [if_pos ⟨by omega, trivial, hq⟩, hq]
        exact congrFun zu_eq _
      · rw [if_neg (fun q => hq q.2.2), zu_ne (by omega)]
    · rw [if_neg (show ¬ (7 ≤ i ∧ i < 31 ∧ (i - 7) % 4 = 1) by omega)]
      simp only [hx, h7, h31, if_false]
      rw [zu_ne (show 25 + 5 ≠ 27 by omega)]
set_option maxHeartbeats 4000000 in
set_option maxRecDepth 100000 in
theorem eX0_keepAims_39 (σ : zG) (μ : zM) (k : Nat) (hk : k < 4) : zMet shC σ 1 MX0_keepAims yX0_keepAims [zr 39, zi (nI k)] μ (fun rr μ' => rr = none ∧ μ' = zu μ (41 + k) (va_cpy (μ 27) (μ (41 + k)) 0 0 6)) := by
  refine zmetF (by decide +kernel) rfl (Nat.le_of_ble_eq_true rfl) ?_
  show zX shC σ 1 MX0_keepAims 0 [(0, zr 39), (1, zi (nI k))] [] μ _
  refine zx_aload_n (k := 0) (nn := 1) dX0_keepAims_0 rfl rfl rfl ?_
  refine zx_getR (q := 25) (nn := 4) flX0_27 rfl rfl dX0_keepAims_1 rfl ?_
  refine zx_getR (q := 27) (nn := 7) flX0_92 rfl rfl dX0_keepAims_4 rfl ?_
  refine zx_iconst (v := 0) (nn := 8) rfl dX0_keepAims_7 rfl ?_
  refine zx_aload_n (k := 0) (nn := 9) dX0_keepAims_8 rfl rfl rfl ?_
  refine zx_getR (q := 40) (nn := 12) flX0_11 rfl rfl dX0_keepAims_9 rfl ?_
  refine zx_iload_n (k := 1) (nn := 13) dX0_keepAims_12 rfl rfl rfl ?_
  refine zx_aald (q := 41 + k) (nn := 14) rfl (vp_in_nI hk (by decide)) (aims_ix hk) dX0_keepAims_13 rfl ?_
  refine zx_iconst (v := 0) (nn := 15) rfl dX0_keepAims_14 rfl ?_
  refine zx_bipush (v := 6) (nn := 17) rfl dX0_keepAims_15 rfl ?_
  refine zx_copy (nn := 20) cplX0 rfl (aims_sh hk) (by decide) (by decide) (by decide) (by decide) (Nat.le_of_ble_eq_true rfl) dX0_keepAims_17 rfl ?_
  show zX shC σ 1 MX0_keepAims 20 [(0, zr 39), (1, zi (nI k))] [] (zu μ (41 + k) (va_cpy (μ 27) (μ (41 + k)) 0 0 6)) _
  refine zx_vret rfl dX0_keepAims_20 ?_
  exact ⟨rfl, rfl⟩
set_option maxHeartbeats 4000000 in
set_option maxRecDepth 100000 in
theorem eX0_takeBack_39 (σ : zG) (μ : zM) (k : Nat) (hk : k < 4) : zMet shC σ 1 MX0_takeBack yX0_takeBack [zr 39, zi (nI k)] μ (fun rr μ' => rr = none ∧ μ' = zp (zu μ 27 (va_cpy (μ (41 + k)) (μ 27) 0 0 6)) 25 9 (μ 25 9 - 1)) := by
  refine zmetF (by decide +kernel) rfl (Nat.le_of_ble_eq_true rfl) ?_
  show zX shC σ 1 MX0_takeBack 0 [(0, zr 39), (1, zi (nI k))] [] μ _
  refine zx_aload_n (k := 0) (nn := 1) dX0_takeBack_0 rfl rfl rfl ?_
  refine zx_getR (q := 40) (nn := 4) flX0_11 rfl rfl dX0_takeBack_1 rfl ?_
  refine zx_iload_n (k := 1) (nn := 5) dX0_takeBack_4 rfl rfl rfl ?_
  refine zx_aald (q := 41 + k) (nn := 6) rfl (vp_in_nI hk (by decide)) (aims_ix hk) dX0_takeBack_5 rfl ?_
  refine zx_iconst (v := 0) (nn := 7) rfl dX0_takeBack_6 rfl ?_
  refine zx_aload_n (k := 0) (nn := 8) dX0_takeBack_7 rfl rfl rfl ?_
  refine zx_getR (q := 25) (nn := 11) flX0_27 rfl rfl dX0_takeBack_8 rfl ?_
  refine zx_getR (q := 27) (nn := 14) flX0_92 rfl rfl dX0_takeBack_11 rfl ?_
  refine zx_iconst (v := 0) (nn := 15) rfl dX0_takeBack_14 rfl ?_
  refine zx_bipush (v := 6) (nn := 17) rfl dX0_takeBack_15 rfl ?_
  refine zx_copy (nn := 20) cplX0 (aims_sh hk) rfl (by decide) (by decide) (by decide) (by decide) (Nat.le_of_ble_eq_true rfl) dX0_takeBack_17 rfl ?_
  show zX shC σ 1 MX0_takeBack 20 [(0, zr 39), (1, zi (nI k))] [] (zu μ 27 (va_cpy (μ (41 + k)) (μ 27) 0 0 6)) _
  refine zx_aload_n (k := 0) (nn := 21) dX0_takeBack_20 rfl rfl rfl ?_
  refine zx_getR (q := 25) (nn := 24) flX0_27 rfl rfl dX0_takeBack_21 rfl ?_
  refine zx_dupr (nn := 25) dX0_takeBack_24 rfl ?_
  refine zx_getI (nn := 28) flX0_40 rfl rfl dX0_takeBack_25 rfl ?_
  show zX shC σ 1 MX0_takeBack 28 [(0, zr 39), (1, zi (nI k))] [zi (μ 25 9), zr 25] (zu μ 27 (va_cpy (μ (41 + k)) (μ 27) 0 0 6)) _
  refine zx_iconst (v := 1) (nn := 29) rfl dX0_takeBack_28 rfl ?_
  refine zx_isub (nn := 30) dX0_takeBack_29 rfl ?_
  refine zx_putI (nn := 33) fpX0_40 rfl rfl rfl rfl dX0_takeBack_30 rfl ?_
  refine zx_vret rfl dX0_takeBack_33 ?_
  exact ⟨rfl, rfl⟩
set_option maxHeartbeats 4000000 in
set_option maxRecDepth 100000 in
theorem eX0_weigh_39 (σ : zG) (μ : zM) (sum : Int32) (n : Nat) (acts : Nat → Int32) (B : pBT) (hn : n ≤ 4) (hB : pBr μ n B) (ha : ∀ i, i < n → μ 45 i = acts i) : zMet shC σ 1 MX0_weigh yX0_weigh [zr 39, zi sum] μ (fun rr μ' => rr = none ∧ pBr μ' n (pWeigh sum acts B) ∧ zJ [39, 46] μ μ' ∧ μ' 39 5 = μ 39 5) := by
  refine zmetF (by decide +kernel) rfl (Nat.le_of_ble_eq_true rfl) ?_
  show zX shC σ 1 MX0_weigh 0 [(0, zr 39), (1, zi sum)] [] μ _
  refine zx_iload_n (k := 1) (nn := 1) dX0_weigh_0 rfl rfl rfl ?_
  refine zx_aload_n (k := 0) (nn := 2) dX0_weigh_1 rfl rfl rfl ?_
  refine zx_getI (nn := 5) flX0_52 rfl rfl dX0_weigh_2 rfl ?_
  refine zx_icmp_le (tgt := 32) (nn := 8) dX0_weigh_5 (by decide) rfl (fun h5 => ?_) (fun h5 => ?_)
  · refine zx_iload_n (k := 1) (nn := 33) dX0_weigh_32 rfl rfl rfl ?_
    refine zx_aload_n (k := 0) (nn := 34) dX0_weigh_33 rfl rfl rfl ?_
    refine zx_getI (nn := 37) flX0_52 rfl rfl dX0_weigh_34 rfl ?_
    refine zx_icmp_ne (tgt := 50) (nn := 40) dX0_weigh_37 (by decide) rfl (fun h37 => ?_) (fun h37 => ?_)
    · refine zx_vret rfl dX0_weigh_50 ?_
      have hnl : ¬ B.1 < sum := by rw [← hB.1]; exact Int32.not_lt.mpr h5
      exact ⟨rfl, by unfold pWeigh; rw [if_neg hnl, if_neg (by rw [← hB.1]; exact h37)]; exact hB, zJ.rf, rfl⟩
    · refine zx_aload_n (k := 0) (nn := 41) dX0_weigh_40 rfl rfl rfl ?_
      refine zx_dupr (nn := 42) dX0_weigh_41 rfl ?_
      refine zx_getI (nn := 45) flX0_55 rfl rfl dX0_weigh_42 rfl ?_
      refine zx_iconst (v := 1) (nn := 46) rfl dX0_weigh_45 rfl ?_
      refine zx_iadd (nn := 47) dX0_weigh_46 rfl ?_
      refine zx_putI (nn := 50) fpX0_55 rfl rfl rfl rfl dX0_weigh_47 rfl ?_
      refine zx_vret rfl dX0_weigh_50 ?_
      have hnl : ¬ B.1 < sum := by rw [← hB.1]; exact Int32.not_lt.mpr h5
      refine ⟨rfl, ?_, zJ.rf.p (by decide), by simp [zp, zu, upd]⟩
      unfold pWeigh
      rw [if_neg hnl, if_pos (by rw [← hB.1]; exact h37)]
      refine ⟨by simp [zp, zu, upd]; exact hB.1, by simp [zp, zu, upd]; rw [hB.2.1]; exact nI_1 _, fun i hi => by simp [zp, zu, upd]; exact hB.2.2 i hi⟩
  · refine zx_aload_n (k := 0) (nn := 9) dX0_weigh_8 rfl rfl rfl ?_
    refine zx_iload_n (k := 1) (nn := 10) dX0_weigh_9 rfl rfl rfl ?_
    refine zx_putI (nn := 13) fpX0_52 rfl rfl rfl rfl dX0_weigh_10 rfl ?_
    refine zx_aload_n (k := 0) (nn := 14) dX0_weigh_13 rfl rfl rfl ?_
    refine zx_iconst (v := 0) (nn := 15) rfl dX0_weigh_14 rfl ?_
    refine zx_putI (nn := 18) fpX0_55 rfl rfl rfl rfl dX0_weigh_15 rfl ?_
    refine zx_aload_n (k := 0) (nn := 19) dX0_weigh_18 rfl rfl rfl ?_
    refine zx_getR (q := 45) (nn := 22) flX0_16 rfl rfl dX0_weigh_19 rfl ?_
    refine zx_iconst (v := 0) (nn := 23) rfl dX0_weigh_22 rfl ?_
    refine zx_aload_n (k := 0) (nn := 24) dX0_weigh_23 rfl rfl rfl ?_
    refine zx_getR (q := 46) (nn := 27) flX0_20 rfl rfl dX0_weigh_24 rfl ?_
    refine zx_iconst (v := 0) (nn := 28) rfl dX0_weigh_27 rfl ?_
    refine zx_iconst (v := 4) (nn := 29) rfl dX0_weigh_28 rfl ?_
    refine zx_copy (nn := 32) cplX0 rfl rfl (by decide) (by decide) (by decide) (by decide) (Nat.le_of_ble_eq_true rfl) dX0_weigh_29 rfl ?_
    show zX shC σ 1 MX0_weigh 32 [(0, zr 39), (1, zi sum)] [] (zu (zp (zp μ 39 6 sum) 39 7 0) 46 (va_cpy ((zp (zp μ 39 6 sum) 39 7 0) 45) ((zp (zp μ 39 6 sum) 39 7 0) 46) 0 0 4)) _
    refine zx_iload_n (k := 1) (nn := 33) dX0_weigh_32 rfl rfl rfl ?_
    refine zx_aload_n (k := 0) (nn := 34) dX0_weigh_33 rfl rfl rfl ?_
    refine zx_getI (nn := 37) flX0_52 rfl rfl dX0_weigh_34 rfl ?_
    show zX shC σ 1 MX0_weigh 37 [(0, zr 39), (1, zi sum)] [zi sum, zi sum] (zu (zp (zp μ 39 6 sum) 39 7 0) 46 (va_cpy ((zp (zp μ 39 6 sum) 39 7 0) 45) ((zp (zp μ 39 6 sum) 39 7 0) 46) 0 0 4)) _
    refine zx_icmp_ne (tgt := 50) (nn := 40) dX0_weigh_37 (by decide) rfl (fun h37 => ?_) (fun h37 => ?_)
    · exact absurd rfl h37
    · refine zx_aload_n (k := 0) (nn := 41) dX0_weigh_40 rfl rfl rfl ?_
      refine zx_dupr (nn := 42) dX0_weigh_41 rfl ?_
      refine zx_getI (nn := 45) flX0_55 rfl rfl dX0_weigh_42 rfl ?_
      show zX shC σ 1 MX0_weigh 45 [(0, zr 39), (1, zi sum)] [zi 0, zr 39] (zu (zp (zp μ 39 6 sum) 39 7 0) 46 (va_cpy ((zp (zp μ 39 6 sum) 39 7 0) 45) ((zp (zp μ 39 6 sum) 39 7 0) 46) 0 0 4)) _
      refine zx_iconst (v := 1) (nn := 46) rfl dX0_weigh_45 rfl ?_
      refine zx_iadd (nn := 47) dX0_weigh_46 rfl ?_
      refine zx_putI (nn := 50) fpX0_55 rfl rfl rfl rfl dX0_weigh_47 rfl ?_
      refine zx_vret rfl dX0_weigh_50 ?_
      have hlt : B.1 < sum := by rw [← hB.1]; exact Int32.not_le.mp h5
      refine ⟨rfl, ?_, ?_, ?_⟩
      · unfold pWeigh
        rw [if_pos hlt]
        refine ⟨by simp [zp, zu, upd], by simp [zp, zu, upd]; rfl, fun i hi => ?_⟩
        simp [zp, zu, upd]
        rw [cpy0 (by omega)]
        exact ha i hi
      · exact ((((zJ.rf.p (by decide)).p (by decide)).u (by decide)).p (by decide))
      · simp [zp, zu, upd]
