/-! what the class's methods of a stage rest on -/
theorem cRun_eq {F G code : Nat → Int32} (h : ∀ i, i < 5 → F i = G i) : ∀ (m i : Nat) (st : List Int32), cRun F code i m st = cRun G code i m st
  | 0, _, _ => rfl
  | m + 1, i, st => by
    show cRun F code (i + 1) m (cStep F (code i) st) = cRun G code (i + 1) m (cStep G (code i) st)
    have e : cStep F (code i) st = cStep G (code i) st := by
      unfold cStep
      by_cases h1 : code i ≤ -6
      · rw [if_pos h1, if_pos h1]
      · rw [if_neg h1, if_neg h1]
        unfold cVal
        by_cases h2 : code i < 0
        · rw [if_pos h2, if_pos h2, h _ (vp_in_iff.mp (cIdx h1 h2) |> fun q => by
            have q0 := cIdx h1 h2
            exact Nat.not_le.mp (fun z => q0 (Or.inr z)))]
        · rw [if_neg h2, if_neg h2]
    rw [e]
    exact cRun_eq h m (i + 1) _
theorem cHolds_F {b r : Nat} {μ : zM} {F G : Nat → Int32} (h : ∀ i, i < 5 → F i = G i) : cHolds b μ r F = cHolds b μ r G := by
  unfold cHolds
  rw [cRun_eq h]
theorem cHolds_μ {b r : Nat} {μ ν : zM} {F : Nat → Int32} (h3 : μ (b + 3) = ν (b + 3)) (h4 : μ (b + 4) = ν (b + 4)) : cHolds b μ r F = cHolds b ν r F := by
  unfold cHolds
  rw [h3, h4]
theorem cROK_μ {b : Nat} {μ ν : zM} (h0 : μ b = ν b) (h3 : μ (b + 3) = ν (b + 3)) (h : cROK b μ) : cROK b ν := by
  unfold cROK at h ⊢
  rw [← h0, ← h3]
  exact h
theorem cR_μ {b : Nat} {μ ν : zM} (h : ∀ k, b ≤ k → k ≤ b + 4 → μ k = ν k) : cR b μ = cR b ν := by
  unfold cR
  rw [h b (by omega) (by omega), h (b + 1) (by omega) (by omega), h (b + 2) (by omega) (by omega)]
  have e : cHolds b μ = cHolds b ν := by
    funext r F
    exact cHolds_μ (h _ (by omega) (by omega)) (h _ (by omega) (by omega))
  rw [e]
/-- near -/
theorem nI_B {s : Nat → Int32} (ok : pOK s) (h : ¬ s 1 = 0) : pB s ≠ 0 := fun q => h (by rw [(ok_B ok).1, q]; rfl)
theorem pNear_m1 {s : Nat → Int32} (ok : pOK s) : pNear s (s 2 - 1) = pSeen s := by
  unfold pSeen pSeenAt
  by_cases h : 0 < s 2
  · rw [if_pos h]
  · rw [if_neg h]
    have hb := (ok_b ok).1
    have h0 : pb s = 0 := by
      rcases Nat.eq_zero_or_pos (pb s) with q | q
      · exact q
      · exact absurd (by rw [hb]; exact nI_lt (a := 0) q (by have := (ok_b ok).2; have := (ok_B ok).2; omega)) h
    rw [hb, h0]
    unfold pNear
    rw [if_pos (show nI 0 - 1 ≤ 0 by decide), if_pos (show (0 : Int32) ≤ 0 by decide)]
/-- what a lamp's next aim depends on -/
def pSame (s t : Nat → Int32) (l : Nat) : Prop := ∀ i, (i = 1 ∨ i = 2 ∨ (7 + 4 * l ≤ i ∧ i < 7 + 4 * l + 4) ∨ (31 ≤ i ∧ i < 47)) → t i = s i
theorem pNear_eq {s t : Nat → Int32} {l : Nat} {x : Int32} (ok : pOK s) (h : pSame s t l) : pNear t x = pNear s x := by
  unfold pNear
  rw [h 1 (by omega), h 31 (by omega)]
  by_cases h1 : s 1 = 0
  · rw [if_pos h1, if_pos h1]
  · rw [if_neg h1, if_neg h1]
    obtain ⟨e1, e2⟩ := ok_B ok
    by_cases h2 : x ≤ 0
    · rw [if_pos h2, if_pos h2]
    · rw [if_neg h2, if_neg h2]
      have hx0 : 0 < x := Int32.not_le.mp h2
      have e3 : s (31 + (s 1 - 1).toNatClampNeg) = t (31 + (s 1 - 1).toNatClampNeg) := by
        rw [e1, nI_sub1 (nI_B ok h1), nI_clamp (by omega)]
        have := nI_B ok h1
        exact (h _ (by omega)).symm
      by_cases h3 : x < s 1
      · rw [if_pos h3, if_pos h3]
        have hv := vp_of (N := 16) (Int32.le_of_lt hx0) h3 e1 e2 (by omega)
        have hlt : x.toNatClampNeg < 16 := Nat.not_le.mp fun q => hv (Or.inr q)
        exact h _ (by omega)
      · rw [if_neg h3, if_neg h3, e3]
theorem pSeenAt_eq {s t : Nat → Int32} {l : Nat} (h : pSame s t l) : pSeenAt t = pSeenAt s := by
  unfold pSeenAt
  rw [h 2 (by omega)]
theorem pFact_eq {s t : Nat → Int32} {l : Nat} (ok : pOK s) (h : pSame s t l) : pFact t l = pFact s l := by
  funext i
  unfold pFact pSeen
  rw [pSeenAt_eq h, pNear_eq ok h, h 2 (by omega), h (7 + 4 * l + 1) (by omega), h (7 + 4 * l + 2) (by omega)]
theorem pGoal_eq {ρ : pR} {s t : Nat → Int32} {l : Nat} (ok : pOK s) (h : pSame s t l) : pGoal ρ t l = pGoal ρ s l := by
  have e : pHit ρ t l = pHit ρ s l := by
    funext r
    unfold pHit
    rw [pFact_eq ok h, h (7 + 4 * l) (by omega)]
  unfold pGoal pSeen
  rw [e, pSeenAt_eq h, pNear_eq ok h]
  cases pFirst (pHit ρ s l) 0 ρ.1 with
  | none => rfl
  | some r =>
    show (if _ then _ else pNear t _) = (if _ then _ else pNear s _)
    rw [pNear_eq ok h]
theorem pWay_eq {s t : Nat → Int32} {l : Nat} {d : Int32} (h : pSame s t l) : pWay t l d = pWay s l d := by
  unfold pWay
  rw [h 2 (by omega), h (7 + 4 * l + 3) (by omega), h (7 + 4 * l) (by omega)]
theorem pBehind_eq {ρ : pR} {s t : Nat → Int32} {l : Nat} (ok : pOK s) (h : pSame s t l) : pBehind ρ t l = pBehind ρ s l := by
  unfold pBehind
  rw [pGoal_eq ok h, h (7 + 4 * l + 1) (by omega)]
  dsimp only
  rw [pWay_eq h]
theorem pFirst_step {f : Nat → Bool} {r n : Nat} (h : r < n) : pFirst f r (n - r) = if f r then some r else pFirst f (r + 1) (n - (r + 1)) := by
  rw [show n - r = (n - (r + 1)) + 1 by omega]
  rfl
theorem zhold1 {t : Int32} (h1 : 1 ≤ t) (h2 : t ≤ 9) : -t ≤ t := by
  have e1 := Int32.le_iff_toInt_le.mp h1
  have e2 := Int32.le_iff_toInt_le.mp h2
  rw [zt1] at e1
  rw [zt9] at e2
  apply Int32.le_iff_toInt_le.mpr
  have e3 : (-t).toInt = -t.toInt := by
    rw [Int32.toInt_neg]
    exact Int.bmod_eq_of_le (by omega) (by omega)
  omega
theorem zhold2 {t : Int32} (h1 : 1 ≤ t) (h2 : t ≤ 9) : -2 * t ≤ 2 * t := by
  have e1 := Int32.le_iff_toInt_le.mp h1
  have e2 := Int32.le_iff_toInt_le.mp h2
  rw [zt1] at e1
  rw [zt9] at e2
  apply Int32.le_iff_toInt_le.mpr
  have e3 : (-2 * t).toInt = -2 * t.toInt := by
    rw [Int32.toInt_mul, ztm2]
    exact Int.bmod_eq_of_le (by omega) (by omega)
  have e4 : (2 * t).toInt = 2 * t.toInt := by
    rw [Int32.toInt_mul, zt2]
    exact Int.bmod_eq_of_le (by omega) (by omega)
  omega
theorem zand31 {i : Nat} {x : Int32} (h : i < 32) : x <<< (nI i &&& 31) = x <<< nI i := by
  have e : ∀ j, j < 32 → nI j &&& 31 = nI j := by decide +kernel
  rw [e i h]
set_option maxHeartbeats 4000000 in
set_option maxRecDepth 100000 in
theorem eX8_placeNear_18 (σ : zG) (μ : zM) (x : Int32) (ok : pOK (cS 18 μ)) : zMet shC σ 0 MX8_placeNear yX8_placeNear [zr 18, zi x] μ (fun rr μ' => rr = some (zi (pNear (cS 18 μ) x)) ∧ μ' = μ) := by
  have hB1 : μ 18 8 = nI (pB (cS 18 μ)) := (ok_B ok).1
  have hB2 := (ok_B ok).2
  refine zmetF (by decide +kernel) rfl (Nat.le_of_ble_eq_true rfl) ?_
  show zX shC σ 0 MX8_placeNear 0 [(0, zr 18), (1, zi x)] [] μ _
  refine zx_aload_n (k := 0) (nn := 1) dX8_placeNear_0 rfl rfl rfl ?_
  refine zx_getI (nn := 4) flX8_49 rfl rfl dX8_placeNear_1 rfl ?_
  refine zx_if_ne (tgt := 9) (nn := 7) dX8_placeNear_4 (by decide) rfl (fun h4 => ?_) (fun h4 => ?_)
  · refine zx_iload_n (k := 1) (nn := 10) dX8_placeNear_9 rfl rfl rfl ?_
    refine zx_if_gt (tgt := 20) (nn := 13) dX8_placeNear_10 (by decide) rfl (fun h10 => ?_) (fun h10 => ?_)
    · refine zx_iload_n (k := 1) (nn := 21) dX8_placeNear_20 rfl rfl rfl ?_
      refine zx_aload_n (k := 0) (nn := 22) dX8_placeNear_21 rfl rfl rfl ?_
      refine zx_getI (nn := 25) flX8_49 rfl rfl dX8_placeNear_22 rfl ?_
      refine zx_icmp_ge (tgt := 37) (nn := 28) dX8_placeNear_25 (by decide) rfl (fun h25 => ?_) (fun h25 => ?_)
      · refine zx_aload_n (k := 0) (nn := 38) dX8_placeNear_37 rfl rfl rfl ?_
        refine zx_getR (q := 23) (nn := 41) flX8_24 rfl rfl dX8_placeNear_38 rfl ?_
        refine zx_aload_n (k := 0) (nn := 42) dX8_placeNear_41 rfl rfl rfl ?_
        refine zx_getI (nn := 45) flX8_49 rfl rfl dX8_placeNear_42 rfl ?_
        refine zx_iconst (v := 1) (nn := 46) rfl dX8_placeNear_45 rfl ?_
        refine zx_isub (nn := 47) dX8_placeNear_46 rfl ?_
        refine zx_iald (nn := 48) rfl (by rw [hB1, nI_sub1 (nI_B ok h4)]; exact vp_in_nI (by have := nI_B ok h4; omega) (by decide)) dX8_placeNear_47 rfl ?_
        refine zx_iret rfl dX8_placeNear_48 ?_
        refine ⟨congrArg (fun x => some (zi x)) ?_, rfl⟩
        unfold pNear
        rw [cS_1]
        rw [if_neg h4]
        rw [if_neg (Int32.not_le.mpr h10)]
        rw [if_neg (Int32.not_lt.mpr h25), hB1, nI_sub1 (nI_B ok h4), nI_clamp (by omega)]
        exact (cS_p (by have := nI_B ok h4; omega)).symm
      · refine zx_aload_n (k := 0) (nn := 29) dX8_placeNear_28 rfl rfl rfl ?_
        refine zx_getR (q := 23) (nn := 32) flX8_24 rfl rfl dX8_placeNear_29 rfl ?_
        refine zx_iload_n (k := 1) (nn := 33) dX8_placeNear_32 rfl rfl rfl ?_
        refine zx_iald (nn := 34) rfl (vp_of (Int32.le_of_lt h10) (Int32.not_le.mp h25) hB1 hB2 (by decide)) dX8_placeNear_33 rfl ?_
        refine zx_goto (tgt := 48) dX8_placeNear_34 (by decide) ?_
        refine zx_iret rfl dX8_placeNear_48 ?_
        refine ⟨congrArg (fun x => some (zi x)) ?_, rfl⟩
        unfold pNear
        rw [cS_1]
        rw [if_neg h4]
        rw [if_neg (Int32.not_le.mpr h10)]
        rw [if_pos (Int32.not_le.mp h25)]
        exact (cS_p (Nat.not_le.mp fun q => (vp_of (N := 16) (Int32.le_of_lt h10) (Int32.not_le.mp h25) hB1 hB2 (by decide)) (Or.inr q))).symm
    · refine zx_aload_n (k := 0) (nn := 14) dX8_placeNear_13 rfl rfl rfl ?_
      refine zx_getR (q := 23) (nn := 17) flX8_24 rfl rfl dX8_placeNear_14 rfl ?_
      refine zx_iconst (v := 0) (nn := 18) rfl dX8_placeNear_17 rfl ?_
      refine zx_iald_n (j := 0) (nn := 19) rfl (by omega) (by decide) dX8_placeNear_18 rfl ?_
      refine zx_iret rfl dX8_placeNear_19 ?_
      refine ⟨congrArg (fun x => some (zi x)) ?_, rfl⟩
      unfold pNear
      rw [cS_1]
      rw [if_neg h4]
      rw [if_pos (Int32.not_lt.mp h10)]
      exact (cS_p (j := 0) (by omega)).symm
  · refine zx_iconst (v := 0) (nn := 8) rfl dX8_placeNear_7 rfl ?_
    refine zx_iret rfl dX8_placeNear_8 ?_
    refine ⟨congrArg (fun x => some (zi x)) ?_, rfl⟩
    unfold pNear
    rw [cS_1]
    rw [if_pos h4]
set_option maxHeartbeats 4000000 in
set_option maxRecDepth 100000 in
theorem eX8_tellFacts_18 (σ : zG) (μ : zM) (l : Nat) (v : Int32) (hl6 : l < 6) : zMet shC σ 0 MX8_tellFacts yX8_tellFacts [zr 18, zi (nI l), zi v] μ (fun rr μ' => rr = none ∧ zJ [24] μ μ' ∧ μ' 24 0 = μ 18 9 ∧ μ' 24 1 = v ∧ μ' 24 2 = μ 20 l ∧ μ' 24 3 = μ 21 l ∧ μ' 24 4 = nI l) := by
  refine zmetF (by decide +kernel) rfl (Nat.le_of_ble_eq_true rfl) ?_
  show zX shC σ 0 MX8_tellFacts 0 [(0, zr 18), (1, zi (nI l)), (2, zi v)] [] μ _
  refine zx_aload_n (k := 0) (nn := 1) dX8_tellFacts_0 rfl rfl rfl ?_
  refine zx_getR (q := 24) (nn := 4) flX8_29 rfl rfl dX8_tellFacts_1 rfl ?_
  refine zx_iconst (v := 0) (nn := 5) rfl dX8_tellFacts_4 rfl ?_
  refine zx_aload_n (k := 0) (nn := 6) dX8_tellFacts_5 rfl rfl rfl ?_
  refine zx_getI (nn := 9) flX8_52 rfl rfl dX8_tellFacts_6 rfl ?_
  refine zx_iast_n (j := 0) (nn := 10) rfl (by omega) (by decide) dX8_tellFacts_9 rfl ?_
  refine zx_aload_n (k := 0) (nn := 11) dX8_tellFacts_10 rfl rfl rfl ?_
  refine zx_getR (q := 24) (nn := 14) flX8_29 rfl rfl dX8_tellFacts_11 rfl ?_
  refine zx_iconst (v := 1) (nn := 15) rfl dX8_tellFacts_14 rfl ?_
  refine zx_iload_n (k := 2) (nn := 16) dX8_tellFacts_15 rfl rfl rfl ?_
  refine zx_iast_n (j := 1) (nn := 17) rfl (by omega) (by decide) dX8_tellFacts_16 rfl ?_
  refine zx_aload_n (k := 0) (nn := 18) dX8_tellFacts_17 rfl rfl rfl ?_
  refine zx_getR (q := 24) (nn := 21) flX8_29 rfl rfl dX8_tellFacts_18 rfl ?_
  refine zx_iconst (v := 2) (nn := 22) rfl dX8_tellFacts_21 rfl ?_
  refine zx_aload_n (k := 0) (nn := 23) dX8_tellFacts_22 rfl rfl rfl ?_
  refine zx_getR (q := 20) (nn := 26) flX8_15 rfl rfl dX8_tellFacts_23 rfl ?_
  refine zx_iload_n (k := 1) (nn := 27) dX8_tellFacts_26 rfl rfl rfl ?_
  refine zx_iald_n (j := l) (nn := 28) rfl (by omega) (by decide) dX8_tellFacts_27 rfl ?_
  show zX shC σ 0 MX8_tellFacts 28 [(0, zr 18), (1, zi (nI l)), (2, zi v)] [zi (μ 20 l), zi 2, zr 24] (zp (zp μ 24 0 (μ 18 9)) 24 1 v) _
  refine zx_iast_n (j := 2) (nn := 29) rfl (by omega) (by decide) dX8_tellFacts_28 rfl ?_
  refine zx_aload_n (k := 0) (nn := 30) dX8_tellFacts_29 rfl rfl rfl ?_
  refine zx_getR (q := 24) (nn := 33) flX8_29 rfl rfl dX8_tellFacts_30 rfl ?_
  refine zx_iconst (v := 3) (nn := 34) rfl dX8_tellFacts_33 rfl ?_
  refine zx_aload_n (k := 0) (nn := 35) dX8_tellFacts_34 rfl rfl rfl ?_
  refine zx_getR (q := 21) (nn := 38) flX8_18 rfl rfl dX8_tellFacts_35 rfl ?_
  refine zx_iload_n (k := 1) (nn := 39) dX8_tellFacts_38 rfl rfl rfl ?_
  refine zx_iald_n (j := l) (nn := 40) rfl (by omega) (by decide) dX8_tellFacts_39 rfl ?_
  show zX shC σ 0 MX8_tellFacts 40 [(0, zr 18), (1, zi (nI l)), (2, zi v)] [zi (μ 21 l), zi 3, zr 24] (zp (zp (zp μ 24 0 (μ 18 9)) 24 1 v) 24 2 (μ 20 l)) _
  refine zx_iast_n (j := 3) (nn := 41) rfl (by omega) (by decide) dX8_tellFacts_40 rfl ?_
  refine zx_aload_n (k := 0) (nn := 42) dX8_tellFacts_41 rfl rfl rfl ?_
  refine zx_getR (q := 24) (nn := 45) flX8_29 rfl rfl dX8_tellFacts_42 rfl ?_
  refine zx_iconst (v := 4) (nn := 46) rfl dX8_tellFacts_45 rfl ?_
  refine zx_iload_n (k := 1) (nn := 47) dX8_tellFacts_46 rfl rfl rfl ?_
  refine zx_iast_n (j := 4) (nn := 48) rfl (by omega) (by decide) dX8_tellFacts_47 rfl ?_
  refine zx_vret rfl dX8_tellFacts_48 ?_
  refine ⟨rfl, ((((zJ.rf.p (by decide)).p (by decide)).p (by decide)).p (by decide)).p (by decide), ?_⟩
  simp [zp_eq, upd]
set_option maxHeartbeats 4000000 in
set_option maxRecDepth 100000 in
theorem eX8_wayOf_18 (σ : zG) (μ : zM) (l : Nat) (d : Int32) (ok : pOK (cS 18 μ)) (hl : l < pL (cS 18 μ)) : zMet shC σ 2 MX8_wayOf yX8_wayOf [zr 18, zi (nI l), zi d] μ (fun rr μ' => rr = some (zi (pWay (cS 18 μ) l d)) ∧ μ' = μ) := by
  have hl6 : l < 6 := Nat.lt_of_lt_of_le hl (ok_L ok).2
  have hT := ((ok.2.2.2 l hl).2.2)
  rw [cS_t hl6] at hT
  have hK := ((ok.2.2.2 l hl).1)
  rw [cS_k hl6] at hK
  refine zmetF (by decide +kernel) rfl (Nat.le_of_ble_eq_true rfl) ?_
  show zX shC σ 2 MX8_wayOf 0 [(0, zr 18), (1, zi (nI l)), (2, zi d)] [] μ _
  refine zx_aload_n (k := 0) (nn := 1) dX8_wayOf_0 rfl rfl rfl ?_
  refine zx_getR (q := 22) (nn := 4) flX8_21 rfl rfl dX8_wayOf_1 rfl ?_
  refine zx_iload_n (k := 1) (nn := 5) dX8_wayOf_4 rfl rfl rfl ?_
  refine zx_iald_n (j := l) (nn := 6) rfl hl6 (by decide) dX8_wayOf_5 rfl ?_
  refine zx_istore_n (nn := 7) (lv' := [(3, zi (μ 22 l)), (0, zr 18), (1, zi (nI l)), (2, zi d)]) dX8_wayOf_6 rfl (by decide) rfl rfl ?_
  refine zx_iload_n (k := 3) (nn := 8) dX8_wayOf_7 rfl rfl rfl ?_
  refine zx_bipush (v := -2) (nn := 10) rfl dX8_wayOf_8 rfl ?_
  refine zx_iload_n (k := 0) (nn := 11) dX8_wayOf_10 rfl rfl rfl ?_
  refine zx_imul (nn := 12) dX8_wayOf_11 rfl ?_
  refine zx_iconst (v := 2) (nn := 13) rfl dX8_wayOf_12 rfl ?_
  refine zx_iload_n (k := 0) (nn := 14) dX8_wayOf_13 rfl rfl rfl ?_
  refine zx_imul (nn := 15) dX8_wayOf_14 rfl ?_
  refine zx_callSf (nn := 18) (d' := 1) (as := [zi d, zi ((-2) * (μ 22 l)), zi (2 * (μ 22 l))]) (rest := []) (n := 3) (eX8_held σ μ d ((-2) * (μ 22 l)) (2 * (μ 22 l))  (zhold2 hT.1 hT.2)) kX8_held mlX8_96 (by decide) rfl rfl (Nat.le_of_ble_eq_true rfl) dX8_wayOf_15 rfl ?_
  show zX shC σ 2 MX8_wayOf 18 [(3, zi (μ 22 l)), (0, zr 18), (1, zi (nI l)), (2, zi d)] [zi (pW d ((-2) * (μ 22 l)) (2 * (μ 22 l)))] μ _
  refine zx_istore (nn := 20) (lv' := [(4, zi (pW d ((-2) * (μ 22 l)) (2 * (μ 22 l)))), (3, zi (μ 22 l)), (0, zr 18), (1, zi (nI l)), (2, zi d)]) dX8_wayOf_18 (by decide) rfl rfl ?_
  refine zx_aload_n (k := 2) (nn := 21) dX8_wayOf_20 rfl rfl rfl ?_
  refine zx_getR (q := 19) (nn := 24) flX8_9 rfl rfl dX8_wayOf_21 rfl ?_
  refine zx_iload_n (k := 3) (nn := 25) dX8_wayOf_24 rfl rfl rfl ?_
  refine zx_iald_n (j := l) (nn := 26) rfl hl6 (by decide) dX8_wayOf_25 rfl ?_
  by_cases h26_2 : (μ 19 l) = 2
  · refine zx_sw h26_2 ?_
    refine zx_tabIn (tgt := 56) (off := 30) dX8_wayOf_26 (by decide +kernel) (by decide +kernel) (by decide +kernel) (by decide) ?_
    refine zx_iload (k := 0) (nn := 58) dX8_wayOf_56 rfl rfl ?_
    refine zx_iret rfl dX8_wayOf_58 ?_
    refine ⟨congrArg (fun x => some (zi x)) ?_, rfl⟩
    unfold pWay
    rw [cS_t hl6, cS_k hl6, cS_2]
    dsimp only
    rw [if_pos h26_2]
  by_cases h26_3 : (μ 19 l) = 3
  · refine zx_sw h26_3 ?_
    refine zx_tabIn (tgt := 59) (off := 33) dX8_wayOf_26 (by decide +kernel) (by decide +kernel) (by decide +kernel) (by decide) ?_
    refine zx_iload (k := 0) (nn := 61) dX8_wayOf_59 rfl rfl ?_
    refine zx_iload (k := 0) (nn := 63) dX8_wayOf_61 rfl rfl ?_
    refine zx_iconst (v := 0) (nn := 64) rfl dX8_wayOf_63 rfl ?_
    refine zx_callSf (nn := 67) (d' := 0) (as := [zi (pW d ((-2) * (μ 22 l)) (2 * (μ 22 l))), zi 0]) (rest := [zi (pW d ((-2) * (μ 22 l)) (2 * (μ 22 l)))]) (n := 2) (eJ6_compare_7cf53 σ μ (pW d ((-2) * (μ 22 l)) (2 * (μ 22 l))) 0  ) kJ6_compare_7cf53 mlX8_100 (by decide) rfl rfl (Nat.le_of_ble_eq_true rfl) dX8_wayOf_64 rfl ?_
    show zX shC σ 2 MX8_wayOf 67 [(4, zi (pW d ((-2) * (μ 22 l)) (2 * (μ 22 l)))), (3, zi (μ 22 l)), (0, zr 18), (1, zi (nI l)), (2, zi d)] [zi (pCmp (pW d ((-2) * (μ 22 l)) (2 * (μ 22 l))) 0), zi (pW d ((-2) * (μ 22 l)) (2 * (μ 22 l)))] μ _
    refine zx_iadd (nn := 68) dX8_wayOf_67 rfl ?_
    refine zx_iret rfl dX8_wayOf_68 ?_
    refine ⟨congrArg (fun x => some (zi x)) ?_, rfl⟩
    unfold pWay
    rw [cS_t hl6, cS_k hl6, cS_2]
    dsimp only
    rw [if_neg h26_2, if_pos h26_3]
  by_cases h26_4 : (μ 19 l) = 4
  · refine zx_sw h26_4 ?_
    refine zx_tabIn (tgt := 69) (off := 43) dX8_wayOf_26 (by decide +kernel) (by decide +kernel) (by decide +kernel) (by decide) ?_
    refine zx_iload_n (k := 4) (nn := 70) dX8_wayOf_69 rfl rfl rfl ?_
    refine zx_iconst (v := 2) (nn := 71) rfl dX8_wayOf_70 rfl ?_
    refine zx_idiv (nn := 72) (by decide) dX8_wayOf_71 rfl ?_
    refine zx_iload_n (k := 1) (nn := 73) dX8_wayOf_72 rfl rfl rfl ?_
    refine zx_ineg (nn := 74) dX8_wayOf_73 rfl ?_
    refine zx_iload_n (k := 1) (nn := 75) dX8_wayOf_74 rfl rfl rfl ?_
    refine zx_callSf (nn := 78) (d' := 1) (as := [zi (d / 2), zi (-(μ 22 l)), zi (μ 22 l)]) (rest := []) (n := 3) (eX8_held σ μ (d / 2) (-(μ 22 l)) (μ 22 l)  (zhold1 hT.1 hT.2)) kX8_held mlX8_96 (by decide) rfl rfl (Nat.le_of_ble_eq_true rfl) dX8_wayOf_75 rfl ?_
    show zX shC σ 2 MX8_wayOf 78 [(4, zi (pW d ((-2) * (μ 22 l)) (2 * (μ 22 l)))), (3, zi (μ 22 l)), (0, zr 18), (1, zi (nI l)), (2, zi d)] [zi (pW (d / 2) (-(μ 22 l)) (μ 22 l))] μ _
    refine zx_iret rfl dX8_wayOf_78 ?_
    refine ⟨congrArg (fun x => some (zi x)) ?_, rfl⟩
    unfold pWay
    rw [cS_t hl6, cS_k hl6, cS_2]
    dsimp only
    rw [if_neg h26_2, if_neg h26_3, if_pos h26_4]
  by_cases h26_5 : (μ 19 l) = 5
  · refine zx_sw h26_5 ?_
    refine zx_tabIn (tgt := 79) (off := 53) dX8_wayOf_26 (by decide +kernel) (by decide +kernel) (by decide +kernel) (by decide) ?_
    refine zx_aload_n (k := 2) (nn := 80) dX8_wayOf_79 rfl rfl rfl ?_
    refine zx_getI (nn := 83) flX8_52 rfl rfl dX8_wayOf_80 rfl ?_
    refine zx_iconst (v := 4) (nn := 84) rfl dX8_wayOf_83 rfl ?_
    refine zx_irem (nn := 85) (by decide) dX8_wayOf_84 rfl ?_
    refine zx_iconst (v := 3) (nn := 86) rfl dX8_wayOf_85 rfl ?_
    refine zx_icmp_ne (tgt := 93) (nn := 89) dX8_wayOf_86 (by decide) rfl (fun h86 => ?_) (fun h86 => ?_)
    · refine zx_iload_n (k := 4) (nn := 94) dX8_wayOf_93 rfl rfl rfl ?_
      refine zx_iconst (v := 2) (nn := 95) rfl dX8_wayOf_94 rfl ?_
      refine zx_idiv (nn := 96) (by decide) dX8_wayOf_95 rfl ?_
      refine zx_iload_n (k := 1) (nn := 97) dX8_wayOf_96 rfl rfl rfl ?_
      refine zx_ineg (nn := 98) dX8_wayOf_97 rfl ?_
      refine zx_iload_n (k := 1) (nn := 99) dX8_wayOf_98 rfl rfl rfl ?_
      refine zx_callSf (nn := 102) (d' := 1) (as := [zi (d / 2), zi (-(μ 22 l)), zi (μ 22 l)]) (rest := []) (n := 3) (eX8_held σ μ (d / 2) (-(μ 22 l)) (μ 22 l)  (zhold1 hT.1 hT.2)) kX8_held mlX8_96 (by decide) rfl rfl (Nat.le_of_ble_eq_true rfl) dX8_wayOf_99 rfl ?_
      show zX shC σ 2 MX8_wayOf 102 [(4, zi (pW d ((-2) * (μ 22 l)) (2 * (μ 22 l)))), (3, zi (μ 22 l)), (0, zr 18), (1, zi (nI l)), (2, zi d)] [zi (pW (d / 2) (-(μ 22 l)) (μ 22 l))] μ _
      refine zx_iret rfl dX8_wayOf_102 ?_
      refine ⟨congrArg (fun x => some (zi x)) ?_, rfl⟩
      unfold pWay
      rw [cS_t hl6, cS_k hl6, cS_2]
      dsimp only
      rw [if_neg h26_2, if_neg h26_3, if_neg h26_4, if_pos h26_5]
      rw [if_neg h86]
    · refine zx_iconst (v := 0) (nn := 90) rfl dX8_wayOf_89 rfl ?_
      refine zx_goto (tgt := 102) dX8_wayOf_90 (by decide) ?_
      refine zx_iret rfl dX8_wayOf_102 ?_
      refine ⟨congrArg (fun x => some (zi x)) ?_, rfl⟩
      unfold pWay
      rw [cS_t hl6, cS_k hl6, cS_2]
      dsimp only
      rw [if_neg h26_2, if_neg h26_3, if_neg h26_4, if_pos h26_5]
      rw [if_pos h86]
  refine zx_tabOut (tgt := 103) dX8_wayOf_26 (zsw_out (lo := 2) (hi := 5) (fun k hk1 hk2 => by rcases (show k = 2 ∨ k = 3 ∨ k = 4 ∨ k = 5 by omega) with rfl | rfl | rfl | rfl; exact lv_neT h26_2 rfl; exact lv_neT h26_3 rfl; exact lv_neT h26_4 rfl; exact lv_neT h26_5 rfl)) (by decide) ?_
  refine zx_iload_n (k := 4) (nn := 104) dX8_wayOf_103 rfl rfl rfl ?_
  refine zx_iload_n (k := 1) (nn := 105) dX8_wayOf_104 rfl rfl rfl ?_
  refine zx_ineg (nn := 106) dX8_wayOf_105 rfl ?_
  refine zx_iload_n (k := 1) (nn := 107) dX8_wayOf_106 rfl rfl rfl ?_
  refine zx_callSf (nn := 110) (d' := 1) (as := [zi d, zi (-(μ 22 l)), zi (μ 22 l)]) (rest := []) (n := 3) (eX8_held σ μ d (-(μ 22 l)) (μ 22 l)  (zhold1 hT.1 hT.2)) kX8_held mlX8_96 (by decide) rfl rfl (Nat.le_of_ble_eq_true rfl) dX8_wayOf_107 rfl ?_
  show zX shC σ 2 MX8_wayOf 110 [(4, zi (pW d ((-2) * (μ 22 l)) (2 * (μ 22 l)))), (3, zi (μ 22 l)), (0, zr 18), (1, zi (nI l)), (2, zi d)] [zi (pW d (-(μ 22 l)) (μ 22 l))] μ _
  refine zx_iret rfl dX8_wayOf_110 ?_
  refine ⟨congrArg (fun x => some (zi x)) ?_, rfl⟩
  unfold pWay
  rw [cS_t hl6, cS_k hl6, cS_2]
  dsimp only
  rw [if_neg h26_2, if_neg h26_3, if_neg h26_4, if_neg h26_5]
set_option maxHeartbeats 4000000 in
set_option maxRecDepth 100000 in
theorem eX8_sightOf_18 (σ : zG) (μ : zM) (l : Nat) (ok : pOK (cS 18 μ)) (hl : l < pL (cS 18 μ)) : zMet shC σ 2 MX8_sightOf yX8_sightOf [zr 18, zi (nI l)] μ (fun rr μ' => rr = some (zi (pSightL (cS 18 μ) l (pNear (cS 18 μ) ((cS 18 μ) 2 - 1)))) ∧ μ' = μ) := by
  have hl6 : l < 6 := Nat.lt_of_lt_of_le hl (ok_L ok).2
  refine zmetF (by decide +kernel) rfl (Nat.le_of_ble_eq_true rfl) ?_
  show zX shC σ 2 MX8_sightOf 0 [(0, zr 18), (1, zi (nI l))] [] μ _
  refine zx_aload_n (k := 0) (nn := 1) dX8_sightOf_0 rfl rfl rfl ?_
  refine zx_getR (q := 20) (nn := 4) flX8_15 rfl rfl dX8_sightOf_1 rfl ?_
  refine zx_iload_n (k := 1) (nn := 5) dX8_sightOf_4 rfl rfl rfl ?_
  refine zx_iald_n (j := l) (nn := 6) rfl hl6 (by decide) dX8_sightOf_5 rfl ?_
  refine zx_aload_n (k := 0) (nn := 7) dX8_sightOf_6 rfl rfl rfl ?_
  refine zx_getR (q := 21) (nn := 10) flX8_18 rfl rfl dX8_sightOf_7 rfl ?_
  refine zx_iload_n (k := 1) (nn := 11) dX8_sightOf_10 rfl rfl rfl ?_
  refine zx_iald_n (j := l) (nn := 12) rfl hl6 (by decide) dX8_sightOf_11 rfl ?_
  refine zx_aload_n (k := 0) (nn := 13) dX8_sightOf_12 rfl rfl rfl ?_
  refine zx_aload_n (k := 0) (nn := 14) dX8_sightOf_13 rfl rfl rfl ?_
  refine zx_getI (nn := 17) flX8_52 rfl rfl dX8_sightOf_14 rfl ?_
  refine zx_iconst (v := 1) (nn := 18) rfl dX8_sightOf_17 rfl ?_
  refine zx_isub (nn := 19) dX8_sightOf_18 rfl ?_
  refine zx_callVf (nn := 22) (k := 18) (d' := 0) (as := [zi ((μ 18 9) - 1)]) (rest := [zi (μ 21 l), zi (μ 20 l)]) (n := 1) (eX8_placeNear_18 σ μ ((μ 18 9) - 1)  ok) kX8_placeNear mlX8_66 rfl rfl rfl (by decide) rfl rfl (Nat.le_of_ble_eq_true rfl) dX8_sightOf_19 rfl ?_
  show zX shC σ 2 MX8_sightOf 22 [(0, zr 18), (1, zi (nI l))] [zi (pNear (cS 18 μ) ((μ 18 9) - 1)), zi (μ 21 l), zi (μ 20 l)] μ _
  refine zx_callSf (nn := 25) (d' := 1) (as := [zi (μ 20 l), zi (μ 21 l), zi (pNear (cS 18 μ) ((μ 18 9) - 1))]) (rest := []) (n := 3) (eX8_sightFor σ μ (μ 20 l) (μ 21 l) (pNear (cS 18 μ) ((μ 18 9) - 1))  ) kX8_sightFor mlX8_105 (by decide) rfl rfl (Nat.le_of_ble_eq_true rfl) dX8_sightOf_22 rfl ?_
  show zX shC σ 2 MX8_sightOf 25 [(0, zr 18), (1, zi (nI l))] [zi (pSight (μ 20 l) (μ 21 l) (pNear (cS 18 μ) ((μ 18 9) - 1)))] μ _
  refine zx_iret rfl dX8_sightOf_25 ?_
  exact ⟨congrArg (fun x => some (zi x)) (by unfold pSightL; rw [cS_a hl6, cS_z hl6]; rfl), rfl⟩
set_option maxHeartbeats 4000000 in
set_option maxRecDepth 100000 in
theorem eX8_worthOf_18 (σ : zG) (μ : zM) (l : Nat) (ok : pOK (cS 18 μ)) (hl : l < pL (cS 18 μ)) : zMet shC σ 3 MX8_worthOf yX8_worthOf [zr 18, zi (nI l)] μ (fun rr μ' => rr = some (zi (pWorth (cS 18 μ) l (pNear (cS 18 μ) ((cS 18 μ) 2 - 1)))) ∧ μ' = μ) := by
  have hl6 : l < 6 := Nat.lt_of_lt_of_le hl (ok_L ok).2
  refine zmetF (by decide +kernel) rfl (Nat.le_of_ble_eq_true rfl) ?_
  show zX shC σ 3 MX8_worthOf 0 [(0, zr 18), (1, zi (nI l))] [] μ _
  refine zx_aload_n (k := 0) (nn := 1) dX8_worthOf_0 rfl rfl rfl ?_
  refine zx_iload_n (k := 1) (nn := 2) dX8_worthOf_1 rfl rfl rfl ?_
  refine zx_callVf (nn := 5) (k := 18) (d' := 2) (as := [zi (nI l)]) (rest := []) (n := 1) (eX8_sightOf_18 σ μ l  ok hl) kX8_sightOf mlX8_108 rfl rfl rfl (by decide) rfl rfl (Nat.le_of_ble_eq_true rfl) dX8_worthOf_2 rfl ?_
  show zX shC σ 3 MX8_worthOf 5 [(0, zr 18), (1, zi (nI l))] [zi (pSightL (cS 18 μ) l (pNear (cS 18 μ) ((cS 18 μ) 2 - 1)))] μ _
  refine zx_istore_n (nn := 6) (lv' := [(2, zi (pSightL (cS 18 μ) l (pNear (cS 18 μ) ((cS 18 μ) 2 - 1)))), (0, zr 18), (1, zi (nI l))]) dX8_worthOf_5 rfl (by decide) rfl rfl ?_
  refine zx_iload_n (k := 0) (nn := 7) dX8_worthOf_6 rfl rfl rfl ?_
  refine zx_iconst (v := 2) (nn := 8) rfl dX8_worthOf_7 rfl ?_
  refine zx_icmp_ne (tgt := 21) (nn := 11) dX8_worthOf_8 (by decide) rfl (fun h8 => ?_) (fun h8 => ?_)
  · refine zx_iload_n (k := 0) (nn := 22) dX8_worthOf_21 rfl rfl rfl ?_
    refine zx_iconst (v := 1) (nn := 23) rfl dX8_worthOf_22 rfl ?_
    refine zx_icmp_ne (tgt := 30) (nn := 26) dX8_worthOf_23 (by decide) rfl (fun h23 => ?_) (fun h23 => ?_)
    · refine zx_iconst (v := 0) (nn := 31) rfl dX8_worthOf_30 rfl ?_
      refine zx_iret rfl dX8_worthOf_31 ?_
      refine ⟨congrArg (fun x => some (zi x)) ?_, rfl⟩
      unfold pWorth
      rw [if_neg h8, if_neg h23]
    · refine zx_iconst (v := 1) (nn := 27) rfl dX8_worthOf_26 rfl ?_
      refine zx_goto (tgt := 31) dX8_worthOf_27 (by decide) ?_
      refine zx_iret rfl dX8_worthOf_31 ?_
      refine ⟨congrArg (fun x => some (zi x)) ?_, rfl⟩
      unfold pWorth
      rw [if_neg h8, if_pos h23]
  · refine zx_bipush (v := 10) (nn := 13) rfl dX8_worthOf_11 rfl ?_
    refine zx_aload_n (k := 1) (nn := 14) dX8_worthOf_13 rfl rfl rfl ?_
    refine zx_getR (q := 21) (nn := 17) flX8_18 rfl rfl dX8_worthOf_14 rfl ?_
    refine zx_iload_n (k := 2) (nn := 18) dX8_worthOf_17 rfl rfl rfl ?_
    refine zx_iald_n (j := l) (nn := 19) rfl hl6 (by decide) dX8_worthOf_18 rfl ?_
    refine zx_isub (nn := 20) dX8_worthOf_19 rfl ?_
    refine zx_iret rfl dX8_worthOf_20 ?_
    refine ⟨congrArg (fun x => some (zi x)) ?_, rfl⟩
    unfold pWorth
    rw [if_pos h8, cS_z hl6]
set_option maxHeartbeats 4000000 in
set_option maxRecDepth 100000 in
theorem eX8_setOf_18 (σ : zG) (μ : zM) (g : Int32) (ok : pOK (cS 18 μ)) : zMet shC σ 3 MX8_setOf yX8_setOf [zr 18, zi g] μ (fun rr μ' => rr = some (zi (pSet (fun l => decide (pSightL (cS 18 μ) l (pNear (cS 18 μ) ((cS 18 μ) 2 - 1)) = g)) (pL (cS 18 μ)))) ∧ μ' = μ) := by
  have hL1 : μ 18 7 = nI (pL (cS 18 μ)) := (ok_L ok).1
  have hL2 := (ok_L ok).2
  refine zmetF (by decide +kernel) rfl (Nat.le_of_ble_eq_true rfl) ?_
  show zX shC σ 3 MX8_setOf 0 [(0, zr 18), (1, zi g)] [] μ _
  refine zx_iconst (v := 0) (nn := 1) rfl dX8_setOf_0 rfl ?_
  refine zx_istore_n (nn := 2) (lv' := [(2, zi 0), (0, zr 18), (1, zi g)]) dX8_setOf_1 rfl (by decide) rfl rfl ?_
  refine zx_iconst (v := 0) (nn := 3) rfl dX8_setOf_2 rfl ?_
  refine zx_istore_n (nn := 4) (lv' := [(3, zi 0), (2, zi 0), (0, zr 18), (1, zi g)]) dX8_setOf_3 rfl (by decide) rfl rfl ?_
  refine zx_lv (lv' := [(0, zr 18), (1, zi g), (2, zi 0), (3, zi 0)]) [2, 3, 1, 0] rfl ?_
  refine zx_while (τ := Nat × Int32) (fun t_ => pL (cS 18 μ) - t_.1) (fun t_ => t_.1 ≤ pL (cS 18 μ) ∧ t_.2 = pSet (fun l => decide (pSightL (cS 18 μ) l (pNear (cS 18 μ) ((cS 18 μ) 2 - 1)) = g)) t_.1) (fun t_ => [(0, zr 18), (1, zi g), (2, zi t_.2), (3, zi (nI t_.1))]) (fun t_ => μ) (t0 := (0, 0)) (⟨Nat.zero_le _, rfl⟩) ?_
  rintro ⟨i, v⟩ hI ih4
  replace hI : i ≤ pL (cS 18 μ) ∧ v = pSet (fun l => decide (pSightL (cS 18 μ) l (pNear (cS 18 μ) ((cS 18 μ) 2 - 1)) = g)) i := hI
  show zX shC σ 3 MX8_setOf 4 [(0, zr 18), (1, zi g), (2, zi v), (3, zi (nI i))] [] μ _
  refine zx_iload_n (k := 3) (nn := 5) dX8_setOf_4 rfl rfl rfl ?_
  refine zx_aload_n (k := 0) (nn := 6) dX8_setOf_5 rfl rfl rfl ?_
  refine zx_getI (nn := 9) flX8_46 rfl rfl dX8_setOf_6 rfl ?_
  rw [hL1]
  show zX shC σ 3 MX8_setOf 9 [(0, zr 18), (1, zi g), (2, zi v), (3, zi (nI i))] [zi (nI (pL (cS 18 μ))), zi (nI i)] μ _
  refine zx_icmp_ge (tgt := 33) (nn := 12) dX8_setOf_9 (by decide) rfl (fun h9 => ?_) (fun h9 => ?_)
  · refine zx_iload_n (k := 2) (nn := 34) dX8_setOf_33 rfl rfl rfl ?_
    refine zx_iret rfl dX8_setOf_34 ?_
    have hge := nI_le_le h9 (by omega)
    exact ⟨congrArg (fun x => some (zi x)) (by rw [hI.2, show i = pL (cS 18 μ) by omega]), rfl⟩
  · have hlt : i < pL (cS 18 μ) := nI_nle_lt h9 (by omega)
    refine zx_aload_n (k := 0) (nn := 13) dX8_setOf_12 rfl rfl rfl ?_
    refine zx_iload_n (k := 3) (nn := 14) dX8_setOf_13 rfl rfl rfl ?_
    refine zx_callVf (nn := 17) (k := 18) (d' := 2) (as := [zi (nI i)]) (rest := []) (n := 1) (eX8_sightOf_18 σ μ i  ok hlt) kX8_sightOf mlX8_108 rfl rfl rfl (by decide) rfl rfl (Nat.le_of_ble_eq_true rfl) dX8_setOf_14 rfl ?_
    show zX shC σ 3 MX8_setOf 17 [(0, zr 18), (1, zi g), (2, zi v), (3, zi (nI i))] [zi (pSightL (cS 18 μ) i (pNear (cS 18 μ) ((cS 18 μ) 2 - 1)))] μ _
    refine zx_iload_n (k := 1) (nn := 18) dX8_setOf_17 rfl rfl rfl ?_
    refine zx_icmp_ne (tgt := 27) (nn := 21) dX8_setOf_18 (by decide) rfl (fun h18 => ?_) (fun h18 => ?_)
    · refine zx_iinc (k := 3) (v := nI (i + 1)) (lv' := [(3, zi (nI (i + 1))), (0, zr 18), (1, zi g), (2, zi v)]) (nn := 30) dX8_setOf_27 rfl (nI_1 i) (by decide) rfl rfl ?_
      refine zx_goto (tgt := 4) dX8_setOf_30 (by decide) ?_
      refine zx_lv (lv' := [(0, zr 18), (1, zi g), (2, zi v), (3, zi (nI (i + 1)))]) [1, 2, 3, 0] rfl ?_
      exact ih4 (i + 1, v) (show (i + 1) ≤ pL (cS 18 μ) ∧ v = pSet (fun l => decide (pSightL (cS 18 μ) l (pNear (cS 18 μ) ((cS 18 μ) 2 - 1)) = g)) (i + 1) from ⟨by omega, by show _ = if _ then _ else _; rw [if_neg (by exact fun q => h18 (of_decide_eq_true q)), hI.2]⟩) (by show pL (cS 18 μ) - (i + 1) < pL (cS 18 μ) - i; omega)
    · refine zx_iload_n (k := 2) (nn := 22) dX8_setOf_21 rfl rfl rfl ?_
      refine zx_iconst (v := 1) (nn := 23) rfl dX8_setOf_22 rfl ?_
      refine zx_iload_n (k := 3) (nn := 24) dX8_setOf_23 rfl rfl rfl ?_
      refine zx_ishl (nn := 25) dX8_setOf_24 rfl ?_
      rw [zand31 (by omega)]
      show zX shC σ 3 MX8_setOf 25 [(0, zr 18), (1, zi g), (2, zi v), (3, zi (nI i))] [zi (1 <<< (nI i)), zi v] μ _
      refine zx_ior (nn := 26) dX8_setOf_25 rfl ?_
      refine zx_istore_n (nn := 27) (lv' := [(2, zi (v ||| (1 <<< (nI i)))), (0, zr 18), (1, zi g), (3, zi (nI i))]) dX8_setOf_26 rfl (by decide) rfl rfl ?_
      refine zx_iinc (k := 3) (v := nI (i + 1)) (lv' := [(3, zi (nI (i + 1))), (2, zi (v ||| (1 <<< (nI i)))), (0, zr 18), (1, zi g)]) (nn := 30) dX8_setOf_27 rfl (nI_1 i) (by decide) rfl rfl ?_
      refine zx_goto (tgt := 4) dX8_setOf_30 (by decide) ?_
      refine zx_lv (lv' := [(0, zr 18), (1, zi g), (2, zi (v ||| (1 <<< (nI i)))), (3, zi (nI (i + 1)))]) [2, 3, 1, 0] rfl ?_
      exact ih4 (i + 1, v ||| (1 <<< nI i)) (show (i + 1) ≤ pL (cS 18 μ) ∧ (v ||| (1 <<< nI i)) = pSet (fun l => decide (pSightL (cS 18 μ) l (pNear (cS 18 μ) ((cS 18 μ) 2 - 1)) = g)) (i + 1) from ⟨by omega, by show _ = if _ then _ else _; rw [if_pos (by exact decide_eq_true h18), hI.2]⟩) (by show pL (cS 18 μ) - (i + 1) < pL (cS 18 μ) - i; omega)
set_option maxHeartbeats 4000000 in
set_option maxRecDepth 100000 in
theorem eX8_placeNear_25 (σ : zG) (μ : zM) (x : Int32) (ok : pOK (cS 25 μ)) : zMet shC σ 0 MX8_placeNear yX8_placeNear [zr 25, zi x] μ (fun rr μ' => rr = some (zi (pNear (cS 25 μ) x)) ∧ μ' = μ) := by
  have hB1 : μ 25 8 = nI (pB (cS 25 μ)) := (ok_B ok).1
  have hB2 := (ok_B ok).2
  refine zmetF (by decide +kernel) rfl (Nat.le_of_ble_eq_true rfl) ?_
  show zX shC σ 0 MX8_placeNear 0 [(0, zr 25), (1, zi x)] [] μ _
  refine zx_aload_n (k := 0) (nn := 1) dX8_placeNear_0 rfl rfl rfl ?_
  refine zx_getI (nn := 4) flX8_49 rfl rfl dX8_placeNear_1 rfl ?_
  refine zx_if_ne (tgt := 9) (nn := 7) dX8_placeNear_4 (by decide) rfl (fun h4 => ?_) (fun h4 => ?_)
  · refine zx_iload_n (k := 1) (nn := 10) dX8_placeNear_9 rfl rfl rfl ?_
    refine zx_if_gt (tgt := 20) (nn := 13) dX8_placeNear_10 (by decide) rfl (fun h10 => ?_) (fun h10 => ?_)
    · refine zx_iload_n (k := 1) (nn := 21) dX8_placeNear_20 rfl rfl rfl ?_
      refine zx_aload_n (k := 0) (nn := 22) dX8_placeNear_21 rfl rfl rfl ?_
      refine zx_getI (nn := 25) flX8_49 rfl rfl dX8_placeNear_22 rfl ?_
      refine zx_icmp_ge (tgt := 37) (nn := 28) dX8_placeNear_25 (by decide) rfl (fun h25 => ?_) (fun h25 => ?_)
      · refine zx_aload_n (k := 0) (nn := 38) dX8_placeNear_37 rfl rfl rfl ?_
        refine zx_getR (q := 30) (nn := 41) flX8_24 rfl rfl dX8_placeNear_38 rfl ?_
        refine zx_aload_n (k := 0) (nn := 42) dX8_placeNear_41 rfl rfl rfl ?_
        refine zx_getI (nn := 45) flX8_49 rfl rfl dX8_placeNear_42 rfl ?_
        refine zx_iconst (v := 1) (nn := 46) rfl dX8_placeNear_45 rfl ?_
        refine zx_isub (nn := 47) dX8_placeNear_46 rfl ?_
        refine zx_iald (nn := 48) rfl (by rw [hB1, nI_sub1 (nI_B ok h4)]; exact vp_in_nI (by have := nI_B ok h4; omega) (by decide)) dX8_placeNear_47 rfl ?_
        refine zx_iret rfl dX8_placeNear_48 ?_
        refine ⟨congrArg (fun x => some (zi x)) ?_, rfl⟩
        unfold pNear
        rw [cS_1]
        rw [if_neg h4]
        rw [if_neg (Int32.not_le.mpr h10)]
        rw [if_neg (Int32.not_lt.mpr h25), hB1, nI_sub1 (nI_B ok h4), nI_clamp (by omega)]
        exact (cS_p (by have := nI_B ok h4; omega)).symm
      · refine zx_aload_n (k := 0) (nn := 29) dX8_placeNear_28 rfl rfl rfl ?_
        refine zx_getR (q := 30) (nn := 32) flX8_24 rfl rfl dX8_placeNear_29 rfl ?_
        refine zx_iload_n (k := 1) (nn := 33) dX8_placeNear_32 rfl rfl rfl ?_
        refine zx_iald (nn := 34) rfl (vp_of (Int32.le_of_lt h10) (Int32.not_le.mp h25) hB1 hB2 (by decide)) dX8_placeNear_33 rfl ?_
        refine zx_goto (tgt := 48) dX8_placeNear_34 (by decide) ?_
        refine zx_iret rfl dX8_placeNear_48 ?_
        refine ⟨congrArg (fun x => some (zi x)) ?_, rfl⟩
        unfold pNear
        rw [cS_1]
        rw [if_neg h4]
        rw [if_neg (Int32.not_le.mpr h10)]
        rw [if_pos (Int32.not_le.mp h25)]
        exact (cS_p (Nat.not_le.mp fun q => (vp_of (N := 16) (Int32.le_of_lt h10) (Int32.not_le.mp h25) hB1 hB2 (by decide)) (Or.inr q))).symm
    · refine zx_aload_n (k := 0) (nn := 14) dX8_placeNear_13 rfl rfl rfl ?_
      refine zx_getR (q := 30) (nn := 17) flX8_24 rfl rfl dX8_placeNear_14 rfl ?_
      refine zx_iconst (v := 0) (nn := 18) rfl dX8_placeNear_17 rfl ?_
      refine zx_iald_n (j := 0) (nn := 19) rfl (by omega) (by decide) dX8_placeNear_18 rfl ?_
      refine zx_iret rfl dX8_placeNear_19 ?_
      refine ⟨congrArg (fun x => some (zi x)) ?_, rfl⟩
      unfold pNear
      rw [cS_1]
      rw [if_neg h4]
      rw [if_pos (Int32.not_lt.mp h10)]
      exact (cS_p (j := 0) (by omega)).symm
  · refine zx_iconst (v := 0) (nn := 8) rfl dX8_placeNear_7 rfl ?_
    refine zx_iret rfl dX8_placeNear_8 ?_
    refine ⟨congrArg (fun x => some (zi x)) ?_, rfl⟩
    unfold pNear
    rw [cS_1]
    rw [if_pos h4]
set_option maxHeartbeats 4000000 in
set_option maxRecDepth 100000 in
theorem eX8_tellFacts_25 (σ : zG) (μ : zM) (l : Nat) (v : Int32) (hl6 : l < 6) : zMet shC σ 0 MX8_tellFacts yX8_tellFacts [zr 25, zi (nI l), zi v] μ (fun rr μ' => rr = none ∧ zJ [31] μ μ' ∧ μ' 31 0 = μ 25 9 ∧ μ' 31 1 = v ∧ μ' 31 2 = μ 27 l ∧ μ' 31 3 = μ 28 l ∧ μ' 31 4 = nI l) := by
  refine zmetF (by decide +kernel) rfl (Nat.le_of_ble_eq_true rfl) ?_
  show zX shC σ 0 MX8_tellFacts 0 [(0, zr 25), (1, zi (nI l)), (2, zi v)] [] μ _
  refine zx_aload_n (k := 0) (nn := 1) dX8_tellFacts_0 rfl rfl rfl ?_
  refine zx_getR (q := 31) (nn := 4) flX8_29 rfl rfl dX8_tellFacts_1 rfl ?_
  refine zx_iconst (v := 0) (nn := 5) rfl dX8_tellFacts_4 rfl ?_
  refine zx_aload_n (k := 0) (nn := 6) dX8_tellFacts_5 rfl rfl rfl ?_
  refine zx_getI (nn := 9) flX8_52 rfl rfl dX8_tellFacts_6 rfl ?_
  refine zx_iast_n (j := 0) (nn := 10) rfl (by omega) (by decide) dX8_tellFacts_9 rfl ?_
  refine zx_aload_n (k := 0) (nn := 11) dX8_tellFacts_10 rfl rfl rfl ?_
  refine zx_getR (q := 31) (nn := 14) flX8_29 rfl rfl dX8_tellFacts_11 rfl ?_
  refine zx_iconst (v := 1) (nn := 15) rfl dX8_tellFacts_14 rfl ?_
  refine zx_iload_n (k := 2) (nn := 16) dX8_tellFacts_15 rfl rfl rfl ?_
  refine zx_iast_n (j := 1) (nn := 17) rfl (by omega) (by decide) dX8_tellFacts_16 rfl ?_
  refine zx_aload_n (k := 0) (nn := 18) dX8_tellFacts_17 rfl rfl rfl ?_
  refine zx_getR (q := 31) (nn := 21) flX8_29 rfl rfl dX8_tellFacts_18 rfl ?_
  refine zx_iconst (v := 2) (nn := 22) rfl dX8_tellFacts_21 rfl ?_
  refine zx_aload_n (k := 0) (nn := 23) dX8_tellFacts_22 rfl rfl rfl ?_
  refine zx_getR (q := 27) (nn := 26) flX8_15 rfl rfl dX8_tellFacts_23 rfl ?_
  refine zx_iload_n (k := 1) (nn := 27) dX8_tellFacts_26 rfl rfl rfl ?_
  refine zx_iald_n (j := l) (nn := 28) rfl (by omega) (by decide) dX8_tellFacts_27 rfl ?_
  show zX shC σ 0 MX8_tellFacts 28 [(0, zr 25), (1, zi (nI l)), (2, zi v)] [zi (μ 27 l), zi 2, zr 31] (zp (zp μ 31 0 (μ 25 9)) 31 1 v) _
  refine zx_iast_n (j := 2) (nn := 29) rfl (by omega) (by decide) dX8_tellFacts_28 rfl ?_
  refine zx_aload_n (k := 0) (nn := 30) dX8_tellFacts_29 rfl rfl rfl ?_
  refine zx_getR (q := 31) (nn := 33) flX8_29 rfl rfl dX8_tellFacts_30 rfl ?_
  refine zx_iconst (v := 3) (nn := 34) rfl dX8_tellFacts_33 rfl ?_
  refine zx_aload_n (k := 0) (nn := 35) dX8_tellFacts_34 rfl rfl rfl ?_
  refine zx_getR (q := 28) (nn := 38) flX8_18 rfl rfl dX8_tellFacts_35 rfl ?_
  refine zx_iload_n (k := 1) (nn := 39) dX8_tellFacts_38 rfl rfl rfl ?_
  refine zx_iald_n (j := l) (nn := 40) rfl (by omega) (by decide) dX8_tellFacts_39 rfl ?_
  show zX shC σ 0 MX8_tellFacts 40 [(0, zr 25), (1, zi (nI l)), (2, zi v)] [zi (μ 28 l), zi 3, zr 31] (zp (zp (zp μ 31 0 (μ 25 9)) 31 1 v) 31 2 (μ 27 l)) _
  refine zx_iast_n (j := 3) (nn := 41) rfl (by omega) (by decide) dX8_tellFacts_40 rfl ?_
  refine zx_aload_n (k := 0) (nn := 42) dX8_tellFacts_41 rfl rfl rfl ?_
  refine zx_getR (q := 31) (nn := 45) flX8_29 rfl rfl dX8_tellFacts_42 rfl ?_
  refine zx_iconst (v := 4) (nn := 46) rfl dX8_tellFacts_45 rfl ?_
  refine zx_iload_n (k := 1) (nn := 47) dX8_tellFacts_46 rfl rfl rfl ?_
  refine zx_iast_n (j := 4) (nn := 48) rfl (by omega) (by decide) dX8_tellFacts_47 rfl ?_
  refine zx_vret rfl dX8_tellFacts_48 ?_
  refine ⟨rfl, ((((zJ.rf.p (by decide)).p (by decide)).p (by decide)).p (by decide)).p (by decide), ?_⟩
  simp [zp_eq, upd]
set_option maxHeartbeats 4000000 in
set_option maxRecDepth 100000 in
theorem eX8_wayOf_25 (σ : zG) (μ : zM) (l : Nat) (d : Int32) (ok : pOK (cS 25 μ)) (hl : l < pL (cS 25 μ)) : zMet shC σ 2 MX8_wayOf yX8_wayOf [zr 25, zi (nI l), zi d] μ (fun rr μ' => rr = some (zi (pWay (cS 25 μ) l d)) ∧ μ' = μ) := by
  have hl6 : l < 6 := Nat.lt_of_lt_of_le hl (ok_L ok).2
  have hT := ((ok.2.2.2 l hl).2.2)
  rw [cS_t hl6] at hT
  have hK := ((ok.2.2.2 l hl).1)
  rw [cS_k hl6] at hK
  refine zmetF (by decide +kernel) rfl (Nat.le_of_ble_eq_true rfl) ?_
  show zX shC σ 2 MX8_wayOf 0 [(0, zr 25), (1, zi (nI l)), (2, zi d)] [] μ _
  refine zx_aload_n (k := 0) (nn := 1) dX8_wayOf_0 rfl rfl rfl ?_
  refine zx_getR (q := 29) (nn := 4) flX8_21 rfl rfl dX8_wayOf_1 rfl ?_
  refine zx_iload_n (k := 1) (nn := 5) dX8_wayOf_4 rfl rfl rfl ?_
  refine zx_iald_n (j := l) (nn := 6) rfl hl6 (by decide) dX8_wayOf_5 rfl ?_
  refine zx_istore_n (nn := 7) (lv' := [(3, zi (μ 29 l)), (0, zr 25), (1, zi (nI l)), (2, zi d)]) dX8_wayOf_6 rfl (by decide) rfl rfl ?_
  refine zx_iload_n (k := 3) (nn := 8) dX8_wayOf_7 rfl rfl rfl ?_
  refine zx_bipush (v := -2) (nn := 10) rfl dX8_wayOf_8 rfl ?_
  refine zx_iload_n (k := 0) (nn := 11) dX8_wayOf_10 rfl rfl rfl ?_
  refine zx_imul (nn := 12) dX8_wayOf_11 rfl ?_
  refine zx_iconst (v := 2) (nn := 13) rfl dX8_wayOf_12 rfl ?_
  refine zx_iload_n (k := 0) (nn := 14) dX8_wayOf_13 rfl rfl rfl ?_
  refine zx_imul (nn := 15) dX8_wayOf_14 rfl ?_
  refine zx_callSf (nn := 18) (d' := 1) (as := [zi d, zi ((-2) * (μ 29 l)), zi (2 * (μ 29 l))]) (rest := []) (n := 3) (eX8_held σ μ d ((-2) * (μ 29 l)) (2 * (μ 29 l))  (zhold2 hT.1 hT.2)) kX8_held mlX8_96 (by decide) rfl rfl (Nat.le_of_ble_eq_true rfl) dX8_wayOf_15 rfl ?_
  show zX shC σ 2 MX8_wayOf 18 [(3, zi (μ 29 l)), (0, zr 25), (1, zi (nI l)), (2, zi d)] [zi (pW d ((-2) * (μ 29 l)) (2 * (μ 29 l)))] μ _
  refine zx_istore (nn := 20) (lv' := [(4, zi (pW d ((-2) * (μ 29 l)) (2 * (μ 29 l)))), (3, zi (μ 29 l)), (0, zr 25), (1, zi (nI l)), (2, zi d)]) dX8_wayOf_18 (by decide) rfl rfl ?_
  refine zx_aload_n (k := 2) (nn := 21) dX8_wayOf_20 rfl rfl rfl ?_
  refine zx_getR (q := 26) (nn := 24) flX8_9 rfl rfl dX8_wayOf_21 rfl ?_
  refine zx_iload_n (k := 3) (nn := 25) dX8_wayOf_24 rfl rfl rfl ?_
  refine zx_iald_n (j := l) (nn := 26) rfl hl6 (by decide) dX8_wayOf_25 rfl ?_
  by_cases h26_2 : (μ 26 l) = 2
  · refine zx_sw h26_2 ?_
    refine zx_tabIn (tgt := 56) (off := 30) dX8_wayOf_26 (by decide +kernel) (by decide +kernel) (by decide +kernel) (by decide) ?_
    refine zx_iload (k := 0) (nn := 58) dX8_wayOf_56 rfl rfl ?_
    refine zx_iret rfl dX8_wayOf_58 ?_
    refine ⟨congrArg (fun x => some (zi x)) ?_, rfl⟩
    unfold pWay
    rw [cS_t hl6, cS_k hl6, cS_2]
    dsimp only
    rw [if_pos h26_2]
  by_cases h26_3 : (μ 26 l) = 3
  · refine zx_sw h26_3 ?_
    refine zx_tabIn (tgt := 59) (off := 33) dX8_wayOf_26 (by decide +kernel) (by decide +kernel) (by decide +kernel) (by decide) ?_
    refine zx_iload (k := 0) (nn := 61) dX8_wayOf_59 rfl rfl ?_
    refine zx_iload (k := 0) (nn := 63) dX8_wayOf_61 rfl rfl ?_
    refine zx_iconst (v := 0) (nn := 64) rfl dX8_wayOf_63 rfl ?_
    refine zx_callSf (nn := 67) (d' := 0) (as := [zi (pW d ((-2) * (μ 29 l)) (2 * (μ 29 l))), zi 0]) (rest := [zi (pW d ((-2) * (μ 29 l)) (2 * (μ 29 l)))]) (n := 2) (eJ6_compare_7cf53 σ μ (pW d ((-2) * (μ 29 l)) (2 * (μ 29 l))) 0  ) kJ6_compare_7cf53 mlX8_100 (by decide) rfl rfl (Nat.le_of_ble_eq_true rfl) dX8_wayOf_64 rfl ?_
    show zX shC σ 2 MX8_wayOf 67 [(4, zi (pW d ((-2) * (μ 29 l)) (2 * (μ 29 l)))), (3, zi (μ 29 l)), (0, zr 25), (1, zi (nI l)), (2, zi d)] [zi (pCmp (pW d ((-2) * (μ 29 l)) (2 * (μ 29 l))) 0), zi (pW d ((-2) * (μ 29 l)) (2 * (μ 29 l)))] μ _
    refine zx_iadd (nn := 68) dX8_wayOf_67 rfl ?_
    refine zx_iret rfl dX8_wayOf_68 ?_
    refine ⟨congrArg (fun x => some (zi x)) ?_, rfl⟩
    unfold pWay
    rw [cS_t hl6, cS_k hl6, cS_2]
    dsimp only
    rw [if_neg h26_2, if_pos h26_3]
  by_cases h26_4 : (μ 26 l) = 4
  · refine zx_sw h26_4 ?_
    refine zx_tabIn (tgt := 69) (off := 43) dX8_wayOf_26 (by decide +kernel) (by decide +kernel) (by decide +kernel) (by decide) ?_
    refine zx_iload_n (k := 4) (nn := 70) dX8_wayOf_69 rfl rfl rfl ?_
    refine zx_iconst (v := 2) (nn := 71) rfl dX8_wayOf_70 rfl ?_
    refine zx_idiv (nn := 72) (by decide) dX8_wayOf_71 rfl ?_
    refine zx_iload_n (k := 1) (nn := 73) dX8_wayOf_72 rfl rfl rfl ?_
    refine zx_ineg (nn := 74) dX8_wayOf_73 rfl ?_
    refine zx_iload_n (k := 1) (nn := 75) dX8_wayOf_74 rfl rfl rfl ?_
    refine zx_callSf (nn := 78) (d' := 1) (as := [zi (d / 2), zi (-(μ 29 l)), zi (μ 29 l)]) (rest := []) (n := 3) (eX8_held σ μ (d / 2) (-(μ 29 l)) (μ 29 l)  (zhold1 hT.1 hT.2)) kX8_held mlX8_96 (by decide) rfl rfl (Nat.le_of_ble_eq_true rfl) dX8_wayOf_75 rfl ?_
    show zX shC σ 2 MX8_wayOf 78 [(4, zi (pW d ((-2) * (μ 29 l)) (2 * (μ 29 l)))), (3, zi (μ 29 l)), (0, zr 25), (1, zi (nI l)), (2, zi d)] [zi (pW (d / 2) (-(μ 29 l)) (μ 29 l))] μ _
    refine zx_iret rfl dX8_wayOf_78 ?_
    refine ⟨congrArg (fun x => some (zi x)) ?_, rfl⟩
    unfold pWay
    rw [cS_t hl6, cS_k hl6, cS_2]
    dsimp only
    rw [if_neg h26_2, if_neg h26_3, if_pos h26_4]
  by_cases h26_5 : (μ 26 l) = 5
  · refine zx_sw h26_5 ?_
    refine zx_tabIn (tgt := 79) (off := 53) dX8_wayOf_26 (by decide +kernel) (by decide +kernel) (by decide +kernel) (by decide) ?_
    refine zx_aload_n (k := 2) (nn := 80) dX8_wayOf_79 rfl rfl rfl ?_
    refine zx_getI (nn := 83) flX8_52 rfl rfl dX8_wayOf_80 rfl ?_
    refine zx_iconst (v := 4) (nn := 84) rfl dX8_wayOf_83 rfl ?_
    refine zx_irem (nn := 85) (by decide) dX8_wayOf_84 rfl ?_
    refine zx_iconst (v := 3) (nn := 86) rfl dX8_wayOf_85 rfl ?_
    refine zx_icmp_ne (tgt := 93) (nn := 89) dX8_wayOf_86 (by decide) rfl (fun h86 => ?_) (fun h86 => ?_)
    · refine zx_iload_n (k := 4) (nn := 94) dX8_wayOf_93 rfl rfl rfl ?_
      refine zx_iconst (v := 2) (nn := 95) rfl dX8_wayOf_94 rfl ?_
      refine zx_idiv (nn := 96) (by decide) dX8_wayOf_95 rfl ?_
      refine zx_iload_n (k := 1) (nn := 97) dX8_wayOf_96 rfl rfl rfl ?_
      refine zx_ineg (nn := 98) dX8_wayOf_97 rfl ?_
      refine zx_iload_n (k := 1) (nn := 99) dX8_wayOf_98 rfl rfl rfl ?_
      refine zx_callSf (nn := 102) (d' := 1) (as := [zi (d / 2), zi (-(μ 29 l)), zi (μ 29 l)]) (rest := []) (n := 3) (eX8_held σ μ (d / 2) (-(μ 29 l)) (μ 29 l)  (zhold1 hT.1 hT.2)) kX8_held mlX8_96 (by decide) rfl rfl (Nat.le_of_ble_eq_true rfl) dX8_wayOf_99 rfl ?_
      show zX shC σ 2 MX8_wayOf 102 [(4, zi (pW d ((-2) * (μ 29 l)) (2 * (μ 29 l)))), (3, zi (μ 29 l)), (0, zr 25), (1, zi (nI l)), (2, zi d)] [zi (pW (d / 2) (-(μ 29 l)) (μ 29 l))] μ _
      refine zx_iret rfl dX8_wayOf_102 ?_
      refine ⟨congrArg (fun x => some (zi x)) ?_, rfl⟩
      unfold pWay
      rw [cS_t hl6, cS_k hl6, cS_2]
      dsimp only
      rw [if_neg h26_2, if_neg h26_3, if_neg h26_4, if_pos h26_5]
      rw [if_neg h86]
    · refine zx_iconst (v := 0) (nn := 90) rfl dX8_wayOf_89 rfl ?_
      refine zx_goto (tgt := 102) dX8_wayOf_90 (by decide) ?_
      refine zx_iret rfl dX8_wayOf_102 ?_
      refine ⟨congrArg (fun x => some (zi x)) ?_, rfl⟩
      unfold pWay
      rw [cS_t hl6, cS_k hl6, cS_2]
      dsimp only
      rw [if_neg h26_2, if_neg h26_3, if_neg h26_4, if_pos h26_5]
      rw [if_pos h86]
  refine zx_tabOut (tgt := 103) dX8_wayOf_26 (zsw_out (lo := 2) (hi := 5) (fun k hk1 hk2 => by rcases (show k = 2 ∨ k = 3 ∨ k = 4 ∨ k = 5 by omega) with rfl | rfl | rfl | rfl; exact lv_neT h26_2 rfl; exact lv_neT h26_3 rfl; exact lv_neT h26_4 rfl; exact lv_neT h26_5 rfl)) (by decide) ?_
  refine zx_iload_n (k := 4) (nn := 104) dX8_wayOf_103 rfl rfl rfl ?_
  refine zx_iload_n (k := 1) (nn := 105) dX8_wayOf_104 rfl rfl rfl ?_
  refine zx_ineg (nn := 106) dX8_wayOf_105 rfl ?_
  refine zx_iload_n (k := 1) (nn := 107) dX8_wayOf_106 rfl rfl rfl ?_
  refine zx_callSf (nn := 110) (d' := 1) (as := [zi d, zi (-(μ 29 l)), zi (μ 29 l)]) (rest := []) (n := 3) (eX8_held σ μ d (-(μ 29 l)) (μ 29 l)  (zhold1 hT.1 hT.2)) kX8_held mlX8_96 (by decide) rfl rfl (Nat.le_of_ble_eq_true rfl) dX8_wayOf_107 rfl ?_
  show zX shC σ 2 MX8_wayOf 110 [(4, zi (pW d ((-2) * (μ 29 l)) (2 * (μ 29 l)))), (3, zi (μ 29 l)), (0, zr 25), (1, zi (nI l)), (2, zi d)] [zi (pW d (-(μ 29 l)) (μ 29 l))] μ _
  refine zx_iret rfl dX8_wayOf_110 ?_
  refine ⟨congrArg (fun x => some (zi x)) ?_, rfl⟩
  unfold pWay
  rw [cS_t hl6, cS_k hl6, cS_2]
  dsimp only
  rw [if_neg h26_2, if_neg h26_3, if_neg h26_4, if_neg h26_5]
set_option maxHeartbeats 4000000 in
set_option maxRecDepth 100000 in
theorem eX8_sightOf_25 (σ : zG) (μ : zM) (l : Nat) (ok : pOK (cS 25 μ)) (hl : l < pL (cS 25 μ)) : zMet shC σ 2 MX8_sightOf yX8_sightOf [zr 25, zi (nI l)] μ (fun rr μ' => rr = some (zi (pSightL (cS 25 μ) l (pNear (cS 25 μ) ((cS 25 μ) 2 - 1)))) ∧ μ' = μ) := by
  have hl6 : l < 6 := Nat.lt_of_lt_of_le hl (ok_L ok).2
  refine zmetF (by decide +kernel) rfl (Nat.le_of_ble_eq_true rfl) ?_
  show zX shC σ 2 MX8_sightOf 0 [(0, zr 25), (1, zi (nI l))] [] μ _
  refine zx_aload_n (k := 0) (nn := 1) dX8_sightOf_0 rfl rfl rfl ?_
  refine zx_getR (q := 27) (nn := 4) flX8_15 rfl rfl dX8_sightOf_1 rfl ?_
  refine zx_iload_n (k := 1) (nn := 5) dX8_sightOf_4 rfl rfl rfl ?_
  refine zx_iald_n (j := l) (nn := 6) rfl hl6 (by decide) dX8_sightOf_5 rfl ?_
  refine zx_aload_n (k := 0) (nn := 7) dX8_sightOf_6 rfl rfl rfl ?_
  refine zx_getR (q := 28) (nn := 10) flX8_18 rfl rfl dX8_sightOf_7 rfl ?_
  refine zx_iload_n (k := 1) (nn := 11) dX8_sightOf_10 rfl rfl rfl ?_
  refine zx_iald_n (j := l) (nn := 12) rfl hl6 (by decide) dX8_sightOf_11 rfl ?_
  refine zx_aload_n (k := 0) (nn := 13) dX8_sightOf_12 rfl rfl rfl ?_
  refine zx_aload_n (k := 0) (nn := 14) dX8_sightOf_13 rfl rfl rfl ?_
  refine zx_getI (nn := 17) flX8_52 rfl rfl dX8_sightOf_14 rfl ?_
  refine zx_iconst (v := 1) (nn := 18) rfl dX8_sightOf_17 rfl ?_
  refine zx_isub (nn := 19) dX8_sightOf_18 rfl ?_
  refine zx_callVf (nn := 22) (k := 25) (d' := 0) (as := [zi ((μ 25 9) - 1)]) (rest := [zi (μ 28 l), zi (μ 27 l)]) (n := 1) (eX8_placeNear_25 σ μ ((μ 25 9) - 1)  ok) kX8_placeNear mlX8_66 rfl rfl rfl (by decide) rfl rfl (Nat.le_of_ble_eq_true rfl) dX8_sightOf_19 rfl ?_
  show zX shC σ 2 MX8_sightOf 22 [(0, zr 25), (1, zi (nI l))] [zi (pNear (cS 25 μ) ((μ 25 9) - 1)), zi (μ 28 l), zi (μ 27 l)] μ _
  refine zx_callSf (nn := 25) (d' := 1) (as := [zi (μ 27 l), zi (μ 28 l), zi (pNear (cS 25 μ) ((μ 25 9) - 1))]) (rest := []) (n := 3) (eX8_sightFor σ μ (μ 27 l) (μ 28 l) (pNear (cS 25 μ) ((μ 25 9) - 1))  ) kX8_sightFor mlX8_105 (by decide) rfl rfl (Nat.le_of_ble_eq_true rfl) dX8_sightOf_22 rfl ?_
  show zX shC σ 2 MX8_sightOf 25 [(0, zr 25), (1, zi (nI l))] [zi (pSight (μ 27 l) (μ 28 l) (pNear (cS 25 μ) ((μ 25 9) - 1)))] μ _
  refine zx_iret rfl dX8_sightOf_25 ?_
  exact ⟨congrArg (fun x => some (zi x)) (by unfold pSightL; rw [cS_a hl6, cS_z hl6]; rfl), rfl⟩
set_option maxHeartbeats 4000000 in
set_option maxRecDepth 100000 in
theorem eX8_worthOf_25 (σ : zG) (μ : zM) (l : Nat) (ok : pOK (cS 25 μ)) (hl : l < pL (cS 25 μ)) : zMet shC σ 3 MX8_worthOf yX8_worthOf [zr 25, zi (nI l)] μ (fun rr μ' => rr = some (zi (pWorth (cS 25 μ) l (pNear (cS 25 μ) ((cS 25 μ) 2 - 1)))) ∧ μ' = μ) := by
  have hl6 : l < 6 := Nat.lt_of_lt_of_le hl (ok_L ok).2
  refine zmetF (by decide +kernel) rfl (Nat.le_of_ble_eq_true rfl) ?_
  show zX shC σ 3 MX8_worthOf 0 [(0, zr 25), (1, zi (nI l))] [] μ _
  refine zx_aload_n (k := 0) (nn := 1) dX8_worthOf_0 rfl rfl rfl ?_
  refine zx_iload_n (k := 1) (nn := 2) dX8_worthOf_1 rfl rfl rfl ?_
  refine zx_callVf (nn := 5) (k := 25) (d' := 2) (as := [zi (nI l)]) (rest := []) (n := 1) (eX8_sightOf_25 σ μ l  ok hl) kX8_sightOf mlX8_108 rfl rfl rfl (by decide) rfl rfl (Nat.le_of_ble_eq_true rfl) dX8_worthOf_2 rfl ?_
  show zX shC σ 3 MX8_worthOf 5 [(0, zr 25), (1, zi (nI l))] [zi (pSightL (cS 25 μ) l (pNear (cS 25 μ) ((cS 25 μ) 2 - 1)))] μ _
  refine zx_istore_n (nn := 6) (lv' := [(2, zi (pSightL (cS 25 μ) l (pNear (cS 25 μ) ((cS 25 μ) 2 - 1)))), (0, zr 25), (1, zi (nI l))]) dX8_worthOf_5 rfl (by decide) rfl rfl ?_
  refine zx_iload_n (k := 0) (nn := 7) dX8_worthOf_6 rfl rfl rfl ?_
  refine zx_iconst (v := 2) (nn := 8) rfl dX8_worthOf_7 rfl ?_
  refine zx_icmp_ne (tgt := 21) (nn := 11) dX8_worthOf_8 (by decide) rfl (fun h8 => ?_) (fun h8 => ?_)
  · refine zx_iload_n (k := 0) (nn := 22) dX8_worthOf_21 rfl rfl rfl ?_
    refine zx_iconst (v := 1) (nn := 23) rfl dX8_worthOf_22 rfl ?_
    refine zx_icmp_ne (tgt := 30) (nn := 26) dX8_worthOf_23 (by decide) rfl (fun h23 => ?_) (fun h23 => ?_)
    · refine zx_iconst (v := 0) (nn := 31) rfl dX8_worthOf_30 rfl ?_
      refine zx_iret rfl dX8_worthOf_31 ?_
      refine ⟨congrArg (fun x => some (zi x)) ?_, rfl⟩
      unfold pWorth
      rw [if_neg h8, if_neg h23]
    · refine zx_iconst (v := 1) (nn := 27) rfl dX8_worthOf_26 rfl ?_
      refine zx_goto (tgt := 31) dX8_worthOf_27 (by decide) ?_
      refine zx_iret rfl dX8_worthOf_31 ?_
      refine ⟨congrArg (fun x => some (zi x)) ?_, rfl⟩
      unfold pWorth
      rw [if_neg h8, if_pos h23]
  · refine zx_bipush (v := 10) (nn := 13) rfl dX8_worthOf_11 rfl ?_
    refine zx_aload_n (k := 1) (nn := 14) dX8_worthOf_13 rfl rfl rfl ?_
    refine zx_getR (q := 28) (nn := 17) flX8_18 rfl rfl dX8_worthOf_14 rfl ?_
    refine zx_iload_n (k := 2) (nn := 18) dX8_worthOf_17 rfl rfl rfl ?_
    refine zx_iald_n (j := l) (nn := 19) rfl hl6 (by decide) dX8_worthOf_18 rfl ?_
    refine zx_isub (nn := 20) dX8_worthOf_19 rfl ?_
    refine zx_iret rfl dX8_worthOf_20 ?_
    refine ⟨congrArg (fun x => some (zi x)) ?_, rfl⟩
    unfold pWorth
    rw [if_pos h8, cS_z hl6]
set_option maxHeartbeats 4000000 in
set_option maxRecDepth 100000 in
theorem eX8_setOf_25 (σ : zG) (μ : zM) (g : Int32) (ok : pOK (cS 25 μ)) : zMet shC σ 3 MX8_setOf yX8_setOf [zr 25, zi g] μ (fun rr μ' => rr = some (zi (pSet (fun l => decide (pSightL (cS 25 μ) l (pNear (cS 25 μ) ((cS 25 μ) 2 - 1)) = g)) (pL (cS 25 μ)))) ∧ μ' = μ) := by
  have hL1 : μ 25 7 = nI (pL (cS 25 μ)) := (ok_L ok).1
  have hL2 := (ok_L ok).2
  refine zmetF (by decide +kernel) rfl (Nat.le_of_ble_eq_true rfl) ?_
  show zX shC σ 3 MX8_setOf 0 [(0, zr 25), (1, zi g)] [] μ _
  refine zx_iconst (v := 0) (nn := 1) rfl dX8_setOf_0 rfl ?_
  refine zx_istore_n (nn := 2) (lv' := [(2, zi 0), (0, zr 25), (1, zi g)]) dX8_setOf_1 rfl (by decide) rfl rfl ?_
  refine zx_iconst (v := 0) (nn := 3) rfl dX8_setOf_2 rfl ?_
  refine zx_istore_n (nn := 4) (lv' := [(3, zi 0), (2, zi 0), (0, zr 25), (1, zi g)]) dX8_setOf_3 rfl (by decide) rfl rfl ?_
  refine zx_lv (lv' := [(0, zr 25), (1, zi g), (2, zi 0), (3, zi 0)]) [2, 3, 1, 0] rfl ?_
  refine zx_while (τ := Nat × Int32) (fun t_ => pL (cS 25 μ) - t_.1) (fun t_ => t_.1 ≤ pL (cS 25 μ) ∧ t_.2 = pSet (fun l => decide (pSightL (cS 25 μ) l (pNear (cS 25 μ) ((cS 25 μ) 2 - 1)) = g)) t_.1) (fun t_ => [(0, zr 25), (1, zi g), (2, zi t_.2), (3, zi (nI t_.1))]) (fun t_ => μ) (t0 := (0, 0)) (⟨Nat.zero_le _, rfl⟩) ?_
  rintro ⟨i, v⟩ hI ih4
  replace hI : i ≤ pL (cS 25 μ) ∧ v = pSet (fun l => decide (pSightL (cS 25 μ) l (pNear (cS 25 μ) ((cS 25 μ) 2 - 1)) = g)) i := hI
  show zX shC σ 3 MX8_setOf 4 [(0, zr 25), (1, zi g), (2, zi v), (3, zi (nI i))] [] μ _
  refine zx_iload_n (k := 3) (nn := 5) dX8_setOf_4 rfl rfl rfl ?_
  refine zx_aload_n (k := 0) (nn := 6) dX8_setOf_5 rfl rfl rfl ?_
  refine zx_getI (nn := 9) flX8_46 rfl rfl dX8_setOf_6 rfl ?_
  rw [hL1]
  show zX shC σ 3 MX8_setOf 9 [(0, zr 25), (1, zi g), (2, zi v), (3, zi (nI i))] [zi (nI (pL (cS 25 μ))), zi (nI i)] μ _
  refine zx_icmp_ge (tgt := 33) (nn := 12) dX8_setOf_9 (by decide) rfl (fun h9 => ?_) (fun h9 => ?_)
  · refine zx_iload_n (k := 2) (nn := 34) dX8_setOf_33 rfl rfl rfl ?_
    refine zx_iret rfl dX8_setOf_34 ?_
    have hge := nI_le_le h9 (by omega)
    exact ⟨congrArg (fun x => some (zi x)) (by rw [hI.2, show i = pL (cS 25 μ) by omega]), rfl⟩
  · have hlt : i < pL (cS 25 μ) := nI_nle_lt h9 (by omega)
    refine zx_aload_n (k := 0) (nn := 13) dX8_setOf_12 rfl rfl rfl ?_
    refine zx_iload_n (k := 3) (nn := 14) dX8_setOf_13 rfl rfl rfl ?_
    refine zx_callVf (nn := 17) (k := 25) (d' := 2) (as := [zi (nI i)]) (rest := []) (n := 1) (eX8_sightOf_25 σ μ i  ok hlt) kX8_sightOf mlX8_108 rfl rfl rfl (by decide) rfl rfl (Nat.le_of_ble_eq_true rfl) dX8_setOf_14 rfl ?_
    show zX shC σ 3 MX8_setOf 17 [(0, zr 25), (1, zi g), (2, zi v), (3, zi (nI i))] [zi (pSightL (cS 25 μ) i (pNear (cS 25 μ) ((cS 25 μ) 2 - 1)))] μ _
    refine zx_iload_n (k := 1) (nn := 18) dX8_setOf_17 rfl rfl rfl ?_
    refine zx_icmp_ne (tgt := 27) (nn := 21) dX8_setOf_18 (by decide) rfl (fun h18 => ?_) (fun h18 => ?_)
    · refine zx_iinc (k := 3) (v := nI (i + 1)) (lv' := [(3, zi (nI (i + 1))), (0, zr 25), (1, zi g), (2, zi v)]) (nn := 30) dX8_setOf_27 rfl (nI_1 i) (by decide) rfl rfl ?_
      refine zx_goto (tgt := 4) dX8_setOf_30 (by decide) ?_
      refine zx_lv (lv' := [(0, zr 25), (1, zi g), (2, zi v), (3, zi (nI (i + 1)))]) [1, 2, 3, 0] rfl ?_
      exact ih4 (i + 1, v) (show (i + 1) ≤ pL (cS 25 μ) ∧ v = pSet (fun l => decide (pSightL (cS 25 μ) l (pNear (cS 25 μ) ((cS 25 μ) 2 - 1)) = g)) (i + 1) from ⟨by omega, by show _ = if _ then _ else _; rw [if_neg (by exact fun q => h18 (of_decide_eq_true q)), hI.2]⟩) (by show pL (cS 25 μ) - (i + 1) < pL (cS 25 μ) - i; omega)
    · refine zx_iload_n (k := 2) (nn := 22) dX8_setOf_21 rfl rfl rfl ?_
      refine zx_iconst (v := 1) (nn := 23) rfl dX8_setOf_22 rfl ?_
      refine zx_iload_n (k := 3) (nn := 24) dX8_setOf_23 rfl rfl rfl ?_
      refine zx_ishl (nn := 25) dX8_setOf_24 rfl ?_
      rw [zand31 (by omega)]
      show zX shC σ 3 MX8_setOf 25 [(0, zr 25), (1, zi g), (2, zi v), (3, zi (nI i))] [zi (1 <<< (nI i)), zi v] μ _
      refine zx_ior (nn := 26) dX8_setOf_25 rfl ?_
      refine zx_istore_n (nn := 27) (lv' := [(2, zi (v ||| (1 <<< (nI i)))), (0, zr 25), (1, zi g), (3, zi (nI i))]) dX8_setOf_26 rfl (by decide) rfl rfl ?_
      refine zx_iinc (k := 3) (v := nI (i + 1)) (lv' := [(3, zi (nI (i + 1))), (2, zi (v ||| (1 <<< (nI i)))), (0, zr 25), (1, zi g)]) (nn := 30) dX8_setOf_27 rfl (nI_1 i) (by decide) rfl rfl ?_
      refine zx_goto (tgt := 4) dX8_setOf_30 (by decide) ?_
      refine zx_lv (lv' := [(0, zr 25), (1, zi g), (2, zi (v ||| (1 <<< (nI i)))), (3, zi (nI (i + 1)))]) [2, 3, 1, 0] rfl ?_
      exact ih4 (i + 1, v ||| (1 <<< nI i)) (show (i + 1) ≤ pL (cS 25 μ) ∧ (v ||| (1 <<< nI i)) = pSet (fun l => decide (pSightL (cS 25 μ) l (pNear (cS 25 μ) ((cS 25 μ) 2 - 1)) = g)) (i + 1) from ⟨by omega, by show _ = if _ then _ else _; rw [if_pos (by exact decide_eq_true h18), hI.2]⟩) (by show pL (cS 25 μ) - (i + 1) < pL (cS 25 μ) - i; omega)
