/-! what is asked of the rest: all beats that are left -/
def pRem (s : Nat → Int32) : Nat := pB s - pb s
theorem pRun_near {ρ : pR} {s : Nat → Int32} (ok : pOK s) {m : Nat} (hm : m < pRem s) : pNear (pRun ρ s (m + 1)) (pRun ρ s (m + 1) 2 - 1) = s (31 + (pb s + m)) := by
  unfold pRem at hm
  obtain ⟨h1, h2, h3, h4, h5⟩ := pRun_ok (ρ := ρ) ok m (by omega)
  obtain ⟨g1, g2, g3, g4, g5⟩ := pRun_ok (ρ := ρ) ok (m + 1) (by omega)
  have e : pRun ρ s (m + 1) 2 - 1 = nI (pb s + m) := by
    rw [(ok_b g1).1, g2, show pb s + (m + 1) = (pb s + m) + 1 by omega]
    exact nI_pred _
  rw [e, pNear_at g1 (by rw [g3]; omega), g5 _ (by omega) (by omega) (by omega)]
def pOn (ρ : pR) (s : Nat → Int32) (n : Nat) : Int32 := pSum (fun m => pGain ρ (pRun ρ s m) (-1)) n
def pShow (ρ : pR) (s : Nat → Int32) (l : Nat) : Int32 := pSum (fun m => pWorth (pRun ρ s (m + 1)) l (s (31 + (pb s + m)))) (pRem s)
def pOutAt (ρ : pR) (s : Nat → Int32) (l m : Nat) : Bool := decide (pSightL (pRun ρ s (m + 1)) l (s (31 + (pb s + m))) = 0)
def pLost (ρ : pR) (s : Nat → Int32) (l : Nat) : Int32 := match pFirst (pOutAt ρ s l) 0 (pRem s) with
  | none => -3
  | some m => nI (pb s + m)
def pArg (f : Nat → Int32) : Nat → Int32 × Int32
  | 0 => (-1, 0)
  | n + 1 => if (pArg f n).1 < f n then (f n, nI n) else pArg f n
def pStep (ρ : pR) (s : Nat → Int32) (l : Nat) : Int32 := match pFirst (fun k => decide (pLost ρ (pPut s (7 + 4 * l + 3) (nI (k + 1))) l = -3)) 0 9 with
  | none => -3
  | some k => nI (k + 1)
def pCrossAt (ρ : pR) (s : Nat → Int32) (l k m : Nat) : Bool :=
  let a := pRun ρ s m
  let c := pRun ρ s (m + 1)
  (decide (a (7 + 4 * l + 1) < a (7 + 4 * k + 1)) && decide (c (7 + 4 * k + 1) < c (7 + 4 * l + 1))) || (decide (a (7 + 4 * k + 1) < a (7 + 4 * l + 1)) && decide (c (7 + 4 * l + 1) < c (7 + 4 * k + 1)))
def pCount (f : Nat → Bool) : Nat → Nat
  | 0 => 0
  | n + 1 => if f n then pCount f n + 1 else pCount f n
theorem pCount_le (f : Nat → Bool) : ∀ n, pCount f n ≤ n
  | 0 => Nat.le_refl _
  | n + 1 => by
    have := pCount_le f n
    unfold pCount
    split <;> omega
def pCross (ρ : pR) (s : Nat → Int32) (l k : Nat) : Int32 := nI (pCount (pCrossAt ρ s l k) (pRem s))
def pInSet (ρ : pR) (s : Nat → Int32) (m : Nat) : Int32 := pSetOf (pRun ρ s (m + 1)) 2 (s (31 + (pb s + m)))
def pBits (x : Int32) : Int32 :=
  let a := x - (zushr x 1 &&& 1431655765)
  let b := (a &&& 858993459) + (zushr a 2 &&& 858993459)
  let c := (b + zushr b 4) &&& 252645135
  let e := c + zushr c 8
  let g := e + zushr e 16
  g &&& 63
def pAllIn (f : Nat → Int32) (set : Int32) : Nat → Bool
  | 0 => true
  | n + 1 => pAllIn f set n && decide (¬ f n &&& set = 0)
def pWhoTo (f : Nat → Int32) (rem : Nat) : Nat → Int32
  | 0 => -3
  | n + 1 => if (decide (pWhoTo f rem n = -3) || decide (pBits (nI n) < pBits (pWhoTo f rem n))) && pAllIn f (nI n) rem then nI n else pWhoTo f rem n
def pWho (ρ : pR) (s : Nat → Int32) : Int32 := pWhoTo (pInSet ρ s) (pRem s) (2 ^ pL s)
def pRunLot (ρ : pR) (s : Nat → Int32) : Nat → Nat → Int32
  | 0 => s
  | m + 1 => pGo ρ (pSlip (pRunLot ρ s m)) (-1)
def pLotSum (ρ : pR) (s : Nat → Int32) (n : Nat) : Int32 := pSum (fun m => pGain ρ (pSlip (pRunLot ρ s m)) (-1)) n
def pTimes (ρ : pR) (s : Nat → Int32) (v : Int32) : Nat → Nat × Int32
  | 0 => (0, s 4)
  | n + 1 => (if v ≤ pLotSum ρ (pPut s 4 (pTimes ρ s v n).2) (pRem s) then (pTimes ρ s v n).1 + 1 else (pTimes ρ s v n).1, pRunLot ρ (pPut s 4 (pTimes ρ s v n).2) (pRem s) 4)
theorem pOK_slip {s : Nat → Int32} (ok : pOK s) : pOK (pSlip s) := pOK_put (pOK_put ok (by omega)) (by omega)
theorem pSlip_lo {s : Nat → Int32} {i : Nat} (h : i < 31) (h4 : i ≠ 4) : pSlip s i = s i := by
  unfold pSlip pPut
  rw [if_neg (by omega), if_neg h4]
theorem pSlip_n {s : Nat → Int32} : pb (pSlip s) = pb s ∧ pB (pSlip s) = pB s ∧ pL (pSlip s) = pL s := by
  unfold pb pB pL
  rw [pSlip_lo (by omega) (by omega), pSlip_lo (by omega) (by omega), pSlip_lo (by omega) (by omega)]
  exact ⟨rfl, rfl, rfl⟩
theorem pRunLot_ok {ρ : pR} {s : Nat → Int32} (ok : pOK s) : ∀ m, m ≤ pB s - pb s → pOK (pRunLot ρ s m) ∧ pb (pRunLot ρ s m) = pb s + m ∧ pB (pRunLot ρ s m) = pB s
  | 0, _ => ⟨ok, rfl, rfl⟩
  | m + 1, h => by
    obtain ⟨h1, h2, h3⟩ := pRunLot_ok (ρ := ρ) ok m (by omega)
    have hs := pOK_slip h1
    obtain ⟨e1, e2, e3⟩ := pSlip_n (s := pRunLot ρ s m)
    have hb : pb (pSlip (pRunLot ρ s m)) < pB (pSlip (pRunLot ρ s m)) := by rw [e1, e2, h2, h3]; omega
    refine ⟨pOK_go hs hb, ?_, ?_⟩
    · show pb (pGo ρ _ _) = _
      rw [pGo_b hs hb, e1, h2]; omega
    · show pB (pGo ρ _ _) = _
      rw [pGo_B hs, e2, h3]
theorem pPut_n {s : Nat → Int32} {k : Nat} {v : Int32} (h : 3 ≤ k) : pb (pPut s k v) = pb s ∧ pB (pPut s k v) = pB s ∧ pL (pPut s k v) = pL s ∧ pRem (pPut s k v) = pRem s := by
  have e : ∀ i, i < 3 → pPut s k v i = s i := fun i hi => if_neg (by omega)
  unfold pRem pb pB pL
  rw [e 0 (by omega), e 1 (by omega), e 2 (by omega)]
  exact ⟨rfl, rfl, rfl, rfl⟩
theorem pPut_ne {s : Nat → Int32} {k i : Nat} {v : Int32} (h : i ≠ k) : pPut s k v i = s i := if_neg h
theorem pOver_iff {s : Nat → Int32} (ok : pOK s) : pOver s = decide (pB s ≤ pb s) := by
  unfold pOver
  rw [(ok_B ok).1, (ok_b ok).1]
  have := (ok_B ok).2
  have := (ok_b ok).2
  rcases Nat.lt_or_ge (pb s) (pB s) with h | h
  · rw [decide_eq_false (nI_ge h (by omega)), decide_eq_false (by omega)]
  · rw [decide_eq_true (nI_le h (by omega)), decide_eq_true h]
set_option maxHeartbeats 4000000 in
set_option maxRecDepth 100000 in
theorem eX2_worthOfBeats_37 (σ : zG) (μ : zM) (n : Nat) (ok : pOK (cS 18 μ)) (rok : cROK 1 μ) (hn : n < 2 ^ 30) : zMet shC σ 5 MX2_worthOfBeats yX2_worthOfBeats [zr 37, zi (nI n)] μ (fun rr μ' => rr = some (zi (pOn (cR 1 μ) (cS 18 μ) (min n (pRem (cS 18 μ))))) ∧ zJ [6, 25, 26, 27, 28, 29, 30, 31] μ μ') := by
  have hB16 := (ok_B ok).2
  have hbB := (ok_b ok).2
  have hb1 : μ 18 9 = nI (pb (cS 18 μ)) := (ok_b ok).1
  have hBe : μ 18 8 = nI (pB (cS 18 μ)) := (ok_B ok).1
  have hrem : pRem (cS 18 μ) = pB (cS 18 μ) - pb (cS 18 μ) := rfl
  refine zmetF (by decide +kernel) rfl (Nat.le_of_ble_eq_true rfl) ?_
  show zX shC σ 5 MX2_worthOfBeats 0 [(0, zr 37), (1, zi (nI n))] [] μ _
  refine zx_aload_n (k := 0) (nn := 1) dX2_worthOfBeats_0 rfl rfl rfl ?_
  refine zx_getR (q := 25) (nn := 4) flX2_19 rfl rfl dX2_worthOfBeats_1 rfl ?_
  refine zx_aload_n (k := 0) (nn := 5) dX2_worthOfBeats_4 rfl rfl rfl ?_
  refine zx_getR (q := 18) (nn := 8) flX2_15 rfl rfl dX2_worthOfBeats_5 rfl ?_
  refine zx_callV (nn := 11) (k := 25) (d' := 1) (as := [zr 18]) (rest := []) (n := 1) (eX8_copyFrom_25_18 σ μ) kX8_copyFrom mlX2_22 rfl rfl rfl (by decide) rfl rfl (Nat.le_of_ble_eq_true rfl) dX2_worthOfBeats_8 rfl ?_
  rintro _ ν1 ⟨rfl, c1, c2⟩
  show zX shC σ 5 MX2_worthOfBeats 11 [(0, zr 37), (1, zi (nI n))] [] ν1 _
  refine zx_iconst (v := 0) (nn := 12) rfl dX2_worthOfBeats_11 rfl ?_
  refine zx_istore_n (nn := 13) (lv' := [(2, zi 0), (0, zr 37), (1, zi (nI n))]) dX2_worthOfBeats_12 rfl (by decide) rfl rfl ?_
  refine zx_iconst (v := 0) (nn := 14) rfl dX2_worthOfBeats_13 rfl ?_
  refine zx_istore_n (nn := 15) (lv' := [(3, zi 0), (2, zi 0), (0, zr 37), (1, zi (nI n))]) dX2_worthOfBeats_14 rfl (by decide) rfl rfl ?_
  refine zx_lv (lv' := [(0, zr 37), (1, zi (nI n)), (2, zi 0), (3, zi 0)]) [2, 3, 1, 0] rfl ?_
  refine zx_while (τ := Nat × Int32 × zM) (fun t_ => pRem (cS 18 μ) - t_.1) (fun t_ => t_.1 ≤ pRem (cS 18 μ) ∧ cS 25 t_.2.2 = pRun (cR 1 μ) (cS 18 μ) t_.1 ∧ zJ [6, 25, 26, 27, 28, 29, 30, 31] μ t_.2.2 ∧ t_.2.1 = pSum (fun q_ => pGain (cR 1 μ) (pRun (cR 1 μ) (cS 18 μ) q_) (-1)) t_.1 ∧ t_.1 ≤ n) (fun t_ => [(0, zr 37), (1, zi (nI n)), (2, zi t_.2.1), (3, zi (nI t_.1))]) (fun t_ => t_.2.2) (t0 := (0, 0, ν1)) (⟨Nat.zero_le _, c1, c2.mono (by simp), rfl, Nat.zero_le _⟩) ?_
  rintro ⟨m, v, μ1⟩ hI ih15
  replace hI : m ≤ pRem (cS 18 μ) ∧ cS 25 μ1 = pRun (cR 1 μ) (cS 18 μ) m ∧ zJ [6, 25, 26, 27, 28, 29, 30, 31] μ μ1 ∧ v = pSum (fun q_ => pGain (cR 1 μ) (pRun (cR 1 μ) (cS 18 μ) q_) (-1)) m ∧ m ≤ n := hI
  show zX shC σ 5 MX2_worthOfBeats 15 [(0, zr 37), (1, zi (nI n)), (2, zi v), (3, zi (nI m))] [] μ1 _
  obtain ⟨hm, hs, hj, hv, hmn⟩ := hI
  have hR1 : cR 1 μ1 = cR 1 μ := cR_μ (fun k h1 h2 => hj k (by simp; omega))
  have hok1 := pRun_ok (ρ := cR 1 μ) ok m (by omega)
  have okm : pOK (cS 25 μ1) := by rw [hs]; exact hok1.1
  have rokm : cROK 1 μ1 := cROK_μ (hj 1 (by decide)).symm (hj 4 (by decide)).symm rok
  have h18 : μ1 18 = μ 18 := hj 18 (by decide)
  refine zx_iload_n (k := 3) (nn := 16) dX2_worthOfBeats_15 rfl rfl rfl ?_
  refine zx_iload_n (k := 1) (nn := 17) dX2_worthOfBeats_16 rfl rfl rfl ?_
  refine zx_icmp_ge (tgt := 47) (nn := 20) dX2_worthOfBeats_17 (by decide) rfl (fun h17 => ?_) (fun h17 => ?_)
  · refine zx_iload_n (k := 2) (nn := 48) dX2_worthOfBeats_47 rfl rfl rfl ?_
    refine zx_iret rfl dX2_worthOfBeats_48 ?_
    have hge := nI_le_le h17 (by omega)
    refine ⟨congrArg (fun x => some (zi x)) ?_, hj⟩
    rw [hv, show m = n by omega, Nat.min_eq_left (by omega)]
    rfl
  · have hlt := nI_nle_lt h17 (by omega)
    refine zx_aload_n (k := 0) (nn := 21) dX2_worthOfBeats_20 rfl rfl rfl ?_
    refine zx_getR (q := 25) (nn := 24) flX2_19 rfl rfl dX2_worthOfBeats_21 rfl ?_
    refine zx_callVf (nn := 27) (k := 25) (d' := 0) (as := []) (rest := []) (n := 0) (eX8_isOver_25 σ μ1) kX8_isOver mlX2_28 rfl rfl rfl (by decide) rfl rfl (Nat.le_of_ble_eq_true rfl) dX2_worthOfBeats_24 rfl ?_
    show zX shC σ 5 MX2_worthOfBeats 27 [(0, zr 37), (1, zi (nI n)), (2, zi v), (3, zi (nI m))] [zi (zb (pOver (cS 25 μ1)))] μ1 _
    refine zx_ifb_ne (tgt := 47) (nn := 30) dX2_worthOfBeats_27 (by decide) rfl (fun h27 => ?_) (fun h27 => ?_)
    · refine zx_iload_n (k := 2) (nn := 48) dX2_worthOfBeats_47 rfl rfl rfl ?_
      refine zx_iret rfl dX2_worthOfBeats_48 ?_
      rw [pOver_iff okm, hs, hok1.2.1, hok1.2.2.1] at h27
      have hge := of_decide_eq_true h27
      refine ⟨congrArg (fun x => some (zi x)) ?_, hj⟩
      rw [hv, show m = pRem (cS 18 μ) by omega, Nat.min_eq_right (by omega)]
      rfl
    · rw [pOver_iff okm, hs, hok1.2.1, hok1.2.2.1] at h27
      have hlt2 := of_decide_eq_false h27
      refine zx_iload_n (k := 2) (nn := 31) dX2_worthOfBeats_30 rfl rfl rfl ?_
      refine zx_aload_n (k := 0) (nn := 32) dX2_worthOfBeats_31 rfl rfl rfl ?_
      refine zx_getR (q := 25) (nn := 35) flX2_19 rfl rfl dX2_worthOfBeats_32 rfl ?_
      refine zx_iconst (v := -1) (nn := 36) rfl dX2_worthOfBeats_35 rfl ?_
      refine zx_callV (nn := 39) (k := 25) (d' := 4) (as := [zi (-1)]) (rest := [zi v]) (n := 1) (eX8_goBy_25 σ μ1 (-1) okm rokm (by rw [hs, hok1.2.1, hok1.2.2.1]; omega)) kX8_goBy mlX2_32 rfl rfl rfl (by decide) rfl rfl (Nat.le_of_ble_eq_true rfl) dX2_worthOfBeats_36 rfl ?_
      rintro _ ν2 ⟨rfl, g1, g2⟩
      show zX shC σ 5 MX2_worthOfBeats 39 [(0, zr 37), (1, zi (nI n)), (2, zi v), (3, zi (nI m))] [zi (pGain (cR 1 μ1) (cS 25 μ1) (-1)), zi v] ν2 _
      have hs2 : cS 25 ν2 = pRun (cR 1 μ) (cS 18 μ) (m + 1) := by rw [g1, hR1, hs]; rfl
      have hj2 : zJ [6, 25, 26, 27, 28, 29, 30, 31] μ ν2 := hj.tr (g2.mono (by simp))
      rw [hR1, hs]
      show zX shC σ 5 MX2_worthOfBeats 39 [(0, zr 37), (1, zi (nI n)), (2, zi v), (3, zi (nI m))] [zi (pGain (cR 1 μ) (pRun (cR 1 μ) (cS 18 μ) m) (-1)), zi v] ν2 _
      refine zx_iadd (nn := 40) dX2_worthOfBeats_39 rfl ?_
      refine zx_istore_n (nn := 41) (lv' := [(2, zi (v + (pGain (cR 1 μ) (pRun (cR 1 μ) (cS 18 μ) m) (-1)))), (0, zr 37), (1, zi (nI n)), (3, zi (nI m))]) dX2_worthOfBeats_40 rfl (by decide) rfl rfl ?_
      refine zx_iinc (k := 3) (v := nI (m + 1)) (lv' := [(3, zi (nI (m + 1))), (2, zi (v + (pGain (cR 1 μ) (pRun (cR 1 μ) (cS 18 μ) m) (-1)))), (0, zr 37), (1, zi (nI n))]) (nn := 44) dX2_worthOfBeats_41 rfl (nI_1 m) (by decide) rfl rfl ?_
      refine zx_goto (tgt := 15) dX2_worthOfBeats_44 (by decide) ?_
      refine zx_lv (lv' := [(0, zr 37), (1, zi (nI n)), (2, zi (v + (pGain (cR 1 μ) (pRun (cR 1 μ) (cS 18 μ) m) (-1)))), (3, zi (nI (m + 1)))]) [2, 3, 1, 0] rfl ?_
      exact ih15 (m + 1, v + (fun q_ => pGain (cR 1 μ) (pRun (cR 1 μ) (cS 18 μ) q_) (-1)) m, ν2) (show (m + 1) ≤ pRem (cS 18 μ) ∧ cS 25 ν2 = pRun (cR 1 μ) (cS 18 μ) (m + 1) ∧ zJ [6, 25, 26, 27, 28, 29, 30, 31] μ ν2 ∧ (v + (fun q_ => pGain (cR 1 μ) (pRun (cR 1 μ) (cS 18 μ) q_) (-1)) m) = pSum (fun q_ => pGain (cR 1 μ) (pRun (cR 1 μ) (cS 18 μ) q_) (-1)) (m + 1) ∧ (m + 1) ≤ n from ⟨by omega, hs2, hj2, by show _ + _ = pSum _ m + _; rw [hv], by omega⟩) (by show pRem (cS 18 μ) - (m + 1) < pRem (cS 18 μ) - m; omega)
set_option maxHeartbeats 4000000 in
set_option maxRecDepth 100000 in
theorem eX2_worthWith_1 (σ : zG) (μ : zM) (l : Nat) (x : Int32) (ok : pOK (cS 18 μ)) (rok : cROK 1 μ) (hl : l < pL (cS 18 μ)) (ok2 : pOK (pPut (cS 18 μ) (7 + 4 * l + 1) x)) : zMet shC σ 5 MX2_worthWith yX2_worthWith [zr 37, zi (nI l), zi 1, zi x] μ (fun rr μ' => rr = some (zi (pShow (cR 1 μ) (pPut (cS 18 μ) (7 + 4 * l + 1) x) l)) ∧ zJ [6, 25, 26, 27, 28, 29, 30, 31] μ μ') := by
  have hB16 := (ok_B ok).2
  have hbB := (ok_b ok).2
  have hb1 : μ 18 9 = nI (pb (cS 18 μ)) := (ok_b ok).1
  have hBe : μ 18 8 = nI (pB (cS 18 μ)) := (ok_B ok).1
  have hrem : pRem (cS 18 μ) = pB (cS 18 μ) - pb (cS 18 μ) := rfl
  have hl6 : l < 6 := Nat.lt_of_lt_of_le hl (ok_L ok).2
  obtain ⟨hp1, hp2, hp3, hp4⟩ := pPut_n (s := (cS 18 μ)) (k := 7 + 4 * l + 1) (v := x) (by omega)
  refine zmetF (by decide +kernel) rfl (Nat.le_of_ble_eq_true rfl) ?_
  show zX shC σ 5 MX2_worthWith 0 [(0, zr 37), (1, zi (nI l)), (2, zi 1), (3, zi x)] [] μ _
  refine zx_aload_n (k := 0) (nn := 1) dX2_worthWith_0 rfl rfl rfl ?_
  refine zx_getR (q := 25) (nn := 4) flX2_19 rfl rfl dX2_worthWith_1 rfl ?_
  refine zx_aload_n (k := 0) (nn := 5) dX2_worthWith_4 rfl rfl rfl ?_
  refine zx_getR (q := 18) (nn := 8) flX2_15 rfl rfl dX2_worthWith_5 rfl ?_
  refine zx_callV (nn := 11) (k := 25) (d' := 1) (as := [zr 18]) (rest := []) (n := 1) (eX8_copyFrom_25_18 σ μ) kX8_copyFrom mlX2_22 rfl rfl rfl (by decide) rfl rfl (Nat.le_of_ble_eq_true rfl) dX2_worthWith_8 rfl ?_
  rintro _ ν1 ⟨rfl, c1, c2⟩
  show zX shC σ 5 MX2_worthWith 11 [(0, zr 37), (1, zi (nI l)), (2, zi 1), (3, zi x)] [] ν1 _
  refine zx_aload_n (k := 0) (nn := 12) dX2_worthWith_11 rfl rfl rfl ?_
  refine zx_getR (q := 25) (nn := 15) flX2_19 rfl rfl dX2_worthWith_12 rfl ?_
  refine zx_iload_n (k := 1) (nn := 16) dX2_worthWith_15 rfl rfl rfl ?_
  refine zx_iload_n (k := 2) (nn := 17) dX2_worthWith_16 rfl rfl rfl ?_
  refine zx_iload_n (k := 3) (nn := 18) dX2_worthWith_17 rfl rfl rfl ?_
  refine zx_callVf (nn := 21) (k := 25) (d' := 1) (as := [zi (nI l), zi 1, zi x]) (rest := []) (n := 3) (eX8_exchange_25_1 σ ν1 l x hl6) kX8_exchange mlX2_36 rfl rfl rfl (by decide) rfl rfl (Nat.le_of_ble_eq_true rfl) dX2_worthWith_18 rfl ?_
  show zX shC σ 5 MX2_worthWith 21 [(0, zr 37), (1, zi (nI l)), (2, zi 1), (3, zi x)] [zi (ν1 27 l)] (zp ν1 27 l x) _
  have c3 : cS 25 (zp ν1 27 l x) = pPut (cS 18 μ) (7 + 4 * l + 1) x := by
    funext i
    rw [cS_fld (b := 25) 1 (by omega) hl6 i, c1]
    rfl
  refine zx_popi (nn := 22) dX2_worthWith_21 rfl ?_
  refine zx_iconst (v := 0) (nn := 23) rfl dX2_worthWith_22 rfl ?_
  refine zx_istore (nn := 25) (lv' := [(4, zi 0), (0, zr 37), (1, zi (nI l)), (2, zi 1), (3, zi x)]) dX2_worthWith_23 (by decide) rfl rfl ?_
  refine zx_aload_n (k := 1) (nn := 26) dX2_worthWith_25 rfl rfl rfl ?_
  refine zx_getR (q := 18) (nn := 29) flX2_15 rfl rfl dX2_worthWith_26 rfl ?_
  refine zx_getI (nn := 32) flX2_40 rfl rfl dX2_worthWith_29 rfl ?_
  show zX shC σ 5 MX2_worthWith 32 [(4, zi 0), (0, zr 37), (1, zi (nI l)), (2, zi 1), (3, zi x)] [zi (ν1 18 9)] (zp ν1 27 l x) _
  rw [show ν1 18 9 = nI (pb (cS 18 μ) + 0) from by rw [c2 18 (by decide)]; exact hb1]
  show zX shC σ 5 MX2_worthWith 32 [(4, zi 0), (0, zr 37), (1, zi (nI l)), (2, zi 1), (3, zi x)] [zi (nI (pb (cS 18 μ) + 0))] (zp ν1 27 l x) _
  refine zx_istore (nn := 34) (lv' := [(5, zi (nI (pb (cS 18 μ) + 0))), (4, zi 0), (0, zr 37), (1, zi (nI l)), (2, zi 1), (3, zi x)]) dX2_worthWith_32 (by decide) rfl rfl ?_
  refine zx_lv (lv' := [(0, zr 37), (1, zi (nI l)), (2, zi 1), (3, zi x), (4, zi 0), (5, zi (nI (pb (cS 18 μ) + 0)))]) [2, 3, 4, 5, 1, 0] rfl ?_
  refine zx_while (τ := Nat × Int32 × zM) (fun t_ => pRem (cS 18 μ) - t_.1) (fun t_ => t_.1 ≤ pRem (cS 18 μ) ∧ cS 25 t_.2.2 = pRun (cR 1 μ) (pPut (cS 18 μ) (7 + 4 * l + 1) x) t_.1 ∧ zJ [6, 25, 26, 27, 28, 29, 30, 31] μ t_.2.2 ∧ t_.2.1 = pSum (fun q_ => pWorth (pRun (cR 1 μ) (pPut (cS 18 μ) (7 + 4 * l + 1) x) (q_ + 1)) l ((pPut (cS 18 μ) (7 + 4 * l + 1) x) (31 + (pb (pPut (cS 18 μ) (7 + 4 * l + 1) x) + q_)))) t_.1) (fun t_ => [(0, zr 37), (1, zi (nI l)), (2, zi 1), (3, zi x), (4, zi t_.2.1), (5, zi (nI (pb (cS 18 μ) + t_.1)))]) (fun t_ => t_.2.2) (t0 := (0, 0, zp ν1 27 l x)) (⟨Nat.zero_le _, c3, (c2.mono (by simp)).p (by decide), rfl⟩) ?_
  rintro ⟨m, v, μ1⟩ hI ih34
  replace hI : m ≤ pRem (cS 18 μ) ∧ cS 25 μ1 = pRun (cR 1 μ) (pPut (cS 18 μ) (7 + 4 * l + 1) x) m ∧ zJ [6, 25, 26, 27, 28, 29, 30, 31] μ μ1 ∧ v = pSum (fun q_ => pWorth (pRun (cR 1 μ) (pPut (cS 18 μ) (7 + 4 * l + 1) x) (q_ + 1)) l ((pPut (cS 18 μ) (7 + 4 * l + 1) x) (31 + (pb (pPut (cS 18 μ) (7 + 4 * l + 1) x) + q_)))) m := hI
  show zX shC σ 5 MX2_worthWith 34 [(0, zr 37), (1, zi (nI l)), (2, zi 1), (3, zi x), (4, zi v), (5, zi (nI (pb (cS 18 μ) + m)))] [] μ1 _
  obtain ⟨hm, hs, hj, hv⟩ := hI
  have hR1 : cR 1 μ1 = cR 1 μ := cR_μ (fun k h1 h2 => hj k (by simp; omega))
  have hok1 := pRun_ok (ρ := cR 1 μ) ok2 m (by rw [hp2, hp1]; omega)
  have okm : pOK (cS 25 μ1) := by rw [hs]; exact hok1.1
  have rokm : cROK 1 μ1 := cROK_μ (hj 1 (by decide)).symm (hj 4 (by decide)).symm rok
  have h18 : μ1 18 = μ 18 := hj 18 (by decide)
  refine zx_iload (k := 5) (nn := 36) dX2_worthWith_34 rfl rfl ?_
  refine zx_aload_n (k := 0) (nn := 37) dX2_worthWith_36 rfl rfl rfl ?_
  refine zx_getR (q := 18) (nn := 40) flX2_15 rfl rfl dX2_worthWith_37 rfl ?_
  refine zx_getI (nn := 43) flX2_44 rfl rfl dX2_worthWith_40 rfl ?_
  rw [show μ1 18 8 = nI (pB (cS 18 μ)) from by rw [h18]; exact hBe]
  show zX shC σ 5 MX2_worthWith 43 [(0, zr 37), (1, zi (nI l)), (2, zi 1), (3, zi x), (4, zi v), (5, zi (nI (pb (cS 18 μ) + m)))] [zi (nI (pB (cS 18 μ))), zi (nI (pb (cS 18 μ) + m))] μ1 _
  refine zx_icmp_ge (tgt := 74) (nn := 46) dX2_worthWith_43 (by decide) rfl (fun h43 => ?_) (fun h43 => ?_)
  · refine zx_iload (k := 4) (nn := 76) dX2_worthWith_74 rfl rfl ?_
    refine zx_iret rfl dX2_worthWith_76 ?_
    have hge := nI_le_le h43 (by omega)
    refine ⟨congrArg (fun x => some (zi x)) ?_, hj⟩
    rw [hv, show m = pRem (cS 18 μ) by omega]
    unfold pShow
    rw [hp4]
  · have hlt : pb (cS 18 μ) + m < pB (cS 18 μ) := nI_nle_lt h43 (by omega)
    refine zx_aload_n (k := 0) (nn := 47) dX2_worthWith_46 rfl rfl rfl ?_
    refine zx_getR (q := 25) (nn := 50) flX2_19 rfl rfl dX2_worthWith_47 rfl ?_
    refine zx_iconst (v := -1) (nn := 51) rfl dX2_worthWith_50 rfl ?_
    refine zx_callV (nn := 54) (k := 25) (d' := 4) (as := [zi (-1)]) (rest := []) (n := 1) (eX8_goBy_25 σ μ1 (-1) okm rokm (by rw [hs, hok1.2.1, hok1.2.2.1]; rw [hp1, hp2]; omega)) kX8_goBy mlX2_32 rfl rfl rfl (by decide) rfl rfl (Nat.le_of_ble_eq_true rfl) dX2_worthWith_51 rfl ?_
    rintro _ ν2 ⟨rfl, g1, g2⟩
    show zX shC σ 5 MX2_worthWith 54 [(0, zr 37), (1, zi (nI l)), (2, zi 1), (3, zi x), (4, zi v), (5, zi (nI (pb (cS 18 μ) + m)))] [zi (pGain (cR 1 μ1) (cS 25 μ1) (-1))] ν2 _
    have hs2 : cS 25 ν2 = pRun (cR 1 μ) (pPut (cS 18 μ) (7 + 4 * l + 1) x) (m + 1) := by rw [g1, hR1, hs]; rfl
    have hj2 : zJ [6, 25, 26, 27, 28, 29, 30, 31] μ ν2 := hj.tr (g2.mono (by simp))
    refine zx_popi (nn := 55) dX2_worthWith_54 rfl ?_
    have hok2 := pRun_ok (ρ := cR 1 μ) ok2 (m + 1) (by rw [hp2, hp1]; omega)
    refine zx_iload (k := 4) (nn := 57) dX2_worthWith_55 rfl rfl ?_
    refine zx_aload_n (k := 0) (nn := 58) dX2_worthWith_57 rfl rfl rfl ?_
    refine zx_getR (q := 25) (nn := 61) flX2_19 rfl rfl dX2_worthWith_58 rfl ?_
    refine zx_iload_n (k := 1) (nn := 62) dX2_worthWith_61 rfl rfl rfl ?_
    refine zx_callVf (nn := 65) (k := 25) (d' := 3) (as := [zi (nI l)]) (rest := [zi v]) (n := 1) (eX8_worthOf_25 σ ν2 l (by rw [hs2]; exact hok2.1) (by rw [hs2, hok2.2.2.2.1, hp3]; exact hl)) kX8_worthOf mlX2_47 rfl rfl rfl (by decide) rfl rfl (Nat.le_of_ble_eq_true rfl) dX2_worthWith_62 rfl ?_
    show zX shC σ 5 MX2_worthWith 65 [(0, zr 37), (1, zi (nI l)), (2, zi 1), (3, zi x), (4, zi v), (5, zi (nI (pb (cS 18 μ) + m)))] [zi (pWorth (cS 25 ν2) l (pNear (cS 25 ν2) (cS 25 ν2 2 - 1))), zi v] ν2 _
    rw [hs2, pRun_near ok2 (by rw [hp4]; omega)]
    show zX shC σ 5 MX2_worthWith 65 [(0, zr 37), (1, zi (nI l)), (2, zi 1), (3, zi x), (4, zi v), (5, zi (nI (pb (cS 18 μ) + m)))] [zi ((fun q_ => pWorth (pRun (cR 1 μ) (pPut (cS 18 μ) (7 + 4 * l + 1) x) (q_ + 1)) l ((pPut (cS 18 μ) (7 + 4 * l + 1) x) (31 + (pb (pPut (cS 18 μ) (7 + 4 * l + 1) x) + q_)))) m), zi v] ν2 _
    refine zx_iadd (nn := 66) dX2_worthWith_65 rfl ?_
    refine zx_istore (nn := 68) (lv' := [(4, zi (v + ((fun q_ => pWorth (pRun (cR 1 μ) (pPut (cS 18 μ) (7 + 4 * l + 1) x) (q_ + 1)) l ((pPut (cS 18 μ) (7 + 4 * l + 1) x) (31 + (pb (pPut (cS 18 μ) (7 + 4 * l + 1) x) + q_)))) m))), (0, zr 37), (1, zi (nI l)), (2, zi 1), (3, zi x), (5, zi (nI (pb (cS 18 μ) + m)))]) dX2_worthWith_66 (by decide) rfl rfl ?_
    refine zx_iinc (k := 5) (v := nI ((pb (cS 18 μ) + m) + 1)) (lv' := [(5, zi (nI ((pb (cS 18 μ) + m) + 1))), (4, zi (v + ((fun q_ => pWorth (pRun (cR 1 μ) (pPut (cS 18 μ) (7 + 4 * l + 1) x) (q_ + 1)) l ((pPut (cS 18 μ) (7 + 4 * l + 1) x) (31 + (pb (pPut (cS 18 μ) (7 + 4 * l + 1) x) + q_)))) m))), (0, zr 37), (1, zi (nI l)), (2, zi 1), (3, zi x)]) (nn := 71) dX2_worthWith_68 rfl (nI_1 (pb (cS 18 μ) + m)) (by decide) rfl rfl ?_
    refine zx_goto (tgt := 34) dX2_worthWith_71 (by decide) ?_
    refine zx_lv (lv' := [(0, zr 37), (1, zi (nI l)), (2, zi 1), (3, zi x), (4, zi (v + ((fun q_ => pWorth (pRun (cR 1 μ) (pPut (cS 18 μ) (7 + 4 * l + 1) x) (q_ + 1)) l ((pPut (cS 18 μ) (7 + 4 * l + 1) x) (31 + (pb (pPut (cS 18 μ) (7 + 4 * l + 1) x) + q_)))) m))), (5, zi (nI ((pb (cS 18 μ) + m) + 1)))]) [2, 3, 4, 5, 1, 0] rfl ?_
    exact ih34 (m + 1, v + (fun q_ => pWorth (pRun (cR 1 μ) (pPut (cS 18 μ) (7 + 4 * l + 1) x) (q_ + 1)) l ((pPut (cS 18 μ) (7 + 4 * l + 1) x) (31 + (pb (pPut (cS 18 μ) (7 + 4 * l + 1) x) + q_)))) m, ν2) (show (m + 1) ≤ pRem (cS 18 μ) ∧ cS 25 ν2 = pRun (cR 1 μ) (pPut (cS 18 μ) (7 + 4 * l + 1) x) (m + 1) ∧ zJ [6, 25, 26, 27, 28, 29, 30, 31] μ ν2 ∧ (v + (fun q_ => pWorth (pRun (cR 1 μ) (pPut (cS 18 μ) (7 + 4 * l + 1) x) (q_ + 1)) l ((pPut (cS 18 μ) (7 + 4 * l + 1) x) (31 + (pb (pPut (cS 18 μ) (7 + 4 * l + 1) x) + q_)))) m) = pSum (fun q_ => pWorth (pRun (cR 1 μ) (pPut (cS 18 μ) (7 + 4 * l + 1) x) (q_ + 1)) l ((pPut (cS 18 μ) (7 + 4 * l + 1) x) (31 + (pb (pPut (cS 18 μ) (7 + 4 * l + 1) x) + q_)))) (m + 1) from ⟨by omega, hs2, hj2, by show _ + _ = pSum _ m + _; rw [hv]⟩) (by show pRem (cS 18 μ) - (m + 1) < pRem (cS 18 μ) - m; omega)
set_option maxHeartbeats 4000000 in
set_option maxRecDepth 100000 in
theorem eX2_worthWith_2 (σ : zG) (μ : zM) (l : Nat) (x : Int32) (ok : pOK (cS 18 μ)) (rok : cROK 1 μ) (hl : l < pL (cS 18 μ)) (ok2 : pOK (pPut (cS 18 μ) (7 + 4 * l + 2) x)) : zMet shC σ 5 MX2_worthWith yX2_worthWith [zr 37, zi (nI l), zi 2, zi x] μ (fun rr μ' => rr = some (zi (pShow (cR 1 μ) (pPut (cS 18 μ) (7 + 4 * l + 2) x) l)) ∧ zJ [6, 25, 26, 27, 28, 29, 30, 31] μ μ') := by
  have hB16 := (ok_B ok).2
  have hbB := (ok_b ok).2
  have hb1 : μ 18 9 = nI (pb (cS 18 μ)) := (ok_b ok).1
  have hBe : μ 18 8 = nI (pB (cS 18 μ)) := (ok_B ok).1
  have hrem : pRem (cS 18 μ) = pB (cS 18 μ) - pb (cS 18 μ) := rfl
  have hl6 : l < 6 := Nat.lt_of_lt_of_le hl (ok_L ok).2
  obtain ⟨hp1, hp2, hp3, hp4⟩ := pPut_n (s := (cS 18 μ)) (k := 7 + 4 * l + 2) (v := x) (by omega)
  refine zmetF (by decide +kernel) rfl (Nat.le_of_ble_eq_true rfl) ?_
  show zX shC σ 5 MX2_worthWith 0 [(0, zr 37), (1, zi (nI l)), (2, zi 2), (3, zi x)] [] μ _
  refine zx_aload_n (k := 0) (nn := 1) dX2_worthWith_0 rfl rfl rfl ?_
  refine zx_getR (q := 25) (nn := 4) flX2_19 rfl rfl dX2_worthWith_1 rfl ?_
  refine zx_aload_n (k := 0) (nn := 5) dX2_worthWith_4 rfl rfl rfl ?_
  refine zx_getR (q := 18) (nn := 8) flX2_15 rfl rfl dX2_worthWith_5 rfl ?_
  refine zx_callV (nn := 11) (k := 25) (d' := 1) (as := [zr 18]) (rest := []) (n := 1) (eX8_copyFrom_25_18 σ μ) kX8_copyFrom mlX2_22 rfl rfl rfl (by decide) rfl rfl (Nat.le_of_ble_eq_true rfl) dX2_worthWith_8 rfl ?_
  rintro _ ν1 ⟨rfl, c1, c2⟩
  show zX shC σ 5 MX2_worthWith 11 [(0, zr 37), (1, zi (nI l)), (2, zi 2), (3, zi x)] [] ν1 _
  refine zx_aload_n (k := 0) (nn := 12) dX2_worthWith_11 rfl rfl rfl ?_
  refine zx_getR (q := 25) (nn := 15) flX2_19 rfl rfl dX2_worthWith_12 rfl ?_
  refine zx_iload_n (k := 1) (nn := 16) dX2_worthWith_15 rfl rfl rfl ?_
  refine zx_iload_n (k := 2) (nn := 17) dX2_worthWith_16 rfl rfl rfl ?_
  refine zx_iload_n (k := 3) (nn := 18) dX2_worthWith_17 rfl rfl rfl ?_
  refine zx_callVf (nn := 21) (k := 25) (d' := 1) (as := [zi (nI l), zi 2, zi x]) (rest := []) (n := 3) (eX8_exchange_25_2 σ ν1 l x hl6) kX8_exchange mlX2_36 rfl rfl rfl (by decide) rfl rfl (Nat.le_of_ble_eq_true rfl) dX2_worthWith_18 rfl ?_
  show zX shC σ 5 MX2_worthWith 21 [(0, zr 37), (1, zi (nI l)), (2, zi 2), (3, zi x)] [zi (ν1 28 l)] (zp ν1 28 l x) _
  have c3 : cS 25 (zp ν1 28 l x) = pPut (cS 18 μ) (7 + 4 * l + 2) x := by
    funext i
    rw [cS_fld (b := 25) 2 (by omega) hl6 i, c1]
    rfl
  refine zx_popi (nn := 22) dX2_worthWith_21 rfl ?_
  refine zx_iconst (v := 0) (nn := 23) rfl dX2_worthWith_22 rfl ?_
  refine zx_istore (nn := 25) (lv' := [(4, zi 0), (0, zr 37), (1, zi (nI l)), (2, zi 2), (3, zi x)]) dX2_worthWith_23 (by decide) rfl rfl ?_
  refine zx_aload_n (k := 1) (nn := 26) dX2_worthWith_25 rfl rfl rfl ?_
  refine zx_getR (q := 18) (nn := 29) flX2_15 rfl rfl dX2_worthWith_26 rfl ?_
  refine zx_getI (nn := 32) flX2_40 rfl rfl dX2_worthWith_29 rfl ?_
  show zX shC σ 5 MX2_worthWith 32 [(4, zi 0), (0, zr 37), (1, zi (nI l)), (2, zi 2), (3, zi x)] [zi (ν1 18 9)] (zp ν1 28 l x) _
  rw [show ν1 18 9 = nI (pb (cS 18 μ) + 0) from by rw [c2 18 (by decide)]; exact hb1]
  show zX shC σ 5 MX2_worthWith 32 [(4, zi 0), (0, zr 37), (1, zi (nI l)), (2, zi 2), (3, zi x)] [zi (nI (pb (cS 18 μ) + 0))] (zp ν1 28 l x) _
  refine zx_istore (nn := 34) (lv' := [(5, zi (nI (pb (cS 18 μ) + 0))), (4, zi 0), (0, zr 37), (1, zi (nI l)), (2, zi 2), (3, zi x)]) dX2_worthWith_32 (by decide) rfl rfl ?_
  refine zx_lv (lv' := [(0, zr 37), (1, zi (nI l)), (2, zi 2), (3, zi x), (4, zi 0), (5, zi (nI (pb (cS 18 μ) + 0)))]) [2, 3, 4, 5, 1, 0] rfl ?_
  refine zx_while (τ := Nat × Int32 × zM) (fun t_ => pRem (cS 18 μ) - t_.1) (fun t_ => t_.1 ≤ pRem (cS 18 μ) ∧ cS 25 t_.2.2 = pRun (cR 1 μ) (pPut (cS 18 μ) (7 + 4 * l + 2) x) t_.1 ∧ zJ [6, 25, 26, 27, 28, 29, 30, 31] μ t_.2.2 ∧ t_.2.1 = pSum (fun q_ => pWorth (pRun (cR 1 μ) (pPut (cS 18 μ) (7 + 4 * l + 2) x) (q_ + 1)) l ((pPut (cS 18 μ) (7 + 4 * l + 2) x) (31 + (pb (pPut (cS 18 μ) (7 + 4 * l + 2) x) + q_)))) t_.1) (fun t_ => [(0, zr 37), (1, zi (nI l)), (2, zi 2), (3, zi x), (4, zi t_.2.1), (5, zi (nI (pb (cS 18 μ) + t_.1)))]) (fun t_ => t_.2.2) (t0 := (0, 0, zp ν1 28 l x)) (⟨Nat.zero_le _, c3, (c2.mono (by simp)).p (by decide), rfl⟩) ?_
  rintro ⟨m, v, μ1⟩ hI ih34
  replace hI : m ≤ pRem (cS 18 μ) ∧ cS 25 μ1 = pRun (cR 1 μ) (pPut (cS 18 μ) (7 + 4 * l + 2) x) m ∧ zJ [6, 25, 26, 27, 28, 29, 30, 31] μ μ1 ∧ v = pSum (fun q_ => pWorth (pRun (cR 1 μ) (pPut (cS 18 μ) (7 + 4 * l + 2) x) (q_ + 1)) l ((pPut (cS 18 μ) (7 + 4 * l + 2) x) (31 + (pb (pPut (cS 18 μ) (7 + 4 * l + 2) x) + q_)))) m := hI
  show zX shC σ 5 MX2_worthWith 34 [(0, zr 37), (1, zi (nI l)), (2, zi 2), (3, zi x), (4, zi v), (5, zi (nI (pb (cS 18 μ) + m)))] [] μ1 _
  obtain ⟨hm, hs, hj, hv⟩ := hI
  have hR1 : cR 1 μ1 = cR 1 μ := cR_μ (fun k h1 h2 => hj k (by simp; omega))
  have hok1 := pRun_ok (ρ := cR 1 μ) ok2 m (by rw [hp2, hp1]; omega)
  have okm : pOK (cS 25 μ1) := by rw [hs]; exact hok1.1
  have rokm : cROK 1 μ1 := cROK_μ (hj 1 (by decide)).symm (hj 4 (by decide)).symm rok
  have h18 : μ1 18 = μ 18 := hj 18 (by decide)
  refine zx_iload (k := 5) (nn := 36) dX2_worthWith_34 rfl rfl ?_
  refine zx_aload_n (k := 0) (nn := 37) dX2_worthWith_36 rfl rfl rfl ?_
  refine zx_getR (q := 18) (nn := 40) flX2_15 rfl rfl dX2_worthWith_37 rfl ?_
  refine zx_getI (nn := 43) flX2_44 rfl rfl dX2_worthWith_40 rfl ?_
  rw [show μ1 18 8 = nI (pB (cS 18 μ)) from by rw [h18]; exact hBe]
  show zX shC σ 5 MX2_worthWith 43 [(0, zr 37), (1, zi (nI l)), (2, zi 2), (3, zi x), (4, zi v), (5, zi (nI (pb (cS 18 μ) + m)))] [zi (nI (pB (cS 18 μ))), zi (nI (pb (cS 18 μ) + m))] μ1 _
  refine zx_icmp_ge (tgt := 74) (nn := 46) dX2_worthWith_43 (by decide) rfl (fun h43 => ?_) (fun h43 => ?_)
  · refine zx_iload (k := 4) (nn := 76) dX2_worthWith_74 rfl rfl ?_
    refine zx_iret rfl dX2_worthWith_76 ?_
    have hge := nI_le_le h43 (by omega)
    refine ⟨congrArg (fun x => some (zi x)) ?_, hj⟩
    rw [hv, show m = pRem (cS 18 μ) by omega]
    unfold pShow
    rw [hp4]
  · have hlt : pb (cS 18 μ) + m < pB (cS 18 μ) := nI_nle_lt h43 (by omega)
    refine zx_aload_n (k := 0) (nn := 47) dX2_worthWith_46 rfl rfl rfl ?_
    refine zx_getR (q := 25) (nn := 50) flX2_19 rfl rfl dX2_worthWith_47 rfl ?_
    refine zx_iconst (v := -1) (nn := 51) rfl dX2_worthWith_50 rfl ?_
    refine zx_callV (nn := 54) (k := 25) (d' := 4) (as := [zi (-1)]) (rest := []) (n := 1) (eX8_goBy_25 σ μ1 (-1) okm rokm (by rw [hs, hok1.2.1, hok1.2.2.1]; rw [hp1, hp2]; omega)) kX8_goBy mlX2_32 rfl rfl rfl (by decide) rfl rfl (Nat.le_of_ble_eq_true rfl) dX2_worthWith_51 rfl ?_
    rintro _ ν2 ⟨rfl, g1, g2⟩
    show zX shC σ 5 MX2_worthWith 54 [(0, zr 37), (1, zi (nI l)), (2, zi 2), (3, zi x), (4, zi v), (5, zi (nI (pb (cS 18 μ) + m)))] [zi (pGain (cR 1 μ1) (cS 25 μ1) (-1))] ν2 _
    have hs2 : cS 25 ν2 = pRun (cR 1 μ) (pPut (cS 18 μ) (7 + 4 * l + 2) x) (m + 1) := by rw [g1, hR1, hs]; rfl
    have hj2 : zJ [6, 25, 26, 27, 28, 29, 30, 31] μ ν2 := hj.tr (g2.mono (by simp))
    refine zx_popi (nn := 55) dX2_worthWith_54 rfl ?_
    have hok2 := pRun_ok (ρ := cR 1 μ) ok2 (m + 1) (by rw [hp2, hp1]; omega)
    refine zx_iload (k := 4) (nn := 57) dX2_worthWith_55 rfl rfl ?_
    refine zx_aload_n (k := 0) (nn := 58) dX2_worthWith_57 rfl rfl rfl ?_
    refine zx_getR (q := 25) (nn := 61) flX2_19 rfl rfl dX2_worthWith_58 rfl ?_
    refine zx_iload_n (k := 1) (nn := 62) dX2_worthWith_61 rfl rfl rfl ?_
    refine zx_callVf (nn := 65) (k := 25) (d' := 3) (as := [zi (nI l)]) (rest := [zi v]) (n := 1) (eX8_worthOf_25 σ ν2 l (by rw [hs2]; exact hok2.1) (by rw [hs2, hok2.2.2.2.1, hp3]; exact hl)) kX8_worthOf mlX2_47 rfl rfl rfl (by decide) rfl rfl (Nat.le_of_ble_eq_true rfl) dX2_worthWith_62 rfl ?_
    show zX shC σ 5 MX2_worthWith 65 [(0, zr 37), (1, zi (nI l)), (2, zi 2), (3, zi x), (4, zi v), (5, zi (nI (pb (cS 18 μ) + m)))] [zi (pWorth (cS 25 ν2) l (pNear (cS 25 ν2) (cS 25 ν2 2 - 1))), zi v] ν2 _
    rw [hs2, pRun_near ok2 (by rw [hp4]; omega)]
    show zX shC σ 5 MX2_worthWith 65 [(0, zr 37), (1, zi (nI l)), (2, zi 2), (3, zi x), (4, zi v), (5, zi (nI (pb (cS 18 μ) + m)))] [zi ((fun q_ => pWorth (pRun (cR 1 μ) (pPut (cS 18 μ) (7 + 4 * l + 2) x) (q_ + 1)) l ((pPut (cS 18 μ) (7 + 4 * l + 2) x) (31 + (pb (pPut (cS 18 μ) (7 + 4 * l + 2) x) + q_)))) m), zi v] ν2 _
    refine zx_iadd (nn := 66) dX2_worthWith_65 rfl ?_
    refine zx_istore (nn := 68) (lv' := [(4, zi (v + ((fun q_ => pWorth (pRun (cR 1 μ) (pPut (cS 18 μ) (7 + 4 * l + 2) x) (q_ + 1)) l ((pPut (cS 18 μ) (7 + 4 * l + 2) x) (31 + (pb (pPut (cS 18 μ) (7 + 4 * l + 2) x) + q_)))) m))), (0, zr 37), (1, zi (nI l)), (2, zi 2), (3, zi x), (5, zi (nI (pb (cS 18 μ) + m)))]) dX2_worthWith_66 (by decide) rfl rfl ?_
    refine zx_iinc (k := 5) (v := nI ((pb (cS 18 μ) + m) + 1)) (lv' := [(5, zi (nI ((pb (cS 18 μ) + m) + 1))), (4, zi (v + ((fun q_ => pWorth (pRun (cR 1 μ) (pPut (cS 18 μ) (7 + 4 * l + 2) x) (q_ + 1)) l ((pPut (cS 18 μ) (7 + 4 * l + 2) x) (31 + (pb (pPut (cS 18 μ) (7 + 4 * l + 2) x) + q_)))) m))), (0, zr 37), (1, zi (nI l)), (2, zi 2), (3, zi x)]) (nn := 71) dX2_worthWith_68 rfl (nI_1 (pb (cS 18 μ) + m)) (by decide) rfl rfl ?_
    refine zx_goto (tgt := 34) dX2_worthWith_71 (by decide) ?_
    refine zx_lv (lv' := [(0, zr 37), (1, zi (nI l)), (2, zi 2), (3, zi x), (4, zi (v + ((fun q_ => pWorth (pRun (cR 1 μ) (pPut (cS 18 μ) (7 + 4 * l + 2) x) (q_ + 1)) l ((pPut (cS 18 μ) (7 + 4 * l + 2) x) (31 + (pb (pPut (cS 18 μ) (7 + 4 * l + 2) x) + q_)))) m))), (5, zi (nI ((pb (cS 18 μ) + m) + 1)))]) [2, 3, 4, 5, 1, 0] rfl ?_
    exact ih34 (m + 1, v + (fun q_ => pWorth (pRun (cR 1 μ) (pPut (cS 18 μ) (7 + 4 * l + 2) x) (q_ + 1)) l ((pPut (cS 18 μ) (7 + 4 * l + 2) x) (31 + (pb (pPut (cS 18 μ) (7 + 4 * l + 2) x) + q_)))) m, ν2) (show (m + 1) ≤ pRem (cS 18 μ) ∧ cS 25 ν2 = pRun (cR 1 μ) (pPut (cS 18 μ) (7 + 4 * l + 2) x) (m + 1) ∧ zJ [6, 25, 26, 27, 28, 29, 30, 31] μ ν2 ∧ (v + (fun q_ => pWorth (pRun (cR 1 μ) (pPut (cS 18 μ) (7 + 4 * l + 2) x) (q_ + 1)) l ((pPut (cS 18 μ) (7 + 4 * l + 2) x) (31 + (pb (pPut (cS 18 μ) (7 + 4 * l + 2) x) + q_)))) m) = pSum (fun q_ => pWorth (pRun (cR 1 μ) (pPut (cS 18 μ) (7 + 4 * l + 2) x) (q_ + 1)) l ((pPut (cS 18 μ) (7 + 4 * l + 2) x) (31 + (pb (pPut (cS 18 μ) (7 + 4 * l + 2) x) + q_)))) (m + 1) from ⟨by omega, hs2, hj2, by show _ + _ = pSum _ m + _; rw [hv]⟩) (by show pRem (cS 18 μ) - (m + 1) < pRem (cS 18 μ) - m; omega)
