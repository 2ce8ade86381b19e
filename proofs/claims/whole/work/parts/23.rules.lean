/-! what is asked of the whole -/
def pREq (ρ τ : pR) : Prop := ρ.1 = τ.1 ∧ ∀ r, r < ρ.1 → ρ.2.1 r = τ.2.1 r ∧ ρ.2.2.1 r = τ.2.2.1 r ∧ ∀ F, ρ.2.2.2 r F = τ.2.2.2 r F
theorem cRun_eq2 {F a b : Nat → Int32} : ∀ {m i : Nat} {st : List Int32}, (∀ k, i ≤ k → k < i + m → a k = b k) → cRun F a i m st = cRun F b i m st
  | 0, _, _, _ => rfl
  | m + 1, i, st, h => by
    show cRun F a (i + 1) m (cStep F (a i) st) = cRun F b (i + 1) m (cStep F (b i) st)
    rw [h i (Nat.le_refl _) (by omega)]
    exact cRun_eq2 (fun k h1 h2 => h k (by omega) (by omega))
/-- rules carried from c to d -/
theorem cR_copy {d c : Nat} {μ ν : zM} (rok : cROK c μ) (h5 : ν d 5 = μ c 5) (h1 : ∀ r, r < 8 → ν (d + 1) r = μ (c + 1) r) (h2 : ∀ r, r < 8 → ν (d + 2) r = μ (c + 2) r) (h3 : ∀ r, r < 8 → ν (d + 3) r = μ (c + 3) r)
    (h4 : ∀ k, k < 200 → ν (d + 4) k = μ (c + 4) k) : pREq (cR d ν) (cR c μ) ∧ cROK d ν := by
  obtain ⟨⟨n, hn, hc⟩, he⟩ := rok
  have hcl : (μ c 5).toNatClampNeg = n := by rw [hc, nI_clamp (by omega)]
  refine ⟨⟨by show (ν d 5).toNatClampNeg = _; rw [h5]; rfl, fun r hr => ?_⟩, ⟨⟨n, hn, by rw [h5, hc]⟩, fun r hr => by rw [h3 r hr]; exact he r hr⟩⟩
  have hr8 : r < 8 := by
    have : r < (ν d 5).toNatClampNeg := hr
    rw [h5, hcl] at this; omega
  refine ⟨h1 r hr8, h2 r hr8, fun F => ?_⟩
  show cHolds d ν r F = cHolds c μ r F
  unfold cHolds
  have e1 : cEnd (ν (d + 3)) r = cEnd (μ (c + 3)) r := by unfold cEnd; rw [h3 r hr8]
  have e2 : cFrom (ν (d + 3)) r = cFrom (μ (c + 3)) r := by
    unfold cFrom
    by_cases q : r = 0
    · rw [if_pos q, if_pos q]
    · rw [if_neg q, if_neg q, h3 (r - 1) (by omega)]
  rw [e1, e2]
  obtain ⟨e, h6, h7⟩ := he r hr8
  have e3 : cEnd (μ (c + 3)) r ≤ 200 := by unfold cEnd; rw [h7, nI_clamp (by omega)]; exact h6
  rw [cRun_eq2 (fun k k1 k2 => h4 k (by omega))]
def pTold (w v : Int32) : Bool := if w = 1 then pIn v 0 40 else if w = 2 then pIn v 0 9 else if w = 3 then pIn v 1 9 else false
theorem pTold_3 {w v : Int32} (h : pTold w v = true) : w = 1 ∨ w = 2 ∨ w = 3 := by
  unfold pTold at h
  by_cases h1 : w = 1
  · exact Or.inl h1
  · by_cases h2 : w = 2
    · exact Or.inr (Or.inl h2)
    · by_cases h3 : w = 3
      · exact Or.inr (Or.inr h3)
      · rw [if_neg h1, if_neg h2, if_neg h3] at h
        exact absurd h (by decide)
def vLampC (k a z t : Int32) : Bool := pIn k 1 5 && pTold 1 a && pTold 2 z && pTold 3 t
def vLamp (s : Nat → Int32) (k a z t : Int32) : Int32 := if vLampC k a z t = true then (if s 0 < 6 then s 0 else -2) else -1
def sLamp (s : Nat → Int32) (k a z t : Int32) : Nat → Int32 := if vLampC k a z t = true then (if s 0 < 6 then pLamp s k a z t else s) else s
def vLampOf (ρ : pR) (s : Nat → Int32) (l w : Int32) : Int32 := if pHas (s 0) l = true then (if 0 ≤ w ∧ w ≤ 3 then s (7 + 4 * l.toNatClampNeg + w.toNatClampNeg) else if w = 4 then pGoal ρ s l.toNatClampNeg else if w = 5 then (if pOver s = true then 41 else pBehind ρ s l.toNatClampNeg) else -1) else -1
def vChange (s : Nat → Int32) (l w v : Int32) : Int32 := if pHas (s 0) l = true ∧ pTold w v = true then s (7 + 4 * l.toNatClampNeg + w.toNatClampNeg) else -1
def sChange (s : Nat → Int32) (l w v : Int32) : Nat → Int32 := if pHas (s 0) l = true ∧ pTold w v = true then pPut s (7 + 4 * l.toNatClampNeg + w.toNatClampNeg) v else s
def vRemake (s : Nat → Int32) (l k : Int32) : Int32 := if pHas (s 0) l = true ∧ pIn k 1 5 = true then s (7 + 4 * l.toNatClampNeg) else -1
def sRemake (s : Nat → Int32) (l k : Int32) : Nat → Int32 := if pHas (s 0) l = true ∧ pIn k 1 5 = true then pPut s (7 + 4 * l.toNatClampNeg) k else s
def vDance (s : Nat → Int32) (p : Int32) : Int32 := if pIn p 0 40 = true then (if s 1 < 16 then s 1 else -2) else -1
def sDance (s : Nat → Int32) (p : Int32) : Nat → Int32 := if pIn p 0 40 = true then (if s 1 < 16 then pDance s p else s) else s
def vDanceOf (s : Nat → Int32) (b : Int32) : Int32 := if pHas (s 1) b = true then s (31 + b.toNatClampNeg) else -1
def vSteps (s : Nat → Int32) (b p : Int32) : Int32 := if pHas (s 1) b = true ∧ pIn p 0 40 = true then (if b < s 2 then -4 else s (31 + b.toNatClampNeg)) else -1
def sSteps (s : Nat → Int32) (b p : Int32) : Nat → Int32 := if pHas (s 1) b = true ∧ pIn p 0 40 = true then (if b < s 2 then s else pPut s (31 + b.toNatClampNeg) p) else s
def vState (s : Nat → Int32) (w : Int32) : Int32 := if w = 0 then s 2 else if w = 1 then s 1 else if w = 2 then s 3 else if w = 3 then zb (pOver s) else -1
def vBeat (ρ : pR) (s : Nat → Int32) : Int32 := if pOver s = true then -4 else pGain ρ s (-1)
def sBeat (ρ : pR) (s : Nat → Int32) : Nat → Int32 := if pOver s = true then s else pGo ρ s (-1)
def vIn (s : Nat → Int32) (g : Int32) : Int32 := if pIn g 0 2 = true then pSetOf s g (pSeen s) else -1
def vShows (ρ : pR) (s : Nat → Int32) (l : Int32) : Int32 := if pHas (s 0) l = true then pShow ρ s l.toNatClampNeg else -1
def vOn (ρ : pR) (s : Nat → Int32) (n : Int32) : Int32 := if pIn n 0 16 = true then pOn ρ s (min n.toNatClampNeg (pRem s)) else -1
def vLost (ρ : pR) (s : Nat → Int32) (l : Int32) : Int32 := if pHas (s 0) l = true then pLost ρ s l.toNatClampNeg else -1
def vCross (ρ : pR) (s : Nat → Int32) (l k : Int32) : Int32 := if pHas (s 0) l = true ∧ pHas (s 0) k = true ∧ ¬ l = k then pCross ρ s l.toNatClampNeg k.toNatClampNeg else -1
def vSized (ρ : pR) (s : Nat → Int32) (l : Int32) : Int32 := if pHas (s 0) l = true then (pArg (fun q => pShow ρ (pPut s (7 + 4 * l.toNatClampNeg + 2) (nI q)) l.toNatClampNeg) 10).2 else -1
def vAimed (ρ : pR) (s : Nat → Int32) (l : Int32) : Int32 := if pHas (s 0) l = true then (pArg (fun q => pShow ρ (pPut s (7 + 4 * l.toNatClampNeg + 1) (nI q)) l.toNatClampNeg) 41).2 else -1
def vStepFor (ρ : pR) (s : Nat → Int32) (l : Int32) : Int32 := if pHas (s 0) l = true then pStep ρ s l.toNatClampNeg else -1
def vBest (ρ : pR) (s : Nat → Int32) (n : Int32) : Int32 := if pIn n 0 4 = true then (pPlan ρ s n.toNatClampNeg).1 else -1
def vIth (ρ : pR) (s : Nat → Int32) (n i : Int32) : Int32 := if pIn n 0 4 = true ∧ pIn i 0 3 = true then (if i.toNatClampNeg < min n.toNatClampNeg (pRem s) then (pPlan ρ s n.toNatClampNeg).2.2 i.toNatClampNeg else -3) else -1
def vWays (ρ : pR) (s : Nat → Int32) (n : Int32) : Int32 := if pIn n 0 4 = true then nI (pPlan ρ s n.toNatClampNeg).2.1 else -1
def vGame (ρ : pR) (s : Nat → Int32) (n : Int32) : Int32 := if pIn n 1 4 = true then (pGame ρ (min n.toNatClampNeg (pRem s)) 0 (pNo s)).1 else -1
def vPlay (ρ : pR) (s : Nat → Int32) (n : Int32) : Int32 := if pIn n 1 4 = true then (if pOver s = true then -3 else (pGame ρ (min n.toNatClampNeg (pRem s)) 0 (pNo s)).2) else -1
def vReportC (b a z g : Int32) : Bool := pIn b 0 15 && pIn g 0 2 && pTold 1 a && pTold 2 z
def vSpan (P : Nat → Nat → Int32) (n : Nat) (w : Int32) (nn : Int32) : Int32 := if pIn w 0 2 = true then (if w = 0 then nI (pWalks P n nn).1 else if (pWalks P n nn).1 = 0 then -3 else if w = 1 then (pWalks P n nn).2.1 else (pWalks P n nn).2.2 + 2) else -1
def vLot (ρ : pR) (s : Nat → Int32) : Int32 := if pOver s = true then -4 else pGain ρ (pSlip s) (-1)
def sLot (ρ : pR) (s : Nat → Int32) : Nat → Int32 := if pOver s = true then s else pGo ρ (pSlip s) (-1)
def vOften (ρ : pR) (s : Nat → Int32) (n v : Int32) : Int32 := if pIn n 1 40 = true ∧ pIn v 0 999 = true then nI (pTimes ρ s v n.toNatClampNeg).1 else -1
/-! what a number that is in says -/
theorem has_ok {s : Nat → Int32} {x l : Int32} {m c : Nat} (hx : x = nI m) (hm : m ≤ c) (hc : c < 2 ^ 31) (h : pHas x l = true) : ∃ j, (j < m ∧ j < c ∧ (nI j).toNatClampNeg = j) ∧ l = nI j := by
  subst hx
  obtain ⟨j, hj, e⟩ := pHas_n (by omega) h
  exact ⟨j, ⟨hj, by omega, nI_clamp (by omega)⟩, e⟩
theorem hasL {s : Nat → Int32} (ok : pOK s) {l : Int32} (h : pHas (s 0) l = true) : ∃ j, (j < pL s ∧ j < 6 ∧ (nI j).toNatClampNeg = j) ∧ l = nI j := has_ok (s := s) (ok_L ok).1 (ok_L ok).2 (by omega) h
theorem hasB {s : Nat → Int32} (ok : pOK s) {l : Int32} (h : pHas (s 1) l = true) : ∃ j, (j < pB s ∧ j < 16 ∧ (nI j).toNatClampNeg = j) ∧ l = nI j := has_ok (s := s) (ok_B ok).1 (ok_B ok).2 (by omega) h
theorem has4 {l : Int32} (h : pHas 4 l = true) : ∃ j, (j < 4 ∧ j < 4 ∧ (nI j).toNatClampNeg = j) ∧ l = nI j := has_ok (s := fun _ => 0) (m := 4) (c := 4) rfl (Nat.le_refl _) (by omega) h
theorem pIn_n {v a : Int32} {b : Nat} (hb : b < 2 ^ 31) (ha : 0 ≤ a) (h : pIn v a (nI b) = true) : ∃ j, (j ≤ b ∧ (nI j).toNatClampNeg = j) ∧ v = nI j := by
  unfold pIn at h
  rw [Bool.and_eq_true, decide_eq_true_eq, decide_eq_true_eq] at h
  obtain ⟨j, hj, rfl⟩ := nI_of (x := v) (Int32.not_lt.mpr (Int32.le_trans ha h.1))
  exact ⟨j, ⟨nI_le_le h.2 hj, nI_clamp (by omega)⟩, rfl⟩
theorem pNear_seen (s : Nat → Int32) (ok : pOK s) : pNear s (s 2 - 1) = pSeen s := by
  unfold pSeen pSeenAt
  by_cases h : 0 < s 2
  · rw [if_pos h]
  · rw [if_neg h]
    have h0 : s 2 = 0 := by
      have := (ok_b ok).1
      rw [this] at h ⊢
      have hb := (ok_b ok).2
      have hB := (ok_B ok).2
      rcases Nat.eq_zero_or_pos (pb s) with q | q
      · rw [q]; rfl
      · exact absurd (nI_lt (a := 0) (b := pb s) q (by omega)) h
    rw [h0]
    unfold pNear
    rw [if_pos (by decide : ((0 : Int32) - 1 ≤ 0)), if_pos (by decide : ((0 : Int32) ≤ 0))]
theorem pPut_self (s : Nat → Int32) (k : Nat) : pPut s k (s k) = s := by
  funext i
  unfold pPut
  by_cases h : i = k
  · rw [if_pos h, h]
  · rw [if_neg h]
theorem pIn_n1 {v : Int32} {b : Nat} (hb : b < 2 ^ 31) (h : pIn v 1 (nI b) = true) : ∃ j, (1 ≤ j ∧ j ≤ b ∧ (nI j).toNatClampNeg = j) ∧ v = nI j := by
  obtain ⟨j, ⟨h1, h2⟩, rfl⟩ := pIn_n hb (by decide) h
  refine ⟨j, ⟨?_, h1, h2⟩, rfl⟩
  unfold pIn at h
  rw [Bool.and_eq_true, decide_eq_true_eq, decide_eq_true_eq] at h
  exact nI_le_le (b := 1) (a := j) h.1 (by omega)
theorem cS_putP {b l : Nat} {μ : zM} {v : Int32} (hl : l < 16) : cS b (zp μ (b + 5) l v) = pPut (cS b μ) (31 + l) v := funext (cS_place hl)
theorem cS_putF {b l : Nat} {μ : zM} {v : Int32} (w : Nat) (hw : w < 4) (hl : l < 6) : cS b (zp μ (b + 1 + w) l v) = pPut (cS b μ) (7 + 4 * l + w) v := funext (cS_fld w hw hl)
theorem cS_putI {b j k : Nat} {μ : zM} {v : Int32} (hj : (j = 7 ∧ k = 0) ∨ (j = 8 ∧ k = 1) ∨ (j = 9 ∧ k = 2) ∨ (j = 10 ∧ k = 3) ∨ (j = 11 ∧ k = 4)) : cS b (zp μ b j v) = pPut (cS b μ) k v := funext (cS_int hj)
set_option maxHeartbeats 4000000 in
set_option maxRecDepth 100000 in
theorem eX5_copyFrom_1_12 (σ : zG) (μ : zM) (rok : cROK 12 μ) : zMet shC σ 1 MX5_copyFrom yX5_copyFrom [zr 1, zr 12] μ (fun rr μ' => rr = none ∧ pREq (cR 1 μ') (cR 12 μ) ∧ cROK 1 μ' ∧ zJ [1, 2, 3, 4, 5] μ μ') := by
  refine zmetF (by decide +kernel) rfl (Nat.le_of_ble_eq_true rfl) ?_
  show zX shC σ 1 MX5_copyFrom 0 [(0, zr 1), (1, zr 12)] [] μ _
  refine zx_aload_n (k := 1) (nn := 1) dX5_copyFrom_0 rfl rfl rfl ?_
  refine zx_getR (q := 13) (nn := 4) flX5_9 rfl rfl dX5_copyFrom_1 rfl ?_
  refine zx_iconst (v := 0) (nn := 5) rfl dX5_copyFrom_4 rfl ?_
  refine zx_aload_n (k := 0) (nn := 6) dX5_copyFrom_5 rfl rfl rfl ?_
  refine zx_getR (q := 2) (nn := 9) flX5_9 rfl rfl dX5_copyFrom_6 rfl ?_
  refine zx_iconst (v := 0) (nn := 10) rfl dX5_copyFrom_9 rfl ?_
  refine zx_bipush (v := 8) (nn := 12) rfl dX5_copyFrom_10 rfl ?_
  refine zx_copy (nn := 15) cplX5 rfl rfl (by decide) (by decide) (by decide) (by decide) (Nat.le_of_ble_eq_true rfl) dX5_copyFrom_12 rfl ?_
  show zX shC σ 1 MX5_copyFrom 15 [(0, zr 1), (1, zr 12)] [] (zu μ 2 (va_cpy (μ 13) (μ 2) 0 0 8)) _
  refine zx_aload_n (k := 1) (nn := 16) dX5_copyFrom_15 rfl rfl rfl ?_
  refine zx_getR (q := 14) (nn := 19) flX5_15 rfl rfl dX5_copyFrom_16 rfl ?_
  refine zx_iconst (v := 0) (nn := 20) rfl dX5_copyFrom_19 rfl ?_
  refine zx_aload_n (k := 0) (nn := 21) dX5_copyFrom_20 rfl rfl rfl ?_
  refine zx_getR (q := 3) (nn := 24) flX5_15 rfl rfl dX5_copyFrom_21 rfl ?_
  refine zx_iconst (v := 0) (nn := 25) rfl dX5_copyFrom_24 rfl ?_
  refine zx_bipush (v := 8) (nn := 27) rfl dX5_copyFrom_25 rfl ?_
  refine zx_copy (nn := 30) cplX5 rfl rfl (by decide) (by decide) (by decide) (by decide) (Nat.le_of_ble_eq_true rfl) dX5_copyFrom_27 rfl ?_
  show zX shC σ 1 MX5_copyFrom 30 [(0, zr 1), (1, zr 12)] [] (zu (zu μ 2 (va_cpy (μ 13) (μ 2) 0 0 8)) 3 (va_cpy ((zu μ 2 (va_cpy (μ 13) (μ 2) 0 0 8)) 14) ((zu μ 2 (va_cpy (μ 13) (μ 2) 0 0 8)) 3) 0 0 8)) _
  refine zx_aload_n (k := 1) (nn := 31) dX5_copyFrom_30 rfl rfl rfl ?_
  refine zx_getR (q := 15) (nn := 34) flX5_18 rfl rfl dX5_copyFrom_31 rfl ?_
  refine zx_iconst (v := 0) (nn := 35) rfl dX5_copyFrom_34 rfl ?_
  refine zx_aload_n (k := 0) (nn := 36) dX5_copyFrom_35 rfl rfl rfl ?_
  refine zx_getR (q := 4) (nn := 39) flX5_18 rfl rfl dX5_copyFrom_36 rfl ?_
  refine zx_iconst (v := 0) (nn := 40) rfl dX5_copyFrom_39 rfl ?_
  refine zx_bipush (v := 8) (nn := 42) rfl dX5_copyFrom_40 rfl ?_
  refine zx_copy (nn := 45) cplX5 rfl rfl (by decide) (by decide) (by decide) (by decide) (Nat.le_of_ble_eq_true rfl) dX5_copyFrom_42 rfl ?_
  show zX shC σ 1 MX5_copyFrom 45 [(0, zr 1), (1, zr 12)] [] (zu (zu (zu μ 2 (va_cpy (μ 13) (μ 2) 0 0 8)) 3 (va_cpy ((zu μ 2 (va_cpy (μ 13) (μ 2) 0 0 8)) 14) ((zu μ 2 (va_cpy (μ 13) (μ 2) 0 0 8)) 3) 0 0 8)) 4 (va_cpy ((zu (zu μ 2 (va_cpy (μ 13) (μ 2) 0 0 8)) 3 (va_cpy ((zu μ 2 (va_cpy (μ 13) (μ 2) 0 0 8)) 14) ((zu μ 2 (va_cpy (μ 13) (μ 2) 0 0 8)) 3) 0 0 8)) 15) ((zu (zu μ 2 (va_cpy (μ 13) (μ 2) 0 0 8)) 3 (va_cpy ((zu μ 2 (va_cpy (μ 13) (μ 2) 0 0 8)) 14) ((zu μ 2 (va_cpy (μ 13) (μ 2) 0 0 8)) 3) 0 0 8)) 4) 0 0 8)) _
  refine zx_aload_n (k := 1) (nn := 46) dX5_copyFrom_45 rfl rfl rfl ?_
  refine zx_getR (q := 16) (nn := 49) flX5_21 rfl rfl dX5_copyFrom_46 rfl ?_
  refine zx_iconst (v := 0) (nn := 50) rfl dX5_copyFrom_49 rfl ?_
  refine zx_aload_n (k := 0) (nn := 51) dX5_copyFrom_50 rfl rfl rfl ?_
  refine zx_getR (q := 5) (nn := 54) flX5_21 rfl rfl dX5_copyFrom_51 rfl ?_
  refine zx_iconst (v := 0) (nn := 55) rfl dX5_copyFrom_54 rfl ?_
  refine zx_sipush (v := 200) (nn := 58) rfl dX5_copyFrom_55 rfl ?_
  refine zx_copy (nn := 61) cplX5 rfl rfl (by decide) (by decide) (by decide) (by decide) (Nat.le_of_ble_eq_true rfl) dX5_copyFrom_58 rfl ?_
  show zX shC σ 1 MX5_copyFrom 61 [(0, zr 1), (1, zr 12)] [] (zu (zu (zu (zu μ 2 (va_cpy (μ 13) (μ 2) 0 0 8)) 3 (va_cpy ((zu μ 2 (va_cpy (μ 13) (μ 2) 0 0 8)) 14) ((zu μ 2 (va_cpy (μ 13) (μ 2) 0 0 8)) 3) 0 0 8)) 4 (va_cpy ((zu (zu μ 2 (va_cpy (μ 13) (μ 2) 0 0 8)) 3 (va_cpy ((zu μ 2 (va_cpy (μ 13) (μ 2) 0 0 8)) 14) ((zu μ 2 (va_cpy (μ 13) (μ 2) 0 0 8)) 3) 0 0 8)) 15) ((zu (zu μ 2 (va_cpy (μ 13) (μ 2) 0 0 8)) 3 (va_cpy ((zu μ 2 (va_cpy (μ 13) (μ 2) 0 0 8)) 14) ((zu μ 2 (va_cpy (μ 13) (μ 2) 0 0 8)) 3) 0 0 8)) 4) 0 0 8)) 5 (va_cpy ((zu (zu (zu μ 2 (va_cpy (μ 13) (μ 2) 0 0 8)) 3 (va_cpy ((zu μ 2 (va_cpy (μ 13) (μ 2) 0 0 8)) 14) ((zu μ 2 (va_cpy (μ 13) (μ 2) 0 0 8)) 3) 0 0 8)) 4 (va_cpy ((zu (zu μ 2 (va_cpy (μ 13) (μ 2) 0 0 8)) 3 (va_cpy ((zu μ 2 (va_cpy (μ 13) (μ 2) 0 0 8)) 14) ((zu μ 2 (va_cpy (μ 13) (μ 2) 0 0 8)) 3) 0 0 8)) 15) ((zu (zu μ 2 (va_cpy (μ 13) (μ 2) 0 0 8)) 3 (va_cpy ((zu μ 2 (va_cpy (μ 13) (μ 2) 0 0 8)) 14) ((zu μ 2 (va_cpy (μ 13) (μ 2) 0 0 8)) 3) 0 0 8)) 4) 0 0 8)) 16) ((zu (zu (zu μ 2 (va_cpy (μ 13) (μ 2) 0 0 8)) 3 (va_cpy ((zu μ 2 (va_cpy (μ 13) (μ 2) 0 0 8)) 14) ((zu μ 2 (va_cpy (μ 13) (μ 2) 0 0 8)) 3) 0 0 8)) 4 (va_cpy ((zu (zu μ 2 (va_cpy (μ 13) (μ 2) 0 0 8)) 3 (va_cpy ((zu μ 2 (va_cpy (μ 13) (μ 2) 0 0 8)) 14) ((zu μ 2 (va_cpy (μ 13) (μ 2) 0 0 8)) 3) 0 0 8)) 15) ((zu (zu μ 2 (va_cpy (μ 13) (μ 2) 0 0 8)) 3 (va_cpy ((zu μ 2 (va_cpy (μ 13) (μ 2) 0 0 8)) 14) ((zu μ 2 (va_cpy (μ 13) (μ 2) 0 0 8)) 3) 0 0 8)) 4) 0 0 8)) 5) 0 0 200)) _
  refine zx_aload_n (k := 0) (nn := 62) dX5_copyFrom_61 rfl rfl rfl ?_
  refine zx_aload_n (k := 1) (nn := 63) dX5_copyFrom_62 rfl rfl rfl ?_
  refine zx_getI (nn := 66) flX5_33 rfl rfl dX5_copyFrom_63 rfl ?_
  show zX shC σ 1 MX5_copyFrom 66 [(0, zr 1), (1, zr 12)] [zi (μ 12 5), zr 1] (zu (zu (zu (zu μ 2 (va_cpy (μ 13) (μ 2) 0 0 8)) 3 (va_cpy ((zu μ 2 (va_cpy (μ 13) (μ 2) 0 0 8)) 14) ((zu μ 2 (va_cpy (μ 13) (μ 2) 0 0 8)) 3) 0 0 8)) 4 (va_cpy ((zu (zu μ 2 (va_cpy (μ 13) (μ 2) 0 0 8)) 3 (va_cpy ((zu μ 2 (va_cpy (μ 13) (μ 2) 0 0 8)) 14) ((zu μ 2 (va_cpy (μ 13) (μ 2) 0 0 8)) 3) 0 0 8)) 15) ((zu (zu μ 2 (va_cpy (μ 13) (μ 2) 0 0 8)) 3 (va_cpy ((zu μ 2 (va_cpy (μ 13) (μ 2) 0 0 8)) 14) ((zu μ 2 (va_cpy (μ 13) (μ 2) 0 0 8)) 3) 0 0 8)) 4) 0 0 8)) 5 (va_cpy ((zu (zu (zu μ 2 (va_cpy (μ 13) (μ 2) 0 0 8)) 3 (va_cpy ((zu μ 2 (va_cpy (μ 13) (μ 2) 0 0 8)) 14) ((zu μ 2 (va_cpy (μ 13) (μ 2) 0 0 8)) 3) 0 0 8)) 4 (va_cpy ((zu (zu μ 2 (va_cpy (μ 13) (μ 2) 0 0 8)) 3 (va_cpy ((zu μ 2 (va_cpy (μ 13) (μ 2) 0 0 8)) 14) ((zu μ 2 (va_cpy (μ 13) (μ 2) 0 0 8)) 3) 0 0 8)) 15) ((zu (zu μ 2 (va_cpy (μ 13) (μ 2) 0 0 8)) 3 (va_cpy ((zu μ 2 (va_cpy (μ 13) (μ 2) 0 0 8)) 14) ((zu μ 2 (va_cpy (μ 13) (μ 2) 0 0 8)) 3) 0 0 8)) 4) 0 0 8)) 16) ((zu (zu (zu μ 2 (va_cpy (μ 13) (μ 2) 0 0 8)) 3 (va_cpy ((zu μ 2 (va_cpy (μ 13) (μ 2) 0 0 8)) 14) ((zu μ 2 (va_cpy (μ 13) (μ 2) 0 0 8)) 3) 0 0 8)) 4 (va_cpy ((zu (zu μ 2 (va_cpy (μ 13) (μ 2) 0 0 8)) 3 (va_cpy ((zu μ 2 (va_cpy (μ 13) (μ 2) 0 0 8)) 14) ((zu μ 2 (va_cpy (μ 13) (μ 2) 0 0 8)) 3) 0 0 8)) 15) ((zu (zu μ 2 (va_cpy (μ 13) (μ 2) 0 0 8)) 3 (va_cpy ((zu μ 2 (va_cpy (μ 13) (μ 2) 0 0 8)) 14) ((zu μ 2 (va_cpy (μ 13) (μ 2) 0 0 8)) 3) 0 0 8)) 4) 0 0 8)) 5) 0 0 200)) _
  refine zx_putI (nn := 69) fpX5_33 rfl rfl rfl rfl dX5_copyFrom_66 rfl ?_
  refine zx_aload_n (k := 0) (nn := 70) dX5_copyFrom_69 rfl rfl rfl ?_
  refine zx_aload_n (k := 1) (nn := 71) dX5_copyFrom_70 rfl rfl rfl ?_
  refine zx_getI (nn := 74) flX5_37 rfl rfl dX5_copyFrom_71 rfl ?_
  show zX shC σ 1 MX5_copyFrom 74 [(0, zr 1), (1, zr 12)] [zi (μ 12 6), zr 1] (zp (zu (zu (zu (zu μ 2 (va_cpy (μ 13) (μ 2) 0 0 8)) 3 (va_cpy ((zu μ 2 (va_cpy (μ 13) (μ 2) 0 0 8)) 14) ((zu μ 2 (va_cpy (μ 13) (μ 2) 0 0 8)) 3) 0 0 8)) 4 (va_cpy ((zu (zu μ 2 (va_cpy (μ 13) (μ 2) 0 0 8)) 3 (va_cpy ((zu μ 2 (va_cpy (μ 13) (μ 2) 0 0 8)) 14) ((zu μ 2 (va_cpy (μ 13) (μ 2) 0 0 8)) 3) 0 0 8)) 15) ((zu (zu μ 2 (va_cpy (μ 13) (μ 2) 0 0 8)) 3 (va_cpy ((zu μ 2 (va_cpy (μ 13) (μ 2) 0 0 8)) 14) ((zu μ 2 (va_cpy (μ 13) (μ 2) 0 0 8)) 3) 0 0 8)) 4) 0 0 8)) 5 (va_cpy ((zu (zu (zu μ 2 (va_cpy (μ 13) (μ 2) 0 0 8)) 3 (va_cpy ((zu μ 2 (va_cpy (μ 13) (μ 2) 0 0 8)) 14) ((zu μ 2 (va_cpy (μ 13) (μ 2) 0 0 8)) 3) 0 0 8)) 4 (va_cpy ((zu (zu μ 2 (va_cpy (μ 13) (μ 2) 0 0 8)) 3 (va_cpy ((zu μ 2 (va_cpy (μ 13) (μ 2) 0 0 8)) 14) ((zu μ 2 (va_cpy (μ 13) (μ 2) 0 0 8)) 3) 0 0 8)) 15) ((zu (zu μ 2 (va_cpy (μ 13) (μ 2) 0 0 8)) 3 (va_cpy ((zu μ 2 (va_cpy (μ 13) (μ 2) 0 0 8)) 14) ((zu μ 2 (va_cpy (μ 13) (μ 2) 0 0 8)) 3) 0 0 8)) 4) 0 0 8)) 16) ((zu (zu (zu μ 2 (va_cpy (μ 13) (μ 2) 0 0 8)) 3 (va_cpy ((zu μ 2 (va_cpy (μ 13) (μ 2) 0 0 8)) 14) ((zu μ 2 (va_cpy (μ 13) (μ 2) 0 0 8)) 3) 0 0 8)) 4 (va_cpy ((zu (zu μ 2 (va_cpy (μ 13) (μ 2) 0 0 8)) 3 (va_cpy ((zu μ 2 (va_cpy (μ 13) (μ 2) 0 0 8)) 14) ((zu μ 2 (va_cpy (μ 13) (μ 2) 0 0 8)) 3) 0 0 8)) 15) ((zu (zu μ 2 (va_cpy (μ 13) (μ 2) 0 0 8)) 3 (va_cpy ((zu μ 2 (va_cpy (μ 13) (μ 2) 0 0 8)) 14) ((zu μ 2 (va_cpy (μ 13) (μ 2) 0 0 8)) 3) 0 0 8)) 4) 0 0 8)) 5) 0 0 200)) 1 5 (μ 12 5)) _
  refine zx_putI (nn := 77) fpX5_37 rfl rfl rfl rfl dX5_copyFrom_74 rfl ?_
  refine zx_vret rfl dX5_copyFrom_77 ?_
  have hh := cR_copy (d := 1) (c := 12) (ν := zp (zp (zu (zu (zu (zu μ 2 (va_cpy (μ 13) (μ 2) 0 0 8)) 3 (va_cpy ((zu μ 2 (va_cpy (μ 13) (μ 2) 0 0 8)) 14) ((zu μ 2 (va_cpy (μ 13) (μ 2) 0 0 8)) 3) 0 0 8)) 4 (va_cpy ((zu (zu μ 2 (va_cpy (μ 13) (μ 2) 0 0 8)) 3 (va_cpy ((zu μ 2 (va_cpy (μ 13) (μ 2) 0 0 8)) 14) ((zu μ 2 (va_cpy (μ 13) (μ 2) 0 0 8)) 3) 0 0 8)) 15) ((zu (zu μ 2 (va_cpy (μ 13) (μ 2) 0 0 8)) 3 (va_cpy ((zu μ 2 (va_cpy (μ 13) (μ 2) 0 0 8)) 14) ((zu μ 2 (va_cpy (μ 13) (μ 2) 0 0 8)) 3) 0 0 8)) 4) 0 0 8)) 5 (va_cpy ((zu (zu (zu μ 2 (va_cpy (μ 13) (μ 2) 0 0 8)) 3 (va_cpy ((zu μ 2 (va_cpy (μ 13) (μ 2) 0 0 8)) 14) ((zu μ 2 (va_cpy (μ 13) (μ 2) 0 0 8)) 3) 0 0 8)) 4 (va_cpy ((zu (zu μ 2 (va_cpy (μ 13) (μ 2) 0 0 8)) 3 (va_cpy ((zu μ 2 (va_cpy (μ 13) (μ 2) 0 0 8)) 14) ((zu μ 2 (va_cpy (μ 13) (μ 2) 0 0 8)) 3) 0 0 8)) 15) ((zu (zu μ 2 (va_cpy (μ 13) (μ 2) 0 0 8)) 3 (va_cpy ((zu μ 2 (va_cpy (μ 13) (μ 2) 0 0 8)) 14) ((zu μ 2 (va_cpy (μ 13) (μ 2) 0 0 8)) 3) 0 0 8)) 4) 0 0 8)) 16) ((zu (zu (zu μ 2 (va_cpy (μ 13) (μ 2) 0 0 8)) 3 (va_cpy ((zu μ 2 (va_cpy (μ 13) (μ 2) 0 0 8)) 14) ((zu μ 2 (va_cpy (μ 13) (μ 2) 0 0 8)) 3) 0 0 8)) 4 (va_cpy ((zu (zu μ 2 (va_cpy (μ 13) (μ 2) 0 0 8)) 3 (va_cpy ((zu μ 2 (va_cpy (μ 13) (μ 2) 0 0 8)) 14) ((zu μ 2 (va_cpy (μ 13) (μ 2) 0 0 8)) 3) 0 0 8)) 15) ((zu (zu μ 2 (va_cpy (μ 13) (μ 2) 0 0 8)) 3 (va_cpy ((zu μ 2 (va_cpy (μ 13) (μ 2) 0 0 8)) 14) ((zu μ 2 (va_cpy (μ 13) (μ 2) 0 0 8)) 3) 0 0 8)) 4) 0 0 8)) 5) 0 0 200)) 1 5 (μ 12 5)) 1 6 (μ 12 6)) rok (by simp [zp, zu, upd]) (fun r hr => by simp [zp, zu, upd, va_cpy, hr]) (fun r hr => by simp [zp, zu, upd, va_cpy, hr]) (fun r hr => by simp [zp, zu, upd, va_cpy, hr]) (fun r hr => by simp [zp, zu, upd, va_cpy, hr])
  exact ⟨rfl, hh.1, hh.2, ((((((zJ.rf.u (by decide)).u (by decide)).u (by decide)).u (by decide)).p (by decide)).p (by decide))⟩
set_option maxHeartbeats 4000000 in
set_option maxRecDepth 100000 in
theorem eX5_copyFrom_67_1 (σ : zG) (μ : zM) (rok : cROK 1 μ) : zMet shC σ 1 MX5_copyFrom yX5_copyFrom [zr 67, zr 1] μ (fun rr μ' => rr = none ∧ pREq (cR 67 μ') (cR 1 μ) ∧ cROK 67 μ' ∧ zJ [67, 68, 69, 70, 71] μ μ') := by
  refine zmetF (by decide +kernel) rfl (Nat.le_of_ble_eq_true rfl) ?_
  show zX shC σ 1 MX5_copyFrom 0 [(0, zr 67), (1, zr 1)] [] μ _
  refine zx_aload_n (k := 1) (nn := 1) dX5_copyFrom_0 rfl rfl rfl ?_
  refine zx_getR (q := 2) (nn := 4) flX5_9 rfl rfl dX5_copyFrom_1 rfl ?_
  refine zx_iconst (v := 0) (nn := 5) rfl dX5_copyFrom_4 rfl ?_
  refine zx_aload_n (k := 0) (nn := 6) dX5_copyFrom_5 rfl rfl rfl ?_
  refine zx_getR (q := 68) (nn := 9) flX5_9 rfl rfl dX5_copyFrom_6 rfl ?_
  refine zx_iconst (v := 0) (nn := 10) rfl dX5_copyFrom_9 rfl ?_
  refine zx_bipush (v := 8) (nn := 12) rfl dX5_copyFrom_10 rfl ?_
  refine zx_copy (nn := 15) cplX5 rfl rfl (by decide) (by decide) (by decide) (by decide) (Nat.le_of_ble_eq_true rfl) dX5_copyFrom_12 rfl ?_
  show zX shC σ 1 MX5_copyFrom 15 [(0, zr 67), (1, zr 1)] [] (zu μ 68 (va_cpy (μ 2) (μ 68) 0 0 8)) _
  refine zx_aload_n (k := 1) (nn := 16) dX5_copyFrom_15 rfl rfl rfl ?_
  refine zx_getR (q := 3) (nn := 19) flX5_15 rfl rfl dX5_copyFrom_16 rfl ?_
  refine zx_iconst (v := 0) (nn := 20) rfl dX5_copyFrom_19 rfl ?_
  refine zx_aload_n (k := 0) (nn := 21) dX5_copyFrom_20 rfl rfl rfl ?_
  refine zx_getR (q := 69) (nn := 24) flX5_15 rfl rfl dX5_copyFrom_21 rfl ?_
  refine zx_iconst (v := 0) (nn := 25) rfl dX5_copyFrom_24 rfl ?_
  refine zx_bipush (v := 8) (nn := 27) rfl dX5_copyFrom_25 rfl ?_
  refine zx_copy (nn := 30) cplX5 rfl rfl (by decide) (by decide) (by decide) (by decide) (Nat.le_of_ble_eq_true rfl) dX5_copyFrom_27 rfl ?_
  show zX shC σ 1 MX5_copyFrom 30 [(0, zr 67), (1, zr 1)] [] (zu (zu μ 68 (va_cpy (μ 2) (μ 68) 0 0 8)) 69 (va_cpy ((zu μ 68 (va_cpy (μ 2) (μ 68) 0 0 8)) 3) ((zu μ 68 (va_cpy (μ 2) (μ 68) 0 0 8)) 69) 0 0 8)) _
  refine zx_aload_n (k := 1) (nn := 31) dX5_copyFrom_30 rfl rfl rfl ?_
  refine zx_getR (q := 4) (nn := 34) flX5_18 rfl rfl dX5_copyFrom_31 rfl ?_
  refine zx_iconst (v := 0) (nn := 35) rfl dX5_copyFrom_34 rfl ?_
  refine zx_aload_n (k := 0) (nn := 36) dX5_copyFrom_35 rfl rfl rfl ?_
  refine zx_getR (q := 70) (nn := 39) flX5_18 rfl rfl dX5_copyFrom_36 rfl ?_
  refine zx_iconst (v := 0) (nn := 40) rfl dX5_copyFrom_39 rfl ?_
  refine zx_bipush (v := 8) (nn := 42) rfl dX5_copyFrom_40 rfl ?_
  refine zx_copy (nn := 45) cplX5 rfl rfl (by decide) (by decide) (by decide) (by decide) (Nat.le_of_ble_eq_true rfl) dX5_copyFrom_42 rfl ?_
  show zX shC σ 1 MX5_copyFrom 45 [(0, zr 67), (1, zr 1)] [] (zu (zu (zu μ 68 (va_cpy (μ 2) (μ 68) 0 0 8)) 69 (va_cpy ((zu μ 68 (va_cpy (μ 2) (μ 68) 0 0 8)) 3) ((zu μ 68 (va_cpy (μ 2) (μ 68) 0 0 8)) 69) 0 0 8)) 70 (va_cpy ((zu (zu μ 68 (va_cpy (μ 2) (μ 68) 0 0 8)) 69 (va_cpy ((zu μ 68 (va_cpy (μ 2) (μ 68) 0 0 8)) 3) ((zu μ 68 (va_cpy (μ 2) (μ 68) 0 0 8)) 69) 0 0 8)) 4) ((zu (zu μ 68 (va_cpy (μ 2) (μ 68) 0 0 8)) 69 (va_cpy ((zu μ 68 (va_cpy (μ 2) (μ 68) 0 0 8)) 3) ((zu μ 68 (va_cpy (μ 2) (μ 68) 0 0 8)) 69) 0 0 8)) 70) 0 0 8)) _
  refine zx_aload_n (k := 1) (nn := 46) dX5_copyFrom_45 rfl rfl rfl ?_
  refine zx_getR (q := 5) (nn := 49) flX5_21 rfl rfl dX5_copyFrom_46 rfl ?_
  refine zx_iconst (v := 0) (nn := 50) rfl dX5_copyFrom_49 rfl ?_
  refine zx_aload_n (k := 0) (nn := 51) dX5_copyFrom_50 rfl rfl rfl ?_
  refine zx_getR (q := 71) (nn := 54) flX5_21 rfl rfl dX5_copyFrom_51 rfl ?_
  refine zx_iconst (v := 0) (nn := 55) rfl dX5_copyFrom_54 rfl ?_
  refine zx_sipush (v := 200) (nn := 58) rfl dX5_copyFrom_55 rfl ?_
  refine zx_copy (nn := 61) cplX5 rfl rfl (by decide) (by decide) (by decide) (by decide) (Nat.le_of_ble_eq_true rfl) dX5_copyFrom_58 rfl ?_
  show zX shC σ 1 MX5_copyFrom 61 [(0, zr 67), (1, zr 1)] [] (zu (zu (zu (zu μ 68 (va_cpy (μ 2) (μ 68) 0 0 8)) 69 (va_cpy ((zu μ 68 (va_cpy (μ 2) (μ 68) 0 0 8)) 3) ((zu μ 68 (va_cpy (μ 2) (μ 68) 0 0 8)) 69) 0 0 8)) 70 (va_cpy ((zu (zu μ 68 (va_cpy (μ 2) (μ 68) 0 0 8)) 69 (va_cpy ((zu μ 68 (va_cpy (μ 2) (μ 68) 0 0 8)) 3) ((zu μ 68 (va_cpy (μ 2) (μ 68) 0 0 8)) 69) 0 0 8)) 4) ((zu (zu μ 68 (va_cpy (μ 2) (μ 68) 0 0 8)) 69 (va_cpy ((zu μ 68 (va_cpy (μ 2) (μ 68) 0 0 8)) 3) ((zu μ 68 (va_cpy (μ 2) (μ 68) 0 0 8)) 69) 0 0 8)) 70) 0 0 8)) 71 (va_cpy ((zu (zu (zu μ 68 (va_cpy (μ 2) (μ 68) 0 0 8)) 69 (va_cpy ((zu μ 68 (va_cpy (μ 2) (μ 68) 0 0 8)) 3) ((zu μ 68 (va_cpy (μ 2) (μ 68) 0 0 8)) 69) 0 0 8)) 70 (va_cpy ((zu (zu μ 68 (va_cpy (μ 2) (μ 68) 0 0 8)) 69 (va_cpy ((zu μ 68 (va_cpy (μ 2) (μ 68) 0 0 8)) 3) ((zu μ 68 (va_cpy (μ 2) (μ 68) 0 0 8)) 69) 0 0 8)) 4) ((zu (zu μ 68 (va_cpy (μ 2) (μ 68) 0 0 8)) 69 (va_cpy ((zu μ 68 (va_cpy (μ 2) (μ 68) 0 0 8)) 3) ((zu μ 68 (va_cpy (μ 2) (μ 68) 0 0 8)) 69) 0 0 8)) 70) 0 0 8)) 5) ((zu (zu (zu μ 68 (va_cpy (μ 2) (μ 68) 0 0 8)) 69 (va_cpy ((zu μ 68 (va_cpy (μ 2) (μ 68) 0 0 8)) 3) ((zu μ 68 (va_cpy (μ 2) (μ 68) 0 0 8)) 69) 0 0 8)) 70 (va_cpy ((zu (zu μ 68 (va_cpy (μ 2) (μ 68) 0 0 8)) 69 (va_cpy ((zu μ 68 (va_cpy (μ 2) (μ 68) 0 0 8)) 3) ((zu μ 68 (va_cpy (μ 2) (μ 68) 0 0 8)) 69) 0 0 8)) 4) ((zu (zu μ 68 (va_cpy (μ 2) (μ 68) 0 0 8)) 69 (va_cpy ((zu μ 68 (va_cpy (μ 2) (μ 68) 0 0 8)) 3) ((zu μ 68 (va_cpy (μ 2) (μ 68) 0 0 8)) 69) 0 0 8)) 70) 0 0 8)) 71) 0 0 200)) _
  refine zx_aload_n (k := 0) (nn := 62) dX5_copyFrom_61 rfl rfl rfl ?_
  refine zx_aload_n (k := 1) (nn := 63) dX5_copyFrom_62 rfl rfl rfl ?_
  refine zx_getI (nn := 66) flX5_33 rfl rfl dX5_copyFrom_63 rfl ?_
  show zX shC σ 1 MX5_copyFrom 66 [(0, zr 67), (1, zr 1)] [zi (μ 1 5), zr 67] (zu (zu (zu (zu μ 68 (va_cpy (μ 2) (μ 68) 0 0 8)) 69 (va_cpy ((zu μ 68 (va_cpy (μ 2) (μ 68) 0 0 8)) 3) ((zu μ 68 (va_cpy (μ 2) (μ 68) 0 0 8)) 69) 0 0 8)) 70 (va_cpy ((zu (zu μ 68 (va_cpy (μ 2) (μ 68) 0 0 8)) 69 (va_cpy ((zu μ 68 (va_cpy (μ 2) (μ 68) 0 0 8)) 3) ((zu μ 68 (va_cpy (μ 2) (μ 68) 0 0 8)) 69) 0 0 8)) 4) ((zu (zu μ 68 (va_cpy (μ 2) (μ 68) 0 0 8)) 69 (va_cpy ((zu μ 68 (va_cpy (μ 2) (μ 68) 0 0 8)) 3) ((zu μ 68 (va_cpy (μ 2) (μ 68) 0 0 8)) 69) 0 0 8)) 70) 0 0 8)) 71 (va_cpy ((zu (zu (zu μ 68 (va_cpy (μ 2) (μ 68) 0 0 8)) 69 (va_cpy ((zu μ 68 (va_cpy (μ 2) (μ 68) 0 0 8)) 3) ((zu μ 68 (va_cpy (μ 2) (μ 68) 0 0 8)) 69) 0 0 8)) 70 (va_cpy ((zu (zu μ 68 (va_cpy (μ 2) (μ 68) 0 0 8)) 69 (va_cpy ((zu μ 68 (va_cpy (μ 2) (μ 68) 0 0 8)) 3) ((zu μ 68 (va_cpy (μ 2) (μ 68) 0 0 8)) 69) 0 0 8)) 4) ((zu (zu μ 68 (va_cpy (μ 2) (μ 68) 0 0 8)) 69 (va_cpy ((zu μ 68 (va_cpy (μ 2) (μ 68) 0 0 8)) 3) ((zu μ 68 (va_cpy (μ 2) (μ 68) 0 0 8)) 69) 0 0 8)) 70) 0 0 8)) 5) ((zu (zu (zu μ 68 (va_cpy (μ 2) (μ 68) 0 0 8)) 69 (va_cpy ((zu μ 68 (va_cpy (μ 2) (μ 68) 0 0 8)) 3) ((zu μ 68 (va_cpy (μ 2) (μ 68) 0 0 8)) 69) 0 0 8)) 70 (va_cpy ((zu (zu μ 68 (va_cpy (μ 2) (μ 68) 0 0 8)) 69 (va_cpy ((zu μ 68 (va_cpy (μ 2) (μ 68) 0 0 8)) 3) ((zu μ 68 (va_cpy (μ 2) (μ 68) 0 0 8)) 69) 0 0 8)) 4) ((zu (zu μ 68 (va_cpy (μ 2) (μ 68) 0 0 8)) 69 (va_cpy ((zu μ 68 (va_cpy (μ 2) (μ 68) 0 0 8)) 3) ((zu μ 68 (va_cpy (μ 2) (μ 68) 0 0 8)) 69) 0 0 8)) 70) 0 0 8)) 71) 0 0 200)) _
  refine zx_putI (nn := 69) fpX5_33 rfl rfl rfl rfl dX5_copyFrom_66 rfl ?_
  refine zx_aload_n (k := 0) (nn := 70) dX5_copyFrom_69 rfl rfl rfl ?_
  refine zx_aload_n (k := 1) (nn := 71) dX5_copyFrom_70 rfl rfl rfl ?_
  refine zx_getI (nn := 74) flX5_37 rfl rfl dX5_copyFrom_71 rfl ?_
  show zX shC σ 1 MX5_copyFrom 74 [(0, zr 67), (1, zr 1)] [zi (μ 1 6), zr 67] (zp (zu (zu (zu (zu μ 68 (va_cpy (μ 2) (μ 68) 0 0 8)) 69 (va_cpy ((zu μ 68 (va_cpy (μ 2) (μ 68) 0 0 8)) 3) ((zu μ 68 (va_cpy (μ 2) (μ 68) 0 0 8)) 69) 0 0 8)) 70 (va_cpy ((zu (zu μ 68 (va_cpy (μ 2) (μ 68) 0 0 8)) 69 (va_cpy ((zu μ 68 (va_cpy (μ 2) (μ 68) 0 0 8)) 3) ((zu μ 68 (va_cpy (μ 2) (μ 68) 0 0 8)) 69) 0 0 8)) 4) ((zu (zu μ 68 (va_cpy (μ 2) (μ 68) 0 0 8)) 69 (va_cpy ((zu μ 68 (va_cpy (μ 2) (μ 68) 0 0 8)) 3) ((zu μ 68 (va_cpy (μ 2) (μ 68) 0 0 8)) 69) 0 0 8)) 70) 0 0 8)) 71 (va_cpy ((zu (zu (zu μ 68 (va_cpy (μ 2) (μ 68) 0 0 8)) 69 (va_cpy ((zu μ 68 (va_cpy (μ 2) (μ 68) 0 0 8)) 3) ((zu μ 68 (va_cpy (μ 2) (μ 68) 0 0 8)) 69) 0 0 8)) 70 (va_cpy ((zu (zu μ 68 (va_cpy (μ 2) (μ 68) 0 0 8)) 69 (va_cpy ((zu μ 68 (va_cpy (μ 2) (μ 68) 0 0 8)) 3) ((zu μ 68 (va_cpy (μ 2) (μ 68) 0 0 8)) 69) 0 0 8)) 4) ((zu (zu μ 68 (va_cpy (μ 2) (μ 68) 0 0 8)) 69 (va_cpy ((zu μ 68 (va_cpy (μ 2) (μ 68) 0 0 8)) 3) ((zu μ 68 (va_cpy (μ 2) (μ 68) 0 0 8)) 69) 0 0 8)) 70) 0 0 8)) 5) ((zu (zu (zu μ 68 (va_cpy (μ 2) (μ 68) 0 0 8)) 69 (va_cpy ((zu μ 68 (va_cpy (μ 2) (μ 68) 0 0 8)) 3) ((zu μ 68 (va_cpy (μ 2) (μ 68) 0 0 8)) 69) 0 0 8)) 70 (va_cpy ((zu (zu μ 68 (va_cpy (μ 2) (μ 68) 0 0 8)) 69 (va_cpy ((zu μ 68 (va_cpy (μ 2) (μ 68) 0 0 8)) 3) ((zu μ 68 (va_cpy (μ 2) (μ 68) 0 0 8)) 69) 0 0 8)) 4) ((zu (zu μ 68 (va_cpy (μ 2) (μ 68) 0 0 8)) 69 (va_cpy ((zu μ 68 (va_cpy (μ 2) (μ 68) 0 0 8)) 3) ((zu μ 68 (va_cpy (μ 2) (μ 68) 0 0 8)) 69) 0 0 8)) 70) 0 0 8)) 71) 0 0 200)) 67 5 (μ 1 5)) _
  refine zx_putI (nn := 77) fpX5_37 rfl rfl rfl rfl dX5_copyFrom_74 rfl ?_
  refine zx_vret rfl dX5_copyFrom_77 ?_
  have hh := cR_copy (d := 67) (c := 1) (ν := zp (zp (zu (zu (zu (zu μ 68 (va_cpy (μ 2) (μ 68) 0 0 8)) 69 (va_cpy ((zu μ 68 (va_cpy (μ 2) (μ 68) 0 0 8)) 3) ((zu μ 68 (va_cpy (μ 2) (μ 68) 0 0 8)) 69) 0 0 8)) 70 (va_cpy ((zu (zu μ 68 (va_cpy (μ 2) (μ 68) 0 0 8)) 69 (va_cpy ((zu μ 68 (va_cpy (μ 2) (μ 68) 0 0 8)) 3) ((zu μ 68 (va_cpy (μ 2) (μ 68) 0 0 8)) 69) 0 0 8)) 4) ((zu (zu μ 68 (va_cpy (μ 2) (μ 68) 0 0 8)) 69 (va_cpy ((zu μ 68 (va_cpy (μ 2) (μ 68) 0 0 8)) 3) ((zu μ 68 (va_cpy (μ 2) (μ 68) 0 0 8)) 69) 0 0 8)) 70) 0 0 8)) 71 (va_cpy ((zu (zu (zu μ 68 (va_cpy (μ 2) (μ 68) 0 0 8)) 69 (va_cpy ((zu μ 68 (va_cpy (μ 2) (μ 68) 0 0 8)) 3) ((zu μ 68 (va_cpy (μ 2) (μ 68) 0 0 8)) 69) 0 0 8)) 70 (va_cpy ((zu (zu μ 68 (va_cpy (μ 2) (μ 68) 0 0 8)) 69 (va_cpy ((zu μ 68 (va_cpy (μ 2) (μ 68) 0 0 8)) 3) ((zu μ 68 (va_cpy (μ 2) (μ 68) 0 0 8)) 69) 0 0 8)) 4) ((zu (zu μ 68 (va_cpy (μ 2) (μ 68) 0 0 8)) 69 (va_cpy ((zu μ 68 (va_cpy (μ 2) (μ 68) 0 0 8)) 3) ((zu μ 68 (va_cpy (μ 2) (μ 68) 0 0 8)) 69) 0 0 8)) 70) 0 0 8)) 5) ((zu (zu (zu μ 68 (va_cpy (μ 2) (μ 68) 0 0 8)) 69 (va_cpy ((zu μ 68 (va_cpy (μ 2) (μ 68) 0 0 8)) 3) ((zu μ 68 (va_cpy (μ 2) (μ 68) 0 0 8)) 69) 0 0 8)) 70 (va_cpy ((zu (zu μ 68 (va_cpy (μ 2) (μ 68) 0 0 8)) 69 (va_cpy ((zu μ 68 (va_cpy (μ 2) (μ 68) 0 0 8)) 3) ((zu μ 68 (va_cpy (μ 2) (μ 68) 0 0 8)) 69) 0 0 8)) 4) ((zu (zu μ 68 (va_cpy (μ 2) (μ 68) 0 0 8)) 69 (va_cpy ((zu μ 68 (va_cpy (μ 2) (μ 68) 0 0 8)) 3) ((zu μ 68 (va_cpy (μ 2) (μ 68) 0 0 8)) 69) 0 0 8)) 70) 0 0 8)) 71) 0 0 200)) 67 5 (μ 1 5)) 67 6 (μ 1 6)) rok (by simp [zp, zu, upd]) (fun r hr => by simp [zp, zu, upd, va_cpy, hr]) (fun r hr => by simp [zp, zu, upd, va_cpy, hr]) (fun r hr => by simp [zp, zu, upd, va_cpy, hr]) (fun r hr => by simp [zp, zu, upd, va_cpy, hr])
  exact ⟨rfl, hh.1, hh.2, ((((((zJ.rf.u (by decide)).u (by decide)).u (by decide)).u (by decide)).p (by decide)).p (by decide))⟩
set_option maxHeartbeats 4000000 in
set_option maxRecDepth 100000 in
theorem eX5_copyFrom_1_67 (σ : zG) (μ : zM) (rok : cROK 67 μ) : zMet shC σ 1 MX5_copyFrom yX5_copyFrom [zr 1, zr 67] μ (fun rr μ' => rr = none ∧ pREq (cR 1 μ') (cR 67 μ) ∧ cROK 1 μ' ∧ zJ [1, 2, 3, 4, 5] μ μ') := by
  refine zmetF (by decide +kernel) rfl (Nat.le_of_ble_eq_true rfl) ?_
  show zX shC σ 1 MX5_copyFrom 0 [(0, zr 1), (1, zr 67)] [] μ _
  refine zx_aload_n (k := 1) (nn := 1) dX5_copyFrom_0 rfl rfl rfl ?_
  refine zx_getR (q := 68) (nn := 4) flX5_9 rfl rfl dX5_copyFrom_1 rfl ?_
  refine zx_iconst (v := 0) (nn := 5) rfl dX5_copyFrom_4 rfl ?_
  refine zx_aload_n (k := 0) (nn := 6) dX5_copyFrom_5 rfl rfl rfl ?_
  refine zx_getR (q := 2) (nn := 9) flX5_9 rfl rfl dX5_copyFrom_6 rfl ?_
  refine zx_iconst (v := 0) (nn := 10) rfl dX5_copyFrom_9 rfl ?_
  refine zx_bipush (v := 8) (nn := 12) rfl dX5_copyFrom_10 rfl ?_
  refine zx_copy (nn := 15) cplX5 rfl rfl (by decide) (by decide) (by decide) (by decide) (Nat.le_of_ble_eq_true rfl) dX5_copyFrom_12 rfl ?_
  show zX shC σ 1 MX5_copyFrom 15 [(0, zr 1), (1, zr 67)] [] (zu μ 2 (va_cpy (μ 68) (μ 2) 0 0 8)) _
  refine zx_aload_n (k := 1) (nn := 16) dX5_copyFrom_15 rfl rfl rfl ?_
  refine zx_getR (q := 69) (nn := 19) flX5_15 rfl rfl dX5_copyFrom_16 rfl ?_
  refine zx_iconst (v := 0) (nn := 20) rfl dX5_copyFrom_19 rfl ?_
  refine zx_aload_n (k := 0) (nn := 21) dX5_copyFrom_20 rfl rfl rfl ?_
  refine zx_getR (q := 3) (nn := 24) flX5_15 rfl rfl dX5_copyFrom_21 rfl ?_
  refine zx_iconst (v := 0) (nn := 25) rfl dX5_copyFrom_24 rfl ?_
  refine zx_bipush (v := 8) (nn := 27) rfl dX5_copyFrom_25 rfl ?_
  refine zx_copy (nn := 30) cplX5 rfl rfl (by decide) (by decide) (by decide) (by decide) (Nat.le_of_ble_eq_true rfl) dX5_copyFrom_27 rfl ?_
  show zX shC σ 1 MX5_copyFrom 30 [(0, zr 1), (1, zr 67)] [] (zu (zu μ 2 (va_cpy (μ 68) (μ 2) 0 0 8)) 3 (va_cpy ((zu μ 2 (va_cpy (μ 68) (μ 2) 0 0 8)) 69) ((zu μ 2 (va_cpy (μ 68) (μ 2) 0 0 8)) 3) 0 0 8)) _
  refine zx_aload_n (k := 1) (nn := 31) dX5_copyFrom_30 rfl rfl rfl ?_
  refine zx_getR (q := 70) (nn := 34) flX5_18 rfl rfl dX5_copyFrom_31 rfl ?_
  refine zx_iconst (v := 0) (nn := 35) rfl dX5_copyFrom_34 rfl ?_
  refine zx_aload_n (k := 0) (nn := 36) dX5_copyFrom_35 rfl rfl rfl ?_
  refine zx_getR (q := 4) (nn := 39) flX5_18 rfl rfl dX5_copyFrom_36 rfl ?_
  refine zx_iconst (v := 0) (nn := 40) rfl dX5_copyFrom_39 rfl ?_
  refine zx_bipush (v := 8) (nn := 42) rfl dX5_copyFrom_40 rfl ?_
  refine zx_copy (nn := 45) cplX5 rfl rfl (by decide) (by decide) (by decide) (by decide) (Nat.le_of_ble_eq_true rfl) dX5_copyFrom_42 rfl ?_
  show zX shC σ 1 MX5_copyFrom 45 [(0, zr 1), (1, zr 67)] [] (zu (zu (zu μ 2 (va_cpy (μ 68) (μ 2) 0 0 8)) 3 (va_cpy ((zu μ 2 (va_cpy (μ 68) (μ 2) 0 0 8)) 69) ((zu μ 2 (va_cpy (μ 68) (μ 2) 0 0 8)) 3) 0 0 8)) 4 (va_cpy ((zu (zu μ 2 (va_cpy (μ 68) (μ 2) 0 0 8)) 3 (va_cpy ((zu μ 2 (va_cpy (μ 68) (μ 2) 0 0 8)) 69) ((zu μ 2 (va_cpy (μ 68) (μ 2) 0 0 8)) 3) 0 0 8)) 70) ((zu (zu μ 2 (va_cpy (μ 68) (μ 2) 0 0 8)) 3 (va_cpy ((zu μ 2 (va_cpy (μ 68) (μ 2) 0 0 8)) 69) ((zu μ 2 (va_cpy (μ 68) (μ 2) 0 0 8)) 3) 0 0 8)) 4) 0 0 8)) _
  refine zx_aload_n (k := 1) (nn := 46) dX5_copyFrom_45 rfl rfl rfl ?_
  refine zx_getR (q := 71) (nn := 49) flX5_21 rfl rfl dX5_copyFrom_46 rfl ?_
  refine zx_iconst (v := 0) (nn := 50) rfl dX5_copyFrom_49 rfl ?_
  refine zx_aload_n (k := 0) (nn := 51) dX5_copyFrom_50 rfl rfl rfl ?_
  refine zx_getR (q := 5) (nn := 54) flX5_21 rfl rfl dX5_copyFrom_51 rfl ?_
  refine zx_iconst (v := 0) (nn := 55) rfl dX5_copyFrom_54 rfl ?_
  refine zx_sipush (v := 200) (nn := 58) rfl dX5_copyFrom_55 rfl ?_
  refine zx_copy (nn := 61) cplX5 rfl rfl (by decide) (by decide) (by decide) (by decide) (Nat.le_of_ble_eq_true rfl) dX5_copyFrom_58 rfl ?_
  show zX shC σ 1 MX5_copyFrom 61 [(0, zr 1), (1, zr 67)] [] (zu (zu (zu (zu μ 2 (va_cpy (μ 68) (μ 2) 0 0 8)) 3 (va_cpy ((zu μ 2 (va_cpy (μ 68) (μ 2) 0 0 8)) 69) ((zu μ 2 (va_cpy (μ 68) (μ 2) 0 0 8)) 3) 0 0 8)) 4 (va_cpy ((zu (zu μ 2 (va_cpy (μ 68) (μ 2) 0 0 8)) 3 (va_cpy ((zu μ 2 (va_cpy (μ 68) (μ 2) 0 0 8)) 69) ((zu μ 2 (va_cpy (μ 68) (μ 2) 0 0 8)) 3) 0 0 8)) 70) ((zu (zu μ 2 (va_cpy (μ 68) (μ 2) 0 0 8)) 3 (va_cpy ((zu μ 2 (va_cpy (μ 68) (μ 2) 0 0 8)) 69) ((zu μ 2 (va_cpy (μ 68) (μ 2) 0 0 8)) 3) 0 0 8)) 4) 0 0 8)) 5 (va_cpy ((zu (zu (zu μ 2 (va_cpy (μ 68) (μ 2) 0 0 8)) 3 (va_cpy ((zu μ 2 (va_cpy (μ 68) (μ 2) 0 0 8)) 69) ((zu μ 2 (va_cpy (μ 68) (μ 2) 0 0 8)) 3) 0 0 8)) 4 (va_cpy ((zu (zu μ 2 (va_cpy (μ 68) (μ 2) 0 0 8)) 3 (va_cpy ((zu μ 2 (va_cpy (μ 68) (μ 2) 0 0 8)) 69) ((zu μ 2 (va_cpy (μ 68) (μ 2) 0 0 8)) 3) 0 0 8)) 70) ((zu (zu μ 2 (va_cpy (μ 68) (μ 2) 0 0 8)) 3 (va_cpy ((zu μ 2 (va_cpy (μ 68) (μ 2) 0 0 8)) 69) ((zu μ 2 (va_cpy (μ 68) (μ 2) 0 0 8)) 3) 0 0 8)) 4) 0 0 8)) 71) ((zu (zu (zu μ 2 (va_cpy (μ 68) (μ 2) 0 0 8)) 3 (va_cpy ((zu μ 2 (va_cpy (μ 68) (μ 2) 0 0 8)) 69) ((zu μ 2 (va_cpy (μ 68) (μ 2) 0 0 8)) 3) 0 0 8)) 4 (va_cpy ((zu (zu μ 2 (va_cpy (μ 68) (μ 2) 0 0 8)) 3 (va_cpy ((zu μ 2 (va_cpy (μ 68) (μ 2) 0 0 8)) 69) ((zu μ 2 (va_cpy (μ 68) (μ 2) 0 0 8)) 3) 0 0 8)) 70) ((zu (zu μ 2 (va_cpy (μ 68) (μ 2) 0 0 8)) 3 (va_cpy ((zu μ 2 (va_cpy (μ 68) (μ 2) 0 0 8)) 69) ((zu μ 2 (va_cpy (μ 68) (μ 2) 0 0 8)) 3) 0 0 8)) 4) 0 0 8)) 5) 0 0 200)) _
  refine zx_aload_n (k := 0) (nn := 62) dX5_copyFrom_61 rfl rfl rfl ?_
  refine zx_aload_n (k := 1) (nn := 63) dX5_copyFrom_62 rfl rfl rfl ?_
  refine zx_getI (nn := 66) flX5_33 rfl rfl dX5_copyFrom_63 rfl ?_
  show zX shC σ 1 MX5_copyFrom 66 [(0, zr 1), (1, zr 67)] [zi (μ 67 5), zr 1] (zu (zu (zu (zu μ 2 (va_cpy (μ 68) (μ 2) 0 0 8)) 3 (va_cpy ((zu μ 2 (va_cpy (μ 68) (μ 2) 0 0 8)) 69) ((zu μ 2 (va_cpy (μ 68) (μ 2) 0 0 8)) 3) 0 0 8)) 4 (va_cpy ((zu (zu μ 2 (va_cpy (μ 68) (μ 2) 0 0 8)) 3 (va_cpy ((zu μ 2 (va_cpy (μ 68) (μ 2) 0 0 8)) 69) ((zu μ 2 (va_cpy (μ 68) (μ 2) 0 0 8)) 3) 0 0 8)) 70) ((zu (zu μ 2 (va_cpy (μ 68) (μ 2) 0 0 8)) 3 (va_cpy ((zu μ 2 (va_cpy (μ 68) (μ 2) 0 0 8)) 69) ((zu μ 2 (va_cpy (μ 68) (μ 2) 0 0 8)) 3) 0 0 8)) 4) 0 0 8)) 5 (va_cpy ((zu (zu (zu μ 2 (va_cpy (μ 68) (μ 2) 0 0 8)) 3 (va_cpy ((zu μ 2 (va_cpy (μ 68) (μ 2) 0 0 8)) 69) ((zu μ 2 (va_cpy (μ 68) (μ 2) 0 0 8)) 3) 0 0 8)) 4 (va_cpy ((zu (zu μ 2 (va_cpy (μ 68) (μ 2) 0 0 8)) 3 (va_cpy ((zu μ 2 (va_cpy (μ 68) (μ 2) 0 0 8)) 69) ((zu μ 2 (va_cpy (μ 68) (μ 2) 0 0 8)) 3) 0 0 8)) 70) ((zu (zu μ 2 (va_cpy (μ 68) (μ 2) 0 0 8)) 3 (va_cpy ((zu μ 2 (va_cpy (μ 68) (μ 2) 0 0 8)) 69) ((zu μ 2 (va_cpy (μ 68) (μ 2) 0 0 8)) 3) 0 0 8)) 4) 0 0 8)) 71) ((zu (zu (zu μ 2 (va_cpy (μ 68) (μ 2) 0 0 8)) 3 (va_cpy ((zu μ 2 (va_cpy (μ 68) (μ 2) 0 0 8)) 69) ((zu μ 2 (va_cpy (μ 68) (μ 2) 0 0 8)) 3) 0 0 8)) 4 (va_cpy ((zu (zu μ 2 (va_cpy (μ 68) (μ 2) 0 0 8)) 3 (va_cpy ((zu μ 2 (va_cpy (μ 68) (μ 2) 0 0 8)) 69) ((zu μ 2 (va_cpy (μ 68) (μ 2) 0 0 8)) 3) 0 0 8)) 70) ((zu (zu μ 2 (va_cpy (μ 68) (μ 2) 0 0 8)) 3 (va_cpy ((zu μ 2 (va_cpy (μ 68) (μ 2) 0 0 8)) 69) ((zu μ 2 (va_cpy (μ 68) (μ 2) 0 0 8)) 3) 0 0 8)) 4) 0 0 8)) 5) 0 0 200)) _
  refine zx_putI (nn := 69) fpX5_33 rfl rfl rfl rfl dX5_copyFrom_66 rfl ?_
  refine zx_aload_n (k := 0) (nn := 70) dX5_copyFrom_69 rfl rfl rfl ?_
  refine zx_aload_n (k := 1) (nn := 71) dX5_copyFrom_70 rfl rfl rfl ?_
  refine zx_getI (nn := 74) flX5_37 rfl rfl dX5_copyFrom_71 rfl ?_
  show zX shC σ 1 MX5_copyFrom 74 [(0, zr 1), (1, zr 67)] [zi (μ 67 6), zr 1] (zp (zu (zu (zu (zu μ 2 (va_cpy (μ 68) (μ 2) 0 0 8)) 3 (va_cpy ((zu μ 2 (va_cpy (μ 68) (μ 2) 0 0 8)) 69) ((zu μ 2 (va_cpy (μ 68) (μ 2) 0 0 8)) 3) 0 0 8)) 4 (va_cpy ((zu (zu μ 2 (va_cpy (μ 68) (μ 2) 0 0 8)) 3 (va_cpy ((zu μ 2 (va_cpy (μ 68) (μ 2) 0 0 8)) 69) ((zu μ 2 (va_cpy (μ 68) (μ 2) 0 0 8)) 3) 0 0 8)) 70) ((zu (zu μ 2 (va_cpy (μ 68) (μ 2) 0 0 8)) 3 (va_cpy ((zu μ 2 (va_cpy (μ 68) (μ 2) 0 0 8)) 69) ((zu μ 2 (va_cpy (μ 68) (μ 2) 0 0 8)) 3) 0 0 8)) 4) 0 0 8)) 5 (va_cpy ((zu (zu (zu μ 2 (va_cpy (μ 68) (μ 2) 0 0 8)) 3 (va_cpy ((zu μ 2 (va_cpy (μ 68) (μ 2) 0 0 8)) 69) ((zu μ 2 (va_cpy (μ 68) (μ 2) 0 0 8)) 3) 0 0 8)) 4 (va_cpy ((zu (zu μ 2 (va_cpy (μ 68) (μ 2) 0 0 8)) 3 (va_cpy ((zu μ 2 (va_cpy (μ 68) (μ 2) 0 0 8)) 69) ((zu μ 2 (va_cpy (μ 68) (μ 2) 0 0 8)) 3) 0 0 8)) 70) ((zu (zu μ 2 (va_cpy (μ 68) (μ 2) 0 0 8)) 3 (va_cpy ((zu μ 2 (va_cpy (μ 68) (μ 2) 0 0 8)) 69) ((zu μ 2 (va_cpy (μ 68) (μ 2) 0 0 8)) 3) 0 0 8)) 4) 0 0 8)) 71) ((zu (zu (zu μ 2 (va_cpy (μ 68) (μ 2) 0 0 8)) 3 (va_cpy ((zu μ 2 (va_cpy (μ 68) (μ 2) 0 0 8)) 69) ((zu μ 2 (va_cpy (μ 68) (μ 2) 0 0 8)) 3) 0 0 8)) 4 (va_cpy ((zu (zu μ 2 (va_cpy (μ 68) (μ 2) 0 0 8)) 3 (va_cpy ((zu μ 2 (va_cpy (μ 68) (μ 2) 0 0 8)) 69) ((zu μ 2 (va_cpy (μ 68) (μ 2) 0 0 8)) 3) 0 0 8)) 70) ((zu (zu μ 2 (va_cpy (μ 68) (μ 2) 0 0 8)) 3 (va_cpy ((zu μ 2 (va_cpy (μ 68) (μ 2) 0 0 8)) 69) ((zu μ 2 (va_cpy (μ 68) (μ 2) 0 0 8)) 3) 0 0 8)) 4) 0 0 8)) 5) 0 0 200)) 1 5 (μ 67 5)) _
  refine zx_putI (nn := 77) fpX5_37 rfl rfl rfl rfl dX5_copyFrom_74 rfl ?_
  refine zx_vret rfl dX5_copyFrom_77 ?_
  have hh := cR_copy (d := 1) (c := 67) (ν := zp (zp (zu (zu (zu (zu μ 2 (va_cpy (μ 68) (μ 2) 0 0 8)) 3 (va_cpy ((zu μ 2 (va_cpy (μ 68) (μ 2) 0 0 8)) 69) ((zu μ 2 (va_cpy (μ 68) (μ 2) 0 0 8)) 3) 0 0 8)) 4 (va_cpy ((zu (zu μ 2 (va_cpy (μ 68) (μ 2) 0 0 8)) 3 (va_cpy ((zu μ 2 (va_cpy (μ 68) (μ 2) 0 0 8)) 69) ((zu μ 2 (va_cpy (μ 68) (μ 2) 0 0 8)) 3) 0 0 8)) 70) ((zu (zu μ 2 (va_cpy (μ 68) (μ 2) 0 0 8)) 3 (va_cpy ((zu μ 2 (va_cpy (μ 68) (μ 2) 0 0 8)) 69) ((zu μ 2 (va_cpy (μ 68) (μ 2) 0 0 8)) 3) 0 0 8)) 4) 0 0 8)) 5 (va_cpy ((zu (zu (zu μ 2 (va_cpy (μ 68) (μ 2) 0 0 8)) 3 (va_cpy ((zu μ 2 (va_cpy (μ 68) (μ 2) 0 0 8)) 69) ((zu μ 2 (va_cpy (μ 68) (μ 2) 0 0 8)) 3) 0 0 8)) 4 (va_cpy ((zu (zu μ 2 (va_cpy (μ 68) (μ 2) 0 0 8)) 3 (va_cpy ((zu μ 2 (va_cpy (μ 68) (μ 2) 0 0 8)) 69) ((zu μ 2 (va_cpy (μ 68) (μ 2) 0 0 8)) 3) 0 0 8)) 70) ((zu (zu μ 2 (va_cpy (μ 68) (μ 2) 0 0 8)) 3 (va_cpy ((zu μ 2 (va_cpy (μ 68) (μ 2) 0 0 8)) 69) ((zu μ 2 (va_cpy (μ 68) (μ 2) 0 0 8)) 3) 0 0 8)) 4) 0 0 8)) 71) ((zu (zu (zu μ 2 (va_cpy (μ 68) (μ 2) 0 0 8)) 3 (va_cpy ((zu μ 2 (va_cpy (μ 68) (μ 2) 0 0 8)) 69) ((zu μ 2 (va_cpy (μ 68) (μ 2) 0 0 8)) 3) 0 0 8)) 4 (va_cpy ((zu (zu μ 2 (va_cpy (μ 68) (μ 2) 0 0 8)) 3 (va_cpy ((zu μ 2 (va_cpy (μ 68) (μ 2) 0 0 8)) 69) ((zu μ 2 (va_cpy (μ 68) (μ 2) 0 0 8)) 3) 0 0 8)) 70) ((zu (zu μ 2 (va_cpy (μ 68) (μ 2) 0 0 8)) 3 (va_cpy ((zu μ 2 (va_cpy (μ 68) (μ 2) 0 0 8)) 69) ((zu μ 2 (va_cpy (μ 68) (μ 2) 0 0 8)) 3) 0 0 8)) 4) 0 0 8)) 5) 0 0 200)) 1 5 (μ 67 5)) 1 6 (μ 67 6)) rok (by simp [zp, zu, upd]) (fun r hr => by simp [zp, zu, upd, va_cpy, hr]) (fun r hr => by simp [zp, zu, upd, va_cpy, hr]) (fun r hr => by simp [zp, zu, upd, va_cpy, hr]) (fun r hr => by simp [zp, zu, upd, va_cpy, hr])
  exact ⟨rfl, hh.1, hh.2, ((((((zJ.rf.u (by decide)).u (by decide)).u (by decide)).u (by decide)).p (by decide)).p (by decide))⟩
set_option maxHeartbeats 4000000 in
set_option maxRecDepth 100000 in
theorem eX5_clear_12 (σ : zG) (μ : zM) : zMet shC σ 0 MX5_clear yX5_clear [zr 12] μ (fun rr μ' => rr = none ∧ μ' = zp (zp μ 12 5 0) 12 6 0) := by
  refine zmetF (by decide +kernel) rfl (Nat.le_of_ble_eq_true rfl) ?_
  show zX shC σ 0 MX5_clear 0 [(0, zr 12)] [] μ _
  refine zx_aload_n (k := 0) (nn := 1) dX5_clear_0 rfl rfl rfl ?_
  refine zx_iconst (v := 0) (nn := 2) rfl dX5_clear_1 rfl ?_
  refine zx_putI (nn := 5) fpX5_33 rfl rfl rfl rfl dX5_clear_2 rfl ?_
  refine zx_aload_n (k := 0) (nn := 6) dX5_clear_5 rfl rfl rfl ?_
  refine zx_iconst (v := 0) (nn := 7) rfl dX5_clear_6 rfl ?_
  refine zx_putI (nn := 10) fpX5_37 rfl rfl rfl rfl dX5_clear_7 rfl ?_
  refine zx_vret rfl dX5_clear_10 ?_
  exact ⟨rfl, rfl⟩
set_option maxHeartbeats 4000000 in
set_option maxRecDepth 100000 in
theorem eX5_addCode_12 (σ : zG) (μ : zM) (c : Int32) (n : Nat) (hc : μ 12 6 = nI n) (hn : n < 200) : zMet shC σ 0 MX5_addCode yX5_addCode [zr 12, zi c] μ (fun rr μ' => rr = none ∧ μ' = zp (zp μ 16 n c) 12 6 (nI (n + 1))) := by
  refine zmetF (by decide +kernel) rfl (Nat.le_of_ble_eq_true rfl) ?_
  show zX shC σ 0 MX5_addCode 0 [(0, zr 12), (1, zi c)] [] μ _
  refine zx_aload_n (k := 0) (nn := 1) dX5_addCode_0 rfl rfl rfl ?_
  refine zx_getI (nn := 4) flX5_37 rfl rfl dX5_addCode_1 rfl ?_
  refine zx_sipush (v := 200) (nn := 7) rfl dX5_addCode_4 rfl ?_
  refine zx_icmp_ge (tgt := 30) (nn := 10) dX5_addCode_7 (by decide) rfl (fun h7 => ?_) (fun h7 => ?_)
  · exact absurd (nI_le_le (b := 200) (a := n) (by rw [← hc]; exact h7) (by omega)) (by omega)
  · refine zx_aload_n (k := 0) (nn := 11) dX5_addCode_10 rfl rfl rfl ?_
    refine zx_getR (q := 16) (nn := 14) flX5_21 rfl rfl dX5_addCode_11 rfl ?_
    refine zx_aload_n (k := 0) (nn := 15) dX5_addCode_14 rfl rfl rfl ?_
    refine zx_getI (nn := 18) flX5_37 rfl rfl dX5_addCode_15 rfl ?_
    rw [hc]
    show zX shC σ 0 MX5_addCode 18 [(0, zr 12), (1, zi c)] [zi (nI n), zr 16] μ _
    refine zx_iload_n (k := 1) (nn := 19) dX5_addCode_18 rfl rfl rfl ?_
    refine zx_iast_n (j := n) (nn := 20) rfl hn (by decide) dX5_addCode_19 rfl ?_
    refine zx_aload_n (k := 0) (nn := 21) dX5_addCode_20 rfl rfl rfl ?_
    refine zx_dupr (nn := 22) dX5_addCode_21 rfl ?_
    refine zx_getI (nn := 25) flX5_37 rfl rfl dX5_addCode_22 rfl ?_
    show zX shC σ 0 MX5_addCode 25 [(0, zr 12), (1, zi c)] [zi (μ 12 6), zr 12] (zp μ 16 n c) _
    refine zx_iconst (v := 1) (nn := 26) rfl dX5_addCode_25 rfl ?_
    refine zx_iadd (nn := 27) dX5_addCode_26 rfl ?_
    refine zx_putI (nn := 30) fpX5_37 rfl rfl rfl rfl dX5_addCode_27 rfl ?_
    refine zx_vret rfl dX5_addCode_30 ?_
    exact ⟨rfl, by rw [← nI_1 n]; show zp (zp μ 16 n c) 12 6 (μ 12 6 + 1) = _; rw [hc]⟩
set_option maxHeartbeats 4000000 in
set_option maxRecDepth 100000 in
theorem eX5_addRule_12 (σ : zG) (μ : zM) (k : Int32) (h : Int32) (n : Nat) (hc : μ 12 5 = nI n) (hn : n < 8) : zMet shC σ 0 MX5_addRule yX5_addRule [zr 12, zi k, zi h] μ (fun rr μ' => rr = none ∧ μ' = zp (zp (zp (zp μ 13 n k) 14 n h) 15 n (μ 12 6)) 12 5 (nI (n + 1))) := by
  refine zmetF (by decide +kernel) rfl (Nat.le_of_ble_eq_true rfl) ?_
  show zX shC σ 0 MX5_addRule 0 [(0, zr 12), (1, zi k), (2, zi h)] [] μ _
  refine zx_aload_n (k := 0) (nn := 1) dX5_addRule_0 rfl rfl rfl ?_
  refine zx_getI (nn := 4) flX5_33 rfl rfl dX5_addRule_1 rfl ?_
  refine zx_bipush (v := 8) (nn := 6) rfl dX5_addRule_4 rfl ?_
  refine zx_icmp_ge (tgt := 52) (nn := 9) dX5_addRule_6 (by decide) rfl (fun h6 => ?_) (fun h6 => ?_)
  · exact absurd (nI_le_le (b := 8) (a := n) (by rw [← hc]; exact h6) (by omega)) (by omega)
  · refine zx_aload_n (k := 0) (nn := 10) dX5_addRule_9 rfl rfl rfl ?_
    refine zx_getR (q := 13) (nn := 13) flX5_9 rfl rfl dX5_addRule_10 rfl ?_
    refine zx_aload_n (k := 0) (nn := 14) dX5_addRule_13 rfl rfl rfl ?_
    refine zx_getI (nn := 17) flX5_33 rfl rfl dX5_addRule_14 rfl ?_
    rw [hc]
    show zX shC σ 0 MX5_addRule 17 [(0, zr 12), (1, zi k), (2, zi h)] [zi (nI n), zr 13] μ _
    refine zx_iload_n (k := 1) (nn := 18) dX5_addRule_17 rfl rfl rfl ?_
    refine zx_iast_n (j := n) (nn := 19) rfl hn (by decide) dX5_addRule_18 rfl ?_
    refine zx_aload_n (k := 0) (nn := 20) dX5_addRule_19 rfl rfl rfl ?_
    refine zx_getR (q := 14) (nn := 23) flX5_15 rfl rfl dX5_addRule_20 rfl ?_
    refine zx_aload_n (k := 0) (nn := 24) dX5_addRule_23 rfl rfl rfl ?_
    refine zx_getI (nn := 27) flX5_33 rfl rfl dX5_addRule_24 rfl ?_
    show zX shC σ 0 MX5_addRule 27 [(0, zr 12), (1, zi k), (2, zi h)] [zi (μ 12 5), zr 14] (zp μ 13 n k) _
    rw [show μ 12 5 = nI n from hc]
    show zX shC σ 0 MX5_addRule 27 [(0, zr 12), (1, zi k), (2, zi h)] [zi (nI n), zr 14] (zp μ 13 n k) _
    refine zx_iload_n (k := 2) (nn := 28) dX5_addRule_27 rfl rfl rfl ?_
    refine zx_iast_n (j := n) (nn := 29) rfl hn (by decide) dX5_addRule_28 rfl ?_
    refine zx_aload_n (k := 0) (nn := 30) dX5_addRule_29 rfl rfl rfl ?_
    refine zx_getR (q := 15) (nn := 33) flX5_18 rfl rfl dX5_addRule_30 rfl ?_
    refine zx_aload_n (k := 0) (nn := 34) dX5_addRule_33 rfl rfl rfl ?_
    refine zx_getI (nn := 37) flX5_33 rfl rfl dX5_addRule_34 rfl ?_
    show zX shC σ 0 MX5_addRule 37 [(0, zr 12), (1, zi k), (2, zi h)] [zi (μ 12 5), zr 15] (zp (zp μ 13 n k) 14 n h) _
    rw [show μ 12 5 = nI n from hc]
    show zX shC σ 0 MX5_addRule 37 [(0, zr 12), (1, zi k), (2, zi h)] [zi (nI n), zr 15] (zp (zp μ 13 n k) 14 n h) _
    refine zx_aload_n (k := 0) (nn := 38) dX5_addRule_37 rfl rfl rfl ?_
    refine zx_getI (nn := 41) flX5_37 rfl rfl dX5_addRule_38 rfl ?_
    show zX shC σ 0 MX5_addRule 41 [(0, zr 12), (1, zi k), (2, zi h)] [zi (μ 12 6), zi (nI n), zr 15] (zp (zp μ 13 n k) 14 n h) _
    refine zx_iast_n (j := n) (nn := 42) rfl hn (by decide) dX5_addRule_41 rfl ?_
    refine zx_aload_n (k := 0) (nn := 43) dX5_addRule_42 rfl rfl rfl ?_
    refine zx_dupr (nn := 44) dX5_addRule_43 rfl ?_
    refine zx_getI (nn := 47) flX5_33 rfl rfl dX5_addRule_44 rfl ?_
    show zX shC σ 0 MX5_addRule 47 [(0, zr 12), (1, zi k), (2, zi h)] [zi (μ 12 5), zr 12] (zp (zp (zp μ 13 n k) 14 n h) 15 n (μ 12 6)) _
    refine zx_iconst (v := 1) (nn := 48) rfl dX5_addRule_47 rfl ?_
    refine zx_iadd (nn := 49) dX5_addRule_48 rfl ?_
    refine zx_putI (nn := 52) fpX5_33 rfl rfl rfl rfl dX5_addRule_49 rfl ?_
    refine zx_vret rfl dX5_addRule_52 ?_
    exact ⟨rfl, by rw [← nI_1 n]; show zp (zp (zp (zp μ 13 n k) 14 n h) 15 n (μ 12 6)) 12 5 (μ 12 5 + 1) = _; rw [hc]⟩
