/-- aims and places lie on the stage -/
def pAB (s : Nat → Int32) : Prop := (∀ l, l < pL s → 0 ≤ s (7 + 4 * l + 1) ∧ s (7 + 4 * l + 1) ≤ 40) ∧ ∀ b, b < pB s → 0 ≤ s (31 + b) ∧ s (31 + b) ≤ 40
theorem sb_le {a p z : Int32} (ha : 0 ≤ a ∧ a ≤ 40) (hp : 0 ≤ p ∧ p ≤ 40) (hz : 0 ≤ z ∧ z ≤ 9) : pAbs (p - a) - z ≤ 0 ↔ pAbs (p - a) ≤ z := by
  unfold pAbs
  rw [Int32.le_iff_toInt_le, Int32.le_iff_toInt_le] at ha hp hz
  have h0 : (0 : Int32).toInt = 0 := rfl
  have h40 : (40 : Int32).toInt = 40 := rfl
  have h9 : (9 : Int32).toInt = 9 := rfl
  rw [h0, h40] at ha hp
  rw [h0, h9] at hz
  have hd : (p - a).toInt = p.toInt - a.toInt := by rw [Int32.toInt_sub]; exact Int.bmod_eq_of_le (by omega) (by omega)
  by_cases h : p - a < 0
  · have hn : (-(p - a)).toInt = -(p.toInt - a.toInt) := by rw [Int32.toInt_neg, hd]; exact Int.bmod_eq_of_le (by omega) (by omega)
    rw [if_pos h, Int32.le_iff_toInt_le, Int32.le_iff_toInt_le, Int32.toInt_sub, hn, h0]
    rw [Int.bmod_eq_of_le (by omega) (by omega)]
    omega
  · rw [if_neg h, Int32.le_iff_toInt_le, Int32.le_iff_toInt_le, Int32.toInt_sub, hd, h0]
    rw [Int.bmod_eq_of_le (by omega) (by omega)]
    omega
theorem in_r (v a b : Int32) : (decide (a.toInt64 ≤ v.toInt64) && decide (v.toInt64 ≤ b.toInt64)) = pIn v a b := by
  unfold pIn
  simp only [l64_le]
theorem has_r (n : Nat) (hn : n < 2 ^ 31) (l : Int32) : (decide ((0 : Int32).toInt64 ≤ l.toInt64) && decide (l.toInt64 ≤ (nI n - 1).toInt64)) = pHas (nI n) l := by
  unfold pHas
  simp only [l64_le]
  have e : (l ≤ nI n - 1) ↔ l < nI n := by
    rw [Int32.le_iff_toInt_le, Int32.lt_iff_toInt_lt, Int32.toInt_sub, nI_toInt hn]
    have h1 : (1 : Int32).toInt = 1 := rfl
    rw [h1, Int.bmod_eq_of_le (by omega) (by omega)]
    omega
  simp only [e]
theorem seenN {s : Nat → Int32} (ok : pOK s) : pSeenAt s = nI (pb s - 1) := by
  unfold pSeenAt
  have hb := (ok_b ok).1
  rcases Nat.eq_zero_or_pos (pb s) with q | q
  · rw [hb, q]; rfl
  · rw [hb, if_pos (show 0 < nI (pb s) from nI_lt (a := 0) q (by have := (ok_b ok).2; have := (ok_B ok).2; omega)), nI_sub1 (by omega)]
theorem seenE {s : Nat → Int32} (ok : pOK s) (h : ¬ s 1 = 0) : pSeen s = s (31 + (pb s - 1)) := by
  unfold pSeen
  rw [seenN ok]
  have := nI_B ok h
  have := (ok_b ok).2
  exact pNear_at ok (by omega)
theorem nearE {s : Nat → Int32} (ok : pOK s) (h : ¬ s 1 = 0) (x : Int32) : ∃ j, j < pB s ∧ pW x 0 (s 1 - 1) = nI j ∧ pNear s x = s (31 + j) := by
  have h1 := nI_B ok h
  obtain ⟨e1, e2⟩ := ok_B ok
  unfold pW
  by_cases a : x < 0
  · refine ⟨0, by omega, by rw [if_pos a]; rfl, ?_⟩
    unfold pNear
    rw [if_neg h, if_pos (Int32.le_of_lt a)]
  · obtain ⟨j, hj, rfl⟩ := nI_of (x := x) a
    by_cases b : s 1 - 1 < nI j
    · refine ⟨pB s - 1, by omega, by rw [if_neg a, if_pos b, e1, nI_sub1 h1], ?_⟩
      rw [e1, nI_sub1 h1] at b
      have hb := (nI_ltI (by omega) hj).mp b
      unfold pNear
      have h0 : ¬ nI j ≤ 0 := nI_nle (by omega) hj
      have h2 : ¬ nI j < s 1 := by rw [e1]; exact fun q => absurd ((nI_ltI hj (by omega)).mp q) (by omega)
      rw [if_neg h, if_neg h0, if_neg h2, e1, nI_sub1 h1, nI_clamp (by omega)]
    · rw [e1, nI_sub1 h1] at b
      have hb : ¬ pB s - 1 < j := fun q => b (nI_lt q hj)
      refine ⟨j, by omega, by rw [if_neg a, if_neg (by rw [e1, nI_sub1 h1]; exact b)], pNear_at ok (by omega)⟩
set_option maxHeartbeats 4000000 in
set_option maxRecDepth 100000 in
theorem eX11_becomes_0 (σ : zG) (μ : zM) (k : Nat) (v : Int32) (hk : k < 521) : zMet shR σ 0 MX11_becomes yX11_becomes [zr 0, zi (nI k), zi v] μ (fun rr μ' => rr = some (zi (μ 1 k)) ∧ μ' = zp μ 1 k v) := by
  refine zmetF (by decide +kernel) rfl (Nat.le_of_ble_eq_true rfl) ?_
  show zX shR σ 0 MX11_becomes 0 [(0, zr 0), (1, zi (nI k)), (2, zi v)] [] μ _
  refine zx_aload_n (k := 0) (nn := 1) dX11_becomes_0 rfl rfl rfl ?_
  refine zx_getR (q := 1) (nn := 4) flX11_9 rfl rfl dX11_becomes_1 rfl ?_
  refine zx_iload_n (k := 1) (nn := 5) dX11_becomes_4 rfl rfl rfl ?_
  refine zx_iald_n (j := k) (nn := 6) rfl hk (by decide) dX11_becomes_5 rfl ?_
  refine zx_istore_n (nn := 7) (lv' := [(3, zi (μ 1 k)), (0, zr 0), (1, zi (nI k)), (2, zi v)]) dX11_becomes_6 rfl (by decide) rfl rfl ?_
  refine zx_aload_n (k := 1) (nn := 8) dX11_becomes_7 rfl rfl rfl ?_
  refine zx_getR (q := 1) (nn := 11) flX11_9 rfl rfl dX11_becomes_8 rfl ?_
  refine zx_iload_n (k := 2) (nn := 12) dX11_becomes_11 rfl rfl rfl ?_
  refine zx_iload_n (k := 3) (nn := 13) dX11_becomes_12 rfl rfl rfl ?_
  refine zx_iast_n (j := k) (nn := 14) rfl hk (by decide) dX11_becomes_13 rfl ?_
  refine zx_iload_n (k := 0) (nn := 15) dX11_becomes_14 rfl rfl rfl ?_
  refine zx_iret rfl dX11_becomes_15 ?_
  exact ⟨rfl, rfl⟩
set_option maxHeartbeats 4000000 in
set_option maxRecDepth 100000 in
theorem eX11_over_1_3 (σ : zG) (μ : zM) : zMet shR σ 0 MX11_over yX11_over [zr 1, zr 3] μ (fun rr μ' => rr = none ∧ zJ [3] μ μ' ∧ ∀ j, j < 521 → μ' 3 j = μ 1 j) := by
  refine zmetF (by decide +kernel) rfl (Nat.le_of_ble_eq_true rfl) ?_
  show zX shR σ 0 MX11_over 0 [(0, zr 1), (1, zr 3)] [] μ _
  refine zx_iconst (v := 0) (nn := 1) rfl dX11_over_0 rfl ?_
  refine zx_istore_n (nn := 2) (lv' := [(2, zi 0), (0, zr 1), (1, zr 3)]) dX11_over_1 rfl (by decide) rfl rfl ?_
  refine zx_lv (lv' := [(0, zr 1), (1, zr 3), (2, zi 0)]) [1, 2, 0] rfl ?_
  refine zx_while (τ := Nat × zM) (fun t_ => 521 - t_.1) (fun t_ => t_.1 ≤ 521 ∧ zJ [3] μ t_.2 ∧ ∀ j, j < t_.1 → t_.2 3 j = μ 1 j) (fun t_ => [(0, zr 1), (1, zr 3), (2, zi (nI t_.1))]) (fun t_ => t_.2) (t0 := (0, μ)) (show 0 ≤ 521 ∧ zJ [3] μ μ ∧ ∀ j, j < 0 → μ 3 j = μ 1 j from ⟨Nat.zero_le _, zJ.rf, fun j h => absurd h (by omega)⟩) ?_
  rintro ⟨k, μ1⟩ hI ih2
  replace hI : k ≤ 521 ∧ zJ [3] μ μ1 ∧ ∀ j, j < k → μ1 3 j = μ 1 j := hI
  show zX shR σ 0 MX11_over 2 [(0, zr 1), (1, zr 3), (2, zi (nI k))] [] μ1 _
  refine zx_iload_n (k := 2) (nn := 3) dX11_over_2 rfl rfl rfl ?_
  refine zx_sipush (v := 521) (nn := 6) rfl dX11_over_3 rfl ?_
  refine zx_icmp_ge (tgt := 21) (nn := 9) dX11_over_6 (by decide) rfl (fun h6 => ?_) (fun h6 => ?_)
  · refine zx_vret rfl dX11_over_21 ?_
    have hge := nI_le_le (b := 521) h6 (by omega)
    exact ⟨rfl, hI.2.1, fun j hj => hI.2.2 j (by omega)⟩
  · have hlt : k < 521 := nI_nle_lt (b := 521) h6 (by omega)
    refine zx_aload_n (k := 1) (nn := 10) dX11_over_9 rfl rfl rfl ?_
    refine zx_iload_n (k := 2) (nn := 11) dX11_over_10 rfl rfl rfl ?_
    refine zx_aload_n (k := 0) (nn := 12) dX11_over_11 rfl rfl rfl ?_
    refine zx_iload_n (k := 2) (nn := 13) dX11_over_12 rfl rfl rfl ?_
    refine zx_iald_n (j := k) (nn := 14) rfl hlt (by decide) dX11_over_13 rfl ?_
    refine zx_iast_n (j := k) (nn := 15) rfl hlt (by decide) dX11_over_14 rfl ?_
    refine zx_iinc (k := 2) (v := nI (k + 1)) (lv' := [(2, zi (nI (k + 1))), (0, zr 1), (1, zr 3)]) (nn := 18) dX11_over_15 rfl (nI_1 k) (by decide) rfl rfl ?_
    refine zx_goto (tgt := 2) dX11_over_18 (by decide) ?_
    refine zx_lv (lv' := [(0, zr 1), (1, zr 3), (2, zi (nI (k + 1)))]) [1, 2, 0] rfl ?_
    exact ih2 (k + 1, zp μ1 3 k (μ1 1 k)) (show (k + 1) ≤ 521 ∧ zJ [3] μ (zp μ1 3 k (μ1 1 k)) ∧ ∀ j, j < (k + 1) → (zp μ1 3 k (μ1 1 k)) 3 j = μ 1 j from ⟨by omega, hI.2.1.p (by decide), fun j hj => by rw [zp_eq]; exact (Decidable.em (j = k)).elim (fun e => by subst e; rw [pk_us, hI.2.1 1 (by decide)]) (fun e => by rw [pk_un e]; exact hI.2.2 j (by omega))⟩) (by show 521 - (k + 1) < 521 - k; omega)
set_option maxHeartbeats 4000000 in
set_option maxRecDepth 100000 in
theorem eX11_over_3_1 (σ : zG) (μ : zM) : zMet shR σ 0 MX11_over yX11_over [zr 3, zr 1] μ (fun rr μ' => rr = none ∧ zJ [1] μ μ' ∧ ∀ j, j < 521 → μ' 1 j = μ 3 j) := by
  refine zmetF (by decide +kernel) rfl (Nat.le_of_ble_eq_true rfl) ?_
  show zX shR σ 0 MX11_over 0 [(0, zr 3), (1, zr 1)] [] μ _
  refine zx_iconst (v := 0) (nn := 1) rfl dX11_over_0 rfl ?_
  refine zx_istore_n (nn := 2) (lv' := [(2, zi 0), (0, zr 3), (1, zr 1)]) dX11_over_1 rfl (by decide) rfl rfl ?_
  refine zx_lv (lv' := [(0, zr 3), (1, zr 1), (2, zi 0)]) [1, 2, 0] rfl ?_
  refine zx_while (τ := Nat × zM) (fun t_ => 521 - t_.1) (fun t_ => t_.1 ≤ 521 ∧ zJ [1] μ t_.2 ∧ ∀ j, j < t_.1 → t_.2 1 j = μ 3 j) (fun t_ => [(0, zr 3), (1, zr 1), (2, zi (nI t_.1))]) (fun t_ => t_.2) (t0 := (0, μ)) (show 0 ≤ 521 ∧ zJ [1] μ μ ∧ ∀ j, j < 0 → μ 1 j = μ 3 j from ⟨Nat.zero_le _, zJ.rf, fun j h => absurd h (by omega)⟩) ?_
  rintro ⟨k, μ1⟩ hI ih2
  replace hI : k ≤ 521 ∧ zJ [1] μ μ1 ∧ ∀ j, j < k → μ1 1 j = μ 3 j := hI
  show zX shR σ 0 MX11_over 2 [(0, zr 3), (1, zr 1), (2, zi (nI k))] [] μ1 _
  refine zx_iload_n (k := 2) (nn := 3) dX11_over_2 rfl rfl rfl ?_
  refine zx_sipush (v := 521) (nn := 6) rfl dX11_over_3 rfl ?_
  refine zx_icmp_ge (tgt := 21) (nn := 9) dX11_over_6 (by decide) rfl (fun h6 => ?_) (fun h6 => ?_)
  · refine zx_vret rfl dX11_over_21 ?_
    have hge := nI_le_le (b := 521) h6 (by omega)
    exact ⟨rfl, hI.2.1, fun j hj => hI.2.2 j (by omega)⟩
  · have hlt : k < 521 := nI_nle_lt (b := 521) h6 (by omega)
    refine zx_aload_n (k := 1) (nn := 10) dX11_over_9 rfl rfl rfl ?_
    refine zx_iload_n (k := 2) (nn := 11) dX11_over_10 rfl rfl rfl ?_
    refine zx_aload_n (k := 0) (nn := 12) dX11_over_11 rfl rfl rfl ?_
    refine zx_iload_n (k := 2) (nn := 13) dX11_over_12 rfl rfl rfl ?_
    refine zx_iald_n (j := k) (nn := 14) rfl hlt (by decide) dX11_over_13 rfl ?_
    refine zx_iast_n (j := k) (nn := 15) rfl hlt (by decide) dX11_over_14 rfl ?_
    refine zx_iinc (k := 2) (v := nI (k + 1)) (lv' := [(2, zi (nI (k + 1))), (0, zr 3), (1, zr 1)]) (nn := 18) dX11_over_15 rfl (nI_1 k) (by decide) rfl rfl ?_
    refine zx_goto (tgt := 2) dX11_over_18 (by decide) ?_
    refine zx_lv (lv' := [(0, zr 3), (1, zr 1), (2, zi (nI (k + 1)))]) [1, 2, 0] rfl ?_
    exact ih2 (k + 1, zp μ1 1 k (μ1 3 k)) (show (k + 1) ≤ 521 ∧ zJ [1] μ (zp μ1 1 k (μ1 3 k)) ∧ ∀ j, j < (k + 1) → (zp μ1 1 k (μ1 3 k)) 1 j = μ 3 j from ⟨by omega, hI.2.1.p (by decide), fun j hj => by rw [zp_eq]; exact (Decidable.em (j = k)).elim (fun e => by subst e; rw [pk_us, hI.2.1 3 (by decide)]) (fun e => by rw [pk_un e]; exact hI.2.2 j (by omega))⟩) (by show 521 - (k + 1) < 521 - k; omega)
set_option maxHeartbeats 4000000 in
set_option maxRecDepth 100000 in
theorem eX11_over_1_2 (σ : zG) (μ : zM) : zMet shR σ 0 MX11_over yX11_over [zr 1, zr 2] μ (fun rr μ' => rr = none ∧ zJ [2] μ μ' ∧ ∀ j, j < 521 → μ' 2 j = μ 1 j) := by
  refine zmetF (by decide +kernel) rfl (Nat.le_of_ble_eq_true rfl) ?_
  show zX shR σ 0 MX11_over 0 [(0, zr 1), (1, zr 2)] [] μ _
  refine zx_iconst (v := 0) (nn := 1) rfl dX11_over_0 rfl ?_
  refine zx_istore_n (nn := 2) (lv' := [(2, zi 0), (0, zr 1), (1, zr 2)]) dX11_over_1 rfl (by decide) rfl rfl ?_
  refine zx_lv (lv' := [(0, zr 1), (1, zr 2), (2, zi 0)]) [1, 2, 0] rfl ?_
  refine zx_while (τ := Nat × zM) (fun t_ => 521 - t_.1) (fun t_ => t_.1 ≤ 521 ∧ zJ [2] μ t_.2 ∧ ∀ j, j < t_.1 → t_.2 2 j = μ 1 j) (fun t_ => [(0, zr 1), (1, zr 2), (2, zi (nI t_.1))]) (fun t_ => t_.2) (t0 := (0, μ)) (show 0 ≤ 521 ∧ zJ [2] μ μ ∧ ∀ j, j < 0 → μ 2 j = μ 1 j from ⟨Nat.zero_le _, zJ.rf, fun j h => absurd h (by omega)⟩) ?_
  rintro ⟨k, μ1⟩ hI ih2
  replace hI : k ≤ 521 ∧ zJ [2] μ μ1 ∧ ∀ j, j < k → μ1 2 j = μ 1 j := hI
  show zX shR σ 0 MX11_over 2 [(0, zr 1), (1, zr 2), (2, zi (nI k))] [] μ1 _
  refine zx_iload_n (k := 2) (nn := 3) dX11_over_2 rfl rfl rfl ?_
  refine zx_sipush (v := 521) (nn := 6) rfl dX11_over_3 rfl ?_
  refine zx_icmp_ge (tgt := 21) (nn := 9) dX11_over_6 (by decide) rfl (fun h6 => ?_) (fun h6 => ?_)
  · refine zx_vret rfl dX11_over_21 ?_
    have hge := nI_le_le (b := 521) h6 (by omega)
    exact ⟨rfl, hI.2.1, fun j hj => hI.2.2 j (by omega)⟩
  · have hlt : k < 521 := nI_nle_lt (b := 521) h6 (by omega)
    refine zx_aload_n (k := 1) (nn := 10) dX11_over_9 rfl rfl rfl ?_
    refine zx_iload_n (k := 2) (nn := 11) dX11_over_10 rfl rfl rfl ?_
    refine zx_aload_n (k := 0) (nn := 12) dX11_over_11 rfl rfl rfl ?_
    refine zx_iload_n (k := 2) (nn := 13) dX11_over_12 rfl rfl rfl ?_
    refine zx_iald_n (j := k) (nn := 14) rfl hlt (by decide) dX11_over_13 rfl ?_
    refine zx_iast_n (j := k) (nn := 15) rfl hlt (by decide) dX11_over_14 rfl ?_
    refine zx_iinc (k := 2) (v := nI (k + 1)) (lv' := [(2, zi (nI (k + 1))), (0, zr 1), (1, zr 2)]) (nn := 18) dX11_over_15 rfl (nI_1 k) (by decide) rfl rfl ?_
    refine zx_goto (tgt := 2) dX11_over_18 (by decide) ?_
    refine zx_lv (lv' := [(0, zr 1), (1, zr 2), (2, zi (nI (k + 1)))]) [1, 2, 0] rfl ?_
    exact ih2 (k + 1, zp μ1 2 k (μ1 1 k)) (show (k + 1) ≤ 521 ∧ zJ [2] μ (zp μ1 2 k (μ1 1 k)) ∧ ∀ j, j < (k + 1) → (zp μ1 2 k (μ1 1 k)) 2 j = μ 1 j from ⟨by omega, hI.2.1.p (by decide), fun j hj => by rw [zp_eq]; exact (Decidable.em (j = k)).elim (fun e => by subst e; rw [pk_us, hI.2.1 1 (by decide)]) (fun e => by rw [pk_un e]; exact hI.2.2 j (by omega))⟩) (by show 521 - (k + 1) < 521 - k; omega)
set_option maxHeartbeats 4000000 in
set_option maxRecDepth 100000 in
theorem eX11_over_2_1 (σ : zG) (μ : zM) : zMet shR σ 0 MX11_over yX11_over [zr 2, zr 1] μ (fun rr μ' => rr = none ∧ zJ [1] μ μ' ∧ ∀ j, j < 521 → μ' 1 j = μ 2 j) := by
  refine zmetF (by decide +kernel) rfl (Nat.le_of_ble_eq_true rfl) ?_
  show zX shR σ 0 MX11_over 0 [(0, zr 2), (1, zr 1)] [] μ _
  refine zx_iconst (v := 0) (nn := 1) rfl dX11_over_0 rfl ?_
  refine zx_istore_n (nn := 2) (lv' := [(2, zi 0), (0, zr 2), (1, zr 1)]) dX11_over_1 rfl (by decide) rfl rfl ?_
  refine zx_lv (lv' := [(0, zr 2), (1, zr 1), (2, zi 0)]) [1, 2, 0] rfl ?_
  refine zx_while (τ := Nat × zM) (fun t_ => 521 - t_.1) (fun t_ => t_.1 ≤ 521 ∧ zJ [1] μ t_.2 ∧ ∀ j, j < t_.1 → t_.2 1 j = μ 2 j) (fun t_ => [(0, zr 2), (1, zr 1), (2, zi (nI t_.1))]) (fun t_ => t_.2) (t0 := (0, μ)) (show 0 ≤ 521 ∧ zJ [1] μ μ ∧ ∀ j, j < 0 → μ 1 j = μ 2 j from ⟨Nat.zero_le _, zJ.rf, fun j h => absurd h (by omega)⟩) ?_
  rintro ⟨k, μ1⟩ hI ih2
  replace hI : k ≤ 521 ∧ zJ [1] μ μ1 ∧ ∀ j, j < k → μ1 1 j = μ 2 j := hI
  show zX shR σ 0 MX11_over 2 [(0, zr 2), (1, zr 1), (2, zi (nI k))] [] μ1 _
  refine zx_iload_n (k := 2) (nn := 3) dX11_over_2 rfl rfl rfl ?_
  refine zx_sipush (v := 521) (nn := 6) rfl dX11_over_3 rfl ?_
  refine zx_icmp_ge (tgt := 21) (nn := 9) dX11_over_6 (by decide) rfl (fun h6 => ?_) (fun h6 => ?_)
  · refine zx_vret rfl dX11_over_21 ?_
    have hge := nI_le_le (b := 521) h6 (by omega)
    exact ⟨rfl, hI.2.1, fun j hj => hI.2.2 j (by omega)⟩
  · have hlt : k < 521 := nI_nle_lt (b := 521) h6 (by omega)
    refine zx_aload_n (k := 1) (nn := 10) dX11_over_9 rfl rfl rfl ?_
    refine zx_iload_n (k := 2) (nn := 11) dX11_over_10 rfl rfl rfl ?_
    refine zx_aload_n (k := 0) (nn := 12) dX11_over_11 rfl rfl rfl ?_
    refine zx_iload_n (k := 2) (nn := 13) dX11_over_12 rfl rfl rfl ?_
    refine zx_iald_n (j := k) (nn := 14) rfl hlt (by decide) dX11_over_13 rfl ?_
    refine zx_iast_n (j := k) (nn := 15) rfl hlt (by decide) dX11_over_14 rfl ?_
    refine zx_iinc (k := 2) (v := nI (k + 1)) (lv' := [(2, zi (nI (k + 1))), (0, zr 2), (1, zr 1)]) (nn := 18) dX11_over_15 rfl (nI_1 k) (by decide) rfl rfl ?_
    refine zx_goto (tgt := 2) dX11_over_18 (by decide) ?_
    refine zx_lv (lv' := [(0, zr 2), (1, zr 1), (2, zi (nI (k + 1)))]) [1, 2, 0] rfl ?_
    exact ih2 (k + 1, zp μ1 1 k (μ1 2 k)) (show (k + 1) ≤ 521 ∧ zJ [1] μ (zp μ1 1 k (μ1 2 k)) ∧ ∀ j, j < (k + 1) → (zp μ1 1 k (μ1 2 k)) 1 j = μ 2 j from ⟨by omega, hI.2.1.p (by decide), fun j hj => by rw [zp_eq]; exact (Decidable.em (j = k)).elim (fun e => by subst e; rw [pk_us, hI.2.1 2 (by decide)]) (fun e => by rw [pk_un e]; exact hI.2.2 j (by omega))⟩) (by show 521 - (k + 1) < 521 - k; omega)
set_option maxHeartbeats 4000000 in
set_option maxRecDepth 100000 in
theorem eX11_isLamp_0 (σ : zG) (μ : zM) (l : Int32) (ok : pOK (rS 1 μ)) : zMet shR σ 1 MX11_isLamp yX11_isLamp [zr 0, zi l] μ (fun rr μ' => rr = some (zi (zb (pHas ((rS 1 μ) 0) l))) ∧ μ' = μ) := by
  refine zmetF (by decide +kernel) rfl (Nat.le_of_ble_eq_true rfl) ?_
  show zX shR σ 1 MX11_isLamp 0 [(0, zr 0), (1, zi l)] [] μ _
  refine zx_iload_n (k := 1) (nn := 1) dX11_isLamp_0 rfl rfl rfl ?_
  refine zx_i2l (nn := 2) dX11_isLamp_1 rfl ?_
  refine zx_lconst (v := 0) (nn := 3) rfl dX11_isLamp_2 rfl ?_
  refine zx_aload_n (k := 0) (nn := 4) dX11_isLamp_3 rfl rfl rfl ?_
  refine zx_getR (q := 1) (nn := 7) flX11_9 rfl rfl dX11_isLamp_4 rfl ?_
  refine zx_iconst (v := 0) (nn := 8) rfl dX11_isLamp_7 rfl ?_
  refine zx_iald_n (j := 0) (nn := 9) rfl (by omega) (by decide) dX11_isLamp_8 rfl ?_
  refine zx_iconst (v := 1) (nn := 10) rfl dX11_isLamp_9 rfl ?_
  refine zx_isub (nn := 11) dX11_isLamp_10 rfl ?_
  refine zx_i2l (nn := 12) dX11_isLamp_11 rfl ?_
  refine zx_callSf (nn := 15) (d' := 0) (as := [zj l.toInt64, zj 0, zj (((μ 1 0) - 1).toInt64)]) (rest := []) (n := 3) (eX11_isIn σ μ l.toInt64 0 (((μ 1 0) - 1).toInt64)  ) kX11_isIn mlX11_70 (by decide) rfl rfl (Nat.le_of_ble_eq_true rfl) dX11_isLamp_12 rfl ?_
  show zX shR σ 1 MX11_isLamp 15 [(0, zr 0), (1, zi l)] [zi (zb (decide (0 ≤ l.toInt64) && decide (l.toInt64 ≤ (((μ 1 0) - 1).toInt64))))] μ _
  refine zx_zret rfl (zb_nar _) dX11_isLamp_15 ?_
  refine ⟨congrArg (fun x => some (zi x)) (congrArg zb ?_), rfl⟩
  rw [(ok_L ok).1, show μ 1 0 = nI (pL (rS 1 μ)) from (ok_L ok).1]
  exact has_r _ (by have := (ok_L ok).2; omega) l
set_option maxHeartbeats 4000000 in
set_option maxRecDepth 100000 in
theorem eX11_isBeat_0 (σ : zG) (μ : zM) (l : Int32) (ok : pOK (rS 1 μ)) : zMet shR σ 1 MX11_isBeat yX11_isBeat [zr 0, zi l] μ (fun rr μ' => rr = some (zi (zb (pHas ((rS 1 μ) 1) l))) ∧ μ' = μ) := by
  refine zmetF (by decide +kernel) rfl (Nat.le_of_ble_eq_true rfl) ?_
  show zX shR σ 1 MX11_isBeat 0 [(0, zr 0), (1, zi l)] [] μ _
  refine zx_iload_n (k := 1) (nn := 1) dX11_isBeat_0 rfl rfl rfl ?_
  refine zx_i2l (nn := 2) dX11_isBeat_1 rfl ?_
  refine zx_lconst (v := 0) (nn := 3) rfl dX11_isBeat_2 rfl ?_
  refine zx_aload_n (k := 0) (nn := 4) dX11_isBeat_3 rfl rfl rfl ?_
  refine zx_getR (q := 1) (nn := 7) flX11_9 rfl rfl dX11_isBeat_4 rfl ?_
  refine zx_iconst (v := 1) (nn := 8) rfl dX11_isBeat_7 rfl ?_
  refine zx_iald_n (j := 1) (nn := 9) rfl (by omega) (by decide) dX11_isBeat_8 rfl ?_
  refine zx_iconst (v := 1) (nn := 10) rfl dX11_isBeat_9 rfl ?_
  refine zx_isub (nn := 11) dX11_isBeat_10 rfl ?_
  refine zx_i2l (nn := 12) dX11_isBeat_11 rfl ?_
  refine zx_callSf (nn := 15) (d' := 0) (as := [zj l.toInt64, zj 0, zj (((μ 1 1) - 1).toInt64)]) (rest := []) (n := 3) (eX11_isIn σ μ l.toInt64 0 (((μ 1 1) - 1).toInt64)  ) kX11_isIn mlX11_70 (by decide) rfl rfl (Nat.le_of_ble_eq_true rfl) dX11_isBeat_12 rfl ?_
  show zX shR σ 1 MX11_isBeat 15 [(0, zr 0), (1, zi l)] [zi (zb (decide (0 ≤ l.toInt64) && decide (l.toInt64 ≤ (((μ 1 1) - 1).toInt64))))] μ _
  refine zx_zret rfl (zb_nar _) dX11_isBeat_15 ?_
  refine ⟨congrArg (fun x => some (zi x)) (congrArg zb ?_), rfl⟩
  rw [(ok_B ok).1, show μ 1 1 = nI (pB (rS 1 μ)) from (ok_B ok).1]
  exact has_r _ (by have := (ok_B ok).2; omega) l
set_option maxHeartbeats 4000000 in
set_option maxRecDepth 100000 in
theorem eX11_isTold (σ : zG) (μ : zM) (w : Int32) (v : Int32) : zMet shR σ 1 MX11_isTold yX11_isTold [zi w, zi v] μ (fun rr μ' => rr = some (zi (zb (pTold w v))) ∧ μ' = μ) := by
  refine zmetF (by decide +kernel) rfl (Nat.le_of_ble_eq_true rfl) ?_
  show zX shR σ 1 MX11_isTold 0 [(0, zi w), (1, zi v)] [] μ _
  refine zx_iload_n (k := 0) (nn := 1) dX11_isTold_0 rfl rfl rfl ?_
  refine zx_iconst (v := 1) (nn := 2) rfl dX11_isTold_1 rfl ?_
  refine zx_icmp_ne (tgt := 17) (nn := 5) dX11_isTold_2 (by decide) rfl (fun h2 => ?_) (fun h2 => ?_)
  · refine zx_iload_n (k := 0) (nn := 18) dX11_isTold_17 rfl rfl rfl ?_
    refine zx_iconst (v := 2) (nn := 19) rfl dX11_isTold_18 rfl ?_
    refine zx_icmp_ne (tgt := 34) (nn := 22) dX11_isTold_19 (by decide) rfl (fun h19 => ?_) (fun h19 => ?_)
    · refine zx_iload_n (k := 0) (nn := 35) dX11_isTold_34 rfl rfl rfl ?_
      refine zx_iconst (v := 3) (nn := 36) rfl dX11_isTold_35 rfl ?_
      refine zx_icmp_ne (tgt := 55) (nn := 39) dX11_isTold_36 (by decide) rfl (fun h36 => ?_) (fun h36 => ?_)
      · refine zx_iconst (v := 0) (nn := 56) rfl dX11_isTold_55 rfl ?_
        refine zx_zret rfl rfl dX11_isTold_56 ?_
        refine ⟨congrArg (fun x => some (zi x)) ?_, rfl⟩
        simp [pTold, zb, h2, h19, h36]
      · refine zx_iload_n (k := 1) (nn := 40) dX11_isTold_39 rfl rfl rfl ?_
        refine zx_i2l (nn := 41) dX11_isTold_40 rfl ?_
        refine zx_lconst (v := 1) (nn := 42) rfl dX11_isTold_41 rfl ?_
        refine zx_ldc2 (v := 9) (nn := 45) cwX11_76 dX11_isTold_42 rfl ?_
        refine zx_callSf (nn := 48) (d' := 0) (as := [zj v.toInt64, zj 1, zj 9]) (rest := []) (n := 3) (eX11_isIn σ μ v.toInt64 1 9  ) kX11_isIn mlX11_70 (by decide) rfl rfl (Nat.le_of_ble_eq_true rfl) dX11_isTold_45 rfl ?_
        show zX shR σ 1 MX11_isTold 48 [(0, zi w), (1, zi v)] [zi (zb (decide (1 ≤ v.toInt64) && decide (v.toInt64 ≤ 9)))] μ _
        rw [show zb (decide (1 ≤ v.toInt64) && decide (v.toInt64 ≤ 9)) = zb (pIn v 1 9) from congrArg zb (in_r v 1 9)]
        show zX shR σ 1 MX11_isTold 48 [(0, zi w), (1, zi v)] [zi (zb (pIn v 1 9))] μ _
        refine zx_ifb_eq (tgt := 55) (nn := 51) dX11_isTold_48 (by decide) rfl (fun h48 => ?_) (fun h48 => ?_)
        · refine zx_iconst (v := 0) (nn := 56) rfl dX11_isTold_55 rfl ?_
          refine zx_zret rfl rfl dX11_isTold_56 ?_
          refine ⟨congrArg (fun x => some (zi x)) ?_, rfl⟩
          simp [pTold, zb, h2, h19, h36, h48]
        · refine zx_iconst (v := 1) (nn := 52) rfl dX11_isTold_51 rfl ?_
          refine zx_goto (tgt := 56) dX11_isTold_52 (by decide) ?_
          refine zx_zret rfl rfl dX11_isTold_56 ?_
          refine ⟨congrArg (fun x => some (zi x)) ?_, rfl⟩
          simp [pTold, zb, h2, h19, h36, h48]
    · refine zx_iload_n (k := 1) (nn := 23) dX11_isTold_22 rfl rfl rfl ?_
      refine zx_i2l (nn := 24) dX11_isTold_23 rfl ?_
      refine zx_lconst (v := 0) (nn := 25) rfl dX11_isTold_24 rfl ?_
      refine zx_ldc2 (v := 9) (nn := 28) cwX11_76 dX11_isTold_25 rfl ?_
      refine zx_callSf (nn := 31) (d' := 0) (as := [zj v.toInt64, zj 0, zj 9]) (rest := []) (n := 3) (eX11_isIn σ μ v.toInt64 0 9  ) kX11_isIn mlX11_70 (by decide) rfl rfl (Nat.le_of_ble_eq_true rfl) dX11_isTold_28 rfl ?_
      show zX shR σ 1 MX11_isTold 31 [(0, zi w), (1, zi v)] [zi (zb (decide (0 ≤ v.toInt64) && decide (v.toInt64 ≤ 9)))] μ _
      rw [show zb (decide (0 ≤ v.toInt64) && decide (v.toInt64 ≤ 9)) = zb (pIn v 0 9) from congrArg zb (in_r v 0 9)]
      show zX shR σ 1 MX11_isTold 31 [(0, zi w), (1, zi v)] [zi (zb (pIn v 0 9))] μ _
      refine zx_goto (tgt := 56) dX11_isTold_31 (by decide) ?_
      refine zx_zret rfl (zb_nar _) dX11_isTold_56 ?_
      refine ⟨congrArg (fun x => some (zi x)) ?_, rfl⟩
      simp [pTold, zb, h2, h19]
  · refine zx_iload_n (k := 1) (nn := 6) dX11_isTold_5 rfl rfl rfl ?_
    refine zx_i2l (nn := 7) dX11_isTold_6 rfl ?_
    refine zx_lconst (v := 0) (nn := 8) rfl dX11_isTold_7 rfl ?_
    refine zx_ldc2 (v := 40) (nn := 11) cwX11_74 dX11_isTold_8 rfl ?_
    refine zx_callSf (nn := 14) (d' := 0) (as := [zj v.toInt64, zj 0, zj 40]) (rest := []) (n := 3) (eX11_isIn σ μ v.toInt64 0 40  ) kX11_isIn mlX11_70 (by decide) rfl rfl (Nat.le_of_ble_eq_true rfl) dX11_isTold_11 rfl ?_
    show zX shR σ 1 MX11_isTold 14 [(0, zi w), (1, zi v)] [zi (zb (decide (0 ≤ v.toInt64) && decide (v.toInt64 ≤ 40)))] μ _
    rw [show zb (decide (0 ≤ v.toInt64) && decide (v.toInt64 ≤ 40)) = zb (pIn v 0 40) from congrArg zb (in_r v 0 40)]
    show zX shR σ 1 MX11_isTold 14 [(0, zi w), (1, zi v)] [zi (zb (pIn v 0 40))] μ _
    refine zx_goto (tgt := 56) dX11_isTold_14 (by decide) ?_
    refine zx_zret rfl (zb_nar _) dX11_isTold_56 ?_
    refine ⟨congrArg (fun x => some (zi x)) ?_, rfl⟩
    simp [pTold, zb, h2]
set_option maxHeartbeats 4000000 in
set_option maxRecDepth 100000 in
theorem eX11_seen_0 (σ : zG) (μ : zM) (ok : pOK (rS 1 μ)) : zMet shR σ 1 MX11_seen yX11_seen [zr 0] μ (fun rr μ' => rr = some (zi (pSeen (rS 1 μ))) ∧ μ' = μ) := by
  refine zmetF (by decide +kernel) rfl (Nat.le_of_ble_eq_true rfl) ?_
  show zX shR σ 1 MX11_seen 0 [(0, zr 0)] [] μ _
  refine zx_aload_n (k := 0) (nn := 1) dX11_seen_0 rfl rfl rfl ?_
  refine zx_getR (q := 1) (nn := 4) flX11_9 rfl rfl dX11_seen_1 rfl ?_
  refine zx_iconst (v := 1) (nn := 5) rfl dX11_seen_4 rfl ?_
  refine zx_iald_n (j := 1) (nn := 6) rfl (by omega) (by decide) dX11_seen_5 rfl ?_
  refine zx_if_ne (tgt := 13) (nn := 9) dX11_seen_6 (by decide) rfl (fun h6 => ?_) (fun h6 => ?_)
  · refine zx_aload_n (k := 0) (nn := 14) dX11_seen_13 rfl rfl rfl ?_
    refine zx_getR (q := 1) (nn := 17) flX11_9 rfl rfl dX11_seen_14 rfl ?_
    refine zx_bipush (v := 31) (nn := 19) rfl dX11_seen_17 rfl ?_
    refine zx_aload_n (k := 0) (nn := 20) dX11_seen_19 rfl rfl rfl ?_
    refine zx_callVf (nn := 23) (k := 0) (d' := 0) (as := []) (rest := [zi 31, zr 1]) (n := 0) (eX11_seenAt_0 σ μ   (by omega)) kX11_seenAt mlX11_109 rfl rfl rfl (by decide) rfl rfl (Nat.le_of_ble_eq_true rfl) dX11_seen_20 rfl ?_
    show zX shR σ 1 MX11_seen 23 [(0, zr 0)] [zi (pSeenAt (rS 1 μ)), zi 31, zr 1] μ _
    refine zx_iadd (nn := 24) dX11_seen_23 rfl ?_
    rw [show 31 + (pSeenAt (rS 1 μ)) = nI (31 + (pb (rS 1 μ) - 1)) from by rw [seenN ok, show (31 : Int32) = nI 31 from rfl, nI_add]]
    show zX shR σ 1 MX11_seen 24 [(0, zr 0)] [zi (nI (31 + (pb (rS 1 μ) - 1))), zr 1] μ _
    refine zx_iald_n (j := 31 + (pb (rS 1 μ) - 1)) (nn := 25) rfl (by have := (ok_b ok).2; have := (ok_B ok).2; omega) (by decide) dX11_seen_24 rfl ?_
    refine zx_iret rfl dX11_seen_25 ?_
    refine ⟨congrArg (fun x => some (zi x)) ?_, rfl⟩
    rw [seenE ok (show ¬ rS 1 μ 1 = 0 from h6)]
    exact (rS_i (by have := (ok_b ok).2; have := (ok_B ok).2; omega) (by omega) (by omega)).symm
  · refine zx_iconst (v := 0) (nn := 10) rfl dX11_seen_9 rfl ?_
    refine zx_goto (tgt := 25) dX11_seen_10 (by decide) ?_
    refine zx_iret rfl dX11_seen_25 ?_
    refine ⟨congrArg (fun x => some (zi x)) ?_, rfl⟩
    unfold pSeen pNear
    rw [if_pos (show rS 1 μ 1 = 0 from h6)]
set_option maxHeartbeats 4000000 in
set_option maxRecDepth 100000 in
theorem eX11_danceAt_0 (σ : zG) (μ : zM) (b : Int32) (ok : pOK (rS 1 μ)) : zMet shR σ 1 MX11_danceAt yX11_danceAt [zr 0, zi b] μ (fun rr μ' => rr = some (zi (pNear (rS 1 μ) b)) ∧ μ' = μ) := by
  refine zmetF (by decide +kernel) rfl (Nat.le_of_ble_eq_true rfl) ?_
  show zX shR σ 1 MX11_danceAt 0 [(0, zr 0), (1, zi b)] [] μ _
  refine zx_aload_n (k := 0) (nn := 1) dX11_danceAt_0 rfl rfl rfl ?_
  refine zx_getR (q := 1) (nn := 4) flX11_9 rfl rfl dX11_danceAt_1 rfl ?_
  refine zx_iconst (v := 1) (nn := 5) rfl dX11_danceAt_4 rfl ?_
  refine zx_iald_n (j := 1) (nn := 6) rfl (by omega) (by decide) dX11_danceAt_5 rfl ?_
  refine zx_if_ne (tgt := 13) (nn := 9) dX11_danceAt_6 (by decide) rfl (fun h6 => ?_) (fun h6 => ?_)
  · obtain ⟨j, hj, hj1, hj2⟩ := nearE ok (show ¬ rS 1 μ 1 = 0 from h6) b
    refine zx_aload_n (k := 0) (nn := 14) dX11_danceAt_13 rfl rfl rfl ?_
    refine zx_getR (q := 1) (nn := 17) flX11_9 rfl rfl dX11_danceAt_14 rfl ?_
    refine zx_bipush (v := 31) (nn := 19) rfl dX11_danceAt_17 rfl ?_
    refine zx_iload_n (k := 1) (nn := 20) dX11_danceAt_19 rfl rfl rfl ?_
    refine zx_iconst (v := 0) (nn := 21) rfl dX11_danceAt_20 rfl ?_
    refine zx_aload_n (k := 0) (nn := 22) dX11_danceAt_21 rfl rfl rfl ?_
    refine zx_getR (q := 1) (nn := 25) flX11_9 rfl rfl dX11_danceAt_22 rfl ?_
    refine zx_iconst (v := 1) (nn := 26) rfl dX11_danceAt_25 rfl ?_
    refine zx_iald_n (j := 1) (nn := 27) rfl (by omega) (by decide) dX11_danceAt_26 rfl ?_
    refine zx_iconst (v := 1) (nn := 28) rfl dX11_danceAt_27 rfl ?_
    refine zx_isub (nn := 29) dX11_danceAt_28 rfl ?_
    refine zx_callSf (nn := 32) (d' := 0) (as := [zi b, zi 0, zi ((μ 1 1) - 1)]) (rest := [zi 31, zr 1]) (n := 3) (eX11_within σ μ b 0 ((μ 1 1) - 1)  ) kX11_within mlX11_113 (by decide) rfl rfl (Nat.le_of_ble_eq_true rfl) dX11_danceAt_29 rfl ?_
    show zX shR σ 1 MX11_danceAt 32 [(0, zr 0), (1, zi b)] [zi (pW b 0 ((μ 1 1) - 1)), zi 31, zr 1] μ _
    rw [show pW b 0 ((μ 1 1) - 1) = nI j from hj1]
    show zX shR σ 1 MX11_danceAt 32 [(0, zr 0), (1, zi b)] [zi (nI j), zi 31, zr 1] μ _
    refine zx_iadd (nn := 33) dX11_danceAt_32 rfl ?_
    rw [show 31 + (nI j) = nI (31 + j) from by rw [show (31 : Int32) = nI 31 from rfl, nI_add]]
    show zX shR σ 1 MX11_danceAt 33 [(0, zr 0), (1, zi b)] [zi (nI (31 + j)), zr 1] μ _
    refine zx_iald_n (j := 31 + j) (nn := 34) rfl (by have := (ok_B ok).2; omega) (by decide) dX11_danceAt_33 rfl ?_
    refine zx_iret rfl dX11_danceAt_34 ?_
    refine ⟨congrArg (fun x => some (zi x)) ?_, rfl⟩
    rw [hj2]
    exact (rS_i (by have := (ok_B ok).2; omega) (by omega) (by omega)).symm
  · refine zx_iconst (v := 0) (nn := 10) rfl dX11_danceAt_9 rfl ?_
    refine zx_goto (tgt := 34) dX11_danceAt_10 (by decide) ?_
    refine zx_iret rfl dX11_danceAt_34 ?_
    refine ⟨congrArg (fun x => some (zi x)) ?_, rfl⟩
    unfold pNear
    rw [if_pos (show rS 1 μ 1 = 0 from h6)]
