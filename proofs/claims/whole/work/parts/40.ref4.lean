theorem sub_lt {a c : Int32} (ha : 0 ≤ a ∧ a ≤ 40) (hc : 0 ≤ c ∧ c ≤ 40) : (a - c < 0 ↔ a < c) ∧ (0 < a - c ↔ c < a) := by
  rw [Int32.le_iff_toInt_le, Int32.le_iff_toInt_le, zt0, zt40] at ha hc
  have hd : (a - c).toInt = a.toInt - c.toInt := by rw [Int32.toInt_sub]; exact Int.bmod_eq_of_le (by omega) (by omega)
  rw [Int32.lt_iff_toInt_lt, Int32.lt_iff_toInt_lt, Int32.lt_iff_toInt_lt, Int32.lt_iff_toInt_lt, hd, zt0]
  omega
theorem dec_eq {p q : Prop} {a : Decidable p} {b : Decidable q} (h : p ↔ q) : @decide p a = @decide q b := by
  by_cases x : p
  · rw [@decide_eq_true p a x, @decide_eq_true q b (h.mp x)]
  · rw [@decide_eq_false p a x, @decide_eq_false q b (fun y => x (h.mpr y))]
theorem pCross_r {ρ : pR} {s : Nat → Int32} {l k m : Nat} (h1 : pAB (pRun ρ s m)) (h2 : pAB (pRun ρ s (m + 1))) (hl1 : l < pL (pRun ρ s m)) (hk1 : k < pL (pRun ρ s m)) (hl2 : l < pL (pRun ρ s (m + 1))) (hk2 : k < pL (pRun ρ s (m + 1))) :
    pCrossAt ρ s l k m = ((decide (pRun ρ s m (7 + 4 * l + 1) - pRun ρ s m (7 + 4 * k + 1) < 0) && decide (0 < pRun ρ s (m + 1) (7 + 4 * l + 1) - pRun ρ s (m + 1) (7 + 4 * k + 1))) || (decide (0 < pRun ρ s m (7 + 4 * l + 1) - pRun ρ s m (7 + 4 * k + 1)) && decide (pRun ρ s (m + 1) (7 + 4 * l + 1) - pRun ρ s (m + 1) (7 + 4 * k + 1) < 0))) := by
  have q1 := sub_lt (h1.1 l hl1) (h1.1 k hk1)
  have q2 := sub_lt (h2.1 l hl2) (h2.1 k hk2)
  unfold pCrossAt
  dsimp only
  rw [dec_eq q1.1, dec_eq q1.2, dec_eq q2.1, dec_eq q2.2]
theorem nI_ne3 {n : Nat} (h : n < 2 ^ 31) : ¬ nI n = -3 := fun q => by
  have h1 := nI_pos' h
  rw [q] at h1
  exact absurd h1 (by decide)
set_option maxHeartbeats 4000000 in
set_option maxRecDepth 100000 in
theorem eX11_saves_7 (σ : zG) (μ : zM) : zMet shR σ 0 MX11_saves yX11_saves [zr 0, zr 7] μ (fun rr μ' => rr = none ∧ zJ [7] μ μ' ∧ rSav (μ 1) (μ' 7)) := by
  refine zmetF (by decide +kernel) rfl (Nat.le_of_ble_eq_true rfl) ?_
  show zX shR σ 0 MX11_saves 0 [(0, zr 0), (1, zr 7)] [] μ _
  refine zx_iconst (v := 0) (nn := 1) rfl dX11_saves_0 rfl ?_
  refine zx_istore_n (nn := 2) (lv' := [(2, zi 0), (0, zr 0), (1, zr 7)]) dX11_saves_1 rfl (by decide) rfl rfl ?_
  refine zx_lv (lv' := [(0, zr 0), (1, zr 7), (2, zi 0)]) [1, 2, 0] rfl ?_
  refine zx_while (τ := Nat × zM) (fun t_ => 6 - t_.1) (fun t_ => t_.1 ≤ 6 ∧ zJ [7] μ t_.2 ∧ ∀ j, j < t_.1 → t_.2 7 j = μ 1 (7 + 4 * j + 1)) (fun t_ => [(0, zr 0), (1, zr 7), (2, zi (nI t_.1))]) (fun t_ => t_.2) (t0 := (0, μ)) (show 0 ≤ 6 ∧ zJ [7] μ μ ∧ ∀ j, j < 0 → μ 7 j = μ 1 (7 + 4 * j + 1) from ⟨Nat.zero_le _, zJ.rf, fun j hj => absurd hj (by omega)⟩) ?_
  rintro ⟨k, μ1⟩ hI ih2
  replace hI : k ≤ 6 ∧ zJ [7] μ μ1 ∧ ∀ j, j < k → μ1 7 j = μ 1 (7 + 4 * j + 1) := hI
  show zX shR σ 0 MX11_saves 2 [(0, zr 0), (1, zr 7), (2, zi (nI k))] [] μ1 _
  obtain ⟨hr1, hr2, hr3⟩ := hI
  have e1 : μ1 1 = μ 1 := hr2 1 (by decide)
  refine zx_iload_n (k := 2) (nn := 3) dX11_saves_2 rfl rfl rfl ?_
  refine zx_bipush (v := 6) (nn := 5) rfl dX11_saves_3 rfl ?_
  refine zx_icmp_ge (tgt := 30) (nn := 8) dX11_saves_5 (by decide) rfl (fun h5 => ?_) (fun h5 => ?_)
  · refine zx_aload_n (k := 1) (nn := 31) dX11_saves_30 rfl rfl rfl ?_
    refine zx_bipush (v := 6) (nn := 33) rfl dX11_saves_31 rfl ?_
    refine zx_aload_n (k := 0) (nn := 34) dX11_saves_33 rfl rfl rfl ?_
    refine zx_getR (q := 1) (nn := 37) flX11_9 rfl rfl dX11_saves_34 rfl ?_
    refine zx_iconst (v := 2) (nn := 38) rfl dX11_saves_37 rfl ?_
    refine zx_iald_n (j := 2) (nn := 39) rfl (by omega) (by decide) dX11_saves_38 rfl ?_
    refine zx_iast_n (j := 6) (nn := 40) rfl (by omega) (by decide) dX11_saves_39 rfl ?_
    refine zx_aload_n (k := 1) (nn := 41) dX11_saves_40 rfl rfl rfl ?_
    refine zx_bipush (v := 7) (nn := 43) rfl dX11_saves_41 rfl ?_
    refine zx_aload_n (k := 0) (nn := 44) dX11_saves_43 rfl rfl rfl ?_
    refine zx_getR (q := 1) (nn := 47) flX11_9 rfl rfl dX11_saves_44 rfl ?_
    refine zx_iconst (v := 3) (nn := 48) rfl dX11_saves_47 rfl ?_
    refine zx_iald_n (j := 3) (nn := 49) rfl (by omega) (by decide) dX11_saves_48 rfl ?_
    show zX shR σ 0 MX11_saves 49 [(0, zr 0), (1, zr 7), (2, zi (nI k))] [zi (μ1 1 3), zi 7, zr 7] (zp μ1 7 6 (μ1 1 2)) _
    refine zx_iast_n (j := 7) (nn := 50) rfl (by omega) (by decide) dX11_saves_49 rfl ?_
    refine zx_vret rfl dX11_saves_50 ?_
    have hge := nI_le_le (b := 6) h5 (by omega)
    refine ⟨rfl, (hr2.p (by decide)).p (by decide), fun j hj => ?_, ?_, ?_⟩
    · rw [zp_eq, pk_un (by omega), zp_eq, pk_un (by omega)]; exact hr3 j (by omega)
    · rw [zp_eq, pk_un (by decide), zp_eq, pk_us, e1]
    · rw [zp_eq, pk_us, e1]
  · have hlt : k < 6 := nI_nle_lt (b := 6) h5 (by omega)
    refine zx_aload_n (k := 1) (nn := 9) dX11_saves_8 rfl rfl rfl ?_
    refine zx_iload_n (k := 2) (nn := 10) dX11_saves_9 rfl rfl rfl ?_
    refine zx_aload_n (k := 0) (nn := 11) dX11_saves_10 rfl rfl rfl ?_
    refine zx_getR (q := 1) (nn := 14) flX11_9 rfl rfl dX11_saves_11 rfl ?_
    refine zx_bipush (v := 7) (nn := 16) rfl dX11_saves_14 rfl ?_
    refine zx_iconst (v := 4) (nn := 17) rfl dX11_saves_16 rfl ?_
    refine zx_iload_n (k := 2) (nn := 18) dX11_saves_17 rfl rfl rfl ?_
    refine zx_imul (nn := 19) dX11_saves_18 rfl ?_
    refine zx_iadd (nn := 20) dX11_saves_19 rfl ?_
    refine zx_iconst (v := 1) (nn := 21) rfl dX11_saves_20 rfl ?_
    refine zx_iadd (nn := 22) dX11_saves_21 rfl ?_
    rw [show (7 + (4 * (nI k))) + 1 = nI (7 + 4 * k + 1) from by simp only [show (2 : Int32) = nI 2 from rfl, show (3 : Int32) = nI 3 from rfl, show (1 : Int32) = nI 1 from rfl, show (4 : Int32) = nI 4 from rfl, show (5 : Int32) = nI 5 from rfl, show (7 : Int32) = nI 7 from rfl, show (31 : Int32) = nI 31 from rfl, show (47 : Int32) = nI 47 from rfl, show (71 : Int32) = nI 71 from rfl, show (111 : Int32) = nI 111 from rfl, nI_mulN, nI_add]]
    show zX shR σ 0 MX11_saves 22 [(0, zr 0), (1, zr 7), (2, zi (nI k))] [zi (nI (7 + 4 * k + 1)), zr 1, zi (nI k), zr 7] μ1 _
    refine zx_iald_n (j := 7 + 4 * k + 1) (nn := 23) rfl (by omega) (by decide) dX11_saves_22 rfl ?_
    rw [show μ1 1 (7 + 4 * k + 1) = μ 1 (7 + 4 * k + 1) from by rw [e1]]
    show zX shR σ 0 MX11_saves 23 [(0, zr 0), (1, zr 7), (2, zi (nI k))] [zi (μ 1 (7 + 4 * k + 1)), zi (nI k), zr 7] μ1 _
    refine zx_iast_n (j := k) (nn := 24) rfl (by omega) (by decide) dX11_saves_23 rfl ?_
    refine zx_iinc (k := 2) (v := nI (k + 1)) (lv' := [(2, zi (nI (k + 1))), (0, zr 0), (1, zr 7)]) (nn := 27) dX11_saves_24 rfl (nI_1 k) (by decide) rfl rfl ?_
    refine zx_goto (tgt := 2) dX11_saves_27 (by decide) ?_
    refine zx_lv (lv' := [(0, zr 0), (1, zr 7), (2, zi (nI (k + 1)))]) [1, 2, 0] rfl ?_
    exact ih2 (k + 1, zp μ1 7 k (μ 1 (7 + 4 * k + 1))) (show (k + 1) ≤ 6 ∧ zJ [7] μ (zp μ1 7 k (μ 1 (7 + 4 * k + 1))) ∧ ∀ j, j < (k + 1) → (zp μ1 7 k (μ 1 (7 + 4 * k + 1))) 7 j = μ 1 (7 + 4 * j + 1) from ⟨by omega, hr2.p (by decide), fun j hj => (Decidable.em (j = k)).elim (fun e => by subst e; rw [zp_eq, pk_us]) (fun e => by rw [zp_eq, pk_un (by omega)]; exact hr3 j (by omega))⟩) (by show 6 - (k + 1) < 6 - k; omega)
set_option maxHeartbeats 4000000 in
set_option maxRecDepth 100000 in
theorem eX11_putsBack_7 (σ : zG) (μ : zM) : zMet shR σ 0 MX11_putsBack yX11_putsBack [zr 0, zr 7] μ (fun rr μ' => rr = none ∧ zJ [1] μ μ' ∧ μ' 1 = rPb (μ 1) (μ 7)) := by
  refine zmetF (by decide +kernel) rfl (Nat.le_of_ble_eq_true rfl) ?_
  show zX shR σ 0 MX11_putsBack 0 [(0, zr 0), (1, zr 7)] [] μ _
  refine zx_iconst (v := 0) (nn := 1) rfl dX11_putsBack_0 rfl ?_
  refine zx_istore_n (nn := 2) (lv' := [(2, zi 0), (0, zr 0), (1, zr 7)]) dX11_putsBack_1 rfl (by decide) rfl rfl ?_
  refine zx_lv (lv' := [(0, zr 0), (1, zr 7), (2, zi 0)]) [1, 2, 0] rfl ?_
  refine zx_while (τ := Nat × zM) (fun t_ => 6 - t_.1) (fun t_ => t_.1 ≤ 6 ∧ zJ [1] μ t_.2 ∧ ∀ i, t_.2 1 i = if 7 ≤ i ∧ i < 7 + 4 * t_.1 ∧ (i - 7) % 4 = 1 then μ 7 ((i - 7) / 4) else μ 1 i) (fun t_ => [(0, zr 0), (1, zr 7), (2, zi (nI t_.1))]) (fun t_ => t_.2) (t0 := (0, μ)) (show 0 ≤ 6 ∧ zJ [1] μ μ ∧ ∀ i, μ 1 i = if 7 ≤ i ∧ i < 7 + 4 * 0 ∧ (i - 7) % 4 = 1 then μ 7 ((i - 7) / 4) else μ 1 i from ⟨Nat.zero_le _, zJ.rf, fun i => by rw [if_neg (by omega)]⟩) ?_
  rintro ⟨k, μ1⟩ hI ih2
  replace hI : k ≤ 6 ∧ zJ [1] μ μ1 ∧ ∀ i, μ1 1 i = if 7 ≤ i ∧ i < 7 + 4 * k ∧ (i - 7) % 4 = 1 then μ 7 ((i - 7) / 4) else μ 1 i := hI
  show zX shR σ 0 MX11_putsBack 2 [(0, zr 0), (1, zr 7), (2, zi (nI k))] [] μ1 _
  obtain ⟨hr1, hr2, hr3⟩ := hI
  have er : μ1 7 = μ 7 := hr2 7 (by decide)
  refine zx_iload_n (k := 2) (nn := 3) dX11_putsBack_2 rfl rfl rfl ?_
  refine zx_bipush (v := 6) (nn := 5) rfl dX11_putsBack_3 rfl ?_
  refine zx_icmp_ge (tgt := 30) (nn := 8) dX11_putsBack_5 (by decide) rfl (fun h5 => ?_) (fun h5 => ?_)
  · refine zx_aload_n (k := 0) (nn := 31) dX11_putsBack_30 rfl rfl rfl ?_
    refine zx_getR (q := 1) (nn := 34) flX11_9 rfl rfl dX11_putsBack_31 rfl ?_
    refine zx_iconst (v := 2) (nn := 35) rfl dX11_putsBack_34 rfl ?_
    refine zx_aload_n (k := 1) (nn := 36) dX11_putsBack_35 rfl rfl rfl ?_
    refine zx_bipush (v := 6) (nn := 38) rfl dX11_putsBack_36 rfl ?_
    refine zx_iald_n (j := 6) (nn := 39) rfl (by omega) (by decide) dX11_putsBack_38 rfl ?_
    refine zx_iast_n (j := 2) (nn := 40) rfl (by omega) (by decide) dX11_putsBack_39 rfl ?_
    refine zx_aload_n (k := 0) (nn := 41) dX11_putsBack_40 rfl rfl rfl ?_
    refine zx_getR (q := 1) (nn := 44) flX11_9 rfl rfl dX11_putsBack_41 rfl ?_
    refine zx_iconst (v := 3) (nn := 45) rfl dX11_putsBack_44 rfl ?_
    refine zx_aload_n (k := 1) (nn := 46) dX11_putsBack_45 rfl rfl rfl ?_
    refine zx_bipush (v := 7) (nn := 48) rfl dX11_putsBack_46 rfl ?_
    refine zx_iald_n (j := 7) (nn := 49) rfl (by omega) (by decide) dX11_putsBack_48 rfl ?_
    show zX shR σ 0 MX11_putsBack 49 [(0, zr 0), (1, zr 7), (2, zi (nI k))] [zi (μ1 7 7), zi 3, zr 1] (zp μ1 1 2 (μ1 7 6)) _
    refine zx_iast_n (j := 3) (nn := 50) rfl (by omega) (by decide) dX11_putsBack_49 rfl ?_
    refine zx_vret rfl dX11_putsBack_50 ?_
    have hge := nI_le_le (b := 6) h5 (by omega)
    refine ⟨rfl, (hr2.p (by decide)).p (by decide), ?_⟩
    funext i
    rw [zp_eq, zp_eq]
    unfold rPb
    by_cases q3 : i = 3
    · rw [q3, pk_us, if_neg (by decide), if_pos rfl, er]
    · rw [pk_un q3]
      by_cases q2 : i = 2
      · rw [q2, pk_us, if_pos rfl, er]
      · rw [pk_un q2, if_neg q2, if_neg q3, hr3 i]
        by_cases c : 7 ≤ i ∧ i < 31 ∧ (i - 7) % 4 = 1
        · rw [if_pos c, if_pos (by omega)]
        · rw [if_neg c, if_neg (by omega)]
  · have hlt : k < 6 := nI_nle_lt (b := 6) h5 (by omega)
    refine zx_aload_n (k := 0) (nn := 9) dX11_putsBack_8 rfl rfl rfl ?_
    refine zx_getR (q := 1) (nn := 12) flX11_9 rfl rfl dX11_putsBack_9 rfl ?_
    refine zx_bipush (v := 7) (nn := 14) rfl dX11_putsBack_12 rfl ?_
    refine zx_iconst (v := 4) (nn := 15) rfl dX11_putsBack_14 rfl ?_
    refine zx_iload_n (k := 2) (nn := 16) dX11_putsBack_15 rfl rfl rfl ?_
    refine zx_imul (nn := 17) dX11_putsBack_16 rfl ?_
    refine zx_iadd (nn := 18) dX11_putsBack_17 rfl ?_
    refine zx_iconst (v := 1) (nn := 19) rfl dX11_putsBack_18 rfl ?_
    refine zx_iadd (nn := 20) dX11_putsBack_19 rfl ?_
    rw [show (7 + (4 * (nI k))) + 1 = nI (7 + 4 * k + 1) from by simp only [show (2 : Int32) = nI 2 from rfl, show (3 : Int32) = nI 3 from rfl, show (1 : Int32) = nI 1 from rfl, show (4 : Int32) = nI 4 from rfl, show (5 : Int32) = nI 5 from rfl, show (7 : Int32) = nI 7 from rfl, show (31 : Int32) = nI 31 from rfl, show (47 : Int32) = nI 47 from rfl, show (71 : Int32) = nI 71 from rfl, show (111 : Int32) = nI 111 from rfl, nI_mulN, nI_add]]
    show zX shR σ 0 MX11_putsBack 20 [(0, zr 0), (1, zr 7), (2, zi (nI k))] [zi (nI (7 + 4 * k + 1)), zr 1] μ1 _
    refine zx_aload_n (k := 1) (nn := 21) dX11_putsBack_20 rfl rfl rfl ?_
    refine zx_iload_n (k := 2) (nn := 22) dX11_putsBack_21 rfl rfl rfl ?_
    refine zx_iald_n (j := k) (nn := 23) rfl (by omega) (by decide) dX11_putsBack_22 rfl ?_
    rw [show μ1 7 k = μ 7 k from by rw [er]]
    show zX shR σ 0 MX11_putsBack 23 [(0, zr 0), (1, zr 7), (2, zi (nI k))] [zi (μ 7 k), zi (nI (7 + 4 * k + 1)), zr 1] μ1 _
    refine zx_iast_n (j := 7 + 4 * k + 1) (nn := 24) rfl (by omega) (by decide) dX11_putsBack_23 rfl ?_
    refine zx_iinc (k := 2) (v := nI (k + 1)) (lv' := [(2, zi (nI (k + 1))), (0, zr 0), (1, zr 7)]) (nn := 27) dX11_putsBack_24 rfl (nI_1 k) (by decide) rfl rfl ?_
    refine zx_goto (tgt := 2) dX11_putsBack_27 (by decide) ?_
    refine zx_lv (lv' := [(0, zr 0), (1, zr 7), (2, zi (nI (k + 1)))]) [1, 2, 0] rfl ?_
    exact ih2 (k + 1, zp μ1 1 (7 + 4 * k + 1) (μ 7 k)) (show (k + 1) ≤ 6 ∧ zJ [1] μ (zp μ1 1 (7 + 4 * k + 1) (μ 7 k)) ∧ ∀ i, (zp μ1 1 (7 + 4 * k + 1) (μ 7 k)) 1 i = if 7 ≤ i ∧ i < 7 + 4 * (k + 1) ∧ (i - 7) % 4 = 1 then μ 7 ((i - 7) / 4) else μ 1 i from ⟨by omega, hr2.p (by decide), fun i => by
            rw [zp_eq]
            by_cases e : i = 7 + 4 * k + 1
            · rw [e, pk_us, if_pos (by omega), show (7 + 4 * k + 1 - 7) / 4 = k by omega]
            · rw [pk_un e, hr3 i]
              by_cases c : 7 ≤ i ∧ i < 7 + 4 * k ∧ (i - 7) % 4 = 1
              · rw [if_pos c, if_pos (by omega)]
              · rw [if_neg c, if_neg (by omega)]⟩) (by show 6 - (k + 1) < 6 - k; omega)
set_option maxHeartbeats 4000000 in
set_option maxRecDepth 100000 in
theorem eX11_saves_10 (σ : zG) (μ : zM) : zMet shR σ 0 MX11_saves yX11_saves [zr 0, zr 10] μ (fun rr μ' => rr = none ∧ zJ [10] μ μ' ∧ rSav (μ 1) (μ' 10)) := by
  refine zmetF (by decide +kernel) rfl (Nat.le_of_ble_eq_true rfl) ?_
  show zX shR σ 0 MX11_saves 0 [(0, zr 0), (1, zr 10)] [] μ _
  refine zx_iconst (v := 0) (nn := 1) rfl dX11_saves_0 rfl ?_
  refine zx_istore_n (nn := 2) (lv' := [(2, zi 0), (0, zr 0), (1, zr 10)]) dX11_saves_1 rfl (by decide) rfl rfl ?_
  refine zx_lv (lv' := [(0, zr 0), (1, zr 10), (2, zi 0)]) [1, 2, 0] rfl ?_
  refine zx_while (τ := Nat × zM) (fun t_ => 6 - t_.1) (fun t_ => t_.1 ≤ 6 ∧ zJ [10] μ t_.2 ∧ ∀ j, j < t_.1 → t_.2 10 j = μ 1 (7 + 4 * j + 1)) (fun t_ => [(0, zr 0), (1, zr 10), (2, zi (nI t_.1))]) (fun t_ => t_.2) (t0 := (0, μ)) (show 0 ≤ 6 ∧ zJ [10] μ μ ∧ ∀ j, j < 0 → μ 10 j = μ 1 (7 + 4 * j + 1) from ⟨Nat.zero_le _, zJ.rf, fun j hj => absurd hj (by omega)⟩) ?_
  rintro ⟨k, μ1⟩ hI ih2
  replace hI : k ≤ 6 ∧ zJ [10] μ μ1 ∧ ∀ j, j < k → μ1 10 j = μ 1 (7 + 4 * j + 1) := hI
  show zX shR σ 0 MX11_saves 2 [(0, zr 0), (1, zr 10), (2, zi (nI k))] [] μ1 _
  obtain ⟨hr1, hr2, hr3⟩ := hI
  have e1 : μ1 1 = μ 1 := hr2 1 (by decide)
  refine zx_iload_n (k := 2) (nn := 3) dX11_saves_2 rfl rfl rfl ?_
  refine zx_bipush (v := 6) (nn := 5) rfl dX11_saves_3 rfl ?_
  refine zx_icmp_ge (tgt := 30) (nn := 8) dX11_saves_5 (by decide) rfl (fun h5 => ?_) (fun h5 => ?_)
  · refine zx_aload_n (k := 1) (nn := 31) dX11_saves_30 rfl rfl rfl ?_
    refine zx_bipush (v := 6) (nn := 33) rfl dX11_saves_31 rfl ?_
    refine zx_aload_n (k := 0) (nn := 34) dX11_saves_33 rfl rfl rfl ?_
    refine zx_getR (q := 1) (nn := 37) flX11_9 rfl rfl dX11_saves_34 rfl ?_
    refine zx_iconst (v := 2) (nn := 38) rfl dX11_saves_37 rfl ?_
    refine zx_iald_n (j := 2) (nn := 39) rfl (by omega) (by decide) dX11_saves_38 rfl ?_
    refine zx_iast_n (j := 6) (nn := 40) rfl (by omega) (by decide) dX11_saves_39 rfl ?_
    refine zx_aload_n (k := 1) (nn := 41) dX11_saves_40 rfl rfl rfl ?_
    refine zx_bipush (v := 7) (nn := 43) rfl dX11_saves_41 rfl ?_
    refine zx_aload_n (k := 0) (nn := 44) dX11_saves_43 rfl rfl rfl ?_
    refine zx_getR (q := 1) (nn := 47) flX11_9 rfl rfl dX11_saves_44 rfl ?_
    refine zx_iconst (v := 3) (nn := 48) rfl dX11_saves_47 rfl ?_
    refine zx_iald_n (j := 3) (nn := 49) rfl (by omega) (by decide) dX11_saves_48 rfl ?_
    show zX shR σ 0 MX11_saves 49 [(0, zr 0), (1, zr 10), (2, zi (nI k))] [zi (μ1 1 3), zi 7, zr 10] (zp μ1 10 6 (μ1 1 2)) _
    refine zx_iast_n (j := 7) (nn := 50) rfl (by omega) (by decide) dX11_saves_49 rfl ?_
    refine zx_vret rfl dX11_saves_50 ?_
    have hge := nI_le_le (b := 6) h5 (by omega)
    refine ⟨rfl, (hr2.p (by decide)).p (by decide), fun j hj => ?_, ?_, ?_⟩
    · rw [zp_eq, pk_un (by omega), zp_eq, pk_un (by omega)]; exact hr3 j (by omega)
    · rw [zp_eq, pk_un (by decide), zp_eq, pk_us, e1]
    · rw [zp_eq, pk_us, e1]
  · have hlt : k < 6 := nI_nle_lt (b := 6) h5 (by omega)
    refine zx_aload_n (k := 1) (nn := 9) dX11_saves_8 rfl rfl rfl ?_
    refine zx_iload_n (k := 2) (nn := 10) dX11_saves_9 rfl rfl rfl ?_
    refine zx_aload_n (k := 0) (nn := 11) dX11_saves_10 rfl rfl rfl ?_
    refine zx_getR (q := 1) (nn := 14) flX11_9 rfl rfl dX11_saves_11 rfl ?_
    refine zx_bipush (v := 7) (nn := 16) rfl dX11_saves_14 rfl ?_
    refine zx_iconst (v := 4) (nn := 17) rfl dX11_saves_16 rfl ?_
    refine zx_iload_n (k := 2) (nn := 18) dX11_saves_17 rfl rfl rfl ?_
    refine zx_imul (nn := 19) dX11_saves_18 rfl ?_
    refine zx_iadd (nn := 20) dX11_saves_19 rfl ?_
    refine zx_iconst (v := 1) (nn := 21) rfl dX11_saves_20 rfl ?_
    refine zx_iadd (nn := 22) dX11_saves_21 rfl ?_
    rw [show (7 + (4 * (nI k))) + 1 = nI (7 + 4 * k + 1) from by simp only [show (2 : Int32) = nI 2 from rfl, show (3 : Int32) = nI 3 from rfl, show (1 : Int32) = nI 1 from rfl, show (4 : Int32) = nI 4 from rfl, show (5 : Int32) = nI 5 from rfl, show (7 : Int32) = nI 7 from rfl, show (31 : Int32) = nI 31 from rfl, show (47 : Int32) = nI 47 from rfl, show (71 : Int32) = nI 71 from rfl, show (111 : Int32) = nI 111 from rfl, nI_mulN, nI_add]]
    show zX shR σ 0 MX11_saves 22 [(0, zr 0), (1, zr 10), (2, zi (nI k))] [zi (nI (7 + 4 * k + 1)), zr 1, zi (nI k), zr 10] μ1 _
    refine zx_iald_n (j := 7 + 4 * k + 1) (nn := 23) rfl (by omega) (by decide) dX11_saves_22 rfl ?_
    rw [show μ1 1 (7 + 4 * k + 1) = μ 1 (7 + 4 * k + 1) from by rw [e1]]
    show zX shR σ 0 MX11_saves 23 [(0, zr 0), (1, zr 10), (2, zi (nI k))] [zi (μ 1 (7 + 4 * k + 1)), zi (nI k), zr 10] μ1 _
    refine zx_iast_n (j := k) (nn := 24) rfl (by omega) (by decide) dX11_saves_23 rfl ?_
    refine zx_iinc (k := 2) (v := nI (k + 1)) (lv' := [(2, zi (nI (k + 1))), (0, zr 0), (1, zr 10)]) (nn := 27) dX11_saves_24 rfl (nI_1 k) (by decide) rfl rfl ?_
    refine zx_goto (tgt := 2) dX11_saves_27 (by decide) ?_
    refine zx_lv (lv' := [(0, zr 0), (1, zr 10), (2, zi (nI (k + 1)))]) [1, 2, 0] rfl ?_
    exact ih2 (k + 1, zp μ1 10 k (μ 1 (7 + 4 * k + 1))) (show (k + 1) ≤ 6 ∧ zJ [10] μ (zp μ1 10 k (μ 1 (7 + 4 * k + 1))) ∧ ∀ j, j < (k + 1) → (zp μ1 10 k (μ 1 (7 + 4 * k + 1))) 10 j = μ 1 (7 + 4 * j + 1) from ⟨by omega, hr2.p (by decide), fun j hj => (Decidable.em (j = k)).elim (fun e => by subst e; rw [zp_eq, pk_us]) (fun e => by rw [zp_eq, pk_un (by omega)]; exact hr3 j (by omega))⟩) (by show 6 - (k + 1) < 6 - k; omega)
set_option maxHeartbeats 4000000 in
set_option maxRecDepth 100000 in
theorem eX11_putsBack_10 (σ : zG) (μ : zM) : zMet shR σ 0 MX11_putsBack yX11_putsBack [zr 0, zr 10] μ (fun rr μ' => rr = none ∧ zJ [1] μ μ' ∧ μ' 1 = rPb (μ 1) (μ 10)) := by
  refine zmetF (by decide +kernel) rfl (Nat.le_of_ble_eq_true rfl) ?_
  show zX shR σ 0 MX11_putsBack 0 [(0, zr 0), (1, zr 10)] [] μ _
  refine zx_iconst (v := 0) (nn := 1) rfl dX11_putsBack_0 rfl ?_
  refine zx_istore_n (nn := 2) (lv' := [(2, zi 0), (0, zr 0), (1, zr 10)]) dX11_putsBack_1 rfl (by decide) rfl rfl ?_
  refine zx_lv (lv' := [(0, zr 0), (1, zr 10), (2, zi 0)]) [1, 2, 0] rfl ?_
  refine zx_while (τ := Nat × zM) (fun t_ => 6 - t_.1) (fun t_ => t_.1 ≤ 6 ∧ zJ [1] μ t_.2 ∧ ∀ i, t_.2 1 i = if 7 ≤ i ∧ i < 7 + 4 * t_.1 ∧ (i - 7) % 4 = 1 then μ 10 ((i - 7) / 4) else μ 1 i) (fun t_ => [(0, zr 0), (1, zr 10), (2, zi (nI t_.1))]) (fun t_ => t_.2) (t0 := (0, μ)) (show 0 ≤ 6 ∧ zJ [1] μ μ ∧ ∀ i, μ 1 i = if 7 ≤ i ∧ i < 7 + 4 * 0 ∧ (i - 7) % 4 = 1 then μ 10 ((i - 7) / 4) else μ 1 i from ⟨Nat.zero_le _, zJ.rf, fun i => by rw [if_neg (by omega)]⟩) ?_
  rintro ⟨k, μ1⟩ hI ih2
  replace hI : k ≤ 6 ∧ zJ [1] μ μ1 ∧ ∀ i, μ1 1 i = if 7 ≤ i ∧ i < 7 + 4 * k ∧ (i - 7) % 4 = 1 then μ 10 ((i - 7) / 4) else μ 1 i := hI
  show zX shR σ 0 MX11_putsBack 2 [(0, zr 0), (1, zr 10), (2, zi (nI k))] [] μ1 _
  obtain ⟨hr1, hr2, hr3⟩ := hI
  have er : μ1 10 = μ 10 := hr2 10 (by decide)
  refine zx_iload_n (k := 2) (nn := 3) dX11_putsBack_2 rfl rfl rfl ?_
  refine zx_bipush (v := 6) (nn := 5) rfl dX11_putsBack_3 rfl ?_
  refine zx_icmp_ge (tgt := 30) (nn := 8) dX11_putsBack_5 (by decide) rfl (fun h5 => ?_) (fun h5 => ?_)
  · refine zx_aload_n (k := 0) (nn := 31) dX11_putsBack_30 rfl rfl rfl ?_
    refine zx_getR (q := 1) (nn := 34) flX11_9 rfl rfl dX11_putsBack_31 rfl ?_
    refine zx_iconst (v := 2) (nn := 35) rfl dX11_putsBack_34 rfl ?_
    refine zx_aload_n (k := 1) (nn := 36) dX11_putsBack_35 rfl rfl rfl ?_
    refine zx_bipush (v := 6) (nn := 38) rfl dX11_putsBack_36 rfl ?_
    refine zx_iald_n (j := 6) (nn := 39) rfl (by omega) (by decide) dX11_putsBack_38 rfl ?_
    refine zx_iast_n (j := 2) (nn := 40) rfl (by omega) (by decide) dX11_putsBack_39 rfl ?_
    refine zx_aload_n (k := 0) (nn := 41) dX11_putsBack_40 rfl rfl rfl ?_
    refine zx_getR (q := 1) (nn := 44) flX11_9 rfl rfl dX11_putsBack_41 rfl ?_
    refine zx_iconst (v := 3) (nn := 45) rfl dX11_putsBack_44 rfl ?_
    refine zx_aload_n (k := 1) (nn := 46) dX11_putsBack_45 rfl rfl rfl ?_
    refine zx_bipush (v := 7) (nn := 48) rfl dX11_putsBack_46 rfl ?_
    refine zx_iald_n (j := 7) (nn := 49) rfl (by omega) (by decide) dX11_putsBack_48 rfl ?_
    show zX shR σ 0 MX11_putsBack 49 [(0, zr 0), (1, zr 10), (2, zi (nI k))] [zi (μ1 10 7), zi 3, zr 1] (zp μ1 1 2 (μ1 10 6)) _
    refine zx_iast_n (j := 3) (nn := 50) rfl (by omega) (by decide) dX11_putsBack_49 rfl ?_
    refine zx_vret rfl dX11_putsBack_50 ?_
    have hge := nI_le_le (b := 6) h5 (by omega)
    refine ⟨rfl, (hr2.p (by decide)).p (by decide), ?_⟩
    funext i
    rw [zp_eq, zp_eq]
    unfold rPb
    by_cases q3 : i = 3
    · rw [q3, pk_us, if_neg (by decide), if_pos rfl, er]
    · rw [pk_un q3]
      by_cases q2 : i = 2
      · rw [q2, pk_us, if_pos rfl, er]
      · rw [pk_un q2, if_neg q2, if_neg q3, hr3 i]
        by_cases c : 7 ≤ i ∧ i < 31 ∧ (i - 7) % 4 = 1
        · rw [if_pos c, if_pos (by omega)]
        · rw [if_neg c, if_neg (by omega)]
  · have hlt : k < 6 := nI_nle_lt (b := 6) h5 (by omega)
    refine zx_aload_n (k := 0) (nn := 9) dX11_putsBack_8 rfl rfl rfl ?_
    refine zx_getR (q := 1) (nn := 12) flX11_9 rfl rfl dX11_putsBack_9 rfl ?_
    refine zx_bipush (v := 7) (nn := 14) rfl dX11_putsBack_12 rfl ?_
    refine zx_iconst (v := 4) (nn := 15) rfl dX11_putsBack_14 rfl ?_
    refine zx_iload_n (k := 2) (nn := 16) dX11_putsBack_15 rfl rfl rfl ?_
    refine zx_imul (nn := 17) dX11_putsBack_16 rfl ?_
    refine zx_iadd (nn := 18) dX11_putsBack_17 rfl ?_
    refine zx_iconst (v := 1) (nn := 19) rfl dX11_putsBack_18 rfl ?_
    refine zx_iadd (nn := 20) dX11_putsBack_19 rfl ?_
    rw [show (7 + (4 * (nI k))) + 1 = nI (7 + 4 * k + 1) from by simp only [show (2 : Int32) = nI 2 from rfl, show (3 : Int32) = nI 3 from rfl, show (1 : Int32) = nI 1 from rfl, show (4 : Int32) = nI 4 from rfl, show (5 : Int32) = nI 5 from rfl, show (7 : Int32) = nI 7 from rfl, show (31 : Int32) = nI 31 from rfl, show (47 : Int32) = nI 47 from rfl, show (71 : Int32) = nI 71 from rfl, show (111 : Int32) = nI 111 from rfl, nI_mulN, nI_add]]
    show zX shR σ 0 MX11_putsBack 20 [(0, zr 0), (1, zr 10), (2, zi (nI k))] [zi (nI (7 + 4 * k + 1)), zr 1] μ1 _
    refine zx_aload_n (k := 1) (nn := 21) dX11_putsBack_20 rfl rfl rfl ?_
    refine zx_iload_n (k := 2) (nn := 22) dX11_putsBack_21 rfl rfl rfl ?_
    refine zx_iald_n (j := k) (nn := 23) rfl (by omega) (by decide) dX11_putsBack_22 rfl ?_
    rw [show μ1 10 k = μ 10 k from by rw [er]]
    show zX shR σ 0 MX11_putsBack 23 [(0, zr 0), (1, zr 10), (2, zi (nI k))] [zi (μ 10 k), zi (nI (7 + 4 * k + 1)), zr 1] μ1 _
    refine zx_iast_n (j := 7 + 4 * k + 1) (nn := 24) rfl (by omega) (by decide) dX11_putsBack_23 rfl ?_
    refine zx_iinc (k := 2) (v := nI (k + 1)) (lv' := [(2, zi (nI (k + 1))), (0, zr 0), (1, zr 10)]) (nn := 27) dX11_putsBack_24 rfl (nI_1 k) (by decide) rfl rfl ?_
    refine zx_goto (tgt := 2) dX11_putsBack_27 (by decide) ?_
    refine zx_lv (lv' := [(0, zr 0), (1, zr 10), (2, zi (nI (k + 1)))]) [1, 2, 0] rfl ?_
    exact ih2 (k + 1, zp μ1 1 (7 + 4 * k + 1) (μ 10 k)) (show (k + 1) ≤ 6 ∧ zJ [1] μ (zp μ1 1 (7 + 4 * k + 1) (μ 10 k)) ∧ ∀ i, (zp μ1 1 (7 + 4 * k + 1) (μ 10 k)) 1 i = if 7 ≤ i ∧ i < 7 + 4 * (k + 1) ∧ (i - 7) % 4 = 1 then μ 10 ((i - 7) / 4) else μ 1 i from ⟨by omega, hr2.p (by decide), fun i => by
            rw [zp_eq]
            by_cases e : i = 7 + 4 * k + 1
            · rw [e, pk_us, if_pos (by omega), show (7 + 4 * k + 1 - 7) / 4 = k by omega]
            · rw [pk_un e, hr3 i]
              by_cases c : 7 ≤ i ∧ i < 7 + 4 * k ∧ (i - 7) % 4 = 1
              · rw [if_pos c, if_pos (by omega)]
              · rw [if_neg c, if_neg (by omega)]⟩) (by show 6 - (k + 1) < 6 - k; omega)
set_option maxHeartbeats 4000000 in
set_option maxRecDepth 100000 in
theorem eX11_saves_11 (σ : zG) (μ : zM) : zMet shR σ 0 MX11_saves yX11_saves [zr 0, zr 11] μ (fun rr μ' => rr = none ∧ zJ [11] μ μ' ∧ rSav (μ 1) (μ' 11)) := by
  refine zmetF (by decide +kernel) rfl (Nat.le_of_ble_eq_true rfl) ?_
  show zX shR σ 0 MX11_saves 0 [(0, zr 0), (1, zr 11)] [] μ _
  refine zx_iconst (v := 0) (nn := 1) rfl dX11_saves_0 rfl ?_
  refine zx_istore_n (nn := 2) (lv' := [(2, zi 0), (0, zr 0), (1, zr 11)]) dX11_saves_1 rfl (by decide) rfl rfl ?_
  refine zx_lv (lv' := [(0, zr 0), (1, zr 11), (2, zi 0)]) [1, 2, 0] rfl ?_
  refine zx_while (τ := Nat × zM) (fun t_ => 6 - t_.1) (fun t_ => t_.1 ≤ 6 ∧ zJ [11] μ t_.2 ∧ ∀ j, j < t_.1 → t_.2 11 j = μ 1 (7 + 4 * j + 1)) (fun t_ => [(0, zr 0), (1, zr 11), (2, zi (nI t_.1))]) (fun t_ => t_.2) (t0 := (0, μ)) (show 0 ≤ 6 ∧ zJ [11] μ μ ∧ ∀ j, j < 0 → μ 11 j = μ 1 (7 + 4 * j + 1) from ⟨Nat.zero_le _, zJ.rf, fun j hj => absurd hj (by omega)⟩) ?_
  rintro ⟨k, μ1⟩ hI ih2
  replace hI : k ≤ 6 ∧ zJ [11] μ μ1 ∧ ∀ j, j < k → μ1 11 j = μ 1 (7 + 4 * j + 1) := hI
  show zX shR σ 0 MX11_saves 2 [(0, zr 0), (1, zr 11), (2, zi (nI k))] [] μ1 _
  obtain ⟨hr1, hr2, hr3⟩ := hI
  have e1 : μ1 1 = μ 1 := hr2 1 (by decide)
  refine zx_iload_n (k := 2) (nn := 3) dX11_saves_2 rfl rfl rfl ?_
  refine zx_bipush (v := 6) (nn := 5) rfl dX11_saves_3 rfl ?_
  refine zx_icmp_ge (tgt := 30) (nn := 8) dX11_saves_5 (by decide) rfl (fun h5 => ?_) (fun h5 => ?_)
  · refine zx_aload_n (k := 1) (nn := 31) dX11_saves_30 rfl rfl rfl ?_
    refine zx_bipush (v := 6) (nn := 33) rfl dX11_saves_31 rfl ?_
    refine zx_aload_n (k := 0) (nn := 34) dX11_saves_33 rfl rfl rfl ?_
    refine zx_getR (q := 1) (nn := 37) flX11_9 rfl rfl dX11_saves_34 rfl ?_
    refine zx_iconst (v := 2) (nn := 38) rfl dX11_saves_37 rfl ?_
    refine zx_iald_n (j := 2) (nn := 39) rfl (by omega) (by decide) dX11_saves_38 rfl ?_
    refine zx_iast_n (j := 6) (nn := 40) rfl (by omega) (by decide) dX11_saves_39 rfl ?_
    refine zx_aload_n (k := 1) (nn := 41) dX11_saves_40 rfl rfl rfl ?_
    refine zx_bipush (v := 7) (nn := 43) rfl dX11_saves_41 rfl ?_
    refine zx_aload_n (k := 0) (nn := 44) dX11_saves_43 rfl rfl rfl ?_
    refine zx_getR (q := 1) (nn := 47) flX11_9 rfl rfl dX11_saves_44 rfl ?_
    refine zx_iconst (v := 3) (nn := 48) rfl dX11_saves_47 rfl ?_
    refine zx_iald_n (j := 3) (nn := 49) rfl (by omega) (by decide) dX11_saves_48 rfl ?_
    show zX shR σ 0 MX11_saves 49 [(0, zr 0), (1, zr 11), (2, zi (nI k))] [zi (μ1 1 3), zi 7, zr 11] (zp μ1 11 6 (μ1 1 2)) _
    refine zx_iast_n (j := 7) (nn := 50) rfl (by omega) (by decide) dX11_saves_49 rfl ?_
    refine zx_vret rfl dX11_saves_50 ?_
    have hge := nI_le_le (b := 6) h5 (by omega)
    refine ⟨rfl, (hr2.p (by decide)).p (by decide), fun j hj => ?_, ?_, ?_⟩
    · rw [zp_eq, pk_un (by omega), zp_eq, pk_un (by omega)]; exact hr3 j (by omega)
    · rw [zp_eq, pk_un (by decide), zp_eq, pk_us, e1]
    · rw [zp_eq, pk_us, e1]
  · have hlt : k < 6 := nI_nle_lt (b := 6) h5 (by omega)
    refine zx_aload_n (k := 1) (nn := 9) dX11_saves_8 rfl rfl rfl ?_
    refine zx_iload_n (k := 2) (nn := 10) dX11_saves_9 rfl rfl rfl ?_
    refine zx_aload_n (k := 0) (nn := 11) dX11_saves_10 rfl rfl rfl ?_
    refine zx_getR (q := 1) (nn := 14) flX11_9 rfl rfl dX11_saves_11 rfl ?_
    refine zx_bipush (v := 7) (nn := 16) rfl dX11_saves_14 rfl ?_
    refine zx_iconst (v := 4) (nn := 17) rfl dX11_saves_16 rfl ?_
    refine zx_iload_n (k := 2) (nn := 18) dX11_saves_17 rfl rfl rfl ?_
    refine zx_imul (nn := 19) dX11_saves_18 rfl ?_
    refine zx_iadd (nn := 20) dX11_saves_19 rfl ?_
    refine zx_iconst (v := 1) (nn := 21) rfl dX11_saves_20 rfl ?_
    refine zx_iadd (nn := 22) dX11_saves_21 rfl ?_
    rw [show (7 + (4 * (nI k))) + 1 = nI (7 + 4 * k + 1) from by simp only [show (2 : Int32) = nI 2 from rfl, show (3 : Int32) = nI 3 from rfl, show (1 : Int32) = nI 1 from rfl, show (4 : Int32) = nI 4 from rfl, show (5 : Int32) = nI 5 from rfl, show (7 : Int32) = nI 7 from rfl, show (31 : Int32) = nI 31 from rfl, show (47 : Int32) = nI 47 from rfl, show (71 : Int32) = nI 71 from rfl, show (111 : Int32) = nI 111 from rfl, nI_mulN, nI_add]]
    show zX shR σ 0 MX11_saves 22 [(0, zr 0), (1, zr 11), (2, zi (nI k))] [zi (nI (7 + 4 * k + 1)), zr 1, zi (nI k), zr 11] μ1 _
    refine zx_iald_n (j := 7 + 4 * k + 1) (nn := 23) rfl (by omega) (by decide) dX11_saves_22 rfl ?_
    rw [show μ1 1 (7 + 4 * k + 1) = μ 1 (7 + 4 * k + 1) from by rw [e1]]
    show zX shR σ 0 MX11_saves 23 [(0, zr 0), (1, zr 11), (2, zi (nI k))] [zi (μ 1 (7 + 4 * k + 1)), zi (nI k), zr 11] μ1 _
    refine zx_iast_n (j := k) (nn := 24) rfl (by omega) (by decide) dX11_saves_23 rfl ?_
    refine zx_iinc (k := 2) (v := nI (k + 1)) (lv' := [(2, zi (nI (k + 1))), (0, zr 0), (1, zr 11)]) (nn := 27) dX11_saves_24 rfl (nI_1 k) (by decide) rfl rfl ?_
    refine zx_goto (tgt := 2) dX11_saves_27 (by decide) ?_
    refine zx_lv (lv' := [(0, zr 0), (1, zr 11), (2, zi (nI (k + 1)))]) [1, 2, 0] rfl ?_
    exact ih2 (k + 1, zp μ1 11 k (μ 1 (7 + 4 * k + 1))) (show (k + 1) ≤ 6 ∧ zJ [11] μ (zp μ1 11 k (μ 1 (7 + 4 * k + 1))) ∧ ∀ j, j < (k + 1) → (zp μ1 11 k (μ 1 (7 + 4 * k + 1))) 11 j = μ 1 (7 + 4 * j + 1) from ⟨by omega, hr2.p (by decide), fun j hj => (Decidable.em (j = k)).elim (fun e => by subst e; rw [zp_eq, pk_us]) (fun e => by rw [zp_eq, pk_un (by omega)]; exact hr3 j (by omega))⟩) (by show 6 - (k + 1) < 6 - k; omega)
set_option maxHeartbeats 4000000 in
set_option maxRecDepth 100000 in
theorem eX11_putsBack_11 (σ : zG) (μ : zM) : zMet shR σ 0 MX11_putsBack yX11_putsBack [zr 0, zr 11] μ (fun rr μ' => rr = none ∧ zJ [1] μ μ' ∧ μ' 1 = rPb (μ 1) (μ 11)) := by
  refine zmetF (by decide +kernel) rfl (Nat.le_of_ble_eq_true rfl) ?_
  show zX shR σ 0 MX11_putsBack 0 [(0, zr 0), (1, zr 11)] [] μ _
  refine zx_iconst (v := 0) (nn := 1) rfl dX11_putsBack_0 rfl ?_
  refine zx_istore_n (nn := 2) (lv' := [(2, zi 0), (0, zr 0), (1, zr 11)]) dX11_putsBack_1 rfl (by decide) rfl rfl ?_
  refine zx_lv (lv' := [(0, zr 0), (1, zr 11), (2, zi 0)]) [1, 2, 0] rfl ?_
  refine zx_while (τ := Nat × zM) (fun t_ => 6 - t_.1) (fun t_ => t_.1 ≤ 6 ∧ zJ [1] μ t_.2 ∧ ∀ i, t_.2 1 i = if 7 ≤ i ∧ i < 7 + 4 * t_.1 ∧ (i - 7) % 4 = 1 then μ 11 ((i - 7) / 4) else μ 1 i) (fun t_ => [(0, zr 0), (1, zr 11), (2, zi (nI t_.1))]) (fun t_ => t_.2) (t0 := (0, μ)) (show 0 ≤ 6 ∧ zJ [1] μ μ ∧ ∀ i, μ 1 i = if 7 ≤ i ∧ i < 7 + 4 * 0 ∧ (i - 7) % 4 = 1 then μ 11 ((i - 7) / 4) else μ 1 i from ⟨Nat.zero_le _, zJ.rf, fun i => by rw [if_neg (by omega)]⟩) ?_
  rintro ⟨k, μ1⟩ hI ih2
  replace hI : k ≤ 6 ∧ zJ [1] μ μ1 ∧ ∀ i, μ1 1 i = if 7 ≤ i ∧ i < 7 + 4 * k ∧ (i - 7) % 4 = 1 then μ 11 ((i - 7) / 4) else μ 1 i := hI
  show zX shR σ 0 MX11_putsBack 2 [(0, zr 0), (1, zr 11), (2, zi (nI k))] [] μ1 _
  obtain ⟨hr1, hr2, hr3⟩ := hI
  have er : μ1 11 = μ 11 := hr2 11 (by decide)
  refine zx_iload_n (k := 2) (nn := 3) dX11_putsBack_2 rfl rfl rfl ?_
  refine zx_bipush (v := 6) (nn := 5) rfl dX11_putsBack_3 rfl ?_
  refine zx_icmp_ge (tgt := 30) (nn := 8) dX11_putsBack_5 (by decide) rfl (fun h5 => ?_) (fun h5 => ?_)
  · refine zx_aload_n (k := 0) (nn := 31) dX11_putsBack_30 rfl rfl rfl ?_
    refine zx_getR (q := 1) (nn := 34) flX11_9 rfl rfl dX11_putsBack_31 rfl ?_
    refine zx_iconst (v := 2) (nn := 35) rfl dX11_putsBack_34 rfl ?_
    refine zx_aload_n (k := 1) (nn := 36) dX11_putsBack_35 rfl rfl rfl ?_
    refine zx_bipush (v := 6) (nn := 38) rfl dX11_putsBack_36 rfl ?_
    refine zx_iald_n (j := 6) (nn := 39) rfl (by omega) (by decide) dX11_putsBack_38 rfl ?_
    refine zx_iast_n (j := 2) (nn := 40) rfl (by omega) (by decide) dX11_putsBack_39 rfl ?_
    refine zx_aload_n (k := 0) (nn := 41) dX11_putsBack_40 rfl rfl rfl ?_
    refine zx_getR (q := 1) (nn := 44) flX11_9 rfl rfl dX11_putsBack_41 rfl ?_
    refine zx_iconst (v := 3) (nn := 45) rfl dX11_putsBack_44 rfl ?_
    refine zx_aload_n (k := 1) (nn := 46) dX11_putsBack_45 rfl rfl rfl ?_
    refine zx_bipush (v := 7) (nn := 48) rfl dX11_putsBack_46 rfl ?_
    refine zx_iald_n (j := 7) (nn := 49) rfl (by omega) (by decide) dX11_putsBack_48 rfl ?_
    show zX shR σ 0 MX11_putsBack 49 [(0, zr 0), (1, zr 11), (2, zi (nI k))] [zi (μ1 11 7), zi 3, zr 1] (zp μ1 1 2 (μ1 11 6)) _
    refine zx_iast_n (j := 3) (nn := 50) rfl (by omega) (by decide) dX11_putsBack_49 rfl ?_
    refine zx_vret rfl dX11_putsBack_50 ?_
    have hge := nI_le_le (b := 6) h5 (by omega)
    refine ⟨rfl, (hr2.p (by decide)).p (by decide), ?_⟩
    funext i
    rw [zp_eq, zp_eq]
    unfold rPb
    by_cases q3 : i = 3
    · rw [q3, pk_us, if_neg (by decide), if_pos rfl, er]
    · rw [pk_un q3]
      by_cases q2 : i = 2
      · rw [q2, pk_us, if_pos rfl, er]
      · rw [pk_un q2, if_neg q2, if_neg q3, hr3 i]
        by_cases c : 7 ≤ i ∧ i < 31 ∧ (i - 7) % 4 = 1
        · rw [if_pos c, if_pos (by omega)]
        · rw [if_neg c, if_neg (by omega)]
  · have hlt : k < 6 := nI_nle_lt (b := 6) h5 (by omega)
    refine zx_aload_n (k := 0) (nn := 9) dX11_putsBack_8 rfl rfl rfl ?_
    refine zx_getR (q := 1) (nn := 12) flX11_9 rfl rfl dX11_putsBack_9 rfl ?_
    refine zx_bipush (v := 7) (nn := 14) rfl dX11_putsBack_12 rfl ?_
    refine zx_iconst (v := 4) (nn := 15) rfl dX11_putsBack_14 rfl ?_
    refine zx_iload_n (k := 2) (nn := 16) dX11_putsBack_15 rfl rfl rfl ?_
    refine zx_imul (nn := 17) dX11_putsBack_16 rfl ?_
    refine zx_iadd (nn := 18) dX11_putsBack_17 rfl ?_
    refine zx_iconst (v := 1) (nn := 19) rfl dX11_putsBack_18 rfl ?_
    refine zx_iadd (nn := 20) dX11_putsBack_19 rfl ?_
    rw [show (7 + (4 * (nI k))) + 1 = nI (7 + 4 * k + 1) from by simp only [show (2 : Int32) = nI 2 from rfl, show (3 : Int32) = nI 3 from rfl, show (1 : Int32) = nI 1 from rfl, show (4 : Int32) = nI 4 from rfl, show (5 : Int32) = nI 5 from rfl, show (7 : Int32) = nI 7 from rfl, show (31 : Int32) = nI 31 from rfl, show (47 : Int32) = nI 47 from rfl, show (71 : Int32) = nI 71 from rfl, show (111 : Int32) = nI 111 from rfl, nI_mulN, nI_add]]
    show zX shR σ 0 MX11_putsBack 20 [(0, zr 0), (1, zr 11), (2, zi (nI k))] [zi (nI (7 + 4 * k + 1)), zr 1] μ1 _
    refine zx_aload_n (k := 1) (nn := 21) dX11_putsBack_20 rfl rfl rfl ?_
    refine zx_iload_n (k := 2) (nn := 22) dX11_putsBack_21 rfl rfl rfl ?_
    refine zx_iald_n (j := k) (nn := 23) rfl (by omega) (by decide) dX11_putsBack_22 rfl ?_
    rw [show μ1 11 k = μ 11 k from by rw [er]]
    show zX shR σ 0 MX11_putsBack 23 [(0, zr 0), (1, zr 11), (2, zi (nI k))] [zi (μ 11 k), zi (nI (7 + 4 * k + 1)), zr 1] μ1 _
    refine zx_iast_n (j := 7 + 4 * k + 1) (nn := 24) rfl (by omega) (by decide) dX11_putsBack_23 rfl ?_
    refine zx_iinc (k := 2) (v := nI (k + 1)) (lv' := [(2, zi (nI (k + 1))), (0, zr 0), (1, zr 11)]) (nn := 27) dX11_putsBack_24 rfl (nI_1 k) (by decide) rfl rfl ?_
    refine zx_goto (tgt := 2) dX11_putsBack_27 (by decide) ?_
    refine zx_lv (lv' := [(0, zr 0), (1, zr 11), (2, zi (nI (k + 1)))]) [1, 2, 0] rfl ?_
    exact ih2 (k + 1, zp μ1 1 (7 + 4 * k + 1) (μ 11 k)) (show (k + 1) ≤ 6 ∧ zJ [1] μ (zp μ1 1 (7 + 4 * k + 1) (μ 11 k)) ∧ ∀ i, (zp μ1 1 (7 + 4 * k + 1) (μ 11 k)) 1 i = if 7 ≤ i ∧ i < 7 + 4 * (k + 1) ∧ (i - 7) % 4 = 1 then μ 11 ((i - 7) / 4) else μ 1 i from ⟨by omega, hr2.p (by decide), fun i => by
            rw [zp_eq]
            by_cases e : i = 7 + 4 * k + 1
            · rw [e, pk_us, if_pos (by omega), show (7 + 4 * k + 1 - 7) / 4 = k by omega]
            · rw [pk_un e, hr3 i]
              by_cases c : 7 ≤ i ∧ i < 7 + 4 * k ∧ (i - 7) % 4 = 1
              · rw [if_pos c, if_pos (by omega)]
              · rw [if_neg c, if_neg (by omega)]⟩) (by show 6 - (k + 1) < 6 - k; omega)
set_option maxHeartbeats 4000000 in
set_option maxRecDepth 100000 in
theorem eX11_saves_12 (σ : zG) (μ : zM) : zMet shR σ 0 MX11_saves yX11_saves [zr 0, zr 12] μ (fun rr μ' => rr = none ∧ zJ [12] μ μ' ∧ rSav (μ 1) (μ' 12)) := by
  refine zmetF (by decide +kernel) rfl (Nat.le_of_ble_eq_true rfl) ?_
  show zX shR σ 0 MX11_saves 0 [(0, zr 0), (1, zr 12)] [] μ _
  refine zx_iconst (v := 0) (nn := 1) rfl dX11_saves_0 rfl ?_
  refine zx_istore_n (nn := 2) (lv' := [(2, zi 0), (0, zr 0), (1, zr 12)]) dX11_saves_1 rfl (by decide) rfl rfl ?_
  refine zx_lv (lv' := [(0, zr 0), (1, zr 12), (2, zi 0)]) [1, 2, 0] rfl ?_
  refine zx_while (τ := Nat × zM) (fun t_ => 6 - t_.1) (fun t_ => t_.1 ≤ 6 ∧ zJ [12] μ t_.2 ∧ ∀ j, j < t_.1 → t_.2 12 j = μ 1 (7 + 4 * j + 1)) (fun t_ => [(0, zr 0), (1, zr 12), (2, zi (nI t_.1))]) (fun t_ => t_.2) (t0 := (0, μ)) (show 0 ≤ 6 ∧ zJ [12] μ μ ∧ ∀ j, j < 0 → μ 12 j = μ 1 (7 + 4 * j + 1) from ⟨Nat.zero_le _, zJ.rf, fun j hj => absurd hj (by omega)⟩) ?_
  rintro ⟨k, μ1⟩ hI ih2
  replace hI : k ≤ 6 ∧ zJ [12] μ μ1 ∧ ∀ j, j < k → μ1 12 j = μ 1 (7 + 4 * j + 1) := hI
  show zX shR σ 0 MX11_saves 2 [(0, zr 0), (1, zr 12), (2, zi (nI k))] [] μ1 _
  obtain ⟨hr1, hr2, hr3⟩ := hI
  have e1 : μ1 1 = μ 1 := hr2 1 (by decide)
  refine zx_iload_n (k := 2) (nn := 3) dX11_saves_2 rfl rfl rfl ?_
  refine zx_bipush (v := 6) (nn := 5) rfl dX11_saves_3 rfl ?_
  refine zx_icmp_ge (tgt := 30) (nn := 8) dX11_saves_5 (by decide) rfl (fun h5 => ?_) (fun h5 => ?_)
  · refine zx_aload_n (k := 1) (nn := 31) dX11_saves_30 rfl rfl rfl ?_
    refine zx_bipush (v := 6) (nn := 33) rfl dX11_saves_31 rfl ?_
    refine zx_aload_n (k := 0) (nn := 34) dX11_saves_33 rfl rfl rfl ?_
    refine zx_getR (q := 1) (nn := 37) flX11_9 rfl rfl dX11_saves_34 rfl ?_
    refine zx_iconst (v := 2) (nn := 38) rfl dX11_saves_37 rfl ?_
    refine zx_iald_n (j := 2) (nn := 39) rfl (by omega) (by decide) dX11_saves_38 rfl ?_
    refine zx_iast_n (j := 6) (nn := 40) rfl (by omega) (by decide) dX11_saves_39 rfl ?_
    refine zx_aload_n (k := 1) (nn := 41) dX11_saves_40 rfl rfl rfl ?_
    refine zx_bipush (v := 7) (nn := 43) rfl dX11_saves_41 rfl ?_
    refine zx_aload_n (k := 0) (nn := 44) dX11_saves_43 rfl rfl rfl ?_
    refine zx_getR (q := 1) (nn := 47) flX11_9 rfl rfl dX11_saves_44 rfl ?_
    refine zx_iconst (v := 3) (nn := 48) rfl dX11_saves_47 rfl ?_
    refine zx_iald_n (j := 3) (nn := 49) rfl (by omega) (by decide) dX11_saves_48 rfl ?_
    show zX shR σ 0 MX11_saves 49 [(0, zr 0), (1, zr 12), (2, zi (nI k))] [zi (μ1 1 3), zi 7, zr 12] (zp μ1 12 6 (μ1 1 2)) _
    refine zx_iast_n (j := 7) (nn := 50) rfl (by omega) (by decide) dX11_saves_49 rfl ?_
    refine zx_vret rfl dX11_saves_50 ?_
    have hge := nI_le_le (b := 6) h5 (by omega)
    refine ⟨rfl, (hr2.p (by decide)).p (by decide), fun j hj => ?_, ?_, ?_⟩
    · rw [zp_eq, pk_un (by omega), zp_eq, pk_un (by omega)]; exact hr3 j (by omega)
    · rw [zp_eq, pk_un (by decide), zp_eq, pk_us, e1]
    · rw [zp_eq, pk_us, e1]
  · have hlt : k < 6 := nI_nle_lt (b := 6) h5 (by omega)
    refine zx_aload_n (k := 1) (nn := 9) dX11_saves_8 rfl rfl rfl ?_
    refine zx_iload_n (k := 2) (nn := 10) dX11_saves_9 rfl rfl rfl ?_
    refine zx_aload_n (k := 0) (nn := 11) dX11_saves_10 rfl rfl rfl ?_
    refine zx_getR (q := 1) (nn := 14) flX11_9 rfl rfl dX11_saves_11 rfl ?_
    refine zx_bipush (v := 7) (nn := 16) rfl dX11_saves_14 rfl ?_
    refine zx_iconst (v := 4) (nn := 17) rfl dX11_saves_16 rfl ?_
    refine zx_iload_n (k := 2) (nn := 18) dX11_saves_17 rfl rfl rfl ?_
    refine zx_imul (nn := 19) dX11_saves_18 rfl ?_
    refine zx_iadd (nn := 20) dX11_saves_19 rfl ?_
    refine zx_iconst (v := 1) (nn := 21) rfl dX11_saves_20 rfl ?_
    refine zx_iadd (nn := 22) dX11_saves_21 rfl ?_
    rw [show (7 + (4 * (nI k))) + 1 = nI (7 + 4 * k + 1) from by simp only [show (2 : Int32) = nI 2 from rfl, show (3 : Int32) = nI 3 from rfl, show (1 : Int32) = nI 1 from rfl, show (4 : Int32) = nI 4 from rfl, show (5 : Int32) = nI 5 from rfl, show (7 : Int32) = nI 7 from rfl, show (31 : Int32) = nI 31 from rfl, show (47 : Int32) = nI 47 from rfl, show (71 : Int32) = nI 71 from rfl, show (111 : Int32) = nI 111 from rfl, nI_mulN, nI_add]]
    show zX shR σ 0 MX11_saves 22 [(0, zr 0), (1, zr 12), (2, zi (nI k))] [zi (nI (7 + 4 * k + 1)), zr 1, zi (nI k), zr 12] μ1 _
    refine zx_iald_n (j := 7 + 4 * k + 1) (nn := 23) rfl (by omega) (by decide) dX11_saves_22 rfl ?_
    rw [show μ1 1 (7 + 4 * k + 1) = μ 1 (7 + 4 * k + 1) from by rw [e1]]
    show zX shR σ 0 MX11_saves 23 [(0, zr 0), (1, zr 12), (2, zi (nI k))] [zi (μ 1 (7 + 4 * k + 1)), zi (nI k), zr 12] μ1 _
    refine zx_iast_n (j := k) (nn := 24) rfl (by omega) (by decide) dX11_saves_23 rfl ?_
    refine zx_iinc (k := 2) (v := nI (k + 1)) (lv' := [(2, zi (nI (k + 1))), (0, zr 0), (1, zr 12)]) (nn := 27) dX11_saves_24 rfl (nI_1 k) (by decide) rfl rfl ?_
    refine zx_goto (tgt := 2) dX11_saves_27 (by decide) ?_
    refine zx_lv (lv' := [(0, zr 0), (1, zr 12), (2, zi (nI (k + 1)))]) [1, 2, 0] rfl ?_
    exact ih2 (k + 1, zp μ1 12 k (μ 1 (7 + 4 * k + 1))) (show (k + 1) ≤ 6 ∧ zJ [12] μ (zp μ1 12 k (μ 1 (7 + 4 * k + 1))) ∧ ∀ j, j < (k + 1) → (zp μ1 12 k (μ 1 (7 + 4 * k + 1))) 12 j = μ 1 (7 + 4 * j + 1) from ⟨by omega, hr2.p (by decide), fun j hj => (Decidable.em (j = k)).elim (fun e => by subst e; rw [zp_eq, pk_us]) (fun e => by rw [zp_eq, pk_un (by omega)]; exact hr3 j (by omega))⟩) (by show 6 - (k + 1) < 6 - k; omega)
set_option maxHeartbeats 4000000 in
set_option maxRecDepth 100000 in
theorem eX11_putsBack_12 (σ : zG) (μ : zM) : zMet shR σ 0 MX11_putsBack yX11_putsBack [zr 0, zr 12] μ (fun rr μ' => rr = none ∧ zJ [1] μ μ' ∧ μ' 1 = rPb (μ 1) (μ 12)) := by
  refine zmetF (by decide +kernel) rfl (Nat.le_of_ble_eq_true rfl) ?_
  show zX shR σ 0 MX11_putsBack 0 [(0, zr 0), (1, zr 12)] [] μ _
  refine zx_iconst (v := 0) (nn := 1) rfl dX11_putsBack_0 rfl ?_
  refine zx_istore_n (nn := 2) (lv' := [(2, zi 0), (0, zr 0), (1, zr 12)]) dX11_putsBack_1 rfl (by decide) rfl rfl ?_
  refine zx_lv (lv' := [(0, zr 0), (1, zr 12), (2, zi 0)]) [1, 2, 0] rfl ?_
  refine zx_while (τ := Nat × zM) (fun t_ => 6 - t_.1) (fun t_ => t_.1 ≤ 6 ∧ zJ [1] μ t_.2 ∧ ∀ i, t_.2 1 i = if 7 ≤ i ∧ i < 7 + 4 * t_.1 ∧ (i - 7) % 4 = 1 then μ 12 ((i - 7) / 4) else μ 1 i) (fun t_ => [(0, zr 0), (1, zr 12), (2, zi (nI t_.1))]) (fun t_ => t_.2) (t0 := (0, μ)) (show 0 ≤ 6 ∧ zJ [1] μ μ ∧ ∀ i, μ 1 i = if 7 ≤ i ∧ i < 7 + 4 * 0 ∧ (i - 7) % 4 = 1 then μ 12 ((i - 7) / 4) else μ 1 i from ⟨Nat.zero_le _, zJ.rf, fun i => by rw [if_neg (by omega)]⟩) ?_
  rintro ⟨k, μ1⟩ hI ih2
  replace hI : k ≤ 6 ∧ zJ [1] μ μ1 ∧ ∀ i, μ1 1 i = if 7 ≤ i ∧ i < 7 + 4 * k ∧ (i - 7) % 4 = 1 then μ 12 ((i - 7) / 4) else μ 1 i := hI
  show zX shR σ 0 MX11_putsBack 2 [(0, zr 0), (1, zr 12), (2, zi (nI k))] [] μ1 _
  obtain ⟨hr1, hr2, hr3⟩ := hI
  have er : μ1 12 = μ 12 := hr2 12 (by decide)
  refine zx_iload_n (k := 2) (nn := 3) dX11_putsBack_2 rfl rfl rfl ?_
  refine zx_bipush (v := 6) (nn := 5) rfl dX11_putsBack_3 rfl ?_
  refine zx_icmp_ge (tgt := 30) (nn := 8) dX11_putsBack_5 (by decide) rfl (fun h5 => ?_) (fun h5 => ?_)
  · refine zx_aload_n (k := 0) (nn := 31) dX11_putsBack_30 rfl rfl rfl ?_
    refine zx_getR (q := 1) (nn := 34) flX11_9 rfl rfl dX11_putsBack_31 rfl ?_
    refine zx_iconst (v := 2) (nn := 35) rfl dX11_putsBack_34 rfl ?_
    refine zx_aload_n (k := 1) (nn := 36) dX11_putsBack_35 rfl rfl rfl ?_
    refine zx_bipush (v := 6) (nn := 38) rfl dX11_putsBack_36 rfl ?_
    refine zx_iald_n (j := 6) (nn := 39) rfl (by omega) (by decide) dX11_putsBack_38 rfl ?_
    refine zx_iast_n (j := 2) (nn := 40) rfl (by omega) (by decide) dX11_putsBack_39 rfl ?_
    refine zx_aload_n (k := 0) (nn := 41) dX11_putsBack_40 rfl rfl rfl ?_
    refine zx_getR (q := 1) (nn := 44) flX11_9 rfl rfl dX11_putsBack_41 rfl ?_
    refine zx_iconst (v := 3) (nn := 45) rfl dX11_putsBack_44 rfl ?_
    refine zx_aload_n (k := 1) (nn := 46) dX11_putsBack_45 rfl rfl rfl ?_
    refine zx_bipush (v := 7) (nn := 48) rfl dX11_putsBack_46 rfl ?_
    refine zx_iald_n (j := 7) (nn := 49) rfl (by omega) (by decide) dX11_putsBack_48 rfl ?_
    show zX shR σ 0 MX11_putsBack 49 [(0, zr 0), (1, zr 12), (2, zi (nI k))] [zi (μ1 12 7), zi 3, zr 1] (zp μ1 1 2 (μ1 12 6)) _
    refine zx_iast_n (j := 3) (nn := 50) rfl (by omega) (by decide) dX11_putsBack_49 rfl ?_
    refine zx_vret rfl dX11_putsBack_50 ?_
    have hge := nI_le_le (b := 6) h5 (by omega)
    refine ⟨rfl, (hr2.p (by decide)).p (by decide), ?_⟩
    funext i
    rw [zp_eq, zp_eq]
    unfold rPb
    by_cases q3 : i = 3
    · rw [q3, pk_us, if_neg (by decide), if_pos rfl, er]
    · rw [pk_un q3]
      by_cases q2 : i = 2
      · rw [q2, pk_us, if_pos rfl, er]
      · rw [pk_un q2, if_neg q2, if_neg q3, hr3 i]
        by_cases c : 7 ≤ i ∧ i < 31 ∧ (i - 7) % 4 = 1
        · rw [if_pos c, if_pos (by omega)]
        · rw [if_neg c, if_neg (by omega)]
  · have hlt : k < 6 := nI_nle_lt (b := 6) h5 (by omega)
    refine zx_aload_n (k := 0) (nn := 9) dX11_putsBack_8 rfl rfl rfl ?_
    refine zx_getR (q := 1) (nn := 12) flX11_9 rfl rfl dX11_putsBack_9 rfl ?_
    refine zx_bipush (v := 7) (nn := 14) rfl dX11_putsBack_12 rfl ?_
    refine zx_iconst (v := 4) (nn := 15) rfl dX11_putsBack_14 rfl ?_
    refine zx_iload_n (k := 2) (nn := 16) dX11_putsBack_15 rfl rfl rfl ?_
    refine zx_imul (nn := 17) dX11_putsBack_16 rfl ?_
    refine zx_iadd (nn := 18) dX11_putsBack_17 rfl ?_
    refine zx_iconst (v := 1) (nn := 19) rfl dX11_putsBack_18 rfl ?_
    refine zx_iadd (nn := 20) dX11_putsBack_19 rfl ?_
    rw [show (7 + (4 * (nI k))) + 1 = nI (7 + 4 * k + 1) from by simp only [show (2 : Int32) = nI 2 from rfl, show (3 : Int32) = nI 3 from rfl, show (1 : Int32) = nI 1 from rfl, show (4 : Int32) = nI 4 from rfl, show (5 : Int32) = nI 5 from rfl, show (7 : Int32) = nI 7 from rfl, show (31 : Int32) = nI 31 from rfl, show (47 : Int32) = nI 47 from rfl, show (71 : Int32) = nI 71 from rfl, show (111 : Int32) = nI 111 from rfl, nI_mulN, nI_add]]
    show zX shR σ 0 MX11_putsBack 20 [(0, zr 0), (1, zr 12), (2, zi (nI k))] [zi (nI (7 + 4 * k + 1)), zr 1] μ1 _
    refine zx_aload_n (k := 1) (nn := 21) dX11_putsBack_20 rfl rfl rfl ?_
    refine zx_iload_n (k := 2) (nn := 22) dX11_putsBack_21 rfl rfl rfl ?_
    refine zx_iald_n (j := k) (nn := 23) rfl (by omega) (by decide) dX11_putsBack_22 rfl ?_
    rw [show μ1 12 k = μ 12 k from by rw [er]]
    show zX shR σ 0 MX11_putsBack 23 [(0, zr 0), (1, zr 12), (2, zi (nI k))] [zi (μ 12 k), zi (nI (7 + 4 * k + 1)), zr 1] μ1 _
    refine zx_iast_n (j := 7 + 4 * k + 1) (nn := 24) rfl (by omega) (by decide) dX11_putsBack_23 rfl ?_
    refine zx_iinc (k := 2) (v := nI (k + 1)) (lv' := [(2, zi (nI (k + 1))), (0, zr 0), (1, zr 12)]) (nn := 27) dX11_putsBack_24 rfl (nI_1 k) (by decide) rfl rfl ?_
    refine zx_goto (tgt := 2) dX11_putsBack_27 (by decide) ?_
    refine zx_lv (lv' := [(0, zr 0), (1, zr 12), (2, zi (nI (k + 1)))]) [1, 2, 0] rfl ?_
    exact ih2 (k + 1, zp μ1 1 (7 + 4 * k + 1) (μ 12 k)) (show (k + 1) ≤ 6 ∧ zJ [1] μ (zp μ1 1 (7 + 4 * k + 1) (μ 12 k)) ∧ ∀ i, (zp μ1 1 (7 + 4 * k + 1) (μ 12 k)) 1 i = if 7 ≤ i ∧ i < 7 + 4 * (k + 1) ∧ (i - 7) % 4 = 1 then μ 12 ((i - 7) / 4) else μ 1 i from ⟨by omega, hr2.p (by decide), fun i => by
            rw [zp_eq]
            by_cases e : i = 7 + 4 * k + 1
            · rw [e, pk_us, if_pos (by omega), show (7 + 4 * k + 1 - 7) / 4 = k by omega]
            · rw [pk_un e, hr3 i]
              by_cases c : 7 ≤ i ∧ i < 7 + 4 * k ∧ (i - 7) % 4 = 1
              · rw [if_pos c, if_pos (by omega)]
              · rw [if_neg c, if_neg (by omega)]⟩) (by show 6 - (k + 1) < 6 - k; omega)
set_option maxHeartbeats 4000000 in
set_option maxRecDepth 100000 in
theorem eX11_saves_13 (σ : zG) (μ : zM) : zMet shR σ 0 MX11_saves yX11_saves [zr 0, zr 13] μ (fun rr μ' => rr = none ∧ zJ [13] μ μ' ∧ rSav (μ 1) (μ' 13)) := by
  refine zmetF (by decide +kernel) rfl (Nat.le_of_ble_eq_true rfl) ?_
  show zX shR σ 0 MX11_saves 0 [(0, zr 0), (1, zr 13)] [] μ _
  refine zx_iconst (v := 0) (nn := 1) rfl dX11_saves_0 rfl ?_
  refine zx_istore_n (nn := 2) (lv' := [(2, zi 0), (0, zr 0), (1, zr 13)]) dX11_saves_1 rfl (by decide) rfl rfl ?_
  refine zx_lv (lv' := [(0, zr 0), (1, zr 13), (2, zi 0)]) [1, 2, 0] rfl ?_
  refine zx_while (τ := Nat × zM) (fun t_ => 6 - t_.1) (fun t_ => t_.1 ≤ 6 ∧ zJ [13] μ t_.2 ∧ ∀ j, j < t_.1 → t_.2 13 j = μ 1 (7 + 4 * j + 1)) (fun t_ => [(0, zr 0), (1, zr 13), (2, zi (nI t_.1))]) (fun t_ => t_.2) (t0 := (0, μ)) (show 0 ≤ 6 ∧ zJ [13] μ μ ∧ ∀ j, j < 0 → μ 13 j = μ 1 (7 + 4 * j + 1) from ⟨Nat.zero_le _, zJ.rf, fun j hj => absurd hj (by omega)⟩) ?_
  rintro ⟨k, μ1⟩ hI ih2
  replace hI : k ≤ 6 ∧ zJ [13] μ μ1 ∧ ∀ j, j < k → μ1 13 j = μ 1 (7 + 4 * j + 1) := hI
  show zX shR σ 0 MX11_saves 2 [(0, zr 0), (1, zr 13), (2, zi (nI k))] [] μ1 _
  obtain ⟨hr1, hr2, hr3⟩ := hI
  have e1 : μ1 1 = μ 1 := hr2 1 (by decide)
  refine zx_iload_n (k := 2) (nn := 3) dX11_saves_2 rfl rfl rfl ?_
  refine zx_bipush (v := 6) (nn := 5) rfl dX11_saves_3 rfl ?_
  refine zx_icmp_ge (tgt := 30) (nn := 8) dX11_saves_5 (by decide) rfl (fun h5 => ?_) (fun h5 => ?_)
  · refine zx_aload_n (k := 1) (nn := 31) dX11_saves_30 rfl rfl rfl ?_
    refine zx_bipush (v := 6) (nn := 33) rfl dX11_saves_31 rfl ?_
    refine zx_aload_n (k := 0) (nn := 34) dX11_saves_33 rfl rfl rfl ?_
    refine zx_getR (q := 1) (nn := 37) flX11_9 rfl rfl dX11_saves_34 rfl ?_
    refine zx_iconst (v := 2) (nn := 38) rfl dX11_saves_37 rfl ?_
    refine zx_iald_n (j := 2) (nn := 39) rfl (by omega) (by decide) dX11_saves_38 rfl ?_
    refine zx_iast_n (j := 6) (nn := 40) rfl (by omega) (by decide) dX11_saves_39 rfl ?_
    refine zx_aload_n (k := 1) (nn := 41) dX11_saves_40 rfl rfl rfl ?_
    refine zx_bipush (v := 7) (nn := 43) rfl dX11_saves_41 rfl ?_
    refine zx_aload_n (k := 0) (nn := 44) dX11_saves_43 rfl rfl rfl ?_
    refine zx_getR (q := 1) (nn := 47) flX11_9 rfl rfl dX11_saves_44 rfl ?_
    refine zx_iconst (v := 3) (nn := 48) rfl dX11_saves_47 rfl ?_
    refine zx_iald_n (j := 3) (nn := 49) rfl (by omega) (by decide) dX11_saves_48 rfl ?_
    show zX shR σ 0 MX11_saves 49 [(0, zr 0), (1, zr 13), (2, zi (nI k))] [zi (μ1 1 3), zi 7, zr 13] (zp μ1 13 6 (μ1 1 2)) _
    refine zx_iast_n (j := 7) (nn := 50) rfl (by omega) (by decide) dX11_saves_49 rfl ?_
    refine zx_vret rfl dX11_saves_50 ?_
    have hge := nI_le_le (b := 6) h5 (by omega)
    refine ⟨rfl, (hr2.p (by decide)).p (by decide), fun j hj => ?_, ?_, ?_⟩
    · rw [zp_eq, pk_un (by omega), zp_eq, pk_un (by omega)]; exact hr3 j (by omega)
    · rw [zp_eq, pk_un (by decide), zp_eq, pk_us, e1]
    · rw [zp_eq, pk_us, e1]
  · have hlt : k < 6 := nI_nle_lt (b := 6) h5 (by omega)
    refine zx_aload_n (k := 1) (nn := 9) dX11_saves_8 rfl rfl rfl ?_
    refine zx_iload_n (k := 2) (nn := 10) dX11_saves_9 rfl rfl rfl ?_
    refine zx_aload_n (k := 0) (nn := 11) dX11_saves_10 rfl rfl rfl ?_
    refine zx_getR (q := 1) (nn := 14) flX11_9 rfl rfl dX11_saves_11 rfl ?_
    refine zx_bipush (v := 7) (nn := 16) rfl dX11_saves_14 rfl ?_
    refine zx_iconst (v := 4) (nn := 17) rfl dX11_saves_16 rfl ?_
    refine zx_iload_n (k := 2) (nn := 18) dX11_saves_17 rfl rfl rfl ?_
    refine zx_imul (nn := 19) dX11_saves_18 rfl ?_
    refine zx_iadd (nn := 20) dX11_saves_19 rfl ?_
    refine zx_iconst (v := 1) (nn := 21) rfl dX11_saves_20 rfl ?_
    refine zx_iadd (nn := 22) dX11_saves_21 rfl ?_
    rw [show (7 + (4 * (nI k))) + 1 = nI (7 + 4 * k + 1) from by simp only [show (2 : Int32) = nI 2 from rfl, show (3 : Int32) = nI 3 from rfl, show (1 : Int32) = nI 1 from rfl, show (4 : Int32) = nI 4 from rfl, show (5 : Int32) = nI 5 from rfl, show (7 : Int32) = nI 7 from rfl, show (31 : Int32) = nI 31 from rfl, show (47 : Int32) = nI 47 from rfl, show (71 : Int32) = nI 71 from rfl, show (111 : Int32) = nI 111 from rfl, nI_mulN, nI_add]]
    show zX shR σ 0 MX11_saves 22 [(0, zr 0), (1, zr 13), (2, zi (nI k))] [zi (nI (7 + 4 * k + 1)), zr 1, zi (nI k), zr 13] μ1 _
    refine zx_iald_n (j := 7 + 4 * k + 1) (nn := 23) rfl (by omega) (by decide) dX11_saves_22 rfl ?_
    rw [show μ1 1 (7 + 4 * k + 1) = μ 1 (7 + 4 * k + 1) from by rw [e1]]
    show zX shR σ 0 MX11_saves 23 [(0, zr 0), (1, zr 13), (2, zi (nI k))] [zi (μ 1 (7 + 4 * k + 1)), zi (nI k), zr 13] μ1 _
    refine zx_iast_n (j := k) (nn := 24) rfl (by omega) (by decide) dX11_saves_23 rfl ?_
    refine zx_iinc (k := 2) (v := nI (k + 1)) (lv' := [(2, zi (nI (k + 1))), (0, zr 0), (1, zr 13)]) (nn := 27) dX11_saves_24 rfl (nI_1 k) (by decide) rfl rfl ?_
    refine zx_goto (tgt := 2) dX11_saves_27 (by decide) ?_
    refine zx_lv (lv' := [(0, zr 0), (1, zr 13), (2, zi (nI (k + 1)))]) [1, 2, 0] rfl ?_
    exact ih2 (k + 1, zp μ1 13 k (μ 1 (7 + 4 * k + 1))) (show (k + 1) ≤ 6 ∧ zJ [13] μ (zp μ1 13 k (μ 1 (7 + 4 * k + 1))) ∧ ∀ j, j < (k + 1) → (zp μ1 13 k (μ 1 (7 + 4 * k + 1))) 13 j = μ 1 (7 + 4 * j + 1) from ⟨by omega, hr2.p (by decide), fun j hj => (Decidable.em (j = k)).elim (fun e => by subst e; rw [zp_eq, pk_us]) (fun e => by rw [zp_eq, pk_un (by omega)]; exact hr3 j (by omega))⟩) (by show 6 - (k + 1) < 6 - k; omega)
set_option maxHeartbeats 4000000 in
set_option maxRecDepth 100000 in
theorem eX11_putsBack_13 (σ : zG) (μ : zM) : zMet shR σ 0 MX11_putsBack yX11_putsBack [zr 0, zr 13] μ (fun rr μ' => rr = none ∧ zJ [1] μ μ' ∧ μ' 1 = rPb (μ 1) (μ 13)) := by
  refine zmetF (by decide +kernel) rfl (Nat.le_of_ble_eq_true rfl) ?_
  show zX shR σ 0 MX11_putsBack 0 [(0, zr 0), (1, zr 13)] [] μ _
  refine zx_iconst (v := 0) (nn := 1) rfl dX11_putsBack_0 rfl ?_
  refine zx_istore_n (nn := 2) (lv' := [(2, zi 0), (0, zr 0), (1, zr 13)]) dX11_putsBack_1 rfl (by decide) rfl rfl ?_
  refine zx_lv (lv' := [(0, zr 0), (1, zr 13), (2, zi 0)]) [1, 2, 0] rfl ?_
  refine zx_while (τ := Nat × zM) (fun t_ => 6 - t_.1) (fun t_ => t_.1 ≤ 6 ∧ zJ [1] μ t_.2 ∧ ∀ i, t_.2 1 i = if 7 ≤ i ∧ i < 7 + 4 * t_.1 ∧ (i - 7) % 4 = 1 then μ 13 ((i - 7) / 4) else μ 1 i) (fun t_ => [(0, zr 0), (1, zr 13), (2, zi (nI t_.1))]) (fun t_ => t_.2) (t0 := (0, μ)) (show 0 ≤ 6 ∧ zJ [1] μ μ ∧ ∀ i, μ 1 i = if 7 ≤ i ∧ i < 7 + 4 * 0 ∧ (i - 7) % 4 = 1 then μ 13 ((i - 7) / 4) else μ 1 i from ⟨Nat.zero_le _, zJ.rf, fun i => by rw [if_neg (by omega)]⟩) ?_
  rintro ⟨k, μ1⟩ hI ih2
  replace hI : k ≤ 6 ∧ zJ [1] μ μ1 ∧ ∀ i, μ1 1 i = if 7 ≤ i ∧ i < 7 + 4 * k ∧ (i - 7) % 4 = 1 then μ 13 ((i - 7) / 4) else μ 1 i := hI
  show zX shR σ 0 MX11_putsBack 2 [(0, zr 0), (1, zr 13), (2, zi (nI k))] [] μ1 _
  obtain ⟨hr1, hr2, hr3⟩ := hI
  have er : μ1 13 = μ 13 := hr2 13 (by decide)
  refine zx_iload_n (k := 2) (nn := 3) dX11_putsBack_2 rfl rfl rfl ?_
  refine zx_bipush (v := 6) (nn := 5) rfl dX11_putsBack_3 rfl ?_
  refine zx_icmp_ge (tgt := 30) (nn := 8) dX11_putsBack_5 (by decide) rfl (fun h5 => ?_) (fun h5 => ?_)
  · refine zx_aload_n (k := 0) (nn := 31) dX11_putsBack_30 rfl rfl rfl ?_
    refine zx_getR (q := 1) (nn := 34) flX11_9 rfl rfl dX11_putsBack_31 rfl ?_
    refine zx_iconst (v := 2) (nn := 35) rfl dX11_putsBack_34 rfl ?_
    refine zx_aload_n (k := 1) (nn := 36) dX11_putsBack_35 rfl rfl rfl ?_
    refine zx_bipush (v := 6) (nn := 38) rfl dX11_putsBack_36 rfl ?_
    refine zx_iald_n (j := 6) (nn := 39) rfl (by omega) (by decide) dX11_putsBack_38 rfl ?_
    refine zx_iast_n (j := 2) (nn := 40) rfl (by omega) (by decide) dX11_putsBack_39 rfl ?_
    refine zx_aload_n (k := 0) (nn := 41) dX11_putsBack_40 rfl rfl rfl ?_
    refine zx_getR (q := 1) (nn := 44) flX11_9 rfl rfl dX11_putsBack_41 rfl ?_
    refine zx_iconst (v := 3) (nn := 45) rfl dX11_putsBack_44 rfl ?_
    refine zx_aload_n (k := 1) (nn := 46) dX11_putsBack_45 rfl rfl rfl ?_
    refine zx_bipush (v := 7) (nn := 48) rfl dX11_putsBack_46 rfl ?_
    refine zx_iald_n (j := 7) (nn := 49) rfl (by omega) (by decide) dX11_putsBack_48 rfl ?_
    show zX shR σ 0 MX11_putsBack 49 [(0, zr 0), (1, zr 13), (2, zi (nI k))] [zi (μ1 13 7), zi 3, zr 1] (zp μ1 1 2 (μ1 13 6)) _
    refine zx_iast_n (j := 3) (nn := 50) rfl (by omega) (by decide) dX11_putsBack_49 rfl ?_
    refine zx_vret rfl dX11_putsBack_50 ?_
    have hge := nI_le_le (b := 6) h5 (by omega)
    refine ⟨rfl, (hr2.p (by decide)).p (by decide), ?_⟩
    funext i
    rw [zp_eq, zp_eq]
    unfold rPb
    by_cases q3 : i = 3
    · rw [q3, pk_us, if_neg (by decide), if_pos rfl, er]
    · rw [pk_un q3]
      by_cases q2 : i = 2
      · rw [q2, pk_us, if_pos rfl, er]
      · rw [pk_un q2, if_neg q2, if_neg q3, hr3 i]
        by_cases c : 7 ≤ i ∧ i < 31 ∧ (i - 7) % 4 = 1
        · rw [if_pos c, if_pos (by omega)]
        · rw [if_neg c, if_neg (by omega)]
  · have hlt : k < 6 := nI_nle_lt (b := 6) h5 (by omega)
    refine zx_aload_n (k := 0) (nn := 9) dX11_putsBack_8 rfl rfl rfl ?_
    refine zx_getR (q := 1) (nn := 12) flX11_9 rfl rfl dX11_putsBack_9 rfl ?_
    refine zx_bipush (v := 7) (nn := 14) rfl dX11_putsBack_12 rfl ?_
    refine zx_iconst (v := 4) (nn := 15) rfl dX11_putsBack_14 rfl ?_
    refine zx_iload_n (k := 2) (nn := 16) dX11_putsBack_15 rfl rfl rfl ?_
    refine zx_imul (nn := 17) dX11_putsBack_16 rfl ?_
    refine zx_iadd (nn := 18) dX11_putsBack_17 rfl ?_
    refine zx_iconst (v := 1) (nn := 19) rfl dX11_putsBack_18 rfl ?_
    refine zx_iadd (nn := 20) dX11_putsBack_19 rfl ?_
    rw [show (7 + (4 * (nI k))) + 1 = nI (7 + 4 * k + 1) from by simp only [show (2 : Int32) = nI 2 from rfl, show (3 : Int32) = nI 3 from rfl, show (1 : Int32) = nI 1 from rfl, show (4 : Int32) = nI 4 from rfl, show (5 : Int32) = nI 5 from rfl, show (7 : Int32) = nI 7 from rfl, show (31 : Int32) = nI 31 from rfl, show (47 : Int32) = nI 47 from rfl, show (71 : Int32) = nI 71 from rfl, show (111 : Int32) = nI 111 from rfl, nI_mulN, nI_add]]
    show zX shR σ 0 MX11_putsBack 20 [(0, zr 0), (1, zr 13), (2, zi (nI k))] [zi (nI (7 + 4 * k + 1)), zr 1] μ1 _
    refine zx_aload_n (k := 1) (nn := 21) dX11_putsBack_20 rfl rfl rfl ?_
    refine zx_iload_n (k := 2) (nn := 22) dX11_putsBack_21 rfl rfl rfl ?_
    refine zx_iald_n (j := k) (nn := 23) rfl (by omega) (by decide) dX11_putsBack_22 rfl ?_
    rw [show μ1 13 k = μ 13 k from by rw [er]]
    show zX shR σ 0 MX11_putsBack 23 [(0, zr 0), (1, zr 13), (2, zi (nI k))] [zi (μ 13 k), zi (nI (7 + 4 * k + 1)), zr 1] μ1 _
    refine zx_iast_n (j := 7 + 4 * k + 1) (nn := 24) rfl (by omega) (by decide) dX11_putsBack_23 rfl ?_
    refine zx_iinc (k := 2) (v := nI (k + 1)) (lv' := [(2, zi (nI (k + 1))), (0, zr 0), (1, zr 13)]) (nn := 27) dX11_putsBack_24 rfl (nI_1 k) (by decide) rfl rfl ?_
    refine zx_goto (tgt := 2) dX11_putsBack_27 (by decide) ?_
    refine zx_lv (lv' := [(0, zr 0), (1, zr 13), (2, zi (nI (k + 1)))]) [1, 2, 0] rfl ?_
    exact ih2 (k + 1, zp μ1 1 (7 + 4 * k + 1) (μ 13 k)) (show (k + 1) ≤ 6 ∧ zJ [1] μ (zp μ1 1 (7 + 4 * k + 1) (μ 13 k)) ∧ ∀ i, (zp μ1 1 (7 + 4 * k + 1) (μ 13 k)) 1 i = if 7 ≤ i ∧ i < 7 + 4 * (k + 1) ∧ (i - 7) % 4 = 1 then μ 13 ((i - 7) / 4) else μ 1 i from ⟨by omega, hr2.p (by decide), fun i => by
            rw [zp_eq]
            by_cases e : i = 7 + 4 * k + 1
            · rw [e, pk_us, if_pos (by omega), show (7 + 4 * k + 1 - 7) / 4 = k by omega]
            · rw [pk_un e, hr3 i]
              by_cases c : 7 ≤ i ∧ i < 7 + 4 * k ∧ (i - 7) % 4 = 1
              · rw [if_pos c, if_pos (by omega)]
              · rw [if_neg c, if_neg (by omega)]⟩) (by show 6 - (k + 1) < 6 - k; omega)
set_option maxHeartbeats 4000000 in
set_option maxRecDepth 100000 in
theorem eX11_showsIt_0 (σ : zG) (μ : zM) (l : Nat) {ρ : pR} (ok : pOK (rS 1 μ)) (ab : pAB (rS 1 μ)) (hl : l < pL (rS 1 μ)) (hρ : rRep ρ (μ 1)) : zMet shR σ 7 MX11_showsIt yX11_showsIt [zr 0, zi (nI l)] μ (fun rr μ' => rr = some (zi (pShow ρ (rS 1 μ) l)) ∧ zJ [4, 6, 7] μ μ') := by
  have hl6 : l < 6 := Nat.lt_of_lt_of_le hl (ok_L ok).2
  have hB16 := (ok_B ok).2
  have hbB := (ok_b ok).2
  have hrem : pRem (rS 1 μ) = pB (rS 1 μ) - pb (rS 1 μ) := rfl
  refine zmetF (by decide +kernel) rfl (Nat.le_of_ble_eq_true rfl) ?_
  show zX shR σ 7 MX11_showsIt 0 [(0, zr 0), (1, zi (nI l))] [] μ _
  refine zx_aload_n (k := 0) (nn := 1) dX11_showsIt_0 rfl rfl rfl ?_
  refine zx_aload_n (k := 0) (nn := 2) dX11_showsIt_1 rfl rfl rfl ?_
  refine zx_getR (q := 7) (nn := 5) flX11_28 rfl rfl dX11_showsIt_2 rfl ?_
  refine zx_callV (nn := 8) (k := 0) (d' := 0) (as := [zr 7]) (rest := []) (n := 1) (eX11_saves_7 σ μ) kX11_saves mlX11_292 rfl rfl rfl (by decide) rfl rfl (Nat.le_of_ble_eq_true rfl) dX11_showsIt_5 rfl ?_
  rintro _ ν1 ⟨rfl, q1⟩
  show zX shR σ 7 MX11_showsIt 8 [(0, zr 0), (1, zi (nI l))] [] ν1 _
  refine zx_iconst (v := 0) (nn := 9) rfl dX11_showsIt_8 rfl ?_
  refine zx_istore_n (nn := 10) (lv' := [(2, zi 0), (0, zr 0), (1, zi (nI l))]) dX11_showsIt_9 rfl (by decide) rfl rfl ?_
  refine zx_lv (lv' := [(0, zr 0), (1, zi (nI l)), (2, zi 0)]) [1, 2, 0] rfl ?_
  refine zx_while (τ := Nat × Int32 × zM) (fun t_ => pRem (rS 1 μ) - t_.1) (fun t_ => t_.1 ≤ pRem (rS 1 μ) ∧ rS 1 t_.2.2 = pRun ρ (rS 1 μ) t_.1 ∧ rQ μ t_.2.2 ∧ zJ [1, 4, 6, 7] μ t_.2.2 ∧ rSav (μ 1) (t_.2.2 7) ∧ t_.2.1 = pSum (fun q_ => pWorth (pRun ρ (rS 1 μ) (q_ + 1)) l ((rS 1 μ) (31 + (pb (rS 1 μ) + q_)))) t_.1) (fun t_ => [(0, zr 0), (1, zi (nI l)), (2, zi t_.2.1)]) (fun t_ => t_.2.2) (t0 := (0, 0, ν1)) (show 0 ≤ pRem (rS 1 μ) ∧ rS 1 ν1 = pRun ρ (rS 1 μ) 0 ∧ rQ μ ν1 ∧ zJ [1, 4, 6, 7] μ ν1 ∧ rSav (μ 1) (ν1 7) ∧ 0 = pSum (fun q_ => pWorth (pRun ρ (rS 1 μ) (q_ + 1)) l ((rS 1 μ) (31 + (pb (rS 1 μ) + q_)))) 0 from ⟨Nat.zero_le _, rS_eq (q1.1 1 (by decide)), rQ_e (q1.1 1 (by decide)), q1.1.mono (by simp), q1.2, rfl⟩) ?_
  rintro ⟨m, v, μ1⟩ hI ih10
  replace hI : m ≤ pRem (rS 1 μ) ∧ rS 1 μ1 = pRun ρ (rS 1 μ) m ∧ rQ μ μ1 ∧ zJ [1, 4, 6, 7] μ μ1 ∧ rSav (μ 1) (μ1 7) ∧ v = pSum (fun q_ => pWorth (pRun ρ (rS 1 μ) (q_ + 1)) l ((rS 1 μ) (31 + (pb (rS 1 μ) + q_)))) m := hI
  show zX shR σ 7 MX11_showsIt 10 [(0, zr 0), (1, zi (nI l)), (2, zi v)] [] μ1 _
  obtain ⟨hm, hs, hq, hj, hsv, hv⟩ := hI
  have hok1 := pRun_ok (ρ := ρ) ok m (by omega)
  have okm : pOK (rS 1 μ1) := by rw [hs]; exact hok1.1
  have abm : pAB (rS 1 μ1) := by rw [hs]; exact pAB_run ok ab m (by omega)
  have hρm : rRep ρ (μ1 1) := rRep_K (rQ_K hq) hρ
  refine zx_aload_n (k := 0) (nn := 11) dX11_showsIt_10 rfl rfl rfl ?_
  refine zx_callVf (nn := 14) (k := 0) (d' := 0) (as := []) (rest := []) (n := 0) (eX11_isOver_0 σ μ1   ) kX11_isOver mlX11_96 rfl rfl rfl (by decide) rfl rfl (Nat.le_of_ble_eq_true rfl) dX11_showsIt_11 rfl ?_
  show zX shR σ 7 MX11_showsIt 14 [(0, zr 0), (1, zi (nI l)), (2, zi v)] [zi (zb (pOver (rS 1 μ1)))] μ1 _
  refine zx_ifb_ne (tgt := 51) (nn := 17) dX11_showsIt_14 (by decide) rfl (fun h14 => ?_) (fun h14 => ?_)
  · refine zx_aload_n (k := 0) (nn := 52) dX11_showsIt_51 rfl rfl rfl ?_
    refine zx_aload_n (k := 0) (nn := 53) dX11_showsIt_52 rfl rfl rfl ?_
    refine zx_getR (q := 7) (nn := 56) flX11_28 rfl rfl dX11_showsIt_53 rfl ?_
    refine zx_callV (nn := 59) (k := 0) (d' := 0) (as := [zr 7]) (rest := []) (n := 1) (eX11_putsBack_7 σ μ1) kX11_putsBack mlX11_296 rfl rfl rfl (by decide) rfl rfl (Nat.le_of_ble_eq_true rfl) dX11_showsIt_56 rfl ?_
    rintro _ ν2 ⟨rfl, q2⟩
    show zX shR σ 7 MX11_showsIt 59 [(0, zr 0), (1, zi (nI l)), (2, zi v)] [] ν2 _
    refine zx_iload_n (k := 2) (nn := 60) dX11_showsIt_59 rfl rfl rfl ?_
    refine zx_iret rfl dX11_showsIt_60 ?_
    rw [pOver_iff okm, hs, hok1.2.1, hok1.2.2.1] at h14
    have hge := of_decide_eq_true h14
    refine ⟨congrArg (fun x => some (zi x)) ?_, zJ_drop (k := 1) (hj.tr (q2.1.mono (by simp))) (q2.2.trans (rPb_eq hsv hq)) (by decide)⟩
    rw [hv, show m = pRem (rS 1 μ) by omega]
    rfl
  · rw [pOver_iff okm, hs, hok1.2.1, hok1.2.2.1] at h14
    have hlt := of_decide_eq_false h14
    refine zx_aload_n (k := 0) (nn := 18) dX11_showsIt_17 rfl rfl rfl ?_
    refine zx_getR (q := 1) (nn := 21) flX11_9 rfl rfl dX11_showsIt_18 rfl ?_
    refine zx_bipush (v := 31) (nn := 23) rfl dX11_showsIt_21 rfl ?_
    refine zx_aload_n (k := 0) (nn := 24) dX11_showsIt_23 rfl rfl rfl ?_
    refine zx_getR (q := 1) (nn := 27) flX11_9 rfl rfl dX11_showsIt_24 rfl ?_
    refine zx_iconst (v := 2) (nn := 28) rfl dX11_showsIt_27 rfl ?_
    refine zx_iald_n (j := 2) (nn := 29) rfl (by omega) (by decide) dX11_showsIt_28 rfl ?_
    rw [show μ1 1 2 = nI (pb (rS 1 μ) + m) from by rw [show μ1 1 2 = rS 1 μ1 2 from rfl, (ok_b okm).1, hs, hok1.2.1]]
    show zX shR σ 7 MX11_showsIt 29 [(0, zr 0), (1, zi (nI l)), (2, zi v)] [zi (nI (pb (rS 1 μ) + m)), zi 31, zr 1] μ1 _
    refine zx_iadd (nn := 30) dX11_showsIt_29 rfl ?_
    rw [show 31 + (nI (pb (rS 1 μ) + m)) = nI (31 + (pb (rS 1 μ) + m)) from by simp only [show (2 : Int32) = nI 2 from rfl, show (3 : Int32) = nI 3 from rfl, show (1 : Int32) = nI 1 from rfl, show (4 : Int32) = nI 4 from rfl, show (5 : Int32) = nI 5 from rfl, show (7 : Int32) = nI 7 from rfl, show (31 : Int32) = nI 31 from rfl, show (47 : Int32) = nI 47 from rfl, show (71 : Int32) = nI 71 from rfl, show (111 : Int32) = nI 111 from rfl, nI_mulN, nI_add]]
    show zX shR σ 7 MX11_showsIt 30 [(0, zr 0), (1, zi (nI l)), (2, zi v)] [zi (nI (31 + (pb (rS 1 μ) + m))), zr 1] μ1 _
    refine zx_iald_n (j := 31 + (pb (rS 1 μ) + m)) (nn := 31) rfl (by omega) (by decide) dX11_showsIt_30 rfl ?_
    rw [show μ1 1 (31 + (pb (rS 1 μ) + m)) = (rS 1 μ) (31 + (pb (rS 1 μ) + m)) from (hq _ (by omega)).trans (rS_i (by omega) (by omega) (by omega)).symm]
    show zX shR σ 7 MX11_showsIt 31 [(0, zr 0), (1, zi (nI l)), (2, zi v)] [zi ((rS 1 μ) (31 + (pb (rS 1 μ) + m)))] μ1 _
    refine zx_istore_n (nn := 32) (lv' := [(3, zi ((rS 1 μ) (31 + (pb (rS 1 μ) + m)))), (0, zr 0), (1, zi (nI l)), (2, zi v)]) dX11_showsIt_31 rfl (by decide) rfl rfl ?_
    refine zx_aload_n (k := 1) (nn := 33) dX11_showsIt_32 rfl rfl rfl ?_
    refine zx_iconst (v := 0) (nn := 34) rfl dX11_showsIt_33 rfl ?_
    refine zx_callV (nn := 37) (k := 0) (d' := 6) (as := [zi 0]) (rest := []) (n := 1) (eX11_goes_0 σ μ1 0 okm abm hρm (by rw [hs, hok1.2.1, hok1.2.2.1]; omega)) kX11_goes mlX11_284 rfl rfl rfl (by decide) rfl rfl (Nat.le_of_ble_eq_true rfl) dX11_showsIt_34 rfl ?_
    rintro _ ν3 ⟨rfl, q3⟩
    show zX shR σ 7 MX11_showsIt 37 [(3, zi ((rS 1 μ) (31 + (pb (rS 1 μ) + m)))), (0, zr 0), (1, zi (nI l)), (2, zi v)] [zi (pGain ρ (rS 1 μ1) (0 - 1))] ν3 _
    have hs2 : rS 1 ν3 = pRun ρ (rS 1 μ) (m + 1) := by rw [q3.1, hs]; rfl
    have hq2 : rQ μ ν3 := rQ_tr hq q3.2.1
    have hj2 : zJ [1, 4, 6, 7] μ ν3 := hj.tr (q3.2.2.mono (by simp))
    have hsv2 : rSav (μ 1) (ν3 7) := by rw [q3.2.2 7 (by decide)]; exact hsv
    have hok2 := pRun_ok (ρ := ρ) ok (m + 1) (by omega)
    have ok2 : pOK (rS 1 ν3) := by rw [hs2]; exact hok2.1
    have ab2 : pAB (rS 1 ν3) := by rw [hs2]; exact pAB_run ok ab (m + 1) (by omega)
    have hpl : 0 ≤ (rS 1 μ) (31 + (pb (rS 1 μ) + m)) ∧ (rS 1 μ) (31 + (pb (rS 1 μ) + m)) ≤ 40 := ab.2 _ (by omega)
    refine zx_istore (nn := 39) (lv' := [(4, zi (pGain ρ (rS 1 μ1) (0 - 1))), (3, zi ((rS 1 μ) (31 + (pb (rS 1 μ) + m)))), (0, zr 0), (1, zi (nI l)), (2, zi v)]) dX11_showsIt_37 (by decide) rfl rfl ?_
    refine zx_iload_n (k := 4) (nn := 40) dX11_showsIt_39 rfl rfl rfl ?_
    refine zx_aload_n (k := 2) (nn := 41) dX11_showsIt_40 rfl rfl rfl ?_
    refine zx_iload_n (k := 3) (nn := 42) dX11_showsIt_41 rfl rfl rfl ?_
    refine zx_iload_n (k := 1) (nn := 43) dX11_showsIt_42 rfl rfl rfl ?_
    refine zx_callVf (nn := 46) (k := 0) (d' := 3) (as := [zi (nI l), zi ((rS 1 μ) (31 + (pb (rS 1 μ) + m)))]) (rest := [zi v]) (n := 2) (eX11_worth_0 σ ν3 l ((rS 1 μ) (31 + (pb (rS 1 μ) + m)))  ok2 ab2 (by rw [hs2, hok2.2.2.2.1]; exact hl) hpl) kX11_worth mlX11_140 rfl rfl rfl (by decide) rfl rfl (Nat.le_of_ble_eq_true rfl) dX11_showsIt_43 rfl ?_
    show zX shR σ 7 MX11_showsIt 46 [(4, zi (pGain ρ (rS 1 μ1) (0 - 1))), (3, zi ((rS 1 μ) (31 + (pb (rS 1 μ) + m)))), (0, zr 0), (1, zi (nI l)), (2, zi v)] [zi (pWorth (rS 1 ν3) l ((rS 1 μ) (31 + (pb (rS 1 μ) + m)))), zi v] ν3 _
    rw [show pWorth (rS 1 ν3) l ((rS 1 μ) (31 + (pb (rS 1 μ) + m))) = (fun q_ => pWorth (pRun ρ (rS 1 μ) (q_ + 1)) l ((rS 1 μ) (31 + (pb (rS 1 μ) + q_)))) m from by rw [hs2]]
    show zX shR σ 7 MX11_showsIt 46 [(4, zi (pGain ρ (rS 1 μ1) (0 - 1))), (3, zi ((rS 1 μ) (31 + (pb (rS 1 μ) + m)))), (0, zr 0), (1, zi (nI l)), (2, zi v)] [zi ((fun q_ => pWorth (pRun ρ (rS 1 μ) (q_ + 1)) l ((rS 1 μ) (31 + (pb (rS 1 μ) + q_)))) m), zi v] ν3 _
    refine zx_iadd (nn := 47) dX11_showsIt_46 rfl ?_
    refine zx_istore_n (nn := 48) (lv' := [(2, zi (v + ((fun q_ => pWorth (pRun ρ (rS 1 μ) (q_ + 1)) l ((rS 1 μ) (31 + (pb (rS 1 μ) + q_)))) m))), (4, zi (pGain ρ (rS 1 μ1) (0 - 1))), (3, zi ((rS 1 μ) (31 + (pb (rS 1 μ) + m)))), (0, zr 0), (1, zi (nI l))]) dX11_showsIt_47 rfl (by decide) rfl rfl ?_
    refine zx_goto (tgt := 10) dX11_showsIt_48 (by decide) ?_
    refine zx_lv (lv' := [(0, zr 0), (1, zi (nI l)), (2, zi (v + ((fun q_ => pWorth (pRun ρ (rS 1 μ) (q_ + 1)) l ((rS 1 μ) (31 + (pb (rS 1 μ) + q_)))) m)))]) [3, 4, 0] rfl ?_
    exact ih10 (m + 1, v + (fun q_ => pWorth (pRun ρ (rS 1 μ) (q_ + 1)) l ((rS 1 μ) (31 + (pb (rS 1 μ) + q_)))) m, ν3) (show (m + 1) ≤ pRem (rS 1 μ) ∧ rS 1 ν3 = pRun ρ (rS 1 μ) (m + 1) ∧ rQ μ ν3 ∧ zJ [1, 4, 6, 7] μ ν3 ∧ rSav (μ 1) (ν3 7) ∧ (v + (fun q_ => pWorth (pRun ρ (rS 1 μ) (q_ + 1)) l ((rS 1 μ) (31 + (pb (rS 1 μ) + q_)))) m) = pSum (fun q_ => pWorth (pRun ρ (rS 1 μ) (q_ + 1)) l ((rS 1 μ) (31 + (pb (rS 1 μ) + q_)))) (m + 1) from ⟨by omega, hs2, hq2, hj2, hsv2, by show _ + _ = pSum _ m + _; rw [hv]⟩) (by show pRem (rS 1 μ) - (m + 1) < pRem (rS 1 μ) - m; omega)
set_option maxHeartbeats 4000000 in
set_option maxRecDepth 100000 in
theorem eX11_shows_0 (σ : zG) (μ : zM) (l : Int32) {ρ : pR} (ok : pOK (rS 1 μ)) (ab : pAB (rS 1 μ)) (hρ : rRep ρ (μ 1)) : zMet shR σ 8 MX11_shows yX11_shows [zr 0, zi l] μ (fun rr μ' => rr = some (zi (vShows ρ (rS 1 μ) l)) ∧ zJ [4, 6, 7] μ μ') := by
  refine zmetF (by decide +kernel) rfl (Nat.le_of_ble_eq_true rfl) ?_
  show zX shR σ 8 MX11_shows 0 [(0, zr 0), (1, zi l)] [] μ _
  refine zx_aload_n (k := 0) (nn := 1) dX11_shows_0 rfl rfl rfl ?_
  refine zx_iload_n (k := 1) (nn := 2) dX11_shows_1 rfl rfl rfl ?_
  refine zx_callVf (nn := 5) (k := 0) (d' := 1) (as := [zi l]) (rest := []) (n := 1) (eX11_isLamp_0 σ μ l  ok) kX11_isLamp mlX11_84 rfl rfl rfl (by decide) rfl rfl (Nat.le_of_ble_eq_true rfl) dX11_shows_2 rfl ?_
  show zX shR σ 8 MX11_shows 5 [(0, zr 0), (1, zi l)] [zi (zb (pHas ((rS 1 μ) 0) l))] μ _
  refine zx_ifb_eq (tgt := 16) (nn := 8) dX11_shows_5 (by decide) rfl (fun h5 => ?_) (fun h5 => ?_)
  · refine zx_iconst (v := -1) (nn := 17) rfl dX11_shows_16 rfl ?_
    refine zx_iret rfl dX11_shows_17 ?_
    refine ⟨congrArg (fun x => some (zi x)) ?_, zJ.rf⟩
    simp [vShows, h5]
  · obtain ⟨l1, n_l, rfl⟩ := hasL ok h5
    show zX shR σ 8 MX11_shows 8 [(0, zr 0), (1, zi (nI l1))] [] μ _
    refine zx_aload_n (k := 0) (nn := 9) dX11_shows_8 rfl rfl rfl ?_
    refine zx_iload_n (k := 1) (nn := 10) dX11_shows_9 rfl rfl rfl ?_
    refine zx_callV (nn := 13) (k := 0) (d' := 7) (as := [zi (nI l1)]) (rest := []) (n := 1) (eX11_showsIt_0 σ μ l1  ok ab n_l.1 hρ) kX11_showsIt mlX11_299 rfl rfl rfl (by decide) rfl rfl (Nat.le_of_ble_eq_true rfl) dX11_shows_10 rfl ?_
    rintro _ ν1 ⟨rfl, q1⟩
    show zX shR σ 8 MX11_shows 13 [(0, zr 0), (1, zi (nI l1))] [zi (pShow ρ (rS 1 μ) l1)] ν1 _
    refine zx_goto (tgt := 17) dX11_shows_13 (by decide) ?_
    refine zx_iret rfl dX11_shows_17 ?_
    refine ⟨congrArg (fun x => some (zi x)) ?_, q1⟩
    unfold vShows
    rw [if_pos h5, n_l.2.2]
set_option maxHeartbeats 4000000 in
set_option maxRecDepth 100000 in
theorem eX11_on_0 (σ : zG) (μ : zM) (n : Int32) {ρ : pR} (ok : pOK (rS 1 μ)) (ab : pAB (rS 1 μ)) (hρ : rRep ρ (μ 1)) : zMet shR σ 7 MX11_on yX11_on [zr 0, zi n] μ (fun rr μ' => rr = some (zi (vOn ρ (rS 1 μ) n)) ∧ zJ [4, 6, 7] μ μ') := by
  have hB16 := (ok_B ok).2
  have hbB := (ok_b ok).2
  have hrem : pRem (rS 1 μ) = pB (rS 1 μ) - pb (rS 1 μ) := rfl
  refine zmetF (by decide +kernel) rfl (Nat.le_of_ble_eq_true rfl) ?_
  show zX shR σ 7 MX11_on 0 [(0, zr 0), (1, zi n)] [] μ _
  refine zx_iload_n (k := 1) (nn := 1) dX11_on_0 rfl rfl rfl ?_
  refine zx_i2l (nn := 2) dX11_on_1 rfl ?_
  refine zx_lconst (v := 0) (nn := 3) rfl dX11_on_2 rfl ?_
  refine zx_ldc2 (v := 16) (nn := 6) cwX11_302 dX11_on_3 rfl ?_
  refine zx_callSf (nn := 9) (d' := 0) (as := [zj n.toInt64, zj 0, zj 16]) (rest := []) (n := 3) (eX11_isIn σ μ n.toInt64 0 16  ) kX11_isIn mlX11_70 (by decide) rfl rfl (Nat.le_of_ble_eq_true rfl) dX11_on_6 rfl ?_
  show zX shR σ 7 MX11_on 9 [(0, zr 0), (1, zi n)] [zi (zb (decide (0 ≤ n.toInt64) && decide (n.toInt64 ≤ 16)))] μ _
  rw [show zb (decide (0 ≤ n.toInt64) && decide (n.toInt64 ≤ 16)) = zb (pIn n 0 16) from congrArg zb (in_r n 0 16)]
  show zX shR σ 7 MX11_on 9 [(0, zr 0), (1, zi n)] [zi (zb (pIn n 0 16))] μ _
  refine zx_ifb_ne (tgt := 14) (nn := 12) dX11_on_9 (by decide) rfl (fun h9 => ?_) (fun h9 => ?_)
  · obtain ⟨n1, n_n, rfl⟩ := pIn_n (b := 16) (by omega) (by decide) h9
    show zX shR σ 7 MX11_on 14 [(0, zr 0), (1, zi (nI n1))] [] μ _
    refine zx_aload_n (k := 0) (nn := 15) dX11_on_14 rfl rfl rfl ?_
    refine zx_aload_n (k := 0) (nn := 16) dX11_on_15 rfl rfl rfl ?_
    refine zx_getR (q := 7) (nn := 19) flX11_28 rfl rfl dX11_on_16 rfl ?_
    refine zx_callV (nn := 22) (k := 0) (d' := 0) (as := [zr 7]) (rest := []) (n := 1) (eX11_saves_7 σ μ) kX11_saves mlX11_292 rfl rfl rfl (by decide) rfl rfl (Nat.le_of_ble_eq_true rfl) dX11_on_19 rfl ?_
    rintro _ ν1 ⟨rfl, q1⟩
    show zX shR σ 7 MX11_on 22 [(0, zr 0), (1, zi (nI n1))] [] ν1 _
    refine zx_iconst (v := 0) (nn := 23) rfl dX11_on_22 rfl ?_
    refine zx_istore_n (nn := 24) (lv' := [(2, zi 0), (0, zr 0), (1, zi (nI n1))]) dX11_on_23 rfl (by decide) rfl rfl ?_
    refine zx_iconst (v := 0) (nn := 25) rfl dX11_on_24 rfl ?_
    refine zx_istore_n (nn := 26) (lv' := [(3, zi 0), (2, zi 0), (0, zr 0), (1, zi (nI n1))]) dX11_on_25 rfl (by decide) rfl rfl ?_
    refine zx_lv (lv' := [(0, zr 0), (1, zi (nI n1)), (2, zi 0), (3, zi 0)]) [2, 3, 1, 0] rfl ?_
    refine zx_while (τ := Nat × Int32 × zM) (fun t_ => pRem (rS 1 μ) - t_.1) (fun t_ => t_.1 ≤ pRem (rS 1 μ) ∧ rS 1 t_.2.2 = pRun ρ (rS 1 μ) t_.1 ∧ rQ μ t_.2.2 ∧ zJ [1, 4, 6, 7] μ t_.2.2 ∧ rSav (μ 1) (t_.2.2 7) ∧ t_.2.1 = pSum (fun q_ => pGain ρ (pRun ρ (rS 1 μ) q_) (-1)) t_.1 ∧ t_.1 ≤ n1) (fun t_ => [(0, zr 0), (1, zi (nI n1)), (2, zi t_.2.1), (3, zi (nI t_.1))]) (fun t_ => t_.2.2) (t0 := (0, 0, ν1)) (show 0 ≤ pRem (rS 1 μ) ∧ rS 1 ν1 = pRun ρ (rS 1 μ) 0 ∧ rQ μ ν1 ∧ zJ [1, 4, 6, 7] μ ν1 ∧ rSav (μ 1) (ν1 7) ∧ 0 = pSum (fun q_ => pGain ρ (pRun ρ (rS 1 μ) q_) (-1)) 0 ∧ 0 ≤ n1 from ⟨Nat.zero_le _, rS_eq (q1.1 1 (by decide)), rQ_e (q1.1 1 (by decide)), q1.1.mono (by simp), q1.2, rfl, Nat.zero_le _⟩) ?_
    rintro ⟨m, v, μ1⟩ hI ih26
    replace hI : m ≤ pRem (rS 1 μ) ∧ rS 1 μ1 = pRun ρ (rS 1 μ) m ∧ rQ μ μ1 ∧ zJ [1, 4, 6, 7] μ μ1 ∧ rSav (μ 1) (μ1 7) ∧ v = pSum (fun q_ => pGain ρ (pRun ρ (rS 1 μ) q_) (-1)) m ∧ m ≤ n1 := hI
    show zX shR σ 7 MX11_on 26 [(0, zr 0), (1, zi (nI n1)), (2, zi v), (3, zi (nI m))] [] μ1 _
    obtain ⟨hm, hs, hq, hj, hsv, hv, hmn⟩ := hI
    have hok1 := pRun_ok (ρ := ρ) ok m (by omega)
    have okm : pOK (rS 1 μ1) := by rw [hs]; exact hok1.1
    have abm : pAB (rS 1 μ1) := by rw [hs]; exact pAB_run ok ab m (by omega)
    have hρm : rRep ρ (μ1 1) := rRep_K (rQ_K hq) hρ
    refine zx_iload_n (k := 3) (nn := 27) dX11_on_26 rfl rfl rfl ?_
    refine zx_iload_n (k := 1) (nn := 28) dX11_on_27 rfl rfl rfl ?_
    refine zx_icmp_ge (tgt := 52) (nn := 31) dX11_on_28 (by decide) rfl (fun h28 => ?_) (fun h28 => ?_)
    · refine zx_aload_n (k := 0) (nn := 53) dX11_on_52 rfl rfl rfl ?_
      refine zx_aload_n (k := 0) (nn := 54) dX11_on_53 rfl rfl rfl ?_
      refine zx_getR (q := 7) (nn := 57) flX11_28 rfl rfl dX11_on_54 rfl ?_
      refine zx_callV (nn := 60) (k := 0) (d' := 0) (as := [zr 7]) (rest := []) (n := 1) (eX11_putsBack_7 σ μ1) kX11_putsBack mlX11_296 rfl rfl rfl (by decide) rfl rfl (Nat.le_of_ble_eq_true rfl) dX11_on_57 rfl ?_
      rintro _ ν2 ⟨rfl, q2⟩
      show zX shR σ 7 MX11_on 60 [(0, zr 0), (1, zi (nI n1)), (2, zi v), (3, zi (nI m))] [] ν2 _
      refine zx_iload_n (k := 2) (nn := 61) dX11_on_60 rfl rfl rfl ?_
      refine zx_iret rfl dX11_on_61 ?_
      have hge := nI_le_le h28 (by omega)
      refine ⟨congrArg (fun x => some (zi x)) ?_, zJ_drop (k := 1) (hj.tr (q2.1.mono (by simp))) (q2.2.trans (rPb_eq hsv hq)) (by decide)⟩
      unfold vOn
      rw [if_pos h9, n_n.2, hv, show m = n1 by omega, Nat.min_eq_left (by omega)]
      rfl
    · have hltn := nI_nle_lt h28 (by omega)
      refine zx_aload_n (k := 0) (nn := 32) dX11_on_31 rfl rfl rfl ?_
      refine zx_callVf (nn := 35) (k := 0) (d' := 0) (as := []) (rest := []) (n := 0) (eX11_isOver_0 σ μ1   ) kX11_isOver mlX11_96 rfl rfl rfl (by decide) rfl rfl (Nat.le_of_ble_eq_true rfl) dX11_on_32 rfl ?_
      show zX shR σ 7 MX11_on 35 [(0, zr 0), (1, zi (nI n1)), (2, zi v), (3, zi (nI m))] [zi (zb (pOver (rS 1 μ1)))] μ1 _
      refine zx_ifb_ne (tgt := 52) (nn := 38) dX11_on_35 (by decide) rfl (fun h35 => ?_) (fun h35 => ?_)
      · refine zx_aload_n (k := 0) (nn := 53) dX11_on_52 rfl rfl rfl ?_
        refine zx_aload_n (k := 0) (nn := 54) dX11_on_53 rfl rfl rfl ?_
        refine zx_getR (q := 7) (nn := 57) flX11_28 rfl rfl dX11_on_54 rfl ?_
        refine zx_callV (nn := 60) (k := 0) (d' := 0) (as := [zr 7]) (rest := []) (n := 1) (eX11_putsBack_7 σ μ1) kX11_putsBack mlX11_296 rfl rfl rfl (by decide) rfl rfl (Nat.le_of_ble_eq_true rfl) dX11_on_57 rfl ?_
        rintro _ ν3 ⟨rfl, q3⟩
        show zX shR σ 7 MX11_on 60 [(0, zr 0), (1, zi (nI n1)), (2, zi v), (3, zi (nI m))] [] ν3 _
        refine zx_iload_n (k := 2) (nn := 61) dX11_on_60 rfl rfl rfl ?_
        refine zx_iret rfl dX11_on_61 ?_
        rw [pOver_iff okm, hs, hok1.2.1, hok1.2.2.1] at h35
        have hge := of_decide_eq_true h35
        refine ⟨congrArg (fun x => some (zi x)) ?_, zJ_drop (k := 1) (hj.tr (q3.1.mono (by simp))) (q3.2.trans (rPb_eq hsv hq)) (by decide)⟩
        unfold vOn
        rw [if_pos h9, n_n.2, hv, show m = pRem (rS 1 μ) by omega, Nat.min_eq_right (by omega)]
        rfl
      · rw [pOver_iff okm, hs, hok1.2.1, hok1.2.2.1] at h35
        have hlt := of_decide_eq_false h35
        refine zx_iload_n (k := 2) (nn := 39) dX11_on_38 rfl rfl rfl ?_
        refine zx_aload_n (k := 0) (nn := 40) dX11_on_39 rfl rfl rfl ?_
        refine zx_iconst (v := 0) (nn := 41) rfl dX11_on_40 rfl ?_
        refine zx_callV (nn := 44) (k := 0) (d' := 6) (as := [zi 0]) (rest := [zi v]) (n := 1) (eX11_goes_0 σ μ1 0 okm abm hρm (by rw [hs, hok1.2.1, hok1.2.2.1]; omega)) kX11_goes mlX11_284 rfl rfl rfl (by decide) rfl rfl (Nat.le_of_ble_eq_true rfl) dX11_on_41 rfl ?_
        rintro _ ν4 ⟨rfl, q4⟩
        show zX shR σ 7 MX11_on 44 [(0, zr 0), (1, zi (nI n1)), (2, zi v), (3, zi (nI m))] [zi (pGain ρ (rS 1 μ1) (0 - 1)), zi v] ν4 _
        have hs2 : rS 1 ν4 = pRun ρ (rS 1 μ) (m + 1) := by rw [q4.1, hs]; rfl
        have hq2 : rQ μ ν4 := rQ_tr hq q4.2.1
        have hj2 : zJ [1, 4, 6, 7] μ ν4 := hj.tr (q4.2.2.mono (by simp))
        have hsv2 : rSav (μ 1) (ν4 7) := by rw [q4.2.2 7 (by decide)]; exact hsv
        have hok2 := pRun_ok (ρ := ρ) ok (m + 1) (by omega)
        have ok2 : pOK (rS 1 ν4) := by rw [hs2]; exact hok2.1
        have ab2 : pAB (rS 1 ν4) := by rw [hs2]; exact pAB_run ok ab (m + 1) (by omega)
        have hpl : 0 ≤ (rS 1 μ) (31 + (pb (rS 1 μ) + m)) ∧ (rS 1 μ) (31 + (pb (rS 1 μ) + m)) ≤ 40 := ab.2 _ (by omega)
        rw [show pGain ρ (rS 1 μ1) (0 - 1) = (fun q_ => pGain ρ (pRun ρ (rS 1 μ) q_) (-1)) m from by rw [hs]; rfl]
        show zX shR σ 7 MX11_on 44 [(0, zr 0), (1, zi (nI n1)), (2, zi v), (3, zi (nI m))] [zi ((fun q_ => pGain ρ (pRun ρ (rS 1 μ) q_) (-1)) m), zi v] ν4 _
        refine zx_iadd (nn := 45) dX11_on_44 rfl ?_
        refine zx_istore_n (nn := 46) (lv' := [(2, zi (v + ((fun q_ => pGain ρ (pRun ρ (rS 1 μ) q_) (-1)) m))), (0, zr 0), (1, zi (nI n1)), (3, zi (nI m))]) dX11_on_45 rfl (by decide) rfl rfl ?_
        refine zx_iinc (k := 3) (v := nI (m + 1)) (lv' := [(3, zi (nI (m + 1))), (2, zi (v + ((fun q_ => pGain ρ (pRun ρ (rS 1 μ) q_) (-1)) m))), (0, zr 0), (1, zi (nI n1))]) (nn := 49) dX11_on_46 rfl (nI_1 m) (by decide) rfl rfl ?_
        refine zx_goto (tgt := 26) dX11_on_49 (by decide) ?_
        refine zx_lv (lv' := [(0, zr 0), (1, zi (nI n1)), (2, zi (v + ((fun q_ => pGain ρ (pRun ρ (rS 1 μ) q_) (-1)) m))), (3, zi (nI (m + 1)))]) [2, 3, 1, 0] rfl ?_
        exact ih26 (m + 1, v + (fun q_ => pGain ρ (pRun ρ (rS 1 μ) q_) (-1)) m, ν4) (show (m + 1) ≤ pRem (rS 1 μ) ∧ rS 1 ν4 = pRun ρ (rS 1 μ) (m + 1) ∧ rQ μ ν4 ∧ zJ [1, 4, 6, 7] μ ν4 ∧ rSav (μ 1) (ν4 7) ∧ (v + (fun q_ => pGain ρ (pRun ρ (rS 1 μ) q_) (-1)) m) = pSum (fun q_ => pGain ρ (pRun ρ (rS 1 μ) q_) (-1)) (m + 1) ∧ (m + 1) ≤ n1 from ⟨by omega, hs2, hq2, hj2, hsv2, by show _ + _ = pSum _ m + _; rw [hv], by omega⟩) (by show pRem (rS 1 μ) - (m + 1) < pRem (rS 1 μ) - m; omega)
  · refine zx_iconst (v := -1) (nn := 13) rfl dX11_on_12 rfl ?_
    refine zx_iret rfl dX11_on_13 ?_
    refine ⟨congrArg (fun x => some (zi x)) ?_, zJ.rf⟩
    simp [vOn, h9]
set_option maxHeartbeats 4000000 in
set_option maxRecDepth 100000 in
theorem eX11_lostAt_0 (σ : zG) (μ : zM) (l : Nat) {ρ : pR} (ok : pOK (rS 1 μ)) (ab : pAB (rS 1 μ)) (hl : l < pL (rS 1 μ)) (hρ : rRep ρ (μ 1)) : zMet shR σ 7 MX11_lostAt yX11_lostAt [zr 0, zi (nI l)] μ (fun rr μ' => rr = some (zi (pLost ρ (rS 1 μ) l)) ∧ zJ [4, 6, 7] μ μ') := by
  have hl6 : l < 6 := Nat.lt_of_lt_of_le hl (ok_L ok).2
  have hB16 := (ok_B ok).2
  have hbB := (ok_b ok).2
  have hrem : pRem (rS 1 μ) = pB (rS 1 μ) - pb (rS 1 μ) := rfl
  refine zmetF (by decide +kernel) rfl (Nat.le_of_ble_eq_true rfl) ?_
  show zX shR σ 7 MX11_lostAt 0 [(0, zr 0), (1, zi (nI l))] [] μ _
  refine zx_aload_n (k := 0) (nn := 1) dX11_lostAt_0 rfl rfl rfl ?_
  refine zx_aload_n (k := 0) (nn := 2) dX11_lostAt_1 rfl rfl rfl ?_
  refine zx_getR (q := 7) (nn := 5) flX11_28 rfl rfl dX11_lostAt_2 rfl ?_
  refine zx_callV (nn := 8) (k := 0) (d' := 0) (as := [zr 7]) (rest := []) (n := 1) (eX11_saves_7 σ μ) kX11_saves mlX11_292 rfl rfl rfl (by decide) rfl rfl (Nat.le_of_ble_eq_true rfl) dX11_lostAt_5 rfl ?_
  rintro _ ν1 ⟨rfl, q1⟩
  show zX shR σ 7 MX11_lostAt 8 [(0, zr 0), (1, zi (nI l))] [] ν1 _
  refine zx_bipush (v := -3) (nn := 10) rfl dX11_lostAt_8 rfl ?_
  refine zx_istore_n (nn := 11) (lv' := [(2, zi (-3)), (0, zr 0), (1, zi (nI l))]) dX11_lostAt_10 rfl (by decide) rfl rfl ?_
  refine zx_lv (lv' := [(0, zr 0), (1, zi (nI l)), (2, zi (-3))]) [1, 2, 0] rfl ?_
  refine zx_while (τ := Nat × Int32 × zM) (fun t_ => pRem (rS 1 μ) - t_.1) (fun t_ => t_.1 ≤ pRem (rS 1 μ) ∧ rS 1 t_.2.2 = pRun ρ (rS 1 μ) t_.1 ∧ rQ μ t_.2.2 ∧ zJ [1, 4, 6, 7] μ t_.2.2 ∧ rSav (μ 1) (t_.2.2 7) ∧ ((t_.2.1 = -3 ∧ pFirst (pOutAt ρ (rS 1 μ) l) 0 (pRem (rS 1 μ)) = pFirst (pOutAt ρ (rS 1 μ) l) t_.1 (pRem (rS 1 μ) - t_.1)) ∨ (¬ t_.2.1 = -3 ∧ t_.2.1 = pLost ρ (rS 1 μ) l))) (fun t_ => [(0, zr 0), (1, zi (nI l)), (2, zi t_.2.1)]) (fun t_ => t_.2.2) (t0 := (0, -3, ν1)) (show 0 ≤ pRem (rS 1 μ) ∧ rS 1 ν1 = pRun ρ (rS 1 μ) 0 ∧ rQ μ ν1 ∧ zJ [1, 4, 6, 7] μ ν1 ∧ rSav (μ 1) (ν1 7) ∧ (((-3) = -3 ∧ pFirst (pOutAt ρ (rS 1 μ) l) 0 (pRem (rS 1 μ)) = pFirst (pOutAt ρ (rS 1 μ) l) 0 (pRem (rS 1 μ) - 0)) ∨ (¬ (-3) = -3 ∧ (-3) = pLost ρ (rS 1 μ) l)) from ⟨Nat.zero_le _, rS_eq (q1.1 1 (by decide)), rQ_e (q1.1 1 (by decide)), q1.1.mono (by simp), q1.2, Or.inl ⟨rfl, rfl⟩⟩) ?_
  rintro ⟨m, f, μ1⟩ hI ih11
  replace hI : m ≤ pRem (rS 1 μ) ∧ rS 1 μ1 = pRun ρ (rS 1 μ) m ∧ rQ μ μ1 ∧ zJ [1, 4, 6, 7] μ μ1 ∧ rSav (μ 1) (μ1 7) ∧ ((f = -3 ∧ pFirst (pOutAt ρ (rS 1 μ) l) 0 (pRem (rS 1 μ)) = pFirst (pOutAt ρ (rS 1 μ) l) m (pRem (rS 1 μ) - m)) ∨ (¬ f = -3 ∧ f = pLost ρ (rS 1 μ) l)) := hI
  show zX shR σ 7 MX11_lostAt 11 [(0, zr 0), (1, zi (nI l)), (2, zi f)] [] μ1 _
  obtain ⟨hm, hs, hq, hj, hsv, hv⟩ := hI
  have hok1 := pRun_ok (ρ := ρ) ok m (by omega)
  have okm : pOK (rS 1 μ1) := by rw [hs]; exact hok1.1
  have abm : pAB (rS 1 μ1) := by rw [hs]; exact pAB_run ok ab m (by omega)
  have hρm : rRep ρ (μ1 1) := rRep_K (rQ_K hq) hρ
  refine zx_aload_n (k := 0) (nn := 12) dX11_lostAt_11 rfl rfl rfl ?_
  refine zx_callVf (nn := 15) (k := 0) (d' := 0) (as := []) (rest := []) (n := 0) (eX11_isOver_0 σ μ1   ) kX11_isOver mlX11_96 rfl rfl rfl (by decide) rfl rfl (Nat.le_of_ble_eq_true rfl) dX11_lostAt_12 rfl ?_
  show zX shR σ 7 MX11_lostAt 15 [(0, zr 0), (1, zi (nI l)), (2, zi f)] [zi (zb (pOver (rS 1 μ1)))] μ1 _
  refine zx_ifb_ne (tgt := 65) (nn := 18) dX11_lostAt_15 (by decide) rfl (fun h15 => ?_) (fun h15 => ?_)
  · refine zx_aload_n (k := 0) (nn := 66) dX11_lostAt_65 rfl rfl rfl ?_
    refine zx_aload_n (k := 0) (nn := 67) dX11_lostAt_66 rfl rfl rfl ?_
    refine zx_getR (q := 7) (nn := 70) flX11_28 rfl rfl dX11_lostAt_67 rfl ?_
    refine zx_callV (nn := 73) (k := 0) (d' := 0) (as := [zr 7]) (rest := []) (n := 1) (eX11_putsBack_7 σ μ1) kX11_putsBack mlX11_296 rfl rfl rfl (by decide) rfl rfl (Nat.le_of_ble_eq_true rfl) dX11_lostAt_70 rfl ?_
    rintro _ ν2 ⟨rfl, q2⟩
    show zX shR σ 7 MX11_lostAt 73 [(0, zr 0), (1, zi (nI l)), (2, zi f)] [] ν2 _
    refine zx_iload_n (k := 2) (nn := 74) dX11_lostAt_73 rfl rfl rfl ?_
    refine zx_iret rfl dX11_lostAt_74 ?_
    rw [pOver_iff okm, hs, hok1.2.1, hok1.2.2.1] at h15
    have hge := of_decide_eq_true h15
    refine ⟨congrArg (fun x => some (zi x)) ?_, zJ_drop (k := 1) (hj.tr (q2.1.mono (by simp))) (q2.2.trans (rPb_eq hsv hq)) (by decide)⟩
    rcases hv with ⟨v1, v2⟩ | ⟨v1, v2⟩
    · unfold pLost
      rw [v2, show pRem (rS 1 μ) - m = 0 by omega, v1]
      rfl
    · exact v2
  · rw [pOver_iff okm, hs, hok1.2.1, hok1.2.2.1] at h15
    have hlt := of_decide_eq_false h15
    refine zx_iload_n (k := 2) (nn := 19) dX11_lostAt_18 rfl rfl rfl ?_
    refine zx_bipush (v := -3) (nn := 21) rfl dX11_lostAt_19 rfl ?_
    refine zx_icmp_ne (tgt := 65) (nn := 24) dX11_lostAt_21 (by decide) rfl (fun h21 => ?_) (fun h21 => ?_)
    · refine zx_aload_n (k := 0) (nn := 66) dX11_lostAt_65 rfl rfl rfl ?_
      refine zx_aload_n (k := 0) (nn := 67) dX11_lostAt_66 rfl rfl rfl ?_
      refine zx_getR (q := 7) (nn := 70) flX11_28 rfl rfl dX11_lostAt_67 rfl ?_
      refine zx_callV (nn := 73) (k := 0) (d' := 0) (as := [zr 7]) (rest := []) (n := 1) (eX11_putsBack_7 σ μ1) kX11_putsBack mlX11_296 rfl rfl rfl (by decide) rfl rfl (Nat.le_of_ble_eq_true rfl) dX11_lostAt_70 rfl ?_
      rintro _ ν3 ⟨rfl, q3⟩
      show zX shR σ 7 MX11_lostAt 73 [(0, zr 0), (1, zi (nI l)), (2, zi f)] [] ν3 _
      refine zx_iload_n (k := 2) (nn := 74) dX11_lostAt_73 rfl rfl rfl ?_
      refine zx_iret rfl dX11_lostAt_74 ?_
      refine ⟨congrArg (fun x => some (zi x)) ?_, zJ_drop (k := 1) (hj.tr (q3.1.mono (by simp))) (q3.2.trans (rPb_eq hsv hq)) (by decide)⟩
      rcases hv with ⟨v1, v2⟩ | ⟨v1, v2⟩
      · exact absurd v1 h21
      · exact v2
    · have hv2 : pFirst (pOutAt ρ (rS 1 μ) l) 0 (pRem (rS 1 μ)) = pFirst (pOutAt ρ (rS 1 μ) l) m (pRem (rS 1 μ) - m) := hv.elim (fun q => q.2) (fun q => absurd h21 q.1)
      refine zx_aload_n (k := 0) (nn := 25) dX11_lostAt_24 rfl rfl rfl ?_
      refine zx_getR (q := 1) (nn := 28) flX11_9 rfl rfl dX11_lostAt_25 rfl ?_
      refine zx_iconst (v := 2) (nn := 29) rfl dX11_lostAt_28 rfl ?_
      refine zx_iald_n (j := 2) (nn := 30) rfl (by omega) (by decide) dX11_lostAt_29 rfl ?_
      rw [show μ1 1 2 = nI (pb (rS 1 μ) + m) from by rw [show μ1 1 2 = rS 1 μ1 2 from rfl, (ok_b okm).1, hs, hok1.2.1]]
      show zX shR σ 7 MX11_lostAt 30 [(0, zr 0), (1, zi (nI l)), (2, zi f)] [zi (nI (pb (rS 1 μ) + m))] μ1 _
      refine zx_istore_n (nn := 31) (lv' := [(3, zi (nI (pb (rS 1 μ) + m))), (0, zr 0), (1, zi (nI l)), (2, zi f)]) dX11_lostAt_30 rfl (by decide) rfl rfl ?_
      refine zx_aload_n (k := 1) (nn := 32) dX11_lostAt_31 rfl rfl rfl ?_
      refine zx_iconst (v := 0) (nn := 33) rfl dX11_lostAt_32 rfl ?_
      refine zx_callV (nn := 36) (k := 0) (d' := 6) (as := [zi 0]) (rest := []) (n := 1) (eX11_goes_0 σ μ1 0 okm abm hρm (by rw [hs, hok1.2.1, hok1.2.2.1]; omega)) kX11_goes mlX11_284 rfl rfl rfl (by decide) rfl rfl (Nat.le_of_ble_eq_true rfl) dX11_lostAt_33 rfl ?_
      rintro _ ν4 ⟨rfl, q4⟩
      show zX shR σ 7 MX11_lostAt 36 [(3, zi (nI (pb (rS 1 μ) + m))), (0, zr 0), (1, zi (nI l)), (2, zi f)] [zi (pGain ρ (rS 1 μ1) (0 - 1))] ν4 _
      have hs2 : rS 1 ν4 = pRun ρ (rS 1 μ) (m + 1) := by rw [q4.1, hs]; rfl
      have hq2 : rQ μ ν4 := rQ_tr hq q4.2.1
      have hj2 : zJ [1, 4, 6, 7] μ ν4 := hj.tr (q4.2.2.mono (by simp))
      have hsv2 : rSav (μ 1) (ν4 7) := by rw [q4.2.2 7 (by decide)]; exact hsv
      have hok2 := pRun_ok (ρ := ρ) ok (m + 1) (by omega)
      have ok2 : pOK (rS 1 ν4) := by rw [hs2]; exact hok2.1
      have ab2 : pAB (rS 1 ν4) := by rw [hs2]; exact pAB_run ok ab (m + 1) (by omega)
      have hpl : 0 ≤ (rS 1 μ) (31 + (pb (rS 1 μ) + m)) ∧ (rS 1 μ) (31 + (pb (rS 1 μ) + m)) ≤ 40 := ab.2 _ (by omega)
      refine zx_istore (nn := 38) (lv' := [(4, zi (pGain ρ (rS 1 μ1) (0 - 1))), (3, zi (nI (pb (rS 1 μ) + m))), (0, zr 0), (1, zi (nI l)), (2, zi f)]) dX11_lostAt_36 (by decide) rfl rfl ?_
      refine zx_aload_n (k := 2) (nn := 39) dX11_lostAt_38 rfl rfl rfl ?_
      refine zx_iload_n (k := 3) (nn := 40) dX11_lostAt_39 rfl rfl rfl ?_
      refine zx_aload_n (k := 2) (nn := 41) dX11_lostAt_40 rfl rfl rfl ?_
      refine zx_getR (q := 1) (nn := 44) flX11_9 rfl rfl dX11_lostAt_41 rfl ?_
      refine zx_bipush (v := 31) (nn := 46) rfl dX11_lostAt_44 rfl ?_
      refine zx_iload_n (k := 1) (nn := 47) dX11_lostAt_46 rfl rfl rfl ?_
      refine zx_iadd (nn := 48) dX11_lostAt_47 rfl ?_
      rw [show 31 + (nI (pb (rS 1 μ) + m)) = nI (31 + (pb (rS 1 μ) + m)) from by simp only [show (2 : Int32) = nI 2 from rfl, show (3 : Int32) = nI 3 from rfl, show (1 : Int32) = nI 1 from rfl, show (4 : Int32) = nI 4 from rfl, show (5 : Int32) = nI 5 from rfl, show (7 : Int32) = nI 7 from rfl, show (31 : Int32) = nI 31 from rfl, show (47 : Int32) = nI 47 from rfl, show (71 : Int32) = nI 71 from rfl, show (111 : Int32) = nI 111 from rfl, nI_mulN, nI_add]]
      show zX shR σ 7 MX11_lostAt 48 [(4, zi (pGain ρ (rS 1 μ1) (0 - 1))), (3, zi (nI (pb (rS 1 μ) + m))), (0, zr 0), (1, zi (nI l)), (2, zi f)] [zi (nI (31 + (pb (rS 1 μ) + m))), zr 1, zi (nI l), zr 0] ν4 _
      refine zx_iald_n (j := 31 + (pb (rS 1 μ) + m)) (nn := 49) rfl (by omega) (by decide) dX11_lostAt_48 rfl ?_
      rw [show ν4 1 (31 + (pb (rS 1 μ) + m)) = (rS 1 μ) (31 + (pb (rS 1 μ) + m)) from (hq2 _ (by omega)).trans (rS_i (by omega) (by omega) (by omega)).symm]
      show zX shR σ 7 MX11_lostAt 49 [(4, zi (pGain ρ (rS 1 μ1) (0 - 1))), (3, zi (nI (pb (rS 1 μ) + m))), (0, zr 0), (1, zi (nI l)), (2, zi f)] [zi ((rS 1 μ) (31 + (pb (rS 1 μ) + m))), zi (nI l), zr 0] ν4 _
      refine zx_callVf (nn := 52) (k := 0) (d' := 2) (as := [zi (nI l), zi ((rS 1 μ) (31 + (pb (rS 1 μ) + m)))]) (rest := []) (n := 2) (eX11_sight_0 σ ν4 l ((rS 1 μ) (31 + (pb (rS 1 μ) + m)))  ok2 ab2 (by rw [hs2, hok2.2.2.2.1]; exact hl) hpl) kX11_sight mlX11_137 rfl rfl rfl (by decide) rfl rfl (Nat.le_of_ble_eq_true rfl) dX11_lostAt_49 rfl ?_
      show zX shR σ 7 MX11_lostAt 52 [(4, zi (pGain ρ (rS 1 μ1) (0 - 1))), (3, zi (nI (pb (rS 1 μ) + m))), (0, zr 0), (1, zi (nI l)), (2, zi f)] [zi (pSightL (rS 1 ν4) l ((rS 1 μ) (31 + (pb (rS 1 μ) + m))))] ν4 _
      rw [show pSightL (rS 1 ν4) l ((rS 1 μ) (31 + (pb (rS 1 μ) + m))) = pSightL (pRun ρ (rS 1 μ) (m + 1)) l ((rS 1 μ) (31 + (pb (rS 1 μ) + m))) from by rw [hs2]]
      show zX shR σ 7 MX11_lostAt 52 [(4, zi (pGain ρ (rS 1 μ1) (0 - 1))), (3, zi (nI (pb (rS 1 μ) + m))), (0, zr 0), (1, zi (nI l)), (2, zi f)] [zi (pSightL (pRun ρ (rS 1 μ) (m + 1)) l ((rS 1 μ) (31 + (pb (rS 1 μ) + m))))] ν4 _
      refine zx_if_ne (tgt := 59) (nn := 55) dX11_lostAt_52 (by decide) rfl (fun h52 => ?_) (fun h52 => ?_)
      · refine zx_bipush (v := -3) (nn := 61) rfl dX11_lostAt_59 rfl ?_
        refine zx_istore_n (nn := 62) (lv' := [(2, zi (-3)), (4, zi (pGain ρ (rS 1 μ1) (0 - 1))), (3, zi (nI (pb (rS 1 μ) + m))), (0, zr 0), (1, zi (nI l))]) dX11_lostAt_61 rfl (by decide) rfl rfl ?_
        refine zx_goto (tgt := 11) dX11_lostAt_62 (by decide) ?_
        refine zx_lv (lv' := [(0, zr 0), (1, zi (nI l)), (2, zi (-3))]) [3, 4, 0] rfl ?_
        exact ih11 (m + 1, -3, ν4) (show (m + 1) ≤ pRem (rS 1 μ) ∧ rS 1 ν4 = pRun ρ (rS 1 μ) (m + 1) ∧ rQ μ ν4 ∧ zJ [1, 4, 6, 7] μ ν4 ∧ rSav (μ 1) (ν4 7) ∧ (((-3) = -3 ∧ pFirst (pOutAt ρ (rS 1 μ) l) 0 (pRem (rS 1 μ)) = pFirst (pOutAt ρ (rS 1 μ) l) (m + 1) (pRem (rS 1 μ) - (m + 1))) ∨ (¬ (-3) = -3 ∧ (-3) = pLost ρ (rS 1 μ) l)) from ⟨by omega, hs2, hq2, hj2, hsv2, Or.inl ⟨rfl, by rw [hv2, pFirst_step (by omega), show (pOutAt ρ (rS 1 μ) l) m = false from decide_eq_false h52]; rfl⟩⟩) (by show pRem (rS 1 μ) - (m + 1) < pRem (rS 1 μ) - m; omega)
      · refine zx_iload_n (k := 1) (nn := 56) dX11_lostAt_55 rfl rfl rfl ?_
        refine zx_goto (tgt := 61) dX11_lostAt_56 (by decide) ?_
        refine zx_istore_n (nn := 62) (lv' := [(2, zi (nI (pb (rS 1 μ) + m))), (4, zi (pGain ρ (rS 1 μ1) (0 - 1))), (3, zi (nI (pb (rS 1 μ) + m))), (0, zr 0), (1, zi (nI l))]) dX11_lostAt_61 rfl (by decide) rfl rfl ?_
        refine zx_goto (tgt := 11) dX11_lostAt_62 (by decide) ?_
        refine zx_lv (lv' := [(0, zr 0), (1, zi (nI l)), (2, zi (nI (pb (rS 1 μ) + m)))]) [3, 4, 0] rfl ?_
        exact ih11 (m + 1, nI (pb (rS 1 μ) + m), ν4) (show (m + 1) ≤ pRem (rS 1 μ) ∧ rS 1 ν4 = pRun ρ (rS 1 μ) (m + 1) ∧ rQ μ ν4 ∧ zJ [1, 4, 6, 7] μ ν4 ∧ rSav (μ 1) (ν4 7) ∧ (((nI (pb (rS 1 μ) + m)) = -3 ∧ pFirst (pOutAt ρ (rS 1 μ) l) 0 (pRem (rS 1 μ)) = pFirst (pOutAt ρ (rS 1 μ) l) (m + 1) (pRem (rS 1 μ) - (m + 1))) ∨ (¬ (nI (pb (rS 1 μ) + m)) = -3 ∧ (nI (pb (rS 1 μ) + m)) = pLost ρ (rS 1 μ) l)) from ⟨by omega, hs2, hq2, hj2, hsv2, Or.inr ⟨nI_ne3 (by omega), by unfold pLost; rw [hv2, pFirst_step (by omega), show (pOutAt ρ (rS 1 μ) l) m = true from decide_eq_true h52]; rfl⟩⟩) (by show pRem (rS 1 μ) - (m + 1) < pRem (rS 1 μ) - m; omega)
set_option maxHeartbeats 4000000 in
set_option maxRecDepth 100000 in
theorem eX11_lost_0 (σ : zG) (μ : zM) (l : Int32) {ρ : pR} (ok : pOK (rS 1 μ)) (ab : pAB (rS 1 μ)) (hρ : rRep ρ (μ 1)) : zMet shR σ 8 MX11_lost yX11_lost [zr 0, zi l] μ (fun rr μ' => rr = some (zi (vLost ρ (rS 1 μ) l)) ∧ zJ [4, 6, 7] μ μ') := by
  refine zmetF (by decide +kernel) rfl (Nat.le_of_ble_eq_true rfl) ?_
  show zX shR σ 8 MX11_lost 0 [(0, zr 0), (1, zi l)] [] μ _
  refine zx_aload_n (k := 0) (nn := 1) dX11_lost_0 rfl rfl rfl ?_
  refine zx_iload_n (k := 1) (nn := 2) dX11_lost_1 rfl rfl rfl ?_
  refine zx_callVf (nn := 5) (k := 0) (d' := 1) (as := [zi l]) (rest := []) (n := 1) (eX11_isLamp_0 σ μ l  ok) kX11_isLamp mlX11_84 rfl rfl rfl (by decide) rfl rfl (Nat.le_of_ble_eq_true rfl) dX11_lost_2 rfl ?_
  show zX shR σ 8 MX11_lost 5 [(0, zr 0), (1, zi l)] [zi (zb (pHas ((rS 1 μ) 0) l))] μ _
  refine zx_ifb_eq (tgt := 16) (nn := 8) dX11_lost_5 (by decide) rfl (fun h5 => ?_) (fun h5 => ?_)
  · refine zx_iconst (v := -1) (nn := 17) rfl dX11_lost_16 rfl ?_
    refine zx_iret rfl dX11_lost_17 ?_
    refine ⟨congrArg (fun x => some (zi x)) ?_, zJ.rf⟩
    simp [vLost, h5]
  · obtain ⟨l1, n_l, rfl⟩ := hasL ok h5
    show zX shR σ 8 MX11_lost 8 [(0, zr 0), (1, zi (nI l1))] [] μ _
    refine zx_aload_n (k := 0) (nn := 9) dX11_lost_8 rfl rfl rfl ?_
    refine zx_iload_n (k := 1) (nn := 10) dX11_lost_9 rfl rfl rfl ?_
    refine zx_callV (nn := 13) (k := 0) (d' := 7) (as := [zi (nI l1)]) (rest := []) (n := 1) (eX11_lostAt_0 σ μ l1  ok ab n_l.1 hρ) kX11_lostAt mlX11_304 rfl rfl rfl (by decide) rfl rfl (Nat.le_of_ble_eq_true rfl) dX11_lost_10 rfl ?_
    rintro _ ν1 ⟨rfl, q1⟩
    show zX shR σ 8 MX11_lost 13 [(0, zr 0), (1, zi (nI l1))] [zi (pLost ρ (rS 1 μ) l1)] ν1 _
    refine zx_goto (tgt := 17) dX11_lost_13 (by decide) ?_
    refine zx_iret rfl dX11_lost_17 ?_
    refine ⟨congrArg (fun x => some (zi x)) ?_, q1⟩
    unfold vLost
    rw [if_pos h5, n_l.2.2]
set_option maxHeartbeats 4000000 in
set_option maxRecDepth 100000 in
theorem eX11_crosses_0 (σ : zG) (μ : zM) (l : Int32) (k : Int32) {ρ : pR} (ok : pOK (rS 1 μ)) (ab : pAB (rS 1 μ)) (hρ : rRep ρ (μ 1)) : zMet shR σ 7 MX11_crosses yX11_crosses [zr 0, zi l, zi k] μ (fun rr μ' => rr = some (zi (vCross ρ (rS 1 μ) l k)) ∧ zJ [4, 6, 7] μ μ') := by
  have hB16 := (ok_B ok).2
  have hbB := (ok_b ok).2
  have hrem : pRem (rS 1 μ) = pB (rS 1 μ) - pb (rS 1 μ) := rfl
  refine zmetF (by decide +kernel) rfl (Nat.le_of_ble_eq_true rfl) ?_
  show zX shR σ 7 MX11_crosses 0 [(0, zr 0), (1, zi l), (2, zi k)] [] μ _
  refine zx_aload_n (k := 0) (nn := 1) dX11_crosses_0 rfl rfl rfl ?_
  refine zx_iload_n (k := 1) (nn := 2) dX11_crosses_1 rfl rfl rfl ?_
  refine zx_callVf (nn := 5) (k := 0) (d' := 1) (as := [zi l]) (rest := []) (n := 1) (eX11_isLamp_0 σ μ l  ok) kX11_isLamp mlX11_84 rfl rfl rfl (by decide) rfl rfl (Nat.le_of_ble_eq_true rfl) dX11_crosses_2 rfl ?_
  show zX shR σ 7 MX11_crosses 5 [(0, zr 0), (1, zi l), (2, zi k)] [zi (zb (pHas ((rS 1 μ) 0) l))] μ _
  refine zx_ifb_eq (tgt := 21) (nn := 8) dX11_crosses_5 (by decide) rfl (fun h5 => ?_) (fun h5 => ?_)
  · refine zx_iconst (v := -1) (nn := 22) rfl dX11_crosses_21 rfl ?_
    refine zx_iret rfl dX11_crosses_22 ?_
    refine ⟨congrArg (fun x => some (zi x)) ?_, zJ.rf⟩
    simp [vCross, h5]
  · refine zx_aload_n (k := 0) (nn := 9) dX11_crosses_8 rfl rfl rfl ?_
    refine zx_iload_n (k := 2) (nn := 10) dX11_crosses_9 rfl rfl rfl ?_
    refine zx_callVf (nn := 13) (k := 0) (d' := 1) (as := [zi k]) (rest := []) (n := 1) (eX11_isLamp_0 σ μ k  ok) kX11_isLamp mlX11_84 rfl rfl rfl (by decide) rfl rfl (Nat.le_of_ble_eq_true rfl) dX11_crosses_10 rfl ?_
    show zX shR σ 7 MX11_crosses 13 [(0, zr 0), (1, zi l), (2, zi k)] [zi (zb (pHas ((rS 1 μ) 0) k))] μ _
    refine zx_ifb_eq (tgt := 21) (nn := 16) dX11_crosses_13 (by decide) rfl (fun h13 => ?_) (fun h13 => ?_)
    · refine zx_iconst (v := -1) (nn := 22) rfl dX11_crosses_21 rfl ?_
      refine zx_iret rfl dX11_crosses_22 ?_
      refine ⟨congrArg (fun x => some (zi x)) ?_, zJ.rf⟩
      simp [vCross, h5, h13]
    · refine zx_iload_n (k := 1) (nn := 17) dX11_crosses_16 rfl rfl rfl ?_
      refine zx_iload_n (k := 2) (nn := 18) dX11_crosses_17 rfl rfl rfl ?_
      refine zx_icmp_ne (tgt := 23) (nn := 21) dX11_crosses_18 (by decide) rfl (fun h18 => ?_) (fun h18 => ?_)
      · obtain ⟨l1, n_l, rfl⟩ := hasL ok h5
        show zX shR σ 7 MX11_crosses 23 [(0, zr 0), (1, zi (nI l1)), (2, zi k)] [] μ _
        obtain ⟨k1, n_k, rfl⟩ := hasL ok h13
        show zX shR σ 7 MX11_crosses 23 [(0, zr 0), (1, zi (nI l1)), (2, zi (nI k1))] [] μ _
        refine zx_aload_n (k := 0) (nn := 24) dX11_crosses_23 rfl rfl rfl ?_
        refine zx_aload_n (k := 0) (nn := 25) dX11_crosses_24 rfl rfl rfl ?_
        refine zx_getR (q := 7) (nn := 28) flX11_28 rfl rfl dX11_crosses_25 rfl ?_
        refine zx_callV (nn := 31) (k := 0) (d' := 0) (as := [zr 7]) (rest := []) (n := 1) (eX11_saves_7 σ μ) kX11_saves mlX11_292 rfl rfl rfl (by decide) rfl rfl (Nat.le_of_ble_eq_true rfl) dX11_crosses_28 rfl ?_
        rintro _ ν1 ⟨rfl, q1⟩
        show zX shR σ 7 MX11_crosses 31 [(0, zr 0), (1, zi (nI l1)), (2, zi (nI k1))] [] ν1 _
        refine zx_iconst (v := 0) (nn := 32) rfl dX11_crosses_31 rfl ?_
        refine zx_istore_n (nn := 33) (lv' := [(3, zi 0), (0, zr 0), (1, zi (nI l1)), (2, zi (nI k1))]) dX11_crosses_32 rfl (by decide) rfl rfl ?_
        refine zx_lv (lv' := [(0, zr 0), (1, zi (nI l1)), (2, zi (nI k1)), (3, zi 0)]) [1, 2, 3, 0] rfl ?_
        refine zx_while (τ := Nat × Nat × zM) (fun t_ => pRem (rS 1 μ) - t_.1) (fun t_ => t_.1 ≤ pRem (rS 1 μ) ∧ rS 1 t_.2.2 = pRun ρ (rS 1 μ) t_.1 ∧ rQ μ t_.2.2 ∧ zJ [1, 4, 6, 7] μ t_.2.2 ∧ rSav (μ 1) (t_.2.2 7) ∧ t_.2.1 = pCount (pCrossAt ρ (rS 1 μ) l1 k1) t_.1) (fun t_ => [(0, zr 0), (1, zi (nI l1)), (2, zi (nI k1)), (3, zi (nI t_.2.1))]) (fun t_ => t_.2.2) (t0 := (0, 0, ν1)) (show 0 ≤ pRem (rS 1 μ) ∧ rS 1 ν1 = pRun ρ (rS 1 μ) 0 ∧ rQ μ ν1 ∧ zJ [1, 4, 6, 7] μ ν1 ∧ rSav (μ 1) (ν1 7) ∧ 0 = pCount (pCrossAt ρ (rS 1 μ) l1 k1) 0 from ⟨Nat.zero_le _, rS_eq (q1.1 1 (by decide)), rQ_e (q1.1 1 (by decide)), q1.1.mono (by simp), q1.2, rfl⟩) ?_
        rintro ⟨m, c, μ1⟩ hI ih33
        replace hI : m ≤ pRem (rS 1 μ) ∧ rS 1 μ1 = pRun ρ (rS 1 μ) m ∧ rQ μ μ1 ∧ zJ [1, 4, 6, 7] μ μ1 ∧ rSav (μ 1) (μ1 7) ∧ c = pCount (pCrossAt ρ (rS 1 μ) l1 k1) m := hI
        show zX shR σ 7 MX11_crosses 33 [(0, zr 0), (1, zi (nI l1)), (2, zi (nI k1)), (3, zi (nI c))] [] μ1 _
        obtain ⟨hm, hs, hq, hj, hsv, hv⟩ := hI
        have hok1 := pRun_ok (ρ := ρ) ok m (by omega)
        have okm : pOK (rS 1 μ1) := by rw [hs]; exact hok1.1
        have abm : pAB (rS 1 μ1) := by rw [hs]; exact pAB_run ok ab m (by omega)
        have hρm : rRep ρ (μ1 1) := rRep_K (rQ_K hq) hρ
        have hcl : c ≤ 16 := by have := pCount_le (pCrossAt ρ (rS 1 μ) l1 k1) m; omega
        have abR : pAB (pRun ρ (rS 1 μ) m) := pAB_run ok ab m (by omega)
        refine zx_aload_n (k := 0) (nn := 34) dX11_crosses_33 rfl rfl rfl ?_
        refine zx_callVf (nn := 37) (k := 0) (d' := 0) (as := []) (rest := []) (n := 0) (eX11_isOver_0 σ μ1   ) kX11_isOver mlX11_96 rfl rfl rfl (by decide) rfl rfl (Nat.le_of_ble_eq_true rfl) dX11_crosses_34 rfl ?_
        show zX shR σ 7 MX11_crosses 37 [(0, zr 0), (1, zi (nI l1)), (2, zi (nI k1)), (3, zi (nI c))] [zi (zb (pOver (rS 1 μ1)))] μ1 _
        refine zx_ifb_ne (tgt := 108) (nn := 40) dX11_crosses_37 (by decide) rfl (fun h37 => ?_) (fun h37 => ?_)
        · refine zx_aload_n (k := 0) (nn := 109) dX11_crosses_108 rfl rfl rfl ?_
          refine zx_aload_n (k := 0) (nn := 110) dX11_crosses_109 rfl rfl rfl ?_
          refine zx_getR (q := 7) (nn := 113) flX11_28 rfl rfl dX11_crosses_110 rfl ?_
          refine zx_callV (nn := 116) (k := 0) (d' := 0) (as := [zr 7]) (rest := []) (n := 1) (eX11_putsBack_7 σ μ1) kX11_putsBack mlX11_296 rfl rfl rfl (by decide) rfl rfl (Nat.le_of_ble_eq_true rfl) dX11_crosses_113 rfl ?_
          rintro _ ν2 ⟨rfl, q2⟩
          show zX shR σ 7 MX11_crosses 116 [(0, zr 0), (1, zi (nI l1)), (2, zi (nI k1)), (3, zi (nI c))] [] ν2 _
          refine zx_iload_n (k := 3) (nn := 117) dX11_crosses_116 rfl rfl rfl ?_
          refine zx_iret rfl dX11_crosses_117 ?_
          rw [pOver_iff okm, hs, hok1.2.1, hok1.2.2.1] at h37
          have hge := of_decide_eq_true h37
          refine ⟨congrArg (fun x => some (zi x)) ?_, zJ_drop (k := 1) (hj.tr (q2.1.mono (by simp))) (q2.2.trans (rPb_eq hsv hq)) (by decide)⟩
          unfold vCross pCross
          rw [if_pos ⟨h5, h13, h18⟩, n_l.2.2, n_k.2.2, hv, show m = pRem (rS 1 μ) by omega]
        · rw [pOver_iff okm, hs, hok1.2.1, hok1.2.2.1] at h37
          have hlt := of_decide_eq_false h37
          refine zx_aload_n (k := 0) (nn := 41) dX11_crosses_40 rfl rfl rfl ?_
          refine zx_iload_n (k := 1) (nn := 42) dX11_crosses_41 rfl rfl rfl ?_
          refine zx_iconst (v := 1) (nn := 43) rfl dX11_crosses_42 rfl ?_
          refine zx_callVf (nn := 46) (k := 0) (d' := 0) (as := [zi (nI l1), zi 1]) (rest := []) (n := 2) (eX11_of_0 σ μ1 l1 1  n_l.2.1 (by decide)) kX11_of mlX11_88 rfl rfl rfl (by decide) rfl rfl (Nat.le_of_ble_eq_true rfl) dX11_crosses_43 rfl ?_
          show zX shR σ 7 MX11_crosses 46 [(0, zr 0), (1, zi (nI l1)), (2, zi (nI k1)), (3, zi (nI c))] [zi (rS 1 μ1 (7 + 4 * l1 + 1))] μ1 _
          rw [show rS 1 μ1 (7 + 4 * l1 + 1) = pRun ρ (rS 1 μ) m (7 + 4 * l1 + 1) from by rw [hs]]
          show zX shR σ 7 MX11_crosses 46 [(0, zr 0), (1, zi (nI l1)), (2, zi (nI k1)), (3, zi (nI c))] [zi (pRun ρ (rS 1 μ) m (7 + 4 * l1 + 1))] μ1 _
          refine zx_aload_n (k := 0) (nn := 47) dX11_crosses_46 rfl rfl rfl ?_
          refine zx_iload_n (k := 2) (nn := 48) dX11_crosses_47 rfl rfl rfl ?_
          refine zx_iconst (v := 1) (nn := 49) rfl dX11_crosses_48 rfl ?_
          refine zx_callVf (nn := 52) (k := 0) (d' := 0) (as := [zi (nI k1), zi 1]) (rest := [zi (pRun ρ (rS 1 μ) m (7 + 4 * l1 + 1))]) (n := 2) (eX11_of_0 σ μ1 k1 1  n_k.2.1 (by decide)) kX11_of mlX11_88 rfl rfl rfl (by decide) rfl rfl (Nat.le_of_ble_eq_true rfl) dX11_crosses_49 rfl ?_
          show zX shR σ 7 MX11_crosses 52 [(0, zr 0), (1, zi (nI l1)), (2, zi (nI k1)), (3, zi (nI c))] [zi (rS 1 μ1 (7 + 4 * k1 + 1)), zi (pRun ρ (rS 1 μ) m (7 + 4 * l1 + 1))] μ1 _
          rw [show rS 1 μ1 (7 + 4 * k1 + 1) = pRun ρ (rS 1 μ) m (7 + 4 * k1 + 1) from by rw [hs]]
          show zX shR σ 7 MX11_crosses 52 [(0, zr 0), (1, zi (nI l1)), (2, zi (nI k1)), (3, zi (nI c))] [zi (pRun ρ (rS 1 μ) m (7 + 4 * k1 + 1)), zi (pRun ρ (rS 1 μ) m (7 + 4 * l1 + 1))] μ1 _
          refine zx_isub (nn := 53) dX11_crosses_52 rfl ?_
          refine zx_istore (nn := 55) (lv' := [(4, zi ((pRun ρ (rS 1 μ) m (7 + 4 * l1 + 1)) - (pRun ρ (rS 1 μ) m (7 + 4 * k1 + 1)))), (0, zr 0), (1, zi (nI l1)), (2, zi (nI k1)), (3, zi (nI c))]) dX11_crosses_53 (by decide) rfl rfl ?_
          refine zx_aload_n (k := 1) (nn := 56) dX11_crosses_55 rfl rfl rfl ?_
          refine zx_iconst (v := 0) (nn := 57) rfl dX11_crosses_56 rfl ?_
          refine zx_callV (nn := 60) (k := 0) (d' := 6) (as := [zi 0]) (rest := []) (n := 1) (eX11_goes_0 σ μ1 0 okm abm hρm (by rw [hs, hok1.2.1, hok1.2.2.1]; omega)) kX11_goes mlX11_284 rfl rfl rfl (by decide) rfl rfl (Nat.le_of_ble_eq_true rfl) dX11_crosses_57 rfl ?_
          rintro _ ν3 ⟨rfl, q3⟩
          show zX shR σ 7 MX11_crosses 60 [(4, zi ((pRun ρ (rS 1 μ) m (7 + 4 * l1 + 1)) - (pRun ρ (rS 1 μ) m (7 + 4 * k1 + 1)))), (0, zr 0), (1, zi (nI l1)), (2, zi (nI k1)), (3, zi (nI c))] [zi (pGain ρ (rS 1 μ1) (0 - 1))] ν3 _
          have hs2 : rS 1 ν3 = pRun ρ (rS 1 μ) (m + 1) := by rw [q3.1, hs]; rfl
          have hq2 : rQ μ ν3 := rQ_tr hq q3.2.1
          have hj2 : zJ [1, 4, 6, 7] μ ν3 := hj.tr (q3.2.2.mono (by simp))
          have hsv2 : rSav (μ 1) (ν3 7) := by rw [q3.2.2 7 (by decide)]; exact hsv
          have hok2 := pRun_ok (ρ := ρ) ok (m + 1) (by omega)
          have ok2 : pOK (rS 1 ν3) := by rw [hs2]; exact hok2.1
          have ab2 : pAB (rS 1 ν3) := by rw [hs2]; exact pAB_run ok ab (m + 1) (by omega)
          have hpl : 0 ≤ (rS 1 μ) (31 + (pb (rS 1 μ) + m)) ∧ (rS 1 μ) (31 + (pb (rS 1 μ) + m)) ≤ 40 := ab.2 _ (by omega)
          have abR2 : pAB (pRun ρ (rS 1 μ) (m + 1)) := pAB_run ok ab (m + 1) (by omega)
          refine zx_istore (nn := 62) (lv' := [(5, zi (pGain ρ (rS 1 μ1) (0 - 1))), (4, zi ((pRun ρ (rS 1 μ) m (7 + 4 * l1 + 1)) - (pRun ρ (rS 1 μ) m (7 + 4 * k1 + 1)))), (0, zr 0), (1, zi (nI l1)), (2, zi (nI k1)), (3, zi (nI c))]) dX11_crosses_60 (by decide) rfl rfl ?_
          refine zx_aload_n (k := 2) (nn := 63) dX11_crosses_62 rfl rfl rfl ?_
          refine zx_iload_n (k := 3) (nn := 64) dX11_crosses_63 rfl rfl rfl ?_
          refine zx_iconst (v := 1) (nn := 65) rfl dX11_crosses_64 rfl ?_
          refine zx_callVf (nn := 68) (k := 0) (d' := 0) (as := [zi (nI l1), zi 1]) (rest := []) (n := 2) (eX11_of_0 σ ν3 l1 1  n_l.2.1 (by decide)) kX11_of mlX11_88 rfl rfl rfl (by decide) rfl rfl (Nat.le_of_ble_eq_true rfl) dX11_crosses_65 rfl ?_
          show zX shR σ 7 MX11_crosses 68 [(5, zi (pGain ρ (rS 1 μ1) (0 - 1))), (4, zi ((pRun ρ (rS 1 μ) m (7 + 4 * l1 + 1)) - (pRun ρ (rS 1 μ) m (7 + 4 * k1 + 1)))), (0, zr 0), (1, zi (nI l1)), (2, zi (nI k1)), (3, zi (nI c))] [zi (rS 1 ν3 (7 + 4 * l1 + 1))] ν3 _
          rw [show rS 1 ν3 (7 + 4 * l1 + 1) = pRun ρ (rS 1 μ) (m + 1) (7 + 4 * l1 + 1) from by rw [hs2]]
          show zX shR σ 7 MX11_crosses 68 [(5, zi (pGain ρ (rS 1 μ1) (0 - 1))), (4, zi ((pRun ρ (rS 1 μ) m (7 + 4 * l1 + 1)) - (pRun ρ (rS 1 μ) m (7 + 4 * k1 + 1)))), (0, zr 0), (1, zi (nI l1)), (2, zi (nI k1)), (3, zi (nI c))] [zi (pRun ρ (rS 1 μ) (m + 1) (7 + 4 * l1 + 1))] ν3 _
          refine zx_aload_n (k := 2) (nn := 69) dX11_crosses_68 rfl rfl rfl ?_
          refine zx_iload_n (k := 4) (nn := 70) dX11_crosses_69 rfl rfl rfl ?_
          refine zx_iconst (v := 1) (nn := 71) rfl dX11_crosses_70 rfl ?_
          refine zx_callVf (nn := 74) (k := 0) (d' := 0) (as := [zi (nI k1), zi 1]) (rest := [zi (pRun ρ (rS 1 μ) (m + 1) (7 + 4 * l1 + 1))]) (n := 2) (eX11_of_0 σ ν3 k1 1  n_k.2.1 (by decide)) kX11_of mlX11_88 rfl rfl rfl (by decide) rfl rfl (Nat.le_of_ble_eq_true rfl) dX11_crosses_71 rfl ?_
          show zX shR σ 7 MX11_crosses 74 [(5, zi (pGain ρ (rS 1 μ1) (0 - 1))), (4, zi ((pRun ρ (rS 1 μ) m (7 + 4 * l1 + 1)) - (pRun ρ (rS 1 μ) m (7 + 4 * k1 + 1)))), (0, zr 0), (1, zi (nI l1)), (2, zi (nI k1)), (3, zi (nI c))] [zi (rS 1 ν3 (7 + 4 * k1 + 1)), zi (pRun ρ (rS 1 μ) (m + 1) (7 + 4 * l1 + 1))] ν3 _
          rw [show rS 1 ν3 (7 + 4 * k1 + 1) = pRun ρ (rS 1 μ) (m + 1) (7 + 4 * k1 + 1) from by rw [hs2]]
          show zX shR σ 7 MX11_crosses 74 [(5, zi (pGain ρ (rS 1 μ1) (0 - 1))), (4, zi ((pRun ρ (rS 1 μ) m (7 + 4 * l1 + 1)) - (pRun ρ (rS 1 μ) m (7 + 4 * k1 + 1)))), (0, zr 0), (1, zi (nI l1)), (2, zi (nI k1)), (3, zi (nI c))] [zi (pRun ρ (rS 1 μ) (m + 1) (7 + 4 * k1 + 1)), zi (pRun ρ (rS 1 μ) (m + 1) (7 + 4 * l1 + 1))] ν3 _
          refine zx_isub (nn := 75) dX11_crosses_74 rfl ?_
          refine zx_istore (nn := 77) (lv' := [(6, zi ((pRun ρ (rS 1 μ) (m + 1) (7 + 4 * l1 + 1)) - (pRun ρ (rS 1 μ) (m + 1) (7 + 4 * k1 + 1)))), (5, zi (pGain ρ (rS 1 μ1) (0 - 1))), (4, zi ((pRun ρ (rS 1 μ) m (7 + 4 * l1 + 1)) - (pRun ρ (rS 1 μ) m (7 + 4 * k1 + 1)))), (0, zr 0), (1, zi (nI l1)), (2, zi (nI k1)), (3, zi (nI c))]) dX11_crosses_75 (by decide) rfl rfl ?_
          refine zx_iload_n (k := 6) (nn := 78) dX11_crosses_77 rfl rfl rfl ?_
          refine zx_iload (k := 2) (nn := 80) dX11_crosses_78 rfl rfl ?_
          refine zx_if_ge (tgt := 88) (nn := 83) dX11_crosses_80 (by decide) rfl (fun h80 => ?_) (fun h80 => ?_)
          · refine zx_iload (k := 2) (nn := 90) dX11_crosses_88 rfl rfl ?_
            refine zx_if_le (tgt := 102) (nn := 93) dX11_crosses_90 (by decide) rfl (fun h90 => ?_) (fun h90 => ?_)
            · refine zx_iconst (v := 0) (nn := 103) rfl dX11_crosses_102 rfl ?_
              refine zx_iadd (nn := 104) dX11_crosses_103 rfl ?_
              rw [show (nI c) + 0 = nI c from Int32.add_zero _]
              show zX shR σ 7 MX11_crosses 104 [(6, zi ((pRun ρ (rS 1 μ) (m + 1) (7 + 4 * l1 + 1)) - (pRun ρ (rS 1 μ) (m + 1) (7 + 4 * k1 + 1)))), (5, zi (pGain ρ (rS 1 μ1) (0 - 1))), (4, zi ((pRun ρ (rS 1 μ) m (7 + 4 * l1 + 1)) - (pRun ρ (rS 1 μ) m (7 + 4 * k1 + 1)))), (0, zr 0), (1, zi (nI l1)), (2, zi (nI k1)), (3, zi (nI c))] [zi (nI c)] ν3 _
              refine zx_istore_n (nn := 105) (lv' := [(3, zi (nI c)), (6, zi ((pRun ρ (rS 1 μ) (m + 1) (7 + 4 * l1 + 1)) - (pRun ρ (rS 1 μ) (m + 1) (7 + 4 * k1 + 1)))), (5, zi (pGain ρ (rS 1 μ1) (0 - 1))), (4, zi ((pRun ρ (rS 1 μ) m (7 + 4 * l1 + 1)) - (pRun ρ (rS 1 μ) m (7 + 4 * k1 + 1)))), (0, zr 0), (1, zi (nI l1)), (2, zi (nI k1))]) dX11_crosses_104 rfl (by decide) rfl rfl ?_
              refine zx_goto (tgt := 33) dX11_crosses_105 (by decide) ?_
              refine zx_lv (lv' := [(0, zr 0), (1, zi (nI l1)), (2, zi (nI k1)), (3, zi (nI c))]) [4, 5, 6, 0] rfl ?_
              exact ih33 (m + 1, c, ν3) (show (m + 1) ≤ pRem (rS 1 μ) ∧ rS 1 ν3 = pRun ρ (rS 1 μ) (m + 1) ∧ rQ μ ν3 ∧ zJ [1, 4, 6, 7] μ ν3 ∧ rSav (μ 1) (ν3 7) ∧ c = pCount (pCrossAt ρ (rS 1 μ) l1 k1) (m + 1) from ⟨by omega, hs2, hq2, hj2, hsv2, by show _ = if _ then _ else _; rw [pCross_r abR abR2 (by rw [hok1.2.2.2.1]; exact n_l.1) (by rw [hok1.2.2.2.1]; exact n_k.1) (by rw [hok2.2.2.2.1]; exact n_l.1) (by rw [hok2.2.2.2.1]; exact n_k.1)]; simp [Int32.not_lt.mpr h80, Int32.not_lt.mpr h90, hv]⟩) (by show pRem (rS 1 μ) - (m + 1) < pRem (rS 1 μ) - m; omega)
            · refine zx_iload (k := 0) (nn := 95) dX11_crosses_93 rfl rfl ?_
              refine zx_if_ge (tgt := 102) (nn := 98) dX11_crosses_95 (by decide) rfl (fun h95 => ?_) (fun h95 => ?_)
              · refine zx_iconst (v := 0) (nn := 103) rfl dX11_crosses_102 rfl ?_
                refine zx_iadd (nn := 104) dX11_crosses_103 rfl ?_
                rw [show (nI c) + 0 = nI c from Int32.add_zero _]
                show zX shR σ 7 MX11_crosses 104 [(6, zi ((pRun ρ (rS 1 μ) (m + 1) (7 + 4 * l1 + 1)) - (pRun ρ (rS 1 μ) (m + 1) (7 + 4 * k1 + 1)))), (5, zi (pGain ρ (rS 1 μ1) (0 - 1))), (4, zi ((pRun ρ (rS 1 μ) m (7 + 4 * l1 + 1)) - (pRun ρ (rS 1 μ) m (7 + 4 * k1 + 1)))), (0, zr 0), (1, zi (nI l1)), (2, zi (nI k1)), (3, zi (nI c))] [zi (nI c)] ν3 _
                refine zx_istore_n (nn := 105) (lv' := [(3, zi (nI c)), (6, zi ((pRun ρ (rS 1 μ) (m + 1) (7 + 4 * l1 + 1)) - (pRun ρ (rS 1 μ) (m + 1) (7 + 4 * k1 + 1)))), (5, zi (pGain ρ (rS 1 μ1) (0 - 1))), (4, zi ((pRun ρ (rS 1 μ) m (7 + 4 * l1 + 1)) - (pRun ρ (rS 1 μ) m (7 + 4 * k1 + 1)))), (0, zr 0), (1, zi (nI l1)), (2, zi (nI k1))]) dX11_crosses_104 rfl (by decide) rfl rfl ?_
                refine zx_goto (tgt := 33) dX11_crosses_105 (by decide) ?_
                refine zx_lv (lv' := [(0, zr 0), (1, zi (nI l1)), (2, zi (nI k1)), (3, zi (nI c))]) [4, 5, 6, 0] rfl ?_
                exact ih33 (m + 1, c, ν3) (show (m + 1) ≤ pRem (rS 1 μ) ∧ rS 1 ν3 = pRun ρ (rS 1 μ) (m + 1) ∧ rQ μ ν3 ∧ zJ [1, 4, 6, 7] μ ν3 ∧ rSav (μ 1) (ν3 7) ∧ c = pCount (pCrossAt ρ (rS 1 μ) l1 k1) (m + 1) from ⟨by omega, hs2, hq2, hj2, hsv2, by show _ = if _ then _ else _; rw [pCross_r abR abR2 (by rw [hok1.2.2.2.1]; exact n_l.1) (by rw [hok1.2.2.2.1]; exact n_k.1) (by rw [hok2.2.2.2.1]; exact n_l.1) (by rw [hok2.2.2.2.1]; exact n_k.1)]; simp [Int32.not_lt.mpr h80, Int32.not_le.mp h90, Int32.not_lt.mpr h95, hv]⟩) (by show pRem (rS 1 μ) - (m + 1) < pRem (rS 1 μ) - m; omega)
              · refine zx_iconst (v := 1) (nn := 99) rfl dX11_crosses_98 rfl ?_
                refine zx_goto (tgt := 103) dX11_crosses_99 (by decide) ?_
                refine zx_iadd (nn := 104) dX11_crosses_103 rfl ?_
                rw [show (nI c) + 1 = nI (c + 1) from nI_1 _]
                show zX shR σ 7 MX11_crosses 104 [(6, zi ((pRun ρ (rS 1 μ) (m + 1) (7 + 4 * l1 + 1)) - (pRun ρ (rS 1 μ) (m + 1) (7 + 4 * k1 + 1)))), (5, zi (pGain ρ (rS 1 μ1) (0 - 1))), (4, zi ((pRun ρ (rS 1 μ) m (7 + 4 * l1 + 1)) - (pRun ρ (rS 1 μ) m (7 + 4 * k1 + 1)))), (0, zr 0), (1, zi (nI l1)), (2, zi (nI k1)), (3, zi (nI c))] [zi (nI (c + 1))] ν3 _
                refine zx_istore_n (nn := 105) (lv' := [(3, zi (nI (c + 1))), (6, zi ((pRun ρ (rS 1 μ) (m + 1) (7 + 4 * l1 + 1)) - (pRun ρ (rS 1 μ) (m + 1) (7 + 4 * k1 + 1)))), (5, zi (pGain ρ (rS 1 μ1) (0 - 1))), (4, zi ((pRun ρ (rS 1 μ) m (7 + 4 * l1 + 1)) - (pRun ρ (rS 1 μ) m (7 + 4 * k1 + 1)))), (0, zr 0), (1, zi (nI l1)), (2, zi (nI k1))]) dX11_crosses_104 rfl (by decide) rfl rfl ?_
                refine zx_goto (tgt := 33) dX11_crosses_105 (by decide) ?_
                refine zx_lv (lv' := [(0, zr 0), (1, zi (nI l1)), (2, zi (nI k1)), (3, zi (nI (c + 1)))]) [4, 5, 6, 0] rfl ?_
                exact ih33 (m + 1, c + 1, ν3) (show (m + 1) ≤ pRem (rS 1 μ) ∧ rS 1 ν3 = pRun ρ (rS 1 μ) (m + 1) ∧ rQ μ ν3 ∧ zJ [1, 4, 6, 7] μ ν3 ∧ rSav (μ 1) (ν3 7) ∧ (c + 1) = pCount (pCrossAt ρ (rS 1 μ) l1 k1) (m + 1) from ⟨by omega, hs2, hq2, hj2, hsv2, by show _ = if _ then _ else _; rw [pCross_r abR abR2 (by rw [hok1.2.2.2.1]; exact n_l.1) (by rw [hok1.2.2.2.1]; exact n_k.1) (by rw [hok2.2.2.2.1]; exact n_l.1) (by rw [hok2.2.2.2.1]; exact n_k.1)]; simp [Int32.not_lt.mpr h80, Int32.not_le.mp h90, Int32.not_le.mp h95, hv]⟩) (by show pRem (rS 1 μ) - (m + 1) < pRem (rS 1 μ) - m; omega)
          · refine zx_iload (k := 0) (nn := 85) dX11_crosses_83 rfl rfl ?_
            refine zx_if_gt (tgt := 98) (nn := 88) dX11_crosses_85 (by decide) rfl (fun h85 => ?_) (fun h85 => ?_)
            · refine zx_iconst (v := 1) (nn := 99) rfl dX11_crosses_98 rfl ?_
              refine zx_goto (tgt := 103) dX11_crosses_99 (by decide) ?_
              refine zx_iadd (nn := 104) dX11_crosses_103 rfl ?_
              rw [show (nI c) + 1 = nI (c + 1) from nI_1 _]
              show zX shR σ 7 MX11_crosses 104 [(6, zi ((pRun ρ (rS 1 μ) (m + 1) (7 + 4 * l1 + 1)) - (pRun ρ (rS 1 μ) (m + 1) (7 + 4 * k1 + 1)))), (5, zi (pGain ρ (rS 1 μ1) (0 - 1))), (4, zi ((pRun ρ (rS 1 μ) m (7 + 4 * l1 + 1)) - (pRun ρ (rS 1 μ) m (7 + 4 * k1 + 1)))), (0, zr 0), (1, zi (nI l1)), (2, zi (nI k1)), (3, zi (nI c))] [zi (nI (c + 1))] ν3 _
              refine zx_istore_n (nn := 105) (lv' := [(3, zi (nI (c + 1))), (6, zi ((pRun ρ (rS 1 μ) (m + 1) (7 + 4 * l1 + 1)) - (pRun ρ (rS 1 μ) (m + 1) (7 + 4 * k1 + 1)))), (5, zi (pGain ρ (rS 1 μ1) (0 - 1))), (4, zi ((pRun ρ (rS 1 μ) m (7 + 4 * l1 + 1)) - (pRun ρ (rS 1 μ) m (7 + 4 * k1 + 1)))), (0, zr 0), (1, zi (nI l1)), (2, zi (nI k1))]) dX11_crosses_104 rfl (by decide) rfl rfl ?_
              refine zx_goto (tgt := 33) dX11_crosses_105 (by decide) ?_
              refine zx_lv (lv' := [(0, zr 0), (1, zi (nI l1)), (2, zi (nI k1)), (3, zi (nI (c + 1)))]) [4, 5, 6, 0] rfl ?_
              exact ih33 (m + 1, c + 1, ν3) (show (m + 1) ≤ pRem (rS 1 μ) ∧ rS 1 ν3 = pRun ρ (rS 1 μ) (m + 1) ∧ rQ μ ν3 ∧ zJ [1, 4, 6, 7] μ ν3 ∧ rSav (μ 1) (ν3 7) ∧ (c + 1) = pCount (pCrossAt ρ (rS 1 μ) l1 k1) (m + 1) from ⟨by omega, hs2, hq2, hj2, hsv2, by show _ = if _ then _ else _; rw [pCross_r abR abR2 (by rw [hok1.2.2.2.1]; exact n_l.1) (by rw [hok1.2.2.2.1]; exact n_k.1) (by rw [hok2.2.2.2.1]; exact n_l.1) (by rw [hok2.2.2.2.1]; exact n_k.1)]; simp [Int32.not_le.mp h80, h85, hv]⟩) (by show pRem (rS 1 μ) - (m + 1) < pRem (rS 1 μ) - m; omega)
            · refine zx_iload (k := 2) (nn := 90) dX11_crosses_88 rfl rfl ?_
              refine zx_if_le (tgt := 102) (nn := 93) dX11_crosses_90 (by decide) rfl (fun h90 => ?_) (fun h90 => ?_)
              · refine zx_iconst (v := 0) (nn := 103) rfl dX11_crosses_102 rfl ?_
                refine zx_iadd (nn := 104) dX11_crosses_103 rfl ?_
                rw [show (nI c) + 0 = nI c from Int32.add_zero _]
                show zX shR σ 7 MX11_crosses 104 [(6, zi ((pRun ρ (rS 1 μ) (m + 1) (7 + 4 * l1 + 1)) - (pRun ρ (rS 1 μ) (m + 1) (7 + 4 * k1 + 1)))), (5, zi (pGain ρ (rS 1 μ1) (0 - 1))), (4, zi ((pRun ρ (rS 1 μ) m (7 + 4 * l1 + 1)) - (pRun ρ (rS 1 μ) m (7 + 4 * k1 + 1)))), (0, zr 0), (1, zi (nI l1)), (2, zi (nI k1)), (3, zi (nI c))] [zi (nI c)] ν3 _
                refine zx_istore_n (nn := 105) (lv' := [(3, zi (nI c)), (6, zi ((pRun ρ (rS 1 μ) (m + 1) (7 + 4 * l1 + 1)) - (pRun ρ (rS 1 μ) (m + 1) (7 + 4 * k1 + 1)))), (5, zi (pGain ρ (rS 1 μ1) (0 - 1))), (4, zi ((pRun ρ (rS 1 μ) m (7 + 4 * l1 + 1)) - (pRun ρ (rS 1 μ) m (7 + 4 * k1 + 1)))), (0, zr 0), (1, zi (nI l1)), (2, zi (nI k1))]) dX11_crosses_104 rfl (by decide) rfl rfl ?_
                refine zx_goto (tgt := 33) dX11_crosses_105 (by decide) ?_
                refine zx_lv (lv' := [(0, zr 0), (1, zi (nI l1)), (2, zi (nI k1)), (3, zi (nI c))]) [4, 5, 6, 0] rfl ?_
                exact ih33 (m + 1, c, ν3) (show (m + 1) ≤ pRem (rS 1 μ) ∧ rS 1 ν3 = pRun ρ (rS 1 μ) (m + 1) ∧ rQ μ ν3 ∧ zJ [1, 4, 6, 7] μ ν3 ∧ rSav (μ 1) (ν3 7) ∧ c = pCount (pCrossAt ρ (rS 1 μ) l1 k1) (m + 1) from ⟨by omega, hs2, hq2, hj2, hsv2, by show _ = if _ then _ else _; rw [pCross_r abR abR2 (by rw [hok1.2.2.2.1]; exact n_l.1) (by rw [hok1.2.2.2.1]; exact n_k.1) (by rw [hok2.2.2.2.1]; exact n_l.1) (by rw [hok2.2.2.2.1]; exact n_k.1)]; simp [Int32.not_le.mp h80, h85, Int32.not_lt.mpr h90, hv]⟩) (by show pRem (rS 1 μ) - (m + 1) < pRem (rS 1 μ) - m; omega)
              · refine zx_iload (k := 0) (nn := 95) dX11_crosses_93 rfl rfl ?_
                refine zx_if_ge (tgt := 102) (nn := 98) dX11_crosses_95 (by decide) rfl (fun h95 => ?_) (fun h95 => ?_)
                · refine zx_iconst (v := 0) (nn := 103) rfl dX11_crosses_102 rfl ?_
                  refine zx_iadd (nn := 104) dX11_crosses_103 rfl ?_
                  rw [show (nI c) + 0 = nI c from Int32.add_zero _]
                  show zX shR σ 7 MX11_crosses 104 [(6, zi ((pRun ρ (rS 1 μ) (m + 1) (7 + 4 * l1 + 1)) - (pRun ρ (rS 1 μ) (m + 1) (7 + 4 * k1 + 1)))), (5, zi (pGain ρ (rS 1 μ1) (0 - 1))), (4, zi ((pRun ρ (rS 1 μ) m (7 + 4 * l1 + 1)) - (pRun ρ (rS 1 μ) m (7 + 4 * k1 + 1)))), (0, zr 0), (1, zi (nI l1)), (2, zi (nI k1)), (3, zi (nI c))] [zi (nI c)] ν3 _
                  refine zx_istore_n (nn := 105) (lv' := [(3, zi (nI c)), (6, zi ((pRun ρ (rS 1 μ) (m + 1) (7 + 4 * l1 + 1)) - (pRun ρ (rS 1 μ) (m + 1) (7 + 4 * k1 + 1)))), (5, zi (pGain ρ (rS 1 μ1) (0 - 1))), (4, zi ((pRun ρ (rS 1 μ) m (7 + 4 * l1 + 1)) - (pRun ρ (rS 1 μ) m (7 + 4 * k1 + 1)))), (0, zr 0), (1, zi (nI l1)), (2, zi (nI k1))]) dX11_crosses_104 rfl (by decide) rfl rfl ?_
                  refine zx_goto (tgt := 33) dX11_crosses_105 (by decide) ?_
                  refine zx_lv (lv' := [(0, zr 0), (1, zi (nI l1)), (2, zi (nI k1)), (3, zi (nI c))]) [4, 5, 6, 0] rfl ?_
                  exact ih33 (m + 1, c, ν3) (show (m + 1) ≤ pRem (rS 1 μ) ∧ rS 1 ν3 = pRun ρ (rS 1 μ) (m + 1) ∧ rQ μ ν3 ∧ zJ [1, 4, 6, 7] μ ν3 ∧ rSav (μ 1) (ν3 7) ∧ c = pCount (pCrossAt ρ (rS 1 μ) l1 k1) (m + 1) from ⟨by omega, hs2, hq2, hj2, hsv2, by show _ = if _ then _ else _; rw [pCross_r abR abR2 (by rw [hok1.2.2.2.1]; exact n_l.1) (by rw [hok1.2.2.2.1]; exact n_k.1) (by rw [hok2.2.2.2.1]; exact n_l.1) (by rw [hok2.2.2.2.1]; exact n_k.1)]; simp [Int32.not_le.mp h80, h85, Int32.not_le.mp h90, Int32.not_lt.mpr h95, hv]⟩) (by show pRem (rS 1 μ) - (m + 1) < pRem (rS 1 μ) - m; omega)
                · refine zx_iconst (v := 1) (nn := 99) rfl dX11_crosses_98 rfl ?_
                  refine zx_goto (tgt := 103) dX11_crosses_99 (by decide) ?_
                  refine zx_iadd (nn := 104) dX11_crosses_103 rfl ?_
                  rw [show (nI c) + 1 = nI (c + 1) from nI_1 _]
                  show zX shR σ 7 MX11_crosses 104 [(6, zi ((pRun ρ (rS 1 μ) (m + 1) (7 + 4 * l1 + 1)) - (pRun ρ (rS 1 μ) (m + 1) (7 + 4 * k1 + 1)))), (5, zi (pGain ρ (rS 1 μ1) (0 - 1))), (4, zi ((pRun ρ (rS 1 μ) m (7 + 4 * l1 + 1)) - (pRun ρ (rS 1 μ) m (7 + 4 * k1 + 1)))), (0, zr 0), (1, zi (nI l1)), (2, zi (nI k1)), (3, zi (nI c))] [zi (nI (c + 1))] ν3 _
                  refine zx_istore_n (nn := 105) (lv' := [(3, zi (nI (c + 1))), (6, zi ((pRun ρ (rS 1 μ) (m + 1) (7 + 4 * l1 + 1)) - (pRun ρ (rS 1 μ) (m + 1) (7 + 4 * k1 + 1)))), (5, zi (pGain ρ (rS 1 μ1) (0 - 1))), (4, zi ((pRun ρ (rS 1 μ) m (7 + 4 * l1 + 1)) - (pRun ρ (rS 1 μ) m (7 + 4 * k1 + 1)))), (0, zr 0), (1, zi (nI l1)), (2, zi (nI k1))]) dX11_crosses_104 rfl (by decide) rfl rfl ?_
                  refine zx_goto (tgt := 33) dX11_crosses_105 (by decide) ?_
                  refine zx_lv (lv' := [(0, zr 0), (1, zi (nI l1)), (2, zi (nI k1)), (3, zi (nI (c + 1)))]) [4, 5, 6, 0] rfl ?_
                  exact ih33 (m + 1, c + 1, ν3) (show (m + 1) ≤ pRem (rS 1 μ) ∧ rS 1 ν3 = pRun ρ (rS 1 μ) (m + 1) ∧ rQ μ ν3 ∧ zJ [1, 4, 6, 7] μ ν3 ∧ rSav (μ 1) (ν3 7) ∧ (c + 1) = pCount (pCrossAt ρ (rS 1 μ) l1 k1) (m + 1) from ⟨by omega, hs2, hq2, hj2, hsv2, by show _ = if _ then _ else _; rw [pCross_r abR abR2 (by rw [hok1.2.2.2.1]; exact n_l.1) (by rw [hok1.2.2.2.1]; exact n_k.1) (by rw [hok2.2.2.2.1]; exact n_l.1) (by rw [hok2.2.2.2.1]; exact n_k.1)]; simp [Int32.not_le.mp h80, h85, Int32.not_le.mp h90, Int32.not_le.mp h95, hv]⟩) (by show pRem (rS 1 μ) - (m + 1) < pRem (rS 1 μ) - m; omega)
      · refine zx_iconst (v := -1) (nn := 22) rfl dX11_crosses_21 rfl ?_
        refine zx_iret rfl dX11_crosses_22 ?_
        refine ⟨congrArg (fun x => some (zi x)) ?_, zJ.rf⟩
        simp [vCross, h5, h13, h18]
