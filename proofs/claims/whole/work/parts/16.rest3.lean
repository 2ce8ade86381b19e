set_option maxHeartbeats 4000000 in
set_option maxRecDepth 100000 in
theorem eJ6_bitCount_0f7a4 (σ : zG) (μ : zM) (x : Int32) : zMet shC σ 0 MJ6_bitCount_0f7a4 yJ6_bitCount_0f7a4 [zi x] μ (fun rr μ' => rr = some (zi (pBits x)) ∧ μ' = μ) := by
  refine zmetF (by decide +kernel) rfl (Nat.le_of_ble_eq_true rfl) ?_
  show zX shC σ 0 MJ6_bitCount_0f7a4 0 [(0, zi x)] [] μ _
  refine zx_iload_n (k := 0) (nn := 1) dJ6_bitCount_0f7a4_0 rfl rfl rfl ?_
  refine zx_iload_n (k := 0) (nn := 2) dJ6_bitCount_0f7a4_1 rfl rfl rfl ?_
  refine zx_iconst (v := 1) (nn := 3) rfl dJ6_bitCount_0f7a4_2 rfl ?_
  refine zx_iushr (v := zushr x 1) (nn := 4) rfl dJ6_bitCount_0f7a4_3 rfl ?_
  refine zx_ldcw (v := 1431655765) (nn := 7) cwJ6_265 dJ6_bitCount_0f7a4_4 rfl ?_
  refine zx_iand (nn := 8) dJ6_bitCount_0f7a4_7 rfl ?_
  refine zx_isub (nn := 9) dJ6_bitCount_0f7a4_8 rfl ?_
  refine zx_istore_n (nn := 10) (lv' := [(0, zi (x - ((zushr x 1) &&& 1431655765)))]) dJ6_bitCount_0f7a4_9 rfl (by decide) rfl rfl ?_
  refine zx_iload_n (k := 0) (nn := 11) dJ6_bitCount_0f7a4_10 rfl rfl rfl ?_
  refine zx_ldcw (v := 858993459) (nn := 14) cwJ6_266 dJ6_bitCount_0f7a4_11 rfl ?_
  refine zx_iand (nn := 15) dJ6_bitCount_0f7a4_14 rfl ?_
  refine zx_iload_n (k := 0) (nn := 16) dJ6_bitCount_0f7a4_15 rfl rfl rfl ?_
  refine zx_iconst (v := 2) (nn := 17) rfl dJ6_bitCount_0f7a4_16 rfl ?_
  refine zx_iushr (v := zushr (x - ((zushr x 1) &&& 1431655765)) 2) (nn := 18) rfl dJ6_bitCount_0f7a4_17 rfl ?_
  refine zx_ldcw (v := 858993459) (nn := 21) cwJ6_266 dJ6_bitCount_0f7a4_18 rfl ?_
  refine zx_iand (nn := 22) dJ6_bitCount_0f7a4_21 rfl ?_
  refine zx_iadd (nn := 23) dJ6_bitCount_0f7a4_22 rfl ?_
  refine zx_istore_n (nn := 24) (lv' := [(0, zi (((x - ((zushr x 1) &&& 1431655765)) &&& 858993459) + ((zushr (x - ((zushr x 1) &&& 1431655765)) 2) &&& 858993459)))]) dJ6_bitCount_0f7a4_23 rfl (by decide) rfl rfl ?_
  refine zx_iload_n (k := 0) (nn := 25) dJ6_bitCount_0f7a4_24 rfl rfl rfl ?_
  refine zx_iload_n (k := 0) (nn := 26) dJ6_bitCount_0f7a4_25 rfl rfl rfl ?_
  refine zx_iconst (v := 4) (nn := 27) rfl dJ6_bitCount_0f7a4_26 rfl ?_
  refine zx_iushr (v := zushr (((x - ((zushr x 1) &&& 1431655765)) &&& 858993459) + ((zushr (x - ((zushr x 1) &&& 1431655765)) 2) &&& 858993459)) 4) (nn := 28) rfl dJ6_bitCount_0f7a4_27 rfl ?_
  refine zx_iadd (nn := 29) dJ6_bitCount_0f7a4_28 rfl ?_
  refine zx_ldcw (v := 252645135) (nn := 32) cwJ6_267 dJ6_bitCount_0f7a4_29 rfl ?_
  refine zx_iand (nn := 33) dJ6_bitCount_0f7a4_32 rfl ?_
  refine zx_istore_n (nn := 34) (lv' := [(0, zi (((((x - ((zushr x 1) &&& 1431655765)) &&& 858993459) + ((zushr (x - ((zushr x 1) &&& 1431655765)) 2) &&& 858993459)) + (zushr (((x - ((zushr x 1) &&& 1431655765)) &&& 858993459) + ((zushr (x - ((zushr x 1) &&& 1431655765)) 2) &&& 858993459)) 4)) &&& 252645135))]) dJ6_bitCount_0f7a4_33 rfl (by decide) rfl rfl ?_
  refine zx_iload_n (k := 0) (nn := 35) dJ6_bitCount_0f7a4_34 rfl rfl rfl ?_
  refine zx_iload_n (k := 0) (nn := 36) dJ6_bitCount_0f7a4_35 rfl rfl rfl ?_
  refine zx_bipush (v := 8) (nn := 38) rfl dJ6_bitCount_0f7a4_36 rfl ?_
  refine zx_iushr (v := zushr (((((x - ((zushr x 1) &&& 1431655765)) &&& 858993459) + ((zushr (x - ((zushr x 1) &&& 1431655765)) 2) &&& 858993459)) + (zushr (((x - ((zushr x 1) &&& 1431655765)) &&& 858993459) + ((zushr (x - ((zushr x 1) &&& 1431655765)) 2) &&& 858993459)) 4)) &&& 252645135) 8) (nn := 39) rfl dJ6_bitCount_0f7a4_38 rfl ?_
  refine zx_iadd (nn := 40) dJ6_bitCount_0f7a4_39 rfl ?_
  refine zx_istore_n (nn := 41) (lv' := [(0, zi ((((((x - ((zushr x 1) &&& 1431655765)) &&& 858993459) + ((zushr (x - ((zushr x 1) &&& 1431655765)) 2) &&& 858993459)) + (zushr (((x - ((zushr x 1) &&& 1431655765)) &&& 858993459) + ((zushr (x - ((zushr x 1) &&& 1431655765)) 2) &&& 858993459)) 4)) &&& 252645135) + (zushr (((((x - ((zushr x 1) &&& 1431655765)) &&& 858993459) + ((zushr (x - ((zushr x 1) &&& 1431655765)) 2) &&& 858993459)) + (zushr (((x - ((zushr x 1) &&& 1431655765)) &&& 858993459) + ((zushr (x - ((zushr x 1) &&& 1431655765)) 2) &&& 858993459)) 4)) &&& 252645135) 8)))]) dJ6_bitCount_0f7a4_40 rfl (by decide) rfl rfl ?_
  refine zx_iload_n (k := 0) (nn := 42) dJ6_bitCount_0f7a4_41 rfl rfl rfl ?_
  refine zx_iload_n (k := 0) (nn := 43) dJ6_bitCount_0f7a4_42 rfl rfl rfl ?_
  refine zx_bipush (v := 16) (nn := 45) rfl dJ6_bitCount_0f7a4_43 rfl ?_
  refine zx_iushr (v := zushr ((((((x - ((zushr x 1) &&& 1431655765)) &&& 858993459) + ((zushr (x - ((zushr x 1) &&& 1431655765)) 2) &&& 858993459)) + (zushr (((x - ((zushr x 1) &&& 1431655765)) &&& 858993459) + ((zushr (x - ((zushr x 1) &&& 1431655765)) 2) &&& 858993459)) 4)) &&& 252645135) + (zushr (((((x - ((zushr x 1) &&& 1431655765)) &&& 858993459) + ((zushr (x - ((zushr x 1) &&& 1431655765)) 2) &&& 858993459)) + (zushr (((x - ((zushr x 1) &&& 1431655765)) &&& 858993459) + ((zushr (x - ((zushr x 1) &&& 1431655765)) 2) &&& 858993459)) 4)) &&& 252645135) 8)) 16) (nn := 46) rfl dJ6_bitCount_0f7a4_45 rfl ?_
  refine zx_iadd (nn := 47) dJ6_bitCount_0f7a4_46 rfl ?_
  refine zx_istore_n (nn := 48) (lv' := [(0, zi (((((((x - ((zushr x 1) &&& 1431655765)) &&& 858993459) + ((zushr (x - ((zushr x 1) &&& 1431655765)) 2) &&& 858993459)) + (zushr (((x - ((zushr x 1) &&& 1431655765)) &&& 858993459) + ((zushr (x - ((zushr x 1) &&& 1431655765)) 2) &&& 858993459)) 4)) &&& 252645135) + (zushr (((((x - ((zushr x 1) &&& 1431655765)) &&& 858993459) + ((zushr (x - ((zushr x 1) &&& 1431655765)) 2) &&& 858993459)) + (zushr (((x - ((zushr x 1) &&& 1431655765)) &&& 858993459) + ((zushr (x - ((zushr x 1) &&& 1431655765)) 2) &&& 858993459)) 4)) &&& 252645135) 8)) + (zushr ((((((x - ((zushr x 1) &&& 1431655765)) &&& 858993459) + ((zushr (x - ((zushr x 1) &&& 1431655765)) 2) &&& 858993459)) + (zushr (((x - ((zushr x 1) &&& 1431655765)) &&& 858993459) + ((zushr (x - ((zushr x 1) &&& 1431655765)) 2) &&& 858993459)) 4)) &&& 252645135) + (zushr (((((x - ((zushr x 1) &&& 1431655765)) &&& 858993459) + ((zushr (x - ((zushr x 1) &&& 1431655765)) 2) &&& 858993459)) + (zushr (((x - ((zushr x 1) &&& 1431655765)) &&& 858993459) + ((zushr (x - ((zushr x 1) &&& 1431655765)) 2) &&& 858993459)) 4)) &&& 252645135) 8)) 16)))]) dJ6_bitCount_0f7a4_47 rfl (by decide) rfl rfl ?_
  refine zx_iload_n (k := 0) (nn := 49) dJ6_bitCount_0f7a4_48 rfl rfl rfl ?_
  refine zx_bipush (v := 63) (nn := 51) rfl dJ6_bitCount_0f7a4_49 rfl ?_
  refine zx_iand (nn := 52) dJ6_bitCount_0f7a4_51 rfl ?_
  refine zx_iret rfl dJ6_bitCount_0f7a4_52 ?_
  exact ⟨rfl, rfl⟩
set_option maxHeartbeats 4000000 in
set_option maxRecDepth 100000 in
theorem eX2_isNeverDark_37 (σ : zG) (μ : zM) (set : Int32) (ok : pOK (cS 18 μ)) : zMet shC σ 0 MX2_isNeverDark yX2_isNeverDark [zr 37, zi set] μ (fun rr μ' => rr = some (zi (zb (pAllIn (fun q_ => μ 38 (pb (cS 18 μ) + q_)) set (pRem (cS 18 μ))))) ∧ μ' = μ) := by
  have hB16 := (ok_B ok).2
  have hbB := (ok_b ok).2
  have hb1 : μ 18 9 = nI (pb (cS 18 μ)) := (ok_b ok).1
  have hBe : μ 18 8 = nI (pB (cS 18 μ)) := (ok_B ok).1
  have hrem : pRem (cS 18 μ) = pB (cS 18 μ) - pb (cS 18 μ) := rfl
  refine zmetF (by decide +kernel) rfl (Nat.le_of_ble_eq_true rfl) ?_
  show zX shC σ 0 MX2_isNeverDark 0 [(0, zr 37), (1, zi set)] [] μ _
  refine zx_aload_n (k := 0) (nn := 1) dX2_isNeverDark_0 rfl rfl rfl ?_
  refine zx_getR (q := 18) (nn := 4) flX2_15 rfl rfl dX2_isNeverDark_1 rfl ?_
  refine zx_getI (nn := 7) flX2_40 rfl rfl dX2_isNeverDark_4 rfl ?_
  rw [show μ 18 9 = nI (pb (cS 18 μ) + 0) from hb1]
  show zX shC σ 0 MX2_isNeverDark 7 [(0, zr 37), (1, zi set)] [zi (nI (pb (cS 18 μ) + 0))] μ _
  refine zx_istore_n (nn := 8) (lv' := [(2, zi (nI (pb (cS 18 μ) + 0))), (0, zr 37), (1, zi set)]) dX2_isNeverDark_7 rfl (by decide) rfl rfl ?_
  refine zx_lv (lv' := [(0, zr 37), (1, zi set), (2, zi (nI (pb (cS 18 μ) + 0)))]) [1, 2, 0] rfl ?_
  refine zx_while (τ := Nat) (fun m => pRem (cS 18 μ) - m) (fun m => m ≤ pRem (cS 18 μ) ∧ pAllIn (fun q_ => μ 38 (pb (cS 18 μ) + q_)) set m = true) (fun m => [(0, zr 37), (1, zi set), (2, zi (nI (pb (cS 18 μ) + m)))]) (fun m => μ) (t0 := (0)) (⟨Nat.zero_le _, rfl⟩) ?_
  rintro m hI ih8
  replace hI : m ≤ pRem (cS 18 μ) ∧ pAllIn (fun q_ => μ 38 (pb (cS 18 μ) + q_)) set m = true := hI
  show zX shC σ 0 MX2_isNeverDark 8 [(0, zr 37), (1, zi set), (2, zi (nI (pb (cS 18 μ) + m)))] [] μ _
  refine zx_iload_n (k := 2) (nn := 9) dX2_isNeverDark_8 rfl rfl rfl ?_
  refine zx_aload_n (k := 0) (nn := 10) dX2_isNeverDark_9 rfl rfl rfl ?_
  refine zx_getR (q := 18) (nn := 13) flX2_15 rfl rfl dX2_isNeverDark_10 rfl ?_
  refine zx_getI (nn := 16) flX2_44 rfl rfl dX2_isNeverDark_13 rfl ?_
  rw [show μ 18 8 = nI (pB (cS 18 μ)) from hBe]
  show zX shC σ 0 MX2_isNeverDark 16 [(0, zr 37), (1, zi set), (2, zi (nI (pb (cS 18 μ) + m)))] [zi (nI (pB (cS 18 μ))), zi (nI (pb (cS 18 μ) + m))] μ _
  refine zx_icmp_ge (tgt := 38) (nn := 19) dX2_isNeverDark_16 (by decide) rfl (fun h16 => ?_) (fun h16 => ?_)
  · refine zx_iconst (v := 1) (nn := 39) rfl dX2_isNeverDark_38 rfl ?_
    refine zx_zret rfl rfl dX2_isNeverDark_39 ?_
    have hge := nI_le_le h16 (by omega)
    refine ⟨congrArg (fun x => some (zi x)) ?_, rfl⟩
    rw [show pRem (cS 18 μ) = m by omega, hI.2]
    rfl
  · have hlt : pb (cS 18 μ) + m < pB (cS 18 μ) := nI_nle_lt h16 (by omega)
    refine zx_aload_n (k := 0) (nn := 20) dX2_isNeverDark_19 rfl rfl rfl ?_
    refine zx_getR (q := 38) (nn := 23) flX2_9 rfl rfl dX2_isNeverDark_20 rfl ?_
    refine zx_iload_n (k := 2) (nn := 24) dX2_isNeverDark_23 rfl rfl rfl ?_
    refine zx_iald_n (j := pb (cS 18 μ) + m) (nn := 25) rfl (by omega) (by decide) dX2_isNeverDark_24 rfl ?_
    refine zx_iload_n (k := 1) (nn := 26) dX2_isNeverDark_25 rfl rfl rfl ?_
    refine zx_iand (nn := 27) dX2_isNeverDark_26 rfl ?_
    refine zx_if_ne (tgt := 32) (nn := 30) dX2_isNeverDark_27 (by decide) rfl (fun h27 => ?_) (fun h27 => ?_)
    · refine zx_iinc (k := 2) (v := nI ((pb (cS 18 μ) + m) + 1)) (lv' := [(2, zi (nI ((pb (cS 18 μ) + m) + 1))), (0, zr 37), (1, zi set)]) (nn := 35) dX2_isNeverDark_32 rfl (nI_1 (pb (cS 18 μ) + m)) (by decide) rfl rfl ?_
      refine zx_goto (tgt := 8) dX2_isNeverDark_35 (by decide) ?_
      refine zx_lv (lv' := [(0, zr 37), (1, zi set), (2, zi (nI ((pb (cS 18 μ) + m) + 1)))]) [1, 2, 0] rfl ?_
      exact ih8 (m + 1) (show (m + 1) ≤ pRem (cS 18 μ) ∧ pAllIn (fun q_ => μ 38 (pb (cS 18 μ) + q_)) set (m + 1) = true from ⟨by omega, by show (pAllIn _ set m && _) = true; rw [hI.2, decide_eq_true h27]; rfl⟩) (by show pRem (cS 18 μ) - (m + 1) < pRem (cS 18 μ) - m; omega)
    · refine zx_iconst (v := 0) (nn := 31) rfl dX2_isNeverDark_30 rfl ?_
      refine zx_zret rfl rfl dX2_isNeverDark_31 ?_
      refine ⟨congrArg (fun x => some (zi x)) ?_, rfl⟩
      rw [pAllIn_no (m := m) h27 (by omega)]
      rfl
set_option maxHeartbeats 4000000 in
set_option maxRecDepth 100000 in
theorem eX2_fewestLamps_37 (σ : zG) (μ : zM) (ok : pOK (cS 18 μ)) (rok : cROK 1 μ) : zMet shC σ 5 MX2_fewestLamps yX2_fewestLamps [zr 37] μ (fun rr μ' => rr = some (zi (pWho (cR 1 μ) (cS 18 μ))) ∧ zJ [6, 25, 26, 27, 28, 29, 30, 31, 38] μ μ') := by
  have hB16 := (ok_B ok).2
  have hbB := (ok_b ok).2
  have hb1 : μ 18 9 = nI (pb (cS 18 μ)) := (ok_b ok).1
  have hBe : μ 18 8 = nI (pB (cS 18 μ)) := (ok_B ok).1
  have hrem : pRem (cS 18 μ) = pB (cS 18 μ) - pb (cS 18 μ) := rfl
  have hL1 : μ 18 7 = nI (pL (cS 18 μ)) := (ok_L ok).1
  have hL2 := (ok_L ok).2
  have hp6 := pow6 hL2
  refine zmetF (by decide +kernel) rfl (Nat.le_of_ble_eq_true rfl) ?_
  show zX shC σ 5 MX2_fewestLamps 0 [(0, zr 37)] [] μ _
  refine zx_aload_n (k := 0) (nn := 1) dX2_fewestLamps_0 rfl rfl rfl ?_
  refine zx_getR (q := 25) (nn := 4) flX2_19 rfl rfl dX2_fewestLamps_1 rfl ?_
  refine zx_aload_n (k := 0) (nn := 5) dX2_fewestLamps_4 rfl rfl rfl ?_
  refine zx_getR (q := 18) (nn := 8) flX2_15 rfl rfl dX2_fewestLamps_5 rfl ?_
  refine zx_callV (nn := 11) (k := 25) (d' := 1) (as := [zr 18]) (rest := []) (n := 1) (eX8_copyFrom_25_18 σ μ) kX8_copyFrom mlX2_22 rfl rfl rfl (by decide) rfl rfl (Nat.le_of_ble_eq_true rfl) dX2_fewestLamps_8 rfl ?_
  rintro _ ν1 ⟨rfl, c1, c2⟩
  show zX shC σ 5 MX2_fewestLamps 11 [(0, zr 37)] [] ν1 _
  refine zx_aload_n (k := 0) (nn := 12) dX2_fewestLamps_11 rfl rfl rfl ?_
  refine zx_getR (q := 18) (nn := 15) flX2_15 rfl rfl dX2_fewestLamps_12 rfl ?_
  refine zx_getI (nn := 18) flX2_40 rfl rfl dX2_fewestLamps_15 rfl ?_
  rw [show ν1 18 9 = nI (pb (cS 18 μ) + 0) from by rw [c2 18 (by decide)]; exact hb1]
  show zX shC σ 5 MX2_fewestLamps 18 [(0, zr 37)] [zi (nI (pb (cS 18 μ) + 0))] ν1 _
  refine zx_istore_n (nn := 19) (lv' := [(1, zi (nI (pb (cS 18 μ) + 0))), (0, zr 37)]) dX2_fewestLamps_18 rfl (by decide) rfl rfl ?_
  refine zx_lv (lv' := [(0, zr 37), (1, zi (nI (pb (cS 18 μ) + 0)))]) [1, 0] rfl ?_
  refine zx_while (τ := Nat × zM) (fun t_ => pRem (cS 18 μ) - t_.1) (fun t_ => t_.1 ≤ pRem (cS 18 μ) ∧ cS 25 t_.2 = pRun (cR 1 μ) (cS 18 μ) t_.1 ∧ zJ [6, 25, 26, 27, 28, 29, 30, 31, 38] μ t_.2 ∧ ∀ j, j < t_.1 → t_.2 38 (pb (cS 18 μ) + j) = pInSet (cR 1 μ) (cS 18 μ) j) (fun t_ => [(0, zr 37), (1, zi (nI (pb (cS 18 μ) + t_.1)))]) (fun t_ => t_.2) (t0 := (0, ν1)) (⟨Nat.zero_le _, c1, c2.mono (by simp), fun j h => absurd h (by omega)⟩) ?_
  rintro ⟨m, μ1⟩ hI ih19
  replace hI : m ≤ pRem (cS 18 μ) ∧ cS 25 μ1 = pRun (cR 1 μ) (cS 18 μ) m ∧ zJ [6, 25, 26, 27, 28, 29, 30, 31, 38] μ μ1 ∧ ∀ j, j < m → μ1 38 (pb (cS 18 μ) + j) = pInSet (cR 1 μ) (cS 18 μ) j := hI
  show zX shC σ 5 MX2_fewestLamps 19 [(0, zr 37), (1, zi (nI (pb (cS 18 μ) + m)))] [] μ1 _
  obtain ⟨hm, hs, hj, hv⟩ := hI
  have hR1 : cR 1 μ1 = cR 1 μ := cR_μ (fun k h1 h2 => hj k (by simp; omega))
  have hok1 := pRun_ok (ρ := cR 1 μ) ok m (by omega)
  have okm : pOK (cS 25 μ1) := by rw [hs]; exact hok1.1
  have rokm : cROK 1 μ1 := cROK_μ (hj 1 (by decide)).symm (hj 4 (by decide)).symm rok
  have h18 : μ1 18 = μ 18 := hj 18 (by decide)
  refine zx_iload_n (k := 1) (nn := 20) dX2_fewestLamps_19 rfl rfl rfl ?_
  refine zx_aload_n (k := 0) (nn := 21) dX2_fewestLamps_20 rfl rfl rfl ?_
  refine zx_getR (q := 18) (nn := 24) flX2_15 rfl rfl dX2_fewestLamps_21 rfl ?_
  refine zx_getI (nn := 27) flX2_44 rfl rfl dX2_fewestLamps_24 rfl ?_
  rw [show μ1 18 8 = nI (pB (cS 18 μ)) from by rw [h18]; exact hBe]
  show zX shC σ 5 MX2_fewestLamps 27 [(0, zr 37), (1, zi (nI (pb (cS 18 μ) + m)))] [zi (nI (pB (cS 18 μ))), zi (nI (pb (cS 18 μ) + m))] μ1 _
  refine zx_icmp_ge (tgt := 59) (nn := 30) dX2_fewestLamps_27 (by decide) rfl (fun h27 => ?_) (fun h27 => ?_)
  · have hge := nI_le_le h27 (by omega)
    have hmr : m = pRem (cS 18 μ) := by omega
    have es1 : cS 18 μ1 = cS 18 μ := cS_eq (fun k hk => hj k (by simp; omega))
    refine zx_bipush (v := -3) (nn := 61) rfl dX2_fewestLamps_59 rfl ?_
    refine zx_istore_n (nn := 62) (lv' := [(1, zi (-3)), (0, zr 37)]) dX2_fewestLamps_61 rfl (by decide) rfl rfl ?_
    refine zx_iconst (v := 0) (nn := 63) rfl dX2_fewestLamps_62 rfl ?_
    refine zx_istore_n (nn := 64) (lv' := [(2, zi 0), (1, zi (-3)), (0, zr 37)]) dX2_fewestLamps_63 rfl (by decide) rfl rfl ?_
    refine zx_lv (lv' := [(0, zr 37), (1, zi (-3)), (2, zi 0)]) [2, 1, 0] rfl ?_
    refine zx_while (τ := Nat × Int32) (fun t_ => 2 ^ pL (cS 18 μ) - t_.1) (fun t_ => t_.1 ≤ 2 ^ pL (cS 18 μ) ∧ t_.2 = (pWhoTo (pInSet (cR 1 μ) (cS 18 μ)) (pRem (cS 18 μ))) t_.1) (fun t_ => [(0, zr 37), (1, zi t_.2), (2, zi (nI t_.1))]) (fun t_ => μ1) (t0 := (0, -3)) (⟨Nat.zero_le _, rfl⟩) ?_
    rintro ⟨n, b⟩ hI ih64
    replace hI : n ≤ 2 ^ pL (cS 18 μ) ∧ b = (pWhoTo (pInSet (cR 1 μ) (cS 18 μ)) (pRem (cS 18 μ))) n := hI
    show zX shC σ 5 MX2_fewestLamps 64 [(0, zr 37), (1, zi b), (2, zi (nI n))] [] μ1 _
    refine zx_iload_n (k := 2) (nn := 65) dX2_fewestLamps_64 rfl rfl rfl ?_
    refine zx_iconst (v := 1) (nn := 66) rfl dX2_fewestLamps_65 rfl ?_
    refine zx_aload_n (k := 0) (nn := 67) dX2_fewestLamps_66 rfl rfl rfl ?_
    refine zx_getR (q := 18) (nn := 70) flX2_15 rfl rfl dX2_fewestLamps_67 rfl ?_
    refine zx_getI (nn := 73) flX2_71 rfl rfl dX2_fewestLamps_70 rfl ?_
    rw [show μ1 18 7 = nI (pL (cS 18 μ)) from by rw [h18]; exact hL1]
    show zX shC σ 5 MX2_fewestLamps 73 [(0, zr 37), (1, zi b), (2, zi (nI n))] [zi (nI (pL (cS 18 μ))), zi 1, zi (nI n)] μ1 _
    refine zx_ishl (nn := 74) dX2_fewestLamps_73 rfl ?_
    rw [zshl1 hL2]
    show zX shC σ 5 MX2_fewestLamps 74 [(0, zr 37), (1, zi b), (2, zi (nI n))] [zi (nI (2 ^ pL (cS 18 μ))), zi (nI n)] μ1 _
    refine zx_icmp_ge (tgt := 120) (nn := 77) dX2_fewestLamps_74 (by decide) rfl (fun h74 => ?_) (fun h74 => ?_)
    · refine zx_iload_n (k := 1) (nn := 121) dX2_fewestLamps_120 rfl rfl rfl ?_
      refine zx_iret rfl dX2_fewestLamps_121 ?_
      have hge2 := nI_le_le h74 (by omega)
      refine ⟨congrArg (fun x => some (zi x)) ?_, hj⟩
      unfold pWho
      rw [hI.2, show n = 2 ^ pL (cS 18 μ) by omega]
    · have hlt2 : n < 2 ^ pL (cS 18 μ) := nI_nle_lt h74 (by omega)
      refine zx_iload_n (k := 1) (nn := 78) dX2_fewestLamps_77 rfl rfl rfl ?_
      refine zx_bipush (v := -3) (nn := 80) rfl dX2_fewestLamps_78 rfl ?_
      refine zx_icmp_eq (tgt := 94) (nn := 83) dX2_fewestLamps_80 (by decide) rfl (fun h80 => ?_) (fun h80 => ?_)
      · refine zx_iconst (v := 1) (nn := 95) rfl dX2_fewestLamps_94 rfl ?_
        refine zx_goto (tgt := 99) dX2_fewestLamps_95 (by decide) ?_
        refine zx_istore_n (nn := 100) (lv' := [(3, zi 1), (0, zr 37), (1, zi b), (2, zi (nI n))]) dX2_fewestLamps_99 rfl (by decide) rfl rfl ?_
        refine zx_iload_n (k := 0) (nn := 101) dX2_fewestLamps_100 rfl rfl rfl ?_
        refine zx_if_eq (tgt := 114) (nn := 104) dX2_fewestLamps_101 (by decide) rfl (fun h101 => ?_) (fun h101 => ?_)
        · exact absurd h101 (by decide)
        · refine zx_aload_n (k := 1) (nn := 105) dX2_fewestLamps_104 rfl rfl rfl ?_
          refine zx_iload_n (k := 3) (nn := 106) dX2_fewestLamps_105 rfl rfl rfl ?_
          refine zx_callVf (nn := 109) (k := 37) (d' := 0) (as := [zi (nI n)]) (rest := []) (n := 1) (eX2_isNeverDark_37 σ μ1 (nI n) (by rw [es1]; exact ok)) kX2_isNeverDark mlX2_77 rfl rfl rfl (by decide) rfl rfl (Nat.le_of_ble_eq_true rfl) dX2_fewestLamps_106 rfl ?_
          show zX shC σ 5 MX2_fewestLamps 109 [(3, zi 1), (0, zr 37), (1, zi b), (2, zi (nI n))] [zi (zb (pAllIn (fun q_ => μ1 38 (pb (cS 18 μ1) + q_)) (nI n) (pRem (cS 18 μ1))))] μ1 _
          rw [es1, ← hmr]
          show zX shC σ 5 MX2_fewestLamps 109 [(3, zi 1), (0, zr 37), (1, zi b), (2, zi (nI n))] [zi (zb (pAllIn (fun q_ => μ1 38 (pb (cS 18 μ) + q_)) (nI n) m))] μ1 _
          refine zx_ifb_eq (tgt := 114) (nn := 112) dX2_fewestLamps_109 (by decide) rfl (fun h109 => ?_) (fun h109 => ?_)
          · refine zx_iinc (k := 3) (v := nI (n + 1)) (lv' := [(2, zi (nI (n + 1))), (3, zi 1), (0, zr 37), (1, zi b)]) (nn := 117) dX2_fewestLamps_114 rfl (nI_1 n) (by decide) rfl rfl ?_
            refine zx_goto (tgt := 64) dX2_fewestLamps_117 (by decide) ?_
            refine zx_lv (lv' := [(0, zr 37), (1, zi b), (2, zi (nI (n + 1)))]) [2, 3, 0] rfl ?_
            exact ih64 (n + 1, b) (show (n + 1) ≤ 2 ^ pL (cS 18 μ) ∧ b = (pWhoTo (pInSet (cR 1 μ) (cS 18 μ)) (pRem (cS 18 μ))) (n + 1) from ⟨by omega, by show _ = if _ then _ else _; rw [← hI.2, decide_eq_true h80, Bool.true_or, ← pAllIn_eq (fun j h => hv j (by omega)), ← hmr, h109]; rfl⟩) (by show 2 ^ pL (cS 18 μ) - (n + 1) < 2 ^ pL (cS 18 μ) - n; omega)
          · refine zx_iload_n (k := 3) (nn := 113) dX2_fewestLamps_112 rfl rfl rfl ?_
            refine zx_istore_n (nn := 114) (lv' := [(1, zi (nI n)), (3, zi 1), (0, zr 37), (2, zi (nI n))]) dX2_fewestLamps_113 rfl (by decide) rfl rfl ?_
            refine zx_iinc (k := 3) (v := nI (n + 1)) (lv' := [(2, zi (nI (n + 1))), (1, zi (nI n)), (3, zi 1), (0, zr 37)]) (nn := 117) dX2_fewestLamps_114 rfl (nI_1 n) (by decide) rfl rfl ?_
            refine zx_goto (tgt := 64) dX2_fewestLamps_117 (by decide) ?_
            refine zx_lv (lv' := [(0, zr 37), (1, zi (nI n)), (2, zi (nI (n + 1)))]) [3, 1, 0] rfl ?_
            exact ih64 (n + 1, nI n) (show (n + 1) ≤ 2 ^ pL (cS 18 μ) ∧ (nI n) = (pWhoTo (pInSet (cR 1 μ) (cS 18 μ)) (pRem (cS 18 μ))) (n + 1) from ⟨by omega, by show _ = if _ then _ else _; rw [← hI.2, decide_eq_true h80, Bool.true_or, ← pAllIn_eq (fun j h => hv j (by omega)), ← hmr, h109]; rfl⟩) (by show 2 ^ pL (cS 18 μ) - (n + 1) < 2 ^ pL (cS 18 μ) - n; omega)
      · refine zx_iload_n (k := 2) (nn := 84) dX2_fewestLamps_83 rfl rfl rfl ?_
        refine zx_callSf (nn := 87) (d' := 0) (as := [zi (nI n)]) (rest := []) (n := 1) (eJ6_bitCount_0f7a4 σ μ1 (nI n)  ) kJ6_bitCount_0f7a4 mlX2_74 (by decide) rfl rfl (Nat.le_of_ble_eq_true rfl) dX2_fewestLamps_84 rfl ?_
        show zX shC σ 5 MX2_fewestLamps 87 [(0, zr 37), (1, zi b), (2, zi (nI n))] [zi (pBits (nI n))] μ1 _
        refine zx_iload_n (k := 1) (nn := 88) dX2_fewestLamps_87 rfl rfl rfl ?_
        refine zx_callSf (nn := 91) (d' := 0) (as := [zi b]) (rest := [zi (pBits (nI n))]) (n := 1) (eJ6_bitCount_0f7a4 σ μ1 b  ) kJ6_bitCount_0f7a4 mlX2_74 (by decide) rfl rfl (Nat.le_of_ble_eq_true rfl) dX2_fewestLamps_88 rfl ?_
        show zX shC σ 5 MX2_fewestLamps 91 [(0, zr 37), (1, zi b), (2, zi (nI n))] [zi (pBits b), zi (pBits (nI n))] μ1 _
        refine zx_icmp_ge (tgt := 98) (nn := 94) dX2_fewestLamps_91 (by decide) rfl (fun h91 => ?_) (fun h91 => ?_)
        · refine zx_iconst (v := 0) (nn := 99) rfl dX2_fewestLamps_98 rfl ?_
          refine zx_istore_n (nn := 100) (lv' := [(3, zi 0), (0, zr 37), (1, zi b), (2, zi (nI n))]) dX2_fewestLamps_99 rfl (by decide) rfl rfl ?_
          refine zx_iload_n (k := 0) (nn := 101) dX2_fewestLamps_100 rfl rfl rfl ?_
          refine zx_if_eq (tgt := 114) (nn := 104) dX2_fewestLamps_101 (by decide) rfl (fun h101 => ?_) (fun h101 => ?_)
          · refine zx_iinc (k := 3) (v := nI (n + 1)) (lv' := [(2, zi (nI (n + 1))), (3, zi 0), (0, zr 37), (1, zi b)]) (nn := 117) dX2_fewestLamps_114 rfl (nI_1 n) (by decide) rfl rfl ?_
            refine zx_goto (tgt := 64) dX2_fewestLamps_117 (by decide) ?_
            refine zx_lv (lv' := [(0, zr 37), (1, zi b), (2, zi (nI (n + 1)))]) [2, 3, 0] rfl ?_
            exact ih64 (n + 1, b) (show (n + 1) ≤ 2 ^ pL (cS 18 μ) ∧ b = (pWhoTo (pInSet (cR 1 μ) (cS 18 μ)) (pRem (cS 18 μ))) (n + 1) from ⟨by omega, by show _ = if _ then _ else _; rw [← hI.2, decide_eq_false h80, decide_eq_false (Int32.not_lt.mpr h91), Bool.false_or, Bool.false_and]; rfl⟩) (by show 2 ^ pL (cS 18 μ) - (n + 1) < 2 ^ pL (cS 18 μ) - n; omega)
          · exact absurd h101 (by decide)
        · refine zx_iconst (v := 1) (nn := 95) rfl dX2_fewestLamps_94 rfl ?_
          refine zx_goto (tgt := 99) dX2_fewestLamps_95 (by decide) ?_
          refine zx_istore_n (nn := 100) (lv' := [(3, zi 1), (0, zr 37), (1, zi b), (2, zi (nI n))]) dX2_fewestLamps_99 rfl (by decide) rfl rfl ?_
          refine zx_iload_n (k := 0) (nn := 101) dX2_fewestLamps_100 rfl rfl rfl ?_
          refine zx_if_eq (tgt := 114) (nn := 104) dX2_fewestLamps_101 (by decide) rfl (fun h101 => ?_) (fun h101 => ?_)
          · exact absurd h101 (by decide)
          · refine zx_aload_n (k := 1) (nn := 105) dX2_fewestLamps_104 rfl rfl rfl ?_
            refine zx_iload_n (k := 3) (nn := 106) dX2_fewestLamps_105 rfl rfl rfl ?_
            refine zx_callVf (nn := 109) (k := 37) (d' := 0) (as := [zi (nI n)]) (rest := []) (n := 1) (eX2_isNeverDark_37 σ μ1 (nI n) (by rw [es1]; exact ok)) kX2_isNeverDark mlX2_77 rfl rfl rfl (by decide) rfl rfl (Nat.le_of_ble_eq_true rfl) dX2_fewestLamps_106 rfl ?_
            show zX shC σ 5 MX2_fewestLamps 109 [(3, zi 1), (0, zr 37), (1, zi b), (2, zi (nI n))] [zi (zb (pAllIn (fun q_ => μ1 38 (pb (cS 18 μ1) + q_)) (nI n) (pRem (cS 18 μ1))))] μ1 _
            rw [es1, ← hmr]
            show zX shC σ 5 MX2_fewestLamps 109 [(3, zi 1), (0, zr 37), (1, zi b), (2, zi (nI n))] [zi (zb (pAllIn (fun q_ => μ1 38 (pb (cS 18 μ) + q_)) (nI n) m))] μ1 _
            refine zx_ifb_eq (tgt := 114) (nn := 112) dX2_fewestLamps_109 (by decide) rfl (fun h109 => ?_) (fun h109 => ?_)
            · refine zx_iinc (k := 3) (v := nI (n + 1)) (lv' := [(2, zi (nI (n + 1))), (3, zi 1), (0, zr 37), (1, zi b)]) (nn := 117) dX2_fewestLamps_114 rfl (nI_1 n) (by decide) rfl rfl ?_
              refine zx_goto (tgt := 64) dX2_fewestLamps_117 (by decide) ?_
              refine zx_lv (lv' := [(0, zr 37), (1, zi b), (2, zi (nI (n + 1)))]) [2, 3, 0] rfl ?_
              exact ih64 (n + 1, b) (show (n + 1) ≤ 2 ^ pL (cS 18 μ) ∧ b = (pWhoTo (pInSet (cR 1 μ) (cS 18 μ)) (pRem (cS 18 μ))) (n + 1) from ⟨by omega, by show _ = if _ then _ else _; rw [← hI.2, decide_eq_false h80, decide_eq_true (Int32.not_le.mp h91), Bool.false_or, ← pAllIn_eq (fun j h => hv j (by omega)), ← hmr, h109]; rfl⟩) (by show 2 ^ pL (cS 18 μ) - (n + 1) < 2 ^ pL (cS 18 μ) - n; omega)
            · refine zx_iload_n (k := 3) (nn := 113) dX2_fewestLamps_112 rfl rfl rfl ?_
              refine zx_istore_n (nn := 114) (lv' := [(1, zi (nI n)), (3, zi 1), (0, zr 37), (2, zi (nI n))]) dX2_fewestLamps_113 rfl (by decide) rfl rfl ?_
              refine zx_iinc (k := 3) (v := nI (n + 1)) (lv' := [(2, zi (nI (n + 1))), (1, zi (nI n)), (3, zi 1), (0, zr 37)]) (nn := 117) dX2_fewestLamps_114 rfl (nI_1 n) (by decide) rfl rfl ?_
              refine zx_goto (tgt := 64) dX2_fewestLamps_117 (by decide) ?_
              refine zx_lv (lv' := [(0, zr 37), (1, zi (nI n)), (2, zi (nI (n + 1)))]) [3, 1, 0] rfl ?_
              exact ih64 (n + 1, nI n) (show (n + 1) ≤ 2 ^ pL (cS 18 μ) ∧ (nI n) = (pWhoTo (pInSet (cR 1 μ) (cS 18 μ)) (pRem (cS 18 μ))) (n + 1) from ⟨by omega, by show _ = if _ then _ else _; rw [← hI.2, decide_eq_false h80, decide_eq_true (Int32.not_le.mp h91), Bool.false_or, ← pAllIn_eq (fun j h => hv j (by omega)), ← hmr, h109]; rfl⟩) (by show 2 ^ pL (cS 18 μ) - (n + 1) < 2 ^ pL (cS 18 μ) - n; omega)
  · have hlt : pb (cS 18 μ) + m < pB (cS 18 μ) := nI_nle_lt h27 (by omega)
    refine zx_aload_n (k := 0) (nn := 31) dX2_fewestLamps_30 rfl rfl rfl ?_
    refine zx_getR (q := 25) (nn := 34) flX2_19 rfl rfl dX2_fewestLamps_31 rfl ?_
    refine zx_iconst (v := -1) (nn := 35) rfl dX2_fewestLamps_34 rfl ?_
    refine zx_callV (nn := 38) (k := 25) (d' := 4) (as := [zi (-1)]) (rest := []) (n := 1) (eX8_goBy_25 σ μ1 (-1) okm rokm (by rw [hs, hok1.2.1, hok1.2.2.1]; omega)) kX8_goBy mlX2_32 rfl rfl rfl (by decide) rfl rfl (Nat.le_of_ble_eq_true rfl) dX2_fewestLamps_35 rfl ?_
    rintro _ ν2 ⟨rfl, g1, g2⟩
    show zX shC σ 5 MX2_fewestLamps 38 [(0, zr 37), (1, zi (nI (pb (cS 18 μ) + m)))] [zi (pGain (cR 1 μ1) (cS 25 μ1) (-1))] ν2 _
    have hs2 : cS 25 ν2 = pRun (cR 1 μ) (cS 18 μ) (m + 1) := by rw [g1, hR1, hs]; rfl
    have hj2 : zJ [6, 25, 26, 27, 28, 29, 30, 31, 38] μ ν2 := hj.tr (g2.mono (by simp))
    have hok2 := pRun_ok (ρ := cR 1 μ) ok (m + 1) (by omega)
    refine zx_popi (nn := 39) dX2_fewestLamps_38 rfl ?_
    refine zx_aload_n (k := 0) (nn := 40) dX2_fewestLamps_39 rfl rfl rfl ?_
    refine zx_getR (q := 38) (nn := 43) flX2_9 rfl rfl dX2_fewestLamps_40 rfl ?_
    refine zx_iload_n (k := 1) (nn := 44) dX2_fewestLamps_43 rfl rfl rfl ?_
    refine zx_aload_n (k := 0) (nn := 45) dX2_fewestLamps_44 rfl rfl rfl ?_
    refine zx_getR (q := 25) (nn := 48) flX2_19 rfl rfl dX2_fewestLamps_45 rfl ?_
    refine zx_iconst (v := 2) (nn := 49) rfl dX2_fewestLamps_48 rfl ?_
    refine zx_callVf (nn := 52) (k := 25) (d' := 3) (as := [zi 2]) (rest := [zi (nI (pb (cS 18 μ) + m)), zr 38]) (n := 1) (eX8_setOf_25 σ ν2 2 (by rw [hs2]; exact hok2.1)) kX8_setOf mlX2_68 rfl rfl rfl (by decide) rfl rfl (Nat.le_of_ble_eq_true rfl) dX2_fewestLamps_49 rfl ?_
    show zX shC σ 5 MX2_fewestLamps 52 [(0, zr 37), (1, zi (nI (pb (cS 18 μ) + m)))] [zi (pSet (fun l => decide (pSightL (cS 25 ν2) l (pNear (cS 25 ν2) (cS 25 ν2 2 - 1)) = 2)) (pL (cS 25 ν2))), zi (nI (pb (cS 18 μ) + m)), zr 38] ν2 _
    rw [show pSet (fun l => decide (pSightL (cS 25 ν2) l (pNear (cS 25 ν2) (cS 25 ν2 2 - 1)) = 2)) (pL (cS 25 ν2)) = pInSet (cR 1 μ) (cS 18 μ) m from by rw [hs2, pRun_near ok (by omega)]; rfl]
    show zX shC σ 5 MX2_fewestLamps 52 [(0, zr 37), (1, zi (nI (pb (cS 18 μ) + m)))] [zi (pInSet (cR 1 μ) (cS 18 μ) m), zi (nI (pb (cS 18 μ) + m)), zr 38] ν2 _
    refine zx_iast_n (j := pb (cS 18 μ) + m) (nn := 53) rfl (by omega) (by decide) dX2_fewestLamps_52 rfl ?_
    refine zx_iinc (k := 1) (v := nI ((pb (cS 18 μ) + m) + 1)) (lv' := [(1, zi (nI ((pb (cS 18 μ) + m) + 1))), (0, zr 37)]) (nn := 56) dX2_fewestLamps_53 rfl (nI_1 (pb (cS 18 μ) + m)) (by decide) rfl rfl ?_
    refine zx_goto (tgt := 19) dX2_fewestLamps_56 (by decide) ?_
    refine zx_lv (lv' := [(0, zr 37), (1, zi (nI ((pb (cS 18 μ) + m) + 1)))]) [1, 0] rfl ?_
    exact ih19 (m + 1, zp ν2 38 (pb (cS 18 μ) + m) (pInSet (cR 1 μ) (cS 18 μ) m)) (show (m + 1) ≤ pRem (cS 18 μ) ∧ cS 25 (zp ν2 38 (pb (cS 18 μ) + m) (pInSet (cR 1 μ) (cS 18 μ) m)) = pRun (cR 1 μ) (cS 18 μ) (m + 1) ∧ zJ [6, 25, 26, 27, 28, 29, 30, 31, 38] μ (zp ν2 38 (pb (cS 18 μ) + m) (pInSet (cR 1 μ) (cS 18 μ) m)) ∧ ∀ j, j < (m + 1) → (zp ν2 38 (pb (cS 18 μ) + m) (pInSet (cR 1 μ) (cS 18 μ) m)) 38 (pb (cS 18 μ) + j) = pInSet (cR 1 μ) (cS 18 μ) j from ⟨by omega, (cS_eq (fun k hk => zp_ne (by omega))).trans hs2, hj2.p (by decide), fun j hjm => by rw [zp_eq]; unfold upd; by_cases q : pb (cS 18 μ) + j = pb (cS 18 μ) + m; rw [if_pos q, show j = m by omega]; rw [if_neg q, g2 38 (by decide)]; exact hv j (by omega)⟩) (by show pRem (cS 18 μ) - (m + 1) < pRem (cS 18 μ) - m; omega)
set_option maxHeartbeats 4000000 in
set_option maxRecDepth 100000 in
theorem eX2_timesWorth_37 (σ : zG) (μ : zM) (n : Nat) (v : Int32) (ok : pOK (cS 18 μ)) (rok : cROK 1 μ) (hn : n < 2 ^ 30) : zMet shC σ 6 MX2_timesWorth yX2_timesWorth [zr 37, zi (nI n), zi v] μ (fun rr μ' => rr = some (zi (nI (pTimes (cR 1 μ) (cS 18 μ) v n).1)) ∧ zJ [6, 25, 26, 27, 28, 29, 30, 31] μ μ') := by
  have hB16 := (ok_B ok).2
  have hbB := (ok_b ok).2
  have hb1 : μ 18 9 = nI (pb (cS 18 μ)) := (ok_b ok).1
  have hBe : μ 18 8 = nI (pB (cS 18 μ)) := (ok_B ok).1
  have hrem : pRem (cS 18 μ) = pB (cS 18 μ) - pb (cS 18 μ) := rfl
  refine zmetF (by decide +kernel) rfl (Nat.le_of_ble_eq_true rfl) ?_
  show zX shC σ 6 MX2_timesWorth 0 [(0, zr 37), (1, zi (nI n)), (2, zi v)] [] μ _
  refine zx_iconst (v := 0) (nn := 1) rfl dX2_timesWorth_0 rfl ?_
  refine zx_istore_n (nn := 2) (lv' := [(3, zi 0), (0, zr 37), (1, zi (nI n)), (2, zi v)]) dX2_timesWorth_1 rfl (by decide) rfl rfl ?_
  refine zx_aload_n (k := 1) (nn := 3) dX2_timesWorth_2 rfl rfl rfl ?_
  refine zx_getR (q := 18) (nn := 6) flX2_15 rfl rfl dX2_timesWorth_3 rfl ?_
  refine zx_getI (nn := 9) flX2_81 rfl rfl dX2_timesWorth_6 rfl ?_
  refine zx_istore (nn := 11) (lv' := [(4, zi (μ 18 11)), (3, zi 0), (0, zr 37), (1, zi (nI n)), (2, zi v)]) dX2_timesWorth_9 (by decide) rfl rfl ?_
  refine zx_iconst (v := 0) (nn := 12) rfl dX2_timesWorth_11 rfl ?_
  refine zx_istore (nn := 14) (lv' := [(5, zi 0), (4, zi (μ 18 11)), (3, zi 0), (0, zr 37), (1, zi (nI n)), (2, zi v)]) dX2_timesWorth_12 (by decide) rfl rfl ?_
  refine zx_lv (lv' := [(0, zr 37), (1, zi (nI n)), (2, zi v), (3, zi 0), (4, zi (μ 18 11)), (5, zi 0)]) [3, 4, 5, 2, 1, 0] rfl ?_
  refine zx_while (τ := Nat × Nat × Int32 × zM) (fun t_ => n - t_.1) (fun t_ => t_.1 ≤ n ∧ (pTimes (cR 1 μ) (cS 18 μ) v) t_.1 = (t_.2.1, t_.2.2.1) ∧ zJ [6, 25, 26, 27, 28, 29, 30, 31] μ t_.2.2.2) (fun t_ => [(0, zr 37), (1, zi (nI n)), (2, zi v), (3, zi (nI t_.2.1)), (4, zi t_.2.2.1), (5, zi (nI t_.1))]) (fun t_ => t_.2.2.2) (t0 := (0, 0, cS 18 μ 4, μ)) (⟨Nat.zero_le _, rfl, zJ.rf⟩) ?_
  rintro ⟨k, t, z, μ1⟩ hI ih14
  replace hI : k ≤ n ∧ (pTimes (cR 1 μ) (cS 18 μ) v) k = (t, z) ∧ zJ [6, 25, 26, 27, 28, 29, 30, 31] μ μ1 := hI
  show zX shC σ 6 MX2_timesWorth 14 [(0, zr 37), (1, zi (nI n)), (2, zi v), (3, zi (nI t)), (4, zi z), (5, zi (nI k))] [] μ1 _
  obtain ⟨hk, ht, hj⟩ := hI
  have hR1 : cR 1 μ1 = cR 1 μ := cR_μ (fun k h1 h2 => hj k (by simp; omega))
  have es1 : cS 18 μ1 = cS 18 μ := cS_eq (fun k hk => hj k (by simp; omega))
  have ok1 : pOK (cS 18 μ1) := by rw [es1]; exact ok
  have rok1 : cROK 1 μ1 := cROK_μ (hj 1 (by decide)).symm (hj 4 (by decide)).symm rok
  have h18 : μ1 18 = μ 18 := hj 18 (by decide)
  refine zx_iload (k := 5) (nn := 16) dX2_timesWorth_14 rfl rfl ?_
  refine zx_iload_n (k := 1) (nn := 17) dX2_timesWorth_16 rfl rfl rfl ?_
  refine zx_icmp_ge (tgt := 106) (nn := 20) dX2_timesWorth_17 (by decide) rfl (fun h17 => ?_) (fun h17 => ?_)
  · refine zx_iload_n (k := 3) (nn := 107) dX2_timesWorth_106 rfl rfl rfl ?_
    refine zx_iret rfl dX2_timesWorth_107 ?_
    have hge := nI_le_le h17 (by omega)
    refine ⟨congrArg (fun x => some (zi x)) ?_, hj⟩
    rw [show n = k by omega, ht]
  · have hlt : k < n := nI_nle_lt h17 (by omega)
    refine zx_aload_n (k := 0) (nn := 21) dX2_timesWorth_20 rfl rfl rfl ?_
    refine zx_getR (q := 25) (nn := 24) flX2_19 rfl rfl dX2_timesWorth_21 rfl ?_
    refine zx_aload_n (k := 0) (nn := 25) dX2_timesWorth_24 rfl rfl rfl ?_
    refine zx_getR (q := 18) (nn := 28) flX2_15 rfl rfl dX2_timesWorth_25 rfl ?_
    refine zx_callV (nn := 31) (k := 25) (d' := 1) (as := [zr 18]) (rest := []) (n := 1) (eX8_copyFrom_25_18 σ μ1) kX8_copyFrom mlX2_22 rfl rfl rfl (by decide) rfl rfl (Nat.le_of_ble_eq_true rfl) dX2_timesWorth_28 rfl ?_
    rintro _ ν1 ⟨rfl, c1, c2⟩
    show zX shC σ 6 MX2_timesWorth 31 [(0, zr 37), (1, zi (nI n)), (2, zi v), (3, zi (nI t)), (4, zi z), (5, zi (nI k))] [] ν1 _
    refine zx_aload_n (k := 0) (nn := 32) dX2_timesWorth_31 rfl rfl rfl ?_
    refine zx_getR (q := 25) (nn := 35) flX2_19 rfl rfl dX2_timesWorth_32 rfl ?_
    refine zx_iload (k := 4) (nn := 37) dX2_timesWorth_35 rfl rfl ?_
    refine zx_putI (nn := 40) fpX2_81 rfl rfl rfl rfl dX2_timesWorth_37 rfl ?_
    have cz : cS 25 (zp ν1 25 11 z) = (pPut (cS 18 μ) 4 z) := by
      funext i
      rw [cS_int (b := 25) (j := 11) (k := 4) (by omega) i, c1, es1]
      rfl
    refine zx_iconst (v := 0) (nn := 41) rfl dX2_timesWorth_40 rfl ?_
    refine zx_istore (nn := 43) (lv' := [(6, zi 0), (0, zr 37), (1, zi (nI n)), (2, zi v), (3, zi (nI t)), (4, zi z), (5, zi (nI k))]) dX2_timesWorth_41 (by decide) rfl rfl ?_
    refine zx_aload_n (k := 1) (nn := 44) dX2_timesWorth_43 rfl rfl rfl ?_
    refine zx_getR (q := 18) (nn := 47) flX2_15 rfl rfl dX2_timesWorth_44 rfl ?_
    refine zx_getI (nn := 50) flX2_40 rfl rfl dX2_timesWorth_47 rfl ?_
    show zX shC σ 6 MX2_timesWorth 50 [(6, zi 0), (0, zr 37), (1, zi (nI n)), (2, zi v), (3, zi (nI t)), (4, zi z), (5, zi (nI k))] [zi (ν1 18 9)] (zp ν1 25 11 z) _
    rw [show ν1 18 9 = nI (pb (cS 18 μ) + 0) from by rw [c2 18 (by decide), h18]; exact hb1]
    show zX shC σ 6 MX2_timesWorth 50 [(6, zi 0), (0, zr 37), (1, zi (nI n)), (2, zi v), (3, zi (nI t)), (4, zi z), (5, zi (nI k))] [zi (nI (pb (cS 18 μ) + 0))] (zp ν1 25 11 z) _
    refine zx_istore (nn := 52) (lv' := [(7, zi (nI (pb (cS 18 μ) + 0))), (6, zi 0), (0, zr 37), (1, zi (nI n)), (2, zi v), (3, zi (nI t)), (4, zi z), (5, zi (nI k))]) dX2_timesWorth_50 (by decide) rfl rfl ?_
    refine zx_lv (lv' := [(0, zr 37), (1, zi (nI n)), (2, zi v), (3, zi (nI t)), (4, zi z), (5, zi (nI k)), (6, zi 0), (7, zi (nI (pb (cS 18 μ) + 0)))]) [2, 3, 4, 5, 6, 7, 1, 0] rfl ?_
    refine zx_while (τ := Nat × Int32 × zM) (fun t_ => pRem (cS 18 μ) - t_.1) (fun t_ => t_.1 ≤ pRem (cS 18 μ) ∧ cS 25 t_.2.2 = pRunLot (cR 1 μ) (pPut (cS 18 μ) 4 z) t_.1 ∧ zJ [6, 25, 26, 27, 28, 29, 30, 31] μ t_.2.2 ∧ t_.2.1 = pSum (fun q_ => pGain (cR 1 μ) (pSlip (pRunLot (cR 1 μ) (pPut (cS 18 μ) 4 z) q_)) (-1)) t_.1) (fun t_ => [(0, zr 37), (1, zi (nI n)), (2, zi v), (3, zi (nI t)), (4, zi z), (5, zi (nI k)), (6, zi t_.2.1), (7, zi (nI (pb (cS 18 μ) + t_.1)))]) (fun t_ => t_.2.2) (t0 := (0, 0, zp ν1 25 11 z)) (⟨Nat.zero_le _, cz, ((hj.tr (c2.mono (by simp))).p (by decide)), rfl⟩) ?_
    rintro ⟨m, u, μ2⟩ hI ih52
    replace hI : m ≤ pRem (cS 18 μ) ∧ cS 25 μ2 = pRunLot (cR 1 μ) (pPut (cS 18 μ) 4 z) m ∧ zJ [6, 25, 26, 27, 28, 29, 30, 31] μ μ2 ∧ u = pSum (fun q_ => pGain (cR 1 μ) (pSlip (pRunLot (cR 1 μ) (pPut (cS 18 μ) 4 z) q_)) (-1)) m := hI
    show zX shC σ 6 MX2_timesWorth 52 [(0, zr 37), (1, zi (nI n)), (2, zi v), (3, zi (nI t)), (4, zi z), (5, zi (nI k)), (6, zi u), (7, zi (nI (pb (cS 18 μ) + m)))] [] μ2 _
    obtain ⟨mm, ss, jj, uu⟩ := hI
    have okz := pOK_put (k := 4) (v := z) ok (by omega)
    obtain ⟨hp1, hp2, hp3, hp4⟩ := pPut_n (s := (cS 18 μ)) (k := 4) (v := z) (by omega)
    have hl1 := pRunLot_ok (ρ := cR 1 μ) okz m (by rw [hp1, hp2]; omega)
    have hRR : cR 1 μ2 = cR 1 μ := cR_μ (fun k h1 h2 => jj k (by simp; omega))
    have h182 : μ2 18 = μ 18 := jj 18 (by decide)
    refine zx_iload (k := 7) (nn := 54) dX2_timesWorth_52 rfl rfl ?_
    refine zx_aload_n (k := 0) (nn := 55) dX2_timesWorth_54 rfl rfl rfl ?_
    refine zx_getR (q := 18) (nn := 58) flX2_15 rfl rfl dX2_timesWorth_55 rfl ?_
    refine zx_getI (nn := 61) flX2_44 rfl rfl dX2_timesWorth_58 rfl ?_
    rw [show μ2 18 8 = nI (pB (cS 18 μ)) from by rw [h182]; exact hBe]
    show zX shC σ 6 MX2_timesWorth 61 [(0, zr 37), (1, zi (nI n)), (2, zi v), (3, zi (nI t)), (4, zi z), (5, zi (nI k)), (6, zi u), (7, zi (nI (pb (cS 18 μ) + m)))] [zi (nI (pB (cS 18 μ))), zi (nI (pb (cS 18 μ) + m))] μ2 _
    refine zx_icmp_ge (tgt := 82) (nn := 64) dX2_timesWorth_61 (by decide) rfl (fun h61 => ?_) (fun h61 => ?_)
    · have hge := nI_le_le h61 (by omega)
      have hu : u = pLotSum (cR 1 μ) (pPut (cS 18 μ) 4 z) (pRem (cS 18 μ)) := by rw [uu, show m = pRem (cS 18 μ) by omega]; rfl
      refine zx_iload (k := 6) (nn := 84) dX2_timesWorth_82 rfl rfl ?_
      refine zx_iload_n (k := 2) (nn := 85) dX2_timesWorth_84 rfl rfl rfl ?_
      refine zx_icmp_lt (tgt := 91) (nn := 88) dX2_timesWorth_85 (by decide) rfl (fun h85 => ?_) (fun h85 => ?_)
      · refine zx_aload_n (k := 0) (nn := 92) dX2_timesWorth_91 rfl rfl rfl ?_
        refine zx_getR (q := 25) (nn := 95) flX2_19 rfl rfl dX2_timesWorth_92 rfl ?_
        refine zx_getI (nn := 98) flX2_81 rfl rfl dX2_timesWorth_95 rfl ?_
        rw [show μ2 25 11 = pRunLot (cR 1 μ) (pPut (cS 18 μ) 4 z) (pRem (cS 18 μ)) 4 from by rw [show pRem (cS 18 μ) = m by omega, ← ss]; rfl]
        show zX shC σ 6 MX2_timesWorth 98 [(0, zr 37), (1, zi (nI n)), (2, zi v), (3, zi (nI t)), (4, zi z), (5, zi (nI k)), (6, zi u), (7, zi (nI (pb (cS 18 μ) + m)))] [zi (pRunLot (cR 1 μ) (pPut (cS 18 μ) 4 z) (pRem (cS 18 μ)) 4)] μ2 _
        refine zx_istore (nn := 100) (lv' := [(4, zi (pRunLot (cR 1 μ) (pPut (cS 18 μ) 4 z) (pRem (cS 18 μ)) 4)), (0, zr 37), (1, zi (nI n)), (2, zi v), (3, zi (nI t)), (5, zi (nI k)), (6, zi u), (7, zi (nI (pb (cS 18 μ) + m)))]) dX2_timesWorth_98 (by decide) rfl rfl ?_
        refine zx_iinc (k := 5) (v := nI (k + 1)) (lv' := [(5, zi (nI (k + 1))), (4, zi (pRunLot (cR 1 μ) (pPut (cS 18 μ) 4 z) (pRem (cS 18 μ)) 4)), (0, zr 37), (1, zi (nI n)), (2, zi v), (3, zi (nI t)), (6, zi u), (7, zi (nI (pb (cS 18 μ) + m)))]) (nn := 103) dX2_timesWorth_100 rfl (nI_1 k) (by decide) rfl rfl ?_
        refine zx_goto (tgt := 14) dX2_timesWorth_103 (by decide) ?_
        refine zx_lv (lv' := [(0, zr 37), (1, zi (nI n)), (2, zi v), (3, zi (nI t)), (4, zi (pRunLot (cR 1 μ) (pPut (cS 18 μ) 4 z) (pRem (cS 18 μ)) 4)), (5, zi (nI (k + 1)))]) [2, 3, 4, 5, 1, 0] rfl ?_
        exact ih14 (k + 1, t, pRunLot (cR 1 μ) (pPut (cS 18 μ) 4 z) (pRem (cS 18 μ)) 4, μ2) (show (k + 1) ≤ n ∧ (pTimes (cR 1 μ) (cS 18 μ) v) (k + 1) = (t, (pRunLot (cR 1 μ) (pPut (cS 18 μ) 4 z) (pRem (cS 18 μ)) 4)) ∧ zJ [6, 25, 26, 27, 28, 29, 30, 31] μ μ2 from ⟨by omega, by show (if _ then _ else _, _) = _; rw [ht, ← hu, if_neg (Int32.not_le.mpr h85)], jj⟩) (by show n - (k + 1) < n - k; omega)
      · refine zx_iinc (k := 3) (v := nI (t + 1)) (lv' := [(3, zi (nI (t + 1))), (0, zr 37), (1, zi (nI n)), (2, zi v), (4, zi z), (5, zi (nI k)), (6, zi u), (7, zi (nI (pb (cS 18 μ) + m)))]) (nn := 91) dX2_timesWorth_88 rfl (nI_1 t) (by decide) rfl rfl ?_
        refine zx_aload_n (k := 1) (nn := 92) dX2_timesWorth_91 rfl rfl rfl ?_
        refine zx_getR (q := 25) (nn := 95) flX2_19 rfl rfl dX2_timesWorth_92 rfl ?_
        refine zx_getI (nn := 98) flX2_81 rfl rfl dX2_timesWorth_95 rfl ?_
        rw [show μ2 25 11 = pRunLot (cR 1 μ) (pPut (cS 18 μ) 4 z) (pRem (cS 18 μ)) 4 from by rw [show pRem (cS 18 μ) = m by omega, ← ss]; rfl]
        show zX shC σ 6 MX2_timesWorth 98 [(3, zi (nI (t + 1))), (0, zr 37), (1, zi (nI n)), (2, zi v), (4, zi z), (5, zi (nI k)), (6, zi u), (7, zi (nI (pb (cS 18 μ) + m)))] [zi (pRunLot (cR 1 μ) (pPut (cS 18 μ) 4 z) (pRem (cS 18 μ)) 4)] μ2 _
        refine zx_istore (nn := 100) (lv' := [(4, zi (pRunLot (cR 1 μ) (pPut (cS 18 μ) 4 z) (pRem (cS 18 μ)) 4)), (3, zi (nI (t + 1))), (0, zr 37), (1, zi (nI n)), (2, zi v), (5, zi (nI k)), (6, zi u), (7, zi (nI (pb (cS 18 μ) + m)))]) dX2_timesWorth_98 (by decide) rfl rfl ?_
        refine zx_iinc (k := 5) (v := nI (k + 1)) (lv' := [(5, zi (nI (k + 1))), (4, zi (pRunLot (cR 1 μ) (pPut (cS 18 μ) 4 z) (pRem (cS 18 μ)) 4)), (3, zi (nI (t + 1))), (0, zr 37), (1, zi (nI n)), (2, zi v), (6, zi u), (7, zi (nI (pb (cS 18 μ) + m)))]) (nn := 103) dX2_timesWorth_100 rfl (nI_1 k) (by decide) rfl rfl ?_
        refine zx_goto (tgt := 14) dX2_timesWorth_103 (by decide) ?_
        refine zx_lv (lv' := [(0, zr 37), (1, zi (nI n)), (2, zi v), (3, zi (nI (t + 1))), (4, zi (pRunLot (cR 1 μ) (pPut (cS 18 μ) 4 z) (pRem (cS 18 μ)) 4)), (5, zi (nI (k + 1)))]) [3, 4, 5, 2, 1, 0] rfl ?_
        exact ih14 (k + 1, t + 1, pRunLot (cR 1 μ) (pPut (cS 18 μ) 4 z) (pRem (cS 18 μ)) 4, μ2) (show (k + 1) ≤ n ∧ (pTimes (cR 1 μ) (cS 18 μ) v) (k + 1) = ((t + 1), (pRunLot (cR 1 μ) (pPut (cS 18 μ) 4 z) (pRem (cS 18 μ)) 4)) ∧ zJ [6, 25, 26, 27, 28, 29, 30, 31] μ μ2 from ⟨by omega, by show (if _ then _ else _, _) = _; rw [ht, ← hu, if_pos (Int32.not_lt.mp h85)], jj⟩) (by show n - (k + 1) < n - k; omega)
    · have hlt2 : pb (cS 18 μ) + m < pB (cS 18 μ) := nI_nle_lt h61 (by omega)
      refine zx_iload (k := 6) (nn := 66) dX2_timesWorth_64 rfl rfl ?_
      refine zx_aload_n (k := 0) (nn := 67) dX2_timesWorth_66 rfl rfl rfl ?_
      refine zx_getR (q := 25) (nn := 70) flX2_19 rfl rfl dX2_timesWorth_67 rfl ?_
      refine zx_callV (nn := 73) (k := 25) (d' := 5) (as := []) (rest := [zi u]) (n := 0) (eX8_goByLot_25 σ μ2 (by rw [ss]; exact hl1.1) (cROK_μ (jj 1 (by decide)).symm (jj 4 (by decide)).symm rok) (by rw [ss, hl1.2.1, hl1.2.2, hp1, hp2]; omega)) kX8_goByLot mlX2_84 rfl rfl rfl (by decide) rfl rfl (Nat.le_of_ble_eq_true rfl) dX2_timesWorth_70 rfl ?_
      rintro _ ν2 ⟨rfl, g1, g2⟩
      show zX shC σ 6 MX2_timesWorth 73 [(0, zr 37), (1, zi (nI n)), (2, zi v), (3, zi (nI t)), (4, zi z), (5, zi (nI k)), (6, zi u), (7, zi (nI (pb (cS 18 μ) + m)))] [zi (pGain (cR 1 μ2) (pSlip (cS 25 μ2)) (-1)), zi u] ν2 _
      rw [hRR, ss]
      show zX shC σ 6 MX2_timesWorth 73 [(0, zr 37), (1, zi (nI n)), (2, zi v), (3, zi (nI t)), (4, zi z), (5, zi (nI k)), (6, zi u), (7, zi (nI (pb (cS 18 μ) + m)))] [zi (pGain (cR 1 μ) (pSlip (pRunLot (cR 1 μ) (pPut (cS 18 μ) 4 z) m)) (-1)), zi u] ν2 _
      refine zx_iadd (nn := 74) dX2_timesWorth_73 rfl ?_
      refine zx_istore (nn := 76) (lv' := [(6, zi (u + (pGain (cR 1 μ) (pSlip (pRunLot (cR 1 μ) (pPut (cS 18 μ) 4 z) m)) (-1)))), (0, zr 37), (1, zi (nI n)), (2, zi v), (3, zi (nI t)), (4, zi z), (5, zi (nI k)), (7, zi (nI (pb (cS 18 μ) + m)))]) dX2_timesWorth_74 (by decide) rfl rfl ?_
      refine zx_iinc (k := 7) (v := nI ((pb (cS 18 μ) + m) + 1)) (lv' := [(7, zi (nI ((pb (cS 18 μ) + m) + 1))), (6, zi (u + (pGain (cR 1 μ) (pSlip (pRunLot (cR 1 μ) (pPut (cS 18 μ) 4 z) m)) (-1)))), (0, zr 37), (1, zi (nI n)), (2, zi v), (3, zi (nI t)), (4, zi z), (5, zi (nI k))]) (nn := 79) dX2_timesWorth_76 rfl (nI_1 (pb (cS 18 μ) + m)) (by decide) rfl rfl ?_
      refine zx_goto (tgt := 52) dX2_timesWorth_79 (by decide) ?_
      refine zx_lv (lv' := [(0, zr 37), (1, zi (nI n)), (2, zi v), (3, zi (nI t)), (4, zi z), (5, zi (nI k)), (6, zi (u + (pGain (cR 1 μ) (pSlip (pRunLot (cR 1 μ) (pPut (cS 18 μ) 4 z) m)) (-1)))), (7, zi (nI ((pb (cS 18 μ) + m) + 1)))]) [2, 3, 4, 5, 6, 7, 1, 0] rfl ?_
      exact ih52 (m + 1, u + (fun q_ => pGain (cR 1 μ) (pSlip (pRunLot (cR 1 μ) (pPut (cS 18 μ) 4 z) q_)) (-1)) m, ν2) (show (m + 1) ≤ pRem (cS 18 μ) ∧ cS 25 ν2 = pRunLot (cR 1 μ) (pPut (cS 18 μ) 4 z) (m + 1) ∧ zJ [6, 25, 26, 27, 28, 29, 30, 31] μ ν2 ∧ (u + (fun q_ => pGain (cR 1 μ) (pSlip (pRunLot (cR 1 μ) (pPut (cS 18 μ) 4 z) q_)) (-1)) m) = pSum (fun q_ => pGain (cR 1 μ) (pSlip (pRunLot (cR 1 μ) (pPut (cS 18 μ) 4 z) q_)) (-1)) (m + 1) from ⟨by omega, g1.trans (by rw [hRR, ss]; rfl), jj.tr (g2.mono (by simp)), by show _ + _ = pSum _ m + _; rw [uu]⟩) (by show pRem (cS 18 μ) - (m + 1) < pRem (cS 18 μ) - m; omega)
