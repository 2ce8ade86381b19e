theorem zw03 {w : Int32} (h0 : 0 ≤ w) (h3 : w ≤ 3) : w = 0 ∨ w = 1 ∨ w = 2 ∨ w = 3 := by
  obtain ⟨j, hj, rfl⟩ := nI_of (x := w) (Int32.not_lt.mpr h0)
  have := nI_le_le (b := j) (a := 3) h3 (by omega)
  rcases (show j = 0 ∨ j = 1 ∨ j = 2 ∨ j = 3 by omega) with rfl | rfl | rfl | rfl <;> decide
set_option maxHeartbeats 4000000 in
set_option maxRecDepth 100000 in
theorem eX10_isLampKind (σ : zG) (μ : zM) (k : Int32) : zMet shC σ 1 MX10_isLampKind yX10_isLampKind [zi k] μ (fun rr μ' => rr = some (zi (zb (pIn k 1 5))) ∧ μ' = μ) := by
  refine zmetF (by decide +kernel) rfl (Nat.le_of_ble_eq_true rfl) ?_
  show zX shC σ 1 MX10_isLampKind 0 [(0, zi k)] [] μ _
  refine zx_iload_n (k := 0) (nn := 1) dX10_isLampKind_0 rfl rfl rfl ?_
  refine zx_iconst (v := 1) (nn := 2) rfl dX10_isLampKind_1 rfl ?_
  refine zx_iconst (v := 5) (nn := 3) rfl dX10_isLampKind_2 rfl ?_
  refine zx_callSf (nn := 6) (d' := 0) (as := [zi k, zi 1, zi 5]) (rest := []) (n := 3) (eX10_isIn σ μ k 1 5  ) kX10_isIn mlX10_135 (by decide) rfl rfl (Nat.le_of_ble_eq_true rfl) dX10_isLampKind_3 rfl ?_
  show zX shC σ 1 MX10_isLampKind 6 [(0, zi k)] [zi (zb (pIn k 1 5))] μ _
  refine zx_zret rfl (zb_nar _) dX10_isLampKind_6 ?_
  exact ⟨rfl, rfl⟩
set_option maxHeartbeats 4000000 in
set_option maxRecDepth 100000 in
theorem eX10_fits (σ : zG) (μ : zM) (w : Int32) (v : Int32) : zMet shC σ 1 MX10_fits yX10_fits [zi w, zi v] μ (fun rr μ' => rr = some (zi (zb (pTold w v))) ∧ μ' = μ) := by
  refine zmetF (by decide +kernel) rfl (Nat.le_of_ble_eq_true rfl) ?_
  show zX shC σ 1 MX10_fits 0 [(0, zi w), (1, zi v)] [] μ _
  refine zx_iload_n (k := 0) (nn := 1) dX10_fits_0 rfl rfl rfl ?_
  by_cases h1_1 : w = 1
  · refine zx_sw h1_1 ?_
    refine zx_tabIn (tgt := 28) (off := 27) dX10_fits_1 (by decide +kernel) (by decide +kernel) (by decide +kernel) (by decide) ?_
    refine zx_iload_n (k := 1) (nn := 29) dX10_fits_28 rfl rfl rfl ?_
    refine zx_iconst (v := 0) (nn := 30) rfl dX10_fits_29 rfl ?_
    refine zx_bipush (v := 40) (nn := 32) rfl dX10_fits_30 rfl ?_
    refine zx_callSf (nn := 35) (d' := 0) (as := [zi v, zi 0, zi 40]) (rest := []) (n := 3) (eX10_isIn σ μ v 0 40  ) kX10_isIn mlX10_135 (by decide) rfl rfl (Nat.le_of_ble_eq_true rfl) dX10_fits_32 rfl ?_
    show zX shC σ 1 MX10_fits 35 [(0, zi w), (1, zi v)] [zi (zb (pIn v 0 40))] μ _
    refine zx_zret rfl (zb_nar _) dX10_fits_35 ?_
    exact ⟨congrArg (fun x => some (zi x)) (by simp [pTold, zb, h1_1]), rfl⟩
  by_cases h1_2 : w = 2
  · refine zx_sw h1_2 ?_
    refine zx_tabIn (tgt := 36) (off := 35) dX10_fits_1 (by decide +kernel) (by decide +kernel) (by decide +kernel) (by decide) ?_
    refine zx_iload_n (k := 1) (nn := 37) dX10_fits_36 rfl rfl rfl ?_
    refine zx_iconst (v := 0) (nn := 38) rfl dX10_fits_37 rfl ?_
    refine zx_bipush (v := 9) (nn := 40) rfl dX10_fits_38 rfl ?_
    refine zx_callSf (nn := 43) (d' := 0) (as := [zi v, zi 0, zi 9]) (rest := []) (n := 3) (eX10_isIn σ μ v 0 9  ) kX10_isIn mlX10_135 (by decide) rfl rfl (Nat.le_of_ble_eq_true rfl) dX10_fits_40 rfl ?_
    show zX shC σ 1 MX10_fits 43 [(0, zi w), (1, zi v)] [zi (zb (pIn v 0 9))] μ _
    refine zx_zret rfl (zb_nar _) dX10_fits_43 ?_
    exact ⟨congrArg (fun x => some (zi x)) (by simp [pTold, zb, h1_1, h1_2]), rfl⟩
  by_cases h1_3 : w = 3
  · refine zx_sw h1_3 ?_
    refine zx_tabIn (tgt := 44) (off := 43) dX10_fits_1 (by decide +kernel) (by decide +kernel) (by decide +kernel) (by decide) ?_
    refine zx_iload_n (k := 1) (nn := 45) dX10_fits_44 rfl rfl rfl ?_
    refine zx_iconst (v := 1) (nn := 46) rfl dX10_fits_45 rfl ?_
    refine zx_bipush (v := 9) (nn := 48) rfl dX10_fits_46 rfl ?_
    refine zx_callSf (nn := 51) (d' := 0) (as := [zi v, zi 1, zi 9]) (rest := []) (n := 3) (eX10_isIn σ μ v 1 9  ) kX10_isIn mlX10_135 (by decide) rfl rfl (Nat.le_of_ble_eq_true rfl) dX10_fits_48 rfl ?_
    show zX shC σ 1 MX10_fits 51 [(0, zi w), (1, zi v)] [zi (zb (pIn v 1 9))] μ _
    refine zx_zret rfl (zb_nar _) dX10_fits_51 ?_
    exact ⟨congrArg (fun x => some (zi x)) (by simp [pTold, zb, h1_1, h1_2, h1_3]), rfl⟩
  refine zx_tabOut (tgt := 52) dX10_fits_1 (zsw_out (lo := 1) (hi := 3) (fun k hk1 hk2 => by rcases (show k = 1 ∨ k = 2 ∨ k = 3 by omega) with rfl | rfl | rfl; exact lv_neT h1_1 rfl; exact lv_neT h1_2 rfl; exact lv_neT h1_3 rfl)) (by decide) ?_
  refine zx_iconst (v := 0) (nn := 53) rfl dX10_fits_52 rfl ?_
  refine zx_zret rfl rfl dX10_fits_53 ?_
  exact ⟨congrArg (fun x => some (zi x)) (by simp [pTold, zb, h1_1, h1_2, h1_3]), rfl⟩
set_option maxHeartbeats 4000000 in
set_option maxRecDepth 100000 in
theorem eX10_lamp_0 (σ : zG) (μ : zM) (k : Int32) (a : Int32) (z : Int32) (t : Int32) (ok : pOK (cS 18 μ)) : zMet shC σ 2 MX10_lamp yX10_lamp [zr 0, zi k, zi a, zi z, zi t] μ (fun rr μ' => rr = some (zi (vLamp (cS 18 μ) k a z t)) ∧ cS 18 μ' = sLamp (cS 18 μ) k a z t ∧ zJ [18, 19, 20, 21, 22] μ μ') := by
  refine zmetF (by decide +kernel) rfl (Nat.le_of_ble_eq_true rfl) ?_
  show zX shC σ 2 MX10_lamp 0 [(0, zr 0), (1, zi k), (2, zi a), (3, zi z), (4, zi t)] [] μ _
  refine zx_iload_n (k := 1) (nn := 1) dX10_lamp_0 rfl rfl rfl ?_
  refine zx_callSf (nn := 4) (d' := 1) (as := [zi k]) (rest := []) (n := 1) (eX10_isLampKind σ μ k  ) kX10_isLampKind mlX10_101 (by decide) rfl rfl (Nat.le_of_ble_eq_true rfl) dX10_lamp_1 rfl ?_
  show zX shC σ 2 MX10_lamp 4 [(0, zr 0), (1, zi k), (2, zi a), (3, zi z), (4, zi t)] [zi (zb (pIn k 1 5))] μ _
  refine zx_ifb_eq (tgt := 32) (nn := 7) dX10_lamp_4 (by decide) rfl (fun h4 => ?_) (fun h4 => ?_)
  · refine zx_iconst (v := -1) (nn := 33) rfl dX10_lamp_32 rfl ?_
    refine zx_iret rfl dX10_lamp_33 ?_
    refine ⟨congrArg (fun x => some (zi x)) ?_, (by simp [sLamp, vLampC, h4]), zJ.rf⟩
    simp [vLamp, vLampC, h4]
  · refine zx_iconst (v := 1) (nn := 8) rfl dX10_lamp_7 rfl ?_
    refine zx_iload_n (k := 2) (nn := 9) dX10_lamp_8 rfl rfl rfl ?_
    refine zx_callSf (nn := 12) (d' := 1) (as := [zi 1, zi a]) (rest := []) (n := 2) (eX10_fits σ μ 1 a  ) kX10_fits mlX10_105 (by decide) rfl rfl (Nat.le_of_ble_eq_true rfl) dX10_lamp_9 rfl ?_
    show zX shC σ 2 MX10_lamp 12 [(0, zr 0), (1, zi k), (2, zi a), (3, zi z), (4, zi t)] [zi (zb (pTold 1 a))] μ _
    refine zx_ifb_eq (tgt := 32) (nn := 15) dX10_lamp_12 (by decide) rfl (fun h12 => ?_) (fun h12 => ?_)
    · refine zx_iconst (v := -1) (nn := 33) rfl dX10_lamp_32 rfl ?_
      refine zx_iret rfl dX10_lamp_33 ?_
      refine ⟨congrArg (fun x => some (zi x)) ?_, (by simp [sLamp, vLampC, h4, h12]), zJ.rf⟩
      simp [vLamp, vLampC, h4, h12]
    · refine zx_iconst (v := 2) (nn := 16) rfl dX10_lamp_15 rfl ?_
      refine zx_iload_n (k := 3) (nn := 17) dX10_lamp_16 rfl rfl rfl ?_
      refine zx_callSf (nn := 20) (d' := 1) (as := [zi 2, zi z]) (rest := []) (n := 2) (eX10_fits σ μ 2 z  ) kX10_fits mlX10_105 (by decide) rfl rfl (Nat.le_of_ble_eq_true rfl) dX10_lamp_17 rfl ?_
      show zX shC σ 2 MX10_lamp 20 [(0, zr 0), (1, zi k), (2, zi a), (3, zi z), (4, zi t)] [zi (zb (pTold 2 z))] μ _
      refine zx_ifb_eq (tgt := 32) (nn := 23) dX10_lamp_20 (by decide) rfl (fun h20 => ?_) (fun h20 => ?_)
      · refine zx_iconst (v := -1) (nn := 33) rfl dX10_lamp_32 rfl ?_
        refine zx_iret rfl dX10_lamp_33 ?_
        refine ⟨congrArg (fun x => some (zi x)) ?_, (by simp [sLamp, vLampC, h4, h12, h20]), zJ.rf⟩
        simp [vLamp, vLampC, h4, h12, h20]
      · refine zx_iconst (v := 3) (nn := 24) rfl dX10_lamp_23 rfl ?_
        refine zx_iload (k := 4) (nn := 26) dX10_lamp_24 rfl rfl ?_
        refine zx_callSf (nn := 29) (d' := 1) (as := [zi 3, zi t]) (rest := []) (n := 2) (eX10_fits σ μ 3 t  ) kX10_fits mlX10_105 (by decide) rfl rfl (Nat.le_of_ble_eq_true rfl) dX10_lamp_26 rfl ?_
        show zX shC σ 2 MX10_lamp 29 [(0, zr 0), (1, zi k), (2, zi a), (3, zi z), (4, zi t)] [zi (zb (pTold 3 t))] μ _
        refine zx_ifb_ne (tgt := 34) (nn := 32) dX10_lamp_29 (by decide) rfl (fun h29 => ?_) (fun h29 => ?_)
        · refine zx_aload_n (k := 0) (nn := 35) dX10_lamp_34 rfl rfl rfl ?_
          refine zx_getR (q := 18) (nn := 38) flX10_28 rfl rfl dX10_lamp_35 rfl ?_
          refine zx_iload_n (k := 1) (nn := 39) dX10_lamp_38 rfl rfl rfl ?_
          refine zx_iload_n (k := 2) (nn := 40) dX10_lamp_39 rfl rfl rfl ?_
          refine zx_iload_n (k := 3) (nn := 41) dX10_lamp_40 rfl rfl rfl ?_
          refine zx_iload (k := 4) (nn := 43) dX10_lamp_41 rfl rfl ?_
          refine zx_callV (nn := 46) (k := 18) (d' := 0) (as := [zi k, zi a, zi z, zi t]) (rest := []) (n := 4) (eX8_addLamp_18 σ μ k a z t  (by omega)) kX8_addLamp mlX10_109 rfl rfl rfl (by decide) rfl rfl (Nat.le_of_ble_eq_true rfl) dX10_lamp_43 rfl ?_
          rintro _ ν1 ⟨rfl, q1⟩
          show zX shC σ 2 MX10_lamp 46 [(0, zr 0), (1, zi k), (2, zi a), (3, zi z), (4, zi t)] [zi (if (cS 18 μ) 0 < 6 then (cS 18 μ) 0 else -2)] ν1 _
          refine zx_iret rfl dX10_lamp_46 ?_
          refine ⟨congrArg (fun x => some (zi x)) ?_, q1.1.trans (by simp [sLamp, vLampC, h4, h12, h20, h29]), q1.2⟩
          simp [vLamp, vLampC, h4, h12, h20, h29]
        · refine zx_iconst (v := -1) (nn := 33) rfl dX10_lamp_32 rfl ?_
          refine zx_iret rfl dX10_lamp_33 ?_
          refine ⟨congrArg (fun x => some (zi x)) ?_, (by simp [sLamp, vLampC, h4, h12, h20, h29]), zJ.rf⟩
          simp [vLamp, vLampC, h4, h12, h20, h29]
set_option maxHeartbeats 4000000 in
set_option maxRecDepth 100000 in
theorem eX10_lampOf_0 (σ : zG) (μ : zM) (l : Int32) (what : Int32) (ok : pOK (cS 18 μ)) (rok : cROK 1 μ) : zMet shC σ 4 MX10_lampOf yX10_lampOf [zr 0, zi l, zi what] μ (fun rr μ' => rr = some (zi (vLampOf (cR 1 μ) (cS 18 μ) l what)) ∧ zJ [6, 24] μ μ') := by
  refine zmetF (by decide +kernel) rfl (Nat.le_of_ble_eq_true rfl) ?_
  show zX shC σ 4 MX10_lampOf 0 [(0, zr 0), (1, zi l), (2, zi what)] [] μ _
  refine zx_aload_n (k := 0) (nn := 1) dX10_lampOf_0 rfl rfl rfl ?_
  refine zx_getR (q := 18) (nn := 4) flX10_28 rfl rfl dX10_lampOf_1 rfl ?_
  refine zx_iload_n (k := 1) (nn := 5) dX10_lampOf_4 rfl rfl rfl ?_
  refine zx_callVf (nn := 8) (k := 18) (d' := 0) (as := [zi l]) (rest := []) (n := 1) (eX8_hasLamp_18 σ μ l  ) kX8_hasLamp mlX10_113 rfl rfl rfl (by decide) rfl rfl (Nat.le_of_ble_eq_true rfl) dX10_lampOf_5 rfl ?_
  show zX shC σ 4 MX10_lampOf 8 [(0, zr 0), (1, zi l), (2, zi what)] [zi (zb (pHas (cS 18 μ 0) l))] μ _
  refine zx_ifb_ne (tgt := 13) (nn := 11) dX10_lampOf_8 (by decide) rfl (fun h8 => ?_) (fun h8 => ?_)
  · obtain ⟨l1, n_l, rfl⟩ := hasL ok h8
    show zX shC σ 4 MX10_lampOf 13 [(0, zr 0), (1, zi (nI l1)), (2, zi what)] [] μ _
    refine zx_iload_n (k := 2) (nn := 14) dX10_lampOf_13 rfl rfl rfl ?_
    refine zx_if_lt (tgt := 33) (nn := 17) dX10_lampOf_14 (by decide) rfl (fun h14 => ?_) (fun h14 => ?_)
    · refine zx_iload_n (k := 2) (nn := 34) dX10_lampOf_33 rfl rfl rfl ?_
      refine zx_iconst (v := 4) (nn := 35) rfl dX10_lampOf_34 rfl ?_
      refine zx_icmp_ne (tgt := 47) (nn := 38) dX10_lampOf_35 (by decide) rfl (fun h35 => ?_) (fun h35 => ?_)
      · refine zx_iload_n (k := 2) (nn := 48) dX10_lampOf_47 rfl rfl rfl ?_
        refine zx_iconst (v := 5) (nn := 49) rfl dX10_lampOf_48 rfl ?_
        refine zx_icmp_eq (tgt := 54) (nn := 52) dX10_lampOf_49 (by decide) rfl (fun h49 => ?_) (fun h49 => ?_)
        · refine zx_aload_n (k := 0) (nn := 55) dX10_lampOf_54 rfl rfl rfl ?_
          refine zx_getR (q := 18) (nn := 58) flX10_28 rfl rfl dX10_lampOf_55 rfl ?_
          refine zx_callVf (nn := 61) (k := 18) (d' := 0) (as := []) (rest := []) (n := 0) (eX8_isOver_18 σ μ   ) kX8_isOver mlX10_124 rfl rfl rfl (by decide) rfl rfl (Nat.le_of_ble_eq_true rfl) dX10_lampOf_58 rfl ?_
          show zX shC σ 4 MX10_lampOf 61 [(0, zr 0), (1, zi (nI l1)), (2, zi what)] [zi (zb (pOver (cS 18 μ)))] μ _
          refine zx_ifb_eq (tgt := 69) (nn := 64) dX10_lampOf_61 (by decide) rfl (fun h61 => ?_) (fun h61 => ?_)
          · refine zx_aload_n (k := 0) (nn := 70) dX10_lampOf_69 rfl rfl rfl ?_
            refine zx_getR (q := 18) (nn := 73) flX10_28 rfl rfl dX10_lampOf_70 rfl ?_
            refine zx_iload_n (k := 1) (nn := 74) dX10_lampOf_73 rfl rfl rfl ?_
            refine zx_callV (nn := 77) (k := 18) (d' := 3) (as := [zi (nI l1)]) (rest := []) (n := 1) (eX8_aimBehind_18 σ μ l1  ok n_l.1 rok) kX8_aimBehind mlX10_128 rfl rfl rfl (by decide) rfl rfl (Nat.le_of_ble_eq_true rfl) dX10_lampOf_74 rfl ?_
            rintro _ ν1 ⟨rfl, q1⟩
            show zX shC σ 4 MX10_lampOf 77 [(0, zr 0), (1, zi (nI l1)), (2, zi what)] [zi (pBehind (cR 1 μ) (cS 18 μ) l1)] ν1 _
            refine zx_iret rfl dX10_lampOf_77 ?_
            have hw : ¬ (0 ≤ what ∧ what ≤ 3) := fun q => absurd h14 (Int32.not_lt.mpr q.1)
            refine ⟨congrArg (fun x => some (zi x)) ?_, q1⟩
            unfold vLampOf
            rw [if_pos h8, if_neg hw, if_neg h35, if_pos h49, if_neg (by rw [h61]; decide), n_l.2.2]
          · refine zx_bipush (v := 41) (nn := 66) rfl dX10_lampOf_64 rfl ?_
            refine zx_goto (tgt := 77) dX10_lampOf_66 (by decide) ?_
            refine zx_iret rfl dX10_lampOf_77 ?_
            have hw : ¬ (0 ≤ what ∧ what ≤ 3) := fun q => absurd h14 (Int32.not_lt.mpr q.1)
            refine ⟨congrArg (fun x => some (zi x)) ?_, zJ.rf⟩
            unfold vLampOf
            rw [if_pos h8, if_neg hw, if_neg h35, if_pos h49, if_pos h61]
        · refine zx_iconst (v := -1) (nn := 53) rfl dX10_lampOf_52 rfl ?_
          refine zx_iret rfl dX10_lampOf_53 ?_
          have hw : ¬ (0 ≤ what ∧ what ≤ 3) := fun q => absurd h14 (Int32.not_lt.mpr q.1)
          refine ⟨congrArg (fun x => some (zi x)) ?_, zJ.rf⟩
          unfold vLampOf
          rw [if_pos h8, if_neg hw, if_neg h35, if_neg h49]
      · refine zx_aload_n (k := 0) (nn := 39) dX10_lampOf_38 rfl rfl rfl ?_
        refine zx_getR (q := 18) (nn := 42) flX10_28 rfl rfl dX10_lampOf_39 rfl ?_
        refine zx_iload_n (k := 1) (nn := 43) dX10_lampOf_42 rfl rfl rfl ?_
        refine zx_callV (nn := 46) (k := 18) (d' := 2) (as := [zi (nI l1)]) (rest := []) (n := 1) (eX8_goalOf_18 σ μ l1  ok n_l.1 rok) kX8_goalOf mlX10_120 rfl rfl rfl (by decide) rfl rfl (Nat.le_of_ble_eq_true rfl) dX10_lampOf_43 rfl ?_
        rintro _ ν2 ⟨rfl, q2⟩
        show zX shC σ 4 MX10_lampOf 46 [(0, zr 0), (1, zi (nI l1)), (2, zi what)] [zi (pGoal (cR 1 μ) (cS 18 μ) l1)] ν2 _
        refine zx_iret rfl dX10_lampOf_46 ?_
        have hw : ¬ (0 ≤ what ∧ what ≤ 3) := fun q => absurd h14 (Int32.not_lt.mpr q.1)
        refine ⟨congrArg (fun x => some (zi x)) ?_, q2⟩
        unfold vLampOf
        rw [if_pos h8, if_neg hw, if_pos h35, n_l.2.2]
    · refine zx_iload_n (k := 2) (nn := 18) dX10_lampOf_17 rfl rfl rfl ?_
      refine zx_iconst (v := 3) (nn := 19) rfl dX10_lampOf_18 rfl ?_
      refine zx_icmp_gt (tgt := 33) (nn := 22) dX10_lampOf_19 (by decide) rfl (fun h19 => ?_) (fun h19 => ?_)
      · refine zx_iload_n (k := 2) (nn := 34) dX10_lampOf_33 rfl rfl rfl ?_
        refine zx_iconst (v := 4) (nn := 35) rfl dX10_lampOf_34 rfl ?_
        refine zx_icmp_ne (tgt := 47) (nn := 38) dX10_lampOf_35 (by decide) rfl (fun h35 => ?_) (fun h35 => ?_)
        · refine zx_iload_n (k := 2) (nn := 48) dX10_lampOf_47 rfl rfl rfl ?_
          refine zx_iconst (v := 5) (nn := 49) rfl dX10_lampOf_48 rfl ?_
          refine zx_icmp_eq (tgt := 54) (nn := 52) dX10_lampOf_49 (by decide) rfl (fun h49 => ?_) (fun h49 => ?_)
          · refine zx_aload_n (k := 0) (nn := 55) dX10_lampOf_54 rfl rfl rfl ?_
            refine zx_getR (q := 18) (nn := 58) flX10_28 rfl rfl dX10_lampOf_55 rfl ?_
            refine zx_callVf (nn := 61) (k := 18) (d' := 0) (as := []) (rest := []) (n := 0) (eX8_isOver_18 σ μ   ) kX8_isOver mlX10_124 rfl rfl rfl (by decide) rfl rfl (Nat.le_of_ble_eq_true rfl) dX10_lampOf_58 rfl ?_
            show zX shC σ 4 MX10_lampOf 61 [(0, zr 0), (1, zi (nI l1)), (2, zi what)] [zi (zb (pOver (cS 18 μ)))] μ _
            refine zx_ifb_eq (tgt := 69) (nn := 64) dX10_lampOf_61 (by decide) rfl (fun h61 => ?_) (fun h61 => ?_)
            · refine zx_aload_n (k := 0) (nn := 70) dX10_lampOf_69 rfl rfl rfl ?_
              refine zx_getR (q := 18) (nn := 73) flX10_28 rfl rfl dX10_lampOf_70 rfl ?_
              refine zx_iload_n (k := 1) (nn := 74) dX10_lampOf_73 rfl rfl rfl ?_
              refine zx_callV (nn := 77) (k := 18) (d' := 3) (as := [zi (nI l1)]) (rest := []) (n := 1) (eX8_aimBehind_18 σ μ l1  ok n_l.1 rok) kX8_aimBehind mlX10_128 rfl rfl rfl (by decide) rfl rfl (Nat.le_of_ble_eq_true rfl) dX10_lampOf_74 rfl ?_
              rintro _ ν3 ⟨rfl, q3⟩
              show zX shC σ 4 MX10_lampOf 77 [(0, zr 0), (1, zi (nI l1)), (2, zi what)] [zi (pBehind (cR 1 μ) (cS 18 μ) l1)] ν3 _
              refine zx_iret rfl dX10_lampOf_77 ?_
              have hw : ¬ (0 ≤ what ∧ what ≤ 3) := fun q => absurd h19 (Int32.not_lt.mpr q.2)
              refine ⟨congrArg (fun x => some (zi x)) ?_, q3⟩
              unfold vLampOf
              rw [if_pos h8, if_neg hw, if_neg h35, if_pos h49, if_neg (by rw [h61]; decide), n_l.2.2]
            · refine zx_bipush (v := 41) (nn := 66) rfl dX10_lampOf_64 rfl ?_
              refine zx_goto (tgt := 77) dX10_lampOf_66 (by decide) ?_
              refine zx_iret rfl dX10_lampOf_77 ?_
              have hw : ¬ (0 ≤ what ∧ what ≤ 3) := fun q => absurd h19 (Int32.not_lt.mpr q.2)
              refine ⟨congrArg (fun x => some (zi x)) ?_, zJ.rf⟩
              unfold vLampOf
              rw [if_pos h8, if_neg hw, if_neg h35, if_pos h49, if_pos h61]
          · refine zx_iconst (v := -1) (nn := 53) rfl dX10_lampOf_52 rfl ?_
            refine zx_iret rfl dX10_lampOf_53 ?_
            have hw : ¬ (0 ≤ what ∧ what ≤ 3) := fun q => absurd h19 (Int32.not_lt.mpr q.2)
            refine ⟨congrArg (fun x => some (zi x)) ?_, zJ.rf⟩
            unfold vLampOf
            rw [if_pos h8, if_neg hw, if_neg h35, if_neg h49]
        · refine zx_aload_n (k := 0) (nn := 39) dX10_lampOf_38 rfl rfl rfl ?_
          refine zx_getR (q := 18) (nn := 42) flX10_28 rfl rfl dX10_lampOf_39 rfl ?_
          refine zx_iload_n (k := 1) (nn := 43) dX10_lampOf_42 rfl rfl rfl ?_
          refine zx_callV (nn := 46) (k := 18) (d' := 2) (as := [zi (nI l1)]) (rest := []) (n := 1) (eX8_goalOf_18 σ μ l1  ok n_l.1 rok) kX8_goalOf mlX10_120 rfl rfl rfl (by decide) rfl rfl (Nat.le_of_ble_eq_true rfl) dX10_lampOf_43 rfl ?_
          rintro _ ν4 ⟨rfl, q4⟩
          show zX shC σ 4 MX10_lampOf 46 [(0, zr 0), (1, zi (nI l1)), (2, zi what)] [zi (pGoal (cR 1 μ) (cS 18 μ) l1)] ν4 _
          refine zx_iret rfl dX10_lampOf_46 ?_
          have hw : ¬ (0 ≤ what ∧ what ≤ 3) := fun q => absurd h19 (Int32.not_lt.mpr q.2)
          refine ⟨congrArg (fun x => some (zi x)) ?_, q4⟩
          unfold vLampOf
          rw [if_pos h8, if_neg hw, if_pos h35, n_l.2.2]
      · rcases (zw03 (Int32.not_lt.mp h14) (Int32.not_lt.mp h19) : what = 0 ∨ what = 1 ∨ what = 2 ∨ what = 3) with rfl | rfl | rfl | rfl
        · show zX shC σ 4 MX10_lampOf 22 [(0, zr 0), (1, zi (nI l1)), (2, zi 0)] [] μ _
          refine zx_aload_n (k := 0) (nn := 23) dX10_lampOf_22 rfl rfl rfl ?_
          refine zx_getR (q := 18) (nn := 26) flX10_28 rfl rfl dX10_lampOf_23 rfl ?_
          refine zx_iload_n (k := 2) (nn := 27) dX10_lampOf_26 rfl rfl rfl ?_
          refine zx_callVf (nn := 30) (k := 18) (d' := 0) (as := [zi 0]) (rest := []) (n := 1) (eX8_fieldOf_18_0 σ μ) kX8_fieldOf mlX10_116 rfl rfl rfl (by decide) rfl rfl (Nat.le_of_ble_eq_true rfl) dX10_lampOf_27 rfl ?_
          show zX shC σ 4 MX10_lampOf 30 [(0, zr 0), (1, zi (nI l1)), (2, zi 0)] [zr 19] μ _
          refine zx_iload_n (k := 1) (nn := 31) dX10_lampOf_30 rfl rfl rfl ?_
          refine zx_iald_n (j := l1) (nn := 32) rfl n_l.2.1 (by decide) dX10_lampOf_31 rfl ?_
          refine zx_iret rfl dX10_lampOf_32 ?_
          refine ⟨congrArg (fun x => some (zi x)) ?_, zJ.rf⟩
          unfold vLampOf
          rw [if_pos h8, if_pos (by decide), n_l.2.2]
          exact (cS_w (b := 18) (μ := μ) 0 (by decide) n_l.2.1).symm
        · show zX shC σ 4 MX10_lampOf 22 [(0, zr 0), (1, zi (nI l1)), (2, zi 1)] [] μ _
          refine zx_aload_n (k := 0) (nn := 23) dX10_lampOf_22 rfl rfl rfl ?_
          refine zx_getR (q := 18) (nn := 26) flX10_28 rfl rfl dX10_lampOf_23 rfl ?_
          refine zx_iload_n (k := 2) (nn := 27) dX10_lampOf_26 rfl rfl rfl ?_
          refine zx_callVf (nn := 30) (k := 18) (d' := 0) (as := [zi 1]) (rest := []) (n := 1) (eX8_fieldOf_18_1 σ μ) kX8_fieldOf mlX10_116 rfl rfl rfl (by decide) rfl rfl (Nat.le_of_ble_eq_true rfl) dX10_lampOf_27 rfl ?_
          show zX shC σ 4 MX10_lampOf 30 [(0, zr 0), (1, zi (nI l1)), (2, zi 1)] [zr 20] μ _
          refine zx_iload_n (k := 1) (nn := 31) dX10_lampOf_30 rfl rfl rfl ?_
          refine zx_iald_n (j := l1) (nn := 32) rfl n_l.2.1 (by decide) dX10_lampOf_31 rfl ?_
          refine zx_iret rfl dX10_lampOf_32 ?_
          refine ⟨congrArg (fun x => some (zi x)) ?_, zJ.rf⟩
          unfold vLampOf
          rw [if_pos h8, if_pos (by decide), n_l.2.2]
          exact (cS_w (b := 18) (μ := μ) 1 (by decide) n_l.2.1).symm
        · show zX shC σ 4 MX10_lampOf 22 [(0, zr 0), (1, zi (nI l1)), (2, zi 2)] [] μ _
          refine zx_aload_n (k := 0) (nn := 23) dX10_lampOf_22 rfl rfl rfl ?_
          refine zx_getR (q := 18) (nn := 26) flX10_28 rfl rfl dX10_lampOf_23 rfl ?_
          refine zx_iload_n (k := 2) (nn := 27) dX10_lampOf_26 rfl rfl rfl ?_
          refine zx_callVf (nn := 30) (k := 18) (d' := 0) (as := [zi 2]) (rest := []) (n := 1) (eX8_fieldOf_18_2 σ μ) kX8_fieldOf mlX10_116 rfl rfl rfl (by decide) rfl rfl (Nat.le_of_ble_eq_true rfl) dX10_lampOf_27 rfl ?_
          show zX shC σ 4 MX10_lampOf 30 [(0, zr 0), (1, zi (nI l1)), (2, zi 2)] [zr 21] μ _
          refine zx_iload_n (k := 1) (nn := 31) dX10_lampOf_30 rfl rfl rfl ?_
          refine zx_iald_n (j := l1) (nn := 32) rfl n_l.2.1 (by decide) dX10_lampOf_31 rfl ?_
          refine zx_iret rfl dX10_lampOf_32 ?_
          refine ⟨congrArg (fun x => some (zi x)) ?_, zJ.rf⟩
          unfold vLampOf
          rw [if_pos h8, if_pos (by decide), n_l.2.2]
          exact (cS_w (b := 18) (μ := μ) 2 (by decide) n_l.2.1).symm
        · show zX shC σ 4 MX10_lampOf 22 [(0, zr 0), (1, zi (nI l1)), (2, zi 3)] [] μ _
          refine zx_aload_n (k := 0) (nn := 23) dX10_lampOf_22 rfl rfl rfl ?_
          refine zx_getR (q := 18) (nn := 26) flX10_28 rfl rfl dX10_lampOf_23 rfl ?_
          refine zx_iload_n (k := 2) (nn := 27) dX10_lampOf_26 rfl rfl rfl ?_
          refine zx_callVf (nn := 30) (k := 18) (d' := 0) (as := [zi 3]) (rest := []) (n := 1) (eX8_fieldOf_18_3 σ μ) kX8_fieldOf mlX10_116 rfl rfl rfl (by decide) rfl rfl (Nat.le_of_ble_eq_true rfl) dX10_lampOf_27 rfl ?_
          show zX shC σ 4 MX10_lampOf 30 [(0, zr 0), (1, zi (nI l1)), (2, zi 3)] [zr 22] μ _
          refine zx_iload_n (k := 1) (nn := 31) dX10_lampOf_30 rfl rfl rfl ?_
          refine zx_iald_n (j := l1) (nn := 32) rfl n_l.2.1 (by decide) dX10_lampOf_31 rfl ?_
          refine zx_iret rfl dX10_lampOf_32 ?_
          refine ⟨congrArg (fun x => some (zi x)) ?_, zJ.rf⟩
          unfold vLampOf
          rw [if_pos h8, if_pos (by decide), n_l.2.2]
          exact (cS_w (b := 18) (μ := μ) 3 (by decide) n_l.2.1).symm
  · refine zx_iconst (v := -1) (nn := 12) rfl dX10_lampOf_11 rfl ?_
    refine zx_iret rfl dX10_lampOf_12 ?_
    refine ⟨congrArg (fun x => some (zi x)) ?_, zJ.rf⟩
    simp [vLampOf, h8]
set_option maxHeartbeats 4000000 in
set_option maxRecDepth 100000 in
theorem eX10_change_0 (σ : zG) (μ : zM) (l : Int32) (what : Int32) (v : Int32) (ok : pOK (cS 18 μ)) : zMet shC σ 2 MX10_change yX10_change [zr 0, zi l, zi what, zi v] μ (fun rr μ' => rr = some (zi (vChange (cS 18 μ) l what v)) ∧ cS 18 μ' = sChange (cS 18 μ) l what v ∧ zJ [20, 21, 22] μ μ') := by
  refine zmetF (by decide +kernel) rfl (Nat.le_of_ble_eq_true rfl) ?_
  show zX shC σ 2 MX10_change 0 [(0, zr 0), (1, zi l), (2, zi what), (3, zi v)] [] μ _
  refine zx_aload_n (k := 0) (nn := 1) dX10_change_0 rfl rfl rfl ?_
  refine zx_getR (q := 18) (nn := 4) flX10_28 rfl rfl dX10_change_1 rfl ?_
  refine zx_iload_n (k := 1) (nn := 5) dX10_change_4 rfl rfl rfl ?_
  refine zx_callVf (nn := 8) (k := 18) (d' := 0) (as := [zi l]) (rest := []) (n := 1) (eX8_hasLamp_18 σ μ l  ) kX8_hasLamp mlX10_113 rfl rfl rfl (by decide) rfl rfl (Nat.le_of_ble_eq_true rfl) dX10_change_5 rfl ?_
  show zX shC σ 2 MX10_change 8 [(0, zr 0), (1, zi l), (2, zi what), (3, zi v)] [zi (zb (pHas (cS 18 μ 0) l))] μ _
  refine zx_ifb_eq (tgt := 19) (nn := 11) dX10_change_8 (by decide) rfl (fun h8 => ?_) (fun h8 => ?_)
  · refine zx_iconst (v := -1) (nn := 20) rfl dX10_change_19 rfl ?_
    refine zx_iret rfl dX10_change_20 ?_
    refine ⟨congrArg (fun x => some (zi x)) ?_, ?_, zJ.rf⟩
    · simp [vChange, h8]
    · simp [sChange, h8]
  · obtain ⟨l1, n_l, rfl⟩ := hasL ok h8
    show zX shC σ 2 MX10_change 11 [(0, zr 0), (1, zi (nI l1)), (2, zi what), (3, zi v)] [] μ _
    refine zx_iload_n (k := 2) (nn := 12) dX10_change_11 rfl rfl rfl ?_
    refine zx_iload_n (k := 3) (nn := 13) dX10_change_12 rfl rfl rfl ?_
    refine zx_callSf (nn := 16) (d' := 1) (as := [zi what, zi v]) (rest := []) (n := 2) (eX10_fits σ μ what v  ) kX10_fits mlX10_105 (by decide) rfl rfl (Nat.le_of_ble_eq_true rfl) dX10_change_13 rfl ?_
    show zX shC σ 2 MX10_change 16 [(0, zr 0), (1, zi (nI l1)), (2, zi what), (3, zi v)] [zi (zb (pTold what v))] μ _
    refine zx_ifb_ne (tgt := 21) (nn := 19) dX10_change_16 (by decide) rfl (fun h16 => ?_) (fun h16 => ?_)
    · rcases (pTold_3 h16 : what = 1 ∨ what = 2 ∨ what = 3) with rfl | rfl | rfl
      · show zX shC σ 2 MX10_change 21 [(0, zr 0), (1, zi (nI l1)), (2, zi 1), (3, zi v)] [] μ _
        refine zx_aload_n (k := 0) (nn := 22) dX10_change_21 rfl rfl rfl ?_
        refine zx_getR (q := 18) (nn := 25) flX10_28 rfl rfl dX10_change_22 rfl ?_
        refine zx_iload_n (k := 1) (nn := 26) dX10_change_25 rfl rfl rfl ?_
        refine zx_iload_n (k := 2) (nn := 27) dX10_change_26 rfl rfl rfl ?_
        refine zx_iload_n (k := 3) (nn := 28) dX10_change_27 rfl rfl rfl ?_
        refine zx_callVf (nn := 31) (k := 18) (d' := 1) (as := [zi (nI l1), zi 1, zi v]) (rest := []) (n := 3) (eX8_exchange_18_1 σ μ l1 v n_l.2.1) kX8_exchange mlX10_131 rfl rfl rfl (by decide) rfl rfl (Nat.le_of_ble_eq_true rfl) dX10_change_28 rfl ?_
        show zX shC σ 2 MX10_change 31 [(0, zr 0), (1, zi (nI l1)), (2, zi 1), (3, zi v)] [zi (μ 20 l1)] (zp μ 20 l1 v) _
        refine zx_iret rfl dX10_change_31 ?_
        refine ⟨congrArg (fun x => some (zi x)) ?_, ?_, zJ.rf.p (by decide)⟩
        · unfold vChange
          rw [if_pos ⟨h8, h16⟩, n_l.2.2]
          exact (cS_w (b := 18) (μ := μ) 1 (by decide) n_l.2.1).symm
        · unfold sChange
          rw [if_pos ⟨h8, h16⟩, n_l.2.2]
          exact cS_putF (b := 18) 1 (by decide) n_l.2.1
      · show zX shC σ 2 MX10_change 21 [(0, zr 0), (1, zi (nI l1)), (2, zi 2), (3, zi v)] [] μ _
        refine zx_aload_n (k := 0) (nn := 22) dX10_change_21 rfl rfl rfl ?_
        refine zx_getR (q := 18) (nn := 25) flX10_28 rfl rfl dX10_change_22 rfl ?_
        refine zx_iload_n (k := 1) (nn := 26) dX10_change_25 rfl rfl rfl ?_
        refine zx_iload_n (k := 2) (nn := 27) dX10_change_26 rfl rfl rfl ?_
        refine zx_iload_n (k := 3) (nn := 28) dX10_change_27 rfl rfl rfl ?_
        refine zx_callVf (nn := 31) (k := 18) (d' := 1) (as := [zi (nI l1), zi 2, zi v]) (rest := []) (n := 3) (eX8_exchange_18_2 σ μ l1 v n_l.2.1) kX8_exchange mlX10_131 rfl rfl rfl (by decide) rfl rfl (Nat.le_of_ble_eq_true rfl) dX10_change_28 rfl ?_
        show zX shC σ 2 MX10_change 31 [(0, zr 0), (1, zi (nI l1)), (2, zi 2), (3, zi v)] [zi (μ 21 l1)] (zp μ 21 l1 v) _
        refine zx_iret rfl dX10_change_31 ?_
        refine ⟨congrArg (fun x => some (zi x)) ?_, ?_, zJ.rf.p (by decide)⟩
        · unfold vChange
          rw [if_pos ⟨h8, h16⟩, n_l.2.2]
          exact (cS_w (b := 18) (μ := μ) 2 (by decide) n_l.2.1).symm
        · unfold sChange
          rw [if_pos ⟨h8, h16⟩, n_l.2.2]
          exact cS_putF (b := 18) 2 (by decide) n_l.2.1
      · show zX shC σ 2 MX10_change 21 [(0, zr 0), (1, zi (nI l1)), (2, zi 3), (3, zi v)] [] μ _
        refine zx_aload_n (k := 0) (nn := 22) dX10_change_21 rfl rfl rfl ?_
        refine zx_getR (q := 18) (nn := 25) flX10_28 rfl rfl dX10_change_22 rfl ?_
        refine zx_iload_n (k := 1) (nn := 26) dX10_change_25 rfl rfl rfl ?_
        refine zx_iload_n (k := 2) (nn := 27) dX10_change_26 rfl rfl rfl ?_
        refine zx_iload_n (k := 3) (nn := 28) dX10_change_27 rfl rfl rfl ?_
        refine zx_callVf (nn := 31) (k := 18) (d' := 1) (as := [zi (nI l1), zi 3, zi v]) (rest := []) (n := 3) (eX8_exchange_18_3 σ μ l1 v n_l.2.1) kX8_exchange mlX10_131 rfl rfl rfl (by decide) rfl rfl (Nat.le_of_ble_eq_true rfl) dX10_change_28 rfl ?_
        show zX shC σ 2 MX10_change 31 [(0, zr 0), (1, zi (nI l1)), (2, zi 3), (3, zi v)] [zi (μ 22 l1)] (zp μ 22 l1 v) _
        refine zx_iret rfl dX10_change_31 ?_
        refine ⟨congrArg (fun x => some (zi x)) ?_, ?_, zJ.rf.p (by decide)⟩
        · unfold vChange
          rw [if_pos ⟨h8, h16⟩, n_l.2.2]
          exact (cS_w (b := 18) (μ := μ) 3 (by decide) n_l.2.1).symm
        · unfold sChange
          rw [if_pos ⟨h8, h16⟩, n_l.2.2]
          exact cS_putF (b := 18) 3 (by decide) n_l.2.1
    · refine zx_iconst (v := -1) (nn := 20) rfl dX10_change_19 rfl ?_
      refine zx_iret rfl dX10_change_20 ?_
      refine ⟨congrArg (fun x => some (zi x)) ?_, ?_, zJ.rf⟩
      · simp [vChange, h8, h16]
      · simp [sChange, h8, h16]
set_option maxHeartbeats 4000000 in
set_option maxRecDepth 100000 in
theorem eX10_remake_0 (σ : zG) (μ : zM) (l : Int32) (k : Int32) (ok : pOK (cS 18 μ)) : zMet shC σ 2 MX10_remake yX10_remake [zr 0, zi l, zi k] μ (fun rr μ' => rr = some (zi (vRemake (cS 18 μ) l k)) ∧ cS 18 μ' = sRemake (cS 18 μ) l k ∧ zJ [19] μ μ') := by
  refine zmetF (by decide +kernel) rfl (Nat.le_of_ble_eq_true rfl) ?_
  show zX shC σ 2 MX10_remake 0 [(0, zr 0), (1, zi l), (2, zi k)] [] μ _
  refine zx_aload_n (k := 0) (nn := 1) dX10_remake_0 rfl rfl rfl ?_
  refine zx_getR (q := 18) (nn := 4) flX10_28 rfl rfl dX10_remake_1 rfl ?_
  refine zx_iload_n (k := 1) (nn := 5) dX10_remake_4 rfl rfl rfl ?_
  refine zx_callVf (nn := 8) (k := 18) (d' := 0) (as := [zi l]) (rest := []) (n := 1) (eX8_hasLamp_18 σ μ l  ) kX8_hasLamp mlX10_113 rfl rfl rfl (by decide) rfl rfl (Nat.le_of_ble_eq_true rfl) dX10_remake_5 rfl ?_
  show zX shC σ 2 MX10_remake 8 [(0, zr 0), (1, zi l), (2, zi k)] [zi (zb (pHas (cS 18 μ 0) l))] μ _
  refine zx_ifb_eq (tgt := 18) (nn := 11) dX10_remake_8 (by decide) rfl (fun h8 => ?_) (fun h8 => ?_)
  · refine zx_iconst (v := -1) (nn := 19) rfl dX10_remake_18 rfl ?_
    refine zx_iret rfl dX10_remake_19 ?_
    refine ⟨congrArg (fun x => some (zi x)) ?_, ?_, zJ.rf⟩
    · simp [vRemake, h8]
    · simp [sRemake, h8]
  · obtain ⟨l1, n_l, rfl⟩ := hasL ok h8
    show zX shC σ 2 MX10_remake 11 [(0, zr 0), (1, zi (nI l1)), (2, zi k)] [] μ _
    refine zx_iload_n (k := 2) (nn := 12) dX10_remake_11 rfl rfl rfl ?_
    refine zx_callSf (nn := 15) (d' := 1) (as := [zi k]) (rest := []) (n := 1) (eX10_isLampKind σ μ k  ) kX10_isLampKind mlX10_101 (by decide) rfl rfl (Nat.le_of_ble_eq_true rfl) dX10_remake_12 rfl ?_
    show zX shC σ 2 MX10_remake 15 [(0, zr 0), (1, zi (nI l1)), (2, zi k)] [zi (zb (pIn k 1 5))] μ _
    refine zx_ifb_ne (tgt := 20) (nn := 18) dX10_remake_15 (by decide) rfl (fun h15 => ?_) (fun h15 => ?_)
    · refine zx_aload_n (k := 0) (nn := 21) dX10_remake_20 rfl rfl rfl ?_
      refine zx_getR (q := 18) (nn := 24) flX10_28 rfl rfl dX10_remake_21 rfl ?_
      refine zx_iload_n (k := 1) (nn := 25) dX10_remake_24 rfl rfl rfl ?_
      refine zx_iconst (v := 0) (nn := 26) rfl dX10_remake_25 rfl ?_
      refine zx_iload_n (k := 2) (nn := 27) dX10_remake_26 rfl rfl rfl ?_
      refine zx_callVf (nn := 30) (k := 18) (d' := 1) (as := [zi (nI l1), zi 0, zi k]) (rest := []) (n := 3) (eX8_exchange_18_0 σ μ l1 k n_l.2.1) kX8_exchange mlX10_131 rfl rfl rfl (by decide) rfl rfl (Nat.le_of_ble_eq_true rfl) dX10_remake_27 rfl ?_
      show zX shC σ 2 MX10_remake 30 [(0, zr 0), (1, zi (nI l1)), (2, zi k)] [zi (μ 19 l1)] (zp μ 19 l1 k) _
      refine zx_iret rfl dX10_remake_30 ?_
      refine ⟨congrArg (fun x => some (zi x)) ?_, ?_, zJ.rf.p (by decide)⟩
      · unfold vRemake
        rw [if_pos ⟨h8, h15⟩, n_l.2.2]
        exact (cS_k (b := 18) (μ := μ) n_l.2.1).symm
      · unfold sRemake
        rw [if_pos ⟨h8, h15⟩, n_l.2.2]
        exact cS_putF (b := 18) 0 (by decide) n_l.2.1
    · refine zx_iconst (v := -1) (nn := 19) rfl dX10_remake_18 rfl ?_
      refine zx_iret rfl dX10_remake_19 ?_
      refine ⟨congrArg (fun x => some (zi x)) ?_, ?_, zJ.rf⟩
      · simp [vRemake, h8, h15]
      · simp [sRemake, h8, h15]
set_option maxHeartbeats 4000000 in
set_option maxRecDepth 100000 in
theorem eX10_dance_0 (σ : zG) (μ : zM) (p : Int32) (ok : pOK (cS 18 μ)) : zMet shC σ 1 MX10_dance yX10_dance [zr 0, zi p] μ (fun rr μ' => rr = some (zi (vDance (cS 18 μ) p)) ∧ cS 18 μ' = sDance (cS 18 μ) p ∧ zJ [18, 23] μ μ') := by
  refine zmetF (by decide +kernel) rfl (Nat.le_of_ble_eq_true rfl) ?_
  show zX shC σ 1 MX10_dance 0 [(0, zr 0), (1, zi p)] [] μ _
  refine zx_iload_n (k := 1) (nn := 1) dX10_dance_0 rfl rfl rfl ?_
  refine zx_iconst (v := 0) (nn := 2) rfl dX10_dance_1 rfl ?_
  refine zx_bipush (v := 40) (nn := 4) rfl dX10_dance_2 rfl ?_
  refine zx_callSf (nn := 7) (d' := 0) (as := [zi p, zi 0, zi 40]) (rest := []) (n := 3) (eX10_isIn σ μ p 0 40  ) kX10_isIn mlX10_135 (by decide) rfl rfl (Nat.le_of_ble_eq_true rfl) dX10_dance_4 rfl ?_
  show zX shC σ 1 MX10_dance 7 [(0, zr 0), (1, zi p)] [zi (zb (pIn p 0 40))] μ _
  refine zx_ifb_eq (tgt := 21) (nn := 10) dX10_dance_7 (by decide) rfl (fun h7 => ?_) (fun h7 => ?_)
  · refine zx_iconst (v := -1) (nn := 22) rfl dX10_dance_21 rfl ?_
    refine zx_iret rfl dX10_dance_22 ?_
    refine ⟨congrArg (fun x => some (zi x)) ?_, (by simp [sDance, h7]), zJ.rf⟩
    simp [vDance, h7]
  · refine zx_aload_n (k := 0) (nn := 11) dX10_dance_10 rfl rfl rfl ?_
    refine zx_getR (q := 18) (nn := 14) flX10_28 rfl rfl dX10_dance_11 rfl ?_
    refine zx_iload_n (k := 1) (nn := 15) dX10_dance_14 rfl rfl rfl ?_
    refine zx_callV (nn := 18) (k := 18) (d' := 0) (as := [zi p]) (rest := []) (n := 1) (eX8_addBeat_18 σ μ p  (by omega)) kX8_addBeat mlX10_139 rfl rfl rfl (by decide) rfl rfl (Nat.le_of_ble_eq_true rfl) dX10_dance_15 rfl ?_
    rintro _ ν1 ⟨rfl, q1⟩
    show zX shC σ 1 MX10_dance 18 [(0, zr 0), (1, zi p)] [zi (if (cS 18 μ) 1 < 16 then (cS 18 μ) 1 else -2)] ν1 _
    refine zx_goto (tgt := 22) dX10_dance_18 (by decide) ?_
    refine zx_iret rfl dX10_dance_22 ?_
    refine ⟨congrArg (fun x => some (zi x)) ?_, q1.1.trans (by simp [sDance, h7]), q1.2⟩
    simp [vDance, h7]
set_option maxHeartbeats 4000000 in
set_option maxRecDepth 100000 in
theorem eX10_danceOf_0 (σ : zG) (μ : zM) (b : Int32) (ok : pOK (cS 18 μ)) : zMet shC σ 1 MX10_danceOf yX10_danceOf [zr 0, zi b] μ (fun rr μ' => rr = some (zi (vDanceOf (cS 18 μ) b)) ∧ μ' = μ) := by
  refine zmetF (by decide +kernel) rfl (Nat.le_of_ble_eq_true rfl) ?_
  show zX shC σ 1 MX10_danceOf 0 [(0, zr 0), (1, zi b)] [] μ _
  refine zx_aload_n (k := 0) (nn := 1) dX10_danceOf_0 rfl rfl rfl ?_
  refine zx_getR (q := 18) (nn := 4) flX10_28 rfl rfl dX10_danceOf_1 rfl ?_
  refine zx_iload_n (k := 1) (nn := 5) dX10_danceOf_4 rfl rfl rfl ?_
  refine zx_callVf (nn := 8) (k := 18) (d' := 0) (as := [zi b]) (rest := []) (n := 1) (eX8_hasBeat_18 σ μ b  ) kX8_hasBeat mlX10_142 rfl rfl rfl (by decide) rfl rfl (Nat.le_of_ble_eq_true rfl) dX10_danceOf_5 rfl ?_
  show zX shC σ 1 MX10_danceOf 8 [(0, zr 0), (1, zi b)] [zi (zb (pHas (cS 18 μ 1) b))] μ _
  refine zx_ifb_eq (tgt := 23) (nn := 11) dX10_danceOf_8 (by decide) rfl (fun h8 => ?_) (fun h8 => ?_)
  · refine zx_iconst (v := -1) (nn := 24) rfl dX10_danceOf_23 rfl ?_
    refine zx_iret rfl dX10_danceOf_24 ?_
    refine ⟨congrArg (fun x => some (zi x)) ?_, rfl⟩
    simp [vDanceOf, h8]
  · obtain ⟨b1, n_b, rfl⟩ := hasB ok h8
    show zX shC σ 1 MX10_danceOf 11 [(0, zr 0), (1, zi (nI b1))] [] μ _
    refine zx_aload_n (k := 0) (nn := 12) dX10_danceOf_11 rfl rfl rfl ?_
    refine zx_getR (q := 18) (nn := 15) flX10_28 rfl rfl dX10_danceOf_12 rfl ?_
    refine zx_getR (q := 23) (nn := 18) flX10_145 rfl rfl dX10_danceOf_15 rfl ?_
    refine zx_iload_n (k := 1) (nn := 19) dX10_danceOf_18 rfl rfl rfl ?_
    refine zx_iald_n (j := b1) (nn := 20) rfl n_b.2.1 (by decide) dX10_danceOf_19 rfl ?_
    refine zx_goto (tgt := 24) dX10_danceOf_20 (by decide) ?_
    refine zx_iret rfl dX10_danceOf_24 ?_
    refine ⟨congrArg (fun x => some (zi x)) ?_, rfl⟩
    unfold vDanceOf
    rw [if_pos h8, n_b.2.2]
    exact (cS_p (b := 18) (μ := μ) n_b.2.1).symm
set_option maxHeartbeats 4000000 in
set_option maxRecDepth 100000 in
theorem eX10_steps_0 (σ : zG) (μ : zM) (b : Int32) (p : Int32) (ok : pOK (cS 18 μ)) : zMet shC σ 1 MX10_steps yX10_steps [zr 0, zi b, zi p] μ (fun rr μ' => rr = some (zi (vSteps (cS 18 μ) b p)) ∧ cS 18 μ' = sSteps (cS 18 μ) b p ∧ zJ [23] μ μ') := by
  refine zmetF (by decide +kernel) rfl (Nat.le_of_ble_eq_true rfl) ?_
  show zX shC σ 1 MX10_steps 0 [(0, zr 0), (1, zi b), (2, zi p)] [] μ _
  refine zx_aload_n (k := 0) (nn := 1) dX10_steps_0 rfl rfl rfl ?_
  refine zx_getR (q := 18) (nn := 4) flX10_28 rfl rfl dX10_steps_1 rfl ?_
  refine zx_iload_n (k := 1) (nn := 5) dX10_steps_4 rfl rfl rfl ?_
  refine zx_callVf (nn := 8) (k := 18) (d' := 0) (as := [zi b]) (rest := []) (n := 1) (eX8_hasBeat_18 σ μ b  ) kX8_hasBeat mlX10_142 rfl rfl rfl (by decide) rfl rfl (Nat.le_of_ble_eq_true rfl) dX10_steps_5 rfl ?_
  show zX shC σ 1 MX10_steps 8 [(0, zr 0), (1, zi b), (2, zi p)] [zi (zb (pHas (cS 18 μ 1) b))] μ _
  refine zx_ifb_eq (tgt := 21) (nn := 11) dX10_steps_8 (by decide) rfl (fun h8 => ?_) (fun h8 => ?_)
  · refine zx_iconst (v := -1) (nn := 22) rfl dX10_steps_21 rfl ?_
    refine zx_iret rfl dX10_steps_22 ?_
    refine ⟨congrArg (fun x => some (zi x)) ?_, ?_, zJ.rf⟩
    · simp [vSteps, h8]
    · simp [sSteps, h8]
  · obtain ⟨b1, n_b, rfl⟩ := hasB ok h8
    show zX shC σ 1 MX10_steps 11 [(0, zr 0), (1, zi (nI b1)), (2, zi p)] [] μ _
    refine zx_iload_n (k := 2) (nn := 12) dX10_steps_11 rfl rfl rfl ?_
    refine zx_iconst (v := 0) (nn := 13) rfl dX10_steps_12 rfl ?_
    refine zx_bipush (v := 40) (nn := 15) rfl dX10_steps_13 rfl ?_
    refine zx_callSf (nn := 18) (d' := 0) (as := [zi p, zi 0, zi 40]) (rest := []) (n := 3) (eX10_isIn σ μ p 0 40  ) kX10_isIn mlX10_135 (by decide) rfl rfl (Nat.le_of_ble_eq_true rfl) dX10_steps_15 rfl ?_
    show zX shC σ 1 MX10_steps 18 [(0, zr 0), (1, zi (nI b1)), (2, zi p)] [zi (zb (pIn p 0 40))] μ _
    refine zx_ifb_ne (tgt := 23) (nn := 21) dX10_steps_18 (by decide) rfl (fun h18 => ?_) (fun h18 => ?_)
    · refine zx_iload_n (k := 1) (nn := 24) dX10_steps_23 rfl rfl rfl ?_
      refine zx_aload_n (k := 0) (nn := 25) dX10_steps_24 rfl rfl rfl ?_
      refine zx_getR (q := 18) (nn := 28) flX10_28 rfl rfl dX10_steps_25 rfl ?_
      refine zx_getI (nn := 31) flX10_149 rfl rfl dX10_steps_28 rfl ?_
      refine zx_icmp_ge (tgt := 37) (nn := 34) dX10_steps_31 (by decide) rfl (fun h31 => ?_) (fun h31 => ?_)
      · refine zx_aload_n (k := 0) (nn := 38) dX10_steps_37 rfl rfl rfl ?_
        refine zx_getR (q := 18) (nn := 41) flX10_28 rfl rfl dX10_steps_38 rfl ?_
        refine zx_getR (q := 23) (nn := 44) flX10_145 rfl rfl dX10_steps_41 rfl ?_
        refine zx_iload_n (k := 1) (nn := 45) dX10_steps_44 rfl rfl rfl ?_
        refine zx_iald_n (j := b1) (nn := 46) rfl n_b.2.1 (by decide) dX10_steps_45 rfl ?_
        refine zx_istore_n (nn := 47) (lv' := [(3, zi (μ 23 b1)), (0, zr 0), (1, zi (nI b1)), (2, zi p)]) dX10_steps_46 rfl (by decide) rfl rfl ?_
        refine zx_aload_n (k := 1) (nn := 48) dX10_steps_47 rfl rfl rfl ?_
        refine zx_getR (q := 18) (nn := 51) flX10_28 rfl rfl dX10_steps_48 rfl ?_
        refine zx_getR (q := 23) (nn := 54) flX10_145 rfl rfl dX10_steps_51 rfl ?_
        refine zx_iload_n (k := 2) (nn := 55) dX10_steps_54 rfl rfl rfl ?_
        refine zx_iload_n (k := 3) (nn := 56) dX10_steps_55 rfl rfl rfl ?_
        refine zx_iast_n (j := b1) (nn := 57) rfl n_b.2.1 (by decide) dX10_steps_56 rfl ?_
        refine zx_iload_n (k := 0) (nn := 58) dX10_steps_57 rfl rfl rfl ?_
        refine zx_iret rfl dX10_steps_58 ?_
        have h31 : ¬ nI b1 < cS 18 μ 2 := Int32.not_lt.mpr h31
        refine ⟨congrArg (fun x => some (zi x)) ?_, ?_, zJ.rf.p (by decide)⟩
        · unfold vSteps
          rw [if_pos ⟨h8, h18⟩, if_neg h31, n_b.2.2]
          exact (cS_p (b := 18) (μ := μ) n_b.2.1).symm
        · unfold sSteps
          rw [if_pos ⟨h8, h18⟩, if_neg h31, n_b.2.2]
          exact cS_putP (b := 18) n_b.2.1
      · refine zx_bipush (v := -4) (nn := 36) rfl dX10_steps_34 rfl ?_
        refine zx_iret rfl dX10_steps_36 ?_
        have h31 : nI b1 < cS 18 μ 2 := Int32.not_le.mp h31
        refine ⟨congrArg (fun x => some (zi x)) ?_, ?_, zJ.rf⟩
        · unfold vSteps; rw [if_pos ⟨h8, h18⟩, if_pos h31]
        · unfold sSteps; rw [if_pos ⟨h8, h18⟩, if_pos h31]
    · refine zx_iconst (v := -1) (nn := 22) rfl dX10_steps_21 rfl ?_
      refine zx_iret rfl dX10_steps_22 ?_
      refine ⟨congrArg (fun x => some (zi x)) ?_, ?_, zJ.rf⟩
      · simp [vSteps, h8, h18]
      · simp [sSteps, h8, h18]
set_option maxHeartbeats 4000000 in
set_option maxRecDepth 100000 in
theorem eX10_anew_0 (σ : zG) (μ : zM) : zMet shC σ 0 MX10_anew yX10_anew [zr 0] μ (fun rr μ' => rr = some (zi ((cS 18 μ) 2)) ∧ cS 18 μ' = pPut (pPut (cS 18 μ) 2 0) 3 0 ∧ zJ [18] μ μ') := by
  refine zmetF (by decide +kernel) rfl (Nat.le_of_ble_eq_true rfl) ?_
  show zX shC σ 0 MX10_anew 0 [(0, zr 0)] [] μ _
  refine zx_aload_n (k := 0) (nn := 1) dX10_anew_0 rfl rfl rfl ?_
  refine zx_getR (q := 18) (nn := 4) flX10_28 rfl rfl dX10_anew_1 rfl ?_
  refine zx_getI (nn := 7) flX10_149 rfl rfl dX10_anew_4 rfl ?_
  refine zx_istore_n (nn := 8) (lv' := [(1, zi (μ 18 9)), (0, zr 0)]) dX10_anew_7 rfl (by decide) rfl rfl ?_
  refine zx_aload_n (k := 1) (nn := 9) dX10_anew_8 rfl rfl rfl ?_
  refine zx_getR (q := 18) (nn := 12) flX10_28 rfl rfl dX10_anew_9 rfl ?_
  refine zx_iconst (v := 0) (nn := 13) rfl dX10_anew_12 rfl ?_
  refine zx_putI (nn := 16) fpX10_149 rfl rfl rfl rfl dX10_anew_13 rfl ?_
  refine zx_aload_n (k := 1) (nn := 17) dX10_anew_16 rfl rfl rfl ?_
  refine zx_getR (q := 18) (nn := 20) flX10_28 rfl rfl dX10_anew_17 rfl ?_
  refine zx_iconst (v := 0) (nn := 21) rfl dX10_anew_20 rfl ?_
  refine zx_putI (nn := 24) fpX10_153 rfl rfl rfl rfl dX10_anew_21 rfl ?_
  refine zx_iload_n (k := 0) (nn := 25) dX10_anew_24 rfl rfl rfl ?_
  refine zx_iret rfl dX10_anew_25 ?_
  exact ⟨rfl, by rw [cS_putI (b := 18) (j := 10) (k := 3) (by omega), cS_putI (b := 18) (j := 9) (k := 2) (by omega)], (zJ.rf.p (by decide)).p (by decide)⟩
set_option maxHeartbeats 4000000 in
set_option maxRecDepth 100000 in
theorem eX10_state_0 (σ : zG) (μ : zM) (w : Int32) : zMet shC σ 1 MX10_state yX10_state [zr 0, zi w] μ (fun rr μ' => rr = some (zi (vState (cS 18 μ) w)) ∧ μ' = μ) := by
  refine zmetF (by decide +kernel) rfl (Nat.le_of_ble_eq_true rfl) ?_
  show zX shC σ 1 MX10_state 0 [(0, zr 0), (1, zi w)] [] μ _
  refine zx_iload_n (k := 1) (nn := 1) dX10_state_0 rfl rfl rfl ?_
  by_cases h1_0 : w = 0
  · refine zx_sw h1_0 ?_
    refine zx_tabIn (tgt := 32) (off := 31) dX10_state_1 (by decide +kernel) (by decide +kernel) (by decide +kernel) (by decide) ?_
    refine zx_aload_n (k := 0) (nn := 33) dX10_state_32 rfl rfl rfl ?_
    refine zx_getR (q := 18) (nn := 36) flX10_28 rfl rfl dX10_state_33 rfl ?_
    refine zx_getI (nn := 39) flX10_149 rfl rfl dX10_state_36 rfl ?_
    refine zx_iret rfl dX10_state_39 ?_
    refine ⟨congrArg (fun x => some (zi x)) ?_, rfl⟩
    simp [vState, zb, cS_1, cS_2, cS_3, h1_0]
  by_cases h1_1 : w = 1
  · refine zx_sw h1_1 ?_
    refine zx_tabIn (tgt := 40) (off := 39) dX10_state_1 (by decide +kernel) (by decide +kernel) (by decide +kernel) (by decide) ?_
    refine zx_aload_n (k := 0) (nn := 41) dX10_state_40 rfl rfl rfl ?_
    refine zx_getR (q := 18) (nn := 44) flX10_28 rfl rfl dX10_state_41 rfl ?_
    refine zx_getI (nn := 47) flX10_156 rfl rfl dX10_state_44 rfl ?_
    refine zx_iret rfl dX10_state_47 ?_
    refine ⟨congrArg (fun x => some (zi x)) ?_, rfl⟩
    simp [vState, zb, cS_1, cS_2, cS_3, h1_0, h1_1]
  by_cases h1_2 : w = 2
  · refine zx_sw h1_2 ?_
    refine zx_tabIn (tgt := 48) (off := 47) dX10_state_1 (by decide +kernel) (by decide +kernel) (by decide +kernel) (by decide) ?_
    refine zx_aload_n (k := 0) (nn := 49) dX10_state_48 rfl rfl rfl ?_
    refine zx_getR (q := 18) (nn := 52) flX10_28 rfl rfl dX10_state_49 rfl ?_
    refine zx_getI (nn := 55) flX10_153 rfl rfl dX10_state_52 rfl ?_
    refine zx_iret rfl dX10_state_55 ?_
    refine ⟨congrArg (fun x => some (zi x)) ?_, rfl⟩
    simp [vState, zb, cS_1, cS_2, cS_3, h1_0, h1_1, h1_2]
  by_cases h1_3 : w = 3
  · refine zx_sw h1_3 ?_
    refine zx_tabIn (tgt := 56) (off := 55) dX10_state_1 (by decide +kernel) (by decide +kernel) (by decide +kernel) (by decide) ?_
    refine zx_aload_n (k := 0) (nn := 57) dX10_state_56 rfl rfl rfl ?_
    refine zx_getR (q := 18) (nn := 60) flX10_28 rfl rfl dX10_state_57 rfl ?_
    refine zx_callVf (nn := 63) (k := 18) (d' := 0) (as := []) (rest := []) (n := 0) (eX8_isOver_18 σ μ   ) kX8_isOver mlX10_124 rfl rfl rfl (by decide) rfl rfl (Nat.le_of_ble_eq_true rfl) dX10_state_60 rfl ?_
    show zX shC σ 1 MX10_state 63 [(0, zr 0), (1, zi w)] [zi (zb (pOver (cS 18 μ)))] μ _
    refine zx_ifb_eq (tgt := 70) (nn := 66) dX10_state_63 (by decide) rfl (fun h63 => ?_) (fun h63 => ?_)
    · refine zx_iconst (v := 0) (nn := 71) rfl dX10_state_70 rfl ?_
      refine zx_iret rfl dX10_state_71 ?_
      refine ⟨congrArg (fun x => some (zi x)) ?_, rfl⟩
      simp [vState, zb, cS_1, cS_2, cS_3, h1_0, h1_1, h1_2, h1_3, h63]
    · refine zx_iconst (v := 1) (nn := 67) rfl dX10_state_66 rfl ?_
      refine zx_goto (tgt := 71) dX10_state_67 (by decide) ?_
      refine zx_iret rfl dX10_state_71 ?_
      refine ⟨congrArg (fun x => some (zi x)) ?_, rfl⟩
      simp [vState, zb, cS_1, cS_2, cS_3, h1_0, h1_1, h1_2, h1_3, h63]
  refine zx_tabOut (tgt := 72) dX10_state_1 (zsw_out (lo := 0) (hi := 3) (fun k hk1 hk2 => by rcases (show k = 0 ∨ k = 1 ∨ k = 2 ∨ k = 3 by omega) with rfl | rfl | rfl | rfl; exact lv_neT h1_0 rfl; exact lv_neT h1_1 rfl; exact lv_neT h1_2 rfl; exact lv_neT h1_3 rfl)) (by decide) ?_
  refine zx_iconst (v := -1) (nn := 73) rfl dX10_state_72 rfl ?_
  refine zx_iret rfl dX10_state_73 ?_
  refine ⟨congrArg (fun x => some (zi x)) ?_, rfl⟩
  simp [vState, zb, cS_1, cS_2, cS_3, h1_0, h1_1, h1_2, h1_3]
set_option maxHeartbeats 4000000 in
set_option maxRecDepth 100000 in
theorem eX10_beat_0 (σ : zG) (μ : zM) (ok : pOK (cS 18 μ)) (rok : cROK 1 μ) : zMet shC σ 5 MX10_beat yX10_beat [zr 0] μ (fun rr μ' => rr = some (zi (vBeat (cR 1 μ) (cS 18 μ))) ∧ cS 18 μ' = sBeat (cR 1 μ) (cS 18 μ) ∧ zJ [18, 20, 6, 24] μ μ') := by
  refine zmetF (by decide +kernel) rfl (Nat.le_of_ble_eq_true rfl) ?_
  show zX shC σ 5 MX10_beat 0 [(0, zr 0)] [] μ _
  refine zx_aload_n (k := 0) (nn := 1) dX10_beat_0 rfl rfl rfl ?_
  refine zx_getR (q := 18) (nn := 4) flX10_28 rfl rfl dX10_beat_1 rfl ?_
  refine zx_callVf (nn := 7) (k := 18) (d' := 0) (as := []) (rest := []) (n := 0) (eX8_isOver_18 σ μ   ) kX8_isOver mlX10_124 rfl rfl rfl (by decide) rfl rfl (Nat.le_of_ble_eq_true rfl) dX10_beat_4 rfl ?_
  show zX shC σ 5 MX10_beat 7 [(0, zr 0)] [zi (zb (pOver (cS 18 μ)))] μ _
  refine zx_ifb_eq (tgt := 15) (nn := 10) dX10_beat_7 (by decide) rfl (fun h7 => ?_) (fun h7 => ?_)
  · refine zx_aload_n (k := 0) (nn := 16) dX10_beat_15 rfl rfl rfl ?_
    refine zx_getR (q := 18) (nn := 19) flX10_28 rfl rfl dX10_beat_16 rfl ?_
    refine zx_iconst (v := -1) (nn := 20) rfl dX10_beat_19 rfl ?_
    refine zx_callV (nn := 23) (k := 18) (d' := 4) (as := [zi (-1)]) (rest := []) (n := 1) (eX8_goBy_18 σ μ (-1)  ok rok (pOver_b ok h7)) kX8_goBy mlX10_173 rfl rfl rfl (by decide) rfl rfl (Nat.le_of_ble_eq_true rfl) dX10_beat_20 rfl ?_
    rintro _ ν1 ⟨rfl, q1⟩
    show zX shC σ 5 MX10_beat 23 [(0, zr 0)] [zi (pGain (cR 1 μ) (cS 18 μ) (-1))] ν1 _
    refine zx_iret rfl dX10_beat_23 ?_
    refine ⟨congrArg (fun x => some (zi x)) ?_, q1.1.trans (by simp [sBeat, h7]), q1.2⟩
    simp [vBeat, h7]
  · refine zx_bipush (v := -4) (nn := 12) rfl dX10_beat_10 rfl ?_
    refine zx_goto (tgt := 23) dX10_beat_12 (by decide) ?_
    refine zx_iret rfl dX10_beat_23 ?_
    refine ⟨congrArg (fun x => some (zi x)) ?_, (by simp [sBeat, h7]), zJ.rf⟩
    simp [vBeat, h7]
set_option maxHeartbeats 4000000 in
set_option maxRecDepth 100000 in
theorem eX10_in_0 (σ : zG) (μ : zM) (g : Int32) (ok : pOK (cS 18 μ)) : zMet shC σ 4 MX10_in yX10_in [zr 0, zi g] μ (fun rr μ' => rr = some (zi (vIn (cS 18 μ) g)) ∧ μ' = μ) := by
  refine zmetF (by decide +kernel) rfl (Nat.le_of_ble_eq_true rfl) ?_
  show zX shC σ 4 MX10_in 0 [(0, zr 0), (1, zi g)] [] μ _
  refine zx_iload_n (k := 1) (nn := 1) dX10_in_0 rfl rfl rfl ?_
  refine zx_iconst (v := 0) (nn := 2) rfl dX10_in_1 rfl ?_
  refine zx_iconst (v := 2) (nn := 3) rfl dX10_in_2 rfl ?_
  refine zx_callSf (nn := 6) (d' := 0) (as := [zi g, zi 0, zi 2]) (rest := []) (n := 3) (eX10_isIn σ μ g 0 2  ) kX10_isIn mlX10_135 (by decide) rfl rfl (Nat.le_of_ble_eq_true rfl) dX10_in_3 rfl ?_
  show zX shC σ 4 MX10_in 6 [(0, zr 0), (1, zi g)] [zi (zb (pIn g 0 2))] μ _
  refine zx_ifb_eq (tgt := 20) (nn := 9) dX10_in_6 (by decide) rfl (fun h6 => ?_) (fun h6 => ?_)
  · refine zx_iconst (v := -1) (nn := 21) rfl dX10_in_20 rfl ?_
    refine zx_iret rfl dX10_in_21 ?_
    refine ⟨congrArg (fun x => some (zi x)) ?_, rfl⟩
    simp [vIn, h6]
  · refine zx_aload_n (k := 0) (nn := 10) dX10_in_9 rfl rfl rfl ?_
    refine zx_getR (q := 18) (nn := 13) flX10_28 rfl rfl dX10_in_10 rfl ?_
    refine zx_iload_n (k := 1) (nn := 14) dX10_in_13 rfl rfl rfl ?_
    refine zx_callVf (nn := 17) (k := 18) (d' := 3) (as := [zi g]) (rest := []) (n := 1) (eX8_setOf_18 σ μ g  ok) kX8_setOf mlX10_176 rfl rfl rfl (by decide) rfl rfl (Nat.le_of_ble_eq_true rfl) dX10_in_14 rfl ?_
    show zX shC σ 4 MX10_in 17 [(0, zr 0), (1, zi g)] [zi (pSet (fun l => decide (pSightL (cS 18 μ) l (pNear (cS 18 μ) ((cS 18 μ) 2 - 1)) = g)) (pL (cS 18 μ)))] μ _
    refine zx_goto (tgt := 21) dX10_in_17 (by decide) ?_
    refine zx_iret rfl dX10_in_21 ?_
    refine ⟨congrArg (fun x => some (zi x)) ?_, rfl⟩
    unfold vIn
    rw [if_pos h6, pNear_seen _ ok]
    rfl
set_option maxHeartbeats 4000000 in
set_option maxRecDepth 100000 in
theorem eX10_shows_0 (σ : zG) (μ : zM) (l : Int32) (ok : pOK (cS 18 μ)) (rok : cROK 1 μ) : zMet shC σ 6 MX10_shows yX10_shows [zr 0, zi l] μ (fun rr μ' => rr = some (zi (vShows (cR 1 μ) (cS 18 μ) l)) ∧ zJ [6, 25, 26, 27, 28, 29, 30, 31] μ μ') := by
  refine zmetF (by decide +kernel) rfl (Nat.le_of_ble_eq_true rfl) ?_
  show zX shC σ 6 MX10_shows 0 [(0, zr 0), (1, zi l)] [] μ _
  refine zx_aload_n (k := 0) (nn := 1) dX10_shows_0 rfl rfl rfl ?_
  refine zx_getR (q := 18) (nn := 4) flX10_28 rfl rfl dX10_shows_1 rfl ?_
  refine zx_iload_n (k := 1) (nn := 5) dX10_shows_4 rfl rfl rfl ?_
  refine zx_callVf (nn := 8) (k := 18) (d' := 0) (as := [zi l]) (rest := []) (n := 1) (eX8_hasLamp_18 σ μ l  ) kX8_hasLamp mlX10_113 rfl rfl rfl (by decide) rfl rfl (Nat.le_of_ble_eq_true rfl) dX10_shows_5 rfl ?_
  show zX shC σ 6 MX10_shows 8 [(0, zr 0), (1, zi l)] [zi (zb (pHas (cS 18 μ 0) l))] μ _
  refine zx_ifb_eq (tgt := 32) (nn := 11) dX10_shows_8 (by decide) rfl (fun h8 => ?_) (fun h8 => ?_)
  · refine zx_iconst (v := -1) (nn := 33) rfl dX10_shows_32 rfl ?_
    refine zx_iret rfl dX10_shows_33 ?_
    refine ⟨congrArg (fun x => some (zi x)) ?_, zJ.rf⟩
    simp [vShows, h8]
  · obtain ⟨l1, n_l, rfl⟩ := hasL ok h8
    show zX shC σ 6 MX10_shows 11 [(0, zr 0), (1, zi (nI l1))] [] μ _
    refine zx_aload_n (k := 0) (nn := 12) dX10_shows_11 rfl rfl rfl ?_
    refine zx_getR (q := 37) (nn := 15) flX10_47 rfl rfl dX10_shows_12 rfl ?_
    refine zx_iload_n (k := 1) (nn := 16) dX10_shows_15 rfl rfl rfl ?_
    refine zx_iconst (v := 1) (nn := 17) rfl dX10_shows_16 rfl ?_
    refine zx_aload_n (k := 0) (nn := 18) dX10_shows_17 rfl rfl rfl ?_
    refine zx_getR (q := 18) (nn := 21) flX10_28 rfl rfl dX10_shows_18 rfl ?_
    refine zx_getR (q := 20) (nn := 24) flX10_179 rfl rfl dX10_shows_21 rfl ?_
    refine zx_iload_n (k := 1) (nn := 25) dX10_shows_24 rfl rfl rfl ?_
    refine zx_iald_n (j := l1) (nn := 26) rfl n_l.2.1 (by decide) dX10_shows_25 rfl ?_
    refine zx_callV (nn := 29) (k := 37) (d' := 5) (as := [zi (nI l1), zi 1, zi (μ 20 l1)]) (rest := []) (n := 3) (eX2_worthWith_1 σ μ l1 (μ 20 l1) ok rok n_l.1 (by rw [← cS_a (b := 18) (μ := μ) n_l.2.1, pPut_self]; exact ok)) kX2_worthWith mlX10_182 rfl rfl rfl (by decide) rfl rfl (Nat.le_of_ble_eq_true rfl) dX10_shows_26 rfl ?_
    rintro _ ν1 ⟨rfl, q1⟩
    show zX shC σ 6 MX10_shows 29 [(0, zr 0), (1, zi (nI l1))] [zi (pShow (cR 1 μ) (pPut (cS 18 μ) (7 + 4 * l1 + 1) (μ 20 l1)) l1)] ν1 _
    refine zx_goto (tgt := 33) dX10_shows_29 (by decide) ?_
    refine zx_iret rfl dX10_shows_33 ?_
    refine ⟨congrArg (fun x => some (zi x)) ?_, q1⟩
    unfold vShows
    rw [if_pos h8, n_l.2.2, ← cS_a (b := 18) (μ := μ) n_l.2.1, pPut_self]
set_option maxHeartbeats 4000000 in
set_option maxRecDepth 100000 in
theorem eX10_on_0 (σ : zG) (μ : zM) (n : Int32) (ok : pOK (cS 18 μ)) (rok : cROK 1 μ) : zMet shC σ 6 MX10_on yX10_on [zr 0, zi n] μ (fun rr μ' => rr = some (zi (vOn (cR 1 μ) (cS 18 μ) n)) ∧ zJ [6, 25, 26, 27, 28, 29, 30, 31] μ μ') := by
  refine zmetF (by decide +kernel) rfl (Nat.le_of_ble_eq_true rfl) ?_
  show zX shC σ 6 MX10_on 0 [(0, zr 0), (1, zi n)] [] μ _
  refine zx_iload_n (k := 1) (nn := 1) dX10_on_0 rfl rfl rfl ?_
  refine zx_iconst (v := 0) (nn := 2) rfl dX10_on_1 rfl ?_
  refine zx_bipush (v := 16) (nn := 4) rfl dX10_on_2 rfl ?_
  refine zx_callSf (nn := 7) (d' := 0) (as := [zi n, zi 0, zi 16]) (rest := []) (n := 3) (eX10_isIn σ μ n 0 16  ) kX10_isIn mlX10_135 (by decide) rfl rfl (Nat.le_of_ble_eq_true rfl) dX10_on_4 rfl ?_
  show zX shC σ 6 MX10_on 7 [(0, zr 0), (1, zi n)] [zi (zb (pIn n 0 16))] μ _
  refine zx_ifb_eq (tgt := 21) (nn := 10) dX10_on_7 (by decide) rfl (fun h7 => ?_) (fun h7 => ?_)
  · refine zx_iconst (v := -1) (nn := 22) rfl dX10_on_21 rfl ?_
    refine zx_iret rfl dX10_on_22 ?_
    refine ⟨congrArg (fun x => some (zi x)) ?_, zJ.rf⟩
    simp [vOn, h7]
  · obtain ⟨n1, n_n, rfl⟩ := pIn_n (b := 16) (by omega) (by decide) h7
    show zX shC σ 6 MX10_on 10 [(0, zr 0), (1, zi (nI n1))] [] μ _
    refine zx_aload_n (k := 0) (nn := 11) dX10_on_10 rfl rfl rfl ?_
    refine zx_getR (q := 37) (nn := 14) flX10_47 rfl rfl dX10_on_11 rfl ?_
    refine zx_iload_n (k := 1) (nn := 15) dX10_on_14 rfl rfl rfl ?_
    refine zx_callV (nn := 18) (k := 37) (d' := 5) (as := [zi (nI n1)]) (rest := []) (n := 1) (eX2_worthOfBeats_37 σ μ n1  ok rok (by omega)) kX2_worthOfBeats mlX10_185 rfl rfl rfl (by decide) rfl rfl (Nat.le_of_ble_eq_true rfl) dX10_on_15 rfl ?_
    rintro _ ν1 ⟨rfl, q1⟩
    show zX shC σ 6 MX10_on 18 [(0, zr 0), (1, zi (nI n1))] [zi (pOn (cR 1 μ) (cS 18 μ) (min n1 (pRem (cS 18 μ))))] ν1 _
    refine zx_goto (tgt := 22) dX10_on_18 (by decide) ?_
    refine zx_iret rfl dX10_on_22 ?_
    refine ⟨congrArg (fun x => some (zi x)) ?_, q1⟩
    unfold vOn
    rw [if_pos h7, n_n.2]
set_option maxHeartbeats 4000000 in
set_option maxRecDepth 100000 in
theorem eX10_lost_0 (σ : zG) (μ : zM) (l : Int32) (ok : pOK (cS 18 μ)) (rok : cROK 1 μ) : zMet shC σ 6 MX10_lost yX10_lost [zr 0, zi l] μ (fun rr μ' => rr = some (zi (vLost (cR 1 μ) (cS 18 μ) l)) ∧ zJ [6, 25, 26, 27, 28, 29, 30, 31] μ μ') := by
  refine zmetF (by decide +kernel) rfl (Nat.le_of_ble_eq_true rfl) ?_
  show zX shC σ 6 MX10_lost 0 [(0, zr 0), (1, zi l)] [] μ _
  refine zx_aload_n (k := 0) (nn := 1) dX10_lost_0 rfl rfl rfl ?_
  refine zx_getR (q := 18) (nn := 4) flX10_28 rfl rfl dX10_lost_1 rfl ?_
  refine zx_iload_n (k := 1) (nn := 5) dX10_lost_4 rfl rfl rfl ?_
  refine zx_callVf (nn := 8) (k := 18) (d' := 0) (as := [zi l]) (rest := []) (n := 1) (eX8_hasLamp_18 σ μ l  ) kX8_hasLamp mlX10_113 rfl rfl rfl (by decide) rfl rfl (Nat.le_of_ble_eq_true rfl) dX10_lost_5 rfl ?_
  show zX shC σ 6 MX10_lost 8 [(0, zr 0), (1, zi l)] [zi (zb (pHas (cS 18 μ 0) l))] μ _
  refine zx_ifb_eq (tgt := 31) (nn := 11) dX10_lost_8 (by decide) rfl (fun h8 => ?_) (fun h8 => ?_)
  · refine zx_iconst (v := -1) (nn := 32) rfl dX10_lost_31 rfl ?_
    refine zx_iret rfl dX10_lost_32 ?_
    refine ⟨congrArg (fun x => some (zi x)) ?_, zJ.rf⟩
    simp [vLost, h8]
  · obtain ⟨l1, n_l, rfl⟩ := hasL ok h8
    show zX shC σ 6 MX10_lost 11 [(0, zr 0), (1, zi (nI l1))] [] μ _
    refine zx_aload_n (k := 0) (nn := 12) dX10_lost_11 rfl rfl rfl ?_
    refine zx_getR (q := 37) (nn := 15) flX10_47 rfl rfl dX10_lost_12 rfl ?_
    refine zx_iload_n (k := 1) (nn := 16) dX10_lost_15 rfl rfl rfl ?_
    refine zx_aload_n (k := 0) (nn := 17) dX10_lost_16 rfl rfl rfl ?_
    refine zx_getR (q := 18) (nn := 20) flX10_28 rfl rfl dX10_lost_17 rfl ?_
    refine zx_getR (q := 22) (nn := 23) flX10_188 rfl rfl dX10_lost_20 rfl ?_
    refine zx_iload_n (k := 1) (nn := 24) dX10_lost_23 rfl rfl rfl ?_
    refine zx_iald_n (j := l1) (nn := 25) rfl n_l.2.1 (by decide) dX10_lost_24 rfl ?_
    refine zx_callV (nn := 28) (k := 37) (d' := 5) (as := [zi (nI l1), zi (μ 22 l1)]) (rest := []) (n := 2) (eX2_firstOutWith_37 σ μ l1 (μ 22 l1) ok rok n_l.1 (by rw [← cS_t (b := 18) (μ := μ) n_l.2.1, pPut_self]; exact ok)) kX2_firstOutWith mlX10_191 rfl rfl rfl (by decide) rfl rfl (Nat.le_of_ble_eq_true rfl) dX10_lost_25 rfl ?_
    rintro _ ν1 ⟨rfl, q1⟩
    show zX shC σ 6 MX10_lost 28 [(0, zr 0), (1, zi (nI l1))] [zi (pLost (cR 1 μ) (pPut (cS 18 μ) (7 + 4 * l1 + 3) (μ 22 l1)) l1)] ν1 _
    refine zx_goto (tgt := 32) dX10_lost_28 (by decide) ?_
    refine zx_iret rfl dX10_lost_32 ?_
    refine ⟨congrArg (fun x => some (zi x)) ?_, q1⟩
    unfold vLost
    rw [if_pos h8, n_l.2.2, ← cS_t (b := 18) (μ := μ) n_l.2.1, pPut_self]
set_option maxHeartbeats 4000000 in
set_option maxRecDepth 100000 in
theorem eX10_crosses_0 (σ : zG) (μ : zM) (l : Int32) (k : Int32) (ok : pOK (cS 18 μ)) (rok : cROK 1 μ) : zMet shC σ 6 MX10_crosses yX10_crosses [zr 0, zi l, zi k] μ (fun rr μ' => rr = some (zi (vCross (cR 1 μ) (cS 18 μ) l k)) ∧ zJ [6, 25, 26, 27, 28, 29, 30, 31] μ μ') := by
  refine zmetF (by decide +kernel) rfl (Nat.le_of_ble_eq_true rfl) ?_
  show zX shC σ 6 MX10_crosses 0 [(0, zr 0), (1, zi l), (2, zi k)] [] μ _
  refine zx_aload_n (k := 0) (nn := 1) dX10_crosses_0 rfl rfl rfl ?_
  refine zx_getR (q := 18) (nn := 4) flX10_28 rfl rfl dX10_crosses_1 rfl ?_
  refine zx_iload_n (k := 1) (nn := 5) dX10_crosses_4 rfl rfl rfl ?_
  refine zx_callVf (nn := 8) (k := 18) (d' := 0) (as := [zi l]) (rest := []) (n := 1) (eX8_hasLamp_18 σ μ l  ) kX8_hasLamp mlX10_113 rfl rfl rfl (by decide) rfl rfl (Nat.le_of_ble_eq_true rfl) dX10_crosses_5 rfl ?_
  show zX shC σ 6 MX10_crosses 8 [(0, zr 0), (1, zi l), (2, zi k)] [zi (zb (pHas (cS 18 μ 0) l))] μ _
  refine zx_ifb_eq (tgt := 27) (nn := 11) dX10_crosses_8 (by decide) rfl (fun h8 => ?_) (fun h8 => ?_)
  · refine zx_iconst (v := -1) (nn := 28) rfl dX10_crosses_27 rfl ?_
    refine zx_iret rfl dX10_crosses_28 ?_
    refine ⟨congrArg (fun x => some (zi x)) ?_, zJ.rf⟩
    simp [vCross, h8]
  · refine zx_aload_n (k := 0) (nn := 12) dX10_crosses_11 rfl rfl rfl ?_
    refine zx_getR (q := 18) (nn := 15) flX10_28 rfl rfl dX10_crosses_12 rfl ?_
    refine zx_iload_n (k := 2) (nn := 16) dX10_crosses_15 rfl rfl rfl ?_
    refine zx_callVf (nn := 19) (k := 18) (d' := 0) (as := [zi k]) (rest := []) (n := 1) (eX8_hasLamp_18 σ μ k  ) kX8_hasLamp mlX10_113 rfl rfl rfl (by decide) rfl rfl (Nat.le_of_ble_eq_true rfl) dX10_crosses_16 rfl ?_
    show zX shC σ 6 MX10_crosses 19 [(0, zr 0), (1, zi l), (2, zi k)] [zi (zb (pHas (cS 18 μ 0) k))] μ _
    refine zx_ifb_eq (tgt := 27) (nn := 22) dX10_crosses_19 (by decide) rfl (fun h19 => ?_) (fun h19 => ?_)
    · refine zx_iconst (v := -1) (nn := 28) rfl dX10_crosses_27 rfl ?_
      refine zx_iret rfl dX10_crosses_28 ?_
      refine ⟨congrArg (fun x => some (zi x)) ?_, zJ.rf⟩
      simp [vCross, h8, h19]
    · refine zx_iload_n (k := 1) (nn := 23) dX10_crosses_22 rfl rfl rfl ?_
      refine zx_iload_n (k := 2) (nn := 24) dX10_crosses_23 rfl rfl rfl ?_
      refine zx_icmp_ne (tgt := 29) (nn := 27) dX10_crosses_24 (by decide) rfl (fun h24 => ?_) (fun h24 => ?_)
      · obtain ⟨l1, n_l, rfl⟩ := hasL ok h8
        show zX shC σ 6 MX10_crosses 29 [(0, zr 0), (1, zi (nI l1)), (2, zi k)] [] μ _
        obtain ⟨k1, n_k, rfl⟩ := hasL ok h19
        show zX shC σ 6 MX10_crosses 29 [(0, zr 0), (1, zi (nI l1)), (2, zi (nI k1))] [] μ _
        refine zx_aload_n (k := 0) (nn := 30) dX10_crosses_29 rfl rfl rfl ?_
        refine zx_getR (q := 37) (nn := 33) flX10_47 rfl rfl dX10_crosses_30 rfl ?_
        refine zx_iload_n (k := 1) (nn := 34) dX10_crosses_33 rfl rfl rfl ?_
        refine zx_iload_n (k := 2) (nn := 35) dX10_crosses_34 rfl rfl rfl ?_
        refine zx_callV (nn := 38) (k := 37) (d' := 5) (as := [zi (nI l1), zi (nI k1)]) (rest := []) (n := 2) (eX2_crossings_37 σ μ l1 k1  ok rok n_l.1 n_k.1) kX2_crossings mlX10_195 rfl rfl rfl (by decide) rfl rfl (Nat.le_of_ble_eq_true rfl) dX10_crosses_35 rfl ?_
        rintro _ ν1 ⟨rfl, q1⟩
        show zX shC σ 6 MX10_crosses 38 [(0, zr 0), (1, zi (nI l1)), (2, zi (nI k1))] [zi (pCross (cR 1 μ) (cS 18 μ) l1 k1)] ν1 _
        refine zx_iret rfl dX10_crosses_38 ?_
        refine ⟨congrArg (fun x => some (zi x)) ?_, q1⟩
        unfold vCross
        rw [if_pos ⟨h8, h19, h24⟩, n_l.2.2, n_k.2.2]
      · refine zx_iconst (v := -1) (nn := 28) rfl dX10_crosses_27 rfl ?_
        refine zx_iret rfl dX10_crosses_28 ?_
        refine ⟨congrArg (fun x => some (zi x)) ?_, zJ.rf⟩
        simp [vCross, h8, h19, h24]
set_option maxHeartbeats 4000000 in
set_option maxRecDepth 100000 in
theorem eX10_sized_0 (σ : zG) (μ : zM) (l : Int32) (ok : pOK (cS 18 μ)) (rok : cROK 1 μ) : zMet shC σ 7 MX10_sized yX10_sized [zr 0, zi l] μ (fun rr μ' => rr = some (zi (vSized (cR 1 μ) (cS 18 μ) l)) ∧ zJ [6, 25, 26, 27, 28, 29, 30, 31] μ μ') := by
  refine zmetF (by decide +kernel) rfl (Nat.le_of_ble_eq_true rfl) ?_
  show zX shC σ 7 MX10_sized 0 [(0, zr 0), (1, zi l)] [] μ _
  refine zx_aload_n (k := 0) (nn := 1) dX10_sized_0 rfl rfl rfl ?_
  refine zx_getR (q := 18) (nn := 4) flX10_28 rfl rfl dX10_sized_1 rfl ?_
  refine zx_iload_n (k := 1) (nn := 5) dX10_sized_4 rfl rfl rfl ?_
  refine zx_callVf (nn := 8) (k := 18) (d' := 0) (as := [zi l]) (rest := []) (n := 1) (eX8_hasLamp_18 σ μ l  ) kX8_hasLamp mlX10_113 rfl rfl rfl (by decide) rfl rfl (Nat.le_of_ble_eq_true rfl) dX10_sized_5 rfl ?_
  show zX shC σ 7 MX10_sized 8 [(0, zr 0), (1, zi l)] [zi (zb (pHas (cS 18 μ 0) l))] μ _
  refine zx_ifb_eq (tgt := 25) (nn := 11) dX10_sized_8 (by decide) rfl (fun h8 => ?_) (fun h8 => ?_)
  · refine zx_iconst (v := -1) (nn := 26) rfl dX10_sized_25 rfl ?_
    refine zx_iret rfl dX10_sized_26 ?_
    refine ⟨congrArg (fun x => some (zi x)) ?_, zJ.rf⟩
    simp [vSized, h8]
  · obtain ⟨l1, n_l, rfl⟩ := hasL ok h8
    show zX shC σ 7 MX10_sized 11 [(0, zr 0), (1, zi (nI l1))] [] μ _
    refine zx_aload_n (k := 0) (nn := 12) dX10_sized_11 rfl rfl rfl ?_
    refine zx_getR (q := 37) (nn := 15) flX10_47 rfl rfl dX10_sized_12 rfl ?_
    refine zx_iload_n (k := 1) (nn := 16) dX10_sized_15 rfl rfl rfl ?_
    refine zx_iconst (v := 2) (nn := 17) rfl dX10_sized_16 rfl ?_
    refine zx_bipush (v := 9) (nn := 19) rfl dX10_sized_17 rfl ?_
    refine zx_callV (nn := 22) (k := 37) (d' := 6) (as := [zi (nI l1), zi 2, zi 9]) (rest := []) (n := 3) (eX2_worthiest_2 σ μ l1 ok rok n_l.1) kX2_worthiest mlX10_198 rfl rfl rfl (by decide) rfl rfl (Nat.le_of_ble_eq_true rfl) dX10_sized_19 rfl ?_
    rintro _ ν1 ⟨rfl, q1⟩
    show zX shC σ 7 MX10_sized 22 [(0, zr 0), (1, zi (nI l1))] [zi ((pArg (fun q_ => pShow (cR 1 μ) (pPut (cS 18 μ) (7 + 4 * l1 + 2) (nI q_)) l1) 10).2)] ν1 _
    refine zx_goto (tgt := 26) dX10_sized_22 (by decide) ?_
    refine zx_iret rfl dX10_sized_26 ?_
    refine ⟨congrArg (fun x => some (zi x)) ?_, q1⟩
    unfold vSized
    rw [if_pos h8, n_l.2.2]
set_option maxHeartbeats 4000000 in
set_option maxRecDepth 100000 in
theorem eX10_aimed_0 (σ : zG) (μ : zM) (l : Int32) (ok : pOK (cS 18 μ)) (rok : cROK 1 μ) : zMet shC σ 7 MX10_aimed yX10_aimed [zr 0, zi l] μ (fun rr μ' => rr = some (zi (vAimed (cR 1 μ) (cS 18 μ) l)) ∧ zJ [6, 25, 26, 27, 28, 29, 30, 31] μ μ') := by
  refine zmetF (by decide +kernel) rfl (Nat.le_of_ble_eq_true rfl) ?_
  show zX shC σ 7 MX10_aimed 0 [(0, zr 0), (1, zi l)] [] μ _
  refine zx_aload_n (k := 0) (nn := 1) dX10_aimed_0 rfl rfl rfl ?_
  refine zx_getR (q := 18) (nn := 4) flX10_28 rfl rfl dX10_aimed_1 rfl ?_
  refine zx_iload_n (k := 1) (nn := 5) dX10_aimed_4 rfl rfl rfl ?_
  refine zx_callVf (nn := 8) (k := 18) (d' := 0) (as := [zi l]) (rest := []) (n := 1) (eX8_hasLamp_18 σ μ l  ) kX8_hasLamp mlX10_113 rfl rfl rfl (by decide) rfl rfl (Nat.le_of_ble_eq_true rfl) dX10_aimed_5 rfl ?_
  show zX shC σ 7 MX10_aimed 8 [(0, zr 0), (1, zi l)] [zi (zb (pHas (cS 18 μ 0) l))] μ _
  refine zx_ifb_eq (tgt := 25) (nn := 11) dX10_aimed_8 (by decide) rfl (fun h8 => ?_) (fun h8 => ?_)
  · refine zx_iconst (v := -1) (nn := 26) rfl dX10_aimed_25 rfl ?_
    refine zx_iret rfl dX10_aimed_26 ?_
    refine ⟨congrArg (fun x => some (zi x)) ?_, zJ.rf⟩
    simp [vAimed, h8]
  · obtain ⟨l1, n_l, rfl⟩ := hasL ok h8
    show zX shC σ 7 MX10_aimed 11 [(0, zr 0), (1, zi (nI l1))] [] μ _
    refine zx_aload_n (k := 0) (nn := 12) dX10_aimed_11 rfl rfl rfl ?_
    refine zx_getR (q := 37) (nn := 15) flX10_47 rfl rfl dX10_aimed_12 rfl ?_
    refine zx_iload_n (k := 1) (nn := 16) dX10_aimed_15 rfl rfl rfl ?_
    refine zx_iconst (v := 1) (nn := 17) rfl dX10_aimed_16 rfl ?_
    refine zx_bipush (v := 40) (nn := 19) rfl dX10_aimed_17 rfl ?_
    refine zx_callV (nn := 22) (k := 37) (d' := 6) (as := [zi (nI l1), zi 1, zi 40]) (rest := []) (n := 3) (eX2_worthiest_1 σ μ l1 ok rok n_l.1) kX2_worthiest mlX10_198 rfl rfl rfl (by decide) rfl rfl (Nat.le_of_ble_eq_true rfl) dX10_aimed_19 rfl ?_
    rintro _ ν1 ⟨rfl, q1⟩
    show zX shC σ 7 MX10_aimed 22 [(0, zr 0), (1, zi (nI l1))] [zi ((pArg (fun q_ => pShow (cR 1 μ) (pPut (cS 18 μ) (7 + 4 * l1 + 1) (nI q_)) l1) 41).2)] ν1 _
    refine zx_goto (tgt := 26) dX10_aimed_22 (by decide) ?_
    refine zx_iret rfl dX10_aimed_26 ?_
    refine ⟨congrArg (fun x => some (zi x)) ?_, q1⟩
    unfold vAimed
    rw [if_pos h8, n_l.2.2]
set_option maxHeartbeats 4000000 in
set_option maxRecDepth 100000 in
theorem eX10_stepFor_0 (σ : zG) (μ : zM) (l : Int32) (ok : pOK (cS 18 μ)) (rok : cROK 1 μ) : zMet shC σ 7 MX10_stepFor yX10_stepFor [zr 0, zi l] μ (fun rr μ' => rr = some (zi (vStepFor (cR 1 μ) (cS 18 μ) l)) ∧ zJ [6, 25, 26, 27, 28, 29, 30, 31] μ μ') := by
  refine zmetF (by decide +kernel) rfl (Nat.le_of_ble_eq_true rfl) ?_
  show zX shC σ 7 MX10_stepFor 0 [(0, zr 0), (1, zi l)] [] μ _
  refine zx_aload_n (k := 0) (nn := 1) dX10_stepFor_0 rfl rfl rfl ?_
  refine zx_getR (q := 18) (nn := 4) flX10_28 rfl rfl dX10_stepFor_1 rfl ?_
  refine zx_iload_n (k := 1) (nn := 5) dX10_stepFor_4 rfl rfl rfl ?_
  refine zx_callVf (nn := 8) (k := 18) (d' := 0) (as := [zi l]) (rest := []) (n := 1) (eX8_hasLamp_18 σ μ l  ) kX8_hasLamp mlX10_113 rfl rfl rfl (by decide) rfl rfl (Nat.le_of_ble_eq_true rfl) dX10_stepFor_5 rfl ?_
  show zX shC σ 7 MX10_stepFor 8 [(0, zr 0), (1, zi l)] [zi (zb (pHas (cS 18 μ 0) l))] μ _
  refine zx_ifb_eq (tgt := 22) (nn := 11) dX10_stepFor_8 (by decide) rfl (fun h8 => ?_) (fun h8 => ?_)
  · refine zx_iconst (v := -1) (nn := 23) rfl dX10_stepFor_22 rfl ?_
    refine zx_iret rfl dX10_stepFor_23 ?_
    refine ⟨congrArg (fun x => some (zi x)) ?_, zJ.rf⟩
    simp [vStepFor, h8]
  · obtain ⟨l1, n_l, rfl⟩ := hasL ok h8
    show zX shC σ 7 MX10_stepFor 11 [(0, zr 0), (1, zi (nI l1))] [] μ _
    refine zx_aload_n (k := 0) (nn := 12) dX10_stepFor_11 rfl rfl rfl ?_
    refine zx_getR (q := 37) (nn := 15) flX10_47 rfl rfl dX10_stepFor_12 rfl ?_
    refine zx_iload_n (k := 1) (nn := 16) dX10_stepFor_15 rfl rfl rfl ?_
    refine zx_callV (nn := 19) (k := 37) (d' := 6) (as := [zi (nI l1)]) (rest := []) (n := 1) (eX2_leastStep_37 σ μ l1  ok rok n_l.1) kX2_leastStep mlX10_201 rfl rfl rfl (by decide) rfl rfl (Nat.le_of_ble_eq_true rfl) dX10_stepFor_16 rfl ?_
    rintro _ ν1 ⟨rfl, q1⟩
    show zX shC σ 7 MX10_stepFor 19 [(0, zr 0), (1, zi (nI l1))] [zi (pStep (cR 1 μ) (cS 18 μ) l1)] ν1 _
    refine zx_goto (tgt := 23) dX10_stepFor_19 (by decide) ?_
    refine zx_iret rfl dX10_stepFor_23 ?_
    refine ⟨congrArg (fun x => some (zi x)) ?_, q1⟩
    unfold vStepFor
    rw [if_pos h8, n_l.2.2]
set_option maxHeartbeats 4000000 in
set_option maxRecDepth 100000 in
theorem eX10_who_0 (σ : zG) (μ : zM) (ok : pOK (cS 18 μ)) (rok : cROK 1 μ) : zMet shC σ 6 MX10_who yX10_who [zr 0] μ (fun rr μ' => rr = some (zi (pWho (cR 1 μ) (cS 18 μ))) ∧ zJ [6, 25, 26, 27, 28, 29, 30, 31, 38] μ μ') := by
  refine zmetF (by decide +kernel) rfl (Nat.le_of_ble_eq_true rfl) ?_
  show zX shC σ 6 MX10_who 0 [(0, zr 0)] [] μ _
  refine zx_aload_n (k := 0) (nn := 1) dX10_who_0 rfl rfl rfl ?_
  refine zx_getR (q := 37) (nn := 4) flX10_47 rfl rfl dX10_who_1 rfl ?_
  refine zx_callV (nn := 7) (k := 37) (d' := 5) (as := []) (rest := []) (n := 0) (eX2_fewestLamps_37 σ μ   ok rok) kX2_fewestLamps mlX10_204 rfl rfl rfl (by decide) rfl rfl (Nat.le_of_ble_eq_true rfl) dX10_who_4 rfl ?_
  rintro _ ν1 ⟨rfl, q1⟩
  show zX shC σ 6 MX10_who 7 [(0, zr 0)] [zi (pWho (cR 1 μ) (cS 18 μ))] ν1 _
  refine zx_iret rfl dX10_who_7 ?_
  exact ⟨rfl, q1⟩
