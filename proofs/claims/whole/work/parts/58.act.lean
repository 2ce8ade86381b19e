set_option maxHeartbeats 4000000 in
set_option maxRecDepth 100000 in
theorem eX11_act_0 (σ : zG) (μ : zM) (h : Int32) (act : Int32) (x : Int32) (ok : pOK (rS 1 μ)) : zMet shR σ 10 MX11_act yX11_act [zr 0, zi h, zi act, zi x] μ (fun rr μ' => rr = some (zi (gAct μ h act x)) ∧ zJ [0, 24] μ μ' ∧ (∀ j, j ≠ 35 → j ≠ 36 → j ≠ 37 → j ≠ 38 → j ≠ 39 → μ' 0 j = μ 0 j) ∧ μ' 0 35 = nI (gActL μ h act).length ∧ ∀ i, i < (gActL μ h act).length → μ' 24 i = (gActL μ h act).getD i 0) := by
  refine zmetF (by decide +kernel) rfl (Nat.le_of_ble_eq_true rfl) ?_
  show zX shR σ 10 MX11_act 0 [(0, zr 0), (1, zi h), (2, zi act), (3, zi x)] [] μ _
  refine zx_aload_n (k := 0) (nn := 1) dX11_act_0 rfl rfl rfl ?_
  refine zx_iconst (v := 0) (nn := 2) rfl dX11_act_1 rfl ?_
  refine zx_putI (nn := 5) fpX11_399 rfl rfl rfl rfl dX11_act_2 rfl ?_
  refine zx_iload_n (k := 1) (nn := 6) dX11_act_5 rfl rfl rfl ?_
  refine zx_callSf (nn := 9) (d' := 1) (as := [zi h]) (rest := []) (n := 1) (eX11_isSheet σ (zp μ 0 35 0) h  ) kX11_isSheet mlX11_371 (by decide) rfl rfl (Nat.le_of_ble_eq_true rfl) dX11_act_6 rfl ?_
  show zX shR σ 10 MX11_act 9 [(0, zr 0), (1, zi h), (2, zi act), (3, zi x)] [zi (zb (pHas 4 h))] (zp μ 0 35 0) _
  refine zx_ifb_eq (tgt := 33) (nn := 12) dX11_act_9 (by decide) rfl (fun h9 => ?_) (fun h9 => ?_)
  · refine zx_iconst (v := 0) (nn := 34) rfl dX11_act_33 rfl ?_
    refine zx_iret rfl dX11_act_34 ?_
    have hC : gActC μ h act = false := by simp [gActC, h9]
    exact ⟨congrArg (fun x => some (zi x)) (by unfold gAct; rw [hC]; rfl), by unfold gActL; rw [hC]; exact ⟨zJ.rf.p (by decide), fun j hj1 _ _ _ _ => by rw [zp_eq, pk_un hj1], by rw [zp_eq]; exact pk_us, fun i hi => absurd hi (by simp)⟩⟩
  · refine zx_iload_n (k := 2) (nn := 13) dX11_act_12 rfl rfl rfl ?_
    refine zx_i2l (nn := 14) dX11_act_13 rfl ?_
    refine zx_lconst (v := 0) (nn := 15) rfl dX11_act_14 rfl ?_
    refine zx_ldc2 (v := 3) (nn := 18) cwX11_332 dX11_act_15 rfl ?_
    refine zx_callSf (nn := 21) (d' := 0) (as := [zj act.toInt64, zj 0, zj 3]) (rest := []) (n := 3) (eX11_isIn σ (zp μ 0 35 0) act.toInt64 0 3  ) kX11_isIn mlX11_70 (by decide) rfl rfl (Nat.le_of_ble_eq_true rfl) dX11_act_18 rfl ?_
    show zX shR σ 10 MX11_act 21 [(0, zr 0), (1, zi h), (2, zi act), (3, zi x)] [zi (zb (decide (0 ≤ act.toInt64) && decide (act.toInt64 ≤ 3)))] (zp μ 0 35 0) _
    rw [show zb (decide (0 ≤ act.toInt64) && decide (act.toInt64 ≤ 3)) = zb (pIn act 0 3) from congrArg zb (in_r act 0 3)]
    show zX shR σ 10 MX11_act 21 [(0, zr 0), (1, zi h), (2, zi act), (3, zi x)] [zi (zb (pIn act 0 3))] (zp μ 0 35 0) _
    refine zx_ifb_eq (tgt := 33) (nn := 24) dX11_act_21 (by decide) rfl (fun h21 => ?_) (fun h21 => ?_)
    · refine zx_iconst (v := 0) (nn := 34) rfl dX11_act_33 rfl ?_
      refine zx_iret rfl dX11_act_34 ?_
      have hC : gActC μ h act = false := by simp [gActC, h9, h21]
      exact ⟨congrArg (fun x => some (zi x)) (by unfold gAct; rw [hC]; rfl), by unfold gActL; rw [hC]; exact ⟨zJ.rf.p (by decide), fun j hj1 _ _ _ _ => by rw [zp_eq, pk_un hj1], by rw [zp_eq]; exact pk_us, fun i hi => absurd hi (by simp)⟩⟩
    · obtain ⟨k1, n_h, rfl⟩ := has4 h9
      show zX shR σ 10 MX11_act 24 [(0, zr 0), (1, zi (nI k1)), (2, zi act), (3, zi x)] [] (zp μ 0 35 0) _
      rcases (act4 h21 : act = 0 ∨ act = 1 ∨ act = 2 ∨ act = 3) with rfl | rfl | rfl | rfl
      · show zX shR σ 10 MX11_act 24 [(0, zr 0), (1, zi (nI k1)), (2, zi 0), (3, zi x)] [] (zp μ 0 35 0) _
        refine zx_aload_n (k := 0) (nn := 25) dX11_act_24 rfl rfl rfl ?_
        refine zx_iload_n (k := 1) (nn := 26) dX11_act_25 rfl rfl rfl ?_
        refine zx_callVf (nn := 29) (k := 0) (d' := 2) (as := [zi (nI k1)]) (rest := []) (n := 1) (eX11_heldBy_0 σ (zp μ 0 35 0) k1  ok n_h.1) kX11_heldBy mlX11_396 rfl rfl rfl (by decide) rfl rfl (Nat.le_of_ble_eq_true rfl) dX11_act_26 rfl ?_
        show zX shR σ 10 MX11_act 29 [(0, zr 0), (1, zi (nI k1)), (2, zi 0), (3, zi x)] [zi (gH (zp μ 0 35 0) k1)] (zp μ 0 35 0) _
        rw [show gH (zp μ 0 35 0) k1 = gH μ k1 from rfl]
        show zX shR σ 10 MX11_act 29 [(0, zr 0), (1, zi (nI k1)), (2, zi 0), (3, zi x)] [zi (gH μ k1)] (zp μ 0 35 0) _
        refine zx_iconst (v := 1) (nn := 30) rfl dX11_act_29 rfl ?_
        refine zx_icmp_eq (tgt := 35) (nn := 33) dX11_act_30 (by decide) rfl (fun h30 => ?_) (fun h30 => ?_)
        · refine zx_aload_n (k := 0) (nn := 36) dX11_act_35 rfl rfl rfl ?_
          refine zx_aload_n (k := 0) (nn := 37) dX11_act_36 rfl rfl rfl ?_
          refine zx_getR (q := 22) (nn := 40) flX11_61 rfl rfl dX11_act_37 rfl ?_
          refine zx_iload_n (k := 1) (nn := 41) dX11_act_40 rfl rfl rfl ?_
          refine zx_iald_n (j := k1) (nn := 42) rfl n_h.1 (by decide) dX11_act_41 rfl ?_
          obtain ⟨l1, hj1, hj2⟩ := hasL ok (gH_1 h30)
          rw [show (zp μ 0 35 0) 22 k1 = nI l1 from hj2]
          show zX shR σ 10 MX11_act 42 [(0, zr 0), (1, zi (nI k1)), (2, zi 0), (3, zi x)] [zi (nI l1), zr 0] (zp μ 0 35 0) _
          refine zx_putI (nn := 45) fpX11_420 rfl rfl rfl rfl dX11_act_42 rfl ?_
          refine zx_aload_n (k := 0) (nn := 46) dX11_act_45 rfl rfl rfl ?_
          refine zx_aload_n (k := 0) (nn := 47) dX11_act_46 rfl rfl rfl ?_
          refine zx_aload_n (k := 0) (nn := 48) dX11_act_47 rfl rfl rfl ?_
          refine zx_getI (nn := 51) flX11_420 rfl rfl dX11_act_48 rfl ?_
          show zX shR σ 10 MX11_act 51 [(0, zr 0), (1, zi (nI k1)), (2, zi 0), (3, zi x)] [zi (nI l1), zr 0, zr 0] (zp (zp μ 0 35 0) 0 37 (nI l1)) _
          refine zx_iconst (v := 0) (nn := 52) rfl dX11_act_51 rfl ?_
          refine zx_callVf (nn := 55) (k := 0) (d' := 0) (as := [zi (nI l1), zi 0]) (rest := [zr 0]) (n := 2) (eX11_of_0 σ (zp (zp μ 0 35 0) 0 37 (nI l1)) l1 0  hj1.2.1 (by decide)) kX11_of mlX11_88 rfl rfl rfl (by decide) rfl rfl (Nat.le_of_ble_eq_true rfl) dX11_act_52 rfl ?_
          show zX shR σ 10 MX11_act 55 [(0, zr 0), (1, zi (nI k1)), (2, zi 0), (3, zi x)] [zi (rS 1 (zp (zp μ 0 35 0) 0 37 (nI l1)) (7 + 4 * l1 + 0)), zr 0] (zp (zp μ 0 35 0) 0 37 (nI l1)) _
          rw [show rS 1 (zp (zp μ 0 35 0) 0 37 (nI l1)) (7 + 4 * l1 + 0) = rS 1 μ (7 + 4 * l1) from rfl]
          show zX shR σ 10 MX11_act 55 [(0, zr 0), (1, zi (nI k1)), (2, zi 0), (3, zi x)] [zi (rS 1 μ (7 + 4 * l1)), zr 0] (zp (zp μ 0 35 0) 0 37 (nI l1)) _
          refine zx_putI (nn := 58) fpX11_417 rfl rfl rfl rfl dX11_act_55 rfl ?_
          refine zx_aload_n (k := 0) (nn := 59) dX11_act_58 rfl rfl rfl ?_
          refine zx_aload_n (k := 0) (nn := 60) dX11_act_59 rfl rfl rfl ?_
          refine zx_aload_n (k := 0) (nn := 61) dX11_act_60 rfl rfl rfl ?_
          refine zx_getI (nn := 64) flX11_420 rfl rfl dX11_act_61 rfl ?_
          show zX shR σ 10 MX11_act 64 [(0, zr 0), (1, zi (nI k1)), (2, zi 0), (3, zi x)] [zi (nI l1), zr 0, zr 0] (zp (zp (zp μ 0 35 0) 0 37 (nI l1)) 0 36 (rS 1 μ (7 + 4 * l1))) _
          refine zx_iconst (v := 2) (nn := 65) rfl dX11_act_64 rfl ?_
          refine zx_callVf (nn := 68) (k := 0) (d' := 0) (as := [zi (nI l1), zi 2]) (rest := [zr 0]) (n := 2) (eX11_of_0 σ (zp (zp (zp μ 0 35 0) 0 37 (nI l1)) 0 36 (rS 1 μ (7 + 4 * l1))) l1 2  hj1.2.1 (by decide)) kX11_of mlX11_88 rfl rfl rfl (by decide) rfl rfl (Nat.le_of_ble_eq_true rfl) dX11_act_65 rfl ?_
          show zX shR σ 10 MX11_act 68 [(0, zr 0), (1, zi (nI k1)), (2, zi 0), (3, zi x)] [zi (rS 1 (zp (zp (zp μ 0 35 0) 0 37 (nI l1)) 0 36 (rS 1 μ (7 + 4 * l1))) (7 + 4 * l1 + 2)), zr 0] (zp (zp (zp μ 0 35 0) 0 37 (nI l1)) 0 36 (rS 1 μ (7 + 4 * l1))) _
          rw [show rS 1 (zp (zp (zp μ 0 35 0) 0 37 (nI l1)) 0 36 (rS 1 μ (7 + 4 * l1))) (7 + 4 * l1 + 2) = rS 1 μ (7 + 4 * l1 + 2) from rfl]
          show zX shR σ 10 MX11_act 68 [(0, zr 0), (1, zi (nI k1)), (2, zi 0), (3, zi x)] [zi (rS 1 μ (7 + 4 * l1 + 2)), zr 0] (zp (zp (zp μ 0 35 0) 0 37 (nI l1)) 0 36 (rS 1 μ (7 + 4 * l1))) _
          refine zx_putI (nn := 71) fpX11_409 rfl rfl rfl rfl dX11_act_68 rfl ?_
          refine zx_aload_n (k := 0) (nn := 72) dX11_act_71 rfl rfl rfl ?_
          refine zx_iconst (v := 0) (nn := 73) rfl dX11_act_72 rfl ?_
          refine zx_putI (nn := 76) fpX11_402 rfl rfl rfl rfl dX11_act_73 rfl ?_
          rcases kind5 (ok.2.2.2 l1 hj1.1).1 with hκ | hκ | hκ | hκ | hκ
          · rw [hκ]
            show zX shR σ 10 MX11_act 76 [(0, zr 0), (1, zi (nI k1)), (2, zi 0), (3, zi x)] [] (zp (zp (zp (zp (zp μ 0 35 0) 0 37 (nI l1)) 0 36 1) 0 38 (rS 1 μ (7 + 4 * l1 + 2))) 0 39 0) _
            by_cases hd : rS 1 μ (7 + 4 * l1 + 2) = nI l1
            · refine zx_iload_n (k := 2) (nn := 77) dX11_act_76 rfl rfl rfl ?_
              refine zx_if_ne (tgt := 92) (nn := 80) dX11_act_77 (by decide) rfl (fun h77 => ?_) (fun h77 => ?_)
              · exact absurd h77 (by decide)
              · refine zx_aload_n (k := 0) (nn := 81) dX11_act_80 rfl rfl rfl ?_
                refine zx_aload_n (k := 0) (nn := 82) dX11_act_81 rfl rfl rfl ?_
                refine zx_getI (nn := 85) flX11_417 rfl rfl dX11_act_82 rfl ?_
                show zX shR σ 10 MX11_act 85 [(0, zr 0), (1, zi (nI k1)), (2, zi 0), (3, zi x)] [zi 1, zr 0] (zp (zp (zp (zp (zp μ 0 35 0) 0 37 (nI l1)) 0 36 1) 0 38 (rS 1 μ (7 + 4 * l1 + 2))) 0 39 0) _
                refine zx_iload_n (k := 3) (nn := 86) dX11_act_85 rfl rfl rfl ?_
                refine zx_callV (nn := 89) (k := 0) (d' := 2) (as := [zi 1, zi x]) (rest := []) (n := 2) (eX11_aims_1 σ (zp (zp (zp (zp (zp μ 0 35 0) 0 37 (nI l1)) 0 36 1) 0 38 (rS 1 μ (7 + 4 * l1 + 2))) 0 39 0) x 0 (rS 1 μ (7 + 4 * l1 + 2)) (nI l1) rfl (by omega) rfl rfl rfl) kX11_aims mlX11_411 rfl rfl rfl (by decide) rfl rfl (Nat.le_of_ble_eq_true rfl) dX11_act_86 rfl ?_
                rintro _ ν1 ⟨rfl, q1⟩
                show zX shR σ 10 MX11_act 89 [(0, zr 0), (1, zi (nI k1)), (2, zi 0), (3, zi x)] [zi ((x + (rS 1 μ (7 + 4 * l1 + 2))) * 2)] ν1 _
                refine zx_goto (tgt := 135) dX11_act_89 (by decide) ?_
                refine zx_istore (nn := 137) (lv' := [(4, zi ((x + (rS 1 μ (7 + 4 * l1 + 2))) * 2)), (0, zr 0), (1, zi (nI k1)), (2, zi 0), (3, zi x)]) dX11_act_135 (by decide) rfl rfl ?_
                refine zx_aload_n (k := 1) (nn := 138) dX11_act_137 rfl rfl rfl ?_
                refine zx_getI (nn := 141) flX11_402 rfl rfl dX11_act_138 rfl ?_
                rw [show ν1 0 39 = 0 from q1.2.2.2.1]
                show zX shR σ 10 MX11_act 141 [(4, zi ((x + (rS 1 μ (7 + 4 * l1 + 2))) * 2)), (0, zr 0), (1, zi (nI k1)), (2, zi 0), (3, zi x)] [zi 0] ν1 _
                refine zx_if_eq (tgt := 149) (nn := 144) dX11_act_141 (by decide) rfl (fun h141 => ?_) (fun h141 => ?_)
                · refine zx_iload (k := 0) (nn := 151) dX11_act_149 rfl rfl ?_
                  refine zx_iret rfl dX11_act_151 ?_
                  have hC : gActC μ (nI k1) 0 = true := by simp [gActC, h9, h21, n_h.2.2, h30]
                  have eK : gKd μ (nI k1) = 1 := by unfold gKd gNm; rw [n_h.2.2, hj2, hj1.2.2]; exact hκ
                  have eN : gNm μ (nI k1) = nI l1 := by unfold gNm; rw [n_h.2.2]; exact hj2
                  have eZ : gSz μ (nI k1) = rS 1 μ (7 + 4 * l1 + 2) := by unfold gSz gNm; rw [n_h.2.2, hj2, hj1.2.2]
                  have hP : pThP 0 1 (nI l1) (rS 1 μ (7 + 4 * l1 + 2)) = false := by unfold pThP; rw [decide_eq_true hd]; rfl
                  have hL : pThL 0 1 (nI l1) (rS 1 μ (7 + 4 * l1 + 2)) = [20, 10] := by rfl
                  have hV : pThV 0 1 (nI l1) (rS 1 μ (7 + 4 * l1 + 2)) x = (x + (rS 1 μ (7 + 4 * l1 + 2))) * 2 := by rfl
                  refine ⟨congrArg (fun x => some (zi x)) ?_, ?_⟩
                  · unfold gAct
                    rw [if_pos hC, eK, eN, eZ, hP, hV]
                    rfl
                  unfold gActL
                  rw [if_pos hC, eK, eN, eZ, hL]
                  exact ⟨(((((zJ.rf.p (by decide)).p (by decide)).p (by decide)).p (by decide)).p (by decide)).tr q1.1, fun j j1 j2 j3 j4 j5 => by rw [q1.2.1 j j1 j5]; simp only [zp_eq]; rw [pk_un j5, pk_un j4, pk_un j2, pk_un j3, pk_un j1], q1.2.2.1, fun i hi => by have := q1.2.2.2.2.2 i hi; rw [Nat.zero_add] at this; exact this⟩
                · exact absurd h141 (by decide)
            · refine zx_iload_n (k := 2) (nn := 77) dX11_act_76 rfl rfl rfl ?_
              refine zx_if_ne (tgt := 92) (nn := 80) dX11_act_77 (by decide) rfl (fun h77 => ?_) (fun h77 => ?_)
              · exact absurd h77 (by decide)
              · refine zx_aload_n (k := 0) (nn := 81) dX11_act_80 rfl rfl rfl ?_
                refine zx_aload_n (k := 0) (nn := 82) dX11_act_81 rfl rfl rfl ?_
                refine zx_getI (nn := 85) flX11_417 rfl rfl dX11_act_82 rfl ?_
                show zX shR σ 10 MX11_act 85 [(0, zr 0), (1, zi (nI k1)), (2, zi 0), (3, zi x)] [zi 1, zr 0] (zp (zp (zp (zp (zp μ 0 35 0) 0 37 (nI l1)) 0 36 1) 0 38 (rS 1 μ (7 + 4 * l1 + 2))) 0 39 0) _
                refine zx_iload_n (k := 3) (nn := 86) dX11_act_85 rfl rfl rfl ?_
                refine zx_callV (nn := 89) (k := 0) (d' := 2) (as := [zi 1, zi x]) (rest := []) (n := 2) (eX11_aims_1 σ (zp (zp (zp (zp (zp μ 0 35 0) 0 37 (nI l1)) 0 36 1) 0 38 (rS 1 μ (7 + 4 * l1 + 2))) 0 39 0) x 0 (rS 1 μ (7 + 4 * l1 + 2)) (nI l1) rfl (by omega) rfl rfl rfl) kX11_aims mlX11_411 rfl rfl rfl (by decide) rfl rfl (Nat.le_of_ble_eq_true rfl) dX11_act_86 rfl ?_
                rintro _ ν2 ⟨rfl, q2⟩
                show zX shR σ 10 MX11_act 89 [(0, zr 0), (1, zi (nI k1)), (2, zi 0), (3, zi x)] [zi ((x + (rS 1 μ (7 + 4 * l1 + 2))) * 2)] ν2 _
                refine zx_goto (tgt := 135) dX11_act_89 (by decide) ?_
                refine zx_istore (nn := 137) (lv' := [(4, zi ((x + (rS 1 μ (7 + 4 * l1 + 2))) * 2)), (0, zr 0), (1, zi (nI k1)), (2, zi 0), (3, zi x)]) dX11_act_135 (by decide) rfl rfl ?_
                refine zx_aload_n (k := 1) (nn := 138) dX11_act_137 rfl rfl rfl ?_
                refine zx_getI (nn := 141) flX11_402 rfl rfl dX11_act_138 rfl ?_
                rw [show ν2 0 39 = 0 from q2.2.2.2.1]
                show zX shR σ 10 MX11_act 141 [(4, zi ((x + (rS 1 μ (7 + 4 * l1 + 2))) * 2)), (0, zr 0), (1, zi (nI k1)), (2, zi 0), (3, zi x)] [zi 0] ν2 _
                refine zx_if_eq (tgt := 149) (nn := 144) dX11_act_141 (by decide) rfl (fun h141 => ?_) (fun h141 => ?_)
                · refine zx_iload (k := 0) (nn := 151) dX11_act_149 rfl rfl ?_
                  refine zx_iret rfl dX11_act_151 ?_
                  have hC : gActC μ (nI k1) 0 = true := by simp [gActC, h9, h21, n_h.2.2, h30]
                  have eK : gKd μ (nI k1) = 1 := by unfold gKd gNm; rw [n_h.2.2, hj2, hj1.2.2]; exact hκ
                  have eN : gNm μ (nI k1) = nI l1 := by unfold gNm; rw [n_h.2.2]; exact hj2
                  have eZ : gSz μ (nI k1) = rS 1 μ (7 + 4 * l1 + 2) := by unfold gSz gNm; rw [n_h.2.2, hj2, hj1.2.2]
                  have hP : pThP 0 1 (nI l1) (rS 1 μ (7 + 4 * l1 + 2)) = false := by unfold pThP; rw [decide_eq_false hd]; rfl
                  have hL : pThL 0 1 (nI l1) (rS 1 μ (7 + 4 * l1 + 2)) = [20, 10] := by rfl
                  have hV : pThV 0 1 (nI l1) (rS 1 μ (7 + 4 * l1 + 2)) x = (x + (rS 1 μ (7 + 4 * l1 + 2))) * 2 := by rfl
                  refine ⟨congrArg (fun x => some (zi x)) ?_, ?_⟩
                  · unfold gAct
                    rw [if_pos hC, eK, eN, eZ, hP, hV]
                    rfl
                  unfold gActL
                  rw [if_pos hC, eK, eN, eZ, hL]
                  exact ⟨(((((zJ.rf.p (by decide)).p (by decide)).p (by decide)).p (by decide)).p (by decide)).tr q2.1, fun j j1 j2 j3 j4 j5 => by rw [q2.2.1 j j1 j5]; simp only [zp_eq]; rw [pk_un j5, pk_un j4, pk_un j2, pk_un j3, pk_un j1], q2.2.2.1, fun i hi => by have := q2.2.2.2.2.2 i hi; rw [Nat.zero_add] at this; exact this⟩
                · exact absurd h141 (by decide)
          · rw [hκ]
            show zX shR σ 10 MX11_act 76 [(0, zr 0), (1, zi (nI k1)), (2, zi 0), (3, zi x)] [] (zp (zp (zp (zp (zp μ 0 35 0) 0 37 (nI l1)) 0 36 2) 0 38 (rS 1 μ (7 + 4 * l1 + 2))) 0 39 0) _
            by_cases hd : rS 1 μ (7 + 4 * l1 + 2) = nI l1
            · refine zx_iload_n (k := 2) (nn := 77) dX11_act_76 rfl rfl rfl ?_
              refine zx_if_ne (tgt := 92) (nn := 80) dX11_act_77 (by decide) rfl (fun h77 => ?_) (fun h77 => ?_)
              · exact absurd h77 (by decide)
              · refine zx_aload_n (k := 0) (nn := 81) dX11_act_80 rfl rfl rfl ?_
                refine zx_aload_n (k := 0) (nn := 82) dX11_act_81 rfl rfl rfl ?_
                refine zx_getI (nn := 85) flX11_417 rfl rfl dX11_act_82 rfl ?_
                show zX shR σ 10 MX11_act 85 [(0, zr 0), (1, zi (nI k1)), (2, zi 0), (3, zi x)] [zi 2, zr 0] (zp (zp (zp (zp (zp μ 0 35 0) 0 37 (nI l1)) 0 36 2) 0 38 (rS 1 μ (7 + 4 * l1 + 2))) 0 39 0) _
                refine zx_iload_n (k := 3) (nn := 86) dX11_act_85 rfl rfl rfl ?_
                refine zx_callV (nn := 89) (k := 0) (d' := 2) (as := [zi 2, zi x]) (rest := []) (n := 2) (eX11_aims_2 σ (zp (zp (zp (zp (zp μ 0 35 0) 0 37 (nI l1)) 0 36 2) 0 38 (rS 1 μ (7 + 4 * l1 + 2))) 0 39 0) x 0 (rS 1 μ (7 + 4 * l1 + 2)) (nI l1) rfl (by omega) rfl rfl rfl) kX11_aims mlX11_411 rfl rfl rfl (by decide) rfl rfl (Nat.le_of_ble_eq_true rfl) dX11_act_86 rfl ?_
                rintro _ ν3 ⟨rfl, q3⟩
                show zX shR σ 10 MX11_act 89 [(0, zr 0), (1, zi (nI k1)), (2, zi 0), (3, zi x)] [zi (x + (rS 1 μ (7 + 4 * l1 + 2)))] ν3 _
                refine zx_goto (tgt := 135) dX11_act_89 (by decide) ?_
                refine zx_istore (nn := 137) (lv' := [(4, zi (x + (rS 1 μ (7 + 4 * l1 + 2)))), (0, zr 0), (1, zi (nI k1)), (2, zi 0), (3, zi x)]) dX11_act_135 (by decide) rfl rfl ?_
                refine zx_aload_n (k := 1) (nn := 138) dX11_act_137 rfl rfl rfl ?_
                refine zx_getI (nn := 141) flX11_402 rfl rfl dX11_act_138 rfl ?_
                rw [show ν3 0 39 = 0 from q3.2.2.2.1]
                show zX shR σ 10 MX11_act 141 [(4, zi (x + (rS 1 μ (7 + 4 * l1 + 2)))), (0, zr 0), (1, zi (nI k1)), (2, zi 0), (3, zi x)] [zi 0] ν3 _
                refine zx_if_eq (tgt := 149) (nn := 144) dX11_act_141 (by decide) rfl (fun h141 => ?_) (fun h141 => ?_)
                · refine zx_iload (k := 0) (nn := 151) dX11_act_149 rfl rfl ?_
                  refine zx_iret rfl dX11_act_151 ?_
                  have hC : gActC μ (nI k1) 0 = true := by simp [gActC, h9, h21, n_h.2.2, h30]
                  have eK : gKd μ (nI k1) = 2 := by unfold gKd gNm; rw [n_h.2.2, hj2, hj1.2.2]; exact hκ
                  have eN : gNm μ (nI k1) = nI l1 := by unfold gNm; rw [n_h.2.2]; exact hj2
                  have eZ : gSz μ (nI k1) = rS 1 μ (7 + 4 * l1 + 2) := by unfold gSz gNm; rw [n_h.2.2, hj2, hj1.2.2]
                  have hP : pThP 0 2 (nI l1) (rS 1 μ (7 + 4 * l1 + 2)) = false := by unfold pThP; rw [decide_eq_true hd]; rfl
                  have hL : pThL 0 2 (nI l1) (rS 1 μ (7 + 4 * l1 + 2)) = [10] := by rfl
                  have hV : pThV 0 2 (nI l1) (rS 1 μ (7 + 4 * l1 + 2)) x = x + (rS 1 μ (7 + 4 * l1 + 2)) := by rfl
                  refine ⟨congrArg (fun x => some (zi x)) ?_, ?_⟩
                  · unfold gAct
                    rw [if_pos hC, eK, eN, eZ, hP, hV]
                    rfl
                  unfold gActL
                  rw [if_pos hC, eK, eN, eZ, hL]
                  exact ⟨(((((zJ.rf.p (by decide)).p (by decide)).p (by decide)).p (by decide)).p (by decide)).tr q3.1, fun j j1 j2 j3 j4 j5 => by rw [q3.2.1 j j1 j5]; simp only [zp_eq]; rw [pk_un j5, pk_un j4, pk_un j2, pk_un j3, pk_un j1], q3.2.2.1, fun i hi => by have := q3.2.2.2.2.2 i hi; rw [Nat.zero_add] at this; exact this⟩
                · exact absurd h141 (by decide)
            · refine zx_iload_n (k := 2) (nn := 77) dX11_act_76 rfl rfl rfl ?_
              refine zx_if_ne (tgt := 92) (nn := 80) dX11_act_77 (by decide) rfl (fun h77 => ?_) (fun h77 => ?_)
              · exact absurd h77 (by decide)
              · refine zx_aload_n (k := 0) (nn := 81) dX11_act_80 rfl rfl rfl ?_
                refine zx_aload_n (k := 0) (nn := 82) dX11_act_81 rfl rfl rfl ?_
                refine zx_getI (nn := 85) flX11_417 rfl rfl dX11_act_82 rfl ?_
                show zX shR σ 10 MX11_act 85 [(0, zr 0), (1, zi (nI k1)), (2, zi 0), (3, zi x)] [zi 2, zr 0] (zp (zp (zp (zp (zp μ 0 35 0) 0 37 (nI l1)) 0 36 2) 0 38 (rS 1 μ (7 + 4 * l1 + 2))) 0 39 0) _
                refine zx_iload_n (k := 3) (nn := 86) dX11_act_85 rfl rfl rfl ?_
                refine zx_callV (nn := 89) (k := 0) (d' := 2) (as := [zi 2, zi x]) (rest := []) (n := 2) (eX11_aims_2 σ (zp (zp (zp (zp (zp μ 0 35 0) 0 37 (nI l1)) 0 36 2) 0 38 (rS 1 μ (7 + 4 * l1 + 2))) 0 39 0) x 0 (rS 1 μ (7 + 4 * l1 + 2)) (nI l1) rfl (by omega) rfl rfl rfl) kX11_aims mlX11_411 rfl rfl rfl (by decide) rfl rfl (Nat.le_of_ble_eq_true rfl) dX11_act_86 rfl ?_
                rintro _ ν4 ⟨rfl, q4⟩
                show zX shR σ 10 MX11_act 89 [(0, zr 0), (1, zi (nI k1)), (2, zi 0), (3, zi x)] [zi (x + (rS 1 μ (7 + 4 * l1 + 2)))] ν4 _
                refine zx_goto (tgt := 135) dX11_act_89 (by decide) ?_
                refine zx_istore (nn := 137) (lv' := [(4, zi (x + (rS 1 μ (7 + 4 * l1 + 2)))), (0, zr 0), (1, zi (nI k1)), (2, zi 0), (3, zi x)]) dX11_act_135 (by decide) rfl rfl ?_
                refine zx_aload_n (k := 1) (nn := 138) dX11_act_137 rfl rfl rfl ?_
                refine zx_getI (nn := 141) flX11_402 rfl rfl dX11_act_138 rfl ?_
                rw [show ν4 0 39 = 0 from q4.2.2.2.1]
                show zX shR σ 10 MX11_act 141 [(4, zi (x + (rS 1 μ (7 + 4 * l1 + 2)))), (0, zr 0), (1, zi (nI k1)), (2, zi 0), (3, zi x)] [zi 0] ν4 _
                refine zx_if_eq (tgt := 149) (nn := 144) dX11_act_141 (by decide) rfl (fun h141 => ?_) (fun h141 => ?_)
                · refine zx_iload (k := 0) (nn := 151) dX11_act_149 rfl rfl ?_
                  refine zx_iret rfl dX11_act_151 ?_
                  have hC : gActC μ (nI k1) 0 = true := by simp [gActC, h9, h21, n_h.2.2, h30]
                  have eK : gKd μ (nI k1) = 2 := by unfold gKd gNm; rw [n_h.2.2, hj2, hj1.2.2]; exact hκ
                  have eN : gNm μ (nI k1) = nI l1 := by unfold gNm; rw [n_h.2.2]; exact hj2
                  have eZ : gSz μ (nI k1) = rS 1 μ (7 + 4 * l1 + 2) := by unfold gSz gNm; rw [n_h.2.2, hj2, hj1.2.2]
                  have hP : pThP 0 2 (nI l1) (rS 1 μ (7 + 4 * l1 + 2)) = false := by unfold pThP; rw [decide_eq_false hd]; rfl
                  have hL : pThL 0 2 (nI l1) (rS 1 μ (7 + 4 * l1 + 2)) = [10] := by rfl
                  have hV : pThV 0 2 (nI l1) (rS 1 μ (7 + 4 * l1 + 2)) x = x + (rS 1 μ (7 + 4 * l1 + 2)) := by rfl
                  refine ⟨congrArg (fun x => some (zi x)) ?_, ?_⟩
                  · unfold gAct
                    rw [if_pos hC, eK, eN, eZ, hP, hV]
                    rfl
                  unfold gActL
                  rw [if_pos hC, eK, eN, eZ, hL]
                  exact ⟨(((((zJ.rf.p (by decide)).p (by decide)).p (by decide)).p (by decide)).p (by decide)).tr q4.1, fun j j1 j2 j3 j4 j5 => by rw [q4.2.1 j j1 j5]; simp only [zp_eq]; rw [pk_un j5, pk_un j4, pk_un j2, pk_un j3, pk_un j1], q4.2.2.1, fun i hi => by have := q4.2.2.2.2.2 i hi; rw [Nat.zero_add] at this; exact this⟩
                · exact absurd h141 (by decide)
          · rw [hκ]
            show zX shR σ 10 MX11_act 76 [(0, zr 0), (1, zi (nI k1)), (2, zi 0), (3, zi x)] [] (zp (zp (zp (zp (zp μ 0 35 0) 0 37 (nI l1)) 0 36 3) 0 38 (rS 1 μ (7 + 4 * l1 + 2))) 0 39 0) _
            by_cases hd : rS 1 μ (7 + 4 * l1 + 2) = nI l1
            · refine zx_iload_n (k := 2) (nn := 77) dX11_act_76 rfl rfl rfl ?_
              refine zx_if_ne (tgt := 92) (nn := 80) dX11_act_77 (by decide) rfl (fun h77 => ?_) (fun h77 => ?_)
              · exact absurd h77 (by decide)
              · refine zx_aload_n (k := 0) (nn := 81) dX11_act_80 rfl rfl rfl ?_
                refine zx_aload_n (k := 0) (nn := 82) dX11_act_81 rfl rfl rfl ?_
                refine zx_getI (nn := 85) flX11_417 rfl rfl dX11_act_82 rfl ?_
                show zX shR σ 10 MX11_act 85 [(0, zr 0), (1, zi (nI k1)), (2, zi 0), (3, zi x)] [zi 3, zr 0] (zp (zp (zp (zp (zp μ 0 35 0) 0 37 (nI l1)) 0 36 3) 0 38 (rS 1 μ (7 + 4 * l1 + 2))) 0 39 0) _
                refine zx_iload_n (k := 3) (nn := 86) dX11_act_85 rfl rfl rfl ?_
                refine zx_callV (nn := 89) (k := 0) (d' := 3) (as := [zi 3, zi x]) (rest := []) (n := 2) (eX11_aims_3 σ (zp (zp (zp (zp (zp μ 0 35 0) 0 37 (nI l1)) 0 36 3) 0 38 (rS 1 μ (7 + 4 * l1 + 2))) 0 39 0) x 0 (rS 1 μ (7 + 4 * l1 + 2)) (nI l1) rfl (by omega) rfl rfl rfl) kX11_aims mlX11_411 rfl rfl rfl (by decide) rfl rfl (Nat.le_of_ble_eq_true rfl) dX11_act_86 rfl ?_
                rintro _ ν5 ⟨rfl, q5⟩
                show zX shR σ 10 MX11_act 89 [(0, zr 0), (1, zi (nI k1)), (2, zi 0), (3, zi x)] [zi (x + (rS 1 μ (7 + 4 * l1 + 2)) - 1)] ν5 _
                refine zx_goto (tgt := 135) dX11_act_89 (by decide) ?_
                refine zx_istore (nn := 137) (lv' := [(4, zi (x + (rS 1 μ (7 + 4 * l1 + 2)) - 1)), (0, zr 0), (1, zi (nI k1)), (2, zi 0), (3, zi x)]) dX11_act_135 (by decide) rfl rfl ?_
                refine zx_aload_n (k := 1) (nn := 138) dX11_act_137 rfl rfl rfl ?_
                refine zx_getI (nn := 141) flX11_402 rfl rfl dX11_act_138 rfl ?_
                rw [show ν5 0 39 = 0 from q5.2.2.2.1]
                show zX shR σ 10 MX11_act 141 [(4, zi (x + (rS 1 μ (7 + 4 * l1 + 2)) - 1)), (0, zr 0), (1, zi (nI k1)), (2, zi 0), (3, zi x)] [zi 0] ν5 _
                refine zx_if_eq (tgt := 149) (nn := 144) dX11_act_141 (by decide) rfl (fun h141 => ?_) (fun h141 => ?_)
                · refine zx_iload (k := 0) (nn := 151) dX11_act_149 rfl rfl ?_
                  refine zx_iret rfl dX11_act_151 ?_
                  have hC : gActC μ (nI k1) 0 = true := by simp [gActC, h9, h21, n_h.2.2, h30]
                  have eK : gKd μ (nI k1) = 3 := by unfold gKd gNm; rw [n_h.2.2, hj2, hj1.2.2]; exact hκ
                  have eN : gNm μ (nI k1) = nI l1 := by unfold gNm; rw [n_h.2.2]; exact hj2
                  have eZ : gSz μ (nI k1) = rS 1 μ (7 + 4 * l1 + 2) := by unfold gSz gNm; rw [n_h.2.2, hj2, hj1.2.2]
                  have hP : pThP 0 3 (nI l1) (rS 1 μ (7 + 4 * l1 + 2)) = false := by unfold pThP; rw [decide_eq_true hd]; rfl
                  have hL : pThL 0 3 (nI l1) (rS 1 μ (7 + 4 * l1 + 2)) = [50, 10] := by rfl
                  have hV : pThV 0 3 (nI l1) (rS 1 μ (7 + 4 * l1 + 2)) x = x + (rS 1 μ (7 + 4 * l1 + 2)) - 1 := by rfl
                  refine ⟨congrArg (fun x => some (zi x)) ?_, ?_⟩
                  · unfold gAct
                    rw [if_pos hC, eK, eN, eZ, hP, hV]
                    rfl
                  unfold gActL
                  rw [if_pos hC, eK, eN, eZ, hL]
                  exact ⟨(((((zJ.rf.p (by decide)).p (by decide)).p (by decide)).p (by decide)).p (by decide)).tr q5.1, fun j j1 j2 j3 j4 j5 => by rw [q5.2.1 j j1 j5]; simp only [zp_eq]; rw [pk_un j5, pk_un j4, pk_un j2, pk_un j3, pk_un j1], q5.2.2.1, fun i hi => by have := q5.2.2.2.2.2 i hi; rw [Nat.zero_add] at this; exact this⟩
                · exact absurd h141 (by decide)
            · refine zx_iload_n (k := 2) (nn := 77) dX11_act_76 rfl rfl rfl ?_
              refine zx_if_ne (tgt := 92) (nn := 80) dX11_act_77 (by decide) rfl (fun h77 => ?_) (fun h77 => ?_)
              · exact absurd h77 (by decide)
              · refine zx_aload_n (k := 0) (nn := 81) dX11_act_80 rfl rfl rfl ?_
                refine zx_aload_n (k := 0) (nn := 82) dX11_act_81 rfl rfl rfl ?_
                refine zx_getI (nn := 85) flX11_417 rfl rfl dX11_act_82 rfl ?_
                show zX shR σ 10 MX11_act 85 [(0, zr 0), (1, zi (nI k1)), (2, zi 0), (3, zi x)] [zi 3, zr 0] (zp (zp (zp (zp (zp μ 0 35 0) 0 37 (nI l1)) 0 36 3) 0 38 (rS 1 μ (7 + 4 * l1 + 2))) 0 39 0) _
                refine zx_iload_n (k := 3) (nn := 86) dX11_act_85 rfl rfl rfl ?_
                refine zx_callV (nn := 89) (k := 0) (d' := 3) (as := [zi 3, zi x]) (rest := []) (n := 2) (eX11_aims_3 σ (zp (zp (zp (zp (zp μ 0 35 0) 0 37 (nI l1)) 0 36 3) 0 38 (rS 1 μ (7 + 4 * l1 + 2))) 0 39 0) x 0 (rS 1 μ (7 + 4 * l1 + 2)) (nI l1) rfl (by omega) rfl rfl rfl) kX11_aims mlX11_411 rfl rfl rfl (by decide) rfl rfl (Nat.le_of_ble_eq_true rfl) dX11_act_86 rfl ?_
                rintro _ ν6 ⟨rfl, q6⟩
                show zX shR σ 10 MX11_act 89 [(0, zr 0), (1, zi (nI k1)), (2, zi 0), (3, zi x)] [zi (x + (rS 1 μ (7 + 4 * l1 + 2)) - 1)] ν6 _
                refine zx_goto (tgt := 135) dX11_act_89 (by decide) ?_
                refine zx_istore (nn := 137) (lv' := [(4, zi (x + (rS 1 μ (7 + 4 * l1 + 2)) - 1)), (0, zr 0), (1, zi (nI k1)), (2, zi 0), (3, zi x)]) dX11_act_135 (by decide) rfl rfl ?_
                refine zx_aload_n (k := 1) (nn := 138) dX11_act_137 rfl rfl rfl ?_
                refine zx_getI (nn := 141) flX11_402 rfl rfl dX11_act_138 rfl ?_
                rw [show ν6 0 39 = 0 from q6.2.2.2.1]
                show zX shR σ 10 MX11_act 141 [(4, zi (x + (rS 1 μ (7 + 4 * l1 + 2)) - 1)), (0, zr 0), (1, zi (nI k1)), (2, zi 0), (3, zi x)] [zi 0] ν6 _
                refine zx_if_eq (tgt := 149) (nn := 144) dX11_act_141 (by decide) rfl (fun h141 => ?_) (fun h141 => ?_)
                · refine zx_iload (k := 0) (nn := 151) dX11_act_149 rfl rfl ?_
                  refine zx_iret rfl dX11_act_151 ?_
                  have hC : gActC μ (nI k1) 0 = true := by simp [gActC, h9, h21, n_h.2.2, h30]
                  have eK : gKd μ (nI k1) = 3 := by unfold gKd gNm; rw [n_h.2.2, hj2, hj1.2.2]; exact hκ
                  have eN : gNm μ (nI k1) = nI l1 := by unfold gNm; rw [n_h.2.2]; exact hj2
                  have eZ : gSz μ (nI k1) = rS 1 μ (7 + 4 * l1 + 2) := by unfold gSz gNm; rw [n_h.2.2, hj2, hj1.2.2]
                  have hP : pThP 0 3 (nI l1) (rS 1 μ (7 + 4 * l1 + 2)) = false := by unfold pThP; rw [decide_eq_false hd]; rfl
                  have hL : pThL 0 3 (nI l1) (rS 1 μ (7 + 4 * l1 + 2)) = [50, 10] := by rfl
                  have hV : pThV 0 3 (nI l1) (rS 1 μ (7 + 4 * l1 + 2)) x = x + (rS 1 μ (7 + 4 * l1 + 2)) - 1 := by rfl
                  refine ⟨congrArg (fun x => some (zi x)) ?_, ?_⟩
                  · unfold gAct
                    rw [if_pos hC, eK, eN, eZ, hP, hV]
                    rfl
                  unfold gActL
                  rw [if_pos hC, eK, eN, eZ, hL]
                  exact ⟨(((((zJ.rf.p (by decide)).p (by decide)).p (by decide)).p (by decide)).p (by decide)).tr q6.1, fun j j1 j2 j3 j4 j5 => by rw [q6.2.1 j j1 j5]; simp only [zp_eq]; rw [pk_un j5, pk_un j4, pk_un j2, pk_un j3, pk_un j1], q6.2.2.1, fun i hi => by have := q6.2.2.2.2.2 i hi; rw [Nat.zero_add] at this; exact this⟩
                · exact absurd h141 (by decide)
          · rw [hκ]
            show zX shR σ 10 MX11_act 76 [(0, zr 0), (1, zi (nI k1)), (2, zi 0), (3, zi x)] [] (zp (zp (zp (zp (zp μ 0 35 0) 0 37 (nI l1)) 0 36 4) 0 38 (rS 1 μ (7 + 4 * l1 + 2))) 0 39 0) _
            by_cases hd : rS 1 μ (7 + 4 * l1 + 2) = nI l1
            · refine zx_iload_n (k := 2) (nn := 77) dX11_act_76 rfl rfl rfl ?_
              refine zx_if_ne (tgt := 92) (nn := 80) dX11_act_77 (by decide) rfl (fun h77 => ?_) (fun h77 => ?_)
              · exact absurd h77 (by decide)
              · refine zx_aload_n (k := 0) (nn := 81) dX11_act_80 rfl rfl rfl ?_
                refine zx_aload_n (k := 0) (nn := 82) dX11_act_81 rfl rfl rfl ?_
                refine zx_getI (nn := 85) flX11_417 rfl rfl dX11_act_82 rfl ?_
                show zX shR σ 10 MX11_act 85 [(0, zr 0), (1, zi (nI k1)), (2, zi 0), (3, zi x)] [zi 4, zr 0] (zp (zp (zp (zp (zp μ 0 35 0) 0 37 (nI l1)) 0 36 4) 0 38 (rS 1 μ (7 + 4 * l1 + 2))) 0 39 0) _
                refine zx_iload_n (k := 3) (nn := 86) dX11_act_85 rfl rfl rfl ?_
                refine zx_callV (nn := 89) (k := 0) (d' := 2) (as := [zi 4, zi x]) (rest := []) (n := 2) (eX11_aims_4 σ (zp (zp (zp (zp (zp μ 0 35 0) 0 37 (nI l1)) 0 36 4) 0 38 (rS 1 μ (7 + 4 * l1 + 2))) 0 39 0) x 0 (rS 1 μ (7 + 4 * l1 + 2)) (nI l1) rfl (by omega) rfl rfl rfl) kX11_aims mlX11_411 rfl rfl rfl (by decide) rfl rfl (Nat.le_of_ble_eq_true rfl) dX11_act_86 rfl ?_
                rintro _ ν7 ⟨rfl, q7⟩
                show zX shR σ 10 MX11_act 89 [(0, zr 0), (1, zi (nI k1)), (2, zi 0), (3, zi x)] [zi (x + (rS 1 μ (7 + 4 * l1 + 2)))] ν7 _
                refine zx_goto (tgt := 135) dX11_act_89 (by decide) ?_
                refine zx_istore (nn := 137) (lv' := [(4, zi (x + (rS 1 μ (7 + 4 * l1 + 2)))), (0, zr 0), (1, zi (nI k1)), (2, zi 0), (3, zi x)]) dX11_act_135 (by decide) rfl rfl ?_
                refine zx_aload_n (k := 1) (nn := 138) dX11_act_137 rfl rfl rfl ?_
                refine zx_getI (nn := 141) flX11_402 rfl rfl dX11_act_138 rfl ?_
                rw [show ν7 0 39 = 0 from q7.2.2.2.1]
                show zX shR σ 10 MX11_act 141 [(4, zi (x + (rS 1 μ (7 + 4 * l1 + 2)))), (0, zr 0), (1, zi (nI k1)), (2, zi 0), (3, zi x)] [zi 0] ν7 _
                refine zx_if_eq (tgt := 149) (nn := 144) dX11_act_141 (by decide) rfl (fun h141 => ?_) (fun h141 => ?_)
                · refine zx_iload (k := 0) (nn := 151) dX11_act_149 rfl rfl ?_
                  refine zx_iret rfl dX11_act_151 ?_
                  have hC : gActC μ (nI k1) 0 = true := by simp [gActC, h9, h21, n_h.2.2, h30]
                  have eK : gKd μ (nI k1) = 4 := by unfold gKd gNm; rw [n_h.2.2, hj2, hj1.2.2]; exact hκ
                  have eN : gNm μ (nI k1) = nI l1 := by unfold gNm; rw [n_h.2.2]; exact hj2
                  have eZ : gSz μ (nI k1) = rS 1 μ (7 + 4 * l1 + 2) := by unfold gSz gNm; rw [n_h.2.2, hj2, hj1.2.2]
                  have hP : pThP 0 4 (nI l1) (rS 1 μ (7 + 4 * l1 + 2)) = false := by unfold pThP; rw [decide_eq_true hd]; rfl
                  have hL : pThL 0 4 (nI l1) (rS 1 μ (7 + 4 * l1 + 2)) = [10] := by rfl
                  have hV : pThV 0 4 (nI l1) (rS 1 μ (7 + 4 * l1 + 2)) x = x + (rS 1 μ (7 + 4 * l1 + 2)) := by rfl
                  refine ⟨congrArg (fun x => some (zi x)) ?_, ?_⟩
                  · unfold gAct
                    rw [if_pos hC, eK, eN, eZ, hP, hV]
                    rfl
                  unfold gActL
                  rw [if_pos hC, eK, eN, eZ, hL]
                  exact ⟨(((((zJ.rf.p (by decide)).p (by decide)).p (by decide)).p (by decide)).p (by decide)).tr q7.1, fun j j1 j2 j3 j4 j5 => by rw [q7.2.1 j j1 j5]; simp only [zp_eq]; rw [pk_un j5, pk_un j4, pk_un j2, pk_un j3, pk_un j1], q7.2.2.1, fun i hi => by have := q7.2.2.2.2.2 i hi; rw [Nat.zero_add] at this; exact this⟩
                · exact absurd h141 (by decide)
            · refine zx_iload_n (k := 2) (nn := 77) dX11_act_76 rfl rfl rfl ?_
              refine zx_if_ne (tgt := 92) (nn := 80) dX11_act_77 (by decide) rfl (fun h77 => ?_) (fun h77 => ?_)
              · exact absurd h77 (by decide)
              · refine zx_aload_n (k := 0) (nn := 81) dX11_act_80 rfl rfl rfl ?_
                refine zx_aload_n (k := 0) (nn := 82) dX11_act_81 rfl rfl rfl ?_
                refine zx_getI (nn := 85) flX11_417 rfl rfl dX11_act_82 rfl ?_
                show zX shR σ 10 MX11_act 85 [(0, zr 0), (1, zi (nI k1)), (2, zi 0), (3, zi x)] [zi 4, zr 0] (zp (zp (zp (zp (zp μ 0 35 0) 0 37 (nI l1)) 0 36 4) 0 38 (rS 1 μ (7 + 4 * l1 + 2))) 0 39 0) _
                refine zx_iload_n (k := 3) (nn := 86) dX11_act_85 rfl rfl rfl ?_
                refine zx_callV (nn := 89) (k := 0) (d' := 2) (as := [zi 4, zi x]) (rest := []) (n := 2) (eX11_aims_4 σ (zp (zp (zp (zp (zp μ 0 35 0) 0 37 (nI l1)) 0 36 4) 0 38 (rS 1 μ (7 + 4 * l1 + 2))) 0 39 0) x 0 (rS 1 μ (7 + 4 * l1 + 2)) (nI l1) rfl (by omega) rfl rfl rfl) kX11_aims mlX11_411 rfl rfl rfl (by decide) rfl rfl (Nat.le_of_ble_eq_true rfl) dX11_act_86 rfl ?_
                rintro _ ν8 ⟨rfl, q8⟩
                show zX shR σ 10 MX11_act 89 [(0, zr 0), (1, zi (nI k1)), (2, zi 0), (3, zi x)] [zi (x + (rS 1 μ (7 + 4 * l1 + 2)))] ν8 _
                refine zx_goto (tgt := 135) dX11_act_89 (by decide) ?_
                refine zx_istore (nn := 137) (lv' := [(4, zi (x + (rS 1 μ (7 + 4 * l1 + 2)))), (0, zr 0), (1, zi (nI k1)), (2, zi 0), (3, zi x)]) dX11_act_135 (by decide) rfl rfl ?_
                refine zx_aload_n (k := 1) (nn := 138) dX11_act_137 rfl rfl rfl ?_
                refine zx_getI (nn := 141) flX11_402 rfl rfl dX11_act_138 rfl ?_
                rw [show ν8 0 39 = 0 from q8.2.2.2.1]
                show zX shR σ 10 MX11_act 141 [(4, zi (x + (rS 1 μ (7 + 4 * l1 + 2)))), (0, zr 0), (1, zi (nI k1)), (2, zi 0), (3, zi x)] [zi 0] ν8 _
                refine zx_if_eq (tgt := 149) (nn := 144) dX11_act_141 (by decide) rfl (fun h141 => ?_) (fun h141 => ?_)
                · refine zx_iload (k := 0) (nn := 151) dX11_act_149 rfl rfl ?_
                  refine zx_iret rfl dX11_act_151 ?_
                  have hC : gActC μ (nI k1) 0 = true := by simp [gActC, h9, h21, n_h.2.2, h30]
                  have eK : gKd μ (nI k1) = 4 := by unfold gKd gNm; rw [n_h.2.2, hj2, hj1.2.2]; exact hκ
                  have eN : gNm μ (nI k1) = nI l1 := by unfold gNm; rw [n_h.2.2]; exact hj2
                  have eZ : gSz μ (nI k1) = rS 1 μ (7 + 4 * l1 + 2) := by unfold gSz gNm; rw [n_h.2.2, hj2, hj1.2.2]
                  have hP : pThP 0 4 (nI l1) (rS 1 μ (7 + 4 * l1 + 2)) = false := by unfold pThP; rw [decide_eq_false hd]; rfl
                  have hL : pThL 0 4 (nI l1) (rS 1 μ (7 + 4 * l1 + 2)) = [10] := by rfl
                  have hV : pThV 0 4 (nI l1) (rS 1 μ (7 + 4 * l1 + 2)) x = x + (rS 1 μ (7 + 4 * l1 + 2)) := by rfl
                  refine ⟨congrArg (fun x => some (zi x)) ?_, ?_⟩
                  · unfold gAct
                    rw [if_pos hC, eK, eN, eZ, hP, hV]
                    rfl
                  unfold gActL
                  rw [if_pos hC, eK, eN, eZ, hL]
                  exact ⟨(((((zJ.rf.p (by decide)).p (by decide)).p (by decide)).p (by decide)).p (by decide)).tr q8.1, fun j j1 j2 j3 j4 j5 => by rw [q8.2.1 j j1 j5]; simp only [zp_eq]; rw [pk_un j5, pk_un j4, pk_un j2, pk_un j3, pk_un j1], q8.2.2.1, fun i hi => by have := q8.2.2.2.2.2 i hi; rw [Nat.zero_add] at this; exact this⟩
                · exact absurd h141 (by decide)
          · rw [hκ]
            show zX shR σ 10 MX11_act 76 [(0, zr 0), (1, zi (nI k1)), (2, zi 0), (3, zi x)] [] (zp (zp (zp (zp (zp μ 0 35 0) 0 37 (nI l1)) 0 36 5) 0 38 (rS 1 μ (7 + 4 * l1 + 2))) 0 39 0) _
            by_cases hd : rS 1 μ (7 + 4 * l1 + 2) = nI l1
            · refine zx_iload_n (k := 2) (nn := 77) dX11_act_76 rfl rfl rfl ?_
              refine zx_if_ne (tgt := 92) (nn := 80) dX11_act_77 (by decide) rfl (fun h77 => ?_) (fun h77 => ?_)
              · exact absurd h77 (by decide)
              · refine zx_aload_n (k := 0) (nn := 81) dX11_act_80 rfl rfl rfl ?_
                refine zx_aload_n (k := 0) (nn := 82) dX11_act_81 rfl rfl rfl ?_
                refine zx_getI (nn := 85) flX11_417 rfl rfl dX11_act_82 rfl ?_
                show zX shR σ 10 MX11_act 85 [(0, zr 0), (1, zi (nI k1)), (2, zi 0), (3, zi x)] [zi 5, zr 0] (zp (zp (zp (zp (zp μ 0 35 0) 0 37 (nI l1)) 0 36 5) 0 38 (rS 1 μ (7 + 4 * l1 + 2))) 0 39 0) _
                refine zx_iload_n (k := 3) (nn := 86) dX11_act_85 rfl rfl rfl ?_
                refine zx_callV (nn := 89) (k := 0) (d' := 3) (as := [zi 5, zi x]) (rest := []) (n := 2) (eX11_aims_5 σ (zp (zp (zp (zp (zp μ 0 35 0) 0 37 (nI l1)) 0 36 5) 0 38 (rS 1 μ (7 + 4 * l1 + 2))) 0 39 0) x 0 (rS 1 μ (7 + 4 * l1 + 2)) (nI l1) rfl (by omega) rfl rfl rfl) kX11_aims mlX11_411 rfl rfl rfl (by decide) rfl rfl (Nat.le_of_ble_eq_true rfl) dX11_act_86 rfl ?_
                rintro _ ν9 ⟨rfl, q9⟩
                show zX shR σ 10 MX11_act 89 [(0, zr 0), (1, zi (nI k1)), (2, zi 0), (3, zi x)] [zi (x + (rS 1 μ (7 + 4 * l1 + 2)))] ν9 _
                refine zx_goto (tgt := 135) dX11_act_89 (by decide) ?_
                refine zx_istore (nn := 137) (lv' := [(4, zi (x + (rS 1 μ (7 + 4 * l1 + 2)))), (0, zr 0), (1, zi (nI k1)), (2, zi 0), (3, zi x)]) dX11_act_135 (by decide) rfl rfl ?_
                refine zx_aload_n (k := 1) (nn := 138) dX11_act_137 rfl rfl rfl ?_
                refine zx_getI (nn := 141) flX11_402 rfl rfl dX11_act_138 rfl ?_
                rw [show ν9 0 39 = 0 from q9.2.2.2.1]
                show zX shR σ 10 MX11_act 141 [(4, zi (x + (rS 1 μ (7 + 4 * l1 + 2)))), (0, zr 0), (1, zi (nI k1)), (2, zi 0), (3, zi x)] [zi 0] ν9 _
                refine zx_if_eq (tgt := 149) (nn := 144) dX11_act_141 (by decide) rfl (fun h141 => ?_) (fun h141 => ?_)
                · refine zx_iload (k := 0) (nn := 151) dX11_act_149 rfl rfl ?_
                  refine zx_iret rfl dX11_act_151 ?_
                  have hC : gActC μ (nI k1) 0 = true := by simp [gActC, h9, h21, n_h.2.2, h30]
                  have eK : gKd μ (nI k1) = 5 := by unfold gKd gNm; rw [n_h.2.2, hj2, hj1.2.2]; exact hκ
                  have eN : gNm μ (nI k1) = nI l1 := by unfold gNm; rw [n_h.2.2]; exact hj2
                  have eZ : gSz μ (nI k1) = rS 1 μ (7 + 4 * l1 + 2) := by unfold gSz gNm; rw [n_h.2.2, hj2, hj1.2.2]
                  have hP : pThP 0 5 (nI l1) (rS 1 μ (7 + 4 * l1 + 2)) = false := by unfold pThP; rw [decide_eq_true hd]; rfl
                  have hL : pThL 0 5 (nI l1) (rS 1 μ (7 + 4 * l1 + 2)) = [10] := by rfl
                  have hV : pThV 0 5 (nI l1) (rS 1 μ (7 + 4 * l1 + 2)) x = x + (rS 1 μ (7 + 4 * l1 + 2)) := by rfl
                  refine ⟨congrArg (fun x => some (zi x)) ?_, ?_⟩
                  · unfold gAct
                    rw [if_pos hC, eK, eN, eZ, hP, hV]
                    rfl
                  unfold gActL
                  rw [if_pos hC, eK, eN, eZ, hL]
                  exact ⟨(((((zJ.rf.p (by decide)).p (by decide)).p (by decide)).p (by decide)).p (by decide)).tr q9.1, fun j j1 j2 j3 j4 j5 => by rw [q9.2.1 j j1 j5]; simp only [zp_eq]; rw [pk_un j5, pk_un j4, pk_un j2, pk_un j3, pk_un j1], q9.2.2.1, fun i hi => by have := q9.2.2.2.2.2 i hi; rw [Nat.zero_add] at this; exact this⟩
                · exact absurd h141 (by decide)
            · refine zx_iload_n (k := 2) (nn := 77) dX11_act_76 rfl rfl rfl ?_
              refine zx_if_ne (tgt := 92) (nn := 80) dX11_act_77 (by decide) rfl (fun h77 => ?_) (fun h77 => ?_)
              · exact absurd h77 (by decide)
              · refine zx_aload_n (k := 0) (nn := 81) dX11_act_80 rfl rfl rfl ?_
                refine zx_aload_n (k := 0) (nn := 82) dX11_act_81 rfl rfl rfl ?_
                refine zx_getI (nn := 85) flX11_417 rfl rfl dX11_act_82 rfl ?_
                show zX shR σ 10 MX11_act 85 [(0, zr 0), (1, zi (nI k1)), (2, zi 0), (3, zi x)] [zi 5, zr 0] (zp (zp (zp (zp (zp μ 0 35 0) 0 37 (nI l1)) 0 36 5) 0 38 (rS 1 μ (7 + 4 * l1 + 2))) 0 39 0) _
                refine zx_iload_n (k := 3) (nn := 86) dX11_act_85 rfl rfl rfl ?_
                refine zx_callV (nn := 89) (k := 0) (d' := 3) (as := [zi 5, zi x]) (rest := []) (n := 2) (eX11_aims_5 σ (zp (zp (zp (zp (zp μ 0 35 0) 0 37 (nI l1)) 0 36 5) 0 38 (rS 1 μ (7 + 4 * l1 + 2))) 0 39 0) x 0 (rS 1 μ (7 + 4 * l1 + 2)) (nI l1) rfl (by omega) rfl rfl rfl) kX11_aims mlX11_411 rfl rfl rfl (by decide) rfl rfl (Nat.le_of_ble_eq_true rfl) dX11_act_86 rfl ?_
                rintro _ ν10 ⟨rfl, q10⟩
                show zX shR σ 10 MX11_act 89 [(0, zr 0), (1, zi (nI k1)), (2, zi 0), (3, zi x)] [zi (x + (rS 1 μ (7 + 4 * l1 + 2)))] ν10 _
                refine zx_goto (tgt := 135) dX11_act_89 (by decide) ?_
                refine zx_istore (nn := 137) (lv' := [(4, zi (x + (rS 1 μ (7 + 4 * l1 + 2)))), (0, zr 0), (1, zi (nI k1)), (2, zi 0), (3, zi x)]) dX11_act_135 (by decide) rfl rfl ?_
                refine zx_aload_n (k := 1) (nn := 138) dX11_act_137 rfl rfl rfl ?_
                refine zx_getI (nn := 141) flX11_402 rfl rfl dX11_act_138 rfl ?_
                rw [show ν10 0 39 = 0 from q10.2.2.2.1]
                show zX shR σ 10 MX11_act 141 [(4, zi (x + (rS 1 μ (7 + 4 * l1 + 2)))), (0, zr 0), (1, zi (nI k1)), (2, zi 0), (3, zi x)] [zi 0] ν10 _
                refine zx_if_eq (tgt := 149) (nn := 144) dX11_act_141 (by decide) rfl (fun h141 => ?_) (fun h141 => ?_)
                · refine zx_iload (k := 0) (nn := 151) dX11_act_149 rfl rfl ?_
                  refine zx_iret rfl dX11_act_151 ?_
                  have hC : gActC μ (nI k1) 0 = true := by simp [gActC, h9, h21, n_h.2.2, h30]
                  have eK : gKd μ (nI k1) = 5 := by unfold gKd gNm; rw [n_h.2.2, hj2, hj1.2.2]; exact hκ
                  have eN : gNm μ (nI k1) = nI l1 := by unfold gNm; rw [n_h.2.2]; exact hj2
                  have eZ : gSz μ (nI k1) = rS 1 μ (7 + 4 * l1 + 2) := by unfold gSz gNm; rw [n_h.2.2, hj2, hj1.2.2]
                  have hP : pThP 0 5 (nI l1) (rS 1 μ (7 + 4 * l1 + 2)) = false := by unfold pThP; rw [decide_eq_false hd]; rfl
                  have hL : pThL 0 5 (nI l1) (rS 1 μ (7 + 4 * l1 + 2)) = [10] := by rfl
                  have hV : pThV 0 5 (nI l1) (rS 1 μ (7 + 4 * l1 + 2)) x = x + (rS 1 μ (7 + 4 * l1 + 2)) := by rfl
                  refine ⟨congrArg (fun x => some (zi x)) ?_, ?_⟩
                  · unfold gAct
                    rw [if_pos hC, eK, eN, eZ, hP, hV]
                    rfl
                  unfold gActL
                  rw [if_pos hC, eK, eN, eZ, hL]
                  exact ⟨(((((zJ.rf.p (by decide)).p (by decide)).p (by decide)).p (by decide)).p (by decide)).tr q10.1, fun j j1 j2 j3 j4 j5 => by rw [q10.2.1 j j1 j5]; simp only [zp_eq]; rw [pk_un j5, pk_un j4, pk_un j2, pk_un j3, pk_un j1], q10.2.2.1, fun i hi => by have := q10.2.2.2.2.2 i hi; rw [Nat.zero_add] at this; exact this⟩
                · exact absurd h141 (by decide)
        · refine zx_iconst (v := 0) (nn := 34) rfl dX11_act_33 rfl ?_
          refine zx_iret rfl dX11_act_34 ?_
          have hC : gActC μ (nI k1) 0 = false := by simp [gActC, h9, h21, n_h.2.2, h30]
          exact ⟨congrArg (fun x => some (zi x)) (by unfold gAct; rw [hC]; rfl), by unfold gActL; rw [hC]; exact ⟨zJ.rf.p (by decide), fun j hj1 _ _ _ _ => by rw [zp_eq, pk_un hj1], by rw [zp_eq]; exact pk_us, fun i hi => absurd hi (by simp)⟩⟩
      · show zX shR σ 10 MX11_act 24 [(0, zr 0), (1, zi (nI k1)), (2, zi 1), (3, zi x)] [] (zp μ 0 35 0) _
        refine zx_aload_n (k := 0) (nn := 25) dX11_act_24 rfl rfl rfl ?_
        refine zx_iload_n (k := 1) (nn := 26) dX11_act_25 rfl rfl rfl ?_
        refine zx_callVf (nn := 29) (k := 0) (d' := 2) (as := [zi (nI k1)]) (rest := []) (n := 1) (eX11_heldBy_0 σ (zp μ 0 35 0) k1  ok n_h.1) kX11_heldBy mlX11_396 rfl rfl rfl (by decide) rfl rfl (Nat.le_of_ble_eq_true rfl) dX11_act_26 rfl ?_
        show zX shR σ 10 MX11_act 29 [(0, zr 0), (1, zi (nI k1)), (2, zi 1), (3, zi x)] [zi (gH (zp μ 0 35 0) k1)] (zp μ 0 35 0) _
        rw [show gH (zp μ 0 35 0) k1 = gH μ k1 from rfl]
        show zX shR σ 10 MX11_act 29 [(0, zr 0), (1, zi (nI k1)), (2, zi 1), (3, zi x)] [zi (gH μ k1)] (zp μ 0 35 0) _
        refine zx_iconst (v := 1) (nn := 30) rfl dX11_act_29 rfl ?_
        refine zx_icmp_eq (tgt := 35) (nn := 33) dX11_act_30 (by decide) rfl (fun h30 => ?_) (fun h30 => ?_)
        · refine zx_aload_n (k := 0) (nn := 36) dX11_act_35 rfl rfl rfl ?_
          refine zx_aload_n (k := 0) (nn := 37) dX11_act_36 rfl rfl rfl ?_
          refine zx_getR (q := 22) (nn := 40) flX11_61 rfl rfl dX11_act_37 rfl ?_
          refine zx_iload_n (k := 1) (nn := 41) dX11_act_40 rfl rfl rfl ?_
          refine zx_iald_n (j := k1) (nn := 42) rfl n_h.1 (by decide) dX11_act_41 rfl ?_
          obtain ⟨l1, hj1, hj2⟩ := hasL ok (gH_1 h30)
          rw [show (zp μ 0 35 0) 22 k1 = nI l1 from hj2]
          show zX shR σ 10 MX11_act 42 [(0, zr 0), (1, zi (nI k1)), (2, zi 1), (3, zi x)] [zi (nI l1), zr 0] (zp μ 0 35 0) _
          refine zx_putI (nn := 45) fpX11_420 rfl rfl rfl rfl dX11_act_42 rfl ?_
          refine zx_aload_n (k := 0) (nn := 46) dX11_act_45 rfl rfl rfl ?_
          refine zx_aload_n (k := 0) (nn := 47) dX11_act_46 rfl rfl rfl ?_
          refine zx_aload_n (k := 0) (nn := 48) dX11_act_47 rfl rfl rfl ?_
          refine zx_getI (nn := 51) flX11_420 rfl rfl dX11_act_48 rfl ?_
          show zX shR σ 10 MX11_act 51 [(0, zr 0), (1, zi (nI k1)), (2, zi 1), (3, zi x)] [zi (nI l1), zr 0, zr 0] (zp (zp μ 0 35 0) 0 37 (nI l1)) _
          refine zx_iconst (v := 0) (nn := 52) rfl dX11_act_51 rfl ?_
          refine zx_callVf (nn := 55) (k := 0) (d' := 0) (as := [zi (nI l1), zi 0]) (rest := [zr 0]) (n := 2) (eX11_of_0 σ (zp (zp μ 0 35 0) 0 37 (nI l1)) l1 0  hj1.2.1 (by decide)) kX11_of mlX11_88 rfl rfl rfl (by decide) rfl rfl (Nat.le_of_ble_eq_true rfl) dX11_act_52 rfl ?_
          show zX shR σ 10 MX11_act 55 [(0, zr 0), (1, zi (nI k1)), (2, zi 1), (3, zi x)] [zi (rS 1 (zp (zp μ 0 35 0) 0 37 (nI l1)) (7 + 4 * l1 + 0)), zr 0] (zp (zp μ 0 35 0) 0 37 (nI l1)) _
          rw [show rS 1 (zp (zp μ 0 35 0) 0 37 (nI l1)) (7 + 4 * l1 + 0) = rS 1 μ (7 + 4 * l1) from rfl]
          show zX shR σ 10 MX11_act 55 [(0, zr 0), (1, zi (nI k1)), (2, zi 1), (3, zi x)] [zi (rS 1 μ (7 + 4 * l1)), zr 0] (zp (zp μ 0 35 0) 0 37 (nI l1)) _
          refine zx_putI (nn := 58) fpX11_417 rfl rfl rfl rfl dX11_act_55 rfl ?_
          refine zx_aload_n (k := 0) (nn := 59) dX11_act_58 rfl rfl rfl ?_
          refine zx_aload_n (k := 0) (nn := 60) dX11_act_59 rfl rfl rfl ?_
          refine zx_aload_n (k := 0) (nn := 61) dX11_act_60 rfl rfl rfl ?_
          refine zx_getI (nn := 64) flX11_420 rfl rfl dX11_act_61 rfl ?_
          show zX shR σ 10 MX11_act 64 [(0, zr 0), (1, zi (nI k1)), (2, zi 1), (3, zi x)] [zi (nI l1), zr 0, zr 0] (zp (zp (zp μ 0 35 0) 0 37 (nI l1)) 0 36 (rS 1 μ (7 + 4 * l1))) _
          refine zx_iconst (v := 2) (nn := 65) rfl dX11_act_64 rfl ?_
          refine zx_callVf (nn := 68) (k := 0) (d' := 0) (as := [zi (nI l1), zi 2]) (rest := [zr 0]) (n := 2) (eX11_of_0 σ (zp (zp (zp μ 0 35 0) 0 37 (nI l1)) 0 36 (rS 1 μ (7 + 4 * l1))) l1 2  hj1.2.1 (by decide)) kX11_of mlX11_88 rfl rfl rfl (by decide) rfl rfl (Nat.le_of_ble_eq_true rfl) dX11_act_65 rfl ?_
          show zX shR σ 10 MX11_act 68 [(0, zr 0), (1, zi (nI k1)), (2, zi 1), (3, zi x)] [zi (rS 1 (zp (zp (zp μ 0 35 0) 0 37 (nI l1)) 0 36 (rS 1 μ (7 + 4 * l1))) (7 + 4 * l1 + 2)), zr 0] (zp (zp (zp μ 0 35 0) 0 37 (nI l1)) 0 36 (rS 1 μ (7 + 4 * l1))) _
          rw [show rS 1 (zp (zp (zp μ 0 35 0) 0 37 (nI l1)) 0 36 (rS 1 μ (7 + 4 * l1))) (7 + 4 * l1 + 2) = rS 1 μ (7 + 4 * l1 + 2) from rfl]
          show zX shR σ 10 MX11_act 68 [(0, zr 0), (1, zi (nI k1)), (2, zi 1), (3, zi x)] [zi (rS 1 μ (7 + 4 * l1 + 2)), zr 0] (zp (zp (zp μ 0 35 0) 0 37 (nI l1)) 0 36 (rS 1 μ (7 + 4 * l1))) _
          refine zx_putI (nn := 71) fpX11_409 rfl rfl rfl rfl dX11_act_68 rfl ?_
          refine zx_aload_n (k := 0) (nn := 72) dX11_act_71 rfl rfl rfl ?_
          refine zx_iconst (v := 0) (nn := 73) rfl dX11_act_72 rfl ?_
          refine zx_putI (nn := 76) fpX11_402 rfl rfl rfl rfl dX11_act_73 rfl ?_
          rcases kind5 (ok.2.2.2 l1 hj1.1).1 with hκ | hκ | hκ | hκ | hκ
          · rw [hκ]
            show zX shR σ 10 MX11_act 76 [(0, zr 0), (1, zi (nI k1)), (2, zi 1), (3, zi x)] [] (zp (zp (zp (zp (zp μ 0 35 0) 0 37 (nI l1)) 0 36 1) 0 38 (rS 1 μ (7 + 4 * l1 + 2))) 0 39 0) _
            by_cases hd : rS 1 μ (7 + 4 * l1 + 2) = nI l1
            · refine zx_iload_n (k := 2) (nn := 77) dX11_act_76 rfl rfl rfl ?_
              refine zx_if_ne (tgt := 92) (nn := 80) dX11_act_77 (by decide) rfl (fun h77 => ?_) (fun h77 => ?_)
              · refine zx_iload_n (k := 2) (nn := 93) dX11_act_92 rfl rfl rfl ?_
                refine zx_iconst (v := 1) (nn := 94) rfl dX11_act_93 rfl ?_
                refine zx_icmp_ne (tgt := 109) (nn := 97) dX11_act_94 (by decide) rfl (fun h94 => ?_) (fun h94 => ?_)
                · exact absurd h94 (by decide)
                · refine zx_aload_n (k := 0) (nn := 98) dX11_act_97 rfl rfl rfl ?_
                  refine zx_aload_n (k := 0) (nn := 99) dX11_act_98 rfl rfl rfl ?_
                  refine zx_getI (nn := 102) flX11_417 rfl rfl dX11_act_99 rfl ?_
                  show zX shR σ 10 MX11_act 102 [(0, zr 0), (1, zi (nI k1)), (2, zi 1), (3, zi x)] [zi 1, zr 0] (zp (zp (zp (zp (zp μ 0 35 0) 0 37 (nI l1)) 0 36 1) 0 38 (rS 1 μ (7 + 4 * l1 + 2))) 0 39 0) _
                  refine zx_iload_n (k := 3) (nn := 103) dX11_act_102 rfl rfl rfl ?_
                  refine zx_callV (nn := 106) (k := 0) (d' := 4) (as := [zi 1, zi x]) (rest := []) (n := 2) (eX11_swings_1_1 σ (zp (zp (zp (zp (zp μ 0 35 0) 0 37 (nI l1)) 0 36 1) 0 38 (rS 1 μ (7 + 4 * l1 + 2))) 0 39 0) x 0 (rS 1 μ (7 + 4 * l1 + 2)) (nI l1) rfl (by omega) rfl rfl rfl rfl) kX11_swings mlX11_422 rfl rfl rfl (by decide) rfl rfl (Nat.le_of_ble_eq_true rfl) dX11_act_103 rfl ?_
                  rintro _ ν11 ⟨rfl, q11⟩
                  show zX shR σ 10 MX11_act 106 [(0, zr 0), (1, zi (nI k1)), (2, zi 1), (3, zi x)] [zi (((x + (rS 1 μ (7 + 4 * l1 + 2))) * 2) - (nI l1))] ν11 _
                  refine zx_goto (tgt := 135) dX11_act_106 (by decide) ?_
                  refine zx_istore (nn := 137) (lv' := [(4, zi (((x + (rS 1 μ (7 + 4 * l1 + 2))) * 2) - (nI l1))), (0, zr 0), (1, zi (nI k1)), (2, zi 1), (3, zi x)]) dX11_act_135 (by decide) rfl rfl ?_
                  refine zx_aload_n (k := 1) (nn := 138) dX11_act_137 rfl rfl rfl ?_
                  refine zx_getI (nn := 141) flX11_402 rfl rfl dX11_act_138 rfl ?_
                  rw [show ν11 0 39 = 0 from q11.2.2.2.1]
                  show zX shR σ 10 MX11_act 141 [(4, zi (((x + (rS 1 μ (7 + 4 * l1 + 2))) * 2) - (nI l1))), (0, zr 0), (1, zi (nI k1)), (2, zi 1), (3, zi x)] [zi 0] ν11 _
                  refine zx_if_eq (tgt := 149) (nn := 144) dX11_act_141 (by decide) rfl (fun h141 => ?_) (fun h141 => ?_)
                  · refine zx_iload (k := 0) (nn := 151) dX11_act_149 rfl rfl ?_
                    refine zx_iret rfl dX11_act_151 ?_
                    have hC : gActC μ (nI k1) 1 = true := by simp [gActC, h9, h21, n_h.2.2, h30]
                    have eK : gKd μ (nI k1) = 1 := by unfold gKd gNm; rw [n_h.2.2, hj2, hj1.2.2]; exact hκ
                    have eN : gNm μ (nI k1) = nI l1 := by unfold gNm; rw [n_h.2.2]; exact hj2
                    have eZ : gSz μ (nI k1) = rS 1 μ (7 + 4 * l1 + 2) := by unfold gSz gNm; rw [n_h.2.2, hj2, hj1.2.2]
                    have hP : pThP 1 1 (nI l1) (rS 1 μ (7 + 4 * l1 + 2)) = false := by unfold pThP; rw [decide_eq_true hd]; rfl
                    have hL : pThL 1 1 (nI l1) (rS 1 μ (7 + 4 * l1 + 2)) = [11, 20, 10] := by rfl
                    have hV : pThV 1 1 (nI l1) (rS 1 μ (7 + 4 * l1 + 2)) x = ((x + (rS 1 μ (7 + 4 * l1 + 2))) * 2) - (nI l1) := by rfl
                    refine ⟨congrArg (fun x => some (zi x)) ?_, ?_⟩
                    · unfold gAct
                      rw [if_pos hC, eK, eN, eZ, hP, hV]
                      rfl
                    unfold gActL
                    rw [if_pos hC, eK, eN, eZ, hL]
                    exact ⟨(((((zJ.rf.p (by decide)).p (by decide)).p (by decide)).p (by decide)).p (by decide)).tr q11.1, fun j j1 j2 j3 j4 j5 => by rw [q11.2.1 j j1 j5]; simp only [zp_eq]; rw [pk_un j5, pk_un j4, pk_un j2, pk_un j3, pk_un j1], q11.2.2.1, fun i hi => by have := q11.2.2.2.2.2 i hi; rw [Nat.zero_add] at this; exact this⟩
                  · exact absurd h141 (by decide)
              · exact absurd h77 (by decide)
            · refine zx_iload_n (k := 2) (nn := 77) dX11_act_76 rfl rfl rfl ?_
              refine zx_if_ne (tgt := 92) (nn := 80) dX11_act_77 (by decide) rfl (fun h77 => ?_) (fun h77 => ?_)
              · refine zx_iload_n (k := 2) (nn := 93) dX11_act_92 rfl rfl rfl ?_
                refine zx_iconst (v := 1) (nn := 94) rfl dX11_act_93 rfl ?_
                refine zx_icmp_ne (tgt := 109) (nn := 97) dX11_act_94 (by decide) rfl (fun h94 => ?_) (fun h94 => ?_)
                · exact absurd h94 (by decide)
                · refine zx_aload_n (k := 0) (nn := 98) dX11_act_97 rfl rfl rfl ?_
                  refine zx_aload_n (k := 0) (nn := 99) dX11_act_98 rfl rfl rfl ?_
                  refine zx_getI (nn := 102) flX11_417 rfl rfl dX11_act_99 rfl ?_
                  show zX shR σ 10 MX11_act 102 [(0, zr 0), (1, zi (nI k1)), (2, zi 1), (3, zi x)] [zi 1, zr 0] (zp (zp (zp (zp (zp μ 0 35 0) 0 37 (nI l1)) 0 36 1) 0 38 (rS 1 μ (7 + 4 * l1 + 2))) 0 39 0) _
                  refine zx_iload_n (k := 3) (nn := 103) dX11_act_102 rfl rfl rfl ?_
                  refine zx_callV (nn := 106) (k := 0) (d' := 4) (as := [zi 1, zi x]) (rest := []) (n := 2) (eX11_swings_1_1 σ (zp (zp (zp (zp (zp μ 0 35 0) 0 37 (nI l1)) 0 36 1) 0 38 (rS 1 μ (7 + 4 * l1 + 2))) 0 39 0) x 0 (rS 1 μ (7 + 4 * l1 + 2)) (nI l1) rfl (by omega) rfl rfl rfl rfl) kX11_swings mlX11_422 rfl rfl rfl (by decide) rfl rfl (Nat.le_of_ble_eq_true rfl) dX11_act_103 rfl ?_
                  rintro _ ν12 ⟨rfl, q12⟩
                  show zX shR σ 10 MX11_act 106 [(0, zr 0), (1, zi (nI k1)), (2, zi 1), (3, zi x)] [zi (((x + (rS 1 μ (7 + 4 * l1 + 2))) * 2) - (nI l1))] ν12 _
                  refine zx_goto (tgt := 135) dX11_act_106 (by decide) ?_
                  refine zx_istore (nn := 137) (lv' := [(4, zi (((x + (rS 1 μ (7 + 4 * l1 + 2))) * 2) - (nI l1))), (0, zr 0), (1, zi (nI k1)), (2, zi 1), (3, zi x)]) dX11_act_135 (by decide) rfl rfl ?_
                  refine zx_aload_n (k := 1) (nn := 138) dX11_act_137 rfl rfl rfl ?_
                  refine zx_getI (nn := 141) flX11_402 rfl rfl dX11_act_138 rfl ?_
                  rw [show ν12 0 39 = 0 from q12.2.2.2.1]
                  show zX shR σ 10 MX11_act 141 [(4, zi (((x + (rS 1 μ (7 + 4 * l1 + 2))) * 2) - (nI l1))), (0, zr 0), (1, zi (nI k1)), (2, zi 1), (3, zi x)] [zi 0] ν12 _
                  refine zx_if_eq (tgt := 149) (nn := 144) dX11_act_141 (by decide) rfl (fun h141 => ?_) (fun h141 => ?_)
                  · refine zx_iload (k := 0) (nn := 151) dX11_act_149 rfl rfl ?_
                    refine zx_iret rfl dX11_act_151 ?_
                    have hC : gActC μ (nI k1) 1 = true := by simp [gActC, h9, h21, n_h.2.2, h30]
                    have eK : gKd μ (nI k1) = 1 := by unfold gKd gNm; rw [n_h.2.2, hj2, hj1.2.2]; exact hκ
                    have eN : gNm μ (nI k1) = nI l1 := by unfold gNm; rw [n_h.2.2]; exact hj2
                    have eZ : gSz μ (nI k1) = rS 1 μ (7 + 4 * l1 + 2) := by unfold gSz gNm; rw [n_h.2.2, hj2, hj1.2.2]
                    have hP : pThP 1 1 (nI l1) (rS 1 μ (7 + 4 * l1 + 2)) = false := by unfold pThP; rw [decide_eq_false hd]; rfl
                    have hL : pThL 1 1 (nI l1) (rS 1 μ (7 + 4 * l1 + 2)) = [11, 20, 10] := by rfl
                    have hV : pThV 1 1 (nI l1) (rS 1 μ (7 + 4 * l1 + 2)) x = ((x + (rS 1 μ (7 + 4 * l1 + 2))) * 2) - (nI l1) := by rfl
                    refine ⟨congrArg (fun x => some (zi x)) ?_, ?_⟩
                    · unfold gAct
                      rw [if_pos hC, eK, eN, eZ, hP, hV]
                      rfl
                    unfold gActL
                    rw [if_pos hC, eK, eN, eZ, hL]
                    exact ⟨(((((zJ.rf.p (by decide)).p (by decide)).p (by decide)).p (by decide)).p (by decide)).tr q12.1, fun j j1 j2 j3 j4 j5 => by rw [q12.2.1 j j1 j5]; simp only [zp_eq]; rw [pk_un j5, pk_un j4, pk_un j2, pk_un j3, pk_un j1], q12.2.2.1, fun i hi => by have := q12.2.2.2.2.2 i hi; rw [Nat.zero_add] at this; exact this⟩
                  · exact absurd h141 (by decide)
              · exact absurd h77 (by decide)
          · rw [hκ]
            show zX shR σ 10 MX11_act 76 [(0, zr 0), (1, zi (nI k1)), (2, zi 1), (3, zi x)] [] (zp (zp (zp (zp (zp μ 0 35 0) 0 37 (nI l1)) 0 36 2) 0 38 (rS 1 μ (7 + 4 * l1 + 2))) 0 39 0) _
            by_cases hd : rS 1 μ (7 + 4 * l1 + 2) = nI l1
            · refine zx_iload_n (k := 2) (nn := 77) dX11_act_76 rfl rfl rfl ?_
              refine zx_if_ne (tgt := 92) (nn := 80) dX11_act_77 (by decide) rfl (fun h77 => ?_) (fun h77 => ?_)
              · refine zx_iload_n (k := 2) (nn := 93) dX11_act_92 rfl rfl rfl ?_
                refine zx_iconst (v := 1) (nn := 94) rfl dX11_act_93 rfl ?_
                refine zx_icmp_ne (tgt := 109) (nn := 97) dX11_act_94 (by decide) rfl (fun h94 => ?_) (fun h94 => ?_)
                · exact absurd h94 (by decide)
                · refine zx_aload_n (k := 0) (nn := 98) dX11_act_97 rfl rfl rfl ?_
                  refine zx_aload_n (k := 0) (nn := 99) dX11_act_98 rfl rfl rfl ?_
                  refine zx_getI (nn := 102) flX11_417 rfl rfl dX11_act_99 rfl ?_
                  show zX shR σ 10 MX11_act 102 [(0, zr 0), (1, zi (nI k1)), (2, zi 1), (3, zi x)] [zi 2, zr 0] (zp (zp (zp (zp (zp μ 0 35 0) 0 37 (nI l1)) 0 36 2) 0 38 (rS 1 μ (7 + 4 * l1 + 2))) 0 39 0) _
                  refine zx_iload_n (k := 3) (nn := 103) dX11_act_102 rfl rfl rfl ?_
                  refine zx_callV (nn := 106) (k := 0) (d' := 4) (as := [zi 2, zi x]) (rest := []) (n := 2) (eX11_swings_2_2 σ (zp (zp (zp (zp (zp μ 0 35 0) 0 37 (nI l1)) 0 36 2) 0 38 (rS 1 μ (7 + 4 * l1 + 2))) 0 39 0) x 0 (rS 1 μ (7 + 4 * l1 + 2)) (nI l1) rfl (by omega) rfl rfl rfl rfl) kX11_swings mlX11_422 rfl rfl rfl (by decide) rfl rfl (Nat.le_of_ble_eq_true rfl) dX11_act_103 rfl ?_
                  rintro _ ν13 ⟨rfl, q13⟩
                  show zX shR σ 10 MX11_act 106 [(0, zr 0), (1, zi (nI k1)), (2, zi 1), (3, zi x)] [zi (((x + (rS 1 μ (7 + 4 * l1 + 2))) - (nI l1)) ^^^ (nI l1))] ν13 _
                  refine zx_goto (tgt := 135) dX11_act_106 (by decide) ?_
                  refine zx_istore (nn := 137) (lv' := [(4, zi (((x + (rS 1 μ (7 + 4 * l1 + 2))) - (nI l1)) ^^^ (nI l1))), (0, zr 0), (1, zi (nI k1)), (2, zi 1), (3, zi x)]) dX11_act_135 (by decide) rfl rfl ?_
                  refine zx_aload_n (k := 1) (nn := 138) dX11_act_137 rfl rfl rfl ?_
                  refine zx_getI (nn := 141) flX11_402 rfl rfl dX11_act_138 rfl ?_
                  rw [show ν13 0 39 = 0 from q13.2.2.2.1]
                  show zX shR σ 10 MX11_act 141 [(4, zi (((x + (rS 1 μ (7 + 4 * l1 + 2))) - (nI l1)) ^^^ (nI l1))), (0, zr 0), (1, zi (nI k1)), (2, zi 1), (3, zi x)] [zi 0] ν13 _
                  refine zx_if_eq (tgt := 149) (nn := 144) dX11_act_141 (by decide) rfl (fun h141 => ?_) (fun h141 => ?_)
                  · refine zx_iload (k := 0) (nn := 151) dX11_act_149 rfl rfl ?_
                    refine zx_iret rfl dX11_act_151 ?_
                    have hC : gActC μ (nI k1) 1 = true := by simp [gActC, h9, h21, n_h.2.2, h30]
                    have eK : gKd μ (nI k1) = 2 := by unfold gKd gNm; rw [n_h.2.2, hj2, hj1.2.2]; exact hκ
                    have eN : gNm μ (nI k1) = nI l1 := by unfold gNm; rw [n_h.2.2]; exact hj2
                    have eZ : gSz μ (nI k1) = rS 1 μ (7 + 4 * l1 + 2) := by unfold gSz gNm; rw [n_h.2.2, hj2, hj1.2.2]
                    have hP : pThP 1 2 (nI l1) (rS 1 μ (7 + 4 * l1 + 2)) = false := by unfold pThP; rw [decide_eq_true hd]; rfl
                    have hL : pThL 1 2 (nI l1) (rS 1 μ (7 + 4 * l1 + 2)) = [30, 11, 10] := by rfl
                    have hV : pThV 1 2 (nI l1) (rS 1 μ (7 + 4 * l1 + 2)) x = ((x + (rS 1 μ (7 + 4 * l1 + 2))) - (nI l1)) ^^^ (nI l1) := by rfl
                    refine ⟨congrArg (fun x => some (zi x)) ?_, ?_⟩
                    · unfold gAct
                      rw [if_pos hC, eK, eN, eZ, hP, hV]
                      rfl
                    unfold gActL
                    rw [if_pos hC, eK, eN, eZ, hL]
                    exact ⟨(((((zJ.rf.p (by decide)).p (by decide)).p (by decide)).p (by decide)).p (by decide)).tr q13.1, fun j j1 j2 j3 j4 j5 => by rw [q13.2.1 j j1 j5]; simp only [zp_eq]; rw [pk_un j5, pk_un j4, pk_un j2, pk_un j3, pk_un j1], q13.2.2.1, fun i hi => by have := q13.2.2.2.2.2 i hi; rw [Nat.zero_add] at this; exact this⟩
                  · exact absurd h141 (by decide)
              · exact absurd h77 (by decide)
            · refine zx_iload_n (k := 2) (nn := 77) dX11_act_76 rfl rfl rfl ?_
              refine zx_if_ne (tgt := 92) (nn := 80) dX11_act_77 (by decide) rfl (fun h77 => ?_) (fun h77 => ?_)
              · refine zx_iload_n (k := 2) (nn := 93) dX11_act_92 rfl rfl rfl ?_
                refine zx_iconst (v := 1) (nn := 94) rfl dX11_act_93 rfl ?_
                refine zx_icmp_ne (tgt := 109) (nn := 97) dX11_act_94 (by decide) rfl (fun h94 => ?_) (fun h94 => ?_)
                · exact absurd h94 (by decide)
                · refine zx_aload_n (k := 0) (nn := 98) dX11_act_97 rfl rfl rfl ?_
                  refine zx_aload_n (k := 0) (nn := 99) dX11_act_98 rfl rfl rfl ?_
                  refine zx_getI (nn := 102) flX11_417 rfl rfl dX11_act_99 rfl ?_
                  show zX shR σ 10 MX11_act 102 [(0, zr 0), (1, zi (nI k1)), (2, zi 1), (3, zi x)] [zi 2, zr 0] (zp (zp (zp (zp (zp μ 0 35 0) 0 37 (nI l1)) 0 36 2) 0 38 (rS 1 μ (7 + 4 * l1 + 2))) 0 39 0) _
                  refine zx_iload_n (k := 3) (nn := 103) dX11_act_102 rfl rfl rfl ?_
                  refine zx_callV (nn := 106) (k := 0) (d' := 4) (as := [zi 2, zi x]) (rest := []) (n := 2) (eX11_swings_2_2 σ (zp (zp (zp (zp (zp μ 0 35 0) 0 37 (nI l1)) 0 36 2) 0 38 (rS 1 μ (7 + 4 * l1 + 2))) 0 39 0) x 0 (rS 1 μ (7 + 4 * l1 + 2)) (nI l1) rfl (by omega) rfl rfl rfl rfl) kX11_swings mlX11_422 rfl rfl rfl (by decide) rfl rfl (Nat.le_of_ble_eq_true rfl) dX11_act_103 rfl ?_
                  rintro _ ν14 ⟨rfl, q14⟩
                  show zX shR σ 10 MX11_act 106 [(0, zr 0), (1, zi (nI k1)), (2, zi 1), (3, zi x)] [zi (((x + (rS 1 μ (7 + 4 * l1 + 2))) - (nI l1)) ^^^ (nI l1))] ν14 _
                  refine zx_goto (tgt := 135) dX11_act_106 (by decide) ?_
                  refine zx_istore (nn := 137) (lv' := [(4, zi (((x + (rS 1 μ (7 + 4 * l1 + 2))) - (nI l1)) ^^^ (nI l1))), (0, zr 0), (1, zi (nI k1)), (2, zi 1), (3, zi x)]) dX11_act_135 (by decide) rfl rfl ?_
                  refine zx_aload_n (k := 1) (nn := 138) dX11_act_137 rfl rfl rfl ?_
                  refine zx_getI (nn := 141) flX11_402 rfl rfl dX11_act_138 rfl ?_
                  rw [show ν14 0 39 = 0 from q14.2.2.2.1]
                  show zX shR σ 10 MX11_act 141 [(4, zi (((x + (rS 1 μ (7 + 4 * l1 + 2))) - (nI l1)) ^^^ (nI l1))), (0, zr 0), (1, zi (nI k1)), (2, zi 1), (3, zi x)] [zi 0] ν14 _
                  refine zx_if_eq (tgt := 149) (nn := 144) dX11_act_141 (by decide) rfl (fun h141 => ?_) (fun h141 => ?_)
                  · refine zx_iload (k := 0) (nn := 151) dX11_act_149 rfl rfl ?_
                    refine zx_iret rfl dX11_act_151 ?_
                    have hC : gActC μ (nI k1) 1 = true := by simp [gActC, h9, h21, n_h.2.2, h30]
                    have eK : gKd μ (nI k1) = 2 := by unfold gKd gNm; rw [n_h.2.2, hj2, hj1.2.2]; exact hκ
                    have eN : gNm μ (nI k1) = nI l1 := by unfold gNm; rw [n_h.2.2]; exact hj2
                    have eZ : gSz μ (nI k1) = rS 1 μ (7 + 4 * l1 + 2) := by unfold gSz gNm; rw [n_h.2.2, hj2, hj1.2.2]
                    have hP : pThP 1 2 (nI l1) (rS 1 μ (7 + 4 * l1 + 2)) = false := by unfold pThP; rw [decide_eq_false hd]; rfl
                    have hL : pThL 1 2 (nI l1) (rS 1 μ (7 + 4 * l1 + 2)) = [30, 11, 10] := by rfl
                    have hV : pThV 1 2 (nI l1) (rS 1 μ (7 + 4 * l1 + 2)) x = ((x + (rS 1 μ (7 + 4 * l1 + 2))) - (nI l1)) ^^^ (nI l1) := by rfl
                    refine ⟨congrArg (fun x => some (zi x)) ?_, ?_⟩
                    · unfold gAct
                      rw [if_pos hC, eK, eN, eZ, hP, hV]
                      rfl
                    unfold gActL
                    rw [if_pos hC, eK, eN, eZ, hL]
                    exact ⟨(((((zJ.rf.p (by decide)).p (by decide)).p (by decide)).p (by decide)).p (by decide)).tr q14.1, fun j j1 j2 j3 j4 j5 => by rw [q14.2.1 j j1 j5]; simp only [zp_eq]; rw [pk_un j5, pk_un j4, pk_un j2, pk_un j3, pk_un j1], q14.2.2.1, fun i hi => by have := q14.2.2.2.2.2 i hi; rw [Nat.zero_add] at this; exact this⟩
                  · exact absurd h141 (by decide)
              · exact absurd h77 (by decide)
          · rw [hκ]
            show zX shR σ 10 MX11_act 76 [(0, zr 0), (1, zi (nI k1)), (2, zi 1), (3, zi x)] [] (zp (zp (zp (zp (zp μ 0 35 0) 0 37 (nI l1)) 0 36 3) 0 38 (rS 1 μ (7 + 4 * l1 + 2))) 0 39 0) _
            by_cases hd : rS 1 μ (7 + 4 * l1 + 2) = nI l1
            · refine zx_iload_n (k := 2) (nn := 77) dX11_act_76 rfl rfl rfl ?_
              refine zx_if_ne (tgt := 92) (nn := 80) dX11_act_77 (by decide) rfl (fun h77 => ?_) (fun h77 => ?_)
              · refine zx_iload_n (k := 2) (nn := 93) dX11_act_92 rfl rfl rfl ?_
                refine zx_iconst (v := 1) (nn := 94) rfl dX11_act_93 rfl ?_
                refine zx_icmp_ne (tgt := 109) (nn := 97) dX11_act_94 (by decide) rfl (fun h94 => ?_) (fun h94 => ?_)
                · exact absurd h94 (by decide)
                · refine zx_aload_n (k := 0) (nn := 98) dX11_act_97 rfl rfl rfl ?_
                  refine zx_aload_n (k := 0) (nn := 99) dX11_act_98 rfl rfl rfl ?_
                  refine zx_getI (nn := 102) flX11_417 rfl rfl dX11_act_99 rfl ?_
                  show zX shR σ 10 MX11_act 102 [(0, zr 0), (1, zi (nI k1)), (2, zi 1), (3, zi x)] [zi 3, zr 0] (zp (zp (zp (zp (zp μ 0 35 0) 0 37 (nI l1)) 0 36 3) 0 38 (rS 1 μ (7 + 4 * l1 + 2))) 0 39 0) _
                  refine zx_iload_n (k := 3) (nn := 103) dX11_act_102 rfl rfl rfl ?_
                  refine zx_callV (nn := 106) (k := 0) (d' := 6) (as := [zi 3, zi x]) (rest := []) (n := 2) (eX11_swings_3_3 σ (zp (zp (zp (zp (zp μ 0 35 0) 0 37 (nI l1)) 0 36 3) 0 38 (rS 1 μ (7 + 4 * l1 + 2))) 0 39 0) x 0 (rS 1 μ (7 + 4 * l1 + 2)) (nI l1) rfl (by omega) rfl rfl rfl rfl) kX11_swings mlX11_422 rfl rfl rfl (by decide) rfl rfl (Nat.le_of_ble_eq_true rfl) dX11_act_103 rfl ?_
                  rintro _ ν15 ⟨rfl, q15⟩
                  show zX shR σ 10 MX11_act 106 [(0, zr 0), (1, zi (nI k1)), (2, zi 1), (3, zi x)] [zi (((x + (rS 1 μ (7 + 4 * l1 + 2)) - 1) - (nI l1)) ^^^ (nI l1))] ν15 _
                  refine zx_goto (tgt := 135) dX11_act_106 (by decide) ?_
                  refine zx_istore (nn := 137) (lv' := [(4, zi (((x + (rS 1 μ (7 + 4 * l1 + 2)) - 1) - (nI l1)) ^^^ (nI l1))), (0, zr 0), (1, zi (nI k1)), (2, zi 1), (3, zi x)]) dX11_act_135 (by decide) rfl rfl ?_
                  refine zx_aload_n (k := 1) (nn := 138) dX11_act_137 rfl rfl rfl ?_
                  refine zx_getI (nn := 141) flX11_402 rfl rfl dX11_act_138 rfl ?_
                  rw [show ν15 0 39 = 0 from q15.2.2.2.1]
                  show zX shR σ 10 MX11_act 141 [(4, zi (((x + (rS 1 μ (7 + 4 * l1 + 2)) - 1) - (nI l1)) ^^^ (nI l1))), (0, zr 0), (1, zi (nI k1)), (2, zi 1), (3, zi x)] [zi 0] ν15 _
                  refine zx_if_eq (tgt := 149) (nn := 144) dX11_act_141 (by decide) rfl (fun h141 => ?_) (fun h141 => ?_)
                  · refine zx_iload (k := 0) (nn := 151) dX11_act_149 rfl rfl ?_
                    refine zx_iret rfl dX11_act_151 ?_
                    have hC : gActC μ (nI k1) 1 = true := by simp [gActC, h9, h21, n_h.2.2, h30]
                    have eK : gKd μ (nI k1) = 3 := by unfold gKd gNm; rw [n_h.2.2, hj2, hj1.2.2]; exact hκ
                    have eN : gNm μ (nI k1) = nI l1 := by unfold gNm; rw [n_h.2.2]; exact hj2
                    have eZ : gSz μ (nI k1) = rS 1 μ (7 + 4 * l1 + 2) := by unfold gSz gNm; rw [n_h.2.2, hj2, hj1.2.2]
                    have hP : pThP 1 3 (nI l1) (rS 1 μ (7 + 4 * l1 + 2)) = false := by unfold pThP; rw [decide_eq_true hd]; rfl
                    have hL : pThL 1 3 (nI l1) (rS 1 μ (7 + 4 * l1 + 2)) = [30, 11, 50, 10] := by rfl
                    have hV : pThV 1 3 (nI l1) (rS 1 μ (7 + 4 * l1 + 2)) x = ((x + (rS 1 μ (7 + 4 * l1 + 2)) - 1) - (nI l1)) ^^^ (nI l1) := by rfl
                    refine ⟨congrArg (fun x => some (zi x)) ?_, ?_⟩
                    · unfold gAct
                      rw [if_pos hC, eK, eN, eZ, hP, hV]
                      rfl
                    unfold gActL
                    rw [if_pos hC, eK, eN, eZ, hL]
                    exact ⟨(((((zJ.rf.p (by decide)).p (by decide)).p (by decide)).p (by decide)).p (by decide)).tr q15.1, fun j j1 j2 j3 j4 j5 => by rw [q15.2.1 j j1 j5]; simp only [zp_eq]; rw [pk_un j5, pk_un j4, pk_un j2, pk_un j3, pk_un j1], q15.2.2.1, fun i hi => by have := q15.2.2.2.2.2 i hi; rw [Nat.zero_add] at this; exact this⟩
                  · exact absurd h141 (by decide)
              · exact absurd h77 (by decide)
            · refine zx_iload_n (k := 2) (nn := 77) dX11_act_76 rfl rfl rfl ?_
              refine zx_if_ne (tgt := 92) (nn := 80) dX11_act_77 (by decide) rfl (fun h77 => ?_) (fun h77 => ?_)
              · refine zx_iload_n (k := 2) (nn := 93) dX11_act_92 rfl rfl rfl ?_
                refine zx_iconst (v := 1) (nn := 94) rfl dX11_act_93 rfl ?_
                refine zx_icmp_ne (tgt := 109) (nn := 97) dX11_act_94 (by decide) rfl (fun h94 => ?_) (fun h94 => ?_)
                · exact absurd h94 (by decide)
                · refine zx_aload_n (k := 0) (nn := 98) dX11_act_97 rfl rfl rfl ?_
                  refine zx_aload_n (k := 0) (nn := 99) dX11_act_98 rfl rfl rfl ?_
                  refine zx_getI (nn := 102) flX11_417 rfl rfl dX11_act_99 rfl ?_
                  show zX shR σ 10 MX11_act 102 [(0, zr 0), (1, zi (nI k1)), (2, zi 1), (3, zi x)] [zi 3, zr 0] (zp (zp (zp (zp (zp μ 0 35 0) 0 37 (nI l1)) 0 36 3) 0 38 (rS 1 μ (7 + 4 * l1 + 2))) 0 39 0) _
                  refine zx_iload_n (k := 3) (nn := 103) dX11_act_102 rfl rfl rfl ?_
                  refine zx_callV (nn := 106) (k := 0) (d' := 6) (as := [zi 3, zi x]) (rest := []) (n := 2) (eX11_swings_3_3 σ (zp (zp (zp (zp (zp μ 0 35 0) 0 37 (nI l1)) 0 36 3) 0 38 (rS 1 μ (7 + 4 * l1 + 2))) 0 39 0) x 0 (rS 1 μ (7 + 4 * l1 + 2)) (nI l1) rfl (by omega) rfl rfl rfl rfl) kX11_swings mlX11_422 rfl rfl rfl (by decide) rfl rfl (Nat.le_of_ble_eq_true rfl) dX11_act_103 rfl ?_
                  rintro _ ν16 ⟨rfl, q16⟩
                  show zX shR σ 10 MX11_act 106 [(0, zr 0), (1, zi (nI k1)), (2, zi 1), (3, zi x)] [zi (((x + (rS 1 μ (7 + 4 * l1 + 2)) - 1) - (nI l1)) ^^^ (nI l1))] ν16 _
                  refine zx_goto (tgt := 135) dX11_act_106 (by decide) ?_
                  refine zx_istore (nn := 137) (lv' := [(4, zi (((x + (rS 1 μ (7 + 4 * l1 + 2)) - 1) - (nI l1)) ^^^ (nI l1))), (0, zr 0), (1, zi (nI k1)), (2, zi 1), (3, zi x)]) dX11_act_135 (by decide) rfl rfl ?_
                  refine zx_aload_n (k := 1) (nn := 138) dX11_act_137 rfl rfl rfl ?_
                  refine zx_getI (nn := 141) flX11_402 rfl rfl dX11_act_138 rfl ?_
                  rw [show ν16 0 39 = 0 from q16.2.2.2.1]
                  show zX shR σ 10 MX11_act 141 [(4, zi (((x + (rS 1 μ (7 + 4 * l1 + 2)) - 1) - (nI l1)) ^^^ (nI l1))), (0, zr 0), (1, zi (nI k1)), (2, zi 1), (3, zi x)] [zi 0] ν16 _
                  refine zx_if_eq (tgt := 149) (nn := 144) dX11_act_141 (by decide) rfl (fun h141 => ?_) (fun h141 => ?_)
                  · refine zx_iload (k := 0) (nn := 151) dX11_act_149 rfl rfl ?_
                    refine zx_iret rfl dX11_act_151 ?_
                    have hC : gActC μ (nI k1) 1 = true := by simp [gActC, h9, h21, n_h.2.2, h30]
                    have eK : gKd μ (nI k1) = 3 := by unfold gKd gNm; rw [n_h.2.2, hj2, hj1.2.2]; exact hκ
                    have eN : gNm μ (nI k1) = nI l1 := by unfold gNm; rw [n_h.2.2]; exact hj2
                    have eZ : gSz μ (nI k1) = rS 1 μ (7 + 4 * l1 + 2) := by unfold gSz gNm; rw [n_h.2.2, hj2, hj1.2.2]
                    have hP : pThP 1 3 (nI l1) (rS 1 μ (7 + 4 * l1 + 2)) = false := by unfold pThP; rw [decide_eq_false hd]; rfl
                    have hL : pThL 1 3 (nI l1) (rS 1 μ (7 + 4 * l1 + 2)) = [30, 11, 50, 10] := by rfl
                    have hV : pThV 1 3 (nI l1) (rS 1 μ (7 + 4 * l1 + 2)) x = ((x + (rS 1 μ (7 + 4 * l1 + 2)) - 1) - (nI l1)) ^^^ (nI l1) := by rfl
                    refine ⟨congrArg (fun x => some (zi x)) ?_, ?_⟩
                    · unfold gAct
                      rw [if_pos hC, eK, eN, eZ, hP, hV]
                      rfl
                    unfold gActL
                    rw [if_pos hC, eK, eN, eZ, hL]
                    exact ⟨(((((zJ.rf.p (by decide)).p (by decide)).p (by decide)).p (by decide)).p (by decide)).tr q16.1, fun j j1 j2 j3 j4 j5 => by rw [q16.2.1 j j1 j5]; simp only [zp_eq]; rw [pk_un j5, pk_un j4, pk_un j2, pk_un j3, pk_un j1], q16.2.2.1, fun i hi => by have := q16.2.2.2.2.2 i hi; rw [Nat.zero_add] at this; exact this⟩
                  · exact absurd h141 (by decide)
              · exact absurd h77 (by decide)
          · rw [hκ]
            show zX shR σ 10 MX11_act 76 [(0, zr 0), (1, zi (nI k1)), (2, zi 1), (3, zi x)] [] (zp (zp (zp (zp (zp μ 0 35 0) 0 37 (nI l1)) 0 36 4) 0 38 (rS 1 μ (7 + 4 * l1 + 2))) 0 39 0) _
            by_cases hd : rS 1 μ (7 + 4 * l1 + 2) = nI l1
            · refine zx_iload_n (k := 2) (nn := 77) dX11_act_76 rfl rfl rfl ?_
              refine zx_if_ne (tgt := 92) (nn := 80) dX11_act_77 (by decide) rfl (fun h77 => ?_) (fun h77 => ?_)
              · refine zx_iload_n (k := 2) (nn := 93) dX11_act_92 rfl rfl rfl ?_
                refine zx_iconst (v := 1) (nn := 94) rfl dX11_act_93 rfl ?_
                refine zx_icmp_ne (tgt := 109) (nn := 97) dX11_act_94 (by decide) rfl (fun h94 => ?_) (fun h94 => ?_)
                · exact absurd h94 (by decide)
                · refine zx_aload_n (k := 0) (nn := 98) dX11_act_97 rfl rfl rfl ?_
                  refine zx_aload_n (k := 0) (nn := 99) dX11_act_98 rfl rfl rfl ?_
                  refine zx_getI (nn := 102) flX11_417 rfl rfl dX11_act_99 rfl ?_
                  show zX shR σ 10 MX11_act 102 [(0, zr 0), (1, zi (nI k1)), (2, zi 1), (3, zi x)] [zi 4, zr 0] (zp (zp (zp (zp (zp μ 0 35 0) 0 37 (nI l1)) 0 36 4) 0 38 (rS 1 μ (7 + 4 * l1 + 2))) 0 39 0) _
                  refine zx_iload_n (k := 3) (nn := 103) dX11_act_102 rfl rfl rfl ?_
                  refine zx_callV (nn := 106) (k := 0) (d' := 4) (as := [zi 4, zi x]) (rest := []) (n := 2) (eX11_swings_4_4 σ (zp (zp (zp (zp (zp μ 0 35 0) 0 37 (nI l1)) 0 36 4) 0 38 (rS 1 μ (7 + 4 * l1 + 2))) 0 39 0) x 0 (rS 1 μ (7 + 4 * l1 + 2)) (nI l1) rfl (by omega) rfl rfl rfl rfl) kX11_swings mlX11_422 rfl rfl rfl (by decide) rfl rfl (Nat.le_of_ble_eq_true rfl) dX11_act_103 rfl ?_
                  rintro _ ν17 ⟨rfl, q17⟩
                  show zX shR σ 10 MX11_act 106 [(0, zr 0), (1, zi (nI k1)), (2, zi 1), (3, zi x)] [zi ((x + (rS 1 μ (7 + 4 * l1 + 2))) - (nI l1))] ν17 _
                  refine zx_goto (tgt := 135) dX11_act_106 (by decide) ?_
                  refine zx_istore (nn := 137) (lv' := [(4, zi ((x + (rS 1 μ (7 + 4 * l1 + 2))) - (nI l1))), (0, zr 0), (1, zi (nI k1)), (2, zi 1), (3, zi x)]) dX11_act_135 (by decide) rfl rfl ?_
                  refine zx_aload_n (k := 1) (nn := 138) dX11_act_137 rfl rfl rfl ?_
                  refine zx_getI (nn := 141) flX11_402 rfl rfl dX11_act_138 rfl ?_
                  rw [show ν17 0 39 = 0 from q17.2.2.2.1]
                  show zX shR σ 10 MX11_act 141 [(4, zi ((x + (rS 1 μ (7 + 4 * l1 + 2))) - (nI l1))), (0, zr 0), (1, zi (nI k1)), (2, zi 1), (3, zi x)] [zi 0] ν17 _
                  refine zx_if_eq (tgt := 149) (nn := 144) dX11_act_141 (by decide) rfl (fun h141 => ?_) (fun h141 => ?_)
                  · refine zx_iload (k := 0) (nn := 151) dX11_act_149 rfl rfl ?_
                    refine zx_iret rfl dX11_act_151 ?_
                    have hC : gActC μ (nI k1) 1 = true := by simp [gActC, h9, h21, n_h.2.2, h30]
                    have eK : gKd μ (nI k1) = 4 := by unfold gKd gNm; rw [n_h.2.2, hj2, hj1.2.2]; exact hκ
                    have eN : gNm μ (nI k1) = nI l1 := by unfold gNm; rw [n_h.2.2]; exact hj2
                    have eZ : gSz μ (nI k1) = rS 1 μ (7 + 4 * l1 + 2) := by unfold gSz gNm; rw [n_h.2.2, hj2, hj1.2.2]
                    have hP : pThP 1 4 (nI l1) (rS 1 μ (7 + 4 * l1 + 2)) = false := by unfold pThP; rw [decide_eq_true hd]; rfl
                    have hL : pThL 1 4 (nI l1) (rS 1 μ (7 + 4 * l1 + 2)) = [11, 10] := by rfl
                    have hV : pThV 1 4 (nI l1) (rS 1 μ (7 + 4 * l1 + 2)) x = (x + (rS 1 μ (7 + 4 * l1 + 2))) - (nI l1) := by rfl
                    refine ⟨congrArg (fun x => some (zi x)) ?_, ?_⟩
                    · unfold gAct
                      rw [if_pos hC, eK, eN, eZ, hP, hV]
                      rfl
                    unfold gActL
                    rw [if_pos hC, eK, eN, eZ, hL]
                    exact ⟨(((((zJ.rf.p (by decide)).p (by decide)).p (by decide)).p (by decide)).p (by decide)).tr q17.1, fun j j1 j2 j3 j4 j5 => by rw [q17.2.1 j j1 j5]; simp only [zp_eq]; rw [pk_un j5, pk_un j4, pk_un j2, pk_un j3, pk_un j1], q17.2.2.1, fun i hi => by have := q17.2.2.2.2.2 i hi; rw [Nat.zero_add] at this; exact this⟩
                  · exact absurd h141 (by decide)
              · exact absurd h77 (by decide)
            · refine zx_iload_n (k := 2) (nn := 77) dX11_act_76 rfl rfl rfl ?_
              refine zx_if_ne (tgt := 92) (nn := 80) dX11_act_77 (by decide) rfl (fun h77 => ?_) (fun h77 => ?_)
              · refine zx_iload_n (k := 2) (nn := 93) dX11_act_92 rfl rfl rfl ?_
                refine zx_iconst (v := 1) (nn := 94) rfl dX11_act_93 rfl ?_
                refine zx_icmp_ne (tgt := 109) (nn := 97) dX11_act_94 (by decide) rfl (fun h94 => ?_) (fun h94 => ?_)
                · exact absurd h94 (by decide)
                · refine zx_aload_n (k := 0) (nn := 98) dX11_act_97 rfl rfl rfl ?_
                  refine zx_aload_n (k := 0) (nn := 99) dX11_act_98 rfl rfl rfl ?_
                  refine zx_getI (nn := 102) flX11_417 rfl rfl dX11_act_99 rfl ?_
                  show zX shR σ 10 MX11_act 102 [(0, zr 0), (1, zi (nI k1)), (2, zi 1), (3, zi x)] [zi 4, zr 0] (zp (zp (zp (zp (zp μ 0 35 0) 0 37 (nI l1)) 0 36 4) 0 38 (rS 1 μ (7 + 4 * l1 + 2))) 0 39 0) _
                  refine zx_iload_n (k := 3) (nn := 103) dX11_act_102 rfl rfl rfl ?_
                  refine zx_callV (nn := 106) (k := 0) (d' := 4) (as := [zi 4, zi x]) (rest := []) (n := 2) (eX11_swings_4_4 σ (zp (zp (zp (zp (zp μ 0 35 0) 0 37 (nI l1)) 0 36 4) 0 38 (rS 1 μ (7 + 4 * l1 + 2))) 0 39 0) x 0 (rS 1 μ (7 + 4 * l1 + 2)) (nI l1) rfl (by omega) rfl rfl rfl rfl) kX11_swings mlX11_422 rfl rfl rfl (by decide) rfl rfl (Nat.le_of_ble_eq_true rfl) dX11_act_103 rfl ?_
                  rintro _ ν18 ⟨rfl, q18⟩
                  show zX shR σ 10 MX11_act 106 [(0, zr 0), (1, zi (nI k1)), (2, zi 1), (3, zi x)] [zi ((x + (rS 1 μ (7 + 4 * l1 + 2))) - (nI l1))] ν18 _
                  refine zx_goto (tgt := 135) dX11_act_106 (by decide) ?_
                  refine zx_istore (nn := 137) (lv' := [(4, zi ((x + (rS 1 μ (7 + 4 * l1 + 2))) - (nI l1))), (0, zr 0), (1, zi (nI k1)), (2, zi 1), (3, zi x)]) dX11_act_135 (by decide) rfl rfl ?_
                  refine zx_aload_n (k := 1) (nn := 138) dX11_act_137 rfl rfl rfl ?_
                  refine zx_getI (nn := 141) flX11_402 rfl rfl dX11_act_138 rfl ?_
                  rw [show ν18 0 39 = 0 from q18.2.2.2.1]
                  show zX shR σ 10 MX11_act 141 [(4, zi ((x + (rS 1 μ (7 + 4 * l1 + 2))) - (nI l1))), (0, zr 0), (1, zi (nI k1)), (2, zi 1), (3, zi x)] [zi 0] ν18 _
                  refine zx_if_eq (tgt := 149) (nn := 144) dX11_act_141 (by decide) rfl (fun h141 => ?_) (fun h141 => ?_)
                  · refine zx_iload (k := 0) (nn := 151) dX11_act_149 rfl rfl ?_
                    refine zx_iret rfl dX11_act_151 ?_
                    have hC : gActC μ (nI k1) 1 = true := by simp [gActC, h9, h21, n_h.2.2, h30]
                    have eK : gKd μ (nI k1) = 4 := by unfold gKd gNm; rw [n_h.2.2, hj2, hj1.2.2]; exact hκ
                    have eN : gNm μ (nI k1) = nI l1 := by unfold gNm; rw [n_h.2.2]; exact hj2
                    have eZ : gSz μ (nI k1) = rS 1 μ (7 + 4 * l1 + 2) := by unfold gSz gNm; rw [n_h.2.2, hj2, hj1.2.2]
                    have hP : pThP 1 4 (nI l1) (rS 1 μ (7 + 4 * l1 + 2)) = false := by unfold pThP; rw [decide_eq_false hd]; rfl
                    have hL : pThL 1 4 (nI l1) (rS 1 μ (7 + 4 * l1 + 2)) = [11, 10] := by rfl
                    have hV : pThV 1 4 (nI l1) (rS 1 μ (7 + 4 * l1 + 2)) x = (x + (rS 1 μ (7 + 4 * l1 + 2))) - (nI l1) := by rfl
                    refine ⟨congrArg (fun x => some (zi x)) ?_, ?_⟩
                    · unfold gAct
                      rw [if_pos hC, eK, eN, eZ, hP, hV]
                      rfl
                    unfold gActL
                    rw [if_pos hC, eK, eN, eZ, hL]
                    exact ⟨(((((zJ.rf.p (by decide)).p (by decide)).p (by decide)).p (by decide)).p (by decide)).tr q18.1, fun j j1 j2 j3 j4 j5 => by rw [q18.2.1 j j1 j5]; simp only [zp_eq]; rw [pk_un j5, pk_un j4, pk_un j2, pk_un j3, pk_un j1], q18.2.2.1, fun i hi => by have := q18.2.2.2.2.2 i hi; rw [Nat.zero_add] at this; exact this⟩
                  · exact absurd h141 (by decide)
              · exact absurd h77 (by decide)
          · rw [hκ]
            show zX shR σ 10 MX11_act 76 [(0, zr 0), (1, zi (nI k1)), (2, zi 1), (3, zi x)] [] (zp (zp (zp (zp (zp μ 0 35 0) 0 37 (nI l1)) 0 36 5) 0 38 (rS 1 μ (7 + 4 * l1 + 2))) 0 39 0) _
            by_cases hd : rS 1 μ (7 + 4 * l1 + 2) = nI l1
            · refine zx_iload_n (k := 2) (nn := 77) dX11_act_76 rfl rfl rfl ?_
              refine zx_if_ne (tgt := 92) (nn := 80) dX11_act_77 (by decide) rfl (fun h77 => ?_) (fun h77 => ?_)
              · refine zx_iload_n (k := 2) (nn := 93) dX11_act_92 rfl rfl rfl ?_
                refine zx_iconst (v := 1) (nn := 94) rfl dX11_act_93 rfl ?_
                refine zx_icmp_ne (tgt := 109) (nn := 97) dX11_act_94 (by decide) rfl (fun h94 => ?_) (fun h94 => ?_)
                · exact absurd h94 (by decide)
                · refine zx_aload_n (k := 0) (nn := 98) dX11_act_97 rfl rfl rfl ?_
                  refine zx_aload_n (k := 0) (nn := 99) dX11_act_98 rfl rfl rfl ?_
                  refine zx_getI (nn := 102) flX11_417 rfl rfl dX11_act_99 rfl ?_
                  show zX shR σ 10 MX11_act 102 [(0, zr 0), (1, zi (nI k1)), (2, zi 1), (3, zi x)] [zi 5, zr 0] (zp (zp (zp (zp (zp μ 0 35 0) 0 37 (nI l1)) 0 36 5) 0 38 (rS 1 μ (7 + 4 * l1 + 2))) 0 39 0) _
                  refine zx_iload_n (k := 3) (nn := 103) dX11_act_102 rfl rfl rfl ?_
                  refine zx_callV (nn := 106) (k := 0) (d' := 6) (as := [zi 5, zi x]) (rest := []) (n := 2) (eX11_swings_5_5 σ (zp (zp (zp (zp (zp μ 0 35 0) 0 37 (nI l1)) 0 36 5) 0 38 (rS 1 μ (7 + 4 * l1 + 2))) 0 39 0) x 0 (rS 1 μ (7 + 4 * l1 + 2)) (nI l1) rfl (by omega) rfl rfl rfl rfl) kX11_swings mlX11_422 rfl rfl rfl (by decide) rfl rfl (Nat.le_of_ble_eq_true rfl) dX11_act_103 rfl ?_
                  rintro _ ν19 ⟨rfl, q19⟩
                  show zX shR σ 10 MX11_act 106 [(0, zr 0), (1, zi (nI k1)), (2, zi 1), (3, zi x)] [zi (-((x + (rS 1 μ (7 + 4 * l1 + 2))) - (nI l1)))] ν19 _
                  refine zx_goto (tgt := 135) dX11_act_106 (by decide) ?_
                  refine zx_istore (nn := 137) (lv' := [(4, zi (-((x + (rS 1 μ (7 + 4 * l1 + 2))) - (nI l1)))), (0, zr 0), (1, zi (nI k1)), (2, zi 1), (3, zi x)]) dX11_act_135 (by decide) rfl rfl ?_
                  refine zx_aload_n (k := 1) (nn := 138) dX11_act_137 rfl rfl rfl ?_
                  refine zx_getI (nn := 141) flX11_402 rfl rfl dX11_act_138 rfl ?_
                  rw [show ν19 0 39 = 0 from q19.2.2.2.1]
                  show zX shR σ 10 MX11_act 141 [(4, zi (-((x + (rS 1 μ (7 + 4 * l1 + 2))) - (nI l1)))), (0, zr 0), (1, zi (nI k1)), (2, zi 1), (3, zi x)] [zi 0] ν19 _
                  refine zx_if_eq (tgt := 149) (nn := 144) dX11_act_141 (by decide) rfl (fun h141 => ?_) (fun h141 => ?_)
                  · refine zx_iload (k := 0) (nn := 151) dX11_act_149 rfl rfl ?_
                    refine zx_iret rfl dX11_act_151 ?_
                    have hC : gActC μ (nI k1) 1 = true := by simp [gActC, h9, h21, n_h.2.2, h30]
                    have eK : gKd μ (nI k1) = 5 := by unfold gKd gNm; rw [n_h.2.2, hj2, hj1.2.2]; exact hκ
                    have eN : gNm μ (nI k1) = nI l1 := by unfold gNm; rw [n_h.2.2]; exact hj2
                    have eZ : gSz μ (nI k1) = rS 1 μ (7 + 4 * l1 + 2) := by unfold gSz gNm; rw [n_h.2.2, hj2, hj1.2.2]
                    have hP : pThP 1 5 (nI l1) (rS 1 μ (7 + 4 * l1 + 2)) = false := by unfold pThP; rw [decide_eq_true hd]; rfl
                    have hL : pThL 1 5 (nI l1) (rS 1 μ (7 + 4 * l1 + 2)) = [60, 11, 10] := by rfl
                    have hV : pThV 1 5 (nI l1) (rS 1 μ (7 + 4 * l1 + 2)) x = -((x + (rS 1 μ (7 + 4 * l1 + 2))) - (nI l1)) := by rw [show ∀ y : Int32, -y = 0 - y from fun y => (Int32.zero_sub y).symm]; rfl
                    refine ⟨congrArg (fun x => some (zi x)) ?_, ?_⟩
                    · unfold gAct
                      rw [if_pos hC, eK, eN, eZ, hP, hV]
                      rfl
                    unfold gActL
                    rw [if_pos hC, eK, eN, eZ, hL]
                    exact ⟨(((((zJ.rf.p (by decide)).p (by decide)).p (by decide)).p (by decide)).p (by decide)).tr q19.1, fun j j1 j2 j3 j4 j5 => by rw [q19.2.1 j j1 j5]; simp only [zp_eq]; rw [pk_un j5, pk_un j4, pk_un j2, pk_un j3, pk_un j1], q19.2.2.1, fun i hi => by have := q19.2.2.2.2.2 i hi; rw [Nat.zero_add] at this; exact this⟩
                  · exact absurd h141 (by decide)
              · exact absurd h77 (by decide)
            · refine zx_iload_n (k := 2) (nn := 77) dX11_act_76 rfl rfl rfl ?_
              refine zx_if_ne (tgt := 92) (nn := 80) dX11_act_77 (by decide) rfl (fun h77 => ?_) (fun h77 => ?_)
              · refine zx_iload_n (k := 2) (nn := 93) dX11_act_92 rfl rfl rfl ?_
                refine zx_iconst (v := 1) (nn := 94) rfl dX11_act_93 rfl ?_
                refine zx_icmp_ne (tgt := 109) (nn := 97) dX11_act_94 (by decide) rfl (fun h94 => ?_) (fun h94 => ?_)
                · exact absurd h94 (by decide)
                · refine zx_aload_n (k := 0) (nn := 98) dX11_act_97 rfl rfl rfl ?_
                  refine zx_aload_n (k := 0) (nn := 99) dX11_act_98 rfl rfl rfl ?_
                  refine zx_getI (nn := 102) flX11_417 rfl rfl dX11_act_99 rfl ?_
                  show zX shR σ 10 MX11_act 102 [(0, zr 0), (1, zi (nI k1)), (2, zi 1), (3, zi x)] [zi 5, zr 0] (zp (zp (zp (zp (zp μ 0 35 0) 0 37 (nI l1)) 0 36 5) 0 38 (rS 1 μ (7 + 4 * l1 + 2))) 0 39 0) _
                  refine zx_iload_n (k := 3) (nn := 103) dX11_act_102 rfl rfl rfl ?_
                  refine zx_callV (nn := 106) (k := 0) (d' := 6) (as := [zi 5, zi x]) (rest := []) (n := 2) (eX11_swings_5_5 σ (zp (zp (zp (zp (zp μ 0 35 0) 0 37 (nI l1)) 0 36 5) 0 38 (rS 1 μ (7 + 4 * l1 + 2))) 0 39 0) x 0 (rS 1 μ (7 + 4 * l1 + 2)) (nI l1) rfl (by omega) rfl rfl rfl rfl) kX11_swings mlX11_422 rfl rfl rfl (by decide) rfl rfl (Nat.le_of_ble_eq_true rfl) dX11_act_103 rfl ?_
                  rintro _ ν20 ⟨rfl, q20⟩
                  show zX shR σ 10 MX11_act 106 [(0, zr 0), (1, zi (nI k1)), (2, zi 1), (3, zi x)] [zi (-((x + (rS 1 μ (7 + 4 * l1 + 2))) - (nI l1)))] ν20 _
                  refine zx_goto (tgt := 135) dX11_act_106 (by decide) ?_
                  refine zx_istore (nn := 137) (lv' := [(4, zi (-((x + (rS 1 μ (7 + 4 * l1 + 2))) - (nI l1)))), (0, zr 0), (1, zi (nI k1)), (2, zi 1), (3, zi x)]) dX11_act_135 (by decide) rfl rfl ?_
                  refine zx_aload_n (k := 1) (nn := 138) dX11_act_137 rfl rfl rfl ?_
                  refine zx_getI (nn := 141) flX11_402 rfl rfl dX11_act_138 rfl ?_
                  rw [show ν20 0 39 = 0 from q20.2.2.2.1]
                  show zX shR σ 10 MX11_act 141 [(4, zi (-((x + (rS 1 μ (7 + 4 * l1 + 2))) - (nI l1)))), (0, zr 0), (1, zi (nI k1)), (2, zi 1), (3, zi x)] [zi 0] ν20 _
                  refine zx_if_eq (tgt := 149) (nn := 144) dX11_act_141 (by decide) rfl (fun h141 => ?_) (fun h141 => ?_)
                  · refine zx_iload (k := 0) (nn := 151) dX11_act_149 rfl rfl ?_
                    refine zx_iret rfl dX11_act_151 ?_
                    have hC : gActC μ (nI k1) 1 = true := by simp [gActC, h9, h21, n_h.2.2, h30]
                    have eK : gKd μ (nI k1) = 5 := by unfold gKd gNm; rw [n_h.2.2, hj2, hj1.2.2]; exact hκ
                    have eN : gNm μ (nI k1) = nI l1 := by unfold gNm; rw [n_h.2.2]; exact hj2
                    have eZ : gSz μ (nI k1) = rS 1 μ (7 + 4 * l1 + 2) := by unfold gSz gNm; rw [n_h.2.2, hj2, hj1.2.2]
                    have hP : pThP 1 5 (nI l1) (rS 1 μ (7 + 4 * l1 + 2)) = false := by unfold pThP; rw [decide_eq_false hd]; rfl
                    have hL : pThL 1 5 (nI l1) (rS 1 μ (7 + 4 * l1 + 2)) = [60, 11, 10] := by rfl
                    have hV : pThV 1 5 (nI l1) (rS 1 μ (7 + 4 * l1 + 2)) x = -((x + (rS 1 μ (7 + 4 * l1 + 2))) - (nI l1)) := by rw [show ∀ y : Int32, -y = 0 - y from fun y => (Int32.zero_sub y).symm]; rfl
                    refine ⟨congrArg (fun x => some (zi x)) ?_, ?_⟩
                    · unfold gAct
                      rw [if_pos hC, eK, eN, eZ, hP, hV]
                      rfl
                    unfold gActL
                    rw [if_pos hC, eK, eN, eZ, hL]
                    exact ⟨(((((zJ.rf.p (by decide)).p (by decide)).p (by decide)).p (by decide)).p (by decide)).tr q20.1, fun j j1 j2 j3 j4 j5 => by rw [q20.2.1 j j1 j5]; simp only [zp_eq]; rw [pk_un j5, pk_un j4, pk_un j2, pk_un j3, pk_un j1], q20.2.2.1, fun i hi => by have := q20.2.2.2.2.2 i hi; rw [Nat.zero_add] at this; exact this⟩
                  · exact absurd h141 (by decide)
              · exact absurd h77 (by decide)
        · refine zx_iconst (v := 0) (nn := 34) rfl dX11_act_33 rfl ?_
          refine zx_iret rfl dX11_act_34 ?_
          have hC : gActC μ (nI k1) 1 = false := by simp [gActC, h9, h21, n_h.2.2, h30]
          exact ⟨congrArg (fun x => some (zi x)) (by unfold gAct; rw [hC]; rfl), by unfold gActL; rw [hC]; exact ⟨zJ.rf.p (by decide), fun j hj1 _ _ _ _ => by rw [zp_eq, pk_un hj1], by rw [zp_eq]; exact pk_us, fun i hi => absurd hi (by simp)⟩⟩
      · show zX shR σ 10 MX11_act 24 [(0, zr 0), (1, zi (nI k1)), (2, zi 2), (3, zi x)] [] (zp μ 0 35 0) _
        refine zx_aload_n (k := 0) (nn := 25) dX11_act_24 rfl rfl rfl ?_
        refine zx_iload_n (k := 1) (nn := 26) dX11_act_25 rfl rfl rfl ?_
        refine zx_callVf (nn := 29) (k := 0) (d' := 2) (as := [zi (nI k1)]) (rest := []) (n := 1) (eX11_heldBy_0 σ (zp μ 0 35 0) k1  ok n_h.1) kX11_heldBy mlX11_396 rfl rfl rfl (by decide) rfl rfl (Nat.le_of_ble_eq_true rfl) dX11_act_26 rfl ?_
        show zX shR σ 10 MX11_act 29 [(0, zr 0), (1, zi (nI k1)), (2, zi 2), (3, zi x)] [zi (gH (zp μ 0 35 0) k1)] (zp μ 0 35 0) _
        rw [show gH (zp μ 0 35 0) k1 = gH μ k1 from rfl]
        show zX shR σ 10 MX11_act 29 [(0, zr 0), (1, zi (nI k1)), (2, zi 2), (3, zi x)] [zi (gH μ k1)] (zp μ 0 35 0) _
        refine zx_iconst (v := 1) (nn := 30) rfl dX11_act_29 rfl ?_
        refine zx_icmp_eq (tgt := 35) (nn := 33) dX11_act_30 (by decide) rfl (fun h30 => ?_) (fun h30 => ?_)
        · refine zx_aload_n (k := 0) (nn := 36) dX11_act_35 rfl rfl rfl ?_
          refine zx_aload_n (k := 0) (nn := 37) dX11_act_36 rfl rfl rfl ?_
          refine zx_getR (q := 22) (nn := 40) flX11_61 rfl rfl dX11_act_37 rfl ?_
          refine zx_iload_n (k := 1) (nn := 41) dX11_act_40 rfl rfl rfl ?_
          refine zx_iald_n (j := k1) (nn := 42) rfl n_h.1 (by decide) dX11_act_41 rfl ?_
          obtain ⟨l1, hj1, hj2⟩ := hasL ok (gH_1 h30)
          rw [show (zp μ 0 35 0) 22 k1 = nI l1 from hj2]
          show zX shR σ 10 MX11_act 42 [(0, zr 0), (1, zi (nI k1)), (2, zi 2), (3, zi x)] [zi (nI l1), zr 0] (zp μ 0 35 0) _
          refine zx_putI (nn := 45) fpX11_420 rfl rfl rfl rfl dX11_act_42 rfl ?_
          refine zx_aload_n (k := 0) (nn := 46) dX11_act_45 rfl rfl rfl ?_
          refine zx_aload_n (k := 0) (nn := 47) dX11_act_46 rfl rfl rfl ?_
          refine zx_aload_n (k := 0) (nn := 48) dX11_act_47 rfl rfl rfl ?_
          refine zx_getI (nn := 51) flX11_420 rfl rfl dX11_act_48 rfl ?_
          show zX shR σ 10 MX11_act 51 [(0, zr 0), (1, zi (nI k1)), (2, zi 2), (3, zi x)] [zi (nI l1), zr 0, zr 0] (zp (zp μ 0 35 0) 0 37 (nI l1)) _
          refine zx_iconst (v := 0) (nn := 52) rfl dX11_act_51 rfl ?_
          refine zx_callVf (nn := 55) (k := 0) (d' := 0) (as := [zi (nI l1), zi 0]) (rest := [zr 0]) (n := 2) (eX11_of_0 σ (zp (zp μ 0 35 0) 0 37 (nI l1)) l1 0  hj1.2.1 (by decide)) kX11_of mlX11_88 rfl rfl rfl (by decide) rfl rfl (Nat.le_of_ble_eq_true rfl) dX11_act_52 rfl ?_
          show zX shR σ 10 MX11_act 55 [(0, zr 0), (1, zi (nI k1)), (2, zi 2), (3, zi x)] [zi (rS 1 (zp (zp μ 0 35 0) 0 37 (nI l1)) (7 + 4 * l1 + 0)), zr 0] (zp (zp μ 0 35 0) 0 37 (nI l1)) _
          rw [show rS 1 (zp (zp μ 0 35 0) 0 37 (nI l1)) (7 + 4 * l1 + 0) = rS 1 μ (7 + 4 * l1) from rfl]
          show zX shR σ 10 MX11_act 55 [(0, zr 0), (1, zi (nI k1)), (2, zi 2), (3, zi x)] [zi (rS 1 μ (7 + 4 * l1)), zr 0] (zp (zp μ 0 35 0) 0 37 (nI l1)) _
          refine zx_putI (nn := 58) fpX11_417 rfl rfl rfl rfl dX11_act_55 rfl ?_
          refine zx_aload_n (k := 0) (nn := 59) dX11_act_58 rfl rfl rfl ?_
          refine zx_aload_n (k := 0) (nn := 60) dX11_act_59 rfl rfl rfl ?_
          refine zx_aload_n (k := 0) (nn := 61) dX11_act_60 rfl rfl rfl ?_
          refine zx_getI (nn := 64) flX11_420 rfl rfl dX11_act_61 rfl ?_
          show zX shR σ 10 MX11_act 64 [(0, zr 0), (1, zi (nI k1)), (2, zi 2), (3, zi x)] [zi (nI l1), zr 0, zr 0] (zp (zp (zp μ 0 35 0) 0 37 (nI l1)) 0 36 (rS 1 μ (7 + 4 * l1))) _
          refine zx_iconst (v := 2) (nn := 65) rfl dX11_act_64 rfl ?_
          refine zx_callVf (nn := 68) (k := 0) (d' := 0) (as := [zi (nI l1), zi 2]) (rest := [zr 0]) (n := 2) (eX11_of_0 σ (zp (zp (zp μ 0 35 0) 0 37 (nI l1)) 0 36 (rS 1 μ (7 + 4 * l1))) l1 2  hj1.2.1 (by decide)) kX11_of mlX11_88 rfl rfl rfl (by decide) rfl rfl (Nat.le_of_ble_eq_true rfl) dX11_act_65 rfl ?_
          show zX shR σ 10 MX11_act 68 [(0, zr 0), (1, zi (nI k1)), (2, zi 2), (3, zi x)] [zi (rS 1 (zp (zp (zp μ 0 35 0) 0 37 (nI l1)) 0 36 (rS 1 μ (7 + 4 * l1))) (7 + 4 * l1 + 2)), zr 0] (zp (zp (zp μ 0 35 0) 0 37 (nI l1)) 0 36 (rS 1 μ (7 + 4 * l1))) _
          rw [show rS 1 (zp (zp (zp μ 0 35 0) 0 37 (nI l1)) 0 36 (rS 1 μ (7 + 4 * l1))) (7 + 4 * l1 + 2) = rS 1 μ (7 + 4 * l1 + 2) from rfl]
          show zX shR σ 10 MX11_act 68 [(0, zr 0), (1, zi (nI k1)), (2, zi 2), (3, zi x)] [zi (rS 1 μ (7 + 4 * l1 + 2)), zr 0] (zp (zp (zp μ 0 35 0) 0 37 (nI l1)) 0 36 (rS 1 μ (7 + 4 * l1))) _
          refine zx_putI (nn := 71) fpX11_409 rfl rfl rfl rfl dX11_act_68 rfl ?_
          refine zx_aload_n (k := 0) (nn := 72) dX11_act_71 rfl rfl rfl ?_
          refine zx_iconst (v := 0) (nn := 73) rfl dX11_act_72 rfl ?_
          refine zx_putI (nn := 76) fpX11_402 rfl rfl rfl rfl dX11_act_73 rfl ?_
          rcases kind5 (ok.2.2.2 l1 hj1.1).1 with hκ | hκ | hκ | hκ | hκ
          · rw [hκ]
            show zX shR σ 10 MX11_act 76 [(0, zr 0), (1, zi (nI k1)), (2, zi 2), (3, zi x)] [] (zp (zp (zp (zp (zp μ 0 35 0) 0 37 (nI l1)) 0 36 1) 0 38 (rS 1 μ (7 + 4 * l1 + 2))) 0 39 0) _
            by_cases hd : rS 1 μ (7 + 4 * l1 + 2) = nI l1
            · refine zx_iload_n (k := 2) (nn := 77) dX11_act_76 rfl rfl rfl ?_
              refine zx_if_ne (tgt := 92) (nn := 80) dX11_act_77 (by decide) rfl (fun h77 => ?_) (fun h77 => ?_)
              · refine zx_iload_n (k := 2) (nn := 93) dX11_act_92 rfl rfl rfl ?_
                refine zx_iconst (v := 1) (nn := 94) rfl dX11_act_93 rfl ?_
                refine zx_icmp_ne (tgt := 109) (nn := 97) dX11_act_94 (by decide) rfl (fun h94 => ?_) (fun h94 => ?_)
                · refine zx_iload_n (k := 2) (nn := 110) dX11_act_109 rfl rfl rfl ?_
                  refine zx_iconst (v := 2) (nn := 111) rfl dX11_act_110 rfl ?_
                  refine zx_icmp_ne (tgt := 126) (nn := 114) dX11_act_111 (by decide) rfl (fun h111 => ?_) (fun h111 => ?_)
                  · exact absurd h111 (by decide)
                  · refine zx_aload_n (k := 0) (nn := 115) dX11_act_114 rfl rfl rfl ?_
                    refine zx_aload_n (k := 0) (nn := 116) dX11_act_115 rfl rfl rfl ?_
                    refine zx_getI (nn := 119) flX11_417 rfl rfl dX11_act_116 rfl ?_
                    show zX shR σ 10 MX11_act 119 [(0, zr 0), (1, zi (nI k1)), (2, zi 2), (3, zi x)] [zi 1, zr 0] (zp (zp (zp (zp (zp μ 0 35 0) 0 37 (nI l1)) 0 36 1) 0 38 (rS 1 μ (7 + 4 * l1 + 2))) 0 39 0) _
                    refine zx_iload_n (k := 3) (nn := 120) dX11_act_119 rfl rfl rfl ?_
                    refine zx_callV (nn := 123) (k := 0) (d' := 2) (as := [zi 1, zi x]) (rest := []) (n := 2) (eX11_dims_1_p σ (zp (zp (zp (zp (zp μ 0 35 0) 0 37 (nI l1)) 0 36 1) 0 38 (rS 1 μ (7 + 4 * l1 + 2))) 0 39 0) x 0 (rS 1 μ (7 + 4 * l1 + 2)) (nI l1) rfl (by omega) rfl rfl rfl hd) kX11_dims mlX11_425 rfl rfl rfl (by decide) rfl rfl (Nat.le_of_ble_eq_true rfl) dX11_act_120 rfl ?_
                    rintro _ ν21 ⟨rfl, q21⟩
                    show zX shR σ 10 MX11_act 123 [(0, zr 0), (1, zi (nI k1)), (2, zi 2), (3, zi x)] [zi 0] ν21 _
                    refine zx_goto (tgt := 135) dX11_act_123 (by decide) ?_
                    refine zx_istore (nn := 137) (lv' := [(4, zi 0), (0, zr 0), (1, zi (nI k1)), (2, zi 2), (3, zi x)]) dX11_act_135 (by decide) rfl rfl ?_
                    refine zx_aload_n (k := 1) (nn := 138) dX11_act_137 rfl rfl rfl ?_
                    refine zx_getI (nn := 141) flX11_402 rfl rfl dX11_act_138 rfl ?_
                    rw [show ν21 0 39 = 1 from q21.2.2.2.1]
                    show zX shR σ 10 MX11_act 141 [(4, zi 0), (0, zr 0), (1, zi (nI k1)), (2, zi 2), (3, zi x)] [zi 1] ν21 _
                    refine zx_if_eq (tgt := 149) (nn := 144) dX11_act_141 (by decide) rfl (fun h141 => ?_) (fun h141 => ?_)
                    · exact absurd h141 (by decide)
                    · refine zx_bipush (v := -15) (nn := 146) rfl dX11_act_144 rfl ?_
                      refine zx_goto (tgt := 151) dX11_act_146 (by decide) ?_
                      refine zx_iret rfl dX11_act_151 ?_
                      have hC : gActC μ (nI k1) 2 = true := by simp [gActC, h9, h21, n_h.2.2, h30]
                      have eK : gKd μ (nI k1) = 1 := by unfold gKd gNm; rw [n_h.2.2, hj2, hj1.2.2]; exact hκ
                      have eN : gNm μ (nI k1) = nI l1 := by unfold gNm; rw [n_h.2.2]; exact hj2
                      have eZ : gSz μ (nI k1) = rS 1 μ (7 + 4 * l1 + 2) := by unfold gSz gNm; rw [n_h.2.2, hj2, hj1.2.2]
                      have hP : pThP 2 1 (nI l1) (rS 1 μ (7 + 4 * l1 + 2)) = true := by unfold pThP; rw [decide_eq_true hd]; rfl
                      have hL : pThL 2 1 (nI l1) (rS 1 μ (7 + 4 * l1 + 2)) = [12] := by show pDimL 1 (nI l1) (rS 1 μ (7 + 4 * l1 + 2)) = _; unfold pDimL; rw [if_pos hd]; rfl
                      refine ⟨congrArg (fun x => some (zi x)) ?_, ?_⟩
                      · unfold gAct
                        rw [if_pos hC, eK, eN, eZ, hP]
                        rfl
                      unfold gActL
                      rw [if_pos hC, eK, eN, eZ, hL]
                      exact ⟨(((((zJ.rf.p (by decide)).p (by decide)).p (by decide)).p (by decide)).p (by decide)).tr q21.1, fun j j1 j2 j3 j4 j5 => by rw [q21.2.1 j j1 j5]; simp only [zp_eq]; rw [pk_un j5, pk_un j4, pk_un j2, pk_un j3, pk_un j1], q21.2.2.1, fun i hi => by have := q21.2.2.2.2.2 i hi; rw [Nat.zero_add] at this; exact this⟩
                · exact absurd h94 (by decide)
              · exact absurd h77 (by decide)
            · refine zx_iload_n (k := 2) (nn := 77) dX11_act_76 rfl rfl rfl ?_
              refine zx_if_ne (tgt := 92) (nn := 80) dX11_act_77 (by decide) rfl (fun h77 => ?_) (fun h77 => ?_)
              · refine zx_iload_n (k := 2) (nn := 93) dX11_act_92 rfl rfl rfl ?_
                refine zx_iconst (v := 1) (nn := 94) rfl dX11_act_93 rfl ?_
                refine zx_icmp_ne (tgt := 109) (nn := 97) dX11_act_94 (by decide) rfl (fun h94 => ?_) (fun h94 => ?_)
                · refine zx_iload_n (k := 2) (nn := 110) dX11_act_109 rfl rfl rfl ?_
                  refine zx_iconst (v := 2) (nn := 111) rfl dX11_act_110 rfl ?_
                  refine zx_icmp_ne (tgt := 126) (nn := 114) dX11_act_111 (by decide) rfl (fun h111 => ?_) (fun h111 => ?_)
                  · exact absurd h111 (by decide)
                  · refine zx_aload_n (k := 0) (nn := 115) dX11_act_114 rfl rfl rfl ?_
                    refine zx_aload_n (k := 0) (nn := 116) dX11_act_115 rfl rfl rfl ?_
                    refine zx_getI (nn := 119) flX11_417 rfl rfl dX11_act_116 rfl ?_
                    show zX shR σ 10 MX11_act 119 [(0, zr 0), (1, zi (nI k1)), (2, zi 2), (3, zi x)] [zi 1, zr 0] (zp (zp (zp (zp (zp μ 0 35 0) 0 37 (nI l1)) 0 36 1) 0 38 (rS 1 μ (7 + 4 * l1 + 2))) 0 39 0) _
                    refine zx_iload_n (k := 3) (nn := 120) dX11_act_119 rfl rfl rfl ?_
                    refine zx_callV (nn := 123) (k := 0) (d' := 2) (as := [zi 1, zi x]) (rest := []) (n := 2) (eX11_dims_1_q σ (zp (zp (zp (zp (zp μ 0 35 0) 0 37 (nI l1)) 0 36 1) 0 38 (rS 1 μ (7 + 4 * l1 + 2))) 0 39 0) x 0 (rS 1 μ (7 + 4 * l1 + 2)) (nI l1) rfl (by omega) rfl rfl rfl hd) kX11_dims mlX11_425 rfl rfl rfl (by decide) rfl rfl (Nat.le_of_ble_eq_true rfl) dX11_act_120 rfl ?_
                    rintro _ ν22 ⟨rfl, q22⟩
                    show zX shR σ 10 MX11_act 123 [(0, zr 0), (1, zi (nI k1)), (2, zi 2), (3, zi x)] [zi (x / ((rS 1 μ (7 + 4 * l1 + 2)) - (nI l1)))] ν22 _
                    refine zx_goto (tgt := 135) dX11_act_123 (by decide) ?_
                    refine zx_istore (nn := 137) (lv' := [(4, zi (x / ((rS 1 μ (7 + 4 * l1 + 2)) - (nI l1)))), (0, zr 0), (1, zi (nI k1)), (2, zi 2), (3, zi x)]) dX11_act_135 (by decide) rfl rfl ?_
                    refine zx_aload_n (k := 1) (nn := 138) dX11_act_137 rfl rfl rfl ?_
                    refine zx_getI (nn := 141) flX11_402 rfl rfl dX11_act_138 rfl ?_
                    rw [show ν22 0 39 = 0 from q22.2.2.2.1]
                    show zX shR σ 10 MX11_act 141 [(4, zi (x / ((rS 1 μ (7 + 4 * l1 + 2)) - (nI l1)))), (0, zr 0), (1, zi (nI k1)), (2, zi 2), (3, zi x)] [zi 0] ν22 _
                    refine zx_if_eq (tgt := 149) (nn := 144) dX11_act_141 (by decide) rfl (fun h141 => ?_) (fun h141 => ?_)
                    · refine zx_iload (k := 0) (nn := 151) dX11_act_149 rfl rfl ?_
                      refine zx_iret rfl dX11_act_151 ?_
                      have hC : gActC μ (nI k1) 2 = true := by simp [gActC, h9, h21, n_h.2.2, h30]
                      have eK : gKd μ (nI k1) = 1 := by unfold gKd gNm; rw [n_h.2.2, hj2, hj1.2.2]; exact hκ
                      have eN : gNm μ (nI k1) = nI l1 := by unfold gNm; rw [n_h.2.2]; exact hj2
                      have eZ : gSz μ (nI k1) = rS 1 μ (7 + 4 * l1 + 2) := by unfold gSz gNm; rw [n_h.2.2, hj2, hj1.2.2]
                      have hP : pThP 2 1 (nI l1) (rS 1 μ (7 + 4 * l1 + 2)) = false := by unfold pThP; rw [decide_eq_false hd]; rfl
                      have hL : pThL 2 1 (nI l1) (rS 1 μ (7 + 4 * l1 + 2)) = [12] := by show pDimL 1 (nI l1) (rS 1 μ (7 + 4 * l1 + 2)) = _; unfold pDimL; rw [if_neg hd]; rfl
                      have hV : pThV 2 1 (nI l1) (rS 1 μ (7 + 4 * l1 + 2)) x = x / ((rS 1 μ (7 + 4 * l1 + 2)) - (nI l1)) := by show pDimV 1 (nI l1) (rS 1 μ (7 + 4 * l1 + 2)) x = _; unfold pDimV; rw [if_neg hd]; rfl
                      refine ⟨congrArg (fun x => some (zi x)) ?_, ?_⟩
                      · unfold gAct
                        rw [if_pos hC, eK, eN, eZ, hP, hV]
                        rfl
                      unfold gActL
                      rw [if_pos hC, eK, eN, eZ, hL]
                      exact ⟨(((((zJ.rf.p (by decide)).p (by decide)).p (by decide)).p (by decide)).p (by decide)).tr q22.1, fun j j1 j2 j3 j4 j5 => by rw [q22.2.1 j j1 j5]; simp only [zp_eq]; rw [pk_un j5, pk_un j4, pk_un j2, pk_un j3, pk_un j1], q22.2.2.1, fun i hi => by have := q22.2.2.2.2.2 i hi; rw [Nat.zero_add] at this; exact this⟩
                    · exact absurd h141 (by decide)
                · exact absurd h94 (by decide)
              · exact absurd h77 (by decide)
          · rw [hκ]
            show zX shR σ 10 MX11_act 76 [(0, zr 0), (1, zi (nI k1)), (2, zi 2), (3, zi x)] [] (zp (zp (zp (zp (zp μ 0 35 0) 0 37 (nI l1)) 0 36 2) 0 38 (rS 1 μ (7 + 4 * l1 + 2))) 0 39 0) _
            by_cases hd : rS 1 μ (7 + 4 * l1 + 2) = nI l1
            · refine zx_iload_n (k := 2) (nn := 77) dX11_act_76 rfl rfl rfl ?_
              refine zx_if_ne (tgt := 92) (nn := 80) dX11_act_77 (by decide) rfl (fun h77 => ?_) (fun h77 => ?_)
              · refine zx_iload_n (k := 2) (nn := 93) dX11_act_92 rfl rfl rfl ?_
                refine zx_iconst (v := 1) (nn := 94) rfl dX11_act_93 rfl ?_
                refine zx_icmp_ne (tgt := 109) (nn := 97) dX11_act_94 (by decide) rfl (fun h94 => ?_) (fun h94 => ?_)
                · refine zx_iload_n (k := 2) (nn := 110) dX11_act_109 rfl rfl rfl ?_
                  refine zx_iconst (v := 2) (nn := 111) rfl dX11_act_110 rfl ?_
                  refine zx_icmp_ne (tgt := 126) (nn := 114) dX11_act_111 (by decide) rfl (fun h111 => ?_) (fun h111 => ?_)
                  · exact absurd h111 (by decide)
                  · refine zx_aload_n (k := 0) (nn := 115) dX11_act_114 rfl rfl rfl ?_
                    refine zx_aload_n (k := 0) (nn := 116) dX11_act_115 rfl rfl rfl ?_
                    refine zx_getI (nn := 119) flX11_417 rfl rfl dX11_act_116 rfl ?_
                    show zX shR σ 10 MX11_act 119 [(0, zr 0), (1, zi (nI k1)), (2, zi 2), (3, zi x)] [zi 2, zr 0] (zp (zp (zp (zp (zp μ 0 35 0) 0 37 (nI l1)) 0 36 2) 0 38 (rS 1 μ (7 + 4 * l1 + 2))) 0 39 0) _
                    refine zx_iload_n (k := 3) (nn := 120) dX11_act_119 rfl rfl rfl ?_
                    refine zx_callV (nn := 123) (k := 0) (d' := 2) (as := [zi 2, zi x]) (rest := []) (n := 2) (eX11_dims_2_p σ (zp (zp (zp (zp (zp μ 0 35 0) 0 37 (nI l1)) 0 36 2) 0 38 (rS 1 μ (7 + 4 * l1 + 2))) 0 39 0) x 0 (rS 1 μ (7 + 4 * l1 + 2)) (nI l1) rfl (by omega) rfl rfl rfl hd) kX11_dims mlX11_425 rfl rfl rfl (by decide) rfl rfl (Nat.le_of_ble_eq_true rfl) dX11_act_120 rfl ?_
                    rintro _ ν23 ⟨rfl, q23⟩
                    show zX shR σ 10 MX11_act 123 [(0, zr 0), (1, zi (nI k1)), (2, zi 2), (3, zi x)] [zi 0] ν23 _
                    refine zx_goto (tgt := 135) dX11_act_123 (by decide) ?_
                    refine zx_istore (nn := 137) (lv' := [(4, zi 0), (0, zr 0), (1, zi (nI k1)), (2, zi 2), (3, zi x)]) dX11_act_135 (by decide) rfl rfl ?_
                    refine zx_aload_n (k := 1) (nn := 138) dX11_act_137 rfl rfl rfl ?_
                    refine zx_getI (nn := 141) flX11_402 rfl rfl dX11_act_138 rfl ?_
                    rw [show ν23 0 39 = 1 from q23.2.2.2.1]
                    show zX shR σ 10 MX11_act 141 [(4, zi 0), (0, zr 0), (1, zi (nI k1)), (2, zi 2), (3, zi x)] [zi 1] ν23 _
                    refine zx_if_eq (tgt := 149) (nn := 144) dX11_act_141 (by decide) rfl (fun h141 => ?_) (fun h141 => ?_)
                    · exact absurd h141 (by decide)
                    · refine zx_bipush (v := -15) (nn := 146) rfl dX11_act_144 rfl ?_
                      refine zx_goto (tgt := 151) dX11_act_146 (by decide) ?_
                      refine zx_iret rfl dX11_act_151 ?_
                      have hC : gActC μ (nI k1) 2 = true := by simp [gActC, h9, h21, n_h.2.2, h30]
                      have eK : gKd μ (nI k1) = 2 := by unfold gKd gNm; rw [n_h.2.2, hj2, hj1.2.2]; exact hκ
                      have eN : gNm μ (nI k1) = nI l1 := by unfold gNm; rw [n_h.2.2]; exact hj2
                      have eZ : gSz μ (nI k1) = rS 1 μ (7 + 4 * l1 + 2) := by unfold gSz gNm; rw [n_h.2.2, hj2, hj1.2.2]
                      have hP : pThP 2 2 (nI l1) (rS 1 μ (7 + 4 * l1 + 2)) = true := by unfold pThP; rw [decide_eq_true hd]; rfl
                      have hL : pThL 2 2 (nI l1) (rS 1 μ (7 + 4 * l1 + 2)) = [12] := by show pDimL 2 (nI l1) (rS 1 μ (7 + 4 * l1 + 2)) = _; unfold pDimL; rw [if_pos hd]; rfl
                      refine ⟨congrArg (fun x => some (zi x)) ?_, ?_⟩
                      · unfold gAct
                        rw [if_pos hC, eK, eN, eZ, hP]
                        rfl
                      unfold gActL
                      rw [if_pos hC, eK, eN, eZ, hL]
                      exact ⟨(((((zJ.rf.p (by decide)).p (by decide)).p (by decide)).p (by decide)).p (by decide)).tr q23.1, fun j j1 j2 j3 j4 j5 => by rw [q23.2.1 j j1 j5]; simp only [zp_eq]; rw [pk_un j5, pk_un j4, pk_un j2, pk_un j3, pk_un j1], q23.2.2.1, fun i hi => by have := q23.2.2.2.2.2 i hi; rw [Nat.zero_add] at this; exact this⟩
                · exact absurd h94 (by decide)
              · exact absurd h77 (by decide)
            · refine zx_iload_n (k := 2) (nn := 77) dX11_act_76 rfl rfl rfl ?_
              refine zx_if_ne (tgt := 92) (nn := 80) dX11_act_77 (by decide) rfl (fun h77 => ?_) (fun h77 => ?_)
              · refine zx_iload_n (k := 2) (nn := 93) dX11_act_92 rfl rfl rfl ?_
                refine zx_iconst (v := 1) (nn := 94) rfl dX11_act_93 rfl ?_
                refine zx_icmp_ne (tgt := 109) (nn := 97) dX11_act_94 (by decide) rfl (fun h94 => ?_) (fun h94 => ?_)
                · refine zx_iload_n (k := 2) (nn := 110) dX11_act_109 rfl rfl rfl ?_
                  refine zx_iconst (v := 2) (nn := 111) rfl dX11_act_110 rfl ?_
                  refine zx_icmp_ne (tgt := 126) (nn := 114) dX11_act_111 (by decide) rfl (fun h111 => ?_) (fun h111 => ?_)
                  · exact absurd h111 (by decide)
                  · refine zx_aload_n (k := 0) (nn := 115) dX11_act_114 rfl rfl rfl ?_
                    refine zx_aload_n (k := 0) (nn := 116) dX11_act_115 rfl rfl rfl ?_
                    refine zx_getI (nn := 119) flX11_417 rfl rfl dX11_act_116 rfl ?_
                    show zX shR σ 10 MX11_act 119 [(0, zr 0), (1, zi (nI k1)), (2, zi 2), (3, zi x)] [zi 2, zr 0] (zp (zp (zp (zp (zp μ 0 35 0) 0 37 (nI l1)) 0 36 2) 0 38 (rS 1 μ (7 + 4 * l1 + 2))) 0 39 0) _
                    refine zx_iload_n (k := 3) (nn := 120) dX11_act_119 rfl rfl rfl ?_
                    refine zx_callV (nn := 123) (k := 0) (d' := 2) (as := [zi 2, zi x]) (rest := []) (n := 2) (eX11_dims_2_q σ (zp (zp (zp (zp (zp μ 0 35 0) 0 37 (nI l1)) 0 36 2) 0 38 (rS 1 μ (7 + 4 * l1 + 2))) 0 39 0) x 0 (rS 1 μ (7 + 4 * l1 + 2)) (nI l1) rfl (by omega) rfl rfl rfl hd) kX11_dims mlX11_425 rfl rfl rfl (by decide) rfl rfl (Nat.le_of_ble_eq_true rfl) dX11_act_120 rfl ?_
                    rintro _ ν24 ⟨rfl, q24⟩
                    show zX shR σ 10 MX11_act 123 [(0, zr 0), (1, zi (nI k1)), (2, zi 2), (3, zi x)] [zi (x / ((rS 1 μ (7 + 4 * l1 + 2)) - (nI l1)))] ν24 _
                    refine zx_goto (tgt := 135) dX11_act_123 (by decide) ?_
                    refine zx_istore (nn := 137) (lv' := [(4, zi (x / ((rS 1 μ (7 + 4 * l1 + 2)) - (nI l1)))), (0, zr 0), (1, zi (nI k1)), (2, zi 2), (3, zi x)]) dX11_act_135 (by decide) rfl rfl ?_
                    refine zx_aload_n (k := 1) (nn := 138) dX11_act_137 rfl rfl rfl ?_
                    refine zx_getI (nn := 141) flX11_402 rfl rfl dX11_act_138 rfl ?_
                    rw [show ν24 0 39 = 0 from q24.2.2.2.1]
                    show zX shR σ 10 MX11_act 141 [(4, zi (x / ((rS 1 μ (7 + 4 * l1 + 2)) - (nI l1)))), (0, zr 0), (1, zi (nI k1)), (2, zi 2), (3, zi x)] [zi 0] ν24 _
                    refine zx_if_eq (tgt := 149) (nn := 144) dX11_act_141 (by decide) rfl (fun h141 => ?_) (fun h141 => ?_)
                    · refine zx_iload (k := 0) (nn := 151) dX11_act_149 rfl rfl ?_
                      refine zx_iret rfl dX11_act_151 ?_
                      have hC : gActC μ (nI k1) 2 = true := by simp [gActC, h9, h21, n_h.2.2, h30]
                      have eK : gKd μ (nI k1) = 2 := by unfold gKd gNm; rw [n_h.2.2, hj2, hj1.2.2]; exact hκ
                      have eN : gNm μ (nI k1) = nI l1 := by unfold gNm; rw [n_h.2.2]; exact hj2
                      have eZ : gSz μ (nI k1) = rS 1 μ (7 + 4 * l1 + 2) := by unfold gSz gNm; rw [n_h.2.2, hj2, hj1.2.2]
                      have hP : pThP 2 2 (nI l1) (rS 1 μ (7 + 4 * l1 + 2)) = false := by unfold pThP; rw [decide_eq_false hd]; rfl
                      have hL : pThL 2 2 (nI l1) (rS 1 μ (7 + 4 * l1 + 2)) = [12] := by show pDimL 2 (nI l1) (rS 1 μ (7 + 4 * l1 + 2)) = _; unfold pDimL; rw [if_neg hd]; rfl
                      have hV : pThV 2 2 (nI l1) (rS 1 μ (7 + 4 * l1 + 2)) x = x / ((rS 1 μ (7 + 4 * l1 + 2)) - (nI l1)) := by show pDimV 2 (nI l1) (rS 1 μ (7 + 4 * l1 + 2)) x = _; unfold pDimV; rw [if_neg hd]; rfl
                      refine ⟨congrArg (fun x => some (zi x)) ?_, ?_⟩
                      · unfold gAct
                        rw [if_pos hC, eK, eN, eZ, hP, hV]
                        rfl
                      unfold gActL
                      rw [if_pos hC, eK, eN, eZ, hL]
                      exact ⟨(((((zJ.rf.p (by decide)).p (by decide)).p (by decide)).p (by decide)).p (by decide)).tr q24.1, fun j j1 j2 j3 j4 j5 => by rw [q24.2.1 j j1 j5]; simp only [zp_eq]; rw [pk_un j5, pk_un j4, pk_un j2, pk_un j3, pk_un j1], q24.2.2.1, fun i hi => by have := q24.2.2.2.2.2 i hi; rw [Nat.zero_add] at this; exact this⟩
                    · exact absurd h141 (by decide)
                · exact absurd h94 (by decide)
              · exact absurd h77 (by decide)
          · rw [hκ]
            show zX shR σ 10 MX11_act 76 [(0, zr 0), (1, zi (nI k1)), (2, zi 2), (3, zi x)] [] (zp (zp (zp (zp (zp μ 0 35 0) 0 37 (nI l1)) 0 36 3) 0 38 (rS 1 μ (7 + 4 * l1 + 2))) 0 39 0) _
            by_cases hd : rS 1 μ (7 + 4 * l1 + 2) = nI l1
            · refine zx_iload_n (k := 2) (nn := 77) dX11_act_76 rfl rfl rfl ?_
              refine zx_if_ne (tgt := 92) (nn := 80) dX11_act_77 (by decide) rfl (fun h77 => ?_) (fun h77 => ?_)
              · refine zx_iload_n (k := 2) (nn := 93) dX11_act_92 rfl rfl rfl ?_
                refine zx_iconst (v := 1) (nn := 94) rfl dX11_act_93 rfl ?_
                refine zx_icmp_ne (tgt := 109) (nn := 97) dX11_act_94 (by decide) rfl (fun h94 => ?_) (fun h94 => ?_)
                · refine zx_iload_n (k := 2) (nn := 110) dX11_act_109 rfl rfl rfl ?_
                  refine zx_iconst (v := 2) (nn := 111) rfl dX11_act_110 rfl ?_
                  refine zx_icmp_ne (tgt := 126) (nn := 114) dX11_act_111 (by decide) rfl (fun h111 => ?_) (fun h111 => ?_)
                  · exact absurd h111 (by decide)
                  · refine zx_aload_n (k := 0) (nn := 115) dX11_act_114 rfl rfl rfl ?_
                    refine zx_aload_n (k := 0) (nn := 116) dX11_act_115 rfl rfl rfl ?_
                    refine zx_getI (nn := 119) flX11_417 rfl rfl dX11_act_116 rfl ?_
                    show zX shR σ 10 MX11_act 119 [(0, zr 0), (1, zi (nI k1)), (2, zi 2), (3, zi x)] [zi 3, zr 0] (zp (zp (zp (zp (zp μ 0 35 0) 0 37 (nI l1)) 0 36 3) 0 38 (rS 1 μ (7 + 4 * l1 + 2))) 0 39 0) _
                    refine zx_iload_n (k := 3) (nn := 120) dX11_act_119 rfl rfl rfl ?_
                    refine zx_callV (nn := 123) (k := 0) (d' := 3) (as := [zi 3, zi x]) (rest := []) (n := 2) (eX11_dims_3_p σ (zp (zp (zp (zp (zp μ 0 35 0) 0 37 (nI l1)) 0 36 3) 0 38 (rS 1 μ (7 + 4 * l1 + 2))) 0 39 0) x 0 (rS 1 μ (7 + 4 * l1 + 2)) (nI l1) rfl (by omega) rfl rfl rfl hd) kX11_dims mlX11_425 rfl rfl rfl (by decide) rfl rfl (Nat.le_of_ble_eq_true rfl) dX11_act_120 rfl ?_
                    rintro _ ν25 ⟨rfl, q25⟩
                    show zX shR σ 10 MX11_act 123 [(0, zr 0), (1, zi (nI k1)), (2, zi 2), (3, zi x)] [zi 0] ν25 _
                    refine zx_goto (tgt := 135) dX11_act_123 (by decide) ?_
                    refine zx_istore (nn := 137) (lv' := [(4, zi 0), (0, zr 0), (1, zi (nI k1)), (2, zi 2), (3, zi x)]) dX11_act_135 (by decide) rfl rfl ?_
                    refine zx_aload_n (k := 1) (nn := 138) dX11_act_137 rfl rfl rfl ?_
                    refine zx_getI (nn := 141) flX11_402 rfl rfl dX11_act_138 rfl ?_
                    rw [show ν25 0 39 = 1 from q25.2.2.2.1]
                    show zX shR σ 10 MX11_act 141 [(4, zi 0), (0, zr 0), (1, zi (nI k1)), (2, zi 2), (3, zi x)] [zi 1] ν25 _
                    refine zx_if_eq (tgt := 149) (nn := 144) dX11_act_141 (by decide) rfl (fun h141 => ?_) (fun h141 => ?_)
                    · exact absurd h141 (by decide)
                    · refine zx_bipush (v := -15) (nn := 146) rfl dX11_act_144 rfl ?_
                      refine zx_goto (tgt := 151) dX11_act_146 (by decide) ?_
                      refine zx_iret rfl dX11_act_151 ?_
                      have hC : gActC μ (nI k1) 2 = true := by simp [gActC, h9, h21, n_h.2.2, h30]
                      have eK : gKd μ (nI k1) = 3 := by unfold gKd gNm; rw [n_h.2.2, hj2, hj1.2.2]; exact hκ
                      have eN : gNm μ (nI k1) = nI l1 := by unfold gNm; rw [n_h.2.2]; exact hj2
                      have eZ : gSz μ (nI k1) = rS 1 μ (7 + 4 * l1 + 2) := by unfold gSz gNm; rw [n_h.2.2, hj2, hj1.2.2]
                      have hP : pThP 2 3 (nI l1) (rS 1 μ (7 + 4 * l1 + 2)) = true := by unfold pThP; rw [decide_eq_true hd]; rfl
                      have hL : pThL 2 3 (nI l1) (rS 1 μ (7 + 4 * l1 + 2)) = [12] := by show pDimL 3 (nI l1) (rS 1 μ (7 + 4 * l1 + 2)) = _; unfold pDimL; rw [if_pos hd]; rfl
                      refine ⟨congrArg (fun x => some (zi x)) ?_, ?_⟩
                      · unfold gAct
                        rw [if_pos hC, eK, eN, eZ, hP]
                        rfl
                      unfold gActL
                      rw [if_pos hC, eK, eN, eZ, hL]
                      exact ⟨(((((zJ.rf.p (by decide)).p (by decide)).p (by decide)).p (by decide)).p (by decide)).tr q25.1, fun j j1 j2 j3 j4 j5 => by rw [q25.2.1 j j1 j5]; simp only [zp_eq]; rw [pk_un j5, pk_un j4, pk_un j2, pk_un j3, pk_un j1], q25.2.2.1, fun i hi => by have := q25.2.2.2.2.2 i hi; rw [Nat.zero_add] at this; exact this⟩
                · exact absurd h94 (by decide)
              · exact absurd h77 (by decide)
            · refine zx_iload_n (k := 2) (nn := 77) dX11_act_76 rfl rfl rfl ?_
              refine zx_if_ne (tgt := 92) (nn := 80) dX11_act_77 (by decide) rfl (fun h77 => ?_) (fun h77 => ?_)
              · refine zx_iload_n (k := 2) (nn := 93) dX11_act_92 rfl rfl rfl ?_
                refine zx_iconst (v := 1) (nn := 94) rfl dX11_act_93 rfl ?_
                refine zx_icmp_ne (tgt := 109) (nn := 97) dX11_act_94 (by decide) rfl (fun h94 => ?_) (fun h94 => ?_)
                · refine zx_iload_n (k := 2) (nn := 110) dX11_act_109 rfl rfl rfl ?_
                  refine zx_iconst (v := 2) (nn := 111) rfl dX11_act_110 rfl ?_
                  refine zx_icmp_ne (tgt := 126) (nn := 114) dX11_act_111 (by decide) rfl (fun h111 => ?_) (fun h111 => ?_)
                  · exact absurd h111 (by decide)
                  · refine zx_aload_n (k := 0) (nn := 115) dX11_act_114 rfl rfl rfl ?_
                    refine zx_aload_n (k := 0) (nn := 116) dX11_act_115 rfl rfl rfl ?_
                    refine zx_getI (nn := 119) flX11_417 rfl rfl dX11_act_116 rfl ?_
                    show zX shR σ 10 MX11_act 119 [(0, zr 0), (1, zi (nI k1)), (2, zi 2), (3, zi x)] [zi 3, zr 0] (zp (zp (zp (zp (zp μ 0 35 0) 0 37 (nI l1)) 0 36 3) 0 38 (rS 1 μ (7 + 4 * l1 + 2))) 0 39 0) _
                    refine zx_iload_n (k := 3) (nn := 120) dX11_act_119 rfl rfl rfl ?_
                    refine zx_callV (nn := 123) (k := 0) (d' := 3) (as := [zi 3, zi x]) (rest := []) (n := 2) (eX11_dims_3_q σ (zp (zp (zp (zp (zp μ 0 35 0) 0 37 (nI l1)) 0 36 3) 0 38 (rS 1 μ (7 + 4 * l1 + 2))) 0 39 0) x 0 (rS 1 μ (7 + 4 * l1 + 2)) (nI l1) rfl (by omega) rfl rfl rfl hd) kX11_dims mlX11_425 rfl rfl rfl (by decide) rfl rfl (Nat.le_of_ble_eq_true rfl) dX11_act_120 rfl ?_
                    rintro _ ν26 ⟨rfl, q26⟩
                    show zX shR σ 10 MX11_act 123 [(0, zr 0), (1, zi (nI k1)), (2, zi 2), (3, zi x)] [zi (x / ((rS 1 μ (7 + 4 * l1 + 2)) - (nI l1)))] ν26 _
                    refine zx_goto (tgt := 135) dX11_act_123 (by decide) ?_
                    refine zx_istore (nn := 137) (lv' := [(4, zi (x / ((rS 1 μ (7 + 4 * l1 + 2)) - (nI l1)))), (0, zr 0), (1, zi (nI k1)), (2, zi 2), (3, zi x)]) dX11_act_135 (by decide) rfl rfl ?_
                    refine zx_aload_n (k := 1) (nn := 138) dX11_act_137 rfl rfl rfl ?_
                    refine zx_getI (nn := 141) flX11_402 rfl rfl dX11_act_138 rfl ?_
                    rw [show ν26 0 39 = 0 from q26.2.2.2.1]
                    show zX shR σ 10 MX11_act 141 [(4, zi (x / ((rS 1 μ (7 + 4 * l1 + 2)) - (nI l1)))), (0, zr 0), (1, zi (nI k1)), (2, zi 2), (3, zi x)] [zi 0] ν26 _
                    refine zx_if_eq (tgt := 149) (nn := 144) dX11_act_141 (by decide) rfl (fun h141 => ?_) (fun h141 => ?_)
                    · refine zx_iload (k := 0) (nn := 151) dX11_act_149 rfl rfl ?_
                      refine zx_iret rfl dX11_act_151 ?_
                      have hC : gActC μ (nI k1) 2 = true := by simp [gActC, h9, h21, n_h.2.2, h30]
                      have eK : gKd μ (nI k1) = 3 := by unfold gKd gNm; rw [n_h.2.2, hj2, hj1.2.2]; exact hκ
                      have eN : gNm μ (nI k1) = nI l1 := by unfold gNm; rw [n_h.2.2]; exact hj2
                      have eZ : gSz μ (nI k1) = rS 1 μ (7 + 4 * l1 + 2) := by unfold gSz gNm; rw [n_h.2.2, hj2, hj1.2.2]
                      have hP : pThP 2 3 (nI l1) (rS 1 μ (7 + 4 * l1 + 2)) = false := by unfold pThP; rw [decide_eq_false hd]; rfl
                      have hL : pThL 2 3 (nI l1) (rS 1 μ (7 + 4 * l1 + 2)) = [12] := by show pDimL 3 (nI l1) (rS 1 μ (7 + 4 * l1 + 2)) = _; unfold pDimL; rw [if_neg hd]; rfl
                      have hV : pThV 2 3 (nI l1) (rS 1 μ (7 + 4 * l1 + 2)) x = x / ((rS 1 μ (7 + 4 * l1 + 2)) - (nI l1)) := by show pDimV 3 (nI l1) (rS 1 μ (7 + 4 * l1 + 2)) x = _; unfold pDimV; rw [if_neg hd]; rfl
                      refine ⟨congrArg (fun x => some (zi x)) ?_, ?_⟩
                      · unfold gAct
                        rw [if_pos hC, eK, eN, eZ, hP, hV]
                        rfl
                      unfold gActL
                      rw [if_pos hC, eK, eN, eZ, hL]
                      exact ⟨(((((zJ.rf.p (by decide)).p (by decide)).p (by decide)).p (by decide)).p (by decide)).tr q26.1, fun j j1 j2 j3 j4 j5 => by rw [q26.2.1 j j1 j5]; simp only [zp_eq]; rw [pk_un j5, pk_un j4, pk_un j2, pk_un j3, pk_un j1], q26.2.2.1, fun i hi => by have := q26.2.2.2.2.2 i hi; rw [Nat.zero_add] at this; exact this⟩
                    · exact absurd h141 (by decide)
                · exact absurd h94 (by decide)
              · exact absurd h77 (by decide)
          · rw [hκ]
            show zX shR σ 10 MX11_act 76 [(0, zr 0), (1, zi (nI k1)), (2, zi 2), (3, zi x)] [] (zp (zp (zp (zp (zp μ 0 35 0) 0 37 (nI l1)) 0 36 4) 0 38 (rS 1 μ (7 + 4 * l1 + 2))) 0 39 0) _
            by_cases hd : rS 1 μ (7 + 4 * l1 + 2) = nI l1
            · refine zx_iload_n (k := 2) (nn := 77) dX11_act_76 rfl rfl rfl ?_
              refine zx_if_ne (tgt := 92) (nn := 80) dX11_act_77 (by decide) rfl (fun h77 => ?_) (fun h77 => ?_)
              · refine zx_iload_n (k := 2) (nn := 93) dX11_act_92 rfl rfl rfl ?_
                refine zx_iconst (v := 1) (nn := 94) rfl dX11_act_93 rfl ?_
                refine zx_icmp_ne (tgt := 109) (nn := 97) dX11_act_94 (by decide) rfl (fun h94 => ?_) (fun h94 => ?_)
                · refine zx_iload_n (k := 2) (nn := 110) dX11_act_109 rfl rfl rfl ?_
                  refine zx_iconst (v := 2) (nn := 111) rfl dX11_act_110 rfl ?_
                  refine zx_icmp_ne (tgt := 126) (nn := 114) dX11_act_111 (by decide) rfl (fun h111 => ?_) (fun h111 => ?_)
                  · exact absurd h111 (by decide)
                  · refine zx_aload_n (k := 0) (nn := 115) dX11_act_114 rfl rfl rfl ?_
                    refine zx_aload_n (k := 0) (nn := 116) dX11_act_115 rfl rfl rfl ?_
                    refine zx_getI (nn := 119) flX11_417 rfl rfl dX11_act_116 rfl ?_
                    show zX shR σ 10 MX11_act 119 [(0, zr 0), (1, zi (nI k1)), (2, zi 2), (3, zi x)] [zi 4, zr 0] (zp (zp (zp (zp (zp μ 0 35 0) 0 37 (nI l1)) 0 36 4) 0 38 (rS 1 μ (7 + 4 * l1 + 2))) 0 39 0) _
                    refine zx_iload_n (k := 3) (nn := 120) dX11_act_119 rfl rfl rfl ?_
                    refine zx_callV (nn := 123) (k := 0) (d' := 2) (as := [zi 4, zi x]) (rest := []) (n := 2) (eX11_dims_4_p σ (zp (zp (zp (zp (zp μ 0 35 0) 0 37 (nI l1)) 0 36 4) 0 38 (rS 1 μ (7 + 4 * l1 + 2))) 0 39 0) x 0 (rS 1 μ (7 + 4 * l1 + 2)) (nI l1) rfl (by omega) rfl rfl rfl hd) kX11_dims mlX11_425 rfl rfl rfl (by decide) rfl rfl (Nat.le_of_ble_eq_true rfl) dX11_act_120 rfl ?_
                    rintro _ ν27 ⟨rfl, q27⟩
                    show zX shR σ 10 MX11_act 123 [(0, zr 0), (1, zi (nI k1)), (2, zi 2), (3, zi x)] [zi 0] ν27 _
                    refine zx_goto (tgt := 135) dX11_act_123 (by decide) ?_
                    refine zx_istore (nn := 137) (lv' := [(4, zi 0), (0, zr 0), (1, zi (nI k1)), (2, zi 2), (3, zi x)]) dX11_act_135 (by decide) rfl rfl ?_
                    refine zx_aload_n (k := 1) (nn := 138) dX11_act_137 rfl rfl rfl ?_
                    refine zx_getI (nn := 141) flX11_402 rfl rfl dX11_act_138 rfl ?_
                    rw [show ν27 0 39 = 1 from q27.2.2.2.1]
                    show zX shR σ 10 MX11_act 141 [(4, zi 0), (0, zr 0), (1, zi (nI k1)), (2, zi 2), (3, zi x)] [zi 1] ν27 _
                    refine zx_if_eq (tgt := 149) (nn := 144) dX11_act_141 (by decide) rfl (fun h141 => ?_) (fun h141 => ?_)
                    · exact absurd h141 (by decide)
                    · refine zx_bipush (v := -15) (nn := 146) rfl dX11_act_144 rfl ?_
                      refine zx_goto (tgt := 151) dX11_act_146 (by decide) ?_
                      refine zx_iret rfl dX11_act_151 ?_
                      have hC : gActC μ (nI k1) 2 = true := by simp [gActC, h9, h21, n_h.2.2, h30]
                      have eK : gKd μ (nI k1) = 4 := by unfold gKd gNm; rw [n_h.2.2, hj2, hj1.2.2]; exact hκ
                      have eN : gNm μ (nI k1) = nI l1 := by unfold gNm; rw [n_h.2.2]; exact hj2
                      have eZ : gSz μ (nI k1) = rS 1 μ (7 + 4 * l1 + 2) := by unfold gSz gNm; rw [n_h.2.2, hj2, hj1.2.2]
                      have hP : pThP 2 4 (nI l1) (rS 1 μ (7 + 4 * l1 + 2)) = true := by unfold pThP; rw [decide_eq_true hd]; rfl
                      have hL : pThL 2 4 (nI l1) (rS 1 μ (7 + 4 * l1 + 2)) = [40, 12] := by show pDimL 4 (nI l1) (rS 1 μ (7 + 4 * l1 + 2)) = _; unfold pDimL; rw [if_pos hd]; rfl
                      refine ⟨congrArg (fun x => some (zi x)) ?_, ?_⟩
                      · unfold gAct
                        rw [if_pos hC, eK, eN, eZ, hP]
                        rfl
                      unfold gActL
                      rw [if_pos hC, eK, eN, eZ, hL]
                      exact ⟨(((((zJ.rf.p (by decide)).p (by decide)).p (by decide)).p (by decide)).p (by decide)).tr q27.1, fun j j1 j2 j3 j4 j5 => by rw [q27.2.1 j j1 j5]; simp only [zp_eq]; rw [pk_un j5, pk_un j4, pk_un j2, pk_un j3, pk_un j1], q27.2.2.1, fun i hi => by have := q27.2.2.2.2.2 i hi; rw [Nat.zero_add] at this; exact this⟩
                · exact absurd h94 (by decide)
              · exact absurd h77 (by decide)
            · refine zx_iload_n (k := 2) (nn := 77) dX11_act_76 rfl rfl rfl ?_
              refine zx_if_ne (tgt := 92) (nn := 80) dX11_act_77 (by decide) rfl (fun h77 => ?_) (fun h77 => ?_)
              · refine zx_iload_n (k := 2) (nn := 93) dX11_act_92 rfl rfl rfl ?_
                refine zx_iconst (v := 1) (nn := 94) rfl dX11_act_93 rfl ?_
                refine zx_icmp_ne (tgt := 109) (nn := 97) dX11_act_94 (by decide) rfl (fun h94 => ?_) (fun h94 => ?_)
                · refine zx_iload_n (k := 2) (nn := 110) dX11_act_109 rfl rfl rfl ?_
                  refine zx_iconst (v := 2) (nn := 111) rfl dX11_act_110 rfl ?_
                  refine zx_icmp_ne (tgt := 126) (nn := 114) dX11_act_111 (by decide) rfl (fun h111 => ?_) (fun h111 => ?_)
                  · exact absurd h111 (by decide)
                  · refine zx_aload_n (k := 0) (nn := 115) dX11_act_114 rfl rfl rfl ?_
                    refine zx_aload_n (k := 0) (nn := 116) dX11_act_115 rfl rfl rfl ?_
                    refine zx_getI (nn := 119) flX11_417 rfl rfl dX11_act_116 rfl ?_
                    show zX shR σ 10 MX11_act 119 [(0, zr 0), (1, zi (nI k1)), (2, zi 2), (3, zi x)] [zi 4, zr 0] (zp (zp (zp (zp (zp μ 0 35 0) 0 37 (nI l1)) 0 36 4) 0 38 (rS 1 μ (7 + 4 * l1 + 2))) 0 39 0) _
                    refine zx_iload_n (k := 3) (nn := 120) dX11_act_119 rfl rfl rfl ?_
                    refine zx_callV (nn := 123) (k := 0) (d' := 2) (as := [zi 4, zi x]) (rest := []) (n := 2) (eX11_dims_4_q σ (zp (zp (zp (zp (zp μ 0 35 0) 0 37 (nI l1)) 0 36 4) 0 38 (rS 1 μ (7 + 4 * l1 + 2))) 0 39 0) x 0 (rS 1 μ (7 + 4 * l1 + 2)) (nI l1) rfl (by omega) rfl rfl rfl hd) kX11_dims mlX11_425 rfl rfl rfl (by decide) rfl rfl (Nat.le_of_ble_eq_true rfl) dX11_act_120 rfl ?_
                    rintro _ ν28 ⟨rfl, q28⟩
                    show zX shR σ 10 MX11_act 123 [(0, zr 0), (1, zi (nI k1)), (2, zi 2), (3, zi x)] [zi ((x - 3) / ((rS 1 μ (7 + 4 * l1 + 2)) - (nI l1)))] ν28 _
                    refine zx_goto (tgt := 135) dX11_act_123 (by decide) ?_
                    refine zx_istore (nn := 137) (lv' := [(4, zi ((x - 3) / ((rS 1 μ (7 + 4 * l1 + 2)) - (nI l1)))), (0, zr 0), (1, zi (nI k1)), (2, zi 2), (3, zi x)]) dX11_act_135 (by decide) rfl rfl ?_
                    refine zx_aload_n (k := 1) (nn := 138) dX11_act_137 rfl rfl rfl ?_
                    refine zx_getI (nn := 141) flX11_402 rfl rfl dX11_act_138 rfl ?_
                    rw [show ν28 0 39 = 0 from q28.2.2.2.1]
                    show zX shR σ 10 MX11_act 141 [(4, zi ((x - 3) / ((rS 1 μ (7 + 4 * l1 + 2)) - (nI l1)))), (0, zr 0), (1, zi (nI k1)), (2, zi 2), (3, zi x)] [zi 0] ν28 _
                    refine zx_if_eq (tgt := 149) (nn := 144) dX11_act_141 (by decide) rfl (fun h141 => ?_) (fun h141 => ?_)
                    · refine zx_iload (k := 0) (nn := 151) dX11_act_149 rfl rfl ?_
                      refine zx_iret rfl dX11_act_151 ?_
                      have hC : gActC μ (nI k1) 2 = true := by simp [gActC, h9, h21, n_h.2.2, h30]
                      have eK : gKd μ (nI k1) = 4 := by unfold gKd gNm; rw [n_h.2.2, hj2, hj1.2.2]; exact hκ
                      have eN : gNm μ (nI k1) = nI l1 := by unfold gNm; rw [n_h.2.2]; exact hj2
                      have eZ : gSz μ (nI k1) = rS 1 μ (7 + 4 * l1 + 2) := by unfold gSz gNm; rw [n_h.2.2, hj2, hj1.2.2]
                      have hP : pThP 2 4 (nI l1) (rS 1 μ (7 + 4 * l1 + 2)) = false := by unfold pThP; rw [decide_eq_false hd]; rfl
                      have hL : pThL 2 4 (nI l1) (rS 1 μ (7 + 4 * l1 + 2)) = [40, 12] := by show pDimL 4 (nI l1) (rS 1 μ (7 + 4 * l1 + 2)) = _; unfold pDimL; rw [if_neg hd]; rfl
                      have hV : pThV 2 4 (nI l1) (rS 1 μ (7 + 4 * l1 + 2)) x = (x - 3) / ((rS 1 μ (7 + 4 * l1 + 2)) - (nI l1)) := by show pDimV 4 (nI l1) (rS 1 μ (7 + 4 * l1 + 2)) x = _; unfold pDimV; rw [if_neg hd]; rfl
                      refine ⟨congrArg (fun x => some (zi x)) ?_, ?_⟩
                      · unfold gAct
                        rw [if_pos hC, eK, eN, eZ, hP, hV]
                        rfl
                      unfold gActL
                      rw [if_pos hC, eK, eN, eZ, hL]
                      exact ⟨(((((zJ.rf.p (by decide)).p (by decide)).p (by decide)).p (by decide)).p (by decide)).tr q28.1, fun j j1 j2 j3 j4 j5 => by rw [q28.2.1 j j1 j5]; simp only [zp_eq]; rw [pk_un j5, pk_un j4, pk_un j2, pk_un j3, pk_un j1], q28.2.2.1, fun i hi => by have := q28.2.2.2.2.2 i hi; rw [Nat.zero_add] at this; exact this⟩
                    · exact absurd h141 (by decide)
                · exact absurd h94 (by decide)
              · exact absurd h77 (by decide)
          · rw [hκ]
            show zX shR σ 10 MX11_act 76 [(0, zr 0), (1, zi (nI k1)), (2, zi 2), (3, zi x)] [] (zp (zp (zp (zp (zp μ 0 35 0) 0 37 (nI l1)) 0 36 5) 0 38 (rS 1 μ (7 + 4 * l1 + 2))) 0 39 0) _
            by_cases hd : rS 1 μ (7 + 4 * l1 + 2) = nI l1
            · refine zx_iload_n (k := 2) (nn := 77) dX11_act_76 rfl rfl rfl ?_
              refine zx_if_ne (tgt := 92) (nn := 80) dX11_act_77 (by decide) rfl (fun h77 => ?_) (fun h77 => ?_)
              · refine zx_iload_n (k := 2) (nn := 93) dX11_act_92 rfl rfl rfl ?_
                refine zx_iconst (v := 1) (nn := 94) rfl dX11_act_93 rfl ?_
                refine zx_icmp_ne (tgt := 109) (nn := 97) dX11_act_94 (by decide) rfl (fun h94 => ?_) (fun h94 => ?_)
                · refine zx_iload_n (k := 2) (nn := 110) dX11_act_109 rfl rfl rfl ?_
                  refine zx_iconst (v := 2) (nn := 111) rfl dX11_act_110 rfl ?_
                  refine zx_icmp_ne (tgt := 126) (nn := 114) dX11_act_111 (by decide) rfl (fun h111 => ?_) (fun h111 => ?_)
                  · exact absurd h111 (by decide)
                  · refine zx_aload_n (k := 0) (nn := 115) dX11_act_114 rfl rfl rfl ?_
                    refine zx_aload_n (k := 0) (nn := 116) dX11_act_115 rfl rfl rfl ?_
                    refine zx_getI (nn := 119) flX11_417 rfl rfl dX11_act_116 rfl ?_
                    show zX shR σ 10 MX11_act 119 [(0, zr 0), (1, zi (nI k1)), (2, zi 2), (3, zi x)] [zi 5, zr 0] (zp (zp (zp (zp (zp μ 0 35 0) 0 37 (nI l1)) 0 36 5) 0 38 (rS 1 μ (7 + 4 * l1 + 2))) 0 39 0) _
                    refine zx_iload_n (k := 3) (nn := 120) dX11_act_119 rfl rfl rfl ?_
                    refine zx_callV (nn := 123) (k := 0) (d' := 3) (as := [zi 5, zi x]) (rest := []) (n := 2) (eX11_dims_5_5_p σ (zp (zp (zp (zp (zp μ 0 35 0) 0 37 (nI l1)) 0 36 5) 0 38 (rS 1 μ (7 + 4 * l1 + 2))) 0 39 0) x 0 (rS 1 μ (7 + 4 * l1 + 2)) (nI l1) rfl (by omega) rfl rfl rfl rfl hd) kX11_dims mlX11_425 rfl rfl rfl (by decide) rfl rfl (Nat.le_of_ble_eq_true rfl) dX11_act_120 rfl ?_
                    rintro _ ν29 ⟨rfl, q29⟩
                    show zX shR σ 10 MX11_act 123 [(0, zr 0), (1, zi (nI k1)), (2, zi 2), (3, zi x)] [zi 0] ν29 _
                    refine zx_goto (tgt := 135) dX11_act_123 (by decide) ?_
                    refine zx_istore (nn := 137) (lv' := [(4, zi 0), (0, zr 0), (1, zi (nI k1)), (2, zi 2), (3, zi x)]) dX11_act_135 (by decide) rfl rfl ?_
                    refine zx_aload_n (k := 1) (nn := 138) dX11_act_137 rfl rfl rfl ?_
                    refine zx_getI (nn := 141) flX11_402 rfl rfl dX11_act_138 rfl ?_
                    rw [show ν29 0 39 = 1 from q29.2.2.2.1]
                    show zX shR σ 10 MX11_act 141 [(4, zi 0), (0, zr 0), (1, zi (nI k1)), (2, zi 2), (3, zi x)] [zi 1] ν29 _
                    refine zx_if_eq (tgt := 149) (nn := 144) dX11_act_141 (by decide) rfl (fun h141 => ?_) (fun h141 => ?_)
                    · exact absurd h141 (by decide)
                    · refine zx_bipush (v := -15) (nn := 146) rfl dX11_act_144 rfl ?_
                      refine zx_goto (tgt := 151) dX11_act_146 (by decide) ?_
                      refine zx_iret rfl dX11_act_151 ?_
                      have hC : gActC μ (nI k1) 2 = true := by simp [gActC, h9, h21, n_h.2.2, h30]
                      have eK : gKd μ (nI k1) = 5 := by unfold gKd gNm; rw [n_h.2.2, hj2, hj1.2.2]; exact hκ
                      have eN : gNm μ (nI k1) = nI l1 := by unfold gNm; rw [n_h.2.2]; exact hj2
                      have eZ : gSz μ (nI k1) = rS 1 μ (7 + 4 * l1 + 2) := by unfold gSz gNm; rw [n_h.2.2, hj2, hj1.2.2]
                      have hP : pThP 2 5 (nI l1) (rS 1 μ (7 + 4 * l1 + 2)) = true := by unfold pThP; rw [decide_eq_true hd]; rfl
                      have hL : pThL 2 5 (nI l1) (rS 1 μ (7 + 4 * l1 + 2)) = [61, 40, 12] := by show pDimL 5 (nI l1) (rS 1 μ (7 + 4 * l1 + 2)) = _; unfold pDimL; rw [if_pos hd]; rfl
                      refine ⟨congrArg (fun x => some (zi x)) ?_, ?_⟩
                      · unfold gAct
                        rw [if_pos hC, eK, eN, eZ, hP]
                        rfl
                      unfold gActL
                      rw [if_pos hC, eK, eN, eZ, hL]
                      exact ⟨(((((zJ.rf.p (by decide)).p (by decide)).p (by decide)).p (by decide)).p (by decide)).tr q29.1, fun j j1 j2 j3 j4 j5 => by rw [q29.2.1 j j1 j5]; simp only [zp_eq]; rw [pk_un j5, pk_un j4, pk_un j2, pk_un j3, pk_un j1], q29.2.2.1, fun i hi => by have := q29.2.2.2.2.2 i hi; rw [Nat.zero_add] at this; exact this⟩
                · exact absurd h94 (by decide)
              · exact absurd h77 (by decide)
            · refine zx_iload_n (k := 2) (nn := 77) dX11_act_76 rfl rfl rfl ?_
              refine zx_if_ne (tgt := 92) (nn := 80) dX11_act_77 (by decide) rfl (fun h77 => ?_) (fun h77 => ?_)
              · refine zx_iload_n (k := 2) (nn := 93) dX11_act_92 rfl rfl rfl ?_
                refine zx_iconst (v := 1) (nn := 94) rfl dX11_act_93 rfl ?_
                refine zx_icmp_ne (tgt := 109) (nn := 97) dX11_act_94 (by decide) rfl (fun h94 => ?_) (fun h94 => ?_)
                · refine zx_iload_n (k := 2) (nn := 110) dX11_act_109 rfl rfl rfl ?_
                  refine zx_iconst (v := 2) (nn := 111) rfl dX11_act_110 rfl ?_
                  refine zx_icmp_ne (tgt := 126) (nn := 114) dX11_act_111 (by decide) rfl (fun h111 => ?_) (fun h111 => ?_)
                  · exact absurd h111 (by decide)
                  · refine zx_aload_n (k := 0) (nn := 115) dX11_act_114 rfl rfl rfl ?_
                    refine zx_aload_n (k := 0) (nn := 116) dX11_act_115 rfl rfl rfl ?_
                    refine zx_getI (nn := 119) flX11_417 rfl rfl dX11_act_116 rfl ?_
                    show zX shR σ 10 MX11_act 119 [(0, zr 0), (1, zi (nI k1)), (2, zi 2), (3, zi x)] [zi 5, zr 0] (zp (zp (zp (zp (zp μ 0 35 0) 0 37 (nI l1)) 0 36 5) 0 38 (rS 1 μ (7 + 4 * l1 + 2))) 0 39 0) _
                    refine zx_iload_n (k := 3) (nn := 120) dX11_act_119 rfl rfl rfl ?_
                    refine zx_callV (nn := 123) (k := 0) (d' := 4) (as := [zi 5, zi x]) (rest := []) (n := 2) (eX11_dims_5_5_q σ (zp (zp (zp (zp (zp μ 0 35 0) 0 37 (nI l1)) 0 36 5) 0 38 (rS 1 μ (7 + 4 * l1 + 2))) 0 39 0) x 0 (rS 1 μ (7 + 4 * l1 + 2)) (nI l1) rfl (by omega) rfl rfl rfl rfl hd) kX11_dims mlX11_425 rfl rfl rfl (by decide) rfl rfl (Nat.le_of_ble_eq_true rfl) dX11_act_120 rfl ?_
                    rintro _ ν30 ⟨rfl, q30⟩
                    show zX shR σ 10 MX11_act 123 [(0, zr 0), (1, zi (nI k1)), (2, zi 2), (3, zi x)] [zi ((x - 3) / ((rS 1 μ (7 + 4 * l1 + 2)) - (nI l1)) - ((nI l1) + (rS 1 μ (7 + 4 * l1 + 2))))] ν30 _
                    refine zx_goto (tgt := 135) dX11_act_123 (by decide) ?_
                    refine zx_istore (nn := 137) (lv' := [(4, zi ((x - 3) / ((rS 1 μ (7 + 4 * l1 + 2)) - (nI l1)) - ((nI l1) + (rS 1 μ (7 + 4 * l1 + 2))))), (0, zr 0), (1, zi (nI k1)), (2, zi 2), (3, zi x)]) dX11_act_135 (by decide) rfl rfl ?_
                    refine zx_aload_n (k := 1) (nn := 138) dX11_act_137 rfl rfl rfl ?_
                    refine zx_getI (nn := 141) flX11_402 rfl rfl dX11_act_138 rfl ?_
                    rw [show ν30 0 39 = 0 from q30.2.2.2.1]
                    show zX shR σ 10 MX11_act 141 [(4, zi ((x - 3) / ((rS 1 μ (7 + 4 * l1 + 2)) - (nI l1)) - ((nI l1) + (rS 1 μ (7 + 4 * l1 + 2))))), (0, zr 0), (1, zi (nI k1)), (2, zi 2), (3, zi x)] [zi 0] ν30 _
                    refine zx_if_eq (tgt := 149) (nn := 144) dX11_act_141 (by decide) rfl (fun h141 => ?_) (fun h141 => ?_)
                    · refine zx_iload (k := 0) (nn := 151) dX11_act_149 rfl rfl ?_
                      refine zx_iret rfl dX11_act_151 ?_
                      have hC : gActC μ (nI k1) 2 = true := by simp [gActC, h9, h21, n_h.2.2, h30]
                      have eK : gKd μ (nI k1) = 5 := by unfold gKd gNm; rw [n_h.2.2, hj2, hj1.2.2]; exact hκ
                      have eN : gNm μ (nI k1) = nI l1 := by unfold gNm; rw [n_h.2.2]; exact hj2
                      have eZ : gSz μ (nI k1) = rS 1 μ (7 + 4 * l1 + 2) := by unfold gSz gNm; rw [n_h.2.2, hj2, hj1.2.2]
                      have hP : pThP 2 5 (nI l1) (rS 1 μ (7 + 4 * l1 + 2)) = false := by unfold pThP; rw [decide_eq_false hd]; rfl
                      have hL : pThL 2 5 (nI l1) (rS 1 μ (7 + 4 * l1 + 2)) = [61, 40, 12, 10] := by show pDimL 5 (nI l1) (rS 1 μ (7 + 4 * l1 + 2)) = _; unfold pDimL; rw [if_neg hd]; rfl
                      have hV : pThV 2 5 (nI l1) (rS 1 μ (7 + 4 * l1 + 2)) x = (x - 3) / ((rS 1 μ (7 + 4 * l1 + 2)) - (nI l1)) - ((nI l1) + (rS 1 μ (7 + 4 * l1 + 2))) := by show pDimV 5 (nI l1) (rS 1 μ (7 + 4 * l1 + 2)) x = _; unfold pDimV; rw [if_neg hd]; rfl
                      refine ⟨congrArg (fun x => some (zi x)) ?_, ?_⟩
                      · unfold gAct
                        rw [if_pos hC, eK, eN, eZ, hP, hV]
                        rfl
                      unfold gActL
                      rw [if_pos hC, eK, eN, eZ, hL]
                      exact ⟨(((((zJ.rf.p (by decide)).p (by decide)).p (by decide)).p (by decide)).p (by decide)).tr q30.1, fun j j1 j2 j3 j4 j5 => by rw [q30.2.1 j j1 j5]; simp only [zp_eq]; rw [pk_un j5, pk_un j4, pk_un j2, pk_un j3, pk_un j1], q30.2.2.1, fun i hi => by have := q30.2.2.2.2.2 i hi; rw [Nat.zero_add] at this; exact this⟩
                    · exact absurd h141 (by decide)
                · exact absurd h94 (by decide)
              · exact absurd h77 (by decide)
        · refine zx_iconst (v := 0) (nn := 34) rfl dX11_act_33 rfl ?_
          refine zx_iret rfl dX11_act_34 ?_
          have hC : gActC μ (nI k1) 2 = false := by simp [gActC, h9, h21, n_h.2.2, h30]
          exact ⟨congrArg (fun x => some (zi x)) (by unfold gAct; rw [hC]; rfl), by unfold gActL; rw [hC]; exact ⟨zJ.rf.p (by decide), fun j hj1 _ _ _ _ => by rw [zp_eq, pk_un hj1], by rw [zp_eq]; exact pk_us, fun i hi => absurd hi (by simp)⟩⟩
      · show zX shR σ 10 MX11_act 24 [(0, zr 0), (1, zi (nI k1)), (2, zi 3), (3, zi x)] [] (zp μ 0 35 0) _
        refine zx_aload_n (k := 0) (nn := 25) dX11_act_24 rfl rfl rfl ?_
        refine zx_iload_n (k := 1) (nn := 26) dX11_act_25 rfl rfl rfl ?_
        refine zx_callVf (nn := 29) (k := 0) (d' := 2) (as := [zi (nI k1)]) (rest := []) (n := 1) (eX11_heldBy_0 σ (zp μ 0 35 0) k1  ok n_h.1) kX11_heldBy mlX11_396 rfl rfl rfl (by decide) rfl rfl (Nat.le_of_ble_eq_true rfl) dX11_act_26 rfl ?_
        show zX shR σ 10 MX11_act 29 [(0, zr 0), (1, zi (nI k1)), (2, zi 3), (3, zi x)] [zi (gH (zp μ 0 35 0) k1)] (zp μ 0 35 0) _
        rw [show gH (zp μ 0 35 0) k1 = gH μ k1 from rfl]
        show zX shR σ 10 MX11_act 29 [(0, zr 0), (1, zi (nI k1)), (2, zi 3), (3, zi x)] [zi (gH μ k1)] (zp μ 0 35 0) _
        refine zx_iconst (v := 1) (nn := 30) rfl dX11_act_29 rfl ?_
        refine zx_icmp_eq (tgt := 35) (nn := 33) dX11_act_30 (by decide) rfl (fun h30 => ?_) (fun h30 => ?_)
        · refine zx_aload_n (k := 0) (nn := 36) dX11_act_35 rfl rfl rfl ?_
          refine zx_aload_n (k := 0) (nn := 37) dX11_act_36 rfl rfl rfl ?_
          refine zx_getR (q := 22) (nn := 40) flX11_61 rfl rfl dX11_act_37 rfl ?_
          refine zx_iload_n (k := 1) (nn := 41) dX11_act_40 rfl rfl rfl ?_
          refine zx_iald_n (j := k1) (nn := 42) rfl n_h.1 (by decide) dX11_act_41 rfl ?_
          obtain ⟨l1, hj1, hj2⟩ := hasL ok (gH_1 h30)
          rw [show (zp μ 0 35 0) 22 k1 = nI l1 from hj2]
          show zX shR σ 10 MX11_act 42 [(0, zr 0), (1, zi (nI k1)), (2, zi 3), (3, zi x)] [zi (nI l1), zr 0] (zp μ 0 35 0) _
          refine zx_putI (nn := 45) fpX11_420 rfl rfl rfl rfl dX11_act_42 rfl ?_
          refine zx_aload_n (k := 0) (nn := 46) dX11_act_45 rfl rfl rfl ?_
          refine zx_aload_n (k := 0) (nn := 47) dX11_act_46 rfl rfl rfl ?_
          refine zx_aload_n (k := 0) (nn := 48) dX11_act_47 rfl rfl rfl ?_
          refine zx_getI (nn := 51) flX11_420 rfl rfl dX11_act_48 rfl ?_
          show zX shR σ 10 MX11_act 51 [(0, zr 0), (1, zi (nI k1)), (2, zi 3), (3, zi x)] [zi (nI l1), zr 0, zr 0] (zp (zp μ 0 35 0) 0 37 (nI l1)) _
          refine zx_iconst (v := 0) (nn := 52) rfl dX11_act_51 rfl ?_
          refine zx_callVf (nn := 55) (k := 0) (d' := 0) (as := [zi (nI l1), zi 0]) (rest := [zr 0]) (n := 2) (eX11_of_0 σ (zp (zp μ 0 35 0) 0 37 (nI l1)) l1 0  hj1.2.1 (by decide)) kX11_of mlX11_88 rfl rfl rfl (by decide) rfl rfl (Nat.le_of_ble_eq_true rfl) dX11_act_52 rfl ?_
          show zX shR σ 10 MX11_act 55 [(0, zr 0), (1, zi (nI k1)), (2, zi 3), (3, zi x)] [zi (rS 1 (zp (zp μ 0 35 0) 0 37 (nI l1)) (7 + 4 * l1 + 0)), zr 0] (zp (zp μ 0 35 0) 0 37 (nI l1)) _
          rw [show rS 1 (zp (zp μ 0 35 0) 0 37 (nI l1)) (7 + 4 * l1 + 0) = rS 1 μ (7 + 4 * l1) from rfl]
          show zX shR σ 10 MX11_act 55 [(0, zr 0), (1, zi (nI k1)), (2, zi 3), (3, zi x)] [zi (rS 1 μ (7 + 4 * l1)), zr 0] (zp (zp μ 0 35 0) 0 37 (nI l1)) _
          refine zx_putI (nn := 58) fpX11_417 rfl rfl rfl rfl dX11_act_55 rfl ?_
          refine zx_aload_n (k := 0) (nn := 59) dX11_act_58 rfl rfl rfl ?_
          refine zx_aload_n (k := 0) (nn := 60) dX11_act_59 rfl rfl rfl ?_
          refine zx_aload_n (k := 0) (nn := 61) dX11_act_60 rfl rfl rfl ?_
          refine zx_getI (nn := 64) flX11_420 rfl rfl dX11_act_61 rfl ?_
          show zX shR σ 10 MX11_act 64 [(0, zr 0), (1, zi (nI k1)), (2, zi 3), (3, zi x)] [zi (nI l1), zr 0, zr 0] (zp (zp (zp μ 0 35 0) 0 37 (nI l1)) 0 36 (rS 1 μ (7 + 4 * l1))) _
          refine zx_iconst (v := 2) (nn := 65) rfl dX11_act_64 rfl ?_
          refine zx_callVf (nn := 68) (k := 0) (d' := 0) (as := [zi (nI l1), zi 2]) (rest := [zr 0]) (n := 2) (eX11_of_0 σ (zp (zp (zp μ 0 35 0) 0 37 (nI l1)) 0 36 (rS 1 μ (7 + 4 * l1))) l1 2  hj1.2.1 (by decide)) kX11_of mlX11_88 rfl rfl rfl (by decide) rfl rfl (Nat.le_of_ble_eq_true rfl) dX11_act_65 rfl ?_
          show zX shR σ 10 MX11_act 68 [(0, zr 0), (1, zi (nI k1)), (2, zi 3), (3, zi x)] [zi (rS 1 (zp (zp (zp μ 0 35 0) 0 37 (nI l1)) 0 36 (rS 1 μ (7 + 4 * l1))) (7 + 4 * l1 + 2)), zr 0] (zp (zp (zp μ 0 35 0) 0 37 (nI l1)) 0 36 (rS 1 μ (7 + 4 * l1))) _
          rw [show rS 1 (zp (zp (zp μ 0 35 0) 0 37 (nI l1)) 0 36 (rS 1 μ (7 + 4 * l1))) (7 + 4 * l1 + 2) = rS 1 μ (7 + 4 * l1 + 2) from rfl]
          show zX shR σ 10 MX11_act 68 [(0, zr 0), (1, zi (nI k1)), (2, zi 3), (3, zi x)] [zi (rS 1 μ (7 + 4 * l1 + 2)), zr 0] (zp (zp (zp μ 0 35 0) 0 37 (nI l1)) 0 36 (rS 1 μ (7 + 4 * l1))) _
          refine zx_putI (nn := 71) fpX11_409 rfl rfl rfl rfl dX11_act_68 rfl ?_
          refine zx_aload_n (k := 0) (nn := 72) dX11_act_71 rfl rfl rfl ?_
          refine zx_iconst (v := 0) (nn := 73) rfl dX11_act_72 rfl ?_
          refine zx_putI (nn := 76) fpX11_402 rfl rfl rfl rfl dX11_act_73 rfl ?_
          rcases kind5 (ok.2.2.2 l1 hj1.1).1 with hκ | hκ | hκ | hκ | hκ
          · rw [hκ]
            show zX shR σ 10 MX11_act 76 [(0, zr 0), (1, zi (nI k1)), (2, zi 3), (3, zi x)] [] (zp (zp (zp (zp (zp μ 0 35 0) 0 37 (nI l1)) 0 36 1) 0 38 (rS 1 μ (7 + 4 * l1 + 2))) 0 39 0) _
            by_cases hd : rS 1 μ (7 + 4 * l1 + 2) = nI l1
            · refine zx_iload_n (k := 2) (nn := 77) dX11_act_76 rfl rfl rfl ?_
              refine zx_if_ne (tgt := 92) (nn := 80) dX11_act_77 (by decide) rfl (fun h77 => ?_) (fun h77 => ?_)
              · refine zx_iload_n (k := 2) (nn := 93) dX11_act_92 rfl rfl rfl ?_
                refine zx_iconst (v := 1) (nn := 94) rfl dX11_act_93 rfl ?_
                refine zx_icmp_ne (tgt := 109) (nn := 97) dX11_act_94 (by decide) rfl (fun h94 => ?_) (fun h94 => ?_)
                · refine zx_iload_n (k := 2) (nn := 110) dX11_act_109 rfl rfl rfl ?_
                  refine zx_iconst (v := 2) (nn := 111) rfl dX11_act_110 rfl ?_
                  refine zx_icmp_ne (tgt := 126) (nn := 114) dX11_act_111 (by decide) rfl (fun h111 => ?_) (fun h111 => ?_)
                  · refine zx_aload_n (k := 0) (nn := 127) dX11_act_126 rfl rfl rfl ?_
                    refine zx_aload_n (k := 0) (nn := 128) dX11_act_127 rfl rfl rfl ?_
                    refine zx_getI (nn := 131) flX11_417 rfl rfl dX11_act_128 rfl ?_
                    show zX shR σ 10 MX11_act 131 [(0, zr 0), (1, zi (nI k1)), (2, zi 3), (3, zi x)] [zi 1, zr 0] (zp (zp (zp (zp (zp μ 0 35 0) 0 37 (nI l1)) 0 36 1) 0 38 (rS 1 μ (7 + 4 * l1 + 2))) 0 39 0) _
                    refine zx_iload_n (k := 3) (nn := 132) dX11_act_131 rfl rfl rfl ?_
                    refine zx_callV (nn := 135) (k := 0) (d' := 6) (as := [zi 1, zi x]) (rest := []) (n := 2) (eX11_follows_1_1 σ (zp (zp (zp (zp (zp μ 0 35 0) 0 37 (nI l1)) 0 36 1) 0 38 (rS 1 μ (7 + 4 * l1 + 2))) 0 39 0) x 0 (rS 1 μ (7 + 4 * l1 + 2)) (nI l1) rfl (by omega) rfl rfl rfl rfl) kX11_follows mlX11_428 rfl rfl rfl (by decide) rfl rfl (Nat.le_of_ble_eq_true rfl) dX11_act_132 rfl ?_
                    rintro _ ν31 ⟨rfl, q31⟩
                    show zX shR σ 10 MX11_act 135 [(0, zr 0), (1, zi (nI k1)), (2, zi 3), (3, zi x)] [zi ((((x + (rS 1 μ (7 + 4 * l1 + 2))) * 2) - (nI l1)) ^^^ (rS 1 μ (7 + 4 * l1 + 2)))] ν31 _
                    refine zx_istore (nn := 137) (lv' := [(4, zi ((((x + (rS 1 μ (7 + 4 * l1 + 2))) * 2) - (nI l1)) ^^^ (rS 1 μ (7 + 4 * l1 + 2)))), (0, zr 0), (1, zi (nI k1)), (2, zi 3), (3, zi x)]) dX11_act_135 (by decide) rfl rfl ?_
                    refine zx_aload_n (k := 1) (nn := 138) dX11_act_137 rfl rfl rfl ?_
                    refine zx_getI (nn := 141) flX11_402 rfl rfl dX11_act_138 rfl ?_
                    rw [show ν31 0 39 = 0 from q31.2.2.2.1]
                    show zX shR σ 10 MX11_act 141 [(4, zi ((((x + (rS 1 μ (7 + 4 * l1 + 2))) * 2) - (nI l1)) ^^^ (rS 1 μ (7 + 4 * l1 + 2)))), (0, zr 0), (1, zi (nI k1)), (2, zi 3), (3, zi x)] [zi 0] ν31 _
                    refine zx_if_eq (tgt := 149) (nn := 144) dX11_act_141 (by decide) rfl (fun h141 => ?_) (fun h141 => ?_)
                    · refine zx_iload (k := 0) (nn := 151) dX11_act_149 rfl rfl ?_
                      refine zx_iret rfl dX11_act_151 ?_
                      have hC : gActC μ (nI k1) 3 = true := by simp [gActC, h9, h21, n_h.2.2, h30]
                      have eK : gKd μ (nI k1) = 1 := by unfold gKd gNm; rw [n_h.2.2, hj2, hj1.2.2]; exact hκ
                      have eN : gNm μ (nI k1) = nI l1 := by unfold gNm; rw [n_h.2.2]; exact hj2
                      have eZ : gSz μ (nI k1) = rS 1 μ (7 + 4 * l1 + 2) := by unfold gSz gNm; rw [n_h.2.2, hj2, hj1.2.2]
                      have hP : pThP 3 1 (nI l1) (rS 1 μ (7 + 4 * l1 + 2)) = false := by unfold pThP; rw [decide_eq_true hd]; rfl
                      have hL : pThL 3 1 (nI l1) (rS 1 μ (7 + 4 * l1 + 2)) = [13, 11, 20, 10] := by rfl
                      have hV : pThV 3 1 (nI l1) (rS 1 μ (7 + 4 * l1 + 2)) x = (((x + (rS 1 μ (7 + 4 * l1 + 2))) * 2) - (nI l1)) ^^^ (rS 1 μ (7 + 4 * l1 + 2)) := by rfl
                      refine ⟨congrArg (fun x => some (zi x)) ?_, ?_⟩
                      · unfold gAct
                        rw [if_pos hC, eK, eN, eZ, hP, hV]
                        rfl
                      unfold gActL
                      rw [if_pos hC, eK, eN, eZ, hL]
                      exact ⟨(((((zJ.rf.p (by decide)).p (by decide)).p (by decide)).p (by decide)).p (by decide)).tr q31.1, fun j j1 j2 j3 j4 j5 => by rw [q31.2.1 j j1 j5]; simp only [zp_eq]; rw [pk_un j5, pk_un j4, pk_un j2, pk_un j3, pk_un j1], q31.2.2.1, fun i hi => by have := q31.2.2.2.2.2 i hi; rw [Nat.zero_add] at this; exact this⟩
                    · exact absurd h141 (by decide)
                  · exact absurd h111 (by decide)
                · exact absurd h94 (by decide)
              · exact absurd h77 (by decide)
            · refine zx_iload_n (k := 2) (nn := 77) dX11_act_76 rfl rfl rfl ?_
              refine zx_if_ne (tgt := 92) (nn := 80) dX11_act_77 (by decide) rfl (fun h77 => ?_) (fun h77 => ?_)
              · refine zx_iload_n (k := 2) (nn := 93) dX11_act_92 rfl rfl rfl ?_
                refine zx_iconst (v := 1) (nn := 94) rfl dX11_act_93 rfl ?_
                refine zx_icmp_ne (tgt := 109) (nn := 97) dX11_act_94 (by decide) rfl (fun h94 => ?_) (fun h94 => ?_)
                · refine zx_iload_n (k := 2) (nn := 110) dX11_act_109 rfl rfl rfl ?_
                  refine zx_iconst (v := 2) (nn := 111) rfl dX11_act_110 rfl ?_
                  refine zx_icmp_ne (tgt := 126) (nn := 114) dX11_act_111 (by decide) rfl (fun h111 => ?_) (fun h111 => ?_)
                  · refine zx_aload_n (k := 0) (nn := 127) dX11_act_126 rfl rfl rfl ?_
                    refine zx_aload_n (k := 0) (nn := 128) dX11_act_127 rfl rfl rfl ?_
                    refine zx_getI (nn := 131) flX11_417 rfl rfl dX11_act_128 rfl ?_
                    show zX shR σ 10 MX11_act 131 [(0, zr 0), (1, zi (nI k1)), (2, zi 3), (3, zi x)] [zi 1, zr 0] (zp (zp (zp (zp (zp μ 0 35 0) 0 37 (nI l1)) 0 36 1) 0 38 (rS 1 μ (7 + 4 * l1 + 2))) 0 39 0) _
                    refine zx_iload_n (k := 3) (nn := 132) dX11_act_131 rfl rfl rfl ?_
                    refine zx_callV (nn := 135) (k := 0) (d' := 6) (as := [zi 1, zi x]) (rest := []) (n := 2) (eX11_follows_1_1 σ (zp (zp (zp (zp (zp μ 0 35 0) 0 37 (nI l1)) 0 36 1) 0 38 (rS 1 μ (7 + 4 * l1 + 2))) 0 39 0) x 0 (rS 1 μ (7 + 4 * l1 + 2)) (nI l1) rfl (by omega) rfl rfl rfl rfl) kX11_follows mlX11_428 rfl rfl rfl (by decide) rfl rfl (Nat.le_of_ble_eq_true rfl) dX11_act_132 rfl ?_
                    rintro _ ν32 ⟨rfl, q32⟩
                    show zX shR σ 10 MX11_act 135 [(0, zr 0), (1, zi (nI k1)), (2, zi 3), (3, zi x)] [zi ((((x + (rS 1 μ (7 + 4 * l1 + 2))) * 2) - (nI l1)) ^^^ (rS 1 μ (7 + 4 * l1 + 2)))] ν32 _
                    refine zx_istore (nn := 137) (lv' := [(4, zi ((((x + (rS 1 μ (7 + 4 * l1 + 2))) * 2) - (nI l1)) ^^^ (rS 1 μ (7 + 4 * l1 + 2)))), (0, zr 0), (1, zi (nI k1)), (2, zi 3), (3, zi x)]) dX11_act_135 (by decide) rfl rfl ?_
                    refine zx_aload_n (k := 1) (nn := 138) dX11_act_137 rfl rfl rfl ?_
                    refine zx_getI (nn := 141) flX11_402 rfl rfl dX11_act_138 rfl ?_
                    rw [show ν32 0 39 = 0 from q32.2.2.2.1]
                    show zX shR σ 10 MX11_act 141 [(4, zi ((((x + (rS 1 μ (7 + 4 * l1 + 2))) * 2) - (nI l1)) ^^^ (rS 1 μ (7 + 4 * l1 + 2)))), (0, zr 0), (1, zi (nI k1)), (2, zi 3), (3, zi x)] [zi 0] ν32 _
                    refine zx_if_eq (tgt := 149) (nn := 144) dX11_act_141 (by decide) rfl (fun h141 => ?_) (fun h141 => ?_)
                    · refine zx_iload (k := 0) (nn := 151) dX11_act_149 rfl rfl ?_
                      refine zx_iret rfl dX11_act_151 ?_
                      have hC : gActC μ (nI k1) 3 = true := by simp [gActC, h9, h21, n_h.2.2, h30]
                      have eK : gKd μ (nI k1) = 1 := by unfold gKd gNm; rw [n_h.2.2, hj2, hj1.2.2]; exact hκ
                      have eN : gNm μ (nI k1) = nI l1 := by unfold gNm; rw [n_h.2.2]; exact hj2
                      have eZ : gSz μ (nI k1) = rS 1 μ (7 + 4 * l1 + 2) := by unfold gSz gNm; rw [n_h.2.2, hj2, hj1.2.2]
                      have hP : pThP 3 1 (nI l1) (rS 1 μ (7 + 4 * l1 + 2)) = false := by unfold pThP; rw [decide_eq_false hd]; rfl
                      have hL : pThL 3 1 (nI l1) (rS 1 μ (7 + 4 * l1 + 2)) = [13, 11, 20, 10] := by rfl
                      have hV : pThV 3 1 (nI l1) (rS 1 μ (7 + 4 * l1 + 2)) x = (((x + (rS 1 μ (7 + 4 * l1 + 2))) * 2) - (nI l1)) ^^^ (rS 1 μ (7 + 4 * l1 + 2)) := by rfl
                      refine ⟨congrArg (fun x => some (zi x)) ?_, ?_⟩
                      · unfold gAct
                        rw [if_pos hC, eK, eN, eZ, hP, hV]
                        rfl
                      unfold gActL
                      rw [if_pos hC, eK, eN, eZ, hL]
                      exact ⟨(((((zJ.rf.p (by decide)).p (by decide)).p (by decide)).p (by decide)).p (by decide)).tr q32.1, fun j j1 j2 j3 j4 j5 => by rw [q32.2.1 j j1 j5]; simp only [zp_eq]; rw [pk_un j5, pk_un j4, pk_un j2, pk_un j3, pk_un j1], q32.2.2.1, fun i hi => by have := q32.2.2.2.2.2 i hi; rw [Nat.zero_add] at this; exact this⟩
                    · exact absurd h141 (by decide)
                  · exact absurd h111 (by decide)
                · exact absurd h94 (by decide)
              · exact absurd h77 (by decide)
          · rw [hκ]
            show zX shR σ 10 MX11_act 76 [(0, zr 0), (1, zi (nI k1)), (2, zi 3), (3, zi x)] [] (zp (zp (zp (zp (zp μ 0 35 0) 0 37 (nI l1)) 0 36 2) 0 38 (rS 1 μ (7 + 4 * l1 + 2))) 0 39 0) _
            by_cases hd : rS 1 μ (7 + 4 * l1 + 2) = nI l1
            · refine zx_iload_n (k := 2) (nn := 77) dX11_act_76 rfl rfl rfl ?_
              refine zx_if_ne (tgt := 92) (nn := 80) dX11_act_77 (by decide) rfl (fun h77 => ?_) (fun h77 => ?_)
              · refine zx_iload_n (k := 2) (nn := 93) dX11_act_92 rfl rfl rfl ?_
                refine zx_iconst (v := 1) (nn := 94) rfl dX11_act_93 rfl ?_
                refine zx_icmp_ne (tgt := 109) (nn := 97) dX11_act_94 (by decide) rfl (fun h94 => ?_) (fun h94 => ?_)
                · refine zx_iload_n (k := 2) (nn := 110) dX11_act_109 rfl rfl rfl ?_
                  refine zx_iconst (v := 2) (nn := 111) rfl dX11_act_110 rfl ?_
                  refine zx_icmp_ne (tgt := 126) (nn := 114) dX11_act_111 (by decide) rfl (fun h111 => ?_) (fun h111 => ?_)
                  · refine zx_aload_n (k := 0) (nn := 127) dX11_act_126 rfl rfl rfl ?_
                    refine zx_aload_n (k := 0) (nn := 128) dX11_act_127 rfl rfl rfl ?_
                    refine zx_getI (nn := 131) flX11_417 rfl rfl dX11_act_128 rfl ?_
                    show zX shR σ 10 MX11_act 131 [(0, zr 0), (1, zi (nI k1)), (2, zi 3), (3, zi x)] [zi 2, zr 0] (zp (zp (zp (zp (zp μ 0 35 0) 0 37 (nI l1)) 0 36 2) 0 38 (rS 1 μ (7 + 4 * l1 + 2))) 0 39 0) _
                    refine zx_iload_n (k := 3) (nn := 132) dX11_act_131 rfl rfl rfl ?_
                    refine zx_callV (nn := 135) (k := 0) (d' := 6) (as := [zi 2, zi x]) (rest := []) (n := 2) (eX11_follows_2_2 σ (zp (zp (zp (zp (zp μ 0 35 0) 0 37 (nI l1)) 0 36 2) 0 38 (rS 1 μ (7 + 4 * l1 + 2))) 0 39 0) x 0 (rS 1 μ (7 + 4 * l1 + 2)) (nI l1) rfl (by omega) rfl rfl rfl rfl) kX11_follows mlX11_428 rfl rfl rfl (by decide) rfl rfl (Nat.le_of_ble_eq_true rfl) dX11_act_132 rfl ?_
                    rintro _ ν33 ⟨rfl, q33⟩
                    show zX shR σ 10 MX11_act 135 [(0, zr 0), (1, zi (nI k1)), (2, zi 3), (3, zi x)] [zi ((((x + (rS 1 μ (7 + 4 * l1 + 2))) - (nI l1)) ^^^ (nI l1)) ^^^ (rS 1 μ (7 + 4 * l1 + 2)))] ν33 _
                    refine zx_istore (nn := 137) (lv' := [(4, zi ((((x + (rS 1 μ (7 + 4 * l1 + 2))) - (nI l1)) ^^^ (nI l1)) ^^^ (rS 1 μ (7 + 4 * l1 + 2)))), (0, zr 0), (1, zi (nI k1)), (2, zi 3), (3, zi x)]) dX11_act_135 (by decide) rfl rfl ?_
                    refine zx_aload_n (k := 1) (nn := 138) dX11_act_137 rfl rfl rfl ?_
                    refine zx_getI (nn := 141) flX11_402 rfl rfl dX11_act_138 rfl ?_
                    rw [show ν33 0 39 = 0 from q33.2.2.2.1]
                    show zX shR σ 10 MX11_act 141 [(4, zi ((((x + (rS 1 μ (7 + 4 * l1 + 2))) - (nI l1)) ^^^ (nI l1)) ^^^ (rS 1 μ (7 + 4 * l1 + 2)))), (0, zr 0), (1, zi (nI k1)), (2, zi 3), (3, zi x)] [zi 0] ν33 _
                    refine zx_if_eq (tgt := 149) (nn := 144) dX11_act_141 (by decide) rfl (fun h141 => ?_) (fun h141 => ?_)
                    · refine zx_iload (k := 0) (nn := 151) dX11_act_149 rfl rfl ?_
                      refine zx_iret rfl dX11_act_151 ?_
                      have hC : gActC μ (nI k1) 3 = true := by simp [gActC, h9, h21, n_h.2.2, h30]
                      have eK : gKd μ (nI k1) = 2 := by unfold gKd gNm; rw [n_h.2.2, hj2, hj1.2.2]; exact hκ
                      have eN : gNm μ (nI k1) = nI l1 := by unfold gNm; rw [n_h.2.2]; exact hj2
                      have eZ : gSz μ (nI k1) = rS 1 μ (7 + 4 * l1 + 2) := by unfold gSz gNm; rw [n_h.2.2, hj2, hj1.2.2]
                      have hP : pThP 3 2 (nI l1) (rS 1 μ (7 + 4 * l1 + 2)) = false := by unfold pThP; rw [decide_eq_true hd]; rfl
                      have hL : pThL 3 2 (nI l1) (rS 1 μ (7 + 4 * l1 + 2)) = [13, 30, 11, 10] := by rfl
                      have hV : pThV 3 2 (nI l1) (rS 1 μ (7 + 4 * l1 + 2)) x = (((x + (rS 1 μ (7 + 4 * l1 + 2))) - (nI l1)) ^^^ (nI l1)) ^^^ (rS 1 μ (7 + 4 * l1 + 2)) := by rfl
                      refine ⟨congrArg (fun x => some (zi x)) ?_, ?_⟩
                      · unfold gAct
                        rw [if_pos hC, eK, eN, eZ, hP, hV]
                        rfl
                      unfold gActL
                      rw [if_pos hC, eK, eN, eZ, hL]
                      exact ⟨(((((zJ.rf.p (by decide)).p (by decide)).p (by decide)).p (by decide)).p (by decide)).tr q33.1, fun j j1 j2 j3 j4 j5 => by rw [q33.2.1 j j1 j5]; simp only [zp_eq]; rw [pk_un j5, pk_un j4, pk_un j2, pk_un j3, pk_un j1], q33.2.2.1, fun i hi => by have := q33.2.2.2.2.2 i hi; rw [Nat.zero_add] at this; exact this⟩
                    · exact absurd h141 (by decide)
                  · exact absurd h111 (by decide)
                · exact absurd h94 (by decide)
              · exact absurd h77 (by decide)
            · refine zx_iload_n (k := 2) (nn := 77) dX11_act_76 rfl rfl rfl ?_
              refine zx_if_ne (tgt := 92) (nn := 80) dX11_act_77 (by decide) rfl (fun h77 => ?_) (fun h77 => ?_)
              · refine zx_iload_n (k := 2) (nn := 93) dX11_act_92 rfl rfl rfl ?_
                refine zx_iconst (v := 1) (nn := 94) rfl dX11_act_93 rfl ?_
                refine zx_icmp_ne (tgt := 109) (nn := 97) dX11_act_94 (by decide) rfl (fun h94 => ?_) (fun h94 => ?_)
                · refine zx_iload_n (k := 2) (nn := 110) dX11_act_109 rfl rfl rfl ?_
                  refine zx_iconst (v := 2) (nn := 111) rfl dX11_act_110 rfl ?_
                  refine zx_icmp_ne (tgt := 126) (nn := 114) dX11_act_111 (by decide) rfl (fun h111 => ?_) (fun h111 => ?_)
                  · refine zx_aload_n (k := 0) (nn := 127) dX11_act_126 rfl rfl rfl ?_
                    refine zx_aload_n (k := 0) (nn := 128) dX11_act_127 rfl rfl rfl ?_
                    refine zx_getI (nn := 131) flX11_417 rfl rfl dX11_act_128 rfl ?_
                    show zX shR σ 10 MX11_act 131 [(0, zr 0), (1, zi (nI k1)), (2, zi 3), (3, zi x)] [zi 2, zr 0] (zp (zp (zp (zp (zp μ 0 35 0) 0 37 (nI l1)) 0 36 2) 0 38 (rS 1 μ (7 + 4 * l1 + 2))) 0 39 0) _
                    refine zx_iload_n (k := 3) (nn := 132) dX11_act_131 rfl rfl rfl ?_
                    refine zx_callV (nn := 135) (k := 0) (d' := 6) (as := [zi 2, zi x]) (rest := []) (n := 2) (eX11_follows_2_2 σ (zp (zp (zp (zp (zp μ 0 35 0) 0 37 (nI l1)) 0 36 2) 0 38 (rS 1 μ (7 + 4 * l1 + 2))) 0 39 0) x 0 (rS 1 μ (7 + 4 * l1 + 2)) (nI l1) rfl (by omega) rfl rfl rfl rfl) kX11_follows mlX11_428 rfl rfl rfl (by decide) rfl rfl (Nat.le_of_ble_eq_true rfl) dX11_act_132 rfl ?_
                    rintro _ ν34 ⟨rfl, q34⟩
                    show zX shR σ 10 MX11_act 135 [(0, zr 0), (1, zi (nI k1)), (2, zi 3), (3, zi x)] [zi ((((x + (rS 1 μ (7 + 4 * l1 + 2))) - (nI l1)) ^^^ (nI l1)) ^^^ (rS 1 μ (7 + 4 * l1 + 2)))] ν34 _
                    refine zx_istore (nn := 137) (lv' := [(4, zi ((((x + (rS 1 μ (7 + 4 * l1 + 2))) - (nI l1)) ^^^ (nI l1)) ^^^ (rS 1 μ (7 + 4 * l1 + 2)))), (0, zr 0), (1, zi (nI k1)), (2, zi 3), (3, zi x)]) dX11_act_135 (by decide) rfl rfl ?_
                    refine zx_aload_n (k := 1) (nn := 138) dX11_act_137 rfl rfl rfl ?_
                    refine zx_getI (nn := 141) flX11_402 rfl rfl dX11_act_138 rfl ?_
                    rw [show ν34 0 39 = 0 from q34.2.2.2.1]
                    show zX shR σ 10 MX11_act 141 [(4, zi ((((x + (rS 1 μ (7 + 4 * l1 + 2))) - (nI l1)) ^^^ (nI l1)) ^^^ (rS 1 μ (7 + 4 * l1 + 2)))), (0, zr 0), (1, zi (nI k1)), (2, zi 3), (3, zi x)] [zi 0] ν34 _
                    refine zx_if_eq (tgt := 149) (nn := 144) dX11_act_141 (by decide) rfl (fun h141 => ?_) (fun h141 => ?_)
                    · refine zx_iload (k := 0) (nn := 151) dX11_act_149 rfl rfl ?_
                      refine zx_iret rfl dX11_act_151 ?_
                      have hC : gActC μ (nI k1) 3 = true := by simp [gActC, h9, h21, n_h.2.2, h30]
                      have eK : gKd μ (nI k1) = 2 := by unfold gKd gNm; rw [n_h.2.2, hj2, hj1.2.2]; exact hκ
                      have eN : gNm μ (nI k1) = nI l1 := by unfold gNm; rw [n_h.2.2]; exact hj2
                      have eZ : gSz μ (nI k1) = rS 1 μ (7 + 4 * l1 + 2) := by unfold gSz gNm; rw [n_h.2.2, hj2, hj1.2.2]
                      have hP : pThP 3 2 (nI l1) (rS 1 μ (7 + 4 * l1 + 2)) = false := by unfold pThP; rw [decide_eq_false hd]; rfl
                      have hL : pThL 3 2 (nI l1) (rS 1 μ (7 + 4 * l1 + 2)) = [13, 30, 11, 10] := by rfl
                      have hV : pThV 3 2 (nI l1) (rS 1 μ (7 + 4 * l1 + 2)) x = (((x + (rS 1 μ (7 + 4 * l1 + 2))) - (nI l1)) ^^^ (nI l1)) ^^^ (rS 1 μ (7 + 4 * l1 + 2)) := by rfl
                      refine ⟨congrArg (fun x => some (zi x)) ?_, ?_⟩
                      · unfold gAct
                        rw [if_pos hC, eK, eN, eZ, hP, hV]
                        rfl
                      unfold gActL
                      rw [if_pos hC, eK, eN, eZ, hL]
                      exact ⟨(((((zJ.rf.p (by decide)).p (by decide)).p (by decide)).p (by decide)).p (by decide)).tr q34.1, fun j j1 j2 j3 j4 j5 => by rw [q34.2.1 j j1 j5]; simp only [zp_eq]; rw [pk_un j5, pk_un j4, pk_un j2, pk_un j3, pk_un j1], q34.2.2.1, fun i hi => by have := q34.2.2.2.2.2 i hi; rw [Nat.zero_add] at this; exact this⟩
                    · exact absurd h141 (by decide)
                  · exact absurd h111 (by decide)
                · exact absurd h94 (by decide)
              · exact absurd h77 (by decide)
          · rw [hκ]
            show zX shR σ 10 MX11_act 76 [(0, zr 0), (1, zi (nI k1)), (2, zi 3), (3, zi x)] [] (zp (zp (zp (zp (zp μ 0 35 0) 0 37 (nI l1)) 0 36 3) 0 38 (rS 1 μ (7 + 4 * l1 + 2))) 0 39 0) _
            by_cases hd : rS 1 μ (7 + 4 * l1 + 2) = nI l1
            · refine zx_iload_n (k := 2) (nn := 77) dX11_act_76 rfl rfl rfl ?_
              refine zx_if_ne (tgt := 92) (nn := 80) dX11_act_77 (by decide) rfl (fun h77 => ?_) (fun h77 => ?_)
              · refine zx_iload_n (k := 2) (nn := 93) dX11_act_92 rfl rfl rfl ?_
                refine zx_iconst (v := 1) (nn := 94) rfl dX11_act_93 rfl ?_
                refine zx_icmp_ne (tgt := 109) (nn := 97) dX11_act_94 (by decide) rfl (fun h94 => ?_) (fun h94 => ?_)
                · refine zx_iload_n (k := 2) (nn := 110) dX11_act_109 rfl rfl rfl ?_
                  refine zx_iconst (v := 2) (nn := 111) rfl dX11_act_110 rfl ?_
                  refine zx_icmp_ne (tgt := 126) (nn := 114) dX11_act_111 (by decide) rfl (fun h111 => ?_) (fun h111 => ?_)
                  · refine zx_aload_n (k := 0) (nn := 127) dX11_act_126 rfl rfl rfl ?_
                    refine zx_aload_n (k := 0) (nn := 128) dX11_act_127 rfl rfl rfl ?_
                    refine zx_getI (nn := 131) flX11_417 rfl rfl dX11_act_128 rfl ?_
                    show zX shR σ 10 MX11_act 131 [(0, zr 0), (1, zi (nI k1)), (2, zi 3), (3, zi x)] [zi 3, zr 0] (zp (zp (zp (zp (zp μ 0 35 0) 0 37 (nI l1)) 0 36 3) 0 38 (rS 1 μ (7 + 4 * l1 + 2))) 0 39 0) _
                    refine zx_iload_n (k := 3) (nn := 132) dX11_act_131 rfl rfl rfl ?_
                    refine zx_callV (nn := 135) (k := 0) (d' := 9) (as := [zi 3, zi x]) (rest := []) (n := 2) (eX11_follows_3_3_p σ (zp (zp (zp (zp (zp μ 0 35 0) 0 37 (nI l1)) 0 36 3) 0 38 (rS 1 μ (7 + 4 * l1 + 2))) 0 39 0) x 0 (rS 1 μ (7 + 4 * l1 + 2)) (nI l1) rfl (by omega) rfl rfl rfl rfl hd) kX11_follows mlX11_428 rfl rfl rfl (by decide) rfl rfl (Nat.le_of_ble_eq_true rfl) dX11_act_132 rfl ?_
                    rintro _ ν35 ⟨rfl, q35⟩
                    show zX shR σ 10 MX11_act 135 [(0, zr 0), (1, zi (nI k1)), (2, zi 3), (3, zi x)] [zi (((((x + (rS 1 μ (7 + 4 * l1 + 2)) - 1) - (nI l1)) ^^^ (nI l1)) ^^^ (rS 1 μ (7 + 4 * l1 + 2))) + 0)] ν35 _
                    refine zx_istore (nn := 137) (lv' := [(4, zi (((((x + (rS 1 μ (7 + 4 * l1 + 2)) - 1) - (nI l1)) ^^^ (nI l1)) ^^^ (rS 1 μ (7 + 4 * l1 + 2))) + 0)), (0, zr 0), (1, zi (nI k1)), (2, zi 3), (3, zi x)]) dX11_act_135 (by decide) rfl rfl ?_
                    refine zx_aload_n (k := 1) (nn := 138) dX11_act_137 rfl rfl rfl ?_
                    refine zx_getI (nn := 141) flX11_402 rfl rfl dX11_act_138 rfl ?_
                    rw [show ν35 0 39 = 1 from q35.2.2.2.1]
                    show zX shR σ 10 MX11_act 141 [(4, zi (((((x + (rS 1 μ (7 + 4 * l1 + 2)) - 1) - (nI l1)) ^^^ (nI l1)) ^^^ (rS 1 μ (7 + 4 * l1 + 2))) + 0)), (0, zr 0), (1, zi (nI k1)), (2, zi 3), (3, zi x)] [zi 1] ν35 _
                    refine zx_if_eq (tgt := 149) (nn := 144) dX11_act_141 (by decide) rfl (fun h141 => ?_) (fun h141 => ?_)
                    · exact absurd h141 (by decide)
                    · refine zx_bipush (v := -15) (nn := 146) rfl dX11_act_144 rfl ?_
                      refine zx_goto (tgt := 151) dX11_act_146 (by decide) ?_
                      refine zx_iret rfl dX11_act_151 ?_
                      have hC : gActC μ (nI k1) 3 = true := by simp [gActC, h9, h21, n_h.2.2, h30]
                      have eK : gKd μ (nI k1) = 3 := by unfold gKd gNm; rw [n_h.2.2, hj2, hj1.2.2]; exact hκ
                      have eN : gNm μ (nI k1) = nI l1 := by unfold gNm; rw [n_h.2.2]; exact hj2
                      have eZ : gSz μ (nI k1) = rS 1 μ (7 + 4 * l1 + 2) := by unfold gSz gNm; rw [n_h.2.2, hj2, hj1.2.2]
                      have hP : pThP 3 3 (nI l1) (rS 1 μ (7 + 4 * l1 + 2)) = true := by unfold pThP; rw [decide_eq_true hd]; rfl
                      have hL : pThL 3 3 (nI l1) (rS 1 μ (7 + 4 * l1 + 2)) = [51, 13, 30, 11, 50, 10, 12] := by show pFoL 3 (nI l1) (rS 1 μ (7 + 4 * l1 + 2)) = _; unfold pFoL pDimL; rw [if_pos hd]; rfl
                      refine ⟨congrArg (fun x => some (zi x)) ?_, ?_⟩
                      · unfold gAct
                        rw [if_pos hC, eK, eN, eZ, hP]
                        rfl
                      unfold gActL
                      rw [if_pos hC, eK, eN, eZ, hL]
                      exact ⟨(((((zJ.rf.p (by decide)).p (by decide)).p (by decide)).p (by decide)).p (by decide)).tr q35.1, fun j j1 j2 j3 j4 j5 => by rw [q35.2.1 j j1 j5]; simp only [zp_eq]; rw [pk_un j5, pk_un j4, pk_un j2, pk_un j3, pk_un j1], q35.2.2.1, fun i hi => by have := q35.2.2.2.2.2 i hi; rw [Nat.zero_add] at this; exact this⟩
                  · exact absurd h111 (by decide)
                · exact absurd h94 (by decide)
              · exact absurd h77 (by decide)
            · refine zx_iload_n (k := 2) (nn := 77) dX11_act_76 rfl rfl rfl ?_
              refine zx_if_ne (tgt := 92) (nn := 80) dX11_act_77 (by decide) rfl (fun h77 => ?_) (fun h77 => ?_)
              · refine zx_iload_n (k := 2) (nn := 93) dX11_act_92 rfl rfl rfl ?_
                refine zx_iconst (v := 1) (nn := 94) rfl dX11_act_93 rfl ?_
                refine zx_icmp_ne (tgt := 109) (nn := 97) dX11_act_94 (by decide) rfl (fun h94 => ?_) (fun h94 => ?_)
                · refine zx_iload_n (k := 2) (nn := 110) dX11_act_109 rfl rfl rfl ?_
                  refine zx_iconst (v := 2) (nn := 111) rfl dX11_act_110 rfl ?_
                  refine zx_icmp_ne (tgt := 126) (nn := 114) dX11_act_111 (by decide) rfl (fun h111 => ?_) (fun h111 => ?_)
                  · refine zx_aload_n (k := 0) (nn := 127) dX11_act_126 rfl rfl rfl ?_
                    refine zx_aload_n (k := 0) (nn := 128) dX11_act_127 rfl rfl rfl ?_
                    refine zx_getI (nn := 131) flX11_417 rfl rfl dX11_act_128 rfl ?_
                    show zX shR σ 10 MX11_act 131 [(0, zr 0), (1, zi (nI k1)), (2, zi 3), (3, zi x)] [zi 3, zr 0] (zp (zp (zp (zp (zp μ 0 35 0) 0 37 (nI l1)) 0 36 3) 0 38 (rS 1 μ (7 + 4 * l1 + 2))) 0 39 0) _
                    refine zx_iload_n (k := 3) (nn := 132) dX11_act_131 rfl rfl rfl ?_
                    refine zx_callV (nn := 135) (k := 0) (d' := 9) (as := [zi 3, zi x]) (rest := []) (n := 2) (eX11_follows_3_3_q σ (zp (zp (zp (zp (zp μ 0 35 0) 0 37 (nI l1)) 0 36 3) 0 38 (rS 1 μ (7 + 4 * l1 + 2))) 0 39 0) x 0 (rS 1 μ (7 + 4 * l1 + 2)) (nI l1) rfl (by omega) rfl rfl rfl rfl hd) kX11_follows mlX11_428 rfl rfl rfl (by decide) rfl rfl (Nat.le_of_ble_eq_true rfl) dX11_act_132 rfl ?_
                    rintro _ ν36 ⟨rfl, q36⟩
                    show zX shR σ 10 MX11_act 135 [(0, zr 0), (1, zi (nI k1)), (2, zi 3), (3, zi x)] [zi (((((x + (rS 1 μ (7 + 4 * l1 + 2)) - 1) - (nI l1)) ^^^ (nI l1)) ^^^ (rS 1 μ (7 + 4 * l1 + 2))) + (rS 1 μ (7 + 4 * l1 + 2)) / ((rS 1 μ (7 + 4 * l1 + 2)) - (nI l1)))] ν36 _
                    refine zx_istore (nn := 137) (lv' := [(4, zi (((((x + (rS 1 μ (7 + 4 * l1 + 2)) - 1) - (nI l1)) ^^^ (nI l1)) ^^^ (rS 1 μ (7 + 4 * l1 + 2))) + (rS 1 μ (7 + 4 * l1 + 2)) / ((rS 1 μ (7 + 4 * l1 + 2)) - (nI l1)))), (0, zr 0), (1, zi (nI k1)), (2, zi 3), (3, zi x)]) dX11_act_135 (by decide) rfl rfl ?_
                    refine zx_aload_n (k := 1) (nn := 138) dX11_act_137 rfl rfl rfl ?_
                    refine zx_getI (nn := 141) flX11_402 rfl rfl dX11_act_138 rfl ?_
                    rw [show ν36 0 39 = 0 from q36.2.2.2.1]
                    show zX shR σ 10 MX11_act 141 [(4, zi (((((x + (rS 1 μ (7 + 4 * l1 + 2)) - 1) - (nI l1)) ^^^ (nI l1)) ^^^ (rS 1 μ (7 + 4 * l1 + 2))) + (rS 1 μ (7 + 4 * l1 + 2)) / ((rS 1 μ (7 + 4 * l1 + 2)) - (nI l1)))), (0, zr 0), (1, zi (nI k1)), (2, zi 3), (3, zi x)] [zi 0] ν36 _
                    refine zx_if_eq (tgt := 149) (nn := 144) dX11_act_141 (by decide) rfl (fun h141 => ?_) (fun h141 => ?_)
                    · refine zx_iload (k := 0) (nn := 151) dX11_act_149 rfl rfl ?_
                      refine zx_iret rfl dX11_act_151 ?_
                      have hC : gActC μ (nI k1) 3 = true := by simp [gActC, h9, h21, n_h.2.2, h30]
                      have eK : gKd μ (nI k1) = 3 := by unfold gKd gNm; rw [n_h.2.2, hj2, hj1.2.2]; exact hκ
                      have eN : gNm μ (nI k1) = nI l1 := by unfold gNm; rw [n_h.2.2]; exact hj2
                      have eZ : gSz μ (nI k1) = rS 1 μ (7 + 4 * l1 + 2) := by unfold gSz gNm; rw [n_h.2.2, hj2, hj1.2.2]
                      have hP : pThP 3 3 (nI l1) (rS 1 μ (7 + 4 * l1 + 2)) = false := by unfold pThP; rw [decide_eq_false hd]; rfl
                      have hL : pThL 3 3 (nI l1) (rS 1 μ (7 + 4 * l1 + 2)) = [51, 13, 30, 11, 50, 10, 12] := by show pFoL 3 (nI l1) (rS 1 μ (7 + 4 * l1 + 2)) = _; unfold pFoL pDimL; rw [if_neg hd]; rfl
                      have hV : pThV 3 3 (nI l1) (rS 1 μ (7 + 4 * l1 + 2)) x = ((((x + (rS 1 μ (7 + 4 * l1 + 2)) - 1) - (nI l1)) ^^^ (nI l1)) ^^^ (rS 1 μ (7 + 4 * l1 + 2))) + (rS 1 μ (7 + 4 * l1 + 2)) / ((rS 1 μ (7 + 4 * l1 + 2)) - (nI l1)) := by show pFoV 3 (nI l1) (rS 1 μ (7 + 4 * l1 + 2)) x = _; unfold pFoV pDimV; rw [if_neg hd]; rfl
                      refine ⟨congrArg (fun x => some (zi x)) ?_, ?_⟩
                      · unfold gAct
                        rw [if_pos hC, eK, eN, eZ, hP, hV]
                        rfl
                      unfold gActL
                      rw [if_pos hC, eK, eN, eZ, hL]
                      exact ⟨(((((zJ.rf.p (by decide)).p (by decide)).p (by decide)).p (by decide)).p (by decide)).tr q36.1, fun j j1 j2 j3 j4 j5 => by rw [q36.2.1 j j1 j5]; simp only [zp_eq]; rw [pk_un j5, pk_un j4, pk_un j2, pk_un j3, pk_un j1], q36.2.2.1, fun i hi => by have := q36.2.2.2.2.2 i hi; rw [Nat.zero_add] at this; exact this⟩
                    · exact absurd h141 (by decide)
                  · exact absurd h111 (by decide)
                · exact absurd h94 (by decide)
              · exact absurd h77 (by decide)
          · rw [hκ]
            show zX shR σ 10 MX11_act 76 [(0, zr 0), (1, zi (nI k1)), (2, zi 3), (3, zi x)] [] (zp (zp (zp (zp (zp μ 0 35 0) 0 37 (nI l1)) 0 36 4) 0 38 (rS 1 μ (7 + 4 * l1 + 2))) 0 39 0) _
            by_cases hd : rS 1 μ (7 + 4 * l1 + 2) = nI l1
            · refine zx_iload_n (k := 2) (nn := 77) dX11_act_76 rfl rfl rfl ?_
              refine zx_if_ne (tgt := 92) (nn := 80) dX11_act_77 (by decide) rfl (fun h77 => ?_) (fun h77 => ?_)
              · refine zx_iload_n (k := 2) (nn := 93) dX11_act_92 rfl rfl rfl ?_
                refine zx_iconst (v := 1) (nn := 94) rfl dX11_act_93 rfl ?_
                refine zx_icmp_ne (tgt := 109) (nn := 97) dX11_act_94 (by decide) rfl (fun h94 => ?_) (fun h94 => ?_)
                · refine zx_iload_n (k := 2) (nn := 110) dX11_act_109 rfl rfl rfl ?_
                  refine zx_iconst (v := 2) (nn := 111) rfl dX11_act_110 rfl ?_
                  refine zx_icmp_ne (tgt := 126) (nn := 114) dX11_act_111 (by decide) rfl (fun h111 => ?_) (fun h111 => ?_)
                  · refine zx_aload_n (k := 0) (nn := 127) dX11_act_126 rfl rfl rfl ?_
                    refine zx_aload_n (k := 0) (nn := 128) dX11_act_127 rfl rfl rfl ?_
                    refine zx_getI (nn := 131) flX11_417 rfl rfl dX11_act_128 rfl ?_
                    show zX shR σ 10 MX11_act 131 [(0, zr 0), (1, zi (nI k1)), (2, zi 3), (3, zi x)] [zi 4, zr 0] (zp (zp (zp (zp (zp μ 0 35 0) 0 37 (nI l1)) 0 36 4) 0 38 (rS 1 μ (7 + 4 * l1 + 2))) 0 39 0) _
                    refine zx_iload_n (k := 3) (nn := 132) dX11_act_131 rfl rfl rfl ?_
                    refine zx_callV (nn := 135) (k := 0) (d' := 6) (as := [zi 4, zi x]) (rest := []) (n := 2) (eX11_follows_4_4 σ (zp (zp (zp (zp (zp μ 0 35 0) 0 37 (nI l1)) 0 36 4) 0 38 (rS 1 μ (7 + 4 * l1 + 2))) 0 39 0) x 0 (rS 1 μ (7 + 4 * l1 + 2)) (nI l1) rfl (by omega) rfl rfl rfl rfl) kX11_follows mlX11_428 rfl rfl rfl (by decide) rfl rfl (Nat.le_of_ble_eq_true rfl) dX11_act_132 rfl ?_
                    rintro _ ν37 ⟨rfl, q37⟩
                    show zX shR σ 10 MX11_act 135 [(0, zr 0), (1, zi (nI k1)), (2, zi 3), (3, zi x)] [zi (((x + (rS 1 μ (7 + 4 * l1 + 2))) - (nI l1)) ^^^ (rS 1 μ (7 + 4 * l1 + 2)))] ν37 _
                    refine zx_istore (nn := 137) (lv' := [(4, zi (((x + (rS 1 μ (7 + 4 * l1 + 2))) - (nI l1)) ^^^ (rS 1 μ (7 + 4 * l1 + 2)))), (0, zr 0), (1, zi (nI k1)), (2, zi 3), (3, zi x)]) dX11_act_135 (by decide) rfl rfl ?_
                    refine zx_aload_n (k := 1) (nn := 138) dX11_act_137 rfl rfl rfl ?_
                    refine zx_getI (nn := 141) flX11_402 rfl rfl dX11_act_138 rfl ?_
                    rw [show ν37 0 39 = 0 from q37.2.2.2.1]
                    show zX shR σ 10 MX11_act 141 [(4, zi (((x + (rS 1 μ (7 + 4 * l1 + 2))) - (nI l1)) ^^^ (rS 1 μ (7 + 4 * l1 + 2)))), (0, zr 0), (1, zi (nI k1)), (2, zi 3), (3, zi x)] [zi 0] ν37 _
                    refine zx_if_eq (tgt := 149) (nn := 144) dX11_act_141 (by decide) rfl (fun h141 => ?_) (fun h141 => ?_)
                    · refine zx_iload (k := 0) (nn := 151) dX11_act_149 rfl rfl ?_
                      refine zx_iret rfl dX11_act_151 ?_
                      have hC : gActC μ (nI k1) 3 = true := by simp [gActC, h9, h21, n_h.2.2, h30]
                      have eK : gKd μ (nI k1) = 4 := by unfold gKd gNm; rw [n_h.2.2, hj2, hj1.2.2]; exact hκ
                      have eN : gNm μ (nI k1) = nI l1 := by unfold gNm; rw [n_h.2.2]; exact hj2
                      have eZ : gSz μ (nI k1) = rS 1 μ (7 + 4 * l1 + 2) := by unfold gSz gNm; rw [n_h.2.2, hj2, hj1.2.2]
                      have hP : pThP 3 4 (nI l1) (rS 1 μ (7 + 4 * l1 + 2)) = false := by unfold pThP; rw [decide_eq_true hd]; rfl
                      have hL : pThL 3 4 (nI l1) (rS 1 μ (7 + 4 * l1 + 2)) = [13, 11, 10] := by rfl
                      have hV : pThV 3 4 (nI l1) (rS 1 μ (7 + 4 * l1 + 2)) x = ((x + (rS 1 μ (7 + 4 * l1 + 2))) - (nI l1)) ^^^ (rS 1 μ (7 + 4 * l1 + 2)) := by rfl
                      refine ⟨congrArg (fun x => some (zi x)) ?_, ?_⟩
                      · unfold gAct
                        rw [if_pos hC, eK, eN, eZ, hP, hV]
                        rfl
                      unfold gActL
                      rw [if_pos hC, eK, eN, eZ, hL]
                      exact ⟨(((((zJ.rf.p (by decide)).p (by decide)).p (by decide)).p (by decide)).p (by decide)).tr q37.1, fun j j1 j2 j3 j4 j5 => by rw [q37.2.1 j j1 j5]; simp only [zp_eq]; rw [pk_un j5, pk_un j4, pk_un j2, pk_un j3, pk_un j1], q37.2.2.1, fun i hi => by have := q37.2.2.2.2.2 i hi; rw [Nat.zero_add] at this; exact this⟩
                    · exact absurd h141 (by decide)
                  · exact absurd h111 (by decide)
                · exact absurd h94 (by decide)
              · exact absurd h77 (by decide)
            · refine zx_iload_n (k := 2) (nn := 77) dX11_act_76 rfl rfl rfl ?_
              refine zx_if_ne (tgt := 92) (nn := 80) dX11_act_77 (by decide) rfl (fun h77 => ?_) (fun h77 => ?_)
              · refine zx_iload_n (k := 2) (nn := 93) dX11_act_92 rfl rfl rfl ?_
                refine zx_iconst (v := 1) (nn := 94) rfl dX11_act_93 rfl ?_
                refine zx_icmp_ne (tgt := 109) (nn := 97) dX11_act_94 (by decide) rfl (fun h94 => ?_) (fun h94 => ?_)
                · refine zx_iload_n (k := 2) (nn := 110) dX11_act_109 rfl rfl rfl ?_
                  refine zx_iconst (v := 2) (nn := 111) rfl dX11_act_110 rfl ?_
                  refine zx_icmp_ne (tgt := 126) (nn := 114) dX11_act_111 (by decide) rfl (fun h111 => ?_) (fun h111 => ?_)
                  · refine zx_aload_n (k := 0) (nn := 127) dX11_act_126 rfl rfl rfl ?_
                    refine zx_aload_n (k := 0) (nn := 128) dX11_act_127 rfl rfl rfl ?_
                    refine zx_getI (nn := 131) flX11_417 rfl rfl dX11_act_128 rfl ?_
                    show zX shR σ 10 MX11_act 131 [(0, zr 0), (1, zi (nI k1)), (2, zi 3), (3, zi x)] [zi 4, zr 0] (zp (zp (zp (zp (zp μ 0 35 0) 0 37 (nI l1)) 0 36 4) 0 38 (rS 1 μ (7 + 4 * l1 + 2))) 0 39 0) _
                    refine zx_iload_n (k := 3) (nn := 132) dX11_act_131 rfl rfl rfl ?_
                    refine zx_callV (nn := 135) (k := 0) (d' := 6) (as := [zi 4, zi x]) (rest := []) (n := 2) (eX11_follows_4_4 σ (zp (zp (zp (zp (zp μ 0 35 0) 0 37 (nI l1)) 0 36 4) 0 38 (rS 1 μ (7 + 4 * l1 + 2))) 0 39 0) x 0 (rS 1 μ (7 + 4 * l1 + 2)) (nI l1) rfl (by omega) rfl rfl rfl rfl) kX11_follows mlX11_428 rfl rfl rfl (by decide) rfl rfl (Nat.le_of_ble_eq_true rfl) dX11_act_132 rfl ?_
                    rintro _ ν38 ⟨rfl, q38⟩
                    show zX shR σ 10 MX11_act 135 [(0, zr 0), (1, zi (nI k1)), (2, zi 3), (3, zi x)] [zi (((x + (rS 1 μ (7 + 4 * l1 + 2))) - (nI l1)) ^^^ (rS 1 μ (7 + 4 * l1 + 2)))] ν38 _
                    refine zx_istore (nn := 137) (lv' := [(4, zi (((x + (rS 1 μ (7 + 4 * l1 + 2))) - (nI l1)) ^^^ (rS 1 μ (7 + 4 * l1 + 2)))), (0, zr 0), (1, zi (nI k1)), (2, zi 3), (3, zi x)]) dX11_act_135 (by decide) rfl rfl ?_
                    refine zx_aload_n (k := 1) (nn := 138) dX11_act_137 rfl rfl rfl ?_
                    refine zx_getI (nn := 141) flX11_402 rfl rfl dX11_act_138 rfl ?_
                    rw [show ν38 0 39 = 0 from q38.2.2.2.1]
                    show zX shR σ 10 MX11_act 141 [(4, zi (((x + (rS 1 μ (7 + 4 * l1 + 2))) - (nI l1)) ^^^ (rS 1 μ (7 + 4 * l1 + 2)))), (0, zr 0), (1, zi (nI k1)), (2, zi 3), (3, zi x)] [zi 0] ν38 _
                    refine zx_if_eq (tgt := 149) (nn := 144) dX11_act_141 (by decide) rfl (fun h141 => ?_) (fun h141 => ?_)
                    · refine zx_iload (k := 0) (nn := 151) dX11_act_149 rfl rfl ?_
                      refine zx_iret rfl dX11_act_151 ?_
                      have hC : gActC μ (nI k1) 3 = true := by simp [gActC, h9, h21, n_h.2.2, h30]
                      have eK : gKd μ (nI k1) = 4 := by unfold gKd gNm; rw [n_h.2.2, hj2, hj1.2.2]; exact hκ
                      have eN : gNm μ (nI k1) = nI l1 := by unfold gNm; rw [n_h.2.2]; exact hj2
                      have eZ : gSz μ (nI k1) = rS 1 μ (7 + 4 * l1 + 2) := by unfold gSz gNm; rw [n_h.2.2, hj2, hj1.2.2]
                      have hP : pThP 3 4 (nI l1) (rS 1 μ (7 + 4 * l1 + 2)) = false := by unfold pThP; rw [decide_eq_false hd]; rfl
                      have hL : pThL 3 4 (nI l1) (rS 1 μ (7 + 4 * l1 + 2)) = [13, 11, 10] := by rfl
                      have hV : pThV 3 4 (nI l1) (rS 1 μ (7 + 4 * l1 + 2)) x = ((x + (rS 1 μ (7 + 4 * l1 + 2))) - (nI l1)) ^^^ (rS 1 μ (7 + 4 * l1 + 2)) := by rfl
                      refine ⟨congrArg (fun x => some (zi x)) ?_, ?_⟩
                      · unfold gAct
                        rw [if_pos hC, eK, eN, eZ, hP, hV]
                        rfl
                      unfold gActL
                      rw [if_pos hC, eK, eN, eZ, hL]
                      exact ⟨(((((zJ.rf.p (by decide)).p (by decide)).p (by decide)).p (by decide)).p (by decide)).tr q38.1, fun j j1 j2 j3 j4 j5 => by rw [q38.2.1 j j1 j5]; simp only [zp_eq]; rw [pk_un j5, pk_un j4, pk_un j2, pk_un j3, pk_un j1], q38.2.2.1, fun i hi => by have := q38.2.2.2.2.2 i hi; rw [Nat.zero_add] at this; exact this⟩
                    · exact absurd h141 (by decide)
                  · exact absurd h111 (by decide)
                · exact absurd h94 (by decide)
              · exact absurd h77 (by decide)
          · rw [hκ]
            show zX shR σ 10 MX11_act 76 [(0, zr 0), (1, zi (nI k1)), (2, zi 3), (3, zi x)] [] (zp (zp (zp (zp (zp μ 0 35 0) 0 37 (nI l1)) 0 36 5) 0 38 (rS 1 μ (7 + 4 * l1 + 2))) 0 39 0) _
            by_cases hd : rS 1 μ (7 + 4 * l1 + 2) = nI l1
            · refine zx_iload_n (k := 2) (nn := 77) dX11_act_76 rfl rfl rfl ?_
              refine zx_if_ne (tgt := 92) (nn := 80) dX11_act_77 (by decide) rfl (fun h77 => ?_) (fun h77 => ?_)
              · refine zx_iload_n (k := 2) (nn := 93) dX11_act_92 rfl rfl rfl ?_
                refine zx_iconst (v := 1) (nn := 94) rfl dX11_act_93 rfl ?_
                refine zx_icmp_ne (tgt := 109) (nn := 97) dX11_act_94 (by decide) rfl (fun h94 => ?_) (fun h94 => ?_)
                · refine zx_iload_n (k := 2) (nn := 110) dX11_act_109 rfl rfl rfl ?_
                  refine zx_iconst (v := 2) (nn := 111) rfl dX11_act_110 rfl ?_
                  refine zx_icmp_ne (tgt := 126) (nn := 114) dX11_act_111 (by decide) rfl (fun h111 => ?_) (fun h111 => ?_)
                  · refine zx_aload_n (k := 0) (nn := 127) dX11_act_126 rfl rfl rfl ?_
                    refine zx_aload_n (k := 0) (nn := 128) dX11_act_127 rfl rfl rfl ?_
                    refine zx_getI (nn := 131) flX11_417 rfl rfl dX11_act_128 rfl ?_
                    show zX shR σ 10 MX11_act 131 [(0, zr 0), (1, zi (nI k1)), (2, zi 3), (3, zi x)] [zi 5, zr 0] (zp (zp (zp (zp (zp μ 0 35 0) 0 37 (nI l1)) 0 36 5) 0 38 (rS 1 μ (7 + 4 * l1 + 2))) 0 39 0) _
                    refine zx_iload_n (k := 3) (nn := 132) dX11_act_131 rfl rfl rfl ?_
                    refine zx_callV (nn := 135) (k := 0) (d' := 9) (as := [zi 5, zi x]) (rest := []) (n := 2) (eX11_follows_5_5 σ (zp (zp (zp (zp (zp μ 0 35 0) 0 37 (nI l1)) 0 36 5) 0 38 (rS 1 μ (7 + 4 * l1 + 2))) 0 39 0) x 0 (rS 1 μ (7 + 4 * l1 + 2)) (nI l1) rfl (by omega) rfl rfl rfl rfl) kX11_follows mlX11_428 rfl rfl rfl (by decide) rfl rfl (Nat.le_of_ble_eq_true rfl) dX11_act_132 rfl ?_
                    rintro _ ν39 ⟨rfl, q39⟩
                    show zX shR σ 10 MX11_act 135 [(0, zr 0), (1, zi (nI k1)), (2, zi 3), (3, zi x)] [zi ((-((x + (rS 1 μ (7 + 4 * l1 + 2))) - (nI l1))) ^^^ (rS 1 μ (7 + 4 * l1 + 2)))] ν39 _
                    refine zx_istore (nn := 137) (lv' := [(4, zi ((-((x + (rS 1 μ (7 + 4 * l1 + 2))) - (nI l1))) ^^^ (rS 1 μ (7 + 4 * l1 + 2)))), (0, zr 0), (1, zi (nI k1)), (2, zi 3), (3, zi x)]) dX11_act_135 (by decide) rfl rfl ?_
                    refine zx_aload_n (k := 1) (nn := 138) dX11_act_137 rfl rfl rfl ?_
                    refine zx_getI (nn := 141) flX11_402 rfl rfl dX11_act_138 rfl ?_
                    rw [show ν39 0 39 = 0 from q39.2.2.2.1]
                    show zX shR σ 10 MX11_act 141 [(4, zi ((-((x + (rS 1 μ (7 + 4 * l1 + 2))) - (nI l1))) ^^^ (rS 1 μ (7 + 4 * l1 + 2)))), (0, zr 0), (1, zi (nI k1)), (2, zi 3), (3, zi x)] [zi 0] ν39 _
                    refine zx_if_eq (tgt := 149) (nn := 144) dX11_act_141 (by decide) rfl (fun h141 => ?_) (fun h141 => ?_)
                    · refine zx_iload (k := 0) (nn := 151) dX11_act_149 rfl rfl ?_
                      refine zx_iret rfl dX11_act_151 ?_
                      have hC : gActC μ (nI k1) 3 = true := by simp [gActC, h9, h21, n_h.2.2, h30]
                      have eK : gKd μ (nI k1) = 5 := by unfold gKd gNm; rw [n_h.2.2, hj2, hj1.2.2]; exact hκ
                      have eN : gNm μ (nI k1) = nI l1 := by unfold gNm; rw [n_h.2.2]; exact hj2
                      have eZ : gSz μ (nI k1) = rS 1 μ (7 + 4 * l1 + 2) := by unfold gSz gNm; rw [n_h.2.2, hj2, hj1.2.2]
                      have hP : pThP 3 5 (nI l1) (rS 1 μ (7 + 4 * l1 + 2)) = false := by unfold pThP; rw [decide_eq_true hd]; rfl
                      have hL : pThL 3 5 (nI l1) (rS 1 μ (7 + 4 * l1 + 2)) = [13, 60, 11, 10] := by rfl
                      have hV : pThV 3 5 (nI l1) (rS 1 μ (7 + 4 * l1 + 2)) x = (-((x + (rS 1 μ (7 + 4 * l1 + 2))) - (nI l1))) ^^^ (rS 1 μ (7 + 4 * l1 + 2)) := by rw [show ∀ y : Int32, -y = 0 - y from fun y => (Int32.zero_sub y).symm]; rfl
                      refine ⟨congrArg (fun x => some (zi x)) ?_, ?_⟩
                      · unfold gAct
                        rw [if_pos hC, eK, eN, eZ, hP, hV]
                        rfl
                      unfold gActL
                      rw [if_pos hC, eK, eN, eZ, hL]
                      exact ⟨(((((zJ.rf.p (by decide)).p (by decide)).p (by decide)).p (by decide)).p (by decide)).tr q39.1, fun j j1 j2 j3 j4 j5 => by rw [q39.2.1 j j1 j5]; simp only [zp_eq]; rw [pk_un j5, pk_un j4, pk_un j2, pk_un j3, pk_un j1], q39.2.2.1, fun i hi => by have := q39.2.2.2.2.2 i hi; rw [Nat.zero_add] at this; exact this⟩
                    · exact absurd h141 (by decide)
                  · exact absurd h111 (by decide)
                · exact absurd h94 (by decide)
              · exact absurd h77 (by decide)
            · refine zx_iload_n (k := 2) (nn := 77) dX11_act_76 rfl rfl rfl ?_
              refine zx_if_ne (tgt := 92) (nn := 80) dX11_act_77 (by decide) rfl (fun h77 => ?_) (fun h77 => ?_)
              · refine zx_iload_n (k := 2) (nn := 93) dX11_act_92 rfl rfl rfl ?_
                refine zx_iconst (v := 1) (nn := 94) rfl dX11_act_93 rfl ?_
                refine zx_icmp_ne (tgt := 109) (nn := 97) dX11_act_94 (by decide) rfl (fun h94 => ?_) (fun h94 => ?_)
                · refine zx_iload_n (k := 2) (nn := 110) dX11_act_109 rfl rfl rfl ?_
                  refine zx_iconst (v := 2) (nn := 111) rfl dX11_act_110 rfl ?_
                  refine zx_icmp_ne (tgt := 126) (nn := 114) dX11_act_111 (by decide) rfl (fun h111 => ?_) (fun h111 => ?_)
                  · refine zx_aload_n (k := 0) (nn := 127) dX11_act_126 rfl rfl rfl ?_
                    refine zx_aload_n (k := 0) (nn := 128) dX11_act_127 rfl rfl rfl ?_
                    refine zx_getI (nn := 131) flX11_417 rfl rfl dX11_act_128 rfl ?_
                    show zX shR σ 10 MX11_act 131 [(0, zr 0), (1, zi (nI k1)), (2, zi 3), (3, zi x)] [zi 5, zr 0] (zp (zp (zp (zp (zp μ 0 35 0) 0 37 (nI l1)) 0 36 5) 0 38 (rS 1 μ (7 + 4 * l1 + 2))) 0 39 0) _
                    refine zx_iload_n (k := 3) (nn := 132) dX11_act_131 rfl rfl rfl ?_
                    refine zx_callV (nn := 135) (k := 0) (d' := 9) (as := [zi 5, zi x]) (rest := []) (n := 2) (eX11_follows_5_5 σ (zp (zp (zp (zp (zp μ 0 35 0) 0 37 (nI l1)) 0 36 5) 0 38 (rS 1 μ (7 + 4 * l1 + 2))) 0 39 0) x 0 (rS 1 μ (7 + 4 * l1 + 2)) (nI l1) rfl (by omega) rfl rfl rfl rfl) kX11_follows mlX11_428 rfl rfl rfl (by decide) rfl rfl (Nat.le_of_ble_eq_true rfl) dX11_act_132 rfl ?_
                    rintro _ ν40 ⟨rfl, q40⟩
                    show zX shR σ 10 MX11_act 135 [(0, zr 0), (1, zi (nI k1)), (2, zi 3), (3, zi x)] [zi ((-((x + (rS 1 μ (7 + 4 * l1 + 2))) - (nI l1))) ^^^ (rS 1 μ (7 + 4 * l1 + 2)))] ν40 _
                    refine zx_istore (nn := 137) (lv' := [(4, zi ((-((x + (rS 1 μ (7 + 4 * l1 + 2))) - (nI l1))) ^^^ (rS 1 μ (7 + 4 * l1 + 2)))), (0, zr 0), (1, zi (nI k1)), (2, zi 3), (3, zi x)]) dX11_act_135 (by decide) rfl rfl ?_
                    refine zx_aload_n (k := 1) (nn := 138) dX11_act_137 rfl rfl rfl ?_
                    refine zx_getI (nn := 141) flX11_402 rfl rfl dX11_act_138 rfl ?_
                    rw [show ν40 0 39 = 0 from q40.2.2.2.1]
                    show zX shR σ 10 MX11_act 141 [(4, zi ((-((x + (rS 1 μ (7 + 4 * l1 + 2))) - (nI l1))) ^^^ (rS 1 μ (7 + 4 * l1 + 2)))), (0, zr 0), (1, zi (nI k1)), (2, zi 3), (3, zi x)] [zi 0] ν40 _
                    refine zx_if_eq (tgt := 149) (nn := 144) dX11_act_141 (by decide) rfl (fun h141 => ?_) (fun h141 => ?_)
                    · refine zx_iload (k := 0) (nn := 151) dX11_act_149 rfl rfl ?_
                      refine zx_iret rfl dX11_act_151 ?_
                      have hC : gActC μ (nI k1) 3 = true := by simp [gActC, h9, h21, n_h.2.2, h30]
                      have eK : gKd μ (nI k1) = 5 := by unfold gKd gNm; rw [n_h.2.2, hj2, hj1.2.2]; exact hκ
                      have eN : gNm μ (nI k1) = nI l1 := by unfold gNm; rw [n_h.2.2]; exact hj2
                      have eZ : gSz μ (nI k1) = rS 1 μ (7 + 4 * l1 + 2) := by unfold gSz gNm; rw [n_h.2.2, hj2, hj1.2.2]
                      have hP : pThP 3 5 (nI l1) (rS 1 μ (7 + 4 * l1 + 2)) = false := by unfold pThP; rw [decide_eq_false hd]; rfl
                      have hL : pThL 3 5 (nI l1) (rS 1 μ (7 + 4 * l1 + 2)) = [13, 60, 11, 10] := by rfl
                      have hV : pThV 3 5 (nI l1) (rS 1 μ (7 + 4 * l1 + 2)) x = (-((x + (rS 1 μ (7 + 4 * l1 + 2))) - (nI l1))) ^^^ (rS 1 μ (7 + 4 * l1 + 2)) := by rw [show ∀ y : Int32, -y = 0 - y from fun y => (Int32.zero_sub y).symm]; rfl
                      refine ⟨congrArg (fun x => some (zi x)) ?_, ?_⟩
                      · unfold gAct
                        rw [if_pos hC, eK, eN, eZ, hP, hV]
                        rfl
                      unfold gActL
                      rw [if_pos hC, eK, eN, eZ, hL]
                      exact ⟨(((((zJ.rf.p (by decide)).p (by decide)).p (by decide)).p (by decide)).p (by decide)).tr q40.1, fun j j1 j2 j3 j4 j5 => by rw [q40.2.1 j j1 j5]; simp only [zp_eq]; rw [pk_un j5, pk_un j4, pk_un j2, pk_un j3, pk_un j1], q40.2.2.1, fun i hi => by have := q40.2.2.2.2.2 i hi; rw [Nat.zero_add] at this; exact this⟩
                    · exact absurd h141 (by decide)
                  · exact absurd h111 (by decide)
                · exact absurd h94 (by decide)
              · exact absurd h77 (by decide)
        · refine zx_iconst (v := 0) (nn := 34) rfl dX11_act_33 rfl ?_
          refine zx_iret rfl dX11_act_34 ?_
          have hC : gActC μ (nI k1) 3 = false := by simp [gActC, h9, h21, n_h.2.2, h30]
          exact ⟨congrArg (fun x => some (zi x)) (by unfold gAct; rw [hC]; rfl), by unfold gActL; rw [hC]; exact ⟨zJ.rf.p (by decide), fun j hj1 _ _ _ _ => by rw [zp_eq, pk_un hj1], by rw [zp_eq]; exact pk_us, fun i hi => absurd hi (by simp)⟩⟩
