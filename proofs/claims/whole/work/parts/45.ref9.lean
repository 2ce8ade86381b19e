theorem in_2 (w : Int32) : pIn w 0 2 = pHas 3 w := by
  unfold pIn pHas
  rw [← Bool.decide_and, ← Bool.decide_and]
  apply dec_eq
  rw [Int32.le_iff_toInt_le, Int32.le_iff_toInt_le, Int32.lt_iff_toInt_lt, zt0, zt2, zt3]
  omega
theorem pAB_runA {ρ : pR} {s A : Nat → Int32} (ok : pOK s) (ab : pAB s) : ∀ m, m ≤ pRem s → pAB (pRunA ρ s A m)
  | 0, _ => ab
  | m + 1, h => pAB_go (pRunA_ok ok m (by omega)).1 (pAB_runA ok ab m (by omega))
set_option maxHeartbeats 4000000 in
set_option maxRecDepth 100000 in
theorem eX11_isRow_0 (σ : zG) (μ : zM) (k : Int32) (w : Int32) (c : Nat) (hc4 : c ≤ 4) (hc : μ 0 27 = nI c) : zMet shR σ 1 MX11_isRow yX11_isRow [zr 0, zi k, zi w] μ (fun rr μ' => rr = some (zi (zb (pHas (nI c) k && pHas 3 w))) ∧ μ' = μ) := by
  refine zmetF (by decide +kernel) rfl (Nat.le_of_ble_eq_true rfl) ?_
  show zX shR σ 1 MX11_isRow 0 [(0, zr 0), (1, zi k), (2, zi w)] [] μ _
  refine zx_iload_n (k := 1) (nn := 1) dX11_isRow_0 rfl rfl rfl ?_
  refine zx_i2l (nn := 2) dX11_isRow_1 rfl ?_
  refine zx_lconst (v := 0) (nn := 3) rfl dX11_isRow_2 rfl ?_
  refine zx_aload_n (k := 0) (nn := 4) dX11_isRow_3 rfl rfl rfl ?_
  refine zx_getI (nn := 7) flX11_361 rfl rfl dX11_isRow_4 rfl ?_
  refine zx_iconst (v := 1) (nn := 8) rfl dX11_isRow_7 rfl ?_
  refine zx_isub (nn := 9) dX11_isRow_8 rfl ?_
  rw [show (μ 0 27) - 1 = nI c - 1 from by rw [hc]]
  show zX shR σ 1 MX11_isRow 9 [(0, zr 0), (1, zi k), (2, zi w)] [zi (nI c - 1), zj 0, zj k.toInt64] μ _
  refine zx_i2l (nn := 10) dX11_isRow_9 rfl ?_
  refine zx_callSf (nn := 13) (d' := 0) (as := [zj k.toInt64, zj 0, zj ((nI c - 1).toInt64)]) (rest := []) (n := 3) (eX11_isIn σ μ k.toInt64 0 ((nI c - 1).toInt64)  ) kX11_isIn mlX11_70 (by decide) rfl rfl (Nat.le_of_ble_eq_true rfl) dX11_isRow_10 rfl ?_
  show zX shR σ 1 MX11_isRow 13 [(0, zr 0), (1, zi k), (2, zi w)] [zi (zb (decide (0 ≤ k.toInt64) && decide (k.toInt64 ≤ ((nI c - 1).toInt64))))] μ _
  rw [show zb (decide (0 ≤ k.toInt64) && decide (k.toInt64 ≤ ((nI c - 1).toInt64))) = zb (pHas (nI c) k) from congrArg zb (has_r c (by omega) k)]
  show zX shR σ 1 MX11_isRow 13 [(0, zr 0), (1, zi k), (2, zi w)] [zi (zb (pHas (nI c) k))] μ _
  refine zx_ifb_eq (tgt := 32) (nn := 16) dX11_isRow_13 (by decide) rfl (fun h13 => ?_) (fun h13 => ?_)
  · refine zx_iconst (v := 0) (nn := 33) rfl dX11_isRow_32 rfl ?_
    refine zx_zret rfl rfl dX11_isRow_33 ?_
    refine ⟨congrArg (fun x => some (zi x)) ?_, rfl⟩
    rw [h13]; rfl
  · refine zx_iload_n (k := 2) (nn := 17) dX11_isRow_16 rfl rfl rfl ?_
    refine zx_i2l (nn := 18) dX11_isRow_17 rfl ?_
    refine zx_lconst (v := 0) (nn := 19) rfl dX11_isRow_18 rfl ?_
    refine zx_ldc2 (v := 2) (nn := 22) cwX11_287 dX11_isRow_19 rfl ?_
    refine zx_callSf (nn := 25) (d' := 0) (as := [zj w.toInt64, zj 0, zj 2]) (rest := []) (n := 3) (eX11_isIn σ μ w.toInt64 0 2  ) kX11_isIn mlX11_70 (by decide) rfl rfl (Nat.le_of_ble_eq_true rfl) dX11_isRow_22 rfl ?_
    show zX shR σ 1 MX11_isRow 25 [(0, zr 0), (1, zi k), (2, zi w)] [zi (zb (decide (0 ≤ w.toInt64) && decide (w.toInt64 ≤ 2)))] μ _
    rw [show zb (decide (0 ≤ w.toInt64) && decide (w.toInt64 ≤ 2)) = zb (pHas 3 w) from congrArg zb ((in_r w 0 2).trans (in_2 w))]
    show zX shR σ 1 MX11_isRow 25 [(0, zr 0), (1, zi k), (2, zi w)] [zi (zb (pHas 3 w))] μ _
    refine zx_ifb_eq (tgt := 32) (nn := 28) dX11_isRow_25 (by decide) rfl (fun h25 => ?_) (fun h25 => ?_)
    · refine zx_iconst (v := 0) (nn := 33) rfl dX11_isRow_32 rfl ?_
      refine zx_zret rfl rfl dX11_isRow_33 ?_
      refine ⟨congrArg (fun x => some (zi x)) ?_, rfl⟩
      rw [h13, h25]; rfl
    · refine zx_iconst (v := 1) (nn := 29) rfl dX11_isRow_28 rfl ?_
      refine zx_goto (tgt := 33) dX11_isRow_29 (by decide) ?_
      refine zx_zret rfl rfl dX11_isRow_33 ?_
      refine ⟨congrArg (fun x => some (zi x)) ?_, rfl⟩
      rw [h13, h25]; rfl
set_option maxHeartbeats 4000000 in
set_option maxRecDepth 100000 in
theorem eX11_row_0 (σ : zG) (μ : zM) (k : Int32) (w : Int32) (c : Nat) (hc4 : c ≤ 4) (hc : μ 0 27 = nI c) : zMet shR σ 2 MX11_row yX11_row [zr 0, zi k, zi w] μ (fun rr μ' => rr = some (zi (if (pHas (nI c) k && pHas 3 w) = true then μ 17 (3 * k.toNatClampNeg + w.toNatClampNeg) else -9)) ∧ μ' = μ) := by
  refine zmetF (by decide +kernel) rfl (Nat.le_of_ble_eq_true rfl) ?_
  show zX shR σ 2 MX11_row 0 [(0, zr 0), (1, zi k), (2, zi w)] [] μ _
  refine zx_aload_n (k := 0) (nn := 1) dX11_row_0 rfl rfl rfl ?_
  refine zx_iload_n (k := 1) (nn := 2) dX11_row_1 rfl rfl rfl ?_
  refine zx_iload_n (k := 2) (nn := 3) dX11_row_2 rfl rfl rfl ?_
  refine zx_callVf (nn := 6) (k := 0) (d' := 1) (as := [zi k, zi w]) (rest := []) (n := 2) (eX11_isRow_0 σ μ k w c hc4 hc) kX11_isRow mlX11_364 rfl rfl rfl (by decide) rfl rfl (Nat.le_of_ble_eq_true rfl) dX11_row_3 rfl ?_
  show zX shR σ 2 MX11_row 6 [(0, zr 0), (1, zi k), (2, zi w)] [zi (zb (pHas (nI c) k && pHas 3 w))] μ _
  refine zx_ifb_eq (tgt := 22) (nn := 9) dX11_row_6 (by decide) rfl (fun h6 => ?_) (fun h6 => ?_)
  · refine zx_bipush (v := -9) (nn := 24) rfl dX11_row_22 rfl ?_
    refine zx_iret rfl dX11_row_24 ?_
    refine ⟨congrArg (fun x => some (zi x)) ?_, rfl⟩
    rw [if_neg (by rw [h6]; decide)]
  · have hpc := h6
    obtain ⟨k1, w1, n_k, rfl, rfl⟩ := pHas_row hc4 hpc
    show zX shR σ 2 MX11_row 9 [(0, zr 0), (1, zi (nI k1)), (2, zi (nI w1))] [] μ _
    refine zx_aload_n (k := 0) (nn := 10) dX11_row_9 rfl rfl rfl ?_
    refine zx_getR (q := 17) (nn := 13) flX11_45 rfl rfl dX11_row_10 rfl ?_
    refine zx_iconst (v := 3) (nn := 14) rfl dX11_row_13 rfl ?_
    refine zx_iload_n (k := 1) (nn := 15) dX11_row_14 rfl rfl rfl ?_
    refine zx_imul (nn := 16) dX11_row_15 rfl ?_
    refine zx_iload_n (k := 2) (nn := 17) dX11_row_16 rfl rfl rfl ?_
    refine zx_iadd (nn := 18) dX11_row_17 rfl ?_
    rw [show (3 * (nI k1)) + (nI w1) = nI (3 * k1 + w1) from by simp only [show (2 : Int32) = nI 2 from rfl, show (3 : Int32) = nI 3 from rfl, show (1 : Int32) = nI 1 from rfl, show (4 : Int32) = nI 4 from rfl, show (5 : Int32) = nI 5 from rfl, show (7 : Int32) = nI 7 from rfl, show (31 : Int32) = nI 31 from rfl, show (47 : Int32) = nI 47 from rfl, show (71 : Int32) = nI 71 from rfl, show (111 : Int32) = nI 111 from rfl, nI_mulN, nI_add]]
    show zX shR σ 2 MX11_row 18 [(0, zr 0), (1, zi (nI k1)), (2, zi (nI w1))] [zi (nI (3 * k1 + w1)), zr 17] μ _
    refine zx_iald_n (j := 3 * k1 + w1) (nn := 19) rfl (by omega) (by decide) dX11_row_18 rfl ?_
    refine zx_goto (tgt := 24) dX11_row_19 (by decide) ?_
    refine zx_iret rfl dX11_row_24 ?_
    refine ⟨congrArg (fun x => some (zi x)) ?_, rfl⟩
    rw [if_pos h6, n_k.2.2.1, n_k.2.2.2.1]
set_option maxHeartbeats 4000000 in
set_option maxRecDepth 100000 in
theorem eX11_alterRow_0 (σ : zG) (μ : zM) (k : Int32) (w : Int32) (v : Int32) (c : Nat) (hc4 : c ≤ 4) (hc : μ 0 27 = nI c) : zMet shR σ 2 MX11_alterRow yX11_alterRow [zr 0, zi k, zi w, zi v] μ (fun rr μ' => rr = some (zi (if (pHas (nI c) k && pHas 3 w) = true then μ 17 (3 * k.toNatClampNeg + w.toNatClampNeg) else -9)) ∧ μ' = if (pHas (nI c) k && pHas 3 w) = true then zp μ 17 (3 * k.toNatClampNeg + w.toNatClampNeg) v else μ) := by
  refine zmetF (by decide +kernel) rfl (Nat.le_of_ble_eq_true rfl) ?_
  show zX shR σ 2 MX11_alterRow 0 [(0, zr 0), (1, zi k), (2, zi w), (3, zi v)] [] μ _
  refine zx_aload_n (k := 0) (nn := 1) dX11_alterRow_0 rfl rfl rfl ?_
  refine zx_iload_n (k := 1) (nn := 2) dX11_alterRow_1 rfl rfl rfl ?_
  refine zx_iload_n (k := 2) (nn := 3) dX11_alterRow_2 rfl rfl rfl ?_
  refine zx_callVf (nn := 6) (k := 0) (d' := 1) (as := [zi k, zi w]) (rest := []) (n := 2) (eX11_isRow_0 σ μ k w c hc4 hc) kX11_isRow mlX11_364 rfl rfl rfl (by decide) rfl rfl (Nat.le_of_ble_eq_true rfl) dX11_alterRow_3 rfl ?_
  show zX shR σ 2 MX11_alterRow 6 [(0, zr 0), (1, zi k), (2, zi w), (3, zi v)] [zi (zb (pHas (nI c) k && pHas 3 w))] μ _
  refine zx_ifb_ne (tgt := 12) (nn := 9) dX11_alterRow_6 (by decide) rfl (fun h6 => ?_) (fun h6 => ?_)
  · have hpc := h6
    obtain ⟨k1, w1, n_k, rfl, rfl⟩ := pHas_row hc4 hpc
    show zX shR σ 2 MX11_alterRow 12 [(0, zr 0), (1, zi (nI k1)), (2, zi (nI w1)), (3, zi v)] [] μ _
    refine zx_aload_n (k := 0) (nn := 13) dX11_alterRow_12 rfl rfl rfl ?_
    refine zx_getR (q := 17) (nn := 16) flX11_45 rfl rfl dX11_alterRow_13 rfl ?_
    refine zx_iconst (v := 3) (nn := 17) rfl dX11_alterRow_16 rfl ?_
    refine zx_iload_n (k := 1) (nn := 18) dX11_alterRow_17 rfl rfl rfl ?_
    refine zx_imul (nn := 19) dX11_alterRow_18 rfl ?_
    refine zx_iload_n (k := 2) (nn := 20) dX11_alterRow_19 rfl rfl rfl ?_
    refine zx_iadd (nn := 21) dX11_alterRow_20 rfl ?_
    rw [show (3 * (nI k1)) + (nI w1) = nI (3 * k1 + w1) from by simp only [show (2 : Int32) = nI 2 from rfl, show (3 : Int32) = nI 3 from rfl, show (1 : Int32) = nI 1 from rfl, show (4 : Int32) = nI 4 from rfl, show (5 : Int32) = nI 5 from rfl, show (7 : Int32) = nI 7 from rfl, show (31 : Int32) = nI 31 from rfl, show (47 : Int32) = nI 47 from rfl, show (71 : Int32) = nI 71 from rfl, show (111 : Int32) = nI 111 from rfl, nI_mulN, nI_add]]
    show zX shR σ 2 MX11_alterRow 21 [(0, zr 0), (1, zi (nI k1)), (2, zi (nI w1)), (3, zi v)] [zi (nI (3 * k1 + w1)), zr 17] μ _
    refine zx_iald_n (j := 3 * k1 + w1) (nn := 22) rfl (by omega) (by decide) dX11_alterRow_21 rfl ?_
    refine zx_istore (nn := 24) (lv' := [(4, zi (μ 17 (3 * k1 + w1))), (0, zr 0), (1, zi (nI k1)), (2, zi (nI w1)), (3, zi v)]) dX11_alterRow_22 (by decide) rfl rfl ?_
    refine zx_aload_n (k := 1) (nn := 25) dX11_alterRow_24 rfl rfl rfl ?_
    refine zx_getR (q := 17) (nn := 28) flX11_45 rfl rfl dX11_alterRow_25 rfl ?_
    refine zx_iconst (v := 3) (nn := 29) rfl dX11_alterRow_28 rfl ?_
    refine zx_iload_n (k := 2) (nn := 30) dX11_alterRow_29 rfl rfl rfl ?_
    refine zx_imul (nn := 31) dX11_alterRow_30 rfl ?_
    refine zx_iload_n (k := 3) (nn := 32) dX11_alterRow_31 rfl rfl rfl ?_
    refine zx_iadd (nn := 33) dX11_alterRow_32 rfl ?_
    rw [show (3 * (nI k1)) + (nI w1) = nI (3 * k1 + w1) from by simp only [show (2 : Int32) = nI 2 from rfl, show (3 : Int32) = nI 3 from rfl, show (1 : Int32) = nI 1 from rfl, show (4 : Int32) = nI 4 from rfl, show (5 : Int32) = nI 5 from rfl, show (7 : Int32) = nI 7 from rfl, show (31 : Int32) = nI 31 from rfl, show (47 : Int32) = nI 47 from rfl, show (71 : Int32) = nI 71 from rfl, show (111 : Int32) = nI 111 from rfl, nI_mulN, nI_add]]
    show zX shR σ 2 MX11_alterRow 33 [(4, zi (μ 17 (3 * k1 + w1))), (0, zr 0), (1, zi (nI k1)), (2, zi (nI w1)), (3, zi v)] [zi (nI (3 * k1 + w1)), zr 17] μ _
    refine zx_iload_n (k := 4) (nn := 34) dX11_alterRow_33 rfl rfl rfl ?_
    refine zx_iast_n (j := 3 * k1 + w1) (nn := 35) rfl (by omega) (by decide) dX11_alterRow_34 rfl ?_
    refine zx_iload (k := 0) (nn := 37) dX11_alterRow_35 rfl rfl ?_
    refine zx_iret rfl dX11_alterRow_37 ?_
    exact ⟨by rw [if_pos h6, n_k.2.2.1, n_k.2.2.2.1], by rw [if_pos h6, n_k.2.2.1, n_k.2.2.2.1]⟩
  · refine zx_bipush (v := -9) (nn := 11) rfl dX11_alterRow_9 rfl ?_
    refine zx_iret rfl dX11_alterRow_11 ?_
    exact ⟨by rw [if_neg (by rw [h6]; decide)], by rw [if_neg (by rw [h6]; decide)]⟩
set_option maxHeartbeats 4000000 in
set_option maxRecDepth 100000 in
theorem eX11_prove_0 (σ : zG) (μ : zM) (n : Int32) {ρ : pR} (ok : pOK (rS 1 μ)) (ab : pAB (rS 1 μ)) (hρ : rRep ρ (μ 1)) : zMet shR σ 13 MX11_prove yX11_prove [zr 0, zi n] μ (fun rr μ' => rr = some (zi (if pIn n 0 4 = true then nI (min n.toNatClampNeg (pRem (rS 1 μ))) else -1)) ∧ if pIn n 0 4 = true then zJ [0, 4, 6, 7, 10, 11, 12, 13, 15, 16, 17] μ μ' ∧ (∀ j, j ≠ 20 → j ≠ 21 → j ≠ 22 → j ≠ 27 → μ' 0 j = μ 0 j) ∧ μ' 0 27 = nI (min n.toNatClampNeg (pRem (rS 1 μ))) ∧ ∀ j, j < min n.toNatClampNeg (pRem (rS 1 μ)) → ∀ w, w < 3 → μ' 17 (3 * j + w) = pRowOf ρ (rS 1 μ) (pPlan ρ (rS 1 μ) n.toNatClampNeg).2.2 j w else μ' = μ) := by
  have hB16 := (ok_B ok).2
  have hbB := (ok_b ok).2
  have hrem : pRem (rS 1 μ) = pB (rS 1 μ) - pb (rS 1 μ) := rfl
  refine zmetF (by decide +kernel) rfl (Nat.le_of_ble_eq_true rfl) ?_
  show zX shR σ 13 MX11_prove 0 [(0, zr 0), (1, zi n)] [] μ _
  refine zx_iload_n (k := 1) (nn := 1) dX11_prove_0 rfl rfl rfl ?_
  refine zx_i2l (nn := 2) dX11_prove_1 rfl ?_
  refine zx_lconst (v := 0) (nn := 3) rfl dX11_prove_2 rfl ?_
  refine zx_ldc2 (v := 4) (nn := 6) cwX11_326 dX11_prove_3 rfl ?_
  refine zx_callSf (nn := 9) (d' := 0) (as := [zj n.toInt64, zj 0, zj 4]) (rest := []) (n := 3) (eX11_isIn σ μ n.toInt64 0 4  ) kX11_isIn mlX11_70 (by decide) rfl rfl (Nat.le_of_ble_eq_true rfl) dX11_prove_6 rfl ?_
  show zX shR σ 13 MX11_prove 9 [(0, zr 0), (1, zi n)] [zi (zb (decide (0 ≤ n.toInt64) && decide (n.toInt64 ≤ 4)))] μ _
  rw [show zb (decide (0 ≤ n.toInt64) && decide (n.toInt64 ≤ 4)) = zb (pIn n 0 4) from congrArg zb (in_r n 0 4)]
  show zX shR σ 13 MX11_prove 9 [(0, zr 0), (1, zi n)] [zi (zb (pIn n 0 4))] μ _
  refine zx_ifb_ne (tgt := 14) (nn := 12) dX11_prove_9 (by decide) rfl (fun h9 => ?_) (fun h9 => ?_)
  · obtain ⟨n1, n_n, rfl⟩ := pIn_n (b := 4) (by omega) (by decide) h9
    show zX shR σ 13 MX11_prove 14 [(0, zr 0), (1, zi (nI n1))] [] μ _
    have hn14 := n_n.1
    refine zx_aload_n (k := 0) (nn := 15) dX11_prove_14 rfl rfl rfl ?_
    refine zx_iload_n (k := 1) (nn := 16) dX11_prove_15 rfl rfl rfl ?_
    refine zx_callV (nn := 19) (k := 0) (d' := 12) (as := [zi (nI n1)]) (rest := []) (n := 1) (eX11_findBest_0 σ μ n1  ok ab hρ n_n.1) kX11_findBest mlX11_328 rfl rfl rfl (by decide) rfl rfl (Nat.le_of_ble_eq_true rfl) dX11_prove_16 rfl ?_
    rintro _ ν1 ⟨rfl, q1⟩
    show zX shR σ 13 MX11_prove 19 [(0, zr 0), (1, zi (nI n1))] [] ν1 _
    refine zx_aload_n (k := 0) (nn := 20) dX11_prove_19 rfl rfl rfl ?_
    refine zx_aload_n (k := 0) (nn := 21) dX11_prove_20 rfl rfl rfl ?_
    refine zx_getI (nn := 24) flX11_319 rfl rfl dX11_prove_21 rfl ?_
    rw [show ν1 0 22 = nI (min n1 (pRem (rS 1 μ))) from q1.1.2.2.1]
    show zX shR σ 13 MX11_prove 24 [(0, zr 0), (1, zi (nI n1))] [zi (nI (min n1 (pRem (rS 1 μ)))), zr 0] ν1 _
    refine zx_putI (nn := 27) fpX11_361 rfl rfl rfl rfl dX11_prove_24 rfl ?_
    have eB1 : (zp ν1 0 27 (nI (min n1 (pRem (rS 1 μ))))) 1 = μ 1 := by rw [zp_ne (by decide)]; exact q1.2.1 1 (by decide)
    refine zx_aload_n (k := 0) (nn := 28) dX11_prove_27 rfl rfl rfl ?_
    refine zx_aload_n (k := 0) (nn := 29) dX11_prove_28 rfl rfl rfl ?_
    refine zx_getR (q := 7) (nn := 32) flX11_28 rfl rfl dX11_prove_29 rfl ?_
    refine zx_callV (nn := 35) (k := 0) (d' := 0) (as := [zr 7]) (rest := []) (n := 1) (eX11_saves_7 σ (zp ν1 0 27 (nI (min n1 (pRem (rS 1 μ)))))) kX11_saves mlX11_292 rfl rfl rfl (by decide) rfl rfl (Nat.le_of_ble_eq_true rfl) dX11_prove_32 rfl ?_
    rintro _ ν2 ⟨rfl, q2⟩
    show zX shR σ 13 MX11_prove 35 [(0, zr 0), (1, zi (nI n1))] [] ν2 _
    refine zx_iconst (v := 0) (nn := 36) rfl dX11_prove_35 rfl ?_
    refine zx_istore_n (nn := 37) (lv' := [(2, zi 0), (0, zr 0), (1, zi (nI n1))]) dX11_prove_36 rfl (by decide) rfl rfl ?_
    refine zx_lv (lv' := [(0, zr 0), (1, zi (nI n1)), (2, zi 0)]) [1, 2, 0] rfl ?_
    refine zx_while (τ := Nat × zM) (fun t_ => (min n1 (pRem (rS 1 μ))) - t_.1) (fun t_ => t_.1 ≤ (min n1 (pRem (rS 1 μ))) ∧ rS 1 t_.2 = pRunA ρ (rS 1 μ) (ν1 16) t_.1 ∧ rQ μ t_.2 ∧ zJ [1, 4, 6, 7, 17] (zp ν1 0 27 (nI (min n1 (pRem (rS 1 μ))))) t_.2 ∧ rSav (μ 1) (t_.2 7) ∧ ∀ j, j < t_.1 → ∀ w, w < 3 → t_.2 17 (3 * j + w) = pRowOf ρ (rS 1 μ) (ν1 16) j w) (fun t_ => [(0, zr 0), (1, zi (nI n1)), (2, zi (nI t_.1))]) (fun t_ => t_.2) (t0 := (0, ν2)) (show 0 ≤ (min n1 (pRem (rS 1 μ))) ∧ rS 1 ν2 = pRunA ρ (rS 1 μ) (ν1 16) 0 ∧ rQ μ ν2 ∧ zJ [1, 4, 6, 7, 17] (zp ν1 0 27 (nI (min n1 (pRem (rS 1 μ))))) ν2 ∧ rSav (μ 1) (ν2 7) ∧ ∀ j, j < 0 → ∀ w, w < 3 → ν2 17 (3 * j + w) = pRowOf ρ (rS 1 μ) (ν1 16) j w from ⟨Nat.zero_le _, (rS_eq (q2.1 1 (by decide))).trans (rS_eq eB1), rQ_e ((q2.1 1 (by decide)).trans eB1), q2.1.mono (by simp), by rw [← eB1]; exact q2.2, fun j hj_ => absurd hj_ (by omega)⟩) ?_
    rintro ⟨k, μ1⟩ hI ih37
    replace hI : k ≤ (min n1 (pRem (rS 1 μ))) ∧ rS 1 μ1 = pRunA ρ (rS 1 μ) (ν1 16) k ∧ rQ μ μ1 ∧ zJ [1, 4, 6, 7, 17] (zp ν1 0 27 (nI (min n1 (pRem (rS 1 μ))))) μ1 ∧ rSav (μ 1) (μ1 7) ∧ ∀ j, j < k → ∀ w, w < 3 → μ1 17 (3 * j + w) = pRowOf ρ (rS 1 μ) (ν1 16) j w := hI
    show zX shR σ 13 MX11_prove 37 [(0, zr 0), (1, zi (nI n1)), (2, zi (nI k))] [] μ1 _
    obtain ⟨hk, hs, hq, hj, hsv, hr⟩ := hI
    have hok1 := pRunA_ok (ρ := ρ) (A := (ν1 16)) ok k (by omega)
    have okm : pOK (rS 1 μ1) := by rw [hs]; exact hok1.1
    have abm : pAB (rS 1 μ1) := by rw [hs]; exact pAB_runA ok ab k (by omega)
    have hρm : rRep ρ (μ1 1) := rRep_K (rQ_K hq) hρ
    have e27 : μ1 0 27 = nI (min n1 (pRem (rS 1 μ))) := by rw [hj 0 (by decide), zp_eq]; exact pk_us
    have e16 : μ1 16 = (ν1 16) := by rw [hj 16 (by decide), zp_ne (by decide)]
    refine zx_iload_n (k := 2) (nn := 38) dX11_prove_37 rfl rfl rfl ?_
    refine zx_aload_n (k := 0) (nn := 39) dX11_prove_38 rfl rfl rfl ?_
    refine zx_getI (nn := 42) flX11_361 rfl rfl dX11_prove_39 rfl ?_
    rw [show μ1 0 27 = nI (min n1 (pRem (rS 1 μ))) from e27]
    show zX shR σ 13 MX11_prove 42 [(0, zr 0), (1, zi (nI n1)), (2, zi (nI k))] [zi (nI (min n1 (pRem (rS 1 μ)))), zi (nI k)] μ1 _
    refine zx_icmp_ge (tgt := 116) (nn := 45) dX11_prove_42 (by decide) rfl (fun h42 => ?_) (fun h42 => ?_)
    · refine zx_aload_n (k := 0) (nn := 117) dX11_prove_116 rfl rfl rfl ?_
      refine zx_aload_n (k := 0) (nn := 118) dX11_prove_117 rfl rfl rfl ?_
      refine zx_getR (q := 7) (nn := 121) flX11_28 rfl rfl dX11_prove_118 rfl ?_
      refine zx_callV (nn := 124) (k := 0) (d' := 0) (as := [zr 7]) (rest := []) (n := 1) (eX11_putsBack_7 σ μ1) kX11_putsBack mlX11_296 rfl rfl rfl (by decide) rfl rfl (Nat.le_of_ble_eq_true rfl) dX11_prove_121 rfl ?_
      rintro _ ν3 ⟨rfl, q3⟩
      show zX shR σ 13 MX11_prove 124 [(0, zr 0), (1, zi (nI n1)), (2, zi (nI k))] [] ν3 _
      refine zx_aload_n (k := 0) (nn := 125) dX11_prove_124 rfl rfl rfl ?_
      refine zx_getI (nn := 128) flX11_361 rfl rfl dX11_prove_125 rfl ?_
      rw [show ν3 0 27 = nI (min n1 (pRem (rS 1 μ))) from by rw [q3.1 0 (by decide)]; exact e27]
      show zX shR σ 13 MX11_prove 128 [(0, zr 0), (1, zi (nI n1)), (2, zi (nI k))] [zi (nI (min n1 (pRem (rS 1 μ))))] ν3 _
      refine zx_iret rfl dX11_prove_128 ?_
      have hge := nI_le_le h42 (by omega)
      have er : ν3 1 = μ 1 := q3.2.trans (rPb_eq hsv hq)
      refine ⟨congrArg (fun x => some (zi x)) ?_, ?_⟩
      · rw [if_pos h9, n_n.2]
      rw [if_pos h9, n_n.2]
      refine ⟨?_, ?_, ?_, fun j hj_ w hw => ?_⟩
      · intro q hq_
        by_cases e : q = 1
        · rw [e, er]
        · rw [q3.1 q (by simp; exact e), hj q (by simp at hq_ ⊢; omega), zp_ne (by simp at hq_; omega)]
          exact q1.2.1 q (by simp [rJS] at hq_ ⊢; omega)
      · intro j a b c d
        rw [q3.1 0 (by decide), hj 0 (by decide), zp_eq, pk_un d]
        exact q1.2.2 j a b c
      · rw [q3.1 0 (by decide)]; exact e27
      · rw [q3.1 17 (by decide), hr j (by omega) w hw]
        exact pRowOf_congr (fun i hi => q1.1.2.2.2 i (by omega))
    · have hlt : k < (min n1 (pRem (rS 1 μ))) := nI_nle_lt h42 (by omega)
      have eM : rS 1 (zp μ1 17 (3 * k) (ν1 16 k)) = rS 1 μ1 := rS_eq (zp_ne (by decide))
      refine zx_aload_n (k := 0) (nn := 46) dX11_prove_45 rfl rfl rfl ?_
      refine zx_getR (q := 1) (nn := 49) flX11_9 rfl rfl dX11_prove_46 rfl ?_
      refine zx_bipush (v := 31) (nn := 51) rfl dX11_prove_49 rfl ?_
      refine zx_aload_n (k := 0) (nn := 52) dX11_prove_51 rfl rfl rfl ?_
      refine zx_getR (q := 1) (nn := 55) flX11_9 rfl rfl dX11_prove_52 rfl ?_
      refine zx_iconst (v := 2) (nn := 56) rfl dX11_prove_55 rfl ?_
      refine zx_iald_n (j := 2) (nn := 57) rfl (by omega) (by decide) dX11_prove_56 rfl ?_
      rw [show μ1 1 2 = nI (pb (rS 1 μ) + k) from by rw [show μ1 1 2 = rS 1 μ1 2 from rfl, (ok_b okm).1, hs, hok1.2.1]]
      show zX shR σ 13 MX11_prove 57 [(0, zr 0), (1, zi (nI n1)), (2, zi (nI k))] [zi (nI (pb (rS 1 μ) + k)), zi 31, zr 1] μ1 _
      refine zx_iadd (nn := 58) dX11_prove_57 rfl ?_
      rw [show 31 + (nI (pb (rS 1 μ) + k)) = nI (31 + (pb (rS 1 μ) + k)) from by simp only [show (2 : Int32) = nI 2 from rfl, show (3 : Int32) = nI 3 from rfl, show (1 : Int32) = nI 1 from rfl, show (4 : Int32) = nI 4 from rfl, show (5 : Int32) = nI 5 from rfl, show (7 : Int32) = nI 7 from rfl, show (31 : Int32) = nI 31 from rfl, show (47 : Int32) = nI 47 from rfl, show (71 : Int32) = nI 71 from rfl, show (111 : Int32) = nI 111 from rfl, nI_mulN, nI_add]]
      show zX shR σ 13 MX11_prove 58 [(0, zr 0), (1, zi (nI n1)), (2, zi (nI k))] [zi (nI (31 + (pb (rS 1 μ) + k))), zr 1] μ1 _
      refine zx_iald_n (j := 31 + (pb (rS 1 μ) + k)) (nn := 59) rfl (by omega) (by decide) dX11_prove_58 rfl ?_
      rw [show μ1 1 (31 + (pb (rS 1 μ) + k)) = (rS 1 μ) (31 + (pb (rS 1 μ) + k)) from (hq _ (by omega)).trans (rS_i (by omega) (by omega) (by omega)).symm]
      show zX shR σ 13 MX11_prove 59 [(0, zr 0), (1, zi (nI n1)), (2, zi (nI k))] [zi ((rS 1 μ) (31 + (pb (rS 1 μ) + k)))] μ1 _
      refine zx_istore_n (nn := 60) (lv' := [(3, zi ((rS 1 μ) (31 + (pb (rS 1 μ) + k)))), (0, zr 0), (1, zi (nI n1)), (2, zi (nI k))]) dX11_prove_59 rfl (by decide) rfl rfl ?_
      refine zx_aload_n (k := 1) (nn := 61) dX11_prove_60 rfl rfl rfl ?_
      refine zx_getR (q := 17) (nn := 64) flX11_45 rfl rfl dX11_prove_61 rfl ?_
      refine zx_iconst (v := 3) (nn := 65) rfl dX11_prove_64 rfl ?_
      refine zx_iload_n (k := 3) (nn := 66) dX11_prove_65 rfl rfl rfl ?_
      refine zx_imul (nn := 67) dX11_prove_66 rfl ?_
      rw [show 3 * (nI k) = nI (3 * k) from by simp only [show (2 : Int32) = nI 2 from rfl, show (3 : Int32) = nI 3 from rfl, show (1 : Int32) = nI 1 from rfl, show (4 : Int32) = nI 4 from rfl, show (5 : Int32) = nI 5 from rfl, show (7 : Int32) = nI 7 from rfl, show (31 : Int32) = nI 31 from rfl, show (47 : Int32) = nI 47 from rfl, show (71 : Int32) = nI 71 from rfl, show (111 : Int32) = nI 111 from rfl, nI_mulN, nI_add]]
      show zX shR σ 13 MX11_prove 67 [(3, zi ((rS 1 μ) (31 + (pb (rS 1 μ) + k)))), (0, zr 0), (1, zi (nI n1)), (2, zi (nI k))] [zi (nI (3 * k)), zr 17] μ1 _
      refine zx_aload_n (k := 1) (nn := 68) dX11_prove_67 rfl rfl rfl ?_
      refine zx_getR (q := 16) (nn := 71) flX11_42 rfl rfl dX11_prove_68 rfl ?_
      refine zx_iload_n (k := 3) (nn := 72) dX11_prove_71 rfl rfl rfl ?_
      refine zx_iald_n (j := k) (nn := 73) rfl (by omega) (by decide) dX11_prove_72 rfl ?_
      rw [show μ1 16 k = ν1 16 k from by rw [e16]]
      show zX shR σ 13 MX11_prove 73 [(3, zi ((rS 1 μ) (31 + (pb (rS 1 μ) + k)))), (0, zr 0), (1, zi (nI n1)), (2, zi (nI k))] [zi (ν1 16 k), zi (nI (3 * k)), zr 17] μ1 _
      refine zx_iast_n (j := 3 * k) (nn := 74) rfl (by omega) (by decide) dX11_prove_73 rfl ?_
      refine zx_aload_n (k := 1) (nn := 75) dX11_prove_74 rfl rfl rfl ?_
      refine zx_getR (q := 17) (nn := 78) flX11_45 rfl rfl dX11_prove_75 rfl ?_
      refine zx_iconst (v := 3) (nn := 79) rfl dX11_prove_78 rfl ?_
      refine zx_iload_n (k := 3) (nn := 80) dX11_prove_79 rfl rfl rfl ?_
      refine zx_imul (nn := 81) dX11_prove_80 rfl ?_
      refine zx_iconst (v := 1) (nn := 82) rfl dX11_prove_81 rfl ?_
      refine zx_iadd (nn := 83) dX11_prove_82 rfl ?_
      rw [show (3 * (nI k)) + 1 = nI (3 * k + 1) from by simp only [show (2 : Int32) = nI 2 from rfl, show (3 : Int32) = nI 3 from rfl, show (1 : Int32) = nI 1 from rfl, show (4 : Int32) = nI 4 from rfl, show (5 : Int32) = nI 5 from rfl, show (7 : Int32) = nI 7 from rfl, show (31 : Int32) = nI 31 from rfl, show (47 : Int32) = nI 47 from rfl, show (71 : Int32) = nI 71 from rfl, show (111 : Int32) = nI 111 from rfl, nI_mulN, nI_add]]
      show zX shR σ 13 MX11_prove 83 [(3, zi ((rS 1 μ) (31 + (pb (rS 1 μ) + k)))), (0, zr 0), (1, zi (nI n1)), (2, zi (nI k))] [zi (nI (3 * k + 1)), zr 17] (zp μ1 17 (3 * k) (ν1 16 k)) _
      refine zx_aload_n (k := 1) (nn := 84) dX11_prove_83 rfl rfl rfl ?_
      refine zx_aload_n (k := 1) (nn := 85) dX11_prove_84 rfl rfl rfl ?_
      refine zx_getR (q := 16) (nn := 88) flX11_42 rfl rfl dX11_prove_85 rfl ?_
      refine zx_iload_n (k := 3) (nn := 89) dX11_prove_88 rfl rfl rfl ?_
      refine zx_iald_n (j := k) (nn := 90) rfl (by omega) (by decide) dX11_prove_89 rfl ?_
      show zX shR σ 13 MX11_prove 90 [(3, zi ((rS 1 μ) (31 + (pb (rS 1 μ) + k)))), (0, zr 0), (1, zi (nI n1)), (2, zi (nI k))] [zi (μ1 16 k), zr 0, zi (nI (3 * k + 1)), zr 17] (zp μ1 17 (3 * k) (ν1 16 k)) _
      rw [show μ1 16 k = ν1 16 k from by rw [e16]]
      show zX shR σ 13 MX11_prove 90 [(3, zi ((rS 1 μ) (31 + (pb (rS 1 μ) + k)))), (0, zr 0), (1, zi (nI n1)), (2, zi (nI k))] [zi (ν1 16 k), zr 0, zi (nI (3 * k + 1)), zr 17] (zp μ1 17 (3 * k) (ν1 16 k)) _
      refine zx_callV (nn := 93) (k := 0) (d' := 6) (as := [zi (ν1 16 k)]) (rest := [zi (nI (3 * k + 1)), zr 17]) (n := 1) (eX11_goes_0 σ (zp μ1 17 (3 * k) (ν1 16 k)) (ν1 16 k) (by rw [eM]; exact okm) (by rw [eM]; exact abm) (by rw [zp_ne (by decide)]; exact hρm) (by rw [eM, hs, hok1.2.1, hok1.2.2.1]; omega)) kX11_goes mlX11_284 rfl rfl rfl (by decide) rfl rfl (Nat.le_of_ble_eq_true rfl) dX11_prove_90 rfl ?_
      rintro _ ν4 ⟨rfl, g1, g2, g3⟩
      show zX shR σ 13 MX11_prove 93 [(3, zi ((rS 1 μ) (31 + (pb (rS 1 μ) + k)))), (0, zr 0), (1, zi (nI n1)), (2, zi (nI k))] [zi (pGain ρ (rS 1 (zp μ1 17 (3 * k) (ν1 16 k))) (ν1 16 k - 1)), zi (nI (3 * k + 1)), zr 17] ν4 _
      have hs2 : rS 1 ν4 = pRunA ρ (rS 1 μ) (ν1 16) (k + 1) := by rw [g1, eM, hs]; rfl
      have hq2 : rQ μ ν4 := rQ_tr (rQ_o hq (by decide)) g2
      have hj2 : zJ [1, 4, 6, 7, 17] (zp ν1 0 27 (nI (min n1 (pRem (rS 1 μ))))) ν4 := (hj.p (by decide)).tr (g3.mono (by simp))
      have hsv2 : rSav (μ 1) (ν4 7) := by rw [g3 7 (by decide), zp_ne (by decide)]; exact hsv
      have hok2 := pRunA_ok (ρ := ρ) (A := (ν1 16)) ok (k + 1) (by omega)
      have hsM2 : rS 1 (zp ν4 17 (3 * k + 1) (pGain ρ (pRunA ρ (rS 1 μ) (ν1 16) k) (ν1 16 k - 1))) = pRunA ρ (rS 1 μ) (ν1 16) (k + 1) := (rS_eq (zp_ne (by decide))).trans hs2
      have hqM2 : rQ μ (zp ν4 17 (3 * k + 1) (pGain ρ (pRunA ρ (rS 1 μ) (ν1 16) k) (ν1 16 k - 1))) := rQ_o hq2 (by decide)
      have hjM2 : zJ [1, 4, 6, 7, 17] (zp ν1 0 27 (nI (min n1 (pRem (rS 1 μ))))) (zp ν4 17 (3 * k + 1) (pGain ρ (pRunA ρ (rS 1 μ) (ν1 16) k) (ν1 16 k - 1))) := hj2.p (by decide)
      have hsvM2 : rSav (μ 1) ((zp ν4 17 (3 * k + 1) (pGain ρ (pRunA ρ (rS 1 μ) (ν1 16) k) (ν1 16 k - 1))) 7) := by rw [zp_ne (by decide)]; exact hsv2
      have okM2 : pOK (rS 1 (zp ν4 17 (3 * k + 1) (pGain ρ (pRunA ρ (rS 1 μ) (ν1 16) k) (ν1 16 k - 1)))) := by rw [hsM2]; exact hok2.1
      have abM2 : pAB (rS 1 (zp ν4 17 (3 * k + 1) (pGain ρ (pRunA ρ (rS 1 μ) (ν1 16) k) (ν1 16 k - 1)))) := by rw [hsM2]; exact pAB_runA ok ab (k + 1) (by omega)
      have hpl : 0 ≤ (rS 1 μ) (31 + (pb (rS 1 μ) + k)) ∧ (rS 1 μ) (31 + (pb (rS 1 μ) + k)) ≤ 40 := ab.2 _ (by omega)
      rw [show pGain ρ (rS 1 (zp μ1 17 (3 * k) (ν1 16 k))) (ν1 16 k - 1) = pGain ρ (pRunA ρ (rS 1 μ) (ν1 16) k) (ν1 16 k - 1) from by rw [eM, hs]]
      show zX shR σ 13 MX11_prove 93 [(3, zi ((rS 1 μ) (31 + (pb (rS 1 μ) + k)))), (0, zr 0), (1, zi (nI n1)), (2, zi (nI k))] [zi (pGain ρ (pRunA ρ (rS 1 μ) (ν1 16) k) (ν1 16 k - 1)), zi (nI (3 * k + 1)), zr 17] ν4 _
      refine zx_iast_n (j := 3 * k + 1) (nn := 94) rfl (by omega) (by decide) dX11_prove_93 rfl ?_
      refine zx_aload_n (k := 1) (nn := 95) dX11_prove_94 rfl rfl rfl ?_
      refine zx_getR (q := 17) (nn := 98) flX11_45 rfl rfl dX11_prove_95 rfl ?_
      refine zx_iconst (v := 3) (nn := 99) rfl dX11_prove_98 rfl ?_
      refine zx_iload_n (k := 3) (nn := 100) dX11_prove_99 rfl rfl rfl ?_
      refine zx_imul (nn := 101) dX11_prove_100 rfl ?_
      refine zx_iconst (v := 2) (nn := 102) rfl dX11_prove_101 rfl ?_
      refine zx_iadd (nn := 103) dX11_prove_102 rfl ?_
      rw [show (3 * (nI k)) + 2 = nI (3 * k + 2) from by simp only [show (2 : Int32) = nI 2 from rfl, show (3 : Int32) = nI 3 from rfl, show (1 : Int32) = nI 1 from rfl, show (4 : Int32) = nI 4 from rfl, show (5 : Int32) = nI 5 from rfl, show (7 : Int32) = nI 7 from rfl, show (31 : Int32) = nI 31 from rfl, show (47 : Int32) = nI 47 from rfl, show (71 : Int32) = nI 71 from rfl, show (111 : Int32) = nI 111 from rfl, nI_mulN, nI_add]]
      show zX shR σ 13 MX11_prove 103 [(3, zi ((rS 1 μ) (31 + (pb (rS 1 μ) + k)))), (0, zr 0), (1, zi (nI n1)), (2, zi (nI k))] [zi (nI (3 * k + 2)), zr 17] (zp ν4 17 (3 * k + 1) (pGain ρ (pRunA ρ (rS 1 μ) (ν1 16) k) (ν1 16 k - 1))) _
      refine zx_aload_n (k := 1) (nn := 104) dX11_prove_103 rfl rfl rfl ?_
      refine zx_iconst (v := 2) (nn := 105) rfl dX11_prove_104 rfl ?_
      refine zx_iload_n (k := 0) (nn := 106) dX11_prove_105 rfl rfl rfl ?_
      refine zx_callVf (nn := 109) (k := 0) (d' := 3) (as := [zi 2, zi ((rS 1 μ) (31 + (pb (rS 1 μ) + k)))]) (rest := [zi (nI (3 * k + 2)), zr 17]) (n := 2) (eX11_setOf_0 σ (zp ν4 17 (3 * k + 1) (pGain ρ (pRunA ρ (rS 1 μ) (ν1 16) k) (ν1 16 k - 1))) 2 ((rS 1 μ) (31 + (pb (rS 1 μ) + k)))  okM2 abM2 hpl) kX11_setOf mlX11_289 rfl rfl rfl (by decide) rfl rfl (Nat.le_of_ble_eq_true rfl) dX11_prove_106 rfl ?_
      show zX shR σ 13 MX11_prove 109 [(3, zi ((rS 1 μ) (31 + (pb (rS 1 μ) + k)))), (0, zr 0), (1, zi (nI n1)), (2, zi (nI k))] [zi (pSetOf (rS 1 (zp ν4 17 (3 * k + 1) (pGain ρ (pRunA ρ (rS 1 μ) (ν1 16) k) (ν1 16 k - 1)))) 2 ((rS 1 μ) (31 + (pb (rS 1 μ) + k)))), zi (nI (3 * k + 2)), zr 17] (zp ν4 17 (3 * k + 1) (pGain ρ (pRunA ρ (rS 1 μ) (ν1 16) k) (ν1 16 k - 1))) _
      rw [show pSetOf (rS 1 (zp ν4 17 (3 * k + 1) (pGain ρ (pRunA ρ (rS 1 μ) (ν1 16) k) (ν1 16 k - 1)))) 2 ((rS 1 μ) (31 + (pb (rS 1 μ) + k))) = pSetOf (pRunA ρ (rS 1 μ) (ν1 16) (k + 1)) 2 ((rS 1 μ) (31 + (pb (rS 1 μ) + k))) from by rw [hsM2]]
      show zX shR σ 13 MX11_prove 109 [(3, zi ((rS 1 μ) (31 + (pb (rS 1 μ) + k)))), (0, zr 0), (1, zi (nI n1)), (2, zi (nI k))] [zi (pSetOf (pRunA ρ (rS 1 μ) (ν1 16) (k + 1)) 2 ((rS 1 μ) (31 + (pb (rS 1 μ) + k)))), zi (nI (3 * k + 2)), zr 17] (zp ν4 17 (3 * k + 1) (pGain ρ (pRunA ρ (rS 1 μ) (ν1 16) k) (ν1 16 k - 1))) _
      refine zx_iast_n (j := 3 * k + 2) (nn := 110) rfl (by omega) (by decide) dX11_prove_109 rfl ?_
      refine zx_iinc (k := 3) (v := nI (k + 1)) (lv' := [(2, zi (nI (k + 1))), (3, zi ((rS 1 μ) (31 + (pb (rS 1 μ) + k)))), (0, zr 0), (1, zi (nI n1))]) (nn := 113) dX11_prove_110 rfl (nI_1 k) (by decide) rfl rfl ?_
      refine zx_goto (tgt := 37) dX11_prove_113 (by decide) ?_
      refine zx_lv (lv' := [(0, zr 0), (1, zi (nI n1)), (2, zi (nI (k + 1)))]) [2, 3, 0] rfl ?_
      exact ih37 (k + 1, zp (zp ν4 17 (3 * k + 1) (pGain ρ (pRunA ρ (rS 1 μ) (ν1 16) k) (ν1 16 k - 1))) 17 (3 * k + 2) (pSetOf (pRunA ρ (rS 1 μ) (ν1 16) (k + 1)) 2 ((rS 1 μ) (31 + (pb (rS 1 μ) + k))))) (show (k + 1) ≤ (min n1 (pRem (rS 1 μ))) ∧ rS 1 (zp (zp ν4 17 (3 * k + 1) (pGain ρ (pRunA ρ (rS 1 μ) (ν1 16) k) (ν1 16 k - 1))) 17 (3 * k + 2) (pSetOf (pRunA ρ (rS 1 μ) (ν1 16) (k + 1)) 2 ((rS 1 μ) (31 + (pb (rS 1 μ) + k))))) = pRunA ρ (rS 1 μ) (ν1 16) (k + 1) ∧ rQ μ (zp (zp ν4 17 (3 * k + 1) (pGain ρ (pRunA ρ (rS 1 μ) (ν1 16) k) (ν1 16 k - 1))) 17 (3 * k + 2) (pSetOf (pRunA ρ (rS 1 μ) (ν1 16) (k + 1)) 2 ((rS 1 μ) (31 + (pb (rS 1 μ) + k))))) ∧ zJ [1, 4, 6, 7, 17] (zp ν1 0 27 (nI (min n1 (pRem (rS 1 μ))))) (zp (zp ν4 17 (3 * k + 1) (pGain ρ (pRunA ρ (rS 1 μ) (ν1 16) k) (ν1 16 k - 1))) 17 (3 * k + 2) (pSetOf (pRunA ρ (rS 1 μ) (ν1 16) (k + 1)) 2 ((rS 1 μ) (31 + (pb (rS 1 μ) + k))))) ∧ rSav (μ 1) ((zp (zp ν4 17 (3 * k + 1) (pGain ρ (pRunA ρ (rS 1 μ) (ν1 16) k) (ν1 16 k - 1))) 17 (3 * k + 2) (pSetOf (pRunA ρ (rS 1 μ) (ν1 16) (k + 1)) 2 ((rS 1 μ) (31 + (pb (rS 1 μ) + k))))) 7) ∧ ∀ j, j < (k + 1) → ∀ w, w < 3 → (zp (zp ν4 17 (3 * k + 1) (pGain ρ (pRunA ρ (rS 1 μ) (ν1 16) k) (ν1 16 k - 1))) 17 (3 * k + 2) (pSetOf (pRunA ρ (rS 1 μ) (ν1 16) (k + 1)) 2 ((rS 1 μ) (31 + (pb (rS 1 μ) + k))))) 17 (3 * j + w) = pRowOf ρ (rS 1 μ) (ν1 16) j w from ⟨by omega, (rS_eq (zp_ne (by decide))).trans hsM2, rQ_o hqM2 (by decide), hjM2.p (by decide), by rw [zp_ne (by decide)]; exact hsvM2, fun j hj_ w hw => by
            rw [zp_eq]
            by_cases ej : j = k
            · subst ej
              rcases (show w = 0 ∨ w = 1 ∨ w = 2 by omega) with rfl | rfl | rfl
              · rw [pk_un (by omega), zp_eq, pk_un (by omega), g3 17 (by decide), zp_eq]; exact pk_us
              · rw [pk_un (by omega), zp_eq, pk_us]; rfl
              · rw [pk_us]; rfl
            · rw [pk_un (by omega), zp_eq, pk_un (by omega), g3 17 (by decide), zp_eq, pk_un (by omega)]
              exact hr j (by omega) w hw⟩) (by show (min n1 (pRem (rS 1 μ))) - (k + 1) < (min n1 (pRem (rS 1 μ))) - k; omega)
  · refine zx_iconst (v := -1) (nn := 13) rfl dX11_prove_12 rfl ?_
    refine zx_iret rfl dX11_prove_13 ?_
    refine ⟨congrArg (fun x => some (zi x)) ?_, ?_⟩
    · simp [h9]
    · rw [if_neg (by simp [h9])]
set_option maxHeartbeats 4000000 in
set_option maxRecDepth 100000 in
theorem eX11_isAct_0 (σ : zG) (μ : zM) (v : Int64) (ok : pOK (rS 1 μ)) : zMet shR σ 1 MX11_isAct yX11_isAct [zr 0, zj v] μ (fun rr μ' => rr = some (zi (zb (decide (0 ≤ v) && decide (v ≤ (nI (pL (rS 1 μ))).toInt64)))) ∧ μ' = μ) := by
  refine zmetF (by decide +kernel) rfl (Nat.le_of_ble_eq_true rfl) ?_
  show zX shR σ 1 MX11_isAct 0 [(0, zr 0), (1, zj v)] [] μ _
  refine zx_lload_n (k := 1) (nn := 1) dX11_isAct_0 rfl rfl rfl ?_
  refine zx_lconst (v := 0) (nn := 2) rfl dX11_isAct_1 rfl ?_
  refine zx_aload_n (k := 0) (nn := 3) dX11_isAct_2 rfl rfl rfl ?_
  refine zx_getR (q := 1) (nn := 6) flX11_9 rfl rfl dX11_isAct_3 rfl ?_
  refine zx_iconst (v := 0) (nn := 7) rfl dX11_isAct_6 rfl ?_
  refine zx_iald_n (j := 0) (nn := 8) rfl (by omega) (by decide) dX11_isAct_7 rfl ?_
  rw [show μ 1 0 = nI (pL (rS 1 μ)) from (ok_L ok).1]
  show zX shR σ 1 MX11_isAct 8 [(0, zr 0), (1, zj v)] [zi (nI (pL (rS 1 μ))), zj 0, zj v] μ _
  refine zx_i2l (nn := 9) dX11_isAct_8 rfl ?_
  refine zx_callSf (nn := 12) (d' := 0) (as := [zj v, zj 0, zj ((nI (pL (rS 1 μ))).toInt64)]) (rest := []) (n := 3) (eX11_isIn σ μ v 0 ((nI (pL (rS 1 μ))).toInt64)  ) kX11_isIn mlX11_70 (by decide) rfl rfl (Nat.le_of_ble_eq_true rfl) dX11_isAct_9 rfl ?_
  show zX shR σ 1 MX11_isAct 12 [(0, zr 0), (1, zj v)] [zi (zb (decide (0 ≤ v) && decide (v ≤ ((nI (pL (rS 1 μ))).toInt64))))] μ _
  refine zx_zret rfl (zb_nar _) dX11_isAct_12 ?_
  exact ⟨rfl, rfl⟩
set_option maxHeartbeats 4000000 in
set_option maxRecDepth 100000 in
theorem eX11_judge_0 (σ : zG) (μ : zM) {ρ : pR} (c : Nat) (ok : pOK (rS 1 μ)) (ab : pAB (rS 1 μ)) (hρ : rRep ρ (μ 1)) (hc4 : c ≤ 4) (hc : μ 0 27 = nI c) : zMet shR σ 7 MX11_judge yX11_judge [zr 0] μ (fun rr μ' => rr = some (zi (pJd ρ (fun k_ w_ => μ 17 (3 * k_ + w_)) c 0 (rS 1 μ))) ∧ zJ [4, 6, 7] μ μ') := by
  refine zmetF (by decide +kernel) rfl (Nat.le_of_ble_eq_true rfl) ?_
  show zX shR σ 7 MX11_judge 0 [(0, zr 0)] [] μ _
  refine zx_aload_n (k := 0) (nn := 1) dX11_judge_0 rfl rfl rfl ?_
  refine zx_aload_n (k := 0) (nn := 2) dX11_judge_1 rfl rfl rfl ?_
  refine zx_getR (q := 7) (nn := 5) flX11_28 rfl rfl dX11_judge_2 rfl ?_
  refine zx_callV (nn := 8) (k := 0) (d' := 0) (as := [zr 7]) (rest := []) (n := 1) (eX11_saves_7 σ μ) kX11_saves mlX11_292 rfl rfl rfl (by decide) rfl rfl (Nat.le_of_ble_eq_true rfl) dX11_judge_5 rfl ?_
  rintro _ ν1 ⟨rfl, q1⟩
  show zX shR σ 7 MX11_judge 8 [(0, zr 0)] [] ν1 _
  refine zx_iconst (v := 0) (nn := 9) rfl dX11_judge_8 rfl ?_
  refine zx_istore_n (nn := 10) (lv' := [(1, zi 0), (0, zr 0)]) dX11_judge_9 rfl (by decide) rfl rfl ?_
  refine zx_iconst (v := 0) (nn := 11) rfl dX11_judge_10 rfl ?_
  refine zx_istore_n (nn := 12) (lv' := [(2, zi 0), (1, zi 0), (0, zr 0)]) dX11_judge_11 rfl (by decide) rfl rfl ?_
  refine zx_lv (lv' := [(0, zr 0), (1, zi 0), (2, zi 0)]) [2, 1, 0] rfl ?_
  refine zx_while (τ := Nat × Int32 × zM) (fun t_ => c - t_.1) (fun t_ => t_.1 ≤ c ∧ pOK (rS 1 t_.2.2) ∧ pAB (rS 1 t_.2.2) ∧ rQ μ t_.2.2 ∧ zJ [1, 4, 6, 7] μ t_.2.2 ∧ rSav (μ 1) (t_.2.2 7) ∧ ((t_.2.1 = 0 ∧ pJd ρ (fun k_ w_ => μ 17 (3 * k_ + w_)) c 0 (rS 1 μ) = pJd ρ (fun k_ w_ => μ 17 (3 * k_ + w_)) (c - t_.1) t_.1 (rS 1 t_.2.2)) ∨ (¬ t_.2.1 = 0 ∧ t_.2.1 = pJd ρ (fun k_ w_ => μ 17 (3 * k_ + w_)) c 0 (rS 1 μ)))) (fun t_ => [(0, zr 0), (1, zi t_.2.1), (2, zi (nI t_.1))]) (fun t_ => t_.2.2) (t0 := (0, 0, ν1)) (show 0 ≤ c ∧ pOK (rS 1 ν1) ∧ pAB (rS 1 ν1) ∧ rQ μ ν1 ∧ zJ [1, 4, 6, 7] μ ν1 ∧ rSav (μ 1) (ν1 7) ∧ ((0 = 0 ∧ pJd ρ (fun k_ w_ => μ 17 (3 * k_ + w_)) c 0 (rS 1 μ) = pJd ρ (fun k_ w_ => μ 17 (3 * k_ + w_)) (c - 0) 0 (rS 1 ν1)) ∨ (¬ 0 = 0 ∧ 0 = pJd ρ (fun k_ w_ => μ 17 (3 * k_ + w_)) c 0 (rS 1 μ))) from ⟨Nat.zero_le _, by rw [rS_eq (q1.1 1 (by decide))]; exact ok, by rw [rS_eq (q1.1 1 (by decide))]; exact ab, rQ_e (q1.1 1 (by decide)), q1.1.mono (by simp), q1.2, Or.inl ⟨rfl, by rw [rS_eq (q1.1 1 (by decide)), Nat.sub_zero]⟩⟩) ?_
  rintro ⟨k, wr, μ1⟩ hI ih12
  replace hI : k ≤ c ∧ pOK (rS 1 μ1) ∧ pAB (rS 1 μ1) ∧ rQ μ μ1 ∧ zJ [1, 4, 6, 7] μ μ1 ∧ rSav (μ 1) (μ1 7) ∧ ((wr = 0 ∧ pJd ρ (fun k_ w_ => μ 17 (3 * k_ + w_)) c 0 (rS 1 μ) = pJd ρ (fun k_ w_ => μ 17 (3 * k_ + w_)) (c - k) k (rS 1 μ1)) ∨ (¬ wr = 0 ∧ wr = pJd ρ (fun k_ w_ => μ 17 (3 * k_ + w_)) c 0 (rS 1 μ))) := hI
  show zX shR σ 7 MX11_judge 12 [(0, zr 0), (1, zi wr), (2, zi (nI k))] [] μ1 _
  obtain ⟨hk, okm, abm, hq, hj, hsv, hv⟩ := hI
  have hρm : rRep ρ (μ1 1) := rRep_K (rQ_K hq) hρ
  have e27 : μ1 0 27 = nI c := by rw [hj 0 (by decide)]; exact hc
  have e17 : μ1 17 = μ 17 := hj 17 (by decide)
  have ebm : μ1 1 2 = nI (pb (rS 1 μ1)) := (ok_b okm).1
  have hBm := (ok_B okm).2
  have hL0 : rS 1 μ1 0 = nI (pL (rS 1 μ1)) := (ok_L okm).1
  refine zx_iload_n (k := 2) (nn := 13) dX11_judge_12 rfl rfl rfl ?_
  refine zx_aload_n (k := 0) (nn := 14) dX11_judge_13 rfl rfl rfl ?_
  refine zx_getI (nn := 17) flX11_361 rfl rfl dX11_judge_14 rfl ?_
  rw [show μ1 0 27 = nI c from e27]
  show zX shR σ 7 MX11_judge 17 [(0, zr 0), (1, zi wr), (2, zi (nI k))] [zi (nI c), zi (nI k)] μ1 _
  refine zx_icmp_ge (tgt := 142) (nn := 20) dX11_judge_17 (by decide) rfl (fun h17 => ?_) (fun h17 => ?_)
  · refine zx_aload_n (k := 0) (nn := 143) dX11_judge_142 rfl rfl rfl ?_
    refine zx_aload_n (k := 0) (nn := 144) dX11_judge_143 rfl rfl rfl ?_
    refine zx_getR (q := 7) (nn := 147) flX11_28 rfl rfl dX11_judge_144 rfl ?_
    refine zx_callV (nn := 150) (k := 0) (d' := 0) (as := [zr 7]) (rest := []) (n := 1) (eX11_putsBack_7 σ μ1) kX11_putsBack mlX11_296 rfl rfl rfl (by decide) rfl rfl (Nat.le_of_ble_eq_true rfl) dX11_judge_147 rfl ?_
    rintro _ ν2 ⟨rfl, q2⟩
    show zX shR σ 7 MX11_judge 150 [(0, zr 0), (1, zi wr), (2, zi (nI k))] [] ν2 _
    refine zx_iload_n (k := 1) (nn := 151) dX11_judge_150 rfl rfl rfl ?_
    refine zx_iret rfl dX11_judge_151 ?_
    have hge := nI_le_le h17 (by omega)
    refine ⟨congrArg (fun x => some (zi x)) ?_, zJ_drop (k := 1) (hj.tr (q2.1.mono (by simp))) (q2.2.trans (rPb_eq hsv hq)) (by decide)⟩
    rcases hv with ⟨v1, v2⟩ | ⟨v1, v2⟩
    · rw [v2, show c - k = 0 by omega, v1]; rfl
    · exact v2
  · have hlt : k < c := nI_nle_lt h17 (by omega)
    refine zx_iload_n (k := 1) (nn := 21) dX11_judge_20 rfl rfl rfl ?_
    refine zx_if_ne (tgt := 142) (nn := 24) dX11_judge_21 (by decide) rfl (fun h21 => ?_) (fun h21 => ?_)
    · refine zx_aload_n (k := 0) (nn := 143) dX11_judge_142 rfl rfl rfl ?_
      refine zx_aload_n (k := 0) (nn := 144) dX11_judge_143 rfl rfl rfl ?_
      refine zx_getR (q := 7) (nn := 147) flX11_28 rfl rfl dX11_judge_144 rfl ?_
      refine zx_callV (nn := 150) (k := 0) (d' := 0) (as := [zr 7]) (rest := []) (n := 1) (eX11_putsBack_7 σ μ1) kX11_putsBack mlX11_296 rfl rfl rfl (by decide) rfl rfl (Nat.le_of_ble_eq_true rfl) dX11_judge_147 rfl ?_
      rintro _ ν3 ⟨rfl, q3⟩
      show zX shR σ 7 MX11_judge 150 [(0, zr 0), (1, zi wr), (2, zi (nI k))] [] ν3 _
      refine zx_iload_n (k := 1) (nn := 151) dX11_judge_150 rfl rfl rfl ?_
      refine zx_iret rfl dX11_judge_151 ?_
      refine ⟨congrArg (fun x => some (zi x)) ?_, zJ_drop (k := 1) (hj.tr (q3.1.mono (by simp))) (q3.2.trans (rPb_eq hsv hq)) (by decide)⟩
      rcases hv with ⟨v1, v2⟩ | ⟨v1, v2⟩
      · exact absurd v1 h21
      · exact v2
    · have hJ := hv.elim (fun q => q.2) (fun q => absurd h21 q.1)
      refine zx_aload_n (k := 0) (nn := 25) dX11_judge_24 rfl rfl rfl ?_
      refine zx_aload_n (k := 0) (nn := 26) dX11_judge_25 rfl rfl rfl ?_
      refine zx_getR (q := 17) (nn := 29) flX11_45 rfl rfl dX11_judge_26 rfl ?_
      refine zx_iconst (v := 3) (nn := 30) rfl dX11_judge_29 rfl ?_
      refine zx_iload_n (k := 2) (nn := 31) dX11_judge_30 rfl rfl rfl ?_
      refine zx_imul (nn := 32) dX11_judge_31 rfl ?_
      rw [show 3 * (nI k) = nI (3 * k) from by simp only [show (2 : Int32) = nI 2 from rfl, show (3 : Int32) = nI 3 from rfl, show (1 : Int32) = nI 1 from rfl, show (4 : Int32) = nI 4 from rfl, show (5 : Int32) = nI 5 from rfl, show (7 : Int32) = nI 7 from rfl, show (31 : Int32) = nI 31 from rfl, show (47 : Int32) = nI 47 from rfl, show (71 : Int32) = nI 71 from rfl, show (111 : Int32) = nI 111 from rfl, nI_mulN, nI_add]]
      show zX shR σ 7 MX11_judge 32 [(0, zr 0), (1, zi wr), (2, zi (nI k))] [zi (nI (3 * k)), zr 17, zr 0] μ1 _
      refine zx_iald_n (j := 3 * k) (nn := 33) rfl (by omega) (by decide) dX11_judge_32 rfl ?_
      rw [show μ1 17 (3 * k) = μ 17 (3 * k) from by rw [e17]]
      show zX shR σ 7 MX11_judge 33 [(0, zr 0), (1, zi wr), (2, zi (nI k))] [zi (μ 17 (3 * k)), zr 0] μ1 _
      refine zx_i2l (nn := 34) dX11_judge_33 rfl ?_
      refine zx_callVf (nn := 37) (k := 0) (d' := 1) (as := [zj ((μ 17 (3 * k)).toInt64)]) (rest := []) (n := 1) (eX11_isAct_0 σ μ1 ((μ 17 (3 * k)).toInt64)  okm) kX11_isAct mlX11_367 rfl rfl rfl (by decide) rfl rfl (Nat.le_of_ble_eq_true rfl) dX11_judge_34 rfl ?_
      show zX shR σ 7 MX11_judge 37 [(0, zr 0), (1, zi wr), (2, zi (nI k))] [zi (zb (decide (0 ≤ ((μ 17 (3 * k)).toInt64)) && decide (((μ 17 (3 * k)).toInt64) ≤ (nI (pL (rS 1 μ1))).toInt64)))] μ1 _
      rw [show zb (decide (0 ≤ ((μ 17 (3 * k)).toInt64)) && decide (((μ 17 (3 * k)).toInt64) ≤ (nI (pL (rS 1 μ1))).toInt64)) = zb (decide (μ 17 (3 * k) = 0) || pHas (rS 1 μ1 0) (μ 17 (3 * k) - 1)) from (congrArg zb (act_r (x := μ 17 (3 * k)) (ok_L okm).2)).trans (by rw [← hL0])]
      show zX shR σ 7 MX11_judge 37 [(0, zr 0), (1, zi wr), (2, zi (nI k))] [zi (zb (decide (μ 17 (3 * k) = 0) || pHas (rS 1 μ1 0) (μ 17 (3 * k) - 1)))] μ1 _
      refine zx_ifb_eq (tgt := 51) (nn := 40) dX11_judge_37 (by decide) rfl (fun h37 => ?_) (fun h37 => ?_)
      · refine zx_iconst (v := 0) (nn := 52) rfl dX11_judge_51 rfl ?_
        refine zx_istore_n (nn := 53) (lv' := [(3, zi 0), (0, zr 0), (1, zi wr), (2, zi (nI k))]) dX11_judge_52 rfl (by decide) rfl rfl ?_
        refine zx_iload_n (k := 0) (nn := 54) dX11_judge_53 rfl rfl rfl ?_
        refine zx_if_eq (tgt := 124) (nn := 57) dX11_judge_54 (by decide) rfl (fun h54 => ?_) (fun h54 => ?_)
        · refine zx_iload_n (k := 0) (nn := 125) dX11_judge_124 rfl rfl rfl ?_
          refine zx_if_eq (tgt := 132) (nn := 128) dX11_judge_125 (by decide) rfl (fun h125 => ?_) (fun h125 => ?_)
          · refine zx_iload_n (k := 3) (nn := 133) dX11_judge_132 rfl rfl rfl ?_
            refine zx_iconst (v := 1) (nn := 134) rfl dX11_judge_133 rfl ?_
            refine zx_iadd (nn := 135) dX11_judge_134 rfl ?_
            rw [show (nI k) + 1 = nI (k + 1) from nI_1 k]
            show zX shR σ 7 MX11_judge 135 [(3, zi 0), (0, zr 0), (1, zi wr), (2, zi (nI k))] [zi (nI (k + 1))] μ1 _
            refine zx_istore_n (nn := 136) (lv' := [(1, zi (nI (k + 1))), (3, zi 0), (0, zr 0), (2, zi (nI k))]) dX11_judge_135 rfl (by decide) rfl rfl ?_
            refine zx_iinc (k := 3) (v := nI (k + 1)) (lv' := [(2, zi (nI (k + 1))), (1, zi (nI (k + 1))), (3, zi 0), (0, zr 0)]) (nn := 139) dX11_judge_136 rfl (nI_1 k) (by decide) rfl rfl ?_
            refine zx_goto (tgt := 12) dX11_judge_139 (by decide) ?_
            refine zx_lv (lv' := [(0, zr 0), (1, zi (nI (k + 1))), (2, zi (nI (k + 1)))]) [3, 1, 0] rfl ?_
            exact ih12 (k + 1, nI (k + 1), μ1) (show (k + 1) ≤ c ∧ pOK (rS 1 μ1) ∧ pAB (rS 1 μ1) ∧ rQ μ μ1 ∧ zJ [1, 4, 6, 7] μ μ1 ∧ rSav (μ 1) (μ1 7) ∧ (((nI (k + 1)) = 0 ∧ pJd ρ (fun k_ w_ => μ 17 (3 * k_ + w_)) c 0 (rS 1 μ) = pJd ρ (fun k_ w_ => μ 17 (3 * k_ + w_)) (c - (k + 1)) (k + 1) (rS 1 μ1)) ∨ (¬ (nI (k + 1)) = 0 ∧ (nI (k + 1)) = pJd ρ (fun k_ w_ => μ 17 (3 * k_ + w_)) c 0 (rS 1 μ))) from ⟨by omega, okm, abm, hq, hj, hsv, Or.inr ⟨nI_ne0 (by omega) (by omega), Eq.symm (by rw [hJ, show c - k = (c - (k + 1)) + 1 by omega]; show (if (pOver (rS 1 μ1) || !(decide (μ 17 (3 * k) = 0) || pHas (rS 1 μ1 0) (μ 17 (3 * k) - 1))) = true then _ else if μ 17 (3 * k + 1) = pGain ρ (rS 1 μ1) (μ 17 (3 * k) - 1) ∧ μ 17 (3 * k + 2) = pSetOf (pGo ρ (rS 1 μ1) (μ 17 (3 * k) - 1)) 2 (rS 1 μ1 (31 + pb (rS 1 μ1))) then _ else _) = _; rw [if_pos (by rw [h37]; simp)])⟩⟩) (by show c - (k + 1) < c - k; omega)
          · exact absurd h125 (by decide)
        · exact absurd h54 (by decide)
      · refine zx_aload_n (k := 0) (nn := 41) dX11_judge_40 rfl rfl rfl ?_
        refine zx_callVf (nn := 44) (k := 0) (d' := 0) (as := []) (rest := []) (n := 0) (eX11_isOver_0 σ μ1   ) kX11_isOver mlX11_96 rfl rfl rfl (by decide) rfl rfl (Nat.le_of_ble_eq_true rfl) dX11_judge_41 rfl ?_
        show zX shR σ 7 MX11_judge 44 [(0, zr 0), (1, zi wr), (2, zi (nI k))] [zi (zb (pOver (rS 1 μ1)))] μ1 _
        refine zx_ifb_ne (tgt := 51) (nn := 47) dX11_judge_44 (by decide) rfl (fun h44 => ?_) (fun h44 => ?_)
        · refine zx_iconst (v := 0) (nn := 52) rfl dX11_judge_51 rfl ?_
          refine zx_istore_n (nn := 53) (lv' := [(3, zi 0), (0, zr 0), (1, zi wr), (2, zi (nI k))]) dX11_judge_52 rfl (by decide) rfl rfl ?_
          refine zx_iload_n (k := 0) (nn := 54) dX11_judge_53 rfl rfl rfl ?_
          refine zx_if_eq (tgt := 124) (nn := 57) dX11_judge_54 (by decide) rfl (fun h54 => ?_) (fun h54 => ?_)
          · refine zx_iload_n (k := 0) (nn := 125) dX11_judge_124 rfl rfl rfl ?_
            refine zx_if_eq (tgt := 132) (nn := 128) dX11_judge_125 (by decide) rfl (fun h125 => ?_) (fun h125 => ?_)
            · refine zx_iload_n (k := 3) (nn := 133) dX11_judge_132 rfl rfl rfl ?_
              refine zx_iconst (v := 1) (nn := 134) rfl dX11_judge_133 rfl ?_
              refine zx_iadd (nn := 135) dX11_judge_134 rfl ?_
              rw [show (nI k) + 1 = nI (k + 1) from nI_1 k]
              show zX shR σ 7 MX11_judge 135 [(3, zi 0), (0, zr 0), (1, zi wr), (2, zi (nI k))] [zi (nI (k + 1))] μ1 _
              refine zx_istore_n (nn := 136) (lv' := [(1, zi (nI (k + 1))), (3, zi 0), (0, zr 0), (2, zi (nI k))]) dX11_judge_135 rfl (by decide) rfl rfl ?_
              refine zx_iinc (k := 3) (v := nI (k + 1)) (lv' := [(2, zi (nI (k + 1))), (1, zi (nI (k + 1))), (3, zi 0), (0, zr 0)]) (nn := 139) dX11_judge_136 rfl (nI_1 k) (by decide) rfl rfl ?_
              refine zx_goto (tgt := 12) dX11_judge_139 (by decide) ?_
              refine zx_lv (lv' := [(0, zr 0), (1, zi (nI (k + 1))), (2, zi (nI (k + 1)))]) [3, 1, 0] rfl ?_
              exact ih12 (k + 1, nI (k + 1), μ1) (show (k + 1) ≤ c ∧ pOK (rS 1 μ1) ∧ pAB (rS 1 μ1) ∧ rQ μ μ1 ∧ zJ [1, 4, 6, 7] μ μ1 ∧ rSav (μ 1) (μ1 7) ∧ (((nI (k + 1)) = 0 ∧ pJd ρ (fun k_ w_ => μ 17 (3 * k_ + w_)) c 0 (rS 1 μ) = pJd ρ (fun k_ w_ => μ 17 (3 * k_ + w_)) (c - (k + 1)) (k + 1) (rS 1 μ1)) ∨ (¬ (nI (k + 1)) = 0 ∧ (nI (k + 1)) = pJd ρ (fun k_ w_ => μ 17 (3 * k_ + w_)) c 0 (rS 1 μ))) from ⟨by omega, okm, abm, hq, hj, hsv, Or.inr ⟨nI_ne0 (by omega) (by omega), Eq.symm (by rw [hJ, show c - k = (c - (k + 1)) + 1 by omega]; show (if (pOver (rS 1 μ1) || !(decide (μ 17 (3 * k) = 0) || pHas (rS 1 μ1 0) (μ 17 (3 * k) - 1))) = true then _ else if μ 17 (3 * k + 1) = pGain ρ (rS 1 μ1) (μ 17 (3 * k) - 1) ∧ μ 17 (3 * k + 2) = pSetOf (pGo ρ (rS 1 μ1) (μ 17 (3 * k) - 1)) 2 (rS 1 μ1 (31 + pb (rS 1 μ1))) then _ else _) = _; rw [if_pos (by rw [h44]; rfl)])⟩⟩) (by show c - (k + 1) < c - k; omega)
            · exact absurd h125 (by decide)
          · exact absurd h54 (by decide)
        · refine zx_iconst (v := 1) (nn := 48) rfl dX11_judge_47 rfl ?_
          refine zx_goto (tgt := 52) dX11_judge_48 (by decide) ?_
          refine zx_istore_n (nn := 53) (lv' := [(3, zi 1), (0, zr 0), (1, zi wr), (2, zi (nI k))]) dX11_judge_52 rfl (by decide) rfl rfl ?_
          refine zx_iload_n (k := 0) (nn := 54) dX11_judge_53 rfl rfl rfl ?_
          refine zx_if_eq (tgt := 124) (nn := 57) dX11_judge_54 (by decide) rfl (fun h54 => ?_) (fun h54 => ?_)
          · exact absurd h54 (by decide)
          · have hbm : pb (rS 1 μ1) < pB (rS 1 μ1) := pOver_b okm h44
            refine zx_aload_n (k := 1) (nn := 58) dX11_judge_57 rfl rfl rfl ?_
            refine zx_getR (q := 1) (nn := 61) flX11_9 rfl rfl dX11_judge_58 rfl ?_
            refine zx_bipush (v := 31) (nn := 63) rfl dX11_judge_61 rfl ?_
            refine zx_aload_n (k := 1) (nn := 64) dX11_judge_63 rfl rfl rfl ?_
            refine zx_getR (q := 1) (nn := 67) flX11_9 rfl rfl dX11_judge_64 rfl ?_
            refine zx_iconst (v := 2) (nn := 68) rfl dX11_judge_67 rfl ?_
            refine zx_iald_n (j := 2) (nn := 69) rfl (by omega) (by decide) dX11_judge_68 rfl ?_
            rw [show μ1 1 2 = nI (pb (rS 1 μ1)) from ebm]
            show zX shR σ 7 MX11_judge 69 [(3, zi 1), (0, zr 0), (1, zi wr), (2, zi (nI k))] [zi (nI (pb (rS 1 μ1))), zi 31, zr 1] μ1 _
            refine zx_iadd (nn := 70) dX11_judge_69 rfl ?_
            rw [show 31 + (nI (pb (rS 1 μ1))) = nI (31 + pb (rS 1 μ1)) from by simp only [show (2 : Int32) = nI 2 from rfl, show (3 : Int32) = nI 3 from rfl, show (1 : Int32) = nI 1 from rfl, show (4 : Int32) = nI 4 from rfl, show (5 : Int32) = nI 5 from rfl, show (7 : Int32) = nI 7 from rfl, show (31 : Int32) = nI 31 from rfl, show (47 : Int32) = nI 47 from rfl, show (71 : Int32) = nI 71 from rfl, show (111 : Int32) = nI 111 from rfl, nI_mulN, nI_add]]
            show zX shR σ 7 MX11_judge 70 [(3, zi 1), (0, zr 0), (1, zi wr), (2, zi (nI k))] [zi (nI (31 + pb (rS 1 μ1))), zr 1] μ1 _
            refine zx_iald_n (j := 31 + pb (rS 1 μ1)) (nn := 71) rfl (by omega) (by decide) dX11_judge_70 rfl ?_
            rw [show μ1 1 (31 + pb (rS 1 μ1)) = rS 1 μ1 (31 + pb (rS 1 μ1)) from (rS_i (by omega) (by omega) (by omega)).symm]
            show zX shR σ 7 MX11_judge 71 [(3, zi 1), (0, zr 0), (1, zi wr), (2, zi (nI k))] [zi (rS 1 μ1 (31 + pb (rS 1 μ1)))] μ1 _
            refine zx_istore (nn := 73) (lv' := [(4, zi (rS 1 μ1 (31 + pb (rS 1 μ1)))), (3, zi 1), (0, zr 0), (1, zi wr), (2, zi (nI k))]) dX11_judge_71 (by decide) rfl rfl ?_
            refine zx_aload_n (k := 2) (nn := 74) dX11_judge_73 rfl rfl rfl ?_
            refine zx_aload_n (k := 2) (nn := 75) dX11_judge_74 rfl rfl rfl ?_
            refine zx_getR (q := 17) (nn := 78) flX11_45 rfl rfl dX11_judge_75 rfl ?_
            refine zx_iconst (v := 3) (nn := 79) rfl dX11_judge_78 rfl ?_
            refine zx_iload_n (k := 4) (nn := 80) dX11_judge_79 rfl rfl rfl ?_
            refine zx_imul (nn := 81) dX11_judge_80 rfl ?_
            rw [show 3 * (nI k) = nI (3 * k) from by simp only [show (2 : Int32) = nI 2 from rfl, show (3 : Int32) = nI 3 from rfl, show (1 : Int32) = nI 1 from rfl, show (4 : Int32) = nI 4 from rfl, show (5 : Int32) = nI 5 from rfl, show (7 : Int32) = nI 7 from rfl, show (31 : Int32) = nI 31 from rfl, show (47 : Int32) = nI 47 from rfl, show (71 : Int32) = nI 71 from rfl, show (111 : Int32) = nI 111 from rfl, nI_mulN, nI_add]]
            show zX shR σ 7 MX11_judge 81 [(4, zi (rS 1 μ1 (31 + pb (rS 1 μ1)))), (3, zi 1), (0, zr 0), (1, zi wr), (2, zi (nI k))] [zi (nI (3 * k)), zr 17, zr 0] μ1 _
            refine zx_iald_n (j := 3 * k) (nn := 82) rfl (by omega) (by decide) dX11_judge_81 rfl ?_
            rw [show μ1 17 (3 * k) = μ 17 (3 * k) from by rw [e17]]
            show zX shR σ 7 MX11_judge 82 [(4, zi (rS 1 μ1 (31 + pb (rS 1 μ1)))), (3, zi 1), (0, zr 0), (1, zi wr), (2, zi (nI k))] [zi (μ 17 (3 * k)), zr 0] μ1 _
            refine zx_callV (nn := 85) (k := 0) (d' := 6) (as := [zi (μ 17 (3 * k))]) (rest := []) (n := 1) (eX11_goes_0 σ μ1 (μ 17 (3 * k)) okm abm hρm hbm) kX11_goes mlX11_284 rfl rfl rfl (by decide) rfl rfl (Nat.le_of_ble_eq_true rfl) dX11_judge_82 rfl ?_
            rintro _ ν4 ⟨rfl, g1, g2, g3⟩
            show zX shR σ 7 MX11_judge 85 [(4, zi (rS 1 μ1 (31 + pb (rS 1 μ1)))), (3, zi 1), (0, zr 0), (1, zi wr), (2, zi (nI k))] [zi (pGain ρ (rS 1 μ1) (μ 17 (3 * k) - 1))] ν4 _
            have okg : pOK (rS 1 ν4) := by rw [g1]; exact pOK_go okm hbm
            have abg : pAB (rS 1 ν4) := by rw [g1]; exact pAB_go okm abm
            have hqg : rQ μ ν4 := rQ_tr hq g2
            have hjg : zJ [1, 4, 6, 7] μ ν4 := hj.tr (g3.mono (by simp))
            have hsvg : rSav (μ 1) (ν4 7) := by rw [g3 7 (by decide)]; exact hsv
            have e17g : ν4 17 = μ 17 := hjg 17 (by decide)
            refine zx_aload_n (k := 2) (nn := 86) dX11_judge_85 rfl rfl rfl ?_
            refine zx_getR (q := 17) (nn := 89) flX11_45 rfl rfl dX11_judge_86 rfl ?_
            refine zx_iconst (v := 3) (nn := 90) rfl dX11_judge_89 rfl ?_
            refine zx_iload_n (k := 4) (nn := 91) dX11_judge_90 rfl rfl rfl ?_
            refine zx_imul (nn := 92) dX11_judge_91 rfl ?_
            refine zx_iconst (v := 1) (nn := 93) rfl dX11_judge_92 rfl ?_
            refine zx_iadd (nn := 94) dX11_judge_93 rfl ?_
            rw [show (3 * (nI k)) + 1 = nI (3 * k + 1) from by simp only [show (2 : Int32) = nI 2 from rfl, show (3 : Int32) = nI 3 from rfl, show (1 : Int32) = nI 1 from rfl, show (4 : Int32) = nI 4 from rfl, show (5 : Int32) = nI 5 from rfl, show (7 : Int32) = nI 7 from rfl, show (31 : Int32) = nI 31 from rfl, show (47 : Int32) = nI 47 from rfl, show (71 : Int32) = nI 71 from rfl, show (111 : Int32) = nI 111 from rfl, nI_mulN, nI_add]]
            show zX shR σ 7 MX11_judge 94 [(4, zi (rS 1 μ1 (31 + pb (rS 1 μ1)))), (3, zi 1), (0, zr 0), (1, zi wr), (2, zi (nI k))] [zi (nI (3 * k + 1)), zr 17, zi (pGain ρ (rS 1 μ1) (μ 17 (3 * k) - 1))] ν4 _
            refine zx_iald_n (j := 3 * k + 1) (nn := 95) rfl (by omega) (by decide) dX11_judge_94 rfl ?_
            rw [show ν4 17 (3 * k + 1) = μ 17 (3 * k + 1) from by rw [e17g]]
            show zX shR σ 7 MX11_judge 95 [(4, zi (rS 1 μ1 (31 + pb (rS 1 μ1)))), (3, zi 1), (0, zr 0), (1, zi wr), (2, zi (nI k))] [zi (μ 17 (3 * k + 1)), zi (pGain ρ (rS 1 μ1) (μ 17 (3 * k) - 1))] ν4 _
            refine zx_icmp_ne (tgt := 122) (nn := 98) dX11_judge_95 (by decide) rfl (fun h95 => ?_) (fun h95 => ?_)
            · refine zx_iconst (v := 0) (nn := 123) rfl dX11_judge_122 rfl ?_
              refine zx_istore_n (nn := 124) (lv' := [(3, zi 0), (4, zi (rS 1 μ1 (31 + pb (rS 1 μ1)))), (0, zr 0), (1, zi wr), (2, zi (nI k))]) dX11_judge_123 rfl (by decide) rfl rfl ?_
              refine zx_iload_n (k := 0) (nn := 125) dX11_judge_124 rfl rfl rfl ?_
              refine zx_if_eq (tgt := 132) (nn := 128) dX11_judge_125 (by decide) rfl (fun h125 => ?_) (fun h125 => ?_)
              · refine zx_iload_n (k := 4) (nn := 133) dX11_judge_132 rfl rfl rfl ?_
                refine zx_iconst (v := 1) (nn := 134) rfl dX11_judge_133 rfl ?_
                refine zx_iadd (nn := 135) dX11_judge_134 rfl ?_
                rw [show (nI k) + 1 = nI (k + 1) from nI_1 k]
                show zX shR σ 7 MX11_judge 135 [(3, zi 0), (4, zi (rS 1 μ1 (31 + pb (rS 1 μ1)))), (0, zr 0), (1, zi wr), (2, zi (nI k))] [zi (nI (k + 1))] ν4 _
                refine zx_istore_n (nn := 136) (lv' := [(1, zi (nI (k + 1))), (3, zi 0), (4, zi (rS 1 μ1 (31 + pb (rS 1 μ1)))), (0, zr 0), (2, zi (nI k))]) dX11_judge_135 rfl (by decide) rfl rfl ?_
                refine zx_iinc (k := 4) (v := nI (k + 1)) (lv' := [(2, zi (nI (k + 1))), (1, zi (nI (k + 1))), (3, zi 0), (4, zi (rS 1 μ1 (31 + pb (rS 1 μ1)))), (0, zr 0)]) (nn := 139) dX11_judge_136 rfl (nI_1 k) (by decide) rfl rfl ?_
                refine zx_goto (tgt := 12) dX11_judge_139 (by decide) ?_
                refine zx_lv (lv' := [(0, zr 0), (1, zi (nI (k + 1))), (2, zi (nI (k + 1)))]) [4, 1, 0] rfl ?_
                exact ih12 (k + 1, nI (k + 1), ν4) (show (k + 1) ≤ c ∧ pOK (rS 1 ν4) ∧ pAB (rS 1 ν4) ∧ rQ μ ν4 ∧ zJ [1, 4, 6, 7] μ ν4 ∧ rSav (μ 1) (ν4 7) ∧ (((nI (k + 1)) = 0 ∧ pJd ρ (fun k_ w_ => μ 17 (3 * k_ + w_)) c 0 (rS 1 μ) = pJd ρ (fun k_ w_ => μ 17 (3 * k_ + w_)) (c - (k + 1)) (k + 1) (rS 1 ν4)) ∨ (¬ (nI (k + 1)) = 0 ∧ (nI (k + 1)) = pJd ρ (fun k_ w_ => μ 17 (3 * k_ + w_)) c 0 (rS 1 μ))) from ⟨by omega, okg, abg, hqg, hjg, hsvg, Or.inr ⟨nI_ne0 (by omega) (by omega), Eq.symm (by rw [hJ, show c - k = (c - (k + 1)) + 1 by omega]; show (if (pOver (rS 1 μ1) || !(decide (μ 17 (3 * k) = 0) || pHas (rS 1 μ1 0) (μ 17 (3 * k) - 1))) = true then _ else if μ 17 (3 * k + 1) = pGain ρ (rS 1 μ1) (μ 17 (3 * k) - 1) ∧ μ 17 (3 * k + 2) = pSetOf (pGo ρ (rS 1 μ1) (μ 17 (3 * k) - 1)) 2 (rS 1 μ1 (31 + pb (rS 1 μ1))) then _ else _) = _; rw [if_neg (by rw [h44, h37]; decide)]; rw [if_neg (fun q => h95 q.1.symm)])⟩⟩) (by show c - (k + 1) < c - k; omega)
              · exact absurd h125 (by decide)
            · refine zx_aload_n (k := 2) (nn := 99) dX11_judge_98 rfl rfl rfl ?_
              refine zx_iconst (v := 2) (nn := 100) rfl dX11_judge_99 rfl ?_
              refine zx_iload (k := 0) (nn := 102) dX11_judge_100 rfl rfl ?_
              refine zx_callVf (nn := 105) (k := 0) (d' := 3) (as := [zi 2, zi (rS 1 μ1 (31 + pb (rS 1 μ1)))]) (rest := []) (n := 2) (eX11_setOf_0 σ ν4 2 (rS 1 μ1 (31 + pb (rS 1 μ1)))  okg abg (abm.2 _ hbm)) kX11_setOf mlX11_289 rfl rfl rfl (by decide) rfl rfl (Nat.le_of_ble_eq_true rfl) dX11_judge_102 rfl ?_
              show zX shR σ 7 MX11_judge 105 [(4, zi (rS 1 μ1 (31 + pb (rS 1 μ1)))), (3, zi 1), (0, zr 0), (1, zi wr), (2, zi (nI k))] [zi (pSetOf (rS 1 ν4) 2 (rS 1 μ1 (31 + pb (rS 1 μ1))))] ν4 _
              rw [show pSetOf (rS 1 ν4) 2 (rS 1 μ1 (31 + pb (rS 1 μ1))) = pSetOf (pGo ρ (rS 1 μ1) (μ 17 (3 * k) - 1)) 2 (rS 1 μ1 (31 + pb (rS 1 μ1))) from by rw [g1]]
              show zX shR σ 7 MX11_judge 105 [(4, zi (rS 1 μ1 (31 + pb (rS 1 μ1)))), (3, zi 1), (0, zr 0), (1, zi wr), (2, zi (nI k))] [zi (pSetOf (pGo ρ (rS 1 μ1) (μ 17 (3 * k) - 1)) 2 (rS 1 μ1 (31 + pb (rS 1 μ1))))] ν4 _
              refine zx_aload_n (k := 2) (nn := 106) dX11_judge_105 rfl rfl rfl ?_
              refine zx_getR (q := 17) (nn := 109) flX11_45 rfl rfl dX11_judge_106 rfl ?_
              refine zx_iconst (v := 3) (nn := 110) rfl dX11_judge_109 rfl ?_
              refine zx_iload_n (k := 4) (nn := 111) dX11_judge_110 rfl rfl rfl ?_
              refine zx_imul (nn := 112) dX11_judge_111 rfl ?_
              refine zx_iconst (v := 2) (nn := 113) rfl dX11_judge_112 rfl ?_
              refine zx_iadd (nn := 114) dX11_judge_113 rfl ?_
              rw [show (3 * (nI k)) + 2 = nI (3 * k + 2) from by simp only [show (2 : Int32) = nI 2 from rfl, show (3 : Int32) = nI 3 from rfl, show (1 : Int32) = nI 1 from rfl, show (4 : Int32) = nI 4 from rfl, show (5 : Int32) = nI 5 from rfl, show (7 : Int32) = nI 7 from rfl, show (31 : Int32) = nI 31 from rfl, show (47 : Int32) = nI 47 from rfl, show (71 : Int32) = nI 71 from rfl, show (111 : Int32) = nI 111 from rfl, nI_mulN, nI_add]]
              show zX shR σ 7 MX11_judge 114 [(4, zi (rS 1 μ1 (31 + pb (rS 1 μ1)))), (3, zi 1), (0, zr 0), (1, zi wr), (2, zi (nI k))] [zi (nI (3 * k + 2)), zr 17, zi (pSetOf (pGo ρ (rS 1 μ1) (μ 17 (3 * k) - 1)) 2 (rS 1 μ1 (31 + pb (rS 1 μ1))))] ν4 _
              refine zx_iald_n (j := 3 * k + 2) (nn := 115) rfl (by omega) (by decide) dX11_judge_114 rfl ?_
              rw [show ν4 17 (3 * k + 2) = μ 17 (3 * k + 2) from by rw [e17g]]
              show zX shR σ 7 MX11_judge 115 [(4, zi (rS 1 μ1 (31 + pb (rS 1 μ1)))), (3, zi 1), (0, zr 0), (1, zi wr), (2, zi (nI k))] [zi (μ 17 (3 * k + 2)), zi (pSetOf (pGo ρ (rS 1 μ1) (μ 17 (3 * k) - 1)) 2 (rS 1 μ1 (31 + pb (rS 1 μ1))))] ν4 _
              refine zx_icmp_ne (tgt := 122) (nn := 118) dX11_judge_115 (by decide) rfl (fun h115 => ?_) (fun h115 => ?_)
              · refine zx_iconst (v := 0) (nn := 123) rfl dX11_judge_122 rfl ?_
                refine zx_istore_n (nn := 124) (lv' := [(3, zi 0), (4, zi (rS 1 μ1 (31 + pb (rS 1 μ1)))), (0, zr 0), (1, zi wr), (2, zi (nI k))]) dX11_judge_123 rfl (by decide) rfl rfl ?_
                refine zx_iload_n (k := 0) (nn := 125) dX11_judge_124 rfl rfl rfl ?_
                refine zx_if_eq (tgt := 132) (nn := 128) dX11_judge_125 (by decide) rfl (fun h125 => ?_) (fun h125 => ?_)
                · refine zx_iload_n (k := 4) (nn := 133) dX11_judge_132 rfl rfl rfl ?_
                  refine zx_iconst (v := 1) (nn := 134) rfl dX11_judge_133 rfl ?_
                  refine zx_iadd (nn := 135) dX11_judge_134 rfl ?_
                  rw [show (nI k) + 1 = nI (k + 1) from nI_1 k]
                  show zX shR σ 7 MX11_judge 135 [(3, zi 0), (4, zi (rS 1 μ1 (31 + pb (rS 1 μ1)))), (0, zr 0), (1, zi wr), (2, zi (nI k))] [zi (nI (k + 1))] ν4 _
                  refine zx_istore_n (nn := 136) (lv' := [(1, zi (nI (k + 1))), (3, zi 0), (4, zi (rS 1 μ1 (31 + pb (rS 1 μ1)))), (0, zr 0), (2, zi (nI k))]) dX11_judge_135 rfl (by decide) rfl rfl ?_
                  refine zx_iinc (k := 4) (v := nI (k + 1)) (lv' := [(2, zi (nI (k + 1))), (1, zi (nI (k + 1))), (3, zi 0), (4, zi (rS 1 μ1 (31 + pb (rS 1 μ1)))), (0, zr 0)]) (nn := 139) dX11_judge_136 rfl (nI_1 k) (by decide) rfl rfl ?_
                  refine zx_goto (tgt := 12) dX11_judge_139 (by decide) ?_
                  refine zx_lv (lv' := [(0, zr 0), (1, zi (nI (k + 1))), (2, zi (nI (k + 1)))]) [4, 1, 0] rfl ?_
                  exact ih12 (k + 1, nI (k + 1), ν4) (show (k + 1) ≤ c ∧ pOK (rS 1 ν4) ∧ pAB (rS 1 ν4) ∧ rQ μ ν4 ∧ zJ [1, 4, 6, 7] μ ν4 ∧ rSav (μ 1) (ν4 7) ∧ (((nI (k + 1)) = 0 ∧ pJd ρ (fun k_ w_ => μ 17 (3 * k_ + w_)) c 0 (rS 1 μ) = pJd ρ (fun k_ w_ => μ 17 (3 * k_ + w_)) (c - (k + 1)) (k + 1) (rS 1 ν4)) ∨ (¬ (nI (k + 1)) = 0 ∧ (nI (k + 1)) = pJd ρ (fun k_ w_ => μ 17 (3 * k_ + w_)) c 0 (rS 1 μ))) from ⟨by omega, okg, abg, hqg, hjg, hsvg, Or.inr ⟨nI_ne0 (by omega) (by omega), Eq.symm (by rw [hJ, show c - k = (c - (k + 1)) + 1 by omega]; show (if (pOver (rS 1 μ1) || !(decide (μ 17 (3 * k) = 0) || pHas (rS 1 μ1 0) (μ 17 (3 * k) - 1))) = true then _ else if μ 17 (3 * k + 1) = pGain ρ (rS 1 μ1) (μ 17 (3 * k) - 1) ∧ μ 17 (3 * k + 2) = pSetOf (pGo ρ (rS 1 μ1) (μ 17 (3 * k) - 1)) 2 (rS 1 μ1 (31 + pb (rS 1 μ1))) then _ else _) = _; rw [if_neg (by rw [h44, h37]; decide)]; rw [if_neg (fun q => h115 q.2.symm)])⟩⟩) (by show c - (k + 1) < c - k; omega)
                · exact absurd h125 (by decide)
              · refine zx_iconst (v := 1) (nn := 119) rfl dX11_judge_118 rfl ?_
                refine zx_goto (tgt := 123) dX11_judge_119 (by decide) ?_
                refine zx_istore_n (nn := 124) (lv' := [(3, zi 1), (4, zi (rS 1 μ1 (31 + pb (rS 1 μ1)))), (0, zr 0), (1, zi wr), (2, zi (nI k))]) dX11_judge_123 rfl (by decide) rfl rfl ?_
                refine zx_iload_n (k := 0) (nn := 125) dX11_judge_124 rfl rfl rfl ?_
                refine zx_if_eq (tgt := 132) (nn := 128) dX11_judge_125 (by decide) rfl (fun h125 => ?_) (fun h125 => ?_)
                · exact absurd h125 (by decide)
                · refine zx_iconst (v := 0) (nn := 129) rfl dX11_judge_128 rfl ?_
                  refine zx_goto (tgt := 135) dX11_judge_129 (by decide) ?_
                  refine zx_istore_n (nn := 136) (lv' := [(1, zi 0), (3, zi 1), (4, zi (rS 1 μ1 (31 + pb (rS 1 μ1)))), (0, zr 0), (2, zi (nI k))]) dX11_judge_135 rfl (by decide) rfl rfl ?_
                  refine zx_iinc (k := 4) (v := nI (k + 1)) (lv' := [(2, zi (nI (k + 1))), (1, zi 0), (3, zi 1), (4, zi (rS 1 μ1 (31 + pb (rS 1 μ1)))), (0, zr 0)]) (nn := 139) dX11_judge_136 rfl (nI_1 k) (by decide) rfl rfl ?_
                  refine zx_goto (tgt := 12) dX11_judge_139 (by decide) ?_
                  refine zx_lv (lv' := [(0, zr 0), (1, zi 0), (2, zi (nI (k + 1)))]) [4, 1, 0] rfl ?_
                  exact ih12 (k + 1, 0, ν4) (show (k + 1) ≤ c ∧ pOK (rS 1 ν4) ∧ pAB (rS 1 ν4) ∧ rQ μ ν4 ∧ zJ [1, 4, 6, 7] μ ν4 ∧ rSav (μ 1) (ν4 7) ∧ ((0 = 0 ∧ pJd ρ (fun k_ w_ => μ 17 (3 * k_ + w_)) c 0 (rS 1 μ) = pJd ρ (fun k_ w_ => μ 17 (3 * k_ + w_)) (c - (k + 1)) (k + 1) (rS 1 ν4)) ∨ (¬ 0 = 0 ∧ 0 = pJd ρ (fun k_ w_ => μ 17 (3 * k_ + w_)) c 0 (rS 1 μ))) from ⟨by omega, okg, abg, hqg, hjg, hsvg, Or.inl ⟨rfl, by rw [hJ, show c - k = (c - (k + 1)) + 1 by omega]; show (if (pOver (rS 1 μ1) || !(decide (μ 17 (3 * k) = 0) || pHas (rS 1 μ1 0) (μ 17 (3 * k) - 1))) = true then _ else if μ 17 (3 * k + 1) = pGain ρ (rS 1 μ1) (μ 17 (3 * k) - 1) ∧ μ 17 (3 * k + 2) = pSetOf (pGo ρ (rS 1 μ1) (μ 17 (3 * k) - 1)) 2 (rS 1 μ1 (31 + pb (rS 1 μ1))) then _ else _) = _; rw [if_neg (by rw [h44, h37]; decide)]; rw [if_pos ⟨h95.symm, h115.symm⟩, g1]; rfl⟩⟩) (by show c - (k + 1) < c - k; omega)
