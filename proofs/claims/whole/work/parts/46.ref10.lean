/-! the reference: sheets, shelves -/
theorem in_3 (w : Int32) : pIn w 0 3 = pHas 4 w := by
  unfold pIn pHas
  rw [← Bool.decide_and, ← Bool.decide_and]
  apply dec_eq
  rw [Int32.le_iff_toInt_le, Int32.le_iff_toInt_le, Int32.lt_iff_toInt_lt, zt0, zt3, zt4]
  omega
/-- sheets well kept -/
def gSh (μ : zM) : Prop := ∀ k, k < 4 → (-1 ≤ μ 18 k ∧ μ 18 k ≤ 4) ∧ ∃ n, n ≤ 40 ∧ μ 19 k = nI n
theorem has_l {ln c : Nat} {i : Int32} (hl : ln ≤ 40) (hc : c ≤ 20) : (decide (0 ≤ i.toInt64 + (nI c).toInt64) && decide (i.toInt64 + (nI c).toInt64 ≤ (nI ln - 1).toInt64)) = pHas (nI ln) (i + nI c) := by
  unfold pHas
  rw [← Bool.decide_and, ← Bool.decide_and]
  apply dec_eq
  have b1 := Int32.le_toInt i
  have b2 := Int32.toInt_lt i
  have e1 : (i.toInt64 + (nI c).toInt64).toInt = i.toInt + c := by
    rw [Int64.toInt_add, Int32.toInt_toInt64, Int32.toInt_toInt64, nI_toInt (by omega)]
    exact Int.bmod_eq_of_le (by omega) (by omega)
  have e2 : (nI ln - 1).toInt = ln - 1 := by
    rw [Int32.toInt_sub, nI_toInt (by omega), zt1]
    exact Int.bmod_eq_of_le (by omega) (by omega)
  have e3 : (i + nI c).toInt = if 2147483647 < i.toInt + c then i.toInt + c - 4294967296 else i.toInt + c := by
    rw [Int32.toInt_add, nI_toInt (by omega)]
    split
    · rw [show i.toInt + (c : Int) = (i.toInt + c - 4294967296) + 4294967296 by omega]
      have e4 : (i.toInt + (c : Int) - 4294967296 + 4294967296).bmod (2 ^ 32) = (i.toInt + (c : Int) - 4294967296).bmod (2 ^ 32) := by
        have := @Int.add_bmod_right (i.toInt + (c : Int) - 4294967296) (2 ^ 32)
        simpa using this
      rw [e4, Int.bmod_eq_of_le (by omega) (by omega)]
      omega
    · exact Int.bmod_eq_of_le (by omega) (by omega)
  rw [Int64.le_iff_toInt_le, Int64.le_iff_toInt_le, Int32.le_iff_toInt_le, Int32.lt_iff_toInt_lt, e1, e3, Int32.toInt_toInt64, e2, zt0, nI_toInt (by omega), show (0 : Int64).toInt = 0 from rfl]
  split <;> omega
theorem lt0_m1 {x : Int32} (h : -1 ≤ x) : (x < 0) ↔ x = -1 := by
  constructor
  · intro q
    rw [Int32.le_iff_toInt_le, ztm1] at h
    rw [Int32.lt_iff_toInt_lt, zt0] at q
    apply Int32.toInt_inj.mp
    rw [ztm1]
    omega
  · intro q
    rw [q]
    decide
set_option maxHeartbeats 4000000 in
set_option maxRecDepth 100000 in
theorem eX11_isSheet (σ : zG) (μ : zM) (k : Int32) : zMet shR σ 1 MX11_isSheet yX11_isSheet [zi k] μ (fun rr μ' => rr = some (zi (zb (pHas 4 k))) ∧ μ' = μ) := by
  refine zmetF (by decide +kernel) rfl (Nat.le_of_ble_eq_true rfl) ?_
  show zX shR σ 1 MX11_isSheet 0 [(0, zi k)] [] μ _
  refine zx_iload_n (k := 0) (nn := 1) dX11_isSheet_0 rfl rfl rfl ?_
  refine zx_i2l (nn := 2) dX11_isSheet_1 rfl ?_
  refine zx_lconst (v := 0) (nn := 3) rfl dX11_isSheet_2 rfl ?_
  refine zx_ldc2 (v := 3) (nn := 6) cwX11_332 dX11_isSheet_3 rfl ?_
  refine zx_callSf (nn := 9) (d' := 0) (as := [zj k.toInt64, zj 0, zj 3]) (rest := []) (n := 3) (eX11_isIn σ μ k.toInt64 0 3  ) kX11_isIn mlX11_70 (by decide) rfl rfl (Nat.le_of_ble_eq_true rfl) dX11_isSheet_6 rfl ?_
  show zX shR σ 1 MX11_isSheet 9 [(0, zi k)] [zi (zb (decide (0 ≤ k.toInt64) && decide (k.toInt64 ≤ 3)))] μ _
  rw [show zb (decide (0 ≤ k.toInt64) && decide (k.toInt64 ≤ 3)) = zb (pHas 4 k) from congrArg zb ((in_r k 0 3).trans (in_3 k))]
  show zX shR σ 1 MX11_isSheet 9 [(0, zi k)] [zi (zb (pHas 4 k))] μ _
  refine zx_zret rfl (zb_nar _) dX11_isSheet_9 ?_
  exact ⟨rfl, rfl⟩
set_option maxHeartbeats 4000000 in
set_option maxRecDepth 100000 in
theorem eX11_sheet_0 (σ : zG) (μ : zM) (k : Int32) (sort : Int32) (n : Int32) : zMet shR σ 2 MX11_sheet yX11_sheet [zr 0, zi k, zi sort, zi n] μ (fun rr μ' => rr = some (zi (vSheetC k sort n)) ∧ if vSheetC k sort n = 1 then (zJ [18, 19, 20] μ μ' ∧ μ' 18 = upd (μ 18) k.toNatClampNeg sort ∧ μ' 19 = upd (μ 19) k.toNatClampNeg (if sort = -1 then 0 else n) ∧ (∀ j, j < 40 → μ' 20 (40 * k.toNatClampNeg + j) = 0) ∧ ∀ j, (j < 40 * k.toNatClampNeg ∨ 40 * k.toNatClampNeg + 40 ≤ j) → μ' 20 j = μ 20 j) else μ' = μ) := by
  refine zmetF (by decide +kernel) rfl (Nat.le_of_ble_eq_true rfl) ?_
  show zX shR σ 2 MX11_sheet 0 [(0, zr 0), (1, zi k), (2, zi sort), (3, zi n)] [] μ _
  refine zx_iload_n (k := 1) (nn := 1) dX11_sheet_0 rfl rfl rfl ?_
  refine zx_callSf (nn := 4) (d' := 1) (as := [zi k]) (rest := []) (n := 1) (eX11_isSheet σ μ k  ) kX11_isSheet mlX11_371 (by decide) rfl rfl (Nat.le_of_ble_eq_true rfl) dX11_sheet_1 rfl ?_
  show zX shR σ 2 MX11_sheet 4 [(0, zr 0), (1, zi k), (2, zi sort), (3, zi n)] [zi (zb (pHas 4 k))] μ _
  refine zx_ifb_eq (tgt := 31) (nn := 7) dX11_sheet_4 (by decide) rfl (fun h4 => ?_) (fun h4 => ?_)
  · refine zx_iconst (v := -1) (nn := 32) rfl dX11_sheet_31 rfl ?_
    refine zx_iret rfl dX11_sheet_32 ?_
    have hv : vSheetC k sort n = -1 := by unfold vSheetC; rw [if_neg (fun q => absurd q.1 (by rw [h4]; decide))]
    exact ⟨congrArg (fun x => some (zi x)) hv.symm, by rw [if_neg (by rw [hv]; decide)]⟩
  · refine zx_iload_n (k := 2) (nn := 8) dX11_sheet_7 rfl rfl rfl ?_
    refine zx_i2l (nn := 9) dX11_sheet_8 rfl ?_
    refine zx_ldc2 (v := -1) (nn := 12) cwX11_374 dX11_sheet_9 rfl ?_
    refine zx_ldc2 (v := 4) (nn := 15) cwX11_326 dX11_sheet_12 rfl ?_
    refine zx_callSf (nn := 18) (d' := 0) (as := [zj sort.toInt64, zj (-1), zj 4]) (rest := []) (n := 3) (eX11_isIn σ μ sort.toInt64 (-1) 4  ) kX11_isIn mlX11_70 (by decide) rfl rfl (Nat.le_of_ble_eq_true rfl) dX11_sheet_15 rfl ?_
    show zX shR σ 2 MX11_sheet 18 [(0, zr 0), (1, zi k), (2, zi sort), (3, zi n)] [zi (zb (decide ((-1) ≤ sort.toInt64) && decide (sort.toInt64 ≤ 4)))] μ _
    rw [show zb (decide ((-1) ≤ sort.toInt64) && decide (sort.toInt64 ≤ 4)) = zb (pIn sort (-1) 4) from congrArg zb (in_r sort (-1) 4)]
    show zX shR σ 2 MX11_sheet 18 [(0, zr 0), (1, zi k), (2, zi sort), (3, zi n)] [zi (zb (pIn sort (-1) 4))] μ _
    refine zx_ifb_eq (tgt := 31) (nn := 21) dX11_sheet_18 (by decide) rfl (fun h18 => ?_) (fun h18 => ?_)
    · refine zx_iconst (v := -1) (nn := 32) rfl dX11_sheet_31 rfl ?_
      refine zx_iret rfl dX11_sheet_32 ?_
      have hv : vSheetC k sort n = -1 := by unfold vSheetC; rw [if_neg (fun q => absurd q.2 (by rw [h18]; decide))]
      exact ⟨congrArg (fun x => some (zi x)) hv.symm, by rw [if_neg (by rw [hv]; decide)]⟩
    · refine zx_iload_n (k := 2) (nn := 22) dX11_sheet_21 rfl rfl rfl ?_
      refine zx_if_lt (tgt := 33) (nn := 25) dX11_sheet_22 (by decide) rfl (fun h22 => ?_) (fun h22 => ?_)
      · refine zx_iload_n (k := 2) (nn := 34) dX11_sheet_33 rfl rfl rfl ?_
        refine zx_if_lt (tgt := 44) (nn := 37) dX11_sheet_34 (by decide) rfl (fun h34 => ?_) (fun h34 => ?_)
        · obtain ⟨k1, n_k, rfl⟩ := has4 h4
          show zX shR σ 2 MX11_sheet 44 [(0, zr 0), (1, zi (nI k1)), (2, zi sort), (3, zi n)] [] μ _
          refine zx_aload_n (k := 0) (nn := 45) dX11_sheet_44 rfl rfl rfl ?_
          refine zx_getR (q := 18) (nn := 48) flX11_48 rfl rfl dX11_sheet_45 rfl ?_
          refine zx_iload_n (k := 1) (nn := 49) dX11_sheet_48 rfl rfl rfl ?_
          refine zx_iload_n (k := 2) (nn := 50) dX11_sheet_49 rfl rfl rfl ?_
          refine zx_iast_n (j := k1) (nn := 51) rfl n_k.1 (by decide) dX11_sheet_50 rfl ?_
          refine zx_aload_n (k := 0) (nn := 52) dX11_sheet_51 rfl rfl rfl ?_
          refine zx_getR (q := 19) (nn := 55) flX11_51 rfl rfl dX11_sheet_52 rfl ?_
          refine zx_iload_n (k := 1) (nn := 56) dX11_sheet_55 rfl rfl rfl ?_
          refine zx_iload_n (k := 2) (nn := 57) dX11_sheet_56 rfl rfl rfl ?_
          refine zx_if_ge (tgt := 64) (nn := 60) dX11_sheet_57 (by decide) rfl (fun h57 => ?_) (fun h57 => ?_)
          · exact absurd h34 (Int32.not_lt.mpr h57)
          · refine zx_iconst (v := 0) (nn := 61) rfl dX11_sheet_60 rfl ?_
            refine zx_goto (tgt := 65) dX11_sheet_61 (by decide) ?_
            refine zx_iast_n (j := k1) (nn := 66) rfl n_k.1 (by decide) dX11_sheet_65 rfl ?_
            refine zx_iconst (v := 0) (nn := 67) rfl dX11_sheet_66 rfl ?_
            refine zx_istore (nn := 69) (lv' := [(4, zi 0), (0, zr 0), (1, zi (nI k1)), (2, zi sort), (3, zi n)]) dX11_sheet_67 (by decide) rfl rfl ?_
            refine zx_lv (lv' := [(0, zr 0), (1, zi (nI k1)), (2, zi sort), (3, zi n), (4, zi 0)]) [1, 2, 3, 4, 0] rfl ?_
            refine zx_while (τ := Nat × zM) (fun t_ => 40 - t_.1) (fun t_ => t_.1 ≤ 40 ∧ zJ [20] (zp (zp μ 18 k1 sort) 19 k1 0) t_.2 ∧ (∀ j, j < t_.1 → t_.2 20 (40 * k1 + j) = 0) ∧ ∀ j, (j < 40 * k1 ∨ 40 * k1 + 40 ≤ j) → t_.2 20 j = μ 20 j) (fun t_ => [(0, zr 0), (1, zi (nI k1)), (2, zi sort), (3, zi n), (4, zi (nI t_.1))]) (fun t_ => t_.2) (t0 := (0, zp (zp μ 18 k1 sort) 19 k1 0)) (show 0 ≤ 40 ∧ zJ [20] (zp (zp μ 18 k1 sort) 19 k1 0) (zp (zp μ 18 k1 sort) 19 k1 0) ∧ (∀ j, j < 0 → (zp (zp μ 18 k1 sort) 19 k1 0) 20 (40 * k1 + j) = 0) ∧ ∀ j, (j < 40 * k1 ∨ 40 * k1 + 40 ≤ j) → (zp (zp μ 18 k1 sort) 19 k1 0) 20 j = μ 20 j from ⟨Nat.zero_le _, zJ.rf, fun j h => absurd h (by omega), fun j _ => by rw [zp_ne (by decide), zp_ne (by decide)]⟩) ?_
            rintro ⟨q, μ1⟩ hI ih69
            replace hI : q ≤ 40 ∧ zJ [20] (zp (zp μ 18 k1 sort) 19 k1 0) μ1 ∧ (∀ j, j < q → μ1 20 (40 * k1 + j) = 0) ∧ ∀ j, (j < 40 * k1 ∨ 40 * k1 + 40 ≤ j) → μ1 20 j = μ 20 j := hI
            show zX shR σ 2 MX11_sheet 69 [(0, zr 0), (1, zi (nI k1)), (2, zi sort), (3, zi n), (4, zi (nI q))] [] μ1 _
            obtain ⟨hr1, hr2, hr3, hr4⟩ := hI
            refine zx_iload (k := 4) (nn := 71) dX11_sheet_69 rfl rfl ?_
            refine zx_bipush (v := 40) (nn := 73) rfl dX11_sheet_71 rfl ?_
            refine zx_icmp_ge (tgt := 95) (nn := 76) dX11_sheet_73 (by decide) rfl (fun h73 => ?_) (fun h73 => ?_)
            · refine zx_iconst (v := 1) (nn := 96) rfl dX11_sheet_95 rfl ?_
              refine zx_iret rfl dX11_sheet_96 ?_
              have hm : sort = -1 := (lt0_m1 (of_decide_eq_true ((Bool.and_eq_true _ _).mp h18).1)).mp h34
              have hv : vSheetC (nI k1) sort n = 1 := by unfold vSheetC; rw [if_pos ⟨h4, h18⟩, if_pos hm]
              have hge := nI_le_le (b := 40) h73 (by omega)
              refine ⟨congrArg (fun x => some (zi x)) hv.symm, ?_⟩
              rw [if_pos hv, n_k.2.2, if_pos hm]
              refine ⟨((zJ.rf.p (by decide)).p (by decide)).tr (hr2.mono (by decide)), ?_, ?_, fun j hj => hr3 j (by omega), hr4⟩
              · rw [hr2 18 (by decide), zp_ne (by decide), zp_eq]
              · rw [hr2 19 (by decide), zp_eq, zp_ne (by decide)]
            · have hlt : q < 40 := nI_nle_lt (b := 40) h73 (by omega)
              refine zx_aload_n (k := 0) (nn := 77) dX11_sheet_76 rfl rfl rfl ?_
              refine zx_getR (q := 20) (nn := 80) flX11_54 rfl rfl dX11_sheet_77 rfl ?_
              refine zx_bipush (v := 40) (nn := 82) rfl dX11_sheet_80 rfl ?_
              refine zx_iload_n (k := 1) (nn := 83) dX11_sheet_82 rfl rfl rfl ?_
              refine zx_imul (nn := 84) dX11_sheet_83 rfl ?_
              refine zx_iload (k := 4) (nn := 86) dX11_sheet_84 rfl rfl ?_
              refine zx_iadd (nn := 87) dX11_sheet_86 rfl ?_
              rw [show (40 * (nI k1)) + (nI q) = nI (40 * k1 + q) from by simp only [show (40 : Int32) = nI 40 from rfl, nI_mulN, nI_add]]
              show zX shR σ 2 MX11_sheet 87 [(0, zr 0), (1, zi (nI k1)), (2, zi sort), (3, zi n), (4, zi (nI q))] [zi (nI (40 * k1 + q)), zr 20] μ1 _
              refine zx_lconst (v := 0) (nn := 88) rfl dX11_sheet_87 rfl ?_
              refine zx_last (w := 0) (nn := 89) rfl rfl (vp_in_nI (show 40 * k1 + q < 160 by have := n_k.1; omega) (by decide)) dX11_sheet_88 rfl ?_
              rw [nI_clamp (by omega)]
              show zX shR σ 2 MX11_sheet 89 [(0, zr 0), (1, zi (nI k1)), (2, zi sort), (3, zi n), (4, zi (nI q))] [] (zp μ1 20 (40 * k1 + q) 0) _
              refine zx_iinc (k := 4) (v := nI (q + 1)) (lv' := [(4, zi (nI (q + 1))), (0, zr 0), (1, zi (nI k1)), (2, zi sort), (3, zi n)]) (nn := 92) dX11_sheet_89 rfl (nI_1 q) (by decide) rfl rfl ?_
              refine zx_goto (tgt := 69) dX11_sheet_92 (by decide) ?_
              refine zx_lv (lv' := [(0, zr 0), (1, zi (nI k1)), (2, zi sort), (3, zi n), (4, zi (nI (q + 1)))]) [1, 2, 3, 4, 0] rfl ?_
              exact ih69 (q + 1, zp μ1 20 (40 * k1 + q) 0) (show (q + 1) ≤ 40 ∧ zJ [20] (zp (zp μ 18 k1 sort) 19 k1 0) (zp μ1 20 (40 * k1 + q) 0) ∧ (∀ j, j < (q + 1) → (zp μ1 20 (40 * k1 + q) 0) 20 (40 * k1 + j) = 0) ∧ ∀ j, (j < 40 * k1 ∨ 40 * k1 + 40 ≤ j) → (zp μ1 20 (40 * k1 + q) 0) 20 j = μ 20 j from ⟨by omega, hr2.p (by decide), fun j hj => (Decidable.em (j = q)).elim (fun e => by subst e; rw [zp_eq, pk_us]) (fun e => by rw [zp_eq, pk_un (by omega)]; exact hr3 j (by omega)), fun j hj => by rw [zp_eq, pk_un (by omega)]; exact hr4 j hj⟩) (by show 40 - (q + 1) < 40 - q; omega)
        · exact absurd h22 h34
      · refine zx_iload_n (k := 3) (nn := 26) dX11_sheet_25 rfl rfl rfl ?_
        refine zx_bipush (v := 40) (nn := 28) rfl dX11_sheet_26 rfl ?_
        refine zx_icmp_le (tgt := 33) (nn := 31) dX11_sheet_28 (by decide) rfl (fun h28 => ?_) (fun h28 => ?_)
        · refine zx_iload_n (k := 2) (nn := 34) dX11_sheet_33 rfl rfl rfl ?_
          refine zx_if_lt (tgt := 44) (nn := 37) dX11_sheet_34 (by decide) rfl (fun h34 => ?_) (fun h34 => ?_)
          · exact absurd h34 h22
          · refine zx_iload_n (k := 3) (nn := 38) dX11_sheet_37 rfl rfl rfl ?_
            refine zx_if_ge (tgt := 44) (nn := 41) dX11_sheet_38 (by decide) rfl (fun h38 => ?_) (fun h38 => ?_)
            · obtain ⟨k1, n_k, rfl⟩ := has4 h4
              show zX shR σ 2 MX11_sheet 44 [(0, zr 0), (1, zi (nI k1)), (2, zi sort), (3, zi n)] [] μ _
              refine zx_aload_n (k := 0) (nn := 45) dX11_sheet_44 rfl rfl rfl ?_
              refine zx_getR (q := 18) (nn := 48) flX11_48 rfl rfl dX11_sheet_45 rfl ?_
              refine zx_iload_n (k := 1) (nn := 49) dX11_sheet_48 rfl rfl rfl ?_
              refine zx_iload_n (k := 2) (nn := 50) dX11_sheet_49 rfl rfl rfl ?_
              refine zx_iast_n (j := k1) (nn := 51) rfl n_k.1 (by decide) dX11_sheet_50 rfl ?_
              refine zx_aload_n (k := 0) (nn := 52) dX11_sheet_51 rfl rfl rfl ?_
              refine zx_getR (q := 19) (nn := 55) flX11_51 rfl rfl dX11_sheet_52 rfl ?_
              refine zx_iload_n (k := 1) (nn := 56) dX11_sheet_55 rfl rfl rfl ?_
              refine zx_iload_n (k := 2) (nn := 57) dX11_sheet_56 rfl rfl rfl ?_
              refine zx_if_ge (tgt := 64) (nn := 60) dX11_sheet_57 (by decide) rfl (fun h57 => ?_) (fun h57 => ?_)
              · refine zx_iload_n (k := 3) (nn := 65) dX11_sheet_64 rfl rfl rfl ?_
                refine zx_iast_n (j := k1) (nn := 66) rfl n_k.1 (by decide) dX11_sheet_65 rfl ?_
                refine zx_iconst (v := 0) (nn := 67) rfl dX11_sheet_66 rfl ?_
                refine zx_istore (nn := 69) (lv' := [(4, zi 0), (0, zr 0), (1, zi (nI k1)), (2, zi sort), (3, zi n)]) dX11_sheet_67 (by decide) rfl rfl ?_
                refine zx_lv (lv' := [(0, zr 0), (1, zi (nI k1)), (2, zi sort), (3, zi n), (4, zi 0)]) [1, 2, 3, 4, 0] rfl ?_
                refine zx_while (τ := Nat × zM) (fun t_ => 40 - t_.1) (fun t_ => t_.1 ≤ 40 ∧ zJ [20] (zp (zp μ 18 k1 sort) 19 k1 n) t_.2 ∧ (∀ j, j < t_.1 → t_.2 20 (40 * k1 + j) = 0) ∧ ∀ j, (j < 40 * k1 ∨ 40 * k1 + 40 ≤ j) → t_.2 20 j = μ 20 j) (fun t_ => [(0, zr 0), (1, zi (nI k1)), (2, zi sort), (3, zi n), (4, zi (nI t_.1))]) (fun t_ => t_.2) (t0 := (0, zp (zp μ 18 k1 sort) 19 k1 n)) (show 0 ≤ 40 ∧ zJ [20] (zp (zp μ 18 k1 sort) 19 k1 n) (zp (zp μ 18 k1 sort) 19 k1 n) ∧ (∀ j, j < 0 → (zp (zp μ 18 k1 sort) 19 k1 n) 20 (40 * k1 + j) = 0) ∧ ∀ j, (j < 40 * k1 ∨ 40 * k1 + 40 ≤ j) → (zp (zp μ 18 k1 sort) 19 k1 n) 20 j = μ 20 j from ⟨Nat.zero_le _, zJ.rf, fun j h => absurd h (by omega), fun j _ => by rw [zp_ne (by decide), zp_ne (by decide)]⟩) ?_
                rintro ⟨q, μ1⟩ hI ih69
                replace hI : q ≤ 40 ∧ zJ [20] (zp (zp μ 18 k1 sort) 19 k1 n) μ1 ∧ (∀ j, j < q → μ1 20 (40 * k1 + j) = 0) ∧ ∀ j, (j < 40 * k1 ∨ 40 * k1 + 40 ≤ j) → μ1 20 j = μ 20 j := hI
                show zX shR σ 2 MX11_sheet 69 [(0, zr 0), (1, zi (nI k1)), (2, zi sort), (3, zi n), (4, zi (nI q))] [] μ1 _
                obtain ⟨hr1, hr2, hr3, hr4⟩ := hI
                refine zx_iload (k := 4) (nn := 71) dX11_sheet_69 rfl rfl ?_
                refine zx_bipush (v := 40) (nn := 73) rfl dX11_sheet_71 rfl ?_
                refine zx_icmp_ge (tgt := 95) (nn := 76) dX11_sheet_73 (by decide) rfl (fun h73 => ?_) (fun h73 => ?_)
                · refine zx_iconst (v := 1) (nn := 96) rfl dX11_sheet_95 rfl ?_
                  refine zx_iret rfl dX11_sheet_96 ?_
                  have hm : ¬ sort = -1 := fun q => by rw [q] at h34; exact absurd (show (-1 : Int32) < 0 by decide) h34
                  have hv : vSheetC (nI k1) sort n = 1 := by unfold vSheetC; rw [if_pos ⟨h4, h18⟩, if_neg hm, if_neg (Int32.not_lt.mpr h28), if_neg (Int32.not_lt.mpr h38)]
                  have hge := nI_le_le (b := 40) h73 (by omega)
                  refine ⟨congrArg (fun x => some (zi x)) hv.symm, ?_⟩
                  rw [if_pos hv, n_k.2.2, if_neg hm]
                  refine ⟨((zJ.rf.p (by decide)).p (by decide)).tr (hr2.mono (by decide)), ?_, ?_, fun j hj => hr3 j (by omega), hr4⟩
                  · rw [hr2 18 (by decide), zp_ne (by decide), zp_eq]
                  · rw [hr2 19 (by decide), zp_eq, zp_ne (by decide)]
                · have hlt : q < 40 := nI_nle_lt (b := 40) h73 (by omega)
                  refine zx_aload_n (k := 0) (nn := 77) dX11_sheet_76 rfl rfl rfl ?_
                  refine zx_getR (q := 20) (nn := 80) flX11_54 rfl rfl dX11_sheet_77 rfl ?_
                  refine zx_bipush (v := 40) (nn := 82) rfl dX11_sheet_80 rfl ?_
                  refine zx_iload_n (k := 1) (nn := 83) dX11_sheet_82 rfl rfl rfl ?_
                  refine zx_imul (nn := 84) dX11_sheet_83 rfl ?_
                  refine zx_iload (k := 4) (nn := 86) dX11_sheet_84 rfl rfl ?_
                  refine zx_iadd (nn := 87) dX11_sheet_86 rfl ?_
                  rw [show (40 * (nI k1)) + (nI q) = nI (40 * k1 + q) from by simp only [show (40 : Int32) = nI 40 from rfl, nI_mulN, nI_add]]
                  show zX shR σ 2 MX11_sheet 87 [(0, zr 0), (1, zi (nI k1)), (2, zi sort), (3, zi n), (4, zi (nI q))] [zi (nI (40 * k1 + q)), zr 20] μ1 _
                  refine zx_lconst (v := 0) (nn := 88) rfl dX11_sheet_87 rfl ?_
                  refine zx_last (w := 0) (nn := 89) rfl rfl (vp_in_nI (show 40 * k1 + q < 160 by have := n_k.1; omega) (by decide)) dX11_sheet_88 rfl ?_
                  rw [nI_clamp (by omega)]
                  show zX shR σ 2 MX11_sheet 89 [(0, zr 0), (1, zi (nI k1)), (2, zi sort), (3, zi n), (4, zi (nI q))] [] (zp μ1 20 (40 * k1 + q) 0) _
                  refine zx_iinc (k := 4) (v := nI (q + 1)) (lv' := [(4, zi (nI (q + 1))), (0, zr 0), (1, zi (nI k1)), (2, zi sort), (3, zi n)]) (nn := 92) dX11_sheet_89 rfl (nI_1 q) (by decide) rfl rfl ?_
                  refine zx_goto (tgt := 69) dX11_sheet_92 (by decide) ?_
                  refine zx_lv (lv' := [(0, zr 0), (1, zi (nI k1)), (2, zi sort), (3, zi n), (4, zi (nI (q + 1)))]) [1, 2, 3, 4, 0] rfl ?_
                  exact ih69 (q + 1, zp μ1 20 (40 * k1 + q) 0) (show (q + 1) ≤ 40 ∧ zJ [20] (zp (zp μ 18 k1 sort) 19 k1 n) (zp μ1 20 (40 * k1 + q) 0) ∧ (∀ j, j < (q + 1) → (zp μ1 20 (40 * k1 + q) 0) 20 (40 * k1 + j) = 0) ∧ ∀ j, (j < 40 * k1 ∨ 40 * k1 + 40 ≤ j) → (zp μ1 20 (40 * k1 + q) 0) 20 j = μ 20 j from ⟨by omega, hr2.p (by decide), fun j hj => (Decidable.em (j = q)).elim (fun e => by subst e; rw [zp_eq, pk_us]) (fun e => by rw [zp_eq, pk_un (by omega)]; exact hr3 j (by omega)), fun j hj => by rw [zp_eq, pk_un (by omega)]; exact hr4 j hj⟩) (by show 40 - (q + 1) < 40 - q; omega)
              · exact absurd (Int32.not_le.mp h57) h34
            · refine zx_bipush (v := -14) (nn := 43) rfl dX11_sheet_41 rfl ?_
              refine zx_iret rfl dX11_sheet_43 ?_
              have hne : ¬ sort = -1 := fun q => by rw [q] at h34; exact absurd (show (-1 : Int32) < 0 by decide) h34
              have hv : vSheetC k sort n = -14 := by unfold vSheetC; rw [if_pos ⟨h4, h18⟩, if_neg hne, if_neg (Int32.not_lt.mpr h28), if_pos (Int32.not_le.mp h38)]
              exact ⟨congrArg (fun x => some (zi x)) hv.symm, by rw [if_neg (by rw [hv]; decide)]⟩
        · refine zx_iconst (v := -1) (nn := 32) rfl dX11_sheet_31 rfl ?_
          refine zx_iret rfl dX11_sheet_32 ?_
          have hne : ¬ sort = -1 := fun q => by rw [q] at h22; exact absurd (show (-1 : Int32) < 0 by decide) h22
          have hv : vSheetC k sort n = -1 := by unfold vSheetC; rw [if_pos ⟨h4, h18⟩, if_neg hne, if_pos (Int32.not_le.mp h28)]
          exact ⟨congrArg (fun x => some (zi x)) hv.symm, by rw [if_neg (by rw [hv]; decide)]⟩
set_option maxHeartbeats 4000000 in
set_option maxRecDepth 100000 in
theorem eX11_narrowed (σ : zG) (μ : zM) (q : Int32) (v : Int32) : zMet shR σ 0 MX11_narrowed yX11_narrowed [zi q, zi v] μ (fun rr μ' => rr = some (zj ((pNar q v).toInt64)) ∧ μ' = μ) := by
  refine zmetF (by decide +kernel) rfl (Nat.le_of_ble_eq_true rfl) ?_
  show zX shR σ 0 MX11_narrowed 0 [(0, zi q), (1, zi v)] [] μ _
  refine zx_iload_n (k := 0) (nn := 1) dX11_narrowed_0 rfl rfl rfl ?_
  refine zx_if_ne (tgt := 10) (nn := 4) dX11_narrowed_1 (by decide) rfl (fun h1 => ?_) (fun h1 => ?_)
  · refine zx_iload_n (k := 0) (nn := 11) dX11_narrowed_10 rfl rfl rfl ?_
    refine zx_iconst (v := 1) (nn := 12) rfl dX11_narrowed_11 rfl ?_
    refine zx_icmp_ne (tgt := 21) (nn := 15) dX11_narrowed_12 (by decide) rfl (fun h12 => ?_) (fun h12 => ?_)
    · refine zx_iload_n (k := 0) (nn := 22) dX11_narrowed_21 rfl rfl rfl ?_
      refine zx_iconst (v := 4) (nn := 23) rfl dX11_narrowed_22 rfl ?_
      refine zx_icmp_ne (tgt := 38) (nn := 26) dX11_narrowed_23 (by decide) rfl (fun h23 => ?_) (fun h23 => ?_)
      · refine zx_iload_n (k := 1) (nn := 39) dX11_narrowed_38 rfl rfl rfl ?_
        refine zx_i2l (nn := 40) dX11_narrowed_39 rfl ?_
        refine zx_lret rfl dX11_narrowed_40 ?_
        refine ⟨congrArg (fun x => some (zj x)) ?_, rfl⟩
        unfold pNar
        rw [if_neg h1, if_neg h12, if_neg h23]
      · refine zx_iload_n (k := 1) (nn := 27) dX11_narrowed_26 rfl rfl rfl ?_
        refine zx_if_eq (tgt := 34) (nn := 30) dX11_narrowed_27 (by decide) rfl (fun h27 => ?_) (fun h27 => ?_)
        · refine zx_lconst (v := 0) (nn := 35) rfl dX11_narrowed_34 rfl ?_
          refine zx_goto (tgt := 40) dX11_narrowed_35 (by decide) ?_
          refine zx_lret rfl dX11_narrowed_40 ?_
          refine ⟨congrArg (fun x => some (zj x)) ?_, rfl⟩
          unfold pNar
          rw [if_neg h1, if_neg h12, if_pos h23, decide_eq_false (fun q => q h27)]
          rfl
        · refine zx_lconst (v := 1) (nn := 31) rfl dX11_narrowed_30 rfl ?_
          refine zx_goto (tgt := 40) dX11_narrowed_31 (by decide) ?_
          refine zx_lret rfl dX11_narrowed_40 ?_
          refine ⟨congrArg (fun x => some (zj x)) ?_, rfl⟩
          unfold pNar
          rw [if_neg h1, if_neg h12, if_pos h23, decide_eq_true h27]
          rfl
    · refine zx_iload_n (k := 1) (nn := 16) dX11_narrowed_15 rfl rfl rfl ?_
      refine zx_i2s (nn := 17) dX11_narrowed_16 rfl ?_
      refine zx_i2l (nn := 18) dX11_narrowed_17 rfl ?_
      refine zx_goto (tgt := 40) dX11_narrowed_18 (by decide) ?_
      refine zx_lret rfl dX11_narrowed_40 ?_
      refine ⟨congrArg (fun x => some (zj x)) ?_, rfl⟩
      unfold pNar
      rw [if_neg h1, if_pos h12]
  · refine zx_iload_n (k := 1) (nn := 5) dX11_narrowed_4 rfl rfl rfl ?_
    refine zx_i2b (nn := 6) dX11_narrowed_5 rfl ?_
    refine zx_i2l (nn := 7) dX11_narrowed_6 rfl ?_
    refine zx_goto (tgt := 40) dX11_narrowed_7 (by decide) ?_
    refine zx_lret rfl dX11_narrowed_40 ?_
    refine ⟨congrArg (fun x => some (zj x)) ?_, rfl⟩
    unfold pNar
    rw [if_pos h1]
set_option maxHeartbeats 4000000 in
set_option maxRecDepth 100000 in
theorem eX11_write_0 (σ : zG) (μ : zM) (k : Int32) (i : Int32) (v : Int32) (hs : gSh μ) : zMet shR σ 2 MX11_write yX11_write [zr 0, zi k, zi i, zi v] μ (fun rr μ' => rr = some (zi (if pHas 4 k = true then (if μ 18 k.toNatClampNeg < 0 then -11 else if pHas (μ 19 k.toNatClampNeg) i = true then 1 else -12) else -1)) ∧ μ' = if pHas 4 k = true ∧ ¬ μ 18 k.toNatClampNeg < 0 ∧ pHas (μ 19 k.toNatClampNeg) i = true then zp μ 20 (40 * k.toNatClampNeg + i.toNatClampNeg) (pNar (μ 18 k.toNatClampNeg) v) else μ) := by
  refine zmetF (by decide +kernel) rfl (Nat.le_of_ble_eq_true rfl) ?_
  show zX shR σ 2 MX11_write 0 [(0, zr 0), (1, zi k), (2, zi i), (3, zi v)] [] μ _
  refine zx_iload_n (k := 1) (nn := 1) dX11_write_0 rfl rfl rfl ?_
  refine zx_callSf (nn := 4) (d' := 1) (as := [zi k]) (rest := []) (n := 1) (eX11_isSheet σ μ k  ) kX11_isSheet mlX11_371 (by decide) rfl rfl (Nat.le_of_ble_eq_true rfl) dX11_write_1 rfl ?_
  show zX shR σ 2 MX11_write 4 [(0, zr 0), (1, zi k), (2, zi i), (3, zi v)] [zi (zb (pHas 4 k))] μ _
  refine zx_ifb_ne (tgt := 9) (nn := 7) dX11_write_4 (by decide) rfl (fun h4 => ?_) (fun h4 => ?_)
  · obtain ⟨k1, n_k, rfl⟩ := has4 h4
    show zX shR σ 2 MX11_write 9 [(0, zr 0), (1, zi (nI k1)), (2, zi i), (3, zi v)] [] μ _
    obtain ⟨hsr, ln, hl40, hln⟩ := hs k1 n_k.1
    refine zx_aload_n (k := 0) (nn := 10) dX11_write_9 rfl rfl rfl ?_
    refine zx_getR (q := 18) (nn := 13) flX11_48 rfl rfl dX11_write_10 rfl ?_
    refine zx_iload_n (k := 1) (nn := 14) dX11_write_13 rfl rfl rfl ?_
    refine zx_iald_n (j := k1) (nn := 15) rfl n_k.1 (by decide) dX11_write_14 rfl ?_
    refine zx_if_ge (tgt := 21) (nn := 18) dX11_write_15 (by decide) rfl (fun h15 => ?_) (fun h15 => ?_)
    · refine zx_iload_n (k := 2) (nn := 22) dX11_write_21 rfl rfl rfl ?_
      refine zx_i2l (nn := 23) dX11_write_22 rfl ?_
      refine zx_lconst (v := 0) (nn := 24) rfl dX11_write_23 rfl ?_
      refine zx_aload_n (k := 0) (nn := 25) dX11_write_24 rfl rfl rfl ?_
      refine zx_getR (q := 19) (nn := 28) flX11_51 rfl rfl dX11_write_25 rfl ?_
      refine zx_iload_n (k := 1) (nn := 29) dX11_write_28 rfl rfl rfl ?_
      refine zx_iald_n (j := k1) (nn := 30) rfl n_k.1 (by decide) dX11_write_29 rfl ?_
      rw [show μ 19 k1 = nI ln from hln]
      show zX shR σ 2 MX11_write 30 [(0, zr 0), (1, zi (nI k1)), (2, zi i), (3, zi v)] [zi (nI ln), zj 0, zj i.toInt64] μ _
      refine zx_iconst (v := 1) (nn := 31) rfl dX11_write_30 rfl ?_
      refine zx_isub (nn := 32) dX11_write_31 rfl ?_
      refine zx_i2l (nn := 33) dX11_write_32 rfl ?_
      refine zx_callSf (nn := 36) (d' := 0) (as := [zj i.toInt64, zj 0, zj (((nI ln) - 1).toInt64)]) (rest := []) (n := 3) (eX11_isIn σ μ i.toInt64 0 (((nI ln) - 1).toInt64)  ) kX11_isIn mlX11_70 (by decide) rfl rfl (Nat.le_of_ble_eq_true rfl) dX11_write_33 rfl ?_
      show zX shR σ 2 MX11_write 36 [(0, zr 0), (1, zi (nI k1)), (2, zi i), (3, zi v)] [zi (zb (decide (0 ≤ i.toInt64) && decide (i.toInt64 ≤ (((nI ln) - 1).toInt64))))] μ _
      rw [show zb (decide (0 ≤ i.toInt64) && decide (i.toInt64 ≤ (((nI ln) - 1).toInt64))) = zb (pHas (nI ln) i) from congrArg zb (has_r ln (by omega) i)]
      show zX shR σ 2 MX11_write 36 [(0, zr 0), (1, zi (nI k1)), (2, zi i), (3, zi v)] [zi (zb (pHas (nI ln) i))] μ _
      refine zx_ifb_ne (tgt := 42) (nn := 39) dX11_write_36 (by decide) rfl (fun h36 => ?_) (fun h36 => ?_)
      · obtain ⟨i1, n_i, rfl⟩ := has_item rfl hl40 h36
        show zX shR σ 2 MX11_write 42 [(0, zr 0), (1, zi (nI k1)), (2, zi (nI i1)), (3, zi v)] [] μ _
        refine zx_aload_n (k := 0) (nn := 43) dX11_write_42 rfl rfl rfl ?_
        refine zx_getR (q := 20) (nn := 46) flX11_54 rfl rfl dX11_write_43 rfl ?_
        refine zx_bipush (v := 40) (nn := 48) rfl dX11_write_46 rfl ?_
        refine zx_iload_n (k := 1) (nn := 49) dX11_write_48 rfl rfl rfl ?_
        refine zx_imul (nn := 50) dX11_write_49 rfl ?_
        refine zx_iload_n (k := 2) (nn := 51) dX11_write_50 rfl rfl rfl ?_
        refine zx_iadd (nn := 52) dX11_write_51 rfl ?_
        rw [show (40 * (nI k1)) + (nI i1) = nI (40 * k1 + i1) from by simp only [show (40 : Int32) = nI 40 from rfl, nI_mulN, nI_add]]
        show zX shR σ 2 MX11_write 52 [(0, zr 0), (1, zi (nI k1)), (2, zi (nI i1)), (3, zi v)] [zi (nI (40 * k1 + i1)), zr 20] μ _
        refine zx_aload_n (k := 0) (nn := 53) dX11_write_52 rfl rfl rfl ?_
        refine zx_getR (q := 18) (nn := 56) flX11_48 rfl rfl dX11_write_53 rfl ?_
        refine zx_iload_n (k := 1) (nn := 57) dX11_write_56 rfl rfl rfl ?_
        refine zx_iald_n (j := k1) (nn := 58) rfl n_k.1 (by decide) dX11_write_57 rfl ?_
        refine zx_iload_n (k := 3) (nn := 59) dX11_write_58 rfl rfl rfl ?_
        refine zx_callSf (nn := 62) (d' := 0) (as := [zi (μ 18 k1), zi v]) (rest := [zi (nI (40 * k1 + i1)), zr 20]) (n := 2) (eX11_narrowed σ μ (μ 18 k1) v  ) kX11_narrowed mlX11_376 (by decide) rfl rfl (Nat.le_of_ble_eq_true rfl) dX11_write_59 rfl ?_
        show zX shR σ 2 MX11_write 62 [(0, zr 0), (1, zi (nI k1)), (2, zi (nI i1)), (3, zi v)] [zj ((pNar (μ 18 k1) v).toInt64), zi (nI (40 * k1 + i1)), zr 20] μ _
        refine zx_last (w := (pNar (μ 18 k1) v)) (nn := 63) rfl rfl (vp_in_nI (show 40 * k1 + i1 < 160 by have := n_k.1; have := n_i.2.1; omega) (by decide)) dX11_write_62 rfl ?_
        rw [nI_clamp (by omega)]
        show zX shR σ 2 MX11_write 63 [(0, zr 0), (1, zi (nI k1)), (2, zi (nI i1)), (3, zi v)] [] (zp μ 20 (40 * k1 + i1) (pNar (μ 18 k1) v)) _
        refine zx_iconst (v := 1) (nn := 64) rfl dX11_write_63 rfl ?_
        refine zx_iret rfl dX11_write_64 ?_
        exact ⟨congrArg (fun x => some (zi x)) (by rw [if_pos h4, n_k.2.2, if_neg (Int32.not_lt.mpr h15), if_pos (by rw [hln]; exact h36)]), by rw [n_k.2.2, if_pos ⟨h4, Int32.not_lt.mpr h15, by rw [hln]; exact h36⟩, n_i.2.2]⟩
      · refine zx_bipush (v := -12) (nn := 41) rfl dX11_write_39 rfl ?_
        refine zx_iret rfl dX11_write_41 ?_
        exact ⟨congrArg (fun x => some (zi x)) (by rw [if_pos h4, n_k.2.2, if_neg (Int32.not_lt.mpr h15), if_neg (by rw [hln, h36]; decide)]), by rw [if_neg (fun q => absurd q.2.2 (by rw [n_k.2.2, hln, h36]; decide))]⟩
    · refine zx_bipush (v := -11) (nn := 20) rfl dX11_write_18 rfl ?_
      refine zx_iret rfl dX11_write_20 ?_
      exact ⟨congrArg (fun x => some (zi x)) (by rw [if_pos h4, n_k.2.2, if_pos (Int32.not_le.mp h15)]), by rw [if_neg (fun q => q.2.1 (by rw [n_k.2.2]; exact Int32.not_le.mp h15))]⟩
  · refine zx_iconst (v := -1) (nn := 8) rfl dX11_write_7 rfl ?_
    refine zx_iret rfl dX11_write_8 ?_
    exact ⟨congrArg (fun x => some (zi x)) (by rw [if_neg (by rw [h4]; decide)]), by rw [if_neg (fun q => absurd q.1 (by rw [h4]; decide))]⟩
set_option maxHeartbeats 4000000 in
set_option maxRecDepth 100000 in
theorem eX11_item_0 (σ : zG) (μ : zM) (k : Int32) (q : Int32) (i : Int32) (hs : gSh μ) : zMet shR σ 2 MX11_item yX11_item [zr 0, zi k, zi q, zi i] μ (fun rr μ' => rr = some (zi (if pHas 4 k = true ∧ pIn q 0 4 = true then (if μ 18 k.toNatClampNeg < 0 then -11 else if μ 18 k.toNatClampNeg = q then (if pHas (μ 19 k.toNatClampNeg) i = true then μ 20 (40 * k.toNatClampNeg + i.toNatClampNeg) else -12) else -13) else -1)) ∧ μ' = μ) := by
  refine zmetF (by decide +kernel) rfl (Nat.le_of_ble_eq_true rfl) ?_
  show zX shR σ 2 MX11_item 0 [(0, zr 0), (1, zi k), (2, zi q), (3, zi i)] [] μ _
  refine zx_iload_n (k := 1) (nn := 1) dX11_item_0 rfl rfl rfl ?_
  refine zx_callSf (nn := 4) (d' := 1) (as := [zi k]) (rest := []) (n := 1) (eX11_isSheet σ μ k  ) kX11_isSheet mlX11_371 (by decide) rfl rfl (Nat.le_of_ble_eq_true rfl) dX11_item_1 rfl ?_
  show zX shR σ 2 MX11_item 4 [(0, zr 0), (1, zi k), (2, zi q), (3, zi i)] [zi (zb (pHas 4 k))] μ _
  refine zx_ifb_eq (tgt := 19) (nn := 7) dX11_item_4 (by decide) rfl (fun h4 => ?_) (fun h4 => ?_)
  · refine zx_iconst (v := -1) (nn := 20) rfl dX11_item_19 rfl ?_
    refine zx_iret rfl dX11_item_20 ?_
    refine ⟨congrArg (fun x => some (zi x)) ?_, rfl⟩
    rw [if_neg (fun q => absurd q.1 (by rw [h4]; decide))]
  · refine zx_iload_n (k := 2) (nn := 8) dX11_item_7 rfl rfl rfl ?_
    refine zx_i2l (nn := 9) dX11_item_8 rfl ?_
    refine zx_lconst (v := 0) (nn := 10) rfl dX11_item_9 rfl ?_
    refine zx_ldc2 (v := 4) (nn := 13) cwX11_326 dX11_item_10 rfl ?_
    refine zx_callSf (nn := 16) (d' := 0) (as := [zj q.toInt64, zj 0, zj 4]) (rest := []) (n := 3) (eX11_isIn σ μ q.toInt64 0 4  ) kX11_isIn mlX11_70 (by decide) rfl rfl (Nat.le_of_ble_eq_true rfl) dX11_item_13 rfl ?_
    show zX shR σ 2 MX11_item 16 [(0, zr 0), (1, zi k), (2, zi q), (3, zi i)] [zi (zb (decide (0 ≤ q.toInt64) && decide (q.toInt64 ≤ 4)))] μ _
    rw [show zb (decide (0 ≤ q.toInt64) && decide (q.toInt64 ≤ 4)) = zb (pIn q 0 4) from congrArg zb (in_r q 0 4)]
    show zX shR σ 2 MX11_item 16 [(0, zr 0), (1, zi k), (2, zi q), (3, zi i)] [zi (zb (pIn q 0 4))] μ _
    refine zx_ifb_ne (tgt := 21) (nn := 19) dX11_item_16 (by decide) rfl (fun h16 => ?_) (fun h16 => ?_)
    · obtain ⟨k1, n_k, rfl⟩ := has4 h4
      show zX shR σ 2 MX11_item 21 [(0, zr 0), (1, zi (nI k1)), (2, zi q), (3, zi i)] [] μ _
      obtain ⟨hsr, ln, hl40, hln⟩ := hs k1 n_k.1
      refine zx_aload_n (k := 0) (nn := 22) dX11_item_21 rfl rfl rfl ?_
      refine zx_getR (q := 18) (nn := 25) flX11_48 rfl rfl dX11_item_22 rfl ?_
      refine zx_iload_n (k := 1) (nn := 26) dX11_item_25 rfl rfl rfl ?_
      refine zx_iald_n (j := k1) (nn := 27) rfl n_k.1 (by decide) dX11_item_26 rfl ?_
      refine zx_if_ge (tgt := 33) (nn := 30) dX11_item_27 (by decide) rfl (fun h27 => ?_) (fun h27 => ?_)
      · refine zx_aload_n (k := 0) (nn := 34) dX11_item_33 rfl rfl rfl ?_
        refine zx_getR (q := 18) (nn := 37) flX11_48 rfl rfl dX11_item_34 rfl ?_
        refine zx_iload_n (k := 1) (nn := 38) dX11_item_37 rfl rfl rfl ?_
        refine zx_iald_n (j := k1) (nn := 39) rfl n_k.1 (by decide) dX11_item_38 rfl ?_
        refine zx_iload_n (k := 2) (nn := 40) dX11_item_39 rfl rfl rfl ?_
        refine zx_icmp_eq (tgt := 46) (nn := 43) dX11_item_40 (by decide) rfl (fun h40 => ?_) (fun h40 => ?_)
        · refine zx_iload_n (k := 3) (nn := 47) dX11_item_46 rfl rfl rfl ?_
          refine zx_i2l (nn := 48) dX11_item_47 rfl ?_
          refine zx_lconst (v := 0) (nn := 49) rfl dX11_item_48 rfl ?_
          refine zx_aload_n (k := 0) (nn := 50) dX11_item_49 rfl rfl rfl ?_
          refine zx_getR (q := 19) (nn := 53) flX11_51 rfl rfl dX11_item_50 rfl ?_
          refine zx_iload_n (k := 1) (nn := 54) dX11_item_53 rfl rfl rfl ?_
          refine zx_iald_n (j := k1) (nn := 55) rfl n_k.1 (by decide) dX11_item_54 rfl ?_
          rw [show μ 19 k1 = nI ln from hln]
          show zX shR σ 2 MX11_item 55 [(0, zr 0), (1, zi (nI k1)), (2, zi q), (3, zi i)] [zi (nI ln), zj 0, zj i.toInt64] μ _
          refine zx_iconst (v := 1) (nn := 56) rfl dX11_item_55 rfl ?_
          refine zx_isub (nn := 57) dX11_item_56 rfl ?_
          refine zx_i2l (nn := 58) dX11_item_57 rfl ?_
          refine zx_callSf (nn := 61) (d' := 0) (as := [zj i.toInt64, zj 0, zj (((nI ln) - 1).toInt64)]) (rest := []) (n := 3) (eX11_isIn σ μ i.toInt64 0 (((nI ln) - 1).toInt64)  ) kX11_isIn mlX11_70 (by decide) rfl rfl (Nat.le_of_ble_eq_true rfl) dX11_item_58 rfl ?_
          show zX shR σ 2 MX11_item 61 [(0, zr 0), (1, zi (nI k1)), (2, zi q), (3, zi i)] [zi (zb (decide (0 ≤ i.toInt64) && decide (i.toInt64 ≤ (((nI ln) - 1).toInt64))))] μ _
          rw [show zb (decide (0 ≤ i.toInt64) && decide (i.toInt64 ≤ (((nI ln) - 1).toInt64))) = zb (pHas (nI ln) i) from congrArg zb (has_r ln (by omega) i)]
          show zX shR σ 2 MX11_item 61 [(0, zr 0), (1, zi (nI k1)), (2, zi q), (3, zi i)] [zi (zb (pHas (nI ln) i))] μ _
          refine zx_ifb_eq (tgt := 79) (nn := 64) dX11_item_61 (by decide) rfl (fun h61 => ?_) (fun h61 => ?_)
          · refine zx_bipush (v := -12) (nn := 81) rfl dX11_item_79 rfl ?_
            refine zx_iret rfl dX11_item_81 ?_
            refine ⟨congrArg (fun x => some (zi x)) ?_, rfl⟩
            rw [if_pos ⟨h4, h16⟩, n_k.2.2, if_neg (Int32.not_lt.mpr h27), if_pos h40, if_neg (by rw [hln, h61]; decide)]
          · obtain ⟨i1, n_i, rfl⟩ := has_item rfl hl40 h61
            show zX shR σ 2 MX11_item 64 [(0, zr 0), (1, zi (nI k1)), (2, zi q), (3, zi (nI i1))] [] μ _
            refine zx_aload_n (k := 0) (nn := 65) dX11_item_64 rfl rfl rfl ?_
            refine zx_getR (q := 20) (nn := 68) flX11_54 rfl rfl dX11_item_65 rfl ?_
            refine zx_bipush (v := 40) (nn := 70) rfl dX11_item_68 rfl ?_
            refine zx_iload_n (k := 1) (nn := 71) dX11_item_70 rfl rfl rfl ?_
            refine zx_imul (nn := 72) dX11_item_71 rfl ?_
            refine zx_iload_n (k := 3) (nn := 73) dX11_item_72 rfl rfl rfl ?_
            refine zx_iadd (nn := 74) dX11_item_73 rfl ?_
            rw [show (40 * (nI k1)) + (nI i1) = nI (40 * k1 + i1) from by simp only [show (40 : Int32) = nI 40 from rfl, nI_mulN, nI_add]]
            show zX shR σ 2 MX11_item 74 [(0, zr 0), (1, zi (nI k1)), (2, zi q), (3, zi (nI i1))] [zi (nI (40 * k1 + i1)), zr 20] μ _
            refine zx_lald (nn := 75) rfl (vp_in_nI (show 40 * k1 + i1 < 160 by have := n_k.1; have := n_i.2.1; omega) (by decide)) dX11_item_74 rfl ?_
            rw [nI_clamp (by omega)]
            show zX shR σ 2 MX11_item 75 [(0, zr 0), (1, zi (nI k1)), (2, zi q), (3, zi (nI i1))] [zj ((μ 20 (40 * k1 + i1)).toInt64)] μ _
            refine zx_l2i (nn := 76) dX11_item_75 rfl ?_
            rw [show ((μ 20 (40 * k1 + i1)).toInt64).toInt32 = μ 20 (40 * k1 + i1) from Int32.toInt32_toInt64 _]
            show zX shR σ 2 MX11_item 76 [(0, zr 0), (1, zi (nI k1)), (2, zi q), (3, zi (nI i1))] [zi (μ 20 (40 * k1 + i1))] μ _
            refine zx_goto (tgt := 81) dX11_item_76 (by decide) ?_
            refine zx_iret rfl dX11_item_81 ?_
            refine ⟨congrArg (fun x => some (zi x)) ?_, rfl⟩
            rw [if_pos ⟨h4, h16⟩, n_k.2.2, if_neg (Int32.not_lt.mpr h27), if_pos h40, if_pos (by rw [hln]; exact h61), n_i.2.2]
        · refine zx_bipush (v := -13) (nn := 45) rfl dX11_item_43 rfl ?_
          refine zx_iret rfl dX11_item_45 ?_
          refine ⟨congrArg (fun x => some (zi x)) ?_, rfl⟩
          rw [if_pos ⟨h4, h16⟩, n_k.2.2, if_neg (Int32.not_lt.mpr h27), if_neg h40]
      · refine zx_bipush (v := -11) (nn := 32) rfl dX11_item_30 rfl ?_
        refine zx_iret rfl dX11_item_32 ?_
        refine ⟨congrArg (fun x => some (zi x)) ?_, rfl⟩
        rw [if_pos ⟨h4, h16⟩, n_k.2.2, if_pos (Int32.not_le.mp h27)]
    · refine zx_iconst (v := -1) (nn := 20) rfl dX11_item_19 rfl ?_
      refine zx_iret rfl dX11_item_20 ?_
      refine ⟨congrArg (fun x => some (zi x)) ?_, rfl⟩
      rw [if_neg (fun q => absurd q.2 (by rw [h16]; decide))]
set_option maxHeartbeats 4000000 in
set_option maxRecDepth 100000 in
theorem eX11_noActs_0 (σ : zG) (μ : zM) (k : Int32) (n : Int32) : zMet shR σ 2 MX11_noActs yX11_noActs [zr 0, zi k, zi n] μ (fun rr μ' => rr = some (zi (if pHas 4 k = true ∧ pIn n 0 20 = true then (if μ 18 k.toNatClampNeg < 0 then -11 else if μ 18 k.toNatClampNeg = 0 then 0 else -13) else -1)) ∧ μ' = μ) := by
  refine zmetF (by decide +kernel) rfl (Nat.le_of_ble_eq_true rfl) ?_
  show zX shR σ 2 MX11_noActs 0 [(0, zr 0), (1, zi k), (2, zi n)] [] μ _
  refine zx_iload_n (k := 1) (nn := 1) dX11_noActs_0 rfl rfl rfl ?_
  refine zx_callSf (nn := 4) (d' := 1) (as := [zi k]) (rest := []) (n := 1) (eX11_isSheet σ μ k  ) kX11_isSheet mlX11_371 (by decide) rfl rfl (Nat.le_of_ble_eq_true rfl) dX11_noActs_1 rfl ?_
  show zX shR σ 2 MX11_noActs 4 [(0, zr 0), (1, zi k), (2, zi n)] [zi (zb (pHas 4 k))] μ _
  refine zx_ifb_eq (tgt := 19) (nn := 7) dX11_noActs_4 (by decide) rfl (fun h4 => ?_) (fun h4 => ?_)
  · refine zx_iconst (v := -1) (nn := 20) rfl dX11_noActs_19 rfl ?_
    refine zx_iret rfl dX11_noActs_20 ?_
    refine ⟨congrArg (fun x => some (zi x)) ?_, rfl⟩
    rw [if_neg (fun q => absurd q.1 (by rw [h4]; decide))]
  · refine zx_iload_n (k := 2) (nn := 8) dX11_noActs_7 rfl rfl rfl ?_
    refine zx_i2l (nn := 9) dX11_noActs_8 rfl ?_
    refine zx_lconst (v := 0) (nn := 10) rfl dX11_noActs_9 rfl ?_
    refine zx_ldc2 (v := 20) (nn := 13) cwX11_380 dX11_noActs_10 rfl ?_
    refine zx_callSf (nn := 16) (d' := 0) (as := [zj n.toInt64, zj 0, zj 20]) (rest := []) (n := 3) (eX11_isIn σ μ n.toInt64 0 20  ) kX11_isIn mlX11_70 (by decide) rfl rfl (Nat.le_of_ble_eq_true rfl) dX11_noActs_13 rfl ?_
    show zX shR σ 2 MX11_noActs 16 [(0, zr 0), (1, zi k), (2, zi n)] [zi (zb (decide (0 ≤ n.toInt64) && decide (n.toInt64 ≤ 20)))] μ _
    rw [show zb (decide (0 ≤ n.toInt64) && decide (n.toInt64 ≤ 20)) = zb (pIn n 0 20) from congrArg zb (in_r n 0 20)]
    show zX shR σ 2 MX11_noActs 16 [(0, zr 0), (1, zi k), (2, zi n)] [zi (zb (pIn n 0 20))] μ _
    refine zx_ifb_ne (tgt := 21) (nn := 19) dX11_noActs_16 (by decide) rfl (fun h16 => ?_) (fun h16 => ?_)
    · obtain ⟨k1, n_k, rfl⟩ := has4 h4
      show zX shR σ 2 MX11_noActs 21 [(0, zr 0), (1, zi (nI k1)), (2, zi n)] [] μ _
      refine zx_aload_n (k := 0) (nn := 22) dX11_noActs_21 rfl rfl rfl ?_
      refine zx_getR (q := 18) (nn := 25) flX11_48 rfl rfl dX11_noActs_22 rfl ?_
      refine zx_iload_n (k := 1) (nn := 26) dX11_noActs_25 rfl rfl rfl ?_
      refine zx_iald_n (j := k1) (nn := 27) rfl n_k.1 (by decide) dX11_noActs_26 rfl ?_
      refine zx_if_ge (tgt := 35) (nn := 30) dX11_noActs_27 (by decide) rfl (fun h27 => ?_) (fun h27 => ?_)
      · refine zx_aload_n (k := 0) (nn := 36) dX11_noActs_35 rfl rfl rfl ?_
        refine zx_getR (q := 18) (nn := 39) flX11_48 rfl rfl dX11_noActs_36 rfl ?_
        refine zx_iload_n (k := 1) (nn := 40) dX11_noActs_39 rfl rfl rfl ?_
        refine zx_iald_n (j := k1) (nn := 41) rfl n_k.1 (by decide) dX11_noActs_40 rfl ?_
        refine zx_if_ne (tgt := 48) (nn := 44) dX11_noActs_41 (by decide) rfl (fun h41 => ?_) (fun h41 => ?_)
        · refine zx_bipush (v := -13) (nn := 50) rfl dX11_noActs_48 rfl ?_
          refine zx_iret rfl dX11_noActs_50 ?_
          refine ⟨congrArg (fun x => some (zi x)) ?_, rfl⟩
          rw [if_pos ⟨h4, h16⟩, n_k.2.2, if_neg (Int32.not_lt.mpr h27), if_neg h41]
        · refine zx_iconst (v := 0) (nn := 45) rfl dX11_noActs_44 rfl ?_
          refine zx_goto (tgt := 50) dX11_noActs_45 (by decide) ?_
          refine zx_iret rfl dX11_noActs_50 ?_
          refine ⟨congrArg (fun x => some (zi x)) ?_, rfl⟩
          rw [if_pos ⟨h4, h16⟩, n_k.2.2, if_neg (Int32.not_lt.mpr h27), if_pos h41]
      · refine zx_bipush (v := -11) (nn := 32) rfl dX11_noActs_30 rfl ?_
        refine zx_goto (tgt := 50) dX11_noActs_32 (by decide) ?_
        refine zx_iret rfl dX11_noActs_50 ?_
        refine ⟨congrArg (fun x => some (zi x)) ?_, rfl⟩
        rw [if_pos ⟨h4, h16⟩, n_k.2.2, if_pos (Int32.not_le.mp h27)]
    · refine zx_iconst (v := -1) (nn := 20) rfl dX11_noActs_19 rfl ?_
      refine zx_iret rfl dX11_noActs_20 ?_
      refine ⟨congrArg (fun x => some (zi x)) ?_, rfl⟩
      rw [if_neg (fun q => absurd q.2 (by rw [h16]; decide))]
set_option maxHeartbeats 4000000 in
set_option maxRecDepth 100000 in
theorem eX11_hasItem_0 (σ : zG) (μ : zM) (k : Nat) (i : Int64) (ln : Nat) (hk : k < 4) (hln : μ 19 k = nI ln) : zMet shR σ 1 MX11_hasItem yX11_hasItem [zr 0, zi (nI k), zj i] μ (fun rr μ' => rr = some (zi (zb (decide (0 ≤ i) && decide (i ≤ (nI ln - 1).toInt64)))) ∧ μ' = μ) := by
  refine zmetF (by decide +kernel) rfl (Nat.le_of_ble_eq_true rfl) ?_
  show zX shR σ 1 MX11_hasItem 0 [(0, zr 0), (1, zi (nI k)), (2, zj i)] [] μ _
  refine zx_lload_n (k := 2) (nn := 1) dX11_hasItem_0 rfl rfl rfl ?_
  refine zx_lconst (v := 0) (nn := 2) rfl dX11_hasItem_1 rfl ?_
  refine zx_aload_n (k := 0) (nn := 3) dX11_hasItem_2 rfl rfl rfl ?_
  refine zx_getR (q := 19) (nn := 6) flX11_51 rfl rfl dX11_hasItem_3 rfl ?_
  refine zx_iload_n (k := 1) (nn := 7) dX11_hasItem_6 rfl rfl rfl ?_
  refine zx_iald_n (j := k) (nn := 8) rfl hk (by decide) dX11_hasItem_7 rfl ?_
  rw [show μ 19 k = nI ln from hln]
  show zX shR σ 1 MX11_hasItem 8 [(0, zr 0), (1, zi (nI k)), (2, zj i)] [zi (nI ln), zj 0, zj i] μ _
  refine zx_iconst (v := 1) (nn := 9) rfl dX11_hasItem_8 rfl ?_
  refine zx_isub (nn := 10) dX11_hasItem_9 rfl ?_
  refine zx_i2l (nn := 11) dX11_hasItem_10 rfl ?_
  refine zx_callSf (nn := 14) (d' := 0) (as := [zj i, zj 0, zj (((nI ln) - 1).toInt64)]) (rest := []) (n := 3) (eX11_isIn σ μ i 0 (((nI ln) - 1).toInt64)  ) kX11_isIn mlX11_70 (by decide) rfl rfl (Nat.le_of_ble_eq_true rfl) dX11_hasItem_11 rfl ?_
  show zX shR σ 1 MX11_hasItem 14 [(0, zr 0), (1, zi (nI k)), (2, zj i)] [zi (zb (decide (0 ≤ i) && decide (i ≤ (((nI ln) - 1).toInt64))))] μ _
  refine zx_zret rfl (zb_nar _) dX11_hasItem_14 ?_
  exact ⟨rfl, rfl⟩
