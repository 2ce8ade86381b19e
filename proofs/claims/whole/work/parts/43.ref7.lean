theorem gRep_R {ρ : pR} {c e : Nat → Int32} (hk : ∀ i, i = 5 ∨ (71 ≤ i ∧ i < 521) → e i = c i) (h : rRep ρ c) : rRep ρ e := by
  have er : ∀ (F : Nat → Int32) (m k : Nat) (st : List Int32), k + m ≤ 200 → rRun F e k m st = rRun F c k m st := by
    intro F m
    induction m with
    | zero => intro k st _; rfl
    | succ m ih =>
      intro k st hkm
      unfold rRun
      rw [hk (111 + 2 * k) (by omega), hk (111 + 2 * k + 1) (by omega)]
      cases rStep F (c (111 + 2 * k)) (c (111 + 2 * k + 1)) st with
      | none => rfl
      | some t => exact ih (k + 1) t (by omega)
  unfold rRep at h ⊢
  rw [hk 5 (by omega)]
  refine ⟨h.1, h.2.1, fun r hr => ?_⟩
  have h8 := h.2.1
  obtain ⟨q1, q2, a, b, q3, q4, q5, q6, q7⟩ := h.2.2 r hr
  rw [hk (71 + 5 * r) (by omega), hk (71 + 5 * r + 1) (by omega), hk (71 + 5 * r + 2) (by omega), hk (71 + 5 * r + 3) (by omega), hk (71 + 5 * r + 4) (by omega)]
  refine ⟨q1, q2, a, b, q3, q4, q5, q6, fun F => ?_⟩
  rw [er F (b - a) a [] (by omega)]
  exact q7 F
theorem rS_521 {k q : Nat} {μ ν : zM} (h : ∀ j, j < 521 → ν k j = μ q j) : rS k ν = rS q μ := by
  funext i
  unfold rS
  by_cases e : i < 47 ∧ i ≠ 5 ∧ i ≠ 6
  · rw [if_pos e, if_pos e, h i (by omega)]
  · rw [if_neg e, if_neg e]
theorem pAB_slip {s : Nat → Int32} (ab : pAB s) (hB : pB s ≤ 16) : pAB (pSlip s) := by
  unfold pSlip
  refine pAB_put (pAB_put ab (by omega) (Or.inr ⟨fun l => by omega, Or.inl (by omega)⟩) hB) (by omega) (Or.inl (pW_b _)) ?_
  rw [(pPut_n (by omega)).2.1]
  exact hB
theorem pAB_runLot {ρ : pR} {s : Nat → Int32} (ok : pOK s) (ab : pAB s) : ∀ m, m ≤ pB s - pb s → pAB (pRunLot ρ s m)
  | 0, _ => ab
  | m + 1, h => by
    have h1 := pRunLot_ok (ρ := ρ) ok m (by omega)
    exact pAB_go (pOK_slip h1.1) (pAB_slip (pAB_runLot ok ab m (by omega)) (by rw [h1.2.2]; exact (ok_B ok).2))
theorem pTimes_le {ρ : pR} {s : Nat → Int32} {v : Int32} : ∀ n, (pTimes ρ s v n).1 ≤ n
  | 0 => Nat.le_refl _
  | n + 1 => by
    have := pTimes_le (ρ := ρ) (s := s) (v := v) n
    show (if v ≤ pLotSum ρ (pPut s 4 (pTimes ρ s v n).2) (pRem s) then (pTimes ρ s v n).1 + 1 else (pTimes ρ s v n).1) ≤ n + 1
    split
    · exact Nat.succ_le_succ this
    · exact Nat.le_succ_of_le this
set_option maxHeartbeats 4000000 in
set_option maxRecDepth 100000 in
theorem eX11_findBest_0 (σ : zG) (μ : zM) (n : Nat) {ρ : pR} (ok : pOK (rS 1 μ)) (ab : pAB (rS 1 μ)) (hρ : rRep ρ (μ 1)) (hn : n ≤ 4) : zMet shR σ 12 MX11_findBest yX11_findBest [zr 0, zi (nI n)] μ (fun rr μ' => rr = none ∧ (μ' 0 20 = (pPlan ρ (rS 1 μ) n).1 ∧ μ' 0 21 = nI (pPlan ρ (rS 1 μ) n).2.1 ∧ μ' 0 22 = nI (min n (pRem (rS 1 μ))) ∧ ∀ i, i < min n (pRem (rS 1 μ)) → μ' 16 i = (pPlan ρ (rS 1 μ) n).2.2 i) ∧ zJ rJS μ μ' ∧ rFr μ μ') := by
  refine zmetF (by decide +kernel) rfl (Nat.le_of_ble_eq_true rfl) ?_
  show zX shR σ 12 MX11_findBest 0 [(0, zr 0), (1, zi (nI n))] [] μ _
  refine zx_aload_n (k := 0) (nn := 1) dX11_findBest_0 rfl rfl rfl ?_
  refine zx_iconst (v := -1) (nn := 2) rfl dX11_findBest_1 rfl ?_
  refine zx_putI (nn := 5) fpX11_313 rfl rfl rfl rfl dX11_findBest_2 rfl ?_
  refine zx_aload_n (k := 0) (nn := 6) dX11_findBest_5 rfl rfl rfl ?_
  refine zx_iconst (v := 0) (nn := 7) rfl dX11_findBest_6 rfl ?_
  refine zx_iload_n (k := 1) (nn := 8) dX11_findBest_7 rfl rfl rfl ?_
  refine zx_iconst (v := 0) (nn := 9) rfl dX11_findBest_8 rfl ?_
  refine zx_callV (nn := 12) (k := 0) (d' := 7 + (min n (pRem (rS 1 μ)))) (as := [zi 0, zi (nI n), zi 0]) (rest := []) (n := 3) (eX11_plans σ ρ n hn (min n (pRem (rS 1 μ))) 0 (zp μ 0 20 (-1)) (pNo (rS 1 μ)) 0 (fun _ => 0) (-1, 0, fun _ => 0) (Nat.zero_le _) (by rw [pNo_n.1, pNo_n.2.1]; rfl) (by decide) (by decide) (by rw [zp_ne (by decide)]; exact hρ) (pNo_ok.mpr ok) (pAB_no.mpr ab) (pNo_no _) (by rw [rS_eq (k := 1) (μ := (zp μ 0 20 (-1))) (ν := μ) (zp_ne (by decide))]) ⟨by simp [zp, zu, upd], Or.inl (by rw [ztm1]; omega)⟩ (fun i h => absurd h (by omega))) kX11_plans mlX11_322 rfl rfl rfl (by omega) rfl rfl (Nat.le_of_ble_eq_true rfl) dX11_findBest_9 rfl ?_
  rintro _ ν1 ⟨rfl, s1, s2, s3, s4, s5⟩
  show zX shR σ 12 MX11_findBest 12 [(0, zr 0), (1, zi (nI n))] [] ν1 _
  refine zx_vret rfl dX11_findBest_12 ?_
  have hP : pSearch ρ (min n (pRem (rS 1 μ))) 0 (pNo (rS 1 μ)) 0 (fun _ => 0) (-1, 0, fun _ => 0) = pPlan ρ (rS 1 μ) n := rfl
  have hp0 : 0 ≤ (pPlan ρ (rS 1 μ) n).1.toInt := pSearch_p _ 0 _ _ _ _ (by omega) (pNo_ok.mpr ok) (by rw [pNo_n.1, pNo_n.2.1]; unfold pRem; omega) (by decide) (by decide)
  rw [hP, Nat.zero_add] at s1
  obtain ⟨t1, t2⟩ := s1
  rcases t2 with t2 | t2
  · omega
  · exact ⟨rfl, ⟨t1, t2⟩, (zJ.rf.p (by decide)).tr s2, rFr_tr (fun j a b c => by rw [zp_eq, pk_un a]) s3⟩
set_option maxHeartbeats 4000000 in
set_option maxRecDepth 100000 in
theorem eX11_best_0 (σ : zG) (μ : zM) (n : Int32) {ρ : pR} (ok : pOK (rS 1 μ)) (ab : pAB (rS 1 μ)) (hρ : rRep ρ (μ 1)) : zMet shR σ 13 MX11_best yX11_best [zr 0, zi n] μ (fun rr μ' => rr = some (zi (vBest ρ (rS 1 μ) n)) ∧ zJ rJS μ μ' ∧ rFr μ μ') := by
  refine zmetF (by decide +kernel) rfl (Nat.le_of_ble_eq_true rfl) ?_
  show zX shR σ 13 MX11_best 0 [(0, zr 0), (1, zi n)] [] μ _
  refine zx_iload_n (k := 1) (nn := 1) dX11_best_0 rfl rfl rfl ?_
  refine zx_i2l (nn := 2) dX11_best_1 rfl ?_
  refine zx_lconst (v := 0) (nn := 3) rfl dX11_best_2 rfl ?_
  refine zx_ldc2 (v := 4) (nn := 6) cwX11_326 dX11_best_3 rfl ?_
  refine zx_callSf (nn := 9) (d' := 0) (as := [zj n.toInt64, zj 0, zj 4]) (rest := []) (n := 3) (eX11_isIn σ μ n.toInt64 0 4  ) kX11_isIn mlX11_70 (by decide) rfl rfl (Nat.le_of_ble_eq_true rfl) dX11_best_6 rfl ?_
  show zX shR σ 13 MX11_best 9 [(0, zr 0), (1, zi n)] [zi (zb (decide (0 ≤ n.toInt64) && decide (n.toInt64 ≤ 4)))] μ _
  rw [show zb (decide (0 ≤ n.toInt64) && decide (n.toInt64 ≤ 4)) = zb (pIn n 0 4) from congrArg zb (in_r n 0 4)]
  show zX shR σ 13 MX11_best 9 [(0, zr 0), (1, zi n)] [zi (zb (pIn n 0 4))] μ _
  refine zx_ifb_ne (tgt := 14) (nn := 12) dX11_best_9 (by decide) rfl (fun h9 => ?_) (fun h9 => ?_)
  · obtain ⟨n1, n_n, rfl⟩ := pIn_n (b := 4) (by omega) (by decide) h9
    show zX shR σ 13 MX11_best 14 [(0, zr 0), (1, zi (nI n1))] [] μ _
    refine zx_aload_n (k := 0) (nn := 15) dX11_best_14 rfl rfl rfl ?_
    refine zx_iload_n (k := 1) (nn := 16) dX11_best_15 rfl rfl rfl ?_
    refine zx_callV (nn := 19) (k := 0) (d' := 12) (as := [zi (nI n1)]) (rest := []) (n := 1) (eX11_findBest_0 σ μ n1  ok ab hρ n_n.1) kX11_findBest mlX11_328 rfl rfl rfl (by decide) rfl rfl (Nat.le_of_ble_eq_true rfl) dX11_best_16 rfl ?_
    rintro _ ν1 ⟨rfl, q1⟩
    show zX shR σ 13 MX11_best 19 [(0, zr 0), (1, zi (nI n1))] [] ν1 _
    refine zx_aload_n (k := 0) (nn := 20) dX11_best_19 rfl rfl rfl ?_
    refine zx_getI (nn := 23) flX11_313 rfl rfl dX11_best_20 rfl ?_
    refine zx_iret rfl dX11_best_23 ?_
    refine ⟨congrArg (fun x => some (zi x)) ?_, q1.2⟩
    unfold vBest
    rw [if_pos h9, n_n.2]
    exact q1.1.1
  · refine zx_iconst (v := -1) (nn := 13) rfl dX11_best_12 rfl ?_
    refine zx_iret rfl dX11_best_13 ?_
    refine ⟨congrArg (fun x => some (zi x)) ?_, zJ.rf, rFr_rf⟩
    simp [vBest, h9]
set_option maxHeartbeats 4000000 in
set_option maxRecDepth 100000 in
theorem eX11_ways_0 (σ : zG) (μ : zM) (n : Int32) {ρ : pR} (ok : pOK (rS 1 μ)) (ab : pAB (rS 1 μ)) (hρ : rRep ρ (μ 1)) : zMet shR σ 13 MX11_ways yX11_ways [zr 0, zi n] μ (fun rr μ' => rr = some (zi (vWays ρ (rS 1 μ) n)) ∧ zJ rJS μ μ' ∧ rFr μ μ') := by
  refine zmetF (by decide +kernel) rfl (Nat.le_of_ble_eq_true rfl) ?_
  show zX shR σ 13 MX11_ways 0 [(0, zr 0), (1, zi n)] [] μ _
  refine zx_iload_n (k := 1) (nn := 1) dX11_ways_0 rfl rfl rfl ?_
  refine zx_i2l (nn := 2) dX11_ways_1 rfl ?_
  refine zx_lconst (v := 0) (nn := 3) rfl dX11_ways_2 rfl ?_
  refine zx_ldc2 (v := 4) (nn := 6) cwX11_326 dX11_ways_3 rfl ?_
  refine zx_callSf (nn := 9) (d' := 0) (as := [zj n.toInt64, zj 0, zj 4]) (rest := []) (n := 3) (eX11_isIn σ μ n.toInt64 0 4  ) kX11_isIn mlX11_70 (by decide) rfl rfl (Nat.le_of_ble_eq_true rfl) dX11_ways_6 rfl ?_
  show zX shR σ 13 MX11_ways 9 [(0, zr 0), (1, zi n)] [zi (zb (decide (0 ≤ n.toInt64) && decide (n.toInt64 ≤ 4)))] μ _
  rw [show zb (decide (0 ≤ n.toInt64) && decide (n.toInt64 ≤ 4)) = zb (pIn n 0 4) from congrArg zb (in_r n 0 4)]
  show zX shR σ 13 MX11_ways 9 [(0, zr 0), (1, zi n)] [zi (zb (pIn n 0 4))] μ _
  refine zx_ifb_ne (tgt := 14) (nn := 12) dX11_ways_9 (by decide) rfl (fun h9 => ?_) (fun h9 => ?_)
  · obtain ⟨n1, n_n, rfl⟩ := pIn_n (b := 4) (by omega) (by decide) h9
    show zX shR σ 13 MX11_ways 14 [(0, zr 0), (1, zi (nI n1))] [] μ _
    refine zx_aload_n (k := 0) (nn := 15) dX11_ways_14 rfl rfl rfl ?_
    refine zx_iload_n (k := 1) (nn := 16) dX11_ways_15 rfl rfl rfl ?_
    refine zx_callV (nn := 19) (k := 0) (d' := 12) (as := [zi (nI n1)]) (rest := []) (n := 1) (eX11_findBest_0 σ μ n1  ok ab hρ n_n.1) kX11_findBest mlX11_328 rfl rfl rfl (by decide) rfl rfl (Nat.le_of_ble_eq_true rfl) dX11_ways_16 rfl ?_
    rintro _ ν1 ⟨rfl, q1⟩
    show zX shR σ 13 MX11_ways 19 [(0, zr 0), (1, zi (nI n1))] [] ν1 _
    refine zx_aload_n (k := 0) (nn := 20) dX11_ways_19 rfl rfl rfl ?_
    refine zx_getI (nn := 23) flX11_316 rfl rfl dX11_ways_20 rfl ?_
    refine zx_iret rfl dX11_ways_23 ?_
    refine ⟨congrArg (fun x => some (zi x)) ?_, q1.2⟩
    unfold vWays
    rw [if_pos h9, n_n.2]
    exact q1.1.2.1
  · refine zx_iconst (v := -1) (nn := 13) rfl dX11_ways_12 rfl ?_
    refine zx_iret rfl dX11_ways_13 ?_
    refine ⟨congrArg (fun x => some (zi x)) ?_, zJ.rf, rFr_rf⟩
    simp [vWays, h9]
set_option maxHeartbeats 4000000 in
set_option maxRecDepth 100000 in
theorem eX11_ith_0 (σ : zG) (μ : zM) (n : Int32) (i : Int32) {ρ : pR} (ok : pOK (rS 1 μ)) (ab : pAB (rS 1 μ)) (hρ : rRep ρ (μ 1)) : zMet shR σ 13 MX11_ith yX11_ith [zr 0, zi n, zi i] μ (fun rr μ' => rr = some (zi (vIth ρ (rS 1 μ) n i)) ∧ zJ rJS μ μ' ∧ rFr μ μ') := by
  refine zmetF (by decide +kernel) rfl (Nat.le_of_ble_eq_true rfl) ?_
  show zX shR σ 13 MX11_ith 0 [(0, zr 0), (1, zi n), (2, zi i)] [] μ _
  refine zx_iload_n (k := 1) (nn := 1) dX11_ith_0 rfl rfl rfl ?_
  refine zx_i2l (nn := 2) dX11_ith_1 rfl ?_
  refine zx_lconst (v := 0) (nn := 3) rfl dX11_ith_2 rfl ?_
  refine zx_ldc2 (v := 4) (nn := 6) cwX11_326 dX11_ith_3 rfl ?_
  refine zx_callSf (nn := 9) (d' := 0) (as := [zj n.toInt64, zj 0, zj 4]) (rest := []) (n := 3) (eX11_isIn σ μ n.toInt64 0 4  ) kX11_isIn mlX11_70 (by decide) rfl rfl (Nat.le_of_ble_eq_true rfl) dX11_ith_6 rfl ?_
  show zX shR σ 13 MX11_ith 9 [(0, zr 0), (1, zi n), (2, zi i)] [zi (zb (decide (0 ≤ n.toInt64) && decide (n.toInt64 ≤ 4)))] μ _
  rw [show zb (decide (0 ≤ n.toInt64) && decide (n.toInt64 ≤ 4)) = zb (pIn n 0 4) from congrArg zb (in_r n 0 4)]
  show zX shR σ 13 MX11_ith 9 [(0, zr 0), (1, zi n), (2, zi i)] [zi (zb (pIn n 0 4))] μ _
  refine zx_ifb_eq (tgt := 24) (nn := 12) dX11_ith_9 (by decide) rfl (fun h9 => ?_) (fun h9 => ?_)
  · refine zx_iconst (v := -1) (nn := 25) rfl dX11_ith_24 rfl ?_
    refine zx_iret rfl dX11_ith_25 ?_
    refine ⟨congrArg (fun x => some (zi x)) ?_, zJ.rf, rFr_rf⟩
    simp [vIth, h9]
  · refine zx_iload_n (k := 2) (nn := 13) dX11_ith_12 rfl rfl rfl ?_
    refine zx_i2l (nn := 14) dX11_ith_13 rfl ?_
    refine zx_lconst (v := 0) (nn := 15) rfl dX11_ith_14 rfl ?_
    refine zx_ldc2 (v := 3) (nn := 18) cwX11_332 dX11_ith_15 rfl ?_
    refine zx_callSf (nn := 21) (d' := 0) (as := [zj i.toInt64, zj 0, zj 3]) (rest := []) (n := 3) (eX11_isIn σ μ i.toInt64 0 3  ) kX11_isIn mlX11_70 (by decide) rfl rfl (Nat.le_of_ble_eq_true rfl) dX11_ith_18 rfl ?_
    show zX shR σ 13 MX11_ith 21 [(0, zr 0), (1, zi n), (2, zi i)] [zi (zb (decide (0 ≤ i.toInt64) && decide (i.toInt64 ≤ 3)))] μ _
    rw [show zb (decide (0 ≤ i.toInt64) && decide (i.toInt64 ≤ 3)) = zb (pIn i 0 3) from congrArg zb (in_r i 0 3)]
    show zX shR σ 13 MX11_ith 21 [(0, zr 0), (1, zi n), (2, zi i)] [zi (zb (pIn i 0 3))] μ _
    refine zx_ifb_ne (tgt := 26) (nn := 24) dX11_ith_21 (by decide) rfl (fun h21 => ?_) (fun h21 => ?_)
    · obtain ⟨n1, n_n, rfl⟩ := pIn_n (b := 4) (by omega) (by decide) h9
      show zX shR σ 13 MX11_ith 26 [(0, zr 0), (1, zi (nI n1)), (2, zi i)] [] μ _
      obtain ⟨i1, n_i, rfl⟩ := pIn_n (b := 3) (by omega) (by decide) h21
      show zX shR σ 13 MX11_ith 26 [(0, zr 0), (1, zi (nI n1)), (2, zi (nI i1))] [] μ _
      refine zx_aload_n (k := 0) (nn := 27) dX11_ith_26 rfl rfl rfl ?_
      refine zx_iload_n (k := 1) (nn := 28) dX11_ith_27 rfl rfl rfl ?_
      refine zx_callV (nn := 31) (k := 0) (d' := 12) (as := [zi (nI n1)]) (rest := []) (n := 1) (eX11_findBest_0 σ μ n1  ok ab hρ n_n.1) kX11_findBest mlX11_328 rfl rfl rfl (by decide) rfl rfl (Nat.le_of_ble_eq_true rfl) dX11_ith_28 rfl ?_
      rintro _ ν1 ⟨rfl, q1⟩
      show zX shR σ 13 MX11_ith 31 [(0, zr 0), (1, zi (nI n1)), (2, zi (nI i1))] [] ν1 _
      refine zx_iload_n (k := 2) (nn := 32) dX11_ith_31 rfl rfl rfl ?_
      refine zx_aload_n (k := 0) (nn := 33) dX11_ith_32 rfl rfl rfl ?_
      refine zx_getI (nn := 36) flX11_319 rfl rfl dX11_ith_33 rfl ?_
      rw [show ν1 0 22 = nI (min n1 (pRem (rS 1 μ))) from q1.1.2.2.1]
      show zX shR σ 13 MX11_ith 36 [(0, zr 0), (1, zi (nI n1)), (2, zi (nI i1))] [zi (nI (min n1 (pRem (rS 1 μ)))), zi (nI i1)] ν1 _
      refine zx_icmp_ge (tgt := 48) (nn := 39) dX11_ith_36 (by decide) rfl (fun h36 => ?_) (fun h36 => ?_)
      · refine zx_bipush (v := -3) (nn := 50) rfl dX11_ith_48 rfl ?_
        refine zx_iret rfl dX11_ith_50 ?_
        refine ⟨congrArg (fun x => some (zi x)) ?_, q1.2⟩
        unfold vIth
        rw [if_pos ⟨h9, h21⟩, n_n.2, n_i.2]
        rw [if_neg (fun z => absurd (nI_le_le h36 (by omega)) (by omega))]
      · refine zx_aload_n (k := 0) (nn := 40) dX11_ith_39 rfl rfl rfl ?_
        refine zx_getR (q := 16) (nn := 43) flX11_42 rfl rfl dX11_ith_40 rfl ?_
        refine zx_iload_n (k := 2) (nn := 44) dX11_ith_43 rfl rfl rfl ?_
        refine zx_iald_n (j := i1) (nn := 45) rfl (by omega) (by decide) dX11_ith_44 rfl ?_
        refine zx_goto (tgt := 50) dX11_ith_45 (by decide) ?_
        refine zx_iret rfl dX11_ith_50 ?_
        refine ⟨congrArg (fun x => some (zi x)) ?_, q1.2⟩
        unfold vIth
        rw [if_pos ⟨h9, h21⟩, n_n.2, n_i.2]
        have hlt : i1 < min n1 (pRem (rS 1 μ)) := nI_nle_lt h36 (by omega)
        rw [if_pos hlt]
        exact q1.1.2.2.2 i1 hlt
    · refine zx_iconst (v := -1) (nn := 25) rfl dX11_ith_24 rfl ?_
      refine zx_iret rfl dX11_ith_25 ?_
      refine ⟨congrArg (fun x => some (zi x)) ?_, zJ.rf, rFr_rf⟩
      simp [vIth, h9, h21]
set_option maxHeartbeats 4000000 in
set_option maxRecDepth 100000 in
theorem eX11_game_0 (σ : zG) (μ : zM) (n : Int32) {ρ : pR} (ok : pOK (rS 1 μ)) (ab : pAB (rS 1 μ)) (hρ : rRep ρ (μ 1)) : zMet shR σ 12 MX11_game yX11_game [zr 0, zi n] μ (fun rr μ' => rr = some (zi (vGame ρ (rS 1 μ) n)) ∧ zJ [0, 4, 6, 10, 11, 12, 13] μ μ' ∧ ∀ j, j ≠ 23 → μ' 0 j = μ 0 j) := by
  refine zmetF (by decide +kernel) rfl (Nat.le_of_ble_eq_true rfl) ?_
  show zX shR σ 12 MX11_game 0 [(0, zr 0), (1, zi n)] [] μ _
  refine zx_iload_n (k := 1) (nn := 1) dX11_game_0 rfl rfl rfl ?_
  refine zx_i2l (nn := 2) dX11_game_1 rfl ?_
  refine zx_lconst (v := 1) (nn := 3) rfl dX11_game_2 rfl ?_
  refine zx_ldc2 (v := 4) (nn := 6) cwX11_326 dX11_game_3 rfl ?_
  refine zx_callSf (nn := 9) (d' := 0) (as := [zj n.toInt64, zj 1, zj 4]) (rest := []) (n := 3) (eX11_isIn σ μ n.toInt64 1 4  ) kX11_isIn mlX11_70 (by decide) rfl rfl (Nat.le_of_ble_eq_true rfl) dX11_game_6 rfl ?_
  show zX shR σ 12 MX11_game 9 [(0, zr 0), (1, zi n)] [zi (zb (decide (1 ≤ n.toInt64) && decide (n.toInt64 ≤ 4)))] μ _
  rw [show zb (decide (1 ≤ n.toInt64) && decide (n.toInt64 ≤ 4)) = zb (pIn n 1 4) from congrArg zb (in_r n 1 4)]
  show zX shR σ 12 MX11_game 9 [(0, zr 0), (1, zi n)] [zi (zb (pIn n 1 4))] μ _
  refine zx_ifb_eq (tgt := 21) (nn := 12) dX11_game_9 (by decide) rfl (fun h9 => ?_) (fun h9 => ?_)
  · refine zx_iconst (v := -1) (nn := 22) rfl dX11_game_21 rfl ?_
    refine zx_iret rfl dX11_game_22 ?_
    refine ⟨congrArg (fun x => some (zi x)) ?_, zJ.rf, fun _ _ => rfl⟩
    simp [vGame, h9]
  · obtain ⟨n1, n_n, rfl⟩ := pIn_n1 (b := 4) (by omega) h9
    show zX shR σ 12 MX11_game 12 [(0, zr 0), (1, zi (nI n1))] [] μ _
    have hn14 := n_n.2.1
    refine zx_aload_n (k := 0) (nn := 13) dX11_game_12 rfl rfl rfl ?_
    refine zx_iconst (v := 0) (nn := 14) rfl dX11_game_13 rfl ?_
    refine zx_iload_n (k := 1) (nn := 15) dX11_game_14 rfl rfl rfl ?_
    refine zx_callV (nn := 18) (k := 0) (d' := 7 + (min n1 (pRem (rS 1 μ)))) (as := [zi 0, zi (nI n1)]) (rest := []) (n := 2) (eX11_valueOf σ ρ n1 n_n.2.1 (min n1 (pRem (rS 1 μ))) 0 μ (pNo (rS 1 μ)) (Nat.zero_le _) (by rw [pNo_n.1, pNo_n.2.1]; rfl) hρ (pNo_ok.mpr ok) (pAB_no.mpr ab) (pNo_no _) rfl) kX11_valueOf mlX11_334 rfl rfl rfl (by omega) rfl rfl (Nat.le_of_ble_eq_true rfl) dX11_game_15 rfl ?_
    rintro _ ν1 ⟨rfl, s2, s3, s4, s5⟩
    show zX shR σ 12 MX11_game 18 [(0, zr 0), (1, zi (nI n1))] [zi ((pGame ρ (min n1 (pRem (rS 1 μ))) 0 (pNo (rS 1 μ))).1)] ν1 _
    have hn14 := n_n.2.1
    refine zx_goto (tgt := 22) dX11_game_18 (by decide) ?_
    refine zx_iret rfl dX11_game_22 ?_
    refine ⟨congrArg (fun x => some (zi x)) ?_, s2, s3⟩
    unfold vGame
    rw [if_pos h9, n_n.2.2]
set_option maxHeartbeats 4000000 in
set_option maxRecDepth 100000 in
theorem eX11_play_0 (σ : zG) (μ : zM) (n : Int32) {ρ : pR} (ok : pOK (rS 1 μ)) (ab : pAB (rS 1 μ)) (hρ : rRep ρ (μ 1)) : zMet shR σ 12 MX11_play yX11_play [zr 0, zi n] μ (fun rr μ' => rr = some (zi (vPlay ρ (rS 1 μ) n)) ∧ zJ [0, 4, 6, 10, 11, 12, 13] μ μ' ∧ ∀ j, j ≠ 23 → μ' 0 j = μ 0 j) := by
  refine zmetF (by decide +kernel) rfl (Nat.le_of_ble_eq_true rfl) ?_
  show zX shR σ 12 MX11_play 0 [(0, zr 0), (1, zi n)] [] μ _
  refine zx_iload_n (k := 1) (nn := 1) dX11_play_0 rfl rfl rfl ?_
  refine zx_i2l (nn := 2) dX11_play_1 rfl ?_
  refine zx_lconst (v := 1) (nn := 3) rfl dX11_play_2 rfl ?_
  refine zx_ldc2 (v := 4) (nn := 6) cwX11_326 dX11_play_3 rfl ?_
  refine zx_callSf (nn := 9) (d' := 0) (as := [zj n.toInt64, zj 1, zj 4]) (rest := []) (n := 3) (eX11_isIn σ μ n.toInt64 1 4  ) kX11_isIn mlX11_70 (by decide) rfl rfl (Nat.le_of_ble_eq_true rfl) dX11_play_6 rfl ?_
  show zX shR σ 12 MX11_play 9 [(0, zr 0), (1, zi n)] [zi (zb (decide (1 ≤ n.toInt64) && decide (n.toInt64 ≤ 4)))] μ _
  rw [show zb (decide (1 ≤ n.toInt64) && decide (n.toInt64 ≤ 4)) = zb (pIn n 1 4) from congrArg zb (in_r n 1 4)]
  show zX shR σ 12 MX11_play 9 [(0, zr 0), (1, zi n)] [zi (zb (pIn n 1 4))] μ _
  refine zx_ifb_ne (tgt := 14) (nn := 12) dX11_play_9 (by decide) rfl (fun h9 => ?_) (fun h9 => ?_)
  · refine zx_aload_n (k := 0) (nn := 15) dX11_play_14 rfl rfl rfl ?_
    refine zx_callVf (nn := 18) (k := 0) (d' := 0) (as := []) (rest := []) (n := 0) (eX11_isOver_0 σ μ   ) kX11_isOver mlX11_96 rfl rfl rfl (by decide) rfl rfl (Nat.le_of_ble_eq_true rfl) dX11_play_15 rfl ?_
    show zX shR σ 12 MX11_play 18 [(0, zr 0), (1, zi n)] [zi (zb (pOver (rS 1 μ)))] μ _
    refine zx_ifb_eq (tgt := 24) (nn := 21) dX11_play_18 (by decide) rfl (fun h18 => ?_) (fun h18 => ?_)
    · obtain ⟨n1, n_n, rfl⟩ := pIn_n1 (b := 4) (by omega) h9
      show zX shR σ 12 MX11_play 24 [(0, zr 0), (1, zi (nI n1))] [] μ _
      have hn14 := n_n.2.1
      refine zx_aload_n (k := 0) (nn := 25) dX11_play_24 rfl rfl rfl ?_
      refine zx_iconst (v := 0) (nn := 26) rfl dX11_play_25 rfl ?_
      refine zx_iload_n (k := 1) (nn := 27) dX11_play_26 rfl rfl rfl ?_
      refine zx_callV (nn := 30) (k := 0) (d' := 7 + (min n1 (pRem (rS 1 μ)))) (as := [zi 0, zi (nI n1)]) (rest := []) (n := 2) (eX11_valueOf σ ρ n1 n_n.2.1 (min n1 (pRem (rS 1 μ))) 0 μ (pNo (rS 1 μ)) (Nat.zero_le _) (by rw [pNo_n.1, pNo_n.2.1]; rfl) hρ (pNo_ok.mpr ok) (pAB_no.mpr ab) (pNo_no _) rfl) kX11_valueOf mlX11_334 rfl rfl rfl (by omega) rfl rfl (Nat.le_of_ble_eq_true rfl) dX11_play_27 rfl ?_
      rintro _ ν1 ⟨rfl, s2, s3, s4, s5⟩
      show zX shR σ 12 MX11_play 30 [(0, zr 0), (1, zi (nI n1))] [zi ((pGame ρ (min n1 (pRem (rS 1 μ))) 0 (pNo (rS 1 μ))).1)] ν1 _
      have hn14 := n_n.2.1
      refine zx_istore_n (nn := 31) (lv' := [(2, zi ((pGame ρ (min n1 (pRem (rS 1 μ))) 0 (pNo (rS 1 μ))).1)), (0, zr 0), (1, zi (nI n1))]) dX11_play_30 rfl (by decide) rfl rfl ?_
      refine zx_aload_n (k := 1) (nn := 32) dX11_play_31 rfl rfl rfl ?_
      refine zx_getI (nn := 35) flX11_337 rfl rfl dX11_play_32 rfl ?_
      refine zx_iret rfl dX11_play_35 ?_
      refine ⟨congrArg (fun x => some (zi x)) ?_, s2, s3⟩
      unfold vPlay
      rw [if_pos h9, if_neg (by rw [h18]; decide), n_n.2.2]
      exact s4 (by have := rem_pos ok h18; have := n_n.1; omega)
    · refine zx_bipush (v := -3) (nn := 23) rfl dX11_play_21 rfl ?_
      refine zx_iret rfl dX11_play_23 ?_
      refine ⟨congrArg (fun x => some (zi x)) ?_, zJ.rf, fun _ _ => rfl⟩
      simp [vPlay, h9, h18]
  · refine zx_iconst (v := -1) (nn := 13) rfl dX11_play_12 rfl ?_
    refine zx_iret rfl dX11_play_13 ?_
    refine ⟨congrArg (fun x => some (zi x)) ?_, zJ.rf, fun _ _ => rfl⟩
    simp [vPlay, h9]
set_option maxHeartbeats 4000000 in
set_option maxRecDepth 100000 in
theorem eX11_seed_0 (σ : zG) (μ : zM) (v : Int32) : zMet shR σ 1 MX11_seed yX11_seed [zr 0, zi v] μ (fun rr μ' => rr = some (zi ((rS 1 μ) 4)) ∧ rS 1 μ' = pPut (rS 1 μ) 4 v ∧ rK μ μ' ∧ zJ [1] μ μ') := by
  refine zmetF (by decide +kernel) rfl (Nat.le_of_ble_eq_true rfl) ?_
  show zX shR σ 1 MX11_seed 0 [(0, zr 0), (1, zi v)] [] μ _
  refine zx_aload_n (k := 0) (nn := 1) dX11_seed_0 rfl rfl rfl ?_
  refine zx_iconst (v := 4) (nn := 2) rfl dX11_seed_1 rfl ?_
  refine zx_iload_n (k := 1) (nn := 3) dX11_seed_2 rfl rfl rfl ?_
  refine zx_callVf (nn := 6) (k := 0) (d' := 0) (as := [zi 4, zi v]) (rest := []) (n := 2) (eX11_becomes_0 σ μ 4 v  (by decide)) kX11_becomes mlX11_103 rfl rfl rfl (by decide) rfl rfl (Nat.le_of_ble_eq_true rfl) dX11_seed_3 rfl ?_
  show zX shR σ 1 MX11_seed 6 [(0, zr 0), (1, zi v)] [zi (μ 1 4)] (zp μ 1 4 v) _
  refine zx_iret rfl dX11_seed_6 ?_
  exact ⟨rfl, rS_p (by omega) (by omega) (by omega), rK_p rK_rf (by omega) (by omega) (by omega), zJ.rf.p (by decide)⟩
set_option maxHeartbeats 4000000 in
set_option maxRecDepth 100000 in
theorem eX11_slips_0 (σ : zG) (μ : zM) {ρ : pR} (ok : pOK (rS 1 μ)) (ab : pAB (rS 1 μ)) (hρ : rRep ρ (μ 1)) (hb : pb (rS 1 μ) < pB (rS 1 μ)) : zMet shR σ 7 MX11_slips yX11_slips [zr 0] μ (fun rr μ' => rr = some (zi (pGain ρ (pSlip (rS 1 μ)) (-1))) ∧ rS 1 μ' = pGo ρ (pSlip (rS 1 μ)) (-1) ∧ rK μ μ' ∧ zJ [1, 4, 6] μ μ') := by
  have hB16 := (ok_B ok).2
  have eb : μ 1 2 = nI (pb (rS 1 μ)) := (ok_b ok).1
  refine zmetF (by decide +kernel) rfl (Nat.le_of_ble_eq_true rfl) ?_
  show zX shR σ 7 MX11_slips 0 [(0, zr 0)] [] μ _
  refine zx_aload_n (k := 0) (nn := 1) dX11_slips_0 rfl rfl rfl ?_
  refine zx_getR (q := 1) (nn := 4) flX11_9 rfl rfl dX11_slips_1 rfl ?_
  refine zx_iconst (v := 4) (nn := 5) rfl dX11_slips_4 rfl ?_
  refine zx_aload_n (k := 0) (nn := 6) dX11_slips_5 rfl rfl rfl ?_
  refine zx_getR (q := 1) (nn := 9) flX11_9 rfl rfl dX11_slips_6 rfl ?_
  refine zx_iconst (v := 4) (nn := 10) rfl dX11_slips_9 rfl ?_
  refine zx_iald_n (j := 4) (nn := 11) rfl (by omega) (by decide) dX11_slips_10 rfl ?_
  refine zx_ldcw (v := 1103515245) (nn := 14) cwX11_355 dX11_slips_11 rfl ?_
  refine zx_imul (nn := 15) dX11_slips_14 rfl ?_
  refine zx_sipush (v := 12345) (nn := 18) rfl dX11_slips_15 rfl ?_
  refine zx_iadd (nn := 19) dX11_slips_18 rfl ?_
  rw [show ((μ 1 4) * 1103515245) + 12345 = pZ (rS 1 μ) from rfl]
  show zX shR σ 7 MX11_slips 19 [(0, zr 0)] [zi (pZ (rS 1 μ)), zi 4, zr 1] μ _
  refine zx_iast_n (j := 4) (nn := 20) rfl (by omega) (by decide) dX11_slips_19 rfl ?_
  refine zx_bipush (v := 31) (nn := 22) rfl dX11_slips_20 rfl ?_
  refine zx_aload_n (k := 0) (nn := 23) dX11_slips_22 rfl rfl rfl ?_
  refine zx_getR (q := 1) (nn := 26) flX11_9 rfl rfl dX11_slips_23 rfl ?_
  refine zx_iconst (v := 2) (nn := 27) rfl dX11_slips_26 rfl ?_
  refine zx_iald_n (j := 2) (nn := 28) rfl (by omega) (by decide) dX11_slips_27 rfl ?_
  show zX shR σ 7 MX11_slips 28 [(0, zr 0)] [zi (μ 1 2), zi 31] (zp μ 1 4 (pZ (rS 1 μ))) _
  rw [show μ 1 2 = nI (pb (rS 1 μ)) from eb]
  show zX shR σ 7 MX11_slips 28 [(0, zr 0)] [zi (nI (pb (rS 1 μ))), zi 31] (zp μ 1 4 (pZ (rS 1 μ))) _
  refine zx_iadd (nn := 29) dX11_slips_28 rfl ?_
  rw [show 31 + (nI (pb (rS 1 μ))) = nI (31 + pb (rS 1 μ)) from by simp only [show (2 : Int32) = nI 2 from rfl, show (3 : Int32) = nI 3 from rfl, show (1 : Int32) = nI 1 from rfl, show (4 : Int32) = nI 4 from rfl, show (5 : Int32) = nI 5 from rfl, show (7 : Int32) = nI 7 from rfl, show (31 : Int32) = nI 31 from rfl, show (47 : Int32) = nI 47 from rfl, show (71 : Int32) = nI 71 from rfl, show (111 : Int32) = nI 111 from rfl, nI_mulN, nI_add]]
  show zX shR σ 7 MX11_slips 29 [(0, zr 0)] [zi (nI (31 + pb (rS 1 μ)))] (zp μ 1 4 (pZ (rS 1 μ))) _
  refine zx_istore_n (nn := 30) (lv' := [(1, zi (nI (31 + pb (rS 1 μ)))), (0, zr 0)]) dX11_slips_29 rfl (by decide) rfl rfl ?_
  refine zx_aload_n (k := 1) (nn := 31) dX11_slips_30 rfl rfl rfl ?_
  refine zx_getR (q := 1) (nn := 34) flX11_9 rfl rfl dX11_slips_31 rfl ?_
  refine zx_iload_n (k := 0) (nn := 35) dX11_slips_34 rfl rfl rfl ?_
  refine zx_aload_n (k := 1) (nn := 36) dX11_slips_35 rfl rfl rfl ?_
  refine zx_getR (q := 1) (nn := 39) flX11_9 rfl rfl dX11_slips_36 rfl ?_
  refine zx_iload_n (k := 0) (nn := 40) dX11_slips_39 rfl rfl rfl ?_
  refine zx_iald_n (j := 31 + pb (rS 1 μ)) (nn := 41) rfl (by omega) (by decide) dX11_slips_40 rfl ?_
  rw [show (zp μ 1 4 (pZ (rS 1 μ))) 1 (31 + pb (rS 1 μ)) = (rS 1 μ) (31 + pb (rS 1 μ)) from by rw [zp_eq, pk_un (by omega)]; exact (rS_i (by omega) (by omega) (by omega)).symm]
  show zX shR σ 7 MX11_slips 41 [(1, zi (nI (31 + pb (rS 1 μ)))), (0, zr 0)] [zi ((rS 1 μ) (31 + pb (rS 1 μ))), zi (nI (31 + pb (rS 1 μ))), zr 1] (zp μ 1 4 (pZ (rS 1 μ))) _
  refine zx_aload_n (k := 1) (nn := 42) dX11_slips_41 rfl rfl rfl ?_
  refine zx_getR (q := 1) (nn := 45) flX11_9 rfl rfl dX11_slips_42 rfl ?_
  refine zx_iconst (v := 4) (nn := 46) rfl dX11_slips_45 rfl ?_
  refine zx_iald_n (j := 4) (nn := 47) rfl (by omega) (by decide) dX11_slips_46 rfl ?_
  show zX shR σ 7 MX11_slips 47 [(1, zi (nI (31 + pb (rS 1 μ)))), (0, zr 0)] [zi (pZ (rS 1 μ)), zi ((rS 1 μ) (31 + pb (rS 1 μ))), zi (nI (31 + pb (rS 1 μ))), zr 1] (zp μ 1 4 (pZ (rS 1 μ))) _
  refine zx_bipush (v := 16) (nn := 49) rfl dX11_slips_47 rfl ?_
  refine zx_iushr (v := zushr (pZ (rS 1 μ)) 16) (nn := 50) rfl dX11_slips_49 rfl ?_
  refine zx_iconst (v := 5) (nn := 51) rfl dX11_slips_50 rfl ?_
  refine zx_irem (nn := 52) (by decide) dX11_slips_51 rfl ?_
  rw [show (zushr (pZ (rS 1 μ)) 16) - (zushr (pZ (rS 1 μ)) 16) / 5 * 5 = pLot5 (pZ (rS 1 μ)) from rfl]
  show zX shR σ 7 MX11_slips 52 [(1, zi (nI (31 + pb (rS 1 μ)))), (0, zr 0)] [zi (pLot5 (pZ (rS 1 μ))), zi ((rS 1 μ) (31 + pb (rS 1 μ))), zi (nI (31 + pb (rS 1 μ))), zr 1] (zp μ 1 4 (pZ (rS 1 μ))) _
  refine zx_iadd (nn := 53) dX11_slips_52 rfl ?_
  refine zx_iconst (v := 2) (nn := 54) rfl dX11_slips_53 rfl ?_
  refine zx_isub (nn := 55) dX11_slips_54 rfl ?_
  refine zx_iconst (v := 0) (nn := 56) rfl dX11_slips_55 rfl ?_
  refine zx_bipush (v := 40) (nn := 58) rfl dX11_slips_56 rfl ?_
  refine zx_callSf (nn := 61) (d' := 0) (as := [zi ((((rS 1 μ) (31 + pb (rS 1 μ))) + (pLot5 (pZ (rS 1 μ)))) - 2), zi 0, zi 40]) (rest := [zi (nI (31 + pb (rS 1 μ))), zr 1]) (n := 3) (eX11_within σ (zp μ 1 4 (pZ (rS 1 μ))) ((((rS 1 μ) (31 + pb (rS 1 μ))) + (pLot5 (pZ (rS 1 μ)))) - 2) 0 40  ) kX11_within mlX11_113 (by decide) rfl rfl (Nat.le_of_ble_eq_true rfl) dX11_slips_58 rfl ?_
  show zX shR σ 7 MX11_slips 61 [(1, zi (nI (31 + pb (rS 1 μ)))), (0, zr 0)] [zi (pW ((((rS 1 μ) (31 + pb (rS 1 μ))) + (pLot5 (pZ (rS 1 μ)))) - 2) 0 40), zi (nI (31 + pb (rS 1 μ))), zr 1] (zp μ 1 4 (pZ (rS 1 μ))) _
  refine zx_iast_n (j := 31 + pb (rS 1 μ)) (nn := 62) rfl (by omega) (by decide) dX11_slips_61 rfl ?_
  have hM : rS 1 (zp (zp μ 1 4 (pZ (rS 1 μ))) 1 (31 + pb (rS 1 μ)) (pW ((rS 1 μ) (31 + pb (rS 1 μ)) + pLot5 (pZ (rS 1 μ)) - 2) 0 40)) = pSlip (rS 1 μ) := by rw [rS_p (by omega) (by omega) (by omega), rS_p (by omega) (by omega) (by omega)]; rfl
  have okM : pOK (rS 1 (zp (zp μ 1 4 (pZ (rS 1 μ))) 1 (31 + pb (rS 1 μ)) (pW ((rS 1 μ) (31 + pb (rS 1 μ)) + pLot5 (pZ (rS 1 μ)) - 2) 0 40))) := by rw [hM]; exact pOK_slip ok
  have abM : pAB (rS 1 (zp (zp μ 1 4 (pZ (rS 1 μ))) 1 (31 + pb (rS 1 μ)) (pW ((rS 1 μ) (31 + pb (rS 1 μ)) + pLot5 (pZ (rS 1 μ)) - 2) 0 40))) := by rw [hM]; exact pAB_slip ab hB16
  have hKM : rK μ (zp (zp μ 1 4 (pZ (rS 1 μ))) 1 (31 + pb (rS 1 μ)) (pW ((rS 1 μ) (31 + pb (rS 1 μ)) + pLot5 (pZ (rS 1 μ)) - 2) 0 40)) := rK_p (rK_p rK_rf (by omega) (by omega) (by omega)) (by omega) (by omega) (by omega)
  have hρM : rRep ρ ((zp (zp μ 1 4 (pZ (rS 1 μ))) 1 (31 + pb (rS 1 μ)) (pW ((rS 1 μ) (31 + pb (rS 1 μ)) + pLot5 (pZ (rS 1 μ)) - 2) 0 40)) 1) := rRep_K hKM hρ
  have hbM : pb (rS 1 (zp (zp μ 1 4 (pZ (rS 1 μ))) 1 (31 + pb (rS 1 μ)) (pW ((rS 1 μ) (31 + pb (rS 1 μ)) + pLot5 (pZ (rS 1 μ)) - 2) 0 40))) < pB (rS 1 (zp (zp μ 1 4 (pZ (rS 1 μ))) 1 (31 + pb (rS 1 μ)) (pW ((rS 1 μ) (31 + pb (rS 1 μ)) + pLot5 (pZ (rS 1 μ)) - 2) 0 40))) := by rw [hM, pSlip_n.1, pSlip_n.2.1]; exact hb
  refine zx_aload_n (k := 1) (nn := 63) dX11_slips_62 rfl rfl rfl ?_
  refine zx_iconst (v := 0) (nn := 64) rfl dX11_slips_63 rfl ?_
  refine zx_callV (nn := 67) (k := 0) (d' := 6) (as := [zi 0]) (rest := []) (n := 1) (eX11_goes_0 σ (zp (zp μ 1 4 (pZ (rS 1 μ))) 1 (31 + pb (rS 1 μ)) (pW ((rS 1 μ) (31 + pb (rS 1 μ)) + pLot5 (pZ (rS 1 μ)) - 2) 0 40)) 0 okM abM hρM hbM) kX11_goes mlX11_284 rfl rfl rfl (by decide) rfl rfl (Nat.le_of_ble_eq_true rfl) dX11_slips_64 rfl ?_
  rintro _ ν1 ⟨rfl, g1, g2, g3⟩
  show zX shR σ 7 MX11_slips 67 [(1, zi (nI (31 + pb (rS 1 μ)))), (0, zr 0)] [zi (pGain ρ (rS 1 (zp (zp μ 1 4 (pZ (rS 1 μ))) 1 (31 + pb (rS 1 μ)) (pW ((rS 1 μ) (31 + pb (rS 1 μ)) + pLot5 (pZ (rS 1 μ)) - 2) 0 40))) (0 - 1))] ν1 _
  refine zx_iret rfl dX11_slips_67 ?_
  refine ⟨congrArg (fun x => some (zi x)) (by rw [hM]; rfl), by rw [g1, hM]; rfl, rK_tr hKM (rQ_K g2), ((zJ.rf.p (by decide)).p (by decide)).tr g3⟩
set_option maxHeartbeats 4000000 in
set_option maxRecDepth 100000 in
theorem eX11_lot_0 (σ : zG) (μ : zM) {ρ : pR} (ok : pOK (rS 1 μ)) (ab : pAB (rS 1 μ)) (hρ : rRep ρ (μ 1)) : zMet shR σ 8 MX11_lot yX11_lot [zr 0] μ (fun rr μ' => rr = some (zi (vLot ρ (rS 1 μ))) ∧ rS 1 μ' = sLot ρ (rS 1 μ) ∧ rK μ μ' ∧ zJ [1, 4, 6] μ μ') := by
  refine zmetF (by decide +kernel) rfl (Nat.le_of_ble_eq_true rfl) ?_
  show zX shR σ 8 MX11_lot 0 [(0, zr 0)] [] μ _
  refine zx_aload_n (k := 0) (nn := 1) dX11_lot_0 rfl rfl rfl ?_
  refine zx_callVf (nn := 4) (k := 0) (d' := 0) (as := []) (rest := []) (n := 0) (eX11_isOver_0 σ μ   ) kX11_isOver mlX11_96 rfl rfl rfl (by decide) rfl rfl (Nat.le_of_ble_eq_true rfl) dX11_lot_1 rfl ?_
  show zX shR σ 8 MX11_lot 4 [(0, zr 0)] [zi (zb (pOver (rS 1 μ)))] μ _
  refine zx_ifb_eq (tgt := 12) (nn := 7) dX11_lot_4 (by decide) rfl (fun h4 => ?_) (fun h4 => ?_)
  · refine zx_aload_n (k := 0) (nn := 13) dX11_lot_12 rfl rfl rfl ?_
    refine zx_callV (nn := 16) (k := 0) (d' := 7) (as := []) (rest := []) (n := 0) (eX11_slips_0 σ μ   ok ab hρ (pOver_b ok h4)) kX11_slips mlX11_356 rfl rfl rfl (by decide) rfl rfl (Nat.le_of_ble_eq_true rfl) dX11_lot_13 rfl ?_
    rintro _ ν1 ⟨rfl, q1⟩
    show zX shR σ 8 MX11_lot 16 [(0, zr 0)] [zi (pGain ρ (pSlip (rS 1 μ)) (-1))] ν1 _
    refine zx_iret rfl dX11_lot_16 ?_
    refine ⟨congrArg (fun x => some (zi x)) (by simp [vLot, h4]), q1.1.trans (by simp [sLot, h4]), q1.2⟩
  · refine zx_bipush (v := -4) (nn := 9) rfl dX11_lot_7 rfl ?_
    refine zx_goto (tgt := 16) dX11_lot_9 (by decide) ?_
    refine zx_iret rfl dX11_lot_16 ?_
    refine ⟨congrArg (fun x => some (zi x)) (by simp [vLot, h4]), by simp [sLot, h4], rK_rf, zJ.rf⟩
set_option maxHeartbeats 4000000 in
set_option maxRecDepth 100000 in
theorem eX11_beat_0 (σ : zG) (μ : zM) {ρ : pR} (ok : pOK (rS 1 μ)) (ab : pAB (rS 1 μ)) (hρ : rRep ρ (μ 1)) : zMet shR σ 7 MX11_beat yX11_beat [zr 0] μ (fun rr μ' => rr = some (zi (vBeat ρ (rS 1 μ))) ∧ rS 1 μ' = sBeat ρ (rS 1 μ) ∧ rK μ μ' ∧ zJ [1, 4, 6] μ μ') := by
  refine zmetF (by decide +kernel) rfl (Nat.le_of_ble_eq_true rfl) ?_
  show zX shR σ 7 MX11_beat 0 [(0, zr 0)] [] μ _
  refine zx_aload_n (k := 0) (nn := 1) dX11_beat_0 rfl rfl rfl ?_
  refine zx_callVf (nn := 4) (k := 0) (d' := 0) (as := []) (rest := []) (n := 0) (eX11_isOver_0 σ μ   ) kX11_isOver mlX11_96 rfl rfl rfl (by decide) rfl rfl (Nat.le_of_ble_eq_true rfl) dX11_beat_1 rfl ?_
  show zX shR σ 7 MX11_beat 4 [(0, zr 0)] [zi (zb (pOver (rS 1 μ)))] μ _
  refine zx_ifb_eq (tgt := 12) (nn := 7) dX11_beat_4 (by decide) rfl (fun h4 => ?_) (fun h4 => ?_)
  · refine zx_aload_n (k := 0) (nn := 13) dX11_beat_12 rfl rfl rfl ?_
    refine zx_iconst (v := 0) (nn := 14) rfl dX11_beat_13 rfl ?_
    refine zx_callV (nn := 17) (k := 0) (d' := 6) (as := [zi 0]) (rest := []) (n := 1) (eX11_goes_0 σ μ 0  ok ab hρ (pOver_b ok h4)) kX11_goes mlX11_284 rfl rfl rfl (by decide) rfl rfl (Nat.le_of_ble_eq_true rfl) dX11_beat_14 rfl ?_
    rintro _ ν1 ⟨rfl, q1⟩
    show zX shR σ 7 MX11_beat 17 [(0, zr 0)] [zi (pGain ρ (rS 1 μ) (0 - 1))] ν1 _
    refine zx_iret rfl dX11_beat_17 ?_
    refine ⟨congrArg (fun x => some (zi x)) (by unfold vBeat; rw [if_neg (by rw [h4]; decide)]; rfl), q1.1.trans (by unfold sBeat; rw [if_neg (by rw [h4]; decide)]; rfl), rQ_K q1.2.1, q1.2.2⟩
  · refine zx_bipush (v := -4) (nn := 9) rfl dX11_beat_7 rfl ?_
    refine zx_goto (tgt := 17) dX11_beat_9 (by decide) ?_
    refine zx_iret rfl dX11_beat_17 ?_
    refine ⟨congrArg (fun x => some (zi x)) (by simp [vBeat, h4]), by simp [sBeat, h4], rK_rf, zJ.rf⟩
set_option maxHeartbeats 4000000 in
set_option maxRecDepth 100000 in
theorem eX11_often_0 (σ : zG) (μ : zM) (n : Int32) (v : Int32) {ρ : pR} (ok : pOK (rS 1 μ)) (ab : pAB (rS 1 μ)) (hρ : rRep ρ (μ 1)) : zMet shR σ 8 MX11_often yX11_often [zr 0, zi n, zi v] μ (fun rr μ' => rr = some (zi (vOften ρ (rS 1 μ) n v)) ∧ rS 1 μ' = (rS 1 μ) ∧ (∀ j, j < 521 → μ' 1 j = μ 1 j) ∧ zJ [1, 3, 4, 6] μ μ') := by
  have hB16 := (ok_B ok).2
  have hbB := (ok_b ok).2
  have hrem : pRem (rS 1 μ) = pB (rS 1 μ) - pb (rS 1 μ) := rfl
  refine zmetF (by decide +kernel) rfl (Nat.le_of_ble_eq_true rfl) ?_
  show zX shR σ 8 MX11_often 0 [(0, zr 0), (1, zi n), (2, zi v)] [] μ _
  refine zx_iload_n (k := 1) (nn := 1) dX11_often_0 rfl rfl rfl ?_
  refine zx_i2l (nn := 2) dX11_often_1 rfl ?_
  refine zx_lconst (v := 1) (nn := 3) rfl dX11_often_2 rfl ?_
  refine zx_ldc2 (v := 40) (nn := 6) cwX11_74 dX11_often_3 rfl ?_
  refine zx_callSf (nn := 9) (d' := 0) (as := [zj n.toInt64, zj 1, zj 40]) (rest := []) (n := 3) (eX11_isIn σ μ n.toInt64 1 40  ) kX11_isIn mlX11_70 (by decide) rfl rfl (Nat.le_of_ble_eq_true rfl) dX11_often_6 rfl ?_
  show zX shR σ 8 MX11_often 9 [(0, zr 0), (1, zi n), (2, zi v)] [zi (zb (decide (1 ≤ n.toInt64) && decide (n.toInt64 ≤ 40)))] μ _
  rw [show zb (decide (1 ≤ n.toInt64) && decide (n.toInt64 ≤ 40)) = zb (pIn n 1 40) from congrArg zb (in_r n 1 40)]
  show zX shR σ 8 MX11_often 9 [(0, zr 0), (1, zi n), (2, zi v)] [zi (zb (pIn n 1 40))] μ _
  refine zx_ifb_eq (tgt := 24) (nn := 12) dX11_often_9 (by decide) rfl (fun h9 => ?_) (fun h9 => ?_)
  · refine zx_iconst (v := -1) (nn := 25) rfl dX11_often_24 rfl ?_
    refine zx_iret rfl dX11_often_25 ?_
    refine ⟨congrArg (fun x => some (zi x)) ?_, rfl, fun _ _ => rfl, zJ.rf⟩
    simp [vOften, h9]
  · refine zx_iload_n (k := 2) (nn := 13) dX11_often_12 rfl rfl rfl ?_
    refine zx_i2l (nn := 14) dX11_often_13 rfl ?_
    refine zx_lconst (v := 0) (nn := 15) rfl dX11_often_14 rfl ?_
    refine zx_ldc2 (v := 999) (nn := 18) cwX11_359 dX11_often_15 rfl ?_
    refine zx_callSf (nn := 21) (d' := 0) (as := [zj v.toInt64, zj 0, zj 999]) (rest := []) (n := 3) (eX11_isIn σ μ v.toInt64 0 999  ) kX11_isIn mlX11_70 (by decide) rfl rfl (Nat.le_of_ble_eq_true rfl) dX11_often_18 rfl ?_
    show zX shR σ 8 MX11_often 21 [(0, zr 0), (1, zi n), (2, zi v)] [zi (zb (decide (0 ≤ v.toInt64) && decide (v.toInt64 ≤ 999)))] μ _
    rw [show zb (decide (0 ≤ v.toInt64) && decide (v.toInt64 ≤ 999)) = zb (pIn v 0 999) from congrArg zb (in_r v 0 999)]
    show zX shR σ 8 MX11_often 21 [(0, zr 0), (1, zi n), (2, zi v)] [zi (zb (pIn v 0 999))] μ _
    refine zx_ifb_ne (tgt := 26) (nn := 24) dX11_often_21 (by decide) rfl (fun h21 => ?_) (fun h21 => ?_)
    · obtain ⟨n1, n_n, rfl⟩ := pIn_n1 (b := 40) (by omega) h9
      show zX shR σ 8 MX11_often 26 [(0, zr 0), (1, zi (nI n1)), (2, zi v)] [] μ _
      refine zx_aload_n (k := 0) (nn := 27) dX11_often_26 rfl rfl rfl ?_
      refine zx_getR (q := 1) (nn := 30) flX11_9 rfl rfl dX11_often_27 rfl ?_
      refine zx_aload_n (k := 0) (nn := 31) dX11_often_30 rfl rfl rfl ?_
      refine zx_getR (q := 3) (nn := 34) flX11_16 rfl rfl dX11_often_31 rfl ?_
      refine zx_callS (nn := 37) (d' := 0) (as := [zr 1, zr 3]) (rest := []) (n := 2) (eX11_over_1_3 σ μ) kX11_over mlX11_277 (by decide) rfl rfl (Nat.le_of_ble_eq_true rfl) dX11_often_34 rfl ?_
      rintro _ ν1 ⟨rfl, o1, o2⟩
      show zX shR σ 8 MX11_often 37 [(0, zr 0), (1, zi (nI n1)), (2, zi v)] [] ν1 _
      refine zx_iconst (v := 0) (nn := 38) rfl dX11_often_37 rfl ?_
      refine zx_istore_n (nn := 39) (lv' := [(3, zi 0), (0, zr 0), (1, zi (nI n1)), (2, zi v)]) dX11_often_38 rfl (by decide) rfl rfl ?_
      refine zx_iconst (v := 0) (nn := 40) rfl dX11_often_39 rfl ?_
      refine zx_istore (nn := 42) (lv' := [(4, zi 0), (3, zi 0), (0, zr 0), (1, zi (nI n1)), (2, zi v)]) dX11_often_40 (by decide) rfl rfl ?_
      refine zx_lv (lv' := [(0, zr 0), (1, zi (nI n1)), (2, zi v), (3, zi 0), (4, zi 0)]) [2, 3, 4, 1, 0] rfl ?_
      refine zx_while (τ := Nat × Nat × zM) (fun t_ => n1 - t_.1) (fun t_ => t_.1 ≤ n1 ∧ t_.2.1 = ((pTimes ρ (rS 1 μ) v) t_.1).1 ∧ t_.2.2 1 4 = ((pTimes ρ (rS 1 μ) v) t_.1).2 ∧ zJ [1, 3, 4, 6] μ t_.2.2 ∧ ∀ j, j < 521 → t_.2.2 3 j = μ 1 j) (fun t_ => [(0, zr 0), (1, zi (nI n1)), (2, zi v), (3, zi (nI t_.2.1)), (4, zi (nI t_.1))]) (fun t_ => t_.2.2) (t0 := (0, 0, ν1)) (show 0 ≤ n1 ∧ 0 = ((pTimes ρ (rS 1 μ) v) 0).1 ∧ ν1 1 4 = ((pTimes ρ (rS 1 μ) v) 0).2 ∧ zJ [1, 3, 4, 6] μ ν1 ∧ ∀ j, j < 521 → ν1 3 j = μ 1 j from ⟨Nat.zero_le _, rfl, by rw [o1 1 (by decide)]; rfl, o1.mono (by simp), o2⟩) ?_
      rintro ⟨t, c, μ1⟩ hI ih42
      replace hI : t ≤ n1 ∧ c = ((pTimes ρ (rS 1 μ) v) t).1 ∧ μ1 1 4 = ((pTimes ρ (rS 1 μ) v) t).2 ∧ zJ [1, 3, 4, 6] μ μ1 ∧ ∀ j, j < 521 → μ1 3 j = μ 1 j := hI
      show zX shR σ 8 MX11_often 42 [(0, zr 0), (1, zi (nI n1)), (2, zi v), (3, zi (nI c)), (4, zi (nI t))] [] μ1 _
      obtain ⟨ht, hc2, hz, hj, h3⟩ := hI
      refine zx_iload (k := 4) (nn := 44) dX11_often_42 rfl rfl ?_
      refine zx_iload_n (k := 1) (nn := 45) dX11_often_44 rfl rfl rfl ?_
      refine zx_icmp_ge (tgt := 117) (nn := 48) dX11_often_45 (by decide) rfl (fun h45 => ?_) (fun h45 => ?_)
      · refine zx_aload_n (k := 0) (nn := 118) dX11_often_117 rfl rfl rfl ?_
        refine zx_getR (q := 3) (nn := 121) flX11_16 rfl rfl dX11_often_118 rfl ?_
        refine zx_aload_n (k := 0) (nn := 122) dX11_often_121 rfl rfl rfl ?_
        refine zx_getR (q := 1) (nn := 125) flX11_9 rfl rfl dX11_often_122 rfl ?_
        refine zx_callS (nn := 128) (d' := 0) (as := [zr 3, zr 1]) (rest := []) (n := 2) (eX11_over_3_1 σ μ1) kX11_over mlX11_277 (by decide) rfl rfl (Nat.le_of_ble_eq_true rfl) dX11_often_125 rfl ?_
        rintro _ ν2 ⟨rfl, b1, b2⟩
        show zX shR σ 8 MX11_often 128 [(0, zr 0), (1, zi (nI n1)), (2, zi v), (3, zi (nI c)), (4, zi (nI t))] [] ν2 _
        refine zx_iload_n (k := 3) (nn := 129) dX11_often_128 rfl rfl rfl ?_
        refine zx_iret rfl dX11_often_129 ?_
        have hge := nI_le_le h45 (by omega)
        have eF : ∀ j, j < 521 → ν2 1 j = μ 1 j := fun j hj_ => (b2 j hj_).trans (h3 j hj_)
        refine ⟨congrArg (fun x => some (zi x)) ?_, rS_521 eF, eF, hj.tr (b1.mono (by simp))⟩
        unfold vOften
        rw [if_pos ⟨h9, h21⟩, n_n.2.2, hc2, show t = n1 by omega]
      · have hltt : t < n1 := nI_nle_lt h45 (by omega)
        have hct : c ≤ t := by rw [hc2]; exact pTimes_le t
        refine zx_aload_n (k := 0) (nn := 49) dX11_often_48 rfl rfl rfl ?_
        refine zx_getR (q := 1) (nn := 52) flX11_9 rfl rfl dX11_often_49 rfl ?_
        refine zx_iconst (v := 4) (nn := 53) rfl dX11_often_52 rfl ?_
        refine zx_iald_n (j := 4) (nn := 54) rfl (by omega) (by decide) dX11_often_53 rfl ?_
        rw [show μ1 1 4 = ((pTimes ρ (rS 1 μ) v) t).2 from hz]
        show zX shR σ 8 MX11_often 54 [(0, zr 0), (1, zi (nI n1)), (2, zi v), (3, zi (nI c)), (4, zi (nI t))] [zi (((pTimes ρ (rS 1 μ) v) t).2)] μ1 _
        refine zx_istore (nn := 56) (lv' := [(5, zi (((pTimes ρ (rS 1 μ) v) t).2)), (0, zr 0), (1, zi (nI n1)), (2, zi v), (3, zi (nI c)), (4, zi (nI t))]) dX11_often_54 (by decide) rfl rfl ?_
        refine zx_aload_n (k := 1) (nn := 57) dX11_often_56 rfl rfl rfl ?_
        refine zx_getR (q := 3) (nn := 60) flX11_16 rfl rfl dX11_often_57 rfl ?_
        refine zx_aload_n (k := 1) (nn := 61) dX11_often_60 rfl rfl rfl ?_
        refine zx_getR (q := 1) (nn := 64) flX11_9 rfl rfl dX11_often_61 rfl ?_
        refine zx_callS (nn := 67) (d' := 0) (as := [zr 3, zr 1]) (rest := []) (n := 2) (eX11_over_3_1 σ μ1) kX11_over mlX11_277 (by decide) rfl rfl (Nat.le_of_ble_eq_true rfl) dX11_often_64 rfl ?_
        rintro _ ν3 ⟨rfl, a1, a2⟩
        show zX shR σ 8 MX11_often 67 [(5, zi (((pTimes ρ (rS 1 μ) v) t).2)), (0, zr 0), (1, zi (nI n1)), (2, zi v), (3, zi (nI c)), (4, zi (nI t))] [] ν3 _
        refine zx_aload_n (k := 1) (nn := 68) dX11_often_67 rfl rfl rfl ?_
        refine zx_getR (q := 1) (nn := 71) flX11_9 rfl rfl dX11_often_68 rfl ?_
        refine zx_iconst (v := 4) (nn := 72) rfl dX11_often_71 rfl ?_
        refine zx_iload (k := 0) (nn := 74) dX11_often_72 rfl rfl ?_
        refine zx_iast_n (j := 4) (nn := 75) rfl (by omega) (by decide) dX11_often_74 rfl ?_
        refine zx_iconst (v := 0) (nn := 76) rfl dX11_often_75 rfl ?_
        refine zx_istore (nn := 78) (lv' := [(6, zi 0), (5, zi (((pTimes ρ (rS 1 μ) v) t).2)), (0, zr 0), (1, zi (nI n1)), (2, zi v), (3, zi (nI c)), (4, zi (nI t))]) dX11_often_76 (by decide) rfl rfl ?_
        have eM : ∀ j, j < 521 → ν3 1 j = μ 1 j := fun j hj_ => (a2 j hj_).trans (h3 j hj_)
        have hMs : rS 1 (zp ν3 1 4 (((pTimes ρ (rS 1 μ) v) t).2)) = (pPut (rS 1 μ) 4 ((pTimes ρ (rS 1 μ) v) t).2) := by rw [rS_p (by omega) (by omega) (by omega), rS_521 (q := 1) eM]
        have okZ : pOK (pPut (rS 1 μ) 4 ((pTimes ρ (rS 1 μ) v) t).2) := pOK_put ok (by omega)
        have abZ : pAB (pPut (rS 1 μ) 4 ((pTimes ρ (rS 1 μ) v) t).2) := pAB_put ab (by omega) (Or.inr ⟨fun l => by omega, Or.inl (by omega)⟩) hB16
        have eZ := pPut_n (s := (rS 1 μ)) (k := 4) (v := ((pTimes ρ (rS 1 μ) v) t).2) (by omega)
        have hρM : rRep ρ ((zp ν3 1 4 (((pTimes ρ (rS 1 μ) v) t).2)) 1) := gRep_R (fun i hi => by rw [zp_eq, pk_un (by omega)]; exact eM i (by omega)) hρ
        have hJM : zJ [1, 3, 4, 6] μ (zp ν3 1 4 (((pTimes ρ (rS 1 μ) v) t).2)) := (hj.tr (a1.mono (by simp))).p (by decide)
        have h3M : ∀ j, j < 521 → (zp ν3 1 4 (((pTimes ρ (rS 1 μ) v) t).2)) 3 j = μ 1 j := fun j hj_ => by rw [zp_ne (by decide), a1 3 (by decide)]; exact h3 j hj_
        refine zx_lv (lv' := [(0, zr 0), (1, zi (nI n1)), (2, zi v), (3, zi (nI c)), (4, zi (nI t)), (6, zi 0)]) [2, 3, 4, 5, 6, 0] rfl ?_
        refine zx_while (τ := Nat × Int32 × zM) (fun t_ => pRem (rS 1 μ) - t_.1) (fun t_ => t_.1 ≤ pRem (rS 1 μ) ∧ rS 1 t_.2.2 = pRunLot ρ (pPut (rS 1 μ) 4 ((pTimes ρ (rS 1 μ) v) t).2) t_.1 ∧ t_.2.1 = pLotSum ρ (pPut (rS 1 μ) 4 ((pTimes ρ (rS 1 μ) v) t).2) t_.1 ∧ rRep ρ (t_.2.2 1) ∧ zJ [1, 3, 4, 6] μ t_.2.2 ∧ ∀ j, j < 521 → t_.2.2 3 j = μ 1 j) (fun t_ => [(0, zr 0), (1, zi (nI n1)), (2, zi v), (3, zi (nI c)), (4, zi (nI t)), (6, zi t_.2.1)]) (fun t_ => t_.2.2) (t0 := (0, 0, zp ν3 1 4 (((pTimes ρ (rS 1 μ) v) t).2))) (show 0 ≤ pRem (rS 1 μ) ∧ rS 1 (zp ν3 1 4 (((pTimes ρ (rS 1 μ) v) t).2)) = pRunLot ρ (pPut (rS 1 μ) 4 ((pTimes ρ (rS 1 μ) v) t).2) 0 ∧ 0 = pLotSum ρ (pPut (rS 1 μ) 4 ((pTimes ρ (rS 1 μ) v) t).2) 0 ∧ rRep ρ ((zp ν3 1 4 (((pTimes ρ (rS 1 μ) v) t).2)) 1) ∧ zJ [1, 3, 4, 6] μ (zp ν3 1 4 (((pTimes ρ (rS 1 μ) v) t).2)) ∧ ∀ j, j < 521 → (zp ν3 1 4 (((pTimes ρ (rS 1 μ) v) t).2)) 3 j = μ 1 j from ⟨Nat.zero_le _, hMs, rfl, hρM, hJM, h3M⟩) ?_
        rintro ⟨m, sum, μ2⟩ hI2 ih78
        replace hI2 : m ≤ pRem (rS 1 μ) ∧ rS 1 μ2 = pRunLot ρ (pPut (rS 1 μ) 4 ((pTimes ρ (rS 1 μ) v) t).2) m ∧ sum = pLotSum ρ (pPut (rS 1 μ) 4 ((pTimes ρ (rS 1 μ) v) t).2) m ∧ rRep ρ (μ2 1) ∧ zJ [1, 3, 4, 6] μ μ2 ∧ ∀ j, j < 521 → μ2 3 j = μ 1 j := hI2
        show zX shR σ 8 MX11_often 78 [(0, zr 0), (1, zi (nI n1)), (2, zi v), (3, zi (nI c)), (4, zi (nI t)), (6, zi sum)] [] μ2 _
        obtain ⟨hm, y1, y3, y4, hj4, y5⟩ := hI2
        have hz1 := pRunLot_ok (ρ := ρ) okZ m (by rw [eZ.1, eZ.2.1]; omega)
        rw [eZ.1, eZ.2.1] at hz1
        have okm : pOK (rS 1 μ2) := by rw [y1]; exact hz1.1
        have abm : pAB (rS 1 μ2) := by rw [y1]; exact pAB_runLot okZ abZ m (by rw [eZ.1, eZ.2.1]; omega)
        refine zx_aload_n (k := 0) (nn := 79) dX11_often_78 rfl rfl rfl ?_
        refine zx_callVf (nn := 82) (k := 0) (d' := 0) (as := []) (rest := []) (n := 0) (eX11_isOver_0 σ μ2   ) kX11_isOver mlX11_96 rfl rfl rfl (by decide) rfl rfl (Nat.le_of_ble_eq_true rfl) dX11_often_79 rfl ?_
        show zX shR σ 8 MX11_often 82 [(0, zr 0), (1, zi (nI n1)), (2, zi v), (3, zi (nI c)), (4, zi (nI t)), (6, zi sum)] [zi (zb (pOver (rS 1 μ2)))] μ2 _
        refine zx_ifb_ne (tgt := 97) (nn := 85) dX11_often_82 (by decide) rfl (fun h82 => ?_) (fun h82 => ?_)
        · rw [pOver_iff okm, y1, hz1.2.1, hz1.2.2] at h82
          have hge2 := of_decide_eq_true h82
          have hmr : m = pRem (rS 1 μ) := by omega
          refine zx_iload_n (k := 3) (nn := 98) dX11_often_97 rfl rfl rfl ?_
          refine zx_iload (k := 5) (nn := 100) dX11_often_98 rfl rfl ?_
          refine zx_iload_n (k := 2) (nn := 101) dX11_often_100 rfl rfl rfl ?_
          refine zx_icmp_lt (tgt := 108) (nn := 104) dX11_often_101 (by decide) rfl (fun h101 => ?_) (fun h101 => ?_)
          · have hle : ¬ v ≤ sum := Int32.not_le.mpr h101
            refine zx_iconst (v := 0) (nn := 109) rfl dX11_often_108 rfl ?_
            refine zx_iadd (nn := 110) dX11_often_109 rfl ?_
            rw [show (nI c) + 0 = nI c from Int32.add_zero _]
            show zX shR σ 8 MX11_often 110 [(0, zr 0), (1, zi (nI n1)), (2, zi v), (3, zi (nI c)), (4, zi (nI t)), (6, zi sum)] [zi (nI c)] μ2 _
            refine zx_istore_n (nn := 111) (lv' := [(3, zi (nI c)), (0, zr 0), (1, zi (nI n1)), (2, zi v), (4, zi (nI t)), (6, zi sum)]) dX11_often_110 rfl (by decide) rfl rfl ?_
            refine zx_iinc (k := 4) (v := nI (t + 1)) (lv' := [(4, zi (nI (t + 1))), (3, zi (nI c)), (0, zr 0), (1, zi (nI n1)), (2, zi v), (6, zi sum)]) (nn := 114) dX11_often_111 rfl (nI_1 t) (by decide) rfl rfl ?_
            refine zx_goto (tgt := 42) dX11_often_114 (by decide) ?_
            refine zx_lv (lv' := [(0, zr 0), (1, zi (nI n1)), (2, zi v), (3, zi (nI c)), (4, zi (nI (t + 1)))]) [2, 3, 4, 1, 0] rfl ?_
            exact ih42 (t + 1, c, μ2) (show (t + 1) ≤ n1 ∧ c = ((pTimes ρ (rS 1 μ) v) (t + 1)).1 ∧ μ2 1 4 = ((pTimes ρ (rS 1 μ) v) (t + 1)).2 ∧ zJ [1, 3, 4, 6] μ μ2 ∧ ∀ j, j < 521 → μ2 3 j = μ 1 j from ⟨by omega, by show _ = (if v ≤ pLotSum ρ (pPut (rS 1 μ) 4 ((pTimes ρ (rS 1 μ) v) t).2) (pRem (rS 1 μ)) then ((pTimes ρ (rS 1 μ) v) t).1 + 1 else ((pTimes ρ (rS 1 μ) v) t).1); rw [← hmr, ← y3, if_neg hle, ← hc2], by show _ = pRunLot ρ (pPut (rS 1 μ) 4 ((pTimes ρ (rS 1 μ) v) t).2) (pRem (rS 1 μ)) 4; rw [← hmr, ← y1]; rfl, hj4, y5⟩) (by show n1 - (t + 1) < n1 - t; omega)
          · have hle := Int32.not_lt.mp h101
            refine zx_iconst (v := 1) (nn := 105) rfl dX11_often_104 rfl ?_
            refine zx_goto (tgt := 109) dX11_often_105 (by decide) ?_
            refine zx_iadd (nn := 110) dX11_often_109 rfl ?_
            rw [show (nI c) + 1 = nI (c + 1) from nI_1 _]
            show zX shR σ 8 MX11_often 110 [(0, zr 0), (1, zi (nI n1)), (2, zi v), (3, zi (nI c)), (4, zi (nI t)), (6, zi sum)] [zi (nI (c + 1))] μ2 _
            refine zx_istore_n (nn := 111) (lv' := [(3, zi (nI (c + 1))), (0, zr 0), (1, zi (nI n1)), (2, zi v), (4, zi (nI t)), (6, zi sum)]) dX11_often_110 rfl (by decide) rfl rfl ?_
            refine zx_iinc (k := 4) (v := nI (t + 1)) (lv' := [(4, zi (nI (t + 1))), (3, zi (nI (c + 1))), (0, zr 0), (1, zi (nI n1)), (2, zi v), (6, zi sum)]) (nn := 114) dX11_often_111 rfl (nI_1 t) (by decide) rfl rfl ?_
            refine zx_goto (tgt := 42) dX11_often_114 (by decide) ?_
            refine zx_lv (lv' := [(0, zr 0), (1, zi (nI n1)), (2, zi v), (3, zi (nI (c + 1))), (4, zi (nI (t + 1)))]) [2, 3, 4, 1, 0] rfl ?_
            exact ih42 (t + 1, c + 1, μ2) (show (t + 1) ≤ n1 ∧ (c + 1) = ((pTimes ρ (rS 1 μ) v) (t + 1)).1 ∧ μ2 1 4 = ((pTimes ρ (rS 1 μ) v) (t + 1)).2 ∧ zJ [1, 3, 4, 6] μ μ2 ∧ ∀ j, j < 521 → μ2 3 j = μ 1 j from ⟨by omega, by show _ = (if v ≤ pLotSum ρ (pPut (rS 1 μ) 4 ((pTimes ρ (rS 1 μ) v) t).2) (pRem (rS 1 μ)) then ((pTimes ρ (rS 1 μ) v) t).1 + 1 else ((pTimes ρ (rS 1 μ) v) t).1); rw [← hmr, ← y3, if_pos hle, ← hc2], by show _ = pRunLot ρ (pPut (rS 1 μ) 4 ((pTimes ρ (rS 1 μ) v) t).2) (pRem (rS 1 μ)) 4; rw [← hmr, ← y1]; rfl, hj4, y5⟩) (by show n1 - (t + 1) < n1 - t; omega)
        · rw [pOver_iff okm, y1, hz1.2.1, hz1.2.2] at h82
          have hlt := of_decide_eq_false h82
          refine zx_iload (k := 5) (nn := 87) dX11_often_85 rfl rfl ?_
          refine zx_aload_n (k := 0) (nn := 88) dX11_often_87 rfl rfl rfl ?_
          refine zx_callV (nn := 91) (k := 0) (d' := 7) (as := []) (rest := [zi sum]) (n := 0) (eX11_slips_0 σ μ2 okm abm y4 (by rw [y1, hz1.2.1, hz1.2.2]; omega)) kX11_slips mlX11_356 rfl rfl rfl (by decide) rfl rfl (Nat.le_of_ble_eq_true rfl) dX11_often_88 rfl ?_
          rintro _ ν4 ⟨rfl, l1, l2, l3⟩
          show zX shR σ 8 MX11_often 91 [(0, zr 0), (1, zi (nI n1)), (2, zi v), (3, zi (nI c)), (4, zi (nI t)), (6, zi sum)] [zi (pGain ρ (pSlip (rS 1 μ2)) (-1)), zi sum] ν4 _
          rw [show pGain ρ (pSlip (rS 1 μ2)) (-1) = (fun q_ => pGain ρ (pSlip (pRunLot ρ (pPut (rS 1 μ) 4 ((pTimes ρ (rS 1 μ) v) t).2) q_)) (-1)) m from by rw [y1]]
          show zX shR σ 8 MX11_often 91 [(0, zr 0), (1, zi (nI n1)), (2, zi v), (3, zi (nI c)), (4, zi (nI t)), (6, zi sum)] [zi ((fun q_ => pGain ρ (pSlip (pRunLot ρ (pPut (rS 1 μ) 4 ((pTimes ρ (rS 1 μ) v) t).2) q_)) (-1)) m), zi sum] ν4 _
          refine zx_iadd (nn := 92) dX11_often_91 rfl ?_
          refine zx_istore (nn := 94) (lv' := [(6, zi (sum + ((fun q_ => pGain ρ (pSlip (pRunLot ρ (pPut (rS 1 μ) 4 ((pTimes ρ (rS 1 μ) v) t).2) q_)) (-1)) m))), (0, zr 0), (1, zi (nI n1)), (2, zi v), (3, zi (nI c)), (4, zi (nI t))]) dX11_often_92 (by decide) rfl rfl ?_
          refine zx_goto (tgt := 78) dX11_often_94 (by decide) ?_
          refine zx_lv (lv' := [(0, zr 0), (1, zi (nI n1)), (2, zi v), (3, zi (nI c)), (4, zi (nI t)), (6, zi (sum + ((fun q_ => pGain ρ (pSlip (pRunLot ρ (pPut (rS 1 μ) 4 ((pTimes ρ (rS 1 μ) v) t).2) q_)) (-1)) m)))]) [1, 2, 3, 4, 5, 0] rfl ?_
          exact ih78 (m + 1, sum + (fun q_ => pGain ρ (pSlip (pRunLot ρ (pPut (rS 1 μ) 4 ((pTimes ρ (rS 1 μ) v) t).2) q_)) (-1)) m, ν4) (show (m + 1) ≤ pRem (rS 1 μ) ∧ rS 1 ν4 = pRunLot ρ (pPut (rS 1 μ) 4 ((pTimes ρ (rS 1 μ) v) t).2) (m + 1) ∧ (sum + (fun q_ => pGain ρ (pSlip (pRunLot ρ (pPut (rS 1 μ) 4 ((pTimes ρ (rS 1 μ) v) t).2) q_)) (-1)) m) = pLotSum ρ (pPut (rS 1 μ) 4 ((pTimes ρ (rS 1 μ) v) t).2) (m + 1) ∧ rRep ρ (ν4 1) ∧ zJ [1, 3, 4, 6] μ ν4 ∧ ∀ j, j < 521 → ν4 3 j = μ 1 j from ⟨by omega, by rw [l1, y1]; rfl, by rw [y3]; rfl, rRep_K l2 y4, hj4.tr (l3.mono (by simp)), fun j hj_ => by rw [l3 3 (by decide)]; exact y5 j hj_⟩) (by show pRem (rS 1 μ) - (m + 1) < pRem (rS 1 μ) - m; omega)
    · refine zx_iconst (v := -1) (nn := 25) rfl dX11_often_24 rfl ?_
      refine zx_iret rfl dX11_often_25 ?_
      refine ⟨congrArg (fun x => some (zi x)) ?_, rfl, fun _ _ => rfl, zJ.rf⟩
      simp [vOften, h9, h21]
