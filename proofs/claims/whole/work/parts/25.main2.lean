/-! items as acts: what they come to, how the stage stands then; not: what no act is, is left out or (strict) the end -/
def pItems (ρ : pR) (len : Int32) (it : Nat → Int32) (i : Int32) (strict : Bool) : Nat → Nat → Int32 → (Nat → Int32) → Int32 × (Nat → Int32)
  | 0, _, sum, s => (sum, s)
  | m + 1, k, sum, s => if pHas len (i + nI k) = true then
      (if ((decide (it (i + nI k).toNatClampNeg = 0) || pHas (s 0) (it (i + nI k).toNatClampNeg - 1)) && !pOver s) = true then pItems ρ len it i strict m (k + 1) (sum + pGain ρ s (it (i + nI k).toNatClampNeg - 1)) (pGo ρ s (it (i + nI k).toNatClampNeg - 1))
        else if strict = true then (-4, s) else pItems ρ len it i strict m (k + 1) sum s)
      else (-12, s)
theorem pRunA_congr {ρ : pR} {s A B : Nat → Int32} : ∀ {m : Nat}, (∀ i, i < m → A i = B i) → pRunA ρ s A m = pRunA ρ s B m
  | 0, _ => rfl
  | m + 1, h => by
    show pGo ρ (pRunA ρ s A m) (A m - 1) = pGo ρ (pRunA ρ s B m) (B m - 1)
    rw [pRunA_congr (fun i hi => h i (by omega)), h m (by omega)]
theorem pRowOf_congr {ρ : pR} {s A B : Nat → Int32} {k w : Nat} (h : ∀ i, i ≤ k → A i = B i) : pRowOf ρ s A k w = pRowOf ρ s B k w := by
  unfold pRowOf
  rw [pRunA_congr (m := k) (fun i hi => h i (by omega)), pRunA_congr (m := k + 1) (fun i hi => h i (by omega)), h k (Nat.le_refl _)]
theorem pJd_congr {ρ : pR} {a b : Nat → Nat → Int32} : ∀ {m k : Nat} {t : Nat → Int32}, (∀ j w, k ≤ j → j < k + m → w < 3 → a j w = b j w) → pJd ρ a m k t = pJd ρ b m k t
  | 0, _, _, _ => rfl
  | m + 1, k, t, h => by
    show (if _ then _ else if _ then _ else _) = (if _ then _ else if _ then _ else _)
    rw [h k 0 (Nat.le_refl _) (by omega) (by omega), h k 1 (Nat.le_refl _) (by omega) (by omega), h k 2 (Nat.le_refl _) (by omega) (by omega), pJd_congr (m := m) (k := k + 1) (fun j w h1 h2 h3 => h j w (by omega) (by omega) h3)]
def vSheetC (k sort n : Int32) : Int32 := if pHas 4 k = true ∧ pIn sort (-1) 4 = true then (if sort = -1 then 1 else if 40 < n then -1 else if n < 0 then -14 else 1) else -1
theorem rem_pos {s : Nat → Int32} (ok : pOK s) (h : pOver s = false) : pRem s ≠ 0 := by
  have := pOver_b ok h
  unfold pRem
  omega
theorem pHas_row {c : Nat} {k w : Int32} (hc : c ≤ 4) (h : (pHas (nI c) k && pHas 3 w) = true) : ∃ k1 w1, (k1 < 4 ∧ w1 < 3 ∧ (nI k1).toNatClampNeg = k1 ∧ (nI w1).toNatClampNeg = w1 ∧ k1 < c) ∧ k = nI k1 ∧ w = nI w1 := by
  have h1 := (Bool.and_eq_true _ _).mp h
  obtain ⟨k1, q1, e1⟩ := has_ok (s := fun _ => 0) (m := c) (c := 4) rfl hc (by omega) h1.1
  obtain ⟨w1, q2, e2⟩ := has_ok (s := fun _ => 0) (m := 3) (c := 3) rfl (Nat.le_refl _) (by omega) h1.2
  exact ⟨k1, w1, ⟨q1.2.1, q2.1, q1.2.2, q2.2.2, q1.1⟩, e1, e2⟩
/-- a place in a sheet -/
theorem has_item {n : Nat} {x i : Int32} (hx : x = nI n) (hn : n ≤ 40) (h : pHas x i = true) : ∃ j, (j < n ∧ j < 40 ∧ (nI j).toNatClampNeg = j) ∧ i = nI j := has_ok (s := fun _ => 0) hx hn (by omega) h
set_option maxHeartbeats 4000000 in
set_option maxRecDepth 100000 in
theorem eX10_best_0 (σ : zG) (μ : zM) (n : Int32) (ok : pOK (cS 18 μ)) (rok : cROK 1 μ) : zMet shC σ 11 MX10_best yX10_best [zr 0, zi n] μ (fun rr μ' => rr = some (zi (vBest (cR 1 μ) (cS 18 μ) n)) ∧ zJ [6, 25, 26, 27, 28, 29, 30, 31, 39, 41, 42, 43, 44, 45, 46] μ μ') := by
  refine zmetF (by decide +kernel) rfl (Nat.le_of_ble_eq_true rfl) ?_
  show zX shC σ 11 MX10_best 0 [(0, zr 0), (1, zi n)] [] μ _
  refine zx_iload_n (k := 1) (nn := 1) dX10_best_0 rfl rfl rfl ?_
  refine zx_iconst (v := 0) (nn := 2) rfl dX10_best_1 rfl ?_
  refine zx_iconst (v := 4) (nn := 3) rfl dX10_best_2 rfl ?_
  refine zx_callSf (nn := 6) (d' := 0) (as := [zi n, zi 0, zi 4]) (rest := []) (n := 3) (eX10_isIn σ μ n 0 4  ) kX10_isIn mlX10_135 (by decide) rfl rfl (Nat.le_of_ble_eq_true rfl) dX10_best_3 rfl ?_
  show zX shC σ 11 MX10_best 6 [(0, zr 0), (1, zi n)] [zi (zb (pIn n 0 4))] μ _
  refine zx_ifb_ne (tgt := 11) (nn := 9) dX10_best_6 (by decide) rfl (fun h6 => ?_) (fun h6 => ?_)
  · obtain ⟨n1, n_n, rfl⟩ := pIn_n (b := 4) (by omega) (by decide) h6
    show zX shC σ 11 MX10_best 11 [(0, zr 0), (1, zi (nI n1))] [] μ _
    refine zx_aload_n (k := 0) (nn := 12) dX10_best_11 rfl rfl rfl ?_
    refine zx_getR (q := 39) (nn := 15) flX10_54 rfl rfl dX10_best_12 rfl ?_
    refine zx_iload_n (k := 1) (nn := 16) dX10_best_15 rfl rfl rfl ?_
    refine zx_callV (nn := 19) (k := 39) (d' := 10) (as := [zi (nI n1)]) (rest := []) (n := 1) (eX0_findBest_39 σ μ n1  ok rok n_n.1) kX0_findBest mlX10_208 rfl rfl rfl (by decide) rfl rfl (Nat.le_of_ble_eq_true rfl) dX10_best_16 rfl ?_
    rintro _ ν1 ⟨rfl, q1⟩
    show zX shC σ 11 MX10_best 19 [(0, zr 0), (1, zi (nI n1))] [] ν1 _
    refine zx_aload_n (k := 0) (nn := 20) dX10_best_19 rfl rfl rfl ?_
    refine zx_getR (q := 39) (nn := 23) flX10_54 rfl rfl dX10_best_20 rfl ?_
    refine zx_getI (nn := 26) flX10_212 rfl rfl dX10_best_23 rfl ?_
    refine zx_iret rfl dX10_best_26 ?_
    refine ⟨congrArg (fun x => some (zi x)) ?_, q1.2.2⟩
    unfold vBest
    rw [if_pos h6, n_n.2]
    exact q1.1.1
  · refine zx_iconst (v := -1) (nn := 10) rfl dX10_best_9 rfl ?_
    refine zx_iret rfl dX10_best_10 ?_
    refine ⟨congrArg (fun x => some (zi x)) ?_, zJ.rf⟩
    simp [vBest, h6]
set_option maxHeartbeats 4000000 in
set_option maxRecDepth 100000 in
theorem eX10_ways_0 (σ : zG) (μ : zM) (n : Int32) (ok : pOK (cS 18 μ)) (rok : cROK 1 μ) : zMet shC σ 11 MX10_ways yX10_ways [zr 0, zi n] μ (fun rr μ' => rr = some (zi (vWays (cR 1 μ) (cS 18 μ) n)) ∧ zJ [6, 25, 26, 27, 28, 29, 30, 31, 39, 41, 42, 43, 44, 45, 46] μ μ') := by
  refine zmetF (by decide +kernel) rfl (Nat.le_of_ble_eq_true rfl) ?_
  show zX shC σ 11 MX10_ways 0 [(0, zr 0), (1, zi n)] [] μ _
  refine zx_iload_n (k := 1) (nn := 1) dX10_ways_0 rfl rfl rfl ?_
  refine zx_iconst (v := 0) (nn := 2) rfl dX10_ways_1 rfl ?_
  refine zx_iconst (v := 4) (nn := 3) rfl dX10_ways_2 rfl ?_
  refine zx_callSf (nn := 6) (d' := 0) (as := [zi n, zi 0, zi 4]) (rest := []) (n := 3) (eX10_isIn σ μ n 0 4  ) kX10_isIn mlX10_135 (by decide) rfl rfl (Nat.le_of_ble_eq_true rfl) dX10_ways_3 rfl ?_
  show zX shC σ 11 MX10_ways 6 [(0, zr 0), (1, zi n)] [zi (zb (pIn n 0 4))] μ _
  refine zx_ifb_ne (tgt := 11) (nn := 9) dX10_ways_6 (by decide) rfl (fun h6 => ?_) (fun h6 => ?_)
  · obtain ⟨n1, n_n, rfl⟩ := pIn_n (b := 4) (by omega) (by decide) h6
    show zX shC σ 11 MX10_ways 11 [(0, zr 0), (1, zi (nI n1))] [] μ _
    refine zx_aload_n (k := 0) (nn := 12) dX10_ways_11 rfl rfl rfl ?_
    refine zx_getR (q := 39) (nn := 15) flX10_54 rfl rfl dX10_ways_12 rfl ?_
    refine zx_iload_n (k := 1) (nn := 16) dX10_ways_15 rfl rfl rfl ?_
    refine zx_callV (nn := 19) (k := 39) (d' := 10) (as := [zi (nI n1)]) (rest := []) (n := 1) (eX0_findBest_39 σ μ n1  ok rok n_n.1) kX0_findBest mlX10_208 rfl rfl rfl (by decide) rfl rfl (Nat.le_of_ble_eq_true rfl) dX10_ways_16 rfl ?_
    rintro _ ν1 ⟨rfl, q1⟩
    show zX shC σ 11 MX10_ways 19 [(0, zr 0), (1, zi (nI n1))] [] ν1 _
    refine zx_aload_n (k := 0) (nn := 20) dX10_ways_19 rfl rfl rfl ?_
    refine zx_getR (q := 39) (nn := 23) flX10_54 rfl rfl dX10_ways_20 rfl ?_
    refine zx_getI (nn := 26) flX10_219 rfl rfl dX10_ways_23 rfl ?_
    refine zx_iret rfl dX10_ways_26 ?_
    refine ⟨congrArg (fun x => some (zi x)) ?_, q1.2.2⟩
    unfold vWays
    rw [if_pos h6, n_n.2]
    exact q1.1.2.1
  · refine zx_iconst (v := -1) (nn := 10) rfl dX10_ways_9 rfl ?_
    refine zx_iret rfl dX10_ways_10 ?_
    refine ⟨congrArg (fun x => some (zi x)) ?_, zJ.rf⟩
    simp [vWays, h6]
set_option maxHeartbeats 4000000 in
set_option maxRecDepth 100000 in
theorem eX10_ith_0 (σ : zG) (μ : zM) (n : Int32) (i : Int32) (ok : pOK (cS 18 μ)) (rok : cROK 1 μ) : zMet shC σ 11 MX10_ith yX10_ith [zr 0, zi n, zi i] μ (fun rr μ' => rr = some (zi (vIth (cR 1 μ) (cS 18 μ) n i)) ∧ zJ [6, 25, 26, 27, 28, 29, 30, 31, 39, 41, 42, 43, 44, 45, 46] μ μ') := by
  refine zmetF (by decide +kernel) rfl (Nat.le_of_ble_eq_true rfl) ?_
  show zX shC σ 11 MX10_ith 0 [(0, zr 0), (1, zi n), (2, zi i)] [] μ _
  refine zx_iload_n (k := 1) (nn := 1) dX10_ith_0 rfl rfl rfl ?_
  refine zx_iconst (v := 0) (nn := 2) rfl dX10_ith_1 rfl ?_
  refine zx_iconst (v := 4) (nn := 3) rfl dX10_ith_2 rfl ?_
  refine zx_callSf (nn := 6) (d' := 0) (as := [zi n, zi 0, zi 4]) (rest := []) (n := 3) (eX10_isIn σ μ n 0 4  ) kX10_isIn mlX10_135 (by decide) rfl rfl (Nat.le_of_ble_eq_true rfl) dX10_ith_3 rfl ?_
  show zX shC σ 11 MX10_ith 6 [(0, zr 0), (1, zi n), (2, zi i)] [zi (zb (pIn n 0 4))] μ _
  refine zx_ifb_eq (tgt := 18) (nn := 9) dX10_ith_6 (by decide) rfl (fun h6 => ?_) (fun h6 => ?_)
  · refine zx_iconst (v := -1) (nn := 19) rfl dX10_ith_18 rfl ?_
    refine zx_iret rfl dX10_ith_19 ?_
    refine ⟨congrArg (fun x => some (zi x)) ?_, zJ.rf⟩
    simp [vIth, h6]
  · refine zx_iload_n (k := 2) (nn := 10) dX10_ith_9 rfl rfl rfl ?_
    refine zx_iconst (v := 0) (nn := 11) rfl dX10_ith_10 rfl ?_
    refine zx_iconst (v := 3) (nn := 12) rfl dX10_ith_11 rfl ?_
    refine zx_callSf (nn := 15) (d' := 0) (as := [zi i, zi 0, zi 3]) (rest := []) (n := 3) (eX10_isIn σ μ i 0 3  ) kX10_isIn mlX10_135 (by decide) rfl rfl (Nat.le_of_ble_eq_true rfl) dX10_ith_12 rfl ?_
    show zX shC σ 11 MX10_ith 15 [(0, zr 0), (1, zi n), (2, zi i)] [zi (zb (pIn i 0 3))] μ _
    refine zx_ifb_ne (tgt := 20) (nn := 18) dX10_ith_15 (by decide) rfl (fun h15 => ?_) (fun h15 => ?_)
    · obtain ⟨n1, n_n, rfl⟩ := pIn_n (b := 4) (by omega) (by decide) h6
      show zX shC σ 11 MX10_ith 20 [(0, zr 0), (1, zi (nI n1)), (2, zi i)] [] μ _
      obtain ⟨i1, n_i, rfl⟩ := pIn_n (b := 3) (by omega) (by decide) h15
      show zX shC σ 11 MX10_ith 20 [(0, zr 0), (1, zi (nI n1)), (2, zi (nI i1))] [] μ _
      refine zx_aload_n (k := 0) (nn := 21) dX10_ith_20 rfl rfl rfl ?_
      refine zx_getR (q := 39) (nn := 24) flX10_54 rfl rfl dX10_ith_21 rfl ?_
      refine zx_iload_n (k := 1) (nn := 25) dX10_ith_24 rfl rfl rfl ?_
      refine zx_callV (nn := 28) (k := 39) (d' := 10) (as := [zi (nI n1)]) (rest := []) (n := 1) (eX0_findBest_39 σ μ n1  ok rok n_n.1) kX0_findBest mlX10_208 rfl rfl rfl (by decide) rfl rfl (Nat.le_of_ble_eq_true rfl) dX10_ith_25 rfl ?_
      rintro _ ν1 ⟨rfl, q1⟩
      show zX shC σ 11 MX10_ith 28 [(0, zr 0), (1, zi (nI n1)), (2, zi (nI i1))] [] ν1 _
      refine zx_iload_n (k := 2) (nn := 29) dX10_ith_28 rfl rfl rfl ?_
      refine zx_aload_n (k := 0) (nn := 30) dX10_ith_29 rfl rfl rfl ?_
      refine zx_getR (q := 39) (nn := 33) flX10_54 rfl rfl dX10_ith_30 rfl ?_
      refine zx_getI (nn := 36) flX10_215 rfl rfl dX10_ith_33 rfl ?_
      rw [q1.2.1]
      show zX shC σ 11 MX10_ith 36 [(0, zr 0), (1, zi (nI n1)), (2, zi (nI i1))] [zi (nI (min n1 (pRem (cS 18 μ)))), zi (nI i1)] ν1 _
      refine zx_icmp_ge (tgt := 51) (nn := 39) dX10_ith_36 (by decide) rfl (fun h36 => ?_) (fun h36 => ?_)
      · refine zx_bipush (v := -3) (nn := 53) rfl dX10_ith_51 rfl ?_
        refine zx_iret rfl dX10_ith_53 ?_
        refine ⟨congrArg (fun x => some (zi x)) ?_, q1.2.2⟩
        unfold vIth
        rw [if_pos ⟨h6, h15⟩, n_n.2, n_i.2]
        rw [if_neg (fun z => absurd (nI_le_le h36 (by omega)) (by omega))]
      · refine zx_aload_n (k := 0) (nn := 40) dX10_ith_39 rfl rfl rfl ?_
        refine zx_getR (q := 39) (nn := 43) flX10_54 rfl rfl dX10_ith_40 rfl ?_
        refine zx_getR (q := 46) (nn := 46) flX10_216 rfl rfl dX10_ith_43 rfl ?_
        refine zx_iload_n (k := 2) (nn := 47) dX10_ith_46 rfl rfl rfl ?_
        refine zx_iald_n (j := i1) (nn := 48) rfl (by omega) (by decide) dX10_ith_47 rfl ?_
        refine zx_goto (tgt := 53) dX10_ith_48 (by decide) ?_
        refine zx_iret rfl dX10_ith_53 ?_
        refine ⟨congrArg (fun x => some (zi x)) ?_, q1.2.2⟩
        unfold vIth
        rw [if_pos ⟨h6, h15⟩, n_n.2, n_i.2]
        have hlt : i1 < min n1 (pRem (cS 18 μ)) := nI_nle_lt h36 (by omega)
        rw [if_pos hlt]
        exact q1.1.2.2 i1 hlt
    · refine zx_iconst (v := -1) (nn := 19) rfl dX10_ith_18 rfl ?_
      refine zx_iret rfl dX10_ith_19 ?_
      refine ⟨congrArg (fun x => some (zi x)) ?_, zJ.rf⟩
      simp [vIth, h6, h15]
set_option maxHeartbeats 4000000 in
set_option maxRecDepth 100000 in
theorem eX10_game_0 (σ : zG) (μ : zM) (n : Int32) (ok : pOK (cS 18 μ)) (rok : cROK 1 μ) : zMet shC σ 11 MX10_game yX10_game [zr 0, zi n] μ (fun rr μ' => rr = some (zi (vGame (cR 1 μ) (cS 18 μ) n)) ∧ zJ [6, 25, 26, 27, 28, 29, 30, 31, 39, 41, 42, 43, 44, 45, 46] μ μ') := by
  refine zmetF (by decide +kernel) rfl (Nat.le_of_ble_eq_true rfl) ?_
  show zX shC σ 11 MX10_game 0 [(0, zr 0), (1, zi n)] [] μ _
  refine zx_iload_n (k := 1) (nn := 1) dX10_game_0 rfl rfl rfl ?_
  refine zx_iconst (v := 1) (nn := 2) rfl dX10_game_1 rfl ?_
  refine zx_iconst (v := 4) (nn := 3) rfl dX10_game_2 rfl ?_
  refine zx_callSf (nn := 6) (d' := 0) (as := [zi n, zi 1, zi 4]) (rest := []) (n := 3) (eX10_isIn σ μ n 1 4  ) kX10_isIn mlX10_135 (by decide) rfl rfl (Nat.le_of_ble_eq_true rfl) dX10_game_3 rfl ?_
  show zX shC σ 11 MX10_game 6 [(0, zr 0), (1, zi n)] [zi (zb (pIn n 1 4))] μ _
  refine zx_ifb_eq (tgt := 20) (nn := 9) dX10_game_6 (by decide) rfl (fun h6 => ?_) (fun h6 => ?_)
  · refine zx_iconst (v := -1) (nn := 21) rfl dX10_game_20 rfl ?_
    refine zx_iret rfl dX10_game_21 ?_
    refine ⟨congrArg (fun x => some (zi x)) ?_, zJ.rf⟩
    simp [vGame, h6]
  · obtain ⟨n1, n_n, rfl⟩ := pIn_n1 (b := 4) (by omega) h6
    show zX shC σ 11 MX10_game 9 [(0, zr 0), (1, zi (nI n1))] [] μ _
    refine zx_aload_n (k := 0) (nn := 10) dX10_game_9 rfl rfl rfl ?_
    refine zx_getR (q := 39) (nn := 13) flX10_54 rfl rfl dX10_game_10 rfl ?_
    refine zx_iload_n (k := 1) (nn := 14) dX10_game_13 rfl rfl rfl ?_
    refine zx_callV (nn := 17) (k := 39) (d' := 10) (as := [zi (nI n1)]) (rest := []) (n := 1) (eX0_gameValue_39 σ μ n1  ok rok n_n.2.1) kX0_gameValue mlX10_222 rfl rfl rfl (by decide) rfl rfl (Nat.le_of_ble_eq_true rfl) dX10_game_14 rfl ?_
    rintro _ ν1 ⟨rfl, q1⟩
    show zX shC σ 11 MX10_game 17 [(0, zr 0), (1, zi (nI n1))] [zi ((pGame (cR 1 μ) (min n1 (pRem (cS 18 μ))) 0 (pNo (cS 18 μ))).1)] ν1 _
    refine zx_goto (tgt := 21) dX10_game_17 (by decide) ?_
    refine zx_iret rfl dX10_game_21 ?_
    refine ⟨congrArg (fun x => some (zi x)) ?_, q1.2⟩
    unfold vGame
    rw [if_pos h6, n_n.2.2]
set_option maxHeartbeats 4000000 in
set_option maxRecDepth 100000 in
theorem eX10_play_0 (σ : zG) (μ : zM) (n : Int32) (ok : pOK (cS 18 μ)) (rok : cROK 1 μ) : zMet shC σ 11 MX10_play yX10_play [zr 0, zi n] μ (fun rr μ' => rr = some (zi (vPlay (cR 1 μ) (cS 18 μ) n)) ∧ zJ [6, 25, 26, 27, 28, 29, 30, 31, 39, 41, 42, 43, 44, 45, 46] μ μ') := by
  refine zmetF (by decide +kernel) rfl (Nat.le_of_ble_eq_true rfl) ?_
  show zX shC σ 11 MX10_play 0 [(0, zr 0), (1, zi n)] [] μ _
  refine zx_iload_n (k := 1) (nn := 1) dX10_play_0 rfl rfl rfl ?_
  refine zx_iconst (v := 1) (nn := 2) rfl dX10_play_1 rfl ?_
  refine zx_iconst (v := 4) (nn := 3) rfl dX10_play_2 rfl ?_
  refine zx_callSf (nn := 6) (d' := 0) (as := [zi n, zi 1, zi 4]) (rest := []) (n := 3) (eX10_isIn σ μ n 1 4  ) kX10_isIn mlX10_135 (by decide) rfl rfl (Nat.le_of_ble_eq_true rfl) dX10_play_3 rfl ?_
  show zX shC σ 11 MX10_play 6 [(0, zr 0), (1, zi n)] [zi (zb (pIn n 1 4))] μ _
  refine zx_ifb_ne (tgt := 11) (nn := 9) dX10_play_6 (by decide) rfl (fun h6 => ?_) (fun h6 => ?_)
  · refine zx_aload_n (k := 0) (nn := 12) dX10_play_11 rfl rfl rfl ?_
    refine zx_getR (q := 18) (nn := 15) flX10_28 rfl rfl dX10_play_12 rfl ?_
    refine zx_callVf (nn := 18) (k := 18) (d' := 0) (as := []) (rest := []) (n := 0) (eX8_isOver_18 σ μ   ) kX8_isOver mlX10_124 rfl rfl rfl (by decide) rfl rfl (Nat.le_of_ble_eq_true rfl) dX10_play_15 rfl ?_
    show zX shC σ 11 MX10_play 18 [(0, zr 0), (1, zi n)] [zi (zb (pOver (cS 18 μ)))] μ _
    refine zx_ifb_eq (tgt := 24) (nn := 21) dX10_play_18 (by decide) rfl (fun h18 => ?_) (fun h18 => ?_)
    · obtain ⟨n1, n_n, rfl⟩ := pIn_n1 (b := 4) (by omega) h6
      show zX shC σ 11 MX10_play 24 [(0, zr 0), (1, zi (nI n1))] [] μ _
      refine zx_aload_n (k := 0) (nn := 25) dX10_play_24 rfl rfl rfl ?_
      refine zx_getR (q := 39) (nn := 28) flX10_54 rfl rfl dX10_play_25 rfl ?_
      refine zx_iload_n (k := 1) (nn := 29) dX10_play_28 rfl rfl rfl ?_
      refine zx_callV (nn := 32) (k := 39) (d' := 10) (as := [zi (nI n1)]) (rest := []) (n := 1) (eX0_gameValue_39 σ μ n1  ok rok n_n.2.1) kX0_gameValue mlX10_222 rfl rfl rfl (by decide) rfl rfl (Nat.le_of_ble_eq_true rfl) dX10_play_29 rfl ?_
      rintro _ ν1 ⟨rfl, q1⟩
      show zX shC σ 11 MX10_play 32 [(0, zr 0), (1, zi (nI n1))] [zi ((pGame (cR 1 μ) (min n1 (pRem (cS 18 μ))) 0 (pNo (cS 18 μ))).1)] ν1 _
      refine zx_popi (nn := 33) dX10_play_32 rfl ?_
      refine zx_aload_n (k := 0) (nn := 34) dX10_play_33 rfl rfl rfl ?_
      refine zx_getR (q := 39) (nn := 37) flX10_54 rfl rfl dX10_play_34 rfl ?_
      refine zx_getI (nn := 40) flX10_225 rfl rfl dX10_play_37 rfl ?_
      refine zx_iret rfl dX10_play_40 ?_
      refine ⟨congrArg (fun x => some (zi x)) ?_, q1.2⟩
      unfold vPlay
      rw [if_pos h6, if_neg (by rw [h18]; decide), n_n.2.2]
      exact q1.1 (by have := rem_pos ok h18; have := n_n.1; omega)
    · refine zx_bipush (v := -3) (nn := 23) rfl dX10_play_21 rfl ?_
      refine zx_iret rfl dX10_play_23 ?_
      refine ⟨congrArg (fun x => some (zi x)) ?_, zJ.rf⟩
      simp [vPlay, h6, h18]
  · refine zx_iconst (v := -1) (nn := 10) rfl dX10_play_9 rfl ?_
    refine zx_iret rfl dX10_play_10 ?_
    refine ⟨congrArg (fun x => some (zi x)) ?_, zJ.rf⟩
    simp [vPlay, h6]
set_option maxHeartbeats 4000000 in
set_option maxRecDepth 100000 in
theorem eX10_report_0 (σ : zG) (μ : zM) (b : Int32) (a : Int32) (z : Int32) (g : Int32) (n : Nat) (hc : μ 32 4 = nI n) (hn : n ≤ 6) : zMet shC σ 2 MX10_report yX10_report [zr 0, zi b, zi a, zi z, zi g] μ (fun rr μ' => rr = some (zi (if vReportC b a z g = true then (if n < 6 then nI n else -2) else -1)) ∧ μ' = if vReportC b a z g = true then (if n < 6 then zp (zp (zp (zp (zp μ 33 n b) 34 n a) 35 n z) 36 n g) 32 4 (nI n + 1) else μ) else μ) := by
  refine zmetF (by decide +kernel) rfl (Nat.le_of_ble_eq_true rfl) ?_
  show zX shC σ 2 MX10_report 0 [(0, zr 0), (1, zi b), (2, zi a), (3, zi z), (4, zi g)] [] μ _
  refine zx_iload_n (k := 1) (nn := 1) dX10_report_0 rfl rfl rfl ?_
  refine zx_iconst (v := 0) (nn := 2) rfl dX10_report_1 rfl ?_
  refine zx_bipush (v := 15) (nn := 4) rfl dX10_report_2 rfl ?_
  refine zx_callSf (nn := 7) (d' := 0) (as := [zi b, zi 0, zi 15]) (rest := []) (n := 3) (eX10_isIn σ μ b 0 15  ) kX10_isIn mlX10_135 (by decide) rfl rfl (Nat.le_of_ble_eq_true rfl) dX10_report_4 rfl ?_
  show zX shC σ 2 MX10_report 7 [(0, zr 0), (1, zi b), (2, zi a), (3, zi z), (4, zi g)] [zi (zb (pIn b 0 15))] μ _
  refine zx_ifb_eq (tgt := 20) (nn := 10) dX10_report_7 (by decide) rfl (fun h7 => ?_) (fun h7 => ?_)
  · refine zx_iconst (v := -1) (nn := 21) rfl dX10_report_20 rfl ?_
    refine zx_iret rfl dX10_report_21 ?_
    exact ⟨congrArg (fun x => some (zi x)) (by simp [vReportC, h7]), by simp [vReportC, h7]⟩
  · refine zx_iload (k := 4) (nn := 12) dX10_report_10 rfl rfl ?_
    refine zx_iconst (v := 0) (nn := 13) rfl dX10_report_12 rfl ?_
    refine zx_iconst (v := 2) (nn := 14) rfl dX10_report_13 rfl ?_
    refine zx_callSf (nn := 17) (d' := 0) (as := [zi g, zi 0, zi 2]) (rest := []) (n := 3) (eX10_isIn σ μ g 0 2  ) kX10_isIn mlX10_135 (by decide) rfl rfl (Nat.le_of_ble_eq_true rfl) dX10_report_14 rfl ?_
    show zX shC σ 2 MX10_report 17 [(0, zr 0), (1, zi b), (2, zi a), (3, zi z), (4, zi g)] [zi (zb (pIn g 0 2))] μ _
    refine zx_ifb_ne (tgt := 22) (nn := 20) dX10_report_17 (by decide) rfl (fun h17 => ?_) (fun h17 => ?_)
    · refine zx_iconst (v := 1) (nn := 23) rfl dX10_report_22 rfl ?_
      refine zx_iload_n (k := 2) (nn := 24) dX10_report_23 rfl rfl rfl ?_
      refine zx_callSf (nn := 27) (d' := 1) (as := [zi 1, zi a]) (rest := []) (n := 2) (eX10_fits σ μ 1 a  ) kX10_fits mlX10_105 (by decide) rfl rfl (Nat.le_of_ble_eq_true rfl) dX10_report_24 rfl ?_
      show zX shC σ 2 MX10_report 27 [(0, zr 0), (1, zi b), (2, zi a), (3, zi z), (4, zi g)] [zi (zb (pTold 1 a))] μ _
      refine zx_ifb_eq (tgt := 38) (nn := 30) dX10_report_27 (by decide) rfl (fun h27 => ?_) (fun h27 => ?_)
      · refine zx_iconst (v := -1) (nn := 39) rfl dX10_report_38 rfl ?_
        refine zx_iret rfl dX10_report_39 ?_
        exact ⟨congrArg (fun x => some (zi x)) (by simp [vReportC, h7, h17, h27]), by simp [vReportC, h7, h17, h27]⟩
      · refine zx_iconst (v := 2) (nn := 31) rfl dX10_report_30 rfl ?_
        refine zx_iload_n (k := 3) (nn := 32) dX10_report_31 rfl rfl rfl ?_
        refine zx_callSf (nn := 35) (d' := 1) (as := [zi 2, zi z]) (rest := []) (n := 2) (eX10_fits σ μ 2 z  ) kX10_fits mlX10_105 (by decide) rfl rfl (Nat.le_of_ble_eq_true rfl) dX10_report_32 rfl ?_
        show zX shC σ 2 MX10_report 35 [(0, zr 0), (1, zi b), (2, zi a), (3, zi z), (4, zi g)] [zi (zb (pTold 2 z))] μ _
        refine zx_ifb_ne (tgt := 40) (nn := 38) dX10_report_35 (by decide) rfl (fun h35 => ?_) (fun h35 => ?_)
        · refine zx_aload_n (k := 0) (nn := 41) dX10_report_40 rfl rfl rfl ?_
          refine zx_getR (q := 32) (nn := 44) flX10_38 rfl rfl dX10_report_41 rfl ?_
          refine zx_iload_n (k := 1) (nn := 45) dX10_report_44 rfl rfl rfl ?_
          refine zx_iload_n (k := 2) (nn := 46) dX10_report_45 rfl rfl rfl ?_
          refine zx_iload_n (k := 3) (nn := 47) dX10_report_46 rfl rfl rfl ?_
          refine zx_iload (k := 4) (nn := 49) dX10_report_47 rfl rfl ?_
          refine zx_callVf (nn := 52) (k := 32) (d' := 0) (as := [zi b, zi a, zi z, zi g]) (rest := []) (n := 4) (eX1_addReport_32 σ μ b a z g n hc hn) kX1_addReport mlX10_228 rfl rfl rfl (by decide) rfl rfl (Nat.le_of_ble_eq_true rfl) dX10_report_49 rfl ?_
          show zX shC σ 2 MX10_report 52 [(0, zr 0), (1, zi b), (2, zi a), (3, zi z), (4, zi g)] [zi (if n < 6 then nI n else -2)] (if n < 6 then zp (zp (zp (zp (zp μ 33 n b) 34 n a) 35 n z) 36 n g) 32 4 (nI n + 1) else μ) _
          refine zx_iret rfl dX10_report_52 ?_
          exact ⟨congrArg (fun x => some (zi x)) (by simp [vReportC, h7, h17, h27, h35]), by simp [vReportC, h7, h17, h27, h35]⟩
        · refine zx_iconst (v := -1) (nn := 39) rfl dX10_report_38 rfl ?_
          refine zx_iret rfl dX10_report_39 ?_
          exact ⟨congrArg (fun x => some (zi x)) (by simp [vReportC, h7, h17, h27, h35]), by simp [vReportC, h7, h17, h27, h35]⟩
    · refine zx_iconst (v := -1) (nn := 21) rfl dX10_report_20 rfl ?_
      refine zx_iret rfl dX10_report_21 ?_
      exact ⟨congrArg (fun x => some (zi x)) (by simp [vReportC, h7, h17]), by simp [vReportC, h7, h17]⟩
set_option maxHeartbeats 4000000 in
set_option maxRecDepth 100000 in
theorem eX10_forget_0 (σ : zG) (μ : zM) : zMet shC σ 0 MX10_forget yX10_forget [zr 0] μ (fun rr μ' => rr = some (zi (μ 32 4)) ∧ μ' = zp μ 32 4 0) := by
  refine zmetF (by decide +kernel) rfl (Nat.le_of_ble_eq_true rfl) ?_
  show zX shC σ 0 MX10_forget 0 [(0, zr 0)] [] μ _
  refine zx_aload_n (k := 0) (nn := 1) dX10_forget_0 rfl rfl rfl ?_
  refine zx_getR (q := 32) (nn := 4) flX10_38 rfl rfl dX10_forget_1 rfl ?_
  refine zx_getI (nn := 7) flX10_231 rfl rfl dX10_forget_4 rfl ?_
  refine zx_istore_n (nn := 8) (lv' := [(1, zi (μ 32 4)), (0, zr 0)]) dX10_forget_7 rfl (by decide) rfl rfl ?_
  refine zx_aload_n (k := 1) (nn := 9) dX10_forget_8 rfl rfl rfl ?_
  refine zx_getR (q := 32) (nn := 12) flX10_38 rfl rfl dX10_forget_9 rfl ?_
  refine zx_iconst (v := 0) (nn := 13) rfl dX10_forget_12 rfl ?_
  refine zx_putI (nn := 16) fpX10_231 rfl rfl rfl rfl dX10_forget_13 rfl ?_
  refine zx_iload_n (k := 0) (nn := 17) dX10_forget_16 rfl rfl rfl ?_
  refine zx_iret rfl dX10_forget_17 ?_
  exact ⟨rfl, rfl⟩
set_option maxHeartbeats 4000000 in
set_option maxRecDepth 100000 in
theorem eX10_span_0 (σ : zG) (μ : zM) (w : Int32) (n : Nat) (hc : μ 32 4 = nI n) (hn : n ≤ 6) : zMet shC σ 4 MX10_span yX10_span [zr 0, zi w] μ (fun rr μ' => rr = some (zi (vSpan (cP 32 μ) n w (-3))) ∧ zJ [32] μ μ' ∧ cP 32 μ' = cP 32 μ ∧ μ' 32 4 = nI n) := by
  refine zmetF (by decide +kernel) rfl (Nat.le_of_ble_eq_true rfl) ?_
  show zX shC σ 4 MX10_span 0 [(0, zr 0), (1, zi w)] [] μ _
  refine zx_iload_n (k := 1) (nn := 1) dX10_span_0 rfl rfl rfl ?_
  refine zx_iconst (v := 0) (nn := 2) rfl dX10_span_1 rfl ?_
  refine zx_iconst (v := 2) (nn := 3) rfl dX10_span_2 rfl ?_
  refine zx_callSf (nn := 6) (d' := 0) (as := [zi w, zi 0, zi 2]) (rest := []) (n := 3) (eX10_isIn σ μ w 0 2  ) kX10_isIn mlX10_135 (by decide) rfl rfl (Nat.le_of_ble_eq_true rfl) dX10_span_3 rfl ?_
  show zX shC σ 4 MX10_span 6 [(0, zr 0), (1, zi w)] [zi (zb (pIn w 0 2))] μ _
  refine zx_ifb_ne (tgt := 11) (nn := 9) dX10_span_6 (by decide) rfl (fun h6 => ?_) (fun h6 => ?_)
  · refine zx_aload_n (k := 0) (nn := 12) dX10_span_11 rfl rfl rfl ?_
    refine zx_getR (q := 32) (nn := 15) flX10_38 rfl rfl dX10_span_12 rfl ?_
    refine zx_bipush (v := -3) (nn := 17) rfl dX10_span_15 rfl ?_
    refine zx_callV (nn := 20) (k := 32) (d' := 3) (as := [zi (-3)]) (rest := []) (n := 1) (eX1_countWalks_32 σ μ (-3) n hc hn) kX1_countWalks mlX10_232 rfl rfl rfl (by decide) rfl rfl (Nat.le_of_ble_eq_true rfl) dX10_span_17 rfl ?_
    rintro _ ν1 ⟨rfl, q1⟩
    show zX shC σ 4 MX10_span 20 [(0, zr 0), (1, zi w)] [zi (nI (pWalks (cP 32 μ) n (-3)).1)] ν1 _
    refine zx_istore_n (nn := 21) (lv' := [(2, zi (nI (pWalks (cP 32 μ) n (-3)).1)), (0, zr 0), (1, zi w)]) dX10_span_20 rfl (by decide) rfl rfl ?_
    refine zx_iload_n (k := 2) (nn := 22) dX10_span_21 rfl rfl rfl ?_
    refine zx_if_ne (tgt := 27) (nn := 25) dX10_span_22 (by decide) rfl (fun h22 => ?_) (fun h22 => ?_)
    · refine zx_iload_n (k := 0) (nn := 28) dX10_span_27 rfl rfl rfl ?_
      refine zx_if_ne (tgt := 34) (nn := 31) dX10_span_28 (by decide) rfl (fun h28 => ?_) (fun h28 => ?_)
      · refine zx_iload_n (k := 2) (nn := 35) dX10_span_34 rfl rfl rfl ?_
        refine zx_iconst (v := 1) (nn := 36) rfl dX10_span_35 rfl ?_
        refine zx_icmp_ne (tgt := 49) (nn := 39) dX10_span_36 (by decide) rfl (fun h36 => ?_) (fun h36 => ?_)
        · refine zx_aload_n (k := 1) (nn := 50) dX10_span_49 rfl rfl rfl ?_
          refine zx_getR (q := 32) (nn := 53) flX10_38 rfl rfl dX10_span_50 rfl ?_
          refine zx_getI (nn := 56) flX10_238 rfl rfl dX10_span_53 rfl ?_
          refine zx_iconst (v := 2) (nn := 57) rfl dX10_span_56 rfl ?_
          refine zx_iadd (nn := 58) dX10_span_57 rfl ?_
          refine zx_iret rfl dX10_span_58 ?_
          have hz : (pWalks (cP 32 μ) n (-3)).1 ≠ 0 := fun z => h28 (by rw [z]; rfl)
          refine ⟨congrArg (fun x => some (zi x)) ?_, q1.1, q1.2.1, q1.2.2.1⟩
          unfold vSpan
          rw [if_pos h6, if_neg h22, if_neg hz, if_neg h36, (q1.2.2.2 hz).2]
        · refine zx_aload_n (k := 1) (nn := 40) dX10_span_39 rfl rfl rfl ?_
          refine zx_getR (q := 32) (nn := 43) flX10_38 rfl rfl dX10_span_40 rfl ?_
          refine zx_getI (nn := 46) flX10_235 rfl rfl dX10_span_43 rfl ?_
          refine zx_goto (tgt := 58) dX10_span_46 (by decide) ?_
          refine zx_iret rfl dX10_span_58 ?_
          have hz : (pWalks (cP 32 μ) n (-3)).1 ≠ 0 := fun z => h28 (by rw [z]; rfl)
          refine ⟨congrArg (fun x => some (zi x)) ?_, q1.1, q1.2.1, q1.2.2.1⟩
          unfold vSpan
          rw [if_pos h6, if_neg h22, if_neg hz, if_pos h36]
          exact (q1.2.2.2 hz).1
      · refine zx_bipush (v := -3) (nn := 33) rfl dX10_span_31 rfl ?_
        refine zx_iret rfl dX10_span_33 ?_
        have hw : (pWalks (cP 32 μ) n (-3)).1 ≤ 205 := pWalk_le 205
        refine ⟨congrArg (fun x => some (zi x)) ?_, q1.1, q1.2.1, q1.2.2.1⟩
        unfold vSpan
        rw [if_pos h6, if_neg h22, if_pos (nI_eq0 h28 (by omega))]
    · refine zx_iload_n (k := 0) (nn := 26) dX10_span_25 rfl rfl rfl ?_
      refine zx_iret rfl dX10_span_26 ?_
      refine ⟨congrArg (fun x => some (zi x)) ?_, q1.1, q1.2.1, q1.2.2.1⟩
      unfold vSpan
      rw [if_pos h6, if_pos h22]
  · refine zx_iconst (v := -1) (nn := 10) rfl dX10_span_9 rfl ?_
    refine zx_iret rfl dX10_span_10 ?_
    refine ⟨congrArg (fun x => some (zi x)) ?_, zJ.rf, rfl, hc⟩
    simp [vSpan, h6]
set_option maxHeartbeats 4000000 in
set_option maxRecDepth 100000 in
theorem eX10_liar_0 (σ : zG) (μ : zM) (n : Nat) (hc : μ 32 4 = nI n) (hn : n ≤ 6) : zMet shC σ 5 MX10_liar yX10_liar [zr 0] μ (fun rr μ' => rr = some (zi (pLiar (cP 32 μ) n (-3))) ∧ zJ [32] μ μ' ∧ cP 32 μ' = cP 32 μ ∧ μ' 32 4 = nI n) := by
  refine zmetF (by decide +kernel) rfl (Nat.le_of_ble_eq_true rfl) ?_
  show zX shC σ 5 MX10_liar 0 [(0, zr 0)] [] μ _
  refine zx_aload_n (k := 0) (nn := 1) dX10_liar_0 rfl rfl rfl ?_
  refine zx_getR (q := 32) (nn := 4) flX10_38 rfl rfl dX10_liar_1 rfl ?_
  refine zx_callV (nn := 7) (k := 32) (d' := 4) (as := []) (rest := []) (n := 0) (eX1_leastLiar_32 σ μ  n hc hn) kX1_leastLiar mlX10_241 rfl rfl rfl (by decide) rfl rfl (Nat.le_of_ble_eq_true rfl) dX10_liar_4 rfl ?_
  rintro _ ν1 ⟨rfl, q1⟩
  show zX shC σ 5 MX10_liar 7 [(0, zr 0)] [zi (pLiar (cP 32 μ) n (-3))] ν1 _
  refine zx_iret rfl dX10_liar_7 ?_
  exact ⟨rfl, q1⟩
set_option maxHeartbeats 4000000 in
set_option maxRecDepth 100000 in
theorem eX10_seed_0 (σ : zG) (μ : zM) (v : Int32) : zMet shC σ 0 MX10_seed yX10_seed [zr 0, zi v] μ (fun rr μ' => rr = some (zi ((cS 18 μ) 4)) ∧ cS 18 μ' = pPut (cS 18 μ) 4 v ∧ zJ [18] μ μ') := by
  refine zmetF (by decide +kernel) rfl (Nat.le_of_ble_eq_true rfl) ?_
  show zX shC σ 0 MX10_seed 0 [(0, zr 0), (1, zi v)] [] μ _
  refine zx_aload_n (k := 0) (nn := 1) dX10_seed_0 rfl rfl rfl ?_
  refine zx_getR (q := 18) (nn := 4) flX10_28 rfl rfl dX10_seed_1 rfl ?_
  refine zx_getI (nn := 7) flX10_244 rfl rfl dX10_seed_4 rfl ?_
  refine zx_istore_n (nn := 8) (lv' := [(2, zi (μ 18 11)), (0, zr 0), (1, zi v)]) dX10_seed_7 rfl (by decide) rfl rfl ?_
  refine zx_aload_n (k := 1) (nn := 9) dX10_seed_8 rfl rfl rfl ?_
  refine zx_getR (q := 18) (nn := 12) flX10_28 rfl rfl dX10_seed_9 rfl ?_
  refine zx_iload_n (k := 2) (nn := 13) dX10_seed_12 rfl rfl rfl ?_
  refine zx_putI (nn := 16) fpX10_244 rfl rfl rfl rfl dX10_seed_13 rfl ?_
  refine zx_iload_n (k := 0) (nn := 17) dX10_seed_16 rfl rfl rfl ?_
  refine zx_iret rfl dX10_seed_17 ?_
  exact ⟨rfl, cS_putI (b := 18) (j := 11) (k := 4) (by omega), zJ.rf.p (by decide)⟩
set_option maxHeartbeats 4000000 in
set_option maxRecDepth 100000 in
theorem eX10_lot_0 (σ : zG) (μ : zM) (ok : pOK (cS 18 μ)) (rok : cROK 1 μ) : zMet shC σ 6 MX10_lot yX10_lot [zr 0] μ (fun rr μ' => rr = some (zi (vLot (cR 1 μ) (cS 18 μ))) ∧ cS 18 μ' = sLot (cR 1 μ) (cS 18 μ) ∧ zJ [18, 20, 23, 6, 24] μ μ') := by
  refine zmetF (by decide +kernel) rfl (Nat.le_of_ble_eq_true rfl) ?_
  show zX shC σ 6 MX10_lot 0 [(0, zr 0)] [] μ _
  refine zx_aload_n (k := 0) (nn := 1) dX10_lot_0 rfl rfl rfl ?_
  refine zx_getR (q := 18) (nn := 4) flX10_28 rfl rfl dX10_lot_1 rfl ?_
  refine zx_callVf (nn := 7) (k := 18) (d' := 0) (as := []) (rest := []) (n := 0) (eX8_isOver_18 σ μ   ) kX8_isOver mlX10_124 rfl rfl rfl (by decide) rfl rfl (Nat.le_of_ble_eq_true rfl) dX10_lot_4 rfl ?_
  show zX shC σ 6 MX10_lot 7 [(0, zr 0)] [zi (zb (pOver (cS 18 μ)))] μ _
  refine zx_ifb_eq (tgt := 15) (nn := 10) dX10_lot_7 (by decide) rfl (fun h7 => ?_) (fun h7 => ?_)
  · refine zx_aload_n (k := 0) (nn := 16) dX10_lot_15 rfl rfl rfl ?_
    refine zx_getR (q := 18) (nn := 19) flX10_28 rfl rfl dX10_lot_16 rfl ?_
    refine zx_callV (nn := 22) (k := 18) (d' := 5) (as := []) (rest := []) (n := 0) (eX8_goByLot_18 σ μ   ok rok (pOver_b ok h7)) kX8_goByLot mlX10_247 rfl rfl rfl (by decide) rfl rfl (Nat.le_of_ble_eq_true rfl) dX10_lot_19 rfl ?_
    rintro _ ν1 ⟨rfl, q1⟩
    show zX shC σ 6 MX10_lot 22 [(0, zr 0)] [zi (pGain (cR 1 μ) (pSlip (cS 18 μ)) (-1))] ν1 _
    refine zx_iret rfl dX10_lot_22 ?_
    refine ⟨congrArg (fun x => some (zi x)) ?_, q1.1.trans (by simp [sLot, h7]), q1.2⟩
    simp [vLot, h7]
  · refine zx_bipush (v := -4) (nn := 12) rfl dX10_lot_10 rfl ?_
    refine zx_goto (tgt := 22) dX10_lot_12 (by decide) ?_
    refine zx_iret rfl dX10_lot_22 ?_
    refine ⟨congrArg (fun x => some (zi x)) ?_, (by simp [sLot, h7]), zJ.rf⟩
    simp [vLot, h7]
set_option maxHeartbeats 4000000 in
set_option maxRecDepth 100000 in
theorem eX10_often_0 (σ : zG) (μ : zM) (n : Int32) (v : Int32) (ok : pOK (cS 18 μ)) (rok : cROK 1 μ) : zMet shC σ 7 MX10_often yX10_often [zr 0, zi n, zi v] μ (fun rr μ' => rr = some (zi (vOften (cR 1 μ) (cS 18 μ) n v)) ∧ zJ [6, 25, 26, 27, 28, 29, 30, 31] μ μ') := by
  refine zmetF (by decide +kernel) rfl (Nat.le_of_ble_eq_true rfl) ?_
  show zX shC σ 7 MX10_often 0 [(0, zr 0), (1, zi n), (2, zi v)] [] μ _
  refine zx_iload_n (k := 1) (nn := 1) dX10_often_0 rfl rfl rfl ?_
  refine zx_iconst (v := 1) (nn := 2) rfl dX10_often_1 rfl ?_
  refine zx_bipush (v := 40) (nn := 4) rfl dX10_often_2 rfl ?_
  refine zx_callSf (nn := 7) (d' := 0) (as := [zi n, zi 1, zi 40]) (rest := []) (n := 3) (eX10_isIn σ μ n 1 40  ) kX10_isIn mlX10_135 (by decide) rfl rfl (Nat.le_of_ble_eq_true rfl) dX10_often_4 rfl ?_
  show zX shC σ 7 MX10_often 7 [(0, zr 0), (1, zi n), (2, zi v)] [zi (zb (pIn n 1 40))] μ _
  refine zx_ifb_eq (tgt := 21) (nn := 10) dX10_often_7 (by decide) rfl (fun h7 => ?_) (fun h7 => ?_)
  · refine zx_iconst (v := -1) (nn := 22) rfl dX10_often_21 rfl ?_
    refine zx_iret rfl dX10_often_22 ?_
    refine ⟨congrArg (fun x => some (zi x)) ?_, zJ.rf⟩
    simp [vOften, h7]
  · refine zx_iload_n (k := 2) (nn := 11) dX10_often_10 rfl rfl rfl ?_
    refine zx_iconst (v := 0) (nn := 12) rfl dX10_often_11 rfl ?_
    refine zx_sipush (v := 999) (nn := 15) rfl dX10_often_12 rfl ?_
    refine zx_callSf (nn := 18) (d' := 0) (as := [zi v, zi 0, zi 999]) (rest := []) (n := 3) (eX10_isIn σ μ v 0 999  ) kX10_isIn mlX10_135 (by decide) rfl rfl (Nat.le_of_ble_eq_true rfl) dX10_often_15 rfl ?_
    show zX shC σ 7 MX10_often 18 [(0, zr 0), (1, zi n), (2, zi v)] [zi (zb (pIn v 0 999))] μ _
    refine zx_ifb_ne (tgt := 23) (nn := 21) dX10_often_18 (by decide) rfl (fun h18 => ?_) (fun h18 => ?_)
    · obtain ⟨n1, n_n, rfl⟩ := pIn_n1 (b := 40) (by omega) h7
      show zX shC σ 7 MX10_often 23 [(0, zr 0), (1, zi (nI n1)), (2, zi v)] [] μ _
      refine zx_aload_n (k := 0) (nn := 24) dX10_often_23 rfl rfl rfl ?_
      refine zx_getR (q := 37) (nn := 27) flX10_47 rfl rfl dX10_often_24 rfl ?_
      refine zx_iload_n (k := 1) (nn := 28) dX10_often_27 rfl rfl rfl ?_
      refine zx_iload_n (k := 2) (nn := 29) dX10_often_28 rfl rfl rfl ?_
      refine zx_callV (nn := 32) (k := 37) (d' := 6) (as := [zi (nI n1), zi v]) (rest := []) (n := 2) (eX2_timesWorth_37 σ μ n1 v  ok rok (by omega)) kX2_timesWorth mlX10_250 rfl rfl rfl (by decide) rfl rfl (Nat.le_of_ble_eq_true rfl) dX10_often_29 rfl ?_
      rintro _ ν1 ⟨rfl, q1⟩
      show zX shC σ 7 MX10_often 32 [(0, zr 0), (1, zi (nI n1)), (2, zi v)] [zi (nI (pTimes (cR 1 μ) (cS 18 μ) v n1).1)] ν1 _
      refine zx_iret rfl dX10_often_32 ?_
      refine ⟨congrArg (fun x => some (zi x)) ?_, q1⟩
      unfold vOften
      rw [if_pos ⟨h7, h18⟩, n_n.2.2]
    · refine zx_iconst (v := -1) (nn := 22) rfl dX10_often_21 rfl ?_
      refine zx_iret rfl dX10_often_22 ?_
      refine ⟨congrArg (fun x => some (zi x)) ?_, zJ.rf⟩
      simp [vOften, h7, h18]
set_option maxHeartbeats 4000000 in
set_option maxRecDepth 100000 in
theorem eX10_prove_0 (σ : zG) (μ : zM) (n : Int32) (ok : pOK (cS 18 μ)) (rok : cROK 1 μ) : zMet shC σ 11 MX10_prove yX10_prove [zr 0, zi n] μ (fun rr μ' => rr = some (zi (if pIn n 0 4 = true then nI (min n.toNatClampNeg (pRem (cS 18 μ))) else -1)) ∧ if pIn n 0 4 = true then zJ [6, 25, 26, 27, 28, 29, 30, 31, 39, 41, 42, 43, 44, 45, 46, 47, 49, 50, 51, 52] μ μ' ∧ μ' 47 3 = nI (min n.toNatClampNeg (pRem (cS 18 μ))) ∧ ∀ j, j < min n.toNatClampNeg (pRem (cS 18 μ)) → ∀ w, w < 3 → μ' (49 + j) w = pRowOf (cR 1 μ) (cS 18 μ) (pPlan (cR 1 μ) (cS 18 μ) n.toNatClampNeg).2.2 j w else μ' = μ) := by
  refine zmetF (by decide +kernel) rfl (Nat.le_of_ble_eq_true rfl) ?_
  show zX shC σ 11 MX10_prove 0 [(0, zr 0), (1, zi n)] [] μ _
  refine zx_iload_n (k := 1) (nn := 1) dX10_prove_0 rfl rfl rfl ?_
  refine zx_iconst (v := 0) (nn := 2) rfl dX10_prove_1 rfl ?_
  refine zx_iconst (v := 4) (nn := 3) rfl dX10_prove_2 rfl ?_
  refine zx_callSf (nn := 6) (d' := 0) (as := [zi n, zi 0, zi 4]) (rest := []) (n := 3) (eX10_isIn σ μ n 0 4  ) kX10_isIn mlX10_135 (by decide) rfl rfl (Nat.le_of_ble_eq_true rfl) dX10_prove_3 rfl ?_
  show zX shC σ 11 MX10_prove 6 [(0, zr 0), (1, zi n)] [zi (zb (pIn n 0 4))] μ _
  refine zx_ifb_ne (tgt := 11) (nn := 9) dX10_prove_6 (by decide) rfl (fun h6 => ?_) (fun h6 => ?_)
  · obtain ⟨n1, n_n, rfl⟩ := pIn_n (b := 4) (by omega) (by decide) h6
    show zX shC σ 11 MX10_prove 11 [(0, zr 0), (1, zi (nI n1))] [] μ _
    refine zx_aload_n (k := 0) (nn := 12) dX10_prove_11 rfl rfl rfl ?_
    refine zx_getR (q := 39) (nn := 15) flX10_54 rfl rfl dX10_prove_12 rfl ?_
    refine zx_iload_n (k := 1) (nn := 16) dX10_prove_15 rfl rfl rfl ?_
    refine zx_callV (nn := 19) (k := 39) (d' := 10) (as := [zi (nI n1)]) (rest := []) (n := 1) (eX0_findBest_39 σ μ n1  ok rok n_n.1) kX0_findBest mlX10_208 rfl rfl rfl (by decide) rfl rfl (Nat.le_of_ble_eq_true rfl) dX10_prove_16 rfl ?_
    rintro _ ν1 ⟨rfl, q1⟩
    show zX shC σ 11 MX10_prove 19 [(0, zr 0), (1, zi (nI n1))] [] ν1 _
    refine zx_aload_n (k := 0) (nn := 20) dX10_prove_19 rfl rfl rfl ?_
    refine zx_getR (q := 47) (nn := 23) flX10_61 rfl rfl dX10_prove_20 rfl ?_
    refine zx_aload_n (k := 0) (nn := 24) dX10_prove_23 rfl rfl rfl ?_
    refine zx_getR (q := 39) (nn := 27) flX10_54 rfl rfl dX10_prove_24 rfl ?_
    refine zx_getR (q := 46) (nn := 30) flX10_216 rfl rfl dX10_prove_27 rfl ?_
    refine zx_aload_n (k := 0) (nn := 31) dX10_prove_30 rfl rfl rfl ?_
    refine zx_getR (q := 39) (nn := 34) flX10_54 rfl rfl dX10_prove_31 rfl ?_
    refine zx_getI (nn := 37) flX10_215 rfl rfl dX10_prove_34 rfl ?_
    have e18 : cS 18 ν1 = cS 18 μ := cS_eq (fun k hk => q1.2.2 k (by simp; omega))
    have eR1 : cR 1 ν1 = cR 1 μ := cR_μ (fun k h1 h2 => q1.2.2 k (by simp; omega))
    rw [q1.2.1]
    show zX shC σ 11 MX10_prove 37 [(0, zr 0), (1, zi (nI n1))] [zi (nI (min n1 (pRem (cS 18 μ)))), zr 46, zr 47] ν1 _
    refine zx_callV (nn := 40) (k := 47) (d' := 5) (as := [zr 46, zi (nI (min n1 (pRem (cS 18 μ))))]) (rest := []) (n := 2) (eX3_tell_47 σ ν1 (min n1 (pRem (cS 18 μ))) (by rw [e18]; exact ok) (cROK_μ (q1.2.2 1 (by decide)).symm (q1.2.2 4 (by decide)).symm rok) (by omega) (by rw [e18]; omega)) kX3_tell mlX10_253 rfl rfl rfl (by decide) rfl rfl (Nat.le_of_ble_eq_true rfl) dX10_prove_37 rfl ?_
    rintro _ ν2 ⟨rfl, q2⟩
    show zX shC σ 11 MX10_prove 40 [(0, zr 0), (1, zi (nI n1))] [] ν2 _
    refine zx_aload_n (k := 0) (nn := 41) dX10_prove_40 rfl rfl rfl ?_
    refine zx_getR (q := 47) (nn := 44) flX10_61 rfl rfl dX10_prove_41 rfl ?_
    refine zx_getI (nn := 47) flX10_257 rfl rfl dX10_prove_44 rfl ?_
    refine zx_iret rfl dX10_prove_47 ?_
    refine ⟨congrArg (fun x => some (zi x)) ?_, ?_⟩
    · rw [if_pos h6, n_n.2]
      exact q2.2.1
    rw [if_pos h6, n_n.2]
    refine ⟨(q1.2.2.mono (by decide)).tr (q2.1.mono (by decide)), q2.2.1, fun j hj w hw => ?_⟩
    rw [q2.2.2 j hj w hw, eR1, e18]
    exact pRowOf_congr (fun i hi => q1.1.2.2 i (by omega))
  · refine zx_iconst (v := -1) (nn := 10) rfl dX10_prove_9 rfl ?_
    refine zx_iret rfl dX10_prove_10 ?_
    refine ⟨congrArg (fun x => some (zi x)) ?_, ?_⟩
    · simp [h6]
    · rw [if_neg (by simp [h6])]
set_option maxHeartbeats 4000000 in
set_option maxRecDepth 100000 in
theorem eX10_row_0 (σ : zG) (μ : zM) (k : Int32) (w : Int32) (c : Nat) (hc4 : c ≤ 4) (hc : μ 47 3 = nI c) : zMet shC σ 1 MX10_row yX10_row [zr 0, zi k, zi w] μ (fun rr μ' => rr = some (zi (if (pHas (μ 47 3) k && pHas 3 w) = true then μ (49 + k.toNatClampNeg) w.toNatClampNeg else -9)) ∧ μ' = μ) := by
  refine zmetF (by decide +kernel) rfl (Nat.le_of_ble_eq_true rfl) ?_
  show zX shC σ 1 MX10_row 0 [(0, zr 0), (1, zi k), (2, zi w)] [] μ _
  refine zx_aload_n (k := 0) (nn := 1) dX10_row_0 rfl rfl rfl ?_
  refine zx_getR (q := 47) (nn := 4) flX10_61 rfl rfl dX10_row_1 rfl ?_
  refine zx_iload_n (k := 1) (nn := 5) dX10_row_4 rfl rfl rfl ?_
  refine zx_iload_n (k := 2) (nn := 6) dX10_row_5 rfl rfl rfl ?_
  refine zx_callVf (nn := 9) (k := 47) (d' := 0) (as := [zi k, zi w]) (rest := []) (n := 2) (eX3_hasCell_47 σ μ k w  ) kX3_hasCell mlX10_258 rfl rfl rfl (by decide) rfl rfl (Nat.le_of_ble_eq_true rfl) dX10_row_6 rfl ?_
  show zX shC σ 1 MX10_row 9 [(0, zr 0), (1, zi k), (2, zi w)] [zi (zb (pHas (μ 47 3) k && pHas 3 w))] μ _
  refine zx_ifb_eq (tgt := 26) (nn := 12) dX10_row_9 (by decide) rfl (fun h9 => ?_) (fun h9 => ?_)
  · refine zx_bipush (v := -9) (nn := 28) rfl dX10_row_26 rfl ?_
    refine zx_iret rfl dX10_row_28 ?_
    refine ⟨congrArg (fun x => some (zi x)) ?_, rfl⟩
    rw [if_neg (by rw [h9]; decide)]
  · have hpc := h9
    rw [hc] at hpc
    obtain ⟨k1, w1, n_k, rfl, rfl⟩ := pHas_row hc4 hpc
    show zX shC σ 1 MX10_row 12 [(0, zr 0), (1, zi (nI k1)), (2, zi (nI w1))] [] μ _
    refine zx_aload_n (k := 0) (nn := 13) dX10_row_12 rfl rfl rfl ?_
    refine zx_getR (q := 47) (nn := 16) flX10_61 rfl rfl dX10_row_13 rfl ?_
    refine zx_getR (q := 48) (nn := 19) flX10_261 rfl rfl dX10_row_16 rfl ?_
    refine zx_iload_n (k := 1) (nn := 20) dX10_row_19 rfl rfl rfl ?_
    refine zx_aald (q := 49 + k1) (nn := 21) rfl (vp_in_nI n_k.1 (by decide)) (rows_ix n_k.1) dX10_row_20 rfl ?_
    refine zx_iload_n (k := 2) (nn := 22) dX10_row_21 rfl rfl rfl ?_
    refine zx_iald_n (j := w1) (nn := 23) (rows_sh n_k.1) n_k.2.1 (by decide) dX10_row_22 rfl ?_
    refine zx_goto (tgt := 28) dX10_row_23 (by decide) ?_
    refine zx_iret rfl dX10_row_28 ?_
    refine ⟨congrArg (fun x => some (zi x)) ?_, rfl⟩
    rw [if_pos h9, n_k.2.2.1, n_k.2.2.2.1]
set_option maxHeartbeats 4000000 in
set_option maxRecDepth 100000 in
theorem eX10_alterRow_0 (σ : zG) (μ : zM) (k : Int32) (w : Int32) (v : Int32) (c : Nat) (hc4 : c ≤ 4) (hc : μ 47 3 = nI c) : zMet shC σ 1 MX10_alterRow yX10_alterRow [zr 0, zi k, zi w, zi v] μ (fun rr μ' => rr = some (zi (if (pHas (μ 47 3) k && pHas 3 w) = true then μ (49 + k.toNatClampNeg) w.toNatClampNeg else -9)) ∧ μ' = if (pHas (μ 47 3) k && pHas 3 w) = true then zp μ (49 + k.toNatClampNeg) w.toNatClampNeg v else μ) := by
  refine zmetF (by decide +kernel) rfl (Nat.le_of_ble_eq_true rfl) ?_
  show zX shC σ 1 MX10_alterRow 0 [(0, zr 0), (1, zi k), (2, zi w), (3, zi v)] [] μ _
  refine zx_aload_n (k := 0) (nn := 1) dX10_alterRow_0 rfl rfl rfl ?_
  refine zx_getR (q := 47) (nn := 4) flX10_61 rfl rfl dX10_alterRow_1 rfl ?_
  refine zx_iload_n (k := 1) (nn := 5) dX10_alterRow_4 rfl rfl rfl ?_
  refine zx_iload_n (k := 2) (nn := 6) dX10_alterRow_5 rfl rfl rfl ?_
  refine zx_callVf (nn := 9) (k := 47) (d' := 0) (as := [zi k, zi w]) (rest := []) (n := 2) (eX3_hasCell_47 σ μ k w  ) kX3_hasCell mlX10_258 rfl rfl rfl (by decide) rfl rfl (Nat.le_of_ble_eq_true rfl) dX10_alterRow_6 rfl ?_
  show zX shC σ 1 MX10_alterRow 9 [(0, zr 0), (1, zi k), (2, zi w), (3, zi v)] [zi (zb (pHas (μ 47 3) k && pHas 3 w))] μ _
  refine zx_ifb_ne (tgt := 15) (nn := 12) dX10_alterRow_9 (by decide) rfl (fun h9 => ?_) (fun h9 => ?_)
  · have hpc := h9
    rw [hc] at hpc
    obtain ⟨k1, w1, n_k, rfl, rfl⟩ := pHas_row hc4 hpc
    show zX shC σ 1 MX10_alterRow 15 [(0, zr 0), (1, zi (nI k1)), (2, zi (nI w1)), (3, zi v)] [] μ _
    refine zx_aload_n (k := 0) (nn := 16) dX10_alterRow_15 rfl rfl rfl ?_
    refine zx_getR (q := 47) (nn := 19) flX10_61 rfl rfl dX10_alterRow_16 rfl ?_
    refine zx_getR (q := 48) (nn := 22) flX10_261 rfl rfl dX10_alterRow_19 rfl ?_
    refine zx_iload_n (k := 1) (nn := 23) dX10_alterRow_22 rfl rfl rfl ?_
    refine zx_aald (q := 49 + k1) (nn := 24) rfl (vp_in_nI n_k.1 (by decide)) (rows_ix n_k.1) dX10_alterRow_23 rfl ?_
    refine zx_iload_n (k := 2) (nn := 25) dX10_alterRow_24 rfl rfl rfl ?_
    refine zx_iald_n (j := w1) (nn := 26) (rows_sh n_k.1) n_k.2.1 (by decide) dX10_alterRow_25 rfl ?_
    refine zx_istore (nn := 28) (lv' := [(4, zi (μ (49 + k1) w1)), (0, zr 0), (1, zi (nI k1)), (2, zi (nI w1)), (3, zi v)]) dX10_alterRow_26 (by decide) rfl rfl ?_
    refine zx_aload_n (k := 1) (nn := 29) dX10_alterRow_28 rfl rfl rfl ?_
    refine zx_getR (q := 47) (nn := 32) flX10_61 rfl rfl dX10_alterRow_29 rfl ?_
    refine zx_getR (q := 48) (nn := 35) flX10_261 rfl rfl dX10_alterRow_32 rfl ?_
    refine zx_iload_n (k := 2) (nn := 36) dX10_alterRow_35 rfl rfl rfl ?_
    refine zx_aald (q := 49 + k1) (nn := 37) rfl (vp_in_nI n_k.1 (by decide)) (rows_ix n_k.1) dX10_alterRow_36 rfl ?_
    refine zx_iload_n (k := 3) (nn := 38) dX10_alterRow_37 rfl rfl rfl ?_
    refine zx_iload_n (k := 4) (nn := 39) dX10_alterRow_38 rfl rfl rfl ?_
    refine zx_iast_n (j := w1) (nn := 40) (rows_sh n_k.1) n_k.2.1 (by decide) dX10_alterRow_39 rfl ?_
    refine zx_iload (k := 0) (nn := 42) dX10_alterRow_40 rfl rfl ?_
    refine zx_iret rfl dX10_alterRow_42 ?_
    exact ⟨by rw [if_pos h9, n_k.2.2.1, n_k.2.2.2.1], by rw [if_pos h9, n_k.2.2.1, n_k.2.2.2.1]⟩
  · refine zx_bipush (v := -9) (nn := 14) rfl dX10_alterRow_12 rfl ?_
    refine zx_iret rfl dX10_alterRow_14 ?_
    exact ⟨by rw [if_neg (by rw [h9]; decide)], by rw [if_neg (by rw [h9]; decide)]⟩
set_option maxHeartbeats 4000000 in
set_option maxRecDepth 100000 in
theorem eX10_judge_0 (σ : zG) (μ : zM) (c : Nat) (ok : pOK (cS 18 μ)) (rok : cROK 1 μ) (hc4 : c ≤ 4) (hc : μ 47 3 = nI c) : zMet shC σ 6 MX10_judge yX10_judge [zr 0] μ (fun rr μ' => rr = some (zi (pJd (cR 1 μ) (fun k_ w_ => μ (49 + k_) w_) c 0 (cS 18 μ))) ∧ zJ [6, 25, 26, 27, 28, 29, 30, 31] μ μ') := by
  refine zmetF (by decide +kernel) rfl (Nat.le_of_ble_eq_true rfl) ?_
  show zX shC σ 6 MX10_judge 0 [(0, zr 0)] [] μ _
  refine zx_aload_n (k := 0) (nn := 1) dX10_judge_0 rfl rfl rfl ?_
  refine zx_getR (q := 47) (nn := 4) flX10_61 rfl rfl dX10_judge_1 rfl ?_
  refine zx_callV (nn := 7) (k := 47) (d' := 5) (as := []) (rest := []) (n := 0) (eX3_firstWrong_47 σ μ  c ok rok hc4 hc) kX3_firstWrong mlX10_265 rfl rfl rfl (by decide) rfl rfl (Nat.le_of_ble_eq_true rfl) dX10_judge_4 rfl ?_
  rintro _ ν1 ⟨rfl, q1⟩
  show zX shC σ 6 MX10_judge 7 [(0, zr 0)] [zi (pJd (cR 1 μ) (fun k_ w_ => μ (49 + k_) w_) c 0 (cS 18 μ))] ν1 _
  refine zx_iret rfl dX10_judge_7 ?_
  exact ⟨rfl, q1⟩
