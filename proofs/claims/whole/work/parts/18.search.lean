theorem pGo_oth {ρ : pR} {s : Nat → Int32} {h : Int32} {i : Nat} (h2 : i ≠ 2) (h3 : i ≠ 3) (ha : ¬ (7 ≤ i ∧ i < 31 ∧ (i - 7) % 4 = 1)) (hL : pL s ≤ 6) : pGo ρ s h i = s i := by
  unfold pGo pAims
  rw [if_neg h2, if_neg h3, if_neg (by omega)]
theorem nI_p1 {x : Int32} : x + 1 - 1 = x := by
  rw [Int32.add_sub_cancel]
/-- a beat is taken back: the aims as they were kept -/
theorem pNo_back {ρ : pR} {s : Nat → Int32} {h : Int32} {μ ν : zM} {f : Nat → Int32} (ok : pOK s) (hss : pNo s = s) (hs : pNo (cS 25 μ) = s) (hν : pNo (cS 25 ν) = pNo (pGo ρ s h)) (hf : ∀ j, j < 6 → f j = μ 27 j) : pNo (cS 25 (zp (zu ν 27 f) 25 9 (ν 25 9 - 1))) = s := by
  funext i
  by_cases h3 : i = 3
  · subst h3
    rw [← hss]
    unfold pNo pPut
    rw [if_pos rfl, if_pos rfl]
  · rw [pNo_ne h3, cS_int (b := 25) (j := 9) (k := 2) (by omega) i]
    by_cases h2 : i = 2
    · subst h2
      rw [if_pos rfl, show ν 25 9 = cS 25 ν 2 from rfl, pNo_at hν (by omega), pGo_2]
      exact nI_p1
    · rw [if_neg h2, cS_cpy]
      by_cases ha : 7 ≤ i ∧ i < 31 ∧ (i - 7) % 4 = 1
      · have e : cS 25 μ (7 + 4 * ((i - 7) / 4) + 1) = μ 27 ((i - 7) / 4) := cS_a (by omega)
        rw [show 7 + 4 * ((i - 7) / 4) + 1 = i by omega] at e
        rw [if_pos ha, hf _ (by omega), ← e, ← hs, pNo_ne h3]
      · rw [if_neg ha, pNo_at hν h3, pGo_oth h2 h3 ha (ok_L ok).2]
def pJS : List Nat := [6, 25, 27, 31, 39, 41, 42, 43, 44, 45, 46]
theorem pBr_μ {μ ν : zM} {n : Nat} {B : pBT} (h1 : ν 39 6 = μ 39 6) (h2 : ν 39 7 = μ 39 7) (h3 : ν 46 = μ 46) (h : pBr μ n B) : pBr ν n B := by
  unfold pBr at *
  rw [h1, h2, h3]
  exact h
set_option maxHeartbeats 4000000 in
set_option maxRecDepth 100000 in
theorem eX0_search (σ : zG) (ρ : pR) (n : Nat) (hn : n ≤ 4) : ∀ (m k : Nat), k + m = n → ∀ (μ : zM) (s : Nat → Int32) (sum : Int32) (acts : Nat → Int32) (B : pBT), cROK 1 μ → cR 1 μ = ρ → pOK s → pNo s = s → pNo (cS 25 μ) = s → m ≤ pB s - pb s → μ 39 5 = nI n → μ 18 7 = nI (pL s) → pBr μ n B → (∀ i, i < k → μ 45 i = acts i) →
    zMet shC σ (5 + m) MX0_search yX0_search [zr 39, zi (nI k), zi sum] μ (fun rr μ' => rr = none ∧ pBr μ' n (pSearch ρ m k s sum acts B) ∧ pNo (cS 25 μ') = s ∧ zJ pJS μ μ' ∧ μ' 39 5 = nI n ∧ (∀ i, i < k → μ' 45 i = μ 45 i) ∧ ∀ j, j < k → μ' (41 + j) = μ (41 + j)) := by
  intro m
  induction m with
  | zero =>
    intro k hk μ s sum acts B rok hρ ok hss hs hrem hlen hL hB ha
    refine zmetF (by decide +kernel) rfl (Nat.le_of_ble_eq_true rfl) ?_
    show zX shC σ (5 + 0) MX0_search 0 [(0, zr 39), (1, zi (nI k)), (2, zi sum)] [] μ _
    refine zx_iload_n (k := 1) (nn := 1) dX0_search_0 rfl rfl rfl ?_
    refine zx_aload_n (k := 0) (nn := 2) dX0_search_1 rfl rfl rfl ?_
    refine zx_getI (nn := 5) flX0_49 rfl rfl dX0_search_2 rfl ?_
    rw [hlen]
    show zX shC σ (5 + 0) MX0_search 5 [(0, zr 39), (1, zi (nI k)), (2, zi sum)] [zi (nI n), zi (nI k)] μ _
    refine zx_icmp_ge (tgt := 13) (nn := 8) dX0_search_5 (by decide) rfl (fun h5 => ?_) (fun h5 => ?_)
    · refine zx_aload_n (k := 0) (nn := 14) dX0_search_13 rfl rfl rfl ?_
      refine zx_iload_n (k := 2) (nn := 15) dX0_search_14 rfl rfl rfl ?_
      refine zx_callV (nn := 18) (k := 39) (d' := 1) (as := [zi sum]) (rest := []) (n := 1) (eX0_weigh_39 σ μ sum n acts B hn hB (fun i hi => ha i (by omega))) kX0_weigh mlX0_62 rfl rfl rfl (by omega) rfl rfl (Nat.le_of_ble_eq_true rfl) dX0_search_15 rfl ?_
      rintro _ ν1 ⟨rfl, w1, w2, w3⟩
      show zX shC σ (5 + 0) MX0_search 18 [(0, zr 39), (1, zi (nI k)), (2, zi sum)] [] ν1 _
      refine zx_vret rfl dX0_search_18 ?_
      exact ⟨rfl, w1, (by rw [cS_eq (b := 25) (fun q hq => w2 q (by simp; omega))]; exact hs), w2.mono (by decide), w3.trans hlen, fun i hi => by rw [w2 45 (by decide)], fun j hj => w2 _ (by simp; omega)⟩
    · exact absurd (nI_le (a := n) (b := k) (by omega) (by omega)) h5
  | succ m ih =>
    intro k hk μ s sum acts B rok hρ ok hss hs hrem hlen hL hB ha
    have hk4 : k < 4 := by omega
    have hL6 := (ok_L ok).2
    have hb : pb s < pB s := by omega
    refine zmetF (by decide +kernel) rfl (Nat.le_of_ble_eq_true rfl) ?_
    show zX shC σ (5 + (m + 1)) MX0_search 0 [(0, zr 39), (1, zi (nI k)), (2, zi sum)] [] μ _
    refine zx_iload_n (k := 1) (nn := 1) dX0_search_0 rfl rfl rfl ?_
    refine zx_aload_n (k := 0) (nn := 2) dX0_search_1 rfl rfl rfl ?_
    refine zx_getI (nn := 5) flX0_49 rfl rfl dX0_search_2 rfl ?_
    rw [hlen]
    show zX shC σ (5 + (m + 1)) MX0_search 5 [(0, zr 39), (1, zi (nI k)), (2, zi sum)] [zi (nI n), zi (nI k)] μ _
    refine zx_icmp_ge (tgt := 13) (nn := 8) dX0_search_5 (by decide) rfl (fun h5 => ?_) (fun h5 => ?_)
    · exact absurd h5 (nI_ge (a := k) (b := n) (by omega) (by omega))
    · refine zx_iload_n (k := 1) (nn := 9) dX0_search_8 rfl rfl rfl ?_
      refine zx_iconst (v := 4) (nn := 10) rfl dX0_search_9 rfl ?_
      refine zx_icmp_lt (tgt := 19) (nn := 13) dX0_search_10 (by decide) rfl (fun h10 => ?_) (fun h10 => ?_)
      · refine zx_iconst (v := 0) (nn := 20) rfl dX0_search_19 rfl ?_
        refine zx_istore_n (nn := 21) (lv' := [(3, zi 0), (0, zr 39), (1, zi (nI k)), (2, zi sum)]) dX0_search_20 rfl (by decide) rfl rfl ?_
        refine zx_lv (lv' := [(0, zr 39), (1, zi (nI k)), (2, zi sum), (3, zi 0)]) [1, 2, 3, 0] rfl ?_
        refine zx_while (τ := Nat × pBT × zM) (fun t_ => pL s + 1 - t_.1) (fun t_ => t_.1 ≤ pL s + 1 ∧ t_.2.1 = pFoldB (fun a_ B_ => pSearch ρ m (k + 1) (pNo (pGo ρ s (nI a_ - 1))) (sum + pGain ρ s (nI a_ - 1)) (upd acts k (nI a_)) B_) t_.1 B ∧ pBr t_.2.2 n t_.2.1 ∧ pNo (cS 25 t_.2.2) = s ∧ zJ pJS μ t_.2.2 ∧ t_.2.2 39 5 = nI n ∧ (∀ i, i < k → t_.2.2 45 i = μ 45 i) ∧ ∀ j, j < k → t_.2.2 (41 + j) = μ (41 + j)) (fun t_ => [(0, zr 39), (1, zi (nI k)), (2, zi sum), (3, zi (nI t_.1))]) (fun t_ => t_.2.2) (t0 := (0, B, μ)) (⟨Nat.zero_le _, rfl, hB, hs, zJ.rf, hlen, fun _ _ => rfl, fun _ _ => rfl⟩) ?_
        rintro ⟨a, B1, μ1⟩ hI ih21
        replace hI : a ≤ pL s + 1 ∧ B1 = pFoldB (fun a_ B_ => pSearch ρ m (k + 1) (pNo (pGo ρ s (nI a_ - 1))) (sum + pGain ρ s (nI a_ - 1)) (upd acts k (nI a_)) B_) a B ∧ pBr μ1 n B1 ∧ pNo (cS 25 μ1) = s ∧ zJ pJS μ μ1 ∧ μ1 39 5 = nI n ∧ (∀ i, i < k → μ1 45 i = μ 45 i) ∧ ∀ j, j < k → μ1 (41 + j) = μ (41 + j) := hI
        show zX shC σ (5 + (m + 1)) MX0_search 21 [(0, zr 39), (1, zi (nI k)), (2, zi sum), (3, zi (nI a))] [] μ1 _
        obtain ⟨v1, v2, v3, v4, v5, v6, v7, v8⟩ := hI
        have hL1 : μ1 18 7 = nI (pL s) := by rw [v5 18 (by decide)]; exact hL
        refine zx_iload_n (k := 3) (nn := 22) dX0_search_21 rfl rfl rfl ?_
        refine zx_aload_n (k := 0) (nn := 23) dX0_search_22 rfl rfl rfl ?_
        refine zx_getR (q := 18) (nn := 26) flX0_23 rfl rfl dX0_search_23 rfl ?_
        refine zx_getI (nn := 29) flX0_66 rfl rfl dX0_search_26 rfl ?_
        rw [hL1]
        show zX shC σ (5 + (m + 1)) MX0_search 29 [(0, zr 39), (1, zi (nI k)), (2, zi sum), (3, zi (nI a))] [zi (nI (pL s)), zi (nI a)] μ1 _
        refine zx_icmp_gt (tgt := 78) (nn := 32) dX0_search_29 (by decide) rfl (fun h29 => ?_) (fun h29 => ?_)
        · refine zx_vret rfl dX0_search_78 ?_
          have hge : pL s < a := (nI_ltI (by omega) (by omega)).mp h29
          refine ⟨rfl, ?_, v4, v5, v6, v7, v8⟩
          rw [v2, show a = pL s + 1 by omega] at v3
          exact v3
        · have hlt : a ≤ pL s := (nI_leI (by omega) (by omega)).mp (Int32.not_lt.mp h29)
          refine zx_aload_n (k := 0) (nn := 33) dX0_search_32 rfl rfl rfl ?_
          refine zx_getR (q := 45) (nn := 36) flX0_16 rfl rfl dX0_search_33 rfl ?_
          refine zx_iload_n (k := 1) (nn := 37) dX0_search_36 rfl rfl rfl ?_
          refine zx_iload_n (k := 3) (nn := 38) dX0_search_37 rfl rfl rfl ?_
          refine zx_iast_n (j := k) (nn := 39) rfl hk4 (by decide) dX0_search_38 rfl ?_
          refine zx_aload_n (k := 0) (nn := 40) dX0_search_39 rfl rfl rfl ?_
          refine zx_iload_n (k := 1) (nn := 41) dX0_search_40 rfl rfl rfl ?_
          refine zx_callVf (nn := 44) (k := 39) (d' := 1) (as := [zi (nI k)]) (rest := []) (n := 1) (eX0_keepAims_39 σ (zp μ1 45 k (nI a)) k hk4) kX0_keepAims mlX0_69 rfl rfl rfl (by omega) rfl rfl (Nat.le_of_ble_eq_true rfl) dX0_search_41 rfl ?_
          show zX shC σ (5 + (m + 1)) MX0_search 44 [(0, zr 39), (1, zi (nI k)), (2, zi sum), (3, zi (nI a))] [] (zu (zp μ1 45 k (nI a)) (41 + k) (va_cpy ((zp μ1 45 k (nI a)) 27) ((zp μ1 45 k (nI a)) (41 + k)) 0 0 6)) _
          have hM : cS 25 (zu (zp μ1 45 k (nI a)) (41 + k) (va_cpy ((zp μ1 45 k (nI a)) 27) ((zp μ1 45 k (nI a)) (41 + k)) 0 0 6)) = cS 25 μ1 := cS_eq (fun q hq => by rw [zu_ne (by omega), zp_ne (by omega)])
          have okM : pOK (cS 25 (zu (zp μ1 45 k (nI a)) (41 + k) (va_cpy ((zp μ1 45 k (nI a)) 27) ((zp μ1 45 k (nI a)) (41 + k)) 0 0 6))) := by rw [hM, ← pNo_ok, v4]; exact ok
          have e1 : pNo (cS 25 (zu (zp μ1 45 k (nI a)) (41 + k) (va_cpy ((zp μ1 45 k (nI a)) 27) ((zp μ1 45 k (nI a)) (41 + k)) 0 0 6))) = pNo s := by rw [hM, v4, hss]
          have rokM : cROK 1 (zu (zp μ1 45 k (nI a)) (41 + k) (va_cpy ((zp μ1 45 k (nI a)) 27) ((zp μ1 45 k (nI a)) (41 + k)) 0 0 6)) := cROK_μ (μ := μ) (by rw [zu_ne (by omega), zp_ne (by omega), v5 1 (by decide)]) (by rw [zu_ne (by omega), zp_ne (by omega), v5 4 (by decide)]) rok
          have hRM : cR 1 (zu (zp μ1 45 k (nI a)) (41 + k) (va_cpy ((zp μ1 45 k (nI a)) 27) ((zp μ1 45 k (nI a)) (41 + k)) 0 0 6)) = ρ := by rw [← hρ]; exact cR_μ (fun q h1 h2 => by rw [zu_ne (by omega), zp_ne (by omega), v5 q (by simp [pJS]; omega)])
          have ebB : pb (cS 25 (zu (zp μ1 45 k (nI a)) (41 + k) (va_cpy ((zp μ1 45 k (nI a)) 27) ((zp μ1 45 k (nI a)) (41 + k)) 0 0 6))) = pb s ∧ pB (cS 25 (zu (zp μ1 45 k (nI a)) (41 + k) (va_cpy ((zp μ1 45 k (nI a)) 27) ((zp μ1 45 k (nI a)) (41 + k)) 0 0 6))) = pB s := by unfold pb pB; rw [pNo_at e1 (by omega), pNo_at e1 (by omega)]; exact ⟨rfl, rfl⟩
          refine zx_aload_n (k := 0) (nn := 45) dX0_search_44 rfl rfl rfl ?_
          refine zx_getR (q := 25) (nn := 48) flX0_27 rfl rfl dX0_search_45 rfl ?_
          refine zx_iload_n (k := 3) (nn := 49) dX0_search_48 rfl rfl rfl ?_
          refine zx_iconst (v := 1) (nn := 50) rfl dX0_search_49 rfl ?_
          refine zx_isub (nn := 51) dX0_search_50 rfl ?_
          refine zx_callV (nn := 54) (k := 25) (d' := 4) (as := [zi ((nI a) - 1)]) (rest := []) (n := 1) (eX8_goBy_25 σ (zu (zp μ1 45 k (nI a)) (41 + k) (va_cpy ((zp μ1 45 k (nI a)) 27) ((zp μ1 45 k (nI a)) (41 + k)) 0 0 6)) (nI a - 1) okM rokM (by rw [ebB.1, ebB.2]; exact hb)) kX8_goBy mlX0_72 rfl rfl rfl (by omega) rfl rfl (Nat.le_of_ble_eq_true rfl) dX0_search_51 rfl ?_
          rintro _ ν1 ⟨rfl, g1, g2⟩
          show zX shC σ (5 + (m + 1)) MX0_search 54 [(0, zr 39), (1, zi (nI k)), (2, zi sum), (3, zi (nI a))] [zi (pGain (cR 1 (zu (zp μ1 45 k (nI a)) (41 + k) (va_cpy ((zp μ1 45 k (nI a)) 27) ((zp μ1 45 k (nI a)) (41 + k)) 0 0 6))) (cS 25 (zu (zp μ1 45 k (nI a)) (41 + k) (va_cpy ((zp μ1 45 k (nI a)) 27) ((zp μ1 45 k (nI a)) (41 + k)) 0 0 6))) (nI a - 1))] ν1 _
          rw [hRM, pGain_no okM e1]
          rw [hRM] at g1
          have h45 : ν1 45 = zp μ1 45 k (nI a) 45 := by rw [g2 45 (by decide), zu_ne (by omega)]
          have e2 : pNo (cS 25 ν1) = pNo (pGo ρ s (nI a - 1)) := by rw [g1]; exact pGo_no okM e1
          have okg := pOK_go (ρ := ρ) (h := nI a - 1) ok hb
          have hrowJ : 41 + k ∈ pJS := by simp [pJS]; omega
          show zX shC σ (5 + (m + 1)) MX0_search 54 [(0, zr 39), (1, zi (nI k)), (2, zi sum), (3, zi (nI a))] [zi (pGain ρ s (nI a - 1))] ν1 _
          refine zx_istore (nn := 56) (lv' := [(4, zi (pGain ρ s (nI a - 1))), (0, zr 39), (1, zi (nI k)), (2, zi sum), (3, zi (nI a))]) dX0_search_54 (by decide) rfl rfl ?_
          refine zx_aload_n (k := 1) (nn := 57) dX0_search_56 rfl rfl rfl ?_
          refine zx_iload_n (k := 2) (nn := 58) dX0_search_57 rfl rfl rfl ?_
          refine zx_iconst (v := 1) (nn := 59) rfl dX0_search_58 rfl ?_
          refine zx_iadd (nn := 60) dX0_search_59 rfl ?_
          rw [nI_1 k]
          show zX shC σ (5 + (m + 1)) MX0_search 60 [(4, zi (pGain ρ s (nI a - 1))), (0, zr 39), (1, zi (nI k)), (2, zi sum), (3, zi (nI a))] [zi (nI (k + 1)), zr 39] ν1 _
          refine zx_iload_n (k := 3) (nn := 61) dX0_search_60 rfl rfl rfl ?_
          refine zx_iload (k := 0) (nn := 63) dX0_search_61 rfl rfl ?_
          refine zx_iadd (nn := 64) dX0_search_63 rfl ?_
          refine zx_callS (nn := 67) (d' := 5 + m) (as := [zr 39, zi (nI (k + 1)), zi (sum + (pGain ρ s (nI a - 1)))]) (rest := []) (n := 3) (ih (k + 1) (by omega) ν1 (pNo (pGo ρ s (nI a - 1))) (sum + pGain ρ s (nI a - 1)) (upd acts k (nI a)) B1 (cROK_μ (g2 1 (by decide)).symm (g2 4 (by decide)).symm rokM) (by rw [← hRM]; exact cR_μ (fun q h1 h2 => g2 q (by simp; omega))) (pNo_ok.mpr okg) (pNo_no _) e2 (by rw [pNo_n.1, pNo_n.2.1, pGo_b ok hb, pGo_B ok]; omega) (by rw [g2 39 (by decide), zu_ne (by omega), zp_ne (by omega)]; exact v6) (by rw [g2 18 (by decide), zu_ne (by omega), zp_ne (by omega), pNo_n.2.2.1, pGo_L ok]; exact hL1) (pBr_μ (by rw [g2 39 (by decide), zu_ne (by omega), zp_ne (by omega)]) (by rw [g2 39 (by decide), zu_ne (by omega), zp_ne (by omega)]) (by rw [g2 46 (by decide), zu_ne (by omega), zp_ne (by omega)]) v3) (fun i hi => by rw [h45, zp_eq]; unfold upd; by_cases q : i = k; rw [if_pos q, if_pos q]; rw [if_neg q, if_neg q, v7 i (by omega)]; exact ha i (by omega))) kX0_search mlX0_58 (by omega) rfl rfl (Nat.le_of_ble_eq_true rfl) dX0_search_64 rfl ?_
          rintro _ ν2 ⟨rfl, s1, s2, s3, s4, s5, s6⟩
          show zX shC σ (5 + (m + 1)) MX0_search 67 [(4, zi (pGain ρ s (nI a - 1))), (0, zr 39), (1, zi (nI k)), (2, zi sum), (3, zi (nI a))] [] ν2 _
          have hrow : ∀ j, j < 6 → ν2 (41 + k) j = μ1 27 j := fun j hj => by rw [s6 k (by omega), g2 _ (by simp; omega), zu_eq, cpy0 hj, zp_ne (by omega)]
          refine zx_aload_n (k := 1) (nn := 68) dX0_search_67 rfl rfl rfl ?_
          refine zx_iload_n (k := 2) (nn := 69) dX0_search_68 rfl rfl rfl ?_
          refine zx_callVf (nn := 72) (k := 39) (d' := 1) (as := [zi (nI k)]) (rest := []) (n := 1) (eX0_takeBack_39 σ ν2 k hk4) kX0_takeBack mlX0_76 rfl rfl rfl (by omega) rfl rfl (Nat.le_of_ble_eq_true rfl) dX0_search_69 rfl ?_
          show zX shC σ (5 + (m + 1)) MX0_search 72 [(4, zi (pGain ρ s (nI a - 1))), (0, zr 39), (1, zi (nI k)), (2, zi sum), (3, zi (nI a))] [] (zp (zu ν2 27 (va_cpy (ν2 (41 + k)) (ν2 27) 0 0 6)) 25 9 (ν2 25 9 - 1)) _
          refine zx_iinc (k := 4) (v := nI (a + 1)) (lv' := [(3, zi (nI (a + 1))), (4, zi (pGain ρ s (nI a - 1))), (0, zr 39), (1, zi (nI k)), (2, zi sum)]) (nn := 75) dX0_search_72 rfl (nI_1 a) (by decide) rfl rfl ?_
          refine zx_goto (tgt := 21) dX0_search_75 (by decide) ?_
          refine zx_lv (lv' := [(0, zr 39), (1, zi (nI k)), (2, zi sum), (3, zi (nI (a + 1)))]) [2, 3, 4, 0] rfl ?_
          exact ih21 (a + 1, pSearch ρ m (k + 1) (pNo (pGo ρ s (nI a - 1))) (sum + pGain ρ s (nI a - 1)) (upd acts k (nI a)) B1, zp (zu ν2 27 (va_cpy (ν2 (41 + k)) (ν2 27) 0 0 6)) 25 9 (ν2 25 9 - 1)) (show (a + 1) ≤ pL s + 1 ∧ (pSearch ρ m (k + 1) (pNo (pGo ρ s (nI a - 1))) (sum + pGain ρ s (nI a - 1)) (upd acts k (nI a)) B1) = pFoldB (fun a_ B_ => pSearch ρ m (k + 1) (pNo (pGo ρ s (nI a_ - 1))) (sum + pGain ρ s (nI a_ - 1)) (upd acts k (nI a_)) B_) (a + 1) B ∧ pBr (zp (zu ν2 27 (va_cpy (ν2 (41 + k)) (ν2 27) 0 0 6)) 25 9 (ν2 25 9 - 1)) n (pSearch ρ m (k + 1) (pNo (pGo ρ s (nI a - 1))) (sum + pGain ρ s (nI a - 1)) (upd acts k (nI a)) B1) ∧ pNo (cS 25 (zp (zu ν2 27 (va_cpy (ν2 (41 + k)) (ν2 27) 0 0 6)) 25 9 (ν2 25 9 - 1))) = s ∧ zJ pJS μ (zp (zu ν2 27 (va_cpy (ν2 (41 + k)) (ν2 27) 0 0 6)) 25 9 (ν2 25 9 - 1)) ∧ (zp (zu ν2 27 (va_cpy (ν2 (41 + k)) (ν2 27) 0 0 6)) 25 9 (ν2 25 9 - 1)) 39 5 = nI n ∧ (∀ i, i < k → (zp (zu ν2 27 (va_cpy (ν2 (41 + k)) (ν2 27) 0 0 6)) 25 9 (ν2 25 9 - 1)) 45 i = μ 45 i) ∧ ∀ j, j < k → (zp (zu ν2 27 (va_cpy (ν2 (41 + k)) (ν2 27) 0 0 6)) 25 9 (ν2 25 9 - 1)) (41 + j) = μ (41 + j) from ⟨by omega, by rw [v2]; rfl, pBr_μ (by simp [zp, zu, upd]) (by simp [zp, zu, upd]) (by simp [zp, zu, upd]) s1, pNo_back ok hss v4 s2 (fun j hj => by rw [cpy0 hj]; exact hrow j hj), (((v5.p (by decide)).u hrowJ).tr ((g2.mono (by decide)).tr (s3.tr ((zJ.rf.u (by decide)).p (by decide))))), by simp [zp, zu, upd]; exact s4, fun i hi => by simp only [zp_ne (show 45 ≠ 25 by decide), zu_ne (show 45 ≠ 27 by decide)]; rw [s5 i (by omega), h45, zp_eq, pk_un (by omega)]; exact v7 i hi, fun j hj => by rw [zp_ne (by omega), zu_ne (by omega), s6 j (by omega), g2 _ (by simp; omega), zu_ne (by omega), zp_ne (by omega)]; exact v8 j hj⟩) (by show pL s + 1 - (a + 1) < pL s + 1 - a; omega)
      · exact absurd (nI_lt (a := k) (b := 4) (by omega) (by omega)) h10
