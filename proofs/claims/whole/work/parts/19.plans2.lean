/-! gains are small and not below 0 -/
theorem pWorth_b {s : Nat → Int32} {l : Nat} {p : Int32} (h1 : 0 ≤ s (7 + 4 * l + 2)) (h2 : s (7 + 4 * l + 2) ≤ 9) : 0 ≤ (pWorth s l p).toInt ∧ (pWorth s l p).toInt ≤ 10 := by
  have e1 := Int32.le_iff_toInt_le.mp h1
  have e2 := Int32.le_iff_toInt_le.mp h2
  rw [zt0] at e1
  rw [zt9] at e2
  unfold pWorth
  split
  · have e3 : (10 - s (7 + 4 * l + 2)).toInt = 10 - (s (7 + 4 * l + 2)).toInt := by
      rw [Int32.toInt_sub, zt10]
      exact Int.bmod_eq_of_le (by omega) (by omega)
    omega
  · split
    · rw [zt1]; omega
    · rw [zt0]; omega
theorem pSum_b {f : Nat → Int32} : ∀ {n : Nat}, n ≤ 6 → (∀ l, l < n → 0 ≤ (f l).toInt ∧ (f l).toInt ≤ 10) → 0 ≤ (pSum f n).toInt ∧ (pSum f n).toInt ≤ 10 * n
  | 0, _, _ => by
    show 0 ≤ (0 : Int32).toInt ∧ (0 : Int32).toInt ≤ _
    rw [zt0]; omega
  | n + 1, hn, h => by
    have h1 := pSum_b (n := n) (by omega) (fun l hl => h l (by omega))
    have h2 := h n (by omega)
    show 0 ≤ (pSum f n + f n).toInt ∧ (pSum f n + f n).toInt ≤ _
    have e : (pSum f n + f n).toInt = (pSum f n).toInt + (f n).toInt := by
      rw [Int32.toInt_add]
      exact Int.bmod_eq_of_le (by omega) (by omega)
    omega
theorem pGain_b {ρ : pR} {s : Nat → Int32} {h : Int32} (ok : pOK s) : 0 ≤ (pGain ρ s h).toInt ∧ (pGain ρ s h).toInt ≤ 60 := by
  unfold pGain pWorths
  have hA := pOK_aims (ρ := ρ) (h := h) ok (ok_L ok).2
  rw [← pAims_to] at hA
  have hL := (ok_L hA).2
  have hb := pSum_b (f := fun l => pWorth (pAims ρ s h) l (s (31 + pb s))) hL (fun l hl => pWorth_b (hA.2.2.2 l hl).2.1.1 (hA.2.2.2 l hl).2.1.2)
  omega
def pRB (B C : pBT) : Prop := B.1 = C.1 ∧ B.2.1 = C.2.1 ∧ (B.1.toInt < 0 ∨ B.2.2 = C.2.2)
theorem pWeigh_RB {sum : Int32} {acts : Nat → Int32} {B C : pBT} (hs : 0 ≤ sum.toInt) (h : pRB B C) : pWeigh sum acts B = pWeigh sum acts C := by
  obtain ⟨h1, h2, h3⟩ := h
  unfold pWeigh
  rw [← h1, ← h2]
  by_cases q : B.1 < sum
  · rw [if_pos q, if_pos q]
  · rw [if_neg q, if_neg q]
    have e : B.2.2 = C.2.2 := by
      rcases h3 with h3 | h3
      · exact absurd (Int32.lt_iff_toInt_lt.mpr (by omega)) q
      · exact h3
    have eBC : B = C := Prod.ext h1 (Prod.ext h2 e)
    rw [e, eBC]
theorem pFoldB_RB {f : Nat → pBT → pBT} {B C : pBT} (h : f 0 B = f 0 C) : ∀ n, pFoldB f (n + 1) B = pFoldB f (n + 1) C
  | 0 => h
  | n + 1 => by
    show f (n + 1) (pFoldB f (n + 1) B) = f (n + 1) (pFoldB f (n + 1) C)
    rw [pFoldB_RB h n]
theorem pSearch_RB {ρ : pR} : ∀ (m k : Nat) (s : Nat → Int32) (sum : Int32) (acts : Nat → Int32) (B C : pBT), k + m ≤ 4 → pOK s → m ≤ pB s - pb s → 0 ≤ sum.toInt → sum.toInt ≤ 60 * k → pRB B C → pSearch ρ m k s sum acts B = pSearch ρ m k s sum acts C
  | 0, _, _, _, _, _, _, _, _, _, hs, _, h => pWeigh_RB hs h
  | m + 1, k, s, sum, acts, B, C, hk, ok, hr, hs, hs2, h => by
    have hb : pb s < pB s := by omega
    have hg := pGain_b (ρ := ρ) (h := nI 0 - 1) ok
    have e : (sum + pGain ρ s (nI 0 - 1)).toInt = sum.toInt + (pGain ρ s (nI 0 - 1)).toInt := by
      rw [Int32.toInt_add]
      exact Int.bmod_eq_of_le (by omega) (by omega)
    refine pFoldB_RB ?_ (pL s)
    exact pSearch_RB m (k + 1) _ _ _ B C (by omega) (pNo_ok.mpr (pOK_go ok hb)) (by rw [pNo_n.1, pNo_n.2.1, pGo_b ok hb, pGo_B ok]; omega) (by omega) (by omega) h
theorem nI_min {a b : Nat} (ha : a < 2 ^ 31) (hb : b < 2 ^ 31) : pMin (nI a) (nI b) = nI (min a b) := by
  unfold pMin
  rcases Nat.le_total a b with h | h
  · rw [if_pos (nI_le h hb), Nat.min_eq_left h]
  · by_cases e : a = b
    · rw [e, if_pos (nI_le (Nat.le_refl _) hb), Nat.min_self]
    · rw [if_neg (nI_ge (by omega) ha), Nat.min_eq_right h]
theorem nI_subN {a b : Nat} (h : b ≤ a) : nI a - nI b = nI (a - b) := by
  obtain ⟨k, rfl⟩ : ∃ k, a = b + k := ⟨a - b, by omega⟩
  rw [← nI_add, show b + k - b = k by omega, Int32.add_comm]
  exact Int32.add_sub_cancel _ _
theorem nI_par {k : Nat} (h : k < 4) : (nI k - nI k / 2 * 2 = 0) ↔ k % 2 = 0 := by
  rcases (show k = 0 ∨ k = 1 ∨ k = 2 ∨ k = 3 by omega) with rfl | rfl | rfl | rfl <;> decide
theorem pFoldG_s {most : Bool} {f : Nat → Int32} {a : Nat} : pFoldG most f (a + 1) = if a = 0 ∨ (if most then (pFoldG most f a).1 < f a else f a < (pFoldG most f a).1) then (f a, nI a) else pFoldG most f a := rfl
set_option maxHeartbeats 4000000 in
set_option maxRecDepth 100000 in
theorem eX0_valueFrom (σ : zG) (ρ : pR) (n : Nat) (hn : n ≤ 4) : ∀ (m k : Nat), k + m = n → ∀ (μ : zM) (s : Nat → Int32), cROK 1 μ → cR 1 μ = ρ → pOK s → pNo s = s → pNo (cS 25 μ) = s → m ≤ pB s - pb s → μ 39 5 = nI n → μ 18 7 = nI (pL s) →
    zMet shC σ (5 + m) MX0_valueFrom yX0_valueFrom [zr 39, zi (nI k)] μ (fun rr μ' => rr = some (zi (pGame ρ m k s).1) ∧ pNo (cS 25 μ') = s ∧ zJ [6, 25, 27, 31, 39, 41, 42, 43, 44] μ μ' ∧ μ' 39 5 = nI n ∧ (∀ j, j < k → μ' (41 + j) = μ (41 + j)) ∧ (k = 0 → m ≠ 0 → μ' 39 8 = (pGame ρ m k s).2) ∧ (k ≠ 0 → μ' 39 8 = μ 39 8)) := by
  intro m
  induction m with
  | zero =>
    intro k hk μ s rok hρ ok hss hs hrem hlen hL
    refine zmetF (by decide +kernel) rfl (Nat.le_of_ble_eq_true rfl) ?_
    show zX shC σ (5 + 0) MX0_valueFrom 0 [(0, zr 39), (1, zi (nI k))] [] μ _
    refine zx_iload_n (k := 1) (nn := 1) dX0_valueFrom_0 rfl rfl rfl ?_
    refine zx_aload_n (k := 0) (nn := 2) dX0_valueFrom_1 rfl rfl rfl ?_
    refine zx_getI (nn := 5) flX0_49 rfl rfl dX0_valueFrom_2 rfl ?_
    rw [hlen]
    show zX shC σ (5 + 0) MX0_valueFrom 5 [(0, zr 39), (1, zi (nI k))] [zi (nI n), zi (nI k)] μ _
    refine zx_icmp_ge (tgt := 13) (nn := 8) dX0_valueFrom_5 (by decide) rfl (fun h5 => ?_) (fun h5 => ?_)
    · refine zx_iconst (v := 0) (nn := 14) rfl dX0_valueFrom_13 rfl ?_
      refine zx_iret rfl dX0_valueFrom_14 ?_
      exact ⟨rfl, hs, zJ.rf, hlen, fun _ _ => rfl, fun _ h => absurd rfl h, fun _ => rfl⟩
    · exact absurd (nI_le (a := n) (b := k) (by omega) (by omega)) h5
  | succ m ih =>
    intro k hk μ s rok hρ ok hss hs hrem hlen hL
    have hk4 : k < 4 := by omega
    have hL6 := (ok_L ok).2
    have hb : pb s < pB s := by omega
    refine zmetF (by decide +kernel) rfl (Nat.le_of_ble_eq_true rfl) ?_
    show zX shC σ (5 + (m + 1)) MX0_valueFrom 0 [(0, zr 39), (1, zi (nI k))] [] μ _
    refine zx_iload_n (k := 1) (nn := 1) dX0_valueFrom_0 rfl rfl rfl ?_
    refine zx_aload_n (k := 0) (nn := 2) dX0_valueFrom_1 rfl rfl rfl ?_
    refine zx_getI (nn := 5) flX0_49 rfl rfl dX0_valueFrom_2 rfl ?_
    rw [hlen]
    show zX shC σ (5 + (m + 1)) MX0_valueFrom 5 [(0, zr 39), (1, zi (nI k))] [zi (nI n), zi (nI k)] μ _
    refine zx_icmp_ge (tgt := 13) (nn := 8) dX0_valueFrom_5 (by decide) rfl (fun h5 => ?_) (fun h5 => ?_)
    · exact absurd h5 (nI_ge (a := k) (b := n) (by omega) (by omega))
    · refine zx_iload_n (k := 1) (nn := 9) dX0_valueFrom_8 rfl rfl rfl ?_
      refine zx_iconst (v := 4) (nn := 10) rfl dX0_valueFrom_9 rfl ?_
      refine zx_icmp_lt (tgt := 15) (nn := 13) dX0_valueFrom_10 (by decide) rfl (fun h10 => ?_) (fun h10 => ?_)
      · refine zx_iload_n (k := 1) (nn := 16) dX0_valueFrom_15 rfl rfl rfl ?_
        refine zx_iconst (v := 2) (nn := 17) rfl dX0_valueFrom_16 rfl ?_
        refine zx_irem (nn := 18) (by decide) dX0_valueFrom_17 rfl ?_
        refine zx_cut (pc' := 26) (lv' := [(0, zr 39), (1, zi (nI k))]) (st' := [zi (zb (decide (k % 2 = 0)))]) (μ' := μ) (fun J26 => ?_) ?_
        · refine zx_if_ne (tgt := 25) (nn := 21) dX0_valueFrom_18 (by decide) rfl (fun h18 => ?_) (fun h18 => ?_)
          · refine zx_iconst (v := 0) (nn := 26) rfl dX0_valueFrom_25 rfl ?_
            exact (by rw [show zb (decide (k % 2 = 0)) = 0 from by rw [decide_eq_false (fun q => h18 ((nI_par hk4).mpr q))]; rfl] at J26; exact J26)
          · refine zx_iconst (v := 1) (nn := 22) rfl dX0_valueFrom_21 rfl ?_
            refine zx_goto (tgt := 26) dX0_valueFrom_22 (by decide) ?_
            exact (by rw [show zb (decide (k % 2 = 0)) = 1 from by rw [decide_eq_true ((nI_par hk4).mp h18)]; rfl] at J26; exact J26)
        refine zx_istore_n (nn := 27) (lv' := [(2, zi (zb (decide (k % 2 = 0)))), (0, zr 39), (1, zi (nI k))]) dX0_valueFrom_26 rfl (by decide) rfl rfl ?_
        refine zx_iconst (v := 0) (nn := 28) rfl dX0_valueFrom_27 rfl ?_
        refine zx_istore_n (nn := 29) (lv' := [(3, zi 0), (2, zi (zb (decide (k % 2 = 0)))), (0, zr 39), (1, zi (nI k))]) dX0_valueFrom_28 rfl (by decide) rfl rfl ?_
        refine zx_iconst (v := 0) (nn := 30) rfl dX0_valueFrom_29 rfl ?_
        refine zx_istore (nn := 32) (lv' := [(4, zi 0), (3, zi 0), (2, zi (zb (decide (k % 2 = 0)))), (0, zr 39), (1, zi (nI k))]) dX0_valueFrom_30 (by decide) rfl rfl ?_
        refine zx_lv (lv' := [(0, zr 39), (1, zi (nI k)), (2, zi (zb (decide (k % 2 = 0)))), (3, zi 0), (4, zi 0)]) [3, 4, 2, 1, 0] rfl ?_
        refine zx_while (τ := Nat × Int32 × Int32 × zM) (fun t_ => pL s + 1 - t_.1) (fun t_ => t_.1 ≤ pL s + 1 ∧ pFoldG (decide (k % 2 = 0)) (fun a_ => pGain ρ s (nI a_ - 1) + (pGame ρ m (k + 1) (pNo (pGo ρ s (nI a_ - 1)))).1) t_.1 = (t_.2.1, t_.2.2.1) ∧ pNo (cS 25 t_.2.2.2) = s ∧ zJ [6, 25, 27, 31, 39, 41, 42, 43, 44] μ t_.2.2.2 ∧ t_.2.2.2 39 5 = nI n ∧ (∀ j, j < k → t_.2.2.2 (41 + j) = μ (41 + j)) ∧ (k = 0 → t_.1 ≠ 0 → t_.2.2.2 39 8 = t_.2.2.1) ∧ (k ≠ 0 → t_.2.2.2 39 8 = μ 39 8)) (fun t_ => [(0, zr 39), (1, zi (nI k)), (2, zi (zb (decide (k % 2 = 0)))), (3, zi t_.2.1), (4, zi (nI t_.1))]) (fun t_ => t_.2.2.2) (t0 := (0, 0, 0, μ)) (⟨Nat.zero_le _, rfl, hs, zJ.rf, hlen, fun _ _ => rfl, fun _ h => absurd rfl h, fun _ => rfl⟩) ?_
        rintro ⟨a, v, b, μ1⟩ hI ih32
        replace hI : a ≤ pL s + 1 ∧ pFoldG (decide (k % 2 = 0)) (fun a_ => pGain ρ s (nI a_ - 1) + (pGame ρ m (k + 1) (pNo (pGo ρ s (nI a_ - 1)))).1) a = (v, b) ∧ pNo (cS 25 μ1) = s ∧ zJ [6, 25, 27, 31, 39, 41, 42, 43, 44] μ μ1 ∧ μ1 39 5 = nI n ∧ (∀ j, j < k → μ1 (41 + j) = μ (41 + j)) ∧ (k = 0 → a ≠ 0 → μ1 39 8 = b) ∧ (k ≠ 0 → μ1 39 8 = μ 39 8) := hI
        show zX shC σ (5 + (m + 1)) MX0_valueFrom 32 [(0, zr 39), (1, zi (nI k)), (2, zi (zb (decide (k % 2 = 0)))), (3, zi v), (4, zi (nI a))] [] μ1 _
        obtain ⟨v1, v2, v4, v5, v6, v8, v7, v9⟩ := hI
        have hL1 : μ1 18 7 = nI (pL s) := by rw [v5 18 (by decide)]; exact hL
        refine zx_iload (k := 4) (nn := 34) dX0_valueFrom_32 rfl rfl ?_
        refine zx_aload_n (k := 0) (nn := 35) dX0_valueFrom_34 rfl rfl rfl ?_
        refine zx_getR (q := 18) (nn := 38) flX0_23 rfl rfl dX0_valueFrom_35 rfl ?_
        refine zx_getI (nn := 41) flX0_66 rfl rfl dX0_valueFrom_38 rfl ?_
        rw [hL1]
        show zX shC σ (5 + (m + 1)) MX0_valueFrom 41 [(0, zr 39), (1, zi (nI k)), (2, zi (zb (decide (k % 2 = 0)))), (3, zi v), (4, zi (nI a))] [zi (nI (pL s)), zi (nI a)] μ1 _
        refine zx_icmp_gt (tgt := 122) (nn := 44) dX0_valueFrom_41 (by decide) rfl (fun h41 => ?_) (fun h41 => ?_)
        · refine zx_iload_n (k := 3) (nn := 123) dX0_valueFrom_122 rfl rfl rfl ?_
          refine zx_iret rfl dX0_valueFrom_123 ?_
          have hge : pL s < a := (nI_ltI (by omega) (by omega)).mp h41
          have hae : a = pL s + 1 := by omega
          rw [hae] at v2
          have hG : pGame ρ (m + 1) k s = (v, b) := v2
          rw [hG]
          exact ⟨rfl, v4, v5, v6, v8, fun h _ => v7 h (by omega), v9⟩
        · have hlt : a ≤ pL s := (nI_leI (by omega) (by omega)).mp (Int32.not_lt.mp h41)
          refine zx_aload_n (k := 0) (nn := 45) dX0_valueFrom_44 rfl rfl rfl ?_
          refine zx_iload_n (k := 1) (nn := 46) dX0_valueFrom_45 rfl rfl rfl ?_
          refine zx_callVf (nn := 49) (k := 39) (d' := 1) (as := [zi (nI k)]) (rest := []) (n := 1) (eX0_keepAims_39 σ μ1 k hk4) kX0_keepAims mlX0_69 rfl rfl rfl (by omega) rfl rfl (Nat.le_of_ble_eq_true rfl) dX0_valueFrom_46 rfl ?_
          show zX shC σ (5 + (m + 1)) MX0_valueFrom 49 [(0, zr 39), (1, zi (nI k)), (2, zi (zb (decide (k % 2 = 0)))), (3, zi v), (4, zi (nI a))] [] (zu μ1 (41 + k) (va_cpy (μ1 27) (μ1 (41 + k)) 0 0 6)) _
          have hM : cS 25 (zu μ1 (41 + k) (va_cpy (μ1 27) (μ1 (41 + k)) 0 0 6)) = cS 25 μ1 := cS_eq (fun q hq => by rw [zu_ne (by omega)])
          have okM : pOK (cS 25 (zu μ1 (41 + k) (va_cpy (μ1 27) (μ1 (41 + k)) 0 0 6))) := by rw [hM, ← pNo_ok, v4]; exact ok
          have e1 : pNo (cS 25 (zu μ1 (41 + k) (va_cpy (μ1 27) (μ1 (41 + k)) 0 0 6))) = pNo s := by rw [hM, v4, hss]
          have rokM : cROK 1 (zu μ1 (41 + k) (va_cpy (μ1 27) (μ1 (41 + k)) 0 0 6)) := cROK_μ (μ := μ) (by rw [zu_ne (by omega), v5 1 (by decide)]) (by rw [zu_ne (by omega), v5 4 (by decide)]) rok
          have hRM : cR 1 (zu μ1 (41 + k) (va_cpy (μ1 27) (μ1 (41 + k)) 0 0 6)) = ρ := by rw [← hρ]; exact cR_μ (fun q h1 h2 => by rw [zu_ne (by omega), v5 q (by simp; omega)])
          have ebB : pb (cS 25 (zu μ1 (41 + k) (va_cpy (μ1 27) (μ1 (41 + k)) 0 0 6))) = pb s ∧ pB (cS 25 (zu μ1 (41 + k) (va_cpy (μ1 27) (μ1 (41 + k)) 0 0 6))) = pB s := by unfold pb pB; rw [pNo_at e1 (by omega), pNo_at e1 (by omega)]; exact ⟨rfl, rfl⟩
          refine zx_aload_n (k := 0) (nn := 50) dX0_valueFrom_49 rfl rfl rfl ?_
          refine zx_getR (q := 25) (nn := 53) flX0_27 rfl rfl dX0_valueFrom_50 rfl ?_
          refine zx_iload (k := 4) (nn := 55) dX0_valueFrom_53 rfl rfl ?_
          refine zx_iconst (v := 1) (nn := 56) rfl dX0_valueFrom_55 rfl ?_
          refine zx_isub (nn := 57) dX0_valueFrom_56 rfl ?_
          refine zx_callV (nn := 60) (k := 25) (d' := 4) (as := [zi ((nI a) - 1)]) (rest := []) (n := 1) (eX8_goBy_25 σ (zu μ1 (41 + k) (va_cpy (μ1 27) (μ1 (41 + k)) 0 0 6)) (nI a - 1) okM rokM (by rw [ebB.1, ebB.2]; exact hb)) kX8_goBy mlX0_72 rfl rfl rfl (by omega) rfl rfl (Nat.le_of_ble_eq_true rfl) dX0_valueFrom_57 rfl ?_
          rintro _ ν1 ⟨rfl, g1, g2⟩
          show zX shC σ (5 + (m + 1)) MX0_valueFrom 60 [(0, zr 39), (1, zi (nI k)), (2, zi (zb (decide (k % 2 = 0)))), (3, zi v), (4, zi (nI a))] [zi (pGain (cR 1 (zu μ1 (41 + k) (va_cpy (μ1 27) (μ1 (41 + k)) 0 0 6))) (cS 25 (zu μ1 (41 + k) (va_cpy (μ1 27) (μ1 (41 + k)) 0 0 6))) (nI a - 1))] ν1 _
          rw [hRM, pGain_no okM e1]
          rw [hRM] at g1
          have e2 : pNo (cS 25 ν1) = pNo (pGo ρ s (nI a - 1)) := by rw [g1]; exact pGo_no okM e1
          have okg := pOK_go (ρ := ρ) (h := nI a - 1) ok hb
          have hrowJ : 41 + k ∈ ([6, 25, 27, 31, 39, 41, 42, 43, 44] : List Nat) := by simp; omega
          show zX shC σ (5 + (m + 1)) MX0_valueFrom 60 [(0, zr 39), (1, zi (nI k)), (2, zi (zb (decide (k % 2 = 0)))), (3, zi v), (4, zi (nI a))] [zi (pGain ρ s (nI a - 1))] ν1 _
          refine zx_istore (nn := 62) (lv' := [(5, zi (pGain ρ s (nI a - 1))), (0, zr 39), (1, zi (nI k)), (2, zi (zb (decide (k % 2 = 0)))), (3, zi v), (4, zi (nI a))]) dX0_valueFrom_60 (by decide) rfl rfl ?_
          refine zx_iload (k := 0) (nn := 64) dX0_valueFrom_62 rfl rfl ?_
          refine zx_aload_n (k := 1) (nn := 65) dX0_valueFrom_64 rfl rfl rfl ?_
          refine zx_iload_n (k := 2) (nn := 66) dX0_valueFrom_65 rfl rfl rfl ?_
          refine zx_iconst (v := 1) (nn := 67) rfl dX0_valueFrom_66 rfl ?_
          refine zx_iadd (nn := 68) dX0_valueFrom_67 rfl ?_
          rw [nI_1 k]
          show zX shC σ (5 + (m + 1)) MX0_valueFrom 68 [(5, zi (pGain ρ s (nI a - 1))), (0, zr 39), (1, zi (nI k)), (2, zi (zb (decide (k % 2 = 0)))), (3, zi v), (4, zi (nI a))] [zi (nI (k + 1)), zr 39, zi (pGain ρ s (nI a - 1))] ν1 _
          refine zx_callS (nn := 71) (d' := 5 + m) (as := [zr 39, zi (nI (k + 1))]) (rest := [zi (pGain ρ s (nI a - 1))]) (n := 2) (ih (k + 1) (by omega) ν1 (pNo (pGo ρ s (nI a - 1))) (cROK_μ (g2 1 (by decide)).symm (g2 4 (by decide)).symm rokM) (by rw [← hRM]; exact cR_μ (fun q h1 h2 => g2 q (by simp; omega))) (pNo_ok.mpr okg) (pNo_no _) e2 (by rw [pNo_n.1, pNo_n.2.1, pGo_b ok hb, pGo_B ok]; omega) (by rw [g2 39 (by decide), zu_ne (by omega)]; exact v6) (by rw [g2 18 (by decide), zu_ne (by omega), pNo_n.2.2.1, pGo_L ok]; exact hL1)) kX0_valueFrom mlX0_88 (by omega) rfl rfl (Nat.le_of_ble_eq_true rfl) dX0_valueFrom_68 rfl ?_
          rintro _ ν2 ⟨rfl, s2, s3, s4, s6, s7, s8⟩
          show zX shC σ (5 + (m + 1)) MX0_valueFrom 71 [(5, zi (pGain ρ s (nI a - 1))), (0, zr 39), (1, zi (nI k)), (2, zi (zb (decide (k % 2 = 0)))), (3, zi v), (4, zi (nI a))] [zi ((pGame ρ m (k + 1) (pNo (pGo ρ s (nI a - 1)))).1), zi (pGain ρ s (nI a - 1))] ν2 _
          have hrow : ∀ j, j < 6 → ν2 (41 + k) j = μ1 27 j := fun j hj => by rw [s6 k (by omega), g2 _ (by simp; omega), zu_eq, cpy0 hj]
          refine zx_iadd (nn := 72) dX0_valueFrom_71 rfl ?_
          refine zx_istore (nn := 74) (lv' := [(6, zi ((pGain ρ s (nI a - 1)) + ((pGame ρ m (k + 1) (pNo (pGo ρ s (nI a - 1)))).1))), (5, zi (pGain ρ s (nI a - 1))), (0, zr 39), (1, zi (nI k)), (2, zi (zb (decide (k % 2 = 0)))), (3, zi v), (4, zi (nI a))]) dX0_valueFrom_72 (by decide) rfl rfl ?_
          refine zx_aload_n (k := 2) (nn := 75) dX0_valueFrom_74 rfl rfl rfl ?_
          refine zx_iload_n (k := 3) (nn := 76) dX0_valueFrom_75 rfl rfl rfl ?_
          refine zx_callVf (nn := 79) (k := 39) (d' := 1) (as := [zi (nI k)]) (rest := []) (n := 1) (eX0_takeBack_39 σ ν2 k hk4) kX0_takeBack mlX0_76 rfl rfl rfl (by omega) rfl rfl (Nat.le_of_ble_eq_true rfl) dX0_valueFrom_76 rfl ?_
          show zX shC σ (5 + (m + 1)) MX0_valueFrom 79 [(6, zi ((pGain ρ s (nI a - 1)) + ((pGame ρ m (k + 1) (pNo (pGo ρ s (nI a - 1)))).1))), (5, zi (pGain ρ s (nI a - 1))), (0, zr 39), (1, zi (nI k)), (2, zi (zb (decide (k % 2 = 0)))), (3, zi v), (4, zi (nI a))] [] (zp (zu ν2 27 (va_cpy (ν2 (41 + k)) (ν2 27) 0 0 6)) 25 9 (ν2 25 9 - 1)) _
          have hback : pNo (cS 25 (zp (zu ν2 27 (va_cpy (ν2 (41 + k)) (ν2 27) 0 0 6)) 25 9 (ν2 25 9 - 1))) = s := pNo_back ok hss v4 s2 (fun j hj => by rw [cpy0 hj]; exact hrow j hj)
          have hJ3 : zJ [6, 25, 27, 31, 39, 41, 42, 43, 44] μ (zp (zu ν2 27 (va_cpy (ν2 (41 + k)) (ν2 27) 0 0 6)) 25 9 (ν2 25 9 - 1)) := ((v5.u hrowJ).tr ((g2.mono (by decide)).tr (s3.tr ((zJ.rf.u (by decide)).p (by decide)))))
          have h395 : (zp (zu ν2 27 (va_cpy (ν2 (41 + k)) (ν2 27) 0 0 6)) 25 9 (ν2 25 9 - 1)) 39 5 = nI n := by simp [zp, zu, upd]; exact s4
          have hrows : ∀ j, j < k → (zp (zu ν2 27 (va_cpy (ν2 (41 + k)) (ν2 27) 0 0 6)) 25 9 (ν2 25 9 - 1)) (41 + j) = μ (41 + j) := fun j hj => by rw [zp_ne (by omega), zu_ne (by omega), s6 j (by omega), g2 _ (by simp; omega), zu_ne (by omega)]; exact v8 j hj
          have h398z : (zp (zu ν2 27 (va_cpy (ν2 (41 + k)) (ν2 27) 0 0 6)) 25 9 (ν2 25 9 - 1)) 39 8 = μ1 39 8 := by rw [zp_ne (by omega), zu_ne (by omega), s8 (by omega), g2 39 (by decide), zu_ne (by omega)]
          have h398 : k ≠ 0 → (zp (zu ν2 27 (va_cpy (ν2 (41 + k)) (ν2 27) 0 0 6)) 25 9 (ν2 25 9 - 1)) 39 8 = μ 39 8 := fun h => h398z.trans (v9 h)
          refine zx_iload (k := 6) (nn := 81) dX0_valueFrom_79 rfl rfl ?_
          refine zx_if_eq (tgt := 103) (nn := 84) dX0_valueFrom_81 (by decide) rfl (fun h81 => ?_) (fun h81 => ?_)
          · refine zx_iload (k := 0) (nn := 105) dX0_valueFrom_103 rfl rfl ?_
            refine zx_istore_n (nn := 106) (lv' := [(3, zi ((pGain ρ s (nI a - 1)) + ((pGame ρ m (k + 1) (pNo (pGo ρ s (nI a - 1)))).1))), (6, zi ((pGain ρ s (nI a - 1)) + ((pGame ρ m (k + 1) (pNo (pGo ρ s (nI a - 1)))).1))), (5, zi (pGain ρ s (nI a - 1))), (0, zr 39), (1, zi (nI k)), (2, zi (zb (decide (k % 2 = 0)))), (4, zi (nI a))]) dX0_valueFrom_105 rfl (by decide) rfl rfl ?_
            refine zx_iload_n (k := 4) (nn := 107) dX0_valueFrom_106 rfl rfl rfl ?_
            refine zx_if_ne (tgt := 116) (nn := 110) dX0_valueFrom_107 (by decide) rfl (fun h107 => ?_) (fun h107 => ?_)
            · refine zx_iinc (k := 6) (v := nI (a + 1)) (lv' := [(4, zi (nI (a + 1))), (3, zi ((pGain ρ s (nI a - 1)) + ((pGame ρ m (k + 1) (pNo (pGo ρ s (nI a - 1)))).1))), (6, zi ((pGain ρ s (nI a - 1)) + ((pGame ρ m (k + 1) (pNo (pGo ρ s (nI a - 1)))).1))), (5, zi (pGain ρ s (nI a - 1))), (0, zr 39), (1, zi (nI k)), (2, zi (zb (decide (k % 2 = 0))))]) (nn := 119) dX0_valueFrom_116 rfl (nI_1 a) (by decide) rfl rfl ?_
              refine zx_goto (tgt := 32) dX0_valueFrom_119 (by decide) ?_
              refine zx_lv (lv' := [(0, zr 39), (1, zi (nI k)), (2, zi (zb (decide (k % 2 = 0)))), (3, zi ((pGain ρ s (nI a - 1)) + ((pGame ρ m (k + 1) (pNo (pGo ρ s (nI a - 1)))).1))), (4, zi (nI (a + 1)))]) [4, 5, 6, 1, 0] rfl ?_
              exact ih32 (a + 1, (pGain ρ s (nI a - 1) + (pGame ρ m (k + 1) (pNo (pGo ρ s (nI a - 1)))).1), nI a, zp (zu ν2 27 (va_cpy (ν2 (41 + k)) (ν2 27) 0 0 6)) 25 9 (ν2 25 9 - 1)) (show (a + 1) ≤ pL s + 1 ∧ pFoldG (decide (k % 2 = 0)) (fun a_ => pGain ρ s (nI a_ - 1) + (pGame ρ m (k + 1) (pNo (pGo ρ s (nI a_ - 1)))).1) (a + 1) = ((pGain ρ s (nI a - 1) + (pGame ρ m (k + 1) (pNo (pGo ρ s (nI a - 1)))).1), (nI a)) ∧ pNo (cS 25 (zp (zu ν2 27 (va_cpy (ν2 (41 + k)) (ν2 27) 0 0 6)) 25 9 (ν2 25 9 - 1))) = s ∧ zJ [6, 25, 27, 31, 39, 41, 42, 43, 44] μ (zp (zu ν2 27 (va_cpy (ν2 (41 + k)) (ν2 27) 0 0 6)) 25 9 (ν2 25 9 - 1)) ∧ (zp (zu ν2 27 (va_cpy (ν2 (41 + k)) (ν2 27) 0 0 6)) 25 9 (ν2 25 9 - 1)) 39 5 = nI n ∧ (∀ j, j < k → (zp (zu ν2 27 (va_cpy (ν2 (41 + k)) (ν2 27) 0 0 6)) 25 9 (ν2 25 9 - 1)) (41 + j) = μ (41 + j)) ∧ (k = 0 → (a + 1) ≠ 0 → (zp (zu ν2 27 (va_cpy (ν2 (41 + k)) (ν2 27) 0 0 6)) 25 9 (ν2 25 9 - 1)) 39 8 = (nI a)) ∧ (k ≠ 0 → (zp (zu ν2 27 (va_cpy (ν2 (41 + k)) (ν2 27) 0 0 6)) 25 9 (ν2 25 9 - 1)) 39 8 = μ 39 8) from ⟨by omega, by show (if a = 0 ∨ (if (decide (k % 2 = 0)) = true then (pFoldG (decide (k % 2 = 0)) (fun a_ => pGain ρ s (nI a_ - 1) + (pGame ρ m (k + 1) (pNo (pGo ρ s (nI a_ - 1)))).1) a).1 < (pGain ρ s (nI a - 1) + (pGame ρ m (k + 1) (pNo (pGo ρ s (nI a - 1)))).1) else (pGain ρ s (nI a - 1) + (pGame ρ m (k + 1) (pNo (pGo ρ s (nI a - 1)))).1) < (pFoldG (decide (k % 2 = 0)) (fun a_ => pGain ρ s (nI a_ - 1) + (pGame ρ m (k + 1) (pNo (pGo ρ s (nI a_ - 1)))).1) a).1) then _ else _) = _; rw [v2];  exact if_pos (Or.inl (nI_eq0 h81 (by omega))), hback, hJ3, h395, hrows, fun h => absurd (by rw [h]; rfl) h107, fun h => h398 h⟩) (by show pL s + 1 - (a + 1) < pL s + 1 - a; omega)
            · refine zx_aload_n (k := 3) (nn := 111) dX0_valueFrom_110 rfl rfl rfl ?_
              refine zx_iload (k := 6) (nn := 113) dX0_valueFrom_111 rfl rfl ?_
              refine zx_putI (nn := 116) fpX0_85 rfl rfl rfl rfl dX0_valueFrom_113 rfl ?_
              refine zx_iinc (k := 6) (v := nI (a + 1)) (lv' := [(4, zi (nI (a + 1))), (3, zi ((pGain ρ s (nI a - 1)) + ((pGame ρ m (k + 1) (pNo (pGo ρ s (nI a - 1)))).1))), (6, zi ((pGain ρ s (nI a - 1)) + ((pGame ρ m (k + 1) (pNo (pGo ρ s (nI a - 1)))).1))), (5, zi (pGain ρ s (nI a - 1))), (0, zr 39), (1, zi (nI k)), (2, zi (zb (decide (k % 2 = 0))))]) (nn := 119) dX0_valueFrom_116 rfl (nI_1 a) (by decide) rfl rfl ?_
              refine zx_goto (tgt := 32) dX0_valueFrom_119 (by decide) ?_
              refine zx_lv (lv' := [(0, zr 39), (1, zi (nI k)), (2, zi (zb (decide (k % 2 = 0)))), (3, zi ((pGain ρ s (nI a - 1)) + ((pGame ρ m (k + 1) (pNo (pGo ρ s (nI a - 1)))).1))), (4, zi (nI (a + 1)))]) [4, 5, 6, 1, 0] rfl ?_
              exact ih32 (a + 1, (pGain ρ s (nI a - 1) + (pGame ρ m (k + 1) (pNo (pGo ρ s (nI a - 1)))).1), nI a, zp (zp (zu ν2 27 (va_cpy (ν2 (41 + k)) (ν2 27) 0 0 6)) 25 9 (ν2 25 9 - 1)) 39 8 (nI a)) (show (a + 1) ≤ pL s + 1 ∧ pFoldG (decide (k % 2 = 0)) (fun a_ => pGain ρ s (nI a_ - 1) + (pGame ρ m (k + 1) (pNo (pGo ρ s (nI a_ - 1)))).1) (a + 1) = ((pGain ρ s (nI a - 1) + (pGame ρ m (k + 1) (pNo (pGo ρ s (nI a - 1)))).1), (nI a)) ∧ pNo (cS 25 (zp (zp (zu ν2 27 (va_cpy (ν2 (41 + k)) (ν2 27) 0 0 6)) 25 9 (ν2 25 9 - 1)) 39 8 (nI a))) = s ∧ zJ [6, 25, 27, 31, 39, 41, 42, 43, 44] μ (zp (zp (zu ν2 27 (va_cpy (ν2 (41 + k)) (ν2 27) 0 0 6)) 25 9 (ν2 25 9 - 1)) 39 8 (nI a)) ∧ (zp (zp (zu ν2 27 (va_cpy (ν2 (41 + k)) (ν2 27) 0 0 6)) 25 9 (ν2 25 9 - 1)) 39 8 (nI a)) 39 5 = nI n ∧ (∀ j, j < k → (zp (zp (zu ν2 27 (va_cpy (ν2 (41 + k)) (ν2 27) 0 0 6)) 25 9 (ν2 25 9 - 1)) 39 8 (nI a)) (41 + j) = μ (41 + j)) ∧ (k = 0 → (a + 1) ≠ 0 → (zp (zp (zu ν2 27 (va_cpy (ν2 (41 + k)) (ν2 27) 0 0 6)) 25 9 (ν2 25 9 - 1)) 39 8 (nI a)) 39 8 = (nI a)) ∧ (k ≠ 0 → (zp (zp (zu ν2 27 (va_cpy (ν2 (41 + k)) (ν2 27) 0 0 6)) 25 9 (ν2 25 9 - 1)) 39 8 (nI a)) 39 8 = μ 39 8) from ⟨by omega, by show (if a = 0 ∨ (if (decide (k % 2 = 0)) = true then (pFoldG (decide (k % 2 = 0)) (fun a_ => pGain ρ s (nI a_ - 1) + (pGame ρ m (k + 1) (pNo (pGo ρ s (nI a_ - 1)))).1) a).1 < (pGain ρ s (nI a - 1) + (pGame ρ m (k + 1) (pNo (pGo ρ s (nI a - 1)))).1) else (pGain ρ s (nI a - 1) + (pGame ρ m (k + 1) (pNo (pGo ρ s (nI a - 1)))).1) < (pFoldG (decide (k % 2 = 0)) (fun a_ => pGain ρ s (nI a_ - 1) + (pGame ρ m (k + 1) (pNo (pGo ρ s (nI a_ - 1)))).1) a).1) then _ else _) = _; rw [v2];  exact if_pos (Or.inl (nI_eq0 h81 (by omega))), by rw [cS_eq (b := 25) (fun q hq => zp_ne (by omega))]; exact hback, hJ3.p (by decide), by rw [zp_eq, pk_un (by omega)]; exact h395, fun j hj => by rw [zp_ne (by omega)]; exact hrows j hj, fun _ _ => by rw [zp_eq]; exact pk_us, fun h => absurd (nI_eq0 h107 (by omega)) h⟩) (by show pL s + 1 - (a + 1) < pL s + 1 - a; omega)
          · refine zx_iload_n (k := 4) (nn := 85) dX0_valueFrom_84 rfl rfl rfl ?_
            refine zx_ifb_eq (tgt := 97) (nn := 88) dX0_valueFrom_85 (by decide) rfl (fun h85 => ?_) (fun h85 => ?_)
            · refine zx_iload (k := 0) (nn := 99) dX0_valueFrom_97 rfl rfl ?_
              refine zx_iload_n (k := 5) (nn := 100) dX0_valueFrom_99 rfl rfl rfl ?_
              refine zx_icmp_ge (tgt := 116) (nn := 103) dX0_valueFrom_100 (by decide) rfl (fun h100 => ?_) (fun h100 => ?_)
              · refine zx_iinc (k := 6) (v := nI (a + 1)) (lv' := [(4, zi (nI (a + 1))), (6, zi ((pGain ρ s (nI a - 1)) + ((pGame ρ m (k + 1) (pNo (pGo ρ s (nI a - 1)))).1))), (5, zi (pGain ρ s (nI a - 1))), (0, zr 39), (1, zi (nI k)), (2, zi (zb (decide (k % 2 = 0)))), (3, zi v)]) (nn := 119) dX0_valueFrom_116 rfl (nI_1 a) (by decide) rfl rfl ?_
                refine zx_goto (tgt := 32) dX0_valueFrom_119 (by decide) ?_
                refine zx_lv (lv' := [(0, zr 39), (1, zi (nI k)), (2, zi (zb (decide (k % 2 = 0)))), (3, zi v), (4, zi (nI (a + 1)))]) [3, 4, 5, 6, 0] rfl ?_
                exact ih32 (a + 1, v, b, zp (zu ν2 27 (va_cpy (ν2 (41 + k)) (ν2 27) 0 0 6)) 25 9 (ν2 25 9 - 1)) (show (a + 1) ≤ pL s + 1 ∧ pFoldG (decide (k % 2 = 0)) (fun a_ => pGain ρ s (nI a_ - 1) + (pGame ρ m (k + 1) (pNo (pGo ρ s (nI a_ - 1)))).1) (a + 1) = (v, b) ∧ pNo (cS 25 (zp (zu ν2 27 (va_cpy (ν2 (41 + k)) (ν2 27) 0 0 6)) 25 9 (ν2 25 9 - 1))) = s ∧ zJ [6, 25, 27, 31, 39, 41, 42, 43, 44] μ (zp (zu ν2 27 (va_cpy (ν2 (41 + k)) (ν2 27) 0 0 6)) 25 9 (ν2 25 9 - 1)) ∧ (zp (zu ν2 27 (va_cpy (ν2 (41 + k)) (ν2 27) 0 0 6)) 25 9 (ν2 25 9 - 1)) 39 5 = nI n ∧ (∀ j, j < k → (zp (zu ν2 27 (va_cpy (ν2 (41 + k)) (ν2 27) 0 0 6)) 25 9 (ν2 25 9 - 1)) (41 + j) = μ (41 + j)) ∧ (k = 0 → (a + 1) ≠ 0 → (zp (zu ν2 27 (va_cpy (ν2 (41 + k)) (ν2 27) 0 0 6)) 25 9 (ν2 25 9 - 1)) 39 8 = b) ∧ (k ≠ 0 → (zp (zu ν2 27 (va_cpy (ν2 (41 + k)) (ν2 27) 0 0 6)) 25 9 (ν2 25 9 - 1)) 39 8 = μ 39 8) from ⟨by omega, by show (if a = 0 ∨ (if (decide (k % 2 = 0)) = true then (pFoldG (decide (k % 2 = 0)) (fun a_ => pGain ρ s (nI a_ - 1) + (pGame ρ m (k + 1) (pNo (pGo ρ s (nI a_ - 1)))).1) a).1 < (pGain ρ s (nI a - 1) + (pGame ρ m (k + 1) (pNo (pGo ρ s (nI a - 1)))).1) else (pGain ρ s (nI a - 1) + (pGame ρ m (k + 1) (pNo (pGo ρ s (nI a - 1)))).1) < (pFoldG (decide (k % 2 = 0)) (fun a_ => pGain ρ s (nI a_ - 1) + (pGame ρ m (k + 1) (pNo (pGo ρ s (nI a_ - 1)))).1) a).1) then _ else _) = _; rw [v2];  exact if_neg (fun q => by rcases q with q | q; exact h81 (by rw [q]; rfl); rw [if_neg (by rw [h85]; decide)] at q; exact absurd q (Int32.not_lt.mpr h100)), hback, hJ3, h395, hrows, fun h ha => by rw [h398z]; exact v7 h (fun q => h81 (by rw [q]; rfl)), fun h => h398 h⟩) (by show pL s + 1 - (a + 1) < pL s + 1 - a; omega)
              · refine zx_iload (k := 0) (nn := 105) dX0_valueFrom_103 rfl rfl ?_
                refine zx_istore_n (nn := 106) (lv' := [(3, zi ((pGain ρ s (nI a - 1)) + ((pGame ρ m (k + 1) (pNo (pGo ρ s (nI a - 1)))).1))), (6, zi ((pGain ρ s (nI a - 1)) + ((pGame ρ m (k + 1) (pNo (pGo ρ s (nI a - 1)))).1))), (5, zi (pGain ρ s (nI a - 1))), (0, zr 39), (1, zi (nI k)), (2, zi (zb (decide (k % 2 = 0)))), (4, zi (nI a))]) dX0_valueFrom_105 rfl (by decide) rfl rfl ?_
                refine zx_iload_n (k := 4) (nn := 107) dX0_valueFrom_106 rfl rfl rfl ?_
                refine zx_if_ne (tgt := 116) (nn := 110) dX0_valueFrom_107 (by decide) rfl (fun h107 => ?_) (fun h107 => ?_)
                · refine zx_iinc (k := 6) (v := nI (a + 1)) (lv' := [(4, zi (nI (a + 1))), (3, zi ((pGain ρ s (nI a - 1)) + ((pGame ρ m (k + 1) (pNo (pGo ρ s (nI a - 1)))).1))), (6, zi ((pGain ρ s (nI a - 1)) + ((pGame ρ m (k + 1) (pNo (pGo ρ s (nI a - 1)))).1))), (5, zi (pGain ρ s (nI a - 1))), (0, zr 39), (1, zi (nI k)), (2, zi (zb (decide (k % 2 = 0))))]) (nn := 119) dX0_valueFrom_116 rfl (nI_1 a) (by decide) rfl rfl ?_
                  refine zx_goto (tgt := 32) dX0_valueFrom_119 (by decide) ?_
                  refine zx_lv (lv' := [(0, zr 39), (1, zi (nI k)), (2, zi (zb (decide (k % 2 = 0)))), (3, zi ((pGain ρ s (nI a - 1)) + ((pGame ρ m (k + 1) (pNo (pGo ρ s (nI a - 1)))).1))), (4, zi (nI (a + 1)))]) [4, 5, 6, 1, 0] rfl ?_
                  exact ih32 (a + 1, (pGain ρ s (nI a - 1) + (pGame ρ m (k + 1) (pNo (pGo ρ s (nI a - 1)))).1), nI a, zp (zu ν2 27 (va_cpy (ν2 (41 + k)) (ν2 27) 0 0 6)) 25 9 (ν2 25 9 - 1)) (show (a + 1) ≤ pL s + 1 ∧ pFoldG (decide (k % 2 = 0)) (fun a_ => pGain ρ s (nI a_ - 1) + (pGame ρ m (k + 1) (pNo (pGo ρ s (nI a_ - 1)))).1) (a + 1) = ((pGain ρ s (nI a - 1) + (pGame ρ m (k + 1) (pNo (pGo ρ s (nI a - 1)))).1), (nI a)) ∧ pNo (cS 25 (zp (zu ν2 27 (va_cpy (ν2 (41 + k)) (ν2 27) 0 0 6)) 25 9 (ν2 25 9 - 1))) = s ∧ zJ [6, 25, 27, 31, 39, 41, 42, 43, 44] μ (zp (zu ν2 27 (va_cpy (ν2 (41 + k)) (ν2 27) 0 0 6)) 25 9 (ν2 25 9 - 1)) ∧ (zp (zu ν2 27 (va_cpy (ν2 (41 + k)) (ν2 27) 0 0 6)) 25 9 (ν2 25 9 - 1)) 39 5 = nI n ∧ (∀ j, j < k → (zp (zu ν2 27 (va_cpy (ν2 (41 + k)) (ν2 27) 0 0 6)) 25 9 (ν2 25 9 - 1)) (41 + j) = μ (41 + j)) ∧ (k = 0 → (a + 1) ≠ 0 → (zp (zu ν2 27 (va_cpy (ν2 (41 + k)) (ν2 27) 0 0 6)) 25 9 (ν2 25 9 - 1)) 39 8 = (nI a)) ∧ (k ≠ 0 → (zp (zu ν2 27 (va_cpy (ν2 (41 + k)) (ν2 27) 0 0 6)) 25 9 (ν2 25 9 - 1)) 39 8 = μ 39 8) from ⟨by omega, by show (if a = 0 ∨ (if (decide (k % 2 = 0)) = true then (pFoldG (decide (k % 2 = 0)) (fun a_ => pGain ρ s (nI a_ - 1) + (pGame ρ m (k + 1) (pNo (pGo ρ s (nI a_ - 1)))).1) a).1 < (pGain ρ s (nI a - 1) + (pGame ρ m (k + 1) (pNo (pGo ρ s (nI a - 1)))).1) else (pGain ρ s (nI a - 1) + (pGame ρ m (k + 1) (pNo (pGo ρ s (nI a - 1)))).1) < (pFoldG (decide (k % 2 = 0)) (fun a_ => pGain ρ s (nI a_ - 1) + (pGame ρ m (k + 1) (pNo (pGo ρ s (nI a_ - 1)))).1) a).1) then _ else _) = _; rw [v2];  exact if_pos (Or.inr (by rw [if_neg (by rw [h85]; decide)]; exact Int32.not_le.mp h100)), hback, hJ3, h395, hrows, fun h => absurd (by rw [h]; rfl) h107, fun h => h398 h⟩) (by show pL s + 1 - (a + 1) < pL s + 1 - a; omega)
                · refine zx_aload_n (k := 3) (nn := 111) dX0_valueFrom_110 rfl rfl rfl ?_
                  refine zx_iload (k := 6) (nn := 113) dX0_valueFrom_111 rfl rfl ?_
                  refine zx_putI (nn := 116) fpX0_85 rfl rfl rfl rfl dX0_valueFrom_113 rfl ?_
                  refine zx_iinc (k := 6) (v := nI (a + 1)) (lv' := [(4, zi (nI (a + 1))), (3, zi ((pGain ρ s (nI a - 1)) + ((pGame ρ m (k + 1) (pNo (pGo ρ s (nI a - 1)))).1))), (6, zi ((pGain ρ s (nI a - 1)) + ((pGame ρ m (k + 1) (pNo (pGo ρ s (nI a - 1)))).1))), (5, zi (pGain ρ s (nI a - 1))), (0, zr 39), (1, zi (nI k)), (2, zi (zb (decide (k % 2 = 0))))]) (nn := 119) dX0_valueFrom_116 rfl (nI_1 a) (by decide) rfl rfl ?_
                  refine zx_goto (tgt := 32) dX0_valueFrom_119 (by decide) ?_
                  refine zx_lv (lv' := [(0, zr 39), (1, zi (nI k)), (2, zi (zb (decide (k % 2 = 0)))), (3, zi ((pGain ρ s (nI a - 1)) + ((pGame ρ m (k + 1) (pNo (pGo ρ s (nI a - 1)))).1))), (4, zi (nI (a + 1)))]) [4, 5, 6, 1, 0] rfl ?_
                  exact ih32 (a + 1, (pGain ρ s (nI a - 1) + (pGame ρ m (k + 1) (pNo (pGo ρ s (nI a - 1)))).1), nI a, zp (zp (zu ν2 27 (va_cpy (ν2 (41 + k)) (ν2 27) 0 0 6)) 25 9 (ν2 25 9 - 1)) 39 8 (nI a)) (show (a + 1) ≤ pL s + 1 ∧ pFoldG (decide (k % 2 = 0)) (fun a_ => pGain ρ s (nI a_ - 1) + (pGame ρ m (k + 1) (pNo (pGo ρ s (nI a_ - 1)))).1) (a + 1) = ((pGain ρ s (nI a - 1) + (pGame ρ m (k + 1) (pNo (pGo ρ s (nI a - 1)))).1), (nI a)) ∧ pNo (cS 25 (zp (zp (zu ν2 27 (va_cpy (ν2 (41 + k)) (ν2 27) 0 0 6)) 25 9 (ν2 25 9 - 1)) 39 8 (nI a))) = s ∧ zJ [6, 25, 27, 31, 39, 41, 42, 43, 44] μ (zp (zp (zu ν2 27 (va_cpy (ν2 (41 + k)) (ν2 27) 0 0 6)) 25 9 (ν2 25 9 - 1)) 39 8 (nI a)) ∧ (zp (zp (zu ν2 27 (va_cpy (ν2 (41 + k)) (ν2 27) 0 0 6)) 25 9 (ν2 25 9 - 1)) 39 8 (nI a)) 39 5 = nI n ∧ (∀ j, j < k → (zp (zp (zu ν2 27 (va_cpy (ν2 (41 + k)) (ν2 27) 0 0 6)) 25 9 (ν2 25 9 - 1)) 39 8 (nI a)) (41 + j) = μ (41 + j)) ∧ (k = 0 → (a + 1) ≠ 0 → (zp (zp (zu ν2 27 (va_cpy (ν2 (41 + k)) (ν2 27) 0 0 6)) 25 9 (ν2 25 9 - 1)) 39 8 (nI a)) 39 8 = (nI a)) ∧ (k ≠ 0 → (zp (zp (zu ν2 27 (va_cpy (ν2 (41 + k)) (ν2 27) 0 0 6)) 25 9 (ν2 25 9 - 1)) 39 8 (nI a)) 39 8 = μ 39 8) from ⟨by omega, by show (if a = 0 ∨ (if (decide (k % 2 = 0)) = true then (pFoldG (decide (k % 2 = 0)) (fun a_ => pGain ρ s (nI a_ - 1) + (pGame ρ m (k + 1) (pNo (pGo ρ s (nI a_ - 1)))).1) a).1 < (pGain ρ s (nI a - 1) + (pGame ρ m (k + 1) (pNo (pGo ρ s (nI a - 1)))).1) else (pGain ρ s (nI a - 1) + (pGame ρ m (k + 1) (pNo (pGo ρ s (nI a - 1)))).1) < (pFoldG (decide (k % 2 = 0)) (fun a_ => pGain ρ s (nI a_ - 1) + (pGame ρ m (k + 1) (pNo (pGo ρ s (nI a_ - 1)))).1) a).1) then _ else _) = _; rw [v2];  exact if_pos (Or.inr (by rw [if_neg (by rw [h85]; decide)]; exact Int32.not_le.mp h100)), by rw [cS_eq (b := 25) (fun q hq => zp_ne (by omega))]; exact hback, hJ3.p (by decide), by rw [zp_eq, pk_un (by omega)]; exact h395, fun j hj => by rw [zp_ne (by omega)]; exact hrows j hj, fun _ _ => by rw [zp_eq]; exact pk_us, fun h => absurd (nI_eq0 h107 (by omega)) h⟩) (by show pL s + 1 - (a + 1) < pL s + 1 - a; omega)
            · refine zx_iload (k := 0) (nn := 90) dX0_valueFrom_88 rfl rfl ?_
              refine zx_iload_n (k := 5) (nn := 91) dX0_valueFrom_90 rfl rfl rfl ?_
              refine zx_icmp_le (tgt := 116) (nn := 94) dX0_valueFrom_91 (by decide) rfl (fun h91 => ?_) (fun h91 => ?_)
              · refine zx_iinc (k := 6) (v := nI (a + 1)) (lv' := [(4, zi (nI (a + 1))), (6, zi ((pGain ρ s (nI a - 1)) + ((pGame ρ m (k + 1) (pNo (pGo ρ s (nI a - 1)))).1))), (5, zi (pGain ρ s (nI a - 1))), (0, zr 39), (1, zi (nI k)), (2, zi (zb (decide (k % 2 = 0)))), (3, zi v)]) (nn := 119) dX0_valueFrom_116 rfl (nI_1 a) (by decide) rfl rfl ?_
                refine zx_goto (tgt := 32) dX0_valueFrom_119 (by decide) ?_
                refine zx_lv (lv' := [(0, zr 39), (1, zi (nI k)), (2, zi (zb (decide (k % 2 = 0)))), (3, zi v), (4, zi (nI (a + 1)))]) [3, 4, 5, 6, 0] rfl ?_
                exact ih32 (a + 1, v, b, zp (zu ν2 27 (va_cpy (ν2 (41 + k)) (ν2 27) 0 0 6)) 25 9 (ν2 25 9 - 1)) (show (a + 1) ≤ pL s + 1 ∧ pFoldG (decide (k % 2 = 0)) (fun a_ => pGain ρ s (nI a_ - 1) + (pGame ρ m (k + 1) (pNo (pGo ρ s (nI a_ - 1)))).1) (a + 1) = (v, b) ∧ pNo (cS 25 (zp (zu ν2 27 (va_cpy (ν2 (41 + k)) (ν2 27) 0 0 6)) 25 9 (ν2 25 9 - 1))) = s ∧ zJ [6, 25, 27, 31, 39, 41, 42, 43, 44] μ (zp (zu ν2 27 (va_cpy (ν2 (41 + k)) (ν2 27) 0 0 6)) 25 9 (ν2 25 9 - 1)) ∧ (zp (zu ν2 27 (va_cpy (ν2 (41 + k)) (ν2 27) 0 0 6)) 25 9 (ν2 25 9 - 1)) 39 5 = nI n ∧ (∀ j, j < k → (zp (zu ν2 27 (va_cpy (ν2 (41 + k)) (ν2 27) 0 0 6)) 25 9 (ν2 25 9 - 1)) (41 + j) = μ (41 + j)) ∧ (k = 0 → (a + 1) ≠ 0 → (zp (zu ν2 27 (va_cpy (ν2 (41 + k)) (ν2 27) 0 0 6)) 25 9 (ν2 25 9 - 1)) 39 8 = b) ∧ (k ≠ 0 → (zp (zu ν2 27 (va_cpy (ν2 (41 + k)) (ν2 27) 0 0 6)) 25 9 (ν2 25 9 - 1)) 39 8 = μ 39 8) from ⟨by omega, by show (if a = 0 ∨ (if (decide (k % 2 = 0)) = true then (pFoldG (decide (k % 2 = 0)) (fun a_ => pGain ρ s (nI a_ - 1) + (pGame ρ m (k + 1) (pNo (pGo ρ s (nI a_ - 1)))).1) a).1 < (pGain ρ s (nI a - 1) + (pGame ρ m (k + 1) (pNo (pGo ρ s (nI a - 1)))).1) else (pGain ρ s (nI a - 1) + (pGame ρ m (k + 1) (pNo (pGo ρ s (nI a - 1)))).1) < (pFoldG (decide (k % 2 = 0)) (fun a_ => pGain ρ s (nI a_ - 1) + (pGame ρ m (k + 1) (pNo (pGo ρ s (nI a_ - 1)))).1) a).1) then _ else _) = _; rw [v2];  exact if_neg (fun q => by rcases q with q | q; exact h81 (by rw [q]; rfl); rw [if_pos h85] at q; exact absurd q (Int32.not_lt.mpr h91)), hback, hJ3, h395, hrows, fun h ha => by rw [h398z]; exact v7 h (fun q => h81 (by rw [q]; rfl)), fun h => h398 h⟩) (by show pL s + 1 - (a + 1) < pL s + 1 - a; omega)
              · refine zx_goto (tgt := 103) dX0_valueFrom_94 (by decide) ?_
                refine zx_iload (k := 0) (nn := 105) dX0_valueFrom_103 rfl rfl ?_
                refine zx_istore_n (nn := 106) (lv' := [(3, zi ((pGain ρ s (nI a - 1)) + ((pGame ρ m (k + 1) (pNo (pGo ρ s (nI a - 1)))).1))), (6, zi ((pGain ρ s (nI a - 1)) + ((pGame ρ m (k + 1) (pNo (pGo ρ s (nI a - 1)))).1))), (5, zi (pGain ρ s (nI a - 1))), (0, zr 39), (1, zi (nI k)), (2, zi (zb (decide (k % 2 = 0)))), (4, zi (nI a))]) dX0_valueFrom_105 rfl (by decide) rfl rfl ?_
                refine zx_iload_n (k := 4) (nn := 107) dX0_valueFrom_106 rfl rfl rfl ?_
                refine zx_if_ne (tgt := 116) (nn := 110) dX0_valueFrom_107 (by decide) rfl (fun h107 => ?_) (fun h107 => ?_)
                · refine zx_iinc (k := 6) (v := nI (a + 1)) (lv' := [(4, zi (nI (a + 1))), (3, zi ((pGain ρ s (nI a - 1)) + ((pGame ρ m (k + 1) (pNo (pGo ρ s (nI a - 1)))).1))), (6, zi ((pGain ρ s (nI a - 1)) + ((pGame ρ m (k + 1) (pNo (pGo ρ s (nI a - 1)))).1))), (5, zi (pGain ρ s (nI a - 1))), (0, zr 39), (1, zi (nI k)), (2, zi (zb (decide (k % 2 = 0))))]) (nn := 119) dX0_valueFrom_116 rfl (nI_1 a) (by decide) rfl rfl ?_
                  refine zx_goto (tgt := 32) dX0_valueFrom_119 (by decide) ?_
                  refine zx_lv (lv' := [(0, zr 39), (1, zi (nI k)), (2, zi (zb (decide (k % 2 = 0)))), (3, zi ((pGain ρ s (nI a - 1)) + ((pGame ρ m (k + 1) (pNo (pGo ρ s (nI a - 1)))).1))), (4, zi (nI (a + 1)))]) [4, 5, 6, 1, 0] rfl ?_
                  exact ih32 (a + 1, (pGain ρ s (nI a - 1) + (pGame ρ m (k + 1) (pNo (pGo ρ s (nI a - 1)))).1), nI a, zp (zu ν2 27 (va_cpy (ν2 (41 + k)) (ν2 27) 0 0 6)) 25 9 (ν2 25 9 - 1)) (show (a + 1) ≤ pL s + 1 ∧ pFoldG (decide (k % 2 = 0)) (fun a_ => pGain ρ s (nI a_ - 1) + (pGame ρ m (k + 1) (pNo (pGo ρ s (nI a_ - 1)))).1) (a + 1) = ((pGain ρ s (nI a - 1) + (pGame ρ m (k + 1) (pNo (pGo ρ s (nI a - 1)))).1), (nI a)) ∧ pNo (cS 25 (zp (zu ν2 27 (va_cpy (ν2 (41 + k)) (ν2 27) 0 0 6)) 25 9 (ν2 25 9 - 1))) = s ∧ zJ [6, 25, 27, 31, 39, 41, 42, 43, 44] μ (zp (zu ν2 27 (va_cpy (ν2 (41 + k)) (ν2 27) 0 0 6)) 25 9 (ν2 25 9 - 1)) ∧ (zp (zu ν2 27 (va_cpy (ν2 (41 + k)) (ν2 27) 0 0 6)) 25 9 (ν2 25 9 - 1)) 39 5 = nI n ∧ (∀ j, j < k → (zp (zu ν2 27 (va_cpy (ν2 (41 + k)) (ν2 27) 0 0 6)) 25 9 (ν2 25 9 - 1)) (41 + j) = μ (41 + j)) ∧ (k = 0 → (a + 1) ≠ 0 → (zp (zu ν2 27 (va_cpy (ν2 (41 + k)) (ν2 27) 0 0 6)) 25 9 (ν2 25 9 - 1)) 39 8 = (nI a)) ∧ (k ≠ 0 → (zp (zu ν2 27 (va_cpy (ν2 (41 + k)) (ν2 27) 0 0 6)) 25 9 (ν2 25 9 - 1)) 39 8 = μ 39 8) from ⟨by omega, by show (if a = 0 ∨ (if (decide (k % 2 = 0)) = true then (pFoldG (decide (k % 2 = 0)) (fun a_ => pGain ρ s (nI a_ - 1) + (pGame ρ m (k + 1) (pNo (pGo ρ s (nI a_ - 1)))).1) a).1 < (pGain ρ s (nI a - 1) + (pGame ρ m (k + 1) (pNo (pGo ρ s (nI a - 1)))).1) else (pGain ρ s (nI a - 1) + (pGame ρ m (k + 1) (pNo (pGo ρ s (nI a - 1)))).1) < (pFoldG (decide (k % 2 = 0)) (fun a_ => pGain ρ s (nI a_ - 1) + (pGame ρ m (k + 1) (pNo (pGo ρ s (nI a_ - 1)))).1) a).1) then _ else _) = _; rw [v2];  exact if_pos (Or.inr (by rw [if_pos h85]; exact Int32.not_le.mp h91)), hback, hJ3, h395, hrows, fun h => absurd (by rw [h]; rfl) h107, fun h => h398 h⟩) (by show pL s + 1 - (a + 1) < pL s + 1 - a; omega)
                · refine zx_aload_n (k := 3) (nn := 111) dX0_valueFrom_110 rfl rfl rfl ?_
                  refine zx_iload (k := 6) (nn := 113) dX0_valueFrom_111 rfl rfl ?_
                  refine zx_putI (nn := 116) fpX0_85 rfl rfl rfl rfl dX0_valueFrom_113 rfl ?_
                  refine zx_iinc (k := 6) (v := nI (a + 1)) (lv' := [(4, zi (nI (a + 1))), (3, zi ((pGain ρ s (nI a - 1)) + ((pGame ρ m (k + 1) (pNo (pGo ρ s (nI a - 1)))).1))), (6, zi ((pGain ρ s (nI a - 1)) + ((pGame ρ m (k + 1) (pNo (pGo ρ s (nI a - 1)))).1))), (5, zi (pGain ρ s (nI a - 1))), (0, zr 39), (1, zi (nI k)), (2, zi (zb (decide (k % 2 = 0))))]) (nn := 119) dX0_valueFrom_116 rfl (nI_1 a) (by decide) rfl rfl ?_
                  refine zx_goto (tgt := 32) dX0_valueFrom_119 (by decide) ?_
                  refine zx_lv (lv' := [(0, zr 39), (1, zi (nI k)), (2, zi (zb (decide (k % 2 = 0)))), (3, zi ((pGain ρ s (nI a - 1)) + ((pGame ρ m (k + 1) (pNo (pGo ρ s (nI a - 1)))).1))), (4, zi (nI (a + 1)))]) [4, 5, 6, 1, 0] rfl ?_
                  exact ih32 (a + 1, (pGain ρ s (nI a - 1) + (pGame ρ m (k + 1) (pNo (pGo ρ s (nI a - 1)))).1), nI a, zp (zp (zu ν2 27 (va_cpy (ν2 (41 + k)) (ν2 27) 0 0 6)) 25 9 (ν2 25 9 - 1)) 39 8 (nI a)) (show (a + 1) ≤ pL s + 1 ∧ pFoldG (decide (k % 2 = 0)) (fun a_ => pGain ρ s (nI a_ - 1) + (pGame ρ m (k + 1) (pNo (pGo ρ s (nI a_ - 1)))).1) (a + 1) = ((pGain ρ s (nI a - 1) + (pGame ρ m (k + 1) (pNo (pGo ρ s (nI a - 1)))).1), (nI a)) ∧ pNo (cS 25 (zp (zp (zu ν2 27 (va_cpy (ν2 (41 + k)) (ν2 27) 0 0 6)) 25 9 (ν2 25 9 - 1)) 39 8 (nI a))) = s ∧ zJ [6, 25, 27, 31, 39, 41, 42, 43, 44] μ (zp (zp (zu ν2 27 (va_cpy (ν2 (41 + k)) (ν2 27) 0 0 6)) 25 9 (ν2 25 9 - 1)) 39 8 (nI a)) ∧ (zp (zp (zu ν2 27 (va_cpy (ν2 (41 + k)) (ν2 27) 0 0 6)) 25 9 (ν2 25 9 - 1)) 39 8 (nI a)) 39 5 = nI n ∧ (∀ j, j < k → (zp (zp (zu ν2 27 (va_cpy (ν2 (41 + k)) (ν2 27) 0 0 6)) 25 9 (ν2 25 9 - 1)) 39 8 (nI a)) (41 + j) = μ (41 + j)) ∧ (k = 0 → (a + 1) ≠ 0 → (zp (zp (zu ν2 27 (va_cpy (ν2 (41 + k)) (ν2 27) 0 0 6)) 25 9 (ν2 25 9 - 1)) 39 8 (nI a)) 39 8 = (nI a)) ∧ (k ≠ 0 → (zp (zp (zu ν2 27 (va_cpy (ν2 (41 + k)) (ν2 27) 0 0 6)) 25 9 (ν2 25 9 - 1)) 39 8 (nI a)) 39 8 = μ 39 8) from ⟨by omega, by show (if a = 0 ∨ (if (decide (k % 2 = 0)) = true then (pFoldG (decide (k % 2 = 0)) (fun a_ => pGain ρ s (nI a_ - 1) + (pGame ρ m (k + 1) (pNo (pGo ρ s (nI a_ - 1)))).1) a).1 < (pGain ρ s (nI a - 1) + (pGame ρ m (k + 1) (pNo (pGo ρ s (nI a - 1)))).1) else (pGain ρ s (nI a - 1) + (pGame ρ m (k + 1) (pNo (pGo ρ s (nI a - 1)))).1) < (pFoldG (decide (k % 2 = 0)) (fun a_ => pGain ρ s (nI a_ - 1) + (pGame ρ m (k + 1) (pNo (pGo ρ s (nI a_ - 1)))).1) a).1) then _ else _) = _; rw [v2];  exact if_pos (Or.inr (by rw [if_pos h85]; exact Int32.not_le.mp h91)), by rw [cS_eq (b := 25) (fun q hq => zp_ne (by omega))]; exact hback, hJ3.p (by decide), by rw [zp_eq, pk_un (by omega)]; exact h395, fun j hj => by rw [zp_ne (by omega)]; exact hrows j hj, fun _ _ => by rw [zp_eq]; exact pk_us, fun h => absurd (nI_eq0 h107 (by omega)) h⟩) (by show pL s + 1 - (a + 1) < pL s + 1 - a; omega)
      · exact absurd (nI_lt (a := k) (b := 4) (by omega) (by omega)) h10
set_option maxHeartbeats 4000000 in
set_option maxRecDepth 100000 in
theorem eX0_findBest_39 (σ : zG) (μ : zM) (n : Nat) (ok : pOK (cS 18 μ)) (rok : cROK 1 μ) (hn : n ≤ 4) : zMet shC σ 10 MX0_findBest yX0_findBest [zr 39, zi (nI n)] μ (fun rr μ' => rr = none ∧ pBr μ' (min n (pRem (cS 18 μ))) (pPlan (cR 1 μ) (cS 18 μ) n) ∧ μ' 39 5 = nI (min n (pRem (cS 18 μ))) ∧ zJ [6, 25, 26, 27, 28, 29, 30, 31, 39, 41, 42, 43, 44, 45, 46] μ μ') := by
  have hB16 := (ok_B ok).2
  have hbB := (ok_b ok).2
  have hb1 : μ 18 9 = nI (pb (cS 18 μ)) := (ok_b ok).1
  have hBe : μ 18 8 = nI (pB (cS 18 μ)) := (ok_B ok).1
  have hrem : pRem (cS 18 μ) = pB (cS 18 μ) - pb (cS 18 μ) := rfl
  have hL1 : μ 18 7 = nI (pL (cS 18 μ)) := (ok_L ok).1
  refine zmetF (by decide +kernel) rfl (Nat.le_of_ble_eq_true rfl) ?_
  show zX shC σ 10 MX0_findBest 0 [(0, zr 39), (1, zi (nI n))] [] μ _
  refine zx_aload_n (k := 0) (nn := 1) dX0_findBest_0 rfl rfl rfl ?_
  refine zx_getR (q := 25) (nn := 4) flX0_27 rfl rfl dX0_findBest_1 rfl ?_
  refine zx_aload_n (k := 0) (nn := 5) dX0_findBest_4 rfl rfl rfl ?_
  refine zx_getR (q := 18) (nn := 8) flX0_23 rfl rfl dX0_findBest_5 rfl ?_
  refine zx_callV (nn := 11) (k := 25) (d' := 1) (as := [zr 18]) (rest := []) (n := 1) (eX8_copyFrom_25_18 σ μ) kX8_copyFrom mlX0_30 rfl rfl rfl (by decide) rfl rfl (Nat.le_of_ble_eq_true rfl) dX0_findBest_8 rfl ?_
  rintro _ ν1 ⟨rfl, c1, c2⟩
  show zX shC σ 10 MX0_findBest 11 [(0, zr 39), (1, zi (nI n))] [] ν1 _
  refine zx_aload_n (k := 0) (nn := 12) dX0_findBest_11 rfl rfl rfl ?_
  refine zx_iload_n (k := 1) (nn := 13) dX0_findBest_12 rfl rfl rfl ?_
  refine zx_aload_n (k := 0) (nn := 14) dX0_findBest_13 rfl rfl rfl ?_
  refine zx_getR (q := 18) (nn := 17) flX0_23 rfl rfl dX0_findBest_14 rfl ?_
  refine zx_getI (nn := 20) flX0_36 rfl rfl dX0_findBest_17 rfl ?_
  rw [show ν1 18 8 = nI (pB (cS 18 μ)) from by rw [c2 18 (by decide)]; exact hBe]
  show zX shC σ 10 MX0_findBest 20 [(0, zr 39), (1, zi (nI n))] [zi (nI (pB (cS 18 μ))), zi (nI n), zr 39] ν1 _
  refine zx_aload_n (k := 0) (nn := 21) dX0_findBest_20 rfl rfl rfl ?_
  refine zx_getR (q := 18) (nn := 24) flX0_23 rfl rfl dX0_findBest_21 rfl ?_
  refine zx_getI (nn := 27) flX0_40 rfl rfl dX0_findBest_24 rfl ?_
  rw [show ν1 18 9 = nI (pb (cS 18 μ)) from by rw [c2 18 (by decide)]; exact hb1]
  show zX shC σ 10 MX0_findBest 27 [(0, zr 39), (1, zi (nI n))] [zi (nI (pb (cS 18 μ))), zi (nI (pB (cS 18 μ))), zi (nI n), zr 39] ν1 _
  refine zx_isub (nn := 28) dX0_findBest_27 rfl ?_
  rw [nI_subN hbB]
  show zX shC σ 10 MX0_findBest 28 [(0, zr 39), (1, zi (nI n))] [zi (nI (pB (cS 18 μ) - pb (cS 18 μ))), zi (nI n), zr 39] ν1 _
  refine zx_callSf (nn := 31) (d' := 0) (as := [zi (nI n), zi (nI (pB (cS 18 μ) - pb (cS 18 μ)))]) (rest := [zr 39]) (n := 2) (eJ9_min_7cf53 σ ν1 (nI n) (nI (pB (cS 18 μ) - pb (cS 18 μ)))) kJ9_min_7cf53 mlX0_43 (by decide) rfl rfl (Nat.le_of_ble_eq_true rfl) dX0_findBest_28 rfl ?_
  show zX shC σ 10 MX0_findBest 31 [(0, zr 39), (1, zi (nI n))] [zi (pMin (nI n) (nI (pB (cS 18 μ) - pb (cS 18 μ)))), zr 39] ν1 _
  rw [nI_min (by omega) (by omega)]
  show zX shC σ 10 MX0_findBest 31 [(0, zr 39), (1, zi (nI n))] [zi (nI (min n (pRem (cS 18 μ)))), zr 39] ν1 _
  refine zx_putI (nn := 34) fpX0_49 rfl rfl rfl rfl dX0_findBest_31 rfl ?_
  refine zx_aload_n (k := 0) (nn := 35) dX0_findBest_34 rfl rfl rfl ?_
  refine zx_iconst (v := -1) (nn := 36) rfl dX0_findBest_35 rfl ?_
  refine zx_putI (nn := 39) fpX0_52 rfl rfl rfl rfl dX0_findBest_36 rfl ?_
  refine zx_aload_n (k := 0) (nn := 40) dX0_findBest_39 rfl rfl rfl ?_
  refine zx_iconst (v := 0) (nn := 41) rfl dX0_findBest_40 rfl ?_
  refine zx_putI (nn := 44) fpX0_55 rfl rfl rfl rfl dX0_findBest_41 rfl ?_
  have hM : cS 25 (zp (zp (zp ν1 39 5 (nI (min n (pRem (cS 18 μ))))) 39 6 (-1)) 39 7 0) = (cS 18 μ) := by rw [cS_eq (b := 25) (ν := ν1) (fun q hq => by repeat rw [zp_ne (by omega)])]; exact c1
  have hRM : cR 1 (zp (zp (zp ν1 39 5 (nI (min n (pRem (cS 18 μ))))) 39 6 (-1)) 39 7 0) = cR 1 μ := cR_μ (fun q h1 h2 => by (repeat rw [zp_ne (by omega)]); exact c2 q (by simp; omega))
  have rokM : cROK 1 (zp (zp (zp ν1 39 5 (nI (min n (pRem (cS 18 μ))))) 39 6 (-1)) 39 7 0) := cROK_μ (μ := μ) (by (repeat rw [zp_ne (by omega)]); exact (c2 1 (by decide)).symm) (by (repeat rw [zp_ne (by omega)]); exact (c2 4 (by decide)).symm) rok
  refine zx_aload_n (k := 0) (nn := 45) dX0_findBest_44 rfl rfl rfl ?_
  refine zx_iconst (v := 0) (nn := 46) rfl dX0_findBest_45 rfl ?_
  refine zx_iconst (v := 0) (nn := 47) rfl dX0_findBest_46 rfl ?_
  refine zx_callS (nn := 50) (d' := 5 + min n (pRem (cS 18 μ))) (as := [zr 39, zi 0, zi 0]) (rest := []) (n := 3) (eX0_search σ (cR 1 μ) (min n (pRem (cS 18 μ))) (by omega) (min n (pRem (cS 18 μ))) 0 (by omega) (zp (zp (zp ν1 39 5 (nI (min n (pRem (cS 18 μ))))) 39 6 (-1)) 39 7 0) (pNo (cS 18 μ)) 0 (fun _ => 0) (-1, 0, μ 46) rokM hRM (pNo_ok.mpr ok) (pNo_no _) (by rw [hM]) (by rw [pNo_n.1, pNo_n.2.1]; omega) (by simp [zp, zu, upd]) (by rw [pNo_n.2.2.1]; (repeat rw [zp_ne (by omega)]); rw [c2 18 (by decide)]; exact hL1) ⟨by simp [zp, zu, upd], by simp [zp, zu, upd]; rfl, fun i _ => by (repeat rw [zp_ne (by omega)]); rw [c2 46 (by decide)]⟩ (fun i h => absurd h (by omega))) kX0_search mlX0_58 (by omega) rfl rfl (Nat.le_of_ble_eq_true rfl) dX0_findBest_47 rfl ?_
  rintro _ ν2 ⟨rfl, s1, s2, s3, s4, s5, s6⟩
  show zX shC σ 10 MX0_findBest 50 [(0, zr 39), (1, zi (nI n))] [] ν2 _
  refine zx_vret rfl dX0_findBest_50 ?_
  have hP : pSearch (cR 1 μ) (min n (pRem (cS 18 μ))) 0 (pNo (cS 18 μ)) 0 (fun _ => 0) (-1, 0, μ 46) = pPlan (cR 1 μ) (cS 18 μ) n :=
    pSearch_RB _ 0 _ _ _ _ _ (by omega) (pNo_ok.mpr ok) (by rw [pNo_n.1, pNo_n.2.1]; omega) (by rw [zt0]; omega) (by rw [zt0]; omega) ⟨rfl, rfl, Or.inl (by rw [ztm1]; omega)⟩
  rw [hP] at s1
  exact ⟨rfl, s1, s4, ((c2.mono (by decide)).p (by decide)).p (by decide) |>.p (by decide) |>.tr (s3.mono (by decide))⟩
set_option maxHeartbeats 4000000 in
set_option maxRecDepth 100000 in
theorem eX0_gameValue_39 (σ : zG) (μ : zM) (n : Nat) (ok : pOK (cS 18 μ)) (rok : cROK 1 μ) (hn : n ≤ 4) : zMet shC σ 10 MX0_gameValue yX0_gameValue [zr 39, zi (nI n)] μ (fun rr μ' => rr = some (zi ((pGame (cR 1 μ) (min n (pRem (cS 18 μ))) 0 (pNo (cS 18 μ))).1)) ∧ (min n (pRem (cS 18 μ)) ≠ 0 → μ' 39 8 = (pGame (cR 1 μ) (min n (pRem (cS 18 μ))) 0 (pNo (cS 18 μ))).2) ∧ zJ [6, 25, 26, 27, 28, 29, 30, 31, 39, 41, 42, 43, 44, 45, 46] μ μ') := by
  have hB16 := (ok_B ok).2
  have hbB := (ok_b ok).2
  have hb1 : μ 18 9 = nI (pb (cS 18 μ)) := (ok_b ok).1
  have hBe : μ 18 8 = nI (pB (cS 18 μ)) := (ok_B ok).1
  have hrem : pRem (cS 18 μ) = pB (cS 18 μ) - pb (cS 18 μ) := rfl
  have hL1 : μ 18 7 = nI (pL (cS 18 μ)) := (ok_L ok).1
  refine zmetF (by decide +kernel) rfl (Nat.le_of_ble_eq_true rfl) ?_
  show zX shC σ 10 MX0_gameValue 0 [(0, zr 39), (1, zi (nI n))] [] μ _
  refine zx_aload_n (k := 0) (nn := 1) dX0_gameValue_0 rfl rfl rfl ?_
  refine zx_getR (q := 25) (nn := 4) flX0_27 rfl rfl dX0_gameValue_1 rfl ?_
  refine zx_aload_n (k := 0) (nn := 5) dX0_gameValue_4 rfl rfl rfl ?_
  refine zx_getR (q := 18) (nn := 8) flX0_23 rfl rfl dX0_gameValue_5 rfl ?_
  refine zx_callV (nn := 11) (k := 25) (d' := 1) (as := [zr 18]) (rest := []) (n := 1) (eX8_copyFrom_25_18 σ μ) kX8_copyFrom mlX0_30 rfl rfl rfl (by decide) rfl rfl (Nat.le_of_ble_eq_true rfl) dX0_gameValue_8 rfl ?_
  rintro _ ν1 ⟨rfl, c1, c2⟩
  show zX shC σ 10 MX0_gameValue 11 [(0, zr 39), (1, zi (nI n))] [] ν1 _
  refine zx_aload_n (k := 0) (nn := 12) dX0_gameValue_11 rfl rfl rfl ?_
  refine zx_iload_n (k := 1) (nn := 13) dX0_gameValue_12 rfl rfl rfl ?_
  refine zx_aload_n (k := 0) (nn := 14) dX0_gameValue_13 rfl rfl rfl ?_
  refine zx_getR (q := 18) (nn := 17) flX0_23 rfl rfl dX0_gameValue_14 rfl ?_
  refine zx_getI (nn := 20) flX0_36 rfl rfl dX0_gameValue_17 rfl ?_
  rw [show ν1 18 8 = nI (pB (cS 18 μ)) from by rw [c2 18 (by decide)]; exact hBe]
  show zX shC σ 10 MX0_gameValue 20 [(0, zr 39), (1, zi (nI n))] [zi (nI (pB (cS 18 μ))), zi (nI n), zr 39] ν1 _
  refine zx_aload_n (k := 0) (nn := 21) dX0_gameValue_20 rfl rfl rfl ?_
  refine zx_getR (q := 18) (nn := 24) flX0_23 rfl rfl dX0_gameValue_21 rfl ?_
  refine zx_getI (nn := 27) flX0_40 rfl rfl dX0_gameValue_24 rfl ?_
  rw [show ν1 18 9 = nI (pb (cS 18 μ)) from by rw [c2 18 (by decide)]; exact hb1]
  show zX shC σ 10 MX0_gameValue 27 [(0, zr 39), (1, zi (nI n))] [zi (nI (pb (cS 18 μ))), zi (nI (pB (cS 18 μ))), zi (nI n), zr 39] ν1 _
  refine zx_isub (nn := 28) dX0_gameValue_27 rfl ?_
  rw [nI_subN hbB]
  show zX shC σ 10 MX0_gameValue 28 [(0, zr 39), (1, zi (nI n))] [zi (nI (pB (cS 18 μ) - pb (cS 18 μ))), zi (nI n), zr 39] ν1 _
  refine zx_callSf (nn := 31) (d' := 0) (as := [zi (nI n), zi (nI (pB (cS 18 μ) - pb (cS 18 μ)))]) (rest := [zr 39]) (n := 2) (eJ9_min_7cf53 σ ν1 (nI n) (nI (pB (cS 18 μ) - pb (cS 18 μ)))) kJ9_min_7cf53 mlX0_43 (by decide) rfl rfl (Nat.le_of_ble_eq_true rfl) dX0_gameValue_28 rfl ?_
  show zX shC σ 10 MX0_gameValue 31 [(0, zr 39), (1, zi (nI n))] [zi (pMin (nI n) (nI (pB (cS 18 μ) - pb (cS 18 μ)))), zr 39] ν1 _
  rw [nI_min (by omega) (by omega)]
  show zX shC σ 10 MX0_gameValue 31 [(0, zr 39), (1, zi (nI n))] [zi (nI (min n (pRem (cS 18 μ)))), zr 39] ν1 _
  refine zx_putI (nn := 34) fpX0_49 rfl rfl rfl rfl dX0_gameValue_31 rfl ?_
  refine zx_aload_n (k := 0) (nn := 35) dX0_gameValue_34 rfl rfl rfl ?_
  refine zx_iconst (v := 0) (nn := 36) rfl dX0_gameValue_35 rfl ?_
  refine zx_putI (nn := 39) fpX0_85 rfl rfl rfl rfl dX0_gameValue_36 rfl ?_
  have hM : cS 25 (zp (zp ν1 39 5 (nI (min n (pRem (cS 18 μ))))) 39 8 0) = (cS 18 μ) := by rw [cS_eq (b := 25) (ν := ν1) (fun q hq => by repeat rw [zp_ne (by omega)])]; exact c1
  have hRM : cR 1 (zp (zp ν1 39 5 (nI (min n (pRem (cS 18 μ))))) 39 8 0) = cR 1 μ := cR_μ (fun q h1 h2 => by (repeat rw [zp_ne (by omega)]); exact c2 q (by simp; omega))
  have rokM : cROK 1 (zp (zp ν1 39 5 (nI (min n (pRem (cS 18 μ))))) 39 8 0) := cROK_μ (μ := μ) (by (repeat rw [zp_ne (by omega)]); exact (c2 1 (by decide)).symm) (by (repeat rw [zp_ne (by omega)]); exact (c2 4 (by decide)).symm) rok
  refine zx_aload_n (k := 0) (nn := 40) dX0_gameValue_39 rfl rfl rfl ?_
  refine zx_iconst (v := 0) (nn := 41) rfl dX0_gameValue_40 rfl ?_
  refine zx_callS (nn := 44) (d' := 5 + min n (pRem (cS 18 μ))) (as := [zr 39, zi 0]) (rest := []) (n := 2) (eX0_valueFrom σ (cR 1 μ) (min n (pRem (cS 18 μ))) (by omega) (min n (pRem (cS 18 μ))) 0 (by omega) (zp (zp ν1 39 5 (nI (min n (pRem (cS 18 μ))))) 39 8 0) (pNo (cS 18 μ)) rokM hRM (pNo_ok.mpr ok) (pNo_no _) (by rw [hM]) (by rw [pNo_n.1, pNo_n.2.1]; omega) (by simp [zp, zu, upd]) (by rw [pNo_n.2.2.1]; (repeat rw [zp_ne (by omega)]); rw [c2 18 (by decide)]; exact hL1)) kX0_valueFrom mlX0_88 (by omega) rfl rfl (Nat.le_of_ble_eq_true rfl) dX0_gameValue_41 rfl ?_
  rintro _ ν2 ⟨rfl, s2, s3, s4, s6, s7, s8⟩
  show zX shC σ 10 MX0_gameValue 44 [(0, zr 39), (1, zi (nI n))] [zi ((pGame (cR 1 μ) (min n (pRem (cS 18 μ))) 0 (pNo (cS 18 μ))).1)] ν2 _
  refine zx_iret rfl dX0_gameValue_44 ?_
  exact ⟨rfl, fun h => s7 rfl h, ((c2.mono (by decide)).p (by decide)).p (by decide) |>.tr (s3.mono (by decide))⟩
