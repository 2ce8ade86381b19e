/-- of the text's reader only field j of 7 becomes v (and what lies in J) -/
def fF (J : List Nat) (j : Nat) (μ μ1 : zM) (v : Int32) : Prop := zJ (7 :: J) μ μ1 ∧ (∀ i, i ≠ j → μ1 7 i = μ 7 i) ∧ μ1 7 j = v
theorem fF.step {J : List Nat} {j : Nat} {μ μ1 : zM} {v w : Int32} (h : fF J j μ μ1 v) : fF J j μ (zp μ1 7 j w) w :=
  ⟨h.1.p (by simp), fun i hi => by rw [zp_eq, pk_un hi]; exact h.2.1 i hi, by rw [zp_eq]; exact pk_us⟩
theorem fF.oth {J : List Nat} {j k i : Nat} {μ μ1 : zM} {v w : Int32} (h : fF J j μ μ1 v) (hk : k ∈ J) (h7 : k ≠ 7) : fF J j μ (zp μ1 k i w) v :=
  ⟨h.1.p (by simp [hk]), fun i hi => by rw [zp_ne (Ne.symm h7)]; exact h.2.1 i hi, by rw [zp_ne (Ne.symm h7)]; exact h.2.2⟩
theorem tRun_1 {f : Int32 → Bool} {T : Nat → Int32} {len p : Nat} (h : p < len) (hf : f (T p) = true) : p + 1 ≤ tRun f T (len - p) p ∧ tRun f T (len - p) p ≤ len := by
  rw [tRun_s h hf]
  have := tRun_le (f := f) (T := T) (m := len - (p + 1)) (p := p + 1)
  omega
theorem tTok_e {T : Nat → Int32} {len q : Nat} (h : q < len) : q + 1 ≤ (tTok T len q).2.2 ∧ (tTok T len q).2.2 ≤ len := by
  unfold tTok
  rw [if_neg (by omega)]
  split
  · rename_i g; exact tRun_1 h g
  · split
    · rename_i g; exact tRun_1 h g
    · exact ⟨Nat.le_refl _, h⟩
theorem tTok_k {T : Nat → Int32} {len q : Nat} (h : q < len) (hb : 0 ≤ T q) : (tTok T len q).1 ≠ -1 := by
  unfold tTok
  rw [if_neg (by omega)]
  split
  · show tWord _ _ _ ≠ -1
    unfold tWord
    split
    · decide
    · rename_i w hw
      have hlt : w < 18 := by
        have : ∀ {f : Nat → Bool} {m k w : Nat}, pFirst f k m = some w → w < k + m := by
          intro f m
          induction m with
          | zero => intro k w e; exact absurd e (by simp [pFirst])
          | succ m ih =>
            intro k w e
            have e2 : (if f k then some k else pFirst f (k + 1) m) = some w := e
            split at e2
            · cases e2; omega
            · have := ih e2; omega
        have := this hw; omega
      intro q
      have := congrArg Int32.toInt q
      rw [nI_toInt (by omega)] at this
      simp at this
      omega
  · split
    · show (if _ then (-3 : Int32) else -2) ≠ -1
      split <;> decide
    · show T q ≠ -1
      intro e
      rw [e] at hb
      exact absurd hb (by decide)
/-- what the reader's tables hold: c tokens, then the end -/
def tTab (μ : zM) (T : Nat → Int32) (len c : Nat) : Prop := (∀ k, k < c → μ 9 k = tK T len k ∧ μ 10 k = tV T len k ∧ μ 11 k = nI (tS T len k) ∧ tK T len k ≠ -1) ∧ μ 9 c = -1 ∧ tK T len c = -1 ∧ μ 11 c = nI (tS T len c)
def tByte (e : Int64) (j : Nat) : Int32 := (zlushr e (8 * nI j)).toInt32 &&& 255
set_option maxHeartbeats 4000000 in
set_option maxRecDepth 100000 in
theorem eX4_take_7 (σ : zG) (μ : zM) (e : Int64) (n : Nat) (len : Nat) (hl : μ 7 5 = nI len) (hn : n ≤ 8) (hs : len + n ≤ 200) : zMet shC σ 0 MX4_take yX4_take [zr 7, zj e, zi (nI n)] μ (fun rr μ' => rr = some (zi (nI (len + n))) ∧ fF [8] 5 μ μ' (nI (len + n)) ∧ (∀ j, j < n → μ' 8 (len + j) = tByte e j) ∧ ∀ j, (j < len ∨ len + n ≤ j) → μ' 8 j = μ 8 j) := by
  refine zmetF (by decide +kernel) rfl (Nat.le_of_ble_eq_true rfl) ?_
  show zX shC σ 0 MX4_take 0 [(0, zr 7), (1, zj e), (3, zi (nI n))] [] μ _
  refine zx_iconst (v := 0) (nn := 1) rfl dX4_take_0 rfl ?_
  refine zx_istore (nn := 3) (lv' := [(4, zi 0), (0, zr 7), (1, zj e), (3, zi (nI n))]) dX4_take_1 (by decide) rfl rfl ?_
  refine zx_lv (lv' := [(0, zr 7), (1, zj e), (3, zi (nI n)), (4, zi 0)]) [1, 2, 3, 0] rfl ?_
  refine zx_while (τ := Nat × zM) (fun t_ => n - t_.1) (fun t_ => t_.1 ≤ n ∧ fF [8] 5 μ t_.2 (nI (len + t_.1)) ∧ (∀ j, j < t_.1 → t_.2 8 (len + j) = tByte e j) ∧ ∀ j, (j < len ∨ len + t_.1 ≤ j) → t_.2 8 j = μ 8 j) (fun t_ => [(0, zr 7), (1, zj e), (3, zi (nI n)), (4, zi (nI t_.1))]) (fun t_ => t_.2) (t0 := (0, μ)) (show 0 ≤ n ∧ fF [8] 5 μ μ (nI (len + 0)) ∧ (∀ j, j < 0 → μ 8 (len + j) = tByte e j) ∧ ∀ j, (j < len ∨ len + 0 ≤ j) → μ 8 j = μ 8 j from ⟨Nat.zero_le _, ⟨zJ.rf, fun _ _ => rfl, hl⟩, fun j h => absurd h (by omega), fun _ _ => rfl⟩) ?_
  rintro ⟨i, μ1⟩ hI ih3
  replace hI : i ≤ n ∧ fF [8] 5 μ μ1 (nI (len + i)) ∧ (∀ j, j < i → μ1 8 (len + j) = tByte e j) ∧ ∀ j, (j < len ∨ len + i ≤ j) → μ1 8 j = μ 8 j := hI
  show zX shC σ 0 MX4_take 3 [(0, zr 7), (1, zj e), (3, zi (nI n)), (4, zi (nI i))] [] μ1 _
  obtain ⟨hi, hf, h8, h8'⟩ := hI
  refine zx_iload (k := 3) (nn := 5) dX4_take_3 rfl rfl ?_
  refine zx_iload_n (k := 2) (nn := 6) dX4_take_5 rfl rfl rfl ?_
  refine zx_icmp_ge (tgt := 56) (nn := 9) dX4_take_6 (by decide) rfl (fun h6 => ?_) (fun h6 => ?_)
  · refine zx_aload_n (k := 0) (nn := 57) dX4_take_56 rfl rfl rfl ?_
    refine zx_getI (nn := 60) flX4_31 rfl rfl dX4_take_57 rfl ?_
    rw [show μ1 7 5 = nI (len + i) from hf.2.2]
    show zX shC σ 0 MX4_take 60 [(0, zr 7), (1, zj e), (3, zi (nI n)), (4, zi (nI i))] [zi (nI (len + i))] μ1 _
    refine zx_iret rfl dX4_take_60 ?_
    have hge := nI_le_le h6 (by omega)
    obtain rfl : i = n := by omega
    exact ⟨rfl, hf, h8, h8'⟩
  · have hlt : i < n := nI_nle_lt h6 (by omega)
    refine zx_aload_n (k := 0) (nn := 10) dX4_take_9 rfl rfl rfl ?_
    refine zx_getI (nn := 13) flX4_31 rfl rfl dX4_take_10 rfl ?_
    rw [show μ1 7 5 = nI (len + i) from hf.2.2]
    show zX shC σ 0 MX4_take 13 [(0, zr 7), (1, zj e), (3, zi (nI n)), (4, zi (nI i))] [zi (nI (len + i))] μ1 _
    refine zx_sipush (v := 200) (nn := 16) rfl dX4_take_13 rfl ?_
    refine zx_icmp_ge (tgt := 56) (nn := 19) dX4_take_16 (by decide) rfl (fun h16 => ?_) (fun h16 => ?_)
    · exact absurd (nI_le_le (b := 200) (a := len + i) h16 (by omega)) (by omega)
    · refine zx_aload_n (k := 0) (nn := 20) dX4_take_19 rfl rfl rfl ?_
      refine zx_getR (q := 8) (nn := 23) flX4_11 rfl rfl dX4_take_20 rfl ?_
      refine zx_aload_n (k := 0) (nn := 24) dX4_take_23 rfl rfl rfl ?_
      refine zx_getI (nn := 27) flX4_31 rfl rfl dX4_take_24 rfl ?_
      rw [show μ1 7 5 = nI (len + i) from hf.2.2]
      show zX shC σ 0 MX4_take 27 [(0, zr 7), (1, zj e), (3, zi (nI n)), (4, zi (nI i))] [zi (nI (len + i)), zr 8] μ1 _
      refine zx_lload_n (k := 1) (nn := 28) dX4_take_27 rfl rfl rfl ?_
      refine zx_bipush (v := 8) (nn := 30) rfl dX4_take_28 rfl ?_
      refine zx_iload (k := 3) (nn := 32) dX4_take_30 rfl rfl ?_
      refine zx_imul (nn := 33) dX4_take_32 rfl ?_
      refine zx_lushr (v := zlushr e (8 * (nI i))) (nn := 34) rfl dX4_take_33 rfl ?_
      refine zx_l2i (nn := 35) dX4_take_34 rfl ?_
      refine zx_sipush (v := 255) (nn := 38) rfl dX4_take_35 rfl ?_
      refine zx_iand (nn := 39) dX4_take_38 rfl ?_
      refine zx_iast_n (j := len + i) (nn := 40) rfl (by omega) (by decide) dX4_take_39 rfl ?_
      refine zx_aload_n (k := 0) (nn := 41) dX4_take_40 rfl rfl rfl ?_
      refine zx_dupr (nn := 42) dX4_take_41 rfl ?_
      refine zx_getI (nn := 45) flX4_31 rfl rfl dX4_take_42 rfl ?_
      show zX shC σ 0 MX4_take 45 [(0, zr 7), (1, zj e), (3, zi (nI n)), (4, zi (nI i))] [zi (μ1 7 5), zr 7] (zp μ1 8 (len + i) (((zlushr e (8 * (nI i))).toInt32) &&& 255)) _
      rw [show μ1 7 5 = nI (len + i) from hf.2.2]
      show zX shC σ 0 MX4_take 45 [(0, zr 7), (1, zj e), (3, zi (nI n)), (4, zi (nI i))] [zi (nI (len + i)), zr 7] (zp μ1 8 (len + i) (((zlushr e (8 * (nI i))).toInt32) &&& 255)) _
      refine zx_iconst (v := 1) (nn := 46) rfl dX4_take_45 rfl ?_
      refine zx_iadd (nn := 47) dX4_take_46 rfl ?_
      rw [show (nI (len + i)) + 1 = nI (len + i + 1) from nI_1 _]
      show zX shC σ 0 MX4_take 47 [(0, zr 7), (1, zj e), (3, zi (nI n)), (4, zi (nI i))] [zi (nI (len + i + 1)), zr 7] (zp μ1 8 (len + i) (((zlushr e (8 * (nI i))).toInt32) &&& 255)) _
      refine zx_putI (nn := 50) fpX4_31 rfl rfl rfl rfl dX4_take_47 rfl ?_
      refine zx_iinc (k := 3) (v := nI (i + 1)) (lv' := [(4, zi (nI (i + 1))), (0, zr 7), (1, zj e), (3, zi (nI n))]) (nn := 53) dX4_take_50 rfl (nI_1 i) (by decide) rfl rfl ?_
      refine zx_goto (tgt := 3) dX4_take_53 (by decide) ?_
      refine zx_lv (lv' := [(0, zr 7), (1, zj e), (3, zi (nI n)), (4, zi (nI (i + 1)))]) [1, 2, 3, 0] rfl ?_
      exact ih3 (i + 1, zp (zp μ1 8 (len + i) (((zlushr e (8 * (nI i))).toInt32) &&& 255)) 7 5 (nI (len + i + 1))) (show (i + 1) ≤ n ∧ fF [8] 5 μ (zp (zp μ1 8 (len + i) (((zlushr e (8 * (nI i))).toInt32) &&& 255)) 7 5 (nI (len + i + 1))) (nI (len + (i + 1))) ∧ (∀ j, j < (i + 1) → (zp (zp μ1 8 (len + i) (((zlushr e (8 * (nI i))).toInt32) &&& 255)) 7 5 (nI (len + i + 1))) 8 (len + j) = tByte e j) ∧ ∀ j, (j < len ∨ len + (i + 1) ≤ j) → (zp (zp μ1 8 (len + i) (((zlushr e (8 * (nI i))).toInt32) &&& 255)) 7 5 (nI (len + i + 1))) 8 j = μ 8 j from ⟨by omega, (hf.oth (by simp) (by decide)).step, fun j hj => by
            rw [zp_ne (by decide), zp_eq]
            exact (Decidable.em (j = i)).elim (fun e => by subst e; exact pk_us) (fun e => by rw [pk_un (by omega)]; exact h8 j (by omega)), fun j hj => by
            rw [zp_ne (by decide), zp_eq, pk_un (by omega)]
            exact h8' j (by omega)⟩) (by show n - (i + 1) < n - i; omega)
set_option maxHeartbeats 4000000 in
set_option maxRecDepth 100000 in
theorem eX4_scanToken_7 (σ : zG) (μ : zM) (c : Nat) (q len : Nat) (hat : μ 7 6 = nI q) (hl : μ 7 5 = nI len) (hlen : len ≤ 200) (hq : q < len) (hc : c < 201) (h0 : μ 10 c = 0) : zMet shC σ 6 MX4_scanToken yX4_scanToken [zr 7, zi (nI c)] μ (fun rr μ' => rr = some (zi ((tTok (μ 8) len q).1)) ∧ fF [10] 6 μ μ' (nI (tTok (μ 8) len q).2.2) ∧ μ' 10 c = (tTok (μ 8) len q).2.1 ∧ ∀ j, j ≠ c → μ' 10 j = μ 10 j) := by
  refine zmetF (by decide +kernel) rfl (Nat.le_of_ble_eq_true rfl) ?_
  show zX shC σ 6 MX4_scanToken 0 [(0, zr 7), (1, zi (nI c))] [] μ _
  refine zx_aload_n (k := 0) (nn := 1) dX4_scanToken_0 rfl rfl rfl ?_
  refine zx_getI (nn := 4) flX4_77 rfl rfl dX4_scanToken_1 rfl ?_
  rw [show μ 7 6 = nI q from hat]
  show zX shC σ 6 MX4_scanToken 4 [(0, zr 7), (1, zi (nI c))] [zi (nI q)] μ _
  refine zx_istore_n (nn := 5) (lv' := [(2, zi (nI q)), (0, zr 7), (1, zi (nI c))]) dX4_scanToken_4 rfl (by decide) rfl rfl ?_
  refine zx_aload_n (k := 1) (nn := 6) dX4_scanToken_5 rfl rfl rfl ?_
  refine zx_getR (q := 8) (nn := 9) flX4_11 rfl rfl dX4_scanToken_6 rfl ?_
  refine zx_aload_n (k := 1) (nn := 10) dX4_scanToken_9 rfl rfl rfl ?_
  refine zx_getI (nn := 13) flX4_77 rfl rfl dX4_scanToken_10 rfl ?_
  rw [show μ 7 6 = nI q from hat]
  show zX shC σ 6 MX4_scanToken 13 [(2, zi (nI q)), (0, zr 7), (1, zi (nI c))] [zi (nI q), zr 8] μ _
  refine zx_iald_n (j := q) (nn := 14) rfl (by omega) (by decide) dX4_scanToken_13 rfl ?_
  refine zx_callSf (nn := 17) (d' := 0) (as := [zi (μ 8 q)]) (rest := []) (n := 1) (eX4_isLetter σ μ (μ 8 q)  ) kX4_isLetter mlX4_84 (by decide) rfl rfl (Nat.le_of_ble_eq_true rfl) dX4_scanToken_14 rfl ?_
  show zX shC σ 6 MX4_scanToken 17 [(2, zi (nI q)), (0, zr 7), (1, zi (nI c))] [zi (zb (tL (μ 8 q)))] μ _
  refine zx_ifb_eq (tgt := 65) (nn := 20) dX4_scanToken_17 (by decide) rfl (fun h17 => ?_) (fun h17 => ?_)
  · refine zx_aload_n (k := 1) (nn := 66) dX4_scanToken_65 rfl rfl rfl ?_
    refine zx_getR (q := 8) (nn := 69) flX4_11 rfl rfl dX4_scanToken_66 rfl ?_
    refine zx_aload_n (k := 1) (nn := 70) dX4_scanToken_69 rfl rfl rfl ?_
    refine zx_getI (nn := 73) flX4_77 rfl rfl dX4_scanToken_70 rfl ?_
    rw [show μ 7 6 = nI q from hat]
    show zX shC σ 6 MX4_scanToken 73 [(2, zi (nI q)), (0, zr 7), (1, zi (nI c))] [zi (nI q), zr 8] μ _
    refine zx_iald_n (j := q) (nn := 74) rfl (by omega) (by decide) dX4_scanToken_73 rfl ?_
    refine zx_callSf (nn := 77) (d' := 0) (as := [zi (μ 8 q)]) (rest := []) (n := 1) (eX4_isDigit σ μ (μ 8 q)  ) kX4_isDigit mlX4_90 (by decide) rfl rfl (Nat.le_of_ble_eq_true rfl) dX4_scanToken_74 rfl ?_
    show zX shC σ 6 MX4_scanToken 77 [(2, zi (nI q)), (0, zr 7), (1, zi (nI c))] [zi (zb (tD (μ 8 q)))] μ _
    refine zx_ifb_ne (tgt := 97) (nn := 80) dX4_scanToken_77 (by decide) rfl (fun h77 => ?_) (fun h77 => ?_)
    · refine zx_lv (lv' := [(0, zr 7), (1, zi (nI c)), (2, zi (nI q))]) [1, 2, 0] rfl ?_
      refine zx_while (τ := Nat × zM) (fun t_ => len - t_.1) (fun t_ => (q ≤ t_.1 ∧ t_.1 ≤ len) ∧ tRun tD (μ 8) (len - q) q = tRun tD (μ 8) (len - t_.1) t_.1 ∧ fF [10] 6 μ t_.2 (nI t_.1) ∧ t_.2 10 c = tVal (μ 8) q (t_.1 - q) ∧ ∀ j, j ≠ c → t_.2 10 j = μ 10 j) (fun t_ => [(0, zr 7), (1, zi (nI c)), (2, zi (nI q))]) (fun t_ => t_.2) (t0 := (q, μ)) (show (q ≤ q ∧ q ≤ len) ∧ tRun tD (μ 8) (len - q) q = tRun tD (μ 8) (len - q) q ∧ fF [10] 6 μ μ (nI q) ∧ μ 10 c = tVal (μ 8) q (q - q) ∧ ∀ j, j ≠ c → μ 10 j = μ 10 j from ⟨⟨Nat.le_refl _, by omega⟩, rfl, ⟨zJ.rf, fun _ _ => rfl, hat⟩, (by rw [Nat.sub_self]; exact h0), fun _ _ => rfl⟩) ?_
      rintro ⟨p, μ1⟩ hI ih97
      replace hI : (q ≤ p ∧ p ≤ len) ∧ tRun tD (μ 8) (len - q) q = tRun tD (μ 8) (len - p) p ∧ fF [10] 6 μ μ1 (nI p) ∧ μ1 10 c = tVal (μ 8) q (p - q) ∧ ∀ j, j ≠ c → μ1 10 j = μ 10 j := hI
      show zX shC σ 6 MX4_scanToken 97 [(0, zr 7), (1, zi (nI c)), (2, zi (nI q))] [] μ1 _
      obtain ⟨hp, hr, hf, hv, ho⟩ := hI
      have e8 : μ1 8 = μ 8 := hf.1 8 (by decide)
      have e5 : μ1 7 5 = nI len := (hf.2.1 5 (by decide)).trans hl
      refine zx_aload_n (k := 0) (nn := 98) dX4_scanToken_97 rfl rfl rfl ?_
      refine zx_getI (nn := 101) flX4_77 rfl rfl dX4_scanToken_98 rfl ?_
      rw [show μ1 7 6 = nI p from hf.2.2]
      show zX shC σ 6 MX4_scanToken 101 [(0, zr 7), (1, zi (nI c)), (2, zi (nI q))] [zi (nI p)] μ1 _
      refine zx_aload_n (k := 0) (nn := 102) dX4_scanToken_101 rfl rfl rfl ?_
      refine zx_getI (nn := 105) flX4_31 rfl rfl dX4_scanToken_102 rfl ?_
      rw [show μ1 7 5 = nI len from e5]
      show zX shC σ 6 MX4_scanToken 105 [(0, zr 7), (1, zi (nI c)), (2, zi (nI q))] [zi (nI len), zi (nI p)] μ1 _
      refine zx_icmp_ge (tgt := 174) (nn := 108) dX4_scanToken_105 (by decide) rfl (fun h105 => ?_) (fun h105 => ?_)
      · refine zx_aload_n (k := 0) (nn := 175) dX4_scanToken_174 rfl rfl rfl ?_
        refine zx_getI (nn := 178) flX4_77 rfl rfl dX4_scanToken_175 rfl ?_
        rw [show μ1 7 6 = nI p from hf.2.2]
        show zX shC σ 6 MX4_scanToken 178 [(0, zr 7), (1, zi (nI c)), (2, zi (nI q))] [zi (nI p)] μ1 _
        refine zx_iload_n (k := 2) (nn := 179) dX4_scanToken_178 rfl rfl rfl ?_
        refine zx_isub (nn := 180) dX4_scanToken_179 rfl ?_
        rw [show (nI p) - (nI q) = nI (p - q) from nI_subN hp.1]
        show zX shC σ 6 MX4_scanToken 180 [(0, zr 7), (1, zi (nI c)), (2, zi (nI q))] [zi (nI (p - q))] μ1 _
        refine zx_iconst (v := 4) (nn := 181) rfl dX4_scanToken_180 rfl ?_
        refine zx_icmp_le (tgt := 189) (nn := 184) dX4_scanToken_181 (by decide) rfl (fun h181 => ?_) (fun h181 => ?_)
        · refine zx_bipush (v := -2) (nn := 191) rfl dX4_scanToken_189 rfl ?_
          refine zx_iret rfl dX4_scanToken_191 ?_
          have hge := nI_le_le h105 (by omega)
          have he : tRun tD (μ 8) (len - q) q = p := by rw [hr]; exact tRun_0 (Or.inl hge)
          have ht : tTok (μ 8) len q = (-2, tVal (μ 8) q (p - q), p) := by unfold tTok; rw [if_neg (by omega), if_neg (by rw [h17]; decide), if_pos h77, he, if_neg (fun z => absurd (nI_le_le (b := p - q) (a := 4) h181 (by omega)) (by omega))]
          rw [ht]
          exact ⟨rfl, hf, hv, ho⟩
        · refine zx_bipush (v := -3) (nn := 186) rfl dX4_scanToken_184 rfl ?_
          refine zx_goto (tgt := 191) dX4_scanToken_186 (by decide) ?_
          refine zx_iret rfl dX4_scanToken_191 ?_
          have hge := nI_le_le h105 (by omega)
          have he : tRun tD (μ 8) (len - q) q = p := by rw [hr]; exact tRun_0 (Or.inl hge)
          have ht : tTok (μ 8) len q = (-3, tVal (μ 8) q (p - q), p) := by unfold tTok; rw [if_neg (by omega), if_neg (by rw [h17]; decide), if_pos h77, he, if_pos (nI_nle_lt (b := p - q) (a := 4) h181 (by omega))]
          rw [ht]
          exact ⟨rfl, hf, hv, ho⟩
      · have hlt : p < len := nI_nle_lt h105 (by omega)
        refine zx_aload_n (k := 0) (nn := 109) dX4_scanToken_108 rfl rfl rfl ?_
        refine zx_getR (q := 8) (nn := 112) flX4_11 rfl rfl dX4_scanToken_109 rfl ?_
        refine zx_aload_n (k := 0) (nn := 113) dX4_scanToken_112 rfl rfl rfl ?_
        refine zx_getI (nn := 116) flX4_77 rfl rfl dX4_scanToken_113 rfl ?_
        rw [show μ1 7 6 = nI p from hf.2.2]
        show zX shC σ 6 MX4_scanToken 116 [(0, zr 7), (1, zi (nI c)), (2, zi (nI q))] [zi (nI p), zr 8] μ1 _
        refine zx_iald_n (j := p) (nn := 117) rfl (by omega) (by decide) dX4_scanToken_116 rfl ?_
        rw [show μ1 8 p = μ 8 p from by rw [e8]]
        show zX shC σ 6 MX4_scanToken 117 [(0, zr 7), (1, zi (nI c)), (2, zi (nI q))] [zi (μ 8 p)] μ1 _
        refine zx_callSf (nn := 120) (d' := 0) (as := [zi (μ 8 p)]) (rest := []) (n := 1) (eX4_isDigit σ μ1 (μ 8 p)  ) kX4_isDigit mlX4_90 (by decide) rfl rfl (Nat.le_of_ble_eq_true rfl) dX4_scanToken_117 rfl ?_
        show zX shC σ 6 MX4_scanToken 120 [(0, zr 7), (1, zi (nI c)), (2, zi (nI q))] [zi (zb (tD (μ 8 p)))] μ1 _
        refine zx_ifb_eq (tgt := 174) (nn := 123) dX4_scanToken_120 (by decide) rfl (fun h120 => ?_) (fun h120 => ?_)
        · refine zx_aload_n (k := 0) (nn := 175) dX4_scanToken_174 rfl rfl rfl ?_
          refine zx_getI (nn := 178) flX4_77 rfl rfl dX4_scanToken_175 rfl ?_
          rw [show μ1 7 6 = nI p from hf.2.2]
          show zX shC σ 6 MX4_scanToken 178 [(0, zr 7), (1, zi (nI c)), (2, zi (nI q))] [zi (nI p)] μ1 _
          refine zx_iload_n (k := 2) (nn := 179) dX4_scanToken_178 rfl rfl rfl ?_
          refine zx_isub (nn := 180) dX4_scanToken_179 rfl ?_
          rw [show (nI p) - (nI q) = nI (p - q) from nI_subN hp.1]
          show zX shC σ 6 MX4_scanToken 180 [(0, zr 7), (1, zi (nI c)), (2, zi (nI q))] [zi (nI (p - q))] μ1 _
          refine zx_iconst (v := 4) (nn := 181) rfl dX4_scanToken_180 rfl ?_
          refine zx_icmp_le (tgt := 189) (nn := 184) dX4_scanToken_181 (by decide) rfl (fun h181 => ?_) (fun h181 => ?_)
          · refine zx_bipush (v := -2) (nn := 191) rfl dX4_scanToken_189 rfl ?_
            refine zx_iret rfl dX4_scanToken_191 ?_
            have he : tRun tD (μ 8) (len - q) q = p := by rw [hr]; exact tRun_0 (Or.inr h120)
            have ht : tTok (μ 8) len q = (-2, tVal (μ 8) q (p - q), p) := by unfold tTok; rw [if_neg (by omega), if_neg (by rw [h17]; decide), if_pos h77, he, if_neg (fun z => absurd (nI_le_le (b := p - q) (a := 4) h181 (by omega)) (by omega))]
            rw [ht]
            exact ⟨rfl, hf, hv, ho⟩
          · refine zx_bipush (v := -3) (nn := 186) rfl dX4_scanToken_184 rfl ?_
            refine zx_goto (tgt := 191) dX4_scanToken_186 (by decide) ?_
            refine zx_iret rfl dX4_scanToken_191 ?_
            have he : tRun tD (μ 8) (len - q) q = p := by rw [hr]; exact tRun_0 (Or.inr h120)
            have ht : tTok (μ 8) len q = (-3, tVal (μ 8) q (p - q), p) := by unfold tTok; rw [if_neg (by omega), if_neg (by rw [h17]; decide), if_pos h77, he, if_pos (nI_nle_lt (b := p - q) (a := 4) h181 (by omega))]
            rw [ht]
            exact ⟨rfl, hf, hv, ho⟩
        · refine zx_aload_n (k := 0) (nn := 124) dX4_scanToken_123 rfl rfl rfl ?_
          refine zx_getI (nn := 127) flX4_77 rfl rfl dX4_scanToken_124 rfl ?_
          rw [show μ1 7 6 = nI p from hf.2.2]
          show zX shC σ 6 MX4_scanToken 127 [(0, zr 7), (1, zi (nI c)), (2, zi (nI q))] [zi (nI p)] μ1 _
          refine zx_iload_n (k := 2) (nn := 128) dX4_scanToken_127 rfl rfl rfl ?_
          refine zx_isub (nn := 129) dX4_scanToken_128 rfl ?_
          rw [show (nI p) - (nI q) = nI (p - q) from nI_subN hp.1]
          show zX shC σ 6 MX4_scanToken 129 [(0, zr 7), (1, zi (nI c)), (2, zi (nI q))] [zi (nI (p - q))] μ1 _
          refine zx_iconst (v := 4) (nn := 130) rfl dX4_scanToken_129 rfl ?_
          refine zx_icmp_ge (tgt := 161) (nn := 133) dX4_scanToken_130 (by decide) rfl (fun h130 => ?_) (fun h130 => ?_)
          · have h4 : ¬ p - q < 4 := fun z => absurd (nI_le_le (b := 4) (a := p - q) h130 (by omega)) (by omega)
            refine zx_aload_n (k := 0) (nn := 162) dX4_scanToken_161 rfl rfl rfl ?_
            refine zx_dupr (nn := 163) dX4_scanToken_162 rfl ?_
            refine zx_getI (nn := 166) flX4_77 rfl rfl dX4_scanToken_163 rfl ?_
            rw [show μ1 7 6 = nI p from hf.2.2]
            show zX shC σ 6 MX4_scanToken 166 [(0, zr 7), (1, zi (nI c)), (2, zi (nI q))] [zi (nI p), zr 7] μ1 _
            refine zx_iconst (v := 1) (nn := 167) rfl dX4_scanToken_166 rfl ?_
            refine zx_iadd (nn := 168) dX4_scanToken_167 rfl ?_
            rw [show (nI p) + 1 = nI (p + 1) from nI_1 _]
            show zX shC σ 6 MX4_scanToken 168 [(0, zr 7), (1, zi (nI c)), (2, zi (nI q))] [zi (nI (p + 1)), zr 7] μ1 _
            refine zx_putI (nn := 171) fpX4_77 rfl rfl rfl rfl dX4_scanToken_168 rfl ?_
            refine zx_goto (tgt := 97) dX4_scanToken_171 (by decide) ?_
            refine zx_lv (lv' := [(0, zr 7), (1, zi (nI c)), (2, zi (nI q))]) [0, 1, 2] rfl ?_
            exact ih97 (p + 1, zp μ1 7 6 (nI (p + 1))) (show (q ≤ (p + 1) ∧ (p + 1) ≤ len) ∧ tRun tD (μ 8) (len - q) q = tRun tD (μ 8) (len - (p + 1)) (p + 1) ∧ fF [10] 6 μ (zp μ1 7 6 (nI (p + 1))) (nI (p + 1)) ∧ (zp μ1 7 6 (nI (p + 1))) 10 c = tVal (μ 8) q ((p + 1) - q) ∧ ∀ j, j ≠ c → (zp μ1 7 6 (nI (p + 1))) 10 j = μ 10 j from ⟨by omega, by rw [hr, tRun_s hlt h120], hf.step, by rw [zp_ne (by decide), hv, show p + 1 - q = (p - q) + 1 by omega]; show _ = (if _ then _ else _); rw [if_neg (fun z => h4 z)], fun j hj => by rw [zp_ne (by decide)]; exact ho j hj⟩) (by show len - (p + 1) < len - p; omega)
          · have h4 : p - q < 4 := nI_nle_lt (b := 4) h130 (by omega)
            refine zx_aload_n (k := 0) (nn := 134) dX4_scanToken_133 rfl rfl rfl ?_
            refine zx_getR (q := 10) (nn := 137) flX4_18 rfl rfl dX4_scanToken_134 rfl ?_
            refine zx_iload_n (k := 1) (nn := 138) dX4_scanToken_137 rfl rfl rfl ?_
            refine zx_aload_n (k := 0) (nn := 139) dX4_scanToken_138 rfl rfl rfl ?_
            refine zx_getR (q := 10) (nn := 142) flX4_18 rfl rfl dX4_scanToken_139 rfl ?_
            refine zx_iload_n (k := 1) (nn := 143) dX4_scanToken_142 rfl rfl rfl ?_
            refine zx_iald_n (j := c) (nn := 144) rfl (by omega) (by decide) dX4_scanToken_143 rfl ?_
            rw [show μ1 10 c = tVal (μ 8) q (p - q) from hv]
            show zX shC σ 6 MX4_scanToken 144 [(0, zr 7), (1, zi (nI c)), (2, zi (nI q))] [zi (tVal (μ 8) q (p - q)), zi (nI c), zr 10] μ1 _
            refine zx_bipush (v := 10) (nn := 146) rfl dX4_scanToken_144 rfl ?_
            refine zx_imul (nn := 147) dX4_scanToken_146 rfl ?_
            refine zx_aload_n (k := 0) (nn := 148) dX4_scanToken_147 rfl rfl rfl ?_
            refine zx_getR (q := 8) (nn := 151) flX4_11 rfl rfl dX4_scanToken_148 rfl ?_
            refine zx_aload_n (k := 0) (nn := 152) dX4_scanToken_151 rfl rfl rfl ?_
            refine zx_getI (nn := 155) flX4_77 rfl rfl dX4_scanToken_152 rfl ?_
            rw [show μ1 7 6 = nI p from hf.2.2]
            show zX shC σ 6 MX4_scanToken 155 [(0, zr 7), (1, zi (nI c)), (2, zi (nI q))] [zi (nI p), zr 8, zi ((tVal (μ 8) q (p - q)) * 10), zi (nI c), zr 10] μ1 _
            refine zx_iald_n (j := p) (nn := 156) rfl (by omega) (by decide) dX4_scanToken_155 rfl ?_
            rw [show μ1 8 p = μ 8 p from by rw [e8]]
            show zX shC σ 6 MX4_scanToken 156 [(0, zr 7), (1, zi (nI c)), (2, zi (nI q))] [zi (μ 8 p), zi ((tVal (μ 8) q (p - q)) * 10), zi (nI c), zr 10] μ1 _
            refine zx_iadd (nn := 157) dX4_scanToken_156 rfl ?_
            refine zx_bipush (v := 48) (nn := 159) rfl dX4_scanToken_157 rfl ?_
            refine zx_isub (nn := 160) dX4_scanToken_159 rfl ?_
            refine zx_iast_n (j := c) (nn := 161) rfl (by omega) (by decide) dX4_scanToken_160 rfl ?_
            refine zx_aload_n (k := 0) (nn := 162) dX4_scanToken_161 rfl rfl rfl ?_
            refine zx_dupr (nn := 163) dX4_scanToken_162 rfl ?_
            refine zx_getI (nn := 166) flX4_77 rfl rfl dX4_scanToken_163 rfl ?_
            show zX shC σ 6 MX4_scanToken 166 [(0, zr 7), (1, zi (nI c)), (2, zi (nI q))] [zi (μ1 7 6), zr 7] (zp μ1 10 c ((((tVal (μ 8) q (p - q)) * 10) + (μ 8 p)) - 48)) _
            rw [show μ1 7 6 = nI p from hf.2.2]
            show zX shC σ 6 MX4_scanToken 166 [(0, zr 7), (1, zi (nI c)), (2, zi (nI q))] [zi (nI p), zr 7] (zp μ1 10 c ((((tVal (μ 8) q (p - q)) * 10) + (μ 8 p)) - 48)) _
            refine zx_iconst (v := 1) (nn := 167) rfl dX4_scanToken_166 rfl ?_
            refine zx_iadd (nn := 168) dX4_scanToken_167 rfl ?_
            rw [show (nI p) + 1 = nI (p + 1) from nI_1 _]
            show zX shC σ 6 MX4_scanToken 168 [(0, zr 7), (1, zi (nI c)), (2, zi (nI q))] [zi (nI (p + 1)), zr 7] (zp μ1 10 c ((((tVal (μ 8) q (p - q)) * 10) + (μ 8 p)) - 48)) _
            refine zx_putI (nn := 171) fpX4_77 rfl rfl rfl rfl dX4_scanToken_168 rfl ?_
            refine zx_goto (tgt := 97) dX4_scanToken_171 (by decide) ?_
            refine zx_lv (lv' := [(0, zr 7), (1, zi (nI c)), (2, zi (nI q))]) [0, 1, 2] rfl ?_
            exact ih97 (p + 1, zp (zp μ1 10 c ((((tVal (μ 8) q (p - q)) * 10) + (μ 8 p)) - 48)) 7 6 (nI (p + 1))) (show (q ≤ (p + 1) ∧ (p + 1) ≤ len) ∧ tRun tD (μ 8) (len - q) q = tRun tD (μ 8) (len - (p + 1)) (p + 1) ∧ fF [10] 6 μ (zp (zp μ1 10 c ((((tVal (μ 8) q (p - q)) * 10) + (μ 8 p)) - 48)) 7 6 (nI (p + 1))) (nI (p + 1)) ∧ (zp (zp μ1 10 c ((((tVal (μ 8) q (p - q)) * 10) + (μ 8 p)) - 48)) 7 6 (nI (p + 1))) 10 c = tVal (μ 8) q ((p + 1) - q) ∧ ∀ j, j ≠ c → (zp (zp μ1 10 c ((((tVal (μ 8) q (p - q)) * 10) + (μ 8 p)) - 48)) 7 6 (nI (p + 1))) 10 j = μ 10 j from ⟨by omega, by rw [hr, tRun_s hlt h120], (hf.oth (by simp) (by decide)).step, by rw [zp_ne (by decide), zp_eq, pk_us, show p + 1 - q = (p - q) + 1 by omega]; show _ = (if _ then _ else _); rw [if_pos h4, show q + (p - q) = p by omega], fun j hj => by rw [zp_ne (by decide), zp_eq, pk_un hj]; exact ho j hj⟩) (by show len - (p + 1) < len - p; omega)
    · refine zx_aload_n (k := 1) (nn := 81) dX4_scanToken_80 rfl rfl rfl ?_
      refine zx_dupr (nn := 82) dX4_scanToken_81 rfl ?_
      refine zx_getI (nn := 85) flX4_77 rfl rfl dX4_scanToken_82 rfl ?_
      rw [show μ 7 6 = nI q from hat]
      show zX shC σ 6 MX4_scanToken 85 [(2, zi (nI q)), (0, zr 7), (1, zi (nI c))] [zi (nI q), zr 7] μ _
      refine zx_iconst (v := 1) (nn := 86) rfl dX4_scanToken_85 rfl ?_
      refine zx_iadd (nn := 87) dX4_scanToken_86 rfl ?_
      rw [show (nI q) + 1 = nI (q + 1) from nI_1 _]
      show zX shC σ 6 MX4_scanToken 87 [(2, zi (nI q)), (0, zr 7), (1, zi (nI c))] [zi (nI (q + 1)), zr 7] μ _
      refine zx_putI (nn := 90) fpX4_77 rfl rfl rfl rfl dX4_scanToken_87 rfl ?_
      refine zx_aload_n (k := 1) (nn := 91) dX4_scanToken_90 rfl rfl rfl ?_
      refine zx_getR (q := 8) (nn := 94) flX4_11 rfl rfl dX4_scanToken_91 rfl ?_
      refine zx_iload_n (k := 0) (nn := 95) dX4_scanToken_94 rfl rfl rfl ?_
      refine zx_iald_n (j := q) (nn := 96) rfl (by omega) (by decide) dX4_scanToken_95 rfl ?_
      show zX shC σ 6 MX4_scanToken 96 [(2, zi (nI q)), (0, zr 7), (1, zi (nI c))] [zi (μ 8 q)] (zp μ 7 6 (nI (q + 1))) _
      refine zx_iret rfl dX4_scanToken_96 ?_
      have ht : tTok (μ 8) len q = (μ 8 q, 0, q + 1) := by unfold tTok; rw [if_neg (by omega), if_neg (by rw [h17]; decide), if_neg (by rw [h77]; decide)]
      rw [ht]
      exact ⟨rfl, ⟨zJ.rf.p (by decide), fun i hi => by rw [zp_eq, pk_un hi], by rw [zp_eq]; exact pk_us⟩, by rw [zp_ne (by decide)]; exact h0, fun j _ => by rw [zp_ne (by decide)]⟩
  · refine zx_lv (lv' := [(0, zr 7), (1, zi (nI c)), (2, zi (nI q))]) [1, 2, 0] rfl ?_
    refine zx_while (τ := Nat × zM) (fun t_ => len - t_.1) (fun t_ => (q ≤ t_.1 ∧ t_.1 ≤ len) ∧ tRun tL (μ 8) (len - q) q = tRun tL (μ 8) (len - t_.1) t_.1 ∧ fF [] 6 μ t_.2 (nI t_.1)) (fun t_ => [(0, zr 7), (1, zi (nI c)), (2, zi (nI q))]) (fun t_ => t_.2) (t0 := (q, μ)) (show (q ≤ q ∧ q ≤ len) ∧ tRun tL (μ 8) (len - q) q = tRun tL (μ 8) (len - q) q ∧ fF [] 6 μ μ (nI q) from ⟨⟨Nat.le_refl _, by omega⟩, rfl, zJ.rf, fun _ _ => rfl, hat⟩) ?_
    rintro ⟨p, μ1⟩ hI ih20
    replace hI : (q ≤ p ∧ p ≤ len) ∧ tRun tL (μ 8) (len - q) q = tRun tL (μ 8) (len - p) p ∧ fF [] 6 μ μ1 (nI p) := hI
    show zX shC σ 6 MX4_scanToken 20 [(0, zr 7), (1, zi (nI c)), (2, zi (nI q))] [] μ1 _
    obtain ⟨hp, hr, hf⟩ := hI
    have e8 : μ1 8 = μ 8 := hf.1 8 (by decide)
    have e5 : μ1 7 5 = nI len := (hf.2.1 5 (by decide)).trans hl
    refine zx_aload_n (k := 0) (nn := 21) dX4_scanToken_20 rfl rfl rfl ?_
    refine zx_getI (nn := 24) flX4_77 rfl rfl dX4_scanToken_21 rfl ?_
    rw [show μ1 7 6 = nI p from hf.2.2]
    show zX shC σ 6 MX4_scanToken 24 [(0, zr 7), (1, zi (nI c)), (2, zi (nI q))] [zi (nI p)] μ1 _
    refine zx_aload_n (k := 0) (nn := 25) dX4_scanToken_24 rfl rfl rfl ?_
    refine zx_getI (nn := 28) flX4_31 rfl rfl dX4_scanToken_25 rfl ?_
    rw [show μ1 7 5 = nI len from e5]
    show zX shC σ 6 MX4_scanToken 28 [(0, zr 7), (1, zi (nI c)), (2, zi (nI q))] [zi (nI len), zi (nI p)] μ1 _
    refine zx_icmp_ge (tgt := 59) (nn := 31) dX4_scanToken_28 (by decide) rfl (fun h28 => ?_) (fun h28 => ?_)
    · refine zx_aload_n (k := 0) (nn := 60) dX4_scanToken_59 rfl rfl rfl ?_
      refine zx_iload_n (k := 2) (nn := 61) dX4_scanToken_60 rfl rfl rfl ?_
      refine zx_callVf (nn := 64) (k := 7) (d' := 5) (as := [zi (nI q)]) (rest := []) (n := 1) (eX4_wordFrom_7 σ μ1 q (p - q) (by rw [hf.2.2, show q + (p - q) = p by omega]) (by omega)) kX4_wordFrom mlX4_87 rfl rfl rfl (by decide) rfl rfl (Nat.le_of_ble_eq_true rfl) dX4_scanToken_61 rfl ?_
      show zX shC σ 6 MX4_scanToken 64 [(0, zr 7), (1, zi (nI c)), (2, zi (nI q))] [zi (tWord (μ1 8) q (p - q))] μ1 _
      refine zx_iret rfl dX4_scanToken_64 ?_
      have hge := nI_le_le h28 (by omega)
      have he : tRun tL (μ 8) (len - q) q = p := by rw [hr]; exact tRun_0 (Or.inl hge)
      have ht : tTok (μ 8) len q = (tWord (μ 8) q (p - q), 0, p) := by unfold tTok; rw [if_neg (by omega), if_pos h17, he]
      rw [ht]
      exact ⟨congrArg (fun x => some (zi x)) (by rw [e8]), ⟨hf.1.mono (by decide), hf.2.1, hf.2.2⟩, by rw [hf.1 10 (by decide)]; exact h0, fun j _ => by rw [hf.1 10 (by decide)]⟩
    · have hlt : p < len := nI_nle_lt h28 (by omega)
      refine zx_aload_n (k := 0) (nn := 32) dX4_scanToken_31 rfl rfl rfl ?_
      refine zx_getR (q := 8) (nn := 35) flX4_11 rfl rfl dX4_scanToken_32 rfl ?_
      refine zx_aload_n (k := 0) (nn := 36) dX4_scanToken_35 rfl rfl rfl ?_
      refine zx_getI (nn := 39) flX4_77 rfl rfl dX4_scanToken_36 rfl ?_
      rw [show μ1 7 6 = nI p from hf.2.2]
      show zX shC σ 6 MX4_scanToken 39 [(0, zr 7), (1, zi (nI c)), (2, zi (nI q))] [zi (nI p), zr 8] μ1 _
      refine zx_iald_n (j := p) (nn := 40) rfl (by omega) (by decide) dX4_scanToken_39 rfl ?_
      rw [show μ1 8 p = μ 8 p from by rw [e8]]
      show zX shC σ 6 MX4_scanToken 40 [(0, zr 7), (1, zi (nI c)), (2, zi (nI q))] [zi (μ 8 p)] μ1 _
      refine zx_callSf (nn := 43) (d' := 0) (as := [zi (μ 8 p)]) (rest := []) (n := 1) (eX4_isLetter σ μ1 (μ 8 p)  ) kX4_isLetter mlX4_84 (by decide) rfl rfl (Nat.le_of_ble_eq_true rfl) dX4_scanToken_40 rfl ?_
      show zX shC σ 6 MX4_scanToken 43 [(0, zr 7), (1, zi (nI c)), (2, zi (nI q))] [zi (zb (tL (μ 8 p)))] μ1 _
      refine zx_ifb_eq (tgt := 59) (nn := 46) dX4_scanToken_43 (by decide) rfl (fun h43 => ?_) (fun h43 => ?_)
      · refine zx_aload_n (k := 0) (nn := 60) dX4_scanToken_59 rfl rfl rfl ?_
        refine zx_iload_n (k := 2) (nn := 61) dX4_scanToken_60 rfl rfl rfl ?_
        refine zx_callVf (nn := 64) (k := 7) (d' := 5) (as := [zi (nI q)]) (rest := []) (n := 1) (eX4_wordFrom_7 σ μ1 q (p - q) (by rw [hf.2.2, show q + (p - q) = p by omega]) (by omega)) kX4_wordFrom mlX4_87 rfl rfl rfl (by decide) rfl rfl (Nat.le_of_ble_eq_true rfl) dX4_scanToken_61 rfl ?_
        show zX shC σ 6 MX4_scanToken 64 [(0, zr 7), (1, zi (nI c)), (2, zi (nI q))] [zi (tWord (μ1 8) q (p - q))] μ1 _
        refine zx_iret rfl dX4_scanToken_64 ?_
        have he : tRun tL (μ 8) (len - q) q = p := by rw [hr]; exact tRun_0 (Or.inr h43)
        have ht : tTok (μ 8) len q = (tWord (μ 8) q (p - q), 0, p) := by unfold tTok; rw [if_neg (by omega), if_pos h17, he]
        rw [ht]
        exact ⟨congrArg (fun x => some (zi x)) (by rw [e8]), ⟨hf.1.mono (by decide), hf.2.1, hf.2.2⟩, by rw [hf.1 10 (by decide)]; exact h0, fun j _ => by rw [hf.1 10 (by decide)]⟩
      · refine zx_aload_n (k := 0) (nn := 47) dX4_scanToken_46 rfl rfl rfl ?_
        refine zx_dupr (nn := 48) dX4_scanToken_47 rfl ?_
        refine zx_getI (nn := 51) flX4_77 rfl rfl dX4_scanToken_48 rfl ?_
        rw [show μ1 7 6 = nI p from hf.2.2]
        show zX shC σ 6 MX4_scanToken 51 [(0, zr 7), (1, zi (nI c)), (2, zi (nI q))] [zi (nI p), zr 7] μ1 _
        refine zx_iconst (v := 1) (nn := 52) rfl dX4_scanToken_51 rfl ?_
        refine zx_iadd (nn := 53) dX4_scanToken_52 rfl ?_
        rw [show (nI p) + 1 = nI (p + 1) from nI_1 _]
        show zX shC σ 6 MX4_scanToken 53 [(0, zr 7), (1, zi (nI c)), (2, zi (nI q))] [zi (nI (p + 1)), zr 7] μ1 _
        refine zx_putI (nn := 56) fpX4_77 rfl rfl rfl rfl dX4_scanToken_53 rfl ?_
        refine zx_goto (tgt := 20) dX4_scanToken_56 (by decide) ?_
        refine zx_lv (lv' := [(0, zr 7), (1, zi (nI c)), (2, zi (nI q))]) [0, 1, 2] rfl ?_
        exact ih20 (p + 1, zp μ1 7 6 (nI (p + 1))) (show (q ≤ (p + 1) ∧ (p + 1) ≤ len) ∧ tRun tL (μ 8) (len - q) q = tRun tL (μ 8) (len - (p + 1)) (p + 1) ∧ fF [] 6 μ (zp μ1 7 6 (nI (p + 1))) (nI (p + 1)) from ⟨by omega, by rw [hr, tRun_s hlt h43], hf.step⟩) (by show len - (p + 1) < len - p; omega)
set_option maxHeartbeats 4000000 in
set_option maxRecDepth 100000 in
theorem eX4_scan_7 (σ : zG) (μ : zM) (len : Nat) (hl : μ 7 5 = nI len) (hlen : len ≤ 200) (hby : ∀ k, k < len → 0 ≤ μ 8 k) : zMet shC σ 7 MX4_scan yX4_scan [zr 7] μ (fun rr μ' => rr = none ∧ (zJ [7, 9, 10, 11] μ μ' ∧ ∀ i, i ≠ 6 → μ' 7 i = μ 7 i) ∧ ∃ c, c ≤ len ∧ tTab μ' (μ 8) len c) := by
  refine zmetF (by decide +kernel) rfl (Nat.le_of_ble_eq_true rfl) ?_
  show zX shC σ 7 MX4_scan 0 [(0, zr 7)] [] μ _
  refine zx_aload_n (k := 0) (nn := 1) dX4_scan_0 rfl rfl rfl ?_
  refine zx_iconst (v := 0) (nn := 2) rfl dX4_scan_1 rfl ?_
  refine zx_putI (nn := 5) fpX4_77 rfl rfl rfl rfl dX4_scan_2 rfl ?_
  refine zx_iconst (v := 0) (nn := 6) rfl dX4_scan_5 rfl ?_
  refine zx_istore_n (nn := 7) (lv' := [(1, zi 0), (0, zr 7)]) dX4_scan_6 rfl (by decide) rfl rfl ?_
  refine zx_iconst (v := 0) (nn := 8) rfl dX4_scan_7 rfl ?_
  refine zx_istore_n (nn := 9) (lv' := [(2, zi 0), (1, zi 0), (0, zr 7)]) dX4_scan_8 rfl (by decide) rfl rfl ?_
  refine zx_lv (lv' := [(0, zr 7), (1, zi 0), (2, zi 0)]) [2, 1, 0] rfl ?_
  refine zx_while (τ := Nat × Nat × Nat × zM) (fun t_ => len - t_.2.1) (fun t_ => (t_.1 ≤ t_.2.1 ∧ t_.2.1 ≤ len ∧ t_.2.2.1 ≤ t_.2.1) ∧ tSk (μ 8) len t_.2.1 = tS (μ 8) len t_.1 ∧ fF [9, 10, 11] 6 μ t_.2.2.2 (nI t_.2.1) ∧ ∀ k, k < t_.1 → t_.2.2.2 9 k = tK (μ 8) len k ∧ t_.2.2.2 10 k = tV (μ 8) len k ∧ t_.2.2.2 11 k = nI (tS (μ 8) len k) ∧ tK (μ 8) len k ≠ -1) (fun t_ => [(0, zr 7), (1, zi (nI t_.1)), (2, zi (nI t_.2.2.1))]) (fun t_ => t_.2.2.2) (t0 := (0, 0, 0, zp μ 7 6 0)) (show (0 ≤ 0 ∧ 0 ≤ len ∧ 0 ≤ 0) ∧ tSk (μ 8) len 0 = tS (μ 8) len 0 ∧ fF [9, 10, 11] 6 μ (zp μ 7 6 0) (nI 0) ∧ ∀ k, k < 0 → (zp μ 7 6 0) 9 k = tK (μ 8) len k ∧ (zp μ 7 6 0) 10 k = tV (μ 8) len k ∧ (zp μ 7 6 0) 11 k = nI (tS (μ 8) len k) ∧ tK (μ 8) len k ≠ -1 from ⟨⟨Nat.le_refl _, Nat.zero_le _, Nat.le_refl _⟩, rfl, ⟨zJ.rf.p (by decide), fun i hi => by rw [zp_eq, pk_un hi], by rw [zp_eq]; exact pk_us⟩, fun k h => absurd h (by omega)⟩) ?_
  rintro ⟨c, p, i, μ1⟩ hI ih9
  replace hI : (c ≤ p ∧ p ≤ len ∧ i ≤ p) ∧ tSk (μ 8) len p = tS (μ 8) len c ∧ fF [9, 10, 11] 6 μ μ1 (nI p) ∧ ∀ k, k < c → μ1 9 k = tK (μ 8) len k ∧ μ1 10 k = tV (μ 8) len k ∧ μ1 11 k = nI (tS (μ 8) len k) ∧ tK (μ 8) len k ≠ -1 := hI
  show zX shC σ 7 MX4_scan 9 [(0, zr 7), (1, zi (nI c)), (2, zi (nI i))] [] μ1 _
  obtain ⟨hcp, hs, hf, ht⟩ := hI
  have e8 : μ1 8 = μ 8 := hf.1 8 (by decide)
  have e5 : μ1 7 5 = nI len := (hf.2.1 5 (by decide)).trans hl
  refine zx_iload_n (k := 2) (nn := 10) dX4_scan_9 rfl rfl rfl ?_
  refine zx_sipush (v := 200) (nn := 13) rfl dX4_scan_10 rfl ?_
  refine zx_icmp_ge (tgt := 91) (nn := 16) dX4_scan_13 (by decide) rfl (fun h13 => ?_) (fun h13 => ?_)
  · refine zx_aload_n (k := 0) (nn := 92) dX4_scan_91 rfl rfl rfl ?_
    refine zx_getR (q := 11) (nn := 95) flX4_21 rfl rfl dX4_scan_92 rfl ?_
    refine zx_iload_n (k := 1) (nn := 96) dX4_scan_95 rfl rfl rfl ?_
    refine zx_aload_n (k := 0) (nn := 97) dX4_scan_96 rfl rfl rfl ?_
    refine zx_getI (nn := 100) flX4_31 rfl rfl dX4_scan_97 rfl ?_
    rw [show μ1 7 5 = nI len from e5]
    show zX shC σ 7 MX4_scan 100 [(0, zr 7), (1, zi (nI c)), (2, zi (nI i))] [zi (nI len), zi (nI c), zr 11] μ1 _
    refine zx_iast_n (j := c) (nn := 101) rfl (by omega) (by decide) dX4_scan_100 rfl ?_
    refine zx_aload_n (k := 0) (nn := 102) dX4_scan_101 rfl rfl rfl ?_
    refine zx_getR (q := 9) (nn := 105) flX4_15 rfl rfl dX4_scan_102 rfl ?_
    refine zx_iload_n (k := 1) (nn := 106) dX4_scan_105 rfl rfl rfl ?_
    refine zx_iconst (v := -1) (nn := 107) rfl dX4_scan_106 rfl ?_
    refine zx_iast_n (j := c) (nn := 108) rfl (by omega) (by decide) dX4_scan_107 rfl ?_
    refine zx_vret rfl dX4_scan_108 ?_
    have hpl : p = len := by have := nI_le_le (b := 200) (a := i) h13 (by omega); omega
    have hS : tS (μ 8) len c = len := by rw [← hs, hpl]; exact tSk_e (Nat.le_refl _)
    refine ⟨rfl, ⟨(hf.1.p (by simp)).p (by simp), fun i hi => ?_⟩, c, by omega, ⟨fun k hk => ?_, ?_, ?_, ?_⟩⟩
    · rw [zp_ne (by decide), zp_ne (by decide)]; exact hf.2.1 i hi
    · rw [zp_eq, pk_un (by omega), zp_ne (show (10 : Nat) ≠ 9 by decide), zp_ne (show (11 : Nat) ≠ 9 by decide), zp_ne (show (9 : Nat) ≠ 11 by decide), zp_ne (show (10 : Nat) ≠ 11 by decide), zp_eq, pk_un (by omega)]; exact ht k hk
    · rw [zp_eq]; exact pk_us
    · unfold tK; rw [hS]; unfold tTok; rw [if_pos (Nat.le_refl _)]
    · rw [zp_ne (by decide), zp_eq, pk_us, hS]
  · refine zx_aload_n (k := 0) (nn := 17) dX4_scan_16 rfl rfl rfl ?_
    refine zx_getI (nn := 20) flX4_77 rfl rfl dX4_scan_17 rfl ?_
    rw [show μ1 7 6 = nI p from hf.2.2]
    show zX shC σ 7 MX4_scan 20 [(0, zr 7), (1, zi (nI c)), (2, zi (nI i))] [zi (nI p)] μ1 _
    refine zx_aload_n (k := 0) (nn := 21) dX4_scan_20 rfl rfl rfl ?_
    refine zx_getI (nn := 24) flX4_31 rfl rfl dX4_scan_21 rfl ?_
    rw [show μ1 7 5 = nI len from e5]
    show zX shC σ 7 MX4_scan 24 [(0, zr 7), (1, zi (nI c)), (2, zi (nI i))] [zi (nI len), zi (nI p)] μ1 _
    refine zx_icmp_ge (tgt := 91) (nn := 27) dX4_scan_24 (by decide) rfl (fun h24 => ?_) (fun h24 => ?_)
    · refine zx_aload_n (k := 0) (nn := 92) dX4_scan_91 rfl rfl rfl ?_
      refine zx_getR (q := 11) (nn := 95) flX4_21 rfl rfl dX4_scan_92 rfl ?_
      refine zx_iload_n (k := 1) (nn := 96) dX4_scan_95 rfl rfl rfl ?_
      refine zx_aload_n (k := 0) (nn := 97) dX4_scan_96 rfl rfl rfl ?_
      refine zx_getI (nn := 100) flX4_31 rfl rfl dX4_scan_97 rfl ?_
      rw [show μ1 7 5 = nI len from e5]
      show zX shC σ 7 MX4_scan 100 [(0, zr 7), (1, zi (nI c)), (2, zi (nI i))] [zi (nI len), zi (nI c), zr 11] μ1 _
      refine zx_iast_n (j := c) (nn := 101) rfl (by omega) (by decide) dX4_scan_100 rfl ?_
      refine zx_aload_n (k := 0) (nn := 102) dX4_scan_101 rfl rfl rfl ?_
      refine zx_getR (q := 9) (nn := 105) flX4_15 rfl rfl dX4_scan_102 rfl ?_
      refine zx_iload_n (k := 1) (nn := 106) dX4_scan_105 rfl rfl rfl ?_
      refine zx_iconst (v := -1) (nn := 107) rfl dX4_scan_106 rfl ?_
      refine zx_iast_n (j := c) (nn := 108) rfl (by omega) (by decide) dX4_scan_107 rfl ?_
      refine zx_vret rfl dX4_scan_108 ?_
      have hpl : p = len := by have := nI_le_le (b := len) (a := p) h24 (by omega); omega
      have hS : tS (μ 8) len c = len := by rw [← hs, hpl]; exact tSk_e (Nat.le_refl _)
      refine ⟨rfl, ⟨(hf.1.p (by simp)).p (by simp), fun i hi => ?_⟩, c, by omega, ⟨fun k hk => ?_, ?_, ?_, ?_⟩⟩
      · rw [zp_ne (by decide), zp_ne (by decide)]; exact hf.2.1 i hi
      · rw [zp_eq, pk_un (by omega), zp_ne (show (10 : Nat) ≠ 9 by decide), zp_ne (show (11 : Nat) ≠ 9 by decide), zp_ne (show (9 : Nat) ≠ 11 by decide), zp_ne (show (10 : Nat) ≠ 11 by decide), zp_eq, pk_un (by omega)]; exact ht k hk
      · rw [zp_eq]; exact pk_us
      · unfold tK; rw [hS]; unfold tTok; rw [if_pos (Nat.le_refl _)]
      · rw [zp_ne (by decide), zp_eq, pk_us, hS]
    · have hlt : p < len := nI_nle_lt h24 (by omega)
      refine zx_aload_n (k := 0) (nn := 28) dX4_scan_27 rfl rfl rfl ?_
      refine zx_getR (q := 8) (nn := 31) flX4_11 rfl rfl dX4_scan_28 rfl ?_
      refine zx_aload_n (k := 0) (nn := 32) dX4_scan_31 rfl rfl rfl ?_
      refine zx_getI (nn := 35) flX4_77 rfl rfl dX4_scan_32 rfl ?_
      rw [show μ1 7 6 = nI p from hf.2.2]
      show zX shC σ 7 MX4_scan 35 [(0, zr 7), (1, zi (nI c)), (2, zi (nI i))] [zi (nI p), zr 8] μ1 _
      refine zx_iald_n (j := p) (nn := 36) rfl (by omega) (by decide) dX4_scan_35 rfl ?_
      rw [show μ1 8 p = μ 8 p from by rw [e8]]
      show zX shC σ 7 MX4_scan 36 [(0, zr 7), (1, zi (nI c)), (2, zi (nI i))] [zi (μ 8 p)] μ1 _
      refine zx_bipush (v := 32) (nn := 38) rfl dX4_scan_36 rfl ?_
      refine zx_icmp_ne (tgt := 54) (nn := 41) dX4_scan_38 (by decide) rfl (fun h38 => ?_) (fun h38 => ?_)
      · refine zx_aload_n (k := 0) (nn := 55) dX4_scan_54 rfl rfl rfl ?_
        refine zx_getR (q := 11) (nn := 58) flX4_21 rfl rfl dX4_scan_55 rfl ?_
        refine zx_iload_n (k := 1) (nn := 59) dX4_scan_58 rfl rfl rfl ?_
        refine zx_aload_n (k := 0) (nn := 60) dX4_scan_59 rfl rfl rfl ?_
        refine zx_getI (nn := 63) flX4_77 rfl rfl dX4_scan_60 rfl ?_
        rw [show μ1 7 6 = nI p from hf.2.2]
        show zX shC σ 7 MX4_scan 63 [(0, zr 7), (1, zi (nI c)), (2, zi (nI i))] [zi (nI p), zi (nI c), zr 11] μ1 _
        refine zx_iast_n (j := c) (nn := 64) rfl (by omega) (by decide) dX4_scan_63 rfl ?_
        refine zx_aload_n (k := 0) (nn := 65) dX4_scan_64 rfl rfl rfl ?_
        refine zx_getR (q := 10) (nn := 68) flX4_18 rfl rfl dX4_scan_65 rfl ?_
        refine zx_iload_n (k := 1) (nn := 69) dX4_scan_68 rfl rfl rfl ?_
        refine zx_iconst (v := 0) (nn := 70) rfl dX4_scan_69 rfl ?_
        refine zx_iast_n (j := c) (nn := 71) rfl (by omega) (by decide) dX4_scan_70 rfl ?_
        refine zx_aload_n (k := 0) (nn := 72) dX4_scan_71 rfl rfl rfl ?_
        refine zx_getR (q := 9) (nn := 75) flX4_15 rfl rfl dX4_scan_72 rfl ?_
        refine zx_iload_n (k := 1) (nn := 76) dX4_scan_75 rfl rfl rfl ?_
        refine zx_aload_n (k := 0) (nn := 77) dX4_scan_76 rfl rfl rfl ?_
        refine zx_iload_n (k := 1) (nn := 78) dX4_scan_77 rfl rfl rfl ?_
        refine zx_callV (nn := 81) (k := 7) (d' := 6) (as := [zi (nI c)]) (rest := [zi (nI c), zr 9]) (n := 1) (eX4_scanToken_7 σ (zp (zp μ1 11 c (nI p)) 10 c 0) c p len (by rw [zp_ne (by decide), zp_ne (by decide)]; exact hf.2.2) (by rw [zp_ne (by decide), zp_ne (by decide)]; exact e5) hlen hlt (by omega) (by rw [zp_eq]; exact pk_us)) kX4_scanToken mlX4_80 rfl rfl rfl (by decide) rfl rfl (Nat.le_of_ble_eq_true rfl) dX4_scan_78 rfl ?_
        rintro _ ν1 ⟨rfl, g1, g2, g3⟩
        show zX shC σ 7 MX4_scan 81 [(0, zr 7), (1, zi (nI c)), (2, zi (nI i))] [zi ((tTok ((zp (zp μ1 11 c (nI p)) 10 c 0) 8) len p).1), zi (nI c), zr 9] ν1 _
        have e8b : (zp (zp μ1 11 c (nI p)) 10 c 0) 8 = μ 8 := by rw [zp_ne (by decide), zp_ne (by decide)]; exact e8
        rw [e8b] at g1 g2
        rw [e8b]
        show zX shC σ 7 MX4_scan 81 [(0, zr 7), (1, zi (nI c)), (2, zi (nI i))] [zi ((tTok (μ 8) len p).1), zi (nI c), zr 9] ν1 _
        have hT : tSk (μ 8) len p = p := tSk_n h38
        have hS : tS (μ 8) len c = p := hs.symm.trans hT
        have hb := tTok_e (T := μ 8) hlt
        have hP1 : tP (μ 8) len (c + 1) = (tTok (μ 8) len p).2.2 := by show (tTok (μ 8) len (tS (μ 8) len c)).2.2 = _; rw [hS]
        have hF2 : fF [9, 10, 11] 6 μ (zp ν1 9 c (tTok (μ 8) len p).1) (nI (tTok (μ 8) len p).2.2) := by
          refine (fF.oth (k := 9) ⟨?_, fun i hi => ?_, g1.2.2⟩ (by simp) (by decide))
          · exact ((hf.1.p (by simp)).p (by simp)).tr (g1.1.mono (by decide))
          · rw [g1.2.1 i hi, zp_ne (by decide), zp_ne (by decide)]; exact hf.2.1 i hi
        have hT2 : ∀ k, k < c + 1 → (zp ν1 9 c (tTok (μ 8) len p).1) 9 k = tK (μ 8) len k ∧ (zp ν1 9 c (tTok (μ 8) len p).1) 10 k = tV (μ 8) len k ∧ (zp ν1 9 c (tTok (μ 8) len p).1) 11 k = nI (tS (μ 8) len k) ∧ tK (μ 8) len k ≠ -1 := by
          intro k hk
          rw [zp_eq, zp_ne (show (10 : Nat) ≠ 9 by decide), zp_ne (show (11 : Nat) ≠ 9 by decide)]
          by_cases e : k = c
          · subst e
            refine ⟨?_, ?_, ?_, ?_⟩
            · rw [pk_us]; unfold tK; rw [hS]
            · rw [g2]; unfold tV; rw [hS]
            · rw [g1.1 11 (by decide), zp_ne (by decide), zp_eq, pk_us, hS]
            · unfold tK; rw [hS]; exact tTok_k hlt (hby p hlt)
          · have h9 := ht k (by omega)
            refine ⟨?_, ?_, ?_, h9.2.2.2⟩
            · rw [pk_un e, g1.1 9 (by decide), zp_ne (by decide), zp_ne (by decide)]; exact h9.1
            · rw [g3 k e, zp_eq, pk_un e, zp_ne (by decide)]; exact h9.2.1
            · rw [g1.1 11 (by decide), zp_ne (by decide), zp_eq, pk_un e]; exact h9.2.2.1
        refine zx_iast_n (j := c) (nn := 82) rfl (by omega) (by decide) dX4_scan_81 rfl ?_
        refine zx_iinc (k := 1) (v := nI (c + 1)) (lv' := [(1, zi (nI (c + 1))), (0, zr 7), (2, zi (nI i))]) (nn := 85) dX4_scan_82 rfl (nI_1 c) (by decide) rfl rfl ?_
        refine zx_iinc (k := 2) (v := nI (i + 1)) (lv' := [(2, zi (nI (i + 1))), (1, zi (nI (c + 1))), (0, zr 7)]) (nn := 88) dX4_scan_85 rfl (nI_1 i) (by decide) rfl rfl ?_
        refine zx_goto (tgt := 9) dX4_scan_88 (by decide) ?_
        refine zx_lv (lv' := [(0, zr 7), (1, zi (nI (c + 1))), (2, zi (nI (i + 1)))]) [2, 1, 0] rfl ?_
        exact ih9 (c + 1, (tTok (μ 8) len p).2.2, i + 1, zp ν1 9 c ((tTok (μ 8) len p).1)) (show ((c + 1) ≤ ((tTok (μ 8) len p).2.2) ∧ ((tTok (μ 8) len p).2.2) ≤ len ∧ (i + 1) ≤ ((tTok (μ 8) len p).2.2)) ∧ tSk (μ 8) len ((tTok (μ 8) len p).2.2) = tS (μ 8) len (c + 1) ∧ fF [9, 10, 11] 6 μ (zp ν1 9 c ((tTok (μ 8) len p).1)) (nI ((tTok (μ 8) len p).2.2)) ∧ ∀ k, k < (c + 1) → (zp ν1 9 c ((tTok (μ 8) len p).1)) 9 k = tK (μ 8) len k ∧ (zp ν1 9 c ((tTok (μ 8) len p).1)) 10 k = tV (μ 8) len k ∧ (zp ν1 9 c ((tTok (μ 8) len p).1)) 11 k = nI (tS (μ 8) len k) ∧ tK (μ 8) len k ≠ -1 from ⟨by omega, by rw [show (tTok (μ 8) len p).2.2 = tP (μ 8) len (c + 1) from hP1.symm]; rfl, hF2, hT2⟩) (by show len - (tTok (μ 8) len p).2.2 < len - p; omega)
      · refine zx_aload_n (k := 0) (nn := 42) dX4_scan_41 rfl rfl rfl ?_
        refine zx_dupr (nn := 43) dX4_scan_42 rfl ?_
        refine zx_getI (nn := 46) flX4_77 rfl rfl dX4_scan_43 rfl ?_
        rw [show μ1 7 6 = nI p from hf.2.2]
        show zX shC σ 7 MX4_scan 46 [(0, zr 7), (1, zi (nI c)), (2, zi (nI i))] [zi (nI p), zr 7] μ1 _
        refine zx_iconst (v := 1) (nn := 47) rfl dX4_scan_46 rfl ?_
        refine zx_iadd (nn := 48) dX4_scan_47 rfl ?_
        rw [show (nI p) + 1 = nI (p + 1) from nI_1 _]
        show zX shC σ 7 MX4_scan 48 [(0, zr 7), (1, zi (nI c)), (2, zi (nI i))] [zi (nI (p + 1)), zr 7] μ1 _
        refine zx_putI (nn := 51) fpX4_77 rfl rfl rfl rfl dX4_scan_48 rfl ?_
        refine zx_goto (tgt := 85) dX4_scan_51 (by decide) ?_
        refine zx_iinc (k := 2) (v := nI (i + 1)) (lv' := [(2, zi (nI (i + 1))), (0, zr 7), (1, zi (nI c))]) (nn := 88) dX4_scan_85 rfl (nI_1 i) (by decide) rfl rfl ?_
        refine zx_goto (tgt := 9) dX4_scan_88 (by decide) ?_
        refine zx_lv (lv' := [(0, zr 7), (1, zi (nI c)), (2, zi (nI (i + 1)))]) [1, 2, 0] rfl ?_
        exact ih9 (c, p + 1, i + 1, zp μ1 7 6 (nI (p + 1))) (show (c ≤ (p + 1) ∧ (p + 1) ≤ len ∧ (i + 1) ≤ (p + 1)) ∧ tSk (μ 8) len (p + 1) = tS (μ 8) len c ∧ fF [9, 10, 11] 6 μ (zp μ1 7 6 (nI (p + 1))) (nI (p + 1)) ∧ ∀ k, k < c → (zp μ1 7 6 (nI (p + 1))) 9 k = tK (μ 8) len k ∧ (zp μ1 7 6 (nI (p + 1))) 10 k = tV (μ 8) len k ∧ (zp μ1 7 6 (nI (p + 1))) 11 k = nI (tS (μ 8) len k) ∧ tK (μ 8) len k ≠ -1 from ⟨by omega, by rw [← tSk_b hlt h38]; exact hs, hf.step, fun k hk => by rw [zp_ne (by decide), zp_ne (by decide), zp_ne (by decide)]; exact ht k hk⟩) (by show len - (p + 1) < len - p; omega)
