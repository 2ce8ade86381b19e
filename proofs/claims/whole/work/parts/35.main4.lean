theorem nI_ne1 {a : Nat} (h : a < 2 ^ 31) : ¬ nI a = -1 := fun q => by
  have := congrArg Int32.toInt q
  rw [nI_toInt h] at this
  simp at this

set_option maxHeartbeats 4000000 in
set_option maxRecDepth 100000 in
theorem eX10_feed_0 (σ : zG) (μ : zM) (e : Int64) (n : Int32) (len : Nat) (hl : μ 7 5 = nI len) (hlen : len ≤ 200) : zMet shC σ 1 MX10_feed yX10_feed [zr 0, zj e, zi n] μ (fun rr μ' => rr = some (zi (if pIn n 1 8 = true then (if len + n.toNatClampNeg ≤ 200 then nI (len + n.toNatClampNeg) else -2) else -1)) ∧ if pIn n 1 8 = true ∧ len + n.toNatClampNeg ≤ 200 then fF [8] 5 μ μ' (nI (len + n.toNatClampNeg)) ∧ (∀ j, j < n.toNatClampNeg → μ' 8 (len + j) = tByte e j) ∧ ∀ j, (j < len ∨ len + n.toNatClampNeg ≤ j) → μ' 8 j = μ 8 j else μ' = μ) := by
  refine zmetF (by decide +kernel) rfl (Nat.le_of_ble_eq_true rfl) ?_
  show zX shC σ 1 MX10_feed 0 [(0, zr 0), (1, zj e), (3, zi n)] [] μ _
  refine zx_iload_n (k := 2) (nn := 1) dX10_feed_0 rfl rfl rfl ?_
  refine zx_iconst (v := 1) (nn := 2) rfl dX10_feed_1 rfl ?_
  refine zx_bipush (v := 8) (nn := 4) rfl dX10_feed_2 rfl ?_
  refine zx_callSf (nn := 7) (d' := 0) (as := [zi n, zi 1, zi 8]) (rest := []) (n := 3) (eX10_isIn σ μ n 1 8  ) kX10_isIn mlX10_135 (by decide) rfl rfl (Nat.le_of_ble_eq_true rfl) dX10_feed_4 rfl ?_
  show zX shC σ 1 MX10_feed 7 [(0, zr 0), (1, zj e), (3, zi n)] [zi (zb (pIn n 1 8))] μ _
  refine zx_ifb_ne (tgt := 12) (nn := 10) dX10_feed_7 (by decide) rfl (fun h7 => ?_) (fun h7 => ?_)
  · obtain ⟨n1, n_n, rfl⟩ := pIn_n1 (b := 8) (by omega) h7
    show zX shC σ 1 MX10_feed 12 [(0, zr 0), (1, zj e), (3, zi (nI n1))] [] μ _
    refine zx_aload_n (k := 0) (nn := 13) dX10_feed_12 rfl rfl rfl ?_
    refine zx_getR (q := 7) (nn := 16) flX10_19 rfl rfl dX10_feed_13 rfl ?_
    refine zx_getI (nn := 19) flX10_159 rfl rfl dX10_feed_16 rfl ?_
    refine zx_iload_n (k := 2) (nn := 20) dX10_feed_19 rfl rfl rfl ?_
    refine zx_iadd (nn := 21) dX10_feed_20 rfl ?_
    rw [show (μ 7 5) + (nI n1) = nI (len + n1) from by rw [hl, nI_add]]
    show zX shC σ 1 MX10_feed 21 [(0, zr 0), (1, zj e), (3, zi (nI n1))] [zi (nI (len + n1))] μ _
    refine zx_sipush (v := 200) (nn := 24) rfl dX10_feed_21 rfl ?_
    refine zx_icmp_le (tgt := 30) (nn := 27) dX10_feed_24 (by decide) rfl (fun h24 => ?_) (fun h24 => ?_)
    · have h200 : len + n1 ≤ 200 := nI_le_le (b := len + n1) (a := 200) h24 (by omega)
      refine zx_aload_n (k := 0) (nn := 31) dX10_feed_30 rfl rfl rfl ?_
      refine zx_getR (q := 7) (nn := 34) flX10_19 rfl rfl dX10_feed_31 rfl ?_
      refine zx_lload_n (k := 1) (nn := 35) dX10_feed_34 rfl rfl rfl ?_
      refine zx_iload_n (k := 2) (nn := 36) dX10_feed_35 rfl rfl rfl ?_
      refine zx_callV (nn := 39) (k := 7) (d' := 0) (as := [zj e, zi (nI n1)]) (rest := []) (n := 2) (eX4_take_7 σ μ e n1 len hl n_n.2.1 h200) kX4_take mlX10_162 rfl rfl rfl (by decide) rfl rfl (Nat.le_of_ble_eq_true rfl) dX10_feed_36 rfl ?_
      rintro _ ν1 ⟨rfl, q1⟩
      show zX shC σ 1 MX10_feed 39 [(0, zr 0), (1, zj e), (3, zi (nI n1))] [zi (nI (len + n1))] ν1 _
      refine zx_iret rfl dX10_feed_39 ?_
      exact ⟨congrArg (fun x => some (zi x)) (by rw [if_pos h7, n_n.2.2, if_pos h200]), by rw [if_pos ⟨h7, by rw [n_n.2.2]; exact h200⟩, n_n.2.2]; exact q1⟩
    · refine zx_bipush (v := -2) (nn := 29) rfl dX10_feed_27 rfl ?_
      refine zx_iret rfl dX10_feed_29 ?_
      have h200 : ¬ len + n1 ≤ 200 := fun q => h24 (nI_le (b := 200) q (by omega))
      exact ⟨congrArg (fun x => some (zi x)) (by rw [if_pos h7, n_n.2.2, if_neg h200]), by rw [if_neg (fun q => h200 (by have := q.2; rw [n_n.2.2] at this; exact this))]⟩
  · refine zx_iconst (v := -1) (nn := 11) rfl dX10_feed_10 rfl ?_
    refine zx_iret rfl dX10_feed_11 ?_
    exact ⟨congrArg (fun x => some (zi x)) (by rw [if_neg (by rw [h7]; decide)]), by rw [if_neg (fun q => by rw [h7] at q; cases q.1)]⟩
set_option maxHeartbeats 4000000 in
set_option maxRecDepth 100000 in
theorem eX10_rules_0 (σ : zG) (μ : zM) (len : Nat) (hl : μ 7 5 = nI len) (hlen : len ≤ 200) (hby : ∀ k, k < len → 0 ≤ μ 8 k) (hD : ∀ r, r < 8 → ∃ e, e ≤ 200 ∧ μ 15 r = nI e) (hsl : ∀ k, tS (μ 8) len k < 2 ^ 31) : zMet shC σ 16 MX10_rules yX10_rules [zr 0] μ (fun rr μ' => rr = some (zi (if (tRead (μ 8) len).1 = true then nI (tRead (μ 8) len).2.2.length else -100 - nI (tS (μ 8) len (tRead (μ 8) len).2.1))) ∧ (μ' 7 5 = 0 ∧ ∀ r, r < 8 → ∃ e, e ≤ 200 ∧ μ' 15 r = nI e) ∧ (if (tRead (μ 8) len).1 = true then pREq (cR 1 μ') (rTbl (tRead (μ 8) len).2.2) ∧ cROK 1 μ' ∧ zJ [1, 2, 3, 4, 5, 7, 9, 10, 11, 12, 13, 14, 15, 16] μ μ' else zJ [7, 9, 10, 11, 12, 13, 14, 15, 16] μ μ')) := by
  refine zmetF (by decide +kernel) rfl (Nat.le_of_ble_eq_true rfl) ?_
  show zX shC σ 16 MX10_rules 0 [(0, zr 0)] [] μ _
  refine zx_aload_n (k := 0) (nn := 1) dX10_rules_0 rfl rfl rfl ?_
  refine zx_getR (q := 7) (nn := 4) flX10_19 rfl rfl dX10_rules_1 rfl ?_
  refine zx_aload_n (k := 0) (nn := 5) dX10_rules_4 rfl rfl rfl ?_
  refine zx_getR (q := 1) (nn := 8) flX10_10 rfl rfl dX10_rules_5 rfl ?_
  refine zx_callV (nn := 11) (k := 7) (d' := 15) (as := [zr 1]) (rest := []) (n := 1) (eX4_readInto_7 σ μ len hl hlen hby hD) kX4_readInto mlX10_166 rfl rfl rfl (by decide) rfl rfl (Nat.le_of_ble_eq_true rfl) dX10_rules_8 rfl ?_
  rintro _ ν1 ⟨rfl, q0, q1⟩
  show zX shC σ 16 MX10_rules 11 [(0, zr 0)] [zi (if (tRead (μ 8) len).1 = true then -1 else nI (tS (μ 8) len (tRead (μ 8) len).2.1))] ν1 _
  refine zx_istore_n (nn := 12) (lv' := [(1, zi (if (tRead (μ 8) len).1 = true then -1 else nI (tS (μ 8) len (tRead (μ 8) len).2.1))), (0, zr 0)]) dX10_rules_11 rfl (by decide) rfl rfl ?_
  refine zx_iload_n (k := 0) (nn := 13) dX10_rules_12 rfl rfl rfl ?_
  refine zx_iconst (v := -1) (nn := 14) rfl dX10_rules_13 rfl ?_
  refine zx_icmp_ne (tgt := 27) (nn := 17) dX10_rules_14 (by decide) rfl (fun h14 => ?_) (fun h14 => ?_)
  · refine zx_bipush (v := -100) (nn := 29) rfl dX10_rules_27 rfl ?_
    refine zx_iload_n (k := 0) (nn := 30) dX10_rules_29 rfl rfl rfl ?_
    refine zx_isub (nn := 31) dX10_rules_30 rfl ?_
    refine zx_iret rfl dX10_rules_31 ?_
    have hno : ¬ (tRead (μ 8) len).1 = true := fun q => h14 (if_pos q)
    rw [if_neg hno] at q1
    refine ⟨congrArg (fun x => some (zi x)) ?_, q0, ?_⟩
    · rw [if_neg hno, if_neg hno]
    · rw [if_neg hno]; exact q1
  · refine zx_aload_n (k := 1) (nn := 18) dX10_rules_17 rfl rfl rfl ?_
    refine zx_getR (q := 1) (nn := 21) flX10_10 rfl rfl dX10_rules_18 rfl ?_
    refine zx_getI (nn := 24) flX10_170 rfl rfl dX10_rules_21 rfl ?_
    refine zx_goto (tgt := 31) dX10_rules_24 (by decide) ?_
    refine zx_iret rfl dX10_rules_31 ?_
    have hok : (tRead (μ 8) len).1 = true := Decidable.byContradiction (fun q => by rw [if_neg q] at h14; exact nI_ne1 (hsl _) h14)
    rw [if_pos hok] at q1
    obtain ⟨z1, z2, z3⟩ := q1
    obtain ⟨⟨n, hn, hc⟩, -⟩ := id z2
    have hnL : n = (tRead (μ 8) len).2.2.length := by
      have := z1.1
      have h5 : (cR 1 ν1).1 = n := by show (ν1 1 5).toNatClampNeg = n; rw [hc, nI_clamp (by omega)]
      rw [h5] at this
      exact this
    refine ⟨congrArg (fun x => some (zi x)) ?_, q0, ?_⟩
    · rw [if_pos hok, hc, hnL]
    · rw [if_pos hok]; exact ⟨z1, z2, z3⟩
