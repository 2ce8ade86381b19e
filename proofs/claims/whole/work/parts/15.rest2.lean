theorem pCmp_cross {a c a2 c2 : Int32} : pCmp a c * pCmp a2 c2 < 0 ↔ ((decide (a < c) && decide (c2 < a2)) || (decide (c < a) && decide (a2 < c2))) = true := by
  have h3 : ∀ x y : Int32, (x < y ∧ pCmp x y = -1 ∧ ¬ y < x ∧ ¬ x = y) ∨ (x = y ∧ pCmp x y = 0 ∧ ¬ x < y ∧ ¬ y < x) ∨ (y < x ∧ pCmp x y = 1 ∧ ¬ x < y ∧ ¬ x = y) := by
    intro x y
    unfold pCmp
    by_cases h : x < y
    · refine Or.inl ⟨h, if_pos h, ?_, ?_⟩
      · intro q; rw [Int32.lt_iff_toInt_lt] at h q; omega
      · intro q; rw [q] at h; exact Int32.lt_irrefl h
    · rw [if_neg h]
      by_cases e : x = y
      · refine Or.inr (Or.inl ⟨e, if_pos e, h, ?_⟩)
        rw [e]; exact Int32.lt_irrefl
      · refine Or.inr (Or.inr ⟨?_, if_neg e, h, e⟩)
        rw [Int32.lt_iff_toInt_lt] at h ⊢
        have : x.toInt ≠ y.toInt := fun q => e (Int32.toInt_inj.mp q)
        omega
  rcases h3 a c with ⟨p1, p2, p3, p4⟩ | ⟨p1, p2, p3, p4⟩ | ⟨p1, p2, p3, p4⟩ <;> rcases h3 a2 c2 with ⟨q1, q2, q3, q4⟩ | ⟨q1, q2, q3, q4⟩ | ⟨q1, q2, q3, q4⟩ <;> rw [p2, q2] <;> simp [*] <;> decide
theorem pAllIn_eq {f g : Nat → Int32} {set : Int32} : ∀ {n : Nat}, (∀ j, j < n → f j = g j) → pAllIn f set n = pAllIn g set n
  | 0, _ => rfl
  | n + 1, h => by
    show (pAllIn f set n && _) = (pAllIn g set n && _)
    rw [pAllIn_eq (fun j hj => h j (by omega)), h n (by omega)]
theorem pAllIn_no {f : Nat → Int32} {set : Int32} {m : Nat} (h : f m &&& set = 0) : ∀ {n : Nat}, m < n → pAllIn f set n = false
  | 0, q => absurd q (by omega)
  | n + 1, q => by
    show (pAllIn f set n && _) = false
    rcases Nat.lt_or_ge m n with r | r
    · rw [pAllIn_no h r]; rfl
    · rw [show n = m by omega]
      simp [h]
theorem zshl1 {n : Nat} (h : n ≤ 6) : (1 : Int32) <<< (nI n &&& 31) = nI (2 ^ n) := by
  have e : ∀ j, j < 7 → (1 : Int32) <<< (nI j &&& 31) = nI (2 ^ j) := by decide +kernel
  exact e n (by omega)
theorem pow6 {n : Nat} (h : n ≤ 6) : 2 ^ n ≤ 64 := by
  have e : ∀ j, j < 7 → 2 ^ j ≤ 64 := by decide
  exact e n (by omega)
theorem pPut_same {s : Nat → Int32} {k : Nat} : pPut s k (s k) = s := by
  funext i
  unfold pPut
  split
  · rename_i h; rw [h]
  · rfl
theorem pOK_fld {s : Nat → Int32} {l w : Nat} {v : Int32} (ok : pOK s) (hl : l < pL s) (hw : w = 1 ∨ (w = 2 ∧ 0 ≤ v ∧ v ≤ 9) ∨ (w = 3 ∧ 1 ≤ v ∧ v ≤ 9) ∨ (w = 0 ∧ 1 ≤ v ∧ v ≤ 5)) : pOK (pPut s (7 + 4 * l + w) v) := by
  have hL := ok.1.2
  have hlow : ∀ i, i < 7 → pPut s (7 + 4 * l + w) v i = s i := fun i hi => if_neg (by omega)
  unfold pOK pL pB pb at *
  rw [hlow 0 (by omega), hlow 1 (by omega), hlow 2 (by omega)]
  refine ⟨ok.1, ok.2.1, ok.2.2.1, fun k hk => ?_⟩
  have h := ok.2.2.2 k hk
  unfold pPut
  refine ⟨?_, ?_, ?_⟩
  · by_cases q : 7 + 4 * k = 7 + 4 * l + w
    · rw [if_pos q]
      rcases hw with rfl | ⟨rfl, a⟩ | ⟨rfl, a⟩ | ⟨rfl, a⟩
      · omega
      · omega
      · omega
      · exact a
    · rw [if_neg q]; exact h.1
  · by_cases q : 7 + 4 * k + 2 = 7 + 4 * l + w
    · rw [if_pos q]
      rcases hw with rfl | ⟨rfl, a⟩ | ⟨rfl, a⟩ | ⟨rfl, a⟩
      · omega
      · exact a
      · omega
      · omega
    · rw [if_neg q]; exact h.2.1
  · by_cases q : 7 + 4 * k + 3 = 7 + 4 * l + w
    · rw [if_pos q]
      rcases hw with rfl | ⟨rfl, a⟩ | ⟨rfl, a⟩ | ⟨rfl, a⟩
      · omega
      · omega
      · exact a
      · omega
    · rw [if_neg q]; exact h.2.2
theorem pOK_aim {s : Nat → Int32} {l : Nat} {v : Int32} (ok : pOK s) (hl : l < pL s) : pOK (pPut s (7 + 4 * l + 1) v) := pOK_fld ok hl (Or.inl rfl)
theorem pOK_size {s : Nat → Int32} {l k : Nat} (ok : pOK s) (hl : l < pL s) (hk : k ≤ 9) : pOK (pPut s (7 + 4 * l + 2) (nI k)) := pOK_fld ok hl (Or.inr (Or.inl ⟨rfl, nI_pos' (by omega), nI_le (b := 9) hk (by omega)⟩))
theorem pOK_step {s : Nat → Int32} {l k : Nat} (ok : pOK s) (hl : l < pL s) (hk : k + 1 ≤ 9) : pOK (pPut s (7 + 4 * l + 3) (nI (k + 1))) := pOK_fld ok hl (Or.inr (Or.inr (Or.inl ⟨rfl, nI_le (a := 1) (by omega) (by omega), nI_le (b := 9) hk (by omega)⟩)))
set_option maxHeartbeats 4000000 in
set_option maxRecDepth 100000 in
theorem eX2_worthiest_1 (σ : zG) (μ : zM) (l : Nat) (ok : pOK (cS 18 μ)) (rok : cROK 1 μ) (hl : l < pL (cS 18 μ)) : zMet shC σ 6 MX2_worthiest yX2_worthiest [zr 37, zi (nI l), zi 1, zi 40] μ (fun rr μ' => rr = some (zi ((pArg (fun q_ => pShow (cR 1 μ) (pPut (cS 18 μ) (7 + 4 * l + 1) (nI q_)) l) 41).2)) ∧ zJ [6, 25, 26, 27, 28, 29, 30, 31] μ μ') := by
  refine zmetF (by decide +kernel) rfl (Nat.le_of_ble_eq_true rfl) ?_
  show zX shC σ 6 MX2_worthiest 0 [(0, zr 37), (1, zi (nI l)), (2, zi 1), (3, zi 40)] [] μ _
  refine zx_iconst (v := -1) (nn := 1) rfl dX2_worthiest_0 rfl ?_
  refine zx_istore (nn := 3) (lv' := [(4, zi (-1)), (0, zr 37), (1, zi (nI l)), (2, zi 1), (3, zi 40)]) dX2_worthiest_1 (by decide) rfl rfl ?_
  refine zx_iconst (v := 0) (nn := 4) rfl dX2_worthiest_3 rfl ?_
  refine zx_istore (nn := 6) (lv' := [(5, zi 0), (4, zi (-1)), (0, zr 37), (1, zi (nI l)), (2, zi 1), (3, zi 40)]) dX2_worthiest_4 (by decide) rfl rfl ?_
  refine zx_iconst (v := 0) (nn := 7) rfl dX2_worthiest_6 rfl ?_
  refine zx_istore (nn := 9) (lv' := [(6, zi 0), (5, zi 0), (4, zi (-1)), (0, zr 37), (1, zi (nI l)), (2, zi 1), (3, zi 40)]) dX2_worthiest_7 (by decide) rfl rfl ?_
  refine zx_lv (lv' := [(0, zr 37), (1, zi (nI l)), (2, zi 1), (3, zi 40), (4, zi (-1)), (5, zi 0), (6, zi 0)]) [3, 4, 5, 6, 2, 1, 0] rfl ?_
  refine zx_while (τ := Nat × Int32 × Int32 × zM) (fun t_ => 41 - t_.1) (fun t_ => t_.1 ≤ 41 ∧ pArg (fun q_ => pShow (cR 1 μ) (pPut (cS 18 μ) (7 + 4 * l + 1) (nI q_)) l) t_.1 = (t_.2.1, t_.2.2.1) ∧ zJ [6, 25, 26, 27, 28, 29, 30, 31] μ t_.2.2.2) (fun t_ => [(0, zr 37), (1, zi (nI l)), (2, zi 1), (3, zi 40), (4, zi t_.2.1), (5, zi t_.2.2.1), (6, zi (nI t_.1))]) (fun t_ => t_.2.2.2) (t0 := (0, -1, 0, μ)) (⟨Nat.zero_le _, rfl, zJ.rf⟩) ?_
  rintro ⟨k, a, c, μ1⟩ hI ih9
  replace hI : k ≤ 41 ∧ pArg (fun q_ => pShow (cR 1 μ) (pPut (cS 18 μ) (7 + 4 * l + 1) (nI q_)) l) k = (a, c) ∧ zJ [6, 25, 26, 27, 28, 29, 30, 31] μ μ1 := hI
  show zX shC σ 6 MX2_worthiest 9 [(0, zr 37), (1, zi (nI l)), (2, zi 1), (3, zi 40), (4, zi a), (5, zi c), (6, zi (nI k))] [] μ1 _
  obtain ⟨hk, ha, hj⟩ := hI
  have hR1 : cR 1 μ1 = cR 1 μ := cR_μ (fun k h1 h2 => hj k (by simp; omega))
  have es1 : cS 18 μ1 = cS 18 μ := cS_eq (fun k hk => hj k (by simp; omega))
  have ok1 : pOK (cS 18 μ1) := by rw [es1]; exact ok
  have rok1 : cROK 1 μ1 := cROK_μ (hj 1 (by decide)).symm (hj 4 (by decide)).symm rok
  refine zx_iload (k := 6) (nn := 11) dX2_worthiest_9 rfl rfl ?_
  refine zx_iload_n (k := 3) (nn := 12) dX2_worthiest_11 rfl rfl rfl ?_
  refine zx_icmp_gt (tgt := 46) (nn := 15) dX2_worthiest_12 (by decide) rfl (fun h12 => ?_) (fun h12 => ?_)
  · refine zx_iload (k := 5) (nn := 48) dX2_worthiest_46 rfl rfl ?_
    refine zx_iret rfl dX2_worthiest_48 ?_
    have hge : 40 < k := (nI_ltI (a := 40) (by omega) (by omega)).mp h12
    refine ⟨congrArg (fun x => some (zi x)) ?_, hj⟩
    rw [show 41 = k by omega, ha]
  · have hlt : k < 41 := (nI_leI (b := 40) (by omega) (by omega)).mp (Int32.not_lt.mp h12) |> fun q => by omega
    refine zx_aload_n (k := 0) (nn := 16) dX2_worthiest_15 rfl rfl rfl ?_
    refine zx_iload_n (k := 1) (nn := 17) dX2_worthiest_16 rfl rfl rfl ?_
    refine zx_iload_n (k := 2) (nn := 18) dX2_worthiest_17 rfl rfl rfl ?_
    refine zx_iload (k := 6) (nn := 20) dX2_worthiest_18 rfl rfl ?_
    refine zx_callV (nn := 23) (k := 37) (d' := 5) (as := [zi (nI l), zi 1, zi (nI k)]) (rest := []) (n := 3) (eX2_worthWith_1 σ μ1 l (nI k) ok1 rok1 (by rw [es1]; exact hl) (by rw [es1]; exact (pOK_aim ok hl))) kX2_worthWith mlX2_50 rfl rfl rfl (by decide) rfl rfl (Nat.le_of_ble_eq_true rfl) dX2_worthiest_20 rfl ?_
    rintro _ ν1 ⟨rfl, q1⟩
    show zX shC σ 6 MX2_worthiest 23 [(0, zr 37), (1, zi (nI l)), (2, zi 1), (3, zi 40), (4, zi a), (5, zi c), (6, zi (nI k))] [zi (pShow (cR 1 μ1) (pPut (cS 18 μ1) (7 + 4 * l + 1) (nI k)) l)] ν1 _
    rw [show pShow (cR 1 μ1) (pPut (cS 18 μ1) (7 + 4 * l + 1) (nI k)) l = (fun q_ => pShow (cR 1 μ) (pPut (cS 18 μ) (7 + 4 * l + 1) (nI q_)) l) k from by rw [hR1, es1]]
    show zX shC σ 6 MX2_worthiest 23 [(0, zr 37), (1, zi (nI l)), (2, zi 1), (3, zi 40), (4, zi a), (5, zi c), (6, zi (nI k))] [zi ((fun q_ => pShow (cR 1 μ) (pPut (cS 18 μ) (7 + 4 * l + 1) (nI q_)) l) k)] ν1 _
    refine zx_istore (nn := 25) (lv' := [(7, zi ((fun q_ => pShow (cR 1 μ) (pPut (cS 18 μ) (7 + 4 * l + 1) (nI q_)) l) k)), (0, zr 37), (1, zi (nI l)), (2, zi 1), (3, zi 40), (4, zi a), (5, zi c), (6, zi (nI k))]) dX2_worthiest_23 (by decide) rfl rfl ?_
    refine zx_iload (k := 0) (nn := 27) dX2_worthiest_25 rfl rfl ?_
    refine zx_iload (k := 5) (nn := 29) dX2_worthiest_27 rfl rfl ?_
    refine zx_icmp_le (tgt := 40) (nn := 32) dX2_worthiest_29 (by decide) rfl (fun h29 => ?_) (fun h29 => ?_)
    · refine zx_iinc (k := 7) (v := nI (k + 1)) (lv' := [(6, zi (nI (k + 1))), (7, zi ((fun q_ => pShow (cR 1 μ) (pPut (cS 18 μ) (7 + 4 * l + 1) (nI q_)) l) k)), (0, zr 37), (1, zi (nI l)), (2, zi 1), (3, zi 40), (4, zi a), (5, zi c)]) (nn := 43) dX2_worthiest_40 rfl (nI_1 k) (by decide) rfl rfl ?_
      refine zx_goto (tgt := 9) dX2_worthiest_43 (by decide) ?_
      refine zx_lv (lv' := [(0, zr 37), (1, zi (nI l)), (2, zi 1), (3, zi 40), (4, zi a), (5, zi c), (6, zi (nI (k + 1)))]) [2, 3, 4, 5, 6, 7, 0] rfl ?_
      exact ih9 (k + 1, a, c, ν1) (show (k + 1) ≤ 41 ∧ pArg (fun q_ => pShow (cR 1 μ) (pPut (cS 18 μ) (7 + 4 * l + 1) (nI q_)) l) (k + 1) = (a, c) ∧ zJ [6, 25, 26, 27, 28, 29, 30, 31] μ ν1 from ⟨by omega, by show (if _ then _ else _) = _; rw [ha]; exact if_neg (Int32.not_lt.mpr h29), hj.tr q1⟩) (by show 41 - (k + 1) < 41 - k; omega)
    · refine zx_iload (k := 0) (nn := 34) dX2_worthiest_32 rfl rfl ?_
      refine zx_istore (nn := 36) (lv' := [(4, zi ((fun q_ => pShow (cR 1 μ) (pPut (cS 18 μ) (7 + 4 * l + 1) (nI q_)) l) k)), (7, zi ((fun q_ => pShow (cR 1 μ) (pPut (cS 18 μ) (7 + 4 * l + 1) (nI q_)) l) k)), (0, zr 37), (1, zi (nI l)), (2, zi 1), (3, zi 40), (5, zi c), (6, zi (nI k))]) dX2_worthiest_34 (by decide) rfl rfl ?_
      refine zx_iload (k := 7) (nn := 38) dX2_worthiest_36 rfl rfl ?_
      refine zx_istore (nn := 40) (lv' := [(5, zi (nI k)), (4, zi ((fun q_ => pShow (cR 1 μ) (pPut (cS 18 μ) (7 + 4 * l + 1) (nI q_)) l) k)), (7, zi ((fun q_ => pShow (cR 1 μ) (pPut (cS 18 μ) (7 + 4 * l + 1) (nI q_)) l) k)), (0, zr 37), (1, zi (nI l)), (2, zi 1), (3, zi 40), (6, zi (nI k))]) dX2_worthiest_38 (by decide) rfl rfl ?_
      refine zx_iinc (k := 7) (v := nI (k + 1)) (lv' := [(6, zi (nI (k + 1))), (5, zi (nI k)), (4, zi ((fun q_ => pShow (cR 1 μ) (pPut (cS 18 μ) (7 + 4 * l + 1) (nI q_)) l) k)), (7, zi ((fun q_ => pShow (cR 1 μ) (pPut (cS 18 μ) (7 + 4 * l + 1) (nI q_)) l) k)), (0, zr 37), (1, zi (nI l)), (2, zi 1), (3, zi 40)]) (nn := 43) dX2_worthiest_40 rfl (nI_1 k) (by decide) rfl rfl ?_
      refine zx_goto (tgt := 9) dX2_worthiest_43 (by decide) ?_
      refine zx_lv (lv' := [(0, zr 37), (1, zi (nI l)), (2, zi 1), (3, zi 40), (4, zi ((fun q_ => pShow (cR 1 μ) (pPut (cS 18 μ) (7 + 4 * l + 1) (nI q_)) l) k)), (5, zi (nI k)), (6, zi (nI (k + 1)))]) [4, 5, 6, 7, 2, 1, 0] rfl ?_
      exact ih9 (k + 1, (fun q_ => pShow (cR 1 μ) (pPut (cS 18 μ) (7 + 4 * l + 1) (nI q_)) l) k, nI k, ν1) (show (k + 1) ≤ 41 ∧ pArg (fun q_ => pShow (cR 1 μ) (pPut (cS 18 μ) (7 + 4 * l + 1) (nI q_)) l) (k + 1) = (((fun q_ => pShow (cR 1 μ) (pPut (cS 18 μ) (7 + 4 * l + 1) (nI q_)) l) k), (nI k)) ∧ zJ [6, 25, 26, 27, 28, 29, 30, 31] μ ν1 from ⟨by omega, by show (if _ then _ else _) = _; rw [ha]; exact if_pos (Int32.not_le.mp h29), hj.tr q1⟩) (by show 41 - (k + 1) < 41 - k; omega)
set_option maxHeartbeats 4000000 in
set_option maxRecDepth 100000 in
theorem eX2_worthiest_2 (σ : zG) (μ : zM) (l : Nat) (ok : pOK (cS 18 μ)) (rok : cROK 1 μ) (hl : l < pL (cS 18 μ)) : zMet shC σ 6 MX2_worthiest yX2_worthiest [zr 37, zi (nI l), zi 2, zi 9] μ (fun rr μ' => rr = some (zi ((pArg (fun q_ => pShow (cR 1 μ) (pPut (cS 18 μ) (7 + 4 * l + 2) (nI q_)) l) 10).2)) ∧ zJ [6, 25, 26, 27, 28, 29, 30, 31] μ μ') := by
  refine zmetF (by decide +kernel) rfl (Nat.le_of_ble_eq_true rfl) ?_
  show zX shC σ 6 MX2_worthiest 0 [(0, zr 37), (1, zi (nI l)), (2, zi 2), (3, zi 9)] [] μ _
  refine zx_iconst (v := -1) (nn := 1) rfl dX2_worthiest_0 rfl ?_
  refine zx_istore (nn := 3) (lv' := [(4, zi (-1)), (0, zr 37), (1, zi (nI l)), (2, zi 2), (3, zi 9)]) dX2_worthiest_1 (by decide) rfl rfl ?_
  refine zx_iconst (v := 0) (nn := 4) rfl dX2_worthiest_3 rfl ?_
  refine zx_istore (nn := 6) (lv' := [(5, zi 0), (4, zi (-1)), (0, zr 37), (1, zi (nI l)), (2, zi 2), (3, zi 9)]) dX2_worthiest_4 (by decide) rfl rfl ?_
  refine zx_iconst (v := 0) (nn := 7) rfl dX2_worthiest_6 rfl ?_
  refine zx_istore (nn := 9) (lv' := [(6, zi 0), (5, zi 0), (4, zi (-1)), (0, zr 37), (1, zi (nI l)), (2, zi 2), (3, zi 9)]) dX2_worthiest_7 (by decide) rfl rfl ?_
  refine zx_lv (lv' := [(0, zr 37), (1, zi (nI l)), (2, zi 2), (3, zi 9), (4, zi (-1)), (5, zi 0), (6, zi 0)]) [3, 4, 5, 6, 2, 1, 0] rfl ?_
  refine zx_while (τ := Nat × Int32 × Int32 × zM) (fun t_ => 10 - t_.1) (fun t_ => t_.1 ≤ 10 ∧ pArg (fun q_ => pShow (cR 1 μ) (pPut (cS 18 μ) (7 + 4 * l + 2) (nI q_)) l) t_.1 = (t_.2.1, t_.2.2.1) ∧ zJ [6, 25, 26, 27, 28, 29, 30, 31] μ t_.2.2.2) (fun t_ => [(0, zr 37), (1, zi (nI l)), (2, zi 2), (3, zi 9), (4, zi t_.2.1), (5, zi t_.2.2.1), (6, zi (nI t_.1))]) (fun t_ => t_.2.2.2) (t0 := (0, -1, 0, μ)) (⟨Nat.zero_le _, rfl, zJ.rf⟩) ?_
  rintro ⟨k, a, c, μ1⟩ hI ih9
  replace hI : k ≤ 10 ∧ pArg (fun q_ => pShow (cR 1 μ) (pPut (cS 18 μ) (7 + 4 * l + 2) (nI q_)) l) k = (a, c) ∧ zJ [6, 25, 26, 27, 28, 29, 30, 31] μ μ1 := hI
  show zX shC σ 6 MX2_worthiest 9 [(0, zr 37), (1, zi (nI l)), (2, zi 2), (3, zi 9), (4, zi a), (5, zi c), (6, zi (nI k))] [] μ1 _
  obtain ⟨hk, ha, hj⟩ := hI
  have hR1 : cR 1 μ1 = cR 1 μ := cR_μ (fun k h1 h2 => hj k (by simp; omega))
  have es1 : cS 18 μ1 = cS 18 μ := cS_eq (fun k hk => hj k (by simp; omega))
  have ok1 : pOK (cS 18 μ1) := by rw [es1]; exact ok
  have rok1 : cROK 1 μ1 := cROK_μ (hj 1 (by decide)).symm (hj 4 (by decide)).symm rok
  refine zx_iload (k := 6) (nn := 11) dX2_worthiest_9 rfl rfl ?_
  refine zx_iload_n (k := 3) (nn := 12) dX2_worthiest_11 rfl rfl rfl ?_
  refine zx_icmp_gt (tgt := 46) (nn := 15) dX2_worthiest_12 (by decide) rfl (fun h12 => ?_) (fun h12 => ?_)
  · refine zx_iload (k := 5) (nn := 48) dX2_worthiest_46 rfl rfl ?_
    refine zx_iret rfl dX2_worthiest_48 ?_
    have hge : 9 < k := (nI_ltI (a := 9) (by omega) (by omega)).mp h12
    refine ⟨congrArg (fun x => some (zi x)) ?_, hj⟩
    rw [show 10 = k by omega, ha]
  · have hlt : k < 10 := (nI_leI (b := 9) (by omega) (by omega)).mp (Int32.not_lt.mp h12) |> fun q => by omega
    refine zx_aload_n (k := 0) (nn := 16) dX2_worthiest_15 rfl rfl rfl ?_
    refine zx_iload_n (k := 1) (nn := 17) dX2_worthiest_16 rfl rfl rfl ?_
    refine zx_iload_n (k := 2) (nn := 18) dX2_worthiest_17 rfl rfl rfl ?_
    refine zx_iload (k := 6) (nn := 20) dX2_worthiest_18 rfl rfl ?_
    refine zx_callV (nn := 23) (k := 37) (d' := 5) (as := [zi (nI l), zi 2, zi (nI k)]) (rest := []) (n := 3) (eX2_worthWith_2 σ μ1 l (nI k) ok1 rok1 (by rw [es1]; exact hl) (by rw [es1]; exact (pOK_size ok hl (by omega)))) kX2_worthWith mlX2_50 rfl rfl rfl (by decide) rfl rfl (Nat.le_of_ble_eq_true rfl) dX2_worthiest_20 rfl ?_
    rintro _ ν1 ⟨rfl, q1⟩
    show zX shC σ 6 MX2_worthiest 23 [(0, zr 37), (1, zi (nI l)), (2, zi 2), (3, zi 9), (4, zi a), (5, zi c), (6, zi (nI k))] [zi (pShow (cR 1 μ1) (pPut (cS 18 μ1) (7 + 4 * l + 2) (nI k)) l)] ν1 _
    rw [show pShow (cR 1 μ1) (pPut (cS 18 μ1) (7 + 4 * l + 2) (nI k)) l = (fun q_ => pShow (cR 1 μ) (pPut (cS 18 μ) (7 + 4 * l + 2) (nI q_)) l) k from by rw [hR1, es1]]
    show zX shC σ 6 MX2_worthiest 23 [(0, zr 37), (1, zi (nI l)), (2, zi 2), (3, zi 9), (4, zi a), (5, zi c), (6, zi (nI k))] [zi ((fun q_ => pShow (cR 1 μ) (pPut (cS 18 μ) (7 + 4 * l + 2) (nI q_)) l) k)] ν1 _
    refine zx_istore (nn := 25) (lv' := [(7, zi ((fun q_ => pShow (cR 1 μ) (pPut (cS 18 μ) (7 + 4 * l + 2) (nI q_)) l) k)), (0, zr 37), (1, zi (nI l)), (2, zi 2), (3, zi 9), (4, zi a), (5, zi c), (6, zi (nI k))]) dX2_worthiest_23 (by decide) rfl rfl ?_
    refine zx_iload (k := 0) (nn := 27) dX2_worthiest_25 rfl rfl ?_
    refine zx_iload (k := 5) (nn := 29) dX2_worthiest_27 rfl rfl ?_
    refine zx_icmp_le (tgt := 40) (nn := 32) dX2_worthiest_29 (by decide) rfl (fun h29 => ?_) (fun h29 => ?_)
    · refine zx_iinc (k := 7) (v := nI (k + 1)) (lv' := [(6, zi (nI (k + 1))), (7, zi ((fun q_ => pShow (cR 1 μ) (pPut (cS 18 μ) (7 + 4 * l + 2) (nI q_)) l) k)), (0, zr 37), (1, zi (nI l)), (2, zi 2), (3, zi 9), (4, zi a), (5, zi c)]) (nn := 43) dX2_worthiest_40 rfl (nI_1 k) (by decide) rfl rfl ?_
      refine zx_goto (tgt := 9) dX2_worthiest_43 (by decide) ?_
      refine zx_lv (lv' := [(0, zr 37), (1, zi (nI l)), (2, zi 2), (3, zi 9), (4, zi a), (5, zi c), (6, zi (nI (k + 1)))]) [2, 3, 4, 5, 6, 7, 0] rfl ?_
      exact ih9 (k + 1, a, c, ν1) (show (k + 1) ≤ 10 ∧ pArg (fun q_ => pShow (cR 1 μ) (pPut (cS 18 μ) (7 + 4 * l + 2) (nI q_)) l) (k + 1) = (a, c) ∧ zJ [6, 25, 26, 27, 28, 29, 30, 31] μ ν1 from ⟨by omega, by show (if _ then _ else _) = _; rw [ha]; exact if_neg (Int32.not_lt.mpr h29), hj.tr q1⟩) (by show 10 - (k + 1) < 10 - k; omega)
    · refine zx_iload (k := 0) (nn := 34) dX2_worthiest_32 rfl rfl ?_
      refine zx_istore (nn := 36) (lv' := [(4, zi ((fun q_ => pShow (cR 1 μ) (pPut (cS 18 μ) (7 + 4 * l + 2) (nI q_)) l) k)), (7, zi ((fun q_ => pShow (cR 1 μ) (pPut (cS 18 μ) (7 + 4 * l + 2) (nI q_)) l) k)), (0, zr 37), (1, zi (nI l)), (2, zi 2), (3, zi 9), (5, zi c), (6, zi (nI k))]) dX2_worthiest_34 (by decide) rfl rfl ?_
      refine zx_iload (k := 7) (nn := 38) dX2_worthiest_36 rfl rfl ?_
      refine zx_istore (nn := 40) (lv' := [(5, zi (nI k)), (4, zi ((fun q_ => pShow (cR 1 μ) (pPut (cS 18 μ) (7 + 4 * l + 2) (nI q_)) l) k)), (7, zi ((fun q_ => pShow (cR 1 μ) (pPut (cS 18 μ) (7 + 4 * l + 2) (nI q_)) l) k)), (0, zr 37), (1, zi (nI l)), (2, zi 2), (3, zi 9), (6, zi (nI k))]) dX2_worthiest_38 (by decide) rfl rfl ?_
      refine zx_iinc (k := 7) (v := nI (k + 1)) (lv' := [(6, zi (nI (k + 1))), (5, zi (nI k)), (4, zi ((fun q_ => pShow (cR 1 μ) (pPut (cS 18 μ) (7 + 4 * l + 2) (nI q_)) l) k)), (7, zi ((fun q_ => pShow (cR 1 μ) (pPut (cS 18 μ) (7 + 4 * l + 2) (nI q_)) l) k)), (0, zr 37), (1, zi (nI l)), (2, zi 2), (3, zi 9)]) (nn := 43) dX2_worthiest_40 rfl (nI_1 k) (by decide) rfl rfl ?_
      refine zx_goto (tgt := 9) dX2_worthiest_43 (by decide) ?_
      refine zx_lv (lv' := [(0, zr 37), (1, zi (nI l)), (2, zi 2), (3, zi 9), (4, zi ((fun q_ => pShow (cR 1 μ) (pPut (cS 18 μ) (7 + 4 * l + 2) (nI q_)) l) k)), (5, zi (nI k)), (6, zi (nI (k + 1)))]) [4, 5, 6, 7, 2, 1, 0] rfl ?_
      exact ih9 (k + 1, (fun q_ => pShow (cR 1 μ) (pPut (cS 18 μ) (7 + 4 * l + 2) (nI q_)) l) k, nI k, ν1) (show (k + 1) ≤ 10 ∧ pArg (fun q_ => pShow (cR 1 μ) (pPut (cS 18 μ) (7 + 4 * l + 2) (nI q_)) l) (k + 1) = (((fun q_ => pShow (cR 1 μ) (pPut (cS 18 μ) (7 + 4 * l + 2) (nI q_)) l) k), (nI k)) ∧ zJ [6, 25, 26, 27, 28, 29, 30, 31] μ ν1 from ⟨by omega, by show (if _ then _ else _) = _; rw [ha]; exact if_pos (Int32.not_le.mp h29), hj.tr q1⟩) (by show 10 - (k + 1) < 10 - k; omega)
set_option maxHeartbeats 4000000 in
set_option maxRecDepth 100000 in
theorem eX2_firstOutWith_37 (σ : zG) (μ : zM) (l : Nat) (x : Int32) (ok : pOK (cS 18 μ)) (rok : cROK 1 μ) (hl : l < pL (cS 18 μ)) (ok2 : pOK (pPut (cS 18 μ) (7 + 4 * l + 3) x)) : zMet shC σ 5 MX2_firstOutWith yX2_firstOutWith [zr 37, zi (nI l), zi x] μ (fun rr μ' => rr = some (zi (pLost (cR 1 μ) (pPut (cS 18 μ) (7 + 4 * l + 3) x) l)) ∧ zJ [6, 25, 26, 27, 28, 29, 30, 31] μ μ') := by
  have hB16 := (ok_B ok).2
  have hbB := (ok_b ok).2
  have hb1 : μ 18 9 = nI (pb (cS 18 μ)) := (ok_b ok).1
  have hBe : μ 18 8 = nI (pB (cS 18 μ)) := (ok_B ok).1
  have hrem : pRem (cS 18 μ) = pB (cS 18 μ) - pb (cS 18 μ) := rfl
  have hl6 : l < 6 := Nat.lt_of_lt_of_le hl (ok_L ok).2
  obtain ⟨hp1, hp2, hp3, hp4⟩ := pPut_n (s := (cS 18 μ)) (k := 7 + 4 * l + 3) (v := x) (by omega)
  refine zmetF (by decide +kernel) rfl (Nat.le_of_ble_eq_true rfl) ?_
  show zX shC σ 5 MX2_firstOutWith 0 [(0, zr 37), (1, zi (nI l)), (2, zi x)] [] μ _
  refine zx_aload_n (k := 0) (nn := 1) dX2_firstOutWith_0 rfl rfl rfl ?_
  refine zx_getR (q := 25) (nn := 4) flX2_19 rfl rfl dX2_firstOutWith_1 rfl ?_
  refine zx_aload_n (k := 0) (nn := 5) dX2_firstOutWith_4 rfl rfl rfl ?_
  refine zx_getR (q := 18) (nn := 8) flX2_15 rfl rfl dX2_firstOutWith_5 rfl ?_
  refine zx_callV (nn := 11) (k := 25) (d' := 1) (as := [zr 18]) (rest := []) (n := 1) (eX8_copyFrom_25_18 σ μ) kX8_copyFrom mlX2_22 rfl rfl rfl (by decide) rfl rfl (Nat.le_of_ble_eq_true rfl) dX2_firstOutWith_8 rfl ?_
  rintro _ ν1 ⟨rfl, c1, c2⟩
  show zX shC σ 5 MX2_firstOutWith 11 [(0, zr 37), (1, zi (nI l)), (2, zi x)] [] ν1 _
  refine zx_aload_n (k := 0) (nn := 12) dX2_firstOutWith_11 rfl rfl rfl ?_
  refine zx_getR (q := 25) (nn := 15) flX2_19 rfl rfl dX2_firstOutWith_12 rfl ?_
  refine zx_iload_n (k := 1) (nn := 16) dX2_firstOutWith_15 rfl rfl rfl ?_
  refine zx_iconst (v := 3) (nn := 17) rfl dX2_firstOutWith_16 rfl ?_
  refine zx_iload_n (k := 2) (nn := 18) dX2_firstOutWith_17 rfl rfl rfl ?_
  refine zx_callVf (nn := 21) (k := 25) (d' := 1) (as := [zi (nI l), zi 3, zi x]) (rest := []) (n := 3) (eX8_exchange_25_3 σ ν1 l x hl6) kX8_exchange mlX2_36 rfl rfl rfl (by decide) rfl rfl (Nat.le_of_ble_eq_true rfl) dX2_firstOutWith_18 rfl ?_
  show zX shC σ 5 MX2_firstOutWith 21 [(0, zr 37), (1, zi (nI l)), (2, zi x)] [zi (ν1 29 l)] (zp ν1 29 l x) _
  have c3 : cS 25 (zp ν1 29 l x) = pPut (cS 18 μ) (7 + 4 * l + 3) x := by
    funext i
    rw [cS_fld (b := 25) 3 (by omega) hl6 i, c1]
    rfl
  refine zx_popi (nn := 22) dX2_firstOutWith_21 rfl ?_
  refine zx_aload_n (k := 0) (nn := 23) dX2_firstOutWith_22 rfl rfl rfl ?_
  refine zx_getR (q := 18) (nn := 26) flX2_15 rfl rfl dX2_firstOutWith_23 rfl ?_
  refine zx_getI (nn := 29) flX2_40 rfl rfl dX2_firstOutWith_26 rfl ?_
  show zX shC σ 5 MX2_firstOutWith 29 [(0, zr 37), (1, zi (nI l)), (2, zi x)] [zi (ν1 18 9)] (zp ν1 29 l x) _
  rw [show ν1 18 9 = nI (pb (cS 18 μ) + 0) from by rw [c2 18 (by decide)]; exact hb1]
  show zX shC σ 5 MX2_firstOutWith 29 [(0, zr 37), (1, zi (nI l)), (2, zi x)] [zi (nI (pb (cS 18 μ) + 0))] (zp ν1 29 l x) _
  refine zx_istore_n (nn := 30) (lv' := [(3, zi (nI (pb (cS 18 μ) + 0))), (0, zr 37), (1, zi (nI l)), (2, zi x)]) dX2_firstOutWith_29 rfl (by decide) rfl rfl ?_
  refine zx_lv (lv' := [(0, zr 37), (1, zi (nI l)), (2, zi x), (3, zi (nI (pb (cS 18 μ) + 0)))]) [1, 2, 3, 0] rfl ?_
  refine zx_while (τ := Nat × zM) (fun t_ => pRem (cS 18 μ) - t_.1) (fun t_ => t_.1 ≤ pRem (cS 18 μ) ∧ cS 25 t_.2 = pRun (cR 1 μ) (pPut (cS 18 μ) (7 + 4 * l + 3) x) t_.1 ∧ zJ [6, 25, 26, 27, 28, 29, 30, 31] μ t_.2 ∧ pFirst (pOutAt (cR 1 μ) (pPut (cS 18 μ) (7 + 4 * l + 3) x) l) 0 (pRem (cS 18 μ)) = pFirst (pOutAt (cR 1 μ) (pPut (cS 18 μ) (7 + 4 * l + 3) x) l) t_.1 (pRem (cS 18 μ) - t_.1)) (fun t_ => [(0, zr 37), (1, zi (nI l)), (2, zi x), (3, zi (nI (pb (cS 18 μ) + t_.1)))]) (fun t_ => t_.2) (t0 := (0, zp ν1 29 l x)) (⟨Nat.zero_le _, c3, (c2.mono (by simp)).p (by decide), rfl⟩) ?_
  rintro ⟨m, μ1⟩ hI ih30
  replace hI : m ≤ pRem (cS 18 μ) ∧ cS 25 μ1 = pRun (cR 1 μ) (pPut (cS 18 μ) (7 + 4 * l + 3) x) m ∧ zJ [6, 25, 26, 27, 28, 29, 30, 31] μ μ1 ∧ pFirst (pOutAt (cR 1 μ) (pPut (cS 18 μ) (7 + 4 * l + 3) x) l) 0 (pRem (cS 18 μ)) = pFirst (pOutAt (cR 1 μ) (pPut (cS 18 μ) (7 + 4 * l + 3) x) l) m (pRem (cS 18 μ) - m) := hI
  show zX shC σ 5 MX2_firstOutWith 30 [(0, zr 37), (1, zi (nI l)), (2, zi x), (3, zi (nI (pb (cS 18 μ) + m)))] [] μ1 _
  obtain ⟨hm, hs, hj, hv⟩ := hI
  have hR1 : cR 1 μ1 = cR 1 μ := cR_μ (fun k h1 h2 => hj k (by simp; omega))
  have hok1 := pRun_ok (ρ := cR 1 μ) ok2 m (by rw [hp2, hp1]; omega)
  have okm : pOK (cS 25 μ1) := by rw [hs]; exact hok1.1
  have rokm : cROK 1 μ1 := cROK_μ (hj 1 (by decide)).symm (hj 4 (by decide)).symm rok
  have h18 : μ1 18 = μ 18 := hj 18 (by decide)
  refine zx_iload_n (k := 3) (nn := 31) dX2_firstOutWith_30 rfl rfl rfl ?_
  refine zx_aload_n (k := 0) (nn := 32) dX2_firstOutWith_31 rfl rfl rfl ?_
  refine zx_getR (q := 18) (nn := 35) flX2_15 rfl rfl dX2_firstOutWith_32 rfl ?_
  refine zx_getI (nn := 38) flX2_44 rfl rfl dX2_firstOutWith_35 rfl ?_
  rw [show μ1 18 8 = nI (pB (cS 18 μ)) from by rw [h18]; exact hBe]
  show zX shC σ 5 MX2_firstOutWith 38 [(0, zr 37), (1, zi (nI l)), (2, zi x), (3, zi (nI (pb (cS 18 μ) + m)))] [zi (nI (pB (cS 18 μ))), zi (nI (pb (cS 18 μ) + m))] μ1 _
  refine zx_icmp_ge (tgt := 69) (nn := 41) dX2_firstOutWith_38 (by decide) rfl (fun h38 => ?_) (fun h38 => ?_)
  · refine zx_bipush (v := -3) (nn := 71) rfl dX2_firstOutWith_69 rfl ?_
    refine zx_iret rfl dX2_firstOutWith_71 ?_
    have hge := nI_le_le h38 (by omega)
    refine ⟨congrArg (fun x => some (zi x)) ?_, hj⟩
    unfold pLost
    rw [hp4, hv, show pRem (cS 18 μ) - m = 0 by omega]
    rfl
  · have hlt : pb (cS 18 μ) + m < pB (cS 18 μ) := nI_nle_lt h38 (by omega)
    refine zx_aload_n (k := 0) (nn := 42) dX2_firstOutWith_41 rfl rfl rfl ?_
    refine zx_getR (q := 25) (nn := 45) flX2_19 rfl rfl dX2_firstOutWith_42 rfl ?_
    refine zx_iconst (v := -1) (nn := 46) rfl dX2_firstOutWith_45 rfl ?_
    refine zx_callV (nn := 49) (k := 25) (d' := 4) (as := [zi (-1)]) (rest := []) (n := 1) (eX8_goBy_25 σ μ1 (-1) okm rokm (by rw [hs, hok1.2.1, hok1.2.2.1]; rw [hp1, hp2]; omega)) kX8_goBy mlX2_32 rfl rfl rfl (by decide) rfl rfl (Nat.le_of_ble_eq_true rfl) dX2_firstOutWith_46 rfl ?_
    rintro _ ν2 ⟨rfl, g1, g2⟩
    show zX shC σ 5 MX2_firstOutWith 49 [(0, zr 37), (1, zi (nI l)), (2, zi x), (3, zi (nI (pb (cS 18 μ) + m)))] [zi (pGain (cR 1 μ1) (cS 25 μ1) (-1))] ν2 _
    have hs2 : cS 25 ν2 = pRun (cR 1 μ) (pPut (cS 18 μ) (7 + 4 * l + 3) x) (m + 1) := by rw [g1, hR1, hs]; rfl
    have hj2 : zJ [6, 25, 26, 27, 28, 29, 30, 31] μ ν2 := hj.tr (g2.mono (by simp))
    refine zx_popi (nn := 50) dX2_firstOutWith_49 rfl ?_
    have hok2 := pRun_ok (ρ := cR 1 μ) ok2 (m + 1) (by rw [hp2, hp1]; omega)
    refine zx_aload_n (k := 0) (nn := 51) dX2_firstOutWith_50 rfl rfl rfl ?_
    refine zx_getR (q := 25) (nn := 54) flX2_19 rfl rfl dX2_firstOutWith_51 rfl ?_
    refine zx_iload_n (k := 1) (nn := 55) dX2_firstOutWith_54 rfl rfl rfl ?_
    refine zx_callVf (nn := 58) (k := 25) (d' := 2) (as := [zi (nI l)]) (rest := []) (n := 1) (eX8_sightOf_25 σ ν2 l (by rw [hs2]; exact hok2.1) (by rw [hs2, hok2.2.2.2.1, hp3]; exact hl)) kX8_sightOf mlX2_53 rfl rfl rfl (by decide) rfl rfl (Nat.le_of_ble_eq_true rfl) dX2_firstOutWith_55 rfl ?_
    show zX shC σ 5 MX2_firstOutWith 58 [(0, zr 37), (1, zi (nI l)), (2, zi x), (3, zi (nI (pb (cS 18 μ) + m)))] [zi (pSightL (cS 25 ν2) l (pNear (cS 25 ν2) (cS 25 ν2 2 - 1)))] ν2 _
    rw [hs2, pRun_near ok2 (by rw [hp4]; omega)]
    show zX shC σ 5 MX2_firstOutWith 58 [(0, zr 37), (1, zi (nI l)), (2, zi x), (3, zi (nI (pb (cS 18 μ) + m)))] [zi (pSightL (pRun (cR 1 μ) (pPut (cS 18 μ) (7 + 4 * l + 3) x) (m + 1)) l ((pPut (cS 18 μ) (7 + 4 * l + 3) x) (31 + (pb (pPut (cS 18 μ) (7 + 4 * l + 3) x) + m))))] ν2 _
    refine zx_if_ne (tgt := 63) (nn := 61) dX2_firstOutWith_58 (by decide) rfl (fun h58 => ?_) (fun h58 => ?_)
    · refine zx_iinc (k := 3) (v := nI ((pb (cS 18 μ) + m) + 1)) (lv' := [(3, zi (nI ((pb (cS 18 μ) + m) + 1))), (0, zr 37), (1, zi (nI l)), (2, zi x)]) (nn := 66) dX2_firstOutWith_63 rfl (nI_1 (pb (cS 18 μ) + m)) (by decide) rfl rfl ?_
      refine zx_goto (tgt := 30) dX2_firstOutWith_66 (by decide) ?_
      refine zx_lv (lv' := [(0, zr 37), (1, zi (nI l)), (2, zi x), (3, zi (nI ((pb (cS 18 μ) + m) + 1)))]) [1, 2, 3, 0] rfl ?_
      exact ih30 (m + 1, ν2) (show (m + 1) ≤ pRem (cS 18 μ) ∧ cS 25 ν2 = pRun (cR 1 μ) (pPut (cS 18 μ) (7 + 4 * l + 3) x) (m + 1) ∧ zJ [6, 25, 26, 27, 28, 29, 30, 31] μ ν2 ∧ pFirst (pOutAt (cR 1 μ) (pPut (cS 18 μ) (7 + 4 * l + 3) x) l) 0 (pRem (cS 18 μ)) = pFirst (pOutAt (cR 1 μ) (pPut (cS 18 μ) (7 + 4 * l + 3) x) l) (m + 1) (pRem (cS 18 μ) - (m + 1)) from ⟨by omega, hs2, hj2, by rw [hv, pFirst_step (by omega), show pOutAt (cR 1 μ) (pPut (cS 18 μ) (7 + 4 * l + 3) x) l m = false from decide_eq_false h58]; rfl⟩) (by show pRem (cS 18 μ) - (m + 1) < pRem (cS 18 μ) - m; omega)
    · refine zx_iload_n (k := 3) (nn := 62) dX2_firstOutWith_61 rfl rfl rfl ?_
      refine zx_iret rfl dX2_firstOutWith_62 ?_
      refine ⟨congrArg (fun x => some (zi x)) ?_, hj2⟩
      unfold pLost
      rw [hp4, hv, pFirst_step (by omega), show pOutAt (cR 1 μ) (pPut (cS 18 μ) (7 + 4 * l + 3) x) l m = true from decide_eq_true h58]
      show _ = nI (pb _ + m)
      rw [hp1]
set_option maxHeartbeats 4000000 in
set_option maxRecDepth 100000 in
theorem eX2_leastStep_37 (σ : zG) (μ : zM) (l : Nat) (ok : pOK (cS 18 μ)) (rok : cROK 1 μ) (hl : l < pL (cS 18 μ)) : zMet shC σ 6 MX2_leastStep yX2_leastStep [zr 37, zi (nI l)] μ (fun rr μ' => rr = some (zi (pStep (cR 1 μ) (cS 18 μ) l)) ∧ zJ [6, 25, 26, 27, 28, 29, 30, 31] μ μ') := by
  refine zmetF (by decide +kernel) rfl (Nat.le_of_ble_eq_true rfl) ?_
  show zX shC σ 6 MX2_leastStep 0 [(0, zr 37), (1, zi (nI l))] [] μ _
  refine zx_iconst (v := 1) (nn := 1) rfl dX2_leastStep_0 rfl ?_
  refine zx_istore_n (nn := 2) (lv' := [(2, zi 1), (0, zr 37), (1, zi (nI l))]) dX2_leastStep_1 rfl (by decide) rfl rfl ?_
  refine zx_lv (lv' := [(0, zr 37), (1, zi (nI l)), (2, zi 1)]) [1, 2, 0] rfl ?_
  refine zx_while (τ := Nat × zM) (fun t_ => 9 - t_.1) (fun t_ => t_.1 ≤ 9 ∧ zJ [6, 25, 26, 27, 28, 29, 30, 31] μ t_.2 ∧ pFirst (fun q_ => decide (pLost (cR 1 μ) (pPut (cS 18 μ) (7 + 4 * l + 3) (nI (q_ + 1))) l = -3)) 0 9 = pFirst (fun q_ => decide (pLost (cR 1 μ) (pPut (cS 18 μ) (7 + 4 * l + 3) (nI (q_ + 1))) l = -3)) t_.1 (9 - t_.1)) (fun t_ => [(0, zr 37), (1, zi (nI l)), (2, zi (nI (t_.1 + 1)))]) (fun t_ => t_.2) (t0 := (0, μ)) (⟨Nat.zero_le _, zJ.rf, rfl⟩) ?_
  rintro ⟨k, μ1⟩ hI ih2
  replace hI : k ≤ 9 ∧ zJ [6, 25, 26, 27, 28, 29, 30, 31] μ μ1 ∧ pFirst (fun q_ => decide (pLost (cR 1 μ) (pPut (cS 18 μ) (7 + 4 * l + 3) (nI (q_ + 1))) l = -3)) 0 9 = pFirst (fun q_ => decide (pLost (cR 1 μ) (pPut (cS 18 μ) (7 + 4 * l + 3) (nI (q_ + 1))) l = -3)) k (9 - k) := hI
  show zX shC σ 6 MX2_leastStep 2 [(0, zr 37), (1, zi (nI l)), (2, zi (nI (k + 1)))] [] μ1 _
  obtain ⟨hk, hj, hv⟩ := hI
  have hR1 : cR 1 μ1 = cR 1 μ := cR_μ (fun k h1 h2 => hj k (by simp; omega))
  have es1 : cS 18 μ1 = cS 18 μ := cS_eq (fun k hk => hj k (by simp; omega))
  have ok1 : pOK (cS 18 μ1) := by rw [es1]; exact ok
  have rok1 : cROK 1 μ1 := cROK_μ (hj 1 (by decide)).symm (hj 4 (by decide)).symm rok
  refine zx_iload_n (k := 2) (nn := 3) dX2_leastStep_2 rfl rfl rfl ?_
  refine zx_bipush (v := 9) (nn := 5) rfl dX2_leastStep_3 rfl ?_
  refine zx_icmp_gt (tgt := 27) (nn := 8) dX2_leastStep_5 (by decide) rfl (fun h5 => ?_) (fun h5 => ?_)
  · refine zx_bipush (v := -3) (nn := 29) rfl dX2_leastStep_27 rfl ?_
    refine zx_iret rfl dX2_leastStep_29 ?_
    have hge : 9 < k + 1 := (nI_ltI (a := 9) (by omega) (by omega)).mp h5
    refine ⟨congrArg (fun x => some (zi x)) ?_, hj⟩
    unfold pStep
    rw [hv, show 9 - k = 0 by omega]
    rfl
  · have hlt : k + 1 ≤ 9 := (nI_leI (b := 9) (by omega) (by omega)).mp (Int32.not_lt.mp h5)
    refine zx_aload_n (k := 0) (nn := 9) dX2_leastStep_8 rfl rfl rfl ?_
    refine zx_iload_n (k := 1) (nn := 10) dX2_leastStep_9 rfl rfl rfl ?_
    refine zx_iload_n (k := 2) (nn := 11) dX2_leastStep_10 rfl rfl rfl ?_
    refine zx_callV (nn := 14) (k := 37) (d' := 5) (as := [zi (nI l), zi (nI (k + 1))]) (rest := []) (n := 2) (eX2_firstOutWith_37 σ μ1 l (nI (k + 1)) ok1 rok1 (by rw [es1]; exact hl) (by rw [es1]; exact pOK_step ok hl (by omega))) kX2_firstOutWith mlX2_56 rfl rfl rfl (by decide) rfl rfl (Nat.le_of_ble_eq_true rfl) dX2_leastStep_11 rfl ?_
    rintro _ ν1 ⟨rfl, q1⟩
    show zX shC σ 6 MX2_leastStep 14 [(0, zr 37), (1, zi (nI l)), (2, zi (nI (k + 1)))] [zi (pLost (cR 1 μ1) (pPut (cS 18 μ1) (7 + 4 * l + 3) (nI (k + 1))) l)] ν1 _
    rw [show pLost (cR 1 μ1) (pPut (cS 18 μ1) (7 + 4 * l + 3) (nI (k + 1))) l = pLost (cR 1 μ) (pPut (cS 18 μ) (7 + 4 * l + 3) (nI (k + 1))) l from by rw [hR1, es1]]
    show zX shC σ 6 MX2_leastStep 14 [(0, zr 37), (1, zi (nI l)), (2, zi (nI (k + 1)))] [zi (pLost (cR 1 μ) (pPut (cS 18 μ) (7 + 4 * l + 3) (nI (k + 1))) l)] ν1 _
    refine zx_bipush (v := -3) (nn := 16) rfl dX2_leastStep_14 rfl ?_
    refine zx_icmp_ne (tgt := 21) (nn := 19) dX2_leastStep_16 (by decide) rfl (fun h16 => ?_) (fun h16 => ?_)
    · refine zx_iinc (k := 2) (v := nI ((k + 1) + 1)) (lv' := [(2, zi (nI ((k + 1) + 1))), (0, zr 37), (1, zi (nI l))]) (nn := 24) dX2_leastStep_21 rfl (nI_1 (k + 1)) (by decide) rfl rfl ?_
      refine zx_goto (tgt := 2) dX2_leastStep_24 (by decide) ?_
      refine zx_lv (lv' := [(0, zr 37), (1, zi (nI l)), (2, zi (nI ((k + 1) + 1)))]) [1, 2, 0] rfl ?_
      exact ih2 (k + 1, ν1) (show (k + 1) ≤ 9 ∧ zJ [6, 25, 26, 27, 28, 29, 30, 31] μ ν1 ∧ pFirst (fun q_ => decide (pLost (cR 1 μ) (pPut (cS 18 μ) (7 + 4 * l + 3) (nI (q_ + 1))) l = -3)) 0 9 = pFirst (fun q_ => decide (pLost (cR 1 μ) (pPut (cS 18 μ) (7 + 4 * l + 3) (nI (q_ + 1))) l = -3)) (k + 1) (9 - (k + 1)) from ⟨by omega, hj.tr q1, by rw [hv, pFirst_step (by omega)]; exact if_neg (by rw [decide_eq_false h16]; decide)⟩) (by show 9 - (k + 1) < 9 - k; omega)
    · refine zx_iload_n (k := 2) (nn := 20) dX2_leastStep_19 rfl rfl rfl ?_
      refine zx_iret rfl dX2_leastStep_20 ?_
      refine ⟨congrArg (fun x => some (zi x)) ?_, hj.tr q1⟩
      unfold pStep
      rw [hv, pFirst_step (by omega), if_pos (decide_eq_true h16)]
set_option maxHeartbeats 4000000 in
set_option maxRecDepth 100000 in
theorem eX2_crossings_37 (σ : zG) (μ : zM) (l : Nat) (k : Nat) (ok : pOK (cS 18 μ)) (rok : cROK 1 μ) (hl : l < pL (cS 18 μ)) (hk : k < pL (cS 18 μ)) : zMet shC σ 5 MX2_crossings yX2_crossings [zr 37, zi (nI l), zi (nI k)] μ (fun rr μ' => rr = some (zi (pCross (cR 1 μ) (cS 18 μ) l k)) ∧ zJ [6, 25, 26, 27, 28, 29, 30, 31] μ μ') := by
  have hB16 := (ok_B ok).2
  have hbB := (ok_b ok).2
  have hb1 : μ 18 9 = nI (pb (cS 18 μ)) := (ok_b ok).1
  have hBe : μ 18 8 = nI (pB (cS 18 μ)) := (ok_B ok).1
  have hrem : pRem (cS 18 μ) = pB (cS 18 μ) - pb (cS 18 μ) := rfl
  have hl6 : l < 6 := Nat.lt_of_lt_of_le hl (ok_L ok).2
  have hk6 : k < 6 := Nat.lt_of_lt_of_le hk (ok_L ok).2
  refine zmetF (by decide +kernel) rfl (Nat.le_of_ble_eq_true rfl) ?_
  show zX shC σ 5 MX2_crossings 0 [(0, zr 37), (1, zi (nI l)), (2, zi (nI k))] [] μ _
  refine zx_aload_n (k := 0) (nn := 1) dX2_crossings_0 rfl rfl rfl ?_
  refine zx_getR (q := 25) (nn := 4) flX2_19 rfl rfl dX2_crossings_1 rfl ?_
  refine zx_aload_n (k := 0) (nn := 5) dX2_crossings_4 rfl rfl rfl ?_
  refine zx_getR (q := 18) (nn := 8) flX2_15 rfl rfl dX2_crossings_5 rfl ?_
  refine zx_callV (nn := 11) (k := 25) (d' := 1) (as := [zr 18]) (rest := []) (n := 1) (eX8_copyFrom_25_18 σ μ) kX8_copyFrom mlX2_22 rfl rfl rfl (by decide) rfl rfl (Nat.le_of_ble_eq_true rfl) dX2_crossings_8 rfl ?_
  rintro _ ν1 ⟨rfl, c1, c2⟩
  show zX shC σ 5 MX2_crossings 11 [(0, zr 37), (1, zi (nI l)), (2, zi (nI k))] [] ν1 _
  refine zx_iconst (v := 0) (nn := 12) rfl dX2_crossings_11 rfl ?_
  refine zx_istore_n (nn := 13) (lv' := [(3, zi 0), (0, zr 37), (1, zi (nI l)), (2, zi (nI k))]) dX2_crossings_12 rfl (by decide) rfl rfl ?_
  refine zx_aload_n (k := 1) (nn := 14) dX2_crossings_13 rfl rfl rfl ?_
  refine zx_getR (q := 18) (nn := 17) flX2_15 rfl rfl dX2_crossings_14 rfl ?_
  refine zx_getI (nn := 20) flX2_40 rfl rfl dX2_crossings_17 rfl ?_
  rw [show ν1 18 9 = nI (pb (cS 18 μ) + 0) from by rw [c2 18 (by decide)]; exact hb1]
  show zX shC σ 5 MX2_crossings 20 [(3, zi 0), (0, zr 37), (1, zi (nI l)), (2, zi (nI k))] [zi (nI (pb (cS 18 μ) + 0))] ν1 _
  refine zx_istore (nn := 22) (lv' := [(4, zi (nI (pb (cS 18 μ) + 0))), (3, zi 0), (0, zr 37), (1, zi (nI l)), (2, zi (nI k))]) dX2_crossings_20 (by decide) rfl rfl ?_
  refine zx_lv (lv' := [(0, zr 37), (1, zi (nI l)), (2, zi (nI k)), (3, zi 0), (4, zi (nI (pb (cS 18 μ) + 0)))]) [2, 3, 4, 1, 0] rfl ?_
  refine zx_while (τ := Nat × Nat × zM) (fun t_ => pRem (cS 18 μ) - t_.1) (fun t_ => t_.1 ≤ pRem (cS 18 μ) ∧ cS 25 t_.2.2 = pRun (cR 1 μ) (cS 18 μ) t_.1 ∧ zJ [6, 25, 26, 27, 28, 29, 30, 31] μ t_.2.2 ∧ t_.2.1 = pCount (pCrossAt (cR 1 μ) (cS 18 μ) l k) t_.1) (fun t_ => [(0, zr 37), (1, zi (nI l)), (2, zi (nI k)), (3, zi (nI t_.2.1)), (4, zi (nI (pb (cS 18 μ) + t_.1)))]) (fun t_ => t_.2.2) (t0 := (0, 0, ν1)) (⟨Nat.zero_le _, c1, c2.mono (by simp), rfl⟩) ?_
  rintro ⟨m, c, μ1⟩ hI ih22
  replace hI : m ≤ pRem (cS 18 μ) ∧ cS 25 μ1 = pRun (cR 1 μ) (cS 18 μ) m ∧ zJ [6, 25, 26, 27, 28, 29, 30, 31] μ μ1 ∧ c = pCount (pCrossAt (cR 1 μ) (cS 18 μ) l k) m := hI
  show zX shC σ 5 MX2_crossings 22 [(0, zr 37), (1, zi (nI l)), (2, zi (nI k)), (3, zi (nI c)), (4, zi (nI (pb (cS 18 μ) + m)))] [] μ1 _
  obtain ⟨hm, hs, hj, hv⟩ := hI
  have hR1 : cR 1 μ1 = cR 1 μ := cR_μ (fun k h1 h2 => hj k (by simp; omega))
  have hok1 := pRun_ok (ρ := cR 1 μ) ok m (by omega)
  have okm : pOK (cS 25 μ1) := by rw [hs]; exact hok1.1
  have rokm : cROK 1 μ1 := cROK_μ (hj 1 (by decide)).symm (hj 4 (by decide)).symm rok
  have h18 : μ1 18 = μ 18 := hj 18 (by decide)
  have hcl : c ≤ 16 := by have := pCount_le (pCrossAt (cR 1 μ) (cS 18 μ) l k) m; omega
  refine zx_iload (k := 4) (nn := 24) dX2_crossings_22 rfl rfl ?_
  refine zx_aload_n (k := 0) (nn := 25) dX2_crossings_24 rfl rfl rfl ?_
  refine zx_getR (q := 18) (nn := 28) flX2_15 rfl rfl dX2_crossings_25 rfl ?_
  refine zx_getI (nn := 31) flX2_44 rfl rfl dX2_crossings_28 rfl ?_
  rw [show μ1 18 8 = nI (pB (cS 18 μ)) from by rw [h18]; exact hBe]
  show zX shC σ 5 MX2_crossings 31 [(0, zr 37), (1, zi (nI l)), (2, zi (nI k)), (3, zi (nI c)), (4, zi (nI (pb (cS 18 μ) + m)))] [zi (nI (pB (cS 18 μ))), zi (nI (pb (cS 18 μ) + m))] μ1 _
  refine zx_icmp_ge (tgt := 106) (nn := 34) dX2_crossings_31 (by decide) rfl (fun h31 => ?_) (fun h31 => ?_)
  · refine zx_iload_n (k := 3) (nn := 107) dX2_crossings_106 rfl rfl rfl ?_
    refine zx_iret rfl dX2_crossings_107 ?_
    have hge := nI_le_le h31 (by omega)
    refine ⟨congrArg (fun x => some (zi x)) ?_, hj⟩
    unfold pCross
    rw [hv, show m = pRem (cS 18 μ) by omega]
  · have hlt : pb (cS 18 μ) + m < pB (cS 18 μ) := nI_nle_lt h31 (by omega)
    refine zx_aload_n (k := 0) (nn := 35) dX2_crossings_34 rfl rfl rfl ?_
    refine zx_getR (q := 25) (nn := 38) flX2_19 rfl rfl dX2_crossings_35 rfl ?_
    refine zx_getR (q := 27) (nn := 41) flX2_60 rfl rfl dX2_crossings_38 rfl ?_
    refine zx_iload_n (k := 1) (nn := 42) dX2_crossings_41 rfl rfl rfl ?_
    refine zx_iald_n (j := l) (nn := 43) rfl hl6 (by decide) dX2_crossings_42 rfl ?_
    refine zx_aload_n (k := 0) (nn := 44) dX2_crossings_43 rfl rfl rfl ?_
    refine zx_getR (q := 25) (nn := 47) flX2_19 rfl rfl dX2_crossings_44 rfl ?_
    refine zx_getR (q := 27) (nn := 50) flX2_60 rfl rfl dX2_crossings_47 rfl ?_
    refine zx_iload_n (k := 2) (nn := 51) dX2_crossings_50 rfl rfl rfl ?_
    refine zx_iald_n (j := k) (nn := 52) rfl hk6 (by decide) dX2_crossings_51 rfl ?_
    refine zx_callSf (nn := 55) (d' := 0) (as := [zi (μ1 27 l), zi (μ1 27 k)]) (rest := []) (n := 2) (eJ6_compare_7cf53 σ μ1 (μ1 27 l) (μ1 27 k)  ) kJ6_compare_7cf53 mlX2_63 (by decide) rfl rfl (Nat.le_of_ble_eq_true rfl) dX2_crossings_52 rfl ?_
    show zX shC σ 5 MX2_crossings 55 [(0, zr 37), (1, zi (nI l)), (2, zi (nI k)), (3, zi (nI c)), (4, zi (nI (pb (cS 18 μ) + m)))] [zi (pCmp (μ1 27 l) (μ1 27 k))] μ1 _
    refine zx_istore (nn := 57) (lv' := [(5, zi (pCmp (μ1 27 l) (μ1 27 k))), (0, zr 37), (1, zi (nI l)), (2, zi (nI k)), (3, zi (nI c)), (4, zi (nI (pb (cS 18 μ) + m)))]) dX2_crossings_55 (by decide) rfl rfl ?_
    refine zx_aload_n (k := 1) (nn := 58) dX2_crossings_57 rfl rfl rfl ?_
    refine zx_getR (q := 25) (nn := 61) flX2_19 rfl rfl dX2_crossings_58 rfl ?_
    refine zx_iconst (v := -1) (nn := 62) rfl dX2_crossings_61 rfl ?_
    refine zx_callV (nn := 65) (k := 25) (d' := 4) (as := [zi (-1)]) (rest := []) (n := 1) (eX8_goBy_25 σ μ1 (-1) okm rokm (by rw [hs, hok1.2.1, hok1.2.2.1]; omega)) kX8_goBy mlX2_32 rfl rfl rfl (by decide) rfl rfl (Nat.le_of_ble_eq_true rfl) dX2_crossings_62 rfl ?_
    rintro _ ν2 ⟨rfl, g1, g2⟩
    show zX shC σ 5 MX2_crossings 65 [(5, zi (pCmp (μ1 27 l) (μ1 27 k))), (0, zr 37), (1, zi (nI l)), (2, zi (nI k)), (3, zi (nI c)), (4, zi (nI (pb (cS 18 μ) + m)))] [zi (pGain (cR 1 μ1) (cS 25 μ1) (-1))] ν2 _
    have hs2 : cS 25 ν2 = pRun (cR 1 μ) (cS 18 μ) (m + 1) := by rw [g1, hR1, hs]; rfl
    have hj2 : zJ [6, 25, 26, 27, 28, 29, 30, 31] μ ν2 := hj.tr (g2.mono (by simp))
    refine zx_popi (nn := 66) dX2_crossings_65 rfl ?_
    refine zx_aload_n (k := 1) (nn := 67) dX2_crossings_66 rfl rfl rfl ?_
    refine zx_getR (q := 25) (nn := 70) flX2_19 rfl rfl dX2_crossings_67 rfl ?_
    refine zx_getR (q := 27) (nn := 73) flX2_60 rfl rfl dX2_crossings_70 rfl ?_
    refine zx_iload_n (k := 2) (nn := 74) dX2_crossings_73 rfl rfl rfl ?_
    refine zx_iald_n (j := l) (nn := 75) rfl hl6 (by decide) dX2_crossings_74 rfl ?_
    refine zx_aload_n (k := 1) (nn := 76) dX2_crossings_75 rfl rfl rfl ?_
    refine zx_getR (q := 25) (nn := 79) flX2_19 rfl rfl dX2_crossings_76 rfl ?_
    refine zx_getR (q := 27) (nn := 82) flX2_60 rfl rfl dX2_crossings_79 rfl ?_
    refine zx_iload_n (k := 3) (nn := 83) dX2_crossings_82 rfl rfl rfl ?_
    refine zx_iald_n (j := k) (nn := 84) rfl hk6 (by decide) dX2_crossings_83 rfl ?_
    refine zx_callSf (nn := 87) (d' := 0) (as := [zi (ν2 27 l), zi (ν2 27 k)]) (rest := []) (n := 2) (eJ6_compare_7cf53 σ ν2 (ν2 27 l) (ν2 27 k)  ) kJ6_compare_7cf53 mlX2_63 (by decide) rfl rfl (Nat.le_of_ble_eq_true rfl) dX2_crossings_84 rfl ?_
    show zX shC σ 5 MX2_crossings 87 [(5, zi (pCmp (μ1 27 l) (μ1 27 k))), (0, zr 37), (1, zi (nI l)), (2, zi (nI k)), (3, zi (nI c)), (4, zi (nI (pb (cS 18 μ) + m)))] [zi (pCmp (ν2 27 l) (ν2 27 k))] ν2 _
    refine zx_istore (nn := 89) (lv' := [(6, zi (pCmp (ν2 27 l) (ν2 27 k))), (5, zi (pCmp (μ1 27 l) (μ1 27 k))), (0, zr 37), (1, zi (nI l)), (2, zi (nI k)), (3, zi (nI c)), (4, zi (nI (pb (cS 18 μ) + m)))]) dX2_crossings_87 (by decide) rfl rfl ?_
    refine zx_iload (k := 1) (nn := 91) dX2_crossings_89 rfl rfl ?_
    refine zx_iload (k := 0) (nn := 93) dX2_crossings_91 rfl rfl ?_
    refine zx_imul (nn := 94) dX2_crossings_93 rfl ?_
    have hc : ((pCmp (μ1 27 l) (μ1 27 k)) * (pCmp (ν2 27 l) (ν2 27 k)) < 0) = ((pCrossAt (cR 1 μ) (cS 18 μ) l k) m = true) := by
      rw [show μ1 27 l = pRun (cR 1 μ) (cS 18 μ) m (7 + 4 * l + 1) by rw [← hs]; exact (cS_a hl6).symm, show μ1 27 k = pRun (cR 1 μ) (cS 18 μ) m (7 + 4 * k + 1) by rw [← hs]; exact (cS_a hk6).symm]
      rw [show ν2 27 l = pRun (cR 1 μ) (cS 18 μ) (m + 1) (7 + 4 * l + 1) by rw [← hs2]; exact (cS_a hl6).symm, show ν2 27 k = pRun (cR 1 μ) (cS 18 μ) (m + 1) (7 + 4 * k + 1) by rw [← hs2]; exact (cS_a hk6).symm]
      exact propext pCmp_cross
    refine zx_if_ge (tgt := 100) (nn := 97) dX2_crossings_94 (by decide) rfl (fun h94 => ?_) (fun h94 => ?_)
    · refine zx_iinc (k := 6) (v := nI ((pb (cS 18 μ) + m) + 1)) (lv' := [(4, zi (nI ((pb (cS 18 μ) + m) + 1))), (6, zi (pCmp (ν2 27 l) (ν2 27 k))), (5, zi (pCmp (μ1 27 l) (μ1 27 k))), (0, zr 37), (1, zi (nI l)), (2, zi (nI k)), (3, zi (nI c))]) (nn := 103) dX2_crossings_100 rfl (nI_1 (pb (cS 18 μ) + m)) (by decide) rfl rfl ?_
      refine zx_goto (tgt := 22) dX2_crossings_103 (by decide) ?_
      refine zx_lv (lv' := [(0, zr 37), (1, zi (nI l)), (2, zi (nI k)), (3, zi (nI c)), (4, zi (nI ((pb (cS 18 μ) + m) + 1)))]) [3, 4, 5, 6, 0] rfl ?_
      exact ih22 (m + 1, c, ν2) (show (m + 1) ≤ pRem (cS 18 μ) ∧ cS 25 ν2 = pRun (cR 1 μ) (cS 18 μ) (m + 1) ∧ zJ [6, 25, 26, 27, 28, 29, 30, 31] μ ν2 ∧ c = pCount (pCrossAt (cR 1 μ) (cS 18 μ) l k) (m + 1) from ⟨by omega, hs2, hj2, by show _ = if _ then _ else _; rw [if_neg (by rw [← hc]; exact Int32.not_lt.mpr h94)]; rw [hv]⟩) (by show pRem (cS 18 μ) - (m + 1) < pRem (cS 18 μ) - m; omega)
    · refine zx_iinc (k := 5) (v := nI (c + 1)) (lv' := [(3, zi (nI (c + 1))), (6, zi (pCmp (ν2 27 l) (ν2 27 k))), (5, zi (pCmp (μ1 27 l) (μ1 27 k))), (0, zr 37), (1, zi (nI l)), (2, zi (nI k)), (4, zi (nI (pb (cS 18 μ) + m)))]) (nn := 100) dX2_crossings_97 rfl (nI_1 c) (by decide) rfl rfl ?_
      refine zx_iinc (k := 6) (v := nI ((pb (cS 18 μ) + m) + 1)) (lv' := [(4, zi (nI ((pb (cS 18 μ) + m) + 1))), (3, zi (nI (c + 1))), (6, zi (pCmp (ν2 27 l) (ν2 27 k))), (5, zi (pCmp (μ1 27 l) (μ1 27 k))), (0, zr 37), (1, zi (nI l)), (2, zi (nI k))]) (nn := 103) dX2_crossings_100 rfl (nI_1 (pb (cS 18 μ) + m)) (by decide) rfl rfl ?_
      refine zx_goto (tgt := 22) dX2_crossings_103 (by decide) ?_
      refine zx_lv (lv' := [(0, zr 37), (1, zi (nI l)), (2, zi (nI k)), (3, zi (nI (c + 1))), (4, zi (nI ((pb (cS 18 μ) + m) + 1)))]) [4, 5, 6, 1, 0] rfl ?_
      exact ih22 (m + 1, c + 1, ν2) (show (m + 1) ≤ pRem (cS 18 μ) ∧ cS 25 ν2 = pRun (cR 1 μ) (cS 18 μ) (m + 1) ∧ zJ [6, 25, 26, 27, 28, 29, 30, 31] μ ν2 ∧ (c + 1) = pCount (pCrossAt (cR 1 μ) (cS 18 μ) l k) (m + 1) from ⟨by omega, hs2, hj2, by show _ = if _ then _ else _; rw [if_pos (by rw [← hc]; exact Int32.not_le.mp h94)]; rw [hv]⟩) (by show pRem (cS 18 μ) - (m + 1) < pRem (cS 18 μ) - m; omega)
