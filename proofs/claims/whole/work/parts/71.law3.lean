def lE (a d : Int32) : Int64 := (a.toInt64 <<< ((32 : Int32).toInt64 &&& 63)) ||| (d.toInt64 &&& 4294967295)
section
variable {p : Program} {e : Env} {s : State} {m : MethodId} {below : List Frame} {meth : Method} {c : Code} {b L : Nat} {xs : Nat → Int32} {σ τ : zG} {μ ν : zM} {i : Nat}
theorem lx_hi {pc nn : Nat} {a : Int32} {st : List Value} {lv : List (Nat × Value)} (C : lC p s m meth c b L xs σ τ) (d0 : decode code pc = .ok (.i2l, 1)) (d1 : decode code (pc + 1) = .ok (.bipush 32, 2)) (d2 : decode code (pc + 3) = .ok (.lshl, 1)) (hpc : nn = pc + 4)
    (kk : lX p e s m below meth c b σ τ nn lv (Value.long (a.toInt64 <<< ((32 : Int32).toInt64 &&& 63)) :: st) μ ν) : lX p e s m below meth c b σ τ pc lv (Value.int a :: st) μ ν := by
  subst hpc
  intro H locs ls hPc hPr hS hl
  refine lv_i2l C.1.1 C.1.2.1 d0 rfl ?_
  refine lv_bipush (v := 32) C.1.1 C.1.2.1 d1 (by decide) ?_
  refine lv_lshl C.1.1 C.1.2.1 d2 rfl ?_
  exact kk H locs ls hPc hPr hS hl
theorem lx_lo {pc nn : Nat} {a d : Int32} {st : List Value} {lv : List (Nat × Value)} (C : lC p s m meth c b L xs σ τ) (d0 : decode code pc = .ok (.i2l, 1)) (d1 : decode code (pc + 1) = .ok (.ldc2_w 54, 3)) (d2 : decode code (pc + 4) = .ok (.land, 1)) (d3 : decode code (pc + 5) = .ok (.lor, 1)) (hpc : nn = pc + 6)
    (kk : lX p e s m below meth c b σ τ nn lv (Value.long (lE a d) :: st) μ ν) : lX p e s m below meth c b σ τ pc lv (Value.int d :: Value.long (a.toInt64 <<< ((32 : Int32).toInt64 &&& 63)) :: st) μ ν := by
  subst hpc
  intro H locs ls hPc hPr hS hl
  refine lv_i2l C.1.1 C.1.2.1 d0 rfl ?_
  refine lv_ldc2 (v := 4294967295) C.1.1 C.1.2.1 C.1.2.2.2.2.1 (C.1.2.2.2.2.2.1 (.constantLong R_law 54 4294967295) (List.mem_append_right _ (List.mem_of_getElem? (i := 1696) (by decide +kernel)))) d1 ?_
  refine lv_land C.1.1 C.1.2.1 d2 ?_
  refine lv_lor C.1.1 C.1.2.1 d3 ?_
  exact kk H locs ls hPc hPr hS hl
theorem law_9 (C : lC p s m meth c b L xs σ τ) (w : wW μ ν) (hi : i + 5 ≤ L) (kk : ∀ μ' ν', wW μ' ν' → lX p e s m below meth c b σ τ 1631 (lvL σ τ b i) [] μ' ν') : lX p e s m below meth c b σ τ 521 (lvL σ τ b i) [] μ ν := by
  obtain ⟨P, Q, h1, h2, h3⟩ := w_feed (lE (xs (i + 1)) (xs (i + 2))) (xs (i + 3)) σ τ μ ν w
  refine lx_al1 C dL_law_521 rfl ?_
  refine lx_arg (k := 1) C hi (by decide) dL_law_522 dL_law_523 dL_law_524 dL_law_525 dL_law_526 rfl ?_
  refine lx_hi C dL_law_527 dL_law_528 dL_law_530 rfl ?_
  refine lx_arg (k := 2) C hi (by decide) dL_law_531 dL_law_532 dL_law_533 dL_law_534 dL_law_535 rfl ?_
  refine lx_lo C dL_law_536 dL_law_537 dL_law_540 dL_law_541 rfl ?_
  refine lx_arg (k := 3) C hi (by decide) dL_law_542 dL_law_543 dL_law_544 dL_law_545 dL_law_546 rfl ?_
  refine lx_callC C h1 kX10_feed mlL_56 rfl rfl rfl (by decide) rfl rfl (by decide) dL_law_547 rfl (fun r μ' hr => ?_)
  refine lx_al2 C dL_law_550 rfl ?_
  refine lx_arg (k := 1) C hi (by decide) dL_law_551 dL_law_552 dL_law_553 dL_law_554 dL_law_555 rfl ?_
  refine lx_hi C dL_law_556 dL_law_557 dL_law_559 rfl ?_
  refine lx_arg (k := 2) C hi (by decide) dL_law_560 dL_law_561 dL_law_562 dL_law_563 dL_law_564 rfl ?_
  refine lx_lo C dL_law_565 dL_law_566 dL_law_569 dL_law_570 rfl ?_
  refine lx_arg (k := 3) C hi (by decide) dL_law_571 dL_law_572 dL_law_573 dL_law_574 dL_law_575 rfl ?_
  refine lx_callM C h2 kX11_feed mlL_60 rfl rfl rfl (by decide) rfl rfl (lx_cat _ _) dL_law_576 rfl (fun t ν' ht => ?_)
  obtain ⟨v, rfl, rfl, w'⟩ := h3 _ _ _ _ hr ht
  exact lx_eq C dL_law_579 rfl (kk _ _ w')
theorem law_sw {x : Int32} (C : lC p s m meth c b L xs σ τ) (w : wW μ ν) (hi : i + 5 ≤ L) (kk : ∀ μ' ν', wW μ' ν' → lX p e s m below meth c b σ τ 1631 (lvL σ τ b i) [] μ' ν') : lX p e s m below meth c b σ τ 32 (lvL σ τ b i) [Value.int x] μ ν := by
  intro H locs ls hPc hPr hS hl
  by_cases o : x.toInt < 0 ∨ 48 < x.toInt
  · exact lv_tableOut (tgt := 1631) C.1.1 C.1.2.1 dL_law_32 o (by decide) (kk μ ν w H locs ls hPc hPr hS hl)
  · obtain ⟨k, hk, h48⟩ : ∃ k : Nat, x.toInt = (k : Int) ∧ k ≤ 48 := ⟨x.toInt.toNat, by omega, by omega⟩
    have h1 : ¬ x.toInt < 0 := fun q => o (Or.inl q)
    have h2 : ¬ (48 : Int) < x.toInt := fun q => o (Or.inr q)
    rcases (show k = 0 ∨ k = 1 ∨ k = 2 ∨ k = 3 ∨ k = 4 ∨ k = 5 ∨ k = 6 ∨ k = 7 ∨ k = 8 ∨ k = 9 ∨ k = 10 ∨ k = 11 ∨ k = 12 ∨ k = 13 ∨ k = 14 ∨ k = 15 ∨ k = 16 ∨ k = 17 ∨ k = 18 ∨ k = 19 ∨ k = 20 ∨ k = 21 ∨ k = 22 ∨ k = 23 ∨ k = 24 ∨ k = 25 ∨ k = 26 ∨ k = 27 ∨ k = 28 ∨ k = 29 ∨ k = 30 ∨ k = 31 ∨ k = 32 ∨ k = 33 ∨ k = 34 ∨ k = 35 ∨ k = 36 ∨ k = 37 ∨ k = 38 ∨ k = 39 ∨ k = 40 ∨ k = 41 ∨ k = 42 ∨ k = 43 ∨ k = 44 ∨ k = 45 ∨ k = 46 ∨ k = 47 ∨ k = 48 by omega) with rfl | rfl | rfl | rfl | rfl | rfl | rfl | rfl | rfl | rfl | rfl | rfl | rfl | rfl | rfl | rfl | rfl | rfl | rfl | rfl | rfl | rfl | rfl | rfl | rfl | rfl | rfl | rfl | rfl | rfl | rfl | rfl | rfl | rfl | rfl | rfl | rfl | rfl | rfl | rfl | rfl | rfl | rfl | rfl | rfl | rfl | rfl | rfl | rfl
    · exact lv_tableIn (tgt := 244) C.1.1 C.1.2.1 dL_law_32 h1 h2 (by rw [hk]; rfl) (by decide) (law_0 C w hi kk H locs ls hPc hPr hS hl)
    · exact lv_tableIn (tgt := 297) C.1.1 C.1.2.1 dL_law_32 h1 h2 (by rw [hk]; rfl) (by decide) (law_1 C w hi kk H locs ls hPc hPr hS hl)
    · exact lv_tableIn (tgt := 330) C.1.1 C.1.2.1 dL_law_32 h1 h2 (by rw [hk]; rfl) (by decide) (law_2 C w hi kk H locs ls hPc hPr hS hl)
    · exact lv_tableIn (tgt := 373) C.1.1 C.1.2.1 dL_law_32 h1 h2 (by rw [hk]; rfl) (by decide) (law_3 C w hi kk H locs ls hPc hPr hS hl)
    · exact lv_tableIn (tgt := 406) C.1.1 C.1.2.1 dL_law_32 h1 h2 (by rw [hk]; rfl) (by decide) (law_4 C w hi kk H locs ls hPc hPr hS hl)
    · exact lv_tableIn (tgt := 429) C.1.1 C.1.2.1 dL_law_32 h1 h2 (by rw [hk]; rfl) (by decide) (law_5 C w hi kk H locs ls hPc hPr hS hl)
    · exact lv_tableIn (tgt := 452) C.1.1 C.1.2.1 dL_law_32 h1 h2 (by rw [hk]; rfl) (by decide) (law_6 C w hi kk H locs ls hPc hPr hS hl)
    · exact lv_tableIn (tgt := 485) C.1.1 C.1.2.1 dL_law_32 h1 h2 (by rw [hk]; rfl) (by decide) (law_7 C w hi kk H locs ls hPc hPr hS hl)
    · exact lv_tableIn (tgt := 498) C.1.1 C.1.2.1 dL_law_32 h1 h2 (by rw [hk]; rfl) (by decide) (law_8 C w hi kk H locs ls hPc hPr hS hl)
    · exact lv_tableIn (tgt := 521) C.1.1 C.1.2.1 dL_law_32 h1 h2 (by rw [hk]; rfl) (by decide) (law_9 C w hi kk H locs ls hPc hPr hS hl)
    · exact lv_tableIn (tgt := 584) C.1.1 C.1.2.1 dL_law_32 h1 h2 (by rw [hk]; rfl) (by decide) (law_10 C w hi kk H locs ls hPc hPr hS hl)
    · exact lv_tableIn (tgt := 597) C.1.1 C.1.2.1 dL_law_32 h1 h2 (by rw [hk]; rfl) (by decide) (law_11 C w hi kk H locs ls hPc hPr hS hl)
    · exact lv_tableIn (tgt := 610) C.1.1 C.1.2.1 dL_law_32 h1 h2 (by rw [hk]; rfl) (by decide) (law_12 C w hi kk H locs ls hPc hPr hS hl)
    · exact lv_tableIn (tgt := 633) C.1.1 C.1.2.1 dL_law_32 h1 h2 (by rw [hk]; rfl) (by decide) (law_13 C w hi kk H locs ls hPc hPr hS hl)
    · exact lv_tableIn (tgt := 656) C.1.1 C.1.2.1 dL_law_32 h1 h2 (by rw [hk]; rfl) (by decide) (law_14 C w hi kk H locs ls hPc hPr hS hl)
    · exact lv_tableIn (tgt := 679) C.1.1 C.1.2.1 dL_law_32 h1 h2 (by rw [hk]; rfl) (by decide) (law_15 C w hi kk H locs ls hPc hPr hS hl)
    · exact lv_tableIn (tgt := 702) C.1.1 C.1.2.1 dL_law_32 h1 h2 (by rw [hk]; rfl) (by decide) (law_16 C w hi kk H locs ls hPc hPr hS hl)
    · exact lv_tableIn (tgt := 735) C.1.1 C.1.2.1 dL_law_32 h1 h2 (by rw [hk]; rfl) (by decide) (law_17 C w hi kk H locs ls hPc hPr hS hl)
    · exact lv_tableIn (tgt := 758) C.1.1 C.1.2.1 dL_law_32 h1 h2 (by rw [hk]; rfl) (by decide) (law_18 C w hi kk H locs ls hPc hPr hS hl)
    · exact lv_tableIn (tgt := 781) C.1.1 C.1.2.1 dL_law_32 h1 h2 (by rw [hk]; rfl) (by decide) (law_19 C w hi kk H locs ls hPc hPr hS hl)
    · exact lv_tableIn (tgt := 804) C.1.1 C.1.2.1 dL_law_32 h1 h2 (by rw [hk]; rfl) (by decide) (law_20 C w hi kk H locs ls hPc hPr hS hl)
    · exact lv_tableIn (tgt := 817) C.1.1 C.1.2.1 dL_law_32 h1 h2 (by rw [hk]; rfl) (by decide) (law_21 C w hi kk H locs ls hPc hPr hS hl)
    · exact lv_tableIn (tgt := 840) C.1.1 C.1.2.1 dL_law_32 h1 h2 (by rw [hk]; rfl) (by decide) (law_22 C w hi kk H locs ls hPc hPr hS hl)
    · exact lv_tableIn (tgt := 873) C.1.1 C.1.2.1 dL_law_32 h1 h2 (by rw [hk]; rfl) (by decide) (law_23 C w hi kk H locs ls hPc hPr hS hl)
    · exact lv_tableIn (tgt := 896) C.1.1 C.1.2.1 dL_law_32 h1 h2 (by rw [hk]; rfl) (by decide) (law_24 C w hi kk H locs ls hPc hPr hS hl)
    · exact lv_tableIn (tgt := 919) C.1.1 C.1.2.1 dL_law_32 h1 h2 (by rw [hk]; rfl) (by decide) (law_25 C w hi kk H locs ls hPc hPr hS hl)
    · exact lv_tableIn (tgt := 942) C.1.1 C.1.2.1 dL_law_32 h1 h2 (by rw [hk]; rfl) (by decide) (law_26 C w hi kk H locs ls hPc hPr hS hl)
    · exact lv_tableIn (tgt := 995) C.1.1 C.1.2.1 dL_law_32 h1 h2 (by rw [hk]; rfl) (by decide) (law_27 C w hi kk H locs ls hPc hPr hS hl)
    · exact lv_tableIn (tgt := 1008) C.1.1 C.1.2.1 dL_law_32 h1 h2 (by rw [hk]; rfl) (by decide) (law_28 C w hi kk H locs ls hPc hPr hS hl)
    · exact lv_tableIn (tgt := 1031) C.1.1 C.1.2.1 dL_law_32 h1 h2 (by rw [hk]; rfl) (by decide) (law_29 C w hi kk H locs ls hPc hPr hS hl)
    · exact lv_tableIn (tgt := 1044) C.1.1 C.1.2.1 dL_law_32 h1 h2 (by rw [hk]; rfl) (by decide) (law_30 C w hi kk H locs ls hPc hPr hS hl)
    · exact lv_tableIn (tgt := 1067) C.1.1 C.1.2.1 dL_law_32 h1 h2 (by rw [hk]; rfl) (by decide) (law_31 C w hi kk H locs ls hPc hPr hS hl)
    · exact lv_tableIn (tgt := 1080) C.1.1 C.1.2.1 dL_law_32 h1 h2 (by rw [hk]; rfl) (by decide) (law_32 C w hi kk H locs ls hPc hPr hS hl)
    · exact lv_tableIn (tgt := 1113) C.1.1 C.1.2.1 dL_law_32 h1 h2 (by rw [hk]; rfl) (by decide) (law_33 C w hi kk H locs ls hPc hPr hS hl)
    · exact lv_tableIn (tgt := 1136) C.1.1 C.1.2.1 dL_law_32 h1 h2 (by rw [hk]; rfl) (by decide) (law_34 C w hi kk H locs ls hPc hPr hS hl)
    · exact lv_tableIn (tgt := 1169) C.1.1 C.1.2.1 dL_law_32 h1 h2 (by rw [hk]; rfl) (by decide) (law_35 C w hi kk H locs ls hPc hPr hS hl)
    · exact lv_tableIn (tgt := 1212) C.1.1 C.1.2.1 dL_law_32 h1 h2 (by rw [hk]; rfl) (by decide) (law_36 C w hi kk H locs ls hPc hPr hS hl)
    · exact lv_tableIn (tgt := 1225) C.1.1 C.1.2.1 dL_law_32 h1 h2 (by rw [hk]; rfl) (by decide) (law_37 C w hi kk H locs ls hPc hPr hS hl)
    · exact lv_tableIn (tgt := 1268) C.1.1 C.1.2.1 dL_law_32 h1 h2 (by rw [hk]; rfl) (by decide) (law_38 C w hi kk H locs ls hPc hPr hS hl)
    · exact lv_tableIn (tgt := 1311) C.1.1 C.1.2.1 dL_law_32 h1 h2 (by rw [hk]; rfl) (by decide) (law_39 C w hi kk H locs ls hPc hPr hS hl)
    · exact lv_tableIn (tgt := 1354) C.1.1 C.1.2.1 dL_law_32 h1 h2 (by rw [hk]; rfl) (by decide) (law_40 C w hi kk H locs ls hPc hPr hS hl)
    · exact lv_tableIn (tgt := 1397) C.1.1 C.1.2.1 dL_law_32 h1 h2 (by rw [hk]; rfl) (by decide) (law_41 C w hi kk H locs ls hPc hPr hS hl)
    · exact lv_tableIn (tgt := 1440) C.1.1 C.1.2.1 dL_law_32 h1 h2 (by rw [hk]; rfl) (by decide) (law_42 C w hi kk H locs ls hPc hPr hS hl)
    · exact lv_tableIn (tgt := 1483) C.1.1 C.1.2.1 dL_law_32 h1 h2 (by rw [hk]; rfl) (by decide) (law_43 C w hi kk H locs ls hPc hPr hS hl)
    · exact lv_tableIn (tgt := 1516) C.1.1 C.1.2.1 dL_law_32 h1 h2 (by rw [hk]; rfl) (by decide) (law_44 C w hi kk H locs ls hPc hPr hS hl)
    · exact lv_tableIn (tgt := 1559) C.1.1 C.1.2.1 dL_law_32 h1 h2 (by rw [hk]; rfl) (by decide) (law_45 C w hi kk H locs ls hPc hPr hS hl)
    · exact lv_tableIn (tgt := 1582) C.1.1 C.1.2.1 dL_law_32 h1 h2 (by rw [hk]; rfl) (by decide) (law_46 C w hi kk H locs ls hPc hPr hS hl)
    · exact lv_tableIn (tgt := 1605) C.1.1 C.1.2.1 dL_law_32 h1 h2 (by rw [hk]; rfl) (by decide) (law_47 C w hi kk H locs ls hPc hPr hS hl)
    · exact lv_tableIn (tgt := 1618) C.1.1 C.1.2.1 dL_law_32 h1 h2 (by rw [hk]; rfl) (by decide) (law_48 C w hi kk H locs ls hPc hPr hS hl)
theorem law_loop (C : lC p s m meth c b L xs σ τ) : ∀ (n i : Nat) (μ ν : zM), wW μ ν → i ≤ L → L + 1 ≤ i + n → lX p e s m below meth c b σ τ 18 (lvL σ τ b i) [] μ ν := by
  intro n
  induction n with
  | zero => intro i μ ν w h1 h2; exact absurd h2 (by omega)
  | succ n ih =>
    intro i μ ν w h1 h2 H locs ls hPc hPr hS hl
    have hL := C.2.1
    refine lv_iload_n C.1.1 C.1.2.1 dL_law_18 rfl (lv_at hl 3 rfl) ?_
    refine lv_aload_n C.1.1 C.1.2.1 dL_law_19 rfl (lv_at hl 0 rfl) ?_
    refine va_slen C.1.1 C.1.2.1 C.1.2.2.2.2.2.2.1 C.1.2.2.2.2.2.2.2.1 (Nat.not_le.mpr C.1.2.2.2.2.2.2.2.1) hS dL_law_20 ?_
    refine lv_iconst (v := 5) C.1.1 C.1.2.1 dL_law_21 (by decide) ?_
    refine lv_isub C.1.1 C.1.2.1 dL_law_22 ?_
    have e5 : (nI L - 5).toInt = (L : Int) - 5 := by
      rw [Int32.toInt_sub, nI_toInt (by omega), show (5 : Int32).toInt = 5 by decide]
      exact Int.bmod_eq_of_le (by omega) (by omega)
    refine lv_icmp_gt (tgt := 1637) C.1.1 C.1.2.1 dL_law_23 (by decide) (fun _ => ?_) (fun q => ?_)
    · refine lv_iconst (v := 1) C.1.1 C.1.2.1 dL_law_1637 (by decide) ?_
      refine va_forget (fun q hq => hS.2.2 q hq) ?_
      exact lw_ret C.1.1 C.1.2.1 C.1.2.2.1 C.1.2.2.2.2.2.2.2.2.1 dL_law_1638
    · have hi : i + 5 ≤ L := by
        have q1 : ¬ (nI L - 5) < nI i := q
        rw [Int32.lt_iff_toInt_lt, e5, nI_toInt (by omega)] at q1
        omega
      refine lv_aload_n C.1.1 C.1.2.1 dL_law_26 rfl (lv_at hl 0 rfl) ?_
      refine lv_iload_n C.1.1 C.1.2.1 dL_law_27 rfl (lv_at hl 3 rfl) ?_
      refine va_sld C.1.1 C.1.2.1 C.1.2.2.2.2.2.2.1 C.1.2.2.2.2.2.2.2.1 (Nat.not_le.mpr C.1.2.2.2.2.2.2.2.1) hS (vp_in_nI (by omega) (by omega)) dL_law_28 ?_
      refine lv_bipush (v := 63) C.1.1 C.1.2.1 dL_law_29 (by decide) ?_
      refine lv_iand C.1.1 C.1.2.1 dL_law_31 ?_
      refine law_sw C w hi (fun μ' ν' w' => ?_) H locs ls hPc hPr hS hl
      intro H locs ls hPc hPr hS hl
      refine lv_iinc (v := nI (i + 5)) (lv' := [(3, .int (nI (i + 5))), (0, .ref b), (1, .ref (zad σ 0)), (2, .ref (zad τ 0))]) C.1.1 C.1.2.1 dL_law_1631 hl (k := 3) rfl (nI_add i 5) (by decide) rfl (fun ls hl => ?_)
      refine lv_goto (tgt := 18) C.1.1 C.1.2.1 dL_law_1634 (by decide) ?_
      exact ih (i + 5) μ' ν' w' hi (by omega) H locs ls hPc hPr hS (lv_sub hl [1, 2, 3, 0] rfl)
end
