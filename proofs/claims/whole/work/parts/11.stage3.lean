section ZCP
variable {sh : List zS} {σ : zG} {d : Nat} {M : zO} {pc nn idx k q n0 n1 : Nat} {lv : List (Nat × zV)} {st : List zV} {μ : zM} {Q : Option zV → zM → Prop} {v : Int32}
/-- System.arraycopy of two rows' first v ints -/
theorem zx_copy (hlk : Cond.methodLink M.1 idx arraycopyName ∈ zw) (hq : sh[q]? = some (.inr (.inl n0))) (hk : sh[k]? = some (.inr (.inl n1))) (h3 : ¬ v < 0) (h4 : v.toNatClampNeg ≤ n0) (h5 : v.toNatClampNeg ≤ n1) (hd : 1 ≤ d) (hz : zcat st ≤ 100)
    (hdg : decode M.2.1 pc = .ok (.invokestatic idx, 3)) (hpc : nn = pc + 3) (kk : zX sh σ d M nn lv st (zu μ k (va_cpy (μ q) (μ k) 0 0 v.toNatClampNeg)) Q) : zX sh σ d M pc lv (zi v :: zi 0 :: zr k :: zi 0 :: zr q :: st) μ Q := by
  subst hpc
  intro p e R s m args below meth c hC H locs ls hP hD hS hl
  obtain ⟨hx, hb, hml, hr2, hlk2, hown, hts, hroom, hK, hRO⟩ := id hC
  have w1 : Cond.native arraycopyName ∈ zw := zw_t (i := 655) (by decide +kernel) rfl
  have w2 : Cond.static arraycopyName ∈ zw := zw_t (i := 654) (by decide +kernel) rfl
  have w3 : Cond.initialized "java/lang/System" ∈ zw := zw_t (i := 19) (by decide +kernel) rfl
  have hnw : nativeFrameWords "java/lang/System" "arraycopy" 5 ≤ 50 := by decide +kernel
  refine va_copyi hx hb (by rw [hml]; exact hl.1.symm) hown (hts _ hlk) (hts _ w1) (hts _ w2) (hts _ w3) hK hP hD hS q k 0 0 (zW_get hq) (zW_get hk) rfl rfl rfl (show ¬ (0 : Int32) < 0 by decide) (show ¬ (0 : Int32) < 0 by decide) h3 (by simpa using h4) (by simpa using h5) (fun _ _ => rfl) (by omega) (by have hcat := zcat_eq σ st; rw [hcat]; omega) hdg (fun H1 locs1 hP1 hD1 hS1 => ?_)
  have he : (zW σ sh μ).set k (zad σ k, .inl (σ.2.1.1, n1, .inl (va_cpy (μ q) (μ k) 0 0 v.toNatClampNeg))) = zW σ sh (zu μ k (va_cpy (μ q) (μ k) 0 0 v.toNatClampNeg)) := zW_set hk _
  exact kk p e R s m args below meth c hC H1 locs1 ls (by rw [← he]; exact hP1) (by rw [← he]; exact hD1) hS1 hl
end ZCP
theorem zu_ne {μ : zM} {k q : Nat} {f : Nat → Int32} (h : q ≠ k) : zu μ k f q = μ q := if_neg h
theorem zu_eq {μ : zM} {k : Nat} {f : Nat → Int32} : zu μ k f k = f := if_pos rfl
theorem zJ.u {J : List Nat} {μ μ1 : zM} (h : zJ J μ μ1) {k : Nat} {f : Nat → Int32} (hk : k ∈ J) : zJ J μ (zu μ1 k f) := fun q hq => (zu_ne (fun e => hq (by rw [e]; exact hk))).trans (h q hq)
theorem cpy0 {f g : Nat → Int32} {n j : Nat} (h : j < n) : va_cpy f g 0 0 n j = f j := by
  unfold va_cpy
  rw [if_pos ⟨Nat.zero_le _, by omega⟩]
  simp
set_option maxHeartbeats 4000000 in
set_option maxRecDepth 100000 in
theorem eX8_goalOf_18 (σ : zG) (μ : zM) (l : Nat) (ok : pOK (cS 18 μ)) (hl : l < pL (cS 18 μ)) (rok : cROK 1 μ) : zMet shC σ 2 MX8_goalOf yX8_goalOf [zr 18, zi (nI l)] μ (fun rr μ' => rr = some (zi (pGoal (cR 1 μ) (cS 18 μ) l)) ∧ zJ [6, 24] μ μ') := by
  have hl6 : l < 6 := Nat.lt_of_lt_of_le hl (ok_L ok).2
  have hkd : cS 18 μ (7 + 4 * l) = μ 19 l := cS_k hl6
  obtain ⟨⟨nr, hnr8, hnr0⟩, hends⟩ := id rok
  have hnr : (μ 1 5).toNatClampNeg = nr := by rw [hnr0]; exact nI_clamp (by omega)
  have hK := ((ok.2.2.2 l hl).1)
  rw [cS_k hl6] at hK
  refine zmetF (by decide +kernel) rfl (Nat.le_of_ble_eq_true rfl) ?_
  show zX shC σ 2 MX8_goalOf 0 [(0, zr 18), (1, zi (nI l))] [] μ _
  refine zx_aload_n (k := 0) (nn := 1) dX8_goalOf_0 rfl rfl rfl ?_
  refine zx_getI (nn := 4) flX8_52 rfl rfl dX8_goalOf_1 rfl ?_
  refine zx_cut (pc' := 17) (lv' := [(0, zr 18), (1, zi (nI l))]) (st' := [zi (pSeenAt (cS 18 μ))]) (μ' := μ) (fun J17 => ?_) ?_
  · refine zx_if_le (tgt := 16) (nn := 7) dX8_goalOf_4 (by decide) rfl (fun h4 => ?_) (fun h4 => ?_)
    · refine zx_iconst (v := 0) (nn := 17) rfl dX8_goalOf_16 rfl ?_
      exact (by rw [show pSeenAt (cS 18 μ) = 0 from if_neg (Int32.not_lt.mpr h4)] at J17; exact J17)
    · refine zx_aload_n (k := 0) (nn := 8) dX8_goalOf_7 rfl rfl rfl ?_
      refine zx_getI (nn := 11) flX8_52 rfl rfl dX8_goalOf_8 rfl ?_
      refine zx_iconst (v := 1) (nn := 12) rfl dX8_goalOf_11 rfl ?_
      refine zx_isub (nn := 13) dX8_goalOf_12 rfl ?_
      refine zx_goto (tgt := 17) dX8_goalOf_13 (by decide) ?_
      exact (by rw [show pSeenAt (cS 18 μ) = μ 18 9 - 1 from if_pos (Int32.not_le.mp h4)] at J17; exact J17)
  refine zx_istore_n (nn := 18) (lv' := [(2, zi (pSeenAt (cS 18 μ))), (0, zr 18), (1, zi (nI l))]) dX8_goalOf_17 rfl (by decide) rfl rfl ?_
  refine zx_aload_n (k := 1) (nn := 19) dX8_goalOf_18 rfl rfl rfl ?_
  refine zx_iload_n (k := 2) (nn := 20) dX8_goalOf_19 rfl rfl rfl ?_
  refine zx_aload_n (k := 1) (nn := 21) dX8_goalOf_20 rfl rfl rfl ?_
  refine zx_iload_n (k := 0) (nn := 22) dX8_goalOf_21 rfl rfl rfl ?_
  refine zx_callVf (nn := 25) (k := 18) (d' := 0) (as := [zi (pSeenAt (cS 18 μ))]) (rest := [zi (nI l), zr 18]) (n := 1) (eX8_placeNear_18 σ μ (pSeenAt (cS 18 μ)) ok) kX8_placeNear mlX8_66 rfl rfl rfl (by decide) rfl rfl (Nat.le_of_ble_eq_true rfl) dX8_goalOf_22 rfl ?_
  show zX shC σ 2 MX8_goalOf 25 [(2, zi (pSeenAt (cS 18 μ))), (0, zr 18), (1, zi (nI l))] [zi (pNear (cS 18 μ) (pSeenAt (cS 18 μ))), zi (nI l), zr 18] μ _
  refine zx_callV (nn := 28) (k := 18) (d' := 0) (as := [zi (nI l), zi (pNear (cS 18 μ) (pSeenAt (cS 18 μ)))]) (rest := []) (n := 2) (eX8_tellFacts_18 σ μ l (pNear (cS 18 μ) (pSeenAt (cS 18 μ))) hl6) kX8_tellFacts mlX8_70 rfl rfl rfl (by decide) rfl rfl (Nat.le_of_ble_eq_true rfl) dX8_goalOf_25 rfl ?_
  rintro _ ν1 ⟨rfl, q1⟩
  show zX shC σ 2 MX8_goalOf 28 [(2, zi (pSeenAt (cS 18 μ))), (0, zr 18), (1, zi (nI l))] [] ν1 _
  obtain ⟨qj, f0, f1, f2, f3, f4⟩ := q1
  have hF : ∀ i, i < 5 → ν1 24 i = pFact (cS 18 μ) l i := by
    intro i hi
    rcases (show i = 0 ∨ i = 1 ∨ i = 2 ∨ i = 3 ∨ i = 4 by omega) with rfl | rfl | rfl | rfl | rfl
    · exact f0
    · exact f1
    · rw [f2]; exact (cS_a hl6).symm
    · rw [f3]; exact (cS_z hl6).symm
    · exact f4
  refine zx_iconst (v := 0) (nn := 29) rfl dX8_goalOf_28 rfl ?_
  refine zx_istore_n (nn := 30) (lv' := [(3, zi 0), (2, zi (pSeenAt (cS 18 μ))), (0, zr 18), (1, zi (nI l))]) dX8_goalOf_29 rfl (by decide) rfl rfl ?_
  refine zx_lv (lv' := [(0, zr 18), (1, zi (nI l)), (2, zi (pSeenAt (cS 18 μ))), (3, zi 0)]) [2, 3, 1, 0] rfl ?_
  refine zx_while (τ := Nat × zM) (fun t_ => nr - t_.1) (fun t_ => zJ [6, 24] μ t_.2 ∧ (∀ i, i < 5 → t_.2 24 i = pFact (cS 18 μ) l i) ∧ t_.1 ≤ nr ∧ pFirst (pHit (cR 1 μ) (cS 18 μ) l) 0 nr = pFirst (pHit (cR 1 μ) (cS 18 μ) l) t_.1 (nr - t_.1)) (fun t_ => [(0, zr 18), (1, zi (nI l)), (2, zi (pSeenAt (cS 18 μ))), (3, zi (nI t_.1))]) (fun t_ => t_.2) (t0 := (0, ν1)) (⟨qj.mono (by simp), hF, Nat.zero_le _, by rw [Nat.sub_zero]⟩) ?_
  rintro ⟨r, μ1⟩ hI ih30
  replace hI : zJ [6, 24] μ μ1 ∧ (∀ i, i < 5 → μ1 24 i = pFact (cS 18 μ) l i) ∧ r ≤ nr ∧ pFirst (pHit (cR 1 μ) (cS 18 μ) l) 0 nr = pFirst (pHit (cR 1 μ) (cS 18 μ) l) r (nr - r) := hI
  show zX shC σ 2 MX8_goalOf 30 [(0, zr 18), (1, zi (nI l)), (2, zi (pSeenAt (cS 18 μ))), (3, zi (nI r))] [] μ1 _
  obtain ⟨hr1, hr2, hr3, hr4⟩ := hI
  have e1 : μ1 1 = μ 1 := hr1 1 (by decide)
  have e2 : μ1 2 = μ 2 := hr1 2 (by decide)
  have e3 : μ1 3 = μ 3 := hr1 3 (by decide)
  have e4 : μ1 4 = μ 4 := hr1 4 (by decide)
  have e5 : μ1 5 = μ 5 := hr1 5 (by decide)
  have ek : μ1 19 = μ 19 := hr1 19 (by decide)
  have es : cS 18 μ1 = cS 18 μ := cS_eq (fun k hk => hr1 k (by simp; omega))
  have ok1 : pOK (cS 18 μ1) := by rw [es]; exact ok
  refine zx_iload_n (k := 3) (nn := 31) dX8_goalOf_30 rfl rfl rfl ?_
  refine zx_aload_n (k := 0) (nn := 32) dX8_goalOf_31 rfl rfl rfl ?_
  refine zx_getR (q := 1) (nn := 35) flX8_36 rfl rfl dX8_goalOf_32 rfl ?_
  refine zx_getI (nn := 38) flX8_74 rfl rfl dX8_goalOf_35 rfl ?_
  rw [e1, hnr0]
  show zX shC σ 2 MX8_goalOf 38 [(0, zr 18), (1, zi (nI l)), (2, zi (pSeenAt (cS 18 μ))), (3, zi (nI r))] [zi (nI nr), zi (nI r)] μ1 _
  refine zx_icmp_ge (tgt := 116) (nn := 41) dX8_goalOf_38 (by decide) rfl (fun h38 => ?_) (fun h38 => ?_)
  · refine zx_aload_n (k := 0) (nn := 117) dX8_goalOf_116 rfl rfl rfl ?_
    refine zx_iload_n (k := 2) (nn := 118) dX8_goalOf_117 rfl rfl rfl ?_
    refine zx_callVf (nn := 121) (k := 18) (d' := 0) (as := [zi (pSeenAt (cS 18 μ))]) (rest := []) (n := 1) (eX8_placeNear_18 σ μ1 (pSeenAt (cS 18 μ)) ok1) kX8_placeNear mlX8_66 rfl rfl rfl (by decide) rfl rfl (Nat.le_of_ble_eq_true rfl) dX8_goalOf_118 rfl ?_
    show zX shC σ 2 MX8_goalOf 121 [(0, zr 18), (1, zi (nI l)), (2, zi (pSeenAt (cS 18 μ))), (3, zi (nI r))] [zi (pNear (cS 18 μ1) (pSeenAt (cS 18 μ)))] μ1 _
    refine zx_iret rfl dX8_goalOf_121 ?_
    have hge := nI_le_le h38 (by omega)
    refine ⟨congrArg (fun x => some (zi x)) ?_, hr1⟩
    unfold pGoal
    rw [show (cR 1 μ).1 = nr from hnr, hr4, show nr - r = 0 by omega, es]
    rfl
  · have hlt : r < nr := nI_nle_lt h38 (by omega)
    refine zx_aload_n (k := 0) (nn := 42) dX8_goalOf_41 rfl rfl rfl ?_
    refine zx_getR (q := 19) (nn := 45) flX8_9 rfl rfl dX8_goalOf_42 rfl ?_
    refine zx_iload_n (k := 1) (nn := 46) dX8_goalOf_45 rfl rfl rfl ?_
    refine zx_iald_n (j := l) (nn := 47) rfl hl6 (by decide) dX8_goalOf_46 rfl ?_
    rw [ek]
    show zX shC σ 2 MX8_goalOf 47 [(0, zr 18), (1, zi (nI l)), (2, zi (pSeenAt (cS 18 μ))), (3, zi (nI r))] [zi (μ 19 l)] μ1 _
    refine zx_aload_n (k := 0) (nn := 48) dX8_goalOf_47 rfl rfl rfl ?_
    refine zx_getR (q := 1) (nn := 51) flX8_36 rfl rfl dX8_goalOf_48 rfl ?_
    refine zx_getR (q := 2) (nn := 54) flX8_77 rfl rfl dX8_goalOf_51 rfl ?_
    refine zx_iload_n (k := 3) (nn := 55) dX8_goalOf_54 rfl rfl rfl ?_
    refine zx_iald_n (j := r) (nn := 56) rfl (by omega) (by decide) dX8_goalOf_55 rfl ?_
    rw [e2]
    show zX shC σ 2 MX8_goalOf 56 [(0, zr 18), (1, zi (nI l)), (2, zi (pSeenAt (cS 18 μ))), (3, zi (nI r))] [zi (μ 2 r), zi (μ 19 l)] μ1 _
    refine zx_callSf (nn := 59) (d' := 0) (as := [zi (μ 19 l), zi (μ 2 r)]) (rest := []) (n := 2) (eX8_isUnder σ μ1 (μ 19 l) (μ 2 r) hK.1 hK.2) kX8_isUnder mlX8_78 (by decide) rfl rfl (Nat.le_of_ble_eq_true rfl) dX8_goalOf_56 rfl ?_
    show zX shC σ 2 MX8_goalOf 59 [(0, zr 18), (1, zi (nI l)), (2, zi (pSeenAt (cS 18 μ))), (3, zi (nI r))] [zi (zb (pUnder (μ 19 l) (μ 2 r)))] μ1 _
    refine zx_ifb_eq (tgt := 110) (nn := 62) dX8_goalOf_59 (by decide) rfl (fun h59 => ?_) (fun h59 => ?_)
    · refine zx_iinc (k := 3) (v := nI (r + 1)) (lv' := [(3, zi (nI (r + 1))), (0, zr 18), (1, zi (nI l)), (2, zi (pSeenAt (cS 18 μ)))]) (nn := 113) dX8_goalOf_110 rfl (nI_1 r) (by decide) rfl rfl ?_
      refine zx_goto (tgt := 30) dX8_goalOf_113 (by decide) ?_
      refine zx_lv (lv' := [(0, zr 18), (1, zi (nI l)), (2, zi (pSeenAt (cS 18 μ))), (3, zi (nI (r + 1)))]) [1, 2, 3, 0] rfl ?_
      exact ih30 (r + 1, μ1) (show zJ [6, 24] μ μ1 ∧ (∀ i, i < 5 → μ1 24 i = pFact (cS 18 μ) l i) ∧ (r + 1) ≤ nr ∧ pFirst (pHit (cR 1 μ) (cS 18 μ) l) 0 nr = pFirst (pHit (cR 1 μ) (cS 18 μ) l) (r + 1) (nr - (r + 1)) from ⟨hr1, hr2, by omega, by rw [hr4, pFirst_step hlt, show pHit (cR 1 μ) (cS 18 μ) l r = false from (by show (pUnder (cS 18 μ (7 + 4 * l)) (μ 2 r) && _) = false; rw [hkd, h59]; rfl)]; rfl⟩) (by show nr - (r + 1) < nr - r; omega)
    · refine zx_aload_n (k := 0) (nn := 63) dX8_goalOf_62 rfl rfl rfl ?_
      refine zx_getR (q := 1) (nn := 66) flX8_36 rfl rfl dX8_goalOf_63 rfl ?_
      refine zx_iload_n (k := 3) (nn := 67) dX8_goalOf_66 rfl rfl rfl ?_
      refine zx_aload_n (k := 0) (nn := 68) dX8_goalOf_67 rfl rfl rfl ?_
      refine zx_getR (q := 24) (nn := 71) flX8_29 rfl rfl dX8_goalOf_68 rfl ?_
      refine zx_callV (nn := 74) (k := 1) (d' := 1) (as := [zi (nI r), zr 24]) (rest := []) (n := 2) (eX5_holds_24 σ μ1 r (by omega) (cROK_μ e1.symm e4.symm rok)) kX5_holds mlX8_82 rfl rfl rfl (by decide) rfl rfl (Nat.le_of_ble_eq_true rfl) dX8_goalOf_71 rfl ?_
      rintro _ ν2 ⟨rfl, q2⟩
      show zX shC σ 2 MX8_goalOf 74 [(0, zr 18), (1, zi (nI l)), (2, zi (pSeenAt (cS 18 μ))), (3, zi (nI r))] [zi (zb (cHolds 1 μ1 r (μ1 24)))] ν2 _
      have hh : cHolds 1 μ r (pFact (cS 18 μ) l) = cHolds 1 μ1 r (μ1 24) := by rw [cHolds_F (fun i hi => (hr2 i hi).symm)]; exact cHolds_μ e4.symm e5.symm
      have es2 : cS 18 ν2 = cS 18 μ := (cS_eq (fun k hk => q2 k (by simp; omega))).trans es
      have e32 : ν2 3 = μ 3 := (q2 3 (by decide)).trans e3
      have ok2 : pOK (cS 18 ν2) := by rw [es2]; exact ok
      refine zx_ifb_eq (tgt := 110) (nn := 77) dX8_goalOf_74 (by decide) rfl (fun h74 => ?_) (fun h74 => ?_)
      · refine zx_iinc (k := 3) (v := nI (r + 1)) (lv' := [(3, zi (nI (r + 1))), (0, zr 18), (1, zi (nI l)), (2, zi (pSeenAt (cS 18 μ)))]) (nn := 113) dX8_goalOf_110 rfl (nI_1 r) (by decide) rfl rfl ?_
        refine zx_goto (tgt := 30) dX8_goalOf_113 (by decide) ?_
        refine zx_lv (lv' := [(0, zr 18), (1, zi (nI l)), (2, zi (pSeenAt (cS 18 μ))), (3, zi (nI (r + 1)))]) [1, 2, 3, 0] rfl ?_
        exact ih30 (r + 1, ν2) (show zJ [6, 24] μ ν2 ∧ (∀ i, i < 5 → ν2 24 i = pFact (cS 18 μ) l i) ∧ (r + 1) ≤ nr ∧ pFirst (pHit (cR 1 μ) (cS 18 μ) l) 0 nr = pFirst (pHit (cR 1 μ) (cS 18 μ) l) (r + 1) (nr - (r + 1)) from ⟨hr1.tr (q2.mono (by simp)), fun i hi => by rw [q2 24 (by decide)]; exact hr2 i hi, by omega, by rw [hr4, pFirst_step hlt, show pHit (cR 1 μ) (cS 18 μ) l r = false from (by show (pUnder (cS 18 μ (7 + 4 * l)) (μ 2 r) && cHolds 1 μ r (pFact _ l)) = false; rw [hkd, h59, hh, h74]; rfl)]; rfl⟩) (by show nr - (r + 1) < nr - r; omega)
      · refine zx_aload_n (k := 0) (nn := 78) dX8_goalOf_77 rfl rfl rfl ?_
        refine zx_getR (q := 1) (nn := 81) flX8_36 rfl rfl dX8_goalOf_78 rfl ?_
        refine zx_getR (q := 3) (nn := 84) flX8_86 rfl rfl dX8_goalOf_81 rfl ?_
        refine zx_iload_n (k := 3) (nn := 85) dX8_goalOf_84 rfl rfl rfl ?_
        refine zx_iald_n (j := r) (nn := 86) rfl (by omega) (by decide) dX8_goalOf_85 rfl ?_
        rw [e32]
        show zX shC σ 2 MX8_goalOf 86 [(0, zr 18), (1, zi (nI l)), (2, zi (pSeenAt (cS 18 μ))), (3, zi (nI r))] [zi (μ 3 r)] ν2 _
        refine zx_istore (nn := 88) (lv' := [(4, zi (μ 3 r)), (0, zr 18), (1, zi (nI l)), (2, zi (pSeenAt (cS 18 μ))), (3, zi (nI r))]) dX8_goalOf_86 (by decide) rfl rfl ?_
        refine zx_iload (k := 0) (nn := 90) dX8_goalOf_88 rfl rfl ?_
        refine zx_sipush (v := 1000) (nn := 93) rfl dX8_goalOf_90 rfl ?_
        refine zx_icmp_ne (tgt := 101) (nn := 96) dX8_goalOf_93 (by decide) rfl (fun h93 => ?_) (fun h93 => ?_)
        · refine zx_aload_n (k := 1) (nn := 102) dX8_goalOf_101 rfl rfl rfl ?_
          refine zx_iload_n (k := 3) (nn := 103) dX8_goalOf_102 rfl rfl rfl ?_
          refine zx_iload (k := 0) (nn := 105) dX8_goalOf_103 rfl rfl ?_
          refine zx_iadd (nn := 106) dX8_goalOf_105 rfl ?_
          refine zx_callVf (nn := 109) (k := 18) (d' := 0) (as := [zi ((pSeenAt (cS 18 μ)) + (μ 3 r))]) (rest := []) (n := 1) (eX8_placeNear_18 σ ν2 ((pSeenAt (cS 18 μ)) + (μ 3 r)) ok2) kX8_placeNear mlX8_66 rfl rfl rfl (by decide) rfl rfl (Nat.le_of_ble_eq_true rfl) dX8_goalOf_106 rfl ?_
          show zX shC σ 2 MX8_goalOf 109 [(4, zi (μ 3 r)), (0, zr 18), (1, zi (nI l)), (2, zi (pSeenAt (cS 18 μ))), (3, zi (nI r))] [zi (pNear (cS 18 ν2) ((pSeenAt (cS 18 μ)) + (μ 3 r)))] ν2 _
          refine zx_iret rfl dX8_goalOf_109 ?_
          have hp : pHit (cR 1 μ) (cS 18 μ) l r = true := by show (pUnder (cS 18 μ (7 + 4 * l)) (μ 2 r) && cHolds 1 μ r (pFact _ l)) = true; rw [hkd, h59, hh, h74]; rfl
          refine ⟨congrArg (fun x => some (zi x)) ?_, hr1.tr (q2.mono (by simp))⟩
          unfold pGoal
          rw [show (cR 1 μ).1 = nr from hnr, hr4, pFirst_step hlt, hp]
          rw [show cS 18 ν2 = cS 18 μ from es2]
          exact (if_neg h93).symm
        · refine zx_bipush (v := 41) (nn := 98) rfl dX8_goalOf_96 rfl ?_
          refine zx_goto (tgt := 109) dX8_goalOf_98 (by decide) ?_
          refine zx_iret rfl dX8_goalOf_109 ?_
          have hp : pHit (cR 1 μ) (cS 18 μ) l r = true := by show (pUnder (cS 18 μ (7 + 4 * l)) (μ 2 r) && cHolds 1 μ r (pFact _ l)) = true; rw [hkd, h59, hh, h74]; rfl
          refine ⟨congrArg (fun x => some (zi x)) ?_, hr1.tr (q2.mono (by simp))⟩
          unfold pGoal
          rw [show (cR 1 μ).1 = nr from hnr, hr4, pFirst_step hlt, hp]
          exact (if_pos h93).symm
set_option maxHeartbeats 4000000 in
set_option maxRecDepth 100000 in
theorem eX8_aimBehind_18 (σ : zG) (μ : zM) (l : Nat) (ok : pOK (cS 18 μ)) (hl : l < pL (cS 18 μ)) (rok : cROK 1 μ) : zMet shC σ 3 MX8_aimBehind yX8_aimBehind [zr 18, zi (nI l)] μ (fun rr μ' => rr = some (zi (pBehind (cR 1 μ) (cS 18 μ) l)) ∧ zJ [6, 24] μ μ') := by
  have hl6 : l < 6 := Nat.lt_of_lt_of_le hl (ok_L ok).2
  refine zmetF (by decide +kernel) rfl (Nat.le_of_ble_eq_true rfl) ?_
  show zX shC σ 3 MX8_aimBehind 0 [(0, zr 18), (1, zi (nI l))] [] μ _
  refine zx_aload_n (k := 0) (nn := 1) dX8_aimBehind_0 rfl rfl rfl ?_
  refine zx_iload_n (k := 1) (nn := 2) dX8_aimBehind_1 rfl rfl rfl ?_
  refine zx_callV (nn := 5) (k := 18) (d' := 2) (as := [zi (nI l)]) (rest := []) (n := 1) (eX8_goalOf_18 σ μ l ok hl rok) kX8_goalOf mlX8_89 rfl rfl rfl (by decide) rfl rfl (Nat.le_of_ble_eq_true rfl) dX8_aimBehind_2 rfl ?_
  rintro _ ν1 ⟨rfl, q1⟩
  show zX shC σ 3 MX8_aimBehind 5 [(0, zr 18), (1, zi (nI l))] [zi (pGoal (cR 1 μ) (cS 18 μ) l)] ν1 _
  have ea : ν1 20 = μ 20 := q1 20 (by decide)
  have es : cS 18 ν1 = cS 18 μ := cS_eq (fun k hk => q1 k (by simp; omega))
  refine zx_istore_n (nn := 6) (lv' := [(2, zi (pGoal (cR 1 μ) (cS 18 μ) l)), (0, zr 18), (1, zi (nI l))]) dX8_aimBehind_5 rfl (by decide) rfl rfl ?_
  refine zx_iload_n (k := 0) (nn := 7) dX8_aimBehind_6 rfl rfl rfl ?_
  refine zx_bipush (v := 41) (nn := 9) rfl dX8_aimBehind_7 rfl ?_
  refine zx_icmp_ne (tgt := 19) (nn := 12) dX8_aimBehind_9 (by decide) rfl (fun h9 => ?_) (fun h9 => ?_)
  · refine zx_aload_n (k := 1) (nn := 20) dX8_aimBehind_19 rfl rfl rfl ?_
    refine zx_getR (q := 20) (nn := 23) flX8_15 rfl rfl dX8_aimBehind_20 rfl ?_
    refine zx_iload_n (k := 2) (nn := 24) dX8_aimBehind_23 rfl rfl rfl ?_
    refine zx_iald_n (j := l) (nn := 25) rfl hl6 (by decide) dX8_aimBehind_24 rfl ?_
    refine zx_aload_n (k := 1) (nn := 26) dX8_aimBehind_25 rfl rfl rfl ?_
    refine zx_iload_n (k := 2) (nn := 27) dX8_aimBehind_26 rfl rfl rfl ?_
    refine zx_iload_n (k := 0) (nn := 28) dX8_aimBehind_27 rfl rfl rfl ?_
    refine zx_aload_n (k := 1) (nn := 29) dX8_aimBehind_28 rfl rfl rfl ?_
    refine zx_getR (q := 20) (nn := 32) flX8_15 rfl rfl dX8_aimBehind_29 rfl ?_
    refine zx_iload_n (k := 2) (nn := 33) dX8_aimBehind_32 rfl rfl rfl ?_
    refine zx_iald_n (j := l) (nn := 34) rfl hl6 (by decide) dX8_aimBehind_33 rfl ?_
    refine zx_isub (nn := 35) dX8_aimBehind_34 rfl ?_
    refine zx_callVf (nn := 38) (k := 18) (d' := 2) (as := [zi (nI l), zi ((pGoal (cR 1 μ) (cS 18 μ) l) - (ν1 20 l))]) (rest := [zi (ν1 20 l)]) (n := 2) (eX8_wayOf_18 σ ν1 l ((pGoal (cR 1 μ) (cS 18 μ) l) - (ν1 20 l)) (by rw [es]; exact ok) (by rw [es]; exact hl)) kX8_wayOf mlX8_92 rfl rfl rfl (by decide) rfl rfl (Nat.le_of_ble_eq_true rfl) dX8_aimBehind_35 rfl ?_
    show zX shC σ 3 MX8_aimBehind 38 [(2, zi (pGoal (cR 1 μ) (cS 18 μ) l)), (0, zr 18), (1, zi (nI l))] [zi (pWay (cS 18 ν1) l ((pGoal (cR 1 μ) (cS 18 μ) l) - (ν1 20 l))), zi (ν1 20 l)] ν1 _
    refine zx_iadd (nn := 39) dX8_aimBehind_38 rfl ?_
    refine zx_iconst (v := 0) (nn := 40) rfl dX8_aimBehind_39 rfl ?_
    refine zx_bipush (v := 40) (nn := 42) rfl dX8_aimBehind_40 rfl ?_
    refine zx_callSf (nn := 45) (d' := 1) (as := [zi ((ν1 20 l) + (pWay (cS 18 ν1) l ((pGoal (cR 1 μ) (cS 18 μ) l) - (ν1 20 l)))), zi 0, zi 40]) (rest := []) (n := 3) (eX8_held σ ν1 ((ν1 20 l) + (pWay (cS 18 ν1) l ((pGoal (cR 1 μ) (cS 18 μ) l) - (ν1 20 l)))) 0 40  (by decide)) kX8_held mlX8_96 (by decide) rfl rfl (Nat.le_of_ble_eq_true rfl) dX8_aimBehind_42 rfl ?_
    show zX shC σ 3 MX8_aimBehind 45 [(2, zi (pGoal (cR 1 μ) (cS 18 μ) l)), (0, zr 18), (1, zi (nI l))] [zi (pW ((ν1 20 l) + (pWay (cS 18 ν1) l ((pGoal (cR 1 μ) (cS 18 μ) l) - (ν1 20 l)))) 0 40)] ν1 _
    refine zx_iret rfl dX8_aimBehind_45 ?_
    refine ⟨congrArg (fun x => some (zi x)) ?_, q1⟩
    unfold pBehind
    rw [cS_a hl6]
    dsimp only
    rw [if_neg h9, ea, es]
  · refine zx_aload_n (k := 1) (nn := 13) dX8_aimBehind_12 rfl rfl rfl ?_
    refine zx_getR (q := 20) (nn := 16) flX8_15 rfl rfl dX8_aimBehind_13 rfl ?_
    refine zx_iload_n (k := 2) (nn := 17) dX8_aimBehind_16 rfl rfl rfl ?_
    refine zx_iald_n (j := l) (nn := 18) rfl hl6 (by decide) dX8_aimBehind_17 rfl ?_
    refine zx_iret rfl dX8_aimBehind_18 ?_
    refine ⟨congrArg (fun x => some (zi x)) ?_, q1⟩
    unfold pBehind
    rw [cS_a hl6]
    dsimp only
    rw [if_pos h9, ea]
set_option maxHeartbeats 4000000 in
set_option maxRecDepth 100000 in
theorem eX8_goalOf_25 (σ : zG) (μ : zM) (l : Nat) (ok : pOK (cS 25 μ)) (hl : l < pL (cS 25 μ)) (rok : cROK 1 μ) : zMet shC σ 2 MX8_goalOf yX8_goalOf [zr 25, zi (nI l)] μ (fun rr μ' => rr = some (zi (pGoal (cR 1 μ) (cS 25 μ) l)) ∧ zJ [6, 31] μ μ') := by
  have hl6 : l < 6 := Nat.lt_of_lt_of_le hl (ok_L ok).2
  have hkd : cS 25 μ (7 + 4 * l) = μ 26 l := cS_k hl6
  obtain ⟨⟨nr, hnr8, hnr0⟩, hends⟩ := id rok
  have hnr : (μ 1 5).toNatClampNeg = nr := by rw [hnr0]; exact nI_clamp (by omega)
  have hK := ((ok.2.2.2 l hl).1)
  rw [cS_k hl6] at hK
  refine zmetF (by decide +kernel) rfl (Nat.le_of_ble_eq_true rfl) ?_
  show zX shC σ 2 MX8_goalOf 0 [(0, zr 25), (1, zi (nI l))] [] μ _
  refine zx_aload_n (k := 0) (nn := 1) dX8_goalOf_0 rfl rfl rfl ?_
  refine zx_getI (nn := 4) flX8_52 rfl rfl dX8_goalOf_1 rfl ?_
  refine zx_cut (pc' := 17) (lv' := [(0, zr 25), (1, zi (nI l))]) (st' := [zi (pSeenAt (cS 25 μ))]) (μ' := μ) (fun J17 => ?_) ?_
  · refine zx_if_le (tgt := 16) (nn := 7) dX8_goalOf_4 (by decide) rfl (fun h4 => ?_) (fun h4 => ?_)
    · refine zx_iconst (v := 0) (nn := 17) rfl dX8_goalOf_16 rfl ?_
      exact (by rw [show pSeenAt (cS 25 μ) = 0 from if_neg (Int32.not_lt.mpr h4)] at J17; exact J17)
    · refine zx_aload_n (k := 0) (nn := 8) dX8_goalOf_7 rfl rfl rfl ?_
      refine zx_getI (nn := 11) flX8_52 rfl rfl dX8_goalOf_8 rfl ?_
      refine zx_iconst (v := 1) (nn := 12) rfl dX8_goalOf_11 rfl ?_
      refine zx_isub (nn := 13) dX8_goalOf_12 rfl ?_
      refine zx_goto (tgt := 17) dX8_goalOf_13 (by decide) ?_
      exact (by rw [show pSeenAt (cS 25 μ) = μ 25 9 - 1 from if_pos (Int32.not_le.mp h4)] at J17; exact J17)
  refine zx_istore_n (nn := 18) (lv' := [(2, zi (pSeenAt (cS 25 μ))), (0, zr 25), (1, zi (nI l))]) dX8_goalOf_17 rfl (by decide) rfl rfl ?_
  refine zx_aload_n (k := 1) (nn := 19) dX8_goalOf_18 rfl rfl rfl ?_
  refine zx_iload_n (k := 2) (nn := 20) dX8_goalOf_19 rfl rfl rfl ?_
  refine zx_aload_n (k := 1) (nn := 21) dX8_goalOf_20 rfl rfl rfl ?_
  refine zx_iload_n (k := 0) (nn := 22) dX8_goalOf_21 rfl rfl rfl ?_
  refine zx_callVf (nn := 25) (k := 25) (d' := 0) (as := [zi (pSeenAt (cS 25 μ))]) (rest := [zi (nI l), zr 25]) (n := 1) (eX8_placeNear_25 σ μ (pSeenAt (cS 25 μ)) ok) kX8_placeNear mlX8_66 rfl rfl rfl (by decide) rfl rfl (Nat.le_of_ble_eq_true rfl) dX8_goalOf_22 rfl ?_
  show zX shC σ 2 MX8_goalOf 25 [(2, zi (pSeenAt (cS 25 μ))), (0, zr 25), (1, zi (nI l))] [zi (pNear (cS 25 μ) (pSeenAt (cS 25 μ))), zi (nI l), zr 25] μ _
  refine zx_callV (nn := 28) (k := 25) (d' := 0) (as := [zi (nI l), zi (pNear (cS 25 μ) (pSeenAt (cS 25 μ)))]) (rest := []) (n := 2) (eX8_tellFacts_25 σ μ l (pNear (cS 25 μ) (pSeenAt (cS 25 μ))) hl6) kX8_tellFacts mlX8_70 rfl rfl rfl (by decide) rfl rfl (Nat.le_of_ble_eq_true rfl) dX8_goalOf_25 rfl ?_
  rintro _ ν1 ⟨rfl, q1⟩
  show zX shC σ 2 MX8_goalOf 28 [(2, zi (pSeenAt (cS 25 μ))), (0, zr 25), (1, zi (nI l))] [] ν1 _
  obtain ⟨qj, f0, f1, f2, f3, f4⟩ := q1
  have hF : ∀ i, i < 5 → ν1 31 i = pFact (cS 25 μ) l i := by
    intro i hi
    rcases (show i = 0 ∨ i = 1 ∨ i = 2 ∨ i = 3 ∨ i = 4 by omega) with rfl | rfl | rfl | rfl | rfl
    · exact f0
    · exact f1
    · rw [f2]; exact (cS_a hl6).symm
    · rw [f3]; exact (cS_z hl6).symm
    · exact f4
  refine zx_iconst (v := 0) (nn := 29) rfl dX8_goalOf_28 rfl ?_
  refine zx_istore_n (nn := 30) (lv' := [(3, zi 0), (2, zi (pSeenAt (cS 25 μ))), (0, zr 25), (1, zi (nI l))]) dX8_goalOf_29 rfl (by decide) rfl rfl ?_
  refine zx_lv (lv' := [(0, zr 25), (1, zi (nI l)), (2, zi (pSeenAt (cS 25 μ))), (3, zi 0)]) [2, 3, 1, 0] rfl ?_
  refine zx_while (τ := Nat × zM) (fun t_ => nr - t_.1) (fun t_ => zJ [6, 31] μ t_.2 ∧ (∀ i, i < 5 → t_.2 31 i = pFact (cS 25 μ) l i) ∧ t_.1 ≤ nr ∧ pFirst (pHit (cR 1 μ) (cS 25 μ) l) 0 nr = pFirst (pHit (cR 1 μ) (cS 25 μ) l) t_.1 (nr - t_.1)) (fun t_ => [(0, zr 25), (1, zi (nI l)), (2, zi (pSeenAt (cS 25 μ))), (3, zi (nI t_.1))]) (fun t_ => t_.2) (t0 := (0, ν1)) (⟨qj.mono (by simp), hF, Nat.zero_le _, by rw [Nat.sub_zero]⟩) ?_
  rintro ⟨r, μ1⟩ hI ih30
  replace hI : zJ [6, 31] μ μ1 ∧ (∀ i, i < 5 → μ1 31 i = pFact (cS 25 μ) l i) ∧ r ≤ nr ∧ pFirst (pHit (cR 1 μ) (cS 25 μ) l) 0 nr = pFirst (pHit (cR 1 μ) (cS 25 μ) l) r (nr - r) := hI
  show zX shC σ 2 MX8_goalOf 30 [(0, zr 25), (1, zi (nI l)), (2, zi (pSeenAt (cS 25 μ))), (3, zi (nI r))] [] μ1 _
  obtain ⟨hr1, hr2, hr3, hr4⟩ := hI
  have e1 : μ1 1 = μ 1 := hr1 1 (by decide)
  have e2 : μ1 2 = μ 2 := hr1 2 (by decide)
  have e3 : μ1 3 = μ 3 := hr1 3 (by decide)
  have e4 : μ1 4 = μ 4 := hr1 4 (by decide)
  have e5 : μ1 5 = μ 5 := hr1 5 (by decide)
  have ek : μ1 26 = μ 26 := hr1 26 (by decide)
  have es : cS 25 μ1 = cS 25 μ := cS_eq (fun k hk => hr1 k (by simp; omega))
  have ok1 : pOK (cS 25 μ1) := by rw [es]; exact ok
  refine zx_iload_n (k := 3) (nn := 31) dX8_goalOf_30 rfl rfl rfl ?_
  refine zx_aload_n (k := 0) (nn := 32) dX8_goalOf_31 rfl rfl rfl ?_
  refine zx_getR (q := 1) (nn := 35) flX8_36 rfl rfl dX8_goalOf_32 rfl ?_
  refine zx_getI (nn := 38) flX8_74 rfl rfl dX8_goalOf_35 rfl ?_
  rw [e1, hnr0]
  show zX shC σ 2 MX8_goalOf 38 [(0, zr 25), (1, zi (nI l)), (2, zi (pSeenAt (cS 25 μ))), (3, zi (nI r))] [zi (nI nr), zi (nI r)] μ1 _
  refine zx_icmp_ge (tgt := 116) (nn := 41) dX8_goalOf_38 (by decide) rfl (fun h38 => ?_) (fun h38 => ?_)
  · refine zx_aload_n (k := 0) (nn := 117) dX8_goalOf_116 rfl rfl rfl ?_
    refine zx_iload_n (k := 2) (nn := 118) dX8_goalOf_117 rfl rfl rfl ?_
    refine zx_callVf (nn := 121) (k := 25) (d' := 0) (as := [zi (pSeenAt (cS 25 μ))]) (rest := []) (n := 1) (eX8_placeNear_25 σ μ1 (pSeenAt (cS 25 μ)) ok1) kX8_placeNear mlX8_66 rfl rfl rfl (by decide) rfl rfl (Nat.le_of_ble_eq_true rfl) dX8_goalOf_118 rfl ?_
    show zX shC σ 2 MX8_goalOf 121 [(0, zr 25), (1, zi (nI l)), (2, zi (pSeenAt (cS 25 μ))), (3, zi (nI r))] [zi (pNear (cS 25 μ1) (pSeenAt (cS 25 μ)))] μ1 _
    refine zx_iret rfl dX8_goalOf_121 ?_
    have hge := nI_le_le h38 (by omega)
    refine ⟨congrArg (fun x => some (zi x)) ?_, hr1⟩
    unfold pGoal
    rw [show (cR 1 μ).1 = nr from hnr, hr4, show nr - r = 0 by omega, es]
    rfl
  · have hlt : r < nr := nI_nle_lt h38 (by omega)
    refine zx_aload_n (k := 0) (nn := 42) dX8_goalOf_41 rfl rfl rfl ?_
    refine zx_getR (q := 26) (nn := 45) flX8_9 rfl rfl dX8_goalOf_42 rfl ?_
    refine zx_iload_n (k := 1) (nn := 46) dX8_goalOf_45 rfl rfl rfl ?_
    refine zx_iald_n (j := l) (nn := 47) rfl hl6 (by decide) dX8_goalOf_46 rfl ?_
    rw [ek]
    show zX shC σ 2 MX8_goalOf 47 [(0, zr 25), (1, zi (nI l)), (2, zi (pSeenAt (cS 25 μ))), (3, zi (nI r))] [zi (μ 26 l)] μ1 _
    refine zx_aload_n (k := 0) (nn := 48) dX8_goalOf_47 rfl rfl rfl ?_
    refine zx_getR (q := 1) (nn := 51) flX8_36 rfl rfl dX8_goalOf_48 rfl ?_
    refine zx_getR (q := 2) (nn := 54) flX8_77 rfl rfl dX8_goalOf_51 rfl ?_
    refine zx_iload_n (k := 3) (nn := 55) dX8_goalOf_54 rfl rfl rfl ?_
    refine zx_iald_n (j := r) (nn := 56) rfl (by omega) (by decide) dX8_goalOf_55 rfl ?_
    rw [e2]
    show zX shC σ 2 MX8_goalOf 56 [(0, zr 25), (1, zi (nI l)), (2, zi (pSeenAt (cS 25 μ))), (3, zi (nI r))] [zi (μ 2 r), zi (μ 26 l)] μ1 _
    refine zx_callSf (nn := 59) (d' := 0) (as := [zi (μ 26 l), zi (μ 2 r)]) (rest := []) (n := 2) (eX8_isUnder σ μ1 (μ 26 l) (μ 2 r) hK.1 hK.2) kX8_isUnder mlX8_78 (by decide) rfl rfl (Nat.le_of_ble_eq_true rfl) dX8_goalOf_56 rfl ?_
    show zX shC σ 2 MX8_goalOf 59 [(0, zr 25), (1, zi (nI l)), (2, zi (pSeenAt (cS 25 μ))), (3, zi (nI r))] [zi (zb (pUnder (μ 26 l) (μ 2 r)))] μ1 _
    refine zx_ifb_eq (tgt := 110) (nn := 62) dX8_goalOf_59 (by decide) rfl (fun h59 => ?_) (fun h59 => ?_)
    · refine zx_iinc (k := 3) (v := nI (r + 1)) (lv' := [(3, zi (nI (r + 1))), (0, zr 25), (1, zi (nI l)), (2, zi (pSeenAt (cS 25 μ)))]) (nn := 113) dX8_goalOf_110 rfl (nI_1 r) (by decide) rfl rfl ?_
      refine zx_goto (tgt := 30) dX8_goalOf_113 (by decide) ?_
      refine zx_lv (lv' := [(0, zr 25), (1, zi (nI l)), (2, zi (pSeenAt (cS 25 μ))), (3, zi (nI (r + 1)))]) [1, 2, 3, 0] rfl ?_
      exact ih30 (r + 1, μ1) (show zJ [6, 31] μ μ1 ∧ (∀ i, i < 5 → μ1 31 i = pFact (cS 25 μ) l i) ∧ (r + 1) ≤ nr ∧ pFirst (pHit (cR 1 μ) (cS 25 μ) l) 0 nr = pFirst (pHit (cR 1 μ) (cS 25 μ) l) (r + 1) (nr - (r + 1)) from ⟨hr1, hr2, by omega, by rw [hr4, pFirst_step hlt, show pHit (cR 1 μ) (cS 25 μ) l r = false from (by show (pUnder (cS 25 μ (7 + 4 * l)) (μ 2 r) && _) = false; rw [hkd, h59]; rfl)]; rfl⟩) (by show nr - (r + 1) < nr - r; omega)
    · refine zx_aload_n (k := 0) (nn := 63) dX8_goalOf_62 rfl rfl rfl ?_
      refine zx_getR (q := 1) (nn := 66) flX8_36 rfl rfl dX8_goalOf_63 rfl ?_
      refine zx_iload_n (k := 3) (nn := 67) dX8_goalOf_66 rfl rfl rfl ?_
      refine zx_aload_n (k := 0) (nn := 68) dX8_goalOf_67 rfl rfl rfl ?_
      refine zx_getR (q := 31) (nn := 71) flX8_29 rfl rfl dX8_goalOf_68 rfl ?_
      refine zx_callV (nn := 74) (k := 1) (d' := 1) (as := [zi (nI r), zr 31]) (rest := []) (n := 2) (eX5_holds_31 σ μ1 r (by omega) (cROK_μ e1.symm e4.symm rok)) kX5_holds mlX8_82 rfl rfl rfl (by decide) rfl rfl (Nat.le_of_ble_eq_true rfl) dX8_goalOf_71 rfl ?_
      rintro _ ν2 ⟨rfl, q2⟩
      show zX shC σ 2 MX8_goalOf 74 [(0, zr 25), (1, zi (nI l)), (2, zi (pSeenAt (cS 25 μ))), (3, zi (nI r))] [zi (zb (cHolds 1 μ1 r (μ1 31)))] ν2 _
      have hh : cHolds 1 μ r (pFact (cS 25 μ) l) = cHolds 1 μ1 r (μ1 31) := by rw [cHolds_F (fun i hi => (hr2 i hi).symm)]; exact cHolds_μ e4.symm e5.symm
      have es2 : cS 25 ν2 = cS 25 μ := (cS_eq (fun k hk => q2 k (by simp; omega))).trans es
      have e32 : ν2 3 = μ 3 := (q2 3 (by decide)).trans e3
      have ok2 : pOK (cS 25 ν2) := by rw [es2]; exact ok
      refine zx_ifb_eq (tgt := 110) (nn := 77) dX8_goalOf_74 (by decide) rfl (fun h74 => ?_) (fun h74 => ?_)
      · refine zx_iinc (k := 3) (v := nI (r + 1)) (lv' := [(3, zi (nI (r + 1))), (0, zr 25), (1, zi (nI l)), (2, zi (pSeenAt (cS 25 μ)))]) (nn := 113) dX8_goalOf_110 rfl (nI_1 r) (by decide) rfl rfl ?_
        refine zx_goto (tgt := 30) dX8_goalOf_113 (by decide) ?_
        refine zx_lv (lv' := [(0, zr 25), (1, zi (nI l)), (2, zi (pSeenAt (cS 25 μ))), (3, zi (nI (r + 1)))]) [1, 2, 3, 0] rfl ?_
        exact ih30 (r + 1, ν2) (show zJ [6, 31] μ ν2 ∧ (∀ i, i < 5 → ν2 31 i = pFact (cS 25 μ) l i) ∧ (r + 1) ≤ nr ∧ pFirst (pHit (cR 1 μ) (cS 25 μ) l) 0 nr = pFirst (pHit (cR 1 μ) (cS 25 μ) l) (r + 1) (nr - (r + 1)) from ⟨hr1.tr (q2.mono (by simp)), fun i hi => by rw [q2 31 (by decide)]; exact hr2 i hi, by omega, by rw [hr4, pFirst_step hlt, show pHit (cR 1 μ) (cS 25 μ) l r = false from (by show (pUnder (cS 25 μ (7 + 4 * l)) (μ 2 r) && cHolds 1 μ r (pFact _ l)) = false; rw [hkd, h59, hh, h74]; rfl)]; rfl⟩) (by show nr - (r + 1) < nr - r; omega)
      · refine zx_aload_n (k := 0) (nn := 78) dX8_goalOf_77 rfl rfl rfl ?_
        refine zx_getR (q := 1) (nn := 81) flX8_36 rfl rfl dX8_goalOf_78 rfl ?_
        refine zx_getR (q := 3) (nn := 84) flX8_86 rfl rfl dX8_goalOf_81 rfl ?_
        refine zx_iload_n (k := 3) (nn := 85) dX8_goalOf_84 rfl rfl rfl ?_
        refine zx_iald_n (j := r) (nn := 86) rfl (by omega) (by decide) dX8_goalOf_85 rfl ?_
        rw [e32]
        show zX shC σ 2 MX8_goalOf 86 [(0, zr 25), (1, zi (nI l)), (2, zi (pSeenAt (cS 25 μ))), (3, zi (nI r))] [zi (μ 3 r)] ν2 _
        refine zx_istore (nn := 88) (lv' := [(4, zi (μ 3 r)), (0, zr 25), (1, zi (nI l)), (2, zi (pSeenAt (cS 25 μ))), (3, zi (nI r))]) dX8_goalOf_86 (by decide) rfl rfl ?_
        refine zx_iload (k := 0) (nn := 90) dX8_goalOf_88 rfl rfl ?_
        refine zx_sipush (v := 1000) (nn := 93) rfl dX8_goalOf_90 rfl ?_
        refine zx_icmp_ne (tgt := 101) (nn := 96) dX8_goalOf_93 (by decide) rfl (fun h93 => ?_) (fun h93 => ?_)
        · refine zx_aload_n (k := 1) (nn := 102) dX8_goalOf_101 rfl rfl rfl ?_
          refine zx_iload_n (k := 3) (nn := 103) dX8_goalOf_102 rfl rfl rfl ?_
          refine zx_iload (k := 0) (nn := 105) dX8_goalOf_103 rfl rfl ?_
          refine zx_iadd (nn := 106) dX8_goalOf_105 rfl ?_
          refine zx_callVf (nn := 109) (k := 25) (d' := 0) (as := [zi ((pSeenAt (cS 25 μ)) + (μ 3 r))]) (rest := []) (n := 1) (eX8_placeNear_25 σ ν2 ((pSeenAt (cS 25 μ)) + (μ 3 r)) ok2) kX8_placeNear mlX8_66 rfl rfl rfl (by decide) rfl rfl (Nat.le_of_ble_eq_true rfl) dX8_goalOf_106 rfl ?_
          show zX shC σ 2 MX8_goalOf 109 [(4, zi (μ 3 r)), (0, zr 25), (1, zi (nI l)), (2, zi (pSeenAt (cS 25 μ))), (3, zi (nI r))] [zi (pNear (cS 25 ν2) ((pSeenAt (cS 25 μ)) + (μ 3 r)))] ν2 _
          refine zx_iret rfl dX8_goalOf_109 ?_
          have hp : pHit (cR 1 μ) (cS 25 μ) l r = true := by show (pUnder (cS 25 μ (7 + 4 * l)) (μ 2 r) && cHolds 1 μ r (pFact _ l)) = true; rw [hkd, h59, hh, h74]; rfl
          refine ⟨congrArg (fun x => some (zi x)) ?_, hr1.tr (q2.mono (by simp))⟩
          unfold pGoal
          rw [show (cR 1 μ).1 = nr from hnr, hr4, pFirst_step hlt, hp]
          rw [show cS 25 ν2 = cS 25 μ from es2]
          exact (if_neg h93).symm
        · refine zx_bipush (v := 41) (nn := 98) rfl dX8_goalOf_96 rfl ?_
          refine zx_goto (tgt := 109) dX8_goalOf_98 (by decide) ?_
          refine zx_iret rfl dX8_goalOf_109 ?_
          have hp : pHit (cR 1 μ) (cS 25 μ) l r = true := by show (pUnder (cS 25 μ (7 + 4 * l)) (μ 2 r) && cHolds 1 μ r (pFact _ l)) = true; rw [hkd, h59, hh, h74]; rfl
          refine ⟨congrArg (fun x => some (zi x)) ?_, hr1.tr (q2.mono (by simp))⟩
          unfold pGoal
          rw [show (cR 1 μ).1 = nr from hnr, hr4, pFirst_step hlt, hp]
          exact (if_pos h93).symm
set_option maxHeartbeats 4000000 in
set_option maxRecDepth 100000 in
theorem eX8_aimBehind_25 (σ : zG) (μ : zM) (l : Nat) (ok : pOK (cS 25 μ)) (hl : l < pL (cS 25 μ)) (rok : cROK 1 μ) : zMet shC σ 3 MX8_aimBehind yX8_aimBehind [zr 25, zi (nI l)] μ (fun rr μ' => rr = some (zi (pBehind (cR 1 μ) (cS 25 μ) l)) ∧ zJ [6, 31] μ μ') := by
  have hl6 : l < 6 := Nat.lt_of_lt_of_le hl (ok_L ok).2
  refine zmetF (by decide +kernel) rfl (Nat.le_of_ble_eq_true rfl) ?_
  show zX shC σ 3 MX8_aimBehind 0 [(0, zr 25), (1, zi (nI l))] [] μ _
  refine zx_aload_n (k := 0) (nn := 1) dX8_aimBehind_0 rfl rfl rfl ?_
  refine zx_iload_n (k := 1) (nn := 2) dX8_aimBehind_1 rfl rfl rfl ?_
  refine zx_callV (nn := 5) (k := 25) (d' := 2) (as := [zi (nI l)]) (rest := []) (n := 1) (eX8_goalOf_25 σ μ l ok hl rok) kX8_goalOf mlX8_89 rfl rfl rfl (by decide) rfl rfl (Nat.le_of_ble_eq_true rfl) dX8_aimBehind_2 rfl ?_
  rintro _ ν1 ⟨rfl, q1⟩
  show zX shC σ 3 MX8_aimBehind 5 [(0, zr 25), (1, zi (nI l))] [zi (pGoal (cR 1 μ) (cS 25 μ) l)] ν1 _
  have ea : ν1 27 = μ 27 := q1 27 (by decide)
  have es : cS 25 ν1 = cS 25 μ := cS_eq (fun k hk => q1 k (by simp; omega))
  refine zx_istore_n (nn := 6) (lv' := [(2, zi (pGoal (cR 1 μ) (cS 25 μ) l)), (0, zr 25), (1, zi (nI l))]) dX8_aimBehind_5 rfl (by decide) rfl rfl ?_
  refine zx_iload_n (k := 0) (nn := 7) dX8_aimBehind_6 rfl rfl rfl ?_
  refine zx_bipush (v := 41) (nn := 9) rfl dX8_aimBehind_7 rfl ?_
  refine zx_icmp_ne (tgt := 19) (nn := 12) dX8_aimBehind_9 (by decide) rfl (fun h9 => ?_) (fun h9 => ?_)
  · refine zx_aload_n (k := 1) (nn := 20) dX8_aimBehind_19 rfl rfl rfl ?_
    refine zx_getR (q := 27) (nn := 23) flX8_15 rfl rfl dX8_aimBehind_20 rfl ?_
    refine zx_iload_n (k := 2) (nn := 24) dX8_aimBehind_23 rfl rfl rfl ?_
    refine zx_iald_n (j := l) (nn := 25) rfl hl6 (by decide) dX8_aimBehind_24 rfl ?_
    refine zx_aload_n (k := 1) (nn := 26) dX8_aimBehind_25 rfl rfl rfl ?_
    refine zx_iload_n (k := 2) (nn := 27) dX8_aimBehind_26 rfl rfl rfl ?_
    refine zx_iload_n (k := 0) (nn := 28) dX8_aimBehind_27 rfl rfl rfl ?_
    refine zx_aload_n (k := 1) (nn := 29) dX8_aimBehind_28 rfl rfl rfl ?_
    refine zx_getR (q := 27) (nn := 32) flX8_15 rfl rfl dX8_aimBehind_29 rfl ?_
    refine zx_iload_n (k := 2) (nn := 33) dX8_aimBehind_32 rfl rfl rfl ?_
    refine zx_iald_n (j := l) (nn := 34) rfl hl6 (by decide) dX8_aimBehind_33 rfl ?_
    refine zx_isub (nn := 35) dX8_aimBehind_34 rfl ?_
    refine zx_callVf (nn := 38) (k := 25) (d' := 2) (as := [zi (nI l), zi ((pGoal (cR 1 μ) (cS 25 μ) l) - (ν1 27 l))]) (rest := [zi (ν1 27 l)]) (n := 2) (eX8_wayOf_25 σ ν1 l ((pGoal (cR 1 μ) (cS 25 μ) l) - (ν1 27 l)) (by rw [es]; exact ok) (by rw [es]; exact hl)) kX8_wayOf mlX8_92 rfl rfl rfl (by decide) rfl rfl (Nat.le_of_ble_eq_true rfl) dX8_aimBehind_35 rfl ?_
    show zX shC σ 3 MX8_aimBehind 38 [(2, zi (pGoal (cR 1 μ) (cS 25 μ) l)), (0, zr 25), (1, zi (nI l))] [zi (pWay (cS 25 ν1) l ((pGoal (cR 1 μ) (cS 25 μ) l) - (ν1 27 l))), zi (ν1 27 l)] ν1 _
    refine zx_iadd (nn := 39) dX8_aimBehind_38 rfl ?_
    refine zx_iconst (v := 0) (nn := 40) rfl dX8_aimBehind_39 rfl ?_
    refine zx_bipush (v := 40) (nn := 42) rfl dX8_aimBehind_40 rfl ?_
    refine zx_callSf (nn := 45) (d' := 1) (as := [zi ((ν1 27 l) + (pWay (cS 25 ν1) l ((pGoal (cR 1 μ) (cS 25 μ) l) - (ν1 27 l)))), zi 0, zi 40]) (rest := []) (n := 3) (eX8_held σ ν1 ((ν1 27 l) + (pWay (cS 25 ν1) l ((pGoal (cR 1 μ) (cS 25 μ) l) - (ν1 27 l)))) 0 40  (by decide)) kX8_held mlX8_96 (by decide) rfl rfl (Nat.le_of_ble_eq_true rfl) dX8_aimBehind_42 rfl ?_
    show zX shC σ 3 MX8_aimBehind 45 [(2, zi (pGoal (cR 1 μ) (cS 25 μ) l)), (0, zr 25), (1, zi (nI l))] [zi (pW ((ν1 27 l) + (pWay (cS 25 ν1) l ((pGoal (cR 1 μ) (cS 25 μ) l) - (ν1 27 l)))) 0 40)] ν1 _
    refine zx_iret rfl dX8_aimBehind_45 ?_
    refine ⟨congrArg (fun x => some (zi x)) ?_, q1⟩
    unfold pBehind
    rw [cS_a hl6]
    dsimp only
    rw [if_neg h9, ea, es]
  · refine zx_aload_n (k := 1) (nn := 13) dX8_aimBehind_12 rfl rfl rfl ?_
    refine zx_getR (q := 27) (nn := 16) flX8_15 rfl rfl dX8_aimBehind_13 rfl ?_
    refine zx_iload_n (k := 2) (nn := 17) dX8_aimBehind_16 rfl rfl rfl ?_
    refine zx_iald_n (j := l) (nn := 18) rfl hl6 (by decide) dX8_aimBehind_17 rfl ?_
    refine zx_iret rfl dX8_aimBehind_18 ?_
    refine ⟨congrArg (fun x => some (zi x)) ?_, q1⟩
    unfold pBehind
    rw [cS_a hl6]
    dsimp only
    rw [if_pos h9, ea]
