theorem rS_off {μ μ1 : zM} {at_ : Nat} {v : Int32} (h : ∀ i, i ≠ at_ → μ1 1 i = μ 1 i) (h1 : at_ < 47) (h5 : at_ ≠ 5) (h6 : at_ ≠ 6) : rS 1 (zp μ1 1 at_ v) = pPut (rS 1 μ) at_ v := by
  funext i
  rw [rS_p h1 h5 h6]
  unfold pPut
  by_cases e : i = at_
  · rw [if_pos e, if_pos e]
  · rw [if_neg e, if_neg e]
    unfold rS
    rw [h i e]
theorem rRow_put {μ μ1 : zM} {at_ : Nat} {v : Int32} (h : ∀ i, i ≠ at_ → μ1 1 i = μ 1 i) (hv : v = μ 1 at_) : zp μ1 1 at_ v 1 = μ 1 := by
  funext i
  rw [zp_eq]
  by_cases e : i = at_
  · rw [e, pk_us, hv]
  · rw [pk_un e, h i e]
theorem pSum_c {f : Nat → Int32} : ∀ {n : Nat}, n ≤ 16 → (∀ l, l < n → 0 ≤ (f l).toInt ∧ (f l).toInt ≤ 60) → 0 ≤ (pSum f n).toInt ∧ (pSum f n).toInt ≤ 60 * n
  | 0, _, _ => by
    show 0 ≤ (0 : Int32).toInt ∧ (0 : Int32).toInt ≤ _
    rw [zt0]; omega
  | n + 1, hn, h => by
    have h1 := pSum_c (n := n) (by omega) (fun l hl => h l (by omega))
    have h2 := h n (by omega)
    show 0 ≤ (pSum f n + f n).toInt ∧ (pSum f n + f n).toInt ≤ _
    have e : (pSum f n + f n).toInt = (pSum f n).toInt + (f n).toInt := by
      rw [Int32.toInt_add]
      exact Int.bmod_eq_of_le (by omega) (by omega)
    omega
theorem pShow_b {ρ : pR} {s : Nat → Int32} {l : Nat} (ok : pOK s) (hl : l < pL s) : 0 ≤ (pShow ρ s l).toInt := by
  have hB := (ok_B ok).2
  have hr : pRem s = pB s - pb s := rfl
  unfold pShow
  refine (pSum_c (by omega) (fun m hm => ?_)).1
  obtain ⟨g1, g2, g3, g4, g5⟩ := pRun_ok (ρ := ρ) ok (m + 1) (by omega)
  have q := (g1.2.2.2 l (by rw [g4]; exact hl)).2.1
  have e := pWorth_b (p := s (31 + (pb s + m))) q.1 q.2
  omega
theorem pArg_new {f : Nat → Int32} {k : Nat} {bs tp : Int32} (hv : (k = 0 ∧ bs = -1) ∨ (k ≠ 0 ∧ pArg f k = (tp, bs) ∧ ¬ bs < 0)) (h0 : 0 ≤ (f k).toInt) (h : bs < 0 ∨ tp < f k) : pArg f (k + 1) = (f k, nI k) := by
  show (if (pArg f k).1 < f k then (f k, nI k) else pArg f k) = _
  rcases hv with ⟨rfl, _⟩ | ⟨h1, h2, h3⟩
  · rw [if_pos]
    show (-1 : Int32) < f 0
    rw [Int32.lt_iff_toInt_lt, ztm1]
    omega
  · rw [if_pos]
    rw [h2]
    exact h.elim (fun q => absurd q h3) id
theorem pArg_old {f : Nat → Int32} {k : Nat} {bs tp : Int32} (hv : (k = 0 ∧ bs = -1) ∨ (k ≠ 0 ∧ pArg f k = (tp, bs) ∧ ¬ bs < 0)) (h1 : ¬ bs < 0) (h2 : f k ≤ tp) : pArg f (k + 1) = (tp, bs) := by
  show (if (pArg f k).1 < f k then (f k, nI k) else pArg f k) = _
  rcases hv with ⟨_, e⟩ | ⟨_, e, _⟩
  · exact absurd (by rw [e]; decide) h1
  · rw [e, if_neg (Int32.not_lt.mpr h2)]
theorem pAllIn_mono {f : Nat → Int32} {set : Int32} {k : Nat} (h : pAllIn f set k = false) : ∀ {n : Nat}, k ≤ n → pAllIn f set n = false
  | 0, q => by rw [show k = 0 by omega] at h; exact h
  | n + 1, q => by
    rcases Nat.lt_or_ge n k with r | r
    · rw [show n + 1 = k by omega]; exact h
    · show (pAllIn f set n && _) = false
      rw [pAllIn_mono h r]; rfl
theorem pWhoTo_c {f : Nat → Int32} {r : Nat} : ∀ n, pWhoTo f r n = -3 ∨ ∃ j, j < n ∧ pWhoTo f r n = nI j
  | 0 => Or.inl rfl
  | n + 1 => by
    unfold pWhoTo
    split
    · exact Or.inr ⟨n, by omega, rfl⟩
    · rcases pWhoTo_c (f := f) (r := r) n with h | ⟨j, h, e⟩
      · exact Or.inl h
      · exact Or.inr ⟨j, by omega, e⟩
def rOnes (x : Int32) : Int32 := pSum (fun k => (x >>> (nI k &&& 31)) &&& 1) 8
theorem rOnes_eq {j : Nat} (h : j < 64) : rOnes (nI j) = pBits (nI j) := by
  have e : ∀ j, j < 64 → rOnes (nI j) = pBits (nI j) := by decide +kernel
  exact e j h
set_option maxHeartbeats 4000000 in
set_option maxRecDepth 100000 in
theorem eX11_bestOf_1 (σ : zG) (μ : zM) (l : Nat) {ρ : pR} (ok : pOK (rS 1 μ)) (ab : pAB (rS 1 μ)) (hl : l < pL (rS 1 μ)) (hρ : rRep ρ (μ 1)) : zMet shR σ 8 MX11_bestOf yX11_bestOf [zr 0, zi (nI l), zi 1, zi 40] μ (fun rr μ' => rr = some (zi ((pArg (fun q_ => pShow ρ (pPut (rS 1 μ) (7 + 4 * l + 1) (nI q_)) l) 41).2)) ∧ zJ [4, 6, 7] μ μ') := by
  have hl6 : l < 6 := Nat.lt_of_lt_of_le hl (ok_L ok).2
  refine zmetF (by decide +kernel) rfl (Nat.le_of_ble_eq_true rfl) ?_
  show zX shR σ 8 MX11_bestOf 0 [(0, zr 0), (1, zi (nI l)), (2, zi 1), (3, zi 40)] [] μ _
  refine zx_aload_n (k := 0) (nn := 1) dX11_bestOf_0 rfl rfl rfl ?_
  refine zx_iload_n (k := 1) (nn := 2) dX11_bestOf_1 rfl rfl rfl ?_
  refine zx_iload_n (k := 2) (nn := 3) dX11_bestOf_2 rfl rfl rfl ?_
  refine zx_callVf (nn := 6) (k := 0) (d' := 0) (as := [zi (nI l), zi 1]) (rest := []) (n := 2) (eX11_of_0 σ μ l 1  hl6 (by decide)) kX11_of mlX11_88 rfl rfl rfl (by decide) rfl rfl (Nat.le_of_ble_eq_true rfl) dX11_bestOf_3 rfl ?_
  show zX shR σ 8 MX11_bestOf 6 [(0, zr 0), (1, zi (nI l)), (2, zi 1), (3, zi 40)] [zi (rS 1 μ (7 + 4 * l + 1))] μ _
  refine zx_istore (nn := 8) (lv' := [(4, zi (rS 1 μ (7 + 4 * l + 1))), (0, zr 0), (1, zi (nI l)), (2, zi 1), (3, zi 40)]) dX11_bestOf_6 (by decide) rfl rfl ?_
  refine zx_iconst (v := -1) (nn := 9) rfl dX11_bestOf_8 rfl ?_
  refine zx_istore (nn := 11) (lv' := [(5, zi (-1)), (4, zi (rS 1 μ (7 + 4 * l + 1))), (0, zr 0), (1, zi (nI l)), (2, zi 1), (3, zi 40)]) dX11_bestOf_9 (by decide) rfl rfl ?_
  refine zx_iconst (v := 0) (nn := 12) rfl dX11_bestOf_11 rfl ?_
  refine zx_istore (nn := 14) (lv' := [(6, zi 0), (5, zi (-1)), (4, zi (rS 1 μ (7 + 4 * l + 1))), (0, zr 0), (1, zi (nI l)), (2, zi 1), (3, zi 40)]) dX11_bestOf_12 (by decide) rfl rfl ?_
  refine zx_iconst (v := 0) (nn := 15) rfl dX11_bestOf_14 rfl ?_
  refine zx_istore (nn := 17) (lv' := [(7, zi 0), (6, zi 0), (5, zi (-1)), (4, zi (rS 1 μ (7 + 4 * l + 1))), (0, zr 0), (1, zi (nI l)), (2, zi 1), (3, zi 40)]) dX11_bestOf_15 (by decide) rfl rfl ?_
  refine zx_lv (lv' := [(0, zr 0), (1, zi (nI l)), (2, zi 1), (3, zi 40), (4, zi (rS 1 μ (7 + 4 * l + 1))), (5, zi (-1)), (6, zi 0), (7, zi 0)]) [4, 5, 6, 7, 3, 2, 1, 0] rfl ?_
  refine zx_while (τ := Nat × Int32 × Int32 × zM) (fun t_ => 41 - t_.1) (fun t_ => t_.1 ≤ 41 ∧ zJ [1, 4, 6, 7] μ t_.2.2.2 ∧ (∀ i, i ≠ 7 + 4 * l + 1 → t_.2.2.2 1 i = μ 1 i) ∧ ((t_.1 = 0 ∧ t_.2.1 = -1) ∨ (t_.1 ≠ 0 ∧ pArg (fun q_ => pShow ρ (pPut (rS 1 μ) (7 + 4 * l + 1) (nI q_)) l) t_.1 = (t_.2.2.1, t_.2.1) ∧ ¬ t_.2.1 < 0))) (fun t_ => [(0, zr 0), (1, zi (nI l)), (2, zi 1), (3, zi 40), (4, zi ((rS 1 μ) (7 + 4 * l + 1))), (5, zi t_.2.1), (6, zi t_.2.2.1), (7, zi (nI t_.1))]) (fun t_ => t_.2.2.2) (t0 := (0, -1, 0, μ)) (show 0 ≤ 41 ∧ zJ [1, 4, 6, 7] μ μ ∧ (∀ i, i ≠ 7 + 4 * l + 1 → μ 1 i = μ 1 i) ∧ ((0 = 0 ∧ (-1) = -1) ∨ (0 ≠ 0 ∧ pArg (fun q_ => pShow ρ (pPut (rS 1 μ) (7 + 4 * l + 1) (nI q_)) l) 0 = (0, (-1)) ∧ ¬ (-1) < 0)) from ⟨Nat.zero_le _, zJ.rf, fun _ _ => rfl, Or.inl ⟨rfl, rfl⟩⟩) ?_
  rintro ⟨k, bs, tp, μ1⟩ hI ih17
  replace hI : k ≤ 41 ∧ zJ [1, 4, 6, 7] μ μ1 ∧ (∀ i, i ≠ 7 + 4 * l + 1 → μ1 1 i = μ 1 i) ∧ ((k = 0 ∧ bs = -1) ∨ (k ≠ 0 ∧ pArg (fun q_ => pShow ρ (pPut (rS 1 μ) (7 + 4 * l + 1) (nI q_)) l) k = (tp, bs) ∧ ¬ bs < 0)) := hI
  show zX shR σ 8 MX11_bestOf 17 [(0, zr 0), (1, zi (nI l)), (2, zi 1), (3, zi 40), (4, zi ((rS 1 μ) (7 + 4 * l + 1))), (5, zi bs), (6, zi tp), (7, zi (nI k))] [] μ1 _
  obtain ⟨hk, hj, hr, hv⟩ := hI
  refine zx_iload (k := 7) (nn := 19) dX11_bestOf_17 rfl rfl ?_
  refine zx_iload_n (k := 3) (nn := 20) dX11_bestOf_19 rfl rfl rfl ?_
  refine zx_icmp_gt (tgt := 71) (nn := 23) dX11_bestOf_20 (by decide) rfl (fun h20 => ?_) (fun h20 => ?_)
  · refine zx_aload_n (k := 0) (nn := 72) dX11_bestOf_71 rfl rfl rfl ?_
    refine zx_getR (q := 1) (nn := 75) flX11_9 rfl rfl dX11_bestOf_72 rfl ?_
    refine zx_bipush (v := 7) (nn := 77) rfl dX11_bestOf_75 rfl ?_
    refine zx_iconst (v := 4) (nn := 78) rfl dX11_bestOf_77 rfl ?_
    refine zx_iload_n (k := 1) (nn := 79) dX11_bestOf_78 rfl rfl rfl ?_
    refine zx_imul (nn := 80) dX11_bestOf_79 rfl ?_
    refine zx_iadd (nn := 81) dX11_bestOf_80 rfl ?_
    refine zx_iload_n (k := 2) (nn := 82) dX11_bestOf_81 rfl rfl rfl ?_
    refine zx_iadd (nn := 83) dX11_bestOf_82 rfl ?_
    rw [show (7 + (4 * (nI l))) + 1 = nI (7 + 4 * l + 1) from by simp only [show (2 : Int32) = nI 2 from rfl, show (3 : Int32) = nI 3 from rfl, show (1 : Int32) = nI 1 from rfl, show (4 : Int32) = nI 4 from rfl, show (5 : Int32) = nI 5 from rfl, show (7 : Int32) = nI 7 from rfl, show (31 : Int32) = nI 31 from rfl, show (47 : Int32) = nI 47 from rfl, show (71 : Int32) = nI 71 from rfl, show (111 : Int32) = nI 111 from rfl, nI_mulN, nI_add]]
    show zX shR σ 8 MX11_bestOf 83 [(0, zr 0), (1, zi (nI l)), (2, zi 1), (3, zi 40), (4, zi ((rS 1 μ) (7 + 4 * l + 1))), (5, zi bs), (6, zi tp), (7, zi (nI k))] [zi (nI (7 + 4 * l + 1)), zr 1] μ1 _
    refine zx_iload (k := 4) (nn := 85) dX11_bestOf_83 rfl rfl ?_
    refine zx_iast_n (j := 7 + 4 * l + 1) (nn := 86) rfl (by omega) (by decide) dX11_bestOf_85 rfl ?_
    refine zx_iload (k := 5) (nn := 88) dX11_bestOf_86 rfl rfl ?_
    refine zx_iret rfl dX11_bestOf_88 ?_
    have hge : 40 < k := (nI_ltI (a := 40) (by omega) (by omega)).mp h20
    refine ⟨congrArg (fun x => some (zi x)) ?_, zJ_drop (k := 1) (hj.p (by decide)) (rRow_put hr (rS_i (by omega) (by omega) (by omega))) (by decide)⟩
    rcases hv with ⟨v1, _⟩ | ⟨_, v2, _⟩
    · omega
    · rw [show 41 = k by omega, v2]
  · have hlt : k ≤ 40 := (nI_leI (b := 40) (by omega) (by omega)).mp (Int32.not_lt.mp h20)
    refine zx_aload_n (k := 0) (nn := 24) dX11_bestOf_23 rfl rfl rfl ?_
    refine zx_getR (q := 1) (nn := 27) flX11_9 rfl rfl dX11_bestOf_24 rfl ?_
    refine zx_bipush (v := 7) (nn := 29) rfl dX11_bestOf_27 rfl ?_
    refine zx_iconst (v := 4) (nn := 30) rfl dX11_bestOf_29 rfl ?_
    refine zx_iload_n (k := 1) (nn := 31) dX11_bestOf_30 rfl rfl rfl ?_
    refine zx_imul (nn := 32) dX11_bestOf_31 rfl ?_
    refine zx_iadd (nn := 33) dX11_bestOf_32 rfl ?_
    refine zx_iload_n (k := 2) (nn := 34) dX11_bestOf_33 rfl rfl rfl ?_
    refine zx_iadd (nn := 35) dX11_bestOf_34 rfl ?_
    rw [show (7 + (4 * (nI l))) + 1 = nI (7 + 4 * l + 1) from by simp only [show (2 : Int32) = nI 2 from rfl, show (3 : Int32) = nI 3 from rfl, show (1 : Int32) = nI 1 from rfl, show (4 : Int32) = nI 4 from rfl, show (5 : Int32) = nI 5 from rfl, show (7 : Int32) = nI 7 from rfl, show (31 : Int32) = nI 31 from rfl, show (47 : Int32) = nI 47 from rfl, show (71 : Int32) = nI 71 from rfl, show (111 : Int32) = nI 111 from rfl, nI_mulN, nI_add]]
    show zX shR σ 8 MX11_bestOf 35 [(0, zr 0), (1, zi (nI l)), (2, zi 1), (3, zi 40), (4, zi ((rS 1 μ) (7 + 4 * l + 1))), (5, zi bs), (6, zi tp), (7, zi (nI k))] [zi (nI (7 + 4 * l + 1)), zr 1] μ1 _
    refine zx_iload (k := 7) (nn := 37) dX11_bestOf_35 rfl rfl ?_
    refine zx_iast_n (j := 7 + 4 * l + 1) (nn := 38) rfl (by omega) (by decide) dX11_bestOf_37 rfl ?_
    have hM : rS 1 (zp μ1 1 (7 + 4 * l + 1) (nI k)) = pPut (rS 1 μ) (7 + 4 * l + 1) (nI k) := rS_off hr (by omega) (by omega) (by omega)
    have okM : pOK (rS 1 (zp μ1 1 (7 + 4 * l + 1) (nI k))) := by rw [hM]; exact pOK_aim ok hl
    have abM : pAB (rS 1 (zp μ1 1 (7 + 4 * l + 1) (nI k))) := by rw [hM]; exact pAB_put ab (by omega) (Or.inl ⟨nI_pos' (by omega), nI_le (b := 40) (by omega) (by omega)⟩) (ok_B ok).2
    have hρM : rRep ρ ((zp μ1 1 (7 + 4 * l + 1) (nI k)) 1) := rRep_K (μ := μ) (fun i hi => by rw [zp_eq, pk_un (by omega)]; exact hr i (by omega)) hρ
    have hlM : l < pL (rS 1 (zp μ1 1 (7 + 4 * l + 1) (nI k))) := by rw [hM, (pPut_n (by omega)).2.2.1]; exact hl
    have hf0 : 0 ≤ ((fun q_ => pShow ρ (pPut (rS 1 μ) (7 + 4 * l + 1) (nI q_)) l) k).toInt := pShow_b (pOK_aim ok hl) (by rw [(pPut_n (by omega)).2.2.1]; exact hl)
    refine zx_aload_n (k := 0) (nn := 39) dX11_bestOf_38 rfl rfl rfl ?_
    refine zx_iload_n (k := 1) (nn := 40) dX11_bestOf_39 rfl rfl rfl ?_
    refine zx_callV (nn := 43) (k := 0) (d' := 7) (as := [zi (nI l)]) (rest := []) (n := 1) (eX11_showsIt_0 σ (zp μ1 1 (7 + 4 * l + 1) (nI k)) l  okM abM hlM hρM) kX11_showsIt mlX11_299 rfl rfl rfl (by decide) rfl rfl (Nat.le_of_ble_eq_true rfl) dX11_bestOf_40 rfl ?_
    rintro _ ν1 ⟨rfl, q1⟩
    show zX shR σ 8 MX11_bestOf 43 [(0, zr 0), (1, zi (nI l)), (2, zi 1), (3, zi 40), (4, zi ((rS 1 μ) (7 + 4 * l + 1))), (5, zi bs), (6, zi tp), (7, zi (nI k))] [zi (pShow ρ (rS 1 (zp μ1 1 (7 + 4 * l + 1) (nI k))) l)] ν1 _
    rw [show pShow ρ (rS 1 (zp μ1 1 (7 + 4 * l + 1) (nI k))) l = (fun q_ => pShow ρ (pPut (rS 1 μ) (7 + 4 * l + 1) (nI q_)) l) k from by rw [hM]]
    show zX shR σ 8 MX11_bestOf 43 [(0, zr 0), (1, zi (nI l)), (2, zi 1), (3, zi 40), (4, zi ((rS 1 μ) (7 + 4 * l + 1))), (5, zi bs), (6, zi tp), (7, zi (nI k))] [zi ((fun q_ => pShow ρ (pPut (rS 1 μ) (7 + 4 * l + 1) (nI q_)) l) k)] ν1 _
    refine zx_istore (nn := 45) (lv' := [(8, zi ((fun q_ => pShow ρ (pPut (rS 1 μ) (7 + 4 * l + 1) (nI q_)) l) k)), (0, zr 0), (1, zi (nI l)), (2, zi 1), (3, zi 40), (4, zi ((rS 1 μ) (7 + 4 * l + 1))), (5, zi bs), (6, zi tp), (7, zi (nI k))]) dX11_bestOf_43 (by decide) rfl rfl ?_
    refine zx_iload (k := 6) (nn := 47) dX11_bestOf_45 rfl rfl ?_
    refine zx_if_lt (tgt := 57) (nn := 50) dX11_bestOf_47 (by decide) rfl (fun h47 => ?_) (fun h47 => ?_)
    · refine zx_iload (k := 8) (nn := 59) dX11_bestOf_57 rfl rfl ?_
      refine zx_istore (nn := 61) (lv' := [(5, zi (nI k)), (8, zi ((fun q_ => pShow ρ (pPut (rS 1 μ) (7 + 4 * l + 1) (nI q_)) l) k)), (0, zr 0), (1, zi (nI l)), (2, zi 1), (3, zi 40), (4, zi ((rS 1 μ) (7 + 4 * l + 1))), (6, zi tp), (7, zi (nI k))]) dX11_bestOf_59 (by decide) rfl rfl ?_
      refine zx_iload (k := 1) (nn := 63) dX11_bestOf_61 rfl rfl ?_
      refine zx_istore (nn := 65) (lv' := [(6, zi ((fun q_ => pShow ρ (pPut (rS 1 μ) (7 + 4 * l + 1) (nI q_)) l) k)), (5, zi (nI k)), (8, zi ((fun q_ => pShow ρ (pPut (rS 1 μ) (7 + 4 * l + 1) (nI q_)) l) k)), (0, zr 0), (1, zi (nI l)), (2, zi 1), (3, zi 40), (4, zi ((rS 1 μ) (7 + 4 * l + 1))), (7, zi (nI k))]) dX11_bestOf_63 (by decide) rfl rfl ?_
      refine zx_iinc (k := 8) (v := nI (k + 1)) (lv' := [(7, zi (nI (k + 1))), (6, zi ((fun q_ => pShow ρ (pPut (rS 1 μ) (7 + 4 * l + 1) (nI q_)) l) k)), (5, zi (nI k)), (8, zi ((fun q_ => pShow ρ (pPut (rS 1 μ) (7 + 4 * l + 1) (nI q_)) l) k)), (0, zr 0), (1, zi (nI l)), (2, zi 1), (3, zi 40), (4, zi ((rS 1 μ) (7 + 4 * l + 1)))]) (nn := 68) dX11_bestOf_65 rfl (nI_1 k) (by decide) rfl rfl ?_
      refine zx_goto (tgt := 17) dX11_bestOf_68 (by decide) ?_
      refine zx_lv (lv' := [(0, zr 0), (1, zi (nI l)), (2, zi 1), (3, zi 40), (4, zi ((rS 1 μ) (7 + 4 * l + 1))), (5, zi (nI k)), (6, zi ((fun q_ => pShow ρ (pPut (rS 1 μ) (7 + 4 * l + 1) (nI q_)) l) k)), (7, zi (nI (k + 1)))]) [4, 5, 6, 7, 8, 2, 1, 0] rfl ?_
      exact ih17 (k + 1, nI k, (fun q_ => pShow ρ (pPut (rS 1 μ) (7 + 4 * l + 1) (nI q_)) l) k, ν1) (show (k + 1) ≤ 41 ∧ zJ [1, 4, 6, 7] μ ν1 ∧ (∀ i, i ≠ 7 + 4 * l + 1 → ν1 1 i = μ 1 i) ∧ (((k + 1) = 0 ∧ (nI k) = -1) ∨ ((k + 1) ≠ 0 ∧ pArg (fun q_ => pShow ρ (pPut (rS 1 μ) (7 + 4 * l + 1) (nI q_)) l) (k + 1) = (((fun q_ => pShow ρ (pPut (rS 1 μ) (7 + 4 * l + 1) (nI q_)) l) k), (nI k)) ∧ ¬ (nI k) < 0)) from ⟨by omega, (hj.p (by decide)).tr (q1.mono (by simp)), fun i hi => by rw [q1 1 (by decide), zp_eq, pk_un hi]; exact hr i hi, Or.inr ⟨by omega, pArg_new hv hf0 (Or.inl h47), nI_pos (by omega)⟩⟩) (by show 41 - (k + 1) < 41 - k; omega)
    · refine zx_iload (k := 0) (nn := 52) dX11_bestOf_50 rfl rfl ?_
      refine zx_iload (k := 7) (nn := 54) dX11_bestOf_52 rfl rfl ?_
      refine zx_icmp_le (tgt := 65) (nn := 57) dX11_bestOf_54 (by decide) rfl (fun h54 => ?_) (fun h54 => ?_)
      · refine zx_iinc (k := 8) (v := nI (k + 1)) (lv' := [(7, zi (nI (k + 1))), (8, zi ((fun q_ => pShow ρ (pPut (rS 1 μ) (7 + 4 * l + 1) (nI q_)) l) k)), (0, zr 0), (1, zi (nI l)), (2, zi 1), (3, zi 40), (4, zi ((rS 1 μ) (7 + 4 * l + 1))), (5, zi bs), (6, zi tp)]) (nn := 68) dX11_bestOf_65 rfl (nI_1 k) (by decide) rfl rfl ?_
        refine zx_goto (tgt := 17) dX11_bestOf_68 (by decide) ?_
        refine zx_lv (lv' := [(0, zr 0), (1, zi (nI l)), (2, zi 1), (3, zi 40), (4, zi ((rS 1 μ) (7 + 4 * l + 1))), (5, zi bs), (6, zi tp), (7, zi (nI (k + 1)))]) [2, 3, 4, 5, 6, 7, 8, 0] rfl ?_
        exact ih17 (k + 1, bs, tp, ν1) (show (k + 1) ≤ 41 ∧ zJ [1, 4, 6, 7] μ ν1 ∧ (∀ i, i ≠ 7 + 4 * l + 1 → ν1 1 i = μ 1 i) ∧ (((k + 1) = 0 ∧ bs = -1) ∨ ((k + 1) ≠ 0 ∧ pArg (fun q_ => pShow ρ (pPut (rS 1 μ) (7 + 4 * l + 1) (nI q_)) l) (k + 1) = (tp, bs) ∧ ¬ bs < 0)) from ⟨by omega, (hj.p (by decide)).tr (q1.mono (by simp)), fun i hi => by rw [q1 1 (by decide), zp_eq, pk_un hi]; exact hr i hi, Or.inr ⟨by omega, pArg_old hv h47 h54, h47⟩⟩) (by show 41 - (k + 1) < 41 - k; omega)
      · refine zx_iload (k := 8) (nn := 59) dX11_bestOf_57 rfl rfl ?_
        refine zx_istore (nn := 61) (lv' := [(5, zi (nI k)), (8, zi ((fun q_ => pShow ρ (pPut (rS 1 μ) (7 + 4 * l + 1) (nI q_)) l) k)), (0, zr 0), (1, zi (nI l)), (2, zi 1), (3, zi 40), (4, zi ((rS 1 μ) (7 + 4 * l + 1))), (6, zi tp), (7, zi (nI k))]) dX11_bestOf_59 (by decide) rfl rfl ?_
        refine zx_iload (k := 1) (nn := 63) dX11_bestOf_61 rfl rfl ?_
        refine zx_istore (nn := 65) (lv' := [(6, zi ((fun q_ => pShow ρ (pPut (rS 1 μ) (7 + 4 * l + 1) (nI q_)) l) k)), (5, zi (nI k)), (8, zi ((fun q_ => pShow ρ (pPut (rS 1 μ) (7 + 4 * l + 1) (nI q_)) l) k)), (0, zr 0), (1, zi (nI l)), (2, zi 1), (3, zi 40), (4, zi ((rS 1 μ) (7 + 4 * l + 1))), (7, zi (nI k))]) dX11_bestOf_63 (by decide) rfl rfl ?_
        refine zx_iinc (k := 8) (v := nI (k + 1)) (lv' := [(7, zi (nI (k + 1))), (6, zi ((fun q_ => pShow ρ (pPut (rS 1 μ) (7 + 4 * l + 1) (nI q_)) l) k)), (5, zi (nI k)), (8, zi ((fun q_ => pShow ρ (pPut (rS 1 μ) (7 + 4 * l + 1) (nI q_)) l) k)), (0, zr 0), (1, zi (nI l)), (2, zi 1), (3, zi 40), (4, zi ((rS 1 μ) (7 + 4 * l + 1)))]) (nn := 68) dX11_bestOf_65 rfl (nI_1 k) (by decide) rfl rfl ?_
        refine zx_goto (tgt := 17) dX11_bestOf_68 (by decide) ?_
        refine zx_lv (lv' := [(0, zr 0), (1, zi (nI l)), (2, zi 1), (3, zi 40), (4, zi ((rS 1 μ) (7 + 4 * l + 1))), (5, zi (nI k)), (6, zi ((fun q_ => pShow ρ (pPut (rS 1 μ) (7 + 4 * l + 1) (nI q_)) l) k)), (7, zi (nI (k + 1)))]) [4, 5, 6, 7, 8, 2, 1, 0] rfl ?_
        exact ih17 (k + 1, nI k, (fun q_ => pShow ρ (pPut (rS 1 μ) (7 + 4 * l + 1) (nI q_)) l) k, ν1) (show (k + 1) ≤ 41 ∧ zJ [1, 4, 6, 7] μ ν1 ∧ (∀ i, i ≠ 7 + 4 * l + 1 → ν1 1 i = μ 1 i) ∧ (((k + 1) = 0 ∧ (nI k) = -1) ∨ ((k + 1) ≠ 0 ∧ pArg (fun q_ => pShow ρ (pPut (rS 1 μ) (7 + 4 * l + 1) (nI q_)) l) (k + 1) = (((fun q_ => pShow ρ (pPut (rS 1 μ) (7 + 4 * l + 1) (nI q_)) l) k), (nI k)) ∧ ¬ (nI k) < 0)) from ⟨by omega, (hj.p (by decide)).tr (q1.mono (by simp)), fun i hi => by rw [q1 1 (by decide), zp_eq, pk_un hi]; exact hr i hi, Or.inr ⟨by omega, pArg_new hv hf0 (Or.inr (Int32.not_le.mp h54)), nI_pos (by omega)⟩⟩) (by show 41 - (k + 1) < 41 - k; omega)
set_option maxHeartbeats 4000000 in
set_option maxRecDepth 100000 in
theorem eX11_bestOf_2 (σ : zG) (μ : zM) (l : Nat) {ρ : pR} (ok : pOK (rS 1 μ)) (ab : pAB (rS 1 μ)) (hl : l < pL (rS 1 μ)) (hρ : rRep ρ (μ 1)) : zMet shR σ 8 MX11_bestOf yX11_bestOf [zr 0, zi (nI l), zi 2, zi 9] μ (fun rr μ' => rr = some (zi ((pArg (fun q_ => pShow ρ (pPut (rS 1 μ) (7 + 4 * l + 2) (nI q_)) l) 10).2)) ∧ zJ [4, 6, 7] μ μ') := by
  have hl6 : l < 6 := Nat.lt_of_lt_of_le hl (ok_L ok).2
  refine zmetF (by decide +kernel) rfl (Nat.le_of_ble_eq_true rfl) ?_
  show zX shR σ 8 MX11_bestOf 0 [(0, zr 0), (1, zi (nI l)), (2, zi 2), (3, zi 9)] [] μ _
  refine zx_aload_n (k := 0) (nn := 1) dX11_bestOf_0 rfl rfl rfl ?_
  refine zx_iload_n (k := 1) (nn := 2) dX11_bestOf_1 rfl rfl rfl ?_
  refine zx_iload_n (k := 2) (nn := 3) dX11_bestOf_2 rfl rfl rfl ?_
  refine zx_callVf (nn := 6) (k := 0) (d' := 0) (as := [zi (nI l), zi 2]) (rest := []) (n := 2) (eX11_of_0 σ μ l 2  hl6 (by decide)) kX11_of mlX11_88 rfl rfl rfl (by decide) rfl rfl (Nat.le_of_ble_eq_true rfl) dX11_bestOf_3 rfl ?_
  show zX shR σ 8 MX11_bestOf 6 [(0, zr 0), (1, zi (nI l)), (2, zi 2), (3, zi 9)] [zi (rS 1 μ (7 + 4 * l + 2))] μ _
  refine zx_istore (nn := 8) (lv' := [(4, zi (rS 1 μ (7 + 4 * l + 2))), (0, zr 0), (1, zi (nI l)), (2, zi 2), (3, zi 9)]) dX11_bestOf_6 (by decide) rfl rfl ?_
  refine zx_iconst (v := -1) (nn := 9) rfl dX11_bestOf_8 rfl ?_
  refine zx_istore (nn := 11) (lv' := [(5, zi (-1)), (4, zi (rS 1 μ (7 + 4 * l + 2))), (0, zr 0), (1, zi (nI l)), (2, zi 2), (3, zi 9)]) dX11_bestOf_9 (by decide) rfl rfl ?_
  refine zx_iconst (v := 0) (nn := 12) rfl dX11_bestOf_11 rfl ?_
  refine zx_istore (nn := 14) (lv' := [(6, zi 0), (5, zi (-1)), (4, zi (rS 1 μ (7 + 4 * l + 2))), (0, zr 0), (1, zi (nI l)), (2, zi 2), (3, zi 9)]) dX11_bestOf_12 (by decide) rfl rfl ?_
  refine zx_iconst (v := 0) (nn := 15) rfl dX11_bestOf_14 rfl ?_
  refine zx_istore (nn := 17) (lv' := [(7, zi 0), (6, zi 0), (5, zi (-1)), (4, zi (rS 1 μ (7 + 4 * l + 2))), (0, zr 0), (1, zi (nI l)), (2, zi 2), (3, zi 9)]) dX11_bestOf_15 (by decide) rfl rfl ?_
  refine zx_lv (lv' := [(0, zr 0), (1, zi (nI l)), (2, zi 2), (3, zi 9), (4, zi (rS 1 μ (7 + 4 * l + 2))), (5, zi (-1)), (6, zi 0), (7, zi 0)]) [4, 5, 6, 7, 3, 2, 1, 0] rfl ?_
  refine zx_while (τ := Nat × Int32 × Int32 × zM) (fun t_ => 10 - t_.1) (fun t_ => t_.1 ≤ 10 ∧ zJ [1, 4, 6, 7] μ t_.2.2.2 ∧ (∀ i, i ≠ 7 + 4 * l + 2 → t_.2.2.2 1 i = μ 1 i) ∧ ((t_.1 = 0 ∧ t_.2.1 = -1) ∨ (t_.1 ≠ 0 ∧ pArg (fun q_ => pShow ρ (pPut (rS 1 μ) (7 + 4 * l + 2) (nI q_)) l) t_.1 = (t_.2.2.1, t_.2.1) ∧ ¬ t_.2.1 < 0))) (fun t_ => [(0, zr 0), (1, zi (nI l)), (2, zi 2), (3, zi 9), (4, zi ((rS 1 μ) (7 + 4 * l + 2))), (5, zi t_.2.1), (6, zi t_.2.2.1), (7, zi (nI t_.1))]) (fun t_ => t_.2.2.2) (t0 := (0, -1, 0, μ)) (show 0 ≤ 10 ∧ zJ [1, 4, 6, 7] μ μ ∧ (∀ i, i ≠ 7 + 4 * l + 2 → μ 1 i = μ 1 i) ∧ ((0 = 0 ∧ (-1) = -1) ∨ (0 ≠ 0 ∧ pArg (fun q_ => pShow ρ (pPut (rS 1 μ) (7 + 4 * l + 2) (nI q_)) l) 0 = (0, (-1)) ∧ ¬ (-1) < 0)) from ⟨Nat.zero_le _, zJ.rf, fun _ _ => rfl, Or.inl ⟨rfl, rfl⟩⟩) ?_
  rintro ⟨k, bs, tp, μ1⟩ hI ih17
  replace hI : k ≤ 10 ∧ zJ [1, 4, 6, 7] μ μ1 ∧ (∀ i, i ≠ 7 + 4 * l + 2 → μ1 1 i = μ 1 i) ∧ ((k = 0 ∧ bs = -1) ∨ (k ≠ 0 ∧ pArg (fun q_ => pShow ρ (pPut (rS 1 μ) (7 + 4 * l + 2) (nI q_)) l) k = (tp, bs) ∧ ¬ bs < 0)) := hI
  show zX shR σ 8 MX11_bestOf 17 [(0, zr 0), (1, zi (nI l)), (2, zi 2), (3, zi 9), (4, zi ((rS 1 μ) (7 + 4 * l + 2))), (5, zi bs), (6, zi tp), (7, zi (nI k))] [] μ1 _
  obtain ⟨hk, hj, hr, hv⟩ := hI
  refine zx_iload (k := 7) (nn := 19) dX11_bestOf_17 rfl rfl ?_
  refine zx_iload_n (k := 3) (nn := 20) dX11_bestOf_19 rfl rfl rfl ?_
  refine zx_icmp_gt (tgt := 71) (nn := 23) dX11_bestOf_20 (by decide) rfl (fun h20 => ?_) (fun h20 => ?_)
  · refine zx_aload_n (k := 0) (nn := 72) dX11_bestOf_71 rfl rfl rfl ?_
    refine zx_getR (q := 1) (nn := 75) flX11_9 rfl rfl dX11_bestOf_72 rfl ?_
    refine zx_bipush (v := 7) (nn := 77) rfl dX11_bestOf_75 rfl ?_
    refine zx_iconst (v := 4) (nn := 78) rfl dX11_bestOf_77 rfl ?_
    refine zx_iload_n (k := 1) (nn := 79) dX11_bestOf_78 rfl rfl rfl ?_
    refine zx_imul (nn := 80) dX11_bestOf_79 rfl ?_
    refine zx_iadd (nn := 81) dX11_bestOf_80 rfl ?_
    refine zx_iload_n (k := 2) (nn := 82) dX11_bestOf_81 rfl rfl rfl ?_
    refine zx_iadd (nn := 83) dX11_bestOf_82 rfl ?_
    rw [show (7 + (4 * (nI l))) + 2 = nI (7 + 4 * l + 2) from by simp only [show (2 : Int32) = nI 2 from rfl, show (3 : Int32) = nI 3 from rfl, show (1 : Int32) = nI 1 from rfl, show (4 : Int32) = nI 4 from rfl, show (5 : Int32) = nI 5 from rfl, show (7 : Int32) = nI 7 from rfl, show (31 : Int32) = nI 31 from rfl, show (47 : Int32) = nI 47 from rfl, show (71 : Int32) = nI 71 from rfl, show (111 : Int32) = nI 111 from rfl, nI_mulN, nI_add]]
    show zX shR σ 8 MX11_bestOf 83 [(0, zr 0), (1, zi (nI l)), (2, zi 2), (3, zi 9), (4, zi ((rS 1 μ) (7 + 4 * l + 2))), (5, zi bs), (6, zi tp), (7, zi (nI k))] [zi (nI (7 + 4 * l + 2)), zr 1] μ1 _
    refine zx_iload (k := 4) (nn := 85) dX11_bestOf_83 rfl rfl ?_
    refine zx_iast_n (j := 7 + 4 * l + 2) (nn := 86) rfl (by omega) (by decide) dX11_bestOf_85 rfl ?_
    refine zx_iload (k := 5) (nn := 88) dX11_bestOf_86 rfl rfl ?_
    refine zx_iret rfl dX11_bestOf_88 ?_
    have hge : 9 < k := (nI_ltI (a := 9) (by omega) (by omega)).mp h20
    refine ⟨congrArg (fun x => some (zi x)) ?_, zJ_drop (k := 1) (hj.p (by decide)) (rRow_put hr (rS_i (by omega) (by omega) (by omega))) (by decide)⟩
    rcases hv with ⟨v1, _⟩ | ⟨_, v2, _⟩
    · omega
    · rw [show 10 = k by omega, v2]
  · have hlt : k ≤ 9 := (nI_leI (b := 9) (by omega) (by omega)).mp (Int32.not_lt.mp h20)
    refine zx_aload_n (k := 0) (nn := 24) dX11_bestOf_23 rfl rfl rfl ?_
    refine zx_getR (q := 1) (nn := 27) flX11_9 rfl rfl dX11_bestOf_24 rfl ?_
    refine zx_bipush (v := 7) (nn := 29) rfl dX11_bestOf_27 rfl ?_
    refine zx_iconst (v := 4) (nn := 30) rfl dX11_bestOf_29 rfl ?_
    refine zx_iload_n (k := 1) (nn := 31) dX11_bestOf_30 rfl rfl rfl ?_
    refine zx_imul (nn := 32) dX11_bestOf_31 rfl ?_
    refine zx_iadd (nn := 33) dX11_bestOf_32 rfl ?_
    refine zx_iload_n (k := 2) (nn := 34) dX11_bestOf_33 rfl rfl rfl ?_
    refine zx_iadd (nn := 35) dX11_bestOf_34 rfl ?_
    rw [show (7 + (4 * (nI l))) + 2 = nI (7 + 4 * l + 2) from by simp only [show (2 : Int32) = nI 2 from rfl, show (3 : Int32) = nI 3 from rfl, show (1 : Int32) = nI 1 from rfl, show (4 : Int32) = nI 4 from rfl, show (5 : Int32) = nI 5 from rfl, show (7 : Int32) = nI 7 from rfl, show (31 : Int32) = nI 31 from rfl, show (47 : Int32) = nI 47 from rfl, show (71 : Int32) = nI 71 from rfl, show (111 : Int32) = nI 111 from rfl, nI_mulN, nI_add]]
    show zX shR σ 8 MX11_bestOf 35 [(0, zr 0), (1, zi (nI l)), (2, zi 2), (3, zi 9), (4, zi ((rS 1 μ) (7 + 4 * l + 2))), (5, zi bs), (6, zi tp), (7, zi (nI k))] [zi (nI (7 + 4 * l + 2)), zr 1] μ1 _
    refine zx_iload (k := 7) (nn := 37) dX11_bestOf_35 rfl rfl ?_
    refine zx_iast_n (j := 7 + 4 * l + 2) (nn := 38) rfl (by omega) (by decide) dX11_bestOf_37 rfl ?_
    have hM : rS 1 (zp μ1 1 (7 + 4 * l + 2) (nI k)) = pPut (rS 1 μ) (7 + 4 * l + 2) (nI k) := rS_off hr (by omega) (by omega) (by omega)
    have okM : pOK (rS 1 (zp μ1 1 (7 + 4 * l + 2) (nI k))) := by rw [hM]; exact pOK_size ok hl (by omega)
    have abM : pAB (rS 1 (zp μ1 1 (7 + 4 * l + 2) (nI k))) := by rw [hM]; exact pAB_put ab (by omega) (Or.inr ⟨fun l_ => by omega, Or.inl (by omega)⟩) (ok_B ok).2
    have hρM : rRep ρ ((zp μ1 1 (7 + 4 * l + 2) (nI k)) 1) := rRep_K (μ := μ) (fun i hi => by rw [zp_eq, pk_un (by omega)]; exact hr i (by omega)) hρ
    have hlM : l < pL (rS 1 (zp μ1 1 (7 + 4 * l + 2) (nI k))) := by rw [hM, (pPut_n (by omega)).2.2.1]; exact hl
    have hf0 : 0 ≤ ((fun q_ => pShow ρ (pPut (rS 1 μ) (7 + 4 * l + 2) (nI q_)) l) k).toInt := pShow_b (pOK_size ok hl (by omega)) (by rw [(pPut_n (by omega)).2.2.1]; exact hl)
    refine zx_aload_n (k := 0) (nn := 39) dX11_bestOf_38 rfl rfl rfl ?_
    refine zx_iload_n (k := 1) (nn := 40) dX11_bestOf_39 rfl rfl rfl ?_
    refine zx_callV (nn := 43) (k := 0) (d' := 7) (as := [zi (nI l)]) (rest := []) (n := 1) (eX11_showsIt_0 σ (zp μ1 1 (7 + 4 * l + 2) (nI k)) l  okM abM hlM hρM) kX11_showsIt mlX11_299 rfl rfl rfl (by decide) rfl rfl (Nat.le_of_ble_eq_true rfl) dX11_bestOf_40 rfl ?_
    rintro _ ν1 ⟨rfl, q1⟩
    show zX shR σ 8 MX11_bestOf 43 [(0, zr 0), (1, zi (nI l)), (2, zi 2), (3, zi 9), (4, zi ((rS 1 μ) (7 + 4 * l + 2))), (5, zi bs), (6, zi tp), (7, zi (nI k))] [zi (pShow ρ (rS 1 (zp μ1 1 (7 + 4 * l + 2) (nI k))) l)] ν1 _
    rw [show pShow ρ (rS 1 (zp μ1 1 (7 + 4 * l + 2) (nI k))) l = (fun q_ => pShow ρ (pPut (rS 1 μ) (7 + 4 * l + 2) (nI q_)) l) k from by rw [hM]]
    show zX shR σ 8 MX11_bestOf 43 [(0, zr 0), (1, zi (nI l)), (2, zi 2), (3, zi 9), (4, zi ((rS 1 μ) (7 + 4 * l + 2))), (5, zi bs), (6, zi tp), (7, zi (nI k))] [zi ((fun q_ => pShow ρ (pPut (rS 1 μ) (7 + 4 * l + 2) (nI q_)) l) k)] ν1 _
    refine zx_istore (nn := 45) (lv' := [(8, zi ((fun q_ => pShow ρ (pPut (rS 1 μ) (7 + 4 * l + 2) (nI q_)) l) k)), (0, zr 0), (1, zi (nI l)), (2, zi 2), (3, zi 9), (4, zi ((rS 1 μ) (7 + 4 * l + 2))), (5, zi bs), (6, zi tp), (7, zi (nI k))]) dX11_bestOf_43 (by decide) rfl rfl ?_
    refine zx_iload (k := 6) (nn := 47) dX11_bestOf_45 rfl rfl ?_
    refine zx_if_lt (tgt := 57) (nn := 50) dX11_bestOf_47 (by decide) rfl (fun h47 => ?_) (fun h47 => ?_)
    · refine zx_iload (k := 8) (nn := 59) dX11_bestOf_57 rfl rfl ?_
      refine zx_istore (nn := 61) (lv' := [(5, zi (nI k)), (8, zi ((fun q_ => pShow ρ (pPut (rS 1 μ) (7 + 4 * l + 2) (nI q_)) l) k)), (0, zr 0), (1, zi (nI l)), (2, zi 2), (3, zi 9), (4, zi ((rS 1 μ) (7 + 4 * l + 2))), (6, zi tp), (7, zi (nI k))]) dX11_bestOf_59 (by decide) rfl rfl ?_
      refine zx_iload (k := 1) (nn := 63) dX11_bestOf_61 rfl rfl ?_
      refine zx_istore (nn := 65) (lv' := [(6, zi ((fun q_ => pShow ρ (pPut (rS 1 μ) (7 + 4 * l + 2) (nI q_)) l) k)), (5, zi (nI k)), (8, zi ((fun q_ => pShow ρ (pPut (rS 1 μ) (7 + 4 * l + 2) (nI q_)) l) k)), (0, zr 0), (1, zi (nI l)), (2, zi 2), (3, zi 9), (4, zi ((rS 1 μ) (7 + 4 * l + 2))), (7, zi (nI k))]) dX11_bestOf_63 (by decide) rfl rfl ?_
      refine zx_iinc (k := 8) (v := nI (k + 1)) (lv' := [(7, zi (nI (k + 1))), (6, zi ((fun q_ => pShow ρ (pPut (rS 1 μ) (7 + 4 * l + 2) (nI q_)) l) k)), (5, zi (nI k)), (8, zi ((fun q_ => pShow ρ (pPut (rS 1 μ) (7 + 4 * l + 2) (nI q_)) l) k)), (0, zr 0), (1, zi (nI l)), (2, zi 2), (3, zi 9), (4, zi ((rS 1 μ) (7 + 4 * l + 2)))]) (nn := 68) dX11_bestOf_65 rfl (nI_1 k) (by decide) rfl rfl ?_
      refine zx_goto (tgt := 17) dX11_bestOf_68 (by decide) ?_
      refine zx_lv (lv' := [(0, zr 0), (1, zi (nI l)), (2, zi 2), (3, zi 9), (4, zi ((rS 1 μ) (7 + 4 * l + 2))), (5, zi (nI k)), (6, zi ((fun q_ => pShow ρ (pPut (rS 1 μ) (7 + 4 * l + 2) (nI q_)) l) k)), (7, zi (nI (k + 1)))]) [4, 5, 6, 7, 8, 2, 1, 0] rfl ?_
      exact ih17 (k + 1, nI k, (fun q_ => pShow ρ (pPut (rS 1 μ) (7 + 4 * l + 2) (nI q_)) l) k, ν1) (show (k + 1) ≤ 10 ∧ zJ [1, 4, 6, 7] μ ν1 ∧ (∀ i, i ≠ 7 + 4 * l + 2 → ν1 1 i = μ 1 i) ∧ (((k + 1) = 0 ∧ (nI k) = -1) ∨ ((k + 1) ≠ 0 ∧ pArg (fun q_ => pShow ρ (pPut (rS 1 μ) (7 + 4 * l + 2) (nI q_)) l) (k + 1) = (((fun q_ => pShow ρ (pPut (rS 1 μ) (7 + 4 * l + 2) (nI q_)) l) k), (nI k)) ∧ ¬ (nI k) < 0)) from ⟨by omega, (hj.p (by decide)).tr (q1.mono (by simp)), fun i hi => by rw [q1 1 (by decide), zp_eq, pk_un hi]; exact hr i hi, Or.inr ⟨by omega, pArg_new hv hf0 (Or.inl h47), nI_pos (by omega)⟩⟩) (by show 10 - (k + 1) < 10 - k; omega)
    · refine zx_iload (k := 0) (nn := 52) dX11_bestOf_50 rfl rfl ?_
      refine zx_iload (k := 7) (nn := 54) dX11_bestOf_52 rfl rfl ?_
      refine zx_icmp_le (tgt := 65) (nn := 57) dX11_bestOf_54 (by decide) rfl (fun h54 => ?_) (fun h54 => ?_)
      · refine zx_iinc (k := 8) (v := nI (k + 1)) (lv' := [(7, zi (nI (k + 1))), (8, zi ((fun q_ => pShow ρ (pPut (rS 1 μ) (7 + 4 * l + 2) (nI q_)) l) k)), (0, zr 0), (1, zi (nI l)), (2, zi 2), (3, zi 9), (4, zi ((rS 1 μ) (7 + 4 * l + 2))), (5, zi bs), (6, zi tp)]) (nn := 68) dX11_bestOf_65 rfl (nI_1 k) (by decide) rfl rfl ?_
        refine zx_goto (tgt := 17) dX11_bestOf_68 (by decide) ?_
        refine zx_lv (lv' := [(0, zr 0), (1, zi (nI l)), (2, zi 2), (3, zi 9), (4, zi ((rS 1 μ) (7 + 4 * l + 2))), (5, zi bs), (6, zi tp), (7, zi (nI (k + 1)))]) [2, 3, 4, 5, 6, 7, 8, 0] rfl ?_
        exact ih17 (k + 1, bs, tp, ν1) (show (k + 1) ≤ 10 ∧ zJ [1, 4, 6, 7] μ ν1 ∧ (∀ i, i ≠ 7 + 4 * l + 2 → ν1 1 i = μ 1 i) ∧ (((k + 1) = 0 ∧ bs = -1) ∨ ((k + 1) ≠ 0 ∧ pArg (fun q_ => pShow ρ (pPut (rS 1 μ) (7 + 4 * l + 2) (nI q_)) l) (k + 1) = (tp, bs) ∧ ¬ bs < 0)) from ⟨by omega, (hj.p (by decide)).tr (q1.mono (by simp)), fun i hi => by rw [q1 1 (by decide), zp_eq, pk_un hi]; exact hr i hi, Or.inr ⟨by omega, pArg_old hv h47 h54, h47⟩⟩) (by show 10 - (k + 1) < 10 - k; omega)
      · refine zx_iload (k := 8) (nn := 59) dX11_bestOf_57 rfl rfl ?_
        refine zx_istore (nn := 61) (lv' := [(5, zi (nI k)), (8, zi ((fun q_ => pShow ρ (pPut (rS 1 μ) (7 + 4 * l + 2) (nI q_)) l) k)), (0, zr 0), (1, zi (nI l)), (2, zi 2), (3, zi 9), (4, zi ((rS 1 μ) (7 + 4 * l + 2))), (6, zi tp), (7, zi (nI k))]) dX11_bestOf_59 (by decide) rfl rfl ?_
        refine zx_iload (k := 1) (nn := 63) dX11_bestOf_61 rfl rfl ?_
        refine zx_istore (nn := 65) (lv' := [(6, zi ((fun q_ => pShow ρ (pPut (rS 1 μ) (7 + 4 * l + 2) (nI q_)) l) k)), (5, zi (nI k)), (8, zi ((fun q_ => pShow ρ (pPut (rS 1 μ) (7 + 4 * l + 2) (nI q_)) l) k)), (0, zr 0), (1, zi (nI l)), (2, zi 2), (3, zi 9), (4, zi ((rS 1 μ) (7 + 4 * l + 2))), (7, zi (nI k))]) dX11_bestOf_63 (by decide) rfl rfl ?_
        refine zx_iinc (k := 8) (v := nI (k + 1)) (lv' := [(7, zi (nI (k + 1))), (6, zi ((fun q_ => pShow ρ (pPut (rS 1 μ) (7 + 4 * l + 2) (nI q_)) l) k)), (5, zi (nI k)), (8, zi ((fun q_ => pShow ρ (pPut (rS 1 μ) (7 + 4 * l + 2) (nI q_)) l) k)), (0, zr 0), (1, zi (nI l)), (2, zi 2), (3, zi 9), (4, zi ((rS 1 μ) (7 + 4 * l + 2)))]) (nn := 68) dX11_bestOf_65 rfl (nI_1 k) (by decide) rfl rfl ?_
        refine zx_goto (tgt := 17) dX11_bestOf_68 (by decide) ?_
        refine zx_lv (lv' := [(0, zr 0), (1, zi (nI l)), (2, zi 2), (3, zi 9), (4, zi ((rS 1 μ) (7 + 4 * l + 2))), (5, zi (nI k)), (6, zi ((fun q_ => pShow ρ (pPut (rS 1 μ) (7 + 4 * l + 2) (nI q_)) l) k)), (7, zi (nI (k + 1)))]) [4, 5, 6, 7, 8, 2, 1, 0] rfl ?_
        exact ih17 (k + 1, nI k, (fun q_ => pShow ρ (pPut (rS 1 μ) (7 + 4 * l + 2) (nI q_)) l) k, ν1) (show (k + 1) ≤ 10 ∧ zJ [1, 4, 6, 7] μ ν1 ∧ (∀ i, i ≠ 7 + 4 * l + 2 → ν1 1 i = μ 1 i) ∧ (((k + 1) = 0 ∧ (nI k) = -1) ∨ ((k + 1) ≠ 0 ∧ pArg (fun q_ => pShow ρ (pPut (rS 1 μ) (7 + 4 * l + 2) (nI q_)) l) (k + 1) = (((fun q_ => pShow ρ (pPut (rS 1 μ) (7 + 4 * l + 2) (nI q_)) l) k), (nI k)) ∧ ¬ (nI k) < 0)) from ⟨by omega, (hj.p (by decide)).tr (q1.mono (by simp)), fun i hi => by rw [q1 1 (by decide), zp_eq, pk_un hi]; exact hr i hi, Or.inr ⟨by omega, pArg_new hv hf0 (Or.inr (Int32.not_le.mp h54)), nI_pos (by omega)⟩⟩) (by show 10 - (k + 1) < 10 - k; omega)
set_option maxHeartbeats 4000000 in
set_option maxRecDepth 100000 in
theorem eX11_sized_0 (σ : zG) (μ : zM) (l : Int32) {ρ : pR} (ok : pOK (rS 1 μ)) (ab : pAB (rS 1 μ)) (hρ : rRep ρ (μ 1)) : zMet shR σ 9 MX11_sized yX11_sized [zr 0, zi l] μ (fun rr μ' => rr = some (zi (vSized ρ (rS 1 μ) l)) ∧ zJ [4, 6, 7] μ μ') := by
  refine zmetF (by decide +kernel) rfl (Nat.le_of_ble_eq_true rfl) ?_
  show zX shR σ 9 MX11_sized 0 [(0, zr 0), (1, zi l)] [] μ _
  refine zx_aload_n (k := 0) (nn := 1) dX11_sized_0 rfl rfl rfl ?_
  refine zx_iload_n (k := 1) (nn := 2) dX11_sized_1 rfl rfl rfl ?_
  refine zx_callVf (nn := 5) (k := 0) (d' := 1) (as := [zi l]) (rest := []) (n := 1) (eX11_isLamp_0 σ μ l  ok) kX11_isLamp mlX11_84 rfl rfl rfl (by decide) rfl rfl (Nat.le_of_ble_eq_true rfl) dX11_sized_2 rfl ?_
  show zX shR σ 9 MX11_sized 5 [(0, zr 0), (1, zi l)] [zi (zb (pHas ((rS 1 μ) 0) l))] μ _
  refine zx_ifb_eq (tgt := 19) (nn := 8) dX11_sized_5 (by decide) rfl (fun h5 => ?_) (fun h5 => ?_)
  · refine zx_iconst (v := -1) (nn := 20) rfl dX11_sized_19 rfl ?_
    refine zx_iret rfl dX11_sized_20 ?_
    refine ⟨congrArg (fun x => some (zi x)) ?_, zJ.rf⟩
    simp [vSized, h5]
  · obtain ⟨l1, n_l, rfl⟩ := hasL ok h5
    show zX shR σ 9 MX11_sized 8 [(0, zr 0), (1, zi (nI l1))] [] μ _
    refine zx_aload_n (k := 0) (nn := 9) dX11_sized_8 rfl rfl rfl ?_
    refine zx_iload_n (k := 1) (nn := 10) dX11_sized_9 rfl rfl rfl ?_
    refine zx_iconst (v := 2) (nn := 11) rfl dX11_sized_10 rfl ?_
    refine zx_bipush (v := 9) (nn := 13) rfl dX11_sized_11 rfl ?_
    refine zx_callV (nn := 16) (k := 0) (d' := 8) (as := [zi (nI l1), zi 2, zi 9]) (rest := []) (n := 3) (eX11_bestOf_2 σ μ l1 ok ab n_l.1 hρ) kX11_bestOf mlX11_307 rfl rfl rfl (by decide) rfl rfl (Nat.le_of_ble_eq_true rfl) dX11_sized_13 rfl ?_
    rintro _ ν1 ⟨rfl, q1⟩
    show zX shR σ 9 MX11_sized 16 [(0, zr 0), (1, zi (nI l1))] [zi ((pArg (fun q_ => pShow ρ (pPut (rS 1 μ) (7 + 4 * l1 + 2) (nI q_)) l1) 10).2)] ν1 _
    refine zx_goto (tgt := 20) dX11_sized_16 (by decide) ?_
    refine zx_iret rfl dX11_sized_20 ?_
    refine ⟨congrArg (fun x => some (zi x)) ?_, q1⟩
    unfold vSized
    rw [if_pos h5, n_l.2.2]
set_option maxHeartbeats 4000000 in
set_option maxRecDepth 100000 in
theorem eX11_aimed_0 (σ : zG) (μ : zM) (l : Int32) {ρ : pR} (ok : pOK (rS 1 μ)) (ab : pAB (rS 1 μ)) (hρ : rRep ρ (μ 1)) : zMet shR σ 9 MX11_aimed yX11_aimed [zr 0, zi l] μ (fun rr μ' => rr = some (zi (vAimed ρ (rS 1 μ) l)) ∧ zJ [4, 6, 7] μ μ') := by
  refine zmetF (by decide +kernel) rfl (Nat.le_of_ble_eq_true rfl) ?_
  show zX shR σ 9 MX11_aimed 0 [(0, zr 0), (1, zi l)] [] μ _
  refine zx_aload_n (k := 0) (nn := 1) dX11_aimed_0 rfl rfl rfl ?_
  refine zx_iload_n (k := 1) (nn := 2) dX11_aimed_1 rfl rfl rfl ?_
  refine zx_callVf (nn := 5) (k := 0) (d' := 1) (as := [zi l]) (rest := []) (n := 1) (eX11_isLamp_0 σ μ l  ok) kX11_isLamp mlX11_84 rfl rfl rfl (by decide) rfl rfl (Nat.le_of_ble_eq_true rfl) dX11_aimed_2 rfl ?_
  show zX shR σ 9 MX11_aimed 5 [(0, zr 0), (1, zi l)] [zi (zb (pHas ((rS 1 μ) 0) l))] μ _
  refine zx_ifb_eq (tgt := 19) (nn := 8) dX11_aimed_5 (by decide) rfl (fun h5 => ?_) (fun h5 => ?_)
  · refine zx_iconst (v := -1) (nn := 20) rfl dX11_aimed_19 rfl ?_
    refine zx_iret rfl dX11_aimed_20 ?_
    refine ⟨congrArg (fun x => some (zi x)) ?_, zJ.rf⟩
    simp [vAimed, h5]
  · obtain ⟨l1, n_l, rfl⟩ := hasL ok h5
    show zX shR σ 9 MX11_aimed 8 [(0, zr 0), (1, zi (nI l1))] [] μ _
    refine zx_aload_n (k := 0) (nn := 9) dX11_aimed_8 rfl rfl rfl ?_
    refine zx_iload_n (k := 1) (nn := 10) dX11_aimed_9 rfl rfl rfl ?_
    refine zx_iconst (v := 1) (nn := 11) rfl dX11_aimed_10 rfl ?_
    refine zx_bipush (v := 40) (nn := 13) rfl dX11_aimed_11 rfl ?_
    refine zx_callV (nn := 16) (k := 0) (d' := 8) (as := [zi (nI l1), zi 1, zi 40]) (rest := []) (n := 3) (eX11_bestOf_1 σ μ l1 ok ab n_l.1 hρ) kX11_bestOf mlX11_307 rfl rfl rfl (by decide) rfl rfl (Nat.le_of_ble_eq_true rfl) dX11_aimed_13 rfl ?_
    rintro _ ν1 ⟨rfl, q1⟩
    show zX shR σ 9 MX11_aimed 16 [(0, zr 0), (1, zi (nI l1))] [zi ((pArg (fun q_ => pShow ρ (pPut (rS 1 μ) (7 + 4 * l1 + 1) (nI q_)) l1) 41).2)] ν1 _
    refine zx_goto (tgt := 20) dX11_aimed_16 (by decide) ?_
    refine zx_iret rfl dX11_aimed_20 ?_
    refine ⟨congrArg (fun x => some (zi x)) ?_, q1⟩
    unfold vAimed
    rw [if_pos h5, n_l.2.2]
set_option maxHeartbeats 4000000 in
set_option maxRecDepth 100000 in
theorem eX11_stepFor_0 (σ : zG) (μ : zM) (l : Int32) {ρ : pR} (ok : pOK (rS 1 μ)) (ab : pAB (rS 1 μ)) (hρ : rRep ρ (μ 1)) : zMet shR σ 8 MX11_stepFor yX11_stepFor [zr 0, zi l] μ (fun rr μ' => rr = some (zi (vStepFor ρ (rS 1 μ) l)) ∧ zJ [4, 6, 7] μ μ') := by
  refine zmetF (by decide +kernel) rfl (Nat.le_of_ble_eq_true rfl) ?_
  show zX shR σ 8 MX11_stepFor 0 [(0, zr 0), (1, zi l)] [] μ _
  refine zx_aload_n (k := 0) (nn := 1) dX11_stepFor_0 rfl rfl rfl ?_
  refine zx_iload_n (k := 1) (nn := 2) dX11_stepFor_1 rfl rfl rfl ?_
  refine zx_callVf (nn := 5) (k := 0) (d' := 1) (as := [zi l]) (rest := []) (n := 1) (eX11_isLamp_0 σ μ l  ok) kX11_isLamp mlX11_84 rfl rfl rfl (by decide) rfl rfl (Nat.le_of_ble_eq_true rfl) dX11_stepFor_2 rfl ?_
  show zX shR σ 8 MX11_stepFor 5 [(0, zr 0), (1, zi l)] [zi (zb (pHas ((rS 1 μ) 0) l))] μ _
  refine zx_ifb_ne (tgt := 10) (nn := 8) dX11_stepFor_5 (by decide) rfl (fun h5 => ?_) (fun h5 => ?_)
  · obtain ⟨l1, n_l, rfl⟩ := hasL ok h5
    show zX shR σ 8 MX11_stepFor 10 [(0, zr 0), (1, zi (nI l1))] [] μ _
    refine zx_aload_n (k := 0) (nn := 11) dX11_stepFor_10 rfl rfl rfl ?_
    refine zx_iload_n (k := 1) (nn := 12) dX11_stepFor_11 rfl rfl rfl ?_
    refine zx_iconst (v := 3) (nn := 13) rfl dX11_stepFor_12 rfl ?_
    refine zx_callVf (nn := 16) (k := 0) (d' := 0) (as := [zi (nI l1), zi 3]) (rest := []) (n := 2) (eX11_of_0 σ μ l1 3  n_l.2.1 (by decide)) kX11_of mlX11_88 rfl rfl rfl (by decide) rfl rfl (Nat.le_of_ble_eq_true rfl) dX11_stepFor_13 rfl ?_
    show zX shR σ 8 MX11_stepFor 16 [(0, zr 0), (1, zi (nI l1))] [zi (rS 1 μ (7 + 4 * l1 + 3))] μ _
    refine zx_istore_n (nn := 17) (lv' := [(2, zi (rS 1 μ (7 + 4 * l1 + 3))), (0, zr 0), (1, zi (nI l1))]) dX11_stepFor_16 rfl (by decide) rfl rfl ?_
    refine zx_bipush (v := -3) (nn := 19) rfl dX11_stepFor_17 rfl ?_
    refine zx_istore_n (nn := 20) (lv' := [(3, zi (-3)), (2, zi (rS 1 μ (7 + 4 * l1 + 3))), (0, zr 0), (1, zi (nI l1))]) dX11_stepFor_19 rfl (by decide) rfl rfl ?_
    refine zx_iconst (v := 1) (nn := 21) rfl dX11_stepFor_20 rfl ?_
    refine zx_istore (nn := 23) (lv' := [(4, zi 1), (3, zi (-3)), (2, zi (rS 1 μ (7 + 4 * l1 + 3))), (0, zr 0), (1, zi (nI l1))]) dX11_stepFor_21 (by decide) rfl rfl ?_
    refine zx_lv (lv' := [(0, zr 0), (1, zi (nI l1)), (2, zi (rS 1 μ (7 + 4 * l1 + 3))), (3, zi (-3)), (4, zi 1)]) [3, 4, 2, 1, 0] rfl ?_
    refine zx_while (τ := Nat × Int32 × zM) (fun t_ => 9 - t_.1) (fun t_ => t_.1 ≤ 9 ∧ zJ [1, 4, 6, 7] μ t_.2.2 ∧ (∀ i, i ≠ 7 + 4 * l1 + 3 → t_.2.2 1 i = μ 1 i) ∧ ((t_.2.1 = -3 ∧ pFirst (fun q_ => decide (pLost ρ (pPut (rS 1 μ) (7 + 4 * l1 + 3) (nI (q_ + 1))) l1 = -3)) 0 9 = pFirst (fun q_ => decide (pLost ρ (pPut (rS 1 μ) (7 + 4 * l1 + 3) (nI (q_ + 1))) l1 = -3)) t_.1 (9 - t_.1)) ∨ (¬ t_.2.1 = -3 ∧ t_.2.1 = pStep ρ (rS 1 μ) l1))) (fun t_ => [(0, zr 0), (1, zi (nI l1)), (2, zi ((rS 1 μ) (7 + 4 * l1 + 3))), (3, zi t_.2.1), (4, zi (nI (t_.1 + 1)))]) (fun t_ => t_.2.2) (t0 := (0, -3, μ)) (show 0 ≤ 9 ∧ zJ [1, 4, 6, 7] μ μ ∧ (∀ i, i ≠ 7 + 4 * l1 + 3 → μ 1 i = μ 1 i) ∧ (((-3) = -3 ∧ pFirst (fun q_ => decide (pLost ρ (pPut (rS 1 μ) (7 + 4 * l1 + 3) (nI (q_ + 1))) l1 = -3)) 0 9 = pFirst (fun q_ => decide (pLost ρ (pPut (rS 1 μ) (7 + 4 * l1 + 3) (nI (q_ + 1))) l1 = -3)) 0 (9 - 0)) ∨ (¬ (-3) = -3 ∧ (-3) = pStep ρ (rS 1 μ) l1)) from ⟨Nat.zero_le _, zJ.rf, fun _ _ => rfl, Or.inl ⟨rfl, rfl⟩⟩) ?_
    rintro ⟨k, bs, μ1⟩ hI ih23
    replace hI : k ≤ 9 ∧ zJ [1, 4, 6, 7] μ μ1 ∧ (∀ i, i ≠ 7 + 4 * l1 + 3 → μ1 1 i = μ 1 i) ∧ ((bs = -3 ∧ pFirst (fun q_ => decide (pLost ρ (pPut (rS 1 μ) (7 + 4 * l1 + 3) (nI (q_ + 1))) l1 = -3)) 0 9 = pFirst (fun q_ => decide (pLost ρ (pPut (rS 1 μ) (7 + 4 * l1 + 3) (nI (q_ + 1))) l1 = -3)) k (9 - k)) ∨ (¬ bs = -3 ∧ bs = pStep ρ (rS 1 μ) l1)) := hI
    show zX shR σ 8 MX11_stepFor 23 [(0, zr 0), (1, zi (nI l1)), (2, zi ((rS 1 μ) (7 + 4 * l1 + 3))), (3, zi bs), (4, zi (nI (k + 1)))] [] μ1 _
    obtain ⟨hk, hj, hr, hv⟩ := hI
    refine zx_iload (k := 4) (nn := 25) dX11_stepFor_23 rfl rfl ?_
    refine zx_bipush (v := 10) (nn := 27) rfl dX11_stepFor_25 rfl ?_
    refine zx_icmp_ge (tgt := 75) (nn := 30) dX11_stepFor_27 (by decide) rfl (fun h27 => ?_) (fun h27 => ?_)
    · refine zx_aload_n (k := 0) (nn := 76) dX11_stepFor_75 rfl rfl rfl ?_
      refine zx_getR (q := 1) (nn := 79) flX11_9 rfl rfl dX11_stepFor_76 rfl ?_
      refine zx_bipush (v := 7) (nn := 81) rfl dX11_stepFor_79 rfl ?_
      refine zx_iconst (v := 4) (nn := 82) rfl dX11_stepFor_81 rfl ?_
      refine zx_iload_n (k := 1) (nn := 83) dX11_stepFor_82 rfl rfl rfl ?_
      refine zx_imul (nn := 84) dX11_stepFor_83 rfl ?_
      refine zx_iadd (nn := 85) dX11_stepFor_84 rfl ?_
      refine zx_iconst (v := 3) (nn := 86) rfl dX11_stepFor_85 rfl ?_
      refine zx_iadd (nn := 87) dX11_stepFor_86 rfl ?_
      rw [show (7 + (4 * (nI l1))) + 3 = nI (7 + 4 * l1 + 3) from by simp only [show (2 : Int32) = nI 2 from rfl, show (3 : Int32) = nI 3 from rfl, show (1 : Int32) = nI 1 from rfl, show (4 : Int32) = nI 4 from rfl, show (5 : Int32) = nI 5 from rfl, show (7 : Int32) = nI 7 from rfl, show (31 : Int32) = nI 31 from rfl, show (47 : Int32) = nI 47 from rfl, show (71 : Int32) = nI 71 from rfl, show (111 : Int32) = nI 111 from rfl, nI_mulN, nI_add]]
      show zX shR σ 8 MX11_stepFor 87 [(0, zr 0), (1, zi (nI l1)), (2, zi ((rS 1 μ) (7 + 4 * l1 + 3))), (3, zi bs), (4, zi (nI (k + 1)))] [zi (nI (7 + 4 * l1 + 3)), zr 1] μ1 _
      refine zx_iload_n (k := 2) (nn := 88) dX11_stepFor_87 rfl rfl rfl ?_
      refine zx_iast_n (j := 7 + 4 * l1 + 3) (nn := 89) rfl (by omega) (by decide) dX11_stepFor_88 rfl ?_
      refine zx_iload_n (k := 3) (nn := 90) dX11_stepFor_89 rfl rfl rfl ?_
      refine zx_iret rfl dX11_stepFor_90 ?_
      have hge := nI_le_le (b := 10) h27 (by omega)
      refine ⟨congrArg (fun x => some (zi x)) ?_, zJ_drop (k := 1) (hj.p (by decide)) (rRow_put hr (rS_i (by omega) (by omega) (by omega))) (by decide)⟩
      unfold vStepFor
      rw [if_pos h5, n_l.2.2]
      rcases hv with ⟨v1, v2⟩ | ⟨v1, v2⟩
      · unfold pStep
        rw [v2, show 9 - k = 0 by omega, v1]
        rfl
      · exact v2
    · have hlt : k + 1 < 10 := nI_nle_lt (b := 10) h27 (by omega)
      refine zx_iload_n (k := 3) (nn := 31) dX11_stepFor_30 rfl rfl rfl ?_
      refine zx_bipush (v := -3) (nn := 33) rfl dX11_stepFor_31 rfl ?_
      refine zx_icmp_ne (tgt := 75) (nn := 36) dX11_stepFor_33 (by decide) rfl (fun h33 => ?_) (fun h33 => ?_)
      · refine zx_aload_n (k := 0) (nn := 76) dX11_stepFor_75 rfl rfl rfl ?_
        refine zx_getR (q := 1) (nn := 79) flX11_9 rfl rfl dX11_stepFor_76 rfl ?_
        refine zx_bipush (v := 7) (nn := 81) rfl dX11_stepFor_79 rfl ?_
        refine zx_iconst (v := 4) (nn := 82) rfl dX11_stepFor_81 rfl ?_
        refine zx_iload_n (k := 1) (nn := 83) dX11_stepFor_82 rfl rfl rfl ?_
        refine zx_imul (nn := 84) dX11_stepFor_83 rfl ?_
        refine zx_iadd (nn := 85) dX11_stepFor_84 rfl ?_
        refine zx_iconst (v := 3) (nn := 86) rfl dX11_stepFor_85 rfl ?_
        refine zx_iadd (nn := 87) dX11_stepFor_86 rfl ?_
        rw [show (7 + (4 * (nI l1))) + 3 = nI (7 + 4 * l1 + 3) from by simp only [show (2 : Int32) = nI 2 from rfl, show (3 : Int32) = nI 3 from rfl, show (1 : Int32) = nI 1 from rfl, show (4 : Int32) = nI 4 from rfl, show (5 : Int32) = nI 5 from rfl, show (7 : Int32) = nI 7 from rfl, show (31 : Int32) = nI 31 from rfl, show (47 : Int32) = nI 47 from rfl, show (71 : Int32) = nI 71 from rfl, show (111 : Int32) = nI 111 from rfl, nI_mulN, nI_add]]
        show zX shR σ 8 MX11_stepFor 87 [(0, zr 0), (1, zi (nI l1)), (2, zi ((rS 1 μ) (7 + 4 * l1 + 3))), (3, zi bs), (4, zi (nI (k + 1)))] [zi (nI (7 + 4 * l1 + 3)), zr 1] μ1 _
        refine zx_iload_n (k := 2) (nn := 88) dX11_stepFor_87 rfl rfl rfl ?_
        refine zx_iast_n (j := 7 + 4 * l1 + 3) (nn := 89) rfl (by omega) (by decide) dX11_stepFor_88 rfl ?_
        refine zx_iload_n (k := 3) (nn := 90) dX11_stepFor_89 rfl rfl rfl ?_
        refine zx_iret rfl dX11_stepFor_90 ?_
        refine ⟨congrArg (fun x => some (zi x)) ?_, zJ_drop (k := 1) (hj.p (by decide)) (rRow_put hr (rS_i (by omega) (by omega) (by omega))) (by decide)⟩
        unfold vStepFor
        rw [if_pos h5, n_l.2.2]
        rcases hv with ⟨v1, v2⟩ | ⟨v1, v2⟩
        · exact absurd v1 h33
        · exact v2
      · have hv2 : pFirst (fun q_ => decide (pLost ρ (pPut (rS 1 μ) (7 + 4 * l1 + 3) (nI (q_ + 1))) l1 = -3)) 0 9 = pFirst (fun q_ => decide (pLost ρ (pPut (rS 1 μ) (7 + 4 * l1 + 3) (nI (q_ + 1))) l1 = -3)) k (9 - k) := hv.elim (fun q => q.2) (fun q => absurd h33 q.1)
        refine zx_aload_n (k := 0) (nn := 37) dX11_stepFor_36 rfl rfl rfl ?_
        refine zx_getR (q := 1) (nn := 40) flX11_9 rfl rfl dX11_stepFor_37 rfl ?_
        refine zx_bipush (v := 7) (nn := 42) rfl dX11_stepFor_40 rfl ?_
        refine zx_iconst (v := 4) (nn := 43) rfl dX11_stepFor_42 rfl ?_
        refine zx_iload_n (k := 1) (nn := 44) dX11_stepFor_43 rfl rfl rfl ?_
        refine zx_imul (nn := 45) dX11_stepFor_44 rfl ?_
        refine zx_iadd (nn := 46) dX11_stepFor_45 rfl ?_
        refine zx_iconst (v := 3) (nn := 47) rfl dX11_stepFor_46 rfl ?_
        refine zx_iadd (nn := 48) dX11_stepFor_47 rfl ?_
        rw [show (7 + (4 * (nI l1))) + 3 = nI (7 + 4 * l1 + 3) from by simp only [show (2 : Int32) = nI 2 from rfl, show (3 : Int32) = nI 3 from rfl, show (1 : Int32) = nI 1 from rfl, show (4 : Int32) = nI 4 from rfl, show (5 : Int32) = nI 5 from rfl, show (7 : Int32) = nI 7 from rfl, show (31 : Int32) = nI 31 from rfl, show (47 : Int32) = nI 47 from rfl, show (71 : Int32) = nI 71 from rfl, show (111 : Int32) = nI 111 from rfl, nI_mulN, nI_add]]
        show zX shR σ 8 MX11_stepFor 48 [(0, zr 0), (1, zi (nI l1)), (2, zi ((rS 1 μ) (7 + 4 * l1 + 3))), (3, zi bs), (4, zi (nI (k + 1)))] [zi (nI (7 + 4 * l1 + 3)), zr 1] μ1 _
        refine zx_iload (k := 4) (nn := 50) dX11_stepFor_48 rfl rfl ?_
        refine zx_iast_n (j := 7 + 4 * l1 + 3) (nn := 51) rfl (by omega) (by decide) dX11_stepFor_50 rfl ?_
        have hM : rS 1 (zp μ1 1 (7 + 4 * l1 + 3) (nI (k + 1))) = pPut (rS 1 μ) (7 + 4 * l1 + 3) (nI (k + 1)) := rS_off hr (by omega) (by omega) (by omega)
        have okM : pOK (rS 1 (zp μ1 1 (7 + 4 * l1 + 3) (nI (k + 1)))) := by rw [hM]; exact pOK_step ok n_l.1 (by omega)
        have abM : pAB (rS 1 (zp μ1 1 (7 + 4 * l1 + 3) (nI (k + 1)))) := by rw [hM]; exact pAB_put ab (by omega) (Or.inr ⟨fun l_ => by omega, Or.inl (by omega)⟩) (ok_B ok).2
        have hρM : rRep ρ ((zp μ1 1 (7 + 4 * l1 + 3) (nI (k + 1))) 1) := rRep_K (μ := μ) (fun i hi => by rw [zp_eq, pk_un (by omega)]; exact hr i (by omega)) hρ
        have hlM : l1 < pL (rS 1 (zp μ1 1 (7 + 4 * l1 + 3) (nI (k + 1)))) := by rw [hM, (pPut_n (by omega)).2.2.1]; exact n_l.1
        refine zx_aload_n (k := 0) (nn := 52) dX11_stepFor_51 rfl rfl rfl ?_
        refine zx_iload_n (k := 1) (nn := 53) dX11_stepFor_52 rfl rfl rfl ?_
        refine zx_callV (nn := 56) (k := 0) (d' := 7) (as := [zi (nI l1)]) (rest := []) (n := 1) (eX11_lostAt_0 σ (zp μ1 1 (7 + 4 * l1 + 3) (nI (k + 1))) l1  okM abM hlM hρM) kX11_lostAt mlX11_304 rfl rfl rfl (by decide) rfl rfl (Nat.le_of_ble_eq_true rfl) dX11_stepFor_53 rfl ?_
        rintro _ ν1 ⟨rfl, q1⟩
        show zX shR σ 8 MX11_stepFor 56 [(0, zr 0), (1, zi (nI l1)), (2, zi ((rS 1 μ) (7 + 4 * l1 + 3))), (3, zi bs), (4, zi (nI (k + 1)))] [zi (pLost ρ (rS 1 (zp μ1 1 (7 + 4 * l1 + 3) (nI (k + 1)))) l1)] ν1 _
        rw [show pLost ρ (rS 1 (zp μ1 1 (7 + 4 * l1 + 3) (nI (k + 1)))) l1 = pLost ρ (pPut (rS 1 μ) (7 + 4 * l1 + 3) (nI (k + 1))) l1 from by rw [hM]]
        show zX shR σ 8 MX11_stepFor 56 [(0, zr 0), (1, zi (nI l1)), (2, zi ((rS 1 μ) (7 + 4 * l1 + 3))), (3, zi bs), (4, zi (nI (k + 1)))] [zi (pLost ρ (pPut (rS 1 μ) (7 + 4 * l1 + 3) (nI (k + 1))) l1)] ν1 _
        refine zx_bipush (v := -3) (nn := 58) rfl dX11_stepFor_56 rfl ?_
        refine zx_icmp_ne (tgt := 66) (nn := 61) dX11_stepFor_58 (by decide) rfl (fun h58 => ?_) (fun h58 => ?_)
        · refine zx_bipush (v := -3) (nn := 68) rfl dX11_stepFor_66 rfl ?_
          refine zx_istore_n (nn := 69) (lv' := [(3, zi (-3)), (0, zr 0), (1, zi (nI l1)), (2, zi ((rS 1 μ) (7 + 4 * l1 + 3))), (4, zi (nI (k + 1)))]) dX11_stepFor_68 rfl (by decide) rfl rfl ?_
          refine zx_iinc (k := 4) (v := nI ((k + 1) + 1)) (lv' := [(4, zi (nI ((k + 1) + 1))), (3, zi (-3)), (0, zr 0), (1, zi (nI l1)), (2, zi ((rS 1 μ) (7 + 4 * l1 + 3)))]) (nn := 72) dX11_stepFor_69 rfl (nI_1 (k + 1)) (by decide) rfl rfl ?_
          refine zx_goto (tgt := 23) dX11_stepFor_72 (by decide) ?_
          refine zx_lv (lv' := [(0, zr 0), (1, zi (nI l1)), (2, zi ((rS 1 μ) (7 + 4 * l1 + 3))), (3, zi (-3)), (4, zi (nI ((k + 1) + 1)))]) [2, 3, 4, 1, 0] rfl ?_
          exact ih23 (k + 1, -3, ν1) (show (k + 1) ≤ 9 ∧ zJ [1, 4, 6, 7] μ ν1 ∧ (∀ i, i ≠ 7 + 4 * l1 + 3 → ν1 1 i = μ 1 i) ∧ (((-3) = -3 ∧ pFirst (fun q_ => decide (pLost ρ (pPut (rS 1 μ) (7 + 4 * l1 + 3) (nI (q_ + 1))) l1 = -3)) 0 9 = pFirst (fun q_ => decide (pLost ρ (pPut (rS 1 μ) (7 + 4 * l1 + 3) (nI (q_ + 1))) l1 = -3)) (k + 1) (9 - (k + 1))) ∨ (¬ (-3) = -3 ∧ (-3) = pStep ρ (rS 1 μ) l1)) from ⟨by omega, (hj.p (by decide)).tr (q1.mono (by simp)), fun i hi => by rw [q1 1 (by decide), zp_eq, pk_un hi]; exact hr i hi, Or.inl ⟨rfl, by rw [hv2, pFirst_step (by omega)]; exact if_neg (by rw [decide_eq_false h58]; decide)⟩⟩) (by show 9 - (k + 1) < 9 - k; omega)
        · refine zx_iload (k := 4) (nn := 63) dX11_stepFor_61 rfl rfl ?_
          refine zx_goto (tgt := 68) dX11_stepFor_63 (by decide) ?_
          refine zx_istore_n (nn := 69) (lv' := [(3, zi (nI (k + 1))), (0, zr 0), (1, zi (nI l1)), (2, zi ((rS 1 μ) (7 + 4 * l1 + 3))), (4, zi (nI (k + 1)))]) dX11_stepFor_68 rfl (by decide) rfl rfl ?_
          refine zx_iinc (k := 4) (v := nI ((k + 1) + 1)) (lv' := [(4, zi (nI ((k + 1) + 1))), (3, zi (nI (k + 1))), (0, zr 0), (1, zi (nI l1)), (2, zi ((rS 1 μ) (7 + 4 * l1 + 3)))]) (nn := 72) dX11_stepFor_69 rfl (nI_1 (k + 1)) (by decide) rfl rfl ?_
          refine zx_goto (tgt := 23) dX11_stepFor_72 (by decide) ?_
          refine zx_lv (lv' := [(0, zr 0), (1, zi (nI l1)), (2, zi ((rS 1 μ) (7 + 4 * l1 + 3))), (3, zi (nI (k + 1))), (4, zi (nI ((k + 1) + 1)))]) [2, 3, 4, 1, 0] rfl ?_
          exact ih23 (k + 1, nI (k + 1), ν1) (show (k + 1) ≤ 9 ∧ zJ [1, 4, 6, 7] μ ν1 ∧ (∀ i, i ≠ 7 + 4 * l1 + 3 → ν1 1 i = μ 1 i) ∧ (((nI (k + 1)) = -3 ∧ pFirst (fun q_ => decide (pLost ρ (pPut (rS 1 μ) (7 + 4 * l1 + 3) (nI (q_ + 1))) l1 = -3)) 0 9 = pFirst (fun q_ => decide (pLost ρ (pPut (rS 1 μ) (7 + 4 * l1 + 3) (nI (q_ + 1))) l1 = -3)) (k + 1) (9 - (k + 1))) ∨ (¬ (nI (k + 1)) = -3 ∧ (nI (k + 1)) = pStep ρ (rS 1 μ) l1)) from ⟨by omega, (hj.p (by decide)).tr (q1.mono (by simp)), fun i hi => by rw [q1 1 (by decide), zp_eq, pk_un hi]; exact hr i hi, Or.inr ⟨nI_ne3 (by omega), by unfold pStep; rw [hv2, pFirst_step (by omega), if_pos (decide_eq_true h58)]⟩⟩) (by show 9 - (k + 1) < 9 - k; omega)
  · refine zx_iconst (v := -1) (nn := 9) rfl dX11_stepFor_8 rfl ?_
    refine zx_iret rfl dX11_stepFor_9 ?_
    refine ⟨congrArg (fun x => some (zi x)) ?_, zJ.rf⟩
    simp [vStepFor, h5]
set_option maxHeartbeats 4000000 in
set_option maxRecDepth 100000 in
theorem eX11_ones (σ : zG) (μ : zM) (x : Int32) : zMet shR σ 0 MX11_ones yX11_ones [zi x] μ (fun rr μ' => rr = some (zi (rOnes x)) ∧ μ' = μ) := by
  refine zmetF (by decide +kernel) rfl (Nat.le_of_ble_eq_true rfl) ?_
  show zX shR σ 0 MX11_ones 0 [(0, zi x)] [] μ _
  refine zx_iconst (v := 0) (nn := 1) rfl dX11_ones_0 rfl ?_
  refine zx_istore_n (nn := 2) (lv' := [(1, zi 0), (0, zi x)]) dX11_ones_1 rfl (by decide) rfl rfl ?_
  refine zx_iconst (v := 0) (nn := 3) rfl dX11_ones_2 rfl ?_
  refine zx_istore_n (nn := 4) (lv' := [(2, zi 0), (1, zi 0), (0, zi x)]) dX11_ones_3 rfl (by decide) rfl rfl ?_
  refine zx_lv (lv' := [(0, zi x), (1, zi 0), (2, zi 0)]) [2, 1, 0] rfl ?_
  refine zx_while (τ := Nat × Int32) (fun t_ => 8 - t_.1) (fun t_ => t_.1 ≤ 8 ∧ t_.2 = pSum (fun q_ => (x >>> (nI q_ &&& 31)) &&& 1) t_.1) (fun t_ => [(0, zi x), (1, zi t_.2), (2, zi (nI t_.1))]) (fun t_ => μ) (t0 := (0, 0)) (show 0 ≤ 8 ∧ 0 = pSum (fun q_ => (x >>> (nI q_ &&& 31)) &&& 1) 0 from ⟨Nat.zero_le _, rfl⟩) ?_
  rintro ⟨k, v⟩ hI ih4
  replace hI : k ≤ 8 ∧ v = pSum (fun q_ => (x >>> (nI q_ &&& 31)) &&& 1) k := hI
  show zX shR σ 0 MX11_ones 4 [(0, zi x), (1, zi v), (2, zi (nI k))] [] μ _
  refine zx_iload_n (k := 2) (nn := 5) dX11_ones_4 rfl rfl rfl ?_
  refine zx_bipush (v := 8) (nn := 7) rfl dX11_ones_5 rfl ?_
  refine zx_icmp_ge (tgt := 24) (nn := 10) dX11_ones_7 (by decide) rfl (fun h7 => ?_) (fun h7 => ?_)
  · refine zx_iload_n (k := 1) (nn := 25) dX11_ones_24 rfl rfl rfl ?_
    refine zx_iret rfl dX11_ones_25 ?_
    have hge := nI_le_le (b := 8) h7 (by omega)
    exact ⟨congrArg (fun x => some (zi x)) (by rw [hI.2, show k = 8 by omega]; rfl), rfl⟩
  · have hlt : k < 8 := nI_nle_lt (b := 8) h7 (by omega)
    refine zx_iload_n (k := 1) (nn := 11) dX11_ones_10 rfl rfl rfl ?_
    refine zx_iload_n (k := 0) (nn := 12) dX11_ones_11 rfl rfl rfl ?_
    refine zx_iload_n (k := 2) (nn := 13) dX11_ones_12 rfl rfl rfl ?_
    refine zx_ishr (nn := 14) dX11_ones_13 rfl ?_
    refine zx_iconst (v := 1) (nn := 15) rfl dX11_ones_14 rfl ?_
    refine zx_iand (nn := 16) dX11_ones_15 rfl ?_
    refine zx_iadd (nn := 17) dX11_ones_16 rfl ?_
    refine zx_istore_n (nn := 18) (lv' := [(1, zi (v + ((x >>> ((nI k) &&& 31)) &&& 1))), (0, zi x), (2, zi (nI k))]) dX11_ones_17 rfl (by decide) rfl rfl ?_
    refine zx_iinc (k := 2) (v := nI (k + 1)) (lv' := [(2, zi (nI (k + 1))), (1, zi (v + ((x >>> ((nI k) &&& 31)) &&& 1))), (0, zi x)]) (nn := 21) dX11_ones_18 rfl (nI_1 k) (by decide) rfl rfl ?_
    refine zx_goto (tgt := 4) dX11_ones_21 (by decide) ?_
    refine zx_lv (lv' := [(0, zi x), (1, zi (v + ((x >>> ((nI k) &&& 31)) &&& 1))), (2, zi (nI (k + 1)))]) [2, 1, 0] rfl ?_
    exact ih4 (k + 1, v + (fun q_ => (x >>> (nI q_ &&& 31)) &&& 1) k) (show (k + 1) ≤ 8 ∧ (v + (fun q_ => (x >>> (nI q_ &&& 31)) &&& 1) k) = pSum (fun q_ => (x >>> (nI q_ &&& 31)) &&& 1) (k + 1) from ⟨by omega, by show _ + _ = pSum _ k + _; rw [hI.2]⟩) (by show 8 - (k + 1) < 8 - k; omega)
set_option maxHeartbeats 4000000 in
set_option maxRecDepth 100000 in
theorem eX11_who_0 (σ : zG) (μ : zM) {ρ : pR} (ok : pOK (rS 1 μ)) (ab : pAB (rS 1 μ)) (hρ : rRep ρ (μ 1)) : zMet shR σ 7 MX11_who yX11_who [zr 0] μ (fun rr μ' => rr = some (zi (pWho ρ (rS 1 μ))) ∧ zJ [4, 6, 7, 8] μ μ') := by
  have hB16 := (ok_B ok).2
  have hbB := (ok_b ok).2
  have hrem : pRem (rS 1 μ) = pB (rS 1 μ) - pb (rS 1 μ) := rfl
  have hL1 : μ 1 0 = nI (pL (rS 1 μ)) := (ok_L ok).1
  have hL2 := (ok_L ok).2
  refine zmetF (by decide +kernel) rfl (Nat.le_of_ble_eq_true rfl) ?_
  show zX shR σ 7 MX11_who 0 [(0, zr 0)] [] μ _
  refine zx_aload_n (k := 0) (nn := 1) dX11_who_0 rfl rfl rfl ?_
  refine zx_aload_n (k := 0) (nn := 2) dX11_who_1 rfl rfl rfl ?_
  refine zx_getR (q := 7) (nn := 5) flX11_28 rfl rfl dX11_who_2 rfl ?_
  refine zx_callV (nn := 8) (k := 0) (d' := 0) (as := [zr 7]) (rest := []) (n := 1) (eX11_saves_7 σ μ) kX11_saves mlX11_292 rfl rfl rfl (by decide) rfl rfl (Nat.le_of_ble_eq_true rfl) dX11_who_5 rfl ?_
  rintro _ ν1 ⟨rfl, q1⟩
  show zX shR σ 7 MX11_who 8 [(0, zr 0)] [] ν1 _
  refine zx_iconst (v := 0) (nn := 9) rfl dX11_who_8 rfl ?_
  refine zx_istore_n (nn := 10) (lv' := [(1, zi 0), (0, zr 0)]) dX11_who_9 rfl (by decide) rfl rfl ?_
  refine zx_lv (lv' := [(0, zr 0), (1, zi 0)]) [1, 0] rfl ?_
  refine zx_while (τ := Nat × zM) (fun t_ => pRem (rS 1 μ) - t_.1) (fun t_ => t_.1 ≤ pRem (rS 1 μ) ∧ rS 1 t_.2 = pRun ρ (rS 1 μ) t_.1 ∧ rQ μ t_.2 ∧ zJ [1, 4, 6, 7, 8] μ t_.2 ∧ rSav (μ 1) (t_.2 7) ∧ ∀ j, j < t_.1 → t_.2 8 j = (pInSet ρ (rS 1 μ)) j) (fun t_ => [(0, zr 0), (1, zi (nI t_.1))]) (fun t_ => t_.2) (t0 := (0, ν1)) (show 0 ≤ pRem (rS 1 μ) ∧ rS 1 ν1 = pRun ρ (rS 1 μ) 0 ∧ rQ μ ν1 ∧ zJ [1, 4, 6, 7, 8] μ ν1 ∧ rSav (μ 1) (ν1 7) ∧ ∀ j, j < 0 → ν1 8 j = (pInSet ρ (rS 1 μ)) j from ⟨Nat.zero_le _, rS_eq (q1.1 1 (by decide)), rQ_e (q1.1 1 (by decide)), q1.1.mono (by simp), q1.2, fun j hj => absurd hj (by omega)⟩) ?_
  rintro ⟨m, μ1⟩ hI ih10
  replace hI : m ≤ pRem (rS 1 μ) ∧ rS 1 μ1 = pRun ρ (rS 1 μ) m ∧ rQ μ μ1 ∧ zJ [1, 4, 6, 7, 8] μ μ1 ∧ rSav (μ 1) (μ1 7) ∧ ∀ j, j < m → μ1 8 j = (pInSet ρ (rS 1 μ)) j := hI
  show zX shR σ 7 MX11_who 10 [(0, zr 0), (1, zi (nI m))] [] μ1 _
  obtain ⟨hm, hs, hq, hj, hsv, hv⟩ := hI
  have hok1 := pRun_ok (ρ := ρ) ok m (by omega)
  have okm : pOK (rS 1 μ1) := by rw [hs]; exact hok1.1
  have abm : pAB (rS 1 μ1) := by rw [hs]; exact pAB_run ok ab m (by omega)
  have hρm : rRep ρ (μ1 1) := rRep_K (rQ_K hq) hρ
  refine zx_aload_n (k := 0) (nn := 11) dX11_who_10 rfl rfl rfl ?_
  refine zx_callVf (nn := 14) (k := 0) (d' := 0) (as := []) (rest := []) (n := 0) (eX11_isOver_0 σ μ1   ) kX11_isOver mlX11_96 rfl rfl rfl (by decide) rfl rfl (Nat.le_of_ble_eq_true rfl) dX11_who_11 rfl ?_
  show zX shR σ 7 MX11_who 14 [(0, zr 0), (1, zi (nI m))] [zi (zb (pOver (rS 1 μ1)))] μ1 _
  refine zx_ifb_ne (tgt := 56) (nn := 17) dX11_who_14 (by decide) rfl (fun h14 => ?_) (fun h14 => ?_)
  · refine zx_aload_n (k := 0) (nn := 57) dX11_who_56 rfl rfl rfl ?_
    refine zx_aload_n (k := 0) (nn := 58) dX11_who_57 rfl rfl rfl ?_
    refine zx_getR (q := 7) (nn := 61) flX11_28 rfl rfl dX11_who_58 rfl ?_
    refine zx_callV (nn := 64) (k := 0) (d' := 0) (as := [zr 7]) (rest := []) (n := 1) (eX11_putsBack_7 σ μ1) kX11_putsBack mlX11_296 rfl rfl rfl (by decide) rfl rfl (Nat.le_of_ble_eq_true rfl) dX11_who_61 rfl ?_
    rintro _ ν2 ⟨rfl, q2⟩
    show zX shR σ 7 MX11_who 64 [(0, zr 0), (1, zi (nI m))] [] ν2 _
    rw [pOver_iff okm, hs, hok1.2.1, hok1.2.2.1] at h14
    have hge := of_decide_eq_true h14
    have hmr : m = pRem (rS 1 μ) := by omega
    have er : ν2 1 = μ 1 := q2.2.trans (rPb_eq hsv hq)
    have hjr : zJ [4, 6, 7, 8] μ ν2 := zJ_drop (k := 1) (hj.tr (q2.1.mono (by simp))) er (by decide)
    have h8 : ∀ j, j < m → ν2 8 j = (pInSet ρ (rS 1 μ)) j := fun j hj_ => by rw [q2.1 8 (by decide)]; exact hv j hj_
    have hp6 := pow6 (ok_L ok).2
    refine zx_bipush (v := -3) (nn := 66) rfl dX11_who_64 rfl ?_
    refine zx_istore_n (nn := 67) (lv' := [(2, zi (-3)), (0, zr 0), (1, zi (nI m))]) dX11_who_66 rfl (by decide) rfl rfl ?_
    refine zx_iconst (v := 0) (nn := 68) rfl dX11_who_67 rfl ?_
    refine zx_istore_n (nn := 69) (lv' := [(3, zi 0), (2, zi (-3)), (0, zr 0), (1, zi (nI m))]) dX11_who_68 rfl (by decide) rfl rfl ?_
    refine zx_lv (lv' := [(0, zr 0), (1, zi (nI m)), (2, zi (-3)), (3, zi 0)]) [2, 3, 1, 0] rfl ?_
    refine zx_while (τ := Nat × Int32) (fun t_ => 2 ^ pL (rS 1 μ) - t_.1) (fun t_ => t_.1 ≤ 2 ^ pL (rS 1 μ) ∧ t_.2 = (pWhoTo (pInSet ρ (rS 1 μ)) (pRem (rS 1 μ))) t_.1) (fun t_ => [(0, zr 0), (1, zi (nI m)), (2, zi t_.2), (3, zi (nI t_.1))]) (fun t_ => ν2) (t0 := (0, -3)) (show 0 ≤ 2 ^ pL (rS 1 μ) ∧ (-3) = (pWhoTo (pInSet ρ (rS 1 μ)) (pRem (rS 1 μ))) 0 from ⟨Nat.zero_le _, rfl⟩) ?_
    rintro ⟨n, b⟩ hI ih69
    replace hI : n ≤ 2 ^ pL (rS 1 μ) ∧ b = (pWhoTo (pInSet ρ (rS 1 μ)) (pRem (rS 1 μ))) n := hI
    show zX shR σ 7 MX11_who 69 [(0, zr 0), (1, zi (nI m)), (2, zi b), (3, zi (nI n))] [] ν2 _
    refine zx_iload_n (k := 3) (nn := 70) dX11_who_69 rfl rfl rfl ?_
    refine zx_iconst (v := 1) (nn := 71) rfl dX11_who_70 rfl ?_
    refine zx_aload_n (k := 0) (nn := 72) dX11_who_71 rfl rfl rfl ?_
    refine zx_getR (q := 1) (nn := 75) flX11_9 rfl rfl dX11_who_72 rfl ?_
    refine zx_iconst (v := 0) (nn := 76) rfl dX11_who_75 rfl ?_
    refine zx_iald_n (j := 0) (nn := 77) rfl (by omega) (by decide) dX11_who_76 rfl ?_
    rw [show ν2 1 0 = nI (pL (rS 1 μ)) from by rw [er]; exact hL1]
    show zX shR σ 7 MX11_who 77 [(0, zr 0), (1, zi (nI m)), (2, zi b), (3, zi (nI n))] [zi (nI (pL (rS 1 μ))), zi 1, zi (nI n)] ν2 _
    refine zx_ishl (nn := 78) dX11_who_77 rfl ?_
    rw [show 1 <<< ((nI (pL (rS 1 μ))) &&& 31) = nI (2 ^ pL (rS 1 μ)) from zshl1 hL2]
    show zX shR σ 7 MX11_who 78 [(0, zr 0), (1, zi (nI m)), (2, zi b), (3, zi (nI n))] [zi (nI (2 ^ pL (rS 1 μ))), zi (nI n)] ν2 _
    refine zx_icmp_ge (tgt := 161) (nn := 81) dX11_who_78 (by decide) rfl (fun h78 => ?_) (fun h78 => ?_)
    · refine zx_iload_n (k := 2) (nn := 162) dX11_who_161 rfl rfl rfl ?_
      refine zx_iret rfl dX11_who_162 ?_
      have hge2 := nI_le_le h78 (by omega)
      refine ⟨congrArg (fun x => some (zi x)) ?_, hjr⟩
      unfold pWho
      rw [hI.2, show n = 2 ^ pL (rS 1 μ) by omega]
    · have hlt2 : n < 2 ^ pL (rS 1 μ) := nI_nle_lt h78 (by omega)
      refine zx_cut (pc' := 103) (lv' := [(0, zr 0), (1, zi (nI m)), (2, zi b), (3, zi (nI n))]) (st' := [zi (zb (decide (b = -3) || decide (pBits (nI n) < pBits b)))]) (μ' := ν2) (fun J103 => ?_) ?_
      · refine zx_iload_n (k := 2) (nn := 82) dX11_who_81 rfl rfl rfl ?_
        refine zx_bipush (v := -3) (nn := 84) rfl dX11_who_82 rfl ?_
        refine zx_icmp_eq (tgt := 98) (nn := 87) dX11_who_84 (by decide) rfl (fun h84 => ?_) (fun h84 => ?_)
        · refine zx_iconst (v := 1) (nn := 99) rfl dX11_who_98 rfl ?_
          refine zx_goto (tgt := 103) dX11_who_99 (by decide) ?_
          rw [show (decide (b = -3) || decide (pBits (nI n) < pBits b)) = true from by rw [decide_eq_true h84]; rfl] at J103
          exact J103
        · refine zx_iload_n (k := 3) (nn := 88) dX11_who_87 rfl rfl rfl ?_
          refine zx_callSf (nn := 91) (d' := 0) (as := [zi (nI n)]) (rest := []) (n := 1) (eX11_ones σ ν2 (nI n)  ) kX11_ones mlX11_310 (by decide) rfl rfl (Nat.le_of_ble_eq_true rfl) dX11_who_88 rfl ?_
          show zX shR σ 7 MX11_who 91 [(0, zr 0), (1, zi (nI m)), (2, zi b), (3, zi (nI n))] [zi (rOnes (nI n))] ν2 _
          refine zx_iload_n (k := 2) (nn := 92) dX11_who_91 rfl rfl rfl ?_
          refine zx_callSf (nn := 95) (d' := 0) (as := [zi b]) (rest := [zi (rOnes (nI n))]) (n := 1) (eX11_ones σ ν2 b  ) kX11_ones mlX11_310 (by decide) rfl rfl (Nat.le_of_ble_eq_true rfl) dX11_who_92 rfl ?_
          show zX shR σ 7 MX11_who 95 [(0, zr 0), (1, zi (nI m)), (2, zi b), (3, zi (nI n))] [zi (rOnes b), zi (rOnes (nI n))] ν2 _
          have hbj : ∃ j, j < 64 ∧ b = nI j := by rw [hI.2]; rw [hI.2] at h84; exact (pWhoTo_c n).elim (fun q => absurd q h84) (fun ⟨j, q1, q2⟩ => ⟨j, by omega, q2⟩)
          have hb2 : rOnes b = pBits b := by obtain ⟨j, q1, q2⟩ := hbj; rw [q2]; exact rOnes_eq q1
          rw [hb2, rOnes_eq (show n < 64 by omega)]
          show zX shR σ 7 MX11_who 95 [(0, zr 0), (1, zi (nI m)), (2, zi b), (3, zi (nI n))] [zi (pBits b), zi (pBits (nI n))] ν2 _
          refine zx_icmp_ge (tgt := 102) (nn := 98) dX11_who_95 (by decide) rfl (fun h95 => ?_) (fun h95 => ?_)
          · refine zx_iconst (v := 0) (nn := 103) rfl dX11_who_102 rfl ?_
            rw [show (decide (b = -3) || decide (pBits (nI n) < pBits b)) = false from by rw [decide_eq_false h84, decide_eq_false (Int32.not_lt.mpr h95)]; rfl] at J103
            exact J103
          · refine zx_iconst (v := 1) (nn := 99) rfl dX11_who_98 rfl ?_
            refine zx_goto (tgt := 103) dX11_who_99 (by decide) ?_
            rw [show (decide (b = -3) || decide (pBits (nI n) < pBits b)) = true from by rw [decide_eq_true (Int32.not_le.mp h95), Bool.or_true]] at J103
            exact J103
      refine zx_istore (nn := 105) (lv' := [(4, zi (zb (decide (b = -3) || decide (pBits (nI n) < pBits b)))), (0, zr 0), (1, zi (nI m)), (2, zi b), (3, zi (nI n))]) dX11_who_103 (by decide) rfl rfl ?_
      refine zx_iconst (v := 0) (nn := 106) rfl dX11_who_105 rfl ?_
      refine zx_istore (nn := 108) (lv' := [(5, zi 0), (4, zi (zb (decide (b = -3) || decide (pBits (nI n) < pBits b)))), (0, zr 0), (1, zi (nI m)), (2, zi b), (3, zi (nI n))]) dX11_who_106 (by decide) rfl rfl ?_
      refine zx_lv (lv' := [(0, zr 0), (1, zi (nI m)), (2, zi b), (3, zi (nI n)), (4, zi (zb (decide (b = -3) || decide (pBits (nI n) < pBits b)))), (5, zi 0)]) [2, 3, 4, 5, 1, 0] rfl ?_
      refine zx_while (τ := Nat × Bool) (fun t_ => m - t_.1) (fun t_ => t_.1 ≤ m ∧ t_.2 = ((decide (b = -3) || decide (pBits (nI n) < pBits b)) && pAllIn (pInSet ρ (rS 1 μ)) (nI n) t_.1)) (fun t_ => [(0, zr 0), (1, zi (nI m)), (2, zi b), (3, zi (nI n)), (4, zi (zb t_.2)), (5, zi (nI t_.1))]) (fun t_ => ν2) (t0 := (0, (decide (b = -3) || decide (pBits (nI n) < pBits b)))) (show 0 ≤ m ∧ (decide (b = -3) || decide (pBits (nI n) < pBits b)) = ((decide (b = -3) || decide (pBits (nI n) < pBits b)) && pAllIn (pInSet ρ (rS 1 μ)) (nI n) 0) from ⟨Nat.zero_le _, by show _ = (_ && true); rw [Bool.and_true]⟩) ?_
      rintro ⟨k, c⟩ hI2 ih108
      replace hI2 : k ≤ m ∧ c = ((decide (b = -3) || decide (pBits (nI n) < pBits b)) && pAllIn (pInSet ρ (rS 1 μ)) (nI n) k) := hI2
      show zX shR σ 7 MX11_who 108 [(0, zr 0), (1, zi (nI m)), (2, zi b), (3, zi (nI n)), (4, zi (zb c)), (5, zi (nI k))] [] ν2 _
      refine zx_iload (k := 5) (nn := 110) dX11_who_108 rfl rfl ?_
      refine zx_iload_n (k := 1) (nn := 111) dX11_who_110 rfl rfl rfl ?_
      refine zx_icmp_ge (tgt := 144) (nn := 114) dX11_who_111 (by decide) rfl (fun h111 => ?_) (fun h111 => ?_)
      · refine zx_iload (k := 4) (nn := 146) dX11_who_144 rfl rfl ?_
        refine zx_ifb_eq (tgt := 153) (nn := 149) dX11_who_146 (by decide) rfl (fun h146 => ?_) (fun h146 => ?_)
        · refine zx_iload_n (k := 2) (nn := 154) dX11_who_153 rfl rfl rfl ?_
          refine zx_istore_n (nn := 155) (lv' := [(2, zi b), (0, zr 0), (1, zi (nI m)), (3, zi (nI n)), (4, zi (zb c)), (5, zi (nI k))]) dX11_who_154 rfl (by decide) rfl rfl ?_
          refine zx_iinc (k := 3) (v := nI (n + 1)) (lv' := [(3, zi (nI (n + 1))), (2, zi b), (0, zr 0), (1, zi (nI m)), (4, zi (zb c)), (5, zi (nI k))]) (nn := 158) dX11_who_155 rfl (nI_1 n) (by decide) rfl rfl ?_
          refine zx_goto (tgt := 69) dX11_who_158 (by decide) ?_
          refine zx_lv (lv' := [(0, zr 0), (1, zi (nI m)), (2, zi b), (3, zi (nI (n + 1)))]) [2, 3, 1, 0] rfl ?_
          exact ih69 (n + 1, b) (show (n + 1) ≤ 2 ^ pL (rS 1 μ) ∧ b = (pWhoTo (pInSet ρ (rS 1 μ)) (pRem (rS 1 μ))) (n + 1) from ⟨by omega, by show _ = if ((decide ((pWhoTo (pInSet ρ (rS 1 μ)) (pRem (rS 1 μ))) n = -3) || decide (pBits (nI n) < pBits ((pWhoTo (pInSet ρ (rS 1 μ)) (pRem (rS 1 μ))) n))) && pAllIn (pInSet ρ (rS 1 μ)) (nI n) (pRem (rS 1 μ))) = true then _ else _; rw [← hI.2]; rw [if_neg]; rw [← hmr]; have hge2 := nI_le_le h111 (by omega); rw [show m = k by omega, ← hI2.2, h146]; decide⟩) (by show 2 ^ pL (rS 1 μ) - (n + 1) < 2 ^ pL (rS 1 μ) - n; omega)
        · refine zx_iload_n (k := 3) (nn := 150) dX11_who_149 rfl rfl rfl ?_
          refine zx_goto (tgt := 154) dX11_who_150 (by decide) ?_
          refine zx_istore_n (nn := 155) (lv' := [(2, zi (nI n)), (0, zr 0), (1, zi (nI m)), (3, zi (nI n)), (4, zi (zb c)), (5, zi (nI k))]) dX11_who_154 rfl (by decide) rfl rfl ?_
          refine zx_iinc (k := 3) (v := nI (n + 1)) (lv' := [(3, zi (nI (n + 1))), (2, zi (nI n)), (0, zr 0), (1, zi (nI m)), (4, zi (zb c)), (5, zi (nI k))]) (nn := 158) dX11_who_155 rfl (nI_1 n) (by decide) rfl rfl ?_
          refine zx_goto (tgt := 69) dX11_who_158 (by decide) ?_
          refine zx_lv (lv' := [(0, zr 0), (1, zi (nI m)), (2, zi (nI n)), (3, zi (nI (n + 1)))]) [2, 3, 1, 0] rfl ?_
          exact ih69 (n + 1, nI n) (show (n + 1) ≤ 2 ^ pL (rS 1 μ) ∧ (nI n) = (pWhoTo (pInSet ρ (rS 1 μ)) (pRem (rS 1 μ))) (n + 1) from ⟨by omega, by show _ = if ((decide ((pWhoTo (pInSet ρ (rS 1 μ)) (pRem (rS 1 μ))) n = -3) || decide (pBits (nI n) < pBits ((pWhoTo (pInSet ρ (rS 1 μ)) (pRem (rS 1 μ))) n))) && pAllIn (pInSet ρ (rS 1 μ)) (nI n) (pRem (rS 1 μ))) = true then _ else _; rw [← hI.2]; rw [if_pos]; rw [← hmr]; have hge2 := nI_le_le h111 (by omega); rw [show m = k by omega, ← hI2.2]; exact h146⟩) (by show 2 ^ pL (rS 1 μ) - (n + 1) < 2 ^ pL (rS 1 μ) - n; omega)
      · have hlt3 : k < m := nI_nle_lt h111 (by omega)
        refine zx_iload (k := 4) (nn := 116) dX11_who_114 rfl rfl ?_
        refine zx_ifb_eq (tgt := 144) (nn := 119) dX11_who_116 (by decide) rfl (fun h116 => ?_) (fun h116 => ?_)
        · refine zx_iload (k := 4) (nn := 146) dX11_who_144 rfl rfl ?_
          refine zx_ifb_eq (tgt := 153) (nn := 149) dX11_who_146 (by decide) rfl (fun h146 => ?_) (fun h146 => ?_)
          · refine zx_iload_n (k := 2) (nn := 154) dX11_who_153 rfl rfl rfl ?_
            refine zx_istore_n (nn := 155) (lv' := [(2, zi b), (0, zr 0), (1, zi (nI m)), (3, zi (nI n)), (4, zi (zb c)), (5, zi (nI k))]) dX11_who_154 rfl (by decide) rfl rfl ?_
            refine zx_iinc (k := 3) (v := nI (n + 1)) (lv' := [(3, zi (nI (n + 1))), (2, zi b), (0, zr 0), (1, zi (nI m)), (4, zi (zb c)), (5, zi (nI k))]) (nn := 158) dX11_who_155 rfl (nI_1 n) (by decide) rfl rfl ?_
            refine zx_goto (tgt := 69) dX11_who_158 (by decide) ?_
            refine zx_lv (lv' := [(0, zr 0), (1, zi (nI m)), (2, zi b), (3, zi (nI (n + 1)))]) [2, 3, 1, 0] rfl ?_
            exact ih69 (n + 1, b) (show (n + 1) ≤ 2 ^ pL (rS 1 μ) ∧ b = (pWhoTo (pInSet ρ (rS 1 μ)) (pRem (rS 1 μ))) (n + 1) from ⟨by omega, by show _ = if ((decide ((pWhoTo (pInSet ρ (rS 1 μ)) (pRem (rS 1 μ))) n = -3) || decide (pBits (nI n) < pBits ((pWhoTo (pInSet ρ (rS 1 μ)) (pRem (rS 1 μ))) n))) && pAllIn (pInSet ρ (rS 1 μ)) (nI n) (pRem (rS 1 μ))) = true then _ else _; rw [← hI.2]; rw [if_neg]; have hc := hI2.2; rw [h116] at hc; intro hz; rw [Bool.and_eq_true] at hz; rw [hz.1, Bool.true_and] at hc; rw [pAllIn_mono hc.symm (by omega)] at hz; exact absurd hz.2 (by decide)⟩) (by show 2 ^ pL (rS 1 μ) - (n + 1) < 2 ^ pL (rS 1 μ) - n; omega)
          · exact absurd (h116.symm.trans h146) (by decide)
        · refine zx_aload_n (k := 0) (nn := 120) dX11_who_119 rfl rfl rfl ?_
          refine zx_getR (q := 8) (nn := 123) flX11_31 rfl rfl dX11_who_120 rfl ?_
          refine zx_iload (k := 5) (nn := 125) dX11_who_123 rfl rfl ?_
          refine zx_iald_n (j := k) (nn := 126) rfl (by omega) (by decide) dX11_who_125 rfl ?_
          rw [show ν2 8 k = (pInSet ρ (rS 1 μ)) k from h8 k hlt3]
          show zX shR σ 7 MX11_who 126 [(0, zr 0), (1, zi (nI m)), (2, zi b), (3, zi (nI n)), (4, zi (zb c)), (5, zi (nI k))] [zi ((pInSet ρ (rS 1 μ)) k)] ν2 _
          refine zx_iload_n (k := 3) (nn := 127) dX11_who_126 rfl rfl rfl ?_
          refine zx_iand (nn := 128) dX11_who_127 rfl ?_
          refine zx_if_eq (tgt := 135) (nn := 131) dX11_who_128 (by decide) rfl (fun h128 => ?_) (fun h128 => ?_)
          · refine zx_iconst (v := 0) (nn := 136) rfl dX11_who_135 rfl ?_
            refine zx_istore (nn := 138) (lv' := [(4, zi 0), (0, zr 0), (1, zi (nI m)), (2, zi b), (3, zi (nI n)), (5, zi (nI k))]) dX11_who_136 (by decide) rfl rfl ?_
            refine zx_iinc (k := 5) (v := nI (k + 1)) (lv' := [(5, zi (nI (k + 1))), (4, zi 0), (0, zr 0), (1, zi (nI m)), (2, zi b), (3, zi (nI n))]) (nn := 141) dX11_who_138 rfl (nI_1 k) (by decide) rfl rfl ?_
            refine zx_goto (tgt := 108) dX11_who_141 (by decide) ?_
            refine zx_lv (lv' := [(0, zr 0), (1, zi (nI m)), (2, zi b), (3, zi (nI n)), (4, zi 0), (5, zi (nI (k + 1)))]) [2, 3, 4, 5, 1, 0] rfl ?_
            exact ih108 (k + 1, false) (show (k + 1) ≤ m ∧ false = ((decide (b = -3) || decide (pBits (nI n) < pBits b)) && pAllIn (pInSet ρ (rS 1 μ)) (nI n) (k + 1)) from ⟨by omega, by show _ = ((decide (b = -3) || decide (pBits (nI n) < pBits b)) && (pAllIn (pInSet ρ (rS 1 μ)) (nI n) k && decide (¬ (pInSet ρ (rS 1 μ)) k &&& nI n = 0))); have hc := hI2.2; rw [h116] at hc; rw [← Bool.and_assoc, ← hc]; simp [h128]⟩) (by show m - (k + 1) < m - k; omega)
          · refine zx_iconst (v := 1) (nn := 132) rfl dX11_who_131 rfl ?_
            refine zx_goto (tgt := 136) dX11_who_132 (by decide) ?_
            refine zx_istore (nn := 138) (lv' := [(4, zi 1), (0, zr 0), (1, zi (nI m)), (2, zi b), (3, zi (nI n)), (5, zi (nI k))]) dX11_who_136 (by decide) rfl rfl ?_
            refine zx_iinc (k := 5) (v := nI (k + 1)) (lv' := [(5, zi (nI (k + 1))), (4, zi 1), (0, zr 0), (1, zi (nI m)), (2, zi b), (3, zi (nI n))]) (nn := 141) dX11_who_138 rfl (nI_1 k) (by decide) rfl rfl ?_
            refine zx_goto (tgt := 108) dX11_who_141 (by decide) ?_
            refine zx_lv (lv' := [(0, zr 0), (1, zi (nI m)), (2, zi b), (3, zi (nI n)), (4, zi 1), (5, zi (nI (k + 1)))]) [2, 3, 4, 5, 1, 0] rfl ?_
            exact ih108 (k + 1, true) (show (k + 1) ≤ m ∧ true = ((decide (b = -3) || decide (pBits (nI n) < pBits b)) && pAllIn (pInSet ρ (rS 1 μ)) (nI n) (k + 1)) from ⟨by omega, by show _ = ((decide (b = -3) || decide (pBits (nI n) < pBits b)) && (pAllIn (pInSet ρ (rS 1 μ)) (nI n) k && decide (¬ (pInSet ρ (rS 1 μ)) k &&& nI n = 0))); have hc := hI2.2; rw [h116] at hc; rw [← Bool.and_assoc, ← hc]; simp [h128]⟩) (by show m - (k + 1) < m - k; omega)
  · rw [pOver_iff okm, hs, hok1.2.1, hok1.2.2.1] at h14
    have hlt := of_decide_eq_false h14
    refine zx_aload_n (k := 0) (nn := 18) dX11_who_17 rfl rfl rfl ?_
    refine zx_getR (q := 1) (nn := 21) flX11_9 rfl rfl dX11_who_18 rfl ?_
    refine zx_bipush (v := 31) (nn := 23) rfl dX11_who_21 rfl ?_
    refine zx_aload_n (k := 0) (nn := 24) dX11_who_23 rfl rfl rfl ?_
    refine zx_getR (q := 1) (nn := 27) flX11_9 rfl rfl dX11_who_24 rfl ?_
    refine zx_iconst (v := 2) (nn := 28) rfl dX11_who_27 rfl ?_
    refine zx_iald_n (j := 2) (nn := 29) rfl (by omega) (by decide) dX11_who_28 rfl ?_
    rw [show μ1 1 2 = nI (pb (rS 1 μ) + m) from by rw [show μ1 1 2 = rS 1 μ1 2 from rfl, (ok_b okm).1, hs, hok1.2.1]]
    show zX shR σ 7 MX11_who 29 [(0, zr 0), (1, zi (nI m))] [zi (nI (pb (rS 1 μ) + m)), zi 31, zr 1] μ1 _
    refine zx_iadd (nn := 30) dX11_who_29 rfl ?_
    rw [show 31 + (nI (pb (rS 1 μ) + m)) = nI (31 + (pb (rS 1 μ) + m)) from by simp only [show (2 : Int32) = nI 2 from rfl, show (3 : Int32) = nI 3 from rfl, show (1 : Int32) = nI 1 from rfl, show (4 : Int32) = nI 4 from rfl, show (5 : Int32) = nI 5 from rfl, show (7 : Int32) = nI 7 from rfl, show (31 : Int32) = nI 31 from rfl, show (47 : Int32) = nI 47 from rfl, show (71 : Int32) = nI 71 from rfl, show (111 : Int32) = nI 111 from rfl, nI_mulN, nI_add]]
    show zX shR σ 7 MX11_who 30 [(0, zr 0), (1, zi (nI m))] [zi (nI (31 + (pb (rS 1 μ) + m))), zr 1] μ1 _
    refine zx_iald_n (j := 31 + (pb (rS 1 μ) + m)) (nn := 31) rfl (by omega) (by decide) dX11_who_30 rfl ?_
    rw [show μ1 1 (31 + (pb (rS 1 μ) + m)) = (rS 1 μ) (31 + (pb (rS 1 μ) + m)) from (hq _ (by omega)).trans (rS_i (by omega) (by omega) (by omega)).symm]
    show zX shR σ 7 MX11_who 31 [(0, zr 0), (1, zi (nI m))] [zi ((rS 1 μ) (31 + (pb (rS 1 μ) + m)))] μ1 _
    refine zx_istore_n (nn := 32) (lv' := [(2, zi ((rS 1 μ) (31 + (pb (rS 1 μ) + m)))), (0, zr 0), (1, zi (nI m))]) dX11_who_31 rfl (by decide) rfl rfl ?_
    refine zx_aload_n (k := 1) (nn := 33) dX11_who_32 rfl rfl rfl ?_
    refine zx_iconst (v := 0) (nn := 34) rfl dX11_who_33 rfl ?_
    refine zx_callV (nn := 37) (k := 0) (d' := 6) (as := [zi 0]) (rest := []) (n := 1) (eX11_goes_0 σ μ1 0 okm abm hρm (by rw [hs, hok1.2.1, hok1.2.2.1]; omega)) kX11_goes mlX11_284 rfl rfl rfl (by decide) rfl rfl (Nat.le_of_ble_eq_true rfl) dX11_who_34 rfl ?_
    rintro _ ν3 ⟨rfl, q3⟩
    show zX shR σ 7 MX11_who 37 [(2, zi ((rS 1 μ) (31 + (pb (rS 1 μ) + m)))), (0, zr 0), (1, zi (nI m))] [zi (pGain ρ (rS 1 μ1) (0 - 1))] ν3 _
    have hs2 : rS 1 ν3 = pRun ρ (rS 1 μ) (m + 1) := by rw [q3.1, hs]; rfl
    have hq2 : rQ μ ν3 := rQ_tr hq q3.2.1
    have hj2 : zJ [1, 4, 6, 7, 8] μ ν3 := hj.tr (q3.2.2.mono (by simp))
    have hsv2 : rSav (μ 1) (ν3 7) := by rw [q3.2.2 7 (by decide)]; exact hsv
    have hok2 := pRun_ok (ρ := ρ) ok (m + 1) (by omega)
    have ok2 : pOK (rS 1 ν3) := by rw [hs2]; exact hok2.1
    have ab2 : pAB (rS 1 ν3) := by rw [hs2]; exact pAB_run ok ab (m + 1) (by omega)
    have hpl : 0 ≤ (rS 1 μ) (31 + (pb (rS 1 μ) + m)) ∧ (rS 1 μ) (31 + (pb (rS 1 μ) + m)) ≤ 40 := ab.2 _ (by omega)
    refine zx_istore_n (nn := 38) (lv' := [(3, zi (pGain ρ (rS 1 μ1) (0 - 1))), (2, zi ((rS 1 μ) (31 + (pb (rS 1 μ) + m)))), (0, zr 0), (1, zi (nI m))]) dX11_who_37 rfl (by decide) rfl rfl ?_
    refine zx_aload_n (k := 2) (nn := 39) dX11_who_38 rfl rfl rfl ?_
    refine zx_getR (q := 8) (nn := 42) flX11_31 rfl rfl dX11_who_39 rfl ?_
    refine zx_iload_n (k := 3) (nn := 43) dX11_who_42 rfl rfl rfl ?_
    refine zx_aload_n (k := 2) (nn := 44) dX11_who_43 rfl rfl rfl ?_
    refine zx_iconst (v := 2) (nn := 45) rfl dX11_who_44 rfl ?_
    refine zx_iload_n (k := 1) (nn := 46) dX11_who_45 rfl rfl rfl ?_
    refine zx_callVf (nn := 49) (k := 0) (d' := 3) (as := [zi 2, zi ((rS 1 μ) (31 + (pb (rS 1 μ) + m)))]) (rest := [zi (nI m), zr 8]) (n := 2) (eX11_setOf_0 σ ν3 2 ((rS 1 μ) (31 + (pb (rS 1 μ) + m)))  ok2 ab2 hpl) kX11_setOf mlX11_289 rfl rfl rfl (by decide) rfl rfl (Nat.le_of_ble_eq_true rfl) dX11_who_46 rfl ?_
    show zX shR σ 7 MX11_who 49 [(3, zi (pGain ρ (rS 1 μ1) (0 - 1))), (2, zi ((rS 1 μ) (31 + (pb (rS 1 μ) + m)))), (0, zr 0), (1, zi (nI m))] [zi (pSetOf (rS 1 ν3) 2 ((rS 1 μ) (31 + (pb (rS 1 μ) + m)))), zi (nI m), zr 8] ν3 _
    rw [show pSetOf (rS 1 ν3) 2 ((rS 1 μ) (31 + (pb (rS 1 μ) + m))) = (pInSet ρ (rS 1 μ)) m from by rw [hs2]; rfl]
    show zX shR σ 7 MX11_who 49 [(3, zi (pGain ρ (rS 1 μ1) (0 - 1))), (2, zi ((rS 1 μ) (31 + (pb (rS 1 μ) + m)))), (0, zr 0), (1, zi (nI m))] [zi ((pInSet ρ (rS 1 μ)) m), zi (nI m), zr 8] ν3 _
    refine zx_iast_n (j := m) (nn := 50) rfl (by omega) (by decide) dX11_who_49 rfl ?_
    refine zx_iinc (k := 3) (v := nI (m + 1)) (lv' := [(1, zi (nI (m + 1))), (3, zi (pGain ρ (rS 1 μ1) (0 - 1))), (2, zi ((rS 1 μ) (31 + (pb (rS 1 μ) + m)))), (0, zr 0)]) (nn := 53) dX11_who_50 rfl (nI_1 m) (by decide) rfl rfl ?_
    refine zx_goto (tgt := 10) dX11_who_53 (by decide) ?_
    refine zx_lv (lv' := [(0, zr 0), (1, zi (nI (m + 1)))]) [3, 0] rfl ?_
    exact ih10 (m + 1, zp ν3 8 m ((pInSet ρ (rS 1 μ)) m)) (show (m + 1) ≤ pRem (rS 1 μ) ∧ rS 1 (zp ν3 8 m ((pInSet ρ (rS 1 μ)) m)) = pRun ρ (rS 1 μ) (m + 1) ∧ rQ μ (zp ν3 8 m ((pInSet ρ (rS 1 μ)) m)) ∧ zJ [1, 4, 6, 7, 8] μ (zp ν3 8 m ((pInSet ρ (rS 1 μ)) m)) ∧ rSav (μ 1) ((zp ν3 8 m ((pInSet ρ (rS 1 μ)) m)) 7) ∧ ∀ j, j < (m + 1) → (zp ν3 8 m ((pInSet ρ (rS 1 μ)) m)) 8 j = (pInSet ρ (rS 1 μ)) j from ⟨by omega, by rw [rS_eq (zp_ne (by decide)), hs2], rQ_o hq2 (by decide), hj2.p (by decide), by rw [zp_ne (by decide)]; exact hsv2, fun j hj => (Decidable.em (j = m)).elim (fun e => by subst e; rw [zp_eq, pk_us]) (fun e => by rw [zp_eq, pk_un e, q3.2.2 8 (by decide)]; exact hv j (by omega))⟩) (by show pRem (rS 1 μ) - (m + 1) < pRem (rS 1 μ) - m; omega)
