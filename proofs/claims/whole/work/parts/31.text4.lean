theorem rdC.pre {μ m μ2 : zM} {cc : Nat} {b : List Int32} (h : m 16 = μ 16) (g : rdC m μ2 cc b) : rdC μ μ2 cc b := ⟨fun j hj => (g.1 j hj).trans (by rw [h]), g.2⟩
theorem rMore_s {K : Nat → Int32} {one : Nat → pC} {sep x rc : Int32} {m : Nat} {a : pC} (h : K a.2.1 = sep) (g : (one (a.2.1 + 1)).1 = true) : rMore K one sep x rc (m + 1) a = rMore K one sep x rc m (true, (one (a.2.1 + 1)).2.1, a.2.2.1 ++ ((one (a.2.1 + 1)).2.2.1 ++ [x]), a.2.2.2 ++ ((one (a.2.1 + 1)).2.2.2 ++ [(rc, 0)])) := by
  show (if _ then (if _ then _ else _) else _) = _
  rw [if_pos h, if_pos g]
theorem rMore_f {K : Nat → Int32} {one : Nat → pC} {sep x rc : Int32} {m : Nat} {a : pC} (h : K a.2.1 = sep) (g : (one (a.2.1 + 1)).1 = false) : rMore K one sep x rc (m + 1) a = (false, (one (a.2.1 + 1)).2.1, [], []) := by
  show (if _ then (if _ then _ else _) else _) = _
  rw [if_pos h, if_neg (by rw [g]; decide)]
theorem rMore_n {K : Nat → Int32} {one : Nat → pC} {sep x rc : Int32} {a : pC} (h : ¬ K a.2.1 = sep) : ∀ m, rMore K one sep x rc m a = a
  | 0 => rfl
  | m + 1 => if_neg h
set_option maxHeartbeats 4000000 in
set_option maxRecDepth 100000 in
theorem eX4_readAll (σ : zG) (K V : Nat → Int32) (c op D : Nat) (one : Nat → pC) (hg : pGd c one) (hone : ∀ μ nx cc, rdS K V c μ nx cc → zMet shC σ D MX4_readOne yX4_readOne [zr 7, zi (nI op)] μ (fun rr μ' => rr = some (zi (zb (one nx).1)) ∧ rdP K V c μ cc (one nx) μ')) (μ : zM) (nx cc : Nat) (hS : rdS K V c μ nx cc) : zMet shC σ (D + 1) MX4_readAll yX4_readAll [zr 7, zi (nI op)] μ (fun rr μ' => rr = some (zi (zb (rJoin K one 267 (-10) 4 nx).1)) ∧ rdP K V c μ cc (rJoin K one 267 (-10) 4 nx) μ') := by
  refine zmetF (by decide +kernel) rfl (Nat.le_of_ble_eq_true rfl) ?_
  show zX shC σ (D + 1) MX4_readAll 0 [(0, zr 7), (1, zi (nI op))] [] μ _
  refine zx_aload_n (k := 0) (nn := 1) dX4_readAll_0 rfl rfl rfl ?_
  refine zx_iload_n (k := 1) (nn := 2) dX4_readAll_1 rfl rfl rfl ?_
  refine zx_callV (nn := 5) (k := 7) (d' := D) (as := [zi (nI op)]) (rest := []) (n := 1) (hone μ nx cc hS) kX4_readOne mlX4_67 rfl rfl rfl (by omega) rfl rfl (Nat.le_of_ble_eq_true rfl) dX4_readAll_2 rfl ?_
  rintro _ ν1 ⟨rfl, q1⟩
  show zX shC σ (D + 1) MX4_readAll 5 [(0, zr 7), (1, zi (nI op))] [zi (zb (one nx).1)] ν1 _
  refine zx_ifb_ne (tgt := 10) (nn := 8) dX4_readAll_5 (by decide) rfl (fun h5 => ?_) (fun h5 => ?_)
  · refine zx_iconst (v := 0) (nn := 11) rfl dX4_readAll_10 rfl ?_
    refine zx_istore_n (nn := 12) (lv' := [(2, zi 0), (0, zr 7), (1, zi (nI op))]) dX4_readAll_11 rfl (by decide) rfl rfl ?_
    refine zx_lv (lv' := [(0, zr 7), (1, zi (nI op)), (2, zi 0)]) [1, 2, 0] rfl ?_
    refine zx_while (τ := Nat × pC × zM) (fun t_ => 200 - t_.1) (fun t_ => t_.1 ≤ 200 ∧ t_.2.1.1 = true ∧ rJoin K one 267 (-10) 4 nx = rMore K one 267 (-10) 4 (200 - t_.1) t_.2.1 ∧ rdP K V c μ cc t_.2.1 t_.2.2 ∧ (nx ≤ t_.2.1.2.1 ∧ t_.2.1.2.1 ≤ c) ∧ t_.2.1.2.2.1.length + nx ≤ t_.2.1.2.1) (fun t_ => [(0, zr 7), (1, zi (nI op)), (2, zi (nI t_.1))]) (fun t_ => t_.2.2) (t0 := (0, one nx, ν1)) (show 0 ≤ 200 ∧ (one nx).1 = true ∧ rJoin K one 267 (-10) 4 nx = rMore K one 267 (-10) 4 (200 - 0) (one nx) ∧ rdP K V c μ cc (one nx) ν1 ∧ (nx ≤ (one nx).2.1 ∧ (one nx).2.1 ≤ c) ∧ (one nx).2.2.1.length + nx ≤ (one nx).2.1 from ⟨Nat.zero_le _, h5, (by unfold rJoin; rw [if_pos h5]), q1, (hg nx hS.2.2.2.1.2).1, (hg nx hS.2.2.2.1.2).2.1⟩) ?_
    rintro ⟨i, a, μ1⟩ hI ih12
    replace hI : i ≤ 200 ∧ a.1 = true ∧ rJoin K one 267 (-10) 4 nx = rMore K one 267 (-10) 4 (200 - i) a ∧ rdP K V c μ cc a μ1 ∧ (nx ≤ a.2.1 ∧ a.2.1 ≤ c) ∧ a.2.2.1.length + nx ≤ a.2.1 := hI
    show zX shC σ (D + 1) MX4_readAll 12 [(0, zr 7), (1, zi (nI op)), (2, zi (nI i))] [] μ1 _
    obtain ⟨hi, ha, hJ, hP, hr, hln⟩ := hI
    have hS1 := (hP.2.2 ha).1
    refine zx_iload_n (k := 2) (nn := 13) dX4_readAll_12 rfl rfl rfl ?_
    refine zx_sipush (v := 200) (nn := 16) rfl dX4_readAll_13 rfl ?_
    refine zx_icmp_ge (tgt := 69) (nn := 19) dX4_readAll_16 (by decide) rfl (fun h16 => ?_) (fun h16 => ?_)
    · refine zx_iconst (v := 1) (nn := 70) rfl dX4_readAll_69 rfl ?_
      refine zx_zret rfl rfl dX4_readAll_70 ?_
      have hE : rJoin K one 267 (-10) 4 nx = a := by rw [hJ, show 200 - i = 0 by have := nI_le_le (b := 200) (a := i) h16 (by omega); omega]; rfl
      exact ⟨congrArg (fun x => some (zi x)) (by rw [hE, ha]; rfl), by rw [hE]; exact hP⟩
    · have hlt : i < 200 := nI_nle_lt (b := 200) h16 (by omega)
      refine zx_aload_n (k := 0) (nn := 20) dX4_readAll_19 rfl rfl rfl ?_
      refine zx_getR (q := 9) (nn := 23) flX4_15 rfl rfl dX4_readAll_20 rfl ?_
      refine zx_aload_n (k := 0) (nn := 24) dX4_readAll_23 rfl rfl rfl ?_
      refine zx_getI (nn := 27) flX4_38 rfl rfl dX4_readAll_24 rfl ?_
      rw [show μ1 7 7 = nI a.2.1 from hS1.2.2.2.1.1]
      show zX shC σ (D + 1) MX4_readAll 27 [(0, zr 7), (1, zi (nI op)), (2, zi (nI i))] [zi (nI a.2.1), zr 9] μ1 _
      refine zx_iald_n (j := a.2.1) (nn := 28) rfl (by have := hS1.2.2.1.2; omega) (by decide) dX4_readAll_27 rfl ?_
      rw [show μ1 9 a.2.1 = K a.2.1 from hS1.1 a.2.1 hr.2]
      show zX shC σ (D + 1) MX4_readAll 28 [(0, zr 7), (1, zi (nI op)), (2, zi (nI i))] [zi (K a.2.1)] μ1 _
      refine zx_sipush (v := 267) (nn := 31) rfl dX4_readAll_28 rfl ?_
      refine zx_icmp_ne (tgt := 69) (nn := 34) dX4_readAll_31 (by decide) rfl (fun h31 => ?_) (fun h31 => ?_)
      · refine zx_iconst (v := 1) (nn := 70) rfl dX4_readAll_69 rfl ?_
        refine zx_zret rfl rfl dX4_readAll_70 ?_
        have hE : rJoin K one 267 (-10) 4 nx = a := by rw [hJ]; exact rMore_n h31 _
        exact ⟨congrArg (fun x => some (zi x)) (by rw [hE, ha]; rfl), by rw [hE]; exact hP⟩
      · have hnc : a.2.1 ≠ c := fun e => by rw [e, hS1.2.2.1.1] at h31; exact absurd h31 (by decide)
        have hc2 := hS1.2.2.1.2
        refine zx_aload_n (k := 0) (nn := 35) dX4_readAll_34 rfl rfl rfl ?_
        refine zx_dupr (nn := 36) dX4_readAll_35 rfl ?_
        refine zx_getI (nn := 39) flX4_38 rfl rfl dX4_readAll_36 rfl ?_
        rw [show μ1 7 7 = nI a.2.1 from hS1.2.2.2.1.1]
        show zX shC σ (D + 1) MX4_readAll 39 [(0, zr 7), (1, zi (nI op)), (2, zi (nI i))] [zi (nI a.2.1), zr 7] μ1 _
        refine zx_iconst (v := 1) (nn := 40) rfl dX4_readAll_39 rfl ?_
        refine zx_iadd (nn := 41) dX4_readAll_40 rfl ?_
        rw [show (nI a.2.1) + 1 = nI (a.2.1 + 1) from nI_1 _]
        show zX shC σ (D + 1) MX4_readAll 41 [(0, zr 7), (1, zi (nI op)), (2, zi (nI i))] [zi (nI (a.2.1 + 1)), zr 7] μ1 _
        refine zx_putI (nn := 44) fpX4_38 rfl rfl rfl rfl dX4_readAll_41 rfl ?_
        refine zx_aload_n (k := 0) (nn := 45) dX4_readAll_44 rfl rfl rfl ?_
        refine zx_iload_n (k := 1) (nn := 46) dX4_readAll_45 rfl rfl rfl ?_
        refine zx_callV (nn := 49) (k := 7) (d' := D) (as := [zi (nI op)]) (rest := []) (n := 1) (hone (zp μ1 7 7 (nI (a.2.1 + 1))) (a.2.1 + 1) (cc + a.2.2.1.length) (hS1.nx (by rw [h31]; decide))) kX4_readOne mlX4_67 rfl rfl rfl (by omega) rfl rfl (Nat.le_of_ble_eq_true rfl) dX4_readAll_46 rfl ?_
        rintro _ ν2 ⟨rfl, q2⟩
        show zX shC σ (D + 1) MX4_readAll 49 [(0, zr 7), (1, zi (nI op)), (2, zi (nI i))] [zi (zb (one (a.2.1 + 1)).1)] ν2 _
        refine zx_ifb_ne (tgt := 54) (nn := 52) dX4_readAll_49 (by decide) rfl (fun h49 => ?_) (fun h49 => ?_)
        · have hb := hg (a.2.1 + 1) (by omega)
          have hcc := hS1.2.2.2.2.2
          refine zx_aload_n (k := 0) (nn := 55) dX4_readAll_54 rfl rfl rfl ?_
          refine zx_getR (q := 12) (nn := 58) flX4_27 rfl rfl dX4_readAll_55 rfl ?_
          refine zx_bipush (v := -10) (nn := 60) rfl dX4_readAll_58 rfl ?_
          refine zx_callVf (nn := 63) (k := 12) (d' := 0) (as := [zi (-10)]) (rest := []) (n := 1) (eX5_addCode_12 σ ν2 (-10) (cc + a.2.2.1.length + (one (a.2.1 + 1)).2.2.1.length) (q2.2.2 h49).1.2.2.2.2.1 (by omega)) kX5_addCode mlX4_63 rfl rfl rfl (by omega) rfl rfl (Nat.le_of_ble_eq_true rfl) dX4_readAll_60 rfl ?_
          show zX shC σ (D + 1) MX4_readAll 63 [(0, zr 7), (1, zi (nI op)), (2, zi (nI i))] [] (zp (zp ν2 16 (cc + a.2.2.1.length + (one (a.2.1 + 1)).2.2.1.length) (-10)) 12 6 (nI (cc + a.2.2.1.length + (one (a.2.1 + 1)).2.2.1.length + 1))) _
          refine zx_iinc (k := 2) (v := nI (i + 1)) (lv' := [(2, zi (nI (i + 1))), (0, zr 7), (1, zi (nI op))]) (nn := 66) dX4_readAll_63 rfl (nI_1 i) (by decide) rfl rfl ?_
          refine zx_goto (tgt := 12) dX4_readAll_66 (by decide) ?_
          refine zx_lv (lv' := [(0, zr 7), (1, zi (nI op)), (2, zi (nI (i + 1)))]) [1, 2, 0] rfl ?_
          exact ih12 (i + 1, ((true, (one (a.2.1 + 1)).2.1, a.2.2.1 ++ ((one (a.2.1 + 1)).2.2.1 ++ [(-10 : Int32)]), a.2.2.2 ++ ((one (a.2.1 + 1)).2.2.2 ++ [((4 : Int32), (0 : Int32))])) : pC), zp (zp ν2 16 (cc + a.2.2.1.length + (one (a.2.1 + 1)).2.2.1.length) (-10)) 12 6 (nI (cc + a.2.2.1.length + (one (a.2.1 + 1)).2.2.1.length + 1))) (show (i + 1) ≤ 200 ∧ ((true, (one (a.2.1 + 1)).2.1, a.2.2.1 ++ ((one (a.2.1 + 1)).2.2.1 ++ [(-10 : Int32)]), a.2.2.2 ++ ((one (a.2.1 + 1)).2.2.2 ++ [((4 : Int32), (0 : Int32))])) : pC).1 = true ∧ rJoin K one 267 (-10) 4 nx = rMore K one 267 (-10) 4 (200 - (i + 1)) ((true, (one (a.2.1 + 1)).2.1, a.2.2.1 ++ ((one (a.2.1 + 1)).2.2.1 ++ [(-10 : Int32)]), a.2.2.2 ++ ((one (a.2.1 + 1)).2.2.2 ++ [((4 : Int32), (0 : Int32))])) : pC) ∧ rdP K V c μ cc ((true, (one (a.2.1 + 1)).2.1, a.2.2.1 ++ ((one (a.2.1 + 1)).2.2.1 ++ [(-10 : Int32)]), a.2.2.2 ++ ((one (a.2.1 + 1)).2.2.2 ++ [((4 : Int32), (0 : Int32))])) : pC) (zp (zp ν2 16 (cc + a.2.2.1.length + (one (a.2.1 + 1)).2.2.1.length) (-10)) 12 6 (nI (cc + a.2.2.1.length + (one (a.2.1 + 1)).2.2.1.length + 1))) ∧ (nx ≤ ((true, (one (a.2.1 + 1)).2.1, a.2.2.1 ++ ((one (a.2.1 + 1)).2.2.1 ++ [(-10 : Int32)]), a.2.2.2 ++ ((one (a.2.1 + 1)).2.2.2 ++ [((4 : Int32), (0 : Int32))])) : pC).2.1 ∧ ((true, (one (a.2.1 + 1)).2.1, a.2.2.1 ++ ((one (a.2.1 + 1)).2.2.1 ++ [(-10 : Int32)]), a.2.2.2 ++ ((one (a.2.1 + 1)).2.2.2 ++ [((4 : Int32), (0 : Int32))])) : pC).2.1 ≤ c) ∧ ((true, (one (a.2.1 + 1)).2.1, a.2.2.1 ++ ((one (a.2.1 + 1)).2.2.1 ++ [(-10 : Int32)]), a.2.2.2 ++ ((one (a.2.1 + 1)).2.2.2 ++ [((4 : Int32), (0 : Int32))])) : pC).2.2.1.length + nx ≤ ((true, (one (a.2.1 + 1)).2.1, a.2.2.1 ++ ((one (a.2.1 + 1)).2.2.1 ++ [(-10 : Int32)]), a.2.2.2 ++ ((one (a.2.1 + 1)).2.2.2 ++ [((4 : Int32), (0 : Int32))])) : pC).2.1 from ⟨by omega, rfl, by rw [hJ, show 200 - i = (200 - (i + 1)) + 1 by omega]; exact rMore_s h31 h49, ⟨(hP.1.tr (rdE.nx.tr q2.1)).tr rdE.cd, by rw [zp_ne (by decide), zp_ne (by decide)]; exact q2.2.1, fun _ => ⟨by
            have hh := (q2.2.2 h49).1.cd (v := -10) (by omega)
            rw [show cc + (a.2.2.1 ++ ((one (a.2.1 + 1)).2.2.1 ++ [(-10 : Int32)])).length = cc + a.2.2.1.length + (one (a.2.1 + 1)).2.2.1.length + 1 by simp only [List.length_append, List.length_cons, List.length_nil]; omega]
            exact hh, (hP.2.2 ha).2.app (rdC.pre (zp_ne (by decide)) ((q2.2.2 h49).2.app rdC.one))⟩⟩, by constructor <;> (show _ ≤ _; first | exact Nat.le_trans (by omega) hb.1.1 | exact hb.1.2), by simp only [List.length_append, List.length_cons, List.length_nil]; omega⟩) (by show 200 - (i + 1) < 200 - i; omega)
        · refine zx_iconst (v := 0) (nn := 53) rfl dX4_readAll_52 rfl ?_
          refine zx_zret rfl rfl dX4_readAll_53 ?_
          have hE : rJoin K one 267 (-10) 4 nx = (false, (one (a.2.1 + 1)).2.1, [], []) := by rw [hJ, show 200 - i = (200 - (i + 1)) + 1 by omega]; exact rMore_f h31 h49
          exact ⟨congrArg (fun x => some (zi x)) (by rw [hE]; rfl), by rw [hE]; exact ⟨hP.1.tr (rdE.nx.tr q2.1), q2.2.1, fun h => by cases h⟩⟩
  · refine zx_iconst (v := 0) (nn := 9) rfl dX4_readAll_8 rfl ?_
    refine zx_zret rfl rfl dX4_readAll_9 ?_
    have hE : rJoin K one 267 (-10) 4 nx = (false, (one nx).2.1, [], []) := by unfold rJoin; rw [if_neg (by rw [h5]; decide)]
    exact ⟨congrArg (fun x => some (zi x)) (by rw [hE]; rfl), by rw [hE]; exact ⟨q1.1, q1.2.1, fun h => by cases h⟩⟩
set_option maxHeartbeats 4000000 in
set_option maxRecDepth 100000 in
theorem eX4_readAny (σ : zG) (K V : Nat → Int32) (c op D : Nat) (one : Nat → pC) (hg : pGd c one) (hone : ∀ μ nx cc, rdS K V c μ nx cc → zMet shC σ D MX4_readAll yX4_readAll [zr 7, zi (nI op)] μ (fun rr μ' => rr = some (zi (zb (one nx).1)) ∧ rdP K V c μ cc (one nx) μ')) (μ : zM) (nx cc : Nat) (hS : rdS K V c μ nx cc) : zMet shC σ (D + 1) MX4_readAny yX4_readAny [zr 7, zi (nI op)] μ (fun rr μ' => rr = some (zi (zb (rJoin K one 266 (-11) 5 nx).1)) ∧ rdP K V c μ cc (rJoin K one 266 (-11) 5 nx) μ') := by
  refine zmetF (by decide +kernel) rfl (Nat.le_of_ble_eq_true rfl) ?_
  show zX shC σ (D + 1) MX4_readAny 0 [(0, zr 7), (1, zi (nI op))] [] μ _
  refine zx_aload_n (k := 0) (nn := 1) dX4_readAny_0 rfl rfl rfl ?_
  refine zx_iload_n (k := 1) (nn := 2) dX4_readAny_1 rfl rfl rfl ?_
  refine zx_callV (nn := 5) (k := 7) (d' := D) (as := [zi (nI op)]) (rest := []) (n := 1) (hone μ nx cc hS) kX4_readAll mlX4_60 rfl rfl rfl (by omega) rfl rfl (Nat.le_of_ble_eq_true rfl) dX4_readAny_2 rfl ?_
  rintro _ ν1 ⟨rfl, q1⟩
  show zX shC σ (D + 1) MX4_readAny 5 [(0, zr 7), (1, zi (nI op))] [zi (zb (one nx).1)] ν1 _
  refine zx_ifb_ne (tgt := 10) (nn := 8) dX4_readAny_5 (by decide) rfl (fun h5 => ?_) (fun h5 => ?_)
  · refine zx_iconst (v := 0) (nn := 11) rfl dX4_readAny_10 rfl ?_
    refine zx_istore_n (nn := 12) (lv' := [(2, zi 0), (0, zr 7), (1, zi (nI op))]) dX4_readAny_11 rfl (by decide) rfl rfl ?_
    refine zx_lv (lv' := [(0, zr 7), (1, zi (nI op)), (2, zi 0)]) [1, 2, 0] rfl ?_
    refine zx_while (τ := Nat × pC × zM) (fun t_ => 200 - t_.1) (fun t_ => t_.1 ≤ 200 ∧ t_.2.1.1 = true ∧ rJoin K one 266 (-11) 5 nx = rMore K one 266 (-11) 5 (200 - t_.1) t_.2.1 ∧ rdP K V c μ cc t_.2.1 t_.2.2 ∧ (nx ≤ t_.2.1.2.1 ∧ t_.2.1.2.1 ≤ c) ∧ t_.2.1.2.2.1.length + nx ≤ t_.2.1.2.1) (fun t_ => [(0, zr 7), (1, zi (nI op)), (2, zi (nI t_.1))]) (fun t_ => t_.2.2) (t0 := (0, one nx, ν1)) (show 0 ≤ 200 ∧ (one nx).1 = true ∧ rJoin K one 266 (-11) 5 nx = rMore K one 266 (-11) 5 (200 - 0) (one nx) ∧ rdP K V c μ cc (one nx) ν1 ∧ (nx ≤ (one nx).2.1 ∧ (one nx).2.1 ≤ c) ∧ (one nx).2.2.1.length + nx ≤ (one nx).2.1 from ⟨Nat.zero_le _, h5, (by unfold rJoin; rw [if_pos h5]), q1, (hg nx hS.2.2.2.1.2).1, (hg nx hS.2.2.2.1.2).2.1⟩) ?_
    rintro ⟨i, a, μ1⟩ hI ih12
    replace hI : i ≤ 200 ∧ a.1 = true ∧ rJoin K one 266 (-11) 5 nx = rMore K one 266 (-11) 5 (200 - i) a ∧ rdP K V c μ cc a μ1 ∧ (nx ≤ a.2.1 ∧ a.2.1 ≤ c) ∧ a.2.2.1.length + nx ≤ a.2.1 := hI
    show zX shC σ (D + 1) MX4_readAny 12 [(0, zr 7), (1, zi (nI op)), (2, zi (nI i))] [] μ1 _
    obtain ⟨hi, ha, hJ, hP, hr, hln⟩ := hI
    have hS1 := (hP.2.2 ha).1
    refine zx_iload_n (k := 2) (nn := 13) dX4_readAny_12 rfl rfl rfl ?_
    refine zx_sipush (v := 200) (nn := 16) rfl dX4_readAny_13 rfl ?_
    refine zx_icmp_ge (tgt := 69) (nn := 19) dX4_readAny_16 (by decide) rfl (fun h16 => ?_) (fun h16 => ?_)
    · refine zx_iconst (v := 1) (nn := 70) rfl dX4_readAny_69 rfl ?_
      refine zx_zret rfl rfl dX4_readAny_70 ?_
      have hE : rJoin K one 266 (-11) 5 nx = a := by rw [hJ, show 200 - i = 0 by have := nI_le_le (b := 200) (a := i) h16 (by omega); omega]; rfl
      exact ⟨congrArg (fun x => some (zi x)) (by rw [hE, ha]; rfl), by rw [hE]; exact hP⟩
    · have hlt : i < 200 := nI_nle_lt (b := 200) h16 (by omega)
      refine zx_aload_n (k := 0) (nn := 20) dX4_readAny_19 rfl rfl rfl ?_
      refine zx_getR (q := 9) (nn := 23) flX4_15 rfl rfl dX4_readAny_20 rfl ?_
      refine zx_aload_n (k := 0) (nn := 24) dX4_readAny_23 rfl rfl rfl ?_
      refine zx_getI (nn := 27) flX4_38 rfl rfl dX4_readAny_24 rfl ?_
      rw [show μ1 7 7 = nI a.2.1 from hS1.2.2.2.1.1]
      show zX shC σ (D + 1) MX4_readAny 27 [(0, zr 7), (1, zi (nI op)), (2, zi (nI i))] [zi (nI a.2.1), zr 9] μ1 _
      refine zx_iald_n (j := a.2.1) (nn := 28) rfl (by have := hS1.2.2.1.2; omega) (by decide) dX4_readAny_27 rfl ?_
      rw [show μ1 9 a.2.1 = K a.2.1 from hS1.1 a.2.1 hr.2]
      show zX shC σ (D + 1) MX4_readAny 28 [(0, zr 7), (1, zi (nI op)), (2, zi (nI i))] [zi (K a.2.1)] μ1 _
      refine zx_sipush (v := 266) (nn := 31) rfl dX4_readAny_28 rfl ?_
      refine zx_icmp_ne (tgt := 69) (nn := 34) dX4_readAny_31 (by decide) rfl (fun h31 => ?_) (fun h31 => ?_)
      · refine zx_iconst (v := 1) (nn := 70) rfl dX4_readAny_69 rfl ?_
        refine zx_zret rfl rfl dX4_readAny_70 ?_
        have hE : rJoin K one 266 (-11) 5 nx = a := by rw [hJ]; exact rMore_n h31 _
        exact ⟨congrArg (fun x => some (zi x)) (by rw [hE, ha]; rfl), by rw [hE]; exact hP⟩
      · have hnc : a.2.1 ≠ c := fun e => by rw [e, hS1.2.2.1.1] at h31; exact absurd h31 (by decide)
        have hc2 := hS1.2.2.1.2
        refine zx_aload_n (k := 0) (nn := 35) dX4_readAny_34 rfl rfl rfl ?_
        refine zx_dupr (nn := 36) dX4_readAny_35 rfl ?_
        refine zx_getI (nn := 39) flX4_38 rfl rfl dX4_readAny_36 rfl ?_
        rw [show μ1 7 7 = nI a.2.1 from hS1.2.2.2.1.1]
        show zX shC σ (D + 1) MX4_readAny 39 [(0, zr 7), (1, zi (nI op)), (2, zi (nI i))] [zi (nI a.2.1), zr 7] μ1 _
        refine zx_iconst (v := 1) (nn := 40) rfl dX4_readAny_39 rfl ?_
        refine zx_iadd (nn := 41) dX4_readAny_40 rfl ?_
        rw [show (nI a.2.1) + 1 = nI (a.2.1 + 1) from nI_1 _]
        show zX shC σ (D + 1) MX4_readAny 41 [(0, zr 7), (1, zi (nI op)), (2, zi (nI i))] [zi (nI (a.2.1 + 1)), zr 7] μ1 _
        refine zx_putI (nn := 44) fpX4_38 rfl rfl rfl rfl dX4_readAny_41 rfl ?_
        refine zx_aload_n (k := 0) (nn := 45) dX4_readAny_44 rfl rfl rfl ?_
        refine zx_iload_n (k := 1) (nn := 46) dX4_readAny_45 rfl rfl rfl ?_
        refine zx_callV (nn := 49) (k := 7) (d' := D) (as := [zi (nI op)]) (rest := []) (n := 1) (hone (zp μ1 7 7 (nI (a.2.1 + 1))) (a.2.1 + 1) (cc + a.2.2.1.length) (hS1.nx (by rw [h31]; decide))) kX4_readAll mlX4_60 rfl rfl rfl (by omega) rfl rfl (Nat.le_of_ble_eq_true rfl) dX4_readAny_46 rfl ?_
        rintro _ ν2 ⟨rfl, q2⟩
        show zX shC σ (D + 1) MX4_readAny 49 [(0, zr 7), (1, zi (nI op)), (2, zi (nI i))] [zi (zb (one (a.2.1 + 1)).1)] ν2 _
        refine zx_ifb_ne (tgt := 54) (nn := 52) dX4_readAny_49 (by decide) rfl (fun h49 => ?_) (fun h49 => ?_)
        · have hb := hg (a.2.1 + 1) (by omega)
          have hcc := hS1.2.2.2.2.2
          refine zx_aload_n (k := 0) (nn := 55) dX4_readAny_54 rfl rfl rfl ?_
          refine zx_getR (q := 12) (nn := 58) flX4_27 rfl rfl dX4_readAny_55 rfl ?_
          refine zx_bipush (v := -11) (nn := 60) rfl dX4_readAny_58 rfl ?_
          refine zx_callVf (nn := 63) (k := 12) (d' := 0) (as := [zi (-11)]) (rest := []) (n := 1) (eX5_addCode_12 σ ν2 (-11) (cc + a.2.2.1.length + (one (a.2.1 + 1)).2.2.1.length) (q2.2.2 h49).1.2.2.2.2.1 (by omega)) kX5_addCode mlX4_63 rfl rfl rfl (by omega) rfl rfl (Nat.le_of_ble_eq_true rfl) dX4_readAny_60 rfl ?_
          show zX shC σ (D + 1) MX4_readAny 63 [(0, zr 7), (1, zi (nI op)), (2, zi (nI i))] [] (zp (zp ν2 16 (cc + a.2.2.1.length + (one (a.2.1 + 1)).2.2.1.length) (-11)) 12 6 (nI (cc + a.2.2.1.length + (one (a.2.1 + 1)).2.2.1.length + 1))) _
          refine zx_iinc (k := 2) (v := nI (i + 1)) (lv' := [(2, zi (nI (i + 1))), (0, zr 7), (1, zi (nI op))]) (nn := 66) dX4_readAny_63 rfl (nI_1 i) (by decide) rfl rfl ?_
          refine zx_goto (tgt := 12) dX4_readAny_66 (by decide) ?_
          refine zx_lv (lv' := [(0, zr 7), (1, zi (nI op)), (2, zi (nI (i + 1)))]) [1, 2, 0] rfl ?_
          exact ih12 (i + 1, ((true, (one (a.2.1 + 1)).2.1, a.2.2.1 ++ ((one (a.2.1 + 1)).2.2.1 ++ [(-11 : Int32)]), a.2.2.2 ++ ((one (a.2.1 + 1)).2.2.2 ++ [((5 : Int32), (0 : Int32))])) : pC), zp (zp ν2 16 (cc + a.2.2.1.length + (one (a.2.1 + 1)).2.2.1.length) (-11)) 12 6 (nI (cc + a.2.2.1.length + (one (a.2.1 + 1)).2.2.1.length + 1))) (show (i + 1) ≤ 200 ∧ ((true, (one (a.2.1 + 1)).2.1, a.2.2.1 ++ ((one (a.2.1 + 1)).2.2.1 ++ [(-11 : Int32)]), a.2.2.2 ++ ((one (a.2.1 + 1)).2.2.2 ++ [((5 : Int32), (0 : Int32))])) : pC).1 = true ∧ rJoin K one 266 (-11) 5 nx = rMore K one 266 (-11) 5 (200 - (i + 1)) ((true, (one (a.2.1 + 1)).2.1, a.2.2.1 ++ ((one (a.2.1 + 1)).2.2.1 ++ [(-11 : Int32)]), a.2.2.2 ++ ((one (a.2.1 + 1)).2.2.2 ++ [((5 : Int32), (0 : Int32))])) : pC) ∧ rdP K V c μ cc ((true, (one (a.2.1 + 1)).2.1, a.2.2.1 ++ ((one (a.2.1 + 1)).2.2.1 ++ [(-11 : Int32)]), a.2.2.2 ++ ((one (a.2.1 + 1)).2.2.2 ++ [((5 : Int32), (0 : Int32))])) : pC) (zp (zp ν2 16 (cc + a.2.2.1.length + (one (a.2.1 + 1)).2.2.1.length) (-11)) 12 6 (nI (cc + a.2.2.1.length + (one (a.2.1 + 1)).2.2.1.length + 1))) ∧ (nx ≤ ((true, (one (a.2.1 + 1)).2.1, a.2.2.1 ++ ((one (a.2.1 + 1)).2.2.1 ++ [(-11 : Int32)]), a.2.2.2 ++ ((one (a.2.1 + 1)).2.2.2 ++ [((5 : Int32), (0 : Int32))])) : pC).2.1 ∧ ((true, (one (a.2.1 + 1)).2.1, a.2.2.1 ++ ((one (a.2.1 + 1)).2.2.1 ++ [(-11 : Int32)]), a.2.2.2 ++ ((one (a.2.1 + 1)).2.2.2 ++ [((5 : Int32), (0 : Int32))])) : pC).2.1 ≤ c) ∧ ((true, (one (a.2.1 + 1)).2.1, a.2.2.1 ++ ((one (a.2.1 + 1)).2.2.1 ++ [(-11 : Int32)]), a.2.2.2 ++ ((one (a.2.1 + 1)).2.2.2 ++ [((5 : Int32), (0 : Int32))])) : pC).2.2.1.length + nx ≤ ((true, (one (a.2.1 + 1)).2.1, a.2.2.1 ++ ((one (a.2.1 + 1)).2.2.1 ++ [(-11 : Int32)]), a.2.2.2 ++ ((one (a.2.1 + 1)).2.2.2 ++ [((5 : Int32), (0 : Int32))])) : pC).2.1 from ⟨by omega, rfl, by rw [hJ, show 200 - i = (200 - (i + 1)) + 1 by omega]; exact rMore_s h31 h49, ⟨(hP.1.tr (rdE.nx.tr q2.1)).tr rdE.cd, by rw [zp_ne (by decide), zp_ne (by decide)]; exact q2.2.1, fun _ => ⟨by
            have hh := (q2.2.2 h49).1.cd (v := -11) (by omega)
            rw [show cc + (a.2.2.1 ++ ((one (a.2.1 + 1)).2.2.1 ++ [(-11 : Int32)])).length = cc + a.2.2.1.length + (one (a.2.1 + 1)).2.2.1.length + 1 by simp only [List.length_append, List.length_cons, List.length_nil]; omega]
            exact hh, (hP.2.2 ha).2.app (rdC.pre (zp_ne (by decide)) ((q2.2.2 h49).2.app rdC.one))⟩⟩, by constructor <;> (show _ ≤ _; first | exact Nat.le_trans (by omega) hb.1.1 | exact hb.1.2), by simp only [List.length_append, List.length_cons, List.length_nil]; omega⟩) (by show 200 - (i + 1) < 200 - i; omega)
        · refine zx_iconst (v := 0) (nn := 53) rfl dX4_readAny_52 rfl ?_
          refine zx_zret rfl rfl dX4_readAny_53 ?_
          have hE : rJoin K one 266 (-11) 5 nx = (false, (one (a.2.1 + 1)).2.1, [], []) := by rw [hJ, show 200 - i = (200 - (i + 1)) + 1 by omega]; exact rMore_f h31 h49
          exact ⟨congrArg (fun x => some (zi x)) (by rw [hE]; rfl), by rw [hE]; exact ⟨hP.1.tr (rdE.nx.tr q2.1), q2.2.1, fun h => by cases h⟩⟩
  · refine zx_iconst (v := 0) (nn := 9) rfl dX4_readAny_8 rfl ?_
    refine zx_zret rfl rfl dX4_readAny_9 ?_
    have hE : rJoin K one 266 (-11) 5 nx = (false, (one nx).2.1, [], []) := by unfold rJoin; rw [if_neg (by rw [h5]; decide)]
    exact ⟨congrArg (fun x => some (zi x)) (by rw [hE]; rfl), by rw [hE]; exact ⟨q1.1, q1.2.1, fun h => by cases h⟩⟩
