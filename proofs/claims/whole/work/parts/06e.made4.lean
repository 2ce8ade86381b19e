abbrev kT (cI cL cA : ClassId) : List (ClassId × FieldType) := [(cI, .int), (cL, .long), (cA, .array .int)]
theorem kT_I (cI cL cA : ClassId) : (cI, FieldType.int) ∈ kT cI cL cA := List.mem_of_getElem? (i := 0) rfl
theorem kT_L (cI cL cA : ClassId) : (cL, FieldType.long) ∈ kT cI cL cA := List.mem_of_getElem? (i := 1) rfl
theorem kT_A (cI cL cA : ClassId) : (cA, FieldType.array .int) ∈ kT cI cL cA := List.mem_of_getElem? (i := 2) rfl
theorem kw_I : Cond.arrayClass .int ∈ zw := (zw_t (i := 60) (by decide +kernel) rfl)
theorem kw_L : Cond.arrayClass .long ∈ zw := (zw_t (i := 1199) (by decide +kernel) rfl)
theorem kw_o1 : Cond.instanceMethod objectInit ∈ zw := (zw_t (i := 26) (by decide +kernel) rfl)
theorem kw_o2 : Cond.code objectInit ⟨#[0xb1]⟩ 1 none ∈ zw := (zw_t (i := 27) (by decide +kernel) rfl)
theorem kw_s : "[" ++ (FieldType.array .int).toString = "[[I" := by decide +kernel
def kpX5 (cI : ClassId) (h0 : Nat) (w : va_W) : Prop := ∃ (q1 : Nat) (q2 : Nat) (q3 : Nat) (q4 : Nat) (q5 : Nat), w = [(h0, .inr (5, [.ref q1, .ref q2, .ref q3, .ref q4, .ref q5, .int 0, .int 0])), (q1, .inl (cI, 8, .inl (fun _ => 0))), (q2, .inl (cI, 8, .inl (fun _ => 0))), (q3, .inl (cI, 8, .inl (fun _ => 0))), (q4, .inl (cI, 200, .inl (fun _ => 0))), (q5, .inl (cI, 200, .inl (fun _ => 0)))]
set_option maxHeartbeats 4000000 in
set_option maxRecDepth 100000 in
theorem m_X5 (l : Launch) (D : va_G) (cI cL cA : ClassId) (h0 : Nat) : kMet l D (kT cI cL cA) 1 MX5_init yX5_init [.ref h0] [(h0, .inr (5, [.null, .null, .null, .null, .null, .int 0, .int 0]))] 5 424 (kpX5 cI h0) := by
  refine kmet (lv := [(0, .ref h0)]) (by decide +kernel) rfl rfl (Nat.le_of_ble_eq_true rfl) rfl (fun A => ?_)
  refine kx_al (i := 0) 0 rfl rfl (by decide) dX5_init_0 rfl ⟨_, rfl⟩ ?_
  refine kx_obj (zw_t (i := 33) (by decide +kernel) rfl) kw_o1 kw_o2 (by decide) dX5_init_1 rfl ?_
  refine kx_al (i := 0) 0 rfl rfl (by decide) dX5_init_4 rfl ⟨_, rfl⟩ ?_
  refine kx_bip (x := 8) (by decide) dX5_init_5 rfl ?_
  refine kx_newa (N := 8) (kT_I cI cL cA) kw_I (by decide) (by decide) (by decide) (Nat.le_of_ble_eq_true rfl) (Nat.le_of_ble_eq_true rfl) dX5_init_7 rfl (fun q1 => ?_)
  refine kx_putF (i := 0) (ws' := [(h0, .inr (5, [.ref q1, .null, .null, .null, .null, .int 0, .int 0])), (q1, .inl (cI, 8, .inl (fun _ => 0)))]) ffX5_9 rfl rfl rfl (by simp) dX5_init_9 rfl rfl ?_
  refine kx_al (i := 0) 0 rfl rfl (by decide) dX5_init_12 rfl ⟨_, rfl⟩ ?_
  refine kx_bip (x := 8) (by decide) dX5_init_13 rfl ?_
  refine kx_newa (N := 8) (kT_I cI cL cA) kw_I (by decide) (by decide) (by decide) (Nat.le_of_ble_eq_true rfl) (Nat.le_of_ble_eq_true rfl) dX5_init_15 rfl (fun q2 => ?_)
  refine kx_putF (i := 0) (ws' := [(h0, .inr (5, [.ref q1, .ref q2, .null, .null, .null, .int 0, .int 0])), (q1, .inl (cI, 8, .inl (fun _ => 0))), (q2, .inl (cI, 8, .inl (fun _ => 0)))]) ffX5_15 rfl rfl rfl (by simp) dX5_init_17 rfl rfl ?_
  refine kx_al (i := 0) 0 rfl rfl (by decide) dX5_init_20 rfl ⟨_, rfl⟩ ?_
  refine kx_bip (x := 8) (by decide) dX5_init_21 rfl ?_
  refine kx_newa (N := 8) (kT_I cI cL cA) kw_I (by decide) (by decide) (by decide) (Nat.le_of_ble_eq_true rfl) (Nat.le_of_ble_eq_true rfl) dX5_init_23 rfl (fun q3 => ?_)
  refine kx_putF (i := 0) (ws' := [(h0, .inr (5, [.ref q1, .ref q2, .ref q3, .null, .null, .int 0, .int 0])), (q1, .inl (cI, 8, .inl (fun _ => 0))), (q2, .inl (cI, 8, .inl (fun _ => 0))), (q3, .inl (cI, 8, .inl (fun _ => 0)))]) ffX5_18 rfl rfl rfl (by simp) dX5_init_25 rfl rfl ?_
  refine kx_al (i := 0) 0 rfl rfl (by decide) dX5_init_28 rfl ⟨_, rfl⟩ ?_
  refine kx_sip (x := 200) (by decide) dX5_init_29 rfl ?_
  refine kx_newa (N := 200) (kT_I cI cL cA) kw_I (by decide) (by decide) (by decide) (Nat.le_of_ble_eq_true rfl) (Nat.le_of_ble_eq_true rfl) dX5_init_32 rfl (fun q4 => ?_)
  refine kx_putF (i := 0) (ws' := [(h0, .inr (5, [.ref q1, .ref q2, .ref q3, .ref q4, .null, .int 0, .int 0])), (q1, .inl (cI, 8, .inl (fun _ => 0))), (q2, .inl (cI, 8, .inl (fun _ => 0))), (q3, .inl (cI, 8, .inl (fun _ => 0))), (q4, .inl (cI, 200, .inl (fun _ => 0)))]) ffX5_21 rfl rfl rfl (by simp) dX5_init_34 rfl rfl ?_
  refine kx_al (i := 0) 0 rfl rfl (by decide) dX5_init_37 rfl ⟨_, rfl⟩ ?_
  refine kx_sip (x := 200) (by decide) dX5_init_38 rfl ?_
  refine kx_newa (N := 200) (kT_I cI cL cA) kw_I (by decide) (by decide) (by decide) (Nat.le_of_ble_eq_true rfl) (Nat.le_of_ble_eq_true rfl) dX5_init_41 rfl (fun q5 => ?_)
  refine kx_putF (i := 0) (ws' := [(h0, .inr (5, [.ref q1, .ref q2, .ref q3, .ref q4, .ref q5, .int 0, .int 0])), (q1, .inl (cI, 8, .inl (fun _ => 0))), (q2, .inl (cI, 8, .inl (fun _ => 0))), (q3, .inl (cI, 8, .inl (fun _ => 0))), (q4, .inl (cI, 200, .inl (fun _ => 0))), (q5, .inl (cI, 200, .inl (fun _ => 0)))]) ffX5_24 rfl rfl rfl (by simp) dX5_init_43 rfl rfl ?_
  exact kx_ret rfl rfl rfl dX5_init_46 ⟨q1, q2, q3, q4, q5, rfl⟩
theorem kcX4_24 : kCls RX4 24 5 7 [.null, .null, .null, .null, .null, .int 0, .int 0] := ⟨RX5, TX5, tyX5, rfl, uX5, tyX5_ok, (zw_t (i := 67) (by decide +kernel) rfl), (zw_t (i := 29) (by decide +kernel) rfl), (zw_t (i := 2) (by decide +kernel) rfl), fun j hj => match j, hj with | 0, _ => rfl | 1, _ => rfl | 2, _ => rfl | 3, _ => rfl | 4, _ => rfl | 5, _ => rfl | 6, _ => rfl | j + 7, h => absurd h (by omega)⟩
def kpX4 (cI : ClassId) (h0 : Nat) (w : va_W) : Prop := ∃ (q1 : Nat) (q2 : Nat) (q3 : Nat) (q4 : Nat) (o5 : Nat) (w5 : va_W), w = (h0, .inr (4, [.ref q1, .ref q2, .ref q3, .ref q4, .ref o5, .int 0, .int 0, .int 0])) :: ([(q1, .inl (cI, 200, .inl (fun _ => 0))), (q2, .inl (cI, 201, .inl (fun _ => 0))), (q3, .inl (cI, 201, .inl (fun _ => 0))), (q4, .inl (cI, 201, .inl (fun _ => 0)))] ++ w5) ∧ kpX5 cI o5 w5
set_option maxHeartbeats 4000000 in
set_option maxRecDepth 100000 in
theorem m_X4 (l : Launch) (D : va_G) (cI cL cA : ClassId) (h0 : Nat) : kMet l D (kT cI cL cA) 2 MX4_init yX4_init [.ref h0] [(h0, .inr (4, [.null, .null, .null, .null, .null, .int 0, .int 0, .int 0]))] 10 1234 (kpX4 cI h0) := by
  refine kmet (lv := [(0, .ref h0)]) (by decide +kernel) rfl rfl (Nat.le_of_ble_eq_true rfl) rfl (fun A => ?_)
  refine kx_al (i := 0) 0 rfl rfl (by decide) dX4_init_0 rfl ⟨_, rfl⟩ ?_
  refine kx_obj (zw_t (i := 66) (by decide +kernel) rfl) kw_o1 kw_o2 (by decide) dX4_init_1 rfl ?_
  refine kx_al (i := 0) 0 rfl rfl (by decide) dX4_init_4 rfl ⟨_, rfl⟩ ?_
  refine kx_sip (x := 200) (by decide) dX4_init_5 rfl ?_
  refine kx_newa (N := 200) (kT_I cI cL cA) kw_I (by decide) (by decide) (by decide) (Nat.le_of_ble_eq_true rfl) (Nat.le_of_ble_eq_true rfl) dX4_init_8 rfl (fun q1 => ?_)
  refine kx_putF (i := 0) (ws' := [(h0, .inr (4, [.ref q1, .null, .null, .null, .null, .int 0, .int 0, .int 0])), (q1, .inl (cI, 200, .inl (fun _ => 0)))]) ffX4_11 rfl rfl rfl (by simp) dX4_init_10 rfl rfl ?_
  refine kx_al (i := 0) 0 rfl rfl (by decide) dX4_init_13 rfl ⟨_, rfl⟩ ?_
  refine kx_sip (x := 201) (by decide) dX4_init_14 rfl ?_
  refine kx_newa (N := 201) (kT_I cI cL cA) kw_I (by decide) (by decide) (by decide) (Nat.le_of_ble_eq_true rfl) (Nat.le_of_ble_eq_true rfl) dX4_init_17 rfl (fun q2 => ?_)
  refine kx_putF (i := 0) (ws' := [(h0, .inr (4, [.ref q1, .ref q2, .null, .null, .null, .int 0, .int 0, .int 0])), (q1, .inl (cI, 200, .inl (fun _ => 0))), (q2, .inl (cI, 201, .inl (fun _ => 0)))]) ffX4_15 rfl rfl rfl (by simp) dX4_init_19 rfl rfl ?_
  refine kx_al (i := 0) 0 rfl rfl (by decide) dX4_init_22 rfl ⟨_, rfl⟩ ?_
  refine kx_sip (x := 201) (by decide) dX4_init_23 rfl ?_
  refine kx_newa (N := 201) (kT_I cI cL cA) kw_I (by decide) (by decide) (by decide) (Nat.le_of_ble_eq_true rfl) (Nat.le_of_ble_eq_true rfl) dX4_init_26 rfl (fun q3 => ?_)
  refine kx_putF (i := 0) (ws' := [(h0, .inr (4, [.ref q1, .ref q2, .ref q3, .null, .null, .int 0, .int 0, .int 0])), (q1, .inl (cI, 200, .inl (fun _ => 0))), (q2, .inl (cI, 201, .inl (fun _ => 0))), (q3, .inl (cI, 201, .inl (fun _ => 0)))]) ffX4_18 rfl rfl rfl (by simp) dX4_init_28 rfl rfl ?_
  refine kx_al (i := 0) 0 rfl rfl (by decide) dX4_init_31 rfl ⟨_, rfl⟩ ?_
  refine kx_sip (x := 201) (by decide) dX4_init_32 rfl ?_
  refine kx_newa (N := 201) (kT_I cI cL cA) kw_I (by decide) (by decide) (by decide) (Nat.le_of_ble_eq_true rfl) (Nat.le_of_ble_eq_true rfl) dX4_init_35 rfl (fun q4 => ?_)
  refine kx_putF (i := 0) (ws' := [(h0, .inr (4, [.ref q1, .ref q2, .ref q3, .ref q4, .null, .int 0, .int 0, .int 0])), (q1, .inl (cI, 200, .inl (fun _ => 0))), (q2, .inl (cI, 201, .inl (fun _ => 0))), (q3, .inl (cI, 201, .inl (fun _ => 0))), (q4, .inl (cI, 201, .inl (fun _ => 0)))]) ffX4_21 rfl rfl rfl (by simp) dX4_init_37 rfl rfl ?_
  refine kx_al (i := 0) 0 rfl rfl (by decide) dX4_init_40 rfl ⟨_, rfl⟩ ?_
  refine kx_new kcX4_24 (Nat.le_of_ble_eq_true rfl) (Nat.le_of_ble_eq_true rfl) dX4_init_41 rfl (fun o5 => ?_)
  refine kx_dup rfl dX4_init_44 rfl ?_
  refine kx_call (as := []) (rest := [.ref o5, .ref h0]) (wr := [(h0, .inr (4, [.ref q1, .ref q2, .ref q3, .ref q4, .null, .int 0, .int 0, .int 0])), (q1, .inl (cI, 200, .inl (fun _ => 0))), (q2, .inl (cI, 201, .inl (fun _ => 0))), (q3, .inl (cI, 201, .inl (fun _ => 0))), (q4, .inl (cI, 201, .inl (fun _ => 0)))]) (m_X5 l D cI cL cA o5) kX5_init rfl (zw_t (i := 31) (by decide +kernel) rfl) rfl rfl (Or.inr ⟨_, List.mem_of_getElem? (i := 2) rfl⟩) rfl (by decide) rfl (Nat.le_of_ble_eq_true rfl) (Nat.le_of_ble_eq_true rfl) (Nat.le_of_ble_eq_true rfl) dX4_init_45 rfl (fun w5 hw5 => ?_)
  refine kx_putF (i := 0) (ws' := (h0, .inr (4, [.ref q1, .ref q2, .ref q3, .ref q4, .ref o5, .int 0, .int 0, .int 0])) :: ([(q1, .inl (cI, 200, .inl (fun _ => 0))), (q2, .inl (cI, 201, .inl (fun _ => 0))), (q3, .inl (cI, 201, .inl (fun _ => 0))), (q4, .inl (cI, 201, .inl (fun _ => 0)))] ++ w5)) ffX4_27 rfl rfl rfl (by simp) dX4_init_48 rfl rfl ?_
  exact kx_ret rfl rfl rfl dX4_init_51 ⟨q1, q2, q3, q4, o5, w5, rfl, hw5⟩
def kpX8 (cI : ClassId) (h0 : Nat) (a1 : Nat) (w : va_W) : Prop := ∃ (q1 : Nat) (q2 : Nat) (q3 : Nat) (q4 : Nat) (q5 : Nat) (q6 : Nat), w = [(h0, .inr (8, [.ref a1, .ref q1, .ref q2, .ref q3, .ref q4, .ref q5, .ref q6, .int 0, .int 0, .int 0, .int 0, .int 1])), (q1, .inl (cI, 6, .inl (fun _ => 0))), (q2, .inl (cI, 6, .inl (fun _ => 0))), (q3, .inl (cI, 6, .inl (fun _ => 0))), (q4, .inl (cI, 6, .inl (fun _ => 0))), (q5, .inl (cI, 16, .inl (fun _ => 0))), (q6, .inl (cI, 5, .inl (fun _ => 0)))]
set_option maxHeartbeats 4000000 in
set_option maxRecDepth 100000 in
theorem m_X8 (l : Launch) (D : va_G) (cI cL cA : ClassId) (h0 : Nat) (a1 : Nat) : kMet l D (kT cI cL cA) 1 MX8_init yX8_init [.ref h0, .ref a1] [(h0, .inr (8, [.null, .null, .null, .null, .null, .null, .null, .int 0, .int 0, .int 0, .int 0, .int 0]))] 6 45 (kpX8 cI h0 a1) := by
  refine kmet (lv := [(0, .ref h0), (1, .ref a1)]) (by decide +kernel) rfl rfl (Nat.le_of_ble_eq_true rfl) rfl (fun A => ?_)
  refine kx_al (i := 0) 0 rfl rfl (by decide) dX8_init_0 rfl ⟨_, rfl⟩ ?_
  refine kx_obj (zw_t (i := 100) (by decide +kernel) rfl) kw_o1 kw_o2 (by decide) dX8_init_1 rfl ?_
  refine kx_al (i := 0) 0 rfl rfl (by decide) dX8_init_4 rfl ⟨_, rfl⟩ ?_
  refine kx_bip (x := 6) (by decide) dX8_init_5 rfl ?_
  refine kx_newa (N := 6) (kT_I cI cL cA) kw_I (by decide) (by decide) (by decide) (Nat.le_of_ble_eq_true rfl) (Nat.le_of_ble_eq_true rfl) dX8_init_7 rfl (fun q1 => ?_)
  refine kx_putF (i := 0) (ws' := [(h0, .inr (8, [.null, .ref q1, .null, .null, .null, .null, .null, .int 0, .int 0, .int 0, .int 0, .int 0])), (q1, .inl (cI, 6, .inl (fun _ => 0)))]) ffX8_9 rfl rfl rfl (by simp) dX8_init_9 rfl rfl ?_
  refine kx_al (i := 0) 0 rfl rfl (by decide) dX8_init_12 rfl ⟨_, rfl⟩ ?_
  refine kx_bip (x := 6) (by decide) dX8_init_13 rfl ?_
  refine kx_newa (N := 6) (kT_I cI cL cA) kw_I (by decide) (by decide) (by decide) (Nat.le_of_ble_eq_true rfl) (Nat.le_of_ble_eq_true rfl) dX8_init_15 rfl (fun q2 => ?_)
  refine kx_putF (i := 0) (ws' := [(h0, .inr (8, [.null, .ref q1, .ref q2, .null, .null, .null, .null, .int 0, .int 0, .int 0, .int 0, .int 0])), (q1, .inl (cI, 6, .inl (fun _ => 0))), (q2, .inl (cI, 6, .inl (fun _ => 0)))]) ffX8_15 rfl rfl rfl (by simp) dX8_init_17 rfl rfl ?_
  refine kx_al (i := 0) 0 rfl rfl (by decide) dX8_init_20 rfl ⟨_, rfl⟩ ?_
  refine kx_bip (x := 6) (by decide) dX8_init_21 rfl ?_
  refine kx_newa (N := 6) (kT_I cI cL cA) kw_I (by decide) (by decide) (by decide) (Nat.le_of_ble_eq_true rfl) (Nat.le_of_ble_eq_true rfl) dX8_init_23 rfl (fun q3 => ?_)
  refine kx_putF (i := 0) (ws' := [(h0, .inr (8, [.null, .ref q1, .ref q2, .ref q3, .null, .null, .null, .int 0, .int 0, .int 0, .int 0, .int 0])), (q1, .inl (cI, 6, .inl (fun _ => 0))), (q2, .inl (cI, 6, .inl (fun _ => 0))), (q3, .inl (cI, 6, .inl (fun _ => 0)))]) ffX8_18 rfl rfl rfl (by simp) dX8_init_25 rfl rfl ?_
  refine kx_al (i := 0) 0 rfl rfl (by decide) dX8_init_28 rfl ⟨_, rfl⟩ ?_
  refine kx_bip (x := 6) (by decide) dX8_init_29 rfl ?_
  refine kx_newa (N := 6) (kT_I cI cL cA) kw_I (by decide) (by decide) (by decide) (Nat.le_of_ble_eq_true rfl) (Nat.le_of_ble_eq_true rfl) dX8_init_31 rfl (fun q4 => ?_)
  refine kx_putF (i := 0) (ws' := [(h0, .inr (8, [.null, .ref q1, .ref q2, .ref q3, .ref q4, .null, .null, .int 0, .int 0, .int 0, .int 0, .int 0])), (q1, .inl (cI, 6, .inl (fun _ => 0))), (q2, .inl (cI, 6, .inl (fun _ => 0))), (q3, .inl (cI, 6, .inl (fun _ => 0))), (q4, .inl (cI, 6, .inl (fun _ => 0)))]) ffX8_21 rfl rfl rfl (by simp) dX8_init_33 rfl rfl ?_
  refine kx_al (i := 0) 0 rfl rfl (by decide) dX8_init_36 rfl ⟨_, rfl⟩ ?_
  refine kx_bip (x := 16) (by decide) dX8_init_37 rfl ?_
  refine kx_newa (N := 16) (kT_I cI cL cA) kw_I (by decide) (by decide) (by decide) (Nat.le_of_ble_eq_true rfl) (Nat.le_of_ble_eq_true rfl) dX8_init_39 rfl (fun q5 => ?_)
  refine kx_putF (i := 0) (ws' := [(h0, .inr (8, [.null, .ref q1, .ref q2, .ref q3, .ref q4, .ref q5, .null, .int 0, .int 0, .int 0, .int 0, .int 0])), (q1, .inl (cI, 6, .inl (fun _ => 0))), (q2, .inl (cI, 6, .inl (fun _ => 0))), (q3, .inl (cI, 6, .inl (fun _ => 0))), (q4, .inl (cI, 6, .inl (fun _ => 0))), (q5, .inl (cI, 16, .inl (fun _ => 0)))]) ffX8_24 rfl rfl rfl (by simp) dX8_init_41 rfl rfl ?_
  refine kx_al (i := 0) 0 rfl rfl (by decide) dX8_init_44 rfl ⟨_, rfl⟩ ?_
  refine kx_ic (x := 5) (by decide) dX8_init_45 rfl ?_
  refine kx_newa (N := 5) (kT_I cI cL cA) kw_I (by decide) (by decide) (by decide) (Nat.le_of_ble_eq_true rfl) (Nat.le_of_ble_eq_true rfl) dX8_init_46 rfl (fun q6 => ?_)
  refine kx_putF (i := 0) (ws' := [(h0, .inr (8, [.null, .ref q1, .ref q2, .ref q3, .ref q4, .ref q5, .ref q6, .int 0, .int 0, .int 0, .int 0, .int 0])), (q1, .inl (cI, 6, .inl (fun _ => 0))), (q2, .inl (cI, 6, .inl (fun _ => 0))), (q3, .inl (cI, 6, .inl (fun _ => 0))), (q4, .inl (cI, 6, .inl (fun _ => 0))), (q5, .inl (cI, 16, .inl (fun _ => 0))), (q6, .inl (cI, 5, .inl (fun _ => 0)))]) ffX8_29 rfl rfl rfl (by simp) dX8_init_48 rfl rfl ?_
  refine kx_al (i := 0) 0 rfl rfl (by decide) dX8_init_51 rfl ⟨_, rfl⟩ ?_
  refine kx_ic (x := 1) (by decide) dX8_init_52 rfl ?_
  refine kx_put (i := 0) (ws' := [(h0, .inr (8, [.null, .ref q1, .ref q2, .ref q3, .ref q4, .ref q5, .ref q6, .int 0, .int 0, .int 0, .int 0, .int 1])), (q1, .inl (cI, 6, .inl (fun _ => 0))), (q2, .inl (cI, 6, .inl (fun _ => 0))), (q3, .inl (cI, 6, .inl (fun _ => 0))), (q4, .inl (cI, 6, .inl (fun _ => 0))), (q5, .inl (cI, 16, .inl (fun _ => 0))), (q6, .inl (cI, 5, .inl (fun _ => 0)))]) fpX8_32 rfl rfl rfl (by simp) dX8_init_53 rfl rfl ?_
  refine kx_al (i := 0) 0 rfl rfl (by decide) dX8_init_56 rfl ⟨_, rfl⟩ ?_
  refine kx_al (i := 1) 1 rfl rfl (by decide) dX8_init_57 rfl ⟨_, rfl⟩ ?_
  refine kx_putF (i := 0) (ws' := [(h0, .inr (8, [.ref a1, .ref q1, .ref q2, .ref q3, .ref q4, .ref q5, .ref q6, .int 0, .int 0, .int 0, .int 0, .int 1])), (q1, .inl (cI, 6, .inl (fun _ => 0))), (q2, .inl (cI, 6, .inl (fun _ => 0))), (q3, .inl (cI, 6, .inl (fun _ => 0))), (q4, .inl (cI, 6, .inl (fun _ => 0))), (q5, .inl (cI, 16, .inl (fun _ => 0))), (q6, .inl (cI, 5, .inl (fun _ => 0)))]) ffX8_36 rfl rfl rfl (by simp) dX8_init_58 rfl rfl ?_
  exact kx_ret rfl rfl rfl dX8_init_61 ⟨q1, q2, q3, q4, q5, q6, rfl⟩
def kpX1 (cI : ClassId) (h0 : Nat) (w : va_W) : Prop := ∃ (q1 : Nat) (q2 : Nat) (q3 : Nat) (q4 : Nat), w = [(h0, .inr (1, [.ref q1, .ref q2, .ref q3, .ref q4, .int 0, .int 0, .int 0])), (q1, .inl (cI, 6, .inl (fun _ => 0))), (q2, .inl (cI, 6, .inl (fun _ => 0))), (q3, .inl (cI, 6, .inl (fun _ => 0))), (q4, .inl (cI, 6, .inl (fun _ => 0)))]
set_option maxHeartbeats 4000000 in
set_option maxRecDepth 100000 in
theorem m_X1 (l : Launch) (D : va_G) (cI cL cA : ClassId) (h0 : Nat) : kMet l D (kT cI cL cA) 1 MX1_init yX1_init [.ref h0] [(h0, .inr (1, [.null, .null, .null, .null, .int 0, .int 0, .int 0]))] 4 24 (kpX1 cI h0) := by
  refine kmet (lv := [(0, .ref h0)]) (by decide +kernel) rfl rfl (Nat.le_of_ble_eq_true rfl) rfl (fun A => ?_)
  refine kx_al (i := 0) 0 rfl rfl (by decide) dX1_init_0 rfl ⟨_, rfl⟩ ?_
  refine kx_obj (zw_t (i := 163) (by decide +kernel) rfl) kw_o1 kw_o2 (by decide) dX1_init_1 rfl ?_
  refine kx_al (i := 0) 0 rfl rfl (by decide) dX1_init_4 rfl ⟨_, rfl⟩ ?_
  refine kx_bip (x := 6) (by decide) dX1_init_5 rfl ?_
  refine kx_newa (N := 6) (kT_I cI cL cA) kw_I (by decide) (by decide) (by decide) (Nat.le_of_ble_eq_true rfl) (Nat.le_of_ble_eq_true rfl) dX1_init_7 rfl (fun q1 => ?_)
  refine kx_putF (i := 0) (ws' := [(h0, .inr (1, [.ref q1, .null, .null, .null, .int 0, .int 0, .int 0])), (q1, .inl (cI, 6, .inl (fun _ => 0)))]) ffX1_9 rfl rfl rfl (by simp) dX1_init_9 rfl rfl ?_
  refine kx_al (i := 0) 0 rfl rfl (by decide) dX1_init_12 rfl ⟨_, rfl⟩ ?_
  refine kx_bip (x := 6) (by decide) dX1_init_13 rfl ?_
  refine kx_newa (N := 6) (kT_I cI cL cA) kw_I (by decide) (by decide) (by decide) (Nat.le_of_ble_eq_true rfl) (Nat.le_of_ble_eq_true rfl) dX1_init_15 rfl (fun q2 => ?_)
  refine kx_putF (i := 0) (ws' := [(h0, .inr (1, [.ref q1, .ref q2, .null, .null, .int 0, .int 0, .int 0])), (q1, .inl (cI, 6, .inl (fun _ => 0))), (q2, .inl (cI, 6, .inl (fun _ => 0)))]) ffX1_15 rfl rfl rfl (by simp) dX1_init_17 rfl rfl ?_
  refine kx_al (i := 0) 0 rfl rfl (by decide) dX1_init_20 rfl ⟨_, rfl⟩ ?_
  refine kx_bip (x := 6) (by decide) dX1_init_21 rfl ?_
  refine kx_newa (N := 6) (kT_I cI cL cA) kw_I (by decide) (by decide) (by decide) (Nat.le_of_ble_eq_true rfl) (Nat.le_of_ble_eq_true rfl) dX1_init_23 rfl (fun q3 => ?_)
  refine kx_putF (i := 0) (ws' := [(h0, .inr (1, [.ref q1, .ref q2, .ref q3, .null, .int 0, .int 0, .int 0])), (q1, .inl (cI, 6, .inl (fun _ => 0))), (q2, .inl (cI, 6, .inl (fun _ => 0))), (q3, .inl (cI, 6, .inl (fun _ => 0)))]) ffX1_18 rfl rfl rfl (by simp) dX1_init_25 rfl rfl ?_
  refine kx_al (i := 0) 0 rfl rfl (by decide) dX1_init_28 rfl ⟨_, rfl⟩ ?_
  refine kx_bip (x := 6) (by decide) dX1_init_29 rfl ?_
  refine kx_newa (N := 6) (kT_I cI cL cA) kw_I (by decide) (by decide) (by decide) (Nat.le_of_ble_eq_true rfl) (Nat.le_of_ble_eq_true rfl) dX1_init_31 rfl (fun q4 => ?_)
  refine kx_putF (i := 0) (ws' := [(h0, .inr (1, [.ref q1, .ref q2, .ref q3, .ref q4, .int 0, .int 0, .int 0])), (q1, .inl (cI, 6, .inl (fun _ => 0))), (q2, .inl (cI, 6, .inl (fun _ => 0))), (q3, .inl (cI, 6, .inl (fun _ => 0))), (q4, .inl (cI, 6, .inl (fun _ => 0)))]) ffX1_21 rfl rfl rfl (by simp) dX1_init_33 rfl rfl ?_
  exact kx_ret rfl rfl rfl dX1_init_36 ⟨q1, q2, q3, q4, rfl⟩
def kpX2 (cI : ClassId) (h0 : Nat) (a1 : Nat) (a2 : Nat) (w : va_W) : Prop := ∃ (q1 : Nat), w = [(h0, .inr (2, [.ref a1, .ref a2, .ref q1])), (q1, .inl (cI, 16, .inl (fun _ => 0)))]
set_option maxHeartbeats 4000000 in
set_option maxRecDepth 100000 in
theorem m_X2 (l : Launch) (D : va_G) (cI cL cA : ClassId) (h0 : Nat) (a1 : Nat) (a2 : Nat) : kMet l D (kT cI cL cA) 1 MX2_init yX2_init [.ref h0, .ref a1, .ref a2] [(h0, .inr (2, [.null, .null, .null]))] 1 16 (kpX2 cI h0 a1 a2) := by
  refine kmet (lv := [(0, .ref h0), (1, .ref a1), (2, .ref a2)]) (by decide +kernel) rfl rfl (Nat.le_of_ble_eq_true rfl) rfl (fun A => ?_)
  refine kx_al (i := 0) 0 rfl rfl (by decide) dX2_init_0 rfl ⟨_, rfl⟩ ?_
  refine kx_obj (zw_t (i := 194) (by decide +kernel) rfl) kw_o1 kw_o2 (by decide) dX2_init_1 rfl ?_
  refine kx_al (i := 0) 0 rfl rfl (by decide) dX2_init_4 rfl ⟨_, rfl⟩ ?_
  refine kx_bip (x := 16) (by decide) dX2_init_5 rfl ?_
  refine kx_newa (N := 16) (kT_I cI cL cA) kw_I (by decide) (by decide) (by decide) (Nat.le_of_ble_eq_true rfl) (Nat.le_of_ble_eq_true rfl) dX2_init_7 rfl (fun q1 => ?_)
  refine kx_putF (i := 0) (ws' := [(h0, .inr (2, [.null, .null, .ref q1])), (q1, .inl (cI, 16, .inl (fun _ => 0)))]) ffX2_9 rfl rfl rfl (by simp) dX2_init_9 rfl rfl ?_
  refine kx_al (i := 0) 0 rfl rfl (by decide) dX2_init_12 rfl ⟨_, rfl⟩ ?_
  refine kx_al (i := 1) 1 rfl rfl (by decide) dX2_init_13 rfl ⟨_, rfl⟩ ?_
  refine kx_putF (i := 0) (ws' := [(h0, .inr (2, [.ref a1, .null, .ref q1])), (q1, .inl (cI, 16, .inl (fun _ => 0)))]) ffX2_15 rfl rfl rfl (by simp) dX2_init_14 rfl rfl ?_
  refine kx_al (i := 0) 0 rfl rfl (by decide) dX2_init_17 rfl ⟨_, rfl⟩ ?_
  refine kx_al (i := 2) 2 rfl rfl (by decide) dX2_init_18 rfl ⟨_, rfl⟩ ?_
  refine kx_putF (i := 0) (ws' := [(h0, .inr (2, [.ref a1, .ref a2, .ref q1])), (q1, .inl (cI, 16, .inl (fun _ => 0)))]) ffX2_19 rfl rfl rfl (by simp) dX2_init_19 rfl rfl ?_
  exact kx_ret rfl rfl rfl dX2_init_22 ⟨q1, rfl⟩
def kpX0 (cI : ClassId) (cA : ClassId) (h0 : Nat) (a1 : Nat) (a2 : Nat) (w : va_W) : Prop := ∃ (q1 : Nat) (r2 : Nat → Nat) (q3 : Nat) (q4 : Nat), w = [(h0, .inr (0, [.ref a1, .ref a2, .ref q1, .ref q3, .ref q4, .int 0, .int 0, .int 0, .int 0])), (q1, .inl (cA, 4, .inr (.inr (.inr (.inr (fun i => if i < 4 then some (r2 i) else none)))))), (r2 0, .inl (cI, 6, .inl (fun _ => 0))), (r2 1, .inl (cI, 6, .inl (fun _ => 0))), (r2 2, .inl (cI, 6, .inl (fun _ => 0))), (r2 3, .inl (cI, 6, .inl (fun _ => 0))), (q3, .inl (cI, 4, .inl (fun _ => 0))), (q4, .inl (cI, 4, .inl (fun _ => 0)))]
set_option maxHeartbeats 4000000 in
set_option maxRecDepth 100000 in
theorem m_X0 (l : Launch) (D : va_G) (cI cL cA : ClassId) (h0 : Nat) (a1 : Nat) (a2 : Nat) : kMet l D (kT cI cL cA) 1 MX0_init yX0_init [.ref h0, .ref a1, .ref a2] [(h0, .inr (0, [.null, .null, .null, .null, .null, .int 0, .int 0, .int 0, .int 0]))] 7 36 (kpX0 cI cA h0 a1 a2) := by
  refine kmet (lv := [(0, .ref h0), (1, .ref a1), (2, .ref a2)]) (by decide +kernel) rfl rfl (Nat.le_of_ble_eq_true rfl) rfl (fun A => ?_)
  refine kx_al (i := 0) 0 rfl rfl (by decide) dX0_init_0 rfl ⟨_, rfl⟩ ?_
  refine kx_obj (zw_t (i := 210) (by decide +kernel) rfl) kw_o1 kw_o2 (by decide) dX0_init_1 rfl ?_
  refine kx_al (i := 0) 0 rfl rfl (by decide) dX0_init_4 rfl ⟨_, rfl⟩ ?_
  refine kx_ic (x := 4) (by decide) dX0_init_5 rfl ?_
  refine kx_bip (x := 6) (by decide) dX0_init_6 rfl ?_
  refine kx_mna (N' := 4) (K' := 6) (kT_I cI cL cA) (kT_A cI cL cA) (by rw [kw_s]; exact (zw_t (i := 211) (by decide +kernel) rfl)) kw_I (by decide) (by decide) (by decide) (by decide) (by decide) (by decide) (Nat.le_of_ble_eq_true rfl) (Nat.le_of_ble_eq_true rfl) dX0_init_8 rfl (fun q1 r2 => ?_)
  refine kx_putF (i := 0) (ws' := [(h0, .inr (0, [.null, .null, .ref q1, .null, .null, .int 0, .int 0, .int 0, .int 0])), (q1, .inl (cA, 4, .inr (.inr (.inr (.inr (fun i => if i < 4 then some (r2 i) else none)))))), (r2 0, .inl (cI, 6, .inl (fun _ => 0))), (r2 1, .inl (cI, 6, .inl (fun _ => 0))), (r2 2, .inl (cI, 6, .inl (fun _ => 0))), (r2 3, .inl (cI, 6, .inl (fun _ => 0)))]) ffX0_11 rfl rfl rfl (by simp) dX0_init_12 rfl rfl ?_
  refine kx_al (i := 0) 0 rfl rfl (by decide) dX0_init_15 rfl ⟨_, rfl⟩ ?_
  refine kx_ic (x := 4) (by decide) dX0_init_16 rfl ?_
  refine kx_newa (N := 4) (kT_I cI cL cA) kw_I (by decide) (by decide) (by decide) (Nat.le_of_ble_eq_true rfl) (Nat.le_of_ble_eq_true rfl) dX0_init_17 rfl (fun q3 => ?_)
  refine kx_putF (i := 0) (ws' := [(h0, .inr (0, [.null, .null, .ref q1, .ref q3, .null, .int 0, .int 0, .int 0, .int 0])), (q1, .inl (cA, 4, .inr (.inr (.inr (.inr (fun i => if i < 4 then some (r2 i) else none)))))), (r2 0, .inl (cI, 6, .inl (fun _ => 0))), (r2 1, .inl (cI, 6, .inl (fun _ => 0))), (r2 2, .inl (cI, 6, .inl (fun _ => 0))), (r2 3, .inl (cI, 6, .inl (fun _ => 0))), (q3, .inl (cI, 4, .inl (fun _ => 0)))]) ffX0_16 rfl rfl rfl (by simp) dX0_init_19 rfl rfl ?_
  refine kx_al (i := 0) 0 rfl rfl (by decide) dX0_init_22 rfl ⟨_, rfl⟩ ?_
  refine kx_ic (x := 4) (by decide) dX0_init_23 rfl ?_
  refine kx_newa (N := 4) (kT_I cI cL cA) kw_I (by decide) (by decide) (by decide) (Nat.le_of_ble_eq_true rfl) (Nat.le_of_ble_eq_true rfl) dX0_init_24 rfl (fun q4 => ?_)
  refine kx_putF (i := 0) (ws' := [(h0, .inr (0, [.null, .null, .ref q1, .ref q3, .ref q4, .int 0, .int 0, .int 0, .int 0])), (q1, .inl (cA, 4, .inr (.inr (.inr (.inr (fun i => if i < 4 then some (r2 i) else none)))))), (r2 0, .inl (cI, 6, .inl (fun _ => 0))), (r2 1, .inl (cI, 6, .inl (fun _ => 0))), (r2 2, .inl (cI, 6, .inl (fun _ => 0))), (r2 3, .inl (cI, 6, .inl (fun _ => 0))), (q3, .inl (cI, 4, .inl (fun _ => 0))), (q4, .inl (cI, 4, .inl (fun _ => 0)))]) ffX0_20 rfl rfl rfl (by simp) dX0_init_26 rfl rfl ?_
  refine kx_al (i := 0) 0 rfl rfl (by decide) dX0_init_29 rfl ⟨_, rfl⟩ ?_
  refine kx_al (i := 1) 1 rfl rfl (by decide) dX0_init_30 rfl ⟨_, rfl⟩ ?_
  refine kx_putF (i := 0) (ws' := [(h0, .inr (0, [.ref a1, .null, .ref q1, .ref q3, .ref q4, .int 0, .int 0, .int 0, .int 0])), (q1, .inl (cA, 4, .inr (.inr (.inr (.inr (fun i => if i < 4 then some (r2 i) else none)))))), (r2 0, .inl (cI, 6, .inl (fun _ => 0))), (r2 1, .inl (cI, 6, .inl (fun _ => 0))), (r2 2, .inl (cI, 6, .inl (fun _ => 0))), (r2 3, .inl (cI, 6, .inl (fun _ => 0))), (q3, .inl (cI, 4, .inl (fun _ => 0))), (q4, .inl (cI, 4, .inl (fun _ => 0)))]) ffX0_23 rfl rfl rfl (by simp) dX0_init_31 rfl rfl ?_
  refine kx_al (i := 0) 0 rfl rfl (by decide) dX0_init_34 rfl ⟨_, rfl⟩ ?_
  refine kx_al (i := 2) 2 rfl rfl (by decide) dX0_init_35 rfl ⟨_, rfl⟩ ?_
  refine kx_putF (i := 0) (ws' := [(h0, .inr (0, [.ref a1, .ref a2, .ref q1, .ref q3, .ref q4, .int 0, .int 0, .int 0, .int 0])), (q1, .inl (cA, 4, .inr (.inr (.inr (.inr (fun i => if i < 4 then some (r2 i) else none)))))), (r2 0, .inl (cI, 6, .inl (fun _ => 0))), (r2 1, .inl (cI, 6, .inl (fun _ => 0))), (r2 2, .inl (cI, 6, .inl (fun _ => 0))), (r2 3, .inl (cI, 6, .inl (fun _ => 0))), (q3, .inl (cI, 4, .inl (fun _ => 0))), (q4, .inl (cI, 4, .inl (fun _ => 0)))]) ffX0_27 rfl rfl rfl (by simp) dX0_init_36 rfl rfl ?_
  exact kx_ret rfl rfl rfl dX0_init_39 ⟨q1, r2, q3, q4, rfl⟩
def kpX3 (cI : ClassId) (cA : ClassId) (h0 : Nat) (a1 : Nat) (a2 : Nat) (w : va_W) : Prop := ∃ (q1 : Nat) (r2 : Nat → Nat), w = [(h0, .inr (3, [.ref a1, .ref a2, .ref q1, .int 0])), (q1, .inl (cA, 4, .inr (.inr (.inr (.inr (fun i => if i < 4 then some (r2 i) else none)))))), (r2 0, .inl (cI, 3, .inl (fun _ => 0))), (r2 1, .inl (cI, 3, .inl (fun _ => 0))), (r2 2, .inl (cI, 3, .inl (fun _ => 0))), (r2 3, .inl (cI, 3, .inl (fun _ => 0)))]
set_option maxHeartbeats 4000000 in
set_option maxRecDepth 100000 in
theorem m_X3 (l : Launch) (D : va_G) (cI cL cA : ClassId) (h0 : Nat) (a1 : Nat) (a2 : Nat) : kMet l D (kT cI cL cA) 1 MX3_init yX3_init [.ref h0, .ref a1, .ref a2] [(h0, .inr (3, [.null, .null, .null, .int 0]))] 5 16 (kpX3 cI cA h0 a1 a2) := by
  refine kmet (lv := [(0, .ref h0), (1, .ref a1), (2, .ref a2)]) (by decide +kernel) rfl rfl (Nat.le_of_ble_eq_true rfl) rfl (fun A => ?_)
  refine kx_al (i := 0) 0 rfl rfl (by decide) dX3_init_0 rfl ⟨_, rfl⟩ ?_
  refine kx_obj (zw_t (i := 251) (by decide +kernel) rfl) kw_o1 kw_o2 (by decide) dX3_init_1 rfl ?_
  refine kx_al (i := 0) 0 rfl rfl (by decide) dX3_init_4 rfl ⟨_, rfl⟩ ?_
  refine kx_ic (x := 4) (by decide) dX3_init_5 rfl ?_
  refine kx_ic (x := 3) (by decide) dX3_init_6 rfl ?_
  refine kx_mna (N' := 4) (K' := 3) (kT_I cI cL cA) (kT_A cI cL cA) (by rw [kw_s]; exact (zw_t (i := 252) (by decide +kernel) rfl)) kw_I (by decide) (by decide) (by decide) (by decide) (by decide) (by decide) (Nat.le_of_ble_eq_true rfl) (Nat.le_of_ble_eq_true rfl) dX3_init_7 rfl (fun q1 r2 => ?_)
  refine kx_putF (i := 0) (ws' := [(h0, .inr (3, [.null, .null, .ref q1, .int 0])), (q1, .inl (cA, 4, .inr (.inr (.inr (.inr (fun i => if i < 4 then some (r2 i) else none)))))), (r2 0, .inl (cI, 3, .inl (fun _ => 0))), (r2 1, .inl (cI, 3, .inl (fun _ => 0))), (r2 2, .inl (cI, 3, .inl (fun _ => 0))), (r2 3, .inl (cI, 3, .inl (fun _ => 0)))]) ffX3_13 rfl rfl rfl (by simp) dX3_init_11 rfl rfl ?_
  refine kx_al (i := 0) 0 rfl rfl (by decide) dX3_init_14 rfl ⟨_, rfl⟩ ?_
  refine kx_al (i := 1) 1 rfl rfl (by decide) dX3_init_15 rfl ⟨_, rfl⟩ ?_
  refine kx_putF (i := 0) (ws' := [(h0, .inr (3, [.ref a1, .null, .ref q1, .int 0])), (q1, .inl (cA, 4, .inr (.inr (.inr (.inr (fun i => if i < 4 then some (r2 i) else none)))))), (r2 0, .inl (cI, 3, .inl (fun _ => 0))), (r2 1, .inl (cI, 3, .inl (fun _ => 0))), (r2 2, .inl (cI, 3, .inl (fun _ => 0))), (r2 3, .inl (cI, 3, .inl (fun _ => 0)))]) ffX3_16 rfl rfl rfl (by simp) dX3_init_16 rfl rfl ?_
  refine kx_al (i := 0) 0 rfl rfl (by decide) dX3_init_19 rfl ⟨_, rfl⟩ ?_
  refine kx_al (i := 2) 2 rfl rfl (by decide) dX3_init_20 rfl ⟨_, rfl⟩ ?_
  refine kx_putF (i := 0) (ws' := [(h0, .inr (3, [.ref a1, .ref a2, .ref q1, .int 0])), (q1, .inl (cA, 4, .inr (.inr (.inr (.inr (fun i => if i < 4 then some (r2 i) else none)))))), (r2 0, .inl (cI, 3, .inl (fun _ => 0))), (r2 1, .inl (cI, 3, .inl (fun _ => 0))), (r2 2, .inl (cI, 3, .inl (fun _ => 0))), (r2 3, .inl (cI, 3, .inl (fun _ => 0)))]) ffX3_20 rfl rfl rfl (by simp) dX3_init_21 rfl rfl ?_
  exact kx_ret rfl rfl rfl dX3_init_24 ⟨q1, r2, rfl⟩
def kpX6 (cI : ClassId) (cA : ClassId) (h0 : Nat) (w : va_W) : Prop := ∃ (q1 : Nat) (q2 : Nat) (q3 : Nat) (r4 : Nat → Nat), w = [(h0, .inr (6, [.ref q1, .ref q2, .ref q3])), (q1, .inl (cI, 4, .inl (fun _ => -1))), (q2, .inl (cI, 4, .inl (fun _ => 0))), (q3, .inl (cA, 4, .inr (.inr (.inr (.inr (fun i => if i < 4 then some (r4 i) else none)))))), (r4 0, .inl (cI, 40, .inl (fun _ => 0))), (r4 1, .inl (cI, 40, .inl (fun _ => 0))), (r4 2, .inl (cI, 40, .inl (fun _ => 0))), (r4 3, .inl (cI, 40, .inl (fun _ => 0)))]
set_option maxHeartbeats 4000000 in
set_option maxRecDepth 100000 in
theorem m_X6 (l : Launch) (D : va_G) (cI cL cA : ClassId) (h0 : Nat) : kMet l D (kT cI cL cA) 1 MX6_init yX6_init [.ref h0] [(h0, .inr (6, [.null, .null, .null]))] 7 172 (kpX6 cI cA h0) := by
  refine kmet (lv := [(0, .ref h0)]) (by decide +kernel) rfl rfl (Nat.le_of_ble_eq_true rfl) rfl (fun A => ?_)
  refine kx_al (i := 0) 0 rfl rfl (by decide) dX6_init_0 rfl ⟨_, rfl⟩ ?_
  refine kx_obj (zw_t (i := 273) (by decide +kernel) rfl) kw_o1 kw_o2 (by decide) dX6_init_1 rfl ?_
  refine kx_al (i := 0) 0 rfl rfl (by decide) dX6_init_4 rfl ⟨_, rfl⟩ ?_
  refine kx_ic (x := 4) (by decide) dX6_init_5 rfl ?_
  refine kx_newa (N := 4) (kT_I cI cL cA) kw_I (by decide) (by decide) (by decide) (Nat.le_of_ble_eq_true rfl) (Nat.le_of_ble_eq_true rfl) dX6_init_6 rfl (fun q1 => ?_)
  refine kx_dup rfl dX6_init_8 rfl ?_
  refine kx_ic (x := 0) (by decide) dX6_init_9 rfl ?_
  refine kx_ic (x := -1) (by decide) dX6_init_10 rfl ?_
  refine kx_ast (i := 1) (ws' := [(h0, .inr (6, [.null, .null, .null])), (q1, .inl (cI, 4, .inl (upd (fun _ => 0) (Int32.toNatClampNeg 0) (-1))))]) (kT_I cI cL cA) rfl (by unfold vp_in; decide) dX6_init_11 rfl rfl ?_
  refine kx_dup rfl dX6_init_12 rfl ?_
  refine kx_ic (x := 1) (by decide) dX6_init_13 rfl ?_
  refine kx_ic (x := -1) (by decide) dX6_init_14 rfl ?_
  refine kx_ast (i := 1) (ws' := [(h0, .inr (6, [.null, .null, .null])), (q1, .inl (cI, 4, .inl (upd (upd (fun _ => 0) (Int32.toNatClampNeg 0) (-1)) (Int32.toNatClampNeg 1) (-1))))]) (kT_I cI cL cA) rfl (by unfold vp_in; decide) dX6_init_15 rfl rfl ?_
  refine kx_dup rfl dX6_init_16 rfl ?_
  refine kx_ic (x := 2) (by decide) dX6_init_17 rfl ?_
  refine kx_ic (x := -1) (by decide) dX6_init_18 rfl ?_
  refine kx_ast (i := 1) (ws' := [(h0, .inr (6, [.null, .null, .null])), (q1, .inl (cI, 4, .inl (upd (upd (upd (fun _ => 0) (Int32.toNatClampNeg 0) (-1)) (Int32.toNatClampNeg 1) (-1)) (Int32.toNatClampNeg 2) (-1))))]) (kT_I cI cL cA) rfl (by unfold vp_in; decide) dX6_init_19 rfl rfl ?_
  refine kx_dup rfl dX6_init_20 rfl ?_
  refine kx_ic (x := 3) (by decide) dX6_init_21 rfl ?_
  refine kx_ic (x := -1) (by decide) dX6_init_22 rfl ?_
  refine kx_ast (i := 1) (ws' := [(h0, .inr (6, [.null, .null, .null])), (q1, .inl (cI, 4, .inl (upd (upd (upd (upd (fun _ => 0) (Int32.toNatClampNeg 0) (-1)) (Int32.toNatClampNeg 1) (-1)) (Int32.toNatClampNeg 2) (-1)) (Int32.toNatClampNeg 3) (-1))))]) (kT_I cI cL cA) rfl (by unfold vp_in; decide) dX6_init_23 rfl rfl ?_
  refine kx_row (i := 1) (g := fun _ => -1) (ws' := [(h0, .inr (6, [.null, .null, .null])), (q1, .inl (cI, 4, .inl (fun _ => -1)))]) rfl (by decide) rfl ?_
  refine kx_putF (i := 0) (ws' := [(h0, .inr (6, [.ref q1, .null, .null])), (q1, .inl (cI, 4, .inl (fun _ => -1)))]) ffX6_11 rfl rfl rfl (by simp) dX6_init_24 rfl rfl ?_
  refine kx_al (i := 0) 0 rfl rfl (by decide) dX6_init_27 rfl ⟨_, rfl⟩ ?_
  refine kx_ic (x := 4) (by decide) dX6_init_28 rfl ?_
  refine kx_newa (N := 4) (kT_I cI cL cA) kw_I (by decide) (by decide) (by decide) (Nat.le_of_ble_eq_true rfl) (Nat.le_of_ble_eq_true rfl) dX6_init_29 rfl (fun q2 => ?_)
  refine kx_putF (i := 0) (ws' := [(h0, .inr (6, [.ref q1, .ref q2, .null])), (q1, .inl (cI, 4, .inl (fun _ => -1))), (q2, .inl (cI, 4, .inl (fun _ => 0)))]) ffX6_15 rfl rfl rfl (by simp) dX6_init_31 rfl rfl ?_
  refine kx_al (i := 0) 0 rfl rfl (by decide) dX6_init_34 rfl ⟨_, rfl⟩ ?_
  refine kx_ic (x := 4) (by decide) dX6_init_35 rfl ?_
  refine kx_bip (x := 40) (by decide) dX6_init_36 rfl ?_
  refine kx_mna (N' := 4) (K' := 40) (kT_I cI cL cA) (kT_A cI cL cA) (by rw [kw_s]; exact (zw_t (i := 274) (by decide +kernel) rfl)) kw_I (by decide) (by decide) (by decide) (by decide) (by decide) (by decide) (Nat.le_of_ble_eq_true rfl) (Nat.le_of_ble_eq_true rfl) dX6_init_38 rfl (fun q3 r4 => ?_)
  refine kx_putF (i := 0) (ws' := [(h0, .inr (6, [.ref q1, .ref q2, .ref q3])), (q1, .inl (cI, 4, .inl (fun _ => -1))), (q2, .inl (cI, 4, .inl (fun _ => 0))), (q3, .inl (cA, 4, .inr (.inr (.inr (.inr (fun i => if i < 4 then some (r4 i) else none)))))), (r4 0, .inl (cI, 40, .inl (fun _ => 0))), (r4 1, .inl (cI, 40, .inl (fun _ => 0))), (r4 2, .inl (cI, 40, .inl (fun _ => 0))), (r4 3, .inl (cI, 40, .inl (fun _ => 0)))]) ffX6_20 rfl rfl rfl (by simp) dX6_init_42 rfl rfl ?_
  exact kx_ret rfl rfl rfl dX6_init_45 ⟨q1, q2, q3, r4, rfl⟩
def kpX7 (cI : ClassId) (h0 : Nat) (a1 : Nat) (a2 : Nat) (w : va_W) : Prop := ∃ (q1 : Nat) (q2 : Nat) (q3 : Nat), w = [(h0, .inr (7, [.ref a1, .ref a2, .ref q1, .ref q2, .ref q3])), (q1, .inl (cI, 4, .inl (fun _ => 0))), (q2, .inl (cI, 4, .inl (fun _ => 0))), (q3, .inl (cI, 4, .inl (fun _ => 0)))]
set_option maxHeartbeats 4000000 in
set_option maxRecDepth 100000 in
theorem m_X7 (l : Launch) (D : va_G) (cI cL cA : ClassId) (h0 : Nat) (a1 : Nat) (a2 : Nat) : kMet l D (kT cI cL cA) 1 MX7_init yX7_init [.ref h0, .ref a1, .ref a2] [(h0, .inr (7, [.null, .null, .null, .null, .null]))] 3 12 (kpX7 cI h0 a1 a2) := by
  refine kmet (lv := [(0, .ref h0), (1, .ref a1), (2, .ref a2)]) (by decide +kernel) rfl rfl (Nat.le_of_ble_eq_true rfl) rfl (fun A => ?_)
  refine kx_al (i := 0) 0 rfl rfl (by decide) dX7_init_0 rfl ⟨_, rfl⟩ ?_
  refine kx_obj (zw_t (i := 293) (by decide +kernel) rfl) kw_o1 kw_o2 (by decide) dX7_init_1 rfl ?_
  refine kx_al (i := 0) 0 rfl rfl (by decide) dX7_init_4 rfl ⟨_, rfl⟩ ?_
  refine kx_ic (x := 4) (by decide) dX7_init_5 rfl ?_
  refine kx_newa (N := 4) (kT_I cI cL cA) kw_I (by decide) (by decide) (by decide) (Nat.le_of_ble_eq_true rfl) (Nat.le_of_ble_eq_true rfl) dX7_init_6 rfl (fun q1 => ?_)
  refine kx_putF (i := 0) (ws' := [(h0, .inr (7, [.null, .null, .ref q1, .null, .null])), (q1, .inl (cI, 4, .inl (fun _ => 0)))]) ffX7_9 rfl rfl rfl (by simp) dX7_init_8 rfl rfl ?_
  refine kx_al (i := 0) 0 rfl rfl (by decide) dX7_init_11 rfl ⟨_, rfl⟩ ?_
  refine kx_ic (x := 4) (by decide) dX7_init_12 rfl ?_
  refine kx_newa (N := 4) (kT_I cI cL cA) kw_I (by decide) (by decide) (by decide) (Nat.le_of_ble_eq_true rfl) (Nat.le_of_ble_eq_true rfl) dX7_init_13 rfl (fun q2 => ?_)
  refine kx_putF (i := 0) (ws' := [(h0, .inr (7, [.null, .null, .ref q1, .ref q2, .null])), (q1, .inl (cI, 4, .inl (fun _ => 0))), (q2, .inl (cI, 4, .inl (fun _ => 0)))]) ffX7_15 rfl rfl rfl (by simp) dX7_init_15 rfl rfl ?_
  refine kx_al (i := 0) 0 rfl rfl (by decide) dX7_init_18 rfl ⟨_, rfl⟩ ?_
  refine kx_ic (x := 4) (by decide) dX7_init_19 rfl ?_
  refine kx_newa (N := 4) (kT_I cI cL cA) kw_I (by decide) (by decide) (by decide) (Nat.le_of_ble_eq_true rfl) (Nat.le_of_ble_eq_true rfl) dX7_init_20 rfl (fun q3 => ?_)
  refine kx_putF (i := 0) (ws' := [(h0, .inr (7, [.null, .null, .ref q1, .ref q2, .ref q3])), (q1, .inl (cI, 4, .inl (fun _ => 0))), (q2, .inl (cI, 4, .inl (fun _ => 0))), (q3, .inl (cI, 4, .inl (fun _ => 0)))]) ffX7_18 rfl rfl rfl (by simp) dX7_init_22 rfl rfl ?_
  refine kx_al (i := 0) 0 rfl rfl (by decide) dX7_init_25 rfl ⟨_, rfl⟩ ?_
  refine kx_al (i := 1) 1 rfl rfl (by decide) dX7_init_26 rfl ⟨_, rfl⟩ ?_
  refine kx_putF (i := 0) (ws' := [(h0, .inr (7, [.ref a1, .null, .ref q1, .ref q2, .ref q3])), (q1, .inl (cI, 4, .inl (fun _ => 0))), (q2, .inl (cI, 4, .inl (fun _ => 0))), (q3, .inl (cI, 4, .inl (fun _ => 0)))]) ffX7_21 rfl rfl rfl (by simp) dX7_init_27 rfl rfl ?_
  refine kx_al (i := 0) 0 rfl rfl (by decide) dX7_init_30 rfl ⟨_, rfl⟩ ?_
  refine kx_al (i := 2) 2 rfl rfl (by decide) dX7_init_31 rfl ⟨_, rfl⟩ ?_
  refine kx_putF (i := 0) (ws' := [(h0, .inr (7, [.ref a1, .ref a2, .ref q1, .ref q2, .ref q3])), (q1, .inl (cI, 4, .inl (fun _ => 0))), (q2, .inl (cI, 4, .inl (fun _ => 0))), (q3, .inl (cI, 4, .inl (fun _ => 0)))]) ffX7_25 rfl rfl rfl (by simp) dX7_init_32 rfl rfl ?_
  exact kx_ret rfl rfl rfl dX7_init_35 ⟨q1, q2, q3, rfl⟩
def kpX9 (cI : ClassId) (h0 : Nat) (w : va_W) : Prop := ∃ (q1 : Nat), w = [(h0, .inr (9, [.ref q1, .int 0, .int 0, .int 0, .int 0, .int 0])), (q1, .inl (cI, 30, .inl (fun _ => 0)))]
set_option maxHeartbeats 4000000 in
set_option maxRecDepth 100000 in
theorem m_X9 (l : Launch) (D : va_G) (cI cL cA : ClassId) (h0 : Nat) : kMet l D (kT cI cL cA) 1 MX9_init yX9_init [.ref h0] [(h0, .inr (9, [.null, .int 0, .int 0, .int 0, .int 0, .int 0]))] 1 30 (kpX9 cI h0) := by
  refine kmet (lv := [(0, .ref h0)]) (by decide +kernel) rfl rfl (Nat.le_of_ble_eq_true rfl) rfl (fun A => ?_)
  refine kx_al (i := 0) 0 rfl rfl (by decide) dX9_init_0 rfl ⟨_, rfl⟩ ?_
  refine kx_obj (zw_t (i := 316) (by decide +kernel) rfl) kw_o1 kw_o2 (by decide) dX9_init_1 rfl ?_
  refine kx_al (i := 0) 0 rfl rfl (by decide) dX9_init_4 rfl ⟨_, rfl⟩ ?_
  refine kx_bip (x := 30) (by decide) dX9_init_5 rfl ?_
  refine kx_newa (N := 30) (kT_I cI cL cA) kw_I (by decide) (by decide) (by decide) (Nat.le_of_ble_eq_true rfl) (Nat.le_of_ble_eq_true rfl) dX9_init_7 rfl (fun q1 => ?_)
  refine kx_putF (i := 0) (ws' := [(h0, .inr (9, [.ref q1, .int 0, .int 0, .int 0, .int 0, .int 0])), (q1, .inl (cI, 30, .inl (fun _ => 0)))]) ffX9_9 rfl rfl rfl (by simp) dX9_init_9 rfl rfl ?_
  exact kx_ret rfl rfl rfl dX9_init_12 ⟨q1, rfl⟩
