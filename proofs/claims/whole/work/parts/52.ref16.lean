def gKnd (x : Int32) : Int32 := if 0 ≤ x - 256 ∧ x - 256 ≤ 5 then x - 256 else -1
def gFct (x : Int32) : Int32 := if 0 ≤ x - 269 ∧ x - 269 ≤ 4 then x - 269 else -1
theorem wd_ex {x : Int32} {b m : Nat} (hm : m < 2 ^ 31) (h0 : 0 ≤ x - nI b) (h1 : x - nI b ≤ nI m) : ∃ j, j ≤ m ∧ x = nI (b + j) := by
  obtain ⟨j, ⟨h2, _⟩, e⟩ := pIn_n (v := x - nI b) (a := 0) (b := m) hm (by decide) (by unfold pIn; rw [decide_eq_true h0, decide_eq_true h1]; rfl)
  refine ⟨j, h2, ?_⟩
  have := Int32.sub_add_cancel x (nI b)
  rw [e, nI_add, Nat.add_comm] at this
  exact this.symm
theorem f45 {x : Int32} : (0 ≤ x ∧ x < 5) ↔ (0 ≤ x ∧ x ≤ 4) := by
  rw [Int32.le_iff_toInt_le, Int32.le_iff_toInt_le, Int32.lt_iff_toInt_lt, zt0, zt5, zt4]
  omega
theorem fct_no {x : Int32} (h : ¬ 0 ≤ gFct x) : ¬ (0 ≤ x - 269 ∧ x - 269 < 5) := fun q => h (by
  unfold gFct
  rw [if_pos (f45.mp q)]
  exact q.1)
theorem fct_yes {x : Int32} (h : 0 ≤ gFct x) : (0 ≤ x - 269 ∧ x - 269 < 5) ∧ gFct x = x - 269 := by
  unfold gFct at h ⊢
  by_cases q : 0 ≤ x - 269 ∧ x - 269 ≤ 4
  · rw [if_pos q]
    exact ⟨f45.mpr q, rfl⟩
  · rw [if_neg q] at h
    exact absurd h (by decide)
theorem sg_no {x : Int32} (h1 : ¬ x = 60) (h2 : ¬ x = 61) (h3 : ¬ x = 62) : rSign x = 0 := by
  unfold rSign
  rw [if_neg h1, if_neg h2, if_neg h3]
theorem sg_yes {x : Int32} (h : x = 60 ∨ x = 61 ∨ x = 62) : ¬ rSign x = 0 := by
  rcases h with rfl | rfl | rfl <;> decide
theorem sg_3 {T : Nat → Int32} {len k : Nat} (hX : gX T len) (h : tK T len k = 60 ∨ tK T len k = 61 ∨ tK T len k = 62) : gTk T len k = 3 := by
  by_cases q : gTk T len k = 3
  · exact q
  · exfalso
    have ht : (tK T len k).toInt = 60 ∨ (tK T len k).toInt = 61 ∨ (tK T len k).toInt = 62 := by
      rcases h with e | e | e <;> rw [e] <;> decide +kernel
    rcases K_n3 q with e | e | e | ⟨w, hw, e⟩
    · rw [e, ztm1] at ht; omega
    · rw [e, ztm2] at ht; omega
    · rw [e, show (-3 : Int32).toInt = -3 by decide +kernel] at ht; omega
    · rw [e, nI_toInt (by omega)] at ht; omega
set_option maxHeartbeats 4000000 in
set_option maxRecDepth 100000 in
theorem eX11_kindHere_0 (σ : zG) (μ : zM) (T : Nat → Int32) (len k cc : Nat) (hX : gX T len) (hS : gS T len μ k cc) : zMet shR σ 5 MX11_kindHere yX11_kindHere [zr 0] μ (fun rr μ' => rr = some (zi (gKnd (tK T len k))) ∧ μ' = μ) := by
  refine zmetF (by decide +kernel) rfl (Nat.le_of_ble_eq_true rfl) ?_
  show zX shR σ 5 MX11_kindHere 0 [(0, zr 0)] [] μ _
  refine zx_aload_n (k := 0) (nn := 1) dX11_kindHere_0 rfl rfl rfl ?_
  refine zx_ldcS (k := 0) (nn := 3) (by decide +kernel) dX11_kindHere_1 rfl ?_
  refine zx_callVf (nn := 6) (k := 0) (d' := 4) (as := [zr 200]) (rest := []) (n := 1) (eX11_isName_0 σ μ 0 T len (k) (cc) (by decide) hX (hS)) kX11_isName mlX11_196 rfl rfl rfl (by decide) rfl rfl (Nat.le_of_ble_eq_true rfl) dX11_kindHere_3 rfl ?_
  show zX shR σ 5 MX11_kindHere 6 [(0, zr 0)] [zi (zb (decide (tK T len (k) = nI (256 + 0))))] μ _
  refine zx_ifb_eq (tgt := 13) (nn := 9) dX11_kindHere_6 (by decide) rfl (fun h6 => ?_) (fun h6 => ?_)
  · refine zx_aload_n (k := 0) (nn := 14) dX11_kindHere_13 rfl rfl rfl ?_
    refine zx_ldcS (k := 1) (nn := 16) (by decide +kernel) dX11_kindHere_14 rfl ?_
    refine zx_callVf (nn := 19) (k := 0) (d' := 4) (as := [zr 201]) (rest := []) (n := 1) (eX11_isName_0 σ μ 1 T len (k) (cc) (by decide) hX (hS)) kX11_isName mlX11_196 rfl rfl rfl (by decide) rfl rfl (Nat.le_of_ble_eq_true rfl) dX11_kindHere_16 rfl ?_
    show zX shR σ 5 MX11_kindHere 19 [(0, zr 0)] [zi (zb (decide (tK T len (k) = nI (256 + 1))))] μ _
    refine zx_ifb_eq (tgt := 26) (nn := 22) dX11_kindHere_19 (by decide) rfl (fun h19 => ?_) (fun h19 => ?_)
    · refine zx_aload_n (k := 0) (nn := 27) dX11_kindHere_26 rfl rfl rfl ?_
      refine zx_ldcS (k := 2) (nn := 29) (by decide +kernel) dX11_kindHere_27 rfl ?_
      refine zx_callVf (nn := 32) (k := 0) (d' := 4) (as := [zr 202]) (rest := []) (n := 1) (eX11_isName_0 σ μ 2 T len (k) (cc) (by decide) hX (hS)) kX11_isName mlX11_196 rfl rfl rfl (by decide) rfl rfl (Nat.le_of_ble_eq_true rfl) dX11_kindHere_29 rfl ?_
      show zX shR σ 5 MX11_kindHere 32 [(0, zr 0)] [zi (zb (decide (tK T len (k) = nI (256 + 2))))] μ _
      refine zx_ifb_eq (tgt := 39) (nn := 35) dX11_kindHere_32 (by decide) rfl (fun h32 => ?_) (fun h32 => ?_)
      · refine zx_aload_n (k := 0) (nn := 40) dX11_kindHere_39 rfl rfl rfl ?_
        refine zx_ldcS (k := 3) (nn := 42) (by decide +kernel) dX11_kindHere_40 rfl ?_
        refine zx_callVf (nn := 45) (k := 0) (d' := 4) (as := [zr 203]) (rest := []) (n := 1) (eX11_isName_0 σ μ 3 T len (k) (cc) (by decide) hX (hS)) kX11_isName mlX11_196 rfl rfl rfl (by decide) rfl rfl (Nat.le_of_ble_eq_true rfl) dX11_kindHere_42 rfl ?_
        show zX shR σ 5 MX11_kindHere 45 [(0, zr 0)] [zi (zb (decide (tK T len (k) = nI (256 + 3))))] μ _
        refine zx_ifb_eq (tgt := 52) (nn := 48) dX11_kindHere_45 (by decide) rfl (fun h45 => ?_) (fun h45 => ?_)
        · refine zx_aload_n (k := 0) (nn := 53) dX11_kindHere_52 rfl rfl rfl ?_
          refine zx_ldcS (k := 4) (nn := 55) (by decide +kernel) dX11_kindHere_53 rfl ?_
          refine zx_callVf (nn := 58) (k := 0) (d' := 4) (as := [zr 204]) (rest := []) (n := 1) (eX11_isName_0 σ μ 4 T len (k) (cc) (by decide) hX (hS)) kX11_isName mlX11_196 rfl rfl rfl (by decide) rfl rfl (Nat.le_of_ble_eq_true rfl) dX11_kindHere_55 rfl ?_
          show zX shR σ 5 MX11_kindHere 58 [(0, zr 0)] [zi (zb (decide (tK T len (k) = nI (256 + 4))))] μ _
          refine zx_ifb_eq (tgt := 65) (nn := 61) dX11_kindHere_58 (by decide) rfl (fun h58 => ?_) (fun h58 => ?_)
          · refine zx_aload_n (k := 0) (nn := 66) dX11_kindHere_65 rfl rfl rfl ?_
            refine zx_ldcS (k := 5) (nn := 68) (by decide +kernel) dX11_kindHere_66 rfl ?_
            refine zx_callVf (nn := 71) (k := 0) (d' := 4) (as := [zr 205]) (rest := []) (n := 1) (eX11_isName_0 σ μ 5 T len (k) (cc) (by decide) hX (hS)) kX11_isName mlX11_196 rfl rfl rfl (by decide) rfl rfl (Nat.le_of_ble_eq_true rfl) dX11_kindHere_68 rfl ?_
            show zX shR σ 5 MX11_kindHere 71 [(0, zr 0)] [zi (zb (decide (tK T len (k) = nI (256 + 5))))] μ _
            refine zx_ifb_eq (tgt := 78) (nn := 74) dX11_kindHere_71 (by decide) rfl (fun h71 => ?_) (fun h71 => ?_)
            · refine zx_iconst (v := -1) (nn := 79) rfl dX11_kindHere_78 rfl ?_
              refine zx_iret rfl dX11_kindHere_79 ?_
              refine ⟨congrArg (fun x => some (zi x)) ?_, rfl⟩
              unfold gKnd
              rw [if_neg]
              intro q
              obtain ⟨j, hj, e⟩ := wd_ex (b := 256) (m := 5) (by decide) q.1 q.2
              rcases (show j = 0 ∨ j = 1 ∨ j = 2 ∨ j = 3 ∨ j = 4 ∨ j = 5 by omega) with rfl | rfl | rfl | rfl | rfl | rfl
              · exact absurd (h6.symm.trans (decide_eq_true e)) (by decide)
              · exact absurd (h19.symm.trans (decide_eq_true e)) (by decide)
              · exact absurd (h32.symm.trans (decide_eq_true e)) (by decide)
              · exact absurd (h45.symm.trans (decide_eq_true e)) (by decide)
              · exact absurd (h58.symm.trans (decide_eq_true e)) (by decide)
              · exact absurd (h71.symm.trans (decide_eq_true e)) (by decide)
            · refine zx_iconst (v := 5) (nn := 75) rfl dX11_kindHere_74 rfl ?_
              refine zx_goto (tgt := 79) dX11_kindHere_75 (by decide) ?_
              refine zx_iret rfl dX11_kindHere_79 ?_
              refine ⟨congrArg (fun x => some (zi x)) ?_, rfl⟩
              rw [of_decide_eq_true h71]
              decide +kernel
          · refine zx_iconst (v := 4) (nn := 62) rfl dX11_kindHere_61 rfl ?_
            refine zx_goto (tgt := 79) dX11_kindHere_62 (by decide) ?_
            refine zx_iret rfl dX11_kindHere_79 ?_
            refine ⟨congrArg (fun x => some (zi x)) ?_, rfl⟩
            rw [of_decide_eq_true h58]
            decide +kernel
        · refine zx_iconst (v := 3) (nn := 49) rfl dX11_kindHere_48 rfl ?_
          refine zx_goto (tgt := 79) dX11_kindHere_49 (by decide) ?_
          refine zx_iret rfl dX11_kindHere_79 ?_
          refine ⟨congrArg (fun x => some (zi x)) ?_, rfl⟩
          rw [of_decide_eq_true h45]
          decide +kernel
      · refine zx_iconst (v := 2) (nn := 36) rfl dX11_kindHere_35 rfl ?_
        refine zx_goto (tgt := 79) dX11_kindHere_36 (by decide) ?_
        refine zx_iret rfl dX11_kindHere_79 ?_
        refine ⟨congrArg (fun x => some (zi x)) ?_, rfl⟩
        rw [of_decide_eq_true h32]
        decide +kernel
    · refine zx_iconst (v := 1) (nn := 23) rfl dX11_kindHere_22 rfl ?_
      refine zx_goto (tgt := 79) dX11_kindHere_23 (by decide) ?_
      refine zx_iret rfl dX11_kindHere_79 ?_
      refine ⟨congrArg (fun x => some (zi x)) ?_, rfl⟩
      rw [of_decide_eq_true h19]
      decide +kernel
  · refine zx_iconst (v := 0) (nn := 10) rfl dX11_kindHere_9 rfl ?_
    refine zx_goto (tgt := 79) dX11_kindHere_10 (by decide) ?_
    refine zx_iret rfl dX11_kindHere_79 ?_
    refine ⟨congrArg (fun x => some (zi x)) ?_, rfl⟩
    rw [of_decide_eq_true h6]
    decide +kernel
set_option maxHeartbeats 4000000 in
set_option maxRecDepth 100000 in
theorem eX11_factHere_0 (σ : zG) (μ : zM) (T : Nat → Int32) (len k cc : Nat) (hX : gX T len) (hS : gS T len μ k cc) : zMet shR σ 5 MX11_factHere yX11_factHere [zr 0] μ (fun rr μ' => rr = some (zi (gFct (tK T len k))) ∧ μ' = μ) := by
  refine zmetF (by decide +kernel) rfl (Nat.le_of_ble_eq_true rfl) ?_
  show zX shR σ 5 MX11_factHere 0 [(0, zr 0)] [] μ _
  refine zx_aload_n (k := 0) (nn := 1) dX11_factHere_0 rfl rfl rfl ?_
  refine zx_ldcS (k := 13) (nn := 3) (by decide +kernel) dX11_factHere_1 rfl ?_
  refine zx_callVf (nn := 6) (k := 0) (d' := 4) (as := [zr 213]) (rest := []) (n := 1) (eX11_isName_0 σ μ 13 T len (k) (cc) (by decide) hX (hS)) kX11_isName mlX11_196 rfl rfl rfl (by decide) rfl rfl (Nat.le_of_ble_eq_true rfl) dX11_factHere_3 rfl ?_
  show zX shR σ 5 MX11_factHere 6 [(0, zr 0)] [zi (zb (decide (tK T len (k) = nI (256 + 13))))] μ _
  refine zx_ifb_eq (tgt := 13) (nn := 9) dX11_factHere_6 (by decide) rfl (fun h6 => ?_) (fun h6 => ?_)
  · refine zx_aload_n (k := 0) (nn := 14) dX11_factHere_13 rfl rfl rfl ?_
    refine zx_ldcS (k := 14) (nn := 16) (by decide +kernel) dX11_factHere_14 rfl ?_
    refine zx_callVf (nn := 19) (k := 0) (d' := 4) (as := [zr 214]) (rest := []) (n := 1) (eX11_isName_0 σ μ 14 T len (k) (cc) (by decide) hX (hS)) kX11_isName mlX11_196 rfl rfl rfl (by decide) rfl rfl (Nat.le_of_ble_eq_true rfl) dX11_factHere_16 rfl ?_
    show zX shR σ 5 MX11_factHere 19 [(0, zr 0)] [zi (zb (decide (tK T len (k) = nI (256 + 14))))] μ _
    refine zx_ifb_eq (tgt := 26) (nn := 22) dX11_factHere_19 (by decide) rfl (fun h19 => ?_) (fun h19 => ?_)
    · refine zx_aload_n (k := 0) (nn := 27) dX11_factHere_26 rfl rfl rfl ?_
      refine zx_ldcS (k := 15) (nn := 29) (by decide +kernel) dX11_factHere_27 rfl ?_
      refine zx_callVf (nn := 32) (k := 0) (d' := 4) (as := [zr 215]) (rest := []) (n := 1) (eX11_isName_0 σ μ 15 T len (k) (cc) (by decide) hX (hS)) kX11_isName mlX11_196 rfl rfl rfl (by decide) rfl rfl (Nat.le_of_ble_eq_true rfl) dX11_factHere_29 rfl ?_
      show zX shR σ 5 MX11_factHere 32 [(0, zr 0)] [zi (zb (decide (tK T len (k) = nI (256 + 15))))] μ _
      refine zx_ifb_eq (tgt := 39) (nn := 35) dX11_factHere_32 (by decide) rfl (fun h32 => ?_) (fun h32 => ?_)
      · refine zx_aload_n (k := 0) (nn := 40) dX11_factHere_39 rfl rfl rfl ?_
        refine zx_ldcS (k := 16) (nn := 42) (by decide +kernel) dX11_factHere_40 rfl ?_
        refine zx_callVf (nn := 45) (k := 0) (d' := 4) (as := [zr 216]) (rest := []) (n := 1) (eX11_isName_0 σ μ 16 T len (k) (cc) (by decide) hX (hS)) kX11_isName mlX11_196 rfl rfl rfl (by decide) rfl rfl (Nat.le_of_ble_eq_true rfl) dX11_factHere_42 rfl ?_
        show zX shR σ 5 MX11_factHere 45 [(0, zr 0)] [zi (zb (decide (tK T len (k) = nI (256 + 16))))] μ _
        refine zx_ifb_eq (tgt := 52) (nn := 48) dX11_factHere_45 (by decide) rfl (fun h45 => ?_) (fun h45 => ?_)
        · refine zx_aload_n (k := 0) (nn := 53) dX11_factHere_52 rfl rfl rfl ?_
          refine zx_ldcS (k := 17) (nn := 55) (by decide +kernel) dX11_factHere_53 rfl ?_
          refine zx_callVf (nn := 58) (k := 0) (d' := 4) (as := [zr 217]) (rest := []) (n := 1) (eX11_isName_0 σ μ 17 T len (k) (cc) (by decide) hX (hS)) kX11_isName mlX11_196 rfl rfl rfl (by decide) rfl rfl (Nat.le_of_ble_eq_true rfl) dX11_factHere_55 rfl ?_
          show zX shR σ 5 MX11_factHere 58 [(0, zr 0)] [zi (zb (decide (tK T len (k) = nI (256 + 17))))] μ _
          refine zx_ifb_eq (tgt := 65) (nn := 61) dX11_factHere_58 (by decide) rfl (fun h58 => ?_) (fun h58 => ?_)
          · refine zx_iconst (v := -1) (nn := 66) rfl dX11_factHere_65 rfl ?_
            refine zx_iret rfl dX11_factHere_66 ?_
            refine ⟨congrArg (fun x => some (zi x)) ?_, rfl⟩
            unfold gFct
            rw [if_neg]
            intro q
            obtain ⟨j, hj, e⟩ := wd_ex (b := 269) (m := 4) (by decide) q.1 q.2
            rcases (show j = 0 ∨ j = 1 ∨ j = 2 ∨ j = 3 ∨ j = 4 by omega) with rfl | rfl | rfl | rfl | rfl
            · exact absurd (h6.symm.trans (decide_eq_true e)) (by decide)
            · exact absurd (h19.symm.trans (decide_eq_true e)) (by decide)
            · exact absurd (h32.symm.trans (decide_eq_true e)) (by decide)
            · exact absurd (h45.symm.trans (decide_eq_true e)) (by decide)
            · exact absurd (h58.symm.trans (decide_eq_true e)) (by decide)
          · refine zx_iconst (v := 4) (nn := 62) rfl dX11_factHere_61 rfl ?_
            refine zx_goto (tgt := 66) dX11_factHere_62 (by decide) ?_
            refine zx_iret rfl dX11_factHere_66 ?_
            refine ⟨congrArg (fun x => some (zi x)) ?_, rfl⟩
            rw [of_decide_eq_true h58]
            decide +kernel
        · refine zx_iconst (v := 3) (nn := 49) rfl dX11_factHere_48 rfl ?_
          refine zx_goto (tgt := 66) dX11_factHere_49 (by decide) ?_
          refine zx_iret rfl dX11_factHere_66 ?_
          refine ⟨congrArg (fun x => some (zi x)) ?_, rfl⟩
          rw [of_decide_eq_true h45]
          decide +kernel
      · refine zx_iconst (v := 2) (nn := 36) rfl dX11_factHere_35 rfl ?_
        refine zx_goto (tgt := 66) dX11_factHere_36 (by decide) ?_
        refine zx_iret rfl dX11_factHere_66 ?_
        refine ⟨congrArg (fun x => some (zi x)) ?_, rfl⟩
        rw [of_decide_eq_true h32]
        decide +kernel
    · refine zx_iconst (v := 1) (nn := 23) rfl dX11_factHere_22 rfl ?_
      refine zx_goto (tgt := 66) dX11_factHere_23 (by decide) ?_
      refine zx_iret rfl dX11_factHere_66 ?_
      refine ⟨congrArg (fun x => some (zi x)) ?_, rfl⟩
      rw [of_decide_eq_true h19]
      decide +kernel
  · refine zx_iconst (v := 0) (nn := 10) rfl dX11_factHere_9 rfl ?_
    refine zx_goto (tgt := 66) dX11_factHere_10 (by decide) ?_
    refine zx_iret rfl dX11_factHere_66 ?_
    refine ⟨congrArg (fun x => some (zi x)) ?_, rfl⟩
    rw [of_decide_eq_true h6]
    decide +kernel
set_option maxHeartbeats 4000000 in
set_option maxRecDepth 100000 in
theorem eX11_takesValue_0 (σ : zG) (μ : zM) (T : Nat → Int32) (len k cc : Nat) (hX : gX T len) (hS : gS T len μ k cc) (hcc : cc ≤ k) : zMet shR σ 6 MX11_takesValue yX11_takesValue [zr 0] μ (fun rr μ' => rr = some (zi (zb (rVal (tK T len) (tV T len) k).1)) ∧ gPs T len k cc (rVal (tK T len) (tV T len) k) μ μ') := by
  refine zmetF (by decide +kernel) rfl (Nat.le_of_ble_eq_true rfl) ?_
  show zX shR σ 6 MX11_takesValue 0 [(0, zr 0)] [] μ _
  refine zx_aload_n (k := 0) (nn := 1) dX11_takesValue_0 rfl rfl rfl ?_
  refine zx_callVf (nn := 4) (k := 0) (d' := 5) (as := []) (rest := []) (n := 0) (eX11_factHere_0 σ μ T len k cc hX hS) kX11_factHere mlX11_220 rfl rfl rfl (by decide) rfl rfl (Nat.le_of_ble_eq_true rfl) dX11_takesValue_1 rfl ?_
  show zX shR σ 6 MX11_takesValue 4 [(0, zr 0)] [zi (gFct (tK T len k))] μ _
  refine zx_istore_n (nn := 5) (lv' := [(1, zi (gFct (tK T len k))), (0, zr 0)]) dX11_takesValue_4 rfl (by decide) rfl rfl ?_
  refine zx_aload_n (k := 1) (nn := 6) dX11_takesValue_5 rfl rfl rfl ?_
  refine zx_getI (nn := 9) flX11_167 rfl rfl dX11_takesValue_6 rfl ?_
  rw [show μ 0 10 = gTk T len k from hS.2.1.2.2]
  show zX shR σ 6 MX11_takesValue 9 [(1, zi (gFct (tK T len k))), (0, zr 0)] [zi (gTk T len k)] μ _
  refine zx_iconst (v := 2) (nn := 10) rfl dX11_takesValue_9 rfl ?_
  refine zx_icmp_eq (tgt := 22) (nn := 13) dX11_takesValue_10 (by decide) rfl (fun h10 => ?_) (fun h10 => ?_)
  · refine zx_aload_n (k := 1) (nn := 23) dX11_takesValue_22 rfl rfl rfl ?_
    refine zx_aload_n (k := 1) (nn := 24) dX11_takesValue_23 rfl rfl rfl ?_
    refine zx_getI (nn := 27) flX11_167 rfl rfl dX11_takesValue_24 rfl ?_
    rw [show μ 0 10 = gTk T len k from hS.2.1.2.2]
    show zX shR σ 6 MX11_takesValue 27 [(1, zi (gFct (tK T len k))), (0, zr 0)] [zi (gTk T len k), zr 0] μ _
    refine zx_iconst (v := 2) (nn := 28) rfl dX11_takesValue_27 rfl ?_
    refine zx_icmp_ne (tgt := 35) (nn := 31) dX11_takesValue_28 (by decide) rfl (fun h28 => ?_) (fun h28 => ?_)
    · exact absurd h10 h28
    · refine zx_iconst (v := 0) (nn := 32) rfl dX11_takesValue_31 rfl ?_
      refine zx_goto (tgt := 36) dX11_takesValue_32 (by decide) ?_
      refine zx_aload_n (k := 1) (nn := 37) dX11_takesValue_36 rfl rfl rfl ?_
      refine zx_getI (nn := 40) flX11_167 rfl rfl dX11_takesValue_37 rfl ?_
      rw [show μ 0 10 = gTk T len k from hS.2.1.2.2]
      show zX shR σ 6 MX11_takesValue 40 [(1, zi (gFct (tK T len k))), (0, zr 0)] [zi (gTk T len k), zi 0, zr 0] μ _
      refine zx_iconst (v := 2) (nn := 41) rfl dX11_takesValue_40 rfl ?_
      refine zx_icmp_ne (tgt := 51) (nn := 44) dX11_takesValue_41 (by decide) rfl (fun h41 => ?_) (fun h41 => ?_)
      · exact absurd h10 h41
      · refine zx_aload_n (k := 1) (nn := 45) dX11_takesValue_44 rfl rfl rfl ?_
        refine zx_getI (nn := 48) flX11_176 rfl rfl dX11_takesValue_45 rfl ?_
        rw [show μ 0 11 = tV T len k from hS.2.2.1 h10]
        show zX shR σ 6 MX11_takesValue 48 [(1, zi (gFct (tK T len k))), (0, zr 0)] [zi (tV T len k), zi 0, zr 0] μ _
        refine zx_goto (tgt := 52) dX11_takesValue_48 (by decide) ?_
        refine zx_callVf (nn := 55) (k := 0) (d' := 0) (as := [zi 0, zi (tV T len k)]) (rest := []) (n := 2) (eX11_lays_0 σ μ 0 (tV T len k) cc hS.2.2.2.2.2 (by have := hX.1; have := hS.2.2.2.2.1.1; omega)) kX11_lays mlX11_226 rfl rfl rfl (by decide) rfl rfl (Nat.le_of_ble_eq_true rfl) dX11_takesValue_52 rfl ?_
        show zX shR σ 6 MX11_takesValue 55 [(1, zi (gFct (tK T len k))), (0, zr 0)] [] (gLay μ cc 0 (tV T len k)) _
        refine zx_aload_n (k := 1) (nn := 56) dX11_takesValue_55 rfl rfl rfl ?_
        have La : gS T len (gLay μ cc 0 (tV T len k)) (k) (cc + 1) := hS.lay
        refine zx_callV (nn := 59) (k := 0) (d' := 1) (as := []) (rest := []) (n := 0) (eX11_look_0 σ (gLay μ cc 0 (tV T len k)) T len (tP T len (k + 1)) La.1.1 hX.1 La.2.1.2.1 La.2.2.2.2.1.2.2 La.1.2) kX11_look mlX11_230 rfl rfl rfl (by decide) rfl rfl (Nat.le_of_ble_eq_true rfl) dX11_takesValue_56 rfl ?_
        rintro _ ν1 ⟨rfl, g1⟩
        show zX shR σ 6 MX11_takesValue 59 [(1, zi (gFct (tK T len k))), (0, zr 0)] [] ν1 _
        have Sa : gS T len ν1 (k + 1) (cc + 1) := La.look (fun q => absurd (((K_2 hX).mp h10).symm.trans q) (by decide)) rfl g1
        have Ea := gE.l g1
        have ea1 : ν1 1 = (gLay μ cc 0 (tV T len k)) 1 := g1.1 1 (by decide)
        have eao : ν1 0 13 = (gLay μ cc 0 (tV T len k)) 0 13 := g1.2.1 13 (by omega)
        refine zx_iconst (v := 1) (nn := 60) rfl dX11_takesValue_59 rfl ?_
        refine zx_zret rfl rfl dX11_takesValue_60 ?_
        have h2 : tK T len k = -2 := (K_2 hX).mp h10
        have hE : (rVal (tK T len) (tV T len) k) = (true, k + 1, [tV T len k], [(0, tV T len k)]) := by unfold rVal; rw [if_pos h2]
        rw [hE]
        exact ⟨rfl, gE.lay.tr Ea, fun _ => ⟨Sa, gC.post gC.one ea1, by rw [eao]; unfold gLay; rw [zp_eq, pk_un (by decide), zp_ne (by decide), zp_ne (by decide)]⟩, fun h => by cases h⟩
  · refine zx_iload_n (k := 0) (nn := 14) dX11_takesValue_13 rfl rfl rfl ?_
    refine zx_if_ge (tgt := 22) (nn := 17) dX11_takesValue_14 (by decide) rfl (fun h14 => ?_) (fun h14 => ?_)
    · refine zx_aload_n (k := 1) (nn := 23) dX11_takesValue_22 rfl rfl rfl ?_
      refine zx_aload_n (k := 1) (nn := 24) dX11_takesValue_23 rfl rfl rfl ?_
      refine zx_getI (nn := 27) flX11_167 rfl rfl dX11_takesValue_24 rfl ?_
      rw [show μ 0 10 = gTk T len k from hS.2.1.2.2]
      show zX shR σ 6 MX11_takesValue 27 [(1, zi (gFct (tK T len k))), (0, zr 0)] [zi (gTk T len k), zr 0] μ _
      refine zx_iconst (v := 2) (nn := 28) rfl dX11_takesValue_27 rfl ?_
      refine zx_icmp_ne (tgt := 35) (nn := 31) dX11_takesValue_28 (by decide) rfl (fun h28 => ?_) (fun h28 => ?_)
      · refine zx_iconst (v := 1) (nn := 36) rfl dX11_takesValue_35 rfl ?_
        refine zx_aload_n (k := 1) (nn := 37) dX11_takesValue_36 rfl rfl rfl ?_
        refine zx_getI (nn := 40) flX11_167 rfl rfl dX11_takesValue_37 rfl ?_
        rw [show μ 0 10 = gTk T len k from hS.2.1.2.2]
        show zX shR σ 6 MX11_takesValue 40 [(1, zi (gFct (tK T len k))), (0, zr 0)] [zi (gTk T len k), zi 1, zr 0] μ _
        refine zx_iconst (v := 2) (nn := 41) rfl dX11_takesValue_40 rfl ?_
        refine zx_icmp_ne (tgt := 51) (nn := 44) dX11_takesValue_41 (by decide) rfl (fun h41 => ?_) (fun h41 => ?_)
        · refine zx_iload_n (k := 0) (nn := 52) dX11_takesValue_51 rfl rfl rfl ?_
          refine zx_callVf (nn := 55) (k := 0) (d' := 0) (as := [zi 1, zi (gFct (tK T len k))]) (rest := []) (n := 2) (eX11_lays_0 σ μ 1 (gFct (tK T len k)) cc hS.2.2.2.2.2 (by have := hX.1; have := hS.2.2.2.2.1.1; omega)) kX11_lays mlX11_226 rfl rfl rfl (by decide) rfl rfl (Nat.le_of_ble_eq_true rfl) dX11_takesValue_52 rfl ?_
          show zX shR σ 6 MX11_takesValue 55 [(1, zi (gFct (tK T len k))), (0, zr 0)] [] (gLay μ cc 1 (gFct (tK T len k))) _
          refine zx_aload_n (k := 1) (nn := 56) dX11_takesValue_55 rfl rfl rfl ?_
          have La : gS T len (gLay μ cc 1 (gFct (tK T len k))) (k) (cc + 1) := hS.lay
          refine zx_callV (nn := 59) (k := 0) (d' := 1) (as := []) (rest := []) (n := 0) (eX11_look_0 σ (gLay μ cc 1 (gFct (tK T len k))) T len (tP T len (k + 1)) La.1.1 hX.1 La.2.1.2.1 La.2.2.2.2.1.2.2 La.1.2) kX11_look mlX11_230 rfl rfl rfl (by decide) rfl rfl (Nat.le_of_ble_eq_true rfl) dX11_takesValue_56 rfl ?_
          rintro _ ν2 ⟨rfl, g2⟩
          show zX shR σ 6 MX11_takesValue 59 [(1, zi (gFct (tK T len k))), (0, zr 0)] [] ν2 _
          have Sa : gS T len ν2 (k + 1) (cc + 1) := La.look (fun q => absurd ((fct_yes h14).1.1) (by rw [q]; decide)) rfl g2
          have Ea := gE.l g2
          have ea1 : ν2 1 = (gLay μ cc 1 (gFct (tK T len k))) 1 := g2.1 1 (by decide)
          have eao : ν2 0 13 = (gLay μ cc 1 (gFct (tK T len k))) 0 13 := g2.2.1 13 (by omega)
          refine zx_iconst (v := 1) (nn := 60) rfl dX11_takesValue_59 rfl ?_
          refine zx_zret rfl rfl dX11_takesValue_60 ?_
          have h2 : ¬ tK T len k = -2 := fun q => h10 ((K_2 hX).mpr q)
          have hf := fct_yes h14
          have hE : (rVal (tK T len) (tV T len) k) = (true, k + 1, [-1 - (tK T len k - 269)], [(1, gFct (tK T len k))]) := by unfold rVal; rw [if_neg h2, if_pos hf.1, hf.2]
          rw [hE]
          exact ⟨rfl, gE.lay.tr Ea, fun _ => ⟨Sa, gC.post gC.one ea1, by rw [eao]; unfold gLay; rw [zp_eq, pk_un (by decide), zp_ne (by decide), zp_ne (by decide)]⟩, fun h => by cases h⟩
        · exact absurd h41 h10
      · exact absurd h28 h10
    · refine zx_aload_n (k := 1) (nn := 18) dX11_takesValue_17 rfl rfl rfl ?_
      refine zx_callVf (nn := 21) (k := 0) (d' := 0) (as := []) (rest := []) (n := 0) (eX11_wrong_0 σ μ   ) kX11_wrong mlX11_223 rfl rfl rfl (by decide) rfl rfl (Nat.le_of_ble_eq_true rfl) dX11_takesValue_18 rfl ?_
      show zX shR σ 6 MX11_takesValue 21 [(1, zi (gFct (tK T len k))), (0, zr 0)] [zi 0] (zp μ 0 12 (μ 0 9)) _
      refine zx_zret rfl rfl dX11_takesValue_21 ?_
      have h2 : ¬ tK T len k = -2 := fun q => h10 ((K_2 hX).mpr q)
      have hE : (rVal (tK T len) (tV T len) k) = (false, k, [], []) := by unfold rVal; rw [if_neg h2, if_neg (fct_no h14)]
      rw [hE]
      exact ⟨rfl, gE.f (by omega) (by omega), (fun h => by cases h), fun _ => ⟨by rw [zp_eq, pk_us]; exact hS.2.1.1, cc, by rw [zp_eq, pk_un (by decide)]; exact hS.2.2.2.2.2, Nat.le_refl _⟩⟩
set_option maxHeartbeats 4000000 in
set_option maxRecDepth 100000 in
theorem eX11_takesTest_0 (σ : zG) (μ : zM) (T : Nat → Int32) (len k cc : Nat) (hX : gX T len) (hS : gS T len μ k cc) (hcc : cc ≤ k) : zMet shR σ 7 MX11_takesTest yX11_takesTest [zr 0] μ (fun rr μ' => rr = some (zi (zb (rTest (tK T len) (tV T len) k).1)) ∧ gPs T len k cc (rTest (tK T len) (tV T len) k) μ μ') := by
  refine zmetF (by decide +kernel) rfl (Nat.le_of_ble_eq_true rfl) ?_
  show zX shR σ 7 MX11_takesTest 0 [(0, zr 0)] [] μ _
  refine zx_aload_n (k := 0) (nn := 1) dX11_takesTest_0 rfl rfl rfl ?_
  refine zx_callV (nn := 4) (k := 0) (d' := 6) (as := []) (rest := []) (n := 0) (eX11_takesValue_0 σ μ T len k cc hX hS hcc) kX11_takesValue mlX11_233 rfl rfl rfl (by decide) rfl rfl (Nat.le_of_ble_eq_true rfl) dX11_takesTest_1 rfl ?_
  rintro _ ν1 ⟨rfl, p1⟩
  show zX shR σ 7 MX11_takesTest 4 [(0, zr 0)] [zi (zb (rVal (tK T len) (tV T len) k).1)] ν1 _
  refine zx_ifb_ne (tgt := 9) (nn := 7) dX11_takesTest_4 (by decide) rfl (fun h4 => ?_) (fun h4 => ?_)
  · have Sa := (p1.2.1 h4).1
    have hk0 := hS.2.2.2.2.1.1
    have hga := gd_val (V := (tV T len)) (tK_len (T := T) (len := len)) k hk0
    refine zx_aload_n (k := 0) (nn := 10) dX11_takesTest_9 rfl rfl rfl ?_
    refine zx_bipush (v := 60) (nn := 12) rfl dX11_takesTest_10 rfl ?_
    refine zx_callVf (nn := 15) (k := 0) (d' := 0) (as := [zi 60]) (rest := []) (n := 1) (eX11_isSign_0 σ ν1 60 T len ((rVal (tK T len) (tV T len) k).2.1) (cc + (rVal (tK T len) (tV T len) k).2.2.2.length) (Sa) (by decide)) kX11_isSign mlX11_236 rfl rfl rfl (by decide) rfl rfl (Nat.le_of_ble_eq_true rfl) dX11_takesTest_12 rfl ?_
    show zX shR σ 7 MX11_takesTest 15 [(0, zr 0)] [zi (zb (decide (tK T len ((rVal (tK T len) (tV T len) k).2.1) = 60)))] ν1 _
    refine zx_ifb_ne (tgt := 41) (nn := 18) dX11_takesTest_15 (by decide) rfl (fun h15 => ?_) (fun h15 => ?_)
    · refine zx_aload_n (k := 0) (nn := 42) dX11_takesTest_41 rfl rfl rfl ?_
      refine zx_getI (nn := 45) flX11_176 rfl rfl dX11_takesTest_42 rfl ?_
      have hsg : tK T len (rVal (tK T len) (tV T len) k).2.1 = 60 ∨ tK T len (rVal (tK T len) (tV T len) k).2.1 = 61 ∨ tK T len (rVal (tK T len) (tV T len) k).2.1 = 62 := Or.inl (of_decide_eq_true h15)
      have hT3 : gTk T len (rVal (tK T len) (tV T len) k).2.1 = 3 := sg_3 hX hsg
      have hne : tK T len (rVal (tK T len) (tV T len) k).2.1 ≠ -1 := fun q => by rw [q] at hsg; revert hsg; decide
      have hlen2 : (rVal (tK T len) (tV T len) k).2.1 ≠ len := fun q => hne (by rw [q]; exact tK_len)
      have hgb := gd_val (V := (tV T len)) (tK_len (T := T) (len := len)) ((rVal (tK T len) (tV T len) k).2.1 + 1) (by omega)
      rw [show ν1 0 11 = tK T len (rVal (tK T len) (tV T len) k).2.1 from (Sa.2.2.2.1 hT3).trans (K_3 hT3).symm]
      show zX shR σ 7 MX11_takesTest 45 [(0, zr 0)] [zi (tK T len (rVal (tK T len) (tV T len) k).2.1)] ν1 _
      refine zx_istore_n (nn := 46) (lv' := [(1, zi (tK T len (rVal (tK T len) (tV T len) k).2.1)), (0, zr 0)]) dX11_takesTest_45 rfl (by decide) rfl rfl ?_
      refine zx_aload_n (k := 1) (nn := 47) dX11_takesTest_46 rfl rfl rfl ?_
      have Lb : gS T len ν1 ((rVal (tK T len) (tV T len) k).2.1) (cc + (rVal (tK T len) (tV T len) k).2.2.2.length) := Sa
      refine zx_callV (nn := 50) (k := 0) (d' := 1) (as := []) (rest := []) (n := 0) (eX11_look_0 σ ν1 T len (tP T len ((rVal (tK T len) (tV T len) k).2.1 + 1)) Lb.1.1 hX.1 Lb.2.1.2.1 Lb.2.2.2.2.1.2.2 Lb.1.2) kX11_look mlX11_230 rfl rfl rfl (by decide) rfl rfl (Nat.le_of_ble_eq_true rfl) dX11_takesTest_47 rfl ?_
      rintro _ ν2 ⟨rfl, g2⟩
      show zX shR σ 7 MX11_takesTest 50 [(1, zi (tK T len (rVal (tK T len) (tV T len) k).2.1)), (0, zr 0)] [] ν2 _
      have Sb : gS T len ν2 ((rVal (tK T len) (tV T len) k).2.1 + 1) (cc + (rVal (tK T len) (tV T len) k).2.2.2.length) := Lb.look hne rfl g2
      have Eb := gE.l g2
      have eb1 : ν2 1 = ν1 1 := g2.1 1 (by decide)
      have ebo : ν2 0 13 = ν1 0 13 := g2.2.1 13 (by omega)
      refine zx_aload_n (k := 1) (nn := 51) dX11_takesTest_50 rfl rfl rfl ?_
      refine zx_callV (nn := 54) (k := 0) (d' := 6) (as := []) (rest := []) (n := 0) (eX11_takesValue_0 σ ν2 T len ((rVal (tK T len) (tV T len) k).2.1 + 1) (cc + (rVal (tK T len) (tV T len) k).2.2.2.length) hX Sb (by omega)) kX11_takesValue mlX11_233 rfl rfl rfl (by decide) rfl rfl (Nat.le_of_ble_eq_true rfl) dX11_takesTest_51 rfl ?_
      rintro _ ν3 ⟨rfl, p2⟩
      show zX shR σ 7 MX11_takesTest 54 [(1, zi (tK T len (rVal (tK T len) (tV T len) k).2.1)), (0, zr 0)] [zi (zb (rVal (tK T len) (tV T len) ((rVal (tK T len) (tV T len) k).2.1 + 1)).1)] ν3 _
      refine zx_ifb_ne (tgt := 59) (nn := 57) dX11_takesTest_54 (by decide) rfl (fun h54 => ?_) (fun h54 => ?_)
      · refine zx_aload_n (k := 1) (nn := 60) dX11_takesTest_59 rfl rfl rfl ?_
        refine zx_iconst (v := 2) (nn := 61) rfl dX11_takesTest_60 rfl ?_
        refine zx_iload_n (k := 0) (nn := 62) dX11_takesTest_61 rfl rfl rfl ?_
        refine zx_callVf (nn := 65) (k := 0) (d' := 0) (as := [zi 2, zi (tK T len (rVal (tK T len) (tV T len) k).2.1)]) (rest := []) (n := 2) (eX11_lays_0 σ ν3 2 (tK T len (rVal (tK T len) (tV T len) k).2.1) (cc + (rVal (tK T len) (tV T len) k).2.2.2.length + (rVal (tK T len) (tV T len) ((rVal (tK T len) (tV T len) k).2.1 + 1)).2.2.2.length) (p2.2.1 h54).1.2.2.2.2.2 (by have := hX.1; omega)) kX11_lays mlX11_226 rfl rfl rfl (by decide) rfl rfl (Nat.le_of_ble_eq_true rfl) dX11_takesTest_62 rfl ?_
        show zX shR σ 7 MX11_takesTest 65 [(1, zi (tK T len (rVal (tK T len) (tV T len) k).2.1)), (0, zr 0)] [] (gLay ν3 (cc + (rVal (tK T len) (tV T len) k).2.2.2.length + (rVal (tK T len) (tV T len) ((rVal (tK T len) (tV T len) k).2.1 + 1)).2.2.2.length) 2 (tK T len (rVal (tK T len) (tV T len) k).2.1)) _
        refine zx_iconst (v := 1) (nn := 66) rfl dX11_takesTest_65 rfl ?_
        refine zx_zret rfl rfl dX11_takesTest_66 ?_
        have hs : ¬ rSign (tK T len (rVal (tK T len) (tV T len) k).2.1) = 0 := sg_yes hsg
        have hE : (rTest (tK T len) (tV T len) k) = (true, (rVal (tK T len) (tV T len) ((rVal (tK T len) (tV T len) k).2.1 + 1)).2.1, (rVal (tK T len) (tV T len) k).2.2.1 ++ ((rVal (tK T len) (tV T len) ((rVal (tK T len) (tV T len) k).2.1 + 1)).2.2.1 ++ [rSign (tK T len (rVal (tK T len) (tV T len) k).2.1)]), ((rVal (tK T len) (tV T len) k).2.2.2 ++ ((rVal (tK T len) (tV T len) ((rVal (tK T len) (tV T len) k).2.1 + 1)).2.2.2 ++ [((2 : Int32), tK T len (rVal (tK T len) (tV T len) k).2.1)]))) := by unfold rTest; rw [if_pos h4, if_neg hs, if_pos h54]
        rw [hE]
        refine ⟨rfl, ((p1.1.tr Eb).tr p2.1).tr gE.lay, fun _ => ⟨?_, ?_, ?_⟩, fun h => by cases h⟩
        · have hh := (p2.2.1 h54).1.lay (w := 2) (v := tK T len (rVal (tK T len) (tV T len) k).2.1)
          rw [show cc + ((rVal (tK T len) (tV T len) k).2.2.2 ++ ((rVal (tK T len) (tV T len) ((rVal (tK T len) (tV T len) k).2.1 + 1)).2.2.2 ++ [((2 : Int32), tK T len (rVal (tK T len) (tV T len) k).2.1)])).length = (cc + (rVal (tK T len) (tV T len) k).2.2.2.length + (rVal (tK T len) (tV T len) ((rVal (tK T len) (tV T len) k).2.1 + 1)).2.2.2.length) + 1 by simp only [List.length_append, List.length_cons, List.length_nil]; omega]
          exact hh
        · exact (p1.2.1 h4).2.1.app (gC.pre eb1 ((p2.2.1 h54).2.1.app gC.one))
        · unfold gLay
          rw [zp_eq, pk_un (by decide), zp_ne (by decide), zp_ne (by decide), (p2.2.1 h54).2.2, ebo]
          exact (p1.2.1 h4).2.2
      · refine zx_iconst (v := 0) (nn := 58) rfl dX11_takesTest_57 rfl ?_
        refine zx_zret rfl rfl dX11_takesTest_58 ?_
        have hs : ¬ rSign (tK T len (rVal (tK T len) (tV T len) k).2.1) = 0 := sg_yes hsg
        have hE : (rTest (tK T len) (tV T len) k) = (false, (rVal (tK T len) (tV T len) ((rVal (tK T len) (tV T len) k).2.1 + 1)).2.1, [], []) := by unfold rTest; rw [if_pos h4, if_neg hs, if_neg (by rw [h54]; decide)]
        rw [hE]
        obtain ⟨z1, z2, z3, z4⟩ := p2.2.2 h54
        exact ⟨rfl, (p1.1.tr Eb).tr p2.1, (fun h => by cases h), fun _ => ⟨z1, z2, z3, by show z2 + k ≤ cc + (rVal (tK T len) (tV T len) ((rVal (tK T len) (tV T len) k).2.1 + 1)).2.1; omega⟩⟩
    · refine zx_aload_n (k := 0) (nn := 19) dX11_takesTest_18 rfl rfl rfl ?_
      refine zx_bipush (v := 61) (nn := 21) rfl dX11_takesTest_19 rfl ?_
      refine zx_callVf (nn := 24) (k := 0) (d' := 0) (as := [zi 61]) (rest := []) (n := 1) (eX11_isSign_0 σ ν1 61 T len ((rVal (tK T len) (tV T len) k).2.1) (cc + (rVal (tK T len) (tV T len) k).2.2.2.length) (Sa) (by decide)) kX11_isSign mlX11_236 rfl rfl rfl (by decide) rfl rfl (Nat.le_of_ble_eq_true rfl) dX11_takesTest_21 rfl ?_
      show zX shR σ 7 MX11_takesTest 24 [(0, zr 0)] [zi (zb (decide (tK T len ((rVal (tK T len) (tV T len) k).2.1) = 61)))] ν1 _
      refine zx_ifb_ne (tgt := 41) (nn := 27) dX11_takesTest_24 (by decide) rfl (fun h24 => ?_) (fun h24 => ?_)
      · refine zx_aload_n (k := 0) (nn := 42) dX11_takesTest_41 rfl rfl rfl ?_
        refine zx_getI (nn := 45) flX11_176 rfl rfl dX11_takesTest_42 rfl ?_
        have hsg : tK T len (rVal (tK T len) (tV T len) k).2.1 = 60 ∨ tK T len (rVal (tK T len) (tV T len) k).2.1 = 61 ∨ tK T len (rVal (tK T len) (tV T len) k).2.1 = 62 := Or.inr (Or.inl (of_decide_eq_true h24))
        have hT3 : gTk T len (rVal (tK T len) (tV T len) k).2.1 = 3 := sg_3 hX hsg
        have hne : tK T len (rVal (tK T len) (tV T len) k).2.1 ≠ -1 := fun q => by rw [q] at hsg; revert hsg; decide
        have hlen2 : (rVal (tK T len) (tV T len) k).2.1 ≠ len := fun q => hne (by rw [q]; exact tK_len)
        have hgb := gd_val (V := (tV T len)) (tK_len (T := T) (len := len)) ((rVal (tK T len) (tV T len) k).2.1 + 1) (by omega)
        rw [show ν1 0 11 = tK T len (rVal (tK T len) (tV T len) k).2.1 from (Sa.2.2.2.1 hT3).trans (K_3 hT3).symm]
        show zX shR σ 7 MX11_takesTest 45 [(0, zr 0)] [zi (tK T len (rVal (tK T len) (tV T len) k).2.1)] ν1 _
        refine zx_istore_n (nn := 46) (lv' := [(1, zi (tK T len (rVal (tK T len) (tV T len) k).2.1)), (0, zr 0)]) dX11_takesTest_45 rfl (by decide) rfl rfl ?_
        refine zx_aload_n (k := 1) (nn := 47) dX11_takesTest_46 rfl rfl rfl ?_
        have Lb : gS T len ν1 ((rVal (tK T len) (tV T len) k).2.1) (cc + (rVal (tK T len) (tV T len) k).2.2.2.length) := Sa
        refine zx_callV (nn := 50) (k := 0) (d' := 1) (as := []) (rest := []) (n := 0) (eX11_look_0 σ ν1 T len (tP T len ((rVal (tK T len) (tV T len) k).2.1 + 1)) Lb.1.1 hX.1 Lb.2.1.2.1 Lb.2.2.2.2.1.2.2 Lb.1.2) kX11_look mlX11_230 rfl rfl rfl (by decide) rfl rfl (Nat.le_of_ble_eq_true rfl) dX11_takesTest_47 rfl ?_
        rintro _ ν4 ⟨rfl, g4⟩
        show zX shR σ 7 MX11_takesTest 50 [(1, zi (tK T len (rVal (tK T len) (tV T len) k).2.1)), (0, zr 0)] [] ν4 _
        have Sb : gS T len ν4 ((rVal (tK T len) (tV T len) k).2.1 + 1) (cc + (rVal (tK T len) (tV T len) k).2.2.2.length) := Lb.look hne rfl g4
        have Eb := gE.l g4
        have eb1 : ν4 1 = ν1 1 := g4.1 1 (by decide)
        have ebo : ν4 0 13 = ν1 0 13 := g4.2.1 13 (by omega)
        refine zx_aload_n (k := 1) (nn := 51) dX11_takesTest_50 rfl rfl rfl ?_
        refine zx_callV (nn := 54) (k := 0) (d' := 6) (as := []) (rest := []) (n := 0) (eX11_takesValue_0 σ ν4 T len ((rVal (tK T len) (tV T len) k).2.1 + 1) (cc + (rVal (tK T len) (tV T len) k).2.2.2.length) hX Sb (by omega)) kX11_takesValue mlX11_233 rfl rfl rfl (by decide) rfl rfl (Nat.le_of_ble_eq_true rfl) dX11_takesTest_51 rfl ?_
        rintro _ ν5 ⟨rfl, p2⟩
        show zX shR σ 7 MX11_takesTest 54 [(1, zi (tK T len (rVal (tK T len) (tV T len) k).2.1)), (0, zr 0)] [zi (zb (rVal (tK T len) (tV T len) ((rVal (tK T len) (tV T len) k).2.1 + 1)).1)] ν5 _
        refine zx_ifb_ne (tgt := 59) (nn := 57) dX11_takesTest_54 (by decide) rfl (fun h54 => ?_) (fun h54 => ?_)
        · refine zx_aload_n (k := 1) (nn := 60) dX11_takesTest_59 rfl rfl rfl ?_
          refine zx_iconst (v := 2) (nn := 61) rfl dX11_takesTest_60 rfl ?_
          refine zx_iload_n (k := 0) (nn := 62) dX11_takesTest_61 rfl rfl rfl ?_
          refine zx_callVf (nn := 65) (k := 0) (d' := 0) (as := [zi 2, zi (tK T len (rVal (tK T len) (tV T len) k).2.1)]) (rest := []) (n := 2) (eX11_lays_0 σ ν5 2 (tK T len (rVal (tK T len) (tV T len) k).2.1) (cc + (rVal (tK T len) (tV T len) k).2.2.2.length + (rVal (tK T len) (tV T len) ((rVal (tK T len) (tV T len) k).2.1 + 1)).2.2.2.length) (p2.2.1 h54).1.2.2.2.2.2 (by have := hX.1; omega)) kX11_lays mlX11_226 rfl rfl rfl (by decide) rfl rfl (Nat.le_of_ble_eq_true rfl) dX11_takesTest_62 rfl ?_
          show zX shR σ 7 MX11_takesTest 65 [(1, zi (tK T len (rVal (tK T len) (tV T len) k).2.1)), (0, zr 0)] [] (gLay ν5 (cc + (rVal (tK T len) (tV T len) k).2.2.2.length + (rVal (tK T len) (tV T len) ((rVal (tK T len) (tV T len) k).2.1 + 1)).2.2.2.length) 2 (tK T len (rVal (tK T len) (tV T len) k).2.1)) _
          refine zx_iconst (v := 1) (nn := 66) rfl dX11_takesTest_65 rfl ?_
          refine zx_zret rfl rfl dX11_takesTest_66 ?_
          have hs : ¬ rSign (tK T len (rVal (tK T len) (tV T len) k).2.1) = 0 := sg_yes hsg
          have hE : (rTest (tK T len) (tV T len) k) = (true, (rVal (tK T len) (tV T len) ((rVal (tK T len) (tV T len) k).2.1 + 1)).2.1, (rVal (tK T len) (tV T len) k).2.2.1 ++ ((rVal (tK T len) (tV T len) ((rVal (tK T len) (tV T len) k).2.1 + 1)).2.2.1 ++ [rSign (tK T len (rVal (tK T len) (tV T len) k).2.1)]), ((rVal (tK T len) (tV T len) k).2.2.2 ++ ((rVal (tK T len) (tV T len) ((rVal (tK T len) (tV T len) k).2.1 + 1)).2.2.2 ++ [((2 : Int32), tK T len (rVal (tK T len) (tV T len) k).2.1)]))) := by unfold rTest; rw [if_pos h4, if_neg hs, if_pos h54]
          rw [hE]
          refine ⟨rfl, ((p1.1.tr Eb).tr p2.1).tr gE.lay, fun _ => ⟨?_, ?_, ?_⟩, fun h => by cases h⟩
          · have hh := (p2.2.1 h54).1.lay (w := 2) (v := tK T len (rVal (tK T len) (tV T len) k).2.1)
            rw [show cc + ((rVal (tK T len) (tV T len) k).2.2.2 ++ ((rVal (tK T len) (tV T len) ((rVal (tK T len) (tV T len) k).2.1 + 1)).2.2.2 ++ [((2 : Int32), tK T len (rVal (tK T len) (tV T len) k).2.1)])).length = (cc + (rVal (tK T len) (tV T len) k).2.2.2.length + (rVal (tK T len) (tV T len) ((rVal (tK T len) (tV T len) k).2.1 + 1)).2.2.2.length) + 1 by simp only [List.length_append, List.length_cons, List.length_nil]; omega]
            exact hh
          · exact (p1.2.1 h4).2.1.app (gC.pre eb1 ((p2.2.1 h54).2.1.app gC.one))
          · unfold gLay
            rw [zp_eq, pk_un (by decide), zp_ne (by decide), zp_ne (by decide), (p2.2.1 h54).2.2, ebo]
            exact (p1.2.1 h4).2.2
        · refine zx_iconst (v := 0) (nn := 58) rfl dX11_takesTest_57 rfl ?_
          refine zx_zret rfl rfl dX11_takesTest_58 ?_
          have hs : ¬ rSign (tK T len (rVal (tK T len) (tV T len) k).2.1) = 0 := sg_yes hsg
          have hE : (rTest (tK T len) (tV T len) k) = (false, (rVal (tK T len) (tV T len) ((rVal (tK T len) (tV T len) k).2.1 + 1)).2.1, [], []) := by unfold rTest; rw [if_pos h4, if_neg hs, if_neg (by rw [h54]; decide)]
          rw [hE]
          obtain ⟨z1, z2, z3, z4⟩ := p2.2.2 h54
          exact ⟨rfl, (p1.1.tr Eb).tr p2.1, (fun h => by cases h), fun _ => ⟨z1, z2, z3, by show z2 + k ≤ cc + (rVal (tK T len) (tV T len) ((rVal (tK T len) (tV T len) k).2.1 + 1)).2.1; omega⟩⟩
      · refine zx_aload_n (k := 0) (nn := 28) dX11_takesTest_27 rfl rfl rfl ?_
        refine zx_bipush (v := 62) (nn := 30) rfl dX11_takesTest_28 rfl ?_
        refine zx_callVf (nn := 33) (k := 0) (d' := 0) (as := [zi 62]) (rest := []) (n := 1) (eX11_isSign_0 σ ν1 62 T len ((rVal (tK T len) (tV T len) k).2.1) (cc + (rVal (tK T len) (tV T len) k).2.2.2.length) (Sa) (by decide)) kX11_isSign mlX11_236 rfl rfl rfl (by decide) rfl rfl (Nat.le_of_ble_eq_true rfl) dX11_takesTest_30 rfl ?_
        show zX shR σ 7 MX11_takesTest 33 [(0, zr 0)] [zi (zb (decide (tK T len ((rVal (tK T len) (tV T len) k).2.1) = 62)))] ν1 _
        refine zx_ifb_ne (tgt := 41) (nn := 36) dX11_takesTest_33 (by decide) rfl (fun h33 => ?_) (fun h33 => ?_)
        · refine zx_aload_n (k := 0) (nn := 42) dX11_takesTest_41 rfl rfl rfl ?_
          refine zx_getI (nn := 45) flX11_176 rfl rfl dX11_takesTest_42 rfl ?_
          have hsg : tK T len (rVal (tK T len) (tV T len) k).2.1 = 60 ∨ tK T len (rVal (tK T len) (tV T len) k).2.1 = 61 ∨ tK T len (rVal (tK T len) (tV T len) k).2.1 = 62 := Or.inr (Or.inr (of_decide_eq_true h33))
          have hT3 : gTk T len (rVal (tK T len) (tV T len) k).2.1 = 3 := sg_3 hX hsg
          have hne : tK T len (rVal (tK T len) (tV T len) k).2.1 ≠ -1 := fun q => by rw [q] at hsg; revert hsg; decide
          have hlen2 : (rVal (tK T len) (tV T len) k).2.1 ≠ len := fun q => hne (by rw [q]; exact tK_len)
          have hgb := gd_val (V := (tV T len)) (tK_len (T := T) (len := len)) ((rVal (tK T len) (tV T len) k).2.1 + 1) (by omega)
          rw [show ν1 0 11 = tK T len (rVal (tK T len) (tV T len) k).2.1 from (Sa.2.2.2.1 hT3).trans (K_3 hT3).symm]
          show zX shR σ 7 MX11_takesTest 45 [(0, zr 0)] [zi (tK T len (rVal (tK T len) (tV T len) k).2.1)] ν1 _
          refine zx_istore_n (nn := 46) (lv' := [(1, zi (tK T len (rVal (tK T len) (tV T len) k).2.1)), (0, zr 0)]) dX11_takesTest_45 rfl (by decide) rfl rfl ?_
          refine zx_aload_n (k := 1) (nn := 47) dX11_takesTest_46 rfl rfl rfl ?_
          have Lb : gS T len ν1 ((rVal (tK T len) (tV T len) k).2.1) (cc + (rVal (tK T len) (tV T len) k).2.2.2.length) := Sa
          refine zx_callV (nn := 50) (k := 0) (d' := 1) (as := []) (rest := []) (n := 0) (eX11_look_0 σ ν1 T len (tP T len ((rVal (tK T len) (tV T len) k).2.1 + 1)) Lb.1.1 hX.1 Lb.2.1.2.1 Lb.2.2.2.2.1.2.2 Lb.1.2) kX11_look mlX11_230 rfl rfl rfl (by decide) rfl rfl (Nat.le_of_ble_eq_true rfl) dX11_takesTest_47 rfl ?_
          rintro _ ν6 ⟨rfl, g6⟩
          show zX shR σ 7 MX11_takesTest 50 [(1, zi (tK T len (rVal (tK T len) (tV T len) k).2.1)), (0, zr 0)] [] ν6 _
          have Sb : gS T len ν6 ((rVal (tK T len) (tV T len) k).2.1 + 1) (cc + (rVal (tK T len) (tV T len) k).2.2.2.length) := Lb.look hne rfl g6
          have Eb := gE.l g6
          have eb1 : ν6 1 = ν1 1 := g6.1 1 (by decide)
          have ebo : ν6 0 13 = ν1 0 13 := g6.2.1 13 (by omega)
          refine zx_aload_n (k := 1) (nn := 51) dX11_takesTest_50 rfl rfl rfl ?_
          refine zx_callV (nn := 54) (k := 0) (d' := 6) (as := []) (rest := []) (n := 0) (eX11_takesValue_0 σ ν6 T len ((rVal (tK T len) (tV T len) k).2.1 + 1) (cc + (rVal (tK T len) (tV T len) k).2.2.2.length) hX Sb (by omega)) kX11_takesValue mlX11_233 rfl rfl rfl (by decide) rfl rfl (Nat.le_of_ble_eq_true rfl) dX11_takesTest_51 rfl ?_
          rintro _ ν7 ⟨rfl, p2⟩
          show zX shR σ 7 MX11_takesTest 54 [(1, zi (tK T len (rVal (tK T len) (tV T len) k).2.1)), (0, zr 0)] [zi (zb (rVal (tK T len) (tV T len) ((rVal (tK T len) (tV T len) k).2.1 + 1)).1)] ν7 _
          refine zx_ifb_ne (tgt := 59) (nn := 57) dX11_takesTest_54 (by decide) rfl (fun h54 => ?_) (fun h54 => ?_)
          · refine zx_aload_n (k := 1) (nn := 60) dX11_takesTest_59 rfl rfl rfl ?_
            refine zx_iconst (v := 2) (nn := 61) rfl dX11_takesTest_60 rfl ?_
            refine zx_iload_n (k := 0) (nn := 62) dX11_takesTest_61 rfl rfl rfl ?_
            refine zx_callVf (nn := 65) (k := 0) (d' := 0) (as := [zi 2, zi (tK T len (rVal (tK T len) (tV T len) k).2.1)]) (rest := []) (n := 2) (eX11_lays_0 σ ν7 2 (tK T len (rVal (tK T len) (tV T len) k).2.1) (cc + (rVal (tK T len) (tV T len) k).2.2.2.length + (rVal (tK T len) (tV T len) ((rVal (tK T len) (tV T len) k).2.1 + 1)).2.2.2.length) (p2.2.1 h54).1.2.2.2.2.2 (by have := hX.1; omega)) kX11_lays mlX11_226 rfl rfl rfl (by decide) rfl rfl (Nat.le_of_ble_eq_true rfl) dX11_takesTest_62 rfl ?_
            show zX shR σ 7 MX11_takesTest 65 [(1, zi (tK T len (rVal (tK T len) (tV T len) k).2.1)), (0, zr 0)] [] (gLay ν7 (cc + (rVal (tK T len) (tV T len) k).2.2.2.length + (rVal (tK T len) (tV T len) ((rVal (tK T len) (tV T len) k).2.1 + 1)).2.2.2.length) 2 (tK T len (rVal (tK T len) (tV T len) k).2.1)) _
            refine zx_iconst (v := 1) (nn := 66) rfl dX11_takesTest_65 rfl ?_
            refine zx_zret rfl rfl dX11_takesTest_66 ?_
            have hs : ¬ rSign (tK T len (rVal (tK T len) (tV T len) k).2.1) = 0 := sg_yes hsg
            have hE : (rTest (tK T len) (tV T len) k) = (true, (rVal (tK T len) (tV T len) ((rVal (tK T len) (tV T len) k).2.1 + 1)).2.1, (rVal (tK T len) (tV T len) k).2.2.1 ++ ((rVal (tK T len) (tV T len) ((rVal (tK T len) (tV T len) k).2.1 + 1)).2.2.1 ++ [rSign (tK T len (rVal (tK T len) (tV T len) k).2.1)]), ((rVal (tK T len) (tV T len) k).2.2.2 ++ ((rVal (tK T len) (tV T len) ((rVal (tK T len) (tV T len) k).2.1 + 1)).2.2.2 ++ [((2 : Int32), tK T len (rVal (tK T len) (tV T len) k).2.1)]))) := by unfold rTest; rw [if_pos h4, if_neg hs, if_pos h54]
            rw [hE]
            refine ⟨rfl, ((p1.1.tr Eb).tr p2.1).tr gE.lay, fun _ => ⟨?_, ?_, ?_⟩, fun h => by cases h⟩
            · have hh := (p2.2.1 h54).1.lay (w := 2) (v := tK T len (rVal (tK T len) (tV T len) k).2.1)
              rw [show cc + ((rVal (tK T len) (tV T len) k).2.2.2 ++ ((rVal (tK T len) (tV T len) ((rVal (tK T len) (tV T len) k).2.1 + 1)).2.2.2 ++ [((2 : Int32), tK T len (rVal (tK T len) (tV T len) k).2.1)])).length = (cc + (rVal (tK T len) (tV T len) k).2.2.2.length + (rVal (tK T len) (tV T len) ((rVal (tK T len) (tV T len) k).2.1 + 1)).2.2.2.length) + 1 by simp only [List.length_append, List.length_cons, List.length_nil]; omega]
              exact hh
            · exact (p1.2.1 h4).2.1.app (gC.pre eb1 ((p2.2.1 h54).2.1.app gC.one))
            · unfold gLay
              rw [zp_eq, pk_un (by decide), zp_ne (by decide), zp_ne (by decide), (p2.2.1 h54).2.2, ebo]
              exact (p1.2.1 h4).2.2
          · refine zx_iconst (v := 0) (nn := 58) rfl dX11_takesTest_57 rfl ?_
            refine zx_zret rfl rfl dX11_takesTest_58 ?_
            have hs : ¬ rSign (tK T len (rVal (tK T len) (tV T len) k).2.1) = 0 := sg_yes hsg
            have hE : (rTest (tK T len) (tV T len) k) = (false, (rVal (tK T len) (tV T len) ((rVal (tK T len) (tV T len) k).2.1 + 1)).2.1, [], []) := by unfold rTest; rw [if_pos h4, if_neg hs, if_neg (by rw [h54]; decide)]
            rw [hE]
            obtain ⟨z1, z2, z3, z4⟩ := p2.2.2 h54
            exact ⟨rfl, (p1.1.tr Eb).tr p2.1, (fun h => by cases h), fun _ => ⟨z1, z2, z3, by show z2 + k ≤ cc + (rVal (tK T len) (tV T len) ((rVal (tK T len) (tV T len) k).2.1 + 1)).2.1; omega⟩⟩
        · refine zx_aload_n (k := 0) (nn := 37) dX11_takesTest_36 rfl rfl rfl ?_
          refine zx_callVf (nn := 40) (k := 0) (d' := 0) (as := []) (rest := []) (n := 0) (eX11_wrong_0 σ ν1   ) kX11_wrong mlX11_223 rfl rfl rfl (by decide) rfl rfl (Nat.le_of_ble_eq_true rfl) dX11_takesTest_37 rfl ?_
          show zX shR σ 7 MX11_takesTest 40 [(0, zr 0)] [zi 0] (zp ν1 0 12 (ν1 0 9)) _
          refine zx_zret rfl rfl dX11_takesTest_40 ?_
          have hs := sg_no (of_decide_eq_false h15) (of_decide_eq_false h24) (of_decide_eq_false h33)
          have hE : (rTest (tK T len) (tV T len) k) = (false, (rVal (tK T len) (tV T len) k).2.1, [], []) := by unfold rTest; rw [if_pos h4, if_pos hs]
          rw [hE]
          exact ⟨rfl, p1.1.tr (gE.f (by omega) (by omega)), (fun h => by cases h), fun _ => ⟨by rw [zp_eq, pk_us]; exact Sa.2.1.1, cc + (rVal (tK T len) (tV T len) k).2.2.2.length, by rw [zp_eq, pk_un (by decide)]; exact Sa.2.2.2.2.2, by have := hga.2.2; show cc + (rVal (tK T len) (tV T len) k).2.2.2.length + k ≤ cc + (rVal (tK T len) (tV T len) k).2.1; omega⟩⟩
  · refine zx_iconst (v := 0) (nn := 8) rfl dX11_takesTest_7 rfl ?_
    refine zx_zret rfl rfl dX11_takesTest_8 ?_
    have hE : (rTest (tK T len) (tV T len) k) = (false, (rVal (tK T len) (tV T len) k).2.1, [], []) := by unfold rTest; rw [if_neg (by rw [h4]; decide)]
    rw [hE]
    exact ⟨rfl, p1.1, (fun h => by cases h), fun _ => p1.2.2 h4⟩
