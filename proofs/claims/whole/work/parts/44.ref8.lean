/-! the reference: reports, rows -/
def gP (μ : zM) : Nat → Nat → Int32 := fun r w => μ 1 (47 + 4 * r + w)
/-- fields of the reference but a and b are as they were -/
def rF2 (a b : Nat) (μ ν : zM) : Prop := ∀ j, j ≠ a → j ≠ b → ν 0 j = μ 0 j
def gPB (μ : zM) (n : Nat) : Prop := ∀ r, r < n → (0 ≤ gP μ r 1 ∧ gP μ r 1 ≤ 40) ∧ (0 ≤ gP μ r 2 ∧ gP μ r 2 ≤ 9)
theorem act_r {L : Nat} {x : Int32} (hL : L ≤ 6) : (decide ((0 : Int32).toInt64 ≤ x.toInt64) && decide (x.toInt64 ≤ (nI L).toInt64)) = (decide (x = 0) || pHas (nI L) (x - 1)) := by
  rw [in_r]
  unfold pIn pHas
  have e0 : (x = 0) ↔ x.toInt = 0 := by rw [← zt0]; exact ⟨fun h => by rw [h], fun h => Int32.toInt_inj.mp h⟩
  have b1 := Int32.le_toInt x
  have b2 := Int32.toInt_lt x
  have hs : (x - 1).toInt = if x.toInt = -2147483648 then 2147483647 else x.toInt - 1 := by
    rw [Int32.toInt_sub, zt1]
    split
    · rename_i h; rw [h]; rfl
    · exact Int.bmod_eq_of_le (by omega) (by omega)
  rw [← Bool.decide_and, ← Bool.decide_and, ← Bool.decide_or]
  apply dec_eq
  rw [e0, Int32.le_iff_toInt_le, Int32.le_iff_toInt_le, Int32.le_iff_toInt_le, Int32.lt_iff_toInt_lt, nI_toInt (by omega), zt0, hs]
  split <;> omega
set_option maxHeartbeats 4000000 in
set_option maxRecDepth 100000 in
theorem eX11_report_0 (σ : zG) (μ : zM) (b : Int32) (a : Int32) (z : Int32) (g : Int32) (n : Nat) (hc : μ 1 6 = nI n) (hn : n ≤ 6) : zMet shR σ 1 MX11_report yX11_report [zr 0, zi b, zi a, zi z, zi g] μ (fun rr μ' => rr = some (zi (if vReportC b a z g = true then (if n < 6 then nI n else -2) else -1)) ∧ μ' = if vReportC b a z g = true then (if n < 6 then zp (zp (zp (zp (zp μ 1 (47 + 4 * n) b) 1 (47 + 4 * n + 1) a) 1 (47 + 4 * n + 2) z) 1 (47 + 4 * n + 3) g) 1 6 (nI (n + 1)) else μ) else μ) := by
  refine zmetF (by decide +kernel) rfl (Nat.le_of_ble_eq_true rfl) ?_
  show zX shR σ 1 MX11_report 0 [(0, zr 0), (1, zi b), (2, zi a), (3, zi z), (4, zi g)] [] μ _
  refine zx_iload_n (k := 1) (nn := 1) dX11_report_0 rfl rfl rfl ?_
  refine zx_i2l (nn := 2) dX11_report_1 rfl ?_
  refine zx_lconst (v := 0) (nn := 3) rfl dX11_report_2 rfl ?_
  refine zx_ldc2 (v := 15) (nn := 6) cwX11_340 dX11_report_3 rfl ?_
  refine zx_callSf (nn := 9) (d' := 0) (as := [zj b.toInt64, zj 0, zj 15]) (rest := []) (n := 3) (eX11_isIn σ μ b.toInt64 0 15  ) kX11_isIn mlX11_70 (by decide) rfl rfl (Nat.le_of_ble_eq_true rfl) dX11_report_6 rfl ?_
  show zX shR σ 1 MX11_report 9 [(0, zr 0), (1, zi b), (2, zi a), (3, zi z), (4, zi g)] [zi (zb (decide (0 ≤ b.toInt64) && decide (b.toInt64 ≤ 15)))] μ _
  rw [show zb (decide (0 ≤ b.toInt64) && decide (b.toInt64 ≤ 15)) = zb (pIn b 0 15) from congrArg zb (in_r b 0 15)]
  show zX shR σ 1 MX11_report 9 [(0, zr 0), (1, zi b), (2, zi a), (3, zi z), (4, zi g)] [zi (zb (pIn b 0 15))] μ _
  refine zx_ifb_eq (tgt := 49) (nn := 12) dX11_report_9 (by decide) rfl (fun h9 => ?_) (fun h9 => ?_)
  · refine zx_iconst (v := -1) (nn := 50) rfl dX11_report_49 rfl ?_
    refine zx_iret rfl dX11_report_50 ?_
    have hv : vReportC b a z g = false := by unfold vReportC pTold; simp [h9]
    exact ⟨congrArg (fun x => some (zi x)) (by rw [if_neg (by rw [hv]; decide)]), by rw [if_neg (by rw [hv]; decide)]⟩
  · refine zx_iload_n (k := 2) (nn := 13) dX11_report_12 rfl rfl rfl ?_
    refine zx_i2l (nn := 14) dX11_report_13 rfl ?_
    refine zx_lconst (v := 0) (nn := 15) rfl dX11_report_14 rfl ?_
    refine zx_ldc2 (v := 40) (nn := 18) cwX11_74 dX11_report_15 rfl ?_
    refine zx_callSf (nn := 21) (d' := 0) (as := [zj a.toInt64, zj 0, zj 40]) (rest := []) (n := 3) (eX11_isIn σ μ a.toInt64 0 40  ) kX11_isIn mlX11_70 (by decide) rfl rfl (Nat.le_of_ble_eq_true rfl) dX11_report_18 rfl ?_
    show zX shR σ 1 MX11_report 21 [(0, zr 0), (1, zi b), (2, zi a), (3, zi z), (4, zi g)] [zi (zb (decide (0 ≤ a.toInt64) && decide (a.toInt64 ≤ 40)))] μ _
    rw [show zb (decide (0 ≤ a.toInt64) && decide (a.toInt64 ≤ 40)) = zb (pIn a 0 40) from congrArg zb (in_r a 0 40)]
    show zX shR σ 1 MX11_report 21 [(0, zr 0), (1, zi b), (2, zi a), (3, zi z), (4, zi g)] [zi (zb (pIn a 0 40))] μ _
    refine zx_ifb_eq (tgt := 49) (nn := 24) dX11_report_21 (by decide) rfl (fun h21 => ?_) (fun h21 => ?_)
    · refine zx_iconst (v := -1) (nn := 50) rfl dX11_report_49 rfl ?_
      refine zx_iret rfl dX11_report_50 ?_
      have hv : vReportC b a z g = false := by unfold vReportC pTold; simp [h9, h21]
      exact ⟨congrArg (fun x => some (zi x)) (by rw [if_neg (by rw [hv]; decide)]), by rw [if_neg (by rw [hv]; decide)]⟩
    · refine zx_iload_n (k := 3) (nn := 25) dX11_report_24 rfl rfl rfl ?_
      refine zx_i2l (nn := 26) dX11_report_25 rfl ?_
      refine zx_lconst (v := 0) (nn := 27) rfl dX11_report_26 rfl ?_
      refine zx_ldc2 (v := 9) (nn := 30) cwX11_76 dX11_report_27 rfl ?_
      refine zx_callSf (nn := 33) (d' := 0) (as := [zj z.toInt64, zj 0, zj 9]) (rest := []) (n := 3) (eX11_isIn σ μ z.toInt64 0 9  ) kX11_isIn mlX11_70 (by decide) rfl rfl (Nat.le_of_ble_eq_true rfl) dX11_report_30 rfl ?_
      show zX shR σ 1 MX11_report 33 [(0, zr 0), (1, zi b), (2, zi a), (3, zi z), (4, zi g)] [zi (zb (decide (0 ≤ z.toInt64) && decide (z.toInt64 ≤ 9)))] μ _
      rw [show zb (decide (0 ≤ z.toInt64) && decide (z.toInt64 ≤ 9)) = zb (pIn z 0 9) from congrArg zb (in_r z 0 9)]
      show zX shR σ 1 MX11_report 33 [(0, zr 0), (1, zi b), (2, zi a), (3, zi z), (4, zi g)] [zi (zb (pIn z 0 9))] μ _
      refine zx_ifb_eq (tgt := 49) (nn := 36) dX11_report_33 (by decide) rfl (fun h33 => ?_) (fun h33 => ?_)
      · refine zx_iconst (v := -1) (nn := 50) rfl dX11_report_49 rfl ?_
        refine zx_iret rfl dX11_report_50 ?_
        have hv : vReportC b a z g = false := by unfold vReportC pTold; simp [h9, h21, h33]
        exact ⟨congrArg (fun x => some (zi x)) (by rw [if_neg (by rw [hv]; decide)]), by rw [if_neg (by rw [hv]; decide)]⟩
      · refine zx_iload (k := 4) (nn := 38) dX11_report_36 rfl rfl ?_
        refine zx_i2l (nn := 39) dX11_report_38 rfl ?_
        refine zx_lconst (v := 0) (nn := 40) rfl dX11_report_39 rfl ?_
        refine zx_ldc2 (v := 2) (nn := 43) cwX11_287 dX11_report_40 rfl ?_
        refine zx_callSf (nn := 46) (d' := 0) (as := [zj g.toInt64, zj 0, zj 2]) (rest := []) (n := 3) (eX11_isIn σ μ g.toInt64 0 2  ) kX11_isIn mlX11_70 (by decide) rfl rfl (Nat.le_of_ble_eq_true rfl) dX11_report_43 rfl ?_
        show zX shR σ 1 MX11_report 46 [(0, zr 0), (1, zi b), (2, zi a), (3, zi z), (4, zi g)] [zi (zb (decide (0 ≤ g.toInt64) && decide (g.toInt64 ≤ 2)))] μ _
        rw [show zb (decide (0 ≤ g.toInt64) && decide (g.toInt64 ≤ 2)) = zb (pIn g 0 2) from congrArg zb (in_r g 0 2)]
        show zX shR σ 1 MX11_report 46 [(0, zr 0), (1, zi b), (2, zi a), (3, zi z), (4, zi g)] [zi (zb (pIn g 0 2))] μ _
        refine zx_ifb_ne (tgt := 51) (nn := 49) dX11_report_46 (by decide) rfl (fun h46 => ?_) (fun h46 => ?_)
        · refine zx_aload_n (k := 0) (nn := 52) dX11_report_51 rfl rfl rfl ?_
          refine zx_getR (q := 1) (nn := 55) flX11_9 rfl rfl dX11_report_52 rfl ?_
          refine zx_bipush (v := 6) (nn := 57) rfl dX11_report_55 rfl ?_
          refine zx_iald_n (j := 6) (nn := 58) rfl (by omega) (by decide) dX11_report_57 rfl ?_
          rw [show μ 1 6 = nI n from hc]
          show zX shR σ 1 MX11_report 58 [(0, zr 0), (1, zi b), (2, zi a), (3, zi z), (4, zi g)] [zi (nI n)] μ _
          refine zx_bipush (v := 6) (nn := 60) rfl dX11_report_58 rfl ?_
          refine zx_icmp_ne (tgt := 66) (nn := 63) dX11_report_60 (by decide) rfl (fun h60 => ?_) (fun h60 => ?_)
          · have h6 : n < 6 := by have : n ≠ 6 := fun q => h60 (by rw [q]; rfl); omega
            refine zx_bipush (v := 47) (nn := 68) rfl dX11_report_66 rfl ?_
            refine zx_iconst (v := 4) (nn := 69) rfl dX11_report_68 rfl ?_
            refine zx_aload_n (k := 0) (nn := 70) dX11_report_69 rfl rfl rfl ?_
            refine zx_getR (q := 1) (nn := 73) flX11_9 rfl rfl dX11_report_70 rfl ?_
            refine zx_bipush (v := 6) (nn := 75) rfl dX11_report_73 rfl ?_
            refine zx_iald_n (j := 6) (nn := 76) rfl (by omega) (by decide) dX11_report_75 rfl ?_
            rw [show μ 1 6 = nI n from hc]
            show zX shR σ 1 MX11_report 76 [(0, zr 0), (1, zi b), (2, zi a), (3, zi z), (4, zi g)] [zi (nI n), zi 4, zi 47] μ _
            refine zx_imul (nn := 77) dX11_report_76 rfl ?_
            refine zx_iadd (nn := 78) dX11_report_77 rfl ?_
            rw [show 47 + (4 * (nI n)) = nI (47 + 4 * n) from by simp only [show (2 : Int32) = nI 2 from rfl, show (3 : Int32) = nI 3 from rfl, show (1 : Int32) = nI 1 from rfl, show (4 : Int32) = nI 4 from rfl, show (5 : Int32) = nI 5 from rfl, show (7 : Int32) = nI 7 from rfl, show (31 : Int32) = nI 31 from rfl, show (47 : Int32) = nI 47 from rfl, show (71 : Int32) = nI 71 from rfl, show (111 : Int32) = nI 111 from rfl, nI_mulN, nI_add]]
            show zX shR σ 1 MX11_report 78 [(0, zr 0), (1, zi b), (2, zi a), (3, zi z), (4, zi g)] [zi (nI (47 + 4 * n))] μ _
            refine zx_istore (nn := 80) (lv' := [(5, zi (nI (47 + 4 * n))), (0, zr 0), (1, zi b), (2, zi a), (3, zi z), (4, zi g)]) dX11_report_78 (by decide) rfl rfl ?_
            refine zx_aload_n (k := 1) (nn := 81) dX11_report_80 rfl rfl rfl ?_
            refine zx_getR (q := 1) (nn := 84) flX11_9 rfl rfl dX11_report_81 rfl ?_
            refine zx_iload (k := 0) (nn := 86) dX11_report_84 rfl rfl ?_
            refine zx_iload_n (k := 2) (nn := 87) dX11_report_86 rfl rfl rfl ?_
            refine zx_iast_n (j := 47 + 4 * n) (nn := 88) rfl (by omega) (by decide) dX11_report_87 rfl ?_
            refine zx_aload_n (k := 1) (nn := 89) dX11_report_88 rfl rfl rfl ?_
            refine zx_getR (q := 1) (nn := 92) flX11_9 rfl rfl dX11_report_89 rfl ?_
            refine zx_iload (k := 0) (nn := 94) dX11_report_92 rfl rfl ?_
            refine zx_iconst (v := 1) (nn := 95) rfl dX11_report_94 rfl ?_
            refine zx_iadd (nn := 96) dX11_report_95 rfl ?_
            rw [show (nI (47 + 4 * n)) + 1 = nI (47 + 4 * n + 1) from by simp only [show (2 : Int32) = nI 2 from rfl, show (3 : Int32) = nI 3 from rfl, show (1 : Int32) = nI 1 from rfl, show (4 : Int32) = nI 4 from rfl, show (5 : Int32) = nI 5 from rfl, show (7 : Int32) = nI 7 from rfl, show (31 : Int32) = nI 31 from rfl, show (47 : Int32) = nI 47 from rfl, show (71 : Int32) = nI 71 from rfl, show (111 : Int32) = nI 111 from rfl, nI_mulN, nI_add]]
            show zX shR σ 1 MX11_report 96 [(5, zi (nI (47 + 4 * n))), (0, zr 0), (1, zi b), (2, zi a), (3, zi z), (4, zi g)] [zi (nI (47 + 4 * n + 1)), zr 1] (zp μ 1 (47 + 4 * n) b) _
            refine zx_iload_n (k := 3) (nn := 97) dX11_report_96 rfl rfl rfl ?_
            refine zx_iast_n (j := 47 + 4 * n + 1) (nn := 98) rfl (by omega) (by decide) dX11_report_97 rfl ?_
            refine zx_aload_n (k := 1) (nn := 99) dX11_report_98 rfl rfl rfl ?_
            refine zx_getR (q := 1) (nn := 102) flX11_9 rfl rfl dX11_report_99 rfl ?_
            refine zx_iload (k := 0) (nn := 104) dX11_report_102 rfl rfl ?_
            refine zx_iconst (v := 2) (nn := 105) rfl dX11_report_104 rfl ?_
            refine zx_iadd (nn := 106) dX11_report_105 rfl ?_
            rw [show (nI (47 + 4 * n)) + 2 = nI (47 + 4 * n + 2) from by simp only [show (2 : Int32) = nI 2 from rfl, show (3 : Int32) = nI 3 from rfl, show (1 : Int32) = nI 1 from rfl, show (4 : Int32) = nI 4 from rfl, show (5 : Int32) = nI 5 from rfl, show (7 : Int32) = nI 7 from rfl, show (31 : Int32) = nI 31 from rfl, show (47 : Int32) = nI 47 from rfl, show (71 : Int32) = nI 71 from rfl, show (111 : Int32) = nI 111 from rfl, nI_mulN, nI_add]]
            show zX shR σ 1 MX11_report 106 [(5, zi (nI (47 + 4 * n))), (0, zr 0), (1, zi b), (2, zi a), (3, zi z), (4, zi g)] [zi (nI (47 + 4 * n + 2)), zr 1] (zp (zp μ 1 (47 + 4 * n) b) 1 (47 + 4 * n + 1) a) _
            refine zx_iload_n (k := 4) (nn := 107) dX11_report_106 rfl rfl rfl ?_
            refine zx_iast_n (j := 47 + 4 * n + 2) (nn := 108) rfl (by omega) (by decide) dX11_report_107 rfl ?_
            refine zx_aload_n (k := 1) (nn := 109) dX11_report_108 rfl rfl rfl ?_
            refine zx_getR (q := 1) (nn := 112) flX11_9 rfl rfl dX11_report_109 rfl ?_
            refine zx_iload (k := 0) (nn := 114) dX11_report_112 rfl rfl ?_
            refine zx_iconst (v := 3) (nn := 115) rfl dX11_report_114 rfl ?_
            refine zx_iadd (nn := 116) dX11_report_115 rfl ?_
            rw [show (nI (47 + 4 * n)) + 3 = nI (47 + 4 * n + 3) from by simp only [show (2 : Int32) = nI 2 from rfl, show (3 : Int32) = nI 3 from rfl, show (1 : Int32) = nI 1 from rfl, show (4 : Int32) = nI 4 from rfl, show (5 : Int32) = nI 5 from rfl, show (7 : Int32) = nI 7 from rfl, show (31 : Int32) = nI 31 from rfl, show (47 : Int32) = nI 47 from rfl, show (71 : Int32) = nI 71 from rfl, show (111 : Int32) = nI 111 from rfl, nI_mulN, nI_add]]
            show zX shR σ 1 MX11_report 116 [(5, zi (nI (47 + 4 * n))), (0, zr 0), (1, zi b), (2, zi a), (3, zi z), (4, zi g)] [zi (nI (47 + 4 * n + 3)), zr 1] (zp (zp (zp μ 1 (47 + 4 * n) b) 1 (47 + 4 * n + 1) a) 1 (47 + 4 * n + 2) z) _
            refine zx_iload (k := 5) (nn := 118) dX11_report_116 rfl rfl ?_
            refine zx_iast_n (j := 47 + 4 * n + 3) (nn := 119) rfl (by omega) (by decide) dX11_report_118 rfl ?_
            refine zx_aload_n (k := 1) (nn := 120) dX11_report_119 rfl rfl rfl ?_
            refine zx_getR (q := 1) (nn := 123) flX11_9 rfl rfl dX11_report_120 rfl ?_
            refine zx_bipush (v := 6) (nn := 125) rfl dX11_report_123 rfl ?_
            refine zx_dup2 (nn := 126) dX11_report_125 rfl ?_
            refine zx_iald_n (j := 6) (nn := 127) rfl (by omega) (by decide) dX11_report_126 rfl ?_
            rw [show (zp (zp (zp (zp μ 1 (47 + 4 * n) b) 1 (47 + 4 * n + 1) a) 1 (47 + 4 * n + 2) z) 1 (47 + 4 * n + 3) g) 1 6 = nI n from by simp only [zp_eq]; rw [pk_un (by omega), pk_un (by omega), pk_un (by omega), pk_un (by omega)]; exact hc]
            show zX shR σ 1 MX11_report 127 [(5, zi (nI (47 + 4 * n))), (0, zr 0), (1, zi b), (2, zi a), (3, zi z), (4, zi g)] [zi (nI n), zi 6, zr 1] (zp (zp (zp (zp μ 1 (47 + 4 * n) b) 1 (47 + 4 * n + 1) a) 1 (47 + 4 * n + 2) z) 1 (47 + 4 * n + 3) g) _
            refine zx_iconst (v := 1) (nn := 128) rfl dX11_report_127 rfl ?_
            refine zx_iadd (nn := 129) dX11_report_128 rfl ?_
            rw [show (nI n) + 1 = nI (n + 1) from nI_1 _]
            show zX shR σ 1 MX11_report 129 [(5, zi (nI (47 + 4 * n))), (0, zr 0), (1, zi b), (2, zi a), (3, zi z), (4, zi g)] [zi (nI (n + 1)), zi 6, zr 1] (zp (zp (zp (zp μ 1 (47 + 4 * n) b) 1 (47 + 4 * n + 1) a) 1 (47 + 4 * n + 2) z) 1 (47 + 4 * n + 3) g) _
            refine zx_iast_n (j := 6) (nn := 130) rfl (by omega) (by decide) dX11_report_129 rfl ?_
            refine zx_aload_n (k := 1) (nn := 131) dX11_report_130 rfl rfl rfl ?_
            refine zx_getR (q := 1) (nn := 134) flX11_9 rfl rfl dX11_report_131 rfl ?_
            refine zx_bipush (v := 6) (nn := 136) rfl dX11_report_134 rfl ?_
            refine zx_iald_n (j := 6) (nn := 137) rfl (by omega) (by decide) dX11_report_136 rfl ?_
            show zX shR σ 1 MX11_report 137 [(5, zi (nI (47 + 4 * n))), (0, zr 0), (1, zi b), (2, zi a), (3, zi z), (4, zi g)] [zi (nI (n + 1))] (zp (zp (zp (zp (zp μ 1 (47 + 4 * n) b) 1 (47 + 4 * n + 1) a) 1 (47 + 4 * n + 2) z) 1 (47 + 4 * n + 3) g) 1 6 (nI (n + 1))) _
            refine zx_iconst (v := 1) (nn := 138) rfl dX11_report_137 rfl ?_
            refine zx_isub (nn := 139) dX11_report_138 rfl ?_
            rw [show (nI (n + 1)) - 1 = nI n from nI_pred n]
            show zX shR σ 1 MX11_report 139 [(5, zi (nI (47 + 4 * n))), (0, zr 0), (1, zi b), (2, zi a), (3, zi z), (4, zi g)] [zi (nI n)] (zp (zp (zp (zp (zp μ 1 (47 + 4 * n) b) 1 (47 + 4 * n + 1) a) 1 (47 + 4 * n + 2) z) 1 (47 + 4 * n + 3) g) 1 6 (nI (n + 1))) _
            refine zx_iret rfl dX11_report_139 ?_
            have hv : vReportC b a z g = true := by unfold vReportC pTold; simp [h9, h21, h33, h46, h60]
            have h6 : n < 6 := by have : n ≠ 6 := fun q => h60 (by rw [q]; rfl); omega
            exact ⟨congrArg (fun x => some (zi x)) (by rw [if_pos hv, if_pos h6]), by rw [if_pos hv, if_pos h6]⟩
          · refine zx_bipush (v := -2) (nn := 65) rfl dX11_report_63 rfl ?_
            refine zx_iret rfl dX11_report_65 ?_
            have hv : vReportC b a z g = true := by unfold vReportC pTold; simp [h9, h21, h33, h46, h60]
            have h6 : n = 6 := (nI_eq (b := 6) (by omega) (by omega)).mp h60
            exact ⟨congrArg (fun x => some (zi x)) (by rw [if_pos hv, if_neg (by omega)]), by rw [if_pos hv, if_neg (by omega)]⟩
        · refine zx_iconst (v := -1) (nn := 50) rfl dX11_report_49 rfl ?_
          refine zx_iret rfl dX11_report_50 ?_
          have hv : vReportC b a z g = false := by unfold vReportC pTold; simp [h9, h21, h33, h46]
          exact ⟨congrArg (fun x => some (zi x)) (by rw [if_neg (by rw [hv]; decide)]), by rw [if_neg (by rw [hv]; decide)]⟩
set_option maxHeartbeats 4000000 in
set_option maxRecDepth 100000 in
theorem eX11_forget_0 (σ : zG) (μ : zM) : zMet shR σ 1 MX11_forget yX11_forget [zr 0] μ (fun rr μ' => rr = some (zi (μ 1 6)) ∧ μ' = zp μ 1 6 0) := by
  refine zmetF (by decide +kernel) rfl (Nat.le_of_ble_eq_true rfl) ?_
  show zX shR σ 1 MX11_forget 0 [(0, zr 0)] [] μ _
  refine zx_aload_n (k := 0) (nn := 1) dX11_forget_0 rfl rfl rfl ?_
  refine zx_bipush (v := 6) (nn := 3) rfl dX11_forget_1 rfl ?_
  refine zx_iconst (v := 0) (nn := 4) rfl dX11_forget_3 rfl ?_
  refine zx_callVf (nn := 7) (k := 0) (d' := 0) (as := [zi 6, zi 0]) (rest := []) (n := 2) (eX11_becomes_0 σ μ 6 0  (by decide)) kX11_becomes mlX11_103 rfl rfl rfl (by decide) rfl rfl (Nat.le_of_ble_eq_true rfl) dX11_forget_4 rfl ?_
  show zX shR σ 1 MX11_forget 7 [(0, zr 0)] [zi (μ 1 6)] (zp μ 1 6 0) _
  refine zx_iret rfl dX11_forget_7 ?_
  exact ⟨rfl, rfl⟩
set_option maxHeartbeats 4000000 in
set_option maxRecDepth 100000 in
theorem eX11_doesFit_0 (σ : zG) (μ : zM) (st : Int32) (pc : Int32) (but : Int32) (n : Nat) (hc : μ 1 6 = nI n) (hn : n ≤ 6) (hpb : gPB μ n) : zMet shR σ 2 MX11_doesFit yX11_doesFit [zr 0, zi st, zi pc, zi but] μ (fun rr μ' => rr = some (zi (zb (pFit (gP μ) st pc but n))) ∧ μ' = μ) := by
  refine zmetF (by decide +kernel) rfl (Nat.le_of_ble_eq_true rfl) ?_
  show zX shR σ 2 MX11_doesFit 0 [(0, zr 0), (1, zi st), (2, zi pc), (3, zi but)] [] μ _
  refine zx_iconst (v := 0) (nn := 1) rfl dX11_doesFit_0 rfl ?_
  refine zx_istore (nn := 3) (lv' := [(4, zi 0), (0, zr 0), (1, zi st), (2, zi pc), (3, zi but)]) dX11_doesFit_1 (by decide) rfl rfl ?_
  refine zx_lv (lv' := [(0, zr 0), (1, zi st), (2, zi pc), (3, zi but), (4, zi 0)]) [1, 2, 3, 4, 0] rfl ?_
  refine zx_while (τ := Nat) (fun r => n - r) (fun r => r ≤ n ∧ pFit (gP μ) st pc but r = true) (fun r => [(0, zr 0), (1, zi st), (2, zi pc), (3, zi but), (4, zi (nI r))]) (fun r => μ) (t0 := (0)) (show 0 ≤ n ∧ pFit (gP μ) st pc but 0 = true from ⟨Nat.zero_le _, rfl⟩) ?_
  rintro r hI ih3
  replace hI : r ≤ n ∧ pFit (gP μ) st pc but r = true := hI
  show zX shR σ 2 MX11_doesFit 3 [(0, zr 0), (1, zi st), (2, zi pc), (3, zi but), (4, zi (nI r))] [] μ _
  refine zx_iload (k := 4) (nn := 5) dX11_doesFit_3 rfl rfl ?_
  refine zx_aload_n (k := 0) (nn := 6) dX11_doesFit_5 rfl rfl rfl ?_
  refine zx_getR (q := 1) (nn := 9) flX11_9 rfl rfl dX11_doesFit_6 rfl ?_
  refine zx_bipush (v := 6) (nn := 11) rfl dX11_doesFit_9 rfl ?_
  refine zx_iald_n (j := 6) (nn := 12) rfl (by omega) (by decide) dX11_doesFit_11 rfl ?_
  rw [show μ 1 6 = nI n from hc]
  show zX shR σ 2 MX11_doesFit 12 [(0, zr 0), (1, zi st), (2, zi pc), (3, zi but), (4, zi (nI r))] [zi (nI n), zi (nI r)] μ _
  refine zx_icmp_ge (tgt := 92) (nn := 15) dX11_doesFit_12 (by decide) rfl (fun h12 => ?_) (fun h12 => ?_)
  · refine zx_iconst (v := 1) (nn := 93) rfl dX11_doesFit_92 rfl ?_
    refine zx_zret rfl rfl dX11_doesFit_93 ?_
    have hge := nI_le_le h12 (by omega)
    exact ⟨congrArg (fun x => some (zi x)) (by rw [show n = r by omega, hI.2]; rfl), rfl⟩
  · have hlt : r < n := nI_nle_lt h12 (by omega)
    refine zx_bipush (v := 47) (nn := 17) rfl dX11_doesFit_15 rfl ?_
    refine zx_iconst (v := 4) (nn := 18) rfl dX11_doesFit_17 rfl ?_
    refine zx_iload (k := 4) (nn := 20) dX11_doesFit_18 rfl rfl ?_
    refine zx_imul (nn := 21) dX11_doesFit_20 rfl ?_
    refine zx_iadd (nn := 22) dX11_doesFit_21 rfl ?_
    rw [show 47 + (4 * (nI r)) = nI (47 + 4 * r) from by simp only [show (2 : Int32) = nI 2 from rfl, show (3 : Int32) = nI 3 from rfl, show (1 : Int32) = nI 1 from rfl, show (4 : Int32) = nI 4 from rfl, show (5 : Int32) = nI 5 from rfl, show (7 : Int32) = nI 7 from rfl, show (31 : Int32) = nI 31 from rfl, show (47 : Int32) = nI 47 from rfl, show (71 : Int32) = nI 71 from rfl, show (111 : Int32) = nI 111 from rfl, nI_mulN, nI_add]]
    show zX shR σ 2 MX11_doesFit 22 [(0, zr 0), (1, zi st), (2, zi pc), (3, zi but), (4, zi (nI r))] [zi (nI (47 + 4 * r))] μ _
    refine zx_istore (nn := 24) (lv' := [(5, zi (nI (47 + 4 * r))), (0, zr 0), (1, zi st), (2, zi pc), (3, zi but), (4, zi (nI r))]) dX11_doesFit_22 (by decide) rfl rfl ?_
    refine zx_iload_n (k := 2) (nn := 25) dX11_doesFit_24 rfl rfl rfl ?_
    refine zx_aload_n (k := 1) (nn := 26) dX11_doesFit_25 rfl rfl rfl ?_
    refine zx_getR (q := 1) (nn := 29) flX11_9 rfl rfl dX11_doesFit_26 rfl ?_
    refine zx_iload (k := 0) (nn := 31) dX11_doesFit_29 rfl rfl ?_
    refine zx_iald_n (j := 47 + 4 * r) (nn := 32) rfl (by omega) (by decide) dX11_doesFit_31 rfl ?_
    rw [show μ 1 (47 + 4 * r) = gP μ r 0 from rfl]
    show zX shR σ 2 MX11_doesFit 32 [(5, zi (nI (47 + 4 * r))), (0, zr 0), (1, zi st), (2, zi pc), (3, zi but), (4, zi (nI r))] [zi (gP μ r 0), zi st] μ _
    refine zx_iload_n (k := 3) (nn := 33) dX11_doesFit_32 rfl rfl rfl ?_
    refine zx_imul (nn := 34) dX11_doesFit_33 rfl ?_
    refine zx_iadd (nn := 35) dX11_doesFit_34 rfl ?_
    refine zx_iconst (v := 0) (nn := 36) rfl dX11_doesFit_35 rfl ?_
    refine zx_bipush (v := 40) (nn := 38) rfl dX11_doesFit_36 rfl ?_
    refine zx_callSf (nn := 41) (d' := 0) (as := [zi (st + ((gP μ r 0) * pc)), zi 0, zi 40]) (rest := []) (n := 3) (eX11_within σ μ (st + ((gP μ r 0) * pc)) 0 40  ) kX11_within mlX11_113 (by decide) rfl rfl (Nat.le_of_ble_eq_true rfl) dX11_doesFit_38 rfl ?_
    show zX shR σ 2 MX11_doesFit 41 [(5, zi (nI (47 + 4 * r))), (0, zr 0), (1, zi st), (2, zi pc), (3, zi but), (4, zi (nI r))] [zi (pW (st + ((gP μ r 0) * pc)) 0 40)] μ _
    refine zx_istore (nn := 43) (lv' := [(6, zi (pW (st + ((gP μ r 0) * pc)) 0 40)), (5, zi (nI (47 + 4 * r))), (0, zr 0), (1, zi st), (2, zi pc), (3, zi but), (4, zi (nI r))]) dX11_doesFit_41 (by decide) rfl rfl ?_
    refine zx_iload (k := 6) (nn := 45) dX11_doesFit_43 rfl rfl ?_
    refine zx_iload_n (k := 5) (nn := 46) dX11_doesFit_45 rfl rfl rfl ?_
    refine zx_icmp_eq (tgt := 86) (nn := 49) dX11_doesFit_46 (by decide) rfl (fun h46 => ?_) (fun h46 => ?_)
    · refine zx_iinc (k := 6) (v := nI (r + 1)) (lv' := [(4, zi (nI (r + 1))), (6, zi (pW (st + ((gP μ r 0) * pc)) 0 40)), (5, zi (nI (47 + 4 * r))), (0, zr 0), (1, zi st), (2, zi pc), (3, zi but)]) (nn := 89) dX11_doesFit_86 rfl (nI_1 r) (by decide) rfl rfl ?_
      refine zx_goto (tgt := 3) dX11_doesFit_89 (by decide) ?_
      refine zx_lv (lv' := [(0, zr 0), (1, zi st), (2, zi pc), (3, zi but), (4, zi (nI (r + 1)))]) [3, 4, 5, 6, 0] rfl ?_
      exact ih3 (r + 1) (show (r + 1) ≤ n ∧ pFit (gP μ) st pc but (r + 1) = true from ⟨by omega, by show (pFit _ st pc but r && pFitAt (gP μ) st pc but r) = true; rw [hI.2, show pFitAt (gP μ) st pc but r = true from by unfold pFitAt; rw [decide_eq_true h46]; rfl]; rfl⟩) (by show n - (r + 1) < n - r; omega)
    · refine zx_aload_n (k := 2) (nn := 50) dX11_doesFit_49 rfl rfl rfl ?_
      refine zx_getR (q := 1) (nn := 53) flX11_9 rfl rfl dX11_doesFit_50 rfl ?_
      refine zx_iload (k := 1) (nn := 55) dX11_doesFit_53 rfl rfl ?_
      refine zx_iconst (v := 1) (nn := 56) rfl dX11_doesFit_55 rfl ?_
      refine zx_iadd (nn := 57) dX11_doesFit_56 rfl ?_
      rw [show (nI (47 + 4 * r)) + 1 = nI (47 + 4 * r + 1) from by simp only [show (2 : Int32) = nI 2 from rfl, show (3 : Int32) = nI 3 from rfl, show (1 : Int32) = nI 1 from rfl, show (4 : Int32) = nI 4 from rfl, show (5 : Int32) = nI 5 from rfl, show (7 : Int32) = nI 7 from rfl, show (31 : Int32) = nI 31 from rfl, show (47 : Int32) = nI 47 from rfl, show (71 : Int32) = nI 71 from rfl, show (111 : Int32) = nI 111 from rfl, nI_mulN, nI_add]]
      show zX shR σ 2 MX11_doesFit 57 [(6, zi (pW (st + ((gP μ r 0) * pc)) 0 40)), (5, zi (nI (47 + 4 * r))), (0, zr 0), (1, zi st), (2, zi pc), (3, zi but), (4, zi (nI r))] [zi (nI (47 + 4 * r + 1)), zr 1] μ _
      refine zx_iald_n (j := 47 + 4 * r + 1) (nn := 58) rfl (by omega) (by decide) dX11_doesFit_57 rfl ?_
      rw [show μ 1 (47 + 4 * r + 1) = gP μ r 1 from rfl]
      show zX shR σ 2 MX11_doesFit 58 [(6, zi (pW (st + ((gP μ r 0) * pc)) 0 40)), (5, zi (nI (47 + 4 * r))), (0, zr 0), (1, zi st), (2, zi pc), (3, zi but), (4, zi (nI r))] [zi (gP μ r 1)] μ _
      refine zx_aload_n (k := 2) (nn := 59) dX11_doesFit_58 rfl rfl rfl ?_
      refine zx_getR (q := 1) (nn := 62) flX11_9 rfl rfl dX11_doesFit_59 rfl ?_
      refine zx_iload (k := 1) (nn := 64) dX11_doesFit_62 rfl rfl ?_
      refine zx_iconst (v := 2) (nn := 65) rfl dX11_doesFit_64 rfl ?_
      refine zx_iadd (nn := 66) dX11_doesFit_65 rfl ?_
      rw [show (nI (47 + 4 * r)) + 2 = nI (47 + 4 * r + 2) from by simp only [show (2 : Int32) = nI 2 from rfl, show (3 : Int32) = nI 3 from rfl, show (1 : Int32) = nI 1 from rfl, show (4 : Int32) = nI 4 from rfl, show (5 : Int32) = nI 5 from rfl, show (7 : Int32) = nI 7 from rfl, show (31 : Int32) = nI 31 from rfl, show (47 : Int32) = nI 47 from rfl, show (71 : Int32) = nI 71 from rfl, show (111 : Int32) = nI 111 from rfl, nI_mulN, nI_add]]
      show zX shR σ 2 MX11_doesFit 66 [(6, zi (pW (st + ((gP μ r 0) * pc)) 0 40)), (5, zi (nI (47 + 4 * r))), (0, zr 0), (1, zi st), (2, zi pc), (3, zi but), (4, zi (nI r))] [zi (nI (47 + 4 * r + 2)), zr 1, zi (gP μ r 1)] μ _
      refine zx_iald_n (j := 47 + 4 * r + 2) (nn := 67) rfl (by omega) (by decide) dX11_doesFit_66 rfl ?_
      rw [show μ 1 (47 + 4 * r + 2) = gP μ r 2 from rfl]
      show zX shR σ 2 MX11_doesFit 67 [(6, zi (pW (st + ((gP μ r 0) * pc)) 0 40)), (5, zi (nI (47 + 4 * r))), (0, zr 0), (1, zi st), (2, zi pc), (3, zi but), (4, zi (nI r))] [zi (gP μ r 2), zi (gP μ r 1)] μ _
      refine zx_iload (k := 0) (nn := 69) dX11_doesFit_67 rfl rfl ?_
      refine zx_callSf (nn := 72) (d' := 1) (as := [zi (gP μ r 1), zi (gP μ r 2), zi (pW (st + ((gP μ r 0) * pc)) 0 40)]) (rest := []) (n := 3) (eX11_sightBy σ μ (gP μ r 1) (gP μ r 2) (pW (st + ((gP μ r 0) * pc)) 0 40)  (hpb r hlt).1 (hpb r hlt).2 (pW_b _)) kX11_sightBy mlX11_134 (by decide) rfl rfl (Nat.le_of_ble_eq_true rfl) dX11_doesFit_69 rfl ?_
      show zX shR σ 2 MX11_doesFit 72 [(6, zi (pW (st + ((gP μ r 0) * pc)) 0 40)), (5, zi (nI (47 + 4 * r))), (0, zr 0), (1, zi st), (2, zi pc), (3, zi but), (4, zi (nI r))] [zi (pSight (gP μ r 1) (gP μ r 2) (pW (st + ((gP μ r 0) * pc)) 0 40))] μ _
      refine zx_aload_n (k := 2) (nn := 73) dX11_doesFit_72 rfl rfl rfl ?_
      refine zx_getR (q := 1) (nn := 76) flX11_9 rfl rfl dX11_doesFit_73 rfl ?_
      refine zx_iload (k := 1) (nn := 78) dX11_doesFit_76 rfl rfl ?_
      refine zx_iconst (v := 3) (nn := 79) rfl dX11_doesFit_78 rfl ?_
      refine zx_iadd (nn := 80) dX11_doesFit_79 rfl ?_
      rw [show (nI (47 + 4 * r)) + 3 = nI (47 + 4 * r + 3) from by simp only [show (2 : Int32) = nI 2 from rfl, show (3 : Int32) = nI 3 from rfl, show (1 : Int32) = nI 1 from rfl, show (4 : Int32) = nI 4 from rfl, show (5 : Int32) = nI 5 from rfl, show (7 : Int32) = nI 7 from rfl, show (31 : Int32) = nI 31 from rfl, show (47 : Int32) = nI 47 from rfl, show (71 : Int32) = nI 71 from rfl, show (111 : Int32) = nI 111 from rfl, nI_mulN, nI_add]]
      show zX shR σ 2 MX11_doesFit 80 [(6, zi (pW (st + ((gP μ r 0) * pc)) 0 40)), (5, zi (nI (47 + 4 * r))), (0, zr 0), (1, zi st), (2, zi pc), (3, zi but), (4, zi (nI r))] [zi (nI (47 + 4 * r + 3)), zr 1, zi (pSight (gP μ r 1) (gP μ r 2) (pW (st + ((gP μ r 0) * pc)) 0 40))] μ _
      refine zx_iald_n (j := 47 + 4 * r + 3) (nn := 81) rfl (by omega) (by decide) dX11_doesFit_80 rfl ?_
      rw [show μ 1 (47 + 4 * r + 3) = gP μ r 3 from rfl]
      show zX shR σ 2 MX11_doesFit 81 [(6, zi (pW (st + ((gP μ r 0) * pc)) 0 40)), (5, zi (nI (47 + 4 * r))), (0, zr 0), (1, zi st), (2, zi pc), (3, zi but), (4, zi (nI r))] [zi (gP μ r 3), zi (pSight (gP μ r 1) (gP μ r 2) (pW (st + ((gP μ r 0) * pc)) 0 40))] μ _
      refine zx_icmp_eq (tgt := 86) (nn := 84) dX11_doesFit_81 (by decide) rfl (fun h81 => ?_) (fun h81 => ?_)
      · refine zx_iinc (k := 6) (v := nI (r + 1)) (lv' := [(4, zi (nI (r + 1))), (6, zi (pW (st + ((gP μ r 0) * pc)) 0 40)), (5, zi (nI (47 + 4 * r))), (0, zr 0), (1, zi st), (2, zi pc), (3, zi but)]) (nn := 89) dX11_doesFit_86 rfl (nI_1 r) (by decide) rfl rfl ?_
        refine zx_goto (tgt := 3) dX11_doesFit_89 (by decide) ?_
        refine zx_lv (lv' := [(0, zr 0), (1, zi st), (2, zi pc), (3, zi but), (4, zi (nI (r + 1)))]) [3, 4, 5, 6, 0] rfl ?_
        exact ih3 (r + 1) (show (r + 1) ≤ n ∧ pFit (gP μ) st pc but (r + 1) = true from ⟨by omega, by show (pFit _ st pc but r && pFitAt (gP μ) st pc but r) = true; rw [hI.2, show pFitAt (gP μ) st pc but r = true from by unfold pFitAt; rw [show decide (pSight (gP μ r 1) (gP μ r 2) (pW (st + gP μ r 0 * pc) 0 40) = gP μ r 3) = true from decide_eq_true h81, Bool.or_true]]; rfl⟩) (by show n - (r + 1) < n - r; omega)
      · refine zx_iconst (v := 0) (nn := 85) rfl dX11_doesFit_84 rfl ?_
        refine zx_zret rfl rfl dX11_doesFit_85 ?_
        exact ⟨congrArg (fun x => some (zi x)) (by rw [pFit_no (m := r) (by unfold pFitAt; rw [decide_eq_false h46, show decide (pSight (gP μ r 1) (gP μ r 2) (pW (st + gP μ r 0 * pc) 0 40) = gP μ r 3) = false from decide_eq_false h81]; rfl) hlt]; rfl), rfl⟩
set_option maxHeartbeats 4000000 in
set_option maxRecDepth 100000 in
theorem eX11_fitsBut_0 (σ : zG) (μ : zM) (but : Int32) (n : Nat) (hc : μ 1 6 = nI n) (hn : n ≤ 6) (hpb : gPB μ n) : zMet shR σ 3 MX11_fitsBut yX11_fitsBut [zr 0, zi but] μ (fun rr μ' => rr = some (zi (nI (pWalks (gP μ) n but).1)) ∧ zJ [0] μ μ' ∧ rF2 24 25 μ μ' ∧ ((pWalks (gP μ) n but).1 ≠ 0 → μ' 0 24 = (pWalks (gP μ) n but).2.1 ∧ μ' 0 25 = (pWalks (gP μ) n but).2.2)) := by
  refine zmetF (by decide +kernel) rfl (Nat.le_of_ble_eq_true rfl) ?_
  show zX shR σ 3 MX11_fitsBut 0 [(0, zr 0), (1, zi but)] [] μ _
  refine zx_iconst (v := 0) (nn := 1) rfl dX11_fitsBut_0 rfl ?_
  refine zx_istore_n (nn := 2) (lv' := [(2, zi 0), (0, zr 0), (1, zi but)]) dX11_fitsBut_1 rfl (by decide) rfl rfl ?_
  refine zx_iconst (v := 0) (nn := 3) rfl dX11_fitsBut_2 rfl ?_
  refine zx_istore_n (nn := 4) (lv' := [(3, zi 0), (2, zi 0), (0, zr 0), (1, zi but)]) dX11_fitsBut_3 rfl (by decide) rfl rfl ?_
  refine zx_lv (lv' := [(0, zr 0), (1, zi but), (2, zi 0), (3, zi 0)]) [2, 3, 1, 0] rfl ?_
  refine zx_while (τ := Nat × Nat × zM) (fun t_ => 41 - t_.1) (fun t_ => t_.1 ≤ 41 ∧ zJ [0] μ t_.2.2 ∧ rF2 24 25 μ t_.2.2 ∧ (pWalk (gP μ) n but (μ 0 24, μ 0 25)) (5 * t_.1) = (t_.2.1, t_.2.2 0 24, t_.2.2 0 25)) (fun t_ => [(0, zr 0), (1, zi but), (2, zi (nI t_.2.1)), (3, zi (nI t_.1))]) (fun t_ => t_.2.2) (t0 := (0, 0, μ)) (show 0 ≤ 41 ∧ zJ [0] μ μ ∧ rF2 24 25 μ μ ∧ (pWalk (gP μ) n but (μ 0 24, μ 0 25)) (5 * 0) = (0, μ 0 24, μ 0 25) from ⟨Nat.zero_le _, zJ.rf, fun _ _ _ => rfl, rfl⟩) ?_
  rintro ⟨a, c, μ1⟩ hI ih4
  replace hI : a ≤ 41 ∧ zJ [0] μ μ1 ∧ rF2 24 25 μ μ1 ∧ (pWalk (gP μ) n but (μ 0 24, μ 0 25)) (5 * a) = (c, μ1 0 24, μ1 0 25) := hI
  show zX shR σ 3 MX11_fitsBut 4 [(0, zr 0), (1, zi but), (2, zi (nI c)), (3, zi (nI a))] [] μ1 _
  obtain ⟨a1, a2, a3, a5⟩ := hI
  refine zx_iload_n (k := 3) (nn := 5) dX11_fitsBut_4 rfl rfl rfl ?_
  refine zx_bipush (v := 40) (nn := 7) rfl dX11_fitsBut_5 rfl ?_
  refine zx_icmp_gt (tgt := 79) (nn := 10) dX11_fitsBut_7 (by decide) rfl (fun h7 => ?_) (fun h7 => ?_)
  · refine zx_iload_n (k := 2) (nn := 80) dX11_fitsBut_79 rfl rfl rfl ?_
    refine zx_iret rfl dX11_fitsBut_80 ?_
    have hge : 40 < a := (nI_ltI (a := 40) (by omega) (by omega)).mp h7
    rw [show 5 * a = 205 by omega] at a5
    have hx := pWalk_x (P := gP μ) (n := n) (but := but) (x := (μ 0 24, μ 0 25)) (y := (0, 0)) 205
    rw [a5] at hx
    have h1 : c = (pWalks (gP μ) n but).1 := hx.1
    refine ⟨congrArg (fun x => some (zi x)) (by rw [h1]), a2, a3, fun h => ?_⟩
    have h2 := hx.2 (by show c ≠ 0; rw [h1]; exact h)
    have h3 : (μ1 0 24, μ1 0 25) = (pWalks (gP μ) n but).2 := h2
    rw [← h3]
    exact ⟨rfl, rfl⟩
  · have hlt : a < 41 := (nI_leI (b := 40) (by omega) (by omega)).mp (Int32.not_lt.mp h7) |> fun q => by omega
    refine zx_bipush (v := -2) (nn := 12) rfl dX11_fitsBut_10 rfl ?_
    refine zx_istore (nn := 14) (lv' := [(4, zi (-2)), (0, zr 0), (1, zi but), (2, zi (nI c)), (3, zi (nI a))]) dX11_fitsBut_12 (by decide) rfl rfl ?_
    refine zx_lv (lv' := [(0, zr 0), (1, zi but), (2, zi (nI c)), (3, zi (nI a)), (4, zi (-2))]) [1, 2, 3, 4, 0] rfl ?_
    refine zx_while (τ := Nat × Nat × zM) (fun t_ => 5 - t_.1) (fun t_ => t_.1 ≤ 5 ∧ zJ [0] μ t_.2.2 ∧ rF2 24 25 μ t_.2.2 ∧ (pWalk (gP μ) n but (μ 0 24, μ 0 25)) (5 * a + t_.1) = (t_.2.1, t_.2.2 0 24, t_.2.2 0 25)) (fun t_ => [(0, zr 0), (1, zi but), (2, zi (nI t_.2.1)), (3, zi (nI a)), (4, zi (nI t_.1 - 2))]) (fun t_ => t_.2.2) (t0 := (0, c, μ1)) (show 0 ≤ 5 ∧ zJ [0] μ μ1 ∧ rF2 24 25 μ μ1 ∧ (pWalk (gP μ) n but (μ 0 24, μ 0 25)) (5 * a + 0) = (c, μ1 0 24, μ1 0 25) from ⟨Nat.zero_le _, a2, a3, a5⟩) ?_
    rintro ⟨j, d, μ2⟩ hI ih14
    replace hI : j ≤ 5 ∧ zJ [0] μ μ2 ∧ rF2 24 25 μ μ2 ∧ (pWalk (gP μ) n but (μ 0 24, μ 0 25)) (5 * a + j) = (d, μ2 0 24, μ2 0 25) := hI
    show zX shR σ 3 MX11_fitsBut 14 [(0, zr 0), (1, zi but), (2, zi (nI d)), (3, zi (nI a)), (4, zi (nI j - 2))] [] μ2 _
    obtain ⟨k0, k1, k2, k4⟩ := hI
    have ep : gP μ2 = gP μ := by unfold gP; rw [k1 1 (by decide)]
    refine zx_iload (k := 4) (nn := 16) dX11_fitsBut_14 rfl rfl ?_
    refine zx_iconst (v := 2) (nn := 17) rfl dX11_fitsBut_16 rfl ?_
    refine zx_icmp_gt (tgt := 73) (nn := 20) dX11_fitsBut_17 (by decide) rfl (fun h17 => ?_) (fun h17 => ?_)
    · have hj5 : j = 5 := (zpace k0).mp h17
      refine zx_iinc (k := 3) (v := nI (a + 1)) (lv' := [(3, zi (nI (a + 1))), (0, zr 0), (1, zi but), (2, zi (nI d)), (4, zi (nI j - 2))]) (nn := 76) dX11_fitsBut_73 rfl (nI_1 a) (by decide) rfl rfl ?_
      refine zx_goto (tgt := 4) dX11_fitsBut_76 (by decide) ?_
      refine zx_lv (lv' := [(0, zr 0), (1, zi but), (2, zi (nI d)), (3, zi (nI (a + 1)))]) [1, 2, 3, 0] rfl ?_
      exact ih4 (a + 1, d, μ2) (show (a + 1) ≤ 41 ∧ zJ [0] μ μ2 ∧ rF2 24 25 μ μ2 ∧ (pWalk (gP μ) n but (μ 0 24, μ 0 25)) (5 * (a + 1)) = (d, μ2 0 24, μ2 0 25) from ⟨by omega, k1, k2, by rw [show 5 * (a + 1) = 5 * a + j by omega]; exact k4⟩) (by show 41 - (a + 1) < 41 - a; omega)
    · have hj5 : j < 5 := by have hne : ¬ j = 5 := (fun q => h17 ((zpace k0).mpr q)); omega
      have hdiv : (5 * a + j) / 5 = a := by omega
      have hmod : (5 * a + j) % 5 = j := by omega
      have hsp : pFit (gP μ) (pStart (5 * a + j)) (pPace (5 * a + j)) but n = pFit (gP μ2) (nI a) (nI j - 2) but n := by unfold pStart pPace; rw [hdiv, hmod, ep]
      have hdle : d ≤ 205 := by have := pWalk_le (P := gP μ) (n := n) (but := but) (x := (μ 0 24, μ 0 25)) (5 * a + j); rw [k4] at this; simp at this; omega
      refine zx_aload_n (k := 0) (nn := 21) dX11_fitsBut_20 rfl rfl rfl ?_
      refine zx_iload_n (k := 3) (nn := 22) dX11_fitsBut_21 rfl rfl rfl ?_
      refine zx_iload (k := 4) (nn := 24) dX11_fitsBut_22 rfl rfl ?_
      refine zx_iload_n (k := 1) (nn := 25) dX11_fitsBut_24 rfl rfl rfl ?_
      refine zx_callVf (nn := 28) (k := 0) (d' := 2) (as := [zi (nI a), zi (nI j - 2), zi but]) (rest := []) (n := 3) (eX11_doesFit_0 σ μ2 (nI a) (nI j - 2) but n (by rw [k1 1 (by decide)]; exact hc) hn (by unfold gPB; rw [ep]; exact hpb)) kX11_doesFit mlX11_342 rfl rfl rfl (by decide) rfl rfl (Nat.le_of_ble_eq_true rfl) dX11_fitsBut_25 rfl ?_
      show zX shR σ 3 MX11_fitsBut 28 [(0, zr 0), (1, zi but), (2, zi (nI d)), (3, zi (nI a)), (4, zi (nI j - 2))] [zi (zb (pFit (gP μ2) (nI a) (nI j - 2) but n))] μ2 _
      refine zx_ifb_eq (tgt := 67) (nn := 31) dX11_fitsBut_28 (by decide) rfl (fun h28 => ?_) (fun h28 => ?_)
      · refine zx_iinc (k := 4) (v := (nI j - 2) + 1) (lv' := [(4, zi ((nI j - 2) + 1)), (0, zr 0), (1, zi but), (2, zi (nI d)), (3, zi (nI a))]) (nn := 70) dX11_fitsBut_67 rfl rfl (by decide) rfl rfl ?_
        rw [show (nI j - 2) + 1 = nI (j + 1) - 2 from zpace1 (by omega)]
        show zX shR σ 3 MX11_fitsBut 70 [(4, zi (nI (j + 1) - 2)), (0, zr 0), (1, zi but), (2, zi (nI d)), (3, zi (nI a))] [] μ2 _
        refine zx_goto (tgt := 14) dX11_fitsBut_70 (by decide) ?_
        refine zx_lv (lv' := [(0, zr 0), (1, zi but), (2, zi (nI d)), (3, zi (nI a)), (4, zi (nI (j + 1) - 2))]) [1, 2, 3, 4, 0] rfl ?_
        exact ih14 (j + 1, d, μ2) (show (j + 1) ≤ 5 ∧ zJ [0] μ μ2 ∧ rF2 24 25 μ μ2 ∧ (pWalk (gP μ) n but (μ 0 24, μ 0 25)) (5 * a + (j + 1)) = (d, μ2 0 24, μ2 0 25) from ⟨by omega, k1, k2, by show (pWalk (gP μ) n but (μ 0 24, μ 0 25)) (5 * a + j + 1) = _; rw [pWalk_s, k4, hsp]; rw [if_neg (by rw [h28]; decide)]⟩) (by show 5 - (j + 1) < 5 - j; omega)
      · refine zx_aload_n (k := 0) (nn := 32) dX11_fitsBut_31 rfl rfl rfl ?_
        refine zx_iload_n (k := 2) (nn := 33) dX11_fitsBut_32 rfl rfl rfl ?_
        refine zx_if_ne (tgt := 40) (nn := 36) dX11_fitsBut_33 (by decide) rfl (fun h33 => ?_) (fun h33 => ?_)
        · refine zx_aload_n (k := 0) (nn := 41) dX11_fitsBut_40 rfl rfl rfl ?_
          refine zx_getI (nn := 44) flX11_346 rfl rfl dX11_fitsBut_41 rfl ?_
          refine zx_putI (nn := 47) fpX11_346 rfl rfl rfl rfl dX11_fitsBut_44 rfl ?_
          refine zx_aload_n (k := 0) (nn := 48) dX11_fitsBut_47 rfl rfl rfl ?_
          refine zx_iload_n (k := 2) (nn := 49) dX11_fitsBut_48 rfl rfl rfl ?_
          refine zx_if_ne (tgt := 57) (nn := 52) dX11_fitsBut_49 (by decide) rfl (fun h49 => ?_) (fun h49 => ?_)
          · refine zx_aload_n (k := 0) (nn := 58) dX11_fitsBut_57 rfl rfl rfl ?_
            refine zx_getI (nn := 61) flX11_349 rfl rfl dX11_fitsBut_58 rfl ?_
            show zX shR σ 3 MX11_fitsBut 61 [(0, zr 0), (1, zi but), (2, zi (nI d)), (3, zi (nI a)), (4, zi (nI j - 2))] [zi (μ2 0 25), zr 0] (zp μ2 0 24 (μ2 0 24)) _
            refine zx_putI (nn := 64) fpX11_349 rfl rfl rfl rfl dX11_fitsBut_61 rfl ?_
            refine zx_iinc (k := 2) (v := nI (d + 1)) (lv' := [(2, zi (nI (d + 1))), (0, zr 0), (1, zi but), (3, zi (nI a)), (4, zi (nI j - 2))]) (nn := 67) dX11_fitsBut_64 rfl (nI_1 d) (by decide) rfl rfl ?_
            refine zx_iinc (k := 4) (v := (nI j - 2) + 1) (lv' := [(4, zi ((nI j - 2) + 1)), (2, zi (nI (d + 1))), (0, zr 0), (1, zi but), (3, zi (nI a))]) (nn := 70) dX11_fitsBut_67 rfl rfl (by decide) rfl rfl ?_
            rw [show (nI j - 2) + 1 = nI (j + 1) - 2 from zpace1 (by omega)]
            show zX shR σ 3 MX11_fitsBut 70 [(4, zi (nI (j + 1) - 2)), (2, zi (nI (d + 1))), (0, zr 0), (1, zi but), (3, zi (nI a))] [] (zp (zp μ2 0 24 (μ2 0 24)) 0 25 (μ2 0 25)) _
            refine zx_goto (tgt := 14) dX11_fitsBut_70 (by decide) ?_
            refine zx_lv (lv' := [(0, zr 0), (1, zi but), (2, zi (nI (d + 1))), (3, zi (nI a)), (4, zi (nI (j + 1) - 2))]) [2, 3, 1, 4, 0] rfl ?_
            exact ih14 (j + 1, d + 1, zp (zp μ2 0 24 (μ2 0 24)) 0 25 (μ2 0 25)) (show (j + 1) ≤ 5 ∧ zJ [0] μ (zp (zp μ2 0 24 (μ2 0 24)) 0 25 (μ2 0 25)) ∧ rF2 24 25 μ (zp (zp μ2 0 24 (μ2 0 24)) 0 25 (μ2 0 25)) ∧ (pWalk (gP μ) n but (μ 0 24, μ 0 25)) (5 * a + (j + 1)) = ((d + 1), (zp (zp μ2 0 24 (μ2 0 24)) 0 25 (μ2 0 25)) 0 24, (zp (zp μ2 0 24 (μ2 0 24)) 0 25 (μ2 0 25)) 0 25) from ⟨by omega, (k1.p (by decide)).p (by decide), fun q a_ b_ => by rw [zp_eq, pk_un b_, zp_eq, pk_un a_]; exact k2 q a_ b_, by show (pWalk (gP μ) n but (μ 0 24, μ 0 25)) (5 * a + j + 1) = _; rw [pWalk_s, k4, hsp]; rw [if_pos h28, if_neg (fun q => h33 (by rw [show d = 0 from q]; rfl))]; simp [zp, zu, upd]⟩) (by show 5 - (j + 1) < 5 - j; omega)
          · exact absurd h49 h33
        · refine zx_iload_n (k := 3) (nn := 37) dX11_fitsBut_36 rfl rfl rfl ?_
          refine zx_goto (tgt := 44) dX11_fitsBut_37 (by decide) ?_
          refine zx_putI (nn := 47) fpX11_346 rfl rfl rfl rfl dX11_fitsBut_44 rfl ?_
          refine zx_aload_n (k := 0) (nn := 48) dX11_fitsBut_47 rfl rfl rfl ?_
          refine zx_iload_n (k := 2) (nn := 49) dX11_fitsBut_48 rfl rfl rfl ?_
          refine zx_if_ne (tgt := 57) (nn := 52) dX11_fitsBut_49 (by decide) rfl (fun h49 => ?_) (fun h49 => ?_)
          · exact absurd h33 h49
          · refine zx_iload (k := 4) (nn := 54) dX11_fitsBut_52 rfl rfl ?_
            refine zx_goto (tgt := 61) dX11_fitsBut_54 (by decide) ?_
            refine zx_putI (nn := 64) fpX11_349 rfl rfl rfl rfl dX11_fitsBut_61 rfl ?_
            refine zx_iinc (k := 2) (v := nI (d + 1)) (lv' := [(2, zi (nI (d + 1))), (0, zr 0), (1, zi but), (3, zi (nI a)), (4, zi (nI j - 2))]) (nn := 67) dX11_fitsBut_64 rfl (nI_1 d) (by decide) rfl rfl ?_
            refine zx_iinc (k := 4) (v := (nI j - 2) + 1) (lv' := [(4, zi ((nI j - 2) + 1)), (2, zi (nI (d + 1))), (0, zr 0), (1, zi but), (3, zi (nI a))]) (nn := 70) dX11_fitsBut_67 rfl rfl (by decide) rfl rfl ?_
            rw [show (nI j - 2) + 1 = nI (j + 1) - 2 from zpace1 (by omega)]
            show zX shR σ 3 MX11_fitsBut 70 [(4, zi (nI (j + 1) - 2)), (2, zi (nI (d + 1))), (0, zr 0), (1, zi but), (3, zi (nI a))] [] (zp (zp μ2 0 24 (nI a)) 0 25 (nI j - 2)) _
            refine zx_goto (tgt := 14) dX11_fitsBut_70 (by decide) ?_
            refine zx_lv (lv' := [(0, zr 0), (1, zi but), (2, zi (nI (d + 1))), (3, zi (nI a)), (4, zi (nI (j + 1) - 2))]) [2, 3, 1, 4, 0] rfl ?_
            exact ih14 (j + 1, d + 1, zp (zp μ2 0 24 (nI a)) 0 25 (nI j - 2)) (show (j + 1) ≤ 5 ∧ zJ [0] μ (zp (zp μ2 0 24 (nI a)) 0 25 (nI j - 2)) ∧ rF2 24 25 μ (zp (zp μ2 0 24 (nI a)) 0 25 (nI j - 2)) ∧ (pWalk (gP μ) n but (μ 0 24, μ 0 25)) (5 * a + (j + 1)) = ((d + 1), (zp (zp μ2 0 24 (nI a)) 0 25 (nI j - 2)) 0 24, (zp (zp μ2 0 24 (nI a)) 0 25 (nI j - 2)) 0 25) from ⟨by omega, (k1.p (by decide)).p (by decide), fun q a_ b_ => by rw [zp_eq, pk_un b_, zp_eq, pk_un a_]; exact k2 q a_ b_, by show (pWalk (gP μ) n but (μ 0 24, μ 0 25)) (5 * a + j + 1) = _; rw [pWalk_s, k4, hsp]; rw [if_pos h28, if_pos (nI_eq0 h33 (by omega))]; simp [zp, zu, upd, pStart, pPace, hdiv, hmod]⟩) (by show 5 - (j + 1) < 5 - j; omega)
set_option maxHeartbeats 4000000 in
set_option maxRecDepth 100000 in
theorem eX11_span_0 (σ : zG) (μ : zM) (w : Int32) (n : Nat) (hc : μ 1 6 = nI n) (hn : n ≤ 6) (hpb : gPB μ n) : zMet shR σ 4 MX11_span yX11_span [zr 0, zi w] μ (fun rr μ' => rr = some (zi (vSpan (gP μ) n w (-1))) ∧ zJ [0] μ μ' ∧ rF2 24 25 μ μ') := by
  refine zmetF (by decide +kernel) rfl (Nat.le_of_ble_eq_true rfl) ?_
  show zX shR σ 4 MX11_span 0 [(0, zr 0), (1, zi w)] [] μ _
  refine zx_iload_n (k := 1) (nn := 1) dX11_span_0 rfl rfl rfl ?_
  refine zx_i2l (nn := 2) dX11_span_1 rfl ?_
  refine zx_lconst (v := 0) (nn := 3) rfl dX11_span_2 rfl ?_
  refine zx_ldc2 (v := 2) (nn := 6) cwX11_287 dX11_span_3 rfl ?_
  refine zx_callSf (nn := 9) (d' := 0) (as := [zj w.toInt64, zj 0, zj 2]) (rest := []) (n := 3) (eX11_isIn σ μ w.toInt64 0 2  ) kX11_isIn mlX11_70 (by decide) rfl rfl (Nat.le_of_ble_eq_true rfl) dX11_span_6 rfl ?_
  show zX shR σ 4 MX11_span 9 [(0, zr 0), (1, zi w)] [zi (zb (decide (0 ≤ w.toInt64) && decide (w.toInt64 ≤ 2)))] μ _
  rw [show zb (decide (0 ≤ w.toInt64) && decide (w.toInt64 ≤ 2)) = zb (pIn w 0 2) from congrArg zb (in_r w 0 2)]
  show zX shR σ 4 MX11_span 9 [(0, zr 0), (1, zi w)] [zi (zb (pIn w 0 2))] μ _
  refine zx_ifb_ne (tgt := 14) (nn := 12) dX11_span_9 (by decide) rfl (fun h9 => ?_) (fun h9 => ?_)
  · refine zx_aload_n (k := 0) (nn := 15) dX11_span_14 rfl rfl rfl ?_
    refine zx_iconst (v := -1) (nn := 16) rfl dX11_span_15 rfl ?_
    refine zx_callV (nn := 19) (k := 0) (d' := 3) (as := [zi (-1)]) (rest := []) (n := 1) (eX11_fitsBut_0 σ μ (-1) n hc hn hpb) kX11_fitsBut mlX11_352 rfl rfl rfl (by decide) rfl rfl (Nat.le_of_ble_eq_true rfl) dX11_span_16 rfl ?_
    rintro _ ν1 ⟨rfl, q1⟩
    show zX shR σ 4 MX11_span 19 [(0, zr 0), (1, zi w)] [zi (nI (pWalks (gP μ) n (-1)).1)] ν1 _
    refine zx_istore_n (nn := 20) (lv' := [(2, zi (nI (pWalks (gP μ) n (-1)).1)), (0, zr 0), (1, zi w)]) dX11_span_19 rfl (by decide) rfl rfl ?_
    refine zx_iload_n (k := 2) (nn := 21) dX11_span_20 rfl rfl rfl ?_
    refine zx_if_ne (tgt := 28) (nn := 24) dX11_span_21 (by decide) rfl (fun h21 => ?_) (fun h21 => ?_)
    · refine zx_iload_n (k := 0) (nn := 29) dX11_span_28 rfl rfl rfl ?_
      refine zx_if_ne (tgt := 37) (nn := 32) dX11_span_29 (by decide) rfl (fun h29 => ?_) (fun h29 => ?_)
      · refine zx_iload_n (k := 2) (nn := 38) dX11_span_37 rfl rfl rfl ?_
        refine zx_iconst (v := 1) (nn := 39) rfl dX11_span_38 rfl ?_
        refine zx_icmp_ne (tgt := 49) (nn := 42) dX11_span_39 (by decide) rfl (fun h39 => ?_) (fun h39 => ?_)
        · refine zx_aload_n (k := 1) (nn := 50) dX11_span_49 rfl rfl rfl ?_
          refine zx_getI (nn := 53) flX11_349 rfl rfl dX11_span_50 rfl ?_
          refine zx_iconst (v := 2) (nn := 54) rfl dX11_span_53 rfl ?_
          refine zx_iadd (nn := 55) dX11_span_54 rfl ?_
          refine zx_iret rfl dX11_span_55 ?_
          have hz : (pWalks (gP μ) n (-1)).1 ≠ 0 := fun z => h29 (by rw [z]; rfl)
          refine ⟨congrArg (fun x => some (zi x)) ?_, q1.1, q1.2.1⟩
          unfold vSpan
          rw [if_pos h9, if_neg h21, if_neg hz, if_neg h39, (q1.2.2 hz).2]
        · refine zx_aload_n (k := 1) (nn := 43) dX11_span_42 rfl rfl rfl ?_
          refine zx_getI (nn := 46) flX11_346 rfl rfl dX11_span_43 rfl ?_
          refine zx_goto (tgt := 55) dX11_span_46 (by decide) ?_
          refine zx_iret rfl dX11_span_55 ?_
          have hz : (pWalks (gP μ) n (-1)).1 ≠ 0 := fun z => h29 (by rw [z]; rfl)
          refine ⟨congrArg (fun x => some (zi x)) ?_, q1.1, q1.2.1⟩
          unfold vSpan
          rw [if_pos h9, if_neg h21, if_neg hz, if_pos h39]
          exact (q1.2.2 hz).1
      · refine zx_bipush (v := -3) (nn := 34) rfl dX11_span_32 rfl ?_
        refine zx_goto (tgt := 55) dX11_span_34 (by decide) ?_
        refine zx_iret rfl dX11_span_55 ?_
        have hw : (pWalks (gP μ) n (-1)).1 ≤ 205 := pWalk_le 205
        refine ⟨congrArg (fun x => some (zi x)) ?_, q1.1, q1.2.1⟩
        unfold vSpan
        rw [if_pos h9, if_neg h21, if_pos (nI_eq0 h29 (by omega))]
    · refine zx_iload_n (k := 0) (nn := 25) dX11_span_24 rfl rfl rfl ?_
      refine zx_goto (tgt := 55) dX11_span_25 (by decide) ?_
      refine zx_iret rfl dX11_span_55 ?_
      refine ⟨congrArg (fun x => some (zi x)) ?_, q1.1, q1.2.1⟩
      unfold vSpan
      rw [if_pos h9, if_pos h21]
  · refine zx_iconst (v := -1) (nn := 13) rfl dX11_span_12 rfl ?_
    refine zx_iret rfl dX11_span_13 ?_
    refine ⟨congrArg (fun x => some (zi x)) ?_, zJ.rf, fun _ _ _ => rfl⟩
    simp [vSpan, h9]
set_option maxHeartbeats 4000000 in
set_option maxRecDepth 100000 in
theorem eX11_liar_0 (σ : zG) (μ : zM) (n : Nat) (hc : μ 1 6 = nI n) (hn : n ≤ 6) (hpb : gPB μ n) : zMet shR σ 4 MX11_liar yX11_liar [zr 0] μ (fun rr μ' => rr = some (zi (pLiar (gP μ) n (-1))) ∧ zJ [0] μ μ' ∧ rF2 24 25 μ μ') := by
  refine zmetF (by decide +kernel) rfl (Nat.le_of_ble_eq_true rfl) ?_
  show zX shR σ 4 MX11_liar 0 [(0, zr 0)] [] μ _
  refine zx_aload_n (k := 0) (nn := 1) dX11_liar_0 rfl rfl rfl ?_
  refine zx_iconst (v := -1) (nn := 2) rfl dX11_liar_1 rfl ?_
  refine zx_callV (nn := 5) (k := 0) (d' := 3) (as := [zi (-1)]) (rest := []) (n := 1) (eX11_fitsBut_0 σ μ (-1) n hc hn hpb) kX11_fitsBut mlX11_352 rfl rfl rfl (by decide) rfl rfl (Nat.le_of_ble_eq_true rfl) dX11_liar_2 rfl ?_
  rintro _ ν1 ⟨rfl, c1, c2, -⟩
  show zX shR σ 4 MX11_liar 5 [(0, zr 0)] [zi (nI (pWalks (gP μ) n (-1)).1)] ν1 _
  have hw : ∀ b, (pWalks (gP μ) n b).1 ≤ 205 := fun b => pWalk_le 205
  refine zx_if_le (tgt := 11) (nn := 8) dX11_liar_5 (by decide) rfl (fun h5 => ?_) (fun h5 => ?_)
  · refine zx_iconst (v := 0) (nn := 12) rfl dX11_liar_11 rfl ?_
    refine zx_istore_n (nn := 13) (lv' := [(1, zi 0), (0, zr 0)]) dX11_liar_12 rfl (by decide) rfl rfl ?_
    refine zx_lv (lv' := [(0, zr 0), (1, zi 0)]) [1, 0] rfl ?_
    refine zx_while (τ := Nat × zM) (fun t_ => n - t_.1) (fun t_ => t_.1 ≤ n ∧ zJ [0] μ t_.2 ∧ rF2 24 25 μ t_.2 ∧ pFirst (fun r_ => decide ((pWalks (gP μ) n (nI r_)).1 ≠ 0)) 0 n = pFirst (fun r_ => decide ((pWalks (gP μ) n (nI r_)).1 ≠ 0)) t_.1 (n - t_.1)) (fun t_ => [(0, zr 0), (1, zi (nI t_.1))]) (fun t_ => t_.2) (t0 := (0, ν1)) (show 0 ≤ n ∧ zJ [0] μ ν1 ∧ rF2 24 25 μ ν1 ∧ pFirst (fun r_ => decide ((pWalks (gP μ) n (nI r_)).1 ≠ 0)) 0 n = pFirst (fun r_ => decide ((pWalks (gP μ) n (nI r_)).1 ≠ 0)) 0 (n - 0) from ⟨Nat.zero_le _, c1, c2, rfl⟩) ?_
    rintro ⟨r, μ1⟩ hI ih13
    replace hI : r ≤ n ∧ zJ [0] μ μ1 ∧ rF2 24 25 μ μ1 ∧ pFirst (fun r_ => decide ((pWalks (gP μ) n (nI r_)).1 ≠ 0)) 0 n = pFirst (fun r_ => decide ((pWalks (gP μ) n (nI r_)).1 ≠ 0)) r (n - r) := hI
    show zX shR σ 4 MX11_liar 13 [(0, zr 0), (1, zi (nI r))] [] μ1 _
    obtain ⟨l0, l2, l3, l4⟩ := hI
    have ep : gP μ1 = gP μ := by unfold gP; rw [l2 1 (by decide)]
    have hpos : ∀ {x : Nat}, x ≠ 0 → x ≤ 205 → ¬ (nI x ≤ 0) := fun {x} h1 h2 => nI_nle (by omega) (by omega)
    refine zx_iload_n (k := 1) (nn := 14) dX11_liar_13 rfl rfl rfl ?_
    refine zx_aload_n (k := 0) (nn := 15) dX11_liar_14 rfl rfl rfl ?_
    refine zx_getR (q := 1) (nn := 18) flX11_9 rfl rfl dX11_liar_15 rfl ?_
    refine zx_bipush (v := 6) (nn := 20) rfl dX11_liar_18 rfl ?_
    refine zx_iald_n (j := 6) (nn := 21) rfl (by omega) (by decide) dX11_liar_20 rfl ?_
    rw [show μ1 1 6 = nI n from by rw [l2 1 (by decide)]; exact hc]
    show zX shR σ 4 MX11_liar 21 [(0, zr 0), (1, zi (nI r))] [zi (nI n), zi (nI r)] μ1 _
    refine zx_icmp_ge (tgt := 40) (nn := 24) dX11_liar_21 (by decide) rfl (fun h21 => ?_) (fun h21 => ?_)
    · refine zx_bipush (v := -3) (nn := 42) rfl dX11_liar_40 rfl ?_
      refine zx_iret rfl dX11_liar_42 ?_
      have h0 : (pWalks (gP μ) n (-1)).1 = 0 := by
        rcases Nat.eq_zero_or_pos (pWalks (gP μ) n (-1)).1 with q | q
        · exact q
        · exact absurd h5 (nI_nle q (by have := hw (-1); omega))
      have hge := nI_le_le h21 (by omega)
      refine ⟨congrArg (fun x => some (zi x)) ?_, l2, l3⟩
      unfold pLiar
      rw [if_neg (fun q => q h0), l4, show n - r = 0 by omega]
      rfl
    · have hlt : r < n := nI_nle_lt h21 (by omega)
      refine zx_aload_n (k := 0) (nn := 25) dX11_liar_24 rfl rfl rfl ?_
      refine zx_iload_n (k := 1) (nn := 26) dX11_liar_25 rfl rfl rfl ?_
      refine zx_callV (nn := 29) (k := 0) (d' := 3) (as := [zi (nI r)]) (rest := []) (n := 1) (eX11_fitsBut_0 σ μ1 (nI r) n (by rw [l2 1 (by decide)]; exact hc) hn (by unfold gPB; rw [ep]; exact hpb)) kX11_fitsBut mlX11_352 rfl rfl rfl (by decide) rfl rfl (Nat.le_of_ble_eq_true rfl) dX11_liar_26 rfl ?_
      rintro _ ν2 ⟨rfl, d1, d2, -⟩
      show zX shR σ 4 MX11_liar 29 [(0, zr 0), (1, zi (nI r))] [zi (nI (pWalks (gP μ1) n (nI r)).1)] ν2 _
      refine zx_if_le (tgt := 34) (nn := 32) dX11_liar_29 (by decide) rfl (fun h29 => ?_) (fun h29 => ?_)
      · refine zx_iinc (k := 1) (v := nI (r + 1)) (lv' := [(1, zi (nI (r + 1))), (0, zr 0)]) (nn := 37) dX11_liar_34 rfl (nI_1 r) (by decide) rfl rfl ?_
        refine zx_goto (tgt := 13) dX11_liar_37 (by decide) ?_
        refine zx_lv (lv' := [(0, zr 0), (1, zi (nI (r + 1)))]) [1, 0] rfl ?_
        exact ih13 (r + 1, ν2) (show (r + 1) ≤ n ∧ zJ [0] μ ν2 ∧ rF2 24 25 μ ν2 ∧ pFirst (fun r_ => decide ((pWalks (gP μ) n (nI r_)).1 ≠ 0)) 0 n = pFirst (fun r_ => decide ((pWalks (gP μ) n (nI r_)).1 ≠ 0)) (r + 1) (n - (r + 1)) from ⟨by omega, l2.tr d1, fun q a_ b_ => (d2 q a_ b_).trans (l3 q a_ b_), by rw [l4, pFirst_step hlt, if_neg (by rw [ep] at h29; rw [decide_eq_true_eq]; exact fun q => hpos q (pWalk_le 205) h29)]⟩) (by show n - (r + 1) < n - r; omega)
      · refine zx_iload_n (k := 1) (nn := 33) dX11_liar_32 rfl rfl rfl ?_
        refine zx_iret rfl dX11_liar_33 ?_
        have h0 : (pWalks (gP μ) n (-1)).1 = 0 := by
          rcases Nat.eq_zero_or_pos (pWalks (gP μ) n (-1)).1 with q | q
          · exact q
          · exact absurd h5 (nI_nle q (by have := hw (-1); omega))
        refine ⟨congrArg (fun x => some (zi x)) ?_, l2.tr d1, fun q a_ b_ => (d2 q a_ b_).trans (l3 q a_ b_)⟩
        unfold pLiar
        rw [if_neg (fun q => q h0), l4, pFirst_step hlt, if_pos (by rw [decide_eq_true_eq, ← ep]; exact fun q => h29 (by rw [q]; decide))]
  · refine zx_bipush (v := -3) (nn := 10) rfl dX11_liar_8 rfl ?_
    refine zx_iret rfl dX11_liar_10 ?_
    refine ⟨congrArg (fun x => some (zi x)) ?_, c1, c2⟩
    unfold pLiar
    rw [if_pos (fun q => h5 (by rw [q]; decide))]
