theorem rNots_n {K : Nat → Int32} {k : Nat} (h : ¬ K k = 268) : ∀ m, rNots K m k = 0
  | 0 => rfl
  | m + 1 => if_neg h
theorem rNots_s {K : Nat → Int32} {k m : Nat} (h : K k = 268) : rNots K (m + 1) k = rNots K m (k + 1) + 1 := if_pos h
set_option maxHeartbeats 8000000 in
set_option maxRecDepth 100000 in
theorem eX4_readOne (σ : zG) (K V : Nat → Int32) (c op D : Nat) (any : Nat → pC) (may : Bool) (hD : 1 ≤ D) (hop : op ≤ 3) (hmay : may = decide (op < 3)) (hg : may = true → pGd c any) (hany : op < 3 → ∀ μ nx cc, rdS K V c μ nx cc → zMet shC σ D MX4_readAny yX4_readAny [zr 7, zi (nI (op + 1))] μ (fun rr μ' => rr = some (zi (zb (any nx).1)) ∧ rdP K V c μ cc (any nx) μ')) (μ : zM) (nx cc : Nat) (hS : rdS K V c μ nx cc) : zMet shC σ (D + 1) MX4_readOne yX4_readOne [zr 7, zi (nI op)] μ (fun rr μ' => rr = some (zi (zb (rOne K V any may nx).1)) ∧ rdP K V c μ cc (rOne K V any may nx) μ') := by
  refine zmetF (by decide +kernel) rfl (Nat.le_of_ble_eq_true rfl) ?_
  show zX shC σ (D + 1) MX4_readOne 0 [(0, zr 7), (1, zi (nI op))] [] μ _
  refine zx_iconst (v := 0) (nn := 1) rfl dX4_readOne_0 rfl ?_
  refine zx_istore_n (nn := 2) (lv' := [(2, zi 0), (0, zr 7), (1, zi (nI op))]) dX4_readOne_1 rfl (by decide) rfl rfl ?_
  refine zx_iconst (v := 0) (nn := 3) rfl dX4_readOne_2 rfl ?_
  refine zx_istore_n (nn := 4) (lv' := [(3, zi 0), (2, zi 0), (0, zr 7), (1, zi (nI op))]) dX4_readOne_3 rfl (by decide) rfl rfl ?_
  refine zx_lv (lv' := [(0, zr 7), (1, zi (nI op)), (2, zi 0), (3, zi 0)]) [2, 3, 1, 0] rfl ?_
  refine zx_while (τ := Nat × zM) (fun t_ => 200 - t_.1) (fun t_ => t_.1 ≤ 200 ∧ rNots K 200 nx = t_.1 + rNots K (200 - t_.1) (nx + t_.1) ∧ rdS K V c t_.2 (nx + t_.1) cc ∧ rdE μ t_.2 ∧ t_.2 16 = μ 16) (fun t_ => [(0, zr 7), (1, zi (nI op)), (2, zi (zb (decide (t_.1 % 2 = 1)))), (3, zi (nI t_.1))]) (fun t_ => t_.2) (t0 := (0, μ)) (show 0 ≤ 200 ∧ rNots K 200 nx = 0 + rNots K (200 - 0) (nx + 0) ∧ rdS K V c μ (nx + 0) cc ∧ rdE μ μ ∧ μ 16 = μ 16 from ⟨Nat.zero_le _, (by rw [Nat.zero_add]; rfl), hS, rdE.rf, rfl⟩) ?_
  rintro ⟨n, μ1⟩ hI ih4
  replace hI : n ≤ 200 ∧ rNots K 200 nx = n + rNots K (200 - n) (nx + n) ∧ rdS K V c μ1 (nx + n) cc ∧ rdE μ μ1 ∧ μ1 16 = μ 16 := hI
  show zX shC σ (D + 1) MX4_readOne 4 [(0, zr 7), (1, zi (nI op)), (2, zi (zb (decide (n % 2 = 1)))), (3, zi (nI n))] [] μ1 _
  obtain ⟨hn, hN, hS1, hE1, h16⟩ := hI
  refine zx_iload_n (k := 3) (nn := 5) dX4_readOne_4 rfl rfl rfl ?_
  refine zx_sipush (v := 200) (nn := 8) rfl dX4_readOne_5 rfl ?_
  refine zx_icmp_ge (tgt := 52) (nn := 11) dX4_readOne_8 (by decide) rfl (fun h8 => ?_) (fun h8 => ?_)
  · have hz : rNots K (200 - n) (nx + n) = 0 := by rw [show 200 - n = 0 by have := nI_le_le (b := 200) (a := n) h8 (by omega); omega]; rfl
    have hN2 : rNots K 200 nx = n := by omega
    have hk := hS1.2.2.2.1.2
    have hc2 := hS1.2.2.1.2
    have hcc := hS.2.2.2.2.2
    refine zx_aload_n (k := 0) (nn := 53) dX4_readOne_52 rfl rfl rfl ?_
    refine zx_getR (q := 9) (nn := 56) flX4_15 rfl rfl dX4_readOne_53 rfl ?_
    refine zx_aload_n (k := 0) (nn := 57) dX4_readOne_56 rfl rfl rfl ?_
    refine zx_getI (nn := 60) flX4_38 rfl rfl dX4_readOne_57 rfl ?_
    rw [show μ1 7 7 = nI (nx + n) from hS1.2.2.2.1.1]
    show zX shC σ (D + 1) MX4_readOne 60 [(0, zr 7), (1, zi (nI op)), (2, zi (zb (decide (n % 2 = 1)))), (3, zi (nI n))] [zi (nI (nx + n)), zr 9] μ1 _
    refine zx_iald_n (j := nx + n) (nn := 61) rfl (by omega) (by decide) dX4_readOne_60 rfl ?_
    rw [show μ1 9 (nx + n) = K (nx + n) from hS1.1 _ hS1.2.2.2.1.2]
    show zX shC σ (D + 1) MX4_readOne 61 [(0, zr 7), (1, zi (nI op)), (2, zi (zb (decide (n % 2 = 1)))), (3, zi (nI n))] [zi (K (nx + n))] μ1 _
    refine zx_bipush (v := 40) (nn := 63) rfl dX4_readOne_61 rfl ?_
    refine zx_icmp_ne (tgt := 122) (nn := 66) dX4_readOne_63 (by decide) rfl (fun h63 => ?_) (fun h63 => ?_)
    · refine zx_aload_n (k := 0) (nn := 123) dX4_readOne_122 rfl rfl rfl ?_
      refine zx_callV (nn := 126) (k := 7) (d' := 1) (as := []) (rest := []) (n := 0) (eX4_readValue_7 σ μ1 K V c (nx + n) cc hS1) kX4_readValue mlX4_70 rfl rfl rfl (by omega) rfl rfl (Nat.le_of_ble_eq_true rfl) dX4_readOne_123 rfl ?_
      rintro _ ν1 ⟨rfl, q1⟩
      show zX shC σ (D + 1) MX4_readOne 126 [(0, zr 7), (1, zi (nI op)), (2, zi (zb (decide (n % 2 = 1)))), (3, zi (nI n))] [zi (zb (rVal K V (nx + n)).1)] ν1 _
      refine zx_ifb_ne (tgt := 131) (nn := 129) dX4_readOne_126 (by decide) rfl (fun h126 => ?_) (fun h126 => ?_)
      · have hSa := (q1.2.2 h126).1
        have hga := gd_val (V := V) hS.2.2.1.1 (nx + n) hk
        refine zx_aload_n (k := 0) (nn := 132) dX4_readOne_131 rfl rfl rfl ?_
        refine zx_callVf (nn := 135) (k := 7) (d' := 0) (as := []) (rest := []) (n := 0) (eX4_signHere_7 σ ν1 K V c (rVal K V (nx + n)).2.1 (cc + (rVal K V (nx + n)).2.2.1.length) hSa) kX4_signHere mlX4_73 rfl rfl rfl (by omega) rfl rfl (Nat.le_of_ble_eq_true rfl) dX4_readOne_132 rfl ?_
        show zX shC σ (D + 1) MX4_readOne 135 [(0, zr 7), (1, zi (nI op)), (2, zi (zb (decide (n % 2 = 1)))), (3, zi (nI n))] [zi (rSign (K (rVal K V (nx + n)).2.1))] ν1 _
        refine zx_istore_n (nn := 136) (lv' := [(3, zi (rSign (K (rVal K V (nx + n)).2.1))), (0, zr 7), (1, zi (nI op)), (2, zi (zb (decide (n % 2 = 1))))]) dX4_readOne_135 rfl (by decide) rfl rfl ?_
        refine zx_iload_n (k := 0) (nn := 137) dX4_readOne_136 rfl rfl rfl ?_
        refine zx_if_ne (tgt := 142) (nn := 140) dX4_readOne_137 (by decide) rfl (fun h137 => ?_) (fun h137 => ?_)
        · have hne : K (rVal K V (nx + n)).2.1 ≠ -1 := fun e => h137 (by rw [e]; decide)
          have hnc : (rVal K V (nx + n)).2.1 ≠ c := fun e => hne (by rw [e]; exact hS.2.2.1.1)
          have hgb := gd_val (V := V) hS.2.2.1.1 ((rVal K V (nx + n)).2.1 + 1) (by omega)
          refine zx_aload_n (k := 1) (nn := 143) dX4_readOne_142 rfl rfl rfl ?_
          refine zx_dupr (nn := 144) dX4_readOne_143 rfl ?_
          refine zx_getI (nn := 147) flX4_38 rfl rfl dX4_readOne_144 rfl ?_
          rw [show ν1 7 7 = nI (rVal K V (nx + n)).2.1 from hSa.2.2.2.1.1]
          show zX shC σ (D + 1) MX4_readOne 147 [(3, zi (rSign (K (rVal K V (nx + n)).2.1))), (0, zr 7), (1, zi (nI op)), (2, zi (zb (decide (n % 2 = 1))))] [zi (nI (rVal K V (nx + n)).2.1), zr 7] ν1 _
          refine zx_iconst (v := 1) (nn := 148) rfl dX4_readOne_147 rfl ?_
          refine zx_iadd (nn := 149) dX4_readOne_148 rfl ?_
          rw [show (nI (rVal K V (nx + n)).2.1) + 1 = nI ((rVal K V (nx + n)).2.1 + 1) from nI_1 _]
          show zX shC σ (D + 1) MX4_readOne 149 [(3, zi (rSign (K (rVal K V (nx + n)).2.1))), (0, zr 7), (1, zi (nI op)), (2, zi (zb (decide (n % 2 = 1))))] [zi (nI ((rVal K V (nx + n)).2.1 + 1)), zr 7] ν1 _
          refine zx_putI (nn := 152) fpX4_38 rfl rfl rfl rfl dX4_readOne_149 rfl ?_
          refine zx_aload_n (k := 1) (nn := 153) dX4_readOne_152 rfl rfl rfl ?_
          refine zx_callV (nn := 156) (k := 7) (d' := 1) (as := []) (rest := []) (n := 0) (eX4_readValue_7 σ (zp ν1 7 7 (nI ((rVal K V (nx + n)).2.1 + 1))) K V c ((rVal K V (nx + n)).2.1 + 1) (cc + (rVal K V (nx + n)).2.2.1.length) (hSa.nx hne)) kX4_readValue mlX4_70 rfl rfl rfl (by omega) rfl rfl (Nat.le_of_ble_eq_true rfl) dX4_readOne_153 rfl ?_
          rintro _ ν2 ⟨rfl, q2⟩
          show zX shC σ (D + 1) MX4_readOne 156 [(3, zi (rSign (K (rVal K V (nx + n)).2.1))), (0, zr 7), (1, zi (nI op)), (2, zi (zb (decide (n % 2 = 1))))] [zi (zb (rVal K V ((rVal K V (nx + n)).2.1 + 1)).1)] ν2 _
          refine zx_ifb_ne (tgt := 161) (nn := 159) dX4_readOne_156 (by decide) rfl (fun h156 => ?_) (fun h156 => ?_)
          · have hSb := (q2.2.2 h156).1
            refine zx_aload_n (k := 1) (nn := 162) dX4_readOne_161 rfl rfl rfl ?_
            refine zx_getR (q := 12) (nn := 165) flX4_27 rfl rfl dX4_readOne_162 rfl ?_
            refine zx_iload_n (k := 0) (nn := 166) dX4_readOne_165 rfl rfl rfl ?_
            refine zx_callVf (nn := 169) (k := 12) (d' := 0) (as := [zi (rSign (K (rVal K V (nx + n)).2.1))]) (rest := []) (n := 1) (eX5_addCode_12 σ ν2 (rSign (K (rVal K V (nx + n)).2.1)) (cc + (rVal K V (nx + n)).2.2.1.length + (rVal K V ((rVal K V (nx + n)).2.1 + 1)).2.2.1.length) hSb.2.2.2.2.1 (by omega)) kX5_addCode mlX4_63 rfl rfl rfl (by omega) rfl rfl (Nat.le_of_ble_eq_true rfl) dX4_readOne_166 rfl ?_
            show zX shC σ (D + 1) MX4_readOne 169 [(3, zi (rSign (K (rVal K V (nx + n)).2.1))), (0, zr 7), (1, zi (nI op)), (2, zi (zb (decide (n % 2 = 1))))] [] (zp (zp ν2 16 (cc + (rVal K V (nx + n)).2.2.1.length + (rVal K V ((rVal K V (nx + n)).2.1 + 1)).2.2.1.length) (rSign (K (rVal K V (nx + n)).2.1))) 12 6 (nI (cc + (rVal K V (nx + n)).2.2.1.length + (rVal K V ((rVal K V (nx + n)).2.1 + 1)).2.2.1.length + 1))) _
            have hr : rCore K V any may (nx + n) = (true, (rVal K V ((rVal K V (nx + n)).2.1 + 1)).2.1, ((rVal K V (nx + n)).2.2.1 ++ ((rVal K V ((rVal K V (nx + n)).2.1 + 1)).2.2.1 ++ [rSign (K (rVal K V (nx + n)).2.1)])), (rVal K V (nx + n)).2.2.2 ++ ((rVal K V ((rVal K V (nx + n)).2.1 + 1)).2.2.2 ++ [(2, K (rVal K V (nx + n)).2.1)])) := by unfold rCore rTest; rw [if_neg h63, if_pos h126, if_neg h137, if_pos h156]
            have hln : ((rVal K V (nx + n)).2.2.1 ++ ((rVal K V ((rVal K V (nx + n)).2.1 + 1)).2.2.1 ++ [rSign (K (rVal K V (nx + n)).2.1)])).length = (rVal K V (nx + n)).2.2.1.length + (rVal K V ((rVal K V (nx + n)).2.1 + 1)).2.2.1.length + 1 := by simp only [List.length_append, List.length_cons, List.length_nil]; omega
            have hSr : rdS K V c (zp (zp ν2 16 (cc + (rVal K V (nx + n)).2.2.1.length + (rVal K V ((rVal K V (nx + n)).2.1 + 1)).2.2.1.length) (rSign (K (rVal K V (nx + n)).2.1))) 12 6 (nI (cc + (rVal K V (nx + n)).2.2.1.length + (rVal K V ((rVal K V (nx + n)).2.1 + 1)).2.2.1.length + 1))) ((rVal K V ((rVal K V (nx + n)).2.1 + 1)).2.1) (cc + ((rVal K V (nx + n)).2.2.1 ++ ((rVal K V ((rVal K V (nx + n)).2.1 + 1)).2.2.1 ++ [rSign (K (rVal K V (nx + n)).2.1)])).length) := by
              have hh := hSb.cd (v := rSign (K (rVal K V (nx + n)).2.1)) (by omega)
              rw [hln, show cc + ((rVal K V (nx + n)).2.2.1.length + (rVal K V ((rVal K V (nx + n)).2.1 + 1)).2.2.1.length + 1) = cc + (rVal K V (nx + n)).2.2.1.length + (rVal K V ((rVal K V (nx + n)).2.1 + 1)).2.2.1.length + 1 by omega]
              exact hh
            have hEr : rdE μ (zp (zp ν2 16 (cc + (rVal K V (nx + n)).2.2.1.length + (rVal K V ((rVal K V (nx + n)).2.1 + 1)).2.2.1.length) (rSign (K (rVal K V (nx + n)).2.1))) 12 6 (nI (cc + (rVal K V (nx + n)).2.2.1.length + (rVal K V ((rVal K V (nx + n)).2.1 + 1)).2.2.1.length + 1))) := ((hE1.tr q1.1).tr (rdE.nx.tr q2.1)).tr rdE.cd
            have hCr : rdC μ (zp (zp ν2 16 (cc + (rVal K V (nx + n)).2.2.1.length + (rVal K V ((rVal K V (nx + n)).2.1 + 1)).2.2.1.length) (rSign (K (rVal K V (nx + n)).2.1))) 12 6 (nI (cc + (rVal K V (nx + n)).2.2.1.length + (rVal K V ((rVal K V (nx + n)).2.1 + 1)).2.2.1.length + 1))) cc ((rVal K V (nx + n)).2.2.1 ++ ((rVal K V ((rVal K V (nx + n)).2.1 + 1)).2.2.1 ++ [rSign (K (rVal K V (nx + n)).2.1)])) := (rdC.pre h16 (q1.2.2 h126).2).app (rdC.pre (zp_ne (by decide)) ((q2.2.2 h156).2.app rdC.one))
            have hrm : cc + ((rVal K V (nx + n)).2.2.1 ++ ((rVal K V ((rVal K V (nx + n)).2.1 + 1)).2.2.1 ++ [rSign (K (rVal K V (nx + n)).2.1)])).length + n < (rVal K V ((rVal K V (nx + n)).2.1 + 1)).2.1 + 1 := by rw [hln]; omega
            refine zx_iload_n (k := 3) (nn := 170) dX4_readOne_169 rfl rfl rfl ?_
            refine zx_ifb_eq (tgt := 182) (nn := 173) dX4_readOne_170 (by decide) rfl (fun h170 => ?_) (fun h170 => ?_)
            · refine zx_iconst (v := 1) (nn := 183) rfl dX4_readOne_182 rfl ?_
              refine zx_zret rfl rfl dX4_readOne_183 ?_
              have ho := of_decide_eq_false h170
              have hE : rOne K V any may nx = (true, (rVal K V ((rVal K V (nx + n)).2.1 + 1)).2.1, ((rVal K V (nx + n)).2.2.1 ++ ((rVal K V ((rVal K V (nx + n)).2.1 + 1)).2.2.1 ++ [rSign (K (rVal K V (nx + n)).2.1)])), ((rVal K V (nx + n)).2.2.2 ++ ((rVal K V ((rVal K V (nx + n)).2.1 + 1)).2.2.2 ++ [(2, K (rVal K V (nx + n)).2.1)])) ++ List.replicate n (3, 0)) := by unfold rOne; rw [hN2, hr, if_pos rfl, if_neg ho, List.append_nil]
              rw [hE]
              exact ⟨rfl, hEr, hSr.2.2.2.1.1, fun _ => ⟨hSr, hCr⟩⟩
            · have ho1 := of_decide_eq_true h170
              have hec := hSr.2.2.2.1.2
              refine zx_aload_n (k := 1) (nn := 174) dX4_readOne_173 rfl rfl rfl ?_
              refine zx_getR (q := 12) (nn := 177) flX4_27 rfl rfl dX4_readOne_174 rfl ?_
              refine zx_bipush (v := -9) (nn := 179) rfl dX4_readOne_177 rfl ?_
              refine zx_callVf (nn := 182) (k := 12) (d' := 0) (as := [zi (-9)]) (rest := []) (n := 1) (eX5_addCode_12 σ (zp (zp ν2 16 (cc + (rVal K V (nx + n)).2.2.1.length + (rVal K V ((rVal K V (nx + n)).2.1 + 1)).2.2.1.length) (rSign (K (rVal K V (nx + n)).2.1))) 12 6 (nI (cc + (rVal K V (nx + n)).2.2.1.length + (rVal K V ((rVal K V (nx + n)).2.1 + 1)).2.2.1.length + 1))) (-9) (cc + ((rVal K V (nx + n)).2.2.1 ++ ((rVal K V ((rVal K V (nx + n)).2.1 + 1)).2.2.1 ++ [rSign (K (rVal K V (nx + n)).2.1)])).length) hSr.2.2.2.2.1 (by omega)) kX5_addCode mlX4_63 rfl rfl rfl (by omega) rfl rfl (Nat.le_of_ble_eq_true rfl) dX4_readOne_179 rfl ?_
              show zX shC σ (D + 1) MX4_readOne 182 [(3, zi (rSign (K (rVal K V (nx + n)).2.1))), (0, zr 7), (1, zi (nI op)), (2, zi (zb (decide (n % 2 = 1))))] [] (zp (zp (zp (zp ν2 16 (cc + (rVal K V (nx + n)).2.2.1.length + (rVal K V ((rVal K V (nx + n)).2.1 + 1)).2.2.1.length) (rSign (K (rVal K V (nx + n)).2.1))) 12 6 (nI (cc + (rVal K V (nx + n)).2.2.1.length + (rVal K V ((rVal K V (nx + n)).2.1 + 1)).2.2.1.length + 1))) 16 (cc + ((rVal K V (nx + n)).2.2.1 ++ ((rVal K V ((rVal K V (nx + n)).2.1 + 1)).2.2.1 ++ [rSign (K (rVal K V (nx + n)).2.1)])).length) (-9)) 12 6 (nI (cc + ((rVal K V (nx + n)).2.2.1 ++ ((rVal K V ((rVal K V (nx + n)).2.1 + 1)).2.2.1 ++ [rSign (K (rVal K V (nx + n)).2.1)])).length + 1))) _
              refine zx_iconst (v := 1) (nn := 183) rfl dX4_readOne_182 rfl ?_
              refine zx_zret rfl rfl dX4_readOne_183 ?_
              have ho := of_decide_eq_true h170
              have hE : rOne K V any may nx = (true, (rVal K V ((rVal K V (nx + n)).2.1 + 1)).2.1, ((rVal K V (nx + n)).2.2.1 ++ ((rVal K V ((rVal K V (nx + n)).2.1 + 1)).2.2.1 ++ [rSign (K (rVal K V (nx + n)).2.1)])) ++ [-9], ((rVal K V (nx + n)).2.2.2 ++ ((rVal K V ((rVal K V (nx + n)).2.1 + 1)).2.2.2 ++ [(2, K (rVal K V (nx + n)).2.1)])) ++ List.replicate n (3, 0)) := by unfold rOne; rw [hN2, hr, if_pos rfl, if_pos ho]
              rw [hE]
              refine ⟨rfl, hEr.tr rdE.cd, by rw [zp_ne (by decide), zp_ne (by decide)]; exact hSr.2.2.2.1.1, fun _ => ⟨?_, hCr.app rdC.one⟩⟩
              have hh := hSr.cd (v := -9) (by omega)
              rw [show (((rVal K V (nx + n)).2.2.1 ++ ((rVal K V ((rVal K V (nx + n)).2.1 + 1)).2.2.1 ++ [rSign (K (rVal K V (nx + n)).2.1)])) ++ [(-9 : Int32)]).length = ((rVal K V (nx + n)).2.2.1 ++ ((rVal K V ((rVal K V (nx + n)).2.1 + 1)).2.2.1 ++ [rSign (K (rVal K V (nx + n)).2.1)])).length + 1 by simp only [List.length_append, List.length_cons, List.length_nil]]
              exact hh
          · refine zx_iconst (v := 0) (nn := 160) rfl dX4_readOne_159 rfl ?_
            refine zx_zret rfl rfl dX4_readOne_160 ?_
            have hr : rCore K V any may (nx + n) = (false, (rVal K V ((rVal K V (nx + n)).2.1 + 1)).2.1, [], []) := by unfold rCore rTest; rw [if_neg h63, if_pos h126, if_neg h137, if_neg (by rw [h156]; decide)]
            have hE : rOne K V any may nx = (false, (rVal K V ((rVal K V (nx + n)).2.1 + 1)).2.1, [], []) := by unfold rOne; rw [hN2, hr]; rfl
            rw [hE]
            exact ⟨rfl, (hE1.tr q1.1).tr (rdE.nx.tr q2.1), q2.2.1, fun h => by cases h⟩
        · refine zx_iconst (v := 0) (nn := 141) rfl dX4_readOne_140 rfl ?_
          refine zx_zret rfl rfl dX4_readOne_141 ?_
          have hr : rCore K V any may (nx + n) = (false, (rVal K V (nx + n)).2.1, [], []) := by unfold rCore rTest; rw [if_neg h63, if_pos h126, if_pos h137]
          have hE : rOne K V any may nx = (false, (rVal K V (nx + n)).2.1, [], []) := by unfold rOne; rw [hN2, hr]; rfl
          rw [hE]
          exact ⟨rfl, hE1.tr q1.1, q1.2.1, fun h => by cases h⟩
      · refine zx_iconst (v := 0) (nn := 130) rfl dX4_readOne_129 rfl ?_
        refine zx_zret rfl rfl dX4_readOne_130 ?_
        have hr : rCore K V any may (nx + n) = (false, (rVal K V (nx + n)).2.1, [], []) := by unfold rCore rTest; rw [if_neg h63, if_neg (by rw [h126]; decide)]
        have hE : rOne K V any may nx = (false, (rVal K V (nx + n)).2.1, [], []) := by unfold rOne; rw [hN2, hr]; rfl
        rw [hE]
        exact ⟨rfl, hE1.tr q1.1, q1.2.1, fun h => by cases h⟩
    · have hlt3 : may = true → nI op < 3 := fun q => nI_lt (b := 3) (of_decide_eq_true (hmay ▸ q)) (by omega)
      refine zx_iload_n (k := 1) (nn := 67) dX4_readOne_66 rfl rfl rfl ?_
      refine zx_iconst (v := 3) (nn := 68) rfl dX4_readOne_67 rfl ?_
      refine zx_icmp_lt (tgt := 73) (nn := 71) dX4_readOne_68 (by decide) rfl (fun h68 => ?_) (fun h68 => ?_)
      · have hop3 : op < 3 := (nI_ltI (b := 3) (by omega) (by omega)).mp h68
        have hmt : may = true := hmay.trans (decide_eq_true hop3)
        have hnc : nx + n ≠ c := fun e => by rw [e, hS1.2.2.1.1] at h63; exact absurd h63 (by decide)
        refine zx_aload_n (k := 0) (nn := 74) dX4_readOne_73 rfl rfl rfl ?_
        refine zx_dupr (nn := 75) dX4_readOne_74 rfl ?_
        refine zx_getI (nn := 78) flX4_38 rfl rfl dX4_readOne_75 rfl ?_
        rw [show μ1 7 7 = nI (nx + n) from hS1.2.2.2.1.1]
        show zX shC σ (D + 1) MX4_readOne 78 [(0, zr 7), (1, zi (nI op)), (2, zi (zb (decide (n % 2 = 1)))), (3, zi (nI n))] [zi (nI (nx + n)), zr 7] μ1 _
        refine zx_iconst (v := 1) (nn := 79) rfl dX4_readOne_78 rfl ?_
        refine zx_iadd (nn := 80) dX4_readOne_79 rfl ?_
        rw [show (nI (nx + n)) + 1 = nI (nx + n + 1) from nI_1 _]
        show zX shC σ (D + 1) MX4_readOne 80 [(0, zr 7), (1, zi (nI op)), (2, zi (zb (decide (n % 2 = 1)))), (3, zi (nI n))] [zi (nI (nx + n + 1)), zr 7] μ1 _
        refine zx_putI (nn := 83) fpX4_38 rfl rfl rfl rfl dX4_readOne_80 rfl ?_
        refine zx_aload_n (k := 0) (nn := 84) dX4_readOne_83 rfl rfl rfl ?_
        refine zx_iload_n (k := 1) (nn := 85) dX4_readOne_84 rfl rfl rfl ?_
        refine zx_iconst (v := 1) (nn := 86) rfl dX4_readOne_85 rfl ?_
        refine zx_iadd (nn := 87) dX4_readOne_86 rfl ?_
        rw [show (nI op) + 1 = nI (op + 1) from nI_1 _]
        show zX shC σ (D + 1) MX4_readOne 87 [(0, zr 7), (1, zi (nI op)), (2, zi (zb (decide (n % 2 = 1)))), (3, zi (nI n))] [zi (nI (op + 1)), zr 7] (zp μ1 7 7 (nI (nx + n + 1))) _
        refine zx_callV (nn := 90) (k := 7) (d' := D) (as := [zi (nI (op + 1))]) (rest := []) (n := 1) (hany hop3 (zp μ1 7 7 (nI (nx + n + 1))) (nx + n + 1) cc (hS1.nx (by rw [h63]; decide))) kX4_readAny mlX4_52 rfl rfl rfl (by omega) rfl rfl (Nat.le_of_ble_eq_true rfl) dX4_readOne_87 rfl ?_
        rintro _ ν3 ⟨rfl, q1⟩
        show zX shC σ (D + 1) MX4_readOne 90 [(0, zr 7), (1, zi (nI op)), (2, zi (zb (decide (n % 2 = 1)))), (3, zi (nI n))] [zi (zb (any (nx + n + 1)).1)] ν3 _
        refine zx_ifb_eq (tgt := 107) (nn := 93) dX4_readOne_90 (by decide) rfl (fun h90 => ?_) (fun h90 => ?_)
        · refine zx_iconst (v := 0) (nn := 108) rfl dX4_readOne_107 rfl ?_
          refine zx_zret rfl rfl dX4_readOne_108 ?_
          have hr : rCore K V any may (nx + n) = (false, (any (nx + n + 1)).2.1, [], []) := by unfold rCore; rw [if_pos h63, if_pos hmt, if_neg (fun q => by rw [h90] at q; cases q.1)]
          have hE : rOne K V any may nx = (false, (any (nx + n + 1)).2.1, [], []) := by unfold rOne; rw [hN2, hr]; rfl
          rw [hE]
          exact ⟨rfl, hE1.tr (rdE.nx.tr q1.1), q1.2.1, fun h => by cases h⟩
        · have hSa := (q1.2.2 h90).1
          have hb := hSa.2.2.2.1.2
          refine zx_aload_n (k := 0) (nn := 94) dX4_readOne_93 rfl rfl rfl ?_
          refine zx_getR (q := 9) (nn := 97) flX4_15 rfl rfl dX4_readOne_94 rfl ?_
          refine zx_aload_n (k := 0) (nn := 98) dX4_readOne_97 rfl rfl rfl ?_
          refine zx_getI (nn := 101) flX4_38 rfl rfl dX4_readOne_98 rfl ?_
          rw [show ν3 7 7 = nI ((any (nx + n + 1)).2.1) from hSa.2.2.2.1.1]
          show zX shC σ (D + 1) MX4_readOne 101 [(0, zr 7), (1, zi (nI op)), (2, zi (zb (decide (n % 2 = 1)))), (3, zi (nI n))] [zi (nI ((any (nx + n + 1)).2.1)), zr 9] ν3 _
          refine zx_iald_n (j := (any (nx + n + 1)).2.1) (nn := 102) rfl (by omega) (by decide) dX4_readOne_101 rfl ?_
          rw [show ν3 9 ((any (nx + n + 1)).2.1) = K (any (nx + n + 1)).2.1 from hSa.1 _ hSa.2.2.2.1.2]
          show zX shC σ (D + 1) MX4_readOne 102 [(0, zr 7), (1, zi (nI op)), (2, zi (zb (decide (n % 2 = 1)))), (3, zi (nI n))] [zi (K (any (nx + n + 1)).2.1)] ν3 _
          refine zx_bipush (v := 41) (nn := 104) rfl dX4_readOne_102 rfl ?_
          refine zx_icmp_eq (tgt := 109) (nn := 107) dX4_readOne_104 (by decide) rfl (fun h104 => ?_) (fun h104 => ?_)
          · refine zx_aload_n (k := 0) (nn := 110) dX4_readOne_109 rfl rfl rfl ?_
            refine zx_dupr (nn := 111) dX4_readOne_110 rfl ?_
            refine zx_getI (nn := 114) flX4_38 rfl rfl dX4_readOne_111 rfl ?_
            rw [show ν3 7 7 = nI (any (nx + n + 1)).2.1 from hSa.2.2.2.1.1]
            show zX shC σ (D + 1) MX4_readOne 114 [(0, zr 7), (1, zi (nI op)), (2, zi (zb (decide (n % 2 = 1)))), (3, zi (nI n))] [zi (nI (any (nx + n + 1)).2.1), zr 7] ν3 _
            refine zx_iconst (v := 1) (nn := 115) rfl dX4_readOne_114 rfl ?_
            refine zx_iadd (nn := 116) dX4_readOne_115 rfl ?_
            rw [show (nI (any (nx + n + 1)).2.1) + 1 = nI ((any (nx + n + 1)).2.1 + 1) from nI_1 _]
            show zX shC σ (D + 1) MX4_readOne 116 [(0, zr 7), (1, zi (nI op)), (2, zi (zb (decide (n % 2 = 1)))), (3, zi (nI n))] [zi (nI ((any (nx + n + 1)).2.1 + 1)), zr 7] ν3 _
            refine zx_putI (nn := 119) fpX4_38 rfl rfl rfl rfl dX4_readOne_116 rfl ?_
            refine zx_goto (tgt := 169) dX4_readOne_119 (by decide) ?_
            have hr : rCore K V any may (nx + n) = (true, (any (nx + n + 1)).2.1 + 1, (any (nx + n + 1)).2.2.1, (any (nx + n + 1)).2.2.2) := by unfold rCore; rw [if_pos h63, if_pos hmt, if_pos ⟨h90, h104⟩]
            have hSr : rdS K V c (zp ν3 7 7 (nI ((any (nx + n + 1)).2.1 + 1))) ((any (nx + n + 1)).2.1 + 1) (cc + (any (nx + n + 1)).2.2.1.length) := (q1.2.2 h90).1.nx (by rw [h104]; decide)
            have hEr : rdE μ (zp ν3 7 7 (nI ((any (nx + n + 1)).2.1 + 1))) := (hE1.tr (rdE.nx.tr q1.1)).tr rdE.nx
            have hCr : rdC μ (zp ν3 7 7 (nI ((any (nx + n + 1)).2.1 + 1))) cc (any (nx + n + 1)).2.2.1 := by
              have := (q1.2.2 h90).2
              have g : rdC μ ν3 cc (any (nx + n + 1)).2.2.1 := rdC.pre (by rw [zp_ne (by decide)]; exact h16) this
              exact ⟨fun j hj => by rw [zp_ne (by decide)]; exact g.1 j hj, fun j hj => by rw [zp_ne (by decide)]; exact g.2 j hj⟩
            have hrm : cc + (any (nx + n + 1)).2.2.1.length + n + 1 < (any (nx + n + 1)).2.1 + 1 + 1 := by have := (hg hmt (nx + n + 1) (by omega)).2.1; omega
            refine zx_iload_n (k := 2) (nn := 170) dX4_readOne_169 rfl rfl rfl ?_
            refine zx_ifb_eq (tgt := 182) (nn := 173) dX4_readOne_170 (by decide) rfl (fun h170 => ?_) (fun h170 => ?_)
            · refine zx_iconst (v := 1) (nn := 183) rfl dX4_readOne_182 rfl ?_
              refine zx_zret rfl rfl dX4_readOne_183 ?_
              have ho := of_decide_eq_false h170
              have hE : rOne K V any may nx = (true, (any (nx + n + 1)).2.1 + 1, (any (nx + n + 1)).2.2.1, ((any (nx + n + 1)).2.2.2) ++ List.replicate n (3, 0)) := by unfold rOne; rw [hN2, hr, if_pos rfl, if_neg ho, List.append_nil]
              rw [hE]
              exact ⟨rfl, hEr, hSr.2.2.2.1.1, fun _ => ⟨hSr, hCr⟩⟩
            · have ho1 := of_decide_eq_true h170
              have hec := hSr.2.2.2.1.2
              refine zx_aload_n (k := 0) (nn := 174) dX4_readOne_173 rfl rfl rfl ?_
              refine zx_getR (q := 12) (nn := 177) flX4_27 rfl rfl dX4_readOne_174 rfl ?_
              refine zx_bipush (v := -9) (nn := 179) rfl dX4_readOne_177 rfl ?_
              refine zx_callVf (nn := 182) (k := 12) (d' := 0) (as := [zi (-9)]) (rest := []) (n := 1) (eX5_addCode_12 σ (zp ν3 7 7 (nI ((any (nx + n + 1)).2.1 + 1))) (-9) (cc + (any (nx + n + 1)).2.2.1.length) hSr.2.2.2.2.1 (by omega)) kX5_addCode mlX4_63 rfl rfl rfl (by omega) rfl rfl (Nat.le_of_ble_eq_true rfl) dX4_readOne_179 rfl ?_
              show zX shC σ (D + 1) MX4_readOne 182 [(0, zr 7), (1, zi (nI op)), (2, zi (zb (decide (n % 2 = 1)))), (3, zi (nI n))] [] (zp (zp (zp ν3 7 7 (nI ((any (nx + n + 1)).2.1 + 1))) 16 (cc + (any (nx + n + 1)).2.2.1.length) (-9)) 12 6 (nI (cc + (any (nx + n + 1)).2.2.1.length + 1))) _
              refine zx_iconst (v := 1) (nn := 183) rfl dX4_readOne_182 rfl ?_
              refine zx_zret rfl rfl dX4_readOne_183 ?_
              have ho := of_decide_eq_true h170
              have hE : rOne K V any may nx = (true, (any (nx + n + 1)).2.1 + 1, (any (nx + n + 1)).2.2.1 ++ [-9], ((any (nx + n + 1)).2.2.2) ++ List.replicate n (3, 0)) := by unfold rOne; rw [hN2, hr, if_pos rfl, if_pos ho]
              rw [hE]
              refine ⟨rfl, hEr.tr rdE.cd, by rw [zp_ne (by decide), zp_ne (by decide)]; exact hSr.2.2.2.1.1, fun _ => ⟨?_, hCr.app rdC.one⟩⟩
              have hh := hSr.cd (v := -9) (by omega)
              rw [show ((any (nx + n + 1)).2.2.1 ++ [(-9 : Int32)]).length = (any (nx + n + 1)).2.2.1.length + 1 by simp only [List.length_append, List.length_cons, List.length_nil]]
              exact hh
          · refine zx_iconst (v := 0) (nn := 108) rfl dX4_readOne_107 rfl ?_
            refine zx_zret rfl rfl dX4_readOne_108 ?_
            have hr : rCore K V any may (nx + n) = (false, (any (nx + n + 1)).2.1, [], []) := by unfold rCore; rw [if_pos h63, if_pos hmt, if_neg (fun q => h104 q.2)]
            have hE : rOne K V any may nx = (false, (any (nx + n + 1)).2.1, [], []) := by unfold rOne; rw [hN2, hr]; rfl
            rw [hE]
            exact ⟨rfl, hE1.tr (rdE.nx.tr q1.1), q1.2.1, fun h => by cases h⟩
      · refine zx_iconst (v := 0) (nn := 72) rfl dX4_readOne_71 rfl ?_
        refine zx_zret rfl rfl dX4_readOne_72 ?_
        have hr : rCore K V any may (nx + n) = (false, nx + n, [], []) := by unfold rCore; rw [if_pos h63, if_neg (fun q => h68 (hlt3 q))]
        have hE : rOne K V any may nx = (false, nx + n, [], []) := by unfold rOne; rw [hN2, hr]; rfl
        rw [hE]
        exact ⟨rfl, hE1, hS1.2.2.2.1.1, fun h => by cases h⟩
  · have hlt : n < 200 := nI_nle_lt (b := 200) h8 (by omega)
    refine zx_aload_n (k := 0) (nn := 12) dX4_readOne_11 rfl rfl rfl ?_
    refine zx_getR (q := 9) (nn := 15) flX4_15 rfl rfl dX4_readOne_12 rfl ?_
    refine zx_aload_n (k := 0) (nn := 16) dX4_readOne_15 rfl rfl rfl ?_
    refine zx_getI (nn := 19) flX4_38 rfl rfl dX4_readOne_16 rfl ?_
    rw [show μ1 7 7 = nI (nx + n) from hS1.2.2.2.1.1]
    show zX shC σ (D + 1) MX4_readOne 19 [(0, zr 7), (1, zi (nI op)), (2, zi (zb (decide (n % 2 = 1)))), (3, zi (nI n))] [zi (nI (nx + n)), zr 9] μ1 _
    refine zx_iald_n (j := nx + n) (nn := 20) rfl (by have := hS1.2.2.1.2; have := hS1.2.2.2.1.2; omega) (by decide) dX4_readOne_19 rfl ?_
    rw [show μ1 9 (nx + n) = K (nx + n) from hS1.1 _ hS1.2.2.2.1.2]
    show zX shC σ (D + 1) MX4_readOne 20 [(0, zr 7), (1, zi (nI op)), (2, zi (zb (decide (n % 2 = 1)))), (3, zi (nI n))] [zi (K (nx + n))] μ1 _
    refine zx_sipush (v := 268) (nn := 23) rfl dX4_readOne_20 rfl ?_
    refine zx_icmp_ne (tgt := 52) (nn := 26) dX4_readOne_23 (by decide) rfl (fun h23 => ?_) (fun h23 => ?_)
    · have hz : rNots K (200 - n) (nx + n) = 0 := rNots_n h23 _
      have hN2 : rNots K 200 nx = n := by omega
      have hk := hS1.2.2.2.1.2
      have hc2 := hS1.2.2.1.2
      have hcc := hS.2.2.2.2.2
      refine zx_aload_n (k := 0) (nn := 53) dX4_readOne_52 rfl rfl rfl ?_
      refine zx_getR (q := 9) (nn := 56) flX4_15 rfl rfl dX4_readOne_53 rfl ?_
      refine zx_aload_n (k := 0) (nn := 57) dX4_readOne_56 rfl rfl rfl ?_
      refine zx_getI (nn := 60) flX4_38 rfl rfl dX4_readOne_57 rfl ?_
      rw [show μ1 7 7 = nI (nx + n) from hS1.2.2.2.1.1]
      show zX shC σ (D + 1) MX4_readOne 60 [(0, zr 7), (1, zi (nI op)), (2, zi (zb (decide (n % 2 = 1)))), (3, zi (nI n))] [zi (nI (nx + n)), zr 9] μ1 _
      refine zx_iald_n (j := nx + n) (nn := 61) rfl (by omega) (by decide) dX4_readOne_60 rfl ?_
      rw [show μ1 9 (nx + n) = K (nx + n) from hS1.1 _ hS1.2.2.2.1.2]
      show zX shC σ (D + 1) MX4_readOne 61 [(0, zr 7), (1, zi (nI op)), (2, zi (zb (decide (n % 2 = 1)))), (3, zi (nI n))] [zi (K (nx + n))] μ1 _
      refine zx_bipush (v := 40) (nn := 63) rfl dX4_readOne_61 rfl ?_
      refine zx_icmp_ne (tgt := 122) (nn := 66) dX4_readOne_63 (by decide) rfl (fun h63 => ?_) (fun h63 => ?_)
      · refine zx_aload_n (k := 0) (nn := 123) dX4_readOne_122 rfl rfl rfl ?_
        refine zx_callV (nn := 126) (k := 7) (d' := 1) (as := []) (rest := []) (n := 0) (eX4_readValue_7 σ μ1 K V c (nx + n) cc hS1) kX4_readValue mlX4_70 rfl rfl rfl (by omega) rfl rfl (Nat.le_of_ble_eq_true rfl) dX4_readOne_123 rfl ?_
        rintro _ ν4 ⟨rfl, q1⟩
        show zX shC σ (D + 1) MX4_readOne 126 [(0, zr 7), (1, zi (nI op)), (2, zi (zb (decide (n % 2 = 1)))), (3, zi (nI n))] [zi (zb (rVal K V (nx + n)).1)] ν4 _
        refine zx_ifb_ne (tgt := 131) (nn := 129) dX4_readOne_126 (by decide) rfl (fun h126 => ?_) (fun h126 => ?_)
        · have hSa := (q1.2.2 h126).1
          have hga := gd_val (V := V) hS.2.2.1.1 (nx + n) hk
          refine zx_aload_n (k := 0) (nn := 132) dX4_readOne_131 rfl rfl rfl ?_
          refine zx_callVf (nn := 135) (k := 7) (d' := 0) (as := []) (rest := []) (n := 0) (eX4_signHere_7 σ ν4 K V c (rVal K V (nx + n)).2.1 (cc + (rVal K V (nx + n)).2.2.1.length) hSa) kX4_signHere mlX4_73 rfl rfl rfl (by omega) rfl rfl (Nat.le_of_ble_eq_true rfl) dX4_readOne_132 rfl ?_
          show zX shC σ (D + 1) MX4_readOne 135 [(0, zr 7), (1, zi (nI op)), (2, zi (zb (decide (n % 2 = 1)))), (3, zi (nI n))] [zi (rSign (K (rVal K V (nx + n)).2.1))] ν4 _
          refine zx_istore_n (nn := 136) (lv' := [(3, zi (rSign (K (rVal K V (nx + n)).2.1))), (0, zr 7), (1, zi (nI op)), (2, zi (zb (decide (n % 2 = 1))))]) dX4_readOne_135 rfl (by decide) rfl rfl ?_
          refine zx_iload_n (k := 0) (nn := 137) dX4_readOne_136 rfl rfl rfl ?_
          refine zx_if_ne (tgt := 142) (nn := 140) dX4_readOne_137 (by decide) rfl (fun h137 => ?_) (fun h137 => ?_)
          · have hne : K (rVal K V (nx + n)).2.1 ≠ -1 := fun e => h137 (by rw [e]; decide)
            have hnc : (rVal K V (nx + n)).2.1 ≠ c := fun e => hne (by rw [e]; exact hS.2.2.1.1)
            have hgb := gd_val (V := V) hS.2.2.1.1 ((rVal K V (nx + n)).2.1 + 1) (by omega)
            refine zx_aload_n (k := 1) (nn := 143) dX4_readOne_142 rfl rfl rfl ?_
            refine zx_dupr (nn := 144) dX4_readOne_143 rfl ?_
            refine zx_getI (nn := 147) flX4_38 rfl rfl dX4_readOne_144 rfl ?_
            rw [show ν4 7 7 = nI (rVal K V (nx + n)).2.1 from hSa.2.2.2.1.1]
            show zX shC σ (D + 1) MX4_readOne 147 [(3, zi (rSign (K (rVal K V (nx + n)).2.1))), (0, zr 7), (1, zi (nI op)), (2, zi (zb (decide (n % 2 = 1))))] [zi (nI (rVal K V (nx + n)).2.1), zr 7] ν4 _
            refine zx_iconst (v := 1) (nn := 148) rfl dX4_readOne_147 rfl ?_
            refine zx_iadd (nn := 149) dX4_readOne_148 rfl ?_
            rw [show (nI (rVal K V (nx + n)).2.1) + 1 = nI ((rVal K V (nx + n)).2.1 + 1) from nI_1 _]
            show zX shC σ (D + 1) MX4_readOne 149 [(3, zi (rSign (K (rVal K V (nx + n)).2.1))), (0, zr 7), (1, zi (nI op)), (2, zi (zb (decide (n % 2 = 1))))] [zi (nI ((rVal K V (nx + n)).2.1 + 1)), zr 7] ν4 _
            refine zx_putI (nn := 152) fpX4_38 rfl rfl rfl rfl dX4_readOne_149 rfl ?_
            refine zx_aload_n (k := 1) (nn := 153) dX4_readOne_152 rfl rfl rfl ?_
            refine zx_callV (nn := 156) (k := 7) (d' := 1) (as := []) (rest := []) (n := 0) (eX4_readValue_7 σ (zp ν4 7 7 (nI ((rVal K V (nx + n)).2.1 + 1))) K V c ((rVal K V (nx + n)).2.1 + 1) (cc + (rVal K V (nx + n)).2.2.1.length) (hSa.nx hne)) kX4_readValue mlX4_70 rfl rfl rfl (by omega) rfl rfl (Nat.le_of_ble_eq_true rfl) dX4_readOne_153 rfl ?_
            rintro _ ν5 ⟨rfl, q2⟩
            show zX shC σ (D + 1) MX4_readOne 156 [(3, zi (rSign (K (rVal K V (nx + n)).2.1))), (0, zr 7), (1, zi (nI op)), (2, zi (zb (decide (n % 2 = 1))))] [zi (zb (rVal K V ((rVal K V (nx + n)).2.1 + 1)).1)] ν5 _
            refine zx_ifb_ne (tgt := 161) (nn := 159) dX4_readOne_156 (by decide) rfl (fun h156 => ?_) (fun h156 => ?_)
            · have hSb := (q2.2.2 h156).1
              refine zx_aload_n (k := 1) (nn := 162) dX4_readOne_161 rfl rfl rfl ?_
              refine zx_getR (q := 12) (nn := 165) flX4_27 rfl rfl dX4_readOne_162 rfl ?_
              refine zx_iload_n (k := 0) (nn := 166) dX4_readOne_165 rfl rfl rfl ?_
              refine zx_callVf (nn := 169) (k := 12) (d' := 0) (as := [zi (rSign (K (rVal K V (nx + n)).2.1))]) (rest := []) (n := 1) (eX5_addCode_12 σ ν5 (rSign (K (rVal K V (nx + n)).2.1)) (cc + (rVal K V (nx + n)).2.2.1.length + (rVal K V ((rVal K V (nx + n)).2.1 + 1)).2.2.1.length) hSb.2.2.2.2.1 (by omega)) kX5_addCode mlX4_63 rfl rfl rfl (by omega) rfl rfl (Nat.le_of_ble_eq_true rfl) dX4_readOne_166 rfl ?_
              show zX shC σ (D + 1) MX4_readOne 169 [(3, zi (rSign (K (rVal K V (nx + n)).2.1))), (0, zr 7), (1, zi (nI op)), (2, zi (zb (decide (n % 2 = 1))))] [] (zp (zp ν5 16 (cc + (rVal K V (nx + n)).2.2.1.length + (rVal K V ((rVal K V (nx + n)).2.1 + 1)).2.2.1.length) (rSign (K (rVal K V (nx + n)).2.1))) 12 6 (nI (cc + (rVal K V (nx + n)).2.2.1.length + (rVal K V ((rVal K V (nx + n)).2.1 + 1)).2.2.1.length + 1))) _
              have hr : rCore K V any may (nx + n) = (true, (rVal K V ((rVal K V (nx + n)).2.1 + 1)).2.1, ((rVal K V (nx + n)).2.2.1 ++ ((rVal K V ((rVal K V (nx + n)).2.1 + 1)).2.2.1 ++ [rSign (K (rVal K V (nx + n)).2.1)])), (rVal K V (nx + n)).2.2.2 ++ ((rVal K V ((rVal K V (nx + n)).2.1 + 1)).2.2.2 ++ [(2, K (rVal K V (nx + n)).2.1)])) := by unfold rCore rTest; rw [if_neg h63, if_pos h126, if_neg h137, if_pos h156]
              have hln : ((rVal K V (nx + n)).2.2.1 ++ ((rVal K V ((rVal K V (nx + n)).2.1 + 1)).2.2.1 ++ [rSign (K (rVal K V (nx + n)).2.1)])).length = (rVal K V (nx + n)).2.2.1.length + (rVal K V ((rVal K V (nx + n)).2.1 + 1)).2.2.1.length + 1 := by simp only [List.length_append, List.length_cons, List.length_nil]; omega
              have hSr : rdS K V c (zp (zp ν5 16 (cc + (rVal K V (nx + n)).2.2.1.length + (rVal K V ((rVal K V (nx + n)).2.1 + 1)).2.2.1.length) (rSign (K (rVal K V (nx + n)).2.1))) 12 6 (nI (cc + (rVal K V (nx + n)).2.2.1.length + (rVal K V ((rVal K V (nx + n)).2.1 + 1)).2.2.1.length + 1))) ((rVal K V ((rVal K V (nx + n)).2.1 + 1)).2.1) (cc + ((rVal K V (nx + n)).2.2.1 ++ ((rVal K V ((rVal K V (nx + n)).2.1 + 1)).2.2.1 ++ [rSign (K (rVal K V (nx + n)).2.1)])).length) := by
                have hh := hSb.cd (v := rSign (K (rVal K V (nx + n)).2.1)) (by omega)
                rw [hln, show cc + ((rVal K V (nx + n)).2.2.1.length + (rVal K V ((rVal K V (nx + n)).2.1 + 1)).2.2.1.length + 1) = cc + (rVal K V (nx + n)).2.2.1.length + (rVal K V ((rVal K V (nx + n)).2.1 + 1)).2.2.1.length + 1 by omega]
                exact hh
              have hEr : rdE μ (zp (zp ν5 16 (cc + (rVal K V (nx + n)).2.2.1.length + (rVal K V ((rVal K V (nx + n)).2.1 + 1)).2.2.1.length) (rSign (K (rVal K V (nx + n)).2.1))) 12 6 (nI (cc + (rVal K V (nx + n)).2.2.1.length + (rVal K V ((rVal K V (nx + n)).2.1 + 1)).2.2.1.length + 1))) := ((hE1.tr q1.1).tr (rdE.nx.tr q2.1)).tr rdE.cd
              have hCr : rdC μ (zp (zp ν5 16 (cc + (rVal K V (nx + n)).2.2.1.length + (rVal K V ((rVal K V (nx + n)).2.1 + 1)).2.2.1.length) (rSign (K (rVal K V (nx + n)).2.1))) 12 6 (nI (cc + (rVal K V (nx + n)).2.2.1.length + (rVal K V ((rVal K V (nx + n)).2.1 + 1)).2.2.1.length + 1))) cc ((rVal K V (nx + n)).2.2.1 ++ ((rVal K V ((rVal K V (nx + n)).2.1 + 1)).2.2.1 ++ [rSign (K (rVal K V (nx + n)).2.1)])) := (rdC.pre h16 (q1.2.2 h126).2).app (rdC.pre (zp_ne (by decide)) ((q2.2.2 h156).2.app rdC.one))
              have hrm : cc + ((rVal K V (nx + n)).2.2.1 ++ ((rVal K V ((rVal K V (nx + n)).2.1 + 1)).2.2.1 ++ [rSign (K (rVal K V (nx + n)).2.1)])).length + n < (rVal K V ((rVal K V (nx + n)).2.1 + 1)).2.1 + 1 := by rw [hln]; omega
              refine zx_iload_n (k := 3) (nn := 170) dX4_readOne_169 rfl rfl rfl ?_
              refine zx_ifb_eq (tgt := 182) (nn := 173) dX4_readOne_170 (by decide) rfl (fun h170 => ?_) (fun h170 => ?_)
              · refine zx_iconst (v := 1) (nn := 183) rfl dX4_readOne_182 rfl ?_
                refine zx_zret rfl rfl dX4_readOne_183 ?_
                have ho := of_decide_eq_false h170
                have hE : rOne K V any may nx = (true, (rVal K V ((rVal K V (nx + n)).2.1 + 1)).2.1, ((rVal K V (nx + n)).2.2.1 ++ ((rVal K V ((rVal K V (nx + n)).2.1 + 1)).2.2.1 ++ [rSign (K (rVal K V (nx + n)).2.1)])), ((rVal K V (nx + n)).2.2.2 ++ ((rVal K V ((rVal K V (nx + n)).2.1 + 1)).2.2.2 ++ [(2, K (rVal K V (nx + n)).2.1)])) ++ List.replicate n (3, 0)) := by unfold rOne; rw [hN2, hr, if_pos rfl, if_neg ho, List.append_nil]
                rw [hE]
                exact ⟨rfl, hEr, hSr.2.2.2.1.1, fun _ => ⟨hSr, hCr⟩⟩
              · have ho1 := of_decide_eq_true h170
                have hec := hSr.2.2.2.1.2
                refine zx_aload_n (k := 1) (nn := 174) dX4_readOne_173 rfl rfl rfl ?_
                refine zx_getR (q := 12) (nn := 177) flX4_27 rfl rfl dX4_readOne_174 rfl ?_
                refine zx_bipush (v := -9) (nn := 179) rfl dX4_readOne_177 rfl ?_
                refine zx_callVf (nn := 182) (k := 12) (d' := 0) (as := [zi (-9)]) (rest := []) (n := 1) (eX5_addCode_12 σ (zp (zp ν5 16 (cc + (rVal K V (nx + n)).2.2.1.length + (rVal K V ((rVal K V (nx + n)).2.1 + 1)).2.2.1.length) (rSign (K (rVal K V (nx + n)).2.1))) 12 6 (nI (cc + (rVal K V (nx + n)).2.2.1.length + (rVal K V ((rVal K V (nx + n)).2.1 + 1)).2.2.1.length + 1))) (-9) (cc + ((rVal K V (nx + n)).2.2.1 ++ ((rVal K V ((rVal K V (nx + n)).2.1 + 1)).2.2.1 ++ [rSign (K (rVal K V (nx + n)).2.1)])).length) hSr.2.2.2.2.1 (by omega)) kX5_addCode mlX4_63 rfl rfl rfl (by omega) rfl rfl (Nat.le_of_ble_eq_true rfl) dX4_readOne_179 rfl ?_
                show zX shC σ (D + 1) MX4_readOne 182 [(3, zi (rSign (K (rVal K V (nx + n)).2.1))), (0, zr 7), (1, zi (nI op)), (2, zi (zb (decide (n % 2 = 1))))] [] (zp (zp (zp (zp ν5 16 (cc + (rVal K V (nx + n)).2.2.1.length + (rVal K V ((rVal K V (nx + n)).2.1 + 1)).2.2.1.length) (rSign (K (rVal K V (nx + n)).2.1))) 12 6 (nI (cc + (rVal K V (nx + n)).2.2.1.length + (rVal K V ((rVal K V (nx + n)).2.1 + 1)).2.2.1.length + 1))) 16 (cc + ((rVal K V (nx + n)).2.2.1 ++ ((rVal K V ((rVal K V (nx + n)).2.1 + 1)).2.2.1 ++ [rSign (K (rVal K V (nx + n)).2.1)])).length) (-9)) 12 6 (nI (cc + ((rVal K V (nx + n)).2.2.1 ++ ((rVal K V ((rVal K V (nx + n)).2.1 + 1)).2.2.1 ++ [rSign (K (rVal K V (nx + n)).2.1)])).length + 1))) _
                refine zx_iconst (v := 1) (nn := 183) rfl dX4_readOne_182 rfl ?_
                refine zx_zret rfl rfl dX4_readOne_183 ?_
                have ho := of_decide_eq_true h170
                have hE : rOne K V any may nx = (true, (rVal K V ((rVal K V (nx + n)).2.1 + 1)).2.1, ((rVal K V (nx + n)).2.2.1 ++ ((rVal K V ((rVal K V (nx + n)).2.1 + 1)).2.2.1 ++ [rSign (K (rVal K V (nx + n)).2.1)])) ++ [-9], ((rVal K V (nx + n)).2.2.2 ++ ((rVal K V ((rVal K V (nx + n)).2.1 + 1)).2.2.2 ++ [(2, K (rVal K V (nx + n)).2.1)])) ++ List.replicate n (3, 0)) := by unfold rOne; rw [hN2, hr, if_pos rfl, if_pos ho]
                rw [hE]
                refine ⟨rfl, hEr.tr rdE.cd, by rw [zp_ne (by decide), zp_ne (by decide)]; exact hSr.2.2.2.1.1, fun _ => ⟨?_, hCr.app rdC.one⟩⟩
                have hh := hSr.cd (v := -9) (by omega)
                rw [show (((rVal K V (nx + n)).2.2.1 ++ ((rVal K V ((rVal K V (nx + n)).2.1 + 1)).2.2.1 ++ [rSign (K (rVal K V (nx + n)).2.1)])) ++ [(-9 : Int32)]).length = ((rVal K V (nx + n)).2.2.1 ++ ((rVal K V ((rVal K V (nx + n)).2.1 + 1)).2.2.1 ++ [rSign (K (rVal K V (nx + n)).2.1)])).length + 1 by simp only [List.length_append, List.length_cons, List.length_nil]]
                exact hh
            · refine zx_iconst (v := 0) (nn := 160) rfl dX4_readOne_159 rfl ?_
              refine zx_zret rfl rfl dX4_readOne_160 ?_
              have hr : rCore K V any may (nx + n) = (false, (rVal K V ((rVal K V (nx + n)).2.1 + 1)).2.1, [], []) := by unfold rCore rTest; rw [if_neg h63, if_pos h126, if_neg h137, if_neg (by rw [h156]; decide)]
              have hE : rOne K V any may nx = (false, (rVal K V ((rVal K V (nx + n)).2.1 + 1)).2.1, [], []) := by unfold rOne; rw [hN2, hr]; rfl
              rw [hE]
              exact ⟨rfl, (hE1.tr q1.1).tr (rdE.nx.tr q2.1), q2.2.1, fun h => by cases h⟩
          · refine zx_iconst (v := 0) (nn := 141) rfl dX4_readOne_140 rfl ?_
            refine zx_zret rfl rfl dX4_readOne_141 ?_
            have hr : rCore K V any may (nx + n) = (false, (rVal K V (nx + n)).2.1, [], []) := by unfold rCore rTest; rw [if_neg h63, if_pos h126, if_pos h137]
            have hE : rOne K V any may nx = (false, (rVal K V (nx + n)).2.1, [], []) := by unfold rOne; rw [hN2, hr]; rfl
            rw [hE]
            exact ⟨rfl, hE1.tr q1.1, q1.2.1, fun h => by cases h⟩
        · refine zx_iconst (v := 0) (nn := 130) rfl dX4_readOne_129 rfl ?_
          refine zx_zret rfl rfl dX4_readOne_130 ?_
          have hr : rCore K V any may (nx + n) = (false, (rVal K V (nx + n)).2.1, [], []) := by unfold rCore rTest; rw [if_neg h63, if_neg (by rw [h126]; decide)]
          have hE : rOne K V any may nx = (false, (rVal K V (nx + n)).2.1, [], []) := by unfold rOne; rw [hN2, hr]; rfl
          rw [hE]
          exact ⟨rfl, hE1.tr q1.1, q1.2.1, fun h => by cases h⟩
      · have hlt3 : may = true → nI op < 3 := fun q => nI_lt (b := 3) (of_decide_eq_true (hmay ▸ q)) (by omega)
        refine zx_iload_n (k := 1) (nn := 67) dX4_readOne_66 rfl rfl rfl ?_
        refine zx_iconst (v := 3) (nn := 68) rfl dX4_readOne_67 rfl ?_
        refine zx_icmp_lt (tgt := 73) (nn := 71) dX4_readOne_68 (by decide) rfl (fun h68 => ?_) (fun h68 => ?_)
        · have hop3 : op < 3 := (nI_ltI (b := 3) (by omega) (by omega)).mp h68
          have hmt : may = true := hmay.trans (decide_eq_true hop3)
          have hnc : nx + n ≠ c := fun e => by rw [e, hS1.2.2.1.1] at h63; exact absurd h63 (by decide)
          refine zx_aload_n (k := 0) (nn := 74) dX4_readOne_73 rfl rfl rfl ?_
          refine zx_dupr (nn := 75) dX4_readOne_74 rfl ?_
          refine zx_getI (nn := 78) flX4_38 rfl rfl dX4_readOne_75 rfl ?_
          rw [show μ1 7 7 = nI (nx + n) from hS1.2.2.2.1.1]
          show zX shC σ (D + 1) MX4_readOne 78 [(0, zr 7), (1, zi (nI op)), (2, zi (zb (decide (n % 2 = 1)))), (3, zi (nI n))] [zi (nI (nx + n)), zr 7] μ1 _
          refine zx_iconst (v := 1) (nn := 79) rfl dX4_readOne_78 rfl ?_
          refine zx_iadd (nn := 80) dX4_readOne_79 rfl ?_
          rw [show (nI (nx + n)) + 1 = nI (nx + n + 1) from nI_1 _]
          show zX shC σ (D + 1) MX4_readOne 80 [(0, zr 7), (1, zi (nI op)), (2, zi (zb (decide (n % 2 = 1)))), (3, zi (nI n))] [zi (nI (nx + n + 1)), zr 7] μ1 _
          refine zx_putI (nn := 83) fpX4_38 rfl rfl rfl rfl dX4_readOne_80 rfl ?_
          refine zx_aload_n (k := 0) (nn := 84) dX4_readOne_83 rfl rfl rfl ?_
          refine zx_iload_n (k := 1) (nn := 85) dX4_readOne_84 rfl rfl rfl ?_
          refine zx_iconst (v := 1) (nn := 86) rfl dX4_readOne_85 rfl ?_
          refine zx_iadd (nn := 87) dX4_readOne_86 rfl ?_
          rw [show (nI op) + 1 = nI (op + 1) from nI_1 _]
          show zX shC σ (D + 1) MX4_readOne 87 [(0, zr 7), (1, zi (nI op)), (2, zi (zb (decide (n % 2 = 1)))), (3, zi (nI n))] [zi (nI (op + 1)), zr 7] (zp μ1 7 7 (nI (nx + n + 1))) _
          refine zx_callV (nn := 90) (k := 7) (d' := D) (as := [zi (nI (op + 1))]) (rest := []) (n := 1) (hany hop3 (zp μ1 7 7 (nI (nx + n + 1))) (nx + n + 1) cc (hS1.nx (by rw [h63]; decide))) kX4_readAny mlX4_52 rfl rfl rfl (by omega) rfl rfl (Nat.le_of_ble_eq_true rfl) dX4_readOne_87 rfl ?_
          rintro _ ν6 ⟨rfl, q1⟩
          show zX shC σ (D + 1) MX4_readOne 90 [(0, zr 7), (1, zi (nI op)), (2, zi (zb (decide (n % 2 = 1)))), (3, zi (nI n))] [zi (zb (any (nx + n + 1)).1)] ν6 _
          refine zx_ifb_eq (tgt := 107) (nn := 93) dX4_readOne_90 (by decide) rfl (fun h90 => ?_) (fun h90 => ?_)
          · refine zx_iconst (v := 0) (nn := 108) rfl dX4_readOne_107 rfl ?_
            refine zx_zret rfl rfl dX4_readOne_108 ?_
            have hr : rCore K V any may (nx + n) = (false, (any (nx + n + 1)).2.1, [], []) := by unfold rCore; rw [if_pos h63, if_pos hmt, if_neg (fun q => by rw [h90] at q; cases q.1)]
            have hE : rOne K V any may nx = (false, (any (nx + n + 1)).2.1, [], []) := by unfold rOne; rw [hN2, hr]; rfl
            rw [hE]
            exact ⟨rfl, hE1.tr (rdE.nx.tr q1.1), q1.2.1, fun h => by cases h⟩
          · have hSa := (q1.2.2 h90).1
            have hb := hSa.2.2.2.1.2
            refine zx_aload_n (k := 0) (nn := 94) dX4_readOne_93 rfl rfl rfl ?_
            refine zx_getR (q := 9) (nn := 97) flX4_15 rfl rfl dX4_readOne_94 rfl ?_
            refine zx_aload_n (k := 0) (nn := 98) dX4_readOne_97 rfl rfl rfl ?_
            refine zx_getI (nn := 101) flX4_38 rfl rfl dX4_readOne_98 rfl ?_
            rw [show ν6 7 7 = nI ((any (nx + n + 1)).2.1) from hSa.2.2.2.1.1]
            show zX shC σ (D + 1) MX4_readOne 101 [(0, zr 7), (1, zi (nI op)), (2, zi (zb (decide (n % 2 = 1)))), (3, zi (nI n))] [zi (nI ((any (nx + n + 1)).2.1)), zr 9] ν6 _
            refine zx_iald_n (j := (any (nx + n + 1)).2.1) (nn := 102) rfl (by omega) (by decide) dX4_readOne_101 rfl ?_
            rw [show ν6 9 ((any (nx + n + 1)).2.1) = K (any (nx + n + 1)).2.1 from hSa.1 _ hSa.2.2.2.1.2]
            show zX shC σ (D + 1) MX4_readOne 102 [(0, zr 7), (1, zi (nI op)), (2, zi (zb (decide (n % 2 = 1)))), (3, zi (nI n))] [zi (K (any (nx + n + 1)).2.1)] ν6 _
            refine zx_bipush (v := 41) (nn := 104) rfl dX4_readOne_102 rfl ?_
            refine zx_icmp_eq (tgt := 109) (nn := 107) dX4_readOne_104 (by decide) rfl (fun h104 => ?_) (fun h104 => ?_)
            · refine zx_aload_n (k := 0) (nn := 110) dX4_readOne_109 rfl rfl rfl ?_
              refine zx_dupr (nn := 111) dX4_readOne_110 rfl ?_
              refine zx_getI (nn := 114) flX4_38 rfl rfl dX4_readOne_111 rfl ?_
              rw [show ν6 7 7 = nI (any (nx + n + 1)).2.1 from hSa.2.2.2.1.1]
              show zX shC σ (D + 1) MX4_readOne 114 [(0, zr 7), (1, zi (nI op)), (2, zi (zb (decide (n % 2 = 1)))), (3, zi (nI n))] [zi (nI (any (nx + n + 1)).2.1), zr 7] ν6 _
              refine zx_iconst (v := 1) (nn := 115) rfl dX4_readOne_114 rfl ?_
              refine zx_iadd (nn := 116) dX4_readOne_115 rfl ?_
              rw [show (nI (any (nx + n + 1)).2.1) + 1 = nI ((any (nx + n + 1)).2.1 + 1) from nI_1 _]
              show zX shC σ (D + 1) MX4_readOne 116 [(0, zr 7), (1, zi (nI op)), (2, zi (zb (decide (n % 2 = 1)))), (3, zi (nI n))] [zi (nI ((any (nx + n + 1)).2.1 + 1)), zr 7] ν6 _
              refine zx_putI (nn := 119) fpX4_38 rfl rfl rfl rfl dX4_readOne_116 rfl ?_
              refine zx_goto (tgt := 169) dX4_readOne_119 (by decide) ?_
              have hr : rCore K V any may (nx + n) = (true, (any (nx + n + 1)).2.1 + 1, (any (nx + n + 1)).2.2.1, (any (nx + n + 1)).2.2.2) := by unfold rCore; rw [if_pos h63, if_pos hmt, if_pos ⟨h90, h104⟩]
              have hSr : rdS K V c (zp ν6 7 7 (nI ((any (nx + n + 1)).2.1 + 1))) ((any (nx + n + 1)).2.1 + 1) (cc + (any (nx + n + 1)).2.2.1.length) := (q1.2.2 h90).1.nx (by rw [h104]; decide)
              have hEr : rdE μ (zp ν6 7 7 (nI ((any (nx + n + 1)).2.1 + 1))) := (hE1.tr (rdE.nx.tr q1.1)).tr rdE.nx
              have hCr : rdC μ (zp ν6 7 7 (nI ((any (nx + n + 1)).2.1 + 1))) cc (any (nx + n + 1)).2.2.1 := by
                have := (q1.2.2 h90).2
                have g : rdC μ ν6 cc (any (nx + n + 1)).2.2.1 := rdC.pre (by rw [zp_ne (by decide)]; exact h16) this
                exact ⟨fun j hj => by rw [zp_ne (by decide)]; exact g.1 j hj, fun j hj => by rw [zp_ne (by decide)]; exact g.2 j hj⟩
              have hrm : cc + (any (nx + n + 1)).2.2.1.length + n + 1 < (any (nx + n + 1)).2.1 + 1 + 1 := by have := (hg hmt (nx + n + 1) (by omega)).2.1; omega
              refine zx_iload_n (k := 2) (nn := 170) dX4_readOne_169 rfl rfl rfl ?_
              refine zx_ifb_eq (tgt := 182) (nn := 173) dX4_readOne_170 (by decide) rfl (fun h170 => ?_) (fun h170 => ?_)
              · refine zx_iconst (v := 1) (nn := 183) rfl dX4_readOne_182 rfl ?_
                refine zx_zret rfl rfl dX4_readOne_183 ?_
                have ho := of_decide_eq_false h170
                have hE : rOne K V any may nx = (true, (any (nx + n + 1)).2.1 + 1, (any (nx + n + 1)).2.2.1, ((any (nx + n + 1)).2.2.2) ++ List.replicate n (3, 0)) := by unfold rOne; rw [hN2, hr, if_pos rfl, if_neg ho, List.append_nil]
                rw [hE]
                exact ⟨rfl, hEr, hSr.2.2.2.1.1, fun _ => ⟨hSr, hCr⟩⟩
              · have ho1 := of_decide_eq_true h170
                have hec := hSr.2.2.2.1.2
                refine zx_aload_n (k := 0) (nn := 174) dX4_readOne_173 rfl rfl rfl ?_
                refine zx_getR (q := 12) (nn := 177) flX4_27 rfl rfl dX4_readOne_174 rfl ?_
                refine zx_bipush (v := -9) (nn := 179) rfl dX4_readOne_177 rfl ?_
                refine zx_callVf (nn := 182) (k := 12) (d' := 0) (as := [zi (-9)]) (rest := []) (n := 1) (eX5_addCode_12 σ (zp ν6 7 7 (nI ((any (nx + n + 1)).2.1 + 1))) (-9) (cc + (any (nx + n + 1)).2.2.1.length) hSr.2.2.2.2.1 (by omega)) kX5_addCode mlX4_63 rfl rfl rfl (by omega) rfl rfl (Nat.le_of_ble_eq_true rfl) dX4_readOne_179 rfl ?_
                show zX shC σ (D + 1) MX4_readOne 182 [(0, zr 7), (1, zi (nI op)), (2, zi (zb (decide (n % 2 = 1)))), (3, zi (nI n))] [] (zp (zp (zp ν6 7 7 (nI ((any (nx + n + 1)).2.1 + 1))) 16 (cc + (any (nx + n + 1)).2.2.1.length) (-9)) 12 6 (nI (cc + (any (nx + n + 1)).2.2.1.length + 1))) _
                refine zx_iconst (v := 1) (nn := 183) rfl dX4_readOne_182 rfl ?_
                refine zx_zret rfl rfl dX4_readOne_183 ?_
                have ho := of_decide_eq_true h170
                have hE : rOne K V any may nx = (true, (any (nx + n + 1)).2.1 + 1, (any (nx + n + 1)).2.2.1 ++ [-9], ((any (nx + n + 1)).2.2.2) ++ List.replicate n (3, 0)) := by unfold rOne; rw [hN2, hr, if_pos rfl, if_pos ho]
                rw [hE]
                refine ⟨rfl, hEr.tr rdE.cd, by rw [zp_ne (by decide), zp_ne (by decide)]; exact hSr.2.2.2.1.1, fun _ => ⟨?_, hCr.app rdC.one⟩⟩
                have hh := hSr.cd (v := -9) (by omega)
                rw [show ((any (nx + n + 1)).2.2.1 ++ [(-9 : Int32)]).length = (any (nx + n + 1)).2.2.1.length + 1 by simp only [List.length_append, List.length_cons, List.length_nil]]
                exact hh
            · refine zx_iconst (v := 0) (nn := 108) rfl dX4_readOne_107 rfl ?_
              refine zx_zret rfl rfl dX4_readOne_108 ?_
              have hr : rCore K V any may (nx + n) = (false, (any (nx + n + 1)).2.1, [], []) := by unfold rCore; rw [if_pos h63, if_pos hmt, if_neg (fun q => h104 q.2)]
              have hE : rOne K V any may nx = (false, (any (nx + n + 1)).2.1, [], []) := by unfold rOne; rw [hN2, hr]; rfl
              rw [hE]
              exact ⟨rfl, hE1.tr (rdE.nx.tr q1.1), q1.2.1, fun h => by cases h⟩
        · refine zx_iconst (v := 0) (nn := 72) rfl dX4_readOne_71 rfl ?_
          refine zx_zret rfl rfl dX4_readOne_72 ?_
          have hr : rCore K V any may (nx + n) = (false, nx + n, [], []) := by unfold rCore; rw [if_pos h63, if_neg (fun q => h68 (hlt3 q))]
          have hE : rOne K V any may nx = (false, nx + n, [], []) := by unfold rOne; rw [hN2, hr]; rfl
          rw [hE]
          exact ⟨rfl, hE1, hS1.2.2.2.1.1, fun h => by cases h⟩
    · refine zx_aload_n (k := 0) (nn := 27) dX4_readOne_26 rfl rfl rfl ?_
      refine zx_dupr (nn := 28) dX4_readOne_27 rfl ?_
      refine zx_getI (nn := 31) flX4_38 rfl rfl dX4_readOne_28 rfl ?_
      rw [show μ1 7 7 = nI (nx + n) from hS1.2.2.2.1.1]
      show zX shC σ (D + 1) MX4_readOne 31 [(0, zr 7), (1, zi (nI op)), (2, zi (zb (decide (n % 2 = 1)))), (3, zi (nI n))] [zi (nI (nx + n)), zr 7] μ1 _
      refine zx_iconst (v := 1) (nn := 32) rfl dX4_readOne_31 rfl ?_
      refine zx_iadd (nn := 33) dX4_readOne_32 rfl ?_
      rw [show (nI (nx + n)) + 1 = nI (nx + n + 1) from nI_1 _]
      show zX shC σ (D + 1) MX4_readOne 33 [(0, zr 7), (1, zi (nI op)), (2, zi (zb (decide (n % 2 = 1)))), (3, zi (nI n))] [zi (nI (nx + n + 1)), zr 7] μ1 _
      refine zx_putI (nn := 36) fpX4_38 rfl rfl rfl rfl dX4_readOne_33 rfl ?_
      refine zx_iload_n (k := 2) (nn := 37) dX4_readOne_36 rfl rfl rfl ?_
      refine zx_ifb_ne (tgt := 44) (nn := 40) dX4_readOne_37 (by decide) rfl (fun h37 => ?_) (fun h37 => ?_)
      · refine zx_iconst (v := 0) (nn := 45) rfl dX4_readOne_44 rfl ?_
        refine zx_istore_n (nn := 46) (lv' := [(2, zi 0), (0, zr 7), (1, zi (nI op)), (3, zi (nI n))]) dX4_readOne_45 rfl (by decide) rfl rfl ?_
        rw [show 0 = zb (decide ((n + 1) % 2 = 1)) from by have h := of_decide_eq_true h37; first | (rw [decide_eq_true (by omega : (n + 1) % 2 = 1)]; rfl) | (rw [decide_eq_false (by omega : ¬ (n + 1) % 2 = 1)]; rfl)]
        show zX shC σ (D + 1) MX4_readOne 46 [(2, zi (zb (decide ((n + 1) % 2 = 1)))), (0, zr 7), (1, zi (nI op)), (3, zi (nI n))] [] (zp μ1 7 7 (nI (nx + n + 1))) _
        refine zx_iinc (k := 3) (v := nI (n + 1)) (lv' := [(3, zi (nI (n + 1))), (2, zi (zb (decide ((n + 1) % 2 = 1)))), (0, zr 7), (1, zi (nI op))]) (nn := 49) dX4_readOne_46 rfl (nI_1 n) (by decide) rfl rfl ?_
        refine zx_goto (tgt := 4) dX4_readOne_49 (by decide) ?_
        refine zx_lv (lv' := [(0, zr 7), (1, zi (nI op)), (2, zi (zb (decide ((n + 1) % 2 = 1)))), (3, zi (nI (n + 1)))]) [2, 3, 1, 0] rfl ?_
        exact ih4 (n + 1, zp μ1 7 7 (nI (nx + n + 1))) (show (n + 1) ≤ 200 ∧ rNots K 200 nx = (n + 1) + rNots K (200 - (n + 1)) (nx + (n + 1)) ∧ rdS K V c (zp μ1 7 7 (nI (nx + n + 1))) (nx + (n + 1)) cc ∧ rdE μ (zp μ1 7 7 (nI (nx + n + 1))) ∧ (zp μ1 7 7 (nI (nx + n + 1))) 16 = μ 16 from ⟨by omega, by rw [hN, show 200 - n = (200 - (n + 1)) + 1 by omega, rNots_s h23, show nx + (n + 1) = nx + n + 1 by omega]; omega, hS1.nx (by rw [h23]; decide), hE1.tr rdE.nx, by rw [zp_ne (by decide)]; exact h16⟩) (by show 200 - (n + 1) < 200 - n; omega)
      · refine zx_iconst (v := 1) (nn := 41) rfl dX4_readOne_40 rfl ?_
        refine zx_goto (tgt := 45) dX4_readOne_41 (by decide) ?_
        refine zx_istore_n (nn := 46) (lv' := [(2, zi 1), (0, zr 7), (1, zi (nI op)), (3, zi (nI n))]) dX4_readOne_45 rfl (by decide) rfl rfl ?_
        rw [show 1 = zb (decide ((n + 1) % 2 = 1)) from by have h := of_decide_eq_false h37; first | (rw [decide_eq_true (by omega : (n + 1) % 2 = 1)]; rfl) | (rw [decide_eq_false (by omega : ¬ (n + 1) % 2 = 1)]; rfl)]
        show zX shC σ (D + 1) MX4_readOne 46 [(2, zi (zb (decide ((n + 1) % 2 = 1)))), (0, zr 7), (1, zi (nI op)), (3, zi (nI n))] [] (zp μ1 7 7 (nI (nx + n + 1))) _
        refine zx_iinc (k := 3) (v := nI (n + 1)) (lv' := [(3, zi (nI (n + 1))), (2, zi (zb (decide ((n + 1) % 2 = 1)))), (0, zr 7), (1, zi (nI op))]) (nn := 49) dX4_readOne_46 rfl (nI_1 n) (by decide) rfl rfl ?_
        refine zx_goto (tgt := 4) dX4_readOne_49 (by decide) ?_
        refine zx_lv (lv' := [(0, zr 7), (1, zi (nI op)), (2, zi (zb (decide ((n + 1) % 2 = 1)))), (3, zi (nI (n + 1)))]) [2, 3, 1, 0] rfl ?_
        exact ih4 (n + 1, zp μ1 7 7 (nI (nx + n + 1))) (show (n + 1) ≤ 200 ∧ rNots K 200 nx = (n + 1) + rNots K (200 - (n + 1)) (nx + (n + 1)) ∧ rdS K V c (zp μ1 7 7 (nI (nx + n + 1))) (nx + (n + 1)) cc ∧ rdE μ (zp μ1 7 7 (nI (nx + n + 1))) ∧ (zp μ1 7 7 (nI (nx + n + 1))) 16 = μ 16 from ⟨by omega, by rw [hN, show 200 - n = (200 - (n + 1)) + 1 by omega, rNots_s h23, show nx + (n + 1) = nx + n + 1 by omega]; omega, hS1.nx (by rw [h23]; decide), hE1.tr rdE.nx, by rw [zp_ne (by decide)]; exact h16⟩) (by show 200 - (n + 1) < 200 - n; omega)
/-- a condition, o times deeper at most -/
theorem eX4_cond (σ : zG) (K V : Nat → Int32) (c : Nat) (hc : K c = -1) : ∀ o, o ≤ 3 → ∀ μ nx cc, rdS K V c μ nx cc → zMet shC σ (3 * o + 4) MX4_readAny yX4_readAny [zr 7, zi (nI (3 - o))] μ (fun rr μ' => rr = some (zi (zb (rCond K V o nx).1)) ∧ rdP K V c μ cc (rCond K V o nx) μ')
  | 0, _ => fun μ nx cc hS => eX4_readAny σ K V c 3 3 _ (gd_join hc (gd_one hc (fun h => by cases h)) (by decide)) (eX4_readAll σ K V c 3 2 _ (gd_one hc (fun h => by cases h)) (eX4_readOne σ K V c 3 1 (fun k => (false, k, [], [])) false (by decide) (by decide) rfl (fun h => by cases h) (fun h => absurd h (by decide)))) μ nx cc hS
  | o + 1, h => fun μ nx cc hS => by
    have ih := eX4_cond σ K V c hc o (by omega)
    have he : 3 - (o + 1) + 1 = 3 - o := by omega
    have h1 := eX4_readOne σ K V c (3 - (o + 1)) (3 * o + 4) (rCond K V o) true (by omega) (by omega) (decide_eq_true (by omega)).symm (fun _ => gd_cond hc o) (fun _ => by rw [he]; exact ih)
    have h2 := eX4_readAll σ K V c (3 - (o + 1)) (3 * o + 4 + 1) (rOne K V (rCond K V o) true) (gd_one hc (fun _ => gd_cond hc o)) h1
    have h3 := eX4_readAny σ K V c (3 - (o + 1)) (3 * o + 4 + 1 + 1) (rAll K V (rCond K V o) true) (gd_join hc (gd_one hc (fun _ => gd_cond hc o)) (by decide)) h2 μ nx cc hS
    exact h3
