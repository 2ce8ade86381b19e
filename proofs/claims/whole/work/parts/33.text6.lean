/-- a rule as read: did it go, the token behind it (or at fault), its kind, its deed (263 lead, 264 lag, 265 wait), its number, what it lays -/
abbrev pRl : Type := (Int32 × Int32 × Int32) × List Int32 × List (Int32 × Int32)
abbrev pQ : Type := Bool × Nat × pRl
def pRl0 : pRl := ((0, 0, 0), [], [])
def rCnd (K V : Nat → Int32) (k : Nat) : pC := if K (k + 1) = 262 then rCond K V 3 (k + 2) else (true, k + 1, [], [])
def rFin (K : Nat → Int32) (kd d v : Int32) (a : pC) (e : Nat) : pQ := if K e = 59 then (true, e + 1, (kd, d, v), a.2.2.1, a.2.2.2) else (false, e, pRl0)
def rRule (K V : Nat → Int32) (k : Nat) : pQ :=
  if 0 ≤ K k - 256 ∧ K k - 256 ≤ 5 then
    (if (rCnd K V k).1 = true then
      (if K (rCnd K V k).2.1 = 263 ∨ K (rCnd K V k).2.1 = 264 ∨ K (rCnd K V k).2.1 = 265 then
        (if K (rCnd K V k).2.1 = 265 then rFin K (K k - 256) 265 0 (rCnd K V k) ((rCnd K V k).2.1 + 1)
         else if K ((rCnd K V k).2.1 + 1) = -2 ∧ V ((rCnd K V k).2.1 + 1) ≤ 99 then rFin K (K k - 256) (K (rCnd K V k).2.1) (V ((rCnd K V k).2.1 + 1)) (rCnd K V k) ((rCnd K V k).2.1 + 1 + 1)
         else (false, (rCnd K V k).2.1 + 1, pRl0))
       else (false, (rCnd K V k).2.1, pRl0))
     else (false, (rCnd K V k).2.1, pRl0))
  else (false, k, pRl0)
def rShift (r : pRl) : Int32 := if r.1.2.1 = 265 then 1000 else if r.1.2.1 = 263 then r.1.2.2 else -r.1.2.2
/-- behind a rule -/
def rdR (μ μ' : zM) : Prop := zJ [7, 12, 13, 14, 15, 16] μ μ' ∧ (∀ i, i ≠ 7 → μ' 7 i = μ 7 i)
def rdQ (K V : Nat → Int32) (c : Nat) (μ : zM) (cc nr : Nat) (r : pQ) (μ' : zM) : Prop := rdR μ μ' ∧ μ' 7 7 = nI r.2.1 ∧ (r.1 = true → rdS K V c μ' r.2.1 (cc + r.2.2.2.1.length) ∧ rdC μ μ' cc r.2.2.2.1 ∧ μ' 12 5 = nI (nr + 1) ∧
  (∀ j, j < nr → μ' 13 j = μ 13 j ∧ μ' 14 j = μ 14 j ∧ μ' 15 j = μ 15 j) ∧ μ' 13 nr = r.2.2.1.1 ∧ μ' 14 nr = rShift r.2.2 ∧ μ' 15 nr = nI (cc + r.2.2.2.1.length) ∧ ∀ j, nr < j → μ' 15 j = μ 15 j) ∧ (r.1 = false → μ' 15 = μ 15)
theorem rdE.R {μ μ' : zM} (h : rdE μ μ') : rdR μ μ' := ⟨h.1.mono (by decide), h.2.1⟩
theorem rdC.nx {μ μ1 : zM} {cc : Nat} {cs : List Int32} {v : Int32} (h : rdC μ μ1 cc cs) : rdC μ (zp μ1 7 7 v) cc cs := ⟨fun j hj => by rw [zp_ne (by decide)]; exact h.1 j hj, fun j hj => by rw [zp_ne (by decide)]; exact h.2 j hj⟩
set_option maxHeartbeats 4000000 in
set_option maxRecDepth 100000 in
theorem eX4_readRule_7 (σ : zG) (μ : zM) (K V : Nat → Int32) (c nx cc nr : Nat) (hS : rdS K V c μ nx cc) (hnr : μ 12 5 = nI nr) (hnr8 : nr < 8) : zMet shC σ 14 MX4_readRule yX4_readRule [zr 7] μ (fun rr μ' => rr = some (zi (zb (rRule K V nx).1)) ∧ rdQ K V c μ cc nr (rRule K V nx) μ') := by
  refine zmetF (by decide +kernel) rfl (Nat.le_of_ble_eq_true rfl) ?_
  show zX shC σ 14 MX4_readRule 0 [(0, zr 7)] [] μ _
  refine zx_aload_n (k := 0) (nn := 1) dX4_readRule_0 rfl rfl rfl ?_
  refine zx_getR (q := 9) (nn := 4) flX4_15 rfl rfl dX4_readRule_1 rfl ?_
  refine zx_aload_n (k := 0) (nn := 5) dX4_readRule_4 rfl rfl rfl ?_
  refine zx_getI (nn := 8) flX4_38 rfl rfl dX4_readRule_5 rfl ?_
  rw [show μ 7 7 = nI nx from hS.2.2.2.1.1]
  show zX shC σ 14 MX4_readRule 8 [(0, zr 7)] [zi (nI nx), zr 9] μ _
  refine zx_iald_n (j := nx) (nn := 9) rfl (by have := hS.2.2.1.2; have := hS.2.2.2.1.2; omega) (by decide) dX4_readRule_8 rfl ?_
  have hk := hS.1 nx hS.2.2.2.1.2
  have hcb := hS.2.2.2.1.2
  have hc20 := hS.2.2.1.2
  refine zx_sipush (v := 256) (nn := 12) rfl dX4_readRule_9 rfl ?_
  refine zx_isub (nn := 13) dX4_readRule_12 rfl ?_
  refine zx_istore_n (nn := 14) (lv' := [(1, zi ((μ 9 nx) - 256)), (0, zr 7)]) dX4_readRule_13 rfl (by decide) rfl rfl ?_
  refine zx_iload_n (k := 0) (nn := 15) dX4_readRule_14 rfl rfl rfl ?_
  refine zx_if_lt (tgt := 23) (nn := 18) dX4_readRule_15 (by decide) rfl (fun h15 => ?_) (fun h15 => ?_)
  · refine zx_iconst (v := 0) (nn := 24) rfl dX4_readRule_23 rfl ?_
    refine zx_zret rfl rfl dX4_readRule_24 ?_
    have hE : rRule K V nx = (false, nx, pRl0) := by unfold rRule; rw [if_neg (fun q => absurd h15 (Int32.not_lt.mpr (hk ▸ q.1)))]
    rw [hE]
    exact ⟨rfl, (rdE.rf (μ := μ)).R, hS.2.2.2.1.1, (fun h => by cases h), fun _ => ((rdE.rf (μ := μ))).1 15 (by decide)⟩
  · refine zx_iload_n (k := 0) (nn := 19) dX4_readRule_18 rfl rfl rfl ?_
    refine zx_iconst (v := 5) (nn := 20) rfl dX4_readRule_19 rfl ?_
    refine zx_icmp_le (tgt := 25) (nn := 23) dX4_readRule_20 (by decide) rfl (fun h20 => ?_) (fun h20 => ?_)
    · have hkd : 0 ≤ K nx - 256 ∧ K nx - 256 ≤ 5 := by rw [← hk]; exact ⟨Int32.not_lt.mp h15, h20⟩
      have hne1 : K nx ≠ -1 := fun e => by rw [e] at hkd; exact absurd hkd.1 (by decide)
      have hne : K nx ≠ -1 := hne1
      have hnc : nx ≠ c := fun e => hne1 (by rw [e]; exact hS.2.2.1.1)
      refine zx_aload_n (k := 1) (nn := 26) dX4_readRule_25 rfl rfl rfl ?_
      refine zx_dupr (nn := 27) dX4_readRule_26 rfl ?_
      refine zx_getI (nn := 30) flX4_38 rfl rfl dX4_readRule_27 rfl ?_
      rw [show μ 7 7 = nI nx from hS.2.2.2.1.1]
      show zX shC σ 14 MX4_readRule 30 [(1, zi ((μ 9 nx) - 256)), (0, zr 7)] [zi (nI nx), zr 7] μ _
      refine zx_iconst (v := 1) (nn := 31) rfl dX4_readRule_30 rfl ?_
      refine zx_iadd (nn := 32) dX4_readRule_31 rfl ?_
      rw [show (nI nx) + 1 = nI (nx + 1) from nI_1 _]
      show zX shC σ 14 MX4_readRule 32 [(1, zi ((μ 9 nx) - 256)), (0, zr 7)] [zi (nI (nx + 1)), zr 7] μ _
      refine zx_putI (nn := 35) fpX4_38 rfl rfl rfl rfl dX4_readRule_32 rfl ?_
      refine zx_aload_n (k := 1) (nn := 36) dX4_readRule_35 rfl rfl rfl ?_
      refine zx_getR (q := 9) (nn := 39) flX4_15 rfl rfl dX4_readRule_36 rfl ?_
      refine zx_aload_n (k := 1) (nn := 40) dX4_readRule_39 rfl rfl rfl ?_
      refine zx_getI (nn := 43) flX4_38 rfl rfl dX4_readRule_40 rfl ?_
      show zX shC σ 14 MX4_readRule 43 [(1, zi ((μ 9 nx) - 256)), (0, zr 7)] [zi (nI (nx + 1)), zr 9] (zp μ 7 7 (nI (nx + 1))) _
      refine zx_iald_n (j := nx + 1) (nn := 44) rfl (by omega) (by decide) dX4_readRule_43 rfl ?_
      show zX shC σ 14 MX4_readRule 44 [(1, zi ((μ 9 nx) - 256)), (0, zr 7)] [zi (μ 9 (nx + 1))] (zp μ 7 7 (nI (nx + 1))) _
      rw [show μ 9 (nx + 1) = K (nx + 1) from hS.1 (nx + 1) (by omega)]
      show zX shC σ 14 MX4_readRule 44 [(1, zi ((μ 9 nx) - 256)), (0, zr 7)] [zi (K (nx + 1))] (zp μ 7 7 (nI (nx + 1))) _
      refine zx_sipush (v := 262) (nn := 47) rfl dX4_readRule_44 rfl ?_
      refine zx_icmp_ne (tgt := 70) (nn := 50) dX4_readRule_47 (by decide) rfl (fun h47 => ?_) (fun h47 => ?_)
      · obtain ⟨ν9, e9⟩ : ∃ m, m = (zp μ 7 7 (nI (nx + 1))) := ⟨_, rfl⟩
        rw [← e9]
        show zX shC σ 14 MX4_readRule 70 [(1, zi ((μ 9 nx) - 256)), (0, zr 7)] [] ν9 _
        have hcn : rCnd K V nx = (true, nx + 1, [], []) := if_neg h47
        have hSc : rdS K V c ν9 (rCnd K V nx).2.1 (cc + (rCnd K V nx).2.2.1.length) := by rw [hcn, e9]; exact hS.nx hne1
        have hEc : rdE μ ν9 := by rw [e9]; exact rdE.nx
        have hCc : rdC μ ν9 cc (rCnd K V nx).2.2.1 := by rw [hcn, e9]; exact rdC.E (by rw [zp_ne (by decide)])
        have hc1 : (rCnd K V nx).1 = true := by rw [hcn]
        have hbc := hSc.2.2.2.1.2
        have hc2 := hSc.2.2.1.2
        refine zx_aload_n (k := 1) (nn := 71) dX4_readRule_70 rfl rfl rfl ?_
        refine zx_getR (q := 9) (nn := 74) flX4_15 rfl rfl dX4_readRule_71 rfl ?_
        refine zx_aload_n (k := 1) (nn := 75) dX4_readRule_74 rfl rfl rfl ?_
        refine zx_getI (nn := 78) flX4_38 rfl rfl dX4_readRule_75 rfl ?_
        rw [show ν9 7 7 = nI ((rCnd K V nx).2.1) from hSc.2.2.2.1.1]
        show zX shC σ 14 MX4_readRule 78 [(1, zi ((μ 9 nx) - 256)), (0, zr 7)] [zi (nI ((rCnd K V nx).2.1)), zr 9] ν9 _
        refine zx_iald_n (j := (rCnd K V nx).2.1) (nn := 79) rfl (by omega) (by decide) dX4_readRule_78 rfl ?_
        rw [show ν9 9 ((rCnd K V nx).2.1) = K (rCnd K V nx).2.1 from hSc.1 _ hSc.2.2.2.1.2]
        show zX shC σ 14 MX4_readRule 79 [(1, zi ((μ 9 nx) - 256)), (0, zr 7)] [zi (K (rCnd K V nx).2.1)] ν9 _
        refine zx_istore_n (nn := 80) (lv' := [(2, zi (K (rCnd K V nx).2.1)), (1, zi ((μ 9 nx) - 256)), (0, zr 7)]) dX4_readRule_79 rfl (by decide) rfl rfl ?_
        refine zx_iload_n (k := 0) (nn := 81) dX4_readRule_80 rfl rfl rfl ?_
        refine zx_sipush (v := 263) (nn := 84) rfl dX4_readRule_81 rfl ?_
        refine zx_icmp_eq (tgt := 103) (nn := 87) dX4_readRule_84 (by decide) rfl (fun h84 => ?_) (fun h84 => ?_)
        · have hdd : (K (rCnd K V nx).2.1) = 263 ∨ (K (rCnd K V nx).2.1) = 264 ∨ (K (rCnd K V nx).2.1) = 265 := Or.inl h84
          have hnd : (K (rCnd K V nx).2.1) ≠ -1 := fun e => by rw [e] at hdd; exact absurd hdd (by decide)
          have hncd : (rCnd K V nx).2.1 ≠ c := fun e => hnd (by rw [e]; exact hS.2.2.1.1)
          refine zx_aload_n (k := 2) (nn := 104) dX4_readRule_103 rfl rfl rfl ?_
          refine zx_dupr (nn := 105) dX4_readRule_104 rfl ?_
          refine zx_getI (nn := 108) flX4_38 rfl rfl dX4_readRule_105 rfl ?_
          rw [show ν9 7 7 = nI ((rCnd K V nx).2.1) from hSc.2.2.2.1.1]
          show zX shC σ 14 MX4_readRule 108 [(2, zi (K (rCnd K V nx).2.1)), (1, zi ((μ 9 nx) - 256)), (0, zr 7)] [zi (nI ((rCnd K V nx).2.1)), zr 7] ν9 _
          refine zx_iconst (v := 1) (nn := 109) rfl dX4_readRule_108 rfl ?_
          refine zx_iadd (nn := 110) dX4_readRule_109 rfl ?_
          rw [show (nI ((rCnd K V nx).2.1)) + 1 = nI ((rCnd K V nx).2.1 + 1) from nI_1 _]
          show zX shC σ 14 MX4_readRule 110 [(2, zi (K (rCnd K V nx).2.1)), (1, zi ((μ 9 nx) - 256)), (0, zr 7)] [zi (nI ((rCnd K V nx).2.1 + 1)), zr 7] ν9 _
          refine zx_putI (nn := 113) fpX4_38 rfl rfl rfl rfl dX4_readRule_110 rfl ?_
          refine zx_sipush (v := 1000) (nn := 116) rfl dX4_readRule_113 rfl ?_
          refine zx_istore_n (nn := 117) (lv' := [(3, zi 1000), (2, zi (K (rCnd K V nx).2.1)), (1, zi ((μ 9 nx) - 256)), (0, zr 7)]) dX4_readRule_116 rfl (by decide) rfl rfl ?_
          refine zx_iload_n (k := 1) (nn := 118) dX4_readRule_117 rfl rfl rfl ?_
          refine zx_sipush (v := 265) (nn := 121) rfl dX4_readRule_118 rfl ?_
          refine zx_icmp_eq (tgt := 194) (nn := 124) dX4_readRule_121 (by decide) rfl (fun h121 => ?_) (fun h121 => ?_)
          · refine zx_aload_n (k := 3) (nn := 195) dX4_readRule_194 rfl rfl rfl ?_
            refine zx_getR (q := 9) (nn := 198) flX4_15 rfl rfl dX4_readRule_195 rfl ?_
            refine zx_aload_n (k := 3) (nn := 199) dX4_readRule_198 rfl rfl rfl ?_
            refine zx_getI (nn := 202) flX4_38 rfl rfl dX4_readRule_199 rfl ?_
            show zX shC σ 14 MX4_readRule 202 [(3, zi 1000), (2, zi (K (rCnd K V nx).2.1)), (1, zi ((μ 9 nx) - 256)), (0, zr 7)] [zi (nI ((rCnd K V nx).2.1 + 1)), zr 9] (zp ν9 7 7 (nI ((rCnd K V nx).2.1 + 1))) _
            refine zx_iald_n (j := (rCnd K V nx).2.1 + 1) (nn := 203) rfl (by omega) (by decide) dX4_readRule_202 rfl ?_
            show zX shC σ 14 MX4_readRule 203 [(3, zi 1000), (2, zi (K (rCnd K V nx).2.1)), (1, zi ((μ 9 nx) - 256)), (0, zr 7)] [zi (ν9 9 ((rCnd K V nx).2.1 + 1))] (zp ν9 7 7 (nI ((rCnd K V nx).2.1 + 1))) _
            rw [show ν9 9 ((rCnd K V nx).2.1 + 1) = K ((rCnd K V nx).2.1 + 1) from hSc.1 ((rCnd K V nx).2.1 + 1) (by omega)]
            show zX shC σ 14 MX4_readRule 203 [(3, zi 1000), (2, zi (K (rCnd K V nx).2.1)), (1, zi ((μ 9 nx) - 256)), (0, zr 7)] [zi (K ((rCnd K V nx).2.1 + 1))] (zp ν9 7 7 (nI ((rCnd K V nx).2.1 + 1))) _
            refine zx_bipush (v := 59) (nn := 205) rfl dX4_readRule_203 rfl ?_
            refine zx_icmp_eq (tgt := 210) (nn := 208) dX4_readRule_205 (by decide) rfl (fun h205 => ?_) (fun h205 => ?_)
            · refine zx_aload_n (k := 3) (nn := 211) dX4_readRule_210 rfl rfl rfl ?_
              refine zx_dupr (nn := 212) dX4_readRule_211 rfl ?_
              refine zx_getI (nn := 215) flX4_38 rfl rfl dX4_readRule_212 rfl ?_
              show zX shC σ 14 MX4_readRule 215 [(3, zi 1000), (2, zi (K (rCnd K V nx).2.1)), (1, zi ((μ 9 nx) - 256)), (0, zr 7)] [zi (nI ((rCnd K V nx).2.1 + 1)), zr 7] (zp ν9 7 7 (nI ((rCnd K V nx).2.1 + 1))) _
              refine zx_iconst (v := 1) (nn := 216) rfl dX4_readRule_215 rfl ?_
              refine zx_iadd (nn := 217) dX4_readRule_216 rfl ?_
              rw [show (nI ((rCnd K V nx).2.1 + 1)) + 1 = nI ((rCnd K V nx).2.1 + 1 + 1) from nI_1 _]
              show zX shC σ 14 MX4_readRule 217 [(3, zi 1000), (2, zi (K (rCnd K V nx).2.1)), (1, zi ((μ 9 nx) - 256)), (0, zr 7)] [zi (nI ((rCnd K V nx).2.1 + 1 + 1)), zr 7] (zp ν9 7 7 (nI ((rCnd K V nx).2.1 + 1))) _
              refine zx_putI (nn := 220) fpX4_38 rfl rfl rfl rfl dX4_readRule_217 rfl ?_
              refine zx_aload_n (k := 3) (nn := 221) dX4_readRule_220 rfl rfl rfl ?_
              refine zx_getR (q := 12) (nn := 224) flX4_27 rfl rfl dX4_readRule_221 rfl ?_
              refine zx_iload_n (k := 2) (nn := 225) dX4_readRule_224 rfl rfl rfl ?_
              refine zx_iload_n (k := 0) (nn := 226) dX4_readRule_225 rfl rfl rfl ?_
              refine zx_callVf (nn := 229) (k := 12) (d' := 0) (as := [zi ((μ 9 nx) - 256), zi 1000]) (rest := []) (n := 2) (eX5_addRule_12 σ (zp (zp ν9 7 7 (nI ((rCnd K V nx).2.1 + 1))) 7 7 (nI ((rCnd K V nx).2.1 + 1 + 1))) ((μ 9 nx) - 256) 1000 nr (by first | exact hnr1 | exact ((hEc.tr (rdE.nx.tr rdE.nx)).2.2 5 (by decide)).trans hnr | exact ((hEc.tr (rdE.nx.tr (rdE.nx.tr rdE.nx))).2.2 5 (by decide)).trans hnr) hnr8) kX5_addRule mlX4_56 rfl rfl rfl (by decide) rfl rfl (Nat.le_of_ble_eq_true rfl) dX4_readRule_226 rfl ?_
              show zX shC σ 14 MX4_readRule 229 [(3, zi 1000), (2, zi (K (rCnd K V nx).2.1)), (1, zi ((μ 9 nx) - 256)), (0, zr 7)] [] (zp (zp (zp (zp (zp (zp ν9 7 7 (nI ((rCnd K V nx).2.1 + 1))) 7 7 (nI ((rCnd K V nx).2.1 + 1 + 1))) 13 nr ((μ 9 nx) - 256)) 14 nr 1000) 15 nr ((zp (zp ν9 7 7 (nI ((rCnd K V nx).2.1 + 1))) 7 7 (nI ((rCnd K V nx).2.1 + 1 + 1))) 12 6)) 12 5 (nI (nr + 1))) _
              refine zx_iconst (v := 1) (nn := 230) rfl dX4_readRule_229 rfl ?_
              refine zx_zret rfl rfl dX4_readRule_230 ?_
              have hE : rRule K V nx = (true, (rCnd K V nx).2.1 + 1 + 1, (K nx - 256, 265, 0), (rCnd K V nx).2.2.1, (rCnd K V nx).2.2.2) := by unfold rRule; rw [if_pos hkd, if_pos hc1, if_pos hdd, if_pos h121]; unfold rFin; rw [if_pos h205]
              rw [hE]
              have hE9 : rdE μ (zp (zp ν9 7 7 (nI ((rCnd K V nx).2.1 + 1))) 7 7 (nI ((rCnd K V nx).2.1 + 1 + 1))) := (hEc.tr rdE.nx).tr rdE.nx
              have hS9 : rdS K V c (zp (zp ν9 7 7 (nI ((rCnd K V nx).2.1 + 1))) 7 7 (nI ((rCnd K V nx).2.1 + 1 + 1))) ((rCnd K V nx).2.1 + 1 + 1) (cc + (rCnd K V nx).2.2.1.length) := (hSc.nx hnd).nx (by rw [h205]; decide)
              have hC9 : rdC μ (zp (zp ν9 7 7 (nI ((rCnd K V nx).2.1 + 1))) 7 7 (nI ((rCnd K V nx).2.1 + 1 + 1))) cc (rCnd K V nx).2.2.1 := hCc.nx.nx
              obtain ⟨s1, s2, s3, s4, s5⟩ := hS9
              refine ⟨rfl, ⟨(hE9.R.1.tr ((((zJ.rf.p (by decide)).p (by decide)).p (by decide)).p (by decide))), fun i hi => ?_⟩, ?_, fun _ => ⟨⟨fun k hk => ?_, fun k hk => ?_, s3, ⟨?_, s4.2⟩, ?_, s5.2⟩, ⟨fun j hj => ?_, fun j hj => ?_⟩, ?_, fun j hj => ⟨?_, ?_, ?_⟩, ?_, ?_, ?_, fun j hj => ?_⟩, fun h => by cases h⟩
              · rw [zp_ne (by decide), zp_ne (by decide), zp_ne (by decide), zp_ne (by decide)]; exact hE9.2.1 i hi
              · rw [zp_ne (by decide), zp_ne (by decide), zp_ne (by decide), zp_ne (by decide)]; exact s4.1
              · rw [zp_ne (by decide), zp_ne (by decide), zp_ne (by decide), zp_ne (by decide)]; exact s1 k hk
              · rw [zp_ne (by decide), zp_ne (by decide), zp_ne (by decide), zp_ne (by decide)]; exact s2 k hk
              · rw [zp_ne (by decide), zp_ne (by decide), zp_ne (by decide), zp_ne (by decide)]; exact s4.1
              · rw [zp_eq, pk_un (by decide), zp_ne (by decide), zp_ne (by decide), zp_ne (by decide)]; exact s5.1
              · rw [zp_ne (by decide), zp_ne (by decide), zp_ne (by decide), zp_ne (by decide)]; exact hC9.1 j hj
              · rw [zp_ne (by decide), zp_ne (by decide), zp_ne (by decide), zp_ne (by decide)]; exact hC9.2 j hj
              · rw [zp_eq]; exact pk_us
              · rw [zp_ne (by decide), zp_ne (by decide), zp_ne (by decide), zp_eq, pk_un (by omega), hE9.1 13 (by decide)]
              · rw [zp_ne (by decide), zp_ne (by decide), zp_eq, pk_un (by omega), zp_ne (by decide), hE9.1 14 (by decide)]
              · rw [zp_ne (by decide), zp_eq, pk_un (by omega), zp_ne (by decide), zp_ne (by decide), hE9.1 15 (by decide)]
              · rw [zp_ne (by decide), zp_ne (by decide), zp_ne (by decide), zp_eq, pk_us, hk]
              · rw [zp_ne (by decide), zp_ne (by decide), zp_eq, pk_us]; refine Eq.symm ?_; rfl
              · rw [zp_ne (by decide), zp_eq, pk_us]; exact s5.1
              · rw [zp_ne (by decide), zp_eq, pk_un (by omega), zp_ne (by decide), zp_ne (by decide), hE9.1 15 (by decide)]
            · refine zx_iconst (v := 0) (nn := 209) rfl dX4_readRule_208 rfl ?_
              refine zx_zret rfl rfl dX4_readRule_209 ?_
              have hE : rRule K V nx = (false, (rCnd K V nx).2.1 + 1, pRl0) := by unfold rRule; rw [if_pos hkd, if_pos hc1, if_pos hdd, if_pos h121]; unfold rFin; rw [if_neg h205]
              rw [hE]
              exact ⟨rfl, (hEc.tr rdE.nx).R, by rw [zp_eq]; exact pk_us, (fun h => by cases h), fun _ => ((hEc.tr rdE.nx)).1 15 (by decide)⟩
          · have hd65 : ¬ (K (rCnd K V nx).2.1) = 265 := h121
            refine zx_aload_n (k := 3) (nn := 125) dX4_readRule_124 rfl rfl rfl ?_
            refine zx_getR (q := 9) (nn := 128) flX4_15 rfl rfl dX4_readRule_125 rfl ?_
            refine zx_aload_n (k := 3) (nn := 129) dX4_readRule_128 rfl rfl rfl ?_
            refine zx_getI (nn := 132) flX4_38 rfl rfl dX4_readRule_129 rfl ?_
            show zX shC σ 14 MX4_readRule 132 [(3, zi 1000), (2, zi (K (rCnd K V nx).2.1)), (1, zi ((μ 9 nx) - 256)), (0, zr 7)] [zi (nI ((rCnd K V nx).2.1 + 1)), zr 9] (zp ν9 7 7 (nI ((rCnd K V nx).2.1 + 1))) _
            refine zx_iald_n (j := (rCnd K V nx).2.1 + 1) (nn := 133) rfl (by omega) (by decide) dX4_readRule_132 rfl ?_
            show zX shC σ 14 MX4_readRule 133 [(3, zi 1000), (2, zi (K (rCnd K V nx).2.1)), (1, zi ((μ 9 nx) - 256)), (0, zr 7)] [zi (ν9 9 ((rCnd K V nx).2.1 + 1))] (zp ν9 7 7 (nI ((rCnd K V nx).2.1 + 1))) _
            rw [show ν9 9 ((rCnd K V nx).2.1 + 1) = K ((rCnd K V nx).2.1 + 1) from hSc.1 ((rCnd K V nx).2.1 + 1) (by omega)]
            show zX shC σ 14 MX4_readRule 133 [(3, zi 1000), (2, zi (K (rCnd K V nx).2.1)), (1, zi ((μ 9 nx) - 256)), (0, zr 7)] [zi (K ((rCnd K V nx).2.1 + 1))] (zp ν9 7 7 (nI ((rCnd K V nx).2.1 + 1))) _
            refine zx_bipush (v := -2) (nn := 135) rfl dX4_readRule_133 rfl ?_
            refine zx_icmp_ne (tgt := 152) (nn := 138) dX4_readRule_135 (by decide) rfl (fun h135 => ?_) (fun h135 => ?_)
            · refine zx_iconst (v := 0) (nn := 153) rfl dX4_readRule_152 rfl ?_
              refine zx_zret rfl rfl dX4_readRule_153 ?_
              have hE : rRule K V nx = (false, (rCnd K V nx).2.1 + 1, pRl0) := by unfold rRule; rw [if_pos hkd, if_pos hc1, if_pos hdd, if_neg hd65, if_neg (fun q => h135 q.1)]
              rw [hE]
              exact ⟨rfl, (hEc.tr rdE.nx).R, by rw [zp_eq]; exact pk_us, (fun h => by cases h), fun _ => ((hEc.tr rdE.nx)).1 15 (by decide)⟩
            · have hnc3 : (rCnd K V nx).2.1 + 1 ≠ c := fun e => by rw [e, hS.2.2.1.1] at h135; exact absurd h135 (by decide)
              refine zx_aload_n (k := 3) (nn := 139) dX4_readRule_138 rfl rfl rfl ?_
              refine zx_getR (q := 10) (nn := 142) flX4_18 rfl rfl dX4_readRule_139 rfl ?_
              refine zx_aload_n (k := 3) (nn := 143) dX4_readRule_142 rfl rfl rfl ?_
              refine zx_getI (nn := 146) flX4_38 rfl rfl dX4_readRule_143 rfl ?_
              show zX shC σ 14 MX4_readRule 146 [(3, zi 1000), (2, zi (K (rCnd K V nx).2.1)), (1, zi ((μ 9 nx) - 256)), (0, zr 7)] [zi (nI ((rCnd K V nx).2.1 + 1)), zr 10] (zp ν9 7 7 (nI ((rCnd K V nx).2.1 + 1))) _
              refine zx_iald_n (j := (rCnd K V nx).2.1 + 1) (nn := 147) rfl (by omega) (by decide) dX4_readRule_146 rfl ?_
              show zX shC σ 14 MX4_readRule 147 [(3, zi 1000), (2, zi (K (rCnd K V nx).2.1)), (1, zi ((μ 9 nx) - 256)), (0, zr 7)] [zi (ν9 10 ((rCnd K V nx).2.1 + 1))] (zp ν9 7 7 (nI ((rCnd K V nx).2.1 + 1))) _
              rw [show ν9 10 ((rCnd K V nx).2.1 + 1) = V ((rCnd K V nx).2.1 + 1) from hSc.2.1 ((rCnd K V nx).2.1 + 1) (by omega)]
              show zX shC σ 14 MX4_readRule 147 [(3, zi 1000), (2, zi (K (rCnd K V nx).2.1)), (1, zi ((μ 9 nx) - 256)), (0, zr 7)] [zi (V ((rCnd K V nx).2.1 + 1))] (zp ν9 7 7 (nI ((rCnd K V nx).2.1 + 1))) _
              refine zx_bipush (v := 99) (nn := 149) rfl dX4_readRule_147 rfl ?_
              refine zx_icmp_le (tgt := 154) (nn := 152) dX4_readRule_149 (by decide) rfl (fun h149 => ?_) (fun h149 => ?_)
              · refine zx_iload_n (k := 1) (nn := 155) dX4_readRule_154 rfl rfl rfl ?_
                refine zx_sipush (v := 263) (nn := 158) rfl dX4_readRule_155 rfl ?_
                refine zx_icmp_ne (tgt := 173) (nn := 161) dX4_readRule_158 (by decide) rfl (fun h158 => ?_) (fun h158 => ?_)
                · refine zx_aload_n (k := 3) (nn := 174) dX4_readRule_173 rfl rfl rfl ?_
                  refine zx_getR (q := 10) (nn := 177) flX4_18 rfl rfl dX4_readRule_174 rfl ?_
                  refine zx_aload_n (k := 3) (nn := 178) dX4_readRule_177 rfl rfl rfl ?_
                  refine zx_getI (nn := 181) flX4_38 rfl rfl dX4_readRule_178 rfl ?_
                  show zX shC σ 14 MX4_readRule 181 [(3, zi 1000), (2, zi (K (rCnd K V nx).2.1)), (1, zi ((μ 9 nx) - 256)), (0, zr 7)] [zi (nI ((rCnd K V nx).2.1 + 1)), zr 10] (zp ν9 7 7 (nI ((rCnd K V nx).2.1 + 1))) _
                  refine zx_iald_n (j := (rCnd K V nx).2.1 + 1) (nn := 182) rfl (by omega) (by decide) dX4_readRule_181 rfl ?_
                  show zX shC σ 14 MX4_readRule 182 [(3, zi 1000), (2, zi (K (rCnd K V nx).2.1)), (1, zi ((μ 9 nx) - 256)), (0, zr 7)] [zi (ν9 10 ((rCnd K V nx).2.1 + 1))] (zp ν9 7 7 (nI ((rCnd K V nx).2.1 + 1))) _
                  rw [show ν9 10 ((rCnd K V nx).2.1 + 1) = V ((rCnd K V nx).2.1 + 1) from hSc.2.1 ((rCnd K V nx).2.1 + 1) (by omega)]
                  show zX shC σ 14 MX4_readRule 182 [(3, zi 1000), (2, zi (K (rCnd K V nx).2.1)), (1, zi ((μ 9 nx) - 256)), (0, zr 7)] [zi (V ((rCnd K V nx).2.1 + 1))] (zp ν9 7 7 (nI ((rCnd K V nx).2.1 + 1))) _
                  refine zx_ineg (nn := 183) dX4_readRule_182 rfl ?_
                  refine zx_istore_n (nn := 184) (lv' := [(3, zi (-(V ((rCnd K V nx).2.1 + 1)))), (2, zi (K (rCnd K V nx).2.1)), (1, zi ((μ 9 nx) - 256)), (0, zr 7)]) dX4_readRule_183 rfl (by decide) rfl rfl ?_
                  refine zx_aload_n (k := 3) (nn := 185) dX4_readRule_184 rfl rfl rfl ?_
                  refine zx_dupr (nn := 186) dX4_readRule_185 rfl ?_
                  refine zx_getI (nn := 189) flX4_38 rfl rfl dX4_readRule_186 rfl ?_
                  show zX shC σ 14 MX4_readRule 189 [(3, zi (-(V ((rCnd K V nx).2.1 + 1)))), (2, zi (K (rCnd K V nx).2.1)), (1, zi ((μ 9 nx) - 256)), (0, zr 7)] [zi (nI ((rCnd K V nx).2.1 + 1)), zr 7] (zp ν9 7 7 (nI ((rCnd K V nx).2.1 + 1))) _
                  refine zx_iconst (v := 1) (nn := 190) rfl dX4_readRule_189 rfl ?_
                  refine zx_iadd (nn := 191) dX4_readRule_190 rfl ?_
                  rw [show (nI ((rCnd K V nx).2.1 + 1)) + 1 = nI ((rCnd K V nx).2.1 + 1 + 1) from nI_1 _]
                  show zX shC σ 14 MX4_readRule 191 [(3, zi (-(V ((rCnd K V nx).2.1 + 1)))), (2, zi (K (rCnd K V nx).2.1)), (1, zi ((μ 9 nx) - 256)), (0, zr 7)] [zi (nI ((rCnd K V nx).2.1 + 1 + 1)), zr 7] (zp ν9 7 7 (nI ((rCnd K V nx).2.1 + 1))) _
                  refine zx_putI (nn := 194) fpX4_38 rfl rfl rfl rfl dX4_readRule_191 rfl ?_
                  refine zx_aload_n (k := 3) (nn := 195) dX4_readRule_194 rfl rfl rfl ?_
                  refine zx_getR (q := 9) (nn := 198) flX4_15 rfl rfl dX4_readRule_195 rfl ?_
                  refine zx_aload_n (k := 3) (nn := 199) dX4_readRule_198 rfl rfl rfl ?_
                  refine zx_getI (nn := 202) flX4_38 rfl rfl dX4_readRule_199 rfl ?_
                  show zX shC σ 14 MX4_readRule 202 [(3, zi (-(V ((rCnd K V nx).2.1 + 1)))), (2, zi (K (rCnd K V nx).2.1)), (1, zi ((μ 9 nx) - 256)), (0, zr 7)] [zi (nI ((rCnd K V nx).2.1 + 1 + 1)), zr 9] (zp (zp ν9 7 7 (nI ((rCnd K V nx).2.1 + 1))) 7 7 (nI ((rCnd K V nx).2.1 + 1 + 1))) _
                  refine zx_iald_n (j := (rCnd K V nx).2.1 + 1 + 1) (nn := 203) rfl (by omega) (by decide) dX4_readRule_202 rfl ?_
                  show zX shC σ 14 MX4_readRule 203 [(3, zi (-(V ((rCnd K V nx).2.1 + 1)))), (2, zi (K (rCnd K V nx).2.1)), (1, zi ((μ 9 nx) - 256)), (0, zr 7)] [zi (ν9 9 ((rCnd K V nx).2.1 + 1 + 1))] (zp (zp ν9 7 7 (nI ((rCnd K V nx).2.1 + 1))) 7 7 (nI ((rCnd K V nx).2.1 + 1 + 1))) _
                  rw [show ν9 9 ((rCnd K V nx).2.1 + 1 + 1) = K ((rCnd K V nx).2.1 + 1 + 1) from hSc.1 ((rCnd K V nx).2.1 + 1 + 1) (by omega)]
                  show zX shC σ 14 MX4_readRule 203 [(3, zi (-(V ((rCnd K V nx).2.1 + 1)))), (2, zi (K (rCnd K V nx).2.1)), (1, zi ((μ 9 nx) - 256)), (0, zr 7)] [zi (K ((rCnd K V nx).2.1 + 1 + 1))] (zp (zp ν9 7 7 (nI ((rCnd K V nx).2.1 + 1))) 7 7 (nI ((rCnd K V nx).2.1 + 1 + 1))) _
                  refine zx_bipush (v := 59) (nn := 205) rfl dX4_readRule_203 rfl ?_
                  refine zx_icmp_eq (tgt := 210) (nn := 208) dX4_readRule_205 (by decide) rfl (fun h205 => ?_) (fun h205 => ?_)
                  · refine zx_aload_n (k := 3) (nn := 211) dX4_readRule_210 rfl rfl rfl ?_
                    refine zx_dupr (nn := 212) dX4_readRule_211 rfl ?_
                    refine zx_getI (nn := 215) flX4_38 rfl rfl dX4_readRule_212 rfl ?_
                    show zX shC σ 14 MX4_readRule 215 [(3, zi (-(V ((rCnd K V nx).2.1 + 1)))), (2, zi (K (rCnd K V nx).2.1)), (1, zi ((μ 9 nx) - 256)), (0, zr 7)] [zi (nI ((rCnd K V nx).2.1 + 1 + 1)), zr 7] (zp (zp ν9 7 7 (nI ((rCnd K V nx).2.1 + 1))) 7 7 (nI ((rCnd K V nx).2.1 + 1 + 1))) _
                    refine zx_iconst (v := 1) (nn := 216) rfl dX4_readRule_215 rfl ?_
                    refine zx_iadd (nn := 217) dX4_readRule_216 rfl ?_
                    rw [show (nI ((rCnd K V nx).2.1 + 1 + 1)) + 1 = nI ((rCnd K V nx).2.1 + 1 + 1 + 1) from nI_1 _]
                    show zX shC σ 14 MX4_readRule 217 [(3, zi (-(V ((rCnd K V nx).2.1 + 1)))), (2, zi (K (rCnd K V nx).2.1)), (1, zi ((μ 9 nx) - 256)), (0, zr 7)] [zi (nI ((rCnd K V nx).2.1 + 1 + 1 + 1)), zr 7] (zp (zp ν9 7 7 (nI ((rCnd K V nx).2.1 + 1))) 7 7 (nI ((rCnd K V nx).2.1 + 1 + 1))) _
                    refine zx_putI (nn := 220) fpX4_38 rfl rfl rfl rfl dX4_readRule_217 rfl ?_
                    refine zx_aload_n (k := 3) (nn := 221) dX4_readRule_220 rfl rfl rfl ?_
                    refine zx_getR (q := 12) (nn := 224) flX4_27 rfl rfl dX4_readRule_221 rfl ?_
                    refine zx_iload_n (k := 2) (nn := 225) dX4_readRule_224 rfl rfl rfl ?_
                    refine zx_iload_n (k := 0) (nn := 226) dX4_readRule_225 rfl rfl rfl ?_
                    refine zx_callVf (nn := 229) (k := 12) (d' := 0) (as := [zi ((μ 9 nx) - 256), zi (-(V ((rCnd K V nx).2.1 + 1)))]) (rest := []) (n := 2) (eX5_addRule_12 σ (zp (zp (zp ν9 7 7 (nI ((rCnd K V nx).2.1 + 1))) 7 7 (nI ((rCnd K V nx).2.1 + 1 + 1))) 7 7 (nI ((rCnd K V nx).2.1 + 1 + 1 + 1))) ((μ 9 nx) - 256) (-(V ((rCnd K V nx).2.1 + 1))) nr (by first | exact hnr1 | exact ((hEc.tr (rdE.nx.tr rdE.nx)).2.2 5 (by decide)).trans hnr | exact ((hEc.tr (rdE.nx.tr (rdE.nx.tr rdE.nx))).2.2 5 (by decide)).trans hnr) hnr8) kX5_addRule mlX4_56 rfl rfl rfl (by decide) rfl rfl (Nat.le_of_ble_eq_true rfl) dX4_readRule_226 rfl ?_
                    show zX shC σ 14 MX4_readRule 229 [(3, zi (-(V ((rCnd K V nx).2.1 + 1)))), (2, zi (K (rCnd K V nx).2.1)), (1, zi ((μ 9 nx) - 256)), (0, zr 7)] [] (zp (zp (zp (zp (zp (zp (zp ν9 7 7 (nI ((rCnd K V nx).2.1 + 1))) 7 7 (nI ((rCnd K V nx).2.1 + 1 + 1))) 7 7 (nI ((rCnd K V nx).2.1 + 1 + 1 + 1))) 13 nr ((μ 9 nx) - 256)) 14 nr (-(V ((rCnd K V nx).2.1 + 1)))) 15 nr ((zp (zp (zp ν9 7 7 (nI ((rCnd K V nx).2.1 + 1))) 7 7 (nI ((rCnd K V nx).2.1 + 1 + 1))) 7 7 (nI ((rCnd K V nx).2.1 + 1 + 1 + 1))) 12 6)) 12 5 (nI (nr + 1))) _
                    refine zx_iconst (v := 1) (nn := 230) rfl dX4_readRule_229 rfl ?_
                    refine zx_zret rfl rfl dX4_readRule_230 ?_
                    have hE : rRule K V nx = (true, (rCnd K V nx).2.1 + 1 + 1 + 1, (K nx - 256, (K (rCnd K V nx).2.1), V ((rCnd K V nx).2.1 + 1)), (rCnd K V nx).2.2.1, (rCnd K V nx).2.2.2) := by unfold rRule; rw [if_pos hkd, if_pos hc1, if_pos hdd, if_neg hd65, if_pos ⟨h135, h149⟩]; unfold rFin; rw [if_pos h205]
                    rw [hE]
                    have hE9 : rdE μ (zp (zp (zp ν9 7 7 (nI ((rCnd K V nx).2.1 + 1))) 7 7 (nI ((rCnd K V nx).2.1 + 1 + 1))) 7 7 (nI ((rCnd K V nx).2.1 + 1 + 1 + 1))) := ((hEc.tr rdE.nx).tr rdE.nx).tr rdE.nx
                    have hS9 : rdS K V c (zp (zp (zp ν9 7 7 (nI ((rCnd K V nx).2.1 + 1))) 7 7 (nI ((rCnd K V nx).2.1 + 1 + 1))) 7 7 (nI ((rCnd K V nx).2.1 + 1 + 1 + 1))) ((rCnd K V nx).2.1 + 1 + 1 + 1) (cc + (rCnd K V nx).2.2.1.length) := ((hSc.nx hnd).nx (by rw [h135]; decide)).nx (by rw [h205]; decide)
                    have hC9 : rdC μ (zp (zp (zp ν9 7 7 (nI ((rCnd K V nx).2.1 + 1))) 7 7 (nI ((rCnd K V nx).2.1 + 1 + 1))) 7 7 (nI ((rCnd K V nx).2.1 + 1 + 1 + 1))) cc (rCnd K V nx).2.2.1 := hCc.nx.nx.nx
                    obtain ⟨s1, s2, s3, s4, s5⟩ := hS9
                    refine ⟨rfl, ⟨(hE9.R.1.tr ((((zJ.rf.p (by decide)).p (by decide)).p (by decide)).p (by decide))), fun i hi => ?_⟩, ?_, fun _ => ⟨⟨fun k hk => ?_, fun k hk => ?_, s3, ⟨?_, s4.2⟩, ?_, s5.2⟩, ⟨fun j hj => ?_, fun j hj => ?_⟩, ?_, fun j hj => ⟨?_, ?_, ?_⟩, ?_, ?_, ?_, fun j hj => ?_⟩, fun h => by cases h⟩
                    · rw [zp_ne (by decide), zp_ne (by decide), zp_ne (by decide), zp_ne (by decide)]; exact hE9.2.1 i hi
                    · rw [zp_ne (by decide), zp_ne (by decide), zp_ne (by decide), zp_ne (by decide)]; exact s4.1
                    · rw [zp_ne (by decide), zp_ne (by decide), zp_ne (by decide), zp_ne (by decide)]; exact s1 k hk
                    · rw [zp_ne (by decide), zp_ne (by decide), zp_ne (by decide), zp_ne (by decide)]; exact s2 k hk
                    · rw [zp_ne (by decide), zp_ne (by decide), zp_ne (by decide), zp_ne (by decide)]; exact s4.1
                    · rw [zp_eq, pk_un (by decide), zp_ne (by decide), zp_ne (by decide), zp_ne (by decide)]; exact s5.1
                    · rw [zp_ne (by decide), zp_ne (by decide), zp_ne (by decide), zp_ne (by decide)]; exact hC9.1 j hj
                    · rw [zp_ne (by decide), zp_ne (by decide), zp_ne (by decide), zp_ne (by decide)]; exact hC9.2 j hj
                    · rw [zp_eq]; exact pk_us
                    · rw [zp_ne (by decide), zp_ne (by decide), zp_ne (by decide), zp_eq, pk_un (by omega), hE9.1 13 (by decide)]
                    · rw [zp_ne (by decide), zp_ne (by decide), zp_eq, pk_un (by omega), zp_ne (by decide), hE9.1 14 (by decide)]
                    · rw [zp_ne (by decide), zp_eq, pk_un (by omega), zp_ne (by decide), zp_ne (by decide), hE9.1 15 (by decide)]
                    · rw [zp_ne (by decide), zp_ne (by decide), zp_ne (by decide), zp_eq, pk_us, hk]
                    · rw [zp_ne (by decide), zp_ne (by decide), zp_eq, pk_us]; refine Eq.symm ?_; show (if (K (rCnd K V nx).2.1) = 265 then (1000 : Int32) else if (K (rCnd K V nx).2.1) = 263 then V ((rCnd K V nx).2.1 + 1) else -(V ((rCnd K V nx).2.1 + 1))) = _; rw [if_neg hd65, if_neg h158]
                    · rw [zp_ne (by decide), zp_eq, pk_us]; exact s5.1
                    · rw [zp_ne (by decide), zp_eq, pk_un (by omega), zp_ne (by decide), zp_ne (by decide), hE9.1 15 (by decide)]
                  · refine zx_iconst (v := 0) (nn := 209) rfl dX4_readRule_208 rfl ?_
                    refine zx_zret rfl rfl dX4_readRule_209 ?_
                    have hE : rRule K V nx = (false, (rCnd K V nx).2.1 + 1 + 1, pRl0) := by unfold rRule; rw [if_pos hkd, if_pos hc1, if_pos hdd, if_neg hd65, if_pos ⟨h135, h149⟩]; unfold rFin; rw [if_neg h205]
                    rw [hE]
                    exact ⟨rfl, ((hEc.tr rdE.nx).tr rdE.nx).R, by rw [zp_eq]; exact pk_us, (fun h => by cases h), fun _ => (((hEc.tr rdE.nx).tr rdE.nx)).1 15 (by decide)⟩
                · refine zx_aload_n (k := 3) (nn := 162) dX4_readRule_161 rfl rfl rfl ?_
                  refine zx_getR (q := 10) (nn := 165) flX4_18 rfl rfl dX4_readRule_162 rfl ?_
                  refine zx_aload_n (k := 3) (nn := 166) dX4_readRule_165 rfl rfl rfl ?_
                  refine zx_getI (nn := 169) flX4_38 rfl rfl dX4_readRule_166 rfl ?_
                  show zX shC σ 14 MX4_readRule 169 [(3, zi 1000), (2, zi (K (rCnd K V nx).2.1)), (1, zi ((μ 9 nx) - 256)), (0, zr 7)] [zi (nI ((rCnd K V nx).2.1 + 1)), zr 10] (zp ν9 7 7 (nI ((rCnd K V nx).2.1 + 1))) _
                  refine zx_iald_n (j := (rCnd K V nx).2.1 + 1) (nn := 170) rfl (by omega) (by decide) dX4_readRule_169 rfl ?_
                  show zX shC σ 14 MX4_readRule 170 [(3, zi 1000), (2, zi (K (rCnd K V nx).2.1)), (1, zi ((μ 9 nx) - 256)), (0, zr 7)] [zi (ν9 10 ((rCnd K V nx).2.1 + 1))] (zp ν9 7 7 (nI ((rCnd K V nx).2.1 + 1))) _
                  rw [show ν9 10 ((rCnd K V nx).2.1 + 1) = V ((rCnd K V nx).2.1 + 1) from hSc.2.1 ((rCnd K V nx).2.1 + 1) (by omega)]
                  show zX shC σ 14 MX4_readRule 170 [(3, zi 1000), (2, zi (K (rCnd K V nx).2.1)), (1, zi ((μ 9 nx) - 256)), (0, zr 7)] [zi (V ((rCnd K V nx).2.1 + 1))] (zp ν9 7 7 (nI ((rCnd K V nx).2.1 + 1))) _
                  refine zx_goto (tgt := 183) dX4_readRule_170 (by decide) ?_
                  refine zx_istore_n (nn := 184) (lv' := [(3, zi (V ((rCnd K V nx).2.1 + 1))), (2, zi (K (rCnd K V nx).2.1)), (1, zi ((μ 9 nx) - 256)), (0, zr 7)]) dX4_readRule_183 rfl (by decide) rfl rfl ?_
                  refine zx_aload_n (k := 3) (nn := 185) dX4_readRule_184 rfl rfl rfl ?_
                  refine zx_dupr (nn := 186) dX4_readRule_185 rfl ?_
                  refine zx_getI (nn := 189) flX4_38 rfl rfl dX4_readRule_186 rfl ?_
                  show zX shC σ 14 MX4_readRule 189 [(3, zi (V ((rCnd K V nx).2.1 + 1))), (2, zi (K (rCnd K V nx).2.1)), (1, zi ((μ 9 nx) - 256)), (0, zr 7)] [zi (nI ((rCnd K V nx).2.1 + 1)), zr 7] (zp ν9 7 7 (nI ((rCnd K V nx).2.1 + 1))) _
                  refine zx_iconst (v := 1) (nn := 190) rfl dX4_readRule_189 rfl ?_
                  refine zx_iadd (nn := 191) dX4_readRule_190 rfl ?_
                  rw [show (nI ((rCnd K V nx).2.1 + 1)) + 1 = nI ((rCnd K V nx).2.1 + 1 + 1) from nI_1 _]
                  show zX shC σ 14 MX4_readRule 191 [(3, zi (V ((rCnd K V nx).2.1 + 1))), (2, zi (K (rCnd K V nx).2.1)), (1, zi ((μ 9 nx) - 256)), (0, zr 7)] [zi (nI ((rCnd K V nx).2.1 + 1 + 1)), zr 7] (zp ν9 7 7 (nI ((rCnd K V nx).2.1 + 1))) _
                  refine zx_putI (nn := 194) fpX4_38 rfl rfl rfl rfl dX4_readRule_191 rfl ?_
                  refine zx_aload_n (k := 3) (nn := 195) dX4_readRule_194 rfl rfl rfl ?_
                  refine zx_getR (q := 9) (nn := 198) flX4_15 rfl rfl dX4_readRule_195 rfl ?_
                  refine zx_aload_n (k := 3) (nn := 199) dX4_readRule_198 rfl rfl rfl ?_
                  refine zx_getI (nn := 202) flX4_38 rfl rfl dX4_readRule_199 rfl ?_
                  show zX shC σ 14 MX4_readRule 202 [(3, zi (V ((rCnd K V nx).2.1 + 1))), (2, zi (K (rCnd K V nx).2.1)), (1, zi ((μ 9 nx) - 256)), (0, zr 7)] [zi (nI ((rCnd K V nx).2.1 + 1 + 1)), zr 9] (zp (zp ν9 7 7 (nI ((rCnd K V nx).2.1 + 1))) 7 7 (nI ((rCnd K V nx).2.1 + 1 + 1))) _
                  refine zx_iald_n (j := (rCnd K V nx).2.1 + 1 + 1) (nn := 203) rfl (by omega) (by decide) dX4_readRule_202 rfl ?_
                  show zX shC σ 14 MX4_readRule 203 [(3, zi (V ((rCnd K V nx).2.1 + 1))), (2, zi (K (rCnd K V nx).2.1)), (1, zi ((μ 9 nx) - 256)), (0, zr 7)] [zi (ν9 9 ((rCnd K V nx).2.1 + 1 + 1))] (zp (zp ν9 7 7 (nI ((rCnd K V nx).2.1 + 1))) 7 7 (nI ((rCnd K V nx).2.1 + 1 + 1))) _
                  rw [show ν9 9 ((rCnd K V nx).2.1 + 1 + 1) = K ((rCnd K V nx).2.1 + 1 + 1) from hSc.1 ((rCnd K V nx).2.1 + 1 + 1) (by omega)]
                  show zX shC σ 14 MX4_readRule 203 [(3, zi (V ((rCnd K V nx).2.1 + 1))), (2, zi (K (rCnd K V nx).2.1)), (1, zi ((μ 9 nx) - 256)), (0, zr 7)] [zi (K ((rCnd K V nx).2.1 + 1 + 1))] (zp (zp ν9 7 7 (nI ((rCnd K V nx).2.1 + 1))) 7 7 (nI ((rCnd K V nx).2.1 + 1 + 1))) _
                  refine zx_bipush (v := 59) (nn := 205) rfl dX4_readRule_203 rfl ?_
                  refine zx_icmp_eq (tgt := 210) (nn := 208) dX4_readRule_205 (by decide) rfl (fun h205 => ?_) (fun h205 => ?_)
                  · refine zx_aload_n (k := 3) (nn := 211) dX4_readRule_210 rfl rfl rfl ?_
                    refine zx_dupr (nn := 212) dX4_readRule_211 rfl ?_
                    refine zx_getI (nn := 215) flX4_38 rfl rfl dX4_readRule_212 rfl ?_
                    show zX shC σ 14 MX4_readRule 215 [(3, zi (V ((rCnd K V nx).2.1 + 1))), (2, zi (K (rCnd K V nx).2.1)), (1, zi ((μ 9 nx) - 256)), (0, zr 7)] [zi (nI ((rCnd K V nx).2.1 + 1 + 1)), zr 7] (zp (zp ν9 7 7 (nI ((rCnd K V nx).2.1 + 1))) 7 7 (nI ((rCnd K V nx).2.1 + 1 + 1))) _
                    refine zx_iconst (v := 1) (nn := 216) rfl dX4_readRule_215 rfl ?_
                    refine zx_iadd (nn := 217) dX4_readRule_216 rfl ?_
                    rw [show (nI ((rCnd K V nx).2.1 + 1 + 1)) + 1 = nI ((rCnd K V nx).2.1 + 1 + 1 + 1) from nI_1 _]
                    show zX shC σ 14 MX4_readRule 217 [(3, zi (V ((rCnd K V nx).2.1 + 1))), (2, zi (K (rCnd K V nx).2.1)), (1, zi ((μ 9 nx) - 256)), (0, zr 7)] [zi (nI ((rCnd K V nx).2.1 + 1 + 1 + 1)), zr 7] (zp (zp ν9 7 7 (nI ((rCnd K V nx).2.1 + 1))) 7 7 (nI ((rCnd K V nx).2.1 + 1 + 1))) _
                    refine zx_putI (nn := 220) fpX4_38 rfl rfl rfl rfl dX4_readRule_217 rfl ?_
                    refine zx_aload_n (k := 3) (nn := 221) dX4_readRule_220 rfl rfl rfl ?_
                    refine zx_getR (q := 12) (nn := 224) flX4_27 rfl rfl dX4_readRule_221 rfl ?_
                    refine zx_iload_n (k := 2) (nn := 225) dX4_readRule_224 rfl rfl rfl ?_
                    refine zx_iload_n (k := 0) (nn := 226) dX4_readRule_225 rfl rfl rfl ?_
                    refine zx_callVf (nn := 229) (k := 12) (d' := 0) (as := [zi ((μ 9 nx) - 256), zi (V ((rCnd K V nx).2.1 + 1))]) (rest := []) (n := 2) (eX5_addRule_12 σ (zp (zp (zp ν9 7 7 (nI ((rCnd K V nx).2.1 + 1))) 7 7 (nI ((rCnd K V nx).2.1 + 1 + 1))) 7 7 (nI ((rCnd K V nx).2.1 + 1 + 1 + 1))) ((μ 9 nx) - 256) (V ((rCnd K V nx).2.1 + 1)) nr (by first | exact hnr1 | exact ((hEc.tr (rdE.nx.tr rdE.nx)).2.2 5 (by decide)).trans hnr | exact ((hEc.tr (rdE.nx.tr (rdE.nx.tr rdE.nx))).2.2 5 (by decide)).trans hnr) hnr8) kX5_addRule mlX4_56 rfl rfl rfl (by decide) rfl rfl (Nat.le_of_ble_eq_true rfl) dX4_readRule_226 rfl ?_
                    show zX shC σ 14 MX4_readRule 229 [(3, zi (V ((rCnd K V nx).2.1 + 1))), (2, zi (K (rCnd K V nx).2.1)), (1, zi ((μ 9 nx) - 256)), (0, zr 7)] [] (zp (zp (zp (zp (zp (zp (zp ν9 7 7 (nI ((rCnd K V nx).2.1 + 1))) 7 7 (nI ((rCnd K V nx).2.1 + 1 + 1))) 7 7 (nI ((rCnd K V nx).2.1 + 1 + 1 + 1))) 13 nr ((μ 9 nx) - 256)) 14 nr (V ((rCnd K V nx).2.1 + 1))) 15 nr ((zp (zp (zp ν9 7 7 (nI ((rCnd K V nx).2.1 + 1))) 7 7 (nI ((rCnd K V nx).2.1 + 1 + 1))) 7 7 (nI ((rCnd K V nx).2.1 + 1 + 1 + 1))) 12 6)) 12 5 (nI (nr + 1))) _
                    refine zx_iconst (v := 1) (nn := 230) rfl dX4_readRule_229 rfl ?_
                    refine zx_zret rfl rfl dX4_readRule_230 ?_
                    have hE : rRule K V nx = (true, (rCnd K V nx).2.1 + 1 + 1 + 1, (K nx - 256, (K (rCnd K V nx).2.1), V ((rCnd K V nx).2.1 + 1)), (rCnd K V nx).2.2.1, (rCnd K V nx).2.2.2) := by unfold rRule; rw [if_pos hkd, if_pos hc1, if_pos hdd, if_neg hd65, if_pos ⟨h135, h149⟩]; unfold rFin; rw [if_pos h205]
                    rw [hE]
                    have hE9 : rdE μ (zp (zp (zp ν9 7 7 (nI ((rCnd K V nx).2.1 + 1))) 7 7 (nI ((rCnd K V nx).2.1 + 1 + 1))) 7 7 (nI ((rCnd K V nx).2.1 + 1 + 1 + 1))) := ((hEc.tr rdE.nx).tr rdE.nx).tr rdE.nx
                    have hS9 : rdS K V c (zp (zp (zp ν9 7 7 (nI ((rCnd K V nx).2.1 + 1))) 7 7 (nI ((rCnd K V nx).2.1 + 1 + 1))) 7 7 (nI ((rCnd K V nx).2.1 + 1 + 1 + 1))) ((rCnd K V nx).2.1 + 1 + 1 + 1) (cc + (rCnd K V nx).2.2.1.length) := ((hSc.nx hnd).nx (by rw [h135]; decide)).nx (by rw [h205]; decide)
                    have hC9 : rdC μ (zp (zp (zp ν9 7 7 (nI ((rCnd K V nx).2.1 + 1))) 7 7 (nI ((rCnd K V nx).2.1 + 1 + 1))) 7 7 (nI ((rCnd K V nx).2.1 + 1 + 1 + 1))) cc (rCnd K V nx).2.2.1 := hCc.nx.nx.nx
                    obtain ⟨s1, s2, s3, s4, s5⟩ := hS9
                    refine ⟨rfl, ⟨(hE9.R.1.tr ((((zJ.rf.p (by decide)).p (by decide)).p (by decide)).p (by decide))), fun i hi => ?_⟩, ?_, fun _ => ⟨⟨fun k hk => ?_, fun k hk => ?_, s3, ⟨?_, s4.2⟩, ?_, s5.2⟩, ⟨fun j hj => ?_, fun j hj => ?_⟩, ?_, fun j hj => ⟨?_, ?_, ?_⟩, ?_, ?_, ?_, fun j hj => ?_⟩, fun h => by cases h⟩
                    · rw [zp_ne (by decide), zp_ne (by decide), zp_ne (by decide), zp_ne (by decide)]; exact hE9.2.1 i hi
                    · rw [zp_ne (by decide), zp_ne (by decide), zp_ne (by decide), zp_ne (by decide)]; exact s4.1
                    · rw [zp_ne (by decide), zp_ne (by decide), zp_ne (by decide), zp_ne (by decide)]; exact s1 k hk
                    · rw [zp_ne (by decide), zp_ne (by decide), zp_ne (by decide), zp_ne (by decide)]; exact s2 k hk
                    · rw [zp_ne (by decide), zp_ne (by decide), zp_ne (by decide), zp_ne (by decide)]; exact s4.1
                    · rw [zp_eq, pk_un (by decide), zp_ne (by decide), zp_ne (by decide), zp_ne (by decide)]; exact s5.1
                    · rw [zp_ne (by decide), zp_ne (by decide), zp_ne (by decide), zp_ne (by decide)]; exact hC9.1 j hj
                    · rw [zp_ne (by decide), zp_ne (by decide), zp_ne (by decide), zp_ne (by decide)]; exact hC9.2 j hj
                    · rw [zp_eq]; exact pk_us
                    · rw [zp_ne (by decide), zp_ne (by decide), zp_ne (by decide), zp_eq, pk_un (by omega), hE9.1 13 (by decide)]
                    · rw [zp_ne (by decide), zp_ne (by decide), zp_eq, pk_un (by omega), zp_ne (by decide), hE9.1 14 (by decide)]
                    · rw [zp_ne (by decide), zp_eq, pk_un (by omega), zp_ne (by decide), zp_ne (by decide), hE9.1 15 (by decide)]
                    · rw [zp_ne (by decide), zp_ne (by decide), zp_ne (by decide), zp_eq, pk_us, hk]
                    · rw [zp_ne (by decide), zp_ne (by decide), zp_eq, pk_us]; refine Eq.symm ?_; show (if (K (rCnd K V nx).2.1) = 265 then (1000 : Int32) else if (K (rCnd K V nx).2.1) = 263 then V ((rCnd K V nx).2.1 + 1) else -(V ((rCnd K V nx).2.1 + 1))) = _; rw [if_neg hd65, if_pos h158]
                    · rw [zp_ne (by decide), zp_eq, pk_us]; exact s5.1
                    · rw [zp_ne (by decide), zp_eq, pk_un (by omega), zp_ne (by decide), zp_ne (by decide), hE9.1 15 (by decide)]
                  · refine zx_iconst (v := 0) (nn := 209) rfl dX4_readRule_208 rfl ?_
                    refine zx_zret rfl rfl dX4_readRule_209 ?_
                    have hE : rRule K V nx = (false, (rCnd K V nx).2.1 + 1 + 1, pRl0) := by unfold rRule; rw [if_pos hkd, if_pos hc1, if_pos hdd, if_neg hd65, if_pos ⟨h135, h149⟩]; unfold rFin; rw [if_neg h205]
                    rw [hE]
                    exact ⟨rfl, ((hEc.tr rdE.nx).tr rdE.nx).R, by rw [zp_eq]; exact pk_us, (fun h => by cases h), fun _ => (((hEc.tr rdE.nx).tr rdE.nx)).1 15 (by decide)⟩
              · refine zx_iconst (v := 0) (nn := 153) rfl dX4_readRule_152 rfl ?_
                refine zx_zret rfl rfl dX4_readRule_153 ?_
                have hE : rRule K V nx = (false, (rCnd K V nx).2.1 + 1, pRl0) := by unfold rRule; rw [if_pos hkd, if_pos hc1, if_pos hdd, if_neg hd65, if_neg (fun q => h149 q.2)]
                rw [hE]
                exact ⟨rfl, (hEc.tr rdE.nx).R, by rw [zp_eq]; exact pk_us, (fun h => by cases h), fun _ => ((hEc.tr rdE.nx)).1 15 (by decide)⟩
        · refine zx_iload_n (k := 0) (nn := 88) dX4_readRule_87 rfl rfl rfl ?_
          refine zx_sipush (v := 264) (nn := 91) rfl dX4_readRule_88 rfl ?_
          refine zx_icmp_eq (tgt := 103) (nn := 94) dX4_readRule_91 (by decide) rfl (fun h91 => ?_) (fun h91 => ?_)
          · have hdd : (K (rCnd K V nx).2.1) = 263 ∨ (K (rCnd K V nx).2.1) = 264 ∨ (K (rCnd K V nx).2.1) = 265 := Or.inr (Or.inl h91)
            have hnd : (K (rCnd K V nx).2.1) ≠ -1 := fun e => by rw [e] at hdd; exact absurd hdd (by decide)
            have hncd : (rCnd K V nx).2.1 ≠ c := fun e => hnd (by rw [e]; exact hS.2.2.1.1)
            refine zx_aload_n (k := 2) (nn := 104) dX4_readRule_103 rfl rfl rfl ?_
            refine zx_dupr (nn := 105) dX4_readRule_104 rfl ?_
            refine zx_getI (nn := 108) flX4_38 rfl rfl dX4_readRule_105 rfl ?_
            rw [show ν9 7 7 = nI ((rCnd K V nx).2.1) from hSc.2.2.2.1.1]
            show zX shC σ 14 MX4_readRule 108 [(2, zi (K (rCnd K V nx).2.1)), (1, zi ((μ 9 nx) - 256)), (0, zr 7)] [zi (nI ((rCnd K V nx).2.1)), zr 7] ν9 _
            refine zx_iconst (v := 1) (nn := 109) rfl dX4_readRule_108 rfl ?_
            refine zx_iadd (nn := 110) dX4_readRule_109 rfl ?_
            rw [show (nI ((rCnd K V nx).2.1)) + 1 = nI ((rCnd K V nx).2.1 + 1) from nI_1 _]
            show zX shC σ 14 MX4_readRule 110 [(2, zi (K (rCnd K V nx).2.1)), (1, zi ((μ 9 nx) - 256)), (0, zr 7)] [zi (nI ((rCnd K V nx).2.1 + 1)), zr 7] ν9 _
            refine zx_putI (nn := 113) fpX4_38 rfl rfl rfl rfl dX4_readRule_110 rfl ?_
            refine zx_sipush (v := 1000) (nn := 116) rfl dX4_readRule_113 rfl ?_
            refine zx_istore_n (nn := 117) (lv' := [(3, zi 1000), (2, zi (K (rCnd K V nx).2.1)), (1, zi ((μ 9 nx) - 256)), (0, zr 7)]) dX4_readRule_116 rfl (by decide) rfl rfl ?_
            refine zx_iload_n (k := 1) (nn := 118) dX4_readRule_117 rfl rfl rfl ?_
            refine zx_sipush (v := 265) (nn := 121) rfl dX4_readRule_118 rfl ?_
            refine zx_icmp_eq (tgt := 194) (nn := 124) dX4_readRule_121 (by decide) rfl (fun h121 => ?_) (fun h121 => ?_)
            · refine zx_aload_n (k := 3) (nn := 195) dX4_readRule_194 rfl rfl rfl ?_
              refine zx_getR (q := 9) (nn := 198) flX4_15 rfl rfl dX4_readRule_195 rfl ?_
              refine zx_aload_n (k := 3) (nn := 199) dX4_readRule_198 rfl rfl rfl ?_
              refine zx_getI (nn := 202) flX4_38 rfl rfl dX4_readRule_199 rfl ?_
              show zX shC σ 14 MX4_readRule 202 [(3, zi 1000), (2, zi (K (rCnd K V nx).2.1)), (1, zi ((μ 9 nx) - 256)), (0, zr 7)] [zi (nI ((rCnd K V nx).2.1 + 1)), zr 9] (zp ν9 7 7 (nI ((rCnd K V nx).2.1 + 1))) _
              refine zx_iald_n (j := (rCnd K V nx).2.1 + 1) (nn := 203) rfl (by omega) (by decide) dX4_readRule_202 rfl ?_
              show zX shC σ 14 MX4_readRule 203 [(3, zi 1000), (2, zi (K (rCnd K V nx).2.1)), (1, zi ((μ 9 nx) - 256)), (0, zr 7)] [zi (ν9 9 ((rCnd K V nx).2.1 + 1))] (zp ν9 7 7 (nI ((rCnd K V nx).2.1 + 1))) _
              rw [show ν9 9 ((rCnd K V nx).2.1 + 1) = K ((rCnd K V nx).2.1 + 1) from hSc.1 ((rCnd K V nx).2.1 + 1) (by omega)]
              show zX shC σ 14 MX4_readRule 203 [(3, zi 1000), (2, zi (K (rCnd K V nx).2.1)), (1, zi ((μ 9 nx) - 256)), (0, zr 7)] [zi (K ((rCnd K V nx).2.1 + 1))] (zp ν9 7 7 (nI ((rCnd K V nx).2.1 + 1))) _
              refine zx_bipush (v := 59) (nn := 205) rfl dX4_readRule_203 rfl ?_
              refine zx_icmp_eq (tgt := 210) (nn := 208) dX4_readRule_205 (by decide) rfl (fun h205 => ?_) (fun h205 => ?_)
              · refine zx_aload_n (k := 3) (nn := 211) dX4_readRule_210 rfl rfl rfl ?_
                refine zx_dupr (nn := 212) dX4_readRule_211 rfl ?_
                refine zx_getI (nn := 215) flX4_38 rfl rfl dX4_readRule_212 rfl ?_
                show zX shC σ 14 MX4_readRule 215 [(3, zi 1000), (2, zi (K (rCnd K V nx).2.1)), (1, zi ((μ 9 nx) - 256)), (0, zr 7)] [zi (nI ((rCnd K V nx).2.1 + 1)), zr 7] (zp ν9 7 7 (nI ((rCnd K V nx).2.1 + 1))) _
                refine zx_iconst (v := 1) (nn := 216) rfl dX4_readRule_215 rfl ?_
                refine zx_iadd (nn := 217) dX4_readRule_216 rfl ?_
                rw [show (nI ((rCnd K V nx).2.1 + 1)) + 1 = nI ((rCnd K V nx).2.1 + 1 + 1) from nI_1 _]
                show zX shC σ 14 MX4_readRule 217 [(3, zi 1000), (2, zi (K (rCnd K V nx).2.1)), (1, zi ((μ 9 nx) - 256)), (0, zr 7)] [zi (nI ((rCnd K V nx).2.1 + 1 + 1)), zr 7] (zp ν9 7 7 (nI ((rCnd K V nx).2.1 + 1))) _
                refine zx_putI (nn := 220) fpX4_38 rfl rfl rfl rfl dX4_readRule_217 rfl ?_
                refine zx_aload_n (k := 3) (nn := 221) dX4_readRule_220 rfl rfl rfl ?_
                refine zx_getR (q := 12) (nn := 224) flX4_27 rfl rfl dX4_readRule_221 rfl ?_
                refine zx_iload_n (k := 2) (nn := 225) dX4_readRule_224 rfl rfl rfl ?_
                refine zx_iload_n (k := 0) (nn := 226) dX4_readRule_225 rfl rfl rfl ?_
                refine zx_callVf (nn := 229) (k := 12) (d' := 0) (as := [zi ((μ 9 nx) - 256), zi 1000]) (rest := []) (n := 2) (eX5_addRule_12 σ (zp (zp ν9 7 7 (nI ((rCnd K V nx).2.1 + 1))) 7 7 (nI ((rCnd K V nx).2.1 + 1 + 1))) ((μ 9 nx) - 256) 1000 nr (by first | exact hnr1 | exact ((hEc.tr (rdE.nx.tr rdE.nx)).2.2 5 (by decide)).trans hnr | exact ((hEc.tr (rdE.nx.tr (rdE.nx.tr rdE.nx))).2.2 5 (by decide)).trans hnr) hnr8) kX5_addRule mlX4_56 rfl rfl rfl (by decide) rfl rfl (Nat.le_of_ble_eq_true rfl) dX4_readRule_226 rfl ?_
                show zX shC σ 14 MX4_readRule 229 [(3, zi 1000), (2, zi (K (rCnd K V nx).2.1)), (1, zi ((μ 9 nx) - 256)), (0, zr 7)] [] (zp (zp (zp (zp (zp (zp ν9 7 7 (nI ((rCnd K V nx).2.1 + 1))) 7 7 (nI ((rCnd K V nx).2.1 + 1 + 1))) 13 nr ((μ 9 nx) - 256)) 14 nr 1000) 15 nr ((zp (zp ν9 7 7 (nI ((rCnd K V nx).2.1 + 1))) 7 7 (nI ((rCnd K V nx).2.1 + 1 + 1))) 12 6)) 12 5 (nI (nr + 1))) _
                refine zx_iconst (v := 1) (nn := 230) rfl dX4_readRule_229 rfl ?_
                refine zx_zret rfl rfl dX4_readRule_230 ?_
                have hE : rRule K V nx = (true, (rCnd K V nx).2.1 + 1 + 1, (K nx - 256, 265, 0), (rCnd K V nx).2.2.1, (rCnd K V nx).2.2.2) := by unfold rRule; rw [if_pos hkd, if_pos hc1, if_pos hdd, if_pos h121]; unfold rFin; rw [if_pos h205]
                rw [hE]
                have hE9 : rdE μ (zp (zp ν9 7 7 (nI ((rCnd K V nx).2.1 + 1))) 7 7 (nI ((rCnd K V nx).2.1 + 1 + 1))) := (hEc.tr rdE.nx).tr rdE.nx
                have hS9 : rdS K V c (zp (zp ν9 7 7 (nI ((rCnd K V nx).2.1 + 1))) 7 7 (nI ((rCnd K V nx).2.1 + 1 + 1))) ((rCnd K V nx).2.1 + 1 + 1) (cc + (rCnd K V nx).2.2.1.length) := (hSc.nx hnd).nx (by rw [h205]; decide)
                have hC9 : rdC μ (zp (zp ν9 7 7 (nI ((rCnd K V nx).2.1 + 1))) 7 7 (nI ((rCnd K V nx).2.1 + 1 + 1))) cc (rCnd K V nx).2.2.1 := hCc.nx.nx
                obtain ⟨s1, s2, s3, s4, s5⟩ := hS9
                refine ⟨rfl, ⟨(hE9.R.1.tr ((((zJ.rf.p (by decide)).p (by decide)).p (by decide)).p (by decide))), fun i hi => ?_⟩, ?_, fun _ => ⟨⟨fun k hk => ?_, fun k hk => ?_, s3, ⟨?_, s4.2⟩, ?_, s5.2⟩, ⟨fun j hj => ?_, fun j hj => ?_⟩, ?_, fun j hj => ⟨?_, ?_, ?_⟩, ?_, ?_, ?_, fun j hj => ?_⟩, fun h => by cases h⟩
                · rw [zp_ne (by decide), zp_ne (by decide), zp_ne (by decide), zp_ne (by decide)]; exact hE9.2.1 i hi
                · rw [zp_ne (by decide), zp_ne (by decide), zp_ne (by decide), zp_ne (by decide)]; exact s4.1
                · rw [zp_ne (by decide), zp_ne (by decide), zp_ne (by decide), zp_ne (by decide)]; exact s1 k hk
                · rw [zp_ne (by decide), zp_ne (by decide), zp_ne (by decide), zp_ne (by decide)]; exact s2 k hk
                · rw [zp_ne (by decide), zp_ne (by decide), zp_ne (by decide), zp_ne (by decide)]; exact s4.1
                · rw [zp_eq, pk_un (by decide), zp_ne (by decide), zp_ne (by decide), zp_ne (by decide)]; exact s5.1
                · rw [zp_ne (by decide), zp_ne (by decide), zp_ne (by decide), zp_ne (by decide)]; exact hC9.1 j hj
                · rw [zp_ne (by decide), zp_ne (by decide), zp_ne (by decide), zp_ne (by decide)]; exact hC9.2 j hj
                · rw [zp_eq]; exact pk_us
                · rw [zp_ne (by decide), zp_ne (by decide), zp_ne (by decide), zp_eq, pk_un (by omega), hE9.1 13 (by decide)]
                · rw [zp_ne (by decide), zp_ne (by decide), zp_eq, pk_un (by omega), zp_ne (by decide), hE9.1 14 (by decide)]
                · rw [zp_ne (by decide), zp_eq, pk_un (by omega), zp_ne (by decide), zp_ne (by decide), hE9.1 15 (by decide)]
                · rw [zp_ne (by decide), zp_ne (by decide), zp_ne (by decide), zp_eq, pk_us, hk]
                · rw [zp_ne (by decide), zp_ne (by decide), zp_eq, pk_us]; refine Eq.symm ?_; rfl
                · rw [zp_ne (by decide), zp_eq, pk_us]; exact s5.1
                · rw [zp_ne (by decide), zp_eq, pk_un (by omega), zp_ne (by decide), zp_ne (by decide), hE9.1 15 (by decide)]
              · refine zx_iconst (v := 0) (nn := 209) rfl dX4_readRule_208 rfl ?_
                refine zx_zret rfl rfl dX4_readRule_209 ?_
                have hE : rRule K V nx = (false, (rCnd K V nx).2.1 + 1, pRl0) := by unfold rRule; rw [if_pos hkd, if_pos hc1, if_pos hdd, if_pos h121]; unfold rFin; rw [if_neg h205]
                rw [hE]
                exact ⟨rfl, (hEc.tr rdE.nx).R, by rw [zp_eq]; exact pk_us, (fun h => by cases h), fun _ => ((hEc.tr rdE.nx)).1 15 (by decide)⟩
            · have hd65 : ¬ (K (rCnd K V nx).2.1) = 265 := h121
              refine zx_aload_n (k := 3) (nn := 125) dX4_readRule_124 rfl rfl rfl ?_
              refine zx_getR (q := 9) (nn := 128) flX4_15 rfl rfl dX4_readRule_125 rfl ?_
              refine zx_aload_n (k := 3) (nn := 129) dX4_readRule_128 rfl rfl rfl ?_
              refine zx_getI (nn := 132) flX4_38 rfl rfl dX4_readRule_129 rfl ?_
              show zX shC σ 14 MX4_readRule 132 [(3, zi 1000), (2, zi (K (rCnd K V nx).2.1)), (1, zi ((μ 9 nx) - 256)), (0, zr 7)] [zi (nI ((rCnd K V nx).2.1 + 1)), zr 9] (zp ν9 7 7 (nI ((rCnd K V nx).2.1 + 1))) _
              refine zx_iald_n (j := (rCnd K V nx).2.1 + 1) (nn := 133) rfl (by omega) (by decide) dX4_readRule_132 rfl ?_
              show zX shC σ 14 MX4_readRule 133 [(3, zi 1000), (2, zi (K (rCnd K V nx).2.1)), (1, zi ((μ 9 nx) - 256)), (0, zr 7)] [zi (ν9 9 ((rCnd K V nx).2.1 + 1))] (zp ν9 7 7 (nI ((rCnd K V nx).2.1 + 1))) _
              rw [show ν9 9 ((rCnd K V nx).2.1 + 1) = K ((rCnd K V nx).2.1 + 1) from hSc.1 ((rCnd K V nx).2.1 + 1) (by omega)]
              show zX shC σ 14 MX4_readRule 133 [(3, zi 1000), (2, zi (K (rCnd K V nx).2.1)), (1, zi ((μ 9 nx) - 256)), (0, zr 7)] [zi (K ((rCnd K V nx).2.1 + 1))] (zp ν9 7 7 (nI ((rCnd K V nx).2.1 + 1))) _
              refine zx_bipush (v := -2) (nn := 135) rfl dX4_readRule_133 rfl ?_
              refine zx_icmp_ne (tgt := 152) (nn := 138) dX4_readRule_135 (by decide) rfl (fun h135 => ?_) (fun h135 => ?_)
              · refine zx_iconst (v := 0) (nn := 153) rfl dX4_readRule_152 rfl ?_
                refine zx_zret rfl rfl dX4_readRule_153 ?_
                have hE : rRule K V nx = (false, (rCnd K V nx).2.1 + 1, pRl0) := by unfold rRule; rw [if_pos hkd, if_pos hc1, if_pos hdd, if_neg hd65, if_neg (fun q => h135 q.1)]
                rw [hE]
                exact ⟨rfl, (hEc.tr rdE.nx).R, by rw [zp_eq]; exact pk_us, (fun h => by cases h), fun _ => ((hEc.tr rdE.nx)).1 15 (by decide)⟩
              · have hnc3 : (rCnd K V nx).2.1 + 1 ≠ c := fun e => by rw [e, hS.2.2.1.1] at h135; exact absurd h135 (by decide)
                refine zx_aload_n (k := 3) (nn := 139) dX4_readRule_138 rfl rfl rfl ?_
                refine zx_getR (q := 10) (nn := 142) flX4_18 rfl rfl dX4_readRule_139 rfl ?_
                refine zx_aload_n (k := 3) (nn := 143) dX4_readRule_142 rfl rfl rfl ?_
                refine zx_getI (nn := 146) flX4_38 rfl rfl dX4_readRule_143 rfl ?_
                show zX shC σ 14 MX4_readRule 146 [(3, zi 1000), (2, zi (K (rCnd K V nx).2.1)), (1, zi ((μ 9 nx) - 256)), (0, zr 7)] [zi (nI ((rCnd K V nx).2.1 + 1)), zr 10] (zp ν9 7 7 (nI ((rCnd K V nx).2.1 + 1))) _
                refine zx_iald_n (j := (rCnd K V nx).2.1 + 1) (nn := 147) rfl (by omega) (by decide) dX4_readRule_146 rfl ?_
                show zX shC σ 14 MX4_readRule 147 [(3, zi 1000), (2, zi (K (rCnd K V nx).2.1)), (1, zi ((μ 9 nx) - 256)), (0, zr 7)] [zi (ν9 10 ((rCnd K V nx).2.1 + 1))] (zp ν9 7 7 (nI ((rCnd K V nx).2.1 + 1))) _
                rw [show ν9 10 ((rCnd K V nx).2.1 + 1) = V ((rCnd K V nx).2.1 + 1) from hSc.2.1 ((rCnd K V nx).2.1 + 1) (by omega)]
                show zX shC σ 14 MX4_readRule 147 [(3, zi 1000), (2, zi (K (rCnd K V nx).2.1)), (1, zi ((μ 9 nx) - 256)), (0, zr 7)] [zi (V ((rCnd K V nx).2.1 + 1))] (zp ν9 7 7 (nI ((rCnd K V nx).2.1 + 1))) _
                refine zx_bipush (v := 99) (nn := 149) rfl dX4_readRule_147 rfl ?_
                refine zx_icmp_le (tgt := 154) (nn := 152) dX4_readRule_149 (by decide) rfl (fun h149 => ?_) (fun h149 => ?_)
                · refine zx_iload_n (k := 1) (nn := 155) dX4_readRule_154 rfl rfl rfl ?_
                  refine zx_sipush (v := 263) (nn := 158) rfl dX4_readRule_155 rfl ?_
                  refine zx_icmp_ne (tgt := 173) (nn := 161) dX4_readRule_158 (by decide) rfl (fun h158 => ?_) (fun h158 => ?_)
                  · refine zx_aload_n (k := 3) (nn := 174) dX4_readRule_173 rfl rfl rfl ?_
                    refine zx_getR (q := 10) (nn := 177) flX4_18 rfl rfl dX4_readRule_174 rfl ?_
                    refine zx_aload_n (k := 3) (nn := 178) dX4_readRule_177 rfl rfl rfl ?_
                    refine zx_getI (nn := 181) flX4_38 rfl rfl dX4_readRule_178 rfl ?_
                    show zX shC σ 14 MX4_readRule 181 [(3, zi 1000), (2, zi (K (rCnd K V nx).2.1)), (1, zi ((μ 9 nx) - 256)), (0, zr 7)] [zi (nI ((rCnd K V nx).2.1 + 1)), zr 10] (zp ν9 7 7 (nI ((rCnd K V nx).2.1 + 1))) _
                    refine zx_iald_n (j := (rCnd K V nx).2.1 + 1) (nn := 182) rfl (by omega) (by decide) dX4_readRule_181 rfl ?_
                    show zX shC σ 14 MX4_readRule 182 [(3, zi 1000), (2, zi (K (rCnd K V nx).2.1)), (1, zi ((μ 9 nx) - 256)), (0, zr 7)] [zi (ν9 10 ((rCnd K V nx).2.1 + 1))] (zp ν9 7 7 (nI ((rCnd K V nx).2.1 + 1))) _
                    rw [show ν9 10 ((rCnd K V nx).2.1 + 1) = V ((rCnd K V nx).2.1 + 1) from hSc.2.1 ((rCnd K V nx).2.1 + 1) (by omega)]
                    show zX shC σ 14 MX4_readRule 182 [(3, zi 1000), (2, zi (K (rCnd K V nx).2.1)), (1, zi ((μ 9 nx) - 256)), (0, zr 7)] [zi (V ((rCnd K V nx).2.1 + 1))] (zp ν9 7 7 (nI ((rCnd K V nx).2.1 + 1))) _
                    refine zx_ineg (nn := 183) dX4_readRule_182 rfl ?_
                    refine zx_istore_n (nn := 184) (lv' := [(3, zi (-(V ((rCnd K V nx).2.1 + 1)))), (2, zi (K (rCnd K V nx).2.1)), (1, zi ((μ 9 nx) - 256)), (0, zr 7)]) dX4_readRule_183 rfl (by decide) rfl rfl ?_
                    refine zx_aload_n (k := 3) (nn := 185) dX4_readRule_184 rfl rfl rfl ?_
                    refine zx_dupr (nn := 186) dX4_readRule_185 rfl ?_
                    refine zx_getI (nn := 189) flX4_38 rfl rfl dX4_readRule_186 rfl ?_
                    show zX shC σ 14 MX4_readRule 189 [(3, zi (-(V ((rCnd K V nx).2.1 + 1)))), (2, zi (K (rCnd K V nx).2.1)), (1, zi ((μ 9 nx) - 256)), (0, zr 7)] [zi (nI ((rCnd K V nx).2.1 + 1)), zr 7] (zp ν9 7 7 (nI ((rCnd K V nx).2.1 + 1))) _
                    refine zx_iconst (v := 1) (nn := 190) rfl dX4_readRule_189 rfl ?_
                    refine zx_iadd (nn := 191) dX4_readRule_190 rfl ?_
                    rw [show (nI ((rCnd K V nx).2.1 + 1)) + 1 = nI ((rCnd K V nx).2.1 + 1 + 1) from nI_1 _]
                    show zX shC σ 14 MX4_readRule 191 [(3, zi (-(V ((rCnd K V nx).2.1 + 1)))), (2, zi (K (rCnd K V nx).2.1)), (1, zi ((μ 9 nx) - 256)), (0, zr 7)] [zi (nI ((rCnd K V nx).2.1 + 1 + 1)), zr 7] (zp ν9 7 7 (nI ((rCnd K V nx).2.1 + 1))) _
                    refine zx_putI (nn := 194) fpX4_38 rfl rfl rfl rfl dX4_readRule_191 rfl ?_
                    refine zx_aload_n (k := 3) (nn := 195) dX4_readRule_194 rfl rfl rfl ?_
                    refine zx_getR (q := 9) (nn := 198) flX4_15 rfl rfl dX4_readRule_195 rfl ?_
                    refine zx_aload_n (k := 3) (nn := 199) dX4_readRule_198 rfl rfl rfl ?_
                    refine zx_getI (nn := 202) flX4_38 rfl rfl dX4_readRule_199 rfl ?_
                    show zX shC σ 14 MX4_readRule 202 [(3, zi (-(V ((rCnd K V nx).2.1 + 1)))), (2, zi (K (rCnd K V nx).2.1)), (1, zi ((μ 9 nx) - 256)), (0, zr 7)] [zi (nI ((rCnd K V nx).2.1 + 1 + 1)), zr 9] (zp (zp ν9 7 7 (nI ((rCnd K V nx).2.1 + 1))) 7 7 (nI ((rCnd K V nx).2.1 + 1 + 1))) _
                    refine zx_iald_n (j := (rCnd K V nx).2.1 + 1 + 1) (nn := 203) rfl (by omega) (by decide) dX4_readRule_202 rfl ?_
                    show zX shC σ 14 MX4_readRule 203 [(3, zi (-(V ((rCnd K V nx).2.1 + 1)))), (2, zi (K (rCnd K V nx).2.1)), (1, zi ((μ 9 nx) - 256)), (0, zr 7)] [zi (ν9 9 ((rCnd K V nx).2.1 + 1 + 1))] (zp (zp ν9 7 7 (nI ((rCnd K V nx).2.1 + 1))) 7 7 (nI ((rCnd K V nx).2.1 + 1 + 1))) _
                    rw [show ν9 9 ((rCnd K V nx).2.1 + 1 + 1) = K ((rCnd K V nx).2.1 + 1 + 1) from hSc.1 ((rCnd K V nx).2.1 + 1 + 1) (by omega)]
                    show zX shC σ 14 MX4_readRule 203 [(3, zi (-(V ((rCnd K V nx).2.1 + 1)))), (2, zi (K (rCnd K V nx).2.1)), (1, zi ((μ 9 nx) - 256)), (0, zr 7)] [zi (K ((rCnd K V nx).2.1 + 1 + 1))] (zp (zp ν9 7 7 (nI ((rCnd K V nx).2.1 + 1))) 7 7 (nI ((rCnd K V nx).2.1 + 1 + 1))) _
                    refine zx_bipush (v := 59) (nn := 205) rfl dX4_readRule_203 rfl ?_
                    refine zx_icmp_eq (tgt := 210) (nn := 208) dX4_readRule_205 (by decide) rfl (fun h205 => ?_) (fun h205 => ?_)
                    · refine zx_aload_n (k := 3) (nn := 211) dX4_readRule_210 rfl rfl rfl ?_
                      refine zx_dupr (nn := 212) dX4_readRule_211 rfl ?_
                      refine zx_getI (nn := 215) flX4_38 rfl rfl dX4_readRule_212 rfl ?_
                      show zX shC σ 14 MX4_readRule 215 [(3, zi (-(V ((rCnd K V nx).2.1 + 1)))), (2, zi (K (rCnd K V nx).2.1)), (1, zi ((μ 9 nx) - 256)), (0, zr 7)] [zi (nI ((rCnd K V nx).2.1 + 1 + 1)), zr 7] (zp (zp ν9 7 7 (nI ((rCnd K V nx).2.1 + 1))) 7 7 (nI ((rCnd K V nx).2.1 + 1 + 1))) _
                      refine zx_iconst (v := 1) (nn := 216) rfl dX4_readRule_215 rfl ?_
                      refine zx_iadd (nn := 217) dX4_readRule_216 rfl ?_
                      rw [show (nI ((rCnd K V nx).2.1 + 1 + 1)) + 1 = nI ((rCnd K V nx).2.1 + 1 + 1 + 1) from nI_1 _]
                      show zX shC σ 14 MX4_readRule 217 [(3, zi (-(V ((rCnd K V nx).2.1 + 1)))), (2, zi (K (rCnd K V nx).2.1)), (1, zi ((μ 9 nx) - 256)), (0, zr 7)] [zi (nI ((rCnd K V nx).2.1 + 1 + 1 + 1)), zr 7] (zp (zp ν9 7 7 (nI ((rCnd K V nx).2.1 + 1))) 7 7 (nI ((rCnd K V nx).2.1 + 1 + 1))) _
                      refine zx_putI (nn := 220) fpX4_38 rfl rfl rfl rfl dX4_readRule_217 rfl ?_
                      refine zx_aload_n (k := 3) (nn := 221) dX4_readRule_220 rfl rfl rfl ?_
                      refine zx_getR (q := 12) (nn := 224) flX4_27 rfl rfl dX4_readRule_221 rfl ?_
                      refine zx_iload_n (k := 2) (nn := 225) dX4_readRule_224 rfl rfl rfl ?_
                      refine zx_iload_n (k := 0) (nn := 226) dX4_readRule_225 rfl rfl rfl ?_
                      refine zx_callVf (nn := 229) (k := 12) (d' := 0) (as := [zi ((μ 9 nx) - 256), zi (-(V ((rCnd K V nx).2.1 + 1)))]) (rest := []) (n := 2) (eX5_addRule_12 σ (zp (zp (zp ν9 7 7 (nI ((rCnd K V nx).2.1 + 1))) 7 7 (nI ((rCnd K V nx).2.1 + 1 + 1))) 7 7 (nI ((rCnd K V nx).2.1 + 1 + 1 + 1))) ((μ 9 nx) - 256) (-(V ((rCnd K V nx).2.1 + 1))) nr (by first | exact hnr1 | exact ((hEc.tr (rdE.nx.tr rdE.nx)).2.2 5 (by decide)).trans hnr | exact ((hEc.tr (rdE.nx.tr (rdE.nx.tr rdE.nx))).2.2 5 (by decide)).trans hnr) hnr8) kX5_addRule mlX4_56 rfl rfl rfl (by decide) rfl rfl (Nat.le_of_ble_eq_true rfl) dX4_readRule_226 rfl ?_
                      show zX shC σ 14 MX4_readRule 229 [(3, zi (-(V ((rCnd K V nx).2.1 + 1)))), (2, zi (K (rCnd K V nx).2.1)), (1, zi ((μ 9 nx) - 256)), (0, zr 7)] [] (zp (zp (zp (zp (zp (zp (zp ν9 7 7 (nI ((rCnd K V nx).2.1 + 1))) 7 7 (nI ((rCnd K V nx).2.1 + 1 + 1))) 7 7 (nI ((rCnd K V nx).2.1 + 1 + 1 + 1))) 13 nr ((μ 9 nx) - 256)) 14 nr (-(V ((rCnd K V nx).2.1 + 1)))) 15 nr ((zp (zp (zp ν9 7 7 (nI ((rCnd K V nx).2.1 + 1))) 7 7 (nI ((rCnd K V nx).2.1 + 1 + 1))) 7 7 (nI ((rCnd K V nx).2.1 + 1 + 1 + 1))) 12 6)) 12 5 (nI (nr + 1))) _
                      refine zx_iconst (v := 1) (nn := 230) rfl dX4_readRule_229 rfl ?_
                      refine zx_zret rfl rfl dX4_readRule_230 ?_
                      have hE : rRule K V nx = (true, (rCnd K V nx).2.1 + 1 + 1 + 1, (K nx - 256, (K (rCnd K V nx).2.1), V ((rCnd K V nx).2.1 + 1)), (rCnd K V nx).2.2.1, (rCnd K V nx).2.2.2) := by unfold rRule; rw [if_pos hkd, if_pos hc1, if_pos hdd, if_neg hd65, if_pos ⟨h135, h149⟩]; unfold rFin; rw [if_pos h205]
                      rw [hE]
                      have hE9 : rdE μ (zp (zp (zp ν9 7 7 (nI ((rCnd K V nx).2.1 + 1))) 7 7 (nI ((rCnd K V nx).2.1 + 1 + 1))) 7 7 (nI ((rCnd K V nx).2.1 + 1 + 1 + 1))) := ((hEc.tr rdE.nx).tr rdE.nx).tr rdE.nx
                      have hS9 : rdS K V c (zp (zp (zp ν9 7 7 (nI ((rCnd K V nx).2.1 + 1))) 7 7 (nI ((rCnd K V nx).2.1 + 1 + 1))) 7 7 (nI ((rCnd K V nx).2.1 + 1 + 1 + 1))) ((rCnd K V nx).2.1 + 1 + 1 + 1) (cc + (rCnd K V nx).2.2.1.length) := ((hSc.nx hnd).nx (by rw [h135]; decide)).nx (by rw [h205]; decide)
                      have hC9 : rdC μ (zp (zp (zp ν9 7 7 (nI ((rCnd K V nx).2.1 + 1))) 7 7 (nI ((rCnd K V nx).2.1 + 1 + 1))) 7 7 (nI ((rCnd K V nx).2.1 + 1 + 1 + 1))) cc (rCnd K V nx).2.2.1 := hCc.nx.nx.nx
                      obtain ⟨s1, s2, s3, s4, s5⟩ := hS9
                      refine ⟨rfl, ⟨(hE9.R.1.tr ((((zJ.rf.p (by decide)).p (by decide)).p (by decide)).p (by decide))), fun i hi => ?_⟩, ?_, fun _ => ⟨⟨fun k hk => ?_, fun k hk => ?_, s3, ⟨?_, s4.2⟩, ?_, s5.2⟩, ⟨fun j hj => ?_, fun j hj => ?_⟩, ?_, fun j hj => ⟨?_, ?_, ?_⟩, ?_, ?_, ?_, fun j hj => ?_⟩, fun h => by cases h⟩
                      · rw [zp_ne (by decide), zp_ne (by decide), zp_ne (by decide), zp_ne (by decide)]; exact hE9.2.1 i hi
                      · rw [zp_ne (by decide), zp_ne (by decide), zp_ne (by decide), zp_ne (by decide)]; exact s4.1
                      · rw [zp_ne (by decide), zp_ne (by decide), zp_ne (by decide), zp_ne (by decide)]; exact s1 k hk
                      · rw [zp_ne (by decide), zp_ne (by decide), zp_ne (by decide), zp_ne (by decide)]; exact s2 k hk
                      · rw [zp_ne (by decide), zp_ne (by decide), zp_ne (by decide), zp_ne (by decide)]; exact s4.1
                      · rw [zp_eq, pk_un (by decide), zp_ne (by decide), zp_ne (by decide), zp_ne (by decide)]; exact s5.1
                      · rw [zp_ne (by decide), zp_ne (by decide), zp_ne (by decide), zp_ne (by decide)]; exact hC9.1 j hj
                      · rw [zp_ne (by decide), zp_ne (by decide), zp_ne (by decide), zp_ne (by decide)]; exact hC9.2 j hj
                      · rw [zp_eq]; exact pk_us
                      · rw [zp_ne (by decide), zp_ne (by decide), zp_ne (by decide), zp_eq, pk_un (by omega), hE9.1 13 (by decide)]
                      · rw [zp_ne (by decide), zp_ne (by decide), zp_eq, pk_un (by omega), zp_ne (by decide), hE9.1 14 (by decide)]
                      · rw [zp_ne (by decide), zp_eq, pk_un (by omega), zp_ne (by decide), zp_ne (by decide), hE9.1 15 (by decide)]
                      · rw [zp_ne (by decide), zp_ne (by decide), zp_ne (by decide), zp_eq, pk_us, hk]
                      · rw [zp_ne (by decide), zp_ne (by decide), zp_eq, pk_us]; refine Eq.symm ?_; show (if (K (rCnd K V nx).2.1) = 265 then (1000 : Int32) else if (K (rCnd K V nx).2.1) = 263 then V ((rCnd K V nx).2.1 + 1) else -(V ((rCnd K V nx).2.1 + 1))) = _; rw [if_neg hd65, if_neg h158]
                      · rw [zp_ne (by decide), zp_eq, pk_us]; exact s5.1
                      · rw [zp_ne (by decide), zp_eq, pk_un (by omega), zp_ne (by decide), zp_ne (by decide), hE9.1 15 (by decide)]
                    · refine zx_iconst (v := 0) (nn := 209) rfl dX4_readRule_208 rfl ?_
                      refine zx_zret rfl rfl dX4_readRule_209 ?_
                      have hE : rRule K V nx = (false, (rCnd K V nx).2.1 + 1 + 1, pRl0) := by unfold rRule; rw [if_pos hkd, if_pos hc1, if_pos hdd, if_neg hd65, if_pos ⟨h135, h149⟩]; unfold rFin; rw [if_neg h205]
                      rw [hE]
                      exact ⟨rfl, ((hEc.tr rdE.nx).tr rdE.nx).R, by rw [zp_eq]; exact pk_us, (fun h => by cases h), fun _ => (((hEc.tr rdE.nx).tr rdE.nx)).1 15 (by decide)⟩
                  · refine zx_aload_n (k := 3) (nn := 162) dX4_readRule_161 rfl rfl rfl ?_
                    refine zx_getR (q := 10) (nn := 165) flX4_18 rfl rfl dX4_readRule_162 rfl ?_
                    refine zx_aload_n (k := 3) (nn := 166) dX4_readRule_165 rfl rfl rfl ?_
                    refine zx_getI (nn := 169) flX4_38 rfl rfl dX4_readRule_166 rfl ?_
                    show zX shC σ 14 MX4_readRule 169 [(3, zi 1000), (2, zi (K (rCnd K V nx).2.1)), (1, zi ((μ 9 nx) - 256)), (0, zr 7)] [zi (nI ((rCnd K V nx).2.1 + 1)), zr 10] (zp ν9 7 7 (nI ((rCnd K V nx).2.1 + 1))) _
                    refine zx_iald_n (j := (rCnd K V nx).2.1 + 1) (nn := 170) rfl (by omega) (by decide) dX4_readRule_169 rfl ?_
                    show zX shC σ 14 MX4_readRule 170 [(3, zi 1000), (2, zi (K (rCnd K V nx).2.1)), (1, zi ((μ 9 nx) - 256)), (0, zr 7)] [zi (ν9 10 ((rCnd K V nx).2.1 + 1))] (zp ν9 7 7 (nI ((rCnd K V nx).2.1 + 1))) _
                    rw [show ν9 10 ((rCnd K V nx).2.1 + 1) = V ((rCnd K V nx).2.1 + 1) from hSc.2.1 ((rCnd K V nx).2.1 + 1) (by omega)]
                    show zX shC σ 14 MX4_readRule 170 [(3, zi 1000), (2, zi (K (rCnd K V nx).2.1)), (1, zi ((μ 9 nx) - 256)), (0, zr 7)] [zi (V ((rCnd K V nx).2.1 + 1))] (zp ν9 7 7 (nI ((rCnd K V nx).2.1 + 1))) _
                    refine zx_goto (tgt := 183) dX4_readRule_170 (by decide) ?_
                    refine zx_istore_n (nn := 184) (lv' := [(3, zi (V ((rCnd K V nx).2.1 + 1))), (2, zi (K (rCnd K V nx).2.1)), (1, zi ((μ 9 nx) - 256)), (0, zr 7)]) dX4_readRule_183 rfl (by decide) rfl rfl ?_
                    refine zx_aload_n (k := 3) (nn := 185) dX4_readRule_184 rfl rfl rfl ?_
                    refine zx_dupr (nn := 186) dX4_readRule_185 rfl ?_
                    refine zx_getI (nn := 189) flX4_38 rfl rfl dX4_readRule_186 rfl ?_
                    show zX shC σ 14 MX4_readRule 189 [(3, zi (V ((rCnd K V nx).2.1 + 1))), (2, zi (K (rCnd K V nx).2.1)), (1, zi ((μ 9 nx) - 256)), (0, zr 7)] [zi (nI ((rCnd K V nx).2.1 + 1)), zr 7] (zp ν9 7 7 (nI ((rCnd K V nx).2.1 + 1))) _
                    refine zx_iconst (v := 1) (nn := 190) rfl dX4_readRule_189 rfl ?_
                    refine zx_iadd (nn := 191) dX4_readRule_190 rfl ?_
                    rw [show (nI ((rCnd K V nx).2.1 + 1)) + 1 = nI ((rCnd K V nx).2.1 + 1 + 1) from nI_1 _]
                    show zX shC σ 14 MX4_readRule 191 [(3, zi (V ((rCnd K V nx).2.1 + 1))), (2, zi (K (rCnd K V nx).2.1)), (1, zi ((μ 9 nx) - 256)), (0, zr 7)] [zi (nI ((rCnd K V nx).2.1 + 1 + 1)), zr 7] (zp ν9 7 7 (nI ((rCnd K V nx).2.1 + 1))) _
                    refine zx_putI (nn := 194) fpX4_38 rfl rfl rfl rfl dX4_readRule_191 rfl ?_
                    refine zx_aload_n (k := 3) (nn := 195) dX4_readRule_194 rfl rfl rfl ?_
                    refine zx_getR (q := 9) (nn := 198) flX4_15 rfl rfl dX4_readRule_195 rfl ?_
                    refine zx_aload_n (k := 3) (nn := 199) dX4_readRule_198 rfl rfl rfl ?_
                    refine zx_getI (nn := 202) flX4_38 rfl rfl dX4_readRule_199 rfl ?_
                    show zX shC σ 14 MX4_readRule 202 [(3, zi (V ((rCnd K V nx).2.1 + 1))), (2, zi (K (rCnd K V nx).2.1)), (1, zi ((μ 9 nx) - 256)), (0, zr 7)] [zi (nI ((rCnd K V nx).2.1 + 1 + 1)), zr 9] (zp (zp ν9 7 7 (nI ((rCnd K V nx).2.1 + 1))) 7 7 (nI ((rCnd K V nx).2.1 + 1 + 1))) _
                    refine zx_iald_n (j := (rCnd K V nx).2.1 + 1 + 1) (nn := 203) rfl (by omega) (by decide) dX4_readRule_202 rfl ?_
                    show zX shC σ 14 MX4_readRule 203 [(3, zi (V ((rCnd K V nx).2.1 + 1))), (2, zi (K (rCnd K V nx).2.1)), (1, zi ((μ 9 nx) - 256)), (0, zr 7)] [zi (ν9 9 ((rCnd K V nx).2.1 + 1 + 1))] (zp (zp ν9 7 7 (nI ((rCnd K V nx).2.1 + 1))) 7 7 (nI ((rCnd K V nx).2.1 + 1 + 1))) _
                    rw [show ν9 9 ((rCnd K V nx).2.1 + 1 + 1) = K ((rCnd K V nx).2.1 + 1 + 1) from hSc.1 ((rCnd K V nx).2.1 + 1 + 1) (by omega)]
                    show zX shC σ 14 MX4_readRule 203 [(3, zi (V ((rCnd K V nx).2.1 + 1))), (2, zi (K (rCnd K V nx).2.1)), (1, zi ((μ 9 nx) - 256)), (0, zr 7)] [zi (K ((rCnd K V nx).2.1 + 1 + 1))] (zp (zp ν9 7 7 (nI ((rCnd K V nx).2.1 + 1))) 7 7 (nI ((rCnd K V nx).2.1 + 1 + 1))) _
                    refine zx_bipush (v := 59) (nn := 205) rfl dX4_readRule_203 rfl ?_
                    refine zx_icmp_eq (tgt := 210) (nn := 208) dX4_readRule_205 (by decide) rfl (fun h205 => ?_) (fun h205 => ?_)
                    · refine zx_aload_n (k := 3) (nn := 211) dX4_readRule_210 rfl rfl rfl ?_
                      refine zx_dupr (nn := 212) dX4_readRule_211 rfl ?_
                      refine zx_getI (nn := 215) flX4_38 rfl rfl dX4_readRule_212 rfl ?_
                      show zX shC σ 14 MX4_readRule 215 [(3, zi (V ((rCnd K V nx).2.1 + 1))), (2, zi (K (rCnd K V nx).2.1)), (1, zi ((μ 9 nx) - 256)), (0, zr 7)] [zi (nI ((rCnd K V nx).2.1 + 1 + 1)), zr 7] (zp (zp ν9 7 7 (nI ((rCnd K V nx).2.1 + 1))) 7 7 (nI ((rCnd K V nx).2.1 + 1 + 1))) _
                      refine zx_iconst (v := 1) (nn := 216) rfl dX4_readRule_215 rfl ?_
                      refine zx_iadd (nn := 217) dX4_readRule_216 rfl ?_
                      rw [show (nI ((rCnd K V nx).2.1 + 1 + 1)) + 1 = nI ((rCnd K V nx).2.1 + 1 + 1 + 1) from nI_1 _]
                      show zX shC σ 14 MX4_readRule 217 [(3, zi (V ((rCnd K V nx).2.1 + 1))), (2, zi (K (rCnd K V nx).2.1)), (1, zi ((μ 9 nx) - 256)), (0, zr 7)] [zi (nI ((rCnd K V nx).2.1 + 1 + 1 + 1)), zr 7] (zp (zp ν9 7 7 (nI ((rCnd K V nx).2.1 + 1))) 7 7 (nI ((rCnd K V nx).2.1 + 1 + 1))) _
                      refine zx_putI (nn := 220) fpX4_38 rfl rfl rfl rfl dX4_readRule_217 rfl ?_
                      refine zx_aload_n (k := 3) (nn := 221) dX4_readRule_220 rfl rfl rfl ?_
                      refine zx_getR (q := 12) (nn := 224) flX4_27 rfl rfl dX4_readRule_221 rfl ?_
                      refine zx_iload_n (k := 2) (nn := 225) dX4_readRule_224 rfl rfl rfl ?_
                      refine zx_iload_n (k := 0) (nn := 226) dX4_readRule_225 rfl rfl rfl ?_
                      refine zx_callVf (nn := 229) (k := 12) (d' := 0) (as := [zi ((μ 9 nx) - 256), zi (V ((rCnd K V nx).2.1 + 1))]) (rest := []) (n := 2) (eX5_addRule_12 σ (zp (zp (zp ν9 7 7 (nI ((rCnd K V nx).2.1 + 1))) 7 7 (nI ((rCnd K V nx).2.1 + 1 + 1))) 7 7 (nI ((rCnd K V nx).2.1 + 1 + 1 + 1))) ((μ 9 nx) - 256) (V ((rCnd K V nx).2.1 + 1)) nr (by first | exact hnr1 | exact ((hEc.tr (rdE.nx.tr rdE.nx)).2.2 5 (by decide)).trans hnr | exact ((hEc.tr (rdE.nx.tr (rdE.nx.tr rdE.nx))).2.2 5 (by decide)).trans hnr) hnr8) kX5_addRule mlX4_56 rfl rfl rfl (by decide) rfl rfl (Nat.le_of_ble_eq_true rfl) dX4_readRule_226 rfl ?_
                      show zX shC σ 14 MX4_readRule 229 [(3, zi (V ((rCnd K V nx).2.1 + 1))), (2, zi (K (rCnd K V nx).2.1)), (1, zi ((μ 9 nx) - 256)), (0, zr 7)] [] (zp (zp (zp (zp (zp (zp (zp ν9 7 7 (nI ((rCnd K V nx).2.1 + 1))) 7 7 (nI ((rCnd K V nx).2.1 + 1 + 1))) 7 7 (nI ((rCnd K V nx).2.1 + 1 + 1 + 1))) 13 nr ((μ 9 nx) - 256)) 14 nr (V ((rCnd K V nx).2.1 + 1))) 15 nr ((zp (zp (zp ν9 7 7 (nI ((rCnd K V nx).2.1 + 1))) 7 7 (nI ((rCnd K V nx).2.1 + 1 + 1))) 7 7 (nI ((rCnd K V nx).2.1 + 1 + 1 + 1))) 12 6)) 12 5 (nI (nr + 1))) _
                      refine zx_iconst (v := 1) (nn := 230) rfl dX4_readRule_229 rfl ?_
                      refine zx_zret rfl rfl dX4_readRule_230 ?_
                      have hE : rRule K V nx = (true, (rCnd K V nx).2.1 + 1 + 1 + 1, (K nx - 256, (K (rCnd K V nx).2.1), V ((rCnd K V nx).2.1 + 1)), (rCnd K V nx).2.2.1, (rCnd K V nx).2.2.2) := by unfold rRule; rw [if_pos hkd, if_pos hc1, if_pos hdd, if_neg hd65, if_pos ⟨h135, h149⟩]; unfold rFin; rw [if_pos h205]
                      rw [hE]
                      have hE9 : rdE μ (zp (zp (zp ν9 7 7 (nI ((rCnd K V nx).2.1 + 1))) 7 7 (nI ((rCnd K V nx).2.1 + 1 + 1))) 7 7 (nI ((rCnd K V nx).2.1 + 1 + 1 + 1))) := ((hEc.tr rdE.nx).tr rdE.nx).tr rdE.nx
                      have hS9 : rdS K V c (zp (zp (zp ν9 7 7 (nI ((rCnd K V nx).2.1 + 1))) 7 7 (nI ((rCnd K V nx).2.1 + 1 + 1))) 7 7 (nI ((rCnd K V nx).2.1 + 1 + 1 + 1))) ((rCnd K V nx).2.1 + 1 + 1 + 1) (cc + (rCnd K V nx).2.2.1.length) := ((hSc.nx hnd).nx (by rw [h135]; decide)).nx (by rw [h205]; decide)
                      have hC9 : rdC μ (zp (zp (zp ν9 7 7 (nI ((rCnd K V nx).2.1 + 1))) 7 7 (nI ((rCnd K V nx).2.1 + 1 + 1))) 7 7 (nI ((rCnd K V nx).2.1 + 1 + 1 + 1))) cc (rCnd K V nx).2.2.1 := hCc.nx.nx.nx
                      obtain ⟨s1, s2, s3, s4, s5⟩ := hS9
                      refine ⟨rfl, ⟨(hE9.R.1.tr ((((zJ.rf.p (by decide)).p (by decide)).p (by decide)).p (by decide))), fun i hi => ?_⟩, ?_, fun _ => ⟨⟨fun k hk => ?_, fun k hk => ?_, s3, ⟨?_, s4.2⟩, ?_, s5.2⟩, ⟨fun j hj => ?_, fun j hj => ?_⟩, ?_, fun j hj => ⟨?_, ?_, ?_⟩, ?_, ?_, ?_, fun j hj => ?_⟩, fun h => by cases h⟩
                      · rw [zp_ne (by decide), zp_ne (by decide), zp_ne (by decide), zp_ne (by decide)]; exact hE9.2.1 i hi
                      · rw [zp_ne (by decide), zp_ne (by decide), zp_ne (by decide), zp_ne (by decide)]; exact s4.1
                      · rw [zp_ne (by decide), zp_ne (by decide), zp_ne (by decide), zp_ne (by decide)]; exact s1 k hk
                      · rw [zp_ne (by decide), zp_ne (by decide), zp_ne (by decide), zp_ne (by decide)]; exact s2 k hk
                      · rw [zp_ne (by decide), zp_ne (by decide), zp_ne (by decide), zp_ne (by decide)]; exact s4.1
                      · rw [zp_eq, pk_un (by decide), zp_ne (by decide), zp_ne (by decide), zp_ne (by decide)]; exact s5.1
                      · rw [zp_ne (by decide), zp_ne (by decide), zp_ne (by decide), zp_ne (by decide)]; exact hC9.1 j hj
                      · rw [zp_ne (by decide), zp_ne (by decide), zp_ne (by decide), zp_ne (by decide)]; exact hC9.2 j hj
                      · rw [zp_eq]; exact pk_us
                      · rw [zp_ne (by decide), zp_ne (by decide), zp_ne (by decide), zp_eq, pk_un (by omega), hE9.1 13 (by decide)]
                      · rw [zp_ne (by decide), zp_ne (by decide), zp_eq, pk_un (by omega), zp_ne (by decide), hE9.1 14 (by decide)]
                      · rw [zp_ne (by decide), zp_eq, pk_un (by omega), zp_ne (by decide), zp_ne (by decide), hE9.1 15 (by decide)]
                      · rw [zp_ne (by decide), zp_ne (by decide), zp_ne (by decide), zp_eq, pk_us, hk]
                      · rw [zp_ne (by decide), zp_ne (by decide), zp_eq, pk_us]; refine Eq.symm ?_; show (if (K (rCnd K V nx).2.1) = 265 then (1000 : Int32) else if (K (rCnd K V nx).2.1) = 263 then V ((rCnd K V nx).2.1 + 1) else -(V ((rCnd K V nx).2.1 + 1))) = _; rw [if_neg hd65, if_pos h158]
                      · rw [zp_ne (by decide), zp_eq, pk_us]; exact s5.1
                      · rw [zp_ne (by decide), zp_eq, pk_un (by omega), zp_ne (by decide), zp_ne (by decide), hE9.1 15 (by decide)]
                    · refine zx_iconst (v := 0) (nn := 209) rfl dX4_readRule_208 rfl ?_
                      refine zx_zret rfl rfl dX4_readRule_209 ?_
                      have hE : rRule K V nx = (false, (rCnd K V nx).2.1 + 1 + 1, pRl0) := by unfold rRule; rw [if_pos hkd, if_pos hc1, if_pos hdd, if_neg hd65, if_pos ⟨h135, h149⟩]; unfold rFin; rw [if_neg h205]
                      rw [hE]
                      exact ⟨rfl, ((hEc.tr rdE.nx).tr rdE.nx).R, by rw [zp_eq]; exact pk_us, (fun h => by cases h), fun _ => (((hEc.tr rdE.nx).tr rdE.nx)).1 15 (by decide)⟩
                · refine zx_iconst (v := 0) (nn := 153) rfl dX4_readRule_152 rfl ?_
                  refine zx_zret rfl rfl dX4_readRule_153 ?_
                  have hE : rRule K V nx = (false, (rCnd K V nx).2.1 + 1, pRl0) := by unfold rRule; rw [if_pos hkd, if_pos hc1, if_pos hdd, if_neg hd65, if_neg (fun q => h149 q.2)]
                  rw [hE]
                  exact ⟨rfl, (hEc.tr rdE.nx).R, by rw [zp_eq]; exact pk_us, (fun h => by cases h), fun _ => ((hEc.tr rdE.nx)).1 15 (by decide)⟩
          · refine zx_iload_n (k := 0) (nn := 95) dX4_readRule_94 rfl rfl rfl ?_
            refine zx_sipush (v := 265) (nn := 98) rfl dX4_readRule_95 rfl ?_
            refine zx_icmp_eq (tgt := 103) (nn := 101) dX4_readRule_98 (by decide) rfl (fun h98 => ?_) (fun h98 => ?_)
            · have hdd : (K (rCnd K V nx).2.1) = 263 ∨ (K (rCnd K V nx).2.1) = 264 ∨ (K (rCnd K V nx).2.1) = 265 := Or.inr (Or.inr h98)
              have hnd : (K (rCnd K V nx).2.1) ≠ -1 := fun e => by rw [e] at hdd; exact absurd hdd (by decide)
              have hncd : (rCnd K V nx).2.1 ≠ c := fun e => hnd (by rw [e]; exact hS.2.2.1.1)
              refine zx_aload_n (k := 2) (nn := 104) dX4_readRule_103 rfl rfl rfl ?_
              refine zx_dupr (nn := 105) dX4_readRule_104 rfl ?_
              refine zx_getI (nn := 108) flX4_38 rfl rfl dX4_readRule_105 rfl ?_
              rw [show ν9 7 7 = nI ((rCnd K V nx).2.1) from hSc.2.2.2.1.1]
              show zX shC σ 14 MX4_readRule 108 [(2, zi (K (rCnd K V nx).2.1)), (1, zi ((μ 9 nx) - 256)), (0, zr 7)] [zi (nI ((rCnd K V nx).2.1)), zr 7] ν9 _
              refine zx_iconst (v := 1) (nn := 109) rfl dX4_readRule_108 rfl ?_
              refine zx_iadd (nn := 110) dX4_readRule_109 rfl ?_
              rw [show (nI ((rCnd K V nx).2.1)) + 1 = nI ((rCnd K V nx).2.1 + 1) from nI_1 _]
              show zX shC σ 14 MX4_readRule 110 [(2, zi (K (rCnd K V nx).2.1)), (1, zi ((μ 9 nx) - 256)), (0, zr 7)] [zi (nI ((rCnd K V nx).2.1 + 1)), zr 7] ν9 _
              refine zx_putI (nn := 113) fpX4_38 rfl rfl rfl rfl dX4_readRule_110 rfl ?_
              refine zx_sipush (v := 1000) (nn := 116) rfl dX4_readRule_113 rfl ?_
              refine zx_istore_n (nn := 117) (lv' := [(3, zi 1000), (2, zi (K (rCnd K V nx).2.1)), (1, zi ((μ 9 nx) - 256)), (0, zr 7)]) dX4_readRule_116 rfl (by decide) rfl rfl ?_
              refine zx_iload_n (k := 1) (nn := 118) dX4_readRule_117 rfl rfl rfl ?_
              refine zx_sipush (v := 265) (nn := 121) rfl dX4_readRule_118 rfl ?_
              refine zx_icmp_eq (tgt := 194) (nn := 124) dX4_readRule_121 (by decide) rfl (fun h121 => ?_) (fun h121 => ?_)
              · refine zx_aload_n (k := 3) (nn := 195) dX4_readRule_194 rfl rfl rfl ?_
                refine zx_getR (q := 9) (nn := 198) flX4_15 rfl rfl dX4_readRule_195 rfl ?_
                refine zx_aload_n (k := 3) (nn := 199) dX4_readRule_198 rfl rfl rfl ?_
                refine zx_getI (nn := 202) flX4_38 rfl rfl dX4_readRule_199 rfl ?_
                show zX shC σ 14 MX4_readRule 202 [(3, zi 1000), (2, zi (K (rCnd K V nx).2.1)), (1, zi ((μ 9 nx) - 256)), (0, zr 7)] [zi (nI ((rCnd K V nx).2.1 + 1)), zr 9] (zp ν9 7 7 (nI ((rCnd K V nx).2.1 + 1))) _
                refine zx_iald_n (j := (rCnd K V nx).2.1 + 1) (nn := 203) rfl (by omega) (by decide) dX4_readRule_202 rfl ?_
                show zX shC σ 14 MX4_readRule 203 [(3, zi 1000), (2, zi (K (rCnd K V nx).2.1)), (1, zi ((μ 9 nx) - 256)), (0, zr 7)] [zi (ν9 9 ((rCnd K V nx).2.1 + 1))] (zp ν9 7 7 (nI ((rCnd K V nx).2.1 + 1))) _
                rw [show ν9 9 ((rCnd K V nx).2.1 + 1) = K ((rCnd K V nx).2.1 + 1) from hSc.1 ((rCnd K V nx).2.1 + 1) (by omega)]
                show zX shC σ 14 MX4_readRule 203 [(3, zi 1000), (2, zi (K (rCnd K V nx).2.1)), (1, zi ((μ 9 nx) - 256)), (0, zr 7)] [zi (K ((rCnd K V nx).2.1 + 1))] (zp ν9 7 7 (nI ((rCnd K V nx).2.1 + 1))) _
                refine zx_bipush (v := 59) (nn := 205) rfl dX4_readRule_203 rfl ?_
                refine zx_icmp_eq (tgt := 210) (nn := 208) dX4_readRule_205 (by decide) rfl (fun h205 => ?_) (fun h205 => ?_)
                · refine zx_aload_n (k := 3) (nn := 211) dX4_readRule_210 rfl rfl rfl ?_
                  refine zx_dupr (nn := 212) dX4_readRule_211 rfl ?_
                  refine zx_getI (nn := 215) flX4_38 rfl rfl dX4_readRule_212 rfl ?_
                  show zX shC σ 14 MX4_readRule 215 [(3, zi 1000), (2, zi (K (rCnd K V nx).2.1)), (1, zi ((μ 9 nx) - 256)), (0, zr 7)] [zi (nI ((rCnd K V nx).2.1 + 1)), zr 7] (zp ν9 7 7 (nI ((rCnd K V nx).2.1 + 1))) _
                  refine zx_iconst (v := 1) (nn := 216) rfl dX4_readRule_215 rfl ?_
                  refine zx_iadd (nn := 217) dX4_readRule_216 rfl ?_
                  rw [show (nI ((rCnd K V nx).2.1 + 1)) + 1 = nI ((rCnd K V nx).2.1 + 1 + 1) from nI_1 _]
                  show zX shC σ 14 MX4_readRule 217 [(3, zi 1000), (2, zi (K (rCnd K V nx).2.1)), (1, zi ((μ 9 nx) - 256)), (0, zr 7)] [zi (nI ((rCnd K V nx).2.1 + 1 + 1)), zr 7] (zp ν9 7 7 (nI ((rCnd K V nx).2.1 + 1))) _
                  refine zx_putI (nn := 220) fpX4_38 rfl rfl rfl rfl dX4_readRule_217 rfl ?_
                  refine zx_aload_n (k := 3) (nn := 221) dX4_readRule_220 rfl rfl rfl ?_
                  refine zx_getR (q := 12) (nn := 224) flX4_27 rfl rfl dX4_readRule_221 rfl ?_
                  refine zx_iload_n (k := 2) (nn := 225) dX4_readRule_224 rfl rfl rfl ?_
                  refine zx_iload_n (k := 0) (nn := 226) dX4_readRule_225 rfl rfl rfl ?_
                  refine zx_callVf (nn := 229) (k := 12) (d' := 0) (as := [zi ((μ 9 nx) - 256), zi 1000]) (rest := []) (n := 2) (eX5_addRule_12 σ (zp (zp ν9 7 7 (nI ((rCnd K V nx).2.1 + 1))) 7 7 (nI ((rCnd K V nx).2.1 + 1 + 1))) ((μ 9 nx) - 256) 1000 nr (by first | exact hnr1 | exact ((hEc.tr (rdE.nx.tr rdE.nx)).2.2 5 (by decide)).trans hnr | exact ((hEc.tr (rdE.nx.tr (rdE.nx.tr rdE.nx))).2.2 5 (by decide)).trans hnr) hnr8) kX5_addRule mlX4_56 rfl rfl rfl (by decide) rfl rfl (Nat.le_of_ble_eq_true rfl) dX4_readRule_226 rfl ?_
                  show zX shC σ 14 MX4_readRule 229 [(3, zi 1000), (2, zi (K (rCnd K V nx).2.1)), (1, zi ((μ 9 nx) - 256)), (0, zr 7)] [] (zp (zp (zp (zp (zp (zp ν9 7 7 (nI ((rCnd K V nx).2.1 + 1))) 7 7 (nI ((rCnd K V nx).2.1 + 1 + 1))) 13 nr ((μ 9 nx) - 256)) 14 nr 1000) 15 nr ((zp (zp ν9 7 7 (nI ((rCnd K V nx).2.1 + 1))) 7 7 (nI ((rCnd K V nx).2.1 + 1 + 1))) 12 6)) 12 5 (nI (nr + 1))) _
                  refine zx_iconst (v := 1) (nn := 230) rfl dX4_readRule_229 rfl ?_
                  refine zx_zret rfl rfl dX4_readRule_230 ?_
                  have hE : rRule K V nx = (true, (rCnd K V nx).2.1 + 1 + 1, (K nx - 256, 265, 0), (rCnd K V nx).2.2.1, (rCnd K V nx).2.2.2) := by unfold rRule; rw [if_pos hkd, if_pos hc1, if_pos hdd, if_pos h121]; unfold rFin; rw [if_pos h205]
                  rw [hE]
                  have hE9 : rdE μ (zp (zp ν9 7 7 (nI ((rCnd K V nx).2.1 + 1))) 7 7 (nI ((rCnd K V nx).2.1 + 1 + 1))) := (hEc.tr rdE.nx).tr rdE.nx
                  have hS9 : rdS K V c (zp (zp ν9 7 7 (nI ((rCnd K V nx).2.1 + 1))) 7 7 (nI ((rCnd K V nx).2.1 + 1 + 1))) ((rCnd K V nx).2.1 + 1 + 1) (cc + (rCnd K V nx).2.2.1.length) := (hSc.nx hnd).nx (by rw [h205]; decide)
                  have hC9 : rdC μ (zp (zp ν9 7 7 (nI ((rCnd K V nx).2.1 + 1))) 7 7 (nI ((rCnd K V nx).2.1 + 1 + 1))) cc (rCnd K V nx).2.2.1 := hCc.nx.nx
                  obtain ⟨s1, s2, s3, s4, s5⟩ := hS9
                  refine ⟨rfl, ⟨(hE9.R.1.tr ((((zJ.rf.p (by decide)).p (by decide)).p (by decide)).p (by decide))), fun i hi => ?_⟩, ?_, fun _ => ⟨⟨fun k hk => ?_, fun k hk => ?_, s3, ⟨?_, s4.2⟩, ?_, s5.2⟩, ⟨fun j hj => ?_, fun j hj => ?_⟩, ?_, fun j hj => ⟨?_, ?_, ?_⟩, ?_, ?_, ?_, fun j hj => ?_⟩, fun h => by cases h⟩
                  · rw [zp_ne (by decide), zp_ne (by decide), zp_ne (by decide), zp_ne (by decide)]; exact hE9.2.1 i hi
                  · rw [zp_ne (by decide), zp_ne (by decide), zp_ne (by decide), zp_ne (by decide)]; exact s4.1
                  · rw [zp_ne (by decide), zp_ne (by decide), zp_ne (by decide), zp_ne (by decide)]; exact s1 k hk
                  · rw [zp_ne (by decide), zp_ne (by decide), zp_ne (by decide), zp_ne (by decide)]; exact s2 k hk
                  · rw [zp_ne (by decide), zp_ne (by decide), zp_ne (by decide), zp_ne (by decide)]; exact s4.1
                  · rw [zp_eq, pk_un (by decide), zp_ne (by decide), zp_ne (by decide), zp_ne (by decide)]; exact s5.1
                  · rw [zp_ne (by decide), zp_ne (by decide), zp_ne (by decide), zp_ne (by decide)]; exact hC9.1 j hj
                  · rw [zp_ne (by decide), zp_ne (by decide), zp_ne (by decide), zp_ne (by decide)]; exact hC9.2 j hj
                  · rw [zp_eq]; exact pk_us
                  · rw [zp_ne (by decide), zp_ne (by decide), zp_ne (by decide), zp_eq, pk_un (by omega), hE9.1 13 (by decide)]
                  · rw [zp_ne (by decide), zp_ne (by decide), zp_eq, pk_un (by omega), zp_ne (by decide), hE9.1 14 (by decide)]
                  · rw [zp_ne (by decide), zp_eq, pk_un (by omega), zp_ne (by decide), zp_ne (by decide), hE9.1 15 (by decide)]
                  · rw [zp_ne (by decide), zp_ne (by decide), zp_ne (by decide), zp_eq, pk_us, hk]
                  · rw [zp_ne (by decide), zp_ne (by decide), zp_eq, pk_us]; refine Eq.symm ?_; rfl
                  · rw [zp_ne (by decide), zp_eq, pk_us]; exact s5.1
                  · rw [zp_ne (by decide), zp_eq, pk_un (by omega), zp_ne (by decide), zp_ne (by decide), hE9.1 15 (by decide)]
                · refine zx_iconst (v := 0) (nn := 209) rfl dX4_readRule_208 rfl ?_
                  refine zx_zret rfl rfl dX4_readRule_209 ?_
                  have hE : rRule K V nx = (false, (rCnd K V nx).2.1 + 1, pRl0) := by unfold rRule; rw [if_pos hkd, if_pos hc1, if_pos hdd, if_pos h121]; unfold rFin; rw [if_neg h205]
                  rw [hE]
                  exact ⟨rfl, (hEc.tr rdE.nx).R, by rw [zp_eq]; exact pk_us, (fun h => by cases h), fun _ => ((hEc.tr rdE.nx)).1 15 (by decide)⟩
              · have hd65 : ¬ (K (rCnd K V nx).2.1) = 265 := h121
                refine zx_aload_n (k := 3) (nn := 125) dX4_readRule_124 rfl rfl rfl ?_
                refine zx_getR (q := 9) (nn := 128) flX4_15 rfl rfl dX4_readRule_125 rfl ?_
                refine zx_aload_n (k := 3) (nn := 129) dX4_readRule_128 rfl rfl rfl ?_
                refine zx_getI (nn := 132) flX4_38 rfl rfl dX4_readRule_129 rfl ?_
                show zX shC σ 14 MX4_readRule 132 [(3, zi 1000), (2, zi (K (rCnd K V nx).2.1)), (1, zi ((μ 9 nx) - 256)), (0, zr 7)] [zi (nI ((rCnd K V nx).2.1 + 1)), zr 9] (zp ν9 7 7 (nI ((rCnd K V nx).2.1 + 1))) _
                refine zx_iald_n (j := (rCnd K V nx).2.1 + 1) (nn := 133) rfl (by omega) (by decide) dX4_readRule_132 rfl ?_
                show zX shC σ 14 MX4_readRule 133 [(3, zi 1000), (2, zi (K (rCnd K V nx).2.1)), (1, zi ((μ 9 nx) - 256)), (0, zr 7)] [zi (ν9 9 ((rCnd K V nx).2.1 + 1))] (zp ν9 7 7 (nI ((rCnd K V nx).2.1 + 1))) _
                rw [show ν9 9 ((rCnd K V nx).2.1 + 1) = K ((rCnd K V nx).2.1 + 1) from hSc.1 ((rCnd K V nx).2.1 + 1) (by omega)]
                show zX shC σ 14 MX4_readRule 133 [(3, zi 1000), (2, zi (K (rCnd K V nx).2.1)), (1, zi ((μ 9 nx) - 256)), (0, zr 7)] [zi (K ((rCnd K V nx).2.1 + 1))] (zp ν9 7 7 (nI ((rCnd K V nx).2.1 + 1))) _
                refine zx_bipush (v := -2) (nn := 135) rfl dX4_readRule_133 rfl ?_
                refine zx_icmp_ne (tgt := 152) (nn := 138) dX4_readRule_135 (by decide) rfl (fun h135 => ?_) (fun h135 => ?_)
                · refine zx_iconst (v := 0) (nn := 153) rfl dX4_readRule_152 rfl ?_
                  refine zx_zret rfl rfl dX4_readRule_153 ?_
                  have hE : rRule K V nx = (false, (rCnd K V nx).2.1 + 1, pRl0) := by unfold rRule; rw [if_pos hkd, if_pos hc1, if_pos hdd, if_neg hd65, if_neg (fun q => h135 q.1)]
                  rw [hE]
                  exact ⟨rfl, (hEc.tr rdE.nx).R, by rw [zp_eq]; exact pk_us, (fun h => by cases h), fun _ => ((hEc.tr rdE.nx)).1 15 (by decide)⟩
                · have hnc3 : (rCnd K V nx).2.1 + 1 ≠ c := fun e => by rw [e, hS.2.2.1.1] at h135; exact absurd h135 (by decide)
                  refine zx_aload_n (k := 3) (nn := 139) dX4_readRule_138 rfl rfl rfl ?_
                  refine zx_getR (q := 10) (nn := 142) flX4_18 rfl rfl dX4_readRule_139 rfl ?_
                  refine zx_aload_n (k := 3) (nn := 143) dX4_readRule_142 rfl rfl rfl ?_
                  refine zx_getI (nn := 146) flX4_38 rfl rfl dX4_readRule_143 rfl ?_
                  show zX shC σ 14 MX4_readRule 146 [(3, zi 1000), (2, zi (K (rCnd K V nx).2.1)), (1, zi ((μ 9 nx) - 256)), (0, zr 7)] [zi (nI ((rCnd K V nx).2.1 + 1)), zr 10] (zp ν9 7 7 (nI ((rCnd K V nx).2.1 + 1))) _
                  refine zx_iald_n (j := (rCnd K V nx).2.1 + 1) (nn := 147) rfl (by omega) (by decide) dX4_readRule_146 rfl ?_
                  show zX shC σ 14 MX4_readRule 147 [(3, zi 1000), (2, zi (K (rCnd K V nx).2.1)), (1, zi ((μ 9 nx) - 256)), (0, zr 7)] [zi (ν9 10 ((rCnd K V nx).2.1 + 1))] (zp ν9 7 7 (nI ((rCnd K V nx).2.1 + 1))) _
                  rw [show ν9 10 ((rCnd K V nx).2.1 + 1) = V ((rCnd K V nx).2.1 + 1) from hSc.2.1 ((rCnd K V nx).2.1 + 1) (by omega)]
                  show zX shC σ 14 MX4_readRule 147 [(3, zi 1000), (2, zi (K (rCnd K V nx).2.1)), (1, zi ((μ 9 nx) - 256)), (0, zr 7)] [zi (V ((rCnd K V nx).2.1 + 1))] (zp ν9 7 7 (nI ((rCnd K V nx).2.1 + 1))) _
                  refine zx_bipush (v := 99) (nn := 149) rfl dX4_readRule_147 rfl ?_
                  refine zx_icmp_le (tgt := 154) (nn := 152) dX4_readRule_149 (by decide) rfl (fun h149 => ?_) (fun h149 => ?_)
                  · refine zx_iload_n (k := 1) (nn := 155) dX4_readRule_154 rfl rfl rfl ?_
                    refine zx_sipush (v := 263) (nn := 158) rfl dX4_readRule_155 rfl ?_
                    refine zx_icmp_ne (tgt := 173) (nn := 161) dX4_readRule_158 (by decide) rfl (fun h158 => ?_) (fun h158 => ?_)
                    · refine zx_aload_n (k := 3) (nn := 174) dX4_readRule_173 rfl rfl rfl ?_
                      refine zx_getR (q := 10) (nn := 177) flX4_18 rfl rfl dX4_readRule_174 rfl ?_
                      refine zx_aload_n (k := 3) (nn := 178) dX4_readRule_177 rfl rfl rfl ?_
                      refine zx_getI (nn := 181) flX4_38 rfl rfl dX4_readRule_178 rfl ?_
                      show zX shC σ 14 MX4_readRule 181 [(3, zi 1000), (2, zi (K (rCnd K V nx).2.1)), (1, zi ((μ 9 nx) - 256)), (0, zr 7)] [zi (nI ((rCnd K V nx).2.1 + 1)), zr 10] (zp ν9 7 7 (nI ((rCnd K V nx).2.1 + 1))) _
                      refine zx_iald_n (j := (rCnd K V nx).2.1 + 1) (nn := 182) rfl (by omega) (by decide) dX4_readRule_181 rfl ?_
                      show zX shC σ 14 MX4_readRule 182 [(3, zi 1000), (2, zi (K (rCnd K V nx).2.1)), (1, zi ((μ 9 nx) - 256)), (0, zr 7)] [zi (ν9 10 ((rCnd K V nx).2.1 + 1))] (zp ν9 7 7 (nI ((rCnd K V nx).2.1 + 1))) _
                      rw [show ν9 10 ((rCnd K V nx).2.1 + 1) = V ((rCnd K V nx).2.1 + 1) from hSc.2.1 ((rCnd K V nx).2.1 + 1) (by omega)]
                      show zX shC σ 14 MX4_readRule 182 [(3, zi 1000), (2, zi (K (rCnd K V nx).2.1)), (1, zi ((μ 9 nx) - 256)), (0, zr 7)] [zi (V ((rCnd K V nx).2.1 + 1))] (zp ν9 7 7 (nI ((rCnd K V nx).2.1 + 1))) _
                      refine zx_ineg (nn := 183) dX4_readRule_182 rfl ?_
                      refine zx_istore_n (nn := 184) (lv' := [(3, zi (-(V ((rCnd K V nx).2.1 + 1)))), (2, zi (K (rCnd K V nx).2.1)), (1, zi ((μ 9 nx) - 256)), (0, zr 7)]) dX4_readRule_183 rfl (by decide) rfl rfl ?_
                      refine zx_aload_n (k := 3) (nn := 185) dX4_readRule_184 rfl rfl rfl ?_
                      refine zx_dupr (nn := 186) dX4_readRule_185 rfl ?_
                      refine zx_getI (nn := 189) flX4_38 rfl rfl dX4_readRule_186 rfl ?_
                      show zX shC σ 14 MX4_readRule 189 [(3, zi (-(V ((rCnd K V nx).2.1 + 1)))), (2, zi (K (rCnd K V nx).2.1)), (1, zi ((μ 9 nx) - 256)), (0, zr 7)] [zi (nI ((rCnd K V nx).2.1 + 1)), zr 7] (zp ν9 7 7 (nI ((rCnd K V nx).2.1 + 1))) _
                      refine zx_iconst (v := 1) (nn := 190) rfl dX4_readRule_189 rfl ?_
                      refine zx_iadd (nn := 191) dX4_readRule_190 rfl ?_
                      rw [show (nI ((rCnd K V nx).2.1 + 1)) + 1 = nI ((rCnd K V nx).2.1 + 1 + 1) from nI_1 _]
                      show zX shC σ 14 MX4_readRule 191 [(3, zi (-(V ((rCnd K V nx).2.1 + 1)))), (2, zi (K (rCnd K V nx).2.1)), (1, zi ((μ 9 nx) - 256)), (0, zr 7)] [zi (nI ((rCnd K V nx).2.1 + 1 + 1)), zr 7] (zp ν9 7 7 (nI ((rCnd K V nx).2.1 + 1))) _
                      refine zx_putI (nn := 194) fpX4_38 rfl rfl rfl rfl dX4_readRule_191 rfl ?_
                      refine zx_aload_n (k := 3) (nn := 195) dX4_readRule_194 rfl rfl rfl ?_
                      refine zx_getR (q := 9) (nn := 198) flX4_15 rfl rfl dX4_readRule_195 rfl ?_
                      refine zx_aload_n (k := 3) (nn := 199) dX4_readRule_198 rfl rfl rfl ?_
                      refine zx_getI (nn := 202) flX4_38 rfl rfl dX4_readRule_199 rfl ?_
                      show zX shC σ 14 MX4_readRule 202 [(3, zi (-(V ((rCnd K V nx).2.1 + 1)))), (2, zi (K (rCnd K V nx).2.1)), (1, zi ((μ 9 nx) - 256)), (0, zr 7)] [zi (nI ((rCnd K V nx).2.1 + 1 + 1)), zr 9] (zp (zp ν9 7 7 (nI ((rCnd K V nx).2.1 + 1))) 7 7 (nI ((rCnd K V nx).2.1 + 1 + 1))) _
                      refine zx_iald_n (j := (rCnd K V nx).2.1 + 1 + 1) (nn := 203) rfl (by omega) (by decide) dX4_readRule_202 rfl ?_
                      show zX shC σ 14 MX4_readRule 203 [(3, zi (-(V ((rCnd K V nx).2.1 + 1)))), (2, zi (K (rCnd K V nx).2.1)), (1, zi ((μ 9 nx) - 256)), (0, zr 7)] [zi (ν9 9 ((rCnd K V nx).2.1 + 1 + 1))] (zp (zp ν9 7 7 (nI ((rCnd K V nx).2.1 + 1))) 7 7 (nI ((rCnd K V nx).2.1 + 1 + 1))) _
                      rw [show ν9 9 ((rCnd K V nx).2.1 + 1 + 1) = K ((rCnd K V nx).2.1 + 1 + 1) from hSc.1 ((rCnd K V nx).2.1 + 1 + 1) (by omega)]
                      show zX shC σ 14 MX4_readRule 203 [(3, zi (-(V ((rCnd K V nx).2.1 + 1)))), (2, zi (K (rCnd K V nx).2.1)), (1, zi ((μ 9 nx) - 256)), (0, zr 7)] [zi (K ((rCnd K V nx).2.1 + 1 + 1))] (zp (zp ν9 7 7 (nI ((rCnd K V nx).2.1 + 1))) 7 7 (nI ((rCnd K V nx).2.1 + 1 + 1))) _
                      refine zx_bipush (v := 59) (nn := 205) rfl dX4_readRule_203 rfl ?_
                      refine zx_icmp_eq (tgt := 210) (nn := 208) dX4_readRule_205 (by decide) rfl (fun h205 => ?_) (fun h205 => ?_)
                      · refine zx_aload_n (k := 3) (nn := 211) dX4_readRule_210 rfl rfl rfl ?_
                        refine zx_dupr (nn := 212) dX4_readRule_211 rfl ?_
                        refine zx_getI (nn := 215) flX4_38 rfl rfl dX4_readRule_212 rfl ?_
                        show zX shC σ 14 MX4_readRule 215 [(3, zi (-(V ((rCnd K V nx).2.1 + 1)))), (2, zi (K (rCnd K V nx).2.1)), (1, zi ((μ 9 nx) - 256)), (0, zr 7)] [zi (nI ((rCnd K V nx).2.1 + 1 + 1)), zr 7] (zp (zp ν9 7 7 (nI ((rCnd K V nx).2.1 + 1))) 7 7 (nI ((rCnd K V nx).2.1 + 1 + 1))) _
                        refine zx_iconst (v := 1) (nn := 216) rfl dX4_readRule_215 rfl ?_
                        refine zx_iadd (nn := 217) dX4_readRule_216 rfl ?_
                        rw [show (nI ((rCnd K V nx).2.1 + 1 + 1)) + 1 = nI ((rCnd K V nx).2.1 + 1 + 1 + 1) from nI_1 _]
                        show zX shC σ 14 MX4_readRule 217 [(3, zi (-(V ((rCnd K V nx).2.1 + 1)))), (2, zi (K (rCnd K V nx).2.1)), (1, zi ((μ 9 nx) - 256)), (0, zr 7)] [zi (nI ((rCnd K V nx).2.1 + 1 + 1 + 1)), zr 7] (zp (zp ν9 7 7 (nI ((rCnd K V nx).2.1 + 1))) 7 7 (nI ((rCnd K V nx).2.1 + 1 + 1))) _
                        refine zx_putI (nn := 220) fpX4_38 rfl rfl rfl rfl dX4_readRule_217 rfl ?_
                        refine zx_aload_n (k := 3) (nn := 221) dX4_readRule_220 rfl rfl rfl ?_
                        refine zx_getR (q := 12) (nn := 224) flX4_27 rfl rfl dX4_readRule_221 rfl ?_
                        refine zx_iload_n (k := 2) (nn := 225) dX4_readRule_224 rfl rfl rfl ?_
                        refine zx_iload_n (k := 0) (nn := 226) dX4_readRule_225 rfl rfl rfl ?_
                        refine zx_callVf (nn := 229) (k := 12) (d' := 0) (as := [zi ((μ 9 nx) - 256), zi (-(V ((rCnd K V nx).2.1 + 1)))]) (rest := []) (n := 2) (eX5_addRule_12 σ (zp (zp (zp ν9 7 7 (nI ((rCnd K V nx).2.1 + 1))) 7 7 (nI ((rCnd K V nx).2.1 + 1 + 1))) 7 7 (nI ((rCnd K V nx).2.1 + 1 + 1 + 1))) ((μ 9 nx) - 256) (-(V ((rCnd K V nx).2.1 + 1))) nr (by first | exact hnr1 | exact ((hEc.tr (rdE.nx.tr rdE.nx)).2.2 5 (by decide)).trans hnr | exact ((hEc.tr (rdE.nx.tr (rdE.nx.tr rdE.nx))).2.2 5 (by decide)).trans hnr) hnr8) kX5_addRule mlX4_56 rfl rfl rfl (by decide) rfl rfl (Nat.le_of_ble_eq_true rfl) dX4_readRule_226 rfl ?_
                        show zX shC σ 14 MX4_readRule 229 [(3, zi (-(V ((rCnd K V nx).2.1 + 1)))), (2, zi (K (rCnd K V nx).2.1)), (1, zi ((μ 9 nx) - 256)), (0, zr 7)] [] (zp (zp (zp (zp (zp (zp (zp ν9 7 7 (nI ((rCnd K V nx).2.1 + 1))) 7 7 (nI ((rCnd K V nx).2.1 + 1 + 1))) 7 7 (nI ((rCnd K V nx).2.1 + 1 + 1 + 1))) 13 nr ((μ 9 nx) - 256)) 14 nr (-(V ((rCnd K V nx).2.1 + 1)))) 15 nr ((zp (zp (zp ν9 7 7 (nI ((rCnd K V nx).2.1 + 1))) 7 7 (nI ((rCnd K V nx).2.1 + 1 + 1))) 7 7 (nI ((rCnd K V nx).2.1 + 1 + 1 + 1))) 12 6)) 12 5 (nI (nr + 1))) _
                        refine zx_iconst (v := 1) (nn := 230) rfl dX4_readRule_229 rfl ?_
                        refine zx_zret rfl rfl dX4_readRule_230 ?_
                        have hE : rRule K V nx = (true, (rCnd K V nx).2.1 + 1 + 1 + 1, (K nx - 256, (K (rCnd K V nx).2.1), V ((rCnd K V nx).2.1 + 1)), (rCnd K V nx).2.2.1, (rCnd K V nx).2.2.2) := by unfold rRule; rw [if_pos hkd, if_pos hc1, if_pos hdd, if_neg hd65, if_pos ⟨h135, h149⟩]; unfold rFin; rw [if_pos h205]
                        rw [hE]
                        have hE9 : rdE μ (zp (zp (zp ν9 7 7 (nI ((rCnd K V nx).2.1 + 1))) 7 7 (nI ((rCnd K V nx).2.1 + 1 + 1))) 7 7 (nI ((rCnd K V nx).2.1 + 1 + 1 + 1))) := ((hEc.tr rdE.nx).tr rdE.nx).tr rdE.nx
                        have hS9 : rdS K V c (zp (zp (zp ν9 7 7 (nI ((rCnd K V nx).2.1 + 1))) 7 7 (nI ((rCnd K V nx).2.1 + 1 + 1))) 7 7 (nI ((rCnd K V nx).2.1 + 1 + 1 + 1))) ((rCnd K V nx).2.1 + 1 + 1 + 1) (cc + (rCnd K V nx).2.2.1.length) := ((hSc.nx hnd).nx (by rw [h135]; decide)).nx (by rw [h205]; decide)
                        have hC9 : rdC μ (zp (zp (zp ν9 7 7 (nI ((rCnd K V nx).2.1 + 1))) 7 7 (nI ((rCnd K V nx).2.1 + 1 + 1))) 7 7 (nI ((rCnd K V nx).2.1 + 1 + 1 + 1))) cc (rCnd K V nx).2.2.1 := hCc.nx.nx.nx
                        obtain ⟨s1, s2, s3, s4, s5⟩ := hS9
                        refine ⟨rfl, ⟨(hE9.R.1.tr ((((zJ.rf.p (by decide)).p (by decide)).p (by decide)).p (by decide))), fun i hi => ?_⟩, ?_, fun _ => ⟨⟨fun k hk => ?_, fun k hk => ?_, s3, ⟨?_, s4.2⟩, ?_, s5.2⟩, ⟨fun j hj => ?_, fun j hj => ?_⟩, ?_, fun j hj => ⟨?_, ?_, ?_⟩, ?_, ?_, ?_, fun j hj => ?_⟩, fun h => by cases h⟩
                        · rw [zp_ne (by decide), zp_ne (by decide), zp_ne (by decide), zp_ne (by decide)]; exact hE9.2.1 i hi
                        · rw [zp_ne (by decide), zp_ne (by decide), zp_ne (by decide), zp_ne (by decide)]; exact s4.1
                        · rw [zp_ne (by decide), zp_ne (by decide), zp_ne (by decide), zp_ne (by decide)]; exact s1 k hk
                        · rw [zp_ne (by decide), zp_ne (by decide), zp_ne (by decide), zp_ne (by decide)]; exact s2 k hk
                        · rw [zp_ne (by decide), zp_ne (by decide), zp_ne (by decide), zp_ne (by decide)]; exact s4.1
                        · rw [zp_eq, pk_un (by decide), zp_ne (by decide), zp_ne (by decide), zp_ne (by decide)]; exact s5.1
                        · rw [zp_ne (by decide), zp_ne (by decide), zp_ne (by decide), zp_ne (by decide)]; exact hC9.1 j hj
                        · rw [zp_ne (by decide), zp_ne (by decide), zp_ne (by decide), zp_ne (by decide)]; exact hC9.2 j hj
                        · rw [zp_eq]; exact pk_us
                        · rw [zp_ne (by decide), zp_ne (by decide), zp_ne (by decide), zp_eq, pk_un (by omega), hE9.1 13 (by decide)]
                        · rw [zp_ne (by decide), zp_ne (by decide), zp_eq, pk_un (by omega), zp_ne (by decide), hE9.1 14 (by decide)]
                        · rw [zp_ne (by decide), zp_eq, pk_un (by omega), zp_ne (by decide), zp_ne (by decide), hE9.1 15 (by decide)]
                        · rw [zp_ne (by decide), zp_ne (by decide), zp_ne (by decide), zp_eq, pk_us, hk]
                        · rw [zp_ne (by decide), zp_ne (by decide), zp_eq, pk_us]; refine Eq.symm ?_; show (if (K (rCnd K V nx).2.1) = 265 then (1000 : Int32) else if (K (rCnd K V nx).2.1) = 263 then V ((rCnd K V nx).2.1 + 1) else -(V ((rCnd K V nx).2.1 + 1))) = _; rw [if_neg hd65, if_neg h158]
                        · rw [zp_ne (by decide), zp_eq, pk_us]; exact s5.1
                        · rw [zp_ne (by decide), zp_eq, pk_un (by omega), zp_ne (by decide), zp_ne (by decide), hE9.1 15 (by decide)]
                      · refine zx_iconst (v := 0) (nn := 209) rfl dX4_readRule_208 rfl ?_
                        refine zx_zret rfl rfl dX4_readRule_209 ?_
                        have hE : rRule K V nx = (false, (rCnd K V nx).2.1 + 1 + 1, pRl0) := by unfold rRule; rw [if_pos hkd, if_pos hc1, if_pos hdd, if_neg hd65, if_pos ⟨h135, h149⟩]; unfold rFin; rw [if_neg h205]
                        rw [hE]
                        exact ⟨rfl, ((hEc.tr rdE.nx).tr rdE.nx).R, by rw [zp_eq]; exact pk_us, (fun h => by cases h), fun _ => (((hEc.tr rdE.nx).tr rdE.nx)).1 15 (by decide)⟩
                    · refine zx_aload_n (k := 3) (nn := 162) dX4_readRule_161 rfl rfl rfl ?_
                      refine zx_getR (q := 10) (nn := 165) flX4_18 rfl rfl dX4_readRule_162 rfl ?_
                      refine zx_aload_n (k := 3) (nn := 166) dX4_readRule_165 rfl rfl rfl ?_
                      refine zx_getI (nn := 169) flX4_38 rfl rfl dX4_readRule_166 rfl ?_
                      show zX shC σ 14 MX4_readRule 169 [(3, zi 1000), (2, zi (K (rCnd K V nx).2.1)), (1, zi ((μ 9 nx) - 256)), (0, zr 7)] [zi (nI ((rCnd K V nx).2.1 + 1)), zr 10] (zp ν9 7 7 (nI ((rCnd K V nx).2.1 + 1))) _
                      refine zx_iald_n (j := (rCnd K V nx).2.1 + 1) (nn := 170) rfl (by omega) (by decide) dX4_readRule_169 rfl ?_
                      show zX shC σ 14 MX4_readRule 170 [(3, zi 1000), (2, zi (K (rCnd K V nx).2.1)), (1, zi ((μ 9 nx) - 256)), (0, zr 7)] [zi (ν9 10 ((rCnd K V nx).2.1 + 1))] (zp ν9 7 7 (nI ((rCnd K V nx).2.1 + 1))) _
                      rw [show ν9 10 ((rCnd K V nx).2.1 + 1) = V ((rCnd K V nx).2.1 + 1) from hSc.2.1 ((rCnd K V nx).2.1 + 1) (by omega)]
                      show zX shC σ 14 MX4_readRule 170 [(3, zi 1000), (2, zi (K (rCnd K V nx).2.1)), (1, zi ((μ 9 nx) - 256)), (0, zr 7)] [zi (V ((rCnd K V nx).2.1 + 1))] (zp ν9 7 7 (nI ((rCnd K V nx).2.1 + 1))) _
                      refine zx_goto (tgt := 183) dX4_readRule_170 (by decide) ?_
                      refine zx_istore_n (nn := 184) (lv' := [(3, zi (V ((rCnd K V nx).2.1 + 1))), (2, zi (K (rCnd K V nx).2.1)), (1, zi ((μ 9 nx) - 256)), (0, zr 7)]) dX4_readRule_183 rfl (by decide) rfl rfl ?_
                      refine zx_aload_n (k := 3) (nn := 185) dX4_readRule_184 rfl rfl rfl ?_
                      refine zx_dupr (nn := 186) dX4_readRule_185 rfl ?_
                      refine zx_getI (nn := 189) flX4_38 rfl rfl dX4_readRule_186 rfl ?_
                      show zX shC σ 14 MX4_readRule 189 [(3, zi (V ((rCnd K V nx).2.1 + 1))), (2, zi (K (rCnd K V nx).2.1)), (1, zi ((μ 9 nx) - 256)), (0, zr 7)] [zi (nI ((rCnd K V nx).2.1 + 1)), zr 7] (zp ν9 7 7 (nI ((rCnd K V nx).2.1 + 1))) _
                      refine zx_iconst (v := 1) (nn := 190) rfl dX4_readRule_189 rfl ?_
                      refine zx_iadd (nn := 191) dX4_readRule_190 rfl ?_
                      rw [show (nI ((rCnd K V nx).2.1 + 1)) + 1 = nI ((rCnd K V nx).2.1 + 1 + 1) from nI_1 _]
                      show zX shC σ 14 MX4_readRule 191 [(3, zi (V ((rCnd K V nx).2.1 + 1))), (2, zi (K (rCnd K V nx).2.1)), (1, zi ((μ 9 nx) - 256)), (0, zr 7)] [zi (nI ((rCnd K V nx).2.1 + 1 + 1)), zr 7] (zp ν9 7 7 (nI ((rCnd K V nx).2.1 + 1))) _
                      refine zx_putI (nn := 194) fpX4_38 rfl rfl rfl rfl dX4_readRule_191 rfl ?_
                      refine zx_aload_n (k := 3) (nn := 195) dX4_readRule_194 rfl rfl rfl ?_
                      refine zx_getR (q := 9) (nn := 198) flX4_15 rfl rfl dX4_readRule_195 rfl ?_
                      refine zx_aload_n (k := 3) (nn := 199) dX4_readRule_198 rfl rfl rfl ?_
                      refine zx_getI (nn := 202) flX4_38 rfl rfl dX4_readRule_199 rfl ?_
                      show zX shC σ 14 MX4_readRule 202 [(3, zi (V ((rCnd K V nx).2.1 + 1))), (2, zi (K (rCnd K V nx).2.1)), (1, zi ((μ 9 nx) - 256)), (0, zr 7)] [zi (nI ((rCnd K V nx).2.1 + 1 + 1)), zr 9] (zp (zp ν9 7 7 (nI ((rCnd K V nx).2.1 + 1))) 7 7 (nI ((rCnd K V nx).2.1 + 1 + 1))) _
                      refine zx_iald_n (j := (rCnd K V nx).2.1 + 1 + 1) (nn := 203) rfl (by omega) (by decide) dX4_readRule_202 rfl ?_
                      show zX shC σ 14 MX4_readRule 203 [(3, zi (V ((rCnd K V nx).2.1 + 1))), (2, zi (K (rCnd K V nx).2.1)), (1, zi ((μ 9 nx) - 256)), (0, zr 7)] [zi (ν9 9 ((rCnd K V nx).2.1 + 1 + 1))] (zp (zp ν9 7 7 (nI ((rCnd K V nx).2.1 + 1))) 7 7 (nI ((rCnd K V nx).2.1 + 1 + 1))) _
                      rw [show ν9 9 ((rCnd K V nx).2.1 + 1 + 1) = K ((rCnd K V nx).2.1 + 1 + 1) from hSc.1 ((rCnd K V nx).2.1 + 1 + 1) (by omega)]
                      show zX shC σ 14 MX4_readRule 203 [(3, zi (V ((rCnd K V nx).2.1 + 1))), (2, zi (K (rCnd K V nx).2.1)), (1, zi ((μ 9 nx) - 256)), (0, zr 7)] [zi (K ((rCnd K V nx).2.1 + 1 + 1))] (zp (zp ν9 7 7 (nI ((rCnd K V nx).2.1 + 1))) 7 7 (nI ((rCnd K V nx).2.1 + 1 + 1))) _
                      refine zx_bipush (v := 59) (nn := 205) rfl dX4_readRule_203 rfl ?_
                      refine zx_icmp_eq (tgt := 210) (nn := 208) dX4_readRule_205 (by decide) rfl (fun h205 => ?_) (fun h205 => ?_)
                      · refine zx_aload_n (k := 3) (nn := 211) dX4_readRule_210 rfl rfl rfl ?_
                        refine zx_dupr (nn := 212) dX4_readRule_211 rfl ?_
                        refine zx_getI (nn := 215) flX4_38 rfl rfl dX4_readRule_212 rfl ?_
                        show zX shC σ 14 MX4_readRule 215 [(3, zi (V ((rCnd K V nx).2.1 + 1))), (2, zi (K (rCnd K V nx).2.1)), (1, zi ((μ 9 nx) - 256)), (0, zr 7)] [zi (nI ((rCnd K V nx).2.1 + 1 + 1)), zr 7] (zp (zp ν9 7 7 (nI ((rCnd K V nx).2.1 + 1))) 7 7 (nI ((rCnd K V nx).2.1 + 1 + 1))) _
                        refine zx_iconst (v := 1) (nn := 216) rfl dX4_readRule_215 rfl ?_
                        refine zx_iadd (nn := 217) dX4_readRule_216 rfl ?_
                        rw [show (nI ((rCnd K V nx).2.1 + 1 + 1)) + 1 = nI ((rCnd K V nx).2.1 + 1 + 1 + 1) from nI_1 _]
                        show zX shC σ 14 MX4_readRule 217 [(3, zi (V ((rCnd K V nx).2.1 + 1))), (2, zi (K (rCnd K V nx).2.1)), (1, zi ((μ 9 nx) - 256)), (0, zr 7)] [zi (nI ((rCnd K V nx).2.1 + 1 + 1 + 1)), zr 7] (zp (zp ν9 7 7 (nI ((rCnd K V nx).2.1 + 1))) 7 7 (nI ((rCnd K V nx).2.1 + 1 + 1))) _
                        refine zx_putI (nn := 220) fpX4_38 rfl rfl rfl rfl dX4_readRule_217 rfl ?_
                        refine zx_aload_n (k := 3) (nn := 221) dX4_readRule_220 rfl rfl rfl ?_
                        refine zx_getR (q := 12) (nn := 224) flX4_27 rfl rfl dX4_readRule_221 rfl ?_
                        refine zx_iload_n (k := 2) (nn := 225) dX4_readRule_224 rfl rfl rfl ?_
                        refine zx_iload_n (k := 0) (nn := 226) dX4_readRule_225 rfl rfl rfl ?_
                        refine zx_callVf (nn := 229) (k := 12) (d' := 0) (as := [zi ((μ 9 nx) - 256), zi (V ((rCnd K V nx).2.1 + 1))]) (rest := []) (n := 2) (eX5_addRule_12 σ (zp (zp (zp ν9 7 7 (nI ((rCnd K V nx).2.1 + 1))) 7 7 (nI ((rCnd K V nx).2.1 + 1 + 1))) 7 7 (nI ((rCnd K V nx).2.1 + 1 + 1 + 1))) ((μ 9 nx) - 256) (V ((rCnd K V nx).2.1 + 1)) nr (by first | exact hnr1 | exact ((hEc.tr (rdE.nx.tr rdE.nx)).2.2 5 (by decide)).trans hnr | exact ((hEc.tr (rdE.nx.tr (rdE.nx.tr rdE.nx))).2.2 5 (by decide)).trans hnr) hnr8) kX5_addRule mlX4_56 rfl rfl rfl (by decide) rfl rfl (Nat.le_of_ble_eq_true rfl) dX4_readRule_226 rfl ?_
                        show zX shC σ 14 MX4_readRule 229 [(3, zi (V ((rCnd K V nx).2.1 + 1))), (2, zi (K (rCnd K V nx).2.1)), (1, zi ((μ 9 nx) - 256)), (0, zr 7)] [] (zp (zp (zp (zp (zp (zp (zp ν9 7 7 (nI ((rCnd K V nx).2.1 + 1))) 7 7 (nI ((rCnd K V nx).2.1 + 1 + 1))) 7 7 (nI ((rCnd K V nx).2.1 + 1 + 1 + 1))) 13 nr ((μ 9 nx) - 256)) 14 nr (V ((rCnd K V nx).2.1 + 1))) 15 nr ((zp (zp (zp ν9 7 7 (nI ((rCnd K V nx).2.1 + 1))) 7 7 (nI ((rCnd K V nx).2.1 + 1 + 1))) 7 7 (nI ((rCnd K V nx).2.1 + 1 + 1 + 1))) 12 6)) 12 5 (nI (nr + 1))) _
                        refine zx_iconst (v := 1) (nn := 230) rfl dX4_readRule_229 rfl ?_
                        refine zx_zret rfl rfl dX4_readRule_230 ?_
                        have hE : rRule K V nx = (true, (rCnd K V nx).2.1 + 1 + 1 + 1, (K nx - 256, (K (rCnd K V nx).2.1), V ((rCnd K V nx).2.1 + 1)), (rCnd K V nx).2.2.1, (rCnd K V nx).2.2.2) := by unfold rRule; rw [if_pos hkd, if_pos hc1, if_pos hdd, if_neg hd65, if_pos ⟨h135, h149⟩]; unfold rFin; rw [if_pos h205]
                        rw [hE]
                        have hE9 : rdE μ (zp (zp (zp ν9 7 7 (nI ((rCnd K V nx).2.1 + 1))) 7 7 (nI ((rCnd K V nx).2.1 + 1 + 1))) 7 7 (nI ((rCnd K V nx).2.1 + 1 + 1 + 1))) := ((hEc.tr rdE.nx).tr rdE.nx).tr rdE.nx
                        have hS9 : rdS K V c (zp (zp (zp ν9 7 7 (nI ((rCnd K V nx).2.1 + 1))) 7 7 (nI ((rCnd K V nx).2.1 + 1 + 1))) 7 7 (nI ((rCnd K V nx).2.1 + 1 + 1 + 1))) ((rCnd K V nx).2.1 + 1 + 1 + 1) (cc + (rCnd K V nx).2.2.1.length) := ((hSc.nx hnd).nx (by rw [h135]; decide)).nx (by rw [h205]; decide)
                        have hC9 : rdC μ (zp (zp (zp ν9 7 7 (nI ((rCnd K V nx).2.1 + 1))) 7 7 (nI ((rCnd K V nx).2.1 + 1 + 1))) 7 7 (nI ((rCnd K V nx).2.1 + 1 + 1 + 1))) cc (rCnd K V nx).2.2.1 := hCc.nx.nx.nx
                        obtain ⟨s1, s2, s3, s4, s5⟩ := hS9
                        refine ⟨rfl, ⟨(hE9.R.1.tr ((((zJ.rf.p (by decide)).p (by decide)).p (by decide)).p (by decide))), fun i hi => ?_⟩, ?_, fun _ => ⟨⟨fun k hk => ?_, fun k hk => ?_, s3, ⟨?_, s4.2⟩, ?_, s5.2⟩, ⟨fun j hj => ?_, fun j hj => ?_⟩, ?_, fun j hj => ⟨?_, ?_, ?_⟩, ?_, ?_, ?_, fun j hj => ?_⟩, fun h => by cases h⟩
                        · rw [zp_ne (by decide), zp_ne (by decide), zp_ne (by decide), zp_ne (by decide)]; exact hE9.2.1 i hi
                        · rw [zp_ne (by decide), zp_ne (by decide), zp_ne (by decide), zp_ne (by decide)]; exact s4.1
                        · rw [zp_ne (by decide), zp_ne (by decide), zp_ne (by decide), zp_ne (by decide)]; exact s1 k hk
                        · rw [zp_ne (by decide), zp_ne (by decide), zp_ne (by decide), zp_ne (by decide)]; exact s2 k hk
                        · rw [zp_ne (by decide), zp_ne (by decide), zp_ne (by decide), zp_ne (by decide)]; exact s4.1
                        · rw [zp_eq, pk_un (by decide), zp_ne (by decide), zp_ne (by decide), zp_ne (by decide)]; exact s5.1
                        · rw [zp_ne (by decide), zp_ne (by decide), zp_ne (by decide), zp_ne (by decide)]; exact hC9.1 j hj
                        · rw [zp_ne (by decide), zp_ne (by decide), zp_ne (by decide), zp_ne (by decide)]; exact hC9.2 j hj
                        · rw [zp_eq]; exact pk_us
                        · rw [zp_ne (by decide), zp_ne (by decide), zp_ne (by decide), zp_eq, pk_un (by omega), hE9.1 13 (by decide)]
                        · rw [zp_ne (by decide), zp_ne (by decide), zp_eq, pk_un (by omega), zp_ne (by decide), hE9.1 14 (by decide)]
                        · rw [zp_ne (by decide), zp_eq, pk_un (by omega), zp_ne (by decide), zp_ne (by decide), hE9.1 15 (by decide)]
                        · rw [zp_ne (by decide), zp_ne (by decide), zp_ne (by decide), zp_eq, pk_us, hk]
                        · rw [zp_ne (by decide), zp_ne (by decide), zp_eq, pk_us]; refine Eq.symm ?_; show (if (K (rCnd K V nx).2.1) = 265 then (1000 : Int32) else if (K (rCnd K V nx).2.1) = 263 then V ((rCnd K V nx).2.1 + 1) else -(V ((rCnd K V nx).2.1 + 1))) = _; rw [if_neg hd65, if_pos h158]
                        · rw [zp_ne (by decide), zp_eq, pk_us]; exact s5.1
                        · rw [zp_ne (by decide), zp_eq, pk_un (by omega), zp_ne (by decide), zp_ne (by decide), hE9.1 15 (by decide)]
                      · refine zx_iconst (v := 0) (nn := 209) rfl dX4_readRule_208 rfl ?_
                        refine zx_zret rfl rfl dX4_readRule_209 ?_
                        have hE : rRule K V nx = (false, (rCnd K V nx).2.1 + 1 + 1, pRl0) := by unfold rRule; rw [if_pos hkd, if_pos hc1, if_pos hdd, if_neg hd65, if_pos ⟨h135, h149⟩]; unfold rFin; rw [if_neg h205]
                        rw [hE]
                        exact ⟨rfl, ((hEc.tr rdE.nx).tr rdE.nx).R, by rw [zp_eq]; exact pk_us, (fun h => by cases h), fun _ => (((hEc.tr rdE.nx).tr rdE.nx)).1 15 (by decide)⟩
                  · refine zx_iconst (v := 0) (nn := 153) rfl dX4_readRule_152 rfl ?_
                    refine zx_zret rfl rfl dX4_readRule_153 ?_
                    have hE : rRule K V nx = (false, (rCnd K V nx).2.1 + 1, pRl0) := by unfold rRule; rw [if_pos hkd, if_pos hc1, if_pos hdd, if_neg hd65, if_neg (fun q => h149 q.2)]
                    rw [hE]
                    exact ⟨rfl, (hEc.tr rdE.nx).R, by rw [zp_eq]; exact pk_us, (fun h => by cases h), fun _ => ((hEc.tr rdE.nx)).1 15 (by decide)⟩
            · refine zx_iconst (v := 0) (nn := 102) rfl dX4_readRule_101 rfl ?_
              refine zx_zret rfl rfl dX4_readRule_102 ?_
              have hE : rRule K V nx = (false, (rCnd K V nx).2.1, pRl0) := by unfold rRule; rw [if_pos hkd, if_pos hc1, if_neg (fun q => q.elim h84 (fun q => q.elim h91 h98))]
              rw [hE]
              exact ⟨rfl, hEc.R, hSc.2.2.2.1.1, (fun h => by cases h), fun _ => (hEc).1 15 (by decide)⟩
      · have hnc1 : nx + 1 ≠ c := fun e => by rw [e, hS.2.2.1.1] at h47; exact absurd h47 (by decide)
        refine zx_aload_n (k := 1) (nn := 51) dX4_readRule_50 rfl rfl rfl ?_
        refine zx_dupr (nn := 52) dX4_readRule_51 rfl ?_
        refine zx_getI (nn := 55) flX4_38 rfl rfl dX4_readRule_52 rfl ?_
        show zX shC σ 14 MX4_readRule 55 [(1, zi ((μ 9 nx) - 256)), (0, zr 7)] [zi (nI (nx + 1)), zr 7] (zp μ 7 7 (nI (nx + 1))) _
        refine zx_iconst (v := 1) (nn := 56) rfl dX4_readRule_55 rfl ?_
        refine zx_iadd (nn := 57) dX4_readRule_56 rfl ?_
        rw [show (nI (nx + 1)) + 1 = nI (nx + 1 + 1) from nI_1 _]
        show zX shC σ 14 MX4_readRule 57 [(1, zi ((μ 9 nx) - 256)), (0, zr 7)] [zi (nI (nx + 1 + 1)), zr 7] (zp μ 7 7 (nI (nx + 1))) _
        refine zx_putI (nn := 60) fpX4_38 rfl rfl rfl rfl dX4_readRule_57 rfl ?_
        refine zx_aload_n (k := 1) (nn := 61) dX4_readRule_60 rfl rfl rfl ?_
        refine zx_iconst (v := 0) (nn := 62) rfl dX4_readRule_61 rfl ?_
        refine zx_callV (nn := 65) (k := 7) (d' := 13) (as := [zi 0]) (rest := []) (n := 1) (eX4_cond σ K V c hS.2.2.1.1 3 (by decide) (zp (zp μ 7 7 (nI (nx + 1))) 7 7 (nI (nx + 1 + 1))) (nx + 1 + 1) cc ((hS.nx hne).nx (by rw [h47]; decide))) kX4_readAny mlX4_52 rfl rfl rfl (by decide) rfl rfl (Nat.le_of_ble_eq_true rfl) dX4_readRule_62 rfl ?_
        rintro _ ν1 ⟨rfl, q1⟩
        show zX shC σ 14 MX4_readRule 65 [(1, zi ((μ 9 nx) - 256)), (0, zr 7)] [zi (zb (rCond K V 3 (nx + 1 + 1)).1)] ν1 _
        refine zx_ifb_ne (tgt := 70) (nn := 68) dX4_readRule_65 (by decide) rfl (fun h65 => ?_) (fun h65 => ?_)
        · have hcn : rCnd K V nx = rCond K V 3 (nx + 1 + 1) := if_pos h47
          rw [← hcn] at q1 h65
          have hSc := (q1.2.2 h65).1
          have hEc : rdE μ ν1 := (rdE.nx.tr rdE.nx).tr q1.1
          have hCc : rdC μ ν1 cc (rCnd K V nx).2.2.1 := rdC.pre (by rw [zp_ne (by decide), zp_ne (by decide)]) (q1.2.2 h65).2
          have hc1 : (rCnd K V nx).1 = true := h65
          have hbc := hSc.2.2.2.1.2
          have hc2 := hSc.2.2.1.2
          refine zx_aload_n (k := 1) (nn := 71) dX4_readRule_70 rfl rfl rfl ?_
          refine zx_getR (q := 9) (nn := 74) flX4_15 rfl rfl dX4_readRule_71 rfl ?_
          refine zx_aload_n (k := 1) (nn := 75) dX4_readRule_74 rfl rfl rfl ?_
          refine zx_getI (nn := 78) flX4_38 rfl rfl dX4_readRule_75 rfl ?_
          rw [show ν1 7 7 = nI ((rCnd K V nx).2.1) from hSc.2.2.2.1.1]
          show zX shC σ 14 MX4_readRule 78 [(1, zi ((μ 9 nx) - 256)), (0, zr 7)] [zi (nI ((rCnd K V nx).2.1)), zr 9] ν1 _
          refine zx_iald_n (j := (rCnd K V nx).2.1) (nn := 79) rfl (by omega) (by decide) dX4_readRule_78 rfl ?_
          rw [show ν1 9 ((rCnd K V nx).2.1) = K (rCnd K V nx).2.1 from hSc.1 _ hSc.2.2.2.1.2]
          show zX shC σ 14 MX4_readRule 79 [(1, zi ((μ 9 nx) - 256)), (0, zr 7)] [zi (K (rCnd K V nx).2.1)] ν1 _
          refine zx_istore_n (nn := 80) (lv' := [(2, zi (K (rCnd K V nx).2.1)), (1, zi ((μ 9 nx) - 256)), (0, zr 7)]) dX4_readRule_79 rfl (by decide) rfl rfl ?_
          refine zx_iload_n (k := 0) (nn := 81) dX4_readRule_80 rfl rfl rfl ?_
          refine zx_sipush (v := 263) (nn := 84) rfl dX4_readRule_81 rfl ?_
          refine zx_icmp_eq (tgt := 103) (nn := 87) dX4_readRule_84 (by decide) rfl (fun h84 => ?_) (fun h84 => ?_)
          · have hdd : (K (rCnd K V nx).2.1) = 263 ∨ (K (rCnd K V nx).2.1) = 264 ∨ (K (rCnd K V nx).2.1) = 265 := Or.inl h84
            have hnd : (K (rCnd K V nx).2.1) ≠ -1 := fun e => by rw [e] at hdd; exact absurd hdd (by decide)
            have hncd : (rCnd K V nx).2.1 ≠ c := fun e => hnd (by rw [e]; exact hS.2.2.1.1)
            refine zx_aload_n (k := 2) (nn := 104) dX4_readRule_103 rfl rfl rfl ?_
            refine zx_dupr (nn := 105) dX4_readRule_104 rfl ?_
            refine zx_getI (nn := 108) flX4_38 rfl rfl dX4_readRule_105 rfl ?_
            rw [show ν1 7 7 = nI ((rCnd K V nx).2.1) from hSc.2.2.2.1.1]
            show zX shC σ 14 MX4_readRule 108 [(2, zi (K (rCnd K V nx).2.1)), (1, zi ((μ 9 nx) - 256)), (0, zr 7)] [zi (nI ((rCnd K V nx).2.1)), zr 7] ν1 _
            refine zx_iconst (v := 1) (nn := 109) rfl dX4_readRule_108 rfl ?_
            refine zx_iadd (nn := 110) dX4_readRule_109 rfl ?_
            rw [show (nI ((rCnd K V nx).2.1)) + 1 = nI ((rCnd K V nx).2.1 + 1) from nI_1 _]
            show zX shC σ 14 MX4_readRule 110 [(2, zi (K (rCnd K V nx).2.1)), (1, zi ((μ 9 nx) - 256)), (0, zr 7)] [zi (nI ((rCnd K V nx).2.1 + 1)), zr 7] ν1 _
            refine zx_putI (nn := 113) fpX4_38 rfl rfl rfl rfl dX4_readRule_110 rfl ?_
            refine zx_sipush (v := 1000) (nn := 116) rfl dX4_readRule_113 rfl ?_
            refine zx_istore_n (nn := 117) (lv' := [(3, zi 1000), (2, zi (K (rCnd K V nx).2.1)), (1, zi ((μ 9 nx) - 256)), (0, zr 7)]) dX4_readRule_116 rfl (by decide) rfl rfl ?_
            refine zx_iload_n (k := 1) (nn := 118) dX4_readRule_117 rfl rfl rfl ?_
            refine zx_sipush (v := 265) (nn := 121) rfl dX4_readRule_118 rfl ?_
            refine zx_icmp_eq (tgt := 194) (nn := 124) dX4_readRule_121 (by decide) rfl (fun h121 => ?_) (fun h121 => ?_)
            · refine zx_aload_n (k := 3) (nn := 195) dX4_readRule_194 rfl rfl rfl ?_
              refine zx_getR (q := 9) (nn := 198) flX4_15 rfl rfl dX4_readRule_195 rfl ?_
              refine zx_aload_n (k := 3) (nn := 199) dX4_readRule_198 rfl rfl rfl ?_
              refine zx_getI (nn := 202) flX4_38 rfl rfl dX4_readRule_199 rfl ?_
              show zX shC σ 14 MX4_readRule 202 [(3, zi 1000), (2, zi (K (rCnd K V nx).2.1)), (1, zi ((μ 9 nx) - 256)), (0, zr 7)] [zi (nI ((rCnd K V nx).2.1 + 1)), zr 9] (zp ν1 7 7 (nI ((rCnd K V nx).2.1 + 1))) _
              refine zx_iald_n (j := (rCnd K V nx).2.1 + 1) (nn := 203) rfl (by omega) (by decide) dX4_readRule_202 rfl ?_
              show zX shC σ 14 MX4_readRule 203 [(3, zi 1000), (2, zi (K (rCnd K V nx).2.1)), (1, zi ((μ 9 nx) - 256)), (0, zr 7)] [zi (ν1 9 ((rCnd K V nx).2.1 + 1))] (zp ν1 7 7 (nI ((rCnd K V nx).2.1 + 1))) _
              rw [show ν1 9 ((rCnd K V nx).2.1 + 1) = K ((rCnd K V nx).2.1 + 1) from hSc.1 ((rCnd K V nx).2.1 + 1) (by omega)]
              show zX shC σ 14 MX4_readRule 203 [(3, zi 1000), (2, zi (K (rCnd K V nx).2.1)), (1, zi ((μ 9 nx) - 256)), (0, zr 7)] [zi (K ((rCnd K V nx).2.1 + 1))] (zp ν1 7 7 (nI ((rCnd K V nx).2.1 + 1))) _
              refine zx_bipush (v := 59) (nn := 205) rfl dX4_readRule_203 rfl ?_
              refine zx_icmp_eq (tgt := 210) (nn := 208) dX4_readRule_205 (by decide) rfl (fun h205 => ?_) (fun h205 => ?_)
              · refine zx_aload_n (k := 3) (nn := 211) dX4_readRule_210 rfl rfl rfl ?_
                refine zx_dupr (nn := 212) dX4_readRule_211 rfl ?_
                refine zx_getI (nn := 215) flX4_38 rfl rfl dX4_readRule_212 rfl ?_
                show zX shC σ 14 MX4_readRule 215 [(3, zi 1000), (2, zi (K (rCnd K V nx).2.1)), (1, zi ((μ 9 nx) - 256)), (0, zr 7)] [zi (nI ((rCnd K V nx).2.1 + 1)), zr 7] (zp ν1 7 7 (nI ((rCnd K V nx).2.1 + 1))) _
                refine zx_iconst (v := 1) (nn := 216) rfl dX4_readRule_215 rfl ?_
                refine zx_iadd (nn := 217) dX4_readRule_216 rfl ?_
                rw [show (nI ((rCnd K V nx).2.1 + 1)) + 1 = nI ((rCnd K V nx).2.1 + 1 + 1) from nI_1 _]
                show zX shC σ 14 MX4_readRule 217 [(3, zi 1000), (2, zi (K (rCnd K V nx).2.1)), (1, zi ((μ 9 nx) - 256)), (0, zr 7)] [zi (nI ((rCnd K V nx).2.1 + 1 + 1)), zr 7] (zp ν1 7 7 (nI ((rCnd K V nx).2.1 + 1))) _
                refine zx_putI (nn := 220) fpX4_38 rfl rfl rfl rfl dX4_readRule_217 rfl ?_
                refine zx_aload_n (k := 3) (nn := 221) dX4_readRule_220 rfl rfl rfl ?_
                refine zx_getR (q := 12) (nn := 224) flX4_27 rfl rfl dX4_readRule_221 rfl ?_
                refine zx_iload_n (k := 2) (nn := 225) dX4_readRule_224 rfl rfl rfl ?_
                refine zx_iload_n (k := 0) (nn := 226) dX4_readRule_225 rfl rfl rfl ?_
                refine zx_callVf (nn := 229) (k := 12) (d' := 0) (as := [zi ((μ 9 nx) - 256), zi 1000]) (rest := []) (n := 2) (eX5_addRule_12 σ (zp (zp ν1 7 7 (nI ((rCnd K V nx).2.1 + 1))) 7 7 (nI ((rCnd K V nx).2.1 + 1 + 1))) ((μ 9 nx) - 256) 1000 nr (by first | exact hnr1 | exact ((hEc.tr (rdE.nx.tr rdE.nx)).2.2 5 (by decide)).trans hnr | exact ((hEc.tr (rdE.nx.tr (rdE.nx.tr rdE.nx))).2.2 5 (by decide)).trans hnr) hnr8) kX5_addRule mlX4_56 rfl rfl rfl (by decide) rfl rfl (Nat.le_of_ble_eq_true rfl) dX4_readRule_226 rfl ?_
                show zX shC σ 14 MX4_readRule 229 [(3, zi 1000), (2, zi (K (rCnd K V nx).2.1)), (1, zi ((μ 9 nx) - 256)), (0, zr 7)] [] (zp (zp (zp (zp (zp (zp ν1 7 7 (nI ((rCnd K V nx).2.1 + 1))) 7 7 (nI ((rCnd K V nx).2.1 + 1 + 1))) 13 nr ((μ 9 nx) - 256)) 14 nr 1000) 15 nr ((zp (zp ν1 7 7 (nI ((rCnd K V nx).2.1 + 1))) 7 7 (nI ((rCnd K V nx).2.1 + 1 + 1))) 12 6)) 12 5 (nI (nr + 1))) _
                refine zx_iconst (v := 1) (nn := 230) rfl dX4_readRule_229 rfl ?_
                refine zx_zret rfl rfl dX4_readRule_230 ?_
                have hE : rRule K V nx = (true, (rCnd K V nx).2.1 + 1 + 1, (K nx - 256, 265, 0), (rCnd K V nx).2.2.1, (rCnd K V nx).2.2.2) := by unfold rRule; rw [if_pos hkd, if_pos hc1, if_pos hdd, if_pos h121]; unfold rFin; rw [if_pos h205]
                rw [hE]
                have hE9 : rdE μ (zp (zp ν1 7 7 (nI ((rCnd K V nx).2.1 + 1))) 7 7 (nI ((rCnd K V nx).2.1 + 1 + 1))) := (hEc.tr rdE.nx).tr rdE.nx
                have hS9 : rdS K V c (zp (zp ν1 7 7 (nI ((rCnd K V nx).2.1 + 1))) 7 7 (nI ((rCnd K V nx).2.1 + 1 + 1))) ((rCnd K V nx).2.1 + 1 + 1) (cc + (rCnd K V nx).2.2.1.length) := (hSc.nx hnd).nx (by rw [h205]; decide)
                have hC9 : rdC μ (zp (zp ν1 7 7 (nI ((rCnd K V nx).2.1 + 1))) 7 7 (nI ((rCnd K V nx).2.1 + 1 + 1))) cc (rCnd K V nx).2.2.1 := hCc.nx.nx
                obtain ⟨s1, s2, s3, s4, s5⟩ := hS9
                refine ⟨rfl, ⟨(hE9.R.1.tr ((((zJ.rf.p (by decide)).p (by decide)).p (by decide)).p (by decide))), fun i hi => ?_⟩, ?_, fun _ => ⟨⟨fun k hk => ?_, fun k hk => ?_, s3, ⟨?_, s4.2⟩, ?_, s5.2⟩, ⟨fun j hj => ?_, fun j hj => ?_⟩, ?_, fun j hj => ⟨?_, ?_, ?_⟩, ?_, ?_, ?_, fun j hj => ?_⟩, fun h => by cases h⟩
                · rw [zp_ne (by decide), zp_ne (by decide), zp_ne (by decide), zp_ne (by decide)]; exact hE9.2.1 i hi
                · rw [zp_ne (by decide), zp_ne (by decide), zp_ne (by decide), zp_ne (by decide)]; exact s4.1
                · rw [zp_ne (by decide), zp_ne (by decide), zp_ne (by decide), zp_ne (by decide)]; exact s1 k hk
                · rw [zp_ne (by decide), zp_ne (by decide), zp_ne (by decide), zp_ne (by decide)]; exact s2 k hk
                · rw [zp_ne (by decide), zp_ne (by decide), zp_ne (by decide), zp_ne (by decide)]; exact s4.1
                · rw [zp_eq, pk_un (by decide), zp_ne (by decide), zp_ne (by decide), zp_ne (by decide)]; exact s5.1
                · rw [zp_ne (by decide), zp_ne (by decide), zp_ne (by decide), zp_ne (by decide)]; exact hC9.1 j hj
                · rw [zp_ne (by decide), zp_ne (by decide), zp_ne (by decide), zp_ne (by decide)]; exact hC9.2 j hj
                · rw [zp_eq]; exact pk_us
                · rw [zp_ne (by decide), zp_ne (by decide), zp_ne (by decide), zp_eq, pk_un (by omega), hE9.1 13 (by decide)]
                · rw [zp_ne (by decide), zp_ne (by decide), zp_eq, pk_un (by omega), zp_ne (by decide), hE9.1 14 (by decide)]
                · rw [zp_ne (by decide), zp_eq, pk_un (by omega), zp_ne (by decide), zp_ne (by decide), hE9.1 15 (by decide)]
                · rw [zp_ne (by decide), zp_ne (by decide), zp_ne (by decide), zp_eq, pk_us, hk]
                · rw [zp_ne (by decide), zp_ne (by decide), zp_eq, pk_us]; refine Eq.symm ?_; rfl
                · rw [zp_ne (by decide), zp_eq, pk_us]; exact s5.1
                · rw [zp_ne (by decide), zp_eq, pk_un (by omega), zp_ne (by decide), zp_ne (by decide), hE9.1 15 (by decide)]
              · refine zx_iconst (v := 0) (nn := 209) rfl dX4_readRule_208 rfl ?_
                refine zx_zret rfl rfl dX4_readRule_209 ?_
                have hE : rRule K V nx = (false, (rCnd K V nx).2.1 + 1, pRl0) := by unfold rRule; rw [if_pos hkd, if_pos hc1, if_pos hdd, if_pos h121]; unfold rFin; rw [if_neg h205]
                rw [hE]
                exact ⟨rfl, (hEc.tr rdE.nx).R, by rw [zp_eq]; exact pk_us, (fun h => by cases h), fun _ => ((hEc.tr rdE.nx)).1 15 (by decide)⟩
            · have hd65 : ¬ (K (rCnd K V nx).2.1) = 265 := h121
              refine zx_aload_n (k := 3) (nn := 125) dX4_readRule_124 rfl rfl rfl ?_
              refine zx_getR (q := 9) (nn := 128) flX4_15 rfl rfl dX4_readRule_125 rfl ?_
              refine zx_aload_n (k := 3) (nn := 129) dX4_readRule_128 rfl rfl rfl ?_
              refine zx_getI (nn := 132) flX4_38 rfl rfl dX4_readRule_129 rfl ?_
              show zX shC σ 14 MX4_readRule 132 [(3, zi 1000), (2, zi (K (rCnd K V nx).2.1)), (1, zi ((μ 9 nx) - 256)), (0, zr 7)] [zi (nI ((rCnd K V nx).2.1 + 1)), zr 9] (zp ν1 7 7 (nI ((rCnd K V nx).2.1 + 1))) _
              refine zx_iald_n (j := (rCnd K V nx).2.1 + 1) (nn := 133) rfl (by omega) (by decide) dX4_readRule_132 rfl ?_
              show zX shC σ 14 MX4_readRule 133 [(3, zi 1000), (2, zi (K (rCnd K V nx).2.1)), (1, zi ((μ 9 nx) - 256)), (0, zr 7)] [zi (ν1 9 ((rCnd K V nx).2.1 + 1))] (zp ν1 7 7 (nI ((rCnd K V nx).2.1 + 1))) _
              rw [show ν1 9 ((rCnd K V nx).2.1 + 1) = K ((rCnd K V nx).2.1 + 1) from hSc.1 ((rCnd K V nx).2.1 + 1) (by omega)]
              show zX shC σ 14 MX4_readRule 133 [(3, zi 1000), (2, zi (K (rCnd K V nx).2.1)), (1, zi ((μ 9 nx) - 256)), (0, zr 7)] [zi (K ((rCnd K V nx).2.1 + 1))] (zp ν1 7 7 (nI ((rCnd K V nx).2.1 + 1))) _
              refine zx_bipush (v := -2) (nn := 135) rfl dX4_readRule_133 rfl ?_
              refine zx_icmp_ne (tgt := 152) (nn := 138) dX4_readRule_135 (by decide) rfl (fun h135 => ?_) (fun h135 => ?_)
              · refine zx_iconst (v := 0) (nn := 153) rfl dX4_readRule_152 rfl ?_
                refine zx_zret rfl rfl dX4_readRule_153 ?_
                have hE : rRule K V nx = (false, (rCnd K V nx).2.1 + 1, pRl0) := by unfold rRule; rw [if_pos hkd, if_pos hc1, if_pos hdd, if_neg hd65, if_neg (fun q => h135 q.1)]
                rw [hE]
                exact ⟨rfl, (hEc.tr rdE.nx).R, by rw [zp_eq]; exact pk_us, (fun h => by cases h), fun _ => ((hEc.tr rdE.nx)).1 15 (by decide)⟩
              · have hnc3 : (rCnd K V nx).2.1 + 1 ≠ c := fun e => by rw [e, hS.2.2.1.1] at h135; exact absurd h135 (by decide)
                refine zx_aload_n (k := 3) (nn := 139) dX4_readRule_138 rfl rfl rfl ?_
                refine zx_getR (q := 10) (nn := 142) flX4_18 rfl rfl dX4_readRule_139 rfl ?_
                refine zx_aload_n (k := 3) (nn := 143) dX4_readRule_142 rfl rfl rfl ?_
                refine zx_getI (nn := 146) flX4_38 rfl rfl dX4_readRule_143 rfl ?_
                show zX shC σ 14 MX4_readRule 146 [(3, zi 1000), (2, zi (K (rCnd K V nx).2.1)), (1, zi ((μ 9 nx) - 256)), (0, zr 7)] [zi (nI ((rCnd K V nx).2.1 + 1)), zr 10] (zp ν1 7 7 (nI ((rCnd K V nx).2.1 + 1))) _
                refine zx_iald_n (j := (rCnd K V nx).2.1 + 1) (nn := 147) rfl (by omega) (by decide) dX4_readRule_146 rfl ?_
                show zX shC σ 14 MX4_readRule 147 [(3, zi 1000), (2, zi (K (rCnd K V nx).2.1)), (1, zi ((μ 9 nx) - 256)), (0, zr 7)] [zi (ν1 10 ((rCnd K V nx).2.1 + 1))] (zp ν1 7 7 (nI ((rCnd K V nx).2.1 + 1))) _
                rw [show ν1 10 ((rCnd K V nx).2.1 + 1) = V ((rCnd K V nx).2.1 + 1) from hSc.2.1 ((rCnd K V nx).2.1 + 1) (by omega)]
                show zX shC σ 14 MX4_readRule 147 [(3, zi 1000), (2, zi (K (rCnd K V nx).2.1)), (1, zi ((μ 9 nx) - 256)), (0, zr 7)] [zi (V ((rCnd K V nx).2.1 + 1))] (zp ν1 7 7 (nI ((rCnd K V nx).2.1 + 1))) _
                refine zx_bipush (v := 99) (nn := 149) rfl dX4_readRule_147 rfl ?_
                refine zx_icmp_le (tgt := 154) (nn := 152) dX4_readRule_149 (by decide) rfl (fun h149 => ?_) (fun h149 => ?_)
                · refine zx_iload_n (k := 1) (nn := 155) dX4_readRule_154 rfl rfl rfl ?_
                  refine zx_sipush (v := 263) (nn := 158) rfl dX4_readRule_155 rfl ?_
                  refine zx_icmp_ne (tgt := 173) (nn := 161) dX4_readRule_158 (by decide) rfl (fun h158 => ?_) (fun h158 => ?_)
                  · refine zx_aload_n (k := 3) (nn := 174) dX4_readRule_173 rfl rfl rfl ?_
                    refine zx_getR (q := 10) (nn := 177) flX4_18 rfl rfl dX4_readRule_174 rfl ?_
                    refine zx_aload_n (k := 3) (nn := 178) dX4_readRule_177 rfl rfl rfl ?_
                    refine zx_getI (nn := 181) flX4_38 rfl rfl dX4_readRule_178 rfl ?_
                    show zX shC σ 14 MX4_readRule 181 [(3, zi 1000), (2, zi (K (rCnd K V nx).2.1)), (1, zi ((μ 9 nx) - 256)), (0, zr 7)] [zi (nI ((rCnd K V nx).2.1 + 1)), zr 10] (zp ν1 7 7 (nI ((rCnd K V nx).2.1 + 1))) _
                    refine zx_iald_n (j := (rCnd K V nx).2.1 + 1) (nn := 182) rfl (by omega) (by decide) dX4_readRule_181 rfl ?_
                    show zX shC σ 14 MX4_readRule 182 [(3, zi 1000), (2, zi (K (rCnd K V nx).2.1)), (1, zi ((μ 9 nx) - 256)), (0, zr 7)] [zi (ν1 10 ((rCnd K V nx).2.1 + 1))] (zp ν1 7 7 (nI ((rCnd K V nx).2.1 + 1))) _
                    rw [show ν1 10 ((rCnd K V nx).2.1 + 1) = V ((rCnd K V nx).2.1 + 1) from hSc.2.1 ((rCnd K V nx).2.1 + 1) (by omega)]
                    show zX shC σ 14 MX4_readRule 182 [(3, zi 1000), (2, zi (K (rCnd K V nx).2.1)), (1, zi ((μ 9 nx) - 256)), (0, zr 7)] [zi (V ((rCnd K V nx).2.1 + 1))] (zp ν1 7 7 (nI ((rCnd K V nx).2.1 + 1))) _
                    refine zx_ineg (nn := 183) dX4_readRule_182 rfl ?_
                    refine zx_istore_n (nn := 184) (lv' := [(3, zi (-(V ((rCnd K V nx).2.1 + 1)))), (2, zi (K (rCnd K V nx).2.1)), (1, zi ((μ 9 nx) - 256)), (0, zr 7)]) dX4_readRule_183 rfl (by decide) rfl rfl ?_
                    refine zx_aload_n (k := 3) (nn := 185) dX4_readRule_184 rfl rfl rfl ?_
                    refine zx_dupr (nn := 186) dX4_readRule_185 rfl ?_
                    refine zx_getI (nn := 189) flX4_38 rfl rfl dX4_readRule_186 rfl ?_
                    show zX shC σ 14 MX4_readRule 189 [(3, zi (-(V ((rCnd K V nx).2.1 + 1)))), (2, zi (K (rCnd K V nx).2.1)), (1, zi ((μ 9 nx) - 256)), (0, zr 7)] [zi (nI ((rCnd K V nx).2.1 + 1)), zr 7] (zp ν1 7 7 (nI ((rCnd K V nx).2.1 + 1))) _
                    refine zx_iconst (v := 1) (nn := 190) rfl dX4_readRule_189 rfl ?_
                    refine zx_iadd (nn := 191) dX4_readRule_190 rfl ?_
                    rw [show (nI ((rCnd K V nx).2.1 + 1)) + 1 = nI ((rCnd K V nx).2.1 + 1 + 1) from nI_1 _]
                    show zX shC σ 14 MX4_readRule 191 [(3, zi (-(V ((rCnd K V nx).2.1 + 1)))), (2, zi (K (rCnd K V nx).2.1)), (1, zi ((μ 9 nx) - 256)), (0, zr 7)] [zi (nI ((rCnd K V nx).2.1 + 1 + 1)), zr 7] (zp ν1 7 7 (nI ((rCnd K V nx).2.1 + 1))) _
                    refine zx_putI (nn := 194) fpX4_38 rfl rfl rfl rfl dX4_readRule_191 rfl ?_
                    refine zx_aload_n (k := 3) (nn := 195) dX4_readRule_194 rfl rfl rfl ?_
                    refine zx_getR (q := 9) (nn := 198) flX4_15 rfl rfl dX4_readRule_195 rfl ?_
                    refine zx_aload_n (k := 3) (nn := 199) dX4_readRule_198 rfl rfl rfl ?_
                    refine zx_getI (nn := 202) flX4_38 rfl rfl dX4_readRule_199 rfl ?_
                    show zX shC σ 14 MX4_readRule 202 [(3, zi (-(V ((rCnd K V nx).2.1 + 1)))), (2, zi (K (rCnd K V nx).2.1)), (1, zi ((μ 9 nx) - 256)), (0, zr 7)] [zi (nI ((rCnd K V nx).2.1 + 1 + 1)), zr 9] (zp (zp ν1 7 7 (nI ((rCnd K V nx).2.1 + 1))) 7 7 (nI ((rCnd K V nx).2.1 + 1 + 1))) _
                    refine zx_iald_n (j := (rCnd K V nx).2.1 + 1 + 1) (nn := 203) rfl (by omega) (by decide) dX4_readRule_202 rfl ?_
                    show zX shC σ 14 MX4_readRule 203 [(3, zi (-(V ((rCnd K V nx).2.1 + 1)))), (2, zi (K (rCnd K V nx).2.1)), (1, zi ((μ 9 nx) - 256)), (0, zr 7)] [zi (ν1 9 ((rCnd K V nx).2.1 + 1 + 1))] (zp (zp ν1 7 7 (nI ((rCnd K V nx).2.1 + 1))) 7 7 (nI ((rCnd K V nx).2.1 + 1 + 1))) _
                    rw [show ν1 9 ((rCnd K V nx).2.1 + 1 + 1) = K ((rCnd K V nx).2.1 + 1 + 1) from hSc.1 ((rCnd K V nx).2.1 + 1 + 1) (by omega)]
                    show zX shC σ 14 MX4_readRule 203 [(3, zi (-(V ((rCnd K V nx).2.1 + 1)))), (2, zi (K (rCnd K V nx).2.1)), (1, zi ((μ 9 nx) - 256)), (0, zr 7)] [zi (K ((rCnd K V nx).2.1 + 1 + 1))] (zp (zp ν1 7 7 (nI ((rCnd K V nx).2.1 + 1))) 7 7 (nI ((rCnd K V nx).2.1 + 1 + 1))) _
                    refine zx_bipush (v := 59) (nn := 205) rfl dX4_readRule_203 rfl ?_
                    refine zx_icmp_eq (tgt := 210) (nn := 208) dX4_readRule_205 (by decide) rfl (fun h205 => ?_) (fun h205 => ?_)
                    · refine zx_aload_n (k := 3) (nn := 211) dX4_readRule_210 rfl rfl rfl ?_
                      refine zx_dupr (nn := 212) dX4_readRule_211 rfl ?_
                      refine zx_getI (nn := 215) flX4_38 rfl rfl dX4_readRule_212 rfl ?_
                      show zX shC σ 14 MX4_readRule 215 [(3, zi (-(V ((rCnd K V nx).2.1 + 1)))), (2, zi (K (rCnd K V nx).2.1)), (1, zi ((μ 9 nx) - 256)), (0, zr 7)] [zi (nI ((rCnd K V nx).2.1 + 1 + 1)), zr 7] (zp (zp ν1 7 7 (nI ((rCnd K V nx).2.1 + 1))) 7 7 (nI ((rCnd K V nx).2.1 + 1 + 1))) _
                      refine zx_iconst (v := 1) (nn := 216) rfl dX4_readRule_215 rfl ?_
                      refine zx_iadd (nn := 217) dX4_readRule_216 rfl ?_
                      rw [show (nI ((rCnd K V nx).2.1 + 1 + 1)) + 1 = nI ((rCnd K V nx).2.1 + 1 + 1 + 1) from nI_1 _]
                      show zX shC σ 14 MX4_readRule 217 [(3, zi (-(V ((rCnd K V nx).2.1 + 1)))), (2, zi (K (rCnd K V nx).2.1)), (1, zi ((μ 9 nx) - 256)), (0, zr 7)] [zi (nI ((rCnd K V nx).2.1 + 1 + 1 + 1)), zr 7] (zp (zp ν1 7 7 (nI ((rCnd K V nx).2.1 + 1))) 7 7 (nI ((rCnd K V nx).2.1 + 1 + 1))) _
                      refine zx_putI (nn := 220) fpX4_38 rfl rfl rfl rfl dX4_readRule_217 rfl ?_
                      refine zx_aload_n (k := 3) (nn := 221) dX4_readRule_220 rfl rfl rfl ?_
                      refine zx_getR (q := 12) (nn := 224) flX4_27 rfl rfl dX4_readRule_221 rfl ?_
                      refine zx_iload_n (k := 2) (nn := 225) dX4_readRule_224 rfl rfl rfl ?_
                      refine zx_iload_n (k := 0) (nn := 226) dX4_readRule_225 rfl rfl rfl ?_
                      refine zx_callVf (nn := 229) (k := 12) (d' := 0) (as := [zi ((μ 9 nx) - 256), zi (-(V ((rCnd K V nx).2.1 + 1)))]) (rest := []) (n := 2) (eX5_addRule_12 σ (zp (zp (zp ν1 7 7 (nI ((rCnd K V nx).2.1 + 1))) 7 7 (nI ((rCnd K V nx).2.1 + 1 + 1))) 7 7 (nI ((rCnd K V nx).2.1 + 1 + 1 + 1))) ((μ 9 nx) - 256) (-(V ((rCnd K V nx).2.1 + 1))) nr (by first | exact hnr1 | exact ((hEc.tr (rdE.nx.tr rdE.nx)).2.2 5 (by decide)).trans hnr | exact ((hEc.tr (rdE.nx.tr (rdE.nx.tr rdE.nx))).2.2 5 (by decide)).trans hnr) hnr8) kX5_addRule mlX4_56 rfl rfl rfl (by decide) rfl rfl (Nat.le_of_ble_eq_true rfl) dX4_readRule_226 rfl ?_
                      show zX shC σ 14 MX4_readRule 229 [(3, zi (-(V ((rCnd K V nx).2.1 + 1)))), (2, zi (K (rCnd K V nx).2.1)), (1, zi ((μ 9 nx) - 256)), (0, zr 7)] [] (zp (zp (zp (zp (zp (zp (zp ν1 7 7 (nI ((rCnd K V nx).2.1 + 1))) 7 7 (nI ((rCnd K V nx).2.1 + 1 + 1))) 7 7 (nI ((rCnd K V nx).2.1 + 1 + 1 + 1))) 13 nr ((μ 9 nx) - 256)) 14 nr (-(V ((rCnd K V nx).2.1 + 1)))) 15 nr ((zp (zp (zp ν1 7 7 (nI ((rCnd K V nx).2.1 + 1))) 7 7 (nI ((rCnd K V nx).2.1 + 1 + 1))) 7 7 (nI ((rCnd K V nx).2.1 + 1 + 1 + 1))) 12 6)) 12 5 (nI (nr + 1))) _
                      refine zx_iconst (v := 1) (nn := 230) rfl dX4_readRule_229 rfl ?_
                      refine zx_zret rfl rfl dX4_readRule_230 ?_
                      have hE : rRule K V nx = (true, (rCnd K V nx).2.1 + 1 + 1 + 1, (K nx - 256, (K (rCnd K V nx).2.1), V ((rCnd K V nx).2.1 + 1)), (rCnd K V nx).2.2.1, (rCnd K V nx).2.2.2) := by unfold rRule; rw [if_pos hkd, if_pos hc1, if_pos hdd, if_neg hd65, if_pos ⟨h135, h149⟩]; unfold rFin; rw [if_pos h205]
                      rw [hE]
                      have hE9 : rdE μ (zp (zp (zp ν1 7 7 (nI ((rCnd K V nx).2.1 + 1))) 7 7 (nI ((rCnd K V nx).2.1 + 1 + 1))) 7 7 (nI ((rCnd K V nx).2.1 + 1 + 1 + 1))) := ((hEc.tr rdE.nx).tr rdE.nx).tr rdE.nx
                      have hS9 : rdS K V c (zp (zp (zp ν1 7 7 (nI ((rCnd K V nx).2.1 + 1))) 7 7 (nI ((rCnd K V nx).2.1 + 1 + 1))) 7 7 (nI ((rCnd K V nx).2.1 + 1 + 1 + 1))) ((rCnd K V nx).2.1 + 1 + 1 + 1) (cc + (rCnd K V nx).2.2.1.length) := ((hSc.nx hnd).nx (by rw [h135]; decide)).nx (by rw [h205]; decide)
                      have hC9 : rdC μ (zp (zp (zp ν1 7 7 (nI ((rCnd K V nx).2.1 + 1))) 7 7 (nI ((rCnd K V nx).2.1 + 1 + 1))) 7 7 (nI ((rCnd K V nx).2.1 + 1 + 1 + 1))) cc (rCnd K V nx).2.2.1 := hCc.nx.nx.nx
                      obtain ⟨s1, s2, s3, s4, s5⟩ := hS9
                      refine ⟨rfl, ⟨(hE9.R.1.tr ((((zJ.rf.p (by decide)).p (by decide)).p (by decide)).p (by decide))), fun i hi => ?_⟩, ?_, fun _ => ⟨⟨fun k hk => ?_, fun k hk => ?_, s3, ⟨?_, s4.2⟩, ?_, s5.2⟩, ⟨fun j hj => ?_, fun j hj => ?_⟩, ?_, fun j hj => ⟨?_, ?_, ?_⟩, ?_, ?_, ?_, fun j hj => ?_⟩, fun h => by cases h⟩
                      · rw [zp_ne (by decide), zp_ne (by decide), zp_ne (by decide), zp_ne (by decide)]; exact hE9.2.1 i hi
                      · rw [zp_ne (by decide), zp_ne (by decide), zp_ne (by decide), zp_ne (by decide)]; exact s4.1
                      · rw [zp_ne (by decide), zp_ne (by decide), zp_ne (by decide), zp_ne (by decide)]; exact s1 k hk
                      · rw [zp_ne (by decide), zp_ne (by decide), zp_ne (by decide), zp_ne (by decide)]; exact s2 k hk
                      · rw [zp_ne (by decide), zp_ne (by decide), zp_ne (by decide), zp_ne (by decide)]; exact s4.1
                      · rw [zp_eq, pk_un (by decide), zp_ne (by decide), zp_ne (by decide), zp_ne (by decide)]; exact s5.1
                      · rw [zp_ne (by decide), zp_ne (by decide), zp_ne (by decide), zp_ne (by decide)]; exact hC9.1 j hj
                      · rw [zp_ne (by decide), zp_ne (by decide), zp_ne (by decide), zp_ne (by decide)]; exact hC9.2 j hj
                      · rw [zp_eq]; exact pk_us
                      · rw [zp_ne (by decide), zp_ne (by decide), zp_ne (by decide), zp_eq, pk_un (by omega), hE9.1 13 (by decide)]
                      · rw [zp_ne (by decide), zp_ne (by decide), zp_eq, pk_un (by omega), zp_ne (by decide), hE9.1 14 (by decide)]
                      · rw [zp_ne (by decide), zp_eq, pk_un (by omega), zp_ne (by decide), zp_ne (by decide), hE9.1 15 (by decide)]
                      · rw [zp_ne (by decide), zp_ne (by decide), zp_ne (by decide), zp_eq, pk_us, hk]
                      · rw [zp_ne (by decide), zp_ne (by decide), zp_eq, pk_us]; refine Eq.symm ?_; show (if (K (rCnd K V nx).2.1) = 265 then (1000 : Int32) else if (K (rCnd K V nx).2.1) = 263 then V ((rCnd K V nx).2.1 + 1) else -(V ((rCnd K V nx).2.1 + 1))) = _; rw [if_neg hd65, if_neg h158]
                      · rw [zp_ne (by decide), zp_eq, pk_us]; exact s5.1
                      · rw [zp_ne (by decide), zp_eq, pk_un (by omega), zp_ne (by decide), zp_ne (by decide), hE9.1 15 (by decide)]
                    · refine zx_iconst (v := 0) (nn := 209) rfl dX4_readRule_208 rfl ?_
                      refine zx_zret rfl rfl dX4_readRule_209 ?_
                      have hE : rRule K V nx = (false, (rCnd K V nx).2.1 + 1 + 1, pRl0) := by unfold rRule; rw [if_pos hkd, if_pos hc1, if_pos hdd, if_neg hd65, if_pos ⟨h135, h149⟩]; unfold rFin; rw [if_neg h205]
                      rw [hE]
                      exact ⟨rfl, ((hEc.tr rdE.nx).tr rdE.nx).R, by rw [zp_eq]; exact pk_us, (fun h => by cases h), fun _ => (((hEc.tr rdE.nx).tr rdE.nx)).1 15 (by decide)⟩
                  · refine zx_aload_n (k := 3) (nn := 162) dX4_readRule_161 rfl rfl rfl ?_
                    refine zx_getR (q := 10) (nn := 165) flX4_18 rfl rfl dX4_readRule_162 rfl ?_
                    refine zx_aload_n (k := 3) (nn := 166) dX4_readRule_165 rfl rfl rfl ?_
                    refine zx_getI (nn := 169) flX4_38 rfl rfl dX4_readRule_166 rfl ?_
                    show zX shC σ 14 MX4_readRule 169 [(3, zi 1000), (2, zi (K (rCnd K V nx).2.1)), (1, zi ((μ 9 nx) - 256)), (0, zr 7)] [zi (nI ((rCnd K V nx).2.1 + 1)), zr 10] (zp ν1 7 7 (nI ((rCnd K V nx).2.1 + 1))) _
                    refine zx_iald_n (j := (rCnd K V nx).2.1 + 1) (nn := 170) rfl (by omega) (by decide) dX4_readRule_169 rfl ?_
                    show zX shC σ 14 MX4_readRule 170 [(3, zi 1000), (2, zi (K (rCnd K V nx).2.1)), (1, zi ((μ 9 nx) - 256)), (0, zr 7)] [zi (ν1 10 ((rCnd K V nx).2.1 + 1))] (zp ν1 7 7 (nI ((rCnd K V nx).2.1 + 1))) _
                    rw [show ν1 10 ((rCnd K V nx).2.1 + 1) = V ((rCnd K V nx).2.1 + 1) from hSc.2.1 ((rCnd K V nx).2.1 + 1) (by omega)]
                    show zX shC σ 14 MX4_readRule 170 [(3, zi 1000), (2, zi (K (rCnd K V nx).2.1)), (1, zi ((μ 9 nx) - 256)), (0, zr 7)] [zi (V ((rCnd K V nx).2.1 + 1))] (zp ν1 7 7 (nI ((rCnd K V nx).2.1 + 1))) _
                    refine zx_goto (tgt := 183) dX4_readRule_170 (by decide) ?_
                    refine zx_istore_n (nn := 184) (lv' := [(3, zi (V ((rCnd K V nx).2.1 + 1))), (2, zi (K (rCnd K V nx).2.1)), (1, zi ((μ 9 nx) - 256)), (0, zr 7)]) dX4_readRule_183 rfl (by decide) rfl rfl ?_
                    refine zx_aload_n (k := 3) (nn := 185) dX4_readRule_184 rfl rfl rfl ?_
                    refine zx_dupr (nn := 186) dX4_readRule_185 rfl ?_
                    refine zx_getI (nn := 189) flX4_38 rfl rfl dX4_readRule_186 rfl ?_
                    show zX shC σ 14 MX4_readRule 189 [(3, zi (V ((rCnd K V nx).2.1 + 1))), (2, zi (K (rCnd K V nx).2.1)), (1, zi ((μ 9 nx) - 256)), (0, zr 7)] [zi (nI ((rCnd K V nx).2.1 + 1)), zr 7] (zp ν1 7 7 (nI ((rCnd K V nx).2.1 + 1))) _
                    refine zx_iconst (v := 1) (nn := 190) rfl dX4_readRule_189 rfl ?_
                    refine zx_iadd (nn := 191) dX4_readRule_190 rfl ?_
                    rw [show (nI ((rCnd K V nx).2.1 + 1)) + 1 = nI ((rCnd K V nx).2.1 + 1 + 1) from nI_1 _]
                    show zX shC σ 14 MX4_readRule 191 [(3, zi (V ((rCnd K V nx).2.1 + 1))), (2, zi (K (rCnd K V nx).2.1)), (1, zi ((μ 9 nx) - 256)), (0, zr 7)] [zi (nI ((rCnd K V nx).2.1 + 1 + 1)), zr 7] (zp ν1 7 7 (nI ((rCnd K V nx).2.1 + 1))) _
                    refine zx_putI (nn := 194) fpX4_38 rfl rfl rfl rfl dX4_readRule_191 rfl ?_
                    refine zx_aload_n (k := 3) (nn := 195) dX4_readRule_194 rfl rfl rfl ?_
                    refine zx_getR (q := 9) (nn := 198) flX4_15 rfl rfl dX4_readRule_195 rfl ?_
                    refine zx_aload_n (k := 3) (nn := 199) dX4_readRule_198 rfl rfl rfl ?_
                    refine zx_getI (nn := 202) flX4_38 rfl rfl dX4_readRule_199 rfl ?_
                    show zX shC σ 14 MX4_readRule 202 [(3, zi (V ((rCnd K V nx).2.1 + 1))), (2, zi (K (rCnd K V nx).2.1)), (1, zi ((μ 9 nx) - 256)), (0, zr 7)] [zi (nI ((rCnd K V nx).2.1 + 1 + 1)), zr 9] (zp (zp ν1 7 7 (nI ((rCnd K V nx).2.1 + 1))) 7 7 (nI ((rCnd K V nx).2.1 + 1 + 1))) _
                    refine zx_iald_n (j := (rCnd K V nx).2.1 + 1 + 1) (nn := 203) rfl (by omega) (by decide) dX4_readRule_202 rfl ?_
                    show zX shC σ 14 MX4_readRule 203 [(3, zi (V ((rCnd K V nx).2.1 + 1))), (2, zi (K (rCnd K V nx).2.1)), (1, zi ((μ 9 nx) - 256)), (0, zr 7)] [zi (ν1 9 ((rCnd K V nx).2.1 + 1 + 1))] (zp (zp ν1 7 7 (nI ((rCnd K V nx).2.1 + 1))) 7 7 (nI ((rCnd K V nx).2.1 + 1 + 1))) _
                    rw [show ν1 9 ((rCnd K V nx).2.1 + 1 + 1) = K ((rCnd K V nx).2.1 + 1 + 1) from hSc.1 ((rCnd K V nx).2.1 + 1 + 1) (by omega)]
                    show zX shC σ 14 MX4_readRule 203 [(3, zi (V ((rCnd K V nx).2.1 + 1))), (2, zi (K (rCnd K V nx).2.1)), (1, zi ((μ 9 nx) - 256)), (0, zr 7)] [zi (K ((rCnd K V nx).2.1 + 1 + 1))] (zp (zp ν1 7 7 (nI ((rCnd K V nx).2.1 + 1))) 7 7 (nI ((rCnd K V nx).2.1 + 1 + 1))) _
                    refine zx_bipush (v := 59) (nn := 205) rfl dX4_readRule_203 rfl ?_
                    refine zx_icmp_eq (tgt := 210) (nn := 208) dX4_readRule_205 (by decide) rfl (fun h205 => ?_) (fun h205 => ?_)
                    · refine zx_aload_n (k := 3) (nn := 211) dX4_readRule_210 rfl rfl rfl ?_
                      refine zx_dupr (nn := 212) dX4_readRule_211 rfl ?_
                      refine zx_getI (nn := 215) flX4_38 rfl rfl dX4_readRule_212 rfl ?_
                      show zX shC σ 14 MX4_readRule 215 [(3, zi (V ((rCnd K V nx).2.1 + 1))), (2, zi (K (rCnd K V nx).2.1)), (1, zi ((μ 9 nx) - 256)), (0, zr 7)] [zi (nI ((rCnd K V nx).2.1 + 1 + 1)), zr 7] (zp (zp ν1 7 7 (nI ((rCnd K V nx).2.1 + 1))) 7 7 (nI ((rCnd K V nx).2.1 + 1 + 1))) _
                      refine zx_iconst (v := 1) (nn := 216) rfl dX4_readRule_215 rfl ?_
                      refine zx_iadd (nn := 217) dX4_readRule_216 rfl ?_
                      rw [show (nI ((rCnd K V nx).2.1 + 1 + 1)) + 1 = nI ((rCnd K V nx).2.1 + 1 + 1 + 1) from nI_1 _]
                      show zX shC σ 14 MX4_readRule 217 [(3, zi (V ((rCnd K V nx).2.1 + 1))), (2, zi (K (rCnd K V nx).2.1)), (1, zi ((μ 9 nx) - 256)), (0, zr 7)] [zi (nI ((rCnd K V nx).2.1 + 1 + 1 + 1)), zr 7] (zp (zp ν1 7 7 (nI ((rCnd K V nx).2.1 + 1))) 7 7 (nI ((rCnd K V nx).2.1 + 1 + 1))) _
                      refine zx_putI (nn := 220) fpX4_38 rfl rfl rfl rfl dX4_readRule_217 rfl ?_
                      refine zx_aload_n (k := 3) (nn := 221) dX4_readRule_220 rfl rfl rfl ?_
                      refine zx_getR (q := 12) (nn := 224) flX4_27 rfl rfl dX4_readRule_221 rfl ?_
                      refine zx_iload_n (k := 2) (nn := 225) dX4_readRule_224 rfl rfl rfl ?_
                      refine zx_iload_n (k := 0) (nn := 226) dX4_readRule_225 rfl rfl rfl ?_
                      refine zx_callVf (nn := 229) (k := 12) (d' := 0) (as := [zi ((μ 9 nx) - 256), zi (V ((rCnd K V nx).2.1 + 1))]) (rest := []) (n := 2) (eX5_addRule_12 σ (zp (zp (zp ν1 7 7 (nI ((rCnd K V nx).2.1 + 1))) 7 7 (nI ((rCnd K V nx).2.1 + 1 + 1))) 7 7 (nI ((rCnd K V nx).2.1 + 1 + 1 + 1))) ((μ 9 nx) - 256) (V ((rCnd K V nx).2.1 + 1)) nr (by first | exact hnr1 | exact ((hEc.tr (rdE.nx.tr rdE.nx)).2.2 5 (by decide)).trans hnr | exact ((hEc.tr (rdE.nx.tr (rdE.nx.tr rdE.nx))).2.2 5 (by decide)).trans hnr) hnr8) kX5_addRule mlX4_56 rfl rfl rfl (by decide) rfl rfl (Nat.le_of_ble_eq_true rfl) dX4_readRule_226 rfl ?_
                      show zX shC σ 14 MX4_readRule 229 [(3, zi (V ((rCnd K V nx).2.1 + 1))), (2, zi (K (rCnd K V nx).2.1)), (1, zi ((μ 9 nx) - 256)), (0, zr 7)] [] (zp (zp (zp (zp (zp (zp (zp ν1 7 7 (nI ((rCnd K V nx).2.1 + 1))) 7 7 (nI ((rCnd K V nx).2.1 + 1 + 1))) 7 7 (nI ((rCnd K V nx).2.1 + 1 + 1 + 1))) 13 nr ((μ 9 nx) - 256)) 14 nr (V ((rCnd K V nx).2.1 + 1))) 15 nr ((zp (zp (zp ν1 7 7 (nI ((rCnd K V nx).2.1 + 1))) 7 7 (nI ((rCnd K V nx).2.1 + 1 + 1))) 7 7 (nI ((rCnd K V nx).2.1 + 1 + 1 + 1))) 12 6)) 12 5 (nI (nr + 1))) _
                      refine zx_iconst (v := 1) (nn := 230) rfl dX4_readRule_229 rfl ?_
                      refine zx_zret rfl rfl dX4_readRule_230 ?_
                      have hE : rRule K V nx = (true, (rCnd K V nx).2.1 + 1 + 1 + 1, (K nx - 256, (K (rCnd K V nx).2.1), V ((rCnd K V nx).2.1 + 1)), (rCnd K V nx).2.2.1, (rCnd K V nx).2.2.2) := by unfold rRule; rw [if_pos hkd, if_pos hc1, if_pos hdd, if_neg hd65, if_pos ⟨h135, h149⟩]; unfold rFin; rw [if_pos h205]
                      rw [hE]
                      have hE9 : rdE μ (zp (zp (zp ν1 7 7 (nI ((rCnd K V nx).2.1 + 1))) 7 7 (nI ((rCnd K V nx).2.1 + 1 + 1))) 7 7 (nI ((rCnd K V nx).2.1 + 1 + 1 + 1))) := ((hEc.tr rdE.nx).tr rdE.nx).tr rdE.nx
                      have hS9 : rdS K V c (zp (zp (zp ν1 7 7 (nI ((rCnd K V nx).2.1 + 1))) 7 7 (nI ((rCnd K V nx).2.1 + 1 + 1))) 7 7 (nI ((rCnd K V nx).2.1 + 1 + 1 + 1))) ((rCnd K V nx).2.1 + 1 + 1 + 1) (cc + (rCnd K V nx).2.2.1.length) := ((hSc.nx hnd).nx (by rw [h135]; decide)).nx (by rw [h205]; decide)
                      have hC9 : rdC μ (zp (zp (zp ν1 7 7 (nI ((rCnd K V nx).2.1 + 1))) 7 7 (nI ((rCnd K V nx).2.1 + 1 + 1))) 7 7 (nI ((rCnd K V nx).2.1 + 1 + 1 + 1))) cc (rCnd K V nx).2.2.1 := hCc.nx.nx.nx
                      obtain ⟨s1, s2, s3, s4, s5⟩ := hS9
                      refine ⟨rfl, ⟨(hE9.R.1.tr ((((zJ.rf.p (by decide)).p (by decide)).p (by decide)).p (by decide))), fun i hi => ?_⟩, ?_, fun _ => ⟨⟨fun k hk => ?_, fun k hk => ?_, s3, ⟨?_, s4.2⟩, ?_, s5.2⟩, ⟨fun j hj => ?_, fun j hj => ?_⟩, ?_, fun j hj => ⟨?_, ?_, ?_⟩, ?_, ?_, ?_, fun j hj => ?_⟩, fun h => by cases h⟩
                      · rw [zp_ne (by decide), zp_ne (by decide), zp_ne (by decide), zp_ne (by decide)]; exact hE9.2.1 i hi
                      · rw [zp_ne (by decide), zp_ne (by decide), zp_ne (by decide), zp_ne (by decide)]; exact s4.1
                      · rw [zp_ne (by decide), zp_ne (by decide), zp_ne (by decide), zp_ne (by decide)]; exact s1 k hk
                      · rw [zp_ne (by decide), zp_ne (by decide), zp_ne (by decide), zp_ne (by decide)]; exact s2 k hk
                      · rw [zp_ne (by decide), zp_ne (by decide), zp_ne (by decide), zp_ne (by decide)]; exact s4.1
                      · rw [zp_eq, pk_un (by decide), zp_ne (by decide), zp_ne (by decide), zp_ne (by decide)]; exact s5.1
                      · rw [zp_ne (by decide), zp_ne (by decide), zp_ne (by decide), zp_ne (by decide)]; exact hC9.1 j hj
                      · rw [zp_ne (by decide), zp_ne (by decide), zp_ne (by decide), zp_ne (by decide)]; exact hC9.2 j hj
                      · rw [zp_eq]; exact pk_us
                      · rw [zp_ne (by decide), zp_ne (by decide), zp_ne (by decide), zp_eq, pk_un (by omega), hE9.1 13 (by decide)]
                      · rw [zp_ne (by decide), zp_ne (by decide), zp_eq, pk_un (by omega), zp_ne (by decide), hE9.1 14 (by decide)]
                      · rw [zp_ne (by decide), zp_eq, pk_un (by omega), zp_ne (by decide), zp_ne (by decide), hE9.1 15 (by decide)]
                      · rw [zp_ne (by decide), zp_ne (by decide), zp_ne (by decide), zp_eq, pk_us, hk]
                      · rw [zp_ne (by decide), zp_ne (by decide), zp_eq, pk_us]; refine Eq.symm ?_; show (if (K (rCnd K V nx).2.1) = 265 then (1000 : Int32) else if (K (rCnd K V nx).2.1) = 263 then V ((rCnd K V nx).2.1 + 1) else -(V ((rCnd K V nx).2.1 + 1))) = _; rw [if_neg hd65, if_pos h158]
                      · rw [zp_ne (by decide), zp_eq, pk_us]; exact s5.1
                      · rw [zp_ne (by decide), zp_eq, pk_un (by omega), zp_ne (by decide), zp_ne (by decide), hE9.1 15 (by decide)]
                    · refine zx_iconst (v := 0) (nn := 209) rfl dX4_readRule_208 rfl ?_
                      refine zx_zret rfl rfl dX4_readRule_209 ?_
                      have hE : rRule K V nx = (false, (rCnd K V nx).2.1 + 1 + 1, pRl0) := by unfold rRule; rw [if_pos hkd, if_pos hc1, if_pos hdd, if_neg hd65, if_pos ⟨h135, h149⟩]; unfold rFin; rw [if_neg h205]
                      rw [hE]
                      exact ⟨rfl, ((hEc.tr rdE.nx).tr rdE.nx).R, by rw [zp_eq]; exact pk_us, (fun h => by cases h), fun _ => (((hEc.tr rdE.nx).tr rdE.nx)).1 15 (by decide)⟩
                · refine zx_iconst (v := 0) (nn := 153) rfl dX4_readRule_152 rfl ?_
                  refine zx_zret rfl rfl dX4_readRule_153 ?_
                  have hE : rRule K V nx = (false, (rCnd K V nx).2.1 + 1, pRl0) := by unfold rRule; rw [if_pos hkd, if_pos hc1, if_pos hdd, if_neg hd65, if_neg (fun q => h149 q.2)]
                  rw [hE]
                  exact ⟨rfl, (hEc.tr rdE.nx).R, by rw [zp_eq]; exact pk_us, (fun h => by cases h), fun _ => ((hEc.tr rdE.nx)).1 15 (by decide)⟩
          · refine zx_iload_n (k := 0) (nn := 88) dX4_readRule_87 rfl rfl rfl ?_
            refine zx_sipush (v := 264) (nn := 91) rfl dX4_readRule_88 rfl ?_
            refine zx_icmp_eq (tgt := 103) (nn := 94) dX4_readRule_91 (by decide) rfl (fun h91 => ?_) (fun h91 => ?_)
            · have hdd : (K (rCnd K V nx).2.1) = 263 ∨ (K (rCnd K V nx).2.1) = 264 ∨ (K (rCnd K V nx).2.1) = 265 := Or.inr (Or.inl h91)
              have hnd : (K (rCnd K V nx).2.1) ≠ -1 := fun e => by rw [e] at hdd; exact absurd hdd (by decide)
              have hncd : (rCnd K V nx).2.1 ≠ c := fun e => hnd (by rw [e]; exact hS.2.2.1.1)
              refine zx_aload_n (k := 2) (nn := 104) dX4_readRule_103 rfl rfl rfl ?_
              refine zx_dupr (nn := 105) dX4_readRule_104 rfl ?_
              refine zx_getI (nn := 108) flX4_38 rfl rfl dX4_readRule_105 rfl ?_
              rw [show ν1 7 7 = nI ((rCnd K V nx).2.1) from hSc.2.2.2.1.1]
              show zX shC σ 14 MX4_readRule 108 [(2, zi (K (rCnd K V nx).2.1)), (1, zi ((μ 9 nx) - 256)), (0, zr 7)] [zi (nI ((rCnd K V nx).2.1)), zr 7] ν1 _
              refine zx_iconst (v := 1) (nn := 109) rfl dX4_readRule_108 rfl ?_
              refine zx_iadd (nn := 110) dX4_readRule_109 rfl ?_
              rw [show (nI ((rCnd K V nx).2.1)) + 1 = nI ((rCnd K V nx).2.1 + 1) from nI_1 _]
              show zX shC σ 14 MX4_readRule 110 [(2, zi (K (rCnd K V nx).2.1)), (1, zi ((μ 9 nx) - 256)), (0, zr 7)] [zi (nI ((rCnd K V nx).2.1 + 1)), zr 7] ν1 _
              refine zx_putI (nn := 113) fpX4_38 rfl rfl rfl rfl dX4_readRule_110 rfl ?_
              refine zx_sipush (v := 1000) (nn := 116) rfl dX4_readRule_113 rfl ?_
              refine zx_istore_n (nn := 117) (lv' := [(3, zi 1000), (2, zi (K (rCnd K V nx).2.1)), (1, zi ((μ 9 nx) - 256)), (0, zr 7)]) dX4_readRule_116 rfl (by decide) rfl rfl ?_
              refine zx_iload_n (k := 1) (nn := 118) dX4_readRule_117 rfl rfl rfl ?_
              refine zx_sipush (v := 265) (nn := 121) rfl dX4_readRule_118 rfl ?_
              refine zx_icmp_eq (tgt := 194) (nn := 124) dX4_readRule_121 (by decide) rfl (fun h121 => ?_) (fun h121 => ?_)
              · refine zx_aload_n (k := 3) (nn := 195) dX4_readRule_194 rfl rfl rfl ?_
                refine zx_getR (q := 9) (nn := 198) flX4_15 rfl rfl dX4_readRule_195 rfl ?_
                refine zx_aload_n (k := 3) (nn := 199) dX4_readRule_198 rfl rfl rfl ?_
                refine zx_getI (nn := 202) flX4_38 rfl rfl dX4_readRule_199 rfl ?_
                show zX shC σ 14 MX4_readRule 202 [(3, zi 1000), (2, zi (K (rCnd K V nx).2.1)), (1, zi ((μ 9 nx) - 256)), (0, zr 7)] [zi (nI ((rCnd K V nx).2.1 + 1)), zr 9] (zp ν1 7 7 (nI ((rCnd K V nx).2.1 + 1))) _
                refine zx_iald_n (j := (rCnd K V nx).2.1 + 1) (nn := 203) rfl (by omega) (by decide) dX4_readRule_202 rfl ?_
                show zX shC σ 14 MX4_readRule 203 [(3, zi 1000), (2, zi (K (rCnd K V nx).2.1)), (1, zi ((μ 9 nx) - 256)), (0, zr 7)] [zi (ν1 9 ((rCnd K V nx).2.1 + 1))] (zp ν1 7 7 (nI ((rCnd K V nx).2.1 + 1))) _
                rw [show ν1 9 ((rCnd K V nx).2.1 + 1) = K ((rCnd K V nx).2.1 + 1) from hSc.1 ((rCnd K V nx).2.1 + 1) (by omega)]
                show zX shC σ 14 MX4_readRule 203 [(3, zi 1000), (2, zi (K (rCnd K V nx).2.1)), (1, zi ((μ 9 nx) - 256)), (0, zr 7)] [zi (K ((rCnd K V nx).2.1 + 1))] (zp ν1 7 7 (nI ((rCnd K V nx).2.1 + 1))) _
                refine zx_bipush (v := 59) (nn := 205) rfl dX4_readRule_203 rfl ?_
                refine zx_icmp_eq (tgt := 210) (nn := 208) dX4_readRule_205 (by decide) rfl (fun h205 => ?_) (fun h205 => ?_)
                · refine zx_aload_n (k := 3) (nn := 211) dX4_readRule_210 rfl rfl rfl ?_
                  refine zx_dupr (nn := 212) dX4_readRule_211 rfl ?_
                  refine zx_getI (nn := 215) flX4_38 rfl rfl dX4_readRule_212 rfl ?_
                  show zX shC σ 14 MX4_readRule 215 [(3, zi 1000), (2, zi (K (rCnd K V nx).2.1)), (1, zi ((μ 9 nx) - 256)), (0, zr 7)] [zi (nI ((rCnd K V nx).2.1 + 1)), zr 7] (zp ν1 7 7 (nI ((rCnd K V nx).2.1 + 1))) _
                  refine zx_iconst (v := 1) (nn := 216) rfl dX4_readRule_215 rfl ?_
                  refine zx_iadd (nn := 217) dX4_readRule_216 rfl ?_
                  rw [show (nI ((rCnd K V nx).2.1 + 1)) + 1 = nI ((rCnd K V nx).2.1 + 1 + 1) from nI_1 _]
                  show zX shC σ 14 MX4_readRule 217 [(3, zi 1000), (2, zi (K (rCnd K V nx).2.1)), (1, zi ((μ 9 nx) - 256)), (0, zr 7)] [zi (nI ((rCnd K V nx).2.1 + 1 + 1)), zr 7] (zp ν1 7 7 (nI ((rCnd K V nx).2.1 + 1))) _
                  refine zx_putI (nn := 220) fpX4_38 rfl rfl rfl rfl dX4_readRule_217 rfl ?_
                  refine zx_aload_n (k := 3) (nn := 221) dX4_readRule_220 rfl rfl rfl ?_
                  refine zx_getR (q := 12) (nn := 224) flX4_27 rfl rfl dX4_readRule_221 rfl ?_
                  refine zx_iload_n (k := 2) (nn := 225) dX4_readRule_224 rfl rfl rfl ?_
                  refine zx_iload_n (k := 0) (nn := 226) dX4_readRule_225 rfl rfl rfl ?_
                  refine zx_callVf (nn := 229) (k := 12) (d' := 0) (as := [zi ((μ 9 nx) - 256), zi 1000]) (rest := []) (n := 2) (eX5_addRule_12 σ (zp (zp ν1 7 7 (nI ((rCnd K V nx).2.1 + 1))) 7 7 (nI ((rCnd K V nx).2.1 + 1 + 1))) ((μ 9 nx) - 256) 1000 nr (by first | exact hnr1 | exact ((hEc.tr (rdE.nx.tr rdE.nx)).2.2 5 (by decide)).trans hnr | exact ((hEc.tr (rdE.nx.tr (rdE.nx.tr rdE.nx))).2.2 5 (by decide)).trans hnr) hnr8) kX5_addRule mlX4_56 rfl rfl rfl (by decide) rfl rfl (Nat.le_of_ble_eq_true rfl) dX4_readRule_226 rfl ?_
                  show zX shC σ 14 MX4_readRule 229 [(3, zi 1000), (2, zi (K (rCnd K V nx).2.1)), (1, zi ((μ 9 nx) - 256)), (0, zr 7)] [] (zp (zp (zp (zp (zp (zp ν1 7 7 (nI ((rCnd K V nx).2.1 + 1))) 7 7 (nI ((rCnd K V nx).2.1 + 1 + 1))) 13 nr ((μ 9 nx) - 256)) 14 nr 1000) 15 nr ((zp (zp ν1 7 7 (nI ((rCnd K V nx).2.1 + 1))) 7 7 (nI ((rCnd K V nx).2.1 + 1 + 1))) 12 6)) 12 5 (nI (nr + 1))) _
                  refine zx_iconst (v := 1) (nn := 230) rfl dX4_readRule_229 rfl ?_
                  refine zx_zret rfl rfl dX4_readRule_230 ?_
                  have hE : rRule K V nx = (true, (rCnd K V nx).2.1 + 1 + 1, (K nx - 256, 265, 0), (rCnd K V nx).2.2.1, (rCnd K V nx).2.2.2) := by unfold rRule; rw [if_pos hkd, if_pos hc1, if_pos hdd, if_pos h121]; unfold rFin; rw [if_pos h205]
                  rw [hE]
                  have hE9 : rdE μ (zp (zp ν1 7 7 (nI ((rCnd K V nx).2.1 + 1))) 7 7 (nI ((rCnd K V nx).2.1 + 1 + 1))) := (hEc.tr rdE.nx).tr rdE.nx
                  have hS9 : rdS K V c (zp (zp ν1 7 7 (nI ((rCnd K V nx).2.1 + 1))) 7 7 (nI ((rCnd K V nx).2.1 + 1 + 1))) ((rCnd K V nx).2.1 + 1 + 1) (cc + (rCnd K V nx).2.2.1.length) := (hSc.nx hnd).nx (by rw [h205]; decide)
                  have hC9 : rdC μ (zp (zp ν1 7 7 (nI ((rCnd K V nx).2.1 + 1))) 7 7 (nI ((rCnd K V nx).2.1 + 1 + 1))) cc (rCnd K V nx).2.2.1 := hCc.nx.nx
                  obtain ⟨s1, s2, s3, s4, s5⟩ := hS9
                  refine ⟨rfl, ⟨(hE9.R.1.tr ((((zJ.rf.p (by decide)).p (by decide)).p (by decide)).p (by decide))), fun i hi => ?_⟩, ?_, fun _ => ⟨⟨fun k hk => ?_, fun k hk => ?_, s3, ⟨?_, s4.2⟩, ?_, s5.2⟩, ⟨fun j hj => ?_, fun j hj => ?_⟩, ?_, fun j hj => ⟨?_, ?_, ?_⟩, ?_, ?_, ?_, fun j hj => ?_⟩, fun h => by cases h⟩
                  · rw [zp_ne (by decide), zp_ne (by decide), zp_ne (by decide), zp_ne (by decide)]; exact hE9.2.1 i hi
                  · rw [zp_ne (by decide), zp_ne (by decide), zp_ne (by decide), zp_ne (by decide)]; exact s4.1
                  · rw [zp_ne (by decide), zp_ne (by decide), zp_ne (by decide), zp_ne (by decide)]; exact s1 k hk
                  · rw [zp_ne (by decide), zp_ne (by decide), zp_ne (by decide), zp_ne (by decide)]; exact s2 k hk
                  · rw [zp_ne (by decide), zp_ne (by decide), zp_ne (by decide), zp_ne (by decide)]; exact s4.1
                  · rw [zp_eq, pk_un (by decide), zp_ne (by decide), zp_ne (by decide), zp_ne (by decide)]; exact s5.1
                  · rw [zp_ne (by decide), zp_ne (by decide), zp_ne (by decide), zp_ne (by decide)]; exact hC9.1 j hj
                  · rw [zp_ne (by decide), zp_ne (by decide), zp_ne (by decide), zp_ne (by decide)]; exact hC9.2 j hj
                  · rw [zp_eq]; exact pk_us
                  · rw [zp_ne (by decide), zp_ne (by decide), zp_ne (by decide), zp_eq, pk_un (by omega), hE9.1 13 (by decide)]
                  · rw [zp_ne (by decide), zp_ne (by decide), zp_eq, pk_un (by omega), zp_ne (by decide), hE9.1 14 (by decide)]
                  · rw [zp_ne (by decide), zp_eq, pk_un (by omega), zp_ne (by decide), zp_ne (by decide), hE9.1 15 (by decide)]
                  · rw [zp_ne (by decide), zp_ne (by decide), zp_ne (by decide), zp_eq, pk_us, hk]
                  · rw [zp_ne (by decide), zp_ne (by decide), zp_eq, pk_us]; refine Eq.symm ?_; rfl
                  · rw [zp_ne (by decide), zp_eq, pk_us]; exact s5.1
                  · rw [zp_ne (by decide), zp_eq, pk_un (by omega), zp_ne (by decide), zp_ne (by decide), hE9.1 15 (by decide)]
                · refine zx_iconst (v := 0) (nn := 209) rfl dX4_readRule_208 rfl ?_
                  refine zx_zret rfl rfl dX4_readRule_209 ?_
                  have hE : rRule K V nx = (false, (rCnd K V nx).2.1 + 1, pRl0) := by unfold rRule; rw [if_pos hkd, if_pos hc1, if_pos hdd, if_pos h121]; unfold rFin; rw [if_neg h205]
                  rw [hE]
                  exact ⟨rfl, (hEc.tr rdE.nx).R, by rw [zp_eq]; exact pk_us, (fun h => by cases h), fun _ => ((hEc.tr rdE.nx)).1 15 (by decide)⟩
              · have hd65 : ¬ (K (rCnd K V nx).2.1) = 265 := h121
                refine zx_aload_n (k := 3) (nn := 125) dX4_readRule_124 rfl rfl rfl ?_
                refine zx_getR (q := 9) (nn := 128) flX4_15 rfl rfl dX4_readRule_125 rfl ?_
                refine zx_aload_n (k := 3) (nn := 129) dX4_readRule_128 rfl rfl rfl ?_
                refine zx_getI (nn := 132) flX4_38 rfl rfl dX4_readRule_129 rfl ?_
                show zX shC σ 14 MX4_readRule 132 [(3, zi 1000), (2, zi (K (rCnd K V nx).2.1)), (1, zi ((μ 9 nx) - 256)), (0, zr 7)] [zi (nI ((rCnd K V nx).2.1 + 1)), zr 9] (zp ν1 7 7 (nI ((rCnd K V nx).2.1 + 1))) _
                refine zx_iald_n (j := (rCnd K V nx).2.1 + 1) (nn := 133) rfl (by omega) (by decide) dX4_readRule_132 rfl ?_
                show zX shC σ 14 MX4_readRule 133 [(3, zi 1000), (2, zi (K (rCnd K V nx).2.1)), (1, zi ((μ 9 nx) - 256)), (0, zr 7)] [zi (ν1 9 ((rCnd K V nx).2.1 + 1))] (zp ν1 7 7 (nI ((rCnd K V nx).2.1 + 1))) _
                rw [show ν1 9 ((rCnd K V nx).2.1 + 1) = K ((rCnd K V nx).2.1 + 1) from hSc.1 ((rCnd K V nx).2.1 + 1) (by omega)]
                show zX shC σ 14 MX4_readRule 133 [(3, zi 1000), (2, zi (K (rCnd K V nx).2.1)), (1, zi ((μ 9 nx) - 256)), (0, zr 7)] [zi (K ((rCnd K V nx).2.1 + 1))] (zp ν1 7 7 (nI ((rCnd K V nx).2.1 + 1))) _
                refine zx_bipush (v := -2) (nn := 135) rfl dX4_readRule_133 rfl ?_
                refine zx_icmp_ne (tgt := 152) (nn := 138) dX4_readRule_135 (by decide) rfl (fun h135 => ?_) (fun h135 => ?_)
                · refine zx_iconst (v := 0) (nn := 153) rfl dX4_readRule_152 rfl ?_
                  refine zx_zret rfl rfl dX4_readRule_153 ?_
                  have hE : rRule K V nx = (false, (rCnd K V nx).2.1 + 1, pRl0) := by unfold rRule; rw [if_pos hkd, if_pos hc1, if_pos hdd, if_neg hd65, if_neg (fun q => h135 q.1)]
                  rw [hE]
                  exact ⟨rfl, (hEc.tr rdE.nx).R, by rw [zp_eq]; exact pk_us, (fun h => by cases h), fun _ => ((hEc.tr rdE.nx)).1 15 (by decide)⟩
                · have hnc3 : (rCnd K V nx).2.1 + 1 ≠ c := fun e => by rw [e, hS.2.2.1.1] at h135; exact absurd h135 (by decide)
                  refine zx_aload_n (k := 3) (nn := 139) dX4_readRule_138 rfl rfl rfl ?_
                  refine zx_getR (q := 10) (nn := 142) flX4_18 rfl rfl dX4_readRule_139 rfl ?_
                  refine zx_aload_n (k := 3) (nn := 143) dX4_readRule_142 rfl rfl rfl ?_
                  refine zx_getI (nn := 146) flX4_38 rfl rfl dX4_readRule_143 rfl ?_
                  show zX shC σ 14 MX4_readRule 146 [(3, zi 1000), (2, zi (K (rCnd K V nx).2.1)), (1, zi ((μ 9 nx) - 256)), (0, zr 7)] [zi (nI ((rCnd K V nx).2.1 + 1)), zr 10] (zp ν1 7 7 (nI ((rCnd K V nx).2.1 + 1))) _
                  refine zx_iald_n (j := (rCnd K V nx).2.1 + 1) (nn := 147) rfl (by omega) (by decide) dX4_readRule_146 rfl ?_
                  show zX shC σ 14 MX4_readRule 147 [(3, zi 1000), (2, zi (K (rCnd K V nx).2.1)), (1, zi ((μ 9 nx) - 256)), (0, zr 7)] [zi (ν1 10 ((rCnd K V nx).2.1 + 1))] (zp ν1 7 7 (nI ((rCnd K V nx).2.1 + 1))) _
                  rw [show ν1 10 ((rCnd K V nx).2.1 + 1) = V ((rCnd K V nx).2.1 + 1) from hSc.2.1 ((rCnd K V nx).2.1 + 1) (by omega)]
                  show zX shC σ 14 MX4_readRule 147 [(3, zi 1000), (2, zi (K (rCnd K V nx).2.1)), (1, zi ((μ 9 nx) - 256)), (0, zr 7)] [zi (V ((rCnd K V nx).2.1 + 1))] (zp ν1 7 7 (nI ((rCnd K V nx).2.1 + 1))) _
                  refine zx_bipush (v := 99) (nn := 149) rfl dX4_readRule_147 rfl ?_
                  refine zx_icmp_le (tgt := 154) (nn := 152) dX4_readRule_149 (by decide) rfl (fun h149 => ?_) (fun h149 => ?_)
                  · refine zx_iload_n (k := 1) (nn := 155) dX4_readRule_154 rfl rfl rfl ?_
                    refine zx_sipush (v := 263) (nn := 158) rfl dX4_readRule_155 rfl ?_
                    refine zx_icmp_ne (tgt := 173) (nn := 161) dX4_readRule_158 (by decide) rfl (fun h158 => ?_) (fun h158 => ?_)
                    · refine zx_aload_n (k := 3) (nn := 174) dX4_readRule_173 rfl rfl rfl ?_
                      refine zx_getR (q := 10) (nn := 177) flX4_18 rfl rfl dX4_readRule_174 rfl ?_
                      refine zx_aload_n (k := 3) (nn := 178) dX4_readRule_177 rfl rfl rfl ?_
                      refine zx_getI (nn := 181) flX4_38 rfl rfl dX4_readRule_178 rfl ?_
                      show zX shC σ 14 MX4_readRule 181 [(3, zi 1000), (2, zi (K (rCnd K V nx).2.1)), (1, zi ((μ 9 nx) - 256)), (0, zr 7)] [zi (nI ((rCnd K V nx).2.1 + 1)), zr 10] (zp ν1 7 7 (nI ((rCnd K V nx).2.1 + 1))) _
                      refine zx_iald_n (j := (rCnd K V nx).2.1 + 1) (nn := 182) rfl (by omega) (by decide) dX4_readRule_181 rfl ?_
                      show zX shC σ 14 MX4_readRule 182 [(3, zi 1000), (2, zi (K (rCnd K V nx).2.1)), (1, zi ((μ 9 nx) - 256)), (0, zr 7)] [zi (ν1 10 ((rCnd K V nx).2.1 + 1))] (zp ν1 7 7 (nI ((rCnd K V nx).2.1 + 1))) _
                      rw [show ν1 10 ((rCnd K V nx).2.1 + 1) = V ((rCnd K V nx).2.1 + 1) from hSc.2.1 ((rCnd K V nx).2.1 + 1) (by omega)]
                      show zX shC σ 14 MX4_readRule 182 [(3, zi 1000), (2, zi (K (rCnd K V nx).2.1)), (1, zi ((μ 9 nx) - 256)), (0, zr 7)] [zi (V ((rCnd K V nx).2.1 + 1))] (zp ν1 7 7 (nI ((rCnd K V nx).2.1 + 1))) _
                      refine zx_ineg (nn := 183) dX4_readRule_182 rfl ?_
                      refine zx_istore_n (nn := 184) (lv' := [(3, zi (-(V ((rCnd K V nx).2.1 + 1)))), (2, zi (K (rCnd K V nx).2.1)), (1, zi ((μ 9 nx) - 256)), (0, zr 7)]) dX4_readRule_183 rfl (by decide) rfl rfl ?_
                      refine zx_aload_n (k := 3) (nn := 185) dX4_readRule_184 rfl rfl rfl ?_
                      refine zx_dupr (nn := 186) dX4_readRule_185 rfl ?_
                      refine zx_getI (nn := 189) flX4_38 rfl rfl dX4_readRule_186 rfl ?_
                      show zX shC σ 14 MX4_readRule 189 [(3, zi (-(V ((rCnd K V nx).2.1 + 1)))), (2, zi (K (rCnd K V nx).2.1)), (1, zi ((μ 9 nx) - 256)), (0, zr 7)] [zi (nI ((rCnd K V nx).2.1 + 1)), zr 7] (zp ν1 7 7 (nI ((rCnd K V nx).2.1 + 1))) _
                      refine zx_iconst (v := 1) (nn := 190) rfl dX4_readRule_189 rfl ?_
                      refine zx_iadd (nn := 191) dX4_readRule_190 rfl ?_
                      rw [show (nI ((rCnd K V nx).2.1 + 1)) + 1 = nI ((rCnd K V nx).2.1 + 1 + 1) from nI_1 _]
                      show zX shC σ 14 MX4_readRule 191 [(3, zi (-(V ((rCnd K V nx).2.1 + 1)))), (2, zi (K (rCnd K V nx).2.1)), (1, zi ((μ 9 nx) - 256)), (0, zr 7)] [zi (nI ((rCnd K V nx).2.1 + 1 + 1)), zr 7] (zp ν1 7 7 (nI ((rCnd K V nx).2.1 + 1))) _
                      refine zx_putI (nn := 194) fpX4_38 rfl rfl rfl rfl dX4_readRule_191 rfl ?_
                      refine zx_aload_n (k := 3) (nn := 195) dX4_readRule_194 rfl rfl rfl ?_
                      refine zx_getR (q := 9) (nn := 198) flX4_15 rfl rfl dX4_readRule_195 rfl ?_
                      refine zx_aload_n (k := 3) (nn := 199) dX4_readRule_198 rfl rfl rfl ?_
                      refine zx_getI (nn := 202) flX4_38 rfl rfl dX4_readRule_199 rfl ?_
                      show zX shC σ 14 MX4_readRule 202 [(3, zi (-(V ((rCnd K V nx).2.1 + 1)))), (2, zi (K (rCnd K V nx).2.1)), (1, zi ((μ 9 nx) - 256)), (0, zr 7)] [zi (nI ((rCnd K V nx).2.1 + 1 + 1)), zr 9] (zp (zp ν1 7 7 (nI ((rCnd K V nx).2.1 + 1))) 7 7 (nI ((rCnd K V nx).2.1 + 1 + 1))) _
                      refine zx_iald_n (j := (rCnd K V nx).2.1 + 1 + 1) (nn := 203) rfl (by omega) (by decide) dX4_readRule_202 rfl ?_
                      show zX shC σ 14 MX4_readRule 203 [(3, zi (-(V ((rCnd K V nx).2.1 + 1)))), (2, zi (K (rCnd K V nx).2.1)), (1, zi ((μ 9 nx) - 256)), (0, zr 7)] [zi (ν1 9 ((rCnd K V nx).2.1 + 1 + 1))] (zp (zp ν1 7 7 (nI ((rCnd K V nx).2.1 + 1))) 7 7 (nI ((rCnd K V nx).2.1 + 1 + 1))) _
                      rw [show ν1 9 ((rCnd K V nx).2.1 + 1 + 1) = K ((rCnd K V nx).2.1 + 1 + 1) from hSc.1 ((rCnd K V nx).2.1 + 1 + 1) (by omega)]
                      show zX shC σ 14 MX4_readRule 203 [(3, zi (-(V ((rCnd K V nx).2.1 + 1)))), (2, zi (K (rCnd K V nx).2.1)), (1, zi ((μ 9 nx) - 256)), (0, zr 7)] [zi (K ((rCnd K V nx).2.1 + 1 + 1))] (zp (zp ν1 7 7 (nI ((rCnd K V nx).2.1 + 1))) 7 7 (nI ((rCnd K V nx).2.1 + 1 + 1))) _
                      refine zx_bipush (v := 59) (nn := 205) rfl dX4_readRule_203 rfl ?_
                      refine zx_icmp_eq (tgt := 210) (nn := 208) dX4_readRule_205 (by decide) rfl (fun h205 => ?_) (fun h205 => ?_)
                      · refine zx_aload_n (k := 3) (nn := 211) dX4_readRule_210 rfl rfl rfl ?_
                        refine zx_dupr (nn := 212) dX4_readRule_211 rfl ?_
                        refine zx_getI (nn := 215) flX4_38 rfl rfl dX4_readRule_212 rfl ?_
                        show zX shC σ 14 MX4_readRule 215 [(3, zi (-(V ((rCnd K V nx).2.1 + 1)))), (2, zi (K (rCnd K V nx).2.1)), (1, zi ((μ 9 nx) - 256)), (0, zr 7)] [zi (nI ((rCnd K V nx).2.1 + 1 + 1)), zr 7] (zp (zp ν1 7 7 (nI ((rCnd K V nx).2.1 + 1))) 7 7 (nI ((rCnd K V nx).2.1 + 1 + 1))) _
                        refine zx_iconst (v := 1) (nn := 216) rfl dX4_readRule_215 rfl ?_
                        refine zx_iadd (nn := 217) dX4_readRule_216 rfl ?_
                        rw [show (nI ((rCnd K V nx).2.1 + 1 + 1)) + 1 = nI ((rCnd K V nx).2.1 + 1 + 1 + 1) from nI_1 _]
                        show zX shC σ 14 MX4_readRule 217 [(3, zi (-(V ((rCnd K V nx).2.1 + 1)))), (2, zi (K (rCnd K V nx).2.1)), (1, zi ((μ 9 nx) - 256)), (0, zr 7)] [zi (nI ((rCnd K V nx).2.1 + 1 + 1 + 1)), zr 7] (zp (zp ν1 7 7 (nI ((rCnd K V nx).2.1 + 1))) 7 7 (nI ((rCnd K V nx).2.1 + 1 + 1))) _
                        refine zx_putI (nn := 220) fpX4_38 rfl rfl rfl rfl dX4_readRule_217 rfl ?_
                        refine zx_aload_n (k := 3) (nn := 221) dX4_readRule_220 rfl rfl rfl ?_
                        refine zx_getR (q := 12) (nn := 224) flX4_27 rfl rfl dX4_readRule_221 rfl ?_
                        refine zx_iload_n (k := 2) (nn := 225) dX4_readRule_224 rfl rfl rfl ?_
                        refine zx_iload_n (k := 0) (nn := 226) dX4_readRule_225 rfl rfl rfl ?_
                        refine zx_callVf (nn := 229) (k := 12) (d' := 0) (as := [zi ((μ 9 nx) - 256), zi (-(V ((rCnd K V nx).2.1 + 1)))]) (rest := []) (n := 2) (eX5_addRule_12 σ (zp (zp (zp ν1 7 7 (nI ((rCnd K V nx).2.1 + 1))) 7 7 (nI ((rCnd K V nx).2.1 + 1 + 1))) 7 7 (nI ((rCnd K V nx).2.1 + 1 + 1 + 1))) ((μ 9 nx) - 256) (-(V ((rCnd K V nx).2.1 + 1))) nr (by first | exact hnr1 | exact ((hEc.tr (rdE.nx.tr rdE.nx)).2.2 5 (by decide)).trans hnr | exact ((hEc.tr (rdE.nx.tr (rdE.nx.tr rdE.nx))).2.2 5 (by decide)).trans hnr) hnr8) kX5_addRule mlX4_56 rfl rfl rfl (by decide) rfl rfl (Nat.le_of_ble_eq_true rfl) dX4_readRule_226 rfl ?_
                        show zX shC σ 14 MX4_readRule 229 [(3, zi (-(V ((rCnd K V nx).2.1 + 1)))), (2, zi (K (rCnd K V nx).2.1)), (1, zi ((μ 9 nx) - 256)), (0, zr 7)] [] (zp (zp (zp (zp (zp (zp (zp ν1 7 7 (nI ((rCnd K V nx).2.1 + 1))) 7 7 (nI ((rCnd K V nx).2.1 + 1 + 1))) 7 7 (nI ((rCnd K V nx).2.1 + 1 + 1 + 1))) 13 nr ((μ 9 nx) - 256)) 14 nr (-(V ((rCnd K V nx).2.1 + 1)))) 15 nr ((zp (zp (zp ν1 7 7 (nI ((rCnd K V nx).2.1 + 1))) 7 7 (nI ((rCnd K V nx).2.1 + 1 + 1))) 7 7 (nI ((rCnd K V nx).2.1 + 1 + 1 + 1))) 12 6)) 12 5 (nI (nr + 1))) _
                        refine zx_iconst (v := 1) (nn := 230) rfl dX4_readRule_229 rfl ?_
                        refine zx_zret rfl rfl dX4_readRule_230 ?_
                        have hE : rRule K V nx = (true, (rCnd K V nx).2.1 + 1 + 1 + 1, (K nx - 256, (K (rCnd K V nx).2.1), V ((rCnd K V nx).2.1 + 1)), (rCnd K V nx).2.2.1, (rCnd K V nx).2.2.2) := by unfold rRule; rw [if_pos hkd, if_pos hc1, if_pos hdd, if_neg hd65, if_pos ⟨h135, h149⟩]; unfold rFin; rw [if_pos h205]
                        rw [hE]
                        have hE9 : rdE μ (zp (zp (zp ν1 7 7 (nI ((rCnd K V nx).2.1 + 1))) 7 7 (nI ((rCnd K V nx).2.1 + 1 + 1))) 7 7 (nI ((rCnd K V nx).2.1 + 1 + 1 + 1))) := ((hEc.tr rdE.nx).tr rdE.nx).tr rdE.nx
                        have hS9 : rdS K V c (zp (zp (zp ν1 7 7 (nI ((rCnd K V nx).2.1 + 1))) 7 7 (nI ((rCnd K V nx).2.1 + 1 + 1))) 7 7 (nI ((rCnd K V nx).2.1 + 1 + 1 + 1))) ((rCnd K V nx).2.1 + 1 + 1 + 1) (cc + (rCnd K V nx).2.2.1.length) := ((hSc.nx hnd).nx (by rw [h135]; decide)).nx (by rw [h205]; decide)
                        have hC9 : rdC μ (zp (zp (zp ν1 7 7 (nI ((rCnd K V nx).2.1 + 1))) 7 7 (nI ((rCnd K V nx).2.1 + 1 + 1))) 7 7 (nI ((rCnd K V nx).2.1 + 1 + 1 + 1))) cc (rCnd K V nx).2.2.1 := hCc.nx.nx.nx
                        obtain ⟨s1, s2, s3, s4, s5⟩ := hS9
                        refine ⟨rfl, ⟨(hE9.R.1.tr ((((zJ.rf.p (by decide)).p (by decide)).p (by decide)).p (by decide))), fun i hi => ?_⟩, ?_, fun _ => ⟨⟨fun k hk => ?_, fun k hk => ?_, s3, ⟨?_, s4.2⟩, ?_, s5.2⟩, ⟨fun j hj => ?_, fun j hj => ?_⟩, ?_, fun j hj => ⟨?_, ?_, ?_⟩, ?_, ?_, ?_, fun j hj => ?_⟩, fun h => by cases h⟩
                        · rw [zp_ne (by decide), zp_ne (by decide), zp_ne (by decide), zp_ne (by decide)]; exact hE9.2.1 i hi
                        · rw [zp_ne (by decide), zp_ne (by decide), zp_ne (by decide), zp_ne (by decide)]; exact s4.1
                        · rw [zp_ne (by decide), zp_ne (by decide), zp_ne (by decide), zp_ne (by decide)]; exact s1 k hk
                        · rw [zp_ne (by decide), zp_ne (by decide), zp_ne (by decide), zp_ne (by decide)]; exact s2 k hk
                        · rw [zp_ne (by decide), zp_ne (by decide), zp_ne (by decide), zp_ne (by decide)]; exact s4.1
                        · rw [zp_eq, pk_un (by decide), zp_ne (by decide), zp_ne (by decide), zp_ne (by decide)]; exact s5.1
                        · rw [zp_ne (by decide), zp_ne (by decide), zp_ne (by decide), zp_ne (by decide)]; exact hC9.1 j hj
                        · rw [zp_ne (by decide), zp_ne (by decide), zp_ne (by decide), zp_ne (by decide)]; exact hC9.2 j hj
                        · rw [zp_eq]; exact pk_us
                        · rw [zp_ne (by decide), zp_ne (by decide), zp_ne (by decide), zp_eq, pk_un (by omega), hE9.1 13 (by decide)]
                        · rw [zp_ne (by decide), zp_ne (by decide), zp_eq, pk_un (by omega), zp_ne (by decide), hE9.1 14 (by decide)]
                        · rw [zp_ne (by decide), zp_eq, pk_un (by omega), zp_ne (by decide), zp_ne (by decide), hE9.1 15 (by decide)]
                        · rw [zp_ne (by decide), zp_ne (by decide), zp_ne (by decide), zp_eq, pk_us, hk]
                        · rw [zp_ne (by decide), zp_ne (by decide), zp_eq, pk_us]; refine Eq.symm ?_; show (if (K (rCnd K V nx).2.1) = 265 then (1000 : Int32) else if (K (rCnd K V nx).2.1) = 263 then V ((rCnd K V nx).2.1 + 1) else -(V ((rCnd K V nx).2.1 + 1))) = _; rw [if_neg hd65, if_neg h158]
                        · rw [zp_ne (by decide), zp_eq, pk_us]; exact s5.1
                        · rw [zp_ne (by decide), zp_eq, pk_un (by omega), zp_ne (by decide), zp_ne (by decide), hE9.1 15 (by decide)]
                      · refine zx_iconst (v := 0) (nn := 209) rfl dX4_readRule_208 rfl ?_
                        refine zx_zret rfl rfl dX4_readRule_209 ?_
                        have hE : rRule K V nx = (false, (rCnd K V nx).2.1 + 1 + 1, pRl0) := by unfold rRule; rw [if_pos hkd, if_pos hc1, if_pos hdd, if_neg hd65, if_pos ⟨h135, h149⟩]; unfold rFin; rw [if_neg h205]
                        rw [hE]
                        exact ⟨rfl, ((hEc.tr rdE.nx).tr rdE.nx).R, by rw [zp_eq]; exact pk_us, (fun h => by cases h), fun _ => (((hEc.tr rdE.nx).tr rdE.nx)).1 15 (by decide)⟩
                    · refine zx_aload_n (k := 3) (nn := 162) dX4_readRule_161 rfl rfl rfl ?_
                      refine zx_getR (q := 10) (nn := 165) flX4_18 rfl rfl dX4_readRule_162 rfl ?_
                      refine zx_aload_n (k := 3) (nn := 166) dX4_readRule_165 rfl rfl rfl ?_
                      refine zx_getI (nn := 169) flX4_38 rfl rfl dX4_readRule_166 rfl ?_
                      show zX shC σ 14 MX4_readRule 169 [(3, zi 1000), (2, zi (K (rCnd K V nx).2.1)), (1, zi ((μ 9 nx) - 256)), (0, zr 7)] [zi (nI ((rCnd K V nx).2.1 + 1)), zr 10] (zp ν1 7 7 (nI ((rCnd K V nx).2.1 + 1))) _
                      refine zx_iald_n (j := (rCnd K V nx).2.1 + 1) (nn := 170) rfl (by omega) (by decide) dX4_readRule_169 rfl ?_
                      show zX shC σ 14 MX4_readRule 170 [(3, zi 1000), (2, zi (K (rCnd K V nx).2.1)), (1, zi ((μ 9 nx) - 256)), (0, zr 7)] [zi (ν1 10 ((rCnd K V nx).2.1 + 1))] (zp ν1 7 7 (nI ((rCnd K V nx).2.1 + 1))) _
                      rw [show ν1 10 ((rCnd K V nx).2.1 + 1) = V ((rCnd K V nx).2.1 + 1) from hSc.2.1 ((rCnd K V nx).2.1 + 1) (by omega)]
                      show zX shC σ 14 MX4_readRule 170 [(3, zi 1000), (2, zi (K (rCnd K V nx).2.1)), (1, zi ((μ 9 nx) - 256)), (0, zr 7)] [zi (V ((rCnd K V nx).2.1 + 1))] (zp ν1 7 7 (nI ((rCnd K V nx).2.1 + 1))) _
                      refine zx_goto (tgt := 183) dX4_readRule_170 (by decide) ?_
                      refine zx_istore_n (nn := 184) (lv' := [(3, zi (V ((rCnd K V nx).2.1 + 1))), (2, zi (K (rCnd K V nx).2.1)), (1, zi ((μ 9 nx) - 256)), (0, zr 7)]) dX4_readRule_183 rfl (by decide) rfl rfl ?_
                      refine zx_aload_n (k := 3) (nn := 185) dX4_readRule_184 rfl rfl rfl ?_
                      refine zx_dupr (nn := 186) dX4_readRule_185 rfl ?_
                      refine zx_getI (nn := 189) flX4_38 rfl rfl dX4_readRule_186 rfl ?_
                      show zX shC σ 14 MX4_readRule 189 [(3, zi (V ((rCnd K V nx).2.1 + 1))), (2, zi (K (rCnd K V nx).2.1)), (1, zi ((μ 9 nx) - 256)), (0, zr 7)] [zi (nI ((rCnd K V nx).2.1 + 1)), zr 7] (zp ν1 7 7 (nI ((rCnd K V nx).2.1 + 1))) _
                      refine zx_iconst (v := 1) (nn := 190) rfl dX4_readRule_189 rfl ?_
                      refine zx_iadd (nn := 191) dX4_readRule_190 rfl ?_
                      rw [show (nI ((rCnd K V nx).2.1 + 1)) + 1 = nI ((rCnd K V nx).2.1 + 1 + 1) from nI_1 _]
                      show zX shC σ 14 MX4_readRule 191 [(3, zi (V ((rCnd K V nx).2.1 + 1))), (2, zi (K (rCnd K V nx).2.1)), (1, zi ((μ 9 nx) - 256)), (0, zr 7)] [zi (nI ((rCnd K V nx).2.1 + 1 + 1)), zr 7] (zp ν1 7 7 (nI ((rCnd K V nx).2.1 + 1))) _
                      refine zx_putI (nn := 194) fpX4_38 rfl rfl rfl rfl dX4_readRule_191 rfl ?_
                      refine zx_aload_n (k := 3) (nn := 195) dX4_readRule_194 rfl rfl rfl ?_
                      refine zx_getR (q := 9) (nn := 198) flX4_15 rfl rfl dX4_readRule_195 rfl ?_
                      refine zx_aload_n (k := 3) (nn := 199) dX4_readRule_198 rfl rfl rfl ?_
                      refine zx_getI (nn := 202) flX4_38 rfl rfl dX4_readRule_199 rfl ?_
                      show zX shC σ 14 MX4_readRule 202 [(3, zi (V ((rCnd K V nx).2.1 + 1))), (2, zi (K (rCnd K V nx).2.1)), (1, zi ((μ 9 nx) - 256)), (0, zr 7)] [zi (nI ((rCnd K V nx).2.1 + 1 + 1)), zr 9] (zp (zp ν1 7 7 (nI ((rCnd K V nx).2.1 + 1))) 7 7 (nI ((rCnd K V nx).2.1 + 1 + 1))) _
                      refine zx_iald_n (j := (rCnd K V nx).2.1 + 1 + 1) (nn := 203) rfl (by omega) (by decide) dX4_readRule_202 rfl ?_
                      show zX shC σ 14 MX4_readRule 203 [(3, zi (V ((rCnd K V nx).2.1 + 1))), (2, zi (K (rCnd K V nx).2.1)), (1, zi ((μ 9 nx) - 256)), (0, zr 7)] [zi (ν1 9 ((rCnd K V nx).2.1 + 1 + 1))] (zp (zp ν1 7 7 (nI ((rCnd K V nx).2.1 + 1))) 7 7 (nI ((rCnd K V nx).2.1 + 1 + 1))) _
                      rw [show ν1 9 ((rCnd K V nx).2.1 + 1 + 1) = K ((rCnd K V nx).2.1 + 1 + 1) from hSc.1 ((rCnd K V nx).2.1 + 1 + 1) (by omega)]
                      show zX shC σ 14 MX4_readRule 203 [(3, zi (V ((rCnd K V nx).2.1 + 1))), (2, zi (K (rCnd K V nx).2.1)), (1, zi ((μ 9 nx) - 256)), (0, zr 7)] [zi (K ((rCnd K V nx).2.1 + 1 + 1))] (zp (zp ν1 7 7 (nI ((rCnd K V nx).2.1 + 1))) 7 7 (nI ((rCnd K V nx).2.1 + 1 + 1))) _
                      refine zx_bipush (v := 59) (nn := 205) rfl dX4_readRule_203 rfl ?_
                      refine zx_icmp_eq (tgt := 210) (nn := 208) dX4_readRule_205 (by decide) rfl (fun h205 => ?_) (fun h205 => ?_)
                      · refine zx_aload_n (k := 3) (nn := 211) dX4_readRule_210 rfl rfl rfl ?_
                        refine zx_dupr (nn := 212) dX4_readRule_211 rfl ?_
                        refine zx_getI (nn := 215) flX4_38 rfl rfl dX4_readRule_212 rfl ?_
                        show zX shC σ 14 MX4_readRule 215 [(3, zi (V ((rCnd K V nx).2.1 + 1))), (2, zi (K (rCnd K V nx).2.1)), (1, zi ((μ 9 nx) - 256)), (0, zr 7)] [zi (nI ((rCnd K V nx).2.1 + 1 + 1)), zr 7] (zp (zp ν1 7 7 (nI ((rCnd K V nx).2.1 + 1))) 7 7 (nI ((rCnd K V nx).2.1 + 1 + 1))) _
                        refine zx_iconst (v := 1) (nn := 216) rfl dX4_readRule_215 rfl ?_
                        refine zx_iadd (nn := 217) dX4_readRule_216 rfl ?_
                        rw [show (nI ((rCnd K V nx).2.1 + 1 + 1)) + 1 = nI ((rCnd K V nx).2.1 + 1 + 1 + 1) from nI_1 _]
                        show zX shC σ 14 MX4_readRule 217 [(3, zi (V ((rCnd K V nx).2.1 + 1))), (2, zi (K (rCnd K V nx).2.1)), (1, zi ((μ 9 nx) - 256)), (0, zr 7)] [zi (nI ((rCnd K V nx).2.1 + 1 + 1 + 1)), zr 7] (zp (zp ν1 7 7 (nI ((rCnd K V nx).2.1 + 1))) 7 7 (nI ((rCnd K V nx).2.1 + 1 + 1))) _
                        refine zx_putI (nn := 220) fpX4_38 rfl rfl rfl rfl dX4_readRule_217 rfl ?_
                        refine zx_aload_n (k := 3) (nn := 221) dX4_readRule_220 rfl rfl rfl ?_
                        refine zx_getR (q := 12) (nn := 224) flX4_27 rfl rfl dX4_readRule_221 rfl ?_
                        refine zx_iload_n (k := 2) (nn := 225) dX4_readRule_224 rfl rfl rfl ?_
                        refine zx_iload_n (k := 0) (nn := 226) dX4_readRule_225 rfl rfl rfl ?_
                        refine zx_callVf (nn := 229) (k := 12) (d' := 0) (as := [zi ((μ 9 nx) - 256), zi (V ((rCnd K V nx).2.1 + 1))]) (rest := []) (n := 2) (eX5_addRule_12 σ (zp (zp (zp ν1 7 7 (nI ((rCnd K V nx).2.1 + 1))) 7 7 (nI ((rCnd K V nx).2.1 + 1 + 1))) 7 7 (nI ((rCnd K V nx).2.1 + 1 + 1 + 1))) ((μ 9 nx) - 256) (V ((rCnd K V nx).2.1 + 1)) nr (by first | exact hnr1 | exact ((hEc.tr (rdE.nx.tr rdE.nx)).2.2 5 (by decide)).trans hnr | exact ((hEc.tr (rdE.nx.tr (rdE.nx.tr rdE.nx))).2.2 5 (by decide)).trans hnr) hnr8) kX5_addRule mlX4_56 rfl rfl rfl (by decide) rfl rfl (Nat.le_of_ble_eq_true rfl) dX4_readRule_226 rfl ?_
                        show zX shC σ 14 MX4_readRule 229 [(3, zi (V ((rCnd K V nx).2.1 + 1))), (2, zi (K (rCnd K V nx).2.1)), (1, zi ((μ 9 nx) - 256)), (0, zr 7)] [] (zp (zp (zp (zp (zp (zp (zp ν1 7 7 (nI ((rCnd K V nx).2.1 + 1))) 7 7 (nI ((rCnd K V nx).2.1 + 1 + 1))) 7 7 (nI ((rCnd K V nx).2.1 + 1 + 1 + 1))) 13 nr ((μ 9 nx) - 256)) 14 nr (V ((rCnd K V nx).2.1 + 1))) 15 nr ((zp (zp (zp ν1 7 7 (nI ((rCnd K V nx).2.1 + 1))) 7 7 (nI ((rCnd K V nx).2.1 + 1 + 1))) 7 7 (nI ((rCnd K V nx).2.1 + 1 + 1 + 1))) 12 6)) 12 5 (nI (nr + 1))) _
                        refine zx_iconst (v := 1) (nn := 230) rfl dX4_readRule_229 rfl ?_
                        refine zx_zret rfl rfl dX4_readRule_230 ?_
                        have hE : rRule K V nx = (true, (rCnd K V nx).2.1 + 1 + 1 + 1, (K nx - 256, (K (rCnd K V nx).2.1), V ((rCnd K V nx).2.1 + 1)), (rCnd K V nx).2.2.1, (rCnd K V nx).2.2.2) := by unfold rRule; rw [if_pos hkd, if_pos hc1, if_pos hdd, if_neg hd65, if_pos ⟨h135, h149⟩]; unfold rFin; rw [if_pos h205]
                        rw [hE]
                        have hE9 : rdE μ (zp (zp (zp ν1 7 7 (nI ((rCnd K V nx).2.1 + 1))) 7 7 (nI ((rCnd K V nx).2.1 + 1 + 1))) 7 7 (nI ((rCnd K V nx).2.1 + 1 + 1 + 1))) := ((hEc.tr rdE.nx).tr rdE.nx).tr rdE.nx
                        have hS9 : rdS K V c (zp (zp (zp ν1 7 7 (nI ((rCnd K V nx).2.1 + 1))) 7 7 (nI ((rCnd K V nx).2.1 + 1 + 1))) 7 7 (nI ((rCnd K V nx).2.1 + 1 + 1 + 1))) ((rCnd K V nx).2.1 + 1 + 1 + 1) (cc + (rCnd K V nx).2.2.1.length) := ((hSc.nx hnd).nx (by rw [h135]; decide)).nx (by rw [h205]; decide)
                        have hC9 : rdC μ (zp (zp (zp ν1 7 7 (nI ((rCnd K V nx).2.1 + 1))) 7 7 (nI ((rCnd K V nx).2.1 + 1 + 1))) 7 7 (nI ((rCnd K V nx).2.1 + 1 + 1 + 1))) cc (rCnd K V nx).2.2.1 := hCc.nx.nx.nx
                        obtain ⟨s1, s2, s3, s4, s5⟩ := hS9
                        refine ⟨rfl, ⟨(hE9.R.1.tr ((((zJ.rf.p (by decide)).p (by decide)).p (by decide)).p (by decide))), fun i hi => ?_⟩, ?_, fun _ => ⟨⟨fun k hk => ?_, fun k hk => ?_, s3, ⟨?_, s4.2⟩, ?_, s5.2⟩, ⟨fun j hj => ?_, fun j hj => ?_⟩, ?_, fun j hj => ⟨?_, ?_, ?_⟩, ?_, ?_, ?_, fun j hj => ?_⟩, fun h => by cases h⟩
                        · rw [zp_ne (by decide), zp_ne (by decide), zp_ne (by decide), zp_ne (by decide)]; exact hE9.2.1 i hi
                        · rw [zp_ne (by decide), zp_ne (by decide), zp_ne (by decide), zp_ne (by decide)]; exact s4.1
                        · rw [zp_ne (by decide), zp_ne (by decide), zp_ne (by decide), zp_ne (by decide)]; exact s1 k hk
                        · rw [zp_ne (by decide), zp_ne (by decide), zp_ne (by decide), zp_ne (by decide)]; exact s2 k hk
                        · rw [zp_ne (by decide), zp_ne (by decide), zp_ne (by decide), zp_ne (by decide)]; exact s4.1
                        · rw [zp_eq, pk_un (by decide), zp_ne (by decide), zp_ne (by decide), zp_ne (by decide)]; exact s5.1
                        · rw [zp_ne (by decide), zp_ne (by decide), zp_ne (by decide), zp_ne (by decide)]; exact hC9.1 j hj
                        · rw [zp_ne (by decide), zp_ne (by decide), zp_ne (by decide), zp_ne (by decide)]; exact hC9.2 j hj
                        · rw [zp_eq]; exact pk_us
                        · rw [zp_ne (by decide), zp_ne (by decide), zp_ne (by decide), zp_eq, pk_un (by omega), hE9.1 13 (by decide)]
                        · rw [zp_ne (by decide), zp_ne (by decide), zp_eq, pk_un (by omega), zp_ne (by decide), hE9.1 14 (by decide)]
                        · rw [zp_ne (by decide), zp_eq, pk_un (by omega), zp_ne (by decide), zp_ne (by decide), hE9.1 15 (by decide)]
                        · rw [zp_ne (by decide), zp_ne (by decide), zp_ne (by decide), zp_eq, pk_us, hk]
                        · rw [zp_ne (by decide), zp_ne (by decide), zp_eq, pk_us]; refine Eq.symm ?_; show (if (K (rCnd K V nx).2.1) = 265 then (1000 : Int32) else if (K (rCnd K V nx).2.1) = 263 then V ((rCnd K V nx).2.1 + 1) else -(V ((rCnd K V nx).2.1 + 1))) = _; rw [if_neg hd65, if_pos h158]
                        · rw [zp_ne (by decide), zp_eq, pk_us]; exact s5.1
                        · rw [zp_ne (by decide), zp_eq, pk_un (by omega), zp_ne (by decide), zp_ne (by decide), hE9.1 15 (by decide)]
                      · refine zx_iconst (v := 0) (nn := 209) rfl dX4_readRule_208 rfl ?_
                        refine zx_zret rfl rfl dX4_readRule_209 ?_
                        have hE : rRule K V nx = (false, (rCnd K V nx).2.1 + 1 + 1, pRl0) := by unfold rRule; rw [if_pos hkd, if_pos hc1, if_pos hdd, if_neg hd65, if_pos ⟨h135, h149⟩]; unfold rFin; rw [if_neg h205]
                        rw [hE]
                        exact ⟨rfl, ((hEc.tr rdE.nx).tr rdE.nx).R, by rw [zp_eq]; exact pk_us, (fun h => by cases h), fun _ => (((hEc.tr rdE.nx).tr rdE.nx)).1 15 (by decide)⟩
                  · refine zx_iconst (v := 0) (nn := 153) rfl dX4_readRule_152 rfl ?_
                    refine zx_zret rfl rfl dX4_readRule_153 ?_
                    have hE : rRule K V nx = (false, (rCnd K V nx).2.1 + 1, pRl0) := by unfold rRule; rw [if_pos hkd, if_pos hc1, if_pos hdd, if_neg hd65, if_neg (fun q => h149 q.2)]
                    rw [hE]
                    exact ⟨rfl, (hEc.tr rdE.nx).R, by rw [zp_eq]; exact pk_us, (fun h => by cases h), fun _ => ((hEc.tr rdE.nx)).1 15 (by decide)⟩
            · refine zx_iload_n (k := 0) (nn := 95) dX4_readRule_94 rfl rfl rfl ?_
              refine zx_sipush (v := 265) (nn := 98) rfl dX4_readRule_95 rfl ?_
              refine zx_icmp_eq (tgt := 103) (nn := 101) dX4_readRule_98 (by decide) rfl (fun h98 => ?_) (fun h98 => ?_)
              · have hdd : (K (rCnd K V nx).2.1) = 263 ∨ (K (rCnd K V nx).2.1) = 264 ∨ (K (rCnd K V nx).2.1) = 265 := Or.inr (Or.inr h98)
                have hnd : (K (rCnd K V nx).2.1) ≠ -1 := fun e => by rw [e] at hdd; exact absurd hdd (by decide)
                have hncd : (rCnd K V nx).2.1 ≠ c := fun e => hnd (by rw [e]; exact hS.2.2.1.1)
                refine zx_aload_n (k := 2) (nn := 104) dX4_readRule_103 rfl rfl rfl ?_
                refine zx_dupr (nn := 105) dX4_readRule_104 rfl ?_
                refine zx_getI (nn := 108) flX4_38 rfl rfl dX4_readRule_105 rfl ?_
                rw [show ν1 7 7 = nI ((rCnd K V nx).2.1) from hSc.2.2.2.1.1]
                show zX shC σ 14 MX4_readRule 108 [(2, zi (K (rCnd K V nx).2.1)), (1, zi ((μ 9 nx) - 256)), (0, zr 7)] [zi (nI ((rCnd K V nx).2.1)), zr 7] ν1 _
                refine zx_iconst (v := 1) (nn := 109) rfl dX4_readRule_108 rfl ?_
                refine zx_iadd (nn := 110) dX4_readRule_109 rfl ?_
                rw [show (nI ((rCnd K V nx).2.1)) + 1 = nI ((rCnd K V nx).2.1 + 1) from nI_1 _]
                show zX shC σ 14 MX4_readRule 110 [(2, zi (K (rCnd K V nx).2.1)), (1, zi ((μ 9 nx) - 256)), (0, zr 7)] [zi (nI ((rCnd K V nx).2.1 + 1)), zr 7] ν1 _
                refine zx_putI (nn := 113) fpX4_38 rfl rfl rfl rfl dX4_readRule_110 rfl ?_
                refine zx_sipush (v := 1000) (nn := 116) rfl dX4_readRule_113 rfl ?_
                refine zx_istore_n (nn := 117) (lv' := [(3, zi 1000), (2, zi (K (rCnd K V nx).2.1)), (1, zi ((μ 9 nx) - 256)), (0, zr 7)]) dX4_readRule_116 rfl (by decide) rfl rfl ?_
                refine zx_iload_n (k := 1) (nn := 118) dX4_readRule_117 rfl rfl rfl ?_
                refine zx_sipush (v := 265) (nn := 121) rfl dX4_readRule_118 rfl ?_
                refine zx_icmp_eq (tgt := 194) (nn := 124) dX4_readRule_121 (by decide) rfl (fun h121 => ?_) (fun h121 => ?_)
                · refine zx_aload_n (k := 3) (nn := 195) dX4_readRule_194 rfl rfl rfl ?_
                  refine zx_getR (q := 9) (nn := 198) flX4_15 rfl rfl dX4_readRule_195 rfl ?_
                  refine zx_aload_n (k := 3) (nn := 199) dX4_readRule_198 rfl rfl rfl ?_
                  refine zx_getI (nn := 202) flX4_38 rfl rfl dX4_readRule_199 rfl ?_
                  show zX shC σ 14 MX4_readRule 202 [(3, zi 1000), (2, zi (K (rCnd K V nx).2.1)), (1, zi ((μ 9 nx) - 256)), (0, zr 7)] [zi (nI ((rCnd K V nx).2.1 + 1)), zr 9] (zp ν1 7 7 (nI ((rCnd K V nx).2.1 + 1))) _
                  refine zx_iald_n (j := (rCnd K V nx).2.1 + 1) (nn := 203) rfl (by omega) (by decide) dX4_readRule_202 rfl ?_
                  show zX shC σ 14 MX4_readRule 203 [(3, zi 1000), (2, zi (K (rCnd K V nx).2.1)), (1, zi ((μ 9 nx) - 256)), (0, zr 7)] [zi (ν1 9 ((rCnd K V nx).2.1 + 1))] (zp ν1 7 7 (nI ((rCnd K V nx).2.1 + 1))) _
                  rw [show ν1 9 ((rCnd K V nx).2.1 + 1) = K ((rCnd K V nx).2.1 + 1) from hSc.1 ((rCnd K V nx).2.1 + 1) (by omega)]
                  show zX shC σ 14 MX4_readRule 203 [(3, zi 1000), (2, zi (K (rCnd K V nx).2.1)), (1, zi ((μ 9 nx) - 256)), (0, zr 7)] [zi (K ((rCnd K V nx).2.1 + 1))] (zp ν1 7 7 (nI ((rCnd K V nx).2.1 + 1))) _
                  refine zx_bipush (v := 59) (nn := 205) rfl dX4_readRule_203 rfl ?_
                  refine zx_icmp_eq (tgt := 210) (nn := 208) dX4_readRule_205 (by decide) rfl (fun h205 => ?_) (fun h205 => ?_)
                  · refine zx_aload_n (k := 3) (nn := 211) dX4_readRule_210 rfl rfl rfl ?_
                    refine zx_dupr (nn := 212) dX4_readRule_211 rfl ?_
                    refine zx_getI (nn := 215) flX4_38 rfl rfl dX4_readRule_212 rfl ?_
                    show zX shC σ 14 MX4_readRule 215 [(3, zi 1000), (2, zi (K (rCnd K V nx).2.1)), (1, zi ((μ 9 nx) - 256)), (0, zr 7)] [zi (nI ((rCnd K V nx).2.1 + 1)), zr 7] (zp ν1 7 7 (nI ((rCnd K V nx).2.1 + 1))) _
                    refine zx_iconst (v := 1) (nn := 216) rfl dX4_readRule_215 rfl ?_
                    refine zx_iadd (nn := 217) dX4_readRule_216 rfl ?_
                    rw [show (nI ((rCnd K V nx).2.1 + 1)) + 1 = nI ((rCnd K V nx).2.1 + 1 + 1) from nI_1 _]
                    show zX shC σ 14 MX4_readRule 217 [(3, zi 1000), (2, zi (K (rCnd K V nx).2.1)), (1, zi ((μ 9 nx) - 256)), (0, zr 7)] [zi (nI ((rCnd K V nx).2.1 + 1 + 1)), zr 7] (zp ν1 7 7 (nI ((rCnd K V nx).2.1 + 1))) _
                    refine zx_putI (nn := 220) fpX4_38 rfl rfl rfl rfl dX4_readRule_217 rfl ?_
                    refine zx_aload_n (k := 3) (nn := 221) dX4_readRule_220 rfl rfl rfl ?_
                    refine zx_getR (q := 12) (nn := 224) flX4_27 rfl rfl dX4_readRule_221 rfl ?_
                    refine zx_iload_n (k := 2) (nn := 225) dX4_readRule_224 rfl rfl rfl ?_
                    refine zx_iload_n (k := 0) (nn := 226) dX4_readRule_225 rfl rfl rfl ?_
                    refine zx_callVf (nn := 229) (k := 12) (d' := 0) (as := [zi ((μ 9 nx) - 256), zi 1000]) (rest := []) (n := 2) (eX5_addRule_12 σ (zp (zp ν1 7 7 (nI ((rCnd K V nx).2.1 + 1))) 7 7 (nI ((rCnd K V nx).2.1 + 1 + 1))) ((μ 9 nx) - 256) 1000 nr (by first | exact hnr1 | exact ((hEc.tr (rdE.nx.tr rdE.nx)).2.2 5 (by decide)).trans hnr | exact ((hEc.tr (rdE.nx.tr (rdE.nx.tr rdE.nx))).2.2 5 (by decide)).trans hnr) hnr8) kX5_addRule mlX4_56 rfl rfl rfl (by decide) rfl rfl (Nat.le_of_ble_eq_true rfl) dX4_readRule_226 rfl ?_
                    show zX shC σ 14 MX4_readRule 229 [(3, zi 1000), (2, zi (K (rCnd K V nx).2.1)), (1, zi ((μ 9 nx) - 256)), (0, zr 7)] [] (zp (zp (zp (zp (zp (zp ν1 7 7 (nI ((rCnd K V nx).2.1 + 1))) 7 7 (nI ((rCnd K V nx).2.1 + 1 + 1))) 13 nr ((μ 9 nx) - 256)) 14 nr 1000) 15 nr ((zp (zp ν1 7 7 (nI ((rCnd K V nx).2.1 + 1))) 7 7 (nI ((rCnd K V nx).2.1 + 1 + 1))) 12 6)) 12 5 (nI (nr + 1))) _
                    refine zx_iconst (v := 1) (nn := 230) rfl dX4_readRule_229 rfl ?_
                    refine zx_zret rfl rfl dX4_readRule_230 ?_
                    have hE : rRule K V nx = (true, (rCnd K V nx).2.1 + 1 + 1, (K nx - 256, 265, 0), (rCnd K V nx).2.2.1, (rCnd K V nx).2.2.2) := by unfold rRule; rw [if_pos hkd, if_pos hc1, if_pos hdd, if_pos h121]; unfold rFin; rw [if_pos h205]
                    rw [hE]
                    have hE9 : rdE μ (zp (zp ν1 7 7 (nI ((rCnd K V nx).2.1 + 1))) 7 7 (nI ((rCnd K V nx).2.1 + 1 + 1))) := (hEc.tr rdE.nx).tr rdE.nx
                    have hS9 : rdS K V c (zp (zp ν1 7 7 (nI ((rCnd K V nx).2.1 + 1))) 7 7 (nI ((rCnd K V nx).2.1 + 1 + 1))) ((rCnd K V nx).2.1 + 1 + 1) (cc + (rCnd K V nx).2.2.1.length) := (hSc.nx hnd).nx (by rw [h205]; decide)
                    have hC9 : rdC μ (zp (zp ν1 7 7 (nI ((rCnd K V nx).2.1 + 1))) 7 7 (nI ((rCnd K V nx).2.1 + 1 + 1))) cc (rCnd K V nx).2.2.1 := hCc.nx.nx
                    obtain ⟨s1, s2, s3, s4, s5⟩ := hS9
                    refine ⟨rfl, ⟨(hE9.R.1.tr ((((zJ.rf.p (by decide)).p (by decide)).p (by decide)).p (by decide))), fun i hi => ?_⟩, ?_, fun _ => ⟨⟨fun k hk => ?_, fun k hk => ?_, s3, ⟨?_, s4.2⟩, ?_, s5.2⟩, ⟨fun j hj => ?_, fun j hj => ?_⟩, ?_, fun j hj => ⟨?_, ?_, ?_⟩, ?_, ?_, ?_, fun j hj => ?_⟩, fun h => by cases h⟩
                    · rw [zp_ne (by decide), zp_ne (by decide), zp_ne (by decide), zp_ne (by decide)]; exact hE9.2.1 i hi
                    · rw [zp_ne (by decide), zp_ne (by decide), zp_ne (by decide), zp_ne (by decide)]; exact s4.1
                    · rw [zp_ne (by decide), zp_ne (by decide), zp_ne (by decide), zp_ne (by decide)]; exact s1 k hk
                    · rw [zp_ne (by decide), zp_ne (by decide), zp_ne (by decide), zp_ne (by decide)]; exact s2 k hk
                    · rw [zp_ne (by decide), zp_ne (by decide), zp_ne (by decide), zp_ne (by decide)]; exact s4.1
                    · rw [zp_eq, pk_un (by decide), zp_ne (by decide), zp_ne (by decide), zp_ne (by decide)]; exact s5.1
                    · rw [zp_ne (by decide), zp_ne (by decide), zp_ne (by decide), zp_ne (by decide)]; exact hC9.1 j hj
                    · rw [zp_ne (by decide), zp_ne (by decide), zp_ne (by decide), zp_ne (by decide)]; exact hC9.2 j hj
                    · rw [zp_eq]; exact pk_us
                    · rw [zp_ne (by decide), zp_ne (by decide), zp_ne (by decide), zp_eq, pk_un (by omega), hE9.1 13 (by decide)]
                    · rw [zp_ne (by decide), zp_ne (by decide), zp_eq, pk_un (by omega), zp_ne (by decide), hE9.1 14 (by decide)]
                    · rw [zp_ne (by decide), zp_eq, pk_un (by omega), zp_ne (by decide), zp_ne (by decide), hE9.1 15 (by decide)]
                    · rw [zp_ne (by decide), zp_ne (by decide), zp_ne (by decide), zp_eq, pk_us, hk]
                    · rw [zp_ne (by decide), zp_ne (by decide), zp_eq, pk_us]; refine Eq.symm ?_; rfl
                    · rw [zp_ne (by decide), zp_eq, pk_us]; exact s5.1
                    · rw [zp_ne (by decide), zp_eq, pk_un (by omega), zp_ne (by decide), zp_ne (by decide), hE9.1 15 (by decide)]
                  · refine zx_iconst (v := 0) (nn := 209) rfl dX4_readRule_208 rfl ?_
                    refine zx_zret rfl rfl dX4_readRule_209 ?_
                    have hE : rRule K V nx = (false, (rCnd K V nx).2.1 + 1, pRl0) := by unfold rRule; rw [if_pos hkd, if_pos hc1, if_pos hdd, if_pos h121]; unfold rFin; rw [if_neg h205]
                    rw [hE]
                    exact ⟨rfl, (hEc.tr rdE.nx).R, by rw [zp_eq]; exact pk_us, (fun h => by cases h), fun _ => ((hEc.tr rdE.nx)).1 15 (by decide)⟩
                · have hd65 : ¬ (K (rCnd K V nx).2.1) = 265 := h121
                  refine zx_aload_n (k := 3) (nn := 125) dX4_readRule_124 rfl rfl rfl ?_
                  refine zx_getR (q := 9) (nn := 128) flX4_15 rfl rfl dX4_readRule_125 rfl ?_
                  refine zx_aload_n (k := 3) (nn := 129) dX4_readRule_128 rfl rfl rfl ?_
                  refine zx_getI (nn := 132) flX4_38 rfl rfl dX4_readRule_129 rfl ?_
                  show zX shC σ 14 MX4_readRule 132 [(3, zi 1000), (2, zi (K (rCnd K V nx).2.1)), (1, zi ((μ 9 nx) - 256)), (0, zr 7)] [zi (nI ((rCnd K V nx).2.1 + 1)), zr 9] (zp ν1 7 7 (nI ((rCnd K V nx).2.1 + 1))) _
                  refine zx_iald_n (j := (rCnd K V nx).2.1 + 1) (nn := 133) rfl (by omega) (by decide) dX4_readRule_132 rfl ?_
                  show zX shC σ 14 MX4_readRule 133 [(3, zi 1000), (2, zi (K (rCnd K V nx).2.1)), (1, zi ((μ 9 nx) - 256)), (0, zr 7)] [zi (ν1 9 ((rCnd K V nx).2.1 + 1))] (zp ν1 7 7 (nI ((rCnd K V nx).2.1 + 1))) _
                  rw [show ν1 9 ((rCnd K V nx).2.1 + 1) = K ((rCnd K V nx).2.1 + 1) from hSc.1 ((rCnd K V nx).2.1 + 1) (by omega)]
                  show zX shC σ 14 MX4_readRule 133 [(3, zi 1000), (2, zi (K (rCnd K V nx).2.1)), (1, zi ((μ 9 nx) - 256)), (0, zr 7)] [zi (K ((rCnd K V nx).2.1 + 1))] (zp ν1 7 7 (nI ((rCnd K V nx).2.1 + 1))) _
                  refine zx_bipush (v := -2) (nn := 135) rfl dX4_readRule_133 rfl ?_
                  refine zx_icmp_ne (tgt := 152) (nn := 138) dX4_readRule_135 (by decide) rfl (fun h135 => ?_) (fun h135 => ?_)
                  · refine zx_iconst (v := 0) (nn := 153) rfl dX4_readRule_152 rfl ?_
                    refine zx_zret rfl rfl dX4_readRule_153 ?_
                    have hE : rRule K V nx = (false, (rCnd K V nx).2.1 + 1, pRl0) := by unfold rRule; rw [if_pos hkd, if_pos hc1, if_pos hdd, if_neg hd65, if_neg (fun q => h135 q.1)]
                    rw [hE]
                    exact ⟨rfl, (hEc.tr rdE.nx).R, by rw [zp_eq]; exact pk_us, (fun h => by cases h), fun _ => ((hEc.tr rdE.nx)).1 15 (by decide)⟩
                  · have hnc3 : (rCnd K V nx).2.1 + 1 ≠ c := fun e => by rw [e, hS.2.2.1.1] at h135; exact absurd h135 (by decide)
                    refine zx_aload_n (k := 3) (nn := 139) dX4_readRule_138 rfl rfl rfl ?_
                    refine zx_getR (q := 10) (nn := 142) flX4_18 rfl rfl dX4_readRule_139 rfl ?_
                    refine zx_aload_n (k := 3) (nn := 143) dX4_readRule_142 rfl rfl rfl ?_
                    refine zx_getI (nn := 146) flX4_38 rfl rfl dX4_readRule_143 rfl ?_
                    show zX shC σ 14 MX4_readRule 146 [(3, zi 1000), (2, zi (K (rCnd K V nx).2.1)), (1, zi ((μ 9 nx) - 256)), (0, zr 7)] [zi (nI ((rCnd K V nx).2.1 + 1)), zr 10] (zp ν1 7 7 (nI ((rCnd K V nx).2.1 + 1))) _
                    refine zx_iald_n (j := (rCnd K V nx).2.1 + 1) (nn := 147) rfl (by omega) (by decide) dX4_readRule_146 rfl ?_
                    show zX shC σ 14 MX4_readRule 147 [(3, zi 1000), (2, zi (K (rCnd K V nx).2.1)), (1, zi ((μ 9 nx) - 256)), (0, zr 7)] [zi (ν1 10 ((rCnd K V nx).2.1 + 1))] (zp ν1 7 7 (nI ((rCnd K V nx).2.1 + 1))) _
                    rw [show ν1 10 ((rCnd K V nx).2.1 + 1) = V ((rCnd K V nx).2.1 + 1) from hSc.2.1 ((rCnd K V nx).2.1 + 1) (by omega)]
                    show zX shC σ 14 MX4_readRule 147 [(3, zi 1000), (2, zi (K (rCnd K V nx).2.1)), (1, zi ((μ 9 nx) - 256)), (0, zr 7)] [zi (V ((rCnd K V nx).2.1 + 1))] (zp ν1 7 7 (nI ((rCnd K V nx).2.1 + 1))) _
                    refine zx_bipush (v := 99) (nn := 149) rfl dX4_readRule_147 rfl ?_
                    refine zx_icmp_le (tgt := 154) (nn := 152) dX4_readRule_149 (by decide) rfl (fun h149 => ?_) (fun h149 => ?_)
                    · refine zx_iload_n (k := 1) (nn := 155) dX4_readRule_154 rfl rfl rfl ?_
                      refine zx_sipush (v := 263) (nn := 158) rfl dX4_readRule_155 rfl ?_
                      refine zx_icmp_ne (tgt := 173) (nn := 161) dX4_readRule_158 (by decide) rfl (fun h158 => ?_) (fun h158 => ?_)
                      · refine zx_aload_n (k := 3) (nn := 174) dX4_readRule_173 rfl rfl rfl ?_
                        refine zx_getR (q := 10) (nn := 177) flX4_18 rfl rfl dX4_readRule_174 rfl ?_
                        refine zx_aload_n (k := 3) (nn := 178) dX4_readRule_177 rfl rfl rfl ?_
                        refine zx_getI (nn := 181) flX4_38 rfl rfl dX4_readRule_178 rfl ?_
                        show zX shC σ 14 MX4_readRule 181 [(3, zi 1000), (2, zi (K (rCnd K V nx).2.1)), (1, zi ((μ 9 nx) - 256)), (0, zr 7)] [zi (nI ((rCnd K V nx).2.1 + 1)), zr 10] (zp ν1 7 7 (nI ((rCnd K V nx).2.1 + 1))) _
                        refine zx_iald_n (j := (rCnd K V nx).2.1 + 1) (nn := 182) rfl (by omega) (by decide) dX4_readRule_181 rfl ?_
                        show zX shC σ 14 MX4_readRule 182 [(3, zi 1000), (2, zi (K (rCnd K V nx).2.1)), (1, zi ((μ 9 nx) - 256)), (0, zr 7)] [zi (ν1 10 ((rCnd K V nx).2.1 + 1))] (zp ν1 7 7 (nI ((rCnd K V nx).2.1 + 1))) _
                        rw [show ν1 10 ((rCnd K V nx).2.1 + 1) = V ((rCnd K V nx).2.1 + 1) from hSc.2.1 ((rCnd K V nx).2.1 + 1) (by omega)]
                        show zX shC σ 14 MX4_readRule 182 [(3, zi 1000), (2, zi (K (rCnd K V nx).2.1)), (1, zi ((μ 9 nx) - 256)), (0, zr 7)] [zi (V ((rCnd K V nx).2.1 + 1))] (zp ν1 7 7 (nI ((rCnd K V nx).2.1 + 1))) _
                        refine zx_ineg (nn := 183) dX4_readRule_182 rfl ?_
                        refine zx_istore_n (nn := 184) (lv' := [(3, zi (-(V ((rCnd K V nx).2.1 + 1)))), (2, zi (K (rCnd K V nx).2.1)), (1, zi ((μ 9 nx) - 256)), (0, zr 7)]) dX4_readRule_183 rfl (by decide) rfl rfl ?_
                        refine zx_aload_n (k := 3) (nn := 185) dX4_readRule_184 rfl rfl rfl ?_
                        refine zx_dupr (nn := 186) dX4_readRule_185 rfl ?_
                        refine zx_getI (nn := 189) flX4_38 rfl rfl dX4_readRule_186 rfl ?_
                        show zX shC σ 14 MX4_readRule 189 [(3, zi (-(V ((rCnd K V nx).2.1 + 1)))), (2, zi (K (rCnd K V nx).2.1)), (1, zi ((μ 9 nx) - 256)), (0, zr 7)] [zi (nI ((rCnd K V nx).2.1 + 1)), zr 7] (zp ν1 7 7 (nI ((rCnd K V nx).2.1 + 1))) _
                        refine zx_iconst (v := 1) (nn := 190) rfl dX4_readRule_189 rfl ?_
                        refine zx_iadd (nn := 191) dX4_readRule_190 rfl ?_
                        rw [show (nI ((rCnd K V nx).2.1 + 1)) + 1 = nI ((rCnd K V nx).2.1 + 1 + 1) from nI_1 _]
                        show zX shC σ 14 MX4_readRule 191 [(3, zi (-(V ((rCnd K V nx).2.1 + 1)))), (2, zi (K (rCnd K V nx).2.1)), (1, zi ((μ 9 nx) - 256)), (0, zr 7)] [zi (nI ((rCnd K V nx).2.1 + 1 + 1)), zr 7] (zp ν1 7 7 (nI ((rCnd K V nx).2.1 + 1))) _
                        refine zx_putI (nn := 194) fpX4_38 rfl rfl rfl rfl dX4_readRule_191 rfl ?_
                        refine zx_aload_n (k := 3) (nn := 195) dX4_readRule_194 rfl rfl rfl ?_
                        refine zx_getR (q := 9) (nn := 198) flX4_15 rfl rfl dX4_readRule_195 rfl ?_
                        refine zx_aload_n (k := 3) (nn := 199) dX4_readRule_198 rfl rfl rfl ?_
                        refine zx_getI (nn := 202) flX4_38 rfl rfl dX4_readRule_199 rfl ?_
                        show zX shC σ 14 MX4_readRule 202 [(3, zi (-(V ((rCnd K V nx).2.1 + 1)))), (2, zi (K (rCnd K V nx).2.1)), (1, zi ((μ 9 nx) - 256)), (0, zr 7)] [zi (nI ((rCnd K V nx).2.1 + 1 + 1)), zr 9] (zp (zp ν1 7 7 (nI ((rCnd K V nx).2.1 + 1))) 7 7 (nI ((rCnd K V nx).2.1 + 1 + 1))) _
                        refine zx_iald_n (j := (rCnd K V nx).2.1 + 1 + 1) (nn := 203) rfl (by omega) (by decide) dX4_readRule_202 rfl ?_
                        show zX shC σ 14 MX4_readRule 203 [(3, zi (-(V ((rCnd K V nx).2.1 + 1)))), (2, zi (K (rCnd K V nx).2.1)), (1, zi ((μ 9 nx) - 256)), (0, zr 7)] [zi (ν1 9 ((rCnd K V nx).2.1 + 1 + 1))] (zp (zp ν1 7 7 (nI ((rCnd K V nx).2.1 + 1))) 7 7 (nI ((rCnd K V nx).2.1 + 1 + 1))) _
                        rw [show ν1 9 ((rCnd K V nx).2.1 + 1 + 1) = K ((rCnd K V nx).2.1 + 1 + 1) from hSc.1 ((rCnd K V nx).2.1 + 1 + 1) (by omega)]
                        show zX shC σ 14 MX4_readRule 203 [(3, zi (-(V ((rCnd K V nx).2.1 + 1)))), (2, zi (K (rCnd K V nx).2.1)), (1, zi ((μ 9 nx) - 256)), (0, zr 7)] [zi (K ((rCnd K V nx).2.1 + 1 + 1))] (zp (zp ν1 7 7 (nI ((rCnd K V nx).2.1 + 1))) 7 7 (nI ((rCnd K V nx).2.1 + 1 + 1))) _
                        refine zx_bipush (v := 59) (nn := 205) rfl dX4_readRule_203 rfl ?_
                        refine zx_icmp_eq (tgt := 210) (nn := 208) dX4_readRule_205 (by decide) rfl (fun h205 => ?_) (fun h205 => ?_)
                        · refine zx_aload_n (k := 3) (nn := 211) dX4_readRule_210 rfl rfl rfl ?_
                          refine zx_dupr (nn := 212) dX4_readRule_211 rfl ?_
                          refine zx_getI (nn := 215) flX4_38 rfl rfl dX4_readRule_212 rfl ?_
                          show zX shC σ 14 MX4_readRule 215 [(3, zi (-(V ((rCnd K V nx).2.1 + 1)))), (2, zi (K (rCnd K V nx).2.1)), (1, zi ((μ 9 nx) - 256)), (0, zr 7)] [zi (nI ((rCnd K V nx).2.1 + 1 + 1)), zr 7] (zp (zp ν1 7 7 (nI ((rCnd K V nx).2.1 + 1))) 7 7 (nI ((rCnd K V nx).2.1 + 1 + 1))) _
                          refine zx_iconst (v := 1) (nn := 216) rfl dX4_readRule_215 rfl ?_
                          refine zx_iadd (nn := 217) dX4_readRule_216 rfl ?_
                          rw [show (nI ((rCnd K V nx).2.1 + 1 + 1)) + 1 = nI ((rCnd K V nx).2.1 + 1 + 1 + 1) from nI_1 _]
                          show zX shC σ 14 MX4_readRule 217 [(3, zi (-(V ((rCnd K V nx).2.1 + 1)))), (2, zi (K (rCnd K V nx).2.1)), (1, zi ((μ 9 nx) - 256)), (0, zr 7)] [zi (nI ((rCnd K V nx).2.1 + 1 + 1 + 1)), zr 7] (zp (zp ν1 7 7 (nI ((rCnd K V nx).2.1 + 1))) 7 7 (nI ((rCnd K V nx).2.1 + 1 + 1))) _
                          refine zx_putI (nn := 220) fpX4_38 rfl rfl rfl rfl dX4_readRule_217 rfl ?_
                          refine zx_aload_n (k := 3) (nn := 221) dX4_readRule_220 rfl rfl rfl ?_
                          refine zx_getR (q := 12) (nn := 224) flX4_27 rfl rfl dX4_readRule_221 rfl ?_
                          refine zx_iload_n (k := 2) (nn := 225) dX4_readRule_224 rfl rfl rfl ?_
                          refine zx_iload_n (k := 0) (nn := 226) dX4_readRule_225 rfl rfl rfl ?_
                          refine zx_callVf (nn := 229) (k := 12) (d' := 0) (as := [zi ((μ 9 nx) - 256), zi (-(V ((rCnd K V nx).2.1 + 1)))]) (rest := []) (n := 2) (eX5_addRule_12 σ (zp (zp (zp ν1 7 7 (nI ((rCnd K V nx).2.1 + 1))) 7 7 (nI ((rCnd K V nx).2.1 + 1 + 1))) 7 7 (nI ((rCnd K V nx).2.1 + 1 + 1 + 1))) ((μ 9 nx) - 256) (-(V ((rCnd K V nx).2.1 + 1))) nr (by first | exact hnr1 | exact ((hEc.tr (rdE.nx.tr rdE.nx)).2.2 5 (by decide)).trans hnr | exact ((hEc.tr (rdE.nx.tr (rdE.nx.tr rdE.nx))).2.2 5 (by decide)).trans hnr) hnr8) kX5_addRule mlX4_56 rfl rfl rfl (by decide) rfl rfl (Nat.le_of_ble_eq_true rfl) dX4_readRule_226 rfl ?_
                          show zX shC σ 14 MX4_readRule 229 [(3, zi (-(V ((rCnd K V nx).2.1 + 1)))), (2, zi (K (rCnd K V nx).2.1)), (1, zi ((μ 9 nx) - 256)), (0, zr 7)] [] (zp (zp (zp (zp (zp (zp (zp ν1 7 7 (nI ((rCnd K V nx).2.1 + 1))) 7 7 (nI ((rCnd K V nx).2.1 + 1 + 1))) 7 7 (nI ((rCnd K V nx).2.1 + 1 + 1 + 1))) 13 nr ((μ 9 nx) - 256)) 14 nr (-(V ((rCnd K V nx).2.1 + 1)))) 15 nr ((zp (zp (zp ν1 7 7 (nI ((rCnd K V nx).2.1 + 1))) 7 7 (nI ((rCnd K V nx).2.1 + 1 + 1))) 7 7 (nI ((rCnd K V nx).2.1 + 1 + 1 + 1))) 12 6)) 12 5 (nI (nr + 1))) _
                          refine zx_iconst (v := 1) (nn := 230) rfl dX4_readRule_229 rfl ?_
                          refine zx_zret rfl rfl dX4_readRule_230 ?_
                          have hE : rRule K V nx = (true, (rCnd K V nx).2.1 + 1 + 1 + 1, (K nx - 256, (K (rCnd K V nx).2.1), V ((rCnd K V nx).2.1 + 1)), (rCnd K V nx).2.2.1, (rCnd K V nx).2.2.2) := by unfold rRule; rw [if_pos hkd, if_pos hc1, if_pos hdd, if_neg hd65, if_pos ⟨h135, h149⟩]; unfold rFin; rw [if_pos h205]
                          rw [hE]
                          have hE9 : rdE μ (zp (zp (zp ν1 7 7 (nI ((rCnd K V nx).2.1 + 1))) 7 7 (nI ((rCnd K V nx).2.1 + 1 + 1))) 7 7 (nI ((rCnd K V nx).2.1 + 1 + 1 + 1))) := ((hEc.tr rdE.nx).tr rdE.nx).tr rdE.nx
                          have hS9 : rdS K V c (zp (zp (zp ν1 7 7 (nI ((rCnd K V nx).2.1 + 1))) 7 7 (nI ((rCnd K V nx).2.1 + 1 + 1))) 7 7 (nI ((rCnd K V nx).2.1 + 1 + 1 + 1))) ((rCnd K V nx).2.1 + 1 + 1 + 1) (cc + (rCnd K V nx).2.2.1.length) := ((hSc.nx hnd).nx (by rw [h135]; decide)).nx (by rw [h205]; decide)
                          have hC9 : rdC μ (zp (zp (zp ν1 7 7 (nI ((rCnd K V nx).2.1 + 1))) 7 7 (nI ((rCnd K V nx).2.1 + 1 + 1))) 7 7 (nI ((rCnd K V nx).2.1 + 1 + 1 + 1))) cc (rCnd K V nx).2.2.1 := hCc.nx.nx.nx
                          obtain ⟨s1, s2, s3, s4, s5⟩ := hS9
                          refine ⟨rfl, ⟨(hE9.R.1.tr ((((zJ.rf.p (by decide)).p (by decide)).p (by decide)).p (by decide))), fun i hi => ?_⟩, ?_, fun _ => ⟨⟨fun k hk => ?_, fun k hk => ?_, s3, ⟨?_, s4.2⟩, ?_, s5.2⟩, ⟨fun j hj => ?_, fun j hj => ?_⟩, ?_, fun j hj => ⟨?_, ?_, ?_⟩, ?_, ?_, ?_, fun j hj => ?_⟩, fun h => by cases h⟩
                          · rw [zp_ne (by decide), zp_ne (by decide), zp_ne (by decide), zp_ne (by decide)]; exact hE9.2.1 i hi
                          · rw [zp_ne (by decide), zp_ne (by decide), zp_ne (by decide), zp_ne (by decide)]; exact s4.1
                          · rw [zp_ne (by decide), zp_ne (by decide), zp_ne (by decide), zp_ne (by decide)]; exact s1 k hk
                          · rw [zp_ne (by decide), zp_ne (by decide), zp_ne (by decide), zp_ne (by decide)]; exact s2 k hk
                          · rw [zp_ne (by decide), zp_ne (by decide), zp_ne (by decide), zp_ne (by decide)]; exact s4.1
                          · rw [zp_eq, pk_un (by decide), zp_ne (by decide), zp_ne (by decide), zp_ne (by decide)]; exact s5.1
                          · rw [zp_ne (by decide), zp_ne (by decide), zp_ne (by decide), zp_ne (by decide)]; exact hC9.1 j hj
                          · rw [zp_ne (by decide), zp_ne (by decide), zp_ne (by decide), zp_ne (by decide)]; exact hC9.2 j hj
                          · rw [zp_eq]; exact pk_us
                          · rw [zp_ne (by decide), zp_ne (by decide), zp_ne (by decide), zp_eq, pk_un (by omega), hE9.1 13 (by decide)]
                          · rw [zp_ne (by decide), zp_ne (by decide), zp_eq, pk_un (by omega), zp_ne (by decide), hE9.1 14 (by decide)]
                          · rw [zp_ne (by decide), zp_eq, pk_un (by omega), zp_ne (by decide), zp_ne (by decide), hE9.1 15 (by decide)]
                          · rw [zp_ne (by decide), zp_ne (by decide), zp_ne (by decide), zp_eq, pk_us, hk]
                          · rw [zp_ne (by decide), zp_ne (by decide), zp_eq, pk_us]; refine Eq.symm ?_; show (if (K (rCnd K V nx).2.1) = 265 then (1000 : Int32) else if (K (rCnd K V nx).2.1) = 263 then V ((rCnd K V nx).2.1 + 1) else -(V ((rCnd K V nx).2.1 + 1))) = _; rw [if_neg hd65, if_neg h158]
                          · rw [zp_ne (by decide), zp_eq, pk_us]; exact s5.1
                          · rw [zp_ne (by decide), zp_eq, pk_un (by omega), zp_ne (by decide), zp_ne (by decide), hE9.1 15 (by decide)]
                        · refine zx_iconst (v := 0) (nn := 209) rfl dX4_readRule_208 rfl ?_
                          refine zx_zret rfl rfl dX4_readRule_209 ?_
                          have hE : rRule K V nx = (false, (rCnd K V nx).2.1 + 1 + 1, pRl0) := by unfold rRule; rw [if_pos hkd, if_pos hc1, if_pos hdd, if_neg hd65, if_pos ⟨h135, h149⟩]; unfold rFin; rw [if_neg h205]
                          rw [hE]
                          exact ⟨rfl, ((hEc.tr rdE.nx).tr rdE.nx).R, by rw [zp_eq]; exact pk_us, (fun h => by cases h), fun _ => (((hEc.tr rdE.nx).tr rdE.nx)).1 15 (by decide)⟩
                      · refine zx_aload_n (k := 3) (nn := 162) dX4_readRule_161 rfl rfl rfl ?_
                        refine zx_getR (q := 10) (nn := 165) flX4_18 rfl rfl dX4_readRule_162 rfl ?_
                        refine zx_aload_n (k := 3) (nn := 166) dX4_readRule_165 rfl rfl rfl ?_
                        refine zx_getI (nn := 169) flX4_38 rfl rfl dX4_readRule_166 rfl ?_
                        show zX shC σ 14 MX4_readRule 169 [(3, zi 1000), (2, zi (K (rCnd K V nx).2.1)), (1, zi ((μ 9 nx) - 256)), (0, zr 7)] [zi (nI ((rCnd K V nx).2.1 + 1)), zr 10] (zp ν1 7 7 (nI ((rCnd K V nx).2.1 + 1))) _
                        refine zx_iald_n (j := (rCnd K V nx).2.1 + 1) (nn := 170) rfl (by omega) (by decide) dX4_readRule_169 rfl ?_
                        show zX shC σ 14 MX4_readRule 170 [(3, zi 1000), (2, zi (K (rCnd K V nx).2.1)), (1, zi ((μ 9 nx) - 256)), (0, zr 7)] [zi (ν1 10 ((rCnd K V nx).2.1 + 1))] (zp ν1 7 7 (nI ((rCnd K V nx).2.1 + 1))) _
                        rw [show ν1 10 ((rCnd K V nx).2.1 + 1) = V ((rCnd K V nx).2.1 + 1) from hSc.2.1 ((rCnd K V nx).2.1 + 1) (by omega)]
                        show zX shC σ 14 MX4_readRule 170 [(3, zi 1000), (2, zi (K (rCnd K V nx).2.1)), (1, zi ((μ 9 nx) - 256)), (0, zr 7)] [zi (V ((rCnd K V nx).2.1 + 1))] (zp ν1 7 7 (nI ((rCnd K V nx).2.1 + 1))) _
                        refine zx_goto (tgt := 183) dX4_readRule_170 (by decide) ?_
                        refine zx_istore_n (nn := 184) (lv' := [(3, zi (V ((rCnd K V nx).2.1 + 1))), (2, zi (K (rCnd K V nx).2.1)), (1, zi ((μ 9 nx) - 256)), (0, zr 7)]) dX4_readRule_183 rfl (by decide) rfl rfl ?_
                        refine zx_aload_n (k := 3) (nn := 185) dX4_readRule_184 rfl rfl rfl ?_
                        refine zx_dupr (nn := 186) dX4_readRule_185 rfl ?_
                        refine zx_getI (nn := 189) flX4_38 rfl rfl dX4_readRule_186 rfl ?_
                        show zX shC σ 14 MX4_readRule 189 [(3, zi (V ((rCnd K V nx).2.1 + 1))), (2, zi (K (rCnd K V nx).2.1)), (1, zi ((μ 9 nx) - 256)), (0, zr 7)] [zi (nI ((rCnd K V nx).2.1 + 1)), zr 7] (zp ν1 7 7 (nI ((rCnd K V nx).2.1 + 1))) _
                        refine zx_iconst (v := 1) (nn := 190) rfl dX4_readRule_189 rfl ?_
                        refine zx_iadd (nn := 191) dX4_readRule_190 rfl ?_
                        rw [show (nI ((rCnd K V nx).2.1 + 1)) + 1 = nI ((rCnd K V nx).2.1 + 1 + 1) from nI_1 _]
                        show zX shC σ 14 MX4_readRule 191 [(3, zi (V ((rCnd K V nx).2.1 + 1))), (2, zi (K (rCnd K V nx).2.1)), (1, zi ((μ 9 nx) - 256)), (0, zr 7)] [zi (nI ((rCnd K V nx).2.1 + 1 + 1)), zr 7] (zp ν1 7 7 (nI ((rCnd K V nx).2.1 + 1))) _
                        refine zx_putI (nn := 194) fpX4_38 rfl rfl rfl rfl dX4_readRule_191 rfl ?_
                        refine zx_aload_n (k := 3) (nn := 195) dX4_readRule_194 rfl rfl rfl ?_
                        refine zx_getR (q := 9) (nn := 198) flX4_15 rfl rfl dX4_readRule_195 rfl ?_
                        refine zx_aload_n (k := 3) (nn := 199) dX4_readRule_198 rfl rfl rfl ?_
                        refine zx_getI (nn := 202) flX4_38 rfl rfl dX4_readRule_199 rfl ?_
                        show zX shC σ 14 MX4_readRule 202 [(3, zi (V ((rCnd K V nx).2.1 + 1))), (2, zi (K (rCnd K V nx).2.1)), (1, zi ((μ 9 nx) - 256)), (0, zr 7)] [zi (nI ((rCnd K V nx).2.1 + 1 + 1)), zr 9] (zp (zp ν1 7 7 (nI ((rCnd K V nx).2.1 + 1))) 7 7 (nI ((rCnd K V nx).2.1 + 1 + 1))) _
                        refine zx_iald_n (j := (rCnd K V nx).2.1 + 1 + 1) (nn := 203) rfl (by omega) (by decide) dX4_readRule_202 rfl ?_
                        show zX shC σ 14 MX4_readRule 203 [(3, zi (V ((rCnd K V nx).2.1 + 1))), (2, zi (K (rCnd K V nx).2.1)), (1, zi ((μ 9 nx) - 256)), (0, zr 7)] [zi (ν1 9 ((rCnd K V nx).2.1 + 1 + 1))] (zp (zp ν1 7 7 (nI ((rCnd K V nx).2.1 + 1))) 7 7 (nI ((rCnd K V nx).2.1 + 1 + 1))) _
                        rw [show ν1 9 ((rCnd K V nx).2.1 + 1 + 1) = K ((rCnd K V nx).2.1 + 1 + 1) from hSc.1 ((rCnd K V nx).2.1 + 1 + 1) (by omega)]
                        show zX shC σ 14 MX4_readRule 203 [(3, zi (V ((rCnd K V nx).2.1 + 1))), (2, zi (K (rCnd K V nx).2.1)), (1, zi ((μ 9 nx) - 256)), (0, zr 7)] [zi (K ((rCnd K V nx).2.1 + 1 + 1))] (zp (zp ν1 7 7 (nI ((rCnd K V nx).2.1 + 1))) 7 7 (nI ((rCnd K V nx).2.1 + 1 + 1))) _
                        refine zx_bipush (v := 59) (nn := 205) rfl dX4_readRule_203 rfl ?_
                        refine zx_icmp_eq (tgt := 210) (nn := 208) dX4_readRule_205 (by decide) rfl (fun h205 => ?_) (fun h205 => ?_)
                        · refine zx_aload_n (k := 3) (nn := 211) dX4_readRule_210 rfl rfl rfl ?_
                          refine zx_dupr (nn := 212) dX4_readRule_211 rfl ?_
                          refine zx_getI (nn := 215) flX4_38 rfl rfl dX4_readRule_212 rfl ?_
                          show zX shC σ 14 MX4_readRule 215 [(3, zi (V ((rCnd K V nx).2.1 + 1))), (2, zi (K (rCnd K V nx).2.1)), (1, zi ((μ 9 nx) - 256)), (0, zr 7)] [zi (nI ((rCnd K V nx).2.1 + 1 + 1)), zr 7] (zp (zp ν1 7 7 (nI ((rCnd K V nx).2.1 + 1))) 7 7 (nI ((rCnd K V nx).2.1 + 1 + 1))) _
                          refine zx_iconst (v := 1) (nn := 216) rfl dX4_readRule_215 rfl ?_
                          refine zx_iadd (nn := 217) dX4_readRule_216 rfl ?_
                          rw [show (nI ((rCnd K V nx).2.1 + 1 + 1)) + 1 = nI ((rCnd K V nx).2.1 + 1 + 1 + 1) from nI_1 _]
                          show zX shC σ 14 MX4_readRule 217 [(3, zi (V ((rCnd K V nx).2.1 + 1))), (2, zi (K (rCnd K V nx).2.1)), (1, zi ((μ 9 nx) - 256)), (0, zr 7)] [zi (nI ((rCnd K V nx).2.1 + 1 + 1 + 1)), zr 7] (zp (zp ν1 7 7 (nI ((rCnd K V nx).2.1 + 1))) 7 7 (nI ((rCnd K V nx).2.1 + 1 + 1))) _
                          refine zx_putI (nn := 220) fpX4_38 rfl rfl rfl rfl dX4_readRule_217 rfl ?_
                          refine zx_aload_n (k := 3) (nn := 221) dX4_readRule_220 rfl rfl rfl ?_
                          refine zx_getR (q := 12) (nn := 224) flX4_27 rfl rfl dX4_readRule_221 rfl ?_
                          refine zx_iload_n (k := 2) (nn := 225) dX4_readRule_224 rfl rfl rfl ?_
                          refine zx_iload_n (k := 0) (nn := 226) dX4_readRule_225 rfl rfl rfl ?_
                          refine zx_callVf (nn := 229) (k := 12) (d' := 0) (as := [zi ((μ 9 nx) - 256), zi (V ((rCnd K V nx).2.1 + 1))]) (rest := []) (n := 2) (eX5_addRule_12 σ (zp (zp (zp ν1 7 7 (nI ((rCnd K V nx).2.1 + 1))) 7 7 (nI ((rCnd K V nx).2.1 + 1 + 1))) 7 7 (nI ((rCnd K V nx).2.1 + 1 + 1 + 1))) ((μ 9 nx) - 256) (V ((rCnd K V nx).2.1 + 1)) nr (by first | exact hnr1 | exact ((hEc.tr (rdE.nx.tr rdE.nx)).2.2 5 (by decide)).trans hnr | exact ((hEc.tr (rdE.nx.tr (rdE.nx.tr rdE.nx))).2.2 5 (by decide)).trans hnr) hnr8) kX5_addRule mlX4_56 rfl rfl rfl (by decide) rfl rfl (Nat.le_of_ble_eq_true rfl) dX4_readRule_226 rfl ?_
                          show zX shC σ 14 MX4_readRule 229 [(3, zi (V ((rCnd K V nx).2.1 + 1))), (2, zi (K (rCnd K V nx).2.1)), (1, zi ((μ 9 nx) - 256)), (0, zr 7)] [] (zp (zp (zp (zp (zp (zp (zp ν1 7 7 (nI ((rCnd K V nx).2.1 + 1))) 7 7 (nI ((rCnd K V nx).2.1 + 1 + 1))) 7 7 (nI ((rCnd K V nx).2.1 + 1 + 1 + 1))) 13 nr ((μ 9 nx) - 256)) 14 nr (V ((rCnd K V nx).2.1 + 1))) 15 nr ((zp (zp (zp ν1 7 7 (nI ((rCnd K V nx).2.1 + 1))) 7 7 (nI ((rCnd K V nx).2.1 + 1 + 1))) 7 7 (nI ((rCnd K V nx).2.1 + 1 + 1 + 1))) 12 6)) 12 5 (nI (nr + 1))) _
                          refine zx_iconst (v := 1) (nn := 230) rfl dX4_readRule_229 rfl ?_
                          refine zx_zret rfl rfl dX4_readRule_230 ?_
                          have hE : rRule K V nx = (true, (rCnd K V nx).2.1 + 1 + 1 + 1, (K nx - 256, (K (rCnd K V nx).2.1), V ((rCnd K V nx).2.1 + 1)), (rCnd K V nx).2.2.1, (rCnd K V nx).2.2.2) := by unfold rRule; rw [if_pos hkd, if_pos hc1, if_pos hdd, if_neg hd65, if_pos ⟨h135, h149⟩]; unfold rFin; rw [if_pos h205]
                          rw [hE]
                          have hE9 : rdE μ (zp (zp (zp ν1 7 7 (nI ((rCnd K V nx).2.1 + 1))) 7 7 (nI ((rCnd K V nx).2.1 + 1 + 1))) 7 7 (nI ((rCnd K V nx).2.1 + 1 + 1 + 1))) := ((hEc.tr rdE.nx).tr rdE.nx).tr rdE.nx
                          have hS9 : rdS K V c (zp (zp (zp ν1 7 7 (nI ((rCnd K V nx).2.1 + 1))) 7 7 (nI ((rCnd K V nx).2.1 + 1 + 1))) 7 7 (nI ((rCnd K V nx).2.1 + 1 + 1 + 1))) ((rCnd K V nx).2.1 + 1 + 1 + 1) (cc + (rCnd K V nx).2.2.1.length) := ((hSc.nx hnd).nx (by rw [h135]; decide)).nx (by rw [h205]; decide)
                          have hC9 : rdC μ (zp (zp (zp ν1 7 7 (nI ((rCnd K V nx).2.1 + 1))) 7 7 (nI ((rCnd K V nx).2.1 + 1 + 1))) 7 7 (nI ((rCnd K V nx).2.1 + 1 + 1 + 1))) cc (rCnd K V nx).2.2.1 := hCc.nx.nx.nx
                          obtain ⟨s1, s2, s3, s4, s5⟩ := hS9
                          refine ⟨rfl, ⟨(hE9.R.1.tr ((((zJ.rf.p (by decide)).p (by decide)).p (by decide)).p (by decide))), fun i hi => ?_⟩, ?_, fun _ => ⟨⟨fun k hk => ?_, fun k hk => ?_, s3, ⟨?_, s4.2⟩, ?_, s5.2⟩, ⟨fun j hj => ?_, fun j hj => ?_⟩, ?_, fun j hj => ⟨?_, ?_, ?_⟩, ?_, ?_, ?_, fun j hj => ?_⟩, fun h => by cases h⟩
                          · rw [zp_ne (by decide), zp_ne (by decide), zp_ne (by decide), zp_ne (by decide)]; exact hE9.2.1 i hi
                          · rw [zp_ne (by decide), zp_ne (by decide), zp_ne (by decide), zp_ne (by decide)]; exact s4.1
                          · rw [zp_ne (by decide), zp_ne (by decide), zp_ne (by decide), zp_ne (by decide)]; exact s1 k hk
                          · rw [zp_ne (by decide), zp_ne (by decide), zp_ne (by decide), zp_ne (by decide)]; exact s2 k hk
                          · rw [zp_ne (by decide), zp_ne (by decide), zp_ne (by decide), zp_ne (by decide)]; exact s4.1
                          · rw [zp_eq, pk_un (by decide), zp_ne (by decide), zp_ne (by decide), zp_ne (by decide)]; exact s5.1
                          · rw [zp_ne (by decide), zp_ne (by decide), zp_ne (by decide), zp_ne (by decide)]; exact hC9.1 j hj
                          · rw [zp_ne (by decide), zp_ne (by decide), zp_ne (by decide), zp_ne (by decide)]; exact hC9.2 j hj
                          · rw [zp_eq]; exact pk_us
                          · rw [zp_ne (by decide), zp_ne (by decide), zp_ne (by decide), zp_eq, pk_un (by omega), hE9.1 13 (by decide)]
                          · rw [zp_ne (by decide), zp_ne (by decide), zp_eq, pk_un (by omega), zp_ne (by decide), hE9.1 14 (by decide)]
                          · rw [zp_ne (by decide), zp_eq, pk_un (by omega), zp_ne (by decide), zp_ne (by decide), hE9.1 15 (by decide)]
                          · rw [zp_ne (by decide), zp_ne (by decide), zp_ne (by decide), zp_eq, pk_us, hk]
                          · rw [zp_ne (by decide), zp_ne (by decide), zp_eq, pk_us]; refine Eq.symm ?_; show (if (K (rCnd K V nx).2.1) = 265 then (1000 : Int32) else if (K (rCnd K V nx).2.1) = 263 then V ((rCnd K V nx).2.1 + 1) else -(V ((rCnd K V nx).2.1 + 1))) = _; rw [if_neg hd65, if_pos h158]
                          · rw [zp_ne (by decide), zp_eq, pk_us]; exact s5.1
                          · rw [zp_ne (by decide), zp_eq, pk_un (by omega), zp_ne (by decide), zp_ne (by decide), hE9.1 15 (by decide)]
                        · refine zx_iconst (v := 0) (nn := 209) rfl dX4_readRule_208 rfl ?_
                          refine zx_zret rfl rfl dX4_readRule_209 ?_
                          have hE : rRule K V nx = (false, (rCnd K V nx).2.1 + 1 + 1, pRl0) := by unfold rRule; rw [if_pos hkd, if_pos hc1, if_pos hdd, if_neg hd65, if_pos ⟨h135, h149⟩]; unfold rFin; rw [if_neg h205]
                          rw [hE]
                          exact ⟨rfl, ((hEc.tr rdE.nx).tr rdE.nx).R, by rw [zp_eq]; exact pk_us, (fun h => by cases h), fun _ => (((hEc.tr rdE.nx).tr rdE.nx)).1 15 (by decide)⟩
                    · refine zx_iconst (v := 0) (nn := 153) rfl dX4_readRule_152 rfl ?_
                      refine zx_zret rfl rfl dX4_readRule_153 ?_
                      have hE : rRule K V nx = (false, (rCnd K V nx).2.1 + 1, pRl0) := by unfold rRule; rw [if_pos hkd, if_pos hc1, if_pos hdd, if_neg hd65, if_neg (fun q => h149 q.2)]
                      rw [hE]
                      exact ⟨rfl, (hEc.tr rdE.nx).R, by rw [zp_eq]; exact pk_us, (fun h => by cases h), fun _ => ((hEc.tr rdE.nx)).1 15 (by decide)⟩
              · refine zx_iconst (v := 0) (nn := 102) rfl dX4_readRule_101 rfl ?_
                refine zx_zret rfl rfl dX4_readRule_102 ?_
                have hE : rRule K V nx = (false, (rCnd K V nx).2.1, pRl0) := by unfold rRule; rw [if_pos hkd, if_pos hc1, if_neg (fun q => q.elim h84 (fun q => q.elim h91 h98))]
                rw [hE]
                exact ⟨rfl, hEc.R, hSc.2.2.2.1.1, (fun h => by cases h), fun _ => (hEc).1 15 (by decide)⟩
        · refine zx_iconst (v := 0) (nn := 69) rfl dX4_readRule_68 rfl ?_
          refine zx_zret rfl rfl dX4_readRule_69 ?_
          have hcn : rCnd K V nx = rCond K V 3 (nx + 1 + 1) := if_pos h47
          rw [← hcn] at q1 h65
          have hE : rRule K V nx = (false, (rCnd K V nx).2.1, pRl0) := by unfold rRule; rw [if_pos hkd, if_neg (by rw [h65]; decide)]
          rw [hE]
          exact ⟨rfl, ((rdE.nx.tr rdE.nx).tr q1.1).R, q1.2.1, (fun h => by cases h), fun _ => (((rdE.nx.tr rdE.nx).tr q1.1)).1 15 (by decide)⟩
    · refine zx_iconst (v := 0) (nn := 24) rfl dX4_readRule_23 rfl ?_
      refine zx_zret rfl rfl dX4_readRule_24 ?_
      have hE : rRule K V nx = (false, nx, pRl0) := by unfold rRule; rw [if_neg (fun q => h20 (hk ▸ q.2))]
      rw [hE]
      exact ⟨rfl, (rdE.rf (μ := μ)).R, hS.2.2.2.1.1, (fun h => by cases h), fun _ => ((rdE.rf (μ := μ))).1 15 (by decide)⟩
