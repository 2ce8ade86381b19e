theorem kind5 {k : Int32} (h : 1 ≤ k ∧ k ≤ 5) : k = 1 ∨ k = 2 ∨ k = 3 ∨ k = 4 ∨ k = 5 := by
  rw [Int32.le_iff_toInt_le, Int32.le_iff_toInt_le, zt1, zt5] at h
  rcases (show k.toInt = 1 ∨ k.toInt = 2 ∨ k.toInt = 3 ∨ k.toInt = 4 ∨ k.toInt = 5 by omega) with q | q | q | q | q
  · exact Or.inl (Int32.toInt_inj.mp (by rw [q, zt1]))
  · exact Or.inr (Or.inl (Int32.toInt_inj.mp (by rw [q, zt2])))
  · exact Or.inr (Or.inr (Or.inl (Int32.toInt_inj.mp (by rw [q, zt3]))))
  · exact Or.inr (Or.inr (Or.inr (Or.inl (Int32.toInt_inj.mp (by rw [q, zt4])))))
  · exact Or.inr (Or.inr (Or.inr (Or.inr (Int32.toInt_inj.mp (by rw [q, zt5])))))
theorem act4 {k : Int32} (h : pIn k 0 3 = true) : k = 0 ∨ k = 1 ∨ k = 2 ∨ k = 3 := by
  obtain ⟨j, ⟨h1, _⟩, rfl⟩ := pIn_n (b := 3) (by omega) (by decide) h
  rcases (show j = 0 ∨ j = 1 ∨ j = 2 ∨ j = 3 by omega) with rfl | rfl | rfl | rfl
  · exact Or.inl rfl
  · exact Or.inr (Or.inl rfl)
  · exact Or.inr (Or.inr (Or.inl rfl))
  · exact Or.inr (Or.inr (Or.inr rfl))
theorem what4 {w : Int32} (h : pIn w 0 5 = true) (h4 : ¬ 4 ≤ w) : w = 0 ∨ w = 1 ∨ w = 2 ∨ w = 3 := by
  obtain ⟨j, ⟨h1, _⟩, rfl⟩ := pIn_n (b := 5) (by omega) (by decide) h
  have : j < 4 := Nat.lt_of_not_le (fun q => h4 (nI_le (a := 4) q (by omega)))
  rcases (show j = 0 ∨ j = 1 ∨ j = 2 ∨ j = 3 by omega) with rfl | rfl | rfl | rfl
  · exact Or.inl rfl
  · exact Or.inr (Or.inl rfl)
  · exact Or.inr (Or.inr (Or.inl rfl))
  · exact Or.inr (Or.inr (Or.inr rfl))
def gActC (μ : zM) (h act : Int32) : Bool := pHas 4 h && pIn act 0 3 && decide (gH μ h.toNatClampNeg = 1)
def gNm (μ : zM) (h : Int32) : Int32 := μ 22 h.toNatClampNeg
def gKd (μ : zM) (h : Int32) : Int32 := rS 1 μ (7 + 4 * (gNm μ h).toNatClampNeg)
def gSz (μ : zM) (h : Int32) : Int32 := rS 1 μ (7 + 4 * (gNm μ h).toNatClampNeg + 2)
def gActL (μ : zM) (h act : Int32) : List Int32 := if gActC μ h act = true then pThL act (gKd μ h) (gNm μ h) (gSz μ h) else []
def gAct (μ : zM) (h act x : Int32) : Int32 := if gActC μ h act = true then (if pThP act (gKd μ h) (gNm μ h) (gSz μ h) = true then -15 else pThV act (gKd μ h) (gNm μ h) (gSz μ h) x) else 0
theorem pLamp_put {s : Nat → Int32} {k a z t : Int32} {n : Nat} (hn : pL s = n) (h0 : s 0 = nI n) : pPut (pPut (pPut (pPut (pPut s (7 + 4 * n) k) (7 + 4 * n + 1) a) (7 + 4 * n + 2) z) (7 + 4 * n + 3) t) 0 (nI (n + 1)) = pLamp s k a z t := by
  funext i
  unfold pPut pLamp
  rw [hn, h0, nI_1]
  (repeat' split) <;> first | rfl | omega
theorem pDance_put {s : Nat → Int32} {p : Int32} {n : Nat} (hn : pB s = n) (h0 : s 1 = nI n) : pPut (pPut s (31 + n) p) 1 (nI (n + 1)) = pDance s p := by
  funext i
  unfold pPut pDance
  rw [hn, h0, nI_1]
theorem bit255 {w i : Nat} (h : 8 ≤ i) : (BitVec.ofNat w 255).getLsbD i = false := by
  rw [BitVec.getLsbD_ofNat, Nat.testBit_lt_two_pow (Nat.lt_of_lt_of_le (by decide : 255 < 2 ^ 8) (Nat.pow_le_pow_right (by decide) h)), Bool.and_false]
theorem byte_bv (E : BitVec 64) (s : Nat) (hs : s ≤ 56) : ((E.sshiftRight s) &&& BitVec.ofNat 64 255).signExtend 32 = ((E >>> s).signExtend 32) &&& BitVec.ofNat 32 255 := by
  apply BitVec.eq_of_getLsbD_eq
  intro i hi
  rw [BitVec.getLsbD_signExtend, BitVec.getLsbD_and, BitVec.getLsbD_and, BitVec.getLsbD_signExtend, BitVec.getLsbD_sshiftRight, BitVec.getLsbD_ushiftRight]
  have h64 : i < 64 := by omega
  rw [if_pos h64, if_pos h64, decide_eq_true hi, Bool.true_and, Bool.true_and]
  by_cases h8 : i < 8
  · rw [if_pos (by omega), decide_eq_false (by omega)]
    have b1 : ∀ j, j < 8 → (BitVec.ofNat 64 255).getLsbD j = true := by decide
    have b2 : ∀ j, j < 8 → (BitVec.ofNat 32 255).getLsbD j = true := by decide
    rw [b1 i h8, b2 i h8]
    rfl
  · rw [bit255 (by omega), bit255 (by omega), Bool.and_false, Bool.and_false]
theorem sh_c (k : Nat) (h : k < 8) : ((8 * nI k).toInt64 &&& 63) = Int64.ofNat (8 * k) ∧ ((8 * nI k).toInt64.toUInt64 &&& Int64.toUInt64 63) = UInt64.ofNat (8 * k) := by
  have e : ∀ k, k < 8 → ((8 * nI k).toInt64 &&& 63) = Int64.ofNat (8 * k) ∧ ((8 * nI k).toInt64.toUInt64 &&& Int64.toUInt64 63) = UInt64.ofNat (8 * k) := by decide +kernel
  exact e k h
theorem shr_i (e : Int64) (k : Nat) (h : k < 8) : (e >>> Int64.ofNat (8 * k)).toBitVec = e.toBitVec.sshiftRight (8 * k) := by
  show BitVec.sshiftRight' e.toBitVec ((Int64.ofNat (8 * k)).toBitVec.smod 64) = _
  have q : ∀ k, k < 8 → ((Int64.ofNat (8 * k)).toBitVec.smod 64).toNat = 8 * k := by decide +kernel
  unfold BitVec.sshiftRight'
  rw [q k h]
theorem shr_u (e : UInt64) (k : Nat) (h : k < 8) : (e >>> UInt64.ofNat (8 * k)).toBitVec = e.toBitVec >>> (8 * k) := by
  show e.toBitVec >>> ((UInt64.ofNat (8 * k)).toBitVec % 64) = _
  have q : ∀ k, k < 8 → ((UInt64.ofNat (8 * k)).toBitVec % 64).toNat = 8 * k := by decide +kernel
  rw [BitVec.ushiftRight_eq', q k h]
theorem byte_r {e : Int64} {k : Nat} (h : k < 8) : (zlshr e (8 * nI k) &&& 255).toInt32 = tByte e k := by
  unfold tByte zlshr zlushr
  rw [(sh_c k h).1, (sh_c k h).2]
  apply Int32.toBitVec_inj.mp
  show (((e >>> Int64.ofNat (8 * k)).toBitVec &&& BitVec.ofNat 64 255).signExtend 32) = (((e.toUInt64 >>> UInt64.ofNat (8 * k)).toBitVec).signExtend 32) &&& BitVec.ofNat 32 255
  rw [shr_i e k h, shr_u _ k h]
  exact byte_bv e.toBitVec (8 * k) (by omega)
theorem what5 {w : Int32} (h : pIn w 0 5 = true) (h4 : 4 ≤ w) (hn : ¬ w = 4) : w = 5 := by
  obtain ⟨j, ⟨h1, _⟩, rfl⟩ := pIn_n (b := 5) (by omega) (by decide) h
  have h2 : 4 ≤ j := nI_le_le (b := 4) h4 (by omega)
  rcases (show j = 4 ∨ j = 5 by omega) with rfl | rfl
  · exact absurd rfl hn
  · rfl
theorem seen_b {s : Nat → Int32} (ok : pOK s) (ab : pAB s) : 0 ≤ pSeen s ∧ pSeen s ≤ 40 := by
  by_cases h : s 1 = 0
  · unfold pSeen pNear
    rw [if_pos h]
    exact ⟨by decide, by decide⟩
  · rw [seenE ok h]
    have h1 := nI_B ok h
    have := (ok_b ok).2
    exact ab.2 _ (by omega)
set_option maxHeartbeats 4000000 in
set_option maxRecDepth 100000 in
theorem eX11_lamp_0 (σ : zG) (μ : zM) (k : Int32) (a : Int32) (z : Int32) (t : Int32) (ok : pOK (rS 1 μ)) : zMet shR σ 2 MX11_lamp yX11_lamp [zr 0, zi k, zi a, zi z, zi t] μ (fun rr μ' => rr = some (zi (vLamp (rS 1 μ) k a z t)) ∧ rS 1 μ' = sLamp (rS 1 μ) k a z t ∧ rK μ μ' ∧ zJ [1] μ μ') := by
  have hL1 : (rS 1 μ) 0 = nI (pL (rS 1 μ)) := (ok_L ok).1
  have hL2 := (ok_L ok).2
  refine zmetF (by decide +kernel) rfl (Nat.le_of_ble_eq_true rfl) ?_
  show zX shR σ 2 MX11_lamp 0 [(0, zr 0), (1, zi k), (2, zi a), (3, zi z), (4, zi t)] [] μ _
  refine zx_iload_n (k := 1) (nn := 1) dX11_lamp_0 rfl rfl rfl ?_
  refine zx_i2l (nn := 2) dX11_lamp_1 rfl ?_
  refine zx_lconst (v := 1) (nn := 3) rfl dX11_lamp_2 rfl ?_
  refine zx_ldc2 (v := 5) (nn := 6) cwX11_78 dX11_lamp_3 rfl ?_
  refine zx_callSf (nn := 9) (d' := 0) (as := [zj k.toInt64, zj 1, zj 5]) (rest := []) (n := 3) (eX11_isIn σ μ k.toInt64 1 5  ) kX11_isIn mlX11_70 (by decide) rfl rfl (Nat.le_of_ble_eq_true rfl) dX11_lamp_6 rfl ?_
  show zX shR σ 2 MX11_lamp 9 [(0, zr 0), (1, zi k), (2, zi a), (3, zi z), (4, zi t)] [zi (zb (decide (1 ≤ k.toInt64) && decide (k.toInt64 ≤ 5)))] μ _
  rw [show zb (decide (1 ≤ k.toInt64) && decide (k.toInt64 ≤ 5)) = zb (pIn k 1 5) from congrArg zb (in_r k 1 5)]
  show zX shR σ 2 MX11_lamp 9 [(0, zr 0), (1, zi k), (2, zi a), (3, zi z), (4, zi t)] [zi (zb (pIn k 1 5))] μ _
  refine zx_ifb_eq (tgt := 37) (nn := 12) dX11_lamp_9 (by decide) rfl (fun h9 => ?_) (fun h9 => ?_)
  · refine zx_iconst (v := -1) (nn := 38) rfl dX11_lamp_37 rfl ?_
    refine zx_iret rfl dX11_lamp_38 ?_
    have hv : vLampC k a z t = false := by unfold vLampC; simp [h9]
    exact ⟨congrArg (fun x => some (zi x)) (by unfold vLamp; rw [if_neg (by rw [hv]; decide)]), by unfold sLamp; rw [if_neg (by rw [hv]; decide)], rK_rf, zJ.rf⟩
  · refine zx_iconst (v := 1) (nn := 13) rfl dX11_lamp_12 rfl ?_
    refine zx_iload_n (k := 2) (nn := 14) dX11_lamp_13 rfl rfl rfl ?_
    refine zx_callSf (nn := 17) (d' := 1) (as := [zi 1, zi a]) (rest := []) (n := 2) (eX11_isTold σ μ 1 a  ) kX11_isTold mlX11_80 (by decide) rfl rfl (Nat.le_of_ble_eq_true rfl) dX11_lamp_14 rfl ?_
    show zX shR σ 2 MX11_lamp 17 [(0, zr 0), (1, zi k), (2, zi a), (3, zi z), (4, zi t)] [zi (zb (pTold 1 a))] μ _
    refine zx_ifb_eq (tgt := 37) (nn := 20) dX11_lamp_17 (by decide) rfl (fun h17 => ?_) (fun h17 => ?_)
    · refine zx_iconst (v := -1) (nn := 38) rfl dX11_lamp_37 rfl ?_
      refine zx_iret rfl dX11_lamp_38 ?_
      have hv : vLampC k a z t = false := by unfold vLampC; simp [h9, h17]
      exact ⟨congrArg (fun x => some (zi x)) (by unfold vLamp; rw [if_neg (by rw [hv]; decide)]), by unfold sLamp; rw [if_neg (by rw [hv]; decide)], rK_rf, zJ.rf⟩
    · refine zx_iconst (v := 2) (nn := 21) rfl dX11_lamp_20 rfl ?_
      refine zx_iload_n (k := 3) (nn := 22) dX11_lamp_21 rfl rfl rfl ?_
      refine zx_callSf (nn := 25) (d' := 1) (as := [zi 2, zi z]) (rest := []) (n := 2) (eX11_isTold σ μ 2 z  ) kX11_isTold mlX11_80 (by decide) rfl rfl (Nat.le_of_ble_eq_true rfl) dX11_lamp_22 rfl ?_
      show zX shR σ 2 MX11_lamp 25 [(0, zr 0), (1, zi k), (2, zi a), (3, zi z), (4, zi t)] [zi (zb (pTold 2 z))] μ _
      refine zx_ifb_eq (tgt := 37) (nn := 28) dX11_lamp_25 (by decide) rfl (fun h25 => ?_) (fun h25 => ?_)
      · refine zx_iconst (v := -1) (nn := 38) rfl dX11_lamp_37 rfl ?_
        refine zx_iret rfl dX11_lamp_38 ?_
        have hv : vLampC k a z t = false := by unfold vLampC; simp [h9, h17, h25]
        exact ⟨congrArg (fun x => some (zi x)) (by unfold vLamp; rw [if_neg (by rw [hv]; decide)]), by unfold sLamp; rw [if_neg (by rw [hv]; decide)], rK_rf, zJ.rf⟩
      · refine zx_iconst (v := 3) (nn := 29) rfl dX11_lamp_28 rfl ?_
        refine zx_iload (k := 4) (nn := 31) dX11_lamp_29 rfl rfl ?_
        refine zx_callSf (nn := 34) (d' := 1) (as := [zi 3, zi t]) (rest := []) (n := 2) (eX11_isTold σ μ 3 t  ) kX11_isTold mlX11_80 (by decide) rfl rfl (Nat.le_of_ble_eq_true rfl) dX11_lamp_31 rfl ?_
        show zX shR σ 2 MX11_lamp 34 [(0, zr 0), (1, zi k), (2, zi a), (3, zi z), (4, zi t)] [zi (zb (pTold 3 t))] μ _
        refine zx_ifb_ne (tgt := 39) (nn := 37) dX11_lamp_34 (by decide) rfl (fun h34 => ?_) (fun h34 => ?_)
        · refine zx_aload_n (k := 0) (nn := 40) dX11_lamp_39 rfl rfl rfl ?_
          refine zx_getR (q := 1) (nn := 43) flX11_9 rfl rfl dX11_lamp_40 rfl ?_
          refine zx_iconst (v := 0) (nn := 44) rfl dX11_lamp_43 rfl ?_
          refine zx_iald_n (j := 0) (nn := 45) rfl (by omega) (by decide) dX11_lamp_44 rfl ?_
          rw [show μ 1 0 = nI (pL (rS 1 μ)) from hL1]
          show zX shR σ 2 MX11_lamp 45 [(0, zr 0), (1, zi k), (2, zi a), (3, zi z), (4, zi t)] [zi (nI (pL (rS 1 μ)))] μ _
          refine zx_bipush (v := 6) (nn := 47) rfl dX11_lamp_45 rfl ?_
          refine zx_icmp_ne (tgt := 53) (nn := 50) dX11_lamp_47 (by decide) rfl (fun h47 => ?_) (fun h47 => ?_)
          · have hn6 : (pL (rS 1 μ)) < 6 := by have : (pL (rS 1 μ)) ≠ 6 := fun q => h47 (by rw [q]; rfl); omega
            refine zx_bipush (v := 7) (nn := 55) rfl dX11_lamp_53 rfl ?_
            refine zx_iconst (v := 4) (nn := 56) rfl dX11_lamp_55 rfl ?_
            refine zx_aload_n (k := 0) (nn := 57) dX11_lamp_56 rfl rfl rfl ?_
            refine zx_getR (q := 1) (nn := 60) flX11_9 rfl rfl dX11_lamp_57 rfl ?_
            refine zx_iconst (v := 0) (nn := 61) rfl dX11_lamp_60 rfl ?_
            refine zx_iald_n (j := 0) (nn := 62) rfl (by omega) (by decide) dX11_lamp_61 rfl ?_
            rw [show μ 1 0 = nI (pL (rS 1 μ)) from hL1]
            show zX shR σ 2 MX11_lamp 62 [(0, zr 0), (1, zi k), (2, zi a), (3, zi z), (4, zi t)] [zi (nI (pL (rS 1 μ))), zi 4, zi 7] μ _
            refine zx_imul (nn := 63) dX11_lamp_62 rfl ?_
            refine zx_iadd (nn := 64) dX11_lamp_63 rfl ?_
            rw [show 7 + (4 * (nI (pL (rS 1 μ)))) = nI (7 + 4 * (pL (rS 1 μ))) from by simp only [show (2 : Int32) = nI 2 from rfl, show (3 : Int32) = nI 3 from rfl, show (1 : Int32) = nI 1 from rfl, show (4 : Int32) = nI 4 from rfl, show (5 : Int32) = nI 5 from rfl, show (7 : Int32) = nI 7 from rfl, show (31 : Int32) = nI 31 from rfl, show (47 : Int32) = nI 47 from rfl, show (71 : Int32) = nI 71 from rfl, show (111 : Int32) = nI 111 from rfl, nI_mulN, nI_add]]
            show zX shR σ 2 MX11_lamp 64 [(0, zr 0), (1, zi k), (2, zi a), (3, zi z), (4, zi t)] [zi (nI (7 + 4 * (pL (rS 1 μ))))] μ _
            refine zx_istore (nn := 66) (lv' := [(5, zi (nI (7 + 4 * (pL (rS 1 μ))))), (0, zr 0), (1, zi k), (2, zi a), (3, zi z), (4, zi t)]) dX11_lamp_64 (by decide) rfl rfl ?_
            refine zx_aload_n (k := 1) (nn := 67) dX11_lamp_66 rfl rfl rfl ?_
            refine zx_getR (q := 1) (nn := 70) flX11_9 rfl rfl dX11_lamp_67 rfl ?_
            refine zx_iload (k := 0) (nn := 72) dX11_lamp_70 rfl rfl ?_
            refine zx_iload_n (k := 2) (nn := 73) dX11_lamp_72 rfl rfl rfl ?_
            refine zx_iast_n (j := 7 + 4 * (pL (rS 1 μ))) (nn := 74) rfl (by omega) (by decide) dX11_lamp_73 rfl ?_
            refine zx_aload_n (k := 1) (nn := 75) dX11_lamp_74 rfl rfl rfl ?_
            refine zx_getR (q := 1) (nn := 78) flX11_9 rfl rfl dX11_lamp_75 rfl ?_
            refine zx_iload (k := 0) (nn := 80) dX11_lamp_78 rfl rfl ?_
            refine zx_iconst (v := 1) (nn := 81) rfl dX11_lamp_80 rfl ?_
            refine zx_iadd (nn := 82) dX11_lamp_81 rfl ?_
            rw [show (nI (7 + 4 * (pL (rS 1 μ)))) + 1 = nI (7 + 4 * (pL (rS 1 μ)) + 1) from by simp only [show (2 : Int32) = nI 2 from rfl, show (3 : Int32) = nI 3 from rfl, show (1 : Int32) = nI 1 from rfl, show (4 : Int32) = nI 4 from rfl, show (5 : Int32) = nI 5 from rfl, show (7 : Int32) = nI 7 from rfl, show (31 : Int32) = nI 31 from rfl, show (47 : Int32) = nI 47 from rfl, show (71 : Int32) = nI 71 from rfl, show (111 : Int32) = nI 111 from rfl, nI_mulN, nI_add]]
            show zX shR σ 2 MX11_lamp 82 [(5, zi (nI (7 + 4 * (pL (rS 1 μ))))), (0, zr 0), (1, zi k), (2, zi a), (3, zi z), (4, zi t)] [zi (nI (7 + 4 * (pL (rS 1 μ)) + 1)), zr 1] (zp μ 1 (7 + 4 * (pL (rS 1 μ))) k) _
            refine zx_iload_n (k := 3) (nn := 83) dX11_lamp_82 rfl rfl rfl ?_
            refine zx_iast_n (j := 7 + 4 * (pL (rS 1 μ)) + 1) (nn := 84) rfl (by omega) (by decide) dX11_lamp_83 rfl ?_
            refine zx_aload_n (k := 1) (nn := 85) dX11_lamp_84 rfl rfl rfl ?_
            refine zx_getR (q := 1) (nn := 88) flX11_9 rfl rfl dX11_lamp_85 rfl ?_
            refine zx_iload (k := 0) (nn := 90) dX11_lamp_88 rfl rfl ?_
            refine zx_iconst (v := 2) (nn := 91) rfl dX11_lamp_90 rfl ?_
            refine zx_iadd (nn := 92) dX11_lamp_91 rfl ?_
            rw [show (nI (7 + 4 * (pL (rS 1 μ)))) + 2 = nI (7 + 4 * (pL (rS 1 μ)) + 2) from by simp only [show (2 : Int32) = nI 2 from rfl, show (3 : Int32) = nI 3 from rfl, show (1 : Int32) = nI 1 from rfl, show (4 : Int32) = nI 4 from rfl, show (5 : Int32) = nI 5 from rfl, show (7 : Int32) = nI 7 from rfl, show (31 : Int32) = nI 31 from rfl, show (47 : Int32) = nI 47 from rfl, show (71 : Int32) = nI 71 from rfl, show (111 : Int32) = nI 111 from rfl, nI_mulN, nI_add]]
            show zX shR σ 2 MX11_lamp 92 [(5, zi (nI (7 + 4 * (pL (rS 1 μ))))), (0, zr 0), (1, zi k), (2, zi a), (3, zi z), (4, zi t)] [zi (nI (7 + 4 * (pL (rS 1 μ)) + 2)), zr 1] (zp (zp μ 1 (7 + 4 * (pL (rS 1 μ))) k) 1 (7 + 4 * (pL (rS 1 μ)) + 1) a) _
            refine zx_iload_n (k := 4) (nn := 93) dX11_lamp_92 rfl rfl rfl ?_
            refine zx_iast_n (j := 7 + 4 * (pL (rS 1 μ)) + 2) (nn := 94) rfl (by omega) (by decide) dX11_lamp_93 rfl ?_
            refine zx_aload_n (k := 1) (nn := 95) dX11_lamp_94 rfl rfl rfl ?_
            refine zx_getR (q := 1) (nn := 98) flX11_9 rfl rfl dX11_lamp_95 rfl ?_
            refine zx_iload (k := 0) (nn := 100) dX11_lamp_98 rfl rfl ?_
            refine zx_iconst (v := 3) (nn := 101) rfl dX11_lamp_100 rfl ?_
            refine zx_iadd (nn := 102) dX11_lamp_101 rfl ?_
            rw [show (nI (7 + 4 * (pL (rS 1 μ)))) + 3 = nI (7 + 4 * (pL (rS 1 μ)) + 3) from by simp only [show (2 : Int32) = nI 2 from rfl, show (3 : Int32) = nI 3 from rfl, show (1 : Int32) = nI 1 from rfl, show (4 : Int32) = nI 4 from rfl, show (5 : Int32) = nI 5 from rfl, show (7 : Int32) = nI 7 from rfl, show (31 : Int32) = nI 31 from rfl, show (47 : Int32) = nI 47 from rfl, show (71 : Int32) = nI 71 from rfl, show (111 : Int32) = nI 111 from rfl, nI_mulN, nI_add]]
            show zX shR σ 2 MX11_lamp 102 [(5, zi (nI (7 + 4 * (pL (rS 1 μ))))), (0, zr 0), (1, zi k), (2, zi a), (3, zi z), (4, zi t)] [zi (nI (7 + 4 * (pL (rS 1 μ)) + 3)), zr 1] (zp (zp (zp μ 1 (7 + 4 * (pL (rS 1 μ))) k) 1 (7 + 4 * (pL (rS 1 μ)) + 1) a) 1 (7 + 4 * (pL (rS 1 μ)) + 2) z) _
            refine zx_iload (k := 5) (nn := 104) dX11_lamp_102 rfl rfl ?_
            refine zx_iast_n (j := 7 + 4 * (pL (rS 1 μ)) + 3) (nn := 105) rfl (by omega) (by decide) dX11_lamp_104 rfl ?_
            refine zx_aload_n (k := 1) (nn := 106) dX11_lamp_105 rfl rfl rfl ?_
            refine zx_getR (q := 1) (nn := 109) flX11_9 rfl rfl dX11_lamp_106 rfl ?_
            refine zx_iconst (v := 0) (nn := 110) rfl dX11_lamp_109 rfl ?_
            refine zx_dup2 (nn := 111) dX11_lamp_110 rfl ?_
            refine zx_iald_n (j := 0) (nn := 112) rfl (by omega) (by decide) dX11_lamp_111 rfl ?_
            rw [show (zp (zp (zp (zp μ 1 (7 + 4 * (pL (rS 1 μ))) k) 1 (7 + 4 * (pL (rS 1 μ)) + 1) a) 1 (7 + 4 * (pL (rS 1 μ)) + 2) z) 1 (7 + 4 * (pL (rS 1 μ)) + 3) t) 1 0 = nI (pL (rS 1 μ)) from by simp only [zp_eq]; rw [pk_un (by omega), pk_un (by omega), pk_un (by omega), pk_un (by omega)]; exact hL1]
            show zX shR σ 2 MX11_lamp 112 [(5, zi (nI (7 + 4 * (pL (rS 1 μ))))), (0, zr 0), (1, zi k), (2, zi a), (3, zi z), (4, zi t)] [zi (nI (pL (rS 1 μ))), zi 0, zr 1] (zp (zp (zp (zp μ 1 (7 + 4 * (pL (rS 1 μ))) k) 1 (7 + 4 * (pL (rS 1 μ)) + 1) a) 1 (7 + 4 * (pL (rS 1 μ)) + 2) z) 1 (7 + 4 * (pL (rS 1 μ)) + 3) t) _
            refine zx_iconst (v := 1) (nn := 113) rfl dX11_lamp_112 rfl ?_
            refine zx_iadd (nn := 114) dX11_lamp_113 rfl ?_
            rw [show (nI (pL (rS 1 μ))) + 1 = nI ((pL (rS 1 μ)) + 1) from nI_1 _]
            show zX shR σ 2 MX11_lamp 114 [(5, zi (nI (7 + 4 * (pL (rS 1 μ))))), (0, zr 0), (1, zi k), (2, zi a), (3, zi z), (4, zi t)] [zi (nI ((pL (rS 1 μ)) + 1)), zi 0, zr 1] (zp (zp (zp (zp μ 1 (7 + 4 * (pL (rS 1 μ))) k) 1 (7 + 4 * (pL (rS 1 μ)) + 1) a) 1 (7 + 4 * (pL (rS 1 μ)) + 2) z) 1 (7 + 4 * (pL (rS 1 μ)) + 3) t) _
            refine zx_iast_n (j := 0) (nn := 115) rfl (by omega) (by decide) dX11_lamp_114 rfl ?_
            refine zx_aload_n (k := 1) (nn := 116) dX11_lamp_115 rfl rfl rfl ?_
            refine zx_getR (q := 1) (nn := 119) flX11_9 rfl rfl dX11_lamp_116 rfl ?_
            refine zx_iconst (v := 0) (nn := 120) rfl dX11_lamp_119 rfl ?_
            refine zx_iald_n (j := 0) (nn := 121) rfl (by omega) (by decide) dX11_lamp_120 rfl ?_
            show zX shR σ 2 MX11_lamp 121 [(5, zi (nI (7 + 4 * (pL (rS 1 μ))))), (0, zr 0), (1, zi k), (2, zi a), (3, zi z), (4, zi t)] [zi (nI ((pL (rS 1 μ)) + 1))] (zp (zp (zp (zp (zp μ 1 (7 + 4 * (pL (rS 1 μ))) k) 1 (7 + 4 * (pL (rS 1 μ)) + 1) a) 1 (7 + 4 * (pL (rS 1 μ)) + 2) z) 1 (7 + 4 * (pL (rS 1 μ)) + 3) t) 1 0 (nI ((pL (rS 1 μ)) + 1))) _
            refine zx_iconst (v := 1) (nn := 122) rfl dX11_lamp_121 rfl ?_
            refine zx_isub (nn := 123) dX11_lamp_122 rfl ?_
            rw [show (nI ((pL (rS 1 μ)) + 1)) - 1 = nI (pL (rS 1 μ)) from nI_pred _]
            show zX shR σ 2 MX11_lamp 123 [(5, zi (nI (7 + 4 * (pL (rS 1 μ))))), (0, zr 0), (1, zi k), (2, zi a), (3, zi z), (4, zi t)] [zi (nI (pL (rS 1 μ)))] (zp (zp (zp (zp (zp μ 1 (7 + 4 * (pL (rS 1 μ))) k) 1 (7 + 4 * (pL (rS 1 μ)) + 1) a) 1 (7 + 4 * (pL (rS 1 μ)) + 2) z) 1 (7 + 4 * (pL (rS 1 μ)) + 3) t) 1 0 (nI ((pL (rS 1 μ)) + 1))) _
            refine zx_iret rfl dX11_lamp_123 ?_
            have h6 : (rS 1 μ) 0 < 6 := by rw [hL1]; exact nI_lt (b := 6) hn6 (by omega)
            have hv : vLampC k a z t = true := by unfold vLampC; rw [h9, h17, h25, h34]; rfl
            refine ⟨congrArg (fun x => some (zi x)) (by unfold vLamp; rw [if_pos hv, if_pos h6, hL1]), ?_, (rK_p (rK_p (rK_p (rK_p (rK_p rK_rf (by omega) (by omega) (by omega)) (by omega) (by omega) (by omega)) (by omega) (by omega) (by omega)) (by omega) (by omega) (by omega)) (by omega) (by omega) (by omega)), (((((zJ.rf.p (by decide)).p (by decide)).p (by decide)).p (by decide)).p (by decide))⟩
            unfold sLamp
            rw [if_pos hv, if_pos h6, rS_p (by omega) (by omega) (by omega), rS_p (by omega) (by omega) (by omega), rS_p (by omega) (by omega) (by omega), rS_p (by omega) (by omega) (by omega), rS_p (by omega) (by omega) (by omega)]
            exact pLamp_put rfl hL1
          · refine zx_bipush (v := -2) (nn := 52) rfl dX11_lamp_50 rfl ?_
            refine zx_iret rfl dX11_lamp_52 ?_
            have h6 : ¬ (rS 1 μ) 0 < 6 := by rw [hL1]; intro q; rw [h47] at q; exact absurd q (by decide)
            have hv : vLampC k a z t = true := by unfold vLampC; rw [h9, h17, h25, h34]; rfl
            exact ⟨congrArg (fun x => some (zi x)) (by unfold vLamp; rw [if_pos hv, if_neg h6]), by unfold sLamp; rw [if_pos hv, if_neg h6], rK_rf, zJ.rf⟩
        · refine zx_iconst (v := -1) (nn := 38) rfl dX11_lamp_37 rfl ?_
          refine zx_iret rfl dX11_lamp_38 ?_
          have hv : vLampC k a z t = false := by unfold vLampC; simp [h9, h17, h25, h34]
          exact ⟨congrArg (fun x => some (zi x)) (by unfold vLamp; rw [if_neg (by rw [hv]; decide)]), by unfold sLamp; rw [if_neg (by rw [hv]; decide)], rK_rf, zJ.rf⟩
set_option maxHeartbeats 4000000 in
set_option maxRecDepth 100000 in
theorem eX11_lampOf_0 (σ : zG) (μ : zM) (l : Int32) (what : Int32) {ρ : pR} (ok : pOK (rS 1 μ)) (hρ : rRep ρ (μ 1)) : zMet shR σ 6 MX11_lampOf yX11_lampOf [zr 0, zi l, zi what] μ (fun rr μ' => rr = some (zi (vLampOf ρ (rS 1 μ) l what)) ∧ zJ [6] μ μ') := by
  refine zmetF (by decide +kernel) rfl (Nat.le_of_ble_eq_true rfl) ?_
  show zX shR σ 6 MX11_lampOf 0 [(0, zr 0), (1, zi l), (2, zi what)] [] μ _
  refine zx_aload_n (k := 0) (nn := 1) dX11_lampOf_0 rfl rfl rfl ?_
  refine zx_iload_n (k := 1) (nn := 2) dX11_lampOf_1 rfl rfl rfl ?_
  refine zx_callVf (nn := 5) (k := 0) (d' := 1) (as := [zi l]) (rest := []) (n := 1) (eX11_isLamp_0 σ μ l  ok) kX11_isLamp mlX11_84 rfl rfl rfl (by decide) rfl rfl (Nat.le_of_ble_eq_true rfl) dX11_lampOf_2 rfl ?_
  show zX shR σ 6 MX11_lampOf 5 [(0, zr 0), (1, zi l), (2, zi what)] [zi (zb (pHas ((rS 1 μ) 0) l))] μ _
  refine zx_ifb_eq (tgt := 20) (nn := 8) dX11_lampOf_5 (by decide) rfl (fun h5 => ?_) (fun h5 => ?_)
  · refine zx_iconst (v := -1) (nn := 21) rfl dX11_lampOf_20 rfl ?_
    refine zx_iret rfl dX11_lampOf_21 ?_
    refine ⟨congrArg (fun x => some (zi x)) ?_, zJ.rf⟩
    unfold vLampOf
    rw [if_neg (by rw [h5]; decide)]
  · obtain ⟨l1, n_l, rfl⟩ := hasL ok h5
    show zX shR σ 6 MX11_lampOf 8 [(0, zr 0), (1, zi (nI l1)), (2, zi what)] [] μ _
    refine zx_iload_n (k := 2) (nn := 9) dX11_lampOf_8 rfl rfl rfl ?_
    refine zx_i2l (nn := 10) dX11_lampOf_9 rfl ?_
    refine zx_lconst (v := 0) (nn := 11) rfl dX11_lampOf_10 rfl ?_
    refine zx_ldc2 (v := 5) (nn := 14) cwX11_78 dX11_lampOf_11 rfl ?_
    refine zx_callSf (nn := 17) (d' := 0) (as := [zj what.toInt64, zj 0, zj 5]) (rest := []) (n := 3) (eX11_isIn σ μ what.toInt64 0 5  ) kX11_isIn mlX11_70 (by decide) rfl rfl (Nat.le_of_ble_eq_true rfl) dX11_lampOf_14 rfl ?_
    show zX shR σ 6 MX11_lampOf 17 [(0, zr 0), (1, zi (nI l1)), (2, zi what)] [zi (zb (decide (0 ≤ what.toInt64) && decide (what.toInt64 ≤ 5)))] μ _
    rw [show zb (decide (0 ≤ what.toInt64) && decide (what.toInt64 ≤ 5)) = zb (pIn what 0 5) from congrArg zb (in_r what 0 5)]
    show zX shR σ 6 MX11_lampOf 17 [(0, zr 0), (1, zi (nI l1)), (2, zi what)] [zi (zb (pIn what 0 5))] μ _
    refine zx_ifb_ne (tgt := 22) (nn := 20) dX11_lampOf_17 (by decide) rfl (fun h17 => ?_) (fun h17 => ?_)
    · refine zx_iload_n (k := 2) (nn := 23) dX11_lampOf_22 rfl rfl rfl ?_
      refine zx_iconst (v := 4) (nn := 24) rfl dX11_lampOf_23 rfl ?_
      refine zx_icmp_ge (tgt := 34) (nn := 27) dX11_lampOf_24 (by decide) rfl (fun h24 => ?_) (fun h24 => ?_)
      · refine zx_iload_n (k := 2) (nn := 35) dX11_lampOf_34 rfl rfl rfl ?_
        refine zx_iconst (v := 4) (nn := 36) rfl dX11_lampOf_35 rfl ?_
        refine zx_icmp_ne (tgt := 47) (nn := 39) dX11_lampOf_36 (by decide) rfl (fun h36 => ?_) (fun h36 => ?_)
        · refine zx_aload_n (k := 0) (nn := 48) dX11_lampOf_47 rfl rfl rfl ?_
          refine zx_callVf (nn := 51) (k := 0) (d' := 0) (as := []) (rest := []) (n := 0) (eX11_isOver_0 σ μ   ) kX11_isOver mlX11_96 rfl rfl rfl (by decide) rfl rfl (Nat.le_of_ble_eq_true rfl) dX11_lampOf_48 rfl ?_
          show zX shR σ 6 MX11_lampOf 51 [(0, zr 0), (1, zi (nI l1)), (2, zi what)] [zi (zb (pOver (rS 1 μ)))] μ _
          refine zx_ifb_eq (tgt := 59) (nn := 54) dX11_lampOf_51 (by decide) rfl (fun h51 => ?_) (fun h51 => ?_)
          · refine zx_aload_n (k := 0) (nn := 60) dX11_lampOf_59 rfl rfl rfl ?_
            refine zx_iload_n (k := 1) (nn := 61) dX11_lampOf_60 rfl rfl rfl ?_
            refine zx_callV (nn := 64) (k := 0) (d' := 5) (as := [zi (nI l1)]) (rest := []) (n := 1) (eX11_aimBehind_0 σ μ l1  ok n_l.1 hρ) kX11_aimBehind mlX11_100 rfl rfl rfl (by decide) rfl rfl (Nat.le_of_ble_eq_true rfl) dX11_lampOf_61 rfl ?_
            rintro _ ν1 ⟨rfl, q1⟩
            show zX shR σ 6 MX11_lampOf 64 [(0, zr 0), (1, zi (nI l1)), (2, zi what)] [zi (pBehind ρ (rS 1 μ) l1)] ν1 _
            refine zx_iret rfl dX11_lampOf_64 ?_
            have h4 : ¬ (0 ≤ what ∧ what ≤ 3) := fun q => absurd (Int32.le_trans h24 q.2) (by decide)
            have h45 : what = 5 := what5 h17 h24 h36
            refine ⟨congrArg (fun x => some (zi x)) ?_, q1⟩
            unfold vLampOf
            rw [if_pos h5, if_neg h4, if_neg h36, if_pos h45, if_neg (by rw [h51]; decide), n_l.2.2]
          · refine zx_bipush (v := 41) (nn := 56) rfl dX11_lampOf_54 rfl ?_
            refine zx_goto (tgt := 64) dX11_lampOf_56 (by decide) ?_
            refine zx_iret rfl dX11_lampOf_64 ?_
            have h4 : ¬ (0 ≤ what ∧ what ≤ 3) := fun q => absurd (Int32.le_trans h24 q.2) (by decide)
            have h45 : what = 5 := what5 h17 h24 h36
            refine ⟨congrArg (fun x => some (zi x)) ?_, zJ.rf⟩
            unfold vLampOf
            rw [if_pos h5, if_neg h4, if_neg h36, if_pos h45, if_pos h51]
        · refine zx_aload_n (k := 0) (nn := 40) dX11_lampOf_39 rfl rfl rfl ?_
          refine zx_iload_n (k := 1) (nn := 41) dX11_lampOf_40 rfl rfl rfl ?_
          refine zx_callV (nn := 44) (k := 0) (d' := 4) (as := [zi (nI l1)]) (rest := []) (n := 1) (eX11_goalOf_0 σ μ l1  ok n_l.1 hρ) kX11_goalOf mlX11_92 rfl rfl rfl (by decide) rfl rfl (Nat.le_of_ble_eq_true rfl) dX11_lampOf_41 rfl ?_
          rintro _ ν2 ⟨rfl, q2⟩
          show zX shR σ 6 MX11_lampOf 44 [(0, zr 0), (1, zi (nI l1)), (2, zi what)] [zi (pGoal ρ (rS 1 μ) l1)] ν2 _
          refine zx_goto (tgt := 64) dX11_lampOf_44 (by decide) ?_
          refine zx_iret rfl dX11_lampOf_64 ?_
          have h4 : ¬ (0 ≤ what ∧ what ≤ 3) := fun q => absurd (Int32.le_trans h24 q.2) (by decide)
          refine ⟨congrArg (fun x => some (zi x)) ?_, q2⟩
          unfold vLampOf
          rw [if_pos h5, if_neg h4, if_pos h36, n_l.2.2]
      · rcases (what4 h17 h24 : what = 0 ∨ what = 1 ∨ what = 2 ∨ what = 3) with rfl | rfl | rfl | rfl
        · show zX shR σ 6 MX11_lampOf 27 [(0, zr 0), (1, zi (nI l1)), (2, zi 0)] [] μ _
          refine zx_aload_n (k := 0) (nn := 28) dX11_lampOf_27 rfl rfl rfl ?_
          refine zx_iload_n (k := 1) (nn := 29) dX11_lampOf_28 rfl rfl rfl ?_
          refine zx_iload_n (k := 2) (nn := 30) dX11_lampOf_29 rfl rfl rfl ?_
          refine zx_callVf (nn := 33) (k := 0) (d' := 0) (as := [zi (nI l1), zi 0]) (rest := []) (n := 2) (eX11_of_0 σ μ l1 0  n_l.2.1 (by decide)) kX11_of mlX11_88 rfl rfl rfl (by decide) rfl rfl (Nat.le_of_ble_eq_true rfl) dX11_lampOf_30 rfl ?_
          show zX shR σ 6 MX11_lampOf 33 [(0, zr 0), (1, zi (nI l1)), (2, zi 0)] [zi (rS 1 μ (7 + 4 * l1 + 0))] μ _
          refine zx_iret rfl dX11_lampOf_33 ?_
          refine ⟨congrArg (fun x => some (zi x)) ?_, zJ.rf⟩
          unfold vLampOf
          rw [if_pos h5, if_pos (by decide), n_l.2.2]
          rfl
        · show zX shR σ 6 MX11_lampOf 27 [(0, zr 0), (1, zi (nI l1)), (2, zi 1)] [] μ _
          refine zx_aload_n (k := 0) (nn := 28) dX11_lampOf_27 rfl rfl rfl ?_
          refine zx_iload_n (k := 1) (nn := 29) dX11_lampOf_28 rfl rfl rfl ?_
          refine zx_iload_n (k := 2) (nn := 30) dX11_lampOf_29 rfl rfl rfl ?_
          refine zx_callVf (nn := 33) (k := 0) (d' := 0) (as := [zi (nI l1), zi 1]) (rest := []) (n := 2) (eX11_of_0 σ μ l1 1  n_l.2.1 (by decide)) kX11_of mlX11_88 rfl rfl rfl (by decide) rfl rfl (Nat.le_of_ble_eq_true rfl) dX11_lampOf_30 rfl ?_
          show zX shR σ 6 MX11_lampOf 33 [(0, zr 0), (1, zi (nI l1)), (2, zi 1)] [zi (rS 1 μ (7 + 4 * l1 + 1))] μ _
          refine zx_iret rfl dX11_lampOf_33 ?_
          refine ⟨congrArg (fun x => some (zi x)) ?_, zJ.rf⟩
          unfold vLampOf
          rw [if_pos h5, if_pos (by decide), n_l.2.2]
          rfl
        · show zX shR σ 6 MX11_lampOf 27 [(0, zr 0), (1, zi (nI l1)), (2, zi 2)] [] μ _
          refine zx_aload_n (k := 0) (nn := 28) dX11_lampOf_27 rfl rfl rfl ?_
          refine zx_iload_n (k := 1) (nn := 29) dX11_lampOf_28 rfl rfl rfl ?_
          refine zx_iload_n (k := 2) (nn := 30) dX11_lampOf_29 rfl rfl rfl ?_
          refine zx_callVf (nn := 33) (k := 0) (d' := 0) (as := [zi (nI l1), zi 2]) (rest := []) (n := 2) (eX11_of_0 σ μ l1 2  n_l.2.1 (by decide)) kX11_of mlX11_88 rfl rfl rfl (by decide) rfl rfl (Nat.le_of_ble_eq_true rfl) dX11_lampOf_30 rfl ?_
          show zX shR σ 6 MX11_lampOf 33 [(0, zr 0), (1, zi (nI l1)), (2, zi 2)] [zi (rS 1 μ (7 + 4 * l1 + 2))] μ _
          refine zx_iret rfl dX11_lampOf_33 ?_
          refine ⟨congrArg (fun x => some (zi x)) ?_, zJ.rf⟩
          unfold vLampOf
          rw [if_pos h5, if_pos (by decide), n_l.2.2]
          rfl
        · show zX shR σ 6 MX11_lampOf 27 [(0, zr 0), (1, zi (nI l1)), (2, zi 3)] [] μ _
          refine zx_aload_n (k := 0) (nn := 28) dX11_lampOf_27 rfl rfl rfl ?_
          refine zx_iload_n (k := 1) (nn := 29) dX11_lampOf_28 rfl rfl rfl ?_
          refine zx_iload_n (k := 2) (nn := 30) dX11_lampOf_29 rfl rfl rfl ?_
          refine zx_callVf (nn := 33) (k := 0) (d' := 0) (as := [zi (nI l1), zi 3]) (rest := []) (n := 2) (eX11_of_0 σ μ l1 3  n_l.2.1 (by decide)) kX11_of mlX11_88 rfl rfl rfl (by decide) rfl rfl (Nat.le_of_ble_eq_true rfl) dX11_lampOf_30 rfl ?_
          show zX shR σ 6 MX11_lampOf 33 [(0, zr 0), (1, zi (nI l1)), (2, zi 3)] [zi (rS 1 μ (7 + 4 * l1 + 3))] μ _
          refine zx_iret rfl dX11_lampOf_33 ?_
          refine ⟨congrArg (fun x => some (zi x)) ?_, zJ.rf⟩
          unfold vLampOf
          rw [if_pos h5, if_pos (by decide), n_l.2.2]
          rfl
    · refine zx_iconst (v := -1) (nn := 21) rfl dX11_lampOf_20 rfl ?_
      refine zx_iret rfl dX11_lampOf_21 ?_
      have hw : ¬ (0 ≤ what ∧ what ≤ 3) ∧ ¬ what = 4 ∧ ¬ what = 5 := by
        have hn : ∀ j : Nat, j ≤ 5 → what ≠ nI j := fun j hj q => by
          rw [q] at h17
          have : pIn (nI j) 0 5 = true := by unfold pIn; rw [decide_eq_true (nI_pos' (by omega)), decide_eq_true (show nI j ≤ 5 from nI_le (b := 5) hj (by omega))]; rfl
          rw [this] at h17
          exact absurd h17 (by decide)
        refine ⟨fun q => ?_, hn 4 (by omega), hn 5 (by omega)⟩
        obtain ⟨j, ⟨h1, _⟩, e⟩ := pIn_n (b := 3) (v := what) (a := 0) (by omega) (by decide) (by unfold pIn; rw [decide_eq_true q.1, decide_eq_true (show what ≤ nI 3 from q.2)]; rfl)
        exact hn j (by omega) e
      refine ⟨congrArg (fun x => some (zi x)) ?_, zJ.rf⟩
      unfold vLampOf
      rw [if_pos h5, if_neg hw.1, if_neg hw.2.1, if_neg hw.2.2]
set_option maxHeartbeats 4000000 in
set_option maxRecDepth 100000 in
theorem eX11_change_0 (σ : zG) (μ : zM) (l : Int32) (what : Int32) (v : Int32) (ok : pOK (rS 1 μ)) : zMet shR σ 2 MX11_change yX11_change [zr 0, zi l, zi what, zi v] μ (fun rr μ' => rr = some (zi (vChange (rS 1 μ) l what v)) ∧ rS 1 μ' = sChange (rS 1 μ) l what v ∧ rK μ μ' ∧ zJ [1] μ μ') := by
  refine zmetF (by decide +kernel) rfl (Nat.le_of_ble_eq_true rfl) ?_
  show zX shR σ 2 MX11_change 0 [(0, zr 0), (1, zi l), (2, zi what), (3, zi v)] [] μ _
  refine zx_aload_n (k := 0) (nn := 1) dX11_change_0 rfl rfl rfl ?_
  refine zx_iload_n (k := 1) (nn := 2) dX11_change_1 rfl rfl rfl ?_
  refine zx_callVf (nn := 5) (k := 0) (d' := 1) (as := [zi l]) (rest := []) (n := 1) (eX11_isLamp_0 σ μ l  ok) kX11_isLamp mlX11_84 rfl rfl rfl (by decide) rfl rfl (Nat.le_of_ble_eq_true rfl) dX11_change_2 rfl ?_
  show zX shR σ 2 MX11_change 5 [(0, zr 0), (1, zi l), (2, zi what), (3, zi v)] [zi (zb (pHas ((rS 1 μ) 0) l))] μ _
  refine zx_ifb_eq (tgt := 32) (nn := 8) dX11_change_5 (by decide) rfl (fun h5 => ?_) (fun h5 => ?_)
  · refine zx_iconst (v := -1) (nn := 33) rfl dX11_change_32 rfl ?_
    refine zx_iret rfl dX11_change_33 ?_
    refine ⟨congrArg (fun x => some (zi x)) ?_, ?_, rK_rf, zJ.rf⟩
    · simp [vChange, h5]
    · simp [sChange, h5]
  · obtain ⟨l1, n_l, rfl⟩ := hasL ok h5
    show zX shR σ 2 MX11_change 8 [(0, zr 0), (1, zi (nI l1)), (2, zi what), (3, zi v)] [] μ _
    refine zx_iload_n (k := 2) (nn := 9) dX11_change_8 rfl rfl rfl ?_
    refine zx_iload_n (k := 3) (nn := 10) dX11_change_9 rfl rfl rfl ?_
    refine zx_callSf (nn := 13) (d' := 1) (as := [zi what, zi v]) (rest := []) (n := 2) (eX11_isTold σ μ what v  ) kX11_isTold mlX11_80 (by decide) rfl rfl (Nat.le_of_ble_eq_true rfl) dX11_change_10 rfl ?_
    show zX shR σ 2 MX11_change 13 [(0, zr 0), (1, zi (nI l1)), (2, zi what), (3, zi v)] [zi (zb (pTold what v))] μ _
    refine zx_ifb_eq (tgt := 32) (nn := 16) dX11_change_13 (by decide) rfl (fun h13 => ?_) (fun h13 => ?_)
    · refine zx_iconst (v := -1) (nn := 33) rfl dX11_change_32 rfl ?_
      refine zx_iret rfl dX11_change_33 ?_
      refine ⟨congrArg (fun x => some (zi x)) ?_, ?_, rK_rf, zJ.rf⟩
      · simp [vChange, h5, h13]
      · simp [sChange, h5, h13]
    · obtain ⟨w1, hw1, rfl⟩ : ∃ w1 : Nat, (w1 < 4 ∧ (nI w1).toNatClampNeg = w1) ∧ what = nI w1 := (pTold_3 h13).elim (fun q => ⟨1, by decide, q⟩) (fun q => q.elim (fun q => ⟨2, by decide, q⟩) (fun q => ⟨3, by decide, q⟩))
      show zX shR σ 2 MX11_change 16 [(0, zr 0), (1, zi (nI l1)), (2, zi (nI w1)), (3, zi v)] [] μ _
      refine zx_aload_n (k := 0) (nn := 17) dX11_change_16 rfl rfl rfl ?_
      refine zx_bipush (v := 7) (nn := 19) rfl dX11_change_17 rfl ?_
      refine zx_iconst (v := 4) (nn := 20) rfl dX11_change_19 rfl ?_
      refine zx_iload_n (k := 1) (nn := 21) dX11_change_20 rfl rfl rfl ?_
      refine zx_imul (nn := 22) dX11_change_21 rfl ?_
      refine zx_iadd (nn := 23) dX11_change_22 rfl ?_
      refine zx_iload_n (k := 2) (nn := 24) dX11_change_23 rfl rfl rfl ?_
      refine zx_iadd (nn := 25) dX11_change_24 rfl ?_
      rw [show (7 + (4 * (nI l1))) + (nI w1) = nI (7 + 4 * l1 + w1) from by simp only [show (2 : Int32) = nI 2 from rfl, show (3 : Int32) = nI 3 from rfl, show (1 : Int32) = nI 1 from rfl, show (4 : Int32) = nI 4 from rfl, show (5 : Int32) = nI 5 from rfl, show (7 : Int32) = nI 7 from rfl, show (31 : Int32) = nI 31 from rfl, show (47 : Int32) = nI 47 from rfl, show (71 : Int32) = nI 71 from rfl, show (111 : Int32) = nI 111 from rfl, nI_mulN, nI_add]]
      show zX shR σ 2 MX11_change 25 [(0, zr 0), (1, zi (nI l1)), (2, zi (nI w1)), (3, zi v)] [zi (nI (7 + 4 * l1 + w1)), zr 0] μ _
      refine zx_iload_n (k := 3) (nn := 26) dX11_change_25 rfl rfl rfl ?_
      refine zx_callVf (nn := 29) (k := 0) (d' := 0) (as := [zi (nI (7 + 4 * l1 + w1)), zi v]) (rest := []) (n := 2) (eX11_becomes_0 σ μ (7 + 4 * l1 + w1) v  (by omega)) kX11_becomes mlX11_103 rfl rfl rfl (by decide) rfl rfl (Nat.le_of_ble_eq_true rfl) dX11_change_26 rfl ?_
      show zX shR σ 2 MX11_change 29 [(0, zr 0), (1, zi (nI l1)), (2, zi (nI w1)), (3, zi v)] [zi (μ 1 (7 + 4 * l1 + w1))] (zp μ 1 (7 + 4 * l1 + w1) v) _
      refine zx_goto (tgt := 33) dX11_change_29 (by decide) ?_
      refine zx_iret rfl dX11_change_33 ?_
      refine ⟨congrArg (fun x => some (zi x)) ?_, ?_, rK_p rK_rf (by omega) (by omega) (by omega), zJ.rf.p (by decide)⟩
      · unfold vChange
        rw [if_pos ⟨h5, h13⟩, n_l.2.2, hw1.2]
        exact (rS_i (by omega) (by omega) (by omega)).symm
      · unfold sChange
        rw [if_pos ⟨h5, h13⟩, n_l.2.2, hw1.2]
        exact rS_p (by omega) (by omega) (by omega)
set_option maxHeartbeats 4000000 in
set_option maxRecDepth 100000 in
theorem eX11_remake_0 (σ : zG) (μ : zM) (l : Int32) (k : Int32) (ok : pOK (rS 1 μ)) : zMet shR σ 2 MX11_remake yX11_remake [zr 0, zi l, zi k] μ (fun rr μ' => rr = some (zi (vRemake (rS 1 μ) l k)) ∧ rS 1 μ' = sRemake (rS 1 μ) l k ∧ rK μ μ' ∧ zJ [1] μ μ') := by
  refine zmetF (by decide +kernel) rfl (Nat.le_of_ble_eq_true rfl) ?_
  show zX shR σ 2 MX11_remake 0 [(0, zr 0), (1, zi l), (2, zi k)] [] μ _
  refine zx_aload_n (k := 0) (nn := 1) dX11_remake_0 rfl rfl rfl ?_
  refine zx_iload_n (k := 1) (nn := 2) dX11_remake_1 rfl rfl rfl ?_
  refine zx_callVf (nn := 5) (k := 0) (d' := 1) (as := [zi l]) (rest := []) (n := 1) (eX11_isLamp_0 σ μ l  ok) kX11_isLamp mlX11_84 rfl rfl rfl (by decide) rfl rfl (Nat.le_of_ble_eq_true rfl) dX11_remake_2 rfl ?_
  show zX shR σ 2 MX11_remake 5 [(0, zr 0), (1, zi l), (2, zi k)] [zi (zb (pHas ((rS 1 μ) 0) l))] μ _
  refine zx_ifb_eq (tgt := 34) (nn := 8) dX11_remake_5 (by decide) rfl (fun h5 => ?_) (fun h5 => ?_)
  · refine zx_iconst (v := -1) (nn := 35) rfl dX11_remake_34 rfl ?_
    refine zx_iret rfl dX11_remake_35 ?_
    refine ⟨congrArg (fun x => some (zi x)) ?_, ?_, rK_rf, zJ.rf⟩
    · simp [vRemake, h5]
    · simp [sRemake, h5]
  · obtain ⟨l1, n_l, rfl⟩ := hasL ok h5
    show zX shR σ 2 MX11_remake 8 [(0, zr 0), (1, zi (nI l1)), (2, zi k)] [] μ _
    refine zx_iload_n (k := 2) (nn := 9) dX11_remake_8 rfl rfl rfl ?_
    refine zx_i2l (nn := 10) dX11_remake_9 rfl ?_
    refine zx_lconst (v := 1) (nn := 11) rfl dX11_remake_10 rfl ?_
    refine zx_ldc2 (v := 5) (nn := 14) cwX11_78 dX11_remake_11 rfl ?_
    refine zx_callSf (nn := 17) (d' := 0) (as := [zj k.toInt64, zj 1, zj 5]) (rest := []) (n := 3) (eX11_isIn σ μ k.toInt64 1 5  ) kX11_isIn mlX11_70 (by decide) rfl rfl (Nat.le_of_ble_eq_true rfl) dX11_remake_14 rfl ?_
    show zX shR σ 2 MX11_remake 17 [(0, zr 0), (1, zi (nI l1)), (2, zi k)] [zi (zb (decide (1 ≤ k.toInt64) && decide (k.toInt64 ≤ 5)))] μ _
    rw [show zb (decide (1 ≤ k.toInt64) && decide (k.toInt64 ≤ 5)) = zb (pIn k 1 5) from congrArg zb (in_r k 1 5)]
    show zX shR σ 2 MX11_remake 17 [(0, zr 0), (1, zi (nI l1)), (2, zi k)] [zi (zb (pIn k 1 5))] μ _
    refine zx_ifb_eq (tgt := 34) (nn := 20) dX11_remake_17 (by decide) rfl (fun h17 => ?_) (fun h17 => ?_)
    · refine zx_iconst (v := -1) (nn := 35) rfl dX11_remake_34 rfl ?_
      refine zx_iret rfl dX11_remake_35 ?_
      refine ⟨congrArg (fun x => some (zi x)) ?_, ?_, rK_rf, zJ.rf⟩
      · simp [vRemake, h5, h17]
      · simp [sRemake, h5, h17]
    · refine zx_aload_n (k := 0) (nn := 21) dX11_remake_20 rfl rfl rfl ?_
      refine zx_bipush (v := 7) (nn := 23) rfl dX11_remake_21 rfl ?_
      refine zx_iconst (v := 4) (nn := 24) rfl dX11_remake_23 rfl ?_
      refine zx_iload_n (k := 1) (nn := 25) dX11_remake_24 rfl rfl rfl ?_
      refine zx_imul (nn := 26) dX11_remake_25 rfl ?_
      refine zx_iadd (nn := 27) dX11_remake_26 rfl ?_
      rw [show 7 + (4 * (nI l1)) = nI (7 + 4 * l1) from by simp only [show (2 : Int32) = nI 2 from rfl, show (3 : Int32) = nI 3 from rfl, show (1 : Int32) = nI 1 from rfl, show (4 : Int32) = nI 4 from rfl, show (5 : Int32) = nI 5 from rfl, show (7 : Int32) = nI 7 from rfl, show (31 : Int32) = nI 31 from rfl, show (47 : Int32) = nI 47 from rfl, show (71 : Int32) = nI 71 from rfl, show (111 : Int32) = nI 111 from rfl, nI_mulN, nI_add]]
      show zX shR σ 2 MX11_remake 27 [(0, zr 0), (1, zi (nI l1)), (2, zi k)] [zi (nI (7 + 4 * l1)), zr 0] μ _
      refine zx_iload_n (k := 2) (nn := 28) dX11_remake_27 rfl rfl rfl ?_
      refine zx_callVf (nn := 31) (k := 0) (d' := 0) (as := [zi (nI (7 + 4 * l1)), zi k]) (rest := []) (n := 2) (eX11_becomes_0 σ μ (7 + 4 * l1) k  (by omega)) kX11_becomes mlX11_103 rfl rfl rfl (by decide) rfl rfl (Nat.le_of_ble_eq_true rfl) dX11_remake_28 rfl ?_
      show zX shR σ 2 MX11_remake 31 [(0, zr 0), (1, zi (nI l1)), (2, zi k)] [zi (μ 1 (7 + 4 * l1))] (zp μ 1 (7 + 4 * l1) k) _
      refine zx_goto (tgt := 35) dX11_remake_31 (by decide) ?_
      refine zx_iret rfl dX11_remake_35 ?_
      refine ⟨congrArg (fun x => some (zi x)) ?_, ?_, rK_p rK_rf (by omega) (by omega) (by omega), zJ.rf.p (by decide)⟩
      · unfold vRemake
        rw [if_pos ⟨h5, h17⟩, n_l.2.2]
        exact (rS_i (by omega) (by omega) (by omega)).symm
      · unfold sRemake
        rw [if_pos ⟨h5, h17⟩, n_l.2.2]
        exact rS_p (by omega) (by omega) (by omega)
set_option maxHeartbeats 4000000 in
set_option maxRecDepth 100000 in
theorem eX11_dance_0 (σ : zG) (μ : zM) (p : Int32) (ok : pOK (rS 1 μ)) : zMet shR σ 1 MX11_dance yX11_dance [zr 0, zi p] μ (fun rr μ' => rr = some (zi (vDance (rS 1 μ) p)) ∧ rS 1 μ' = sDance (rS 1 μ) p ∧ rK μ μ' ∧ zJ [1] μ μ') := by
  have hB1 : (rS 1 μ) 1 = nI (pB (rS 1 μ)) := (ok_B ok).1
  have hB2 := (ok_B ok).2
  refine zmetF (by decide +kernel) rfl (Nat.le_of_ble_eq_true rfl) ?_
  show zX shR σ 1 MX11_dance 0 [(0, zr 0), (1, zi p)] [] μ _
  refine zx_iload_n (k := 1) (nn := 1) dX11_dance_0 rfl rfl rfl ?_
  refine zx_i2l (nn := 2) dX11_dance_1 rfl ?_
  refine zx_lconst (v := 0) (nn := 3) rfl dX11_dance_2 rfl ?_
  refine zx_ldc2 (v := 40) (nn := 6) cwX11_74 dX11_dance_3 rfl ?_
  refine zx_callSf (nn := 9) (d' := 0) (as := [zj p.toInt64, zj 0, zj 40]) (rest := []) (n := 3) (eX11_isIn σ μ p.toInt64 0 40  ) kX11_isIn mlX11_70 (by decide) rfl rfl (Nat.le_of_ble_eq_true rfl) dX11_dance_6 rfl ?_
  show zX shR σ 1 MX11_dance 9 [(0, zr 0), (1, zi p)] [zi (zb (decide (0 ≤ p.toInt64) && decide (p.toInt64 ≤ 40)))] μ _
  rw [show zb (decide (0 ≤ p.toInt64) && decide (p.toInt64 ≤ 40)) = zb (pIn p 0 40) from congrArg zb (in_r p 0 40)]
  show zX shR σ 1 MX11_dance 9 [(0, zr 0), (1, zi p)] [zi (zb (pIn p 0 40))] μ _
  refine zx_ifb_ne (tgt := 14) (nn := 12) dX11_dance_9 (by decide) rfl (fun h9 => ?_) (fun h9 => ?_)
  · refine zx_aload_n (k := 0) (nn := 15) dX11_dance_14 rfl rfl rfl ?_
    refine zx_getR (q := 1) (nn := 18) flX11_9 rfl rfl dX11_dance_15 rfl ?_
    refine zx_iconst (v := 1) (nn := 19) rfl dX11_dance_18 rfl ?_
    refine zx_iald_n (j := 1) (nn := 20) rfl (by omega) (by decide) dX11_dance_19 rfl ?_
    rw [show μ 1 1 = nI (pB (rS 1 μ)) from hB1]
    show zX shR σ 1 MX11_dance 20 [(0, zr 0), (1, zi p)] [zi (nI (pB (rS 1 μ)))] μ _
    refine zx_bipush (v := 16) (nn := 22) rfl dX11_dance_20 rfl ?_
    refine zx_icmp_ne (tgt := 28) (nn := 25) dX11_dance_22 (by decide) rfl (fun h22 => ?_) (fun h22 => ?_)
    · have hn16 : (pB (rS 1 μ)) < 16 := by have : (pB (rS 1 μ)) ≠ 16 := fun q => h22 (by rw [q]; rfl); omega
      refine zx_aload_n (k := 0) (nn := 29) dX11_dance_28 rfl rfl rfl ?_
      refine zx_getR (q := 1) (nn := 32) flX11_9 rfl rfl dX11_dance_29 rfl ?_
      refine zx_bipush (v := 31) (nn := 34) rfl dX11_dance_32 rfl ?_
      refine zx_aload_n (k := 0) (nn := 35) dX11_dance_34 rfl rfl rfl ?_
      refine zx_getR (q := 1) (nn := 38) flX11_9 rfl rfl dX11_dance_35 rfl ?_
      refine zx_iconst (v := 1) (nn := 39) rfl dX11_dance_38 rfl ?_
      refine zx_iald_n (j := 1) (nn := 40) rfl (by omega) (by decide) dX11_dance_39 rfl ?_
      rw [show μ 1 1 = nI (pB (rS 1 μ)) from hB1]
      show zX shR σ 1 MX11_dance 40 [(0, zr 0), (1, zi p)] [zi (nI (pB (rS 1 μ))), zi 31, zr 1] μ _
      refine zx_iadd (nn := 41) dX11_dance_40 rfl ?_
      rw [show 31 + (nI (pB (rS 1 μ))) = nI (31 + (pB (rS 1 μ))) from by simp only [show (2 : Int32) = nI 2 from rfl, show (3 : Int32) = nI 3 from rfl, show (1 : Int32) = nI 1 from rfl, show (4 : Int32) = nI 4 from rfl, show (5 : Int32) = nI 5 from rfl, show (7 : Int32) = nI 7 from rfl, show (31 : Int32) = nI 31 from rfl, show (47 : Int32) = nI 47 from rfl, show (71 : Int32) = nI 71 from rfl, show (111 : Int32) = nI 111 from rfl, nI_mulN, nI_add]]
      show zX shR σ 1 MX11_dance 41 [(0, zr 0), (1, zi p)] [zi (nI (31 + (pB (rS 1 μ)))), zr 1] μ _
      refine zx_iload_n (k := 1) (nn := 42) dX11_dance_41 rfl rfl rfl ?_
      refine zx_iast_n (j := 31 + (pB (rS 1 μ))) (nn := 43) rfl (by omega) (by decide) dX11_dance_42 rfl ?_
      refine zx_aload_n (k := 0) (nn := 44) dX11_dance_43 rfl rfl rfl ?_
      refine zx_getR (q := 1) (nn := 47) flX11_9 rfl rfl dX11_dance_44 rfl ?_
      refine zx_iconst (v := 1) (nn := 48) rfl dX11_dance_47 rfl ?_
      refine zx_dup2 (nn := 49) dX11_dance_48 rfl ?_
      refine zx_iald_n (j := 1) (nn := 50) rfl (by omega) (by decide) dX11_dance_49 rfl ?_
      rw [show (zp μ 1 (31 + (pB (rS 1 μ))) p) 1 1 = nI (pB (rS 1 μ)) from by rw [zp_eq, pk_un (by omega)]; exact hB1]
      show zX shR σ 1 MX11_dance 50 [(0, zr 0), (1, zi p)] [zi (nI (pB (rS 1 μ))), zi 1, zr 1] (zp μ 1 (31 + (pB (rS 1 μ))) p) _
      refine zx_iconst (v := 1) (nn := 51) rfl dX11_dance_50 rfl ?_
      refine zx_iadd (nn := 52) dX11_dance_51 rfl ?_
      rw [show (nI (pB (rS 1 μ))) + 1 = nI ((pB (rS 1 μ)) + 1) from nI_1 _]
      show zX shR σ 1 MX11_dance 52 [(0, zr 0), (1, zi p)] [zi (nI ((pB (rS 1 μ)) + 1)), zi 1, zr 1] (zp μ 1 (31 + (pB (rS 1 μ))) p) _
      refine zx_iast_n (j := 1) (nn := 53) rfl (by omega) (by decide) dX11_dance_52 rfl ?_
      refine zx_aload_n (k := 0) (nn := 54) dX11_dance_53 rfl rfl rfl ?_
      refine zx_getR (q := 1) (nn := 57) flX11_9 rfl rfl dX11_dance_54 rfl ?_
      refine zx_iconst (v := 1) (nn := 58) rfl dX11_dance_57 rfl ?_
      refine zx_iald_n (j := 1) (nn := 59) rfl (by omega) (by decide) dX11_dance_58 rfl ?_
      show zX shR σ 1 MX11_dance 59 [(0, zr 0), (1, zi p)] [zi (nI ((pB (rS 1 μ)) + 1))] (zp (zp μ 1 (31 + (pB (rS 1 μ))) p) 1 1 (nI ((pB (rS 1 μ)) + 1))) _
      refine zx_iconst (v := 1) (nn := 60) rfl dX11_dance_59 rfl ?_
      refine zx_isub (nn := 61) dX11_dance_60 rfl ?_
      rw [show (nI ((pB (rS 1 μ)) + 1)) - 1 = nI (pB (rS 1 μ)) from nI_pred _]
      show zX shR σ 1 MX11_dance 61 [(0, zr 0), (1, zi p)] [zi (nI (pB (rS 1 μ)))] (zp (zp μ 1 (31 + (pB (rS 1 μ))) p) 1 1 (nI ((pB (rS 1 μ)) + 1))) _
      refine zx_iret rfl dX11_dance_61 ?_
      have h16 : (rS 1 μ) 1 < 16 := by rw [hB1]; exact nI_lt (b := 16) hn16 (by omega)
      refine ⟨congrArg (fun x => some (zi x)) (by unfold vDance; rw [if_pos h9, if_pos h16, hB1]), ?_, rK_p (rK_p rK_rf (by omega) (by omega) (by omega)) (by omega) (by omega) (by omega), (zJ.rf.p (by decide)).p (by decide)⟩
      unfold sDance
      rw [if_pos h9, if_pos h16, rS_p (by omega) (by omega) (by omega), rS_p (by omega) (by omega) (by omega)]
      exact pDance_put rfl hB1
    · refine zx_bipush (v := -2) (nn := 27) rfl dX11_dance_25 rfl ?_
      refine zx_iret rfl dX11_dance_27 ?_
      have h16 : ¬ (rS 1 μ) 1 < 16 := by rw [hB1]; intro q; rw [h22] at q; exact absurd q (by decide)
      exact ⟨congrArg (fun x => some (zi x)) (by unfold vDance; rw [if_pos h9, if_neg h16]), by unfold sDance; rw [if_pos h9, if_neg h16], rK_rf, zJ.rf⟩
  · refine zx_iconst (v := -1) (nn := 13) rfl dX11_dance_12 rfl ?_
    refine zx_iret rfl dX11_dance_13 ?_
    exact ⟨congrArg (fun x => some (zi x)) (by unfold vDance; rw [if_neg (by rw [h9]; decide)]), by unfold sDance; rw [if_neg (by rw [h9]; decide)], rK_rf, zJ.rf⟩
set_option maxHeartbeats 4000000 in
set_option maxRecDepth 100000 in
theorem eX11_danceOf_0 (σ : zG) (μ : zM) (b : Int32) (ok : pOK (rS 1 μ)) : zMet shR σ 2 MX11_danceOf yX11_danceOf [zr 0, zi b] μ (fun rr μ' => rr = some (zi (vDanceOf (rS 1 μ) b)) ∧ μ' = μ) := by
  refine zmetF (by decide +kernel) rfl (Nat.le_of_ble_eq_true rfl) ?_
  show zX shR σ 2 MX11_danceOf 0 [(0, zr 0), (1, zi b)] [] μ _
  refine zx_aload_n (k := 0) (nn := 1) dX11_danceOf_0 rfl rfl rfl ?_
  refine zx_iload_n (k := 1) (nn := 2) dX11_danceOf_1 rfl rfl rfl ?_
  refine zx_callVf (nn := 5) (k := 0) (d' := 1) (as := [zi b]) (rest := []) (n := 1) (eX11_isBeat_0 σ μ b  ok) kX11_isBeat mlX11_106 rfl rfl rfl (by decide) rfl rfl (Nat.le_of_ble_eq_true rfl) dX11_danceOf_2 rfl ?_
  show zX shR σ 2 MX11_danceOf 5 [(0, zr 0), (1, zi b)] [zi (zb (pHas ((rS 1 μ) 1) b))] μ _
  refine zx_ifb_eq (tgt := 20) (nn := 8) dX11_danceOf_5 (by decide) rfl (fun h5 => ?_) (fun h5 => ?_)
  · refine zx_iconst (v := -1) (nn := 21) rfl dX11_danceOf_20 rfl ?_
    refine zx_iret rfl dX11_danceOf_21 ?_
    refine ⟨congrArg (fun x => some (zi x)) ?_, rfl⟩
    unfold vDanceOf
    rw [if_neg (by rw [h5]; decide)]
  · obtain ⟨b1, n_b, rfl⟩ := hasB ok h5
    show zX shR σ 2 MX11_danceOf 8 [(0, zr 0), (1, zi (nI b1))] [] μ _
    refine zx_aload_n (k := 0) (nn := 9) dX11_danceOf_8 rfl rfl rfl ?_
    refine zx_getR (q := 1) (nn := 12) flX11_9 rfl rfl dX11_danceOf_9 rfl ?_
    refine zx_bipush (v := 31) (nn := 14) rfl dX11_danceOf_12 rfl ?_
    refine zx_iload_n (k := 1) (nn := 15) dX11_danceOf_14 rfl rfl rfl ?_
    refine zx_iadd (nn := 16) dX11_danceOf_15 rfl ?_
    rw [show 31 + (nI b1) = nI (31 + b1) from by simp only [show (2 : Int32) = nI 2 from rfl, show (3 : Int32) = nI 3 from rfl, show (1 : Int32) = nI 1 from rfl, show (4 : Int32) = nI 4 from rfl, show (5 : Int32) = nI 5 from rfl, show (7 : Int32) = nI 7 from rfl, show (31 : Int32) = nI 31 from rfl, show (47 : Int32) = nI 47 from rfl, show (71 : Int32) = nI 71 from rfl, show (111 : Int32) = nI 111 from rfl, nI_mulN, nI_add]]
    show zX shR σ 2 MX11_danceOf 16 [(0, zr 0), (1, zi (nI b1))] [zi (nI (31 + b1)), zr 1] μ _
    refine zx_iald_n (j := 31 + b1) (nn := 17) rfl (by omega) (by decide) dX11_danceOf_16 rfl ?_
    refine zx_goto (tgt := 21) dX11_danceOf_17 (by decide) ?_
    refine zx_iret rfl dX11_danceOf_21 ?_
    refine ⟨congrArg (fun x => some (zi x)) ?_, rfl⟩
    unfold vDanceOf
    rw [if_pos h5, n_b.2.2]
    exact (rS_i (by omega) (by omega) (by omega)).symm
set_option maxHeartbeats 4000000 in
set_option maxRecDepth 100000 in
theorem eX11_steps_0 (σ : zG) (μ : zM) (b : Int32) (p : Int32) (ok : pOK (rS 1 μ)) : zMet shR σ 2 MX11_steps yX11_steps [zr 0, zi b, zi p] μ (fun rr μ' => rr = some (zi (vSteps (rS 1 μ) b p)) ∧ rS 1 μ' = sSteps (rS 1 μ) b p ∧ rK μ μ' ∧ zJ [1] μ μ') := by
  refine zmetF (by decide +kernel) rfl (Nat.le_of_ble_eq_true rfl) ?_
  show zX shR σ 2 MX11_steps 0 [(0, zr 0), (1, zi b), (2, zi p)] [] μ _
  refine zx_aload_n (k := 0) (nn := 1) dX11_steps_0 rfl rfl rfl ?_
  refine zx_iload_n (k := 1) (nn := 2) dX11_steps_1 rfl rfl rfl ?_
  refine zx_callVf (nn := 5) (k := 0) (d' := 1) (as := [zi b]) (rest := []) (n := 1) (eX11_isBeat_0 σ μ b  ok) kX11_isBeat mlX11_106 rfl rfl rfl (by decide) rfl rfl (Nat.le_of_ble_eq_true rfl) dX11_steps_2 rfl ?_
  show zX shR σ 2 MX11_steps 5 [(0, zr 0), (1, zi b), (2, zi p)] [zi (zb (pHas ((rS 1 μ) 1) b))] μ _
  refine zx_ifb_eq (tgt := 20) (nn := 8) dX11_steps_5 (by decide) rfl (fun h5 => ?_) (fun h5 => ?_)
  · refine zx_iconst (v := -1) (nn := 21) rfl dX11_steps_20 rfl ?_
    refine zx_iret rfl dX11_steps_21 ?_
    refine ⟨congrArg (fun x => some (zi x)) ?_, ?_, rK_rf, zJ.rf⟩
    · unfold vSteps
      rw [if_neg (fun q => absurd (h5.symm.trans q.1) (by decide))]
    · unfold sSteps
      rw [if_neg (fun q => absurd (h5.symm.trans q.1) (by decide))]
  · obtain ⟨b1, n_b, rfl⟩ := hasB ok h5
    show zX shR σ 2 MX11_steps 8 [(0, zr 0), (1, zi (nI b1)), (2, zi p)] [] μ _
    refine zx_iload_n (k := 2) (nn := 9) dX11_steps_8 rfl rfl rfl ?_
    refine zx_i2l (nn := 10) dX11_steps_9 rfl ?_
    refine zx_lconst (v := 0) (nn := 11) rfl dX11_steps_10 rfl ?_
    refine zx_ldc2 (v := 40) (nn := 14) cwX11_74 dX11_steps_11 rfl ?_
    refine zx_callSf (nn := 17) (d' := 0) (as := [zj p.toInt64, zj 0, zj 40]) (rest := []) (n := 3) (eX11_isIn σ μ p.toInt64 0 40  ) kX11_isIn mlX11_70 (by decide) rfl rfl (Nat.le_of_ble_eq_true rfl) dX11_steps_14 rfl ?_
    show zX shR σ 2 MX11_steps 17 [(0, zr 0), (1, zi (nI b1)), (2, zi p)] [zi (zb (decide (0 ≤ p.toInt64) && decide (p.toInt64 ≤ 40)))] μ _
    rw [show zb (decide (0 ≤ p.toInt64) && decide (p.toInt64 ≤ 40)) = zb (pIn p 0 40) from congrArg zb (in_r p 0 40)]
    show zX shR σ 2 MX11_steps 17 [(0, zr 0), (1, zi (nI b1)), (2, zi p)] [zi (zb (pIn p 0 40))] μ _
    refine zx_ifb_ne (tgt := 22) (nn := 20) dX11_steps_17 (by decide) rfl (fun h17 => ?_) (fun h17 => ?_)
    · refine zx_iload_n (k := 1) (nn := 23) dX11_steps_22 rfl rfl rfl ?_
      refine zx_aload_n (k := 0) (nn := 24) dX11_steps_23 rfl rfl rfl ?_
      refine zx_getR (q := 1) (nn := 27) flX11_9 rfl rfl dX11_steps_24 rfl ?_
      refine zx_iconst (v := 2) (nn := 28) rfl dX11_steps_27 rfl ?_
      refine zx_iald_n (j := 2) (nn := 29) rfl (by omega) (by decide) dX11_steps_28 rfl ?_
      refine zx_icmp_ge (tgt := 37) (nn := 32) dX11_steps_29 (by decide) rfl (fun h29 => ?_) (fun h29 => ?_)
      · refine zx_aload_n (k := 0) (nn := 38) dX11_steps_37 rfl rfl rfl ?_
        refine zx_bipush (v := 31) (nn := 40) rfl dX11_steps_38 rfl ?_
        refine zx_iload_n (k := 1) (nn := 41) dX11_steps_40 rfl rfl rfl ?_
        refine zx_iadd (nn := 42) dX11_steps_41 rfl ?_
        rw [show 31 + (nI b1) = nI (31 + b1) from by simp only [show (2 : Int32) = nI 2 from rfl, show (3 : Int32) = nI 3 from rfl, show (1 : Int32) = nI 1 from rfl, show (4 : Int32) = nI 4 from rfl, show (5 : Int32) = nI 5 from rfl, show (7 : Int32) = nI 7 from rfl, show (31 : Int32) = nI 31 from rfl, show (47 : Int32) = nI 47 from rfl, show (71 : Int32) = nI 71 from rfl, show (111 : Int32) = nI 111 from rfl, nI_mulN, nI_add]]
        show zX shR σ 2 MX11_steps 42 [(0, zr 0), (1, zi (nI b1)), (2, zi p)] [zi (nI (31 + b1)), zr 0] μ _
        refine zx_iload_n (k := 2) (nn := 43) dX11_steps_42 rfl rfl rfl ?_
        refine zx_callVf (nn := 46) (k := 0) (d' := 0) (as := [zi (nI (31 + b1)), zi p]) (rest := []) (n := 2) (eX11_becomes_0 σ μ (31 + b1) p  (by omega)) kX11_becomes mlX11_103 rfl rfl rfl (by decide) rfl rfl (Nat.le_of_ble_eq_true rfl) dX11_steps_43 rfl ?_
        show zX shR σ 2 MX11_steps 46 [(0, zr 0), (1, zi (nI b1)), (2, zi p)] [zi (μ 1 (31 + b1))] (zp μ 1 (31 + b1) p) _
        refine zx_iret rfl dX11_steps_46 ?_
        refine ⟨congrArg (fun x => some (zi x)) ?_, ?_, rK_p rK_rf (by omega) (by omega) (by omega), zJ.rf.p (by decide)⟩
        · unfold vSteps
          rw [if_pos ⟨h5, h17⟩, if_neg (show ¬ nI b1 < rS 1 μ 2 from Int32.not_lt.mpr h29), n_b.2.2]
          exact (rS_i (by omega) (by omega) (by omega)).symm
        · unfold sSteps
          rw [if_pos ⟨h5, h17⟩, if_neg (show ¬ nI b1 < rS 1 μ 2 from Int32.not_lt.mpr h29), n_b.2.2]
          exact rS_p (by omega) (by omega) (by omega)
      · refine zx_bipush (v := -4) (nn := 34) rfl dX11_steps_32 rfl ?_
        refine zx_goto (tgt := 46) dX11_steps_34 (by decide) ?_
        refine zx_iret rfl dX11_steps_46 ?_
        refine ⟨congrArg (fun x => some (zi x)) ?_, ?_, rK_rf, zJ.rf⟩
        · unfold vSteps
          rw [if_pos ⟨h5, h17⟩, if_pos (show nI b1 < rS 1 μ 2 from Int32.not_le.mp h29)]
        · unfold sSteps
          rw [if_pos ⟨h5, h17⟩, if_pos (show nI b1 < rS 1 μ 2 from Int32.not_le.mp h29)]
    · refine zx_iconst (v := -1) (nn := 21) rfl dX11_steps_20 rfl ?_
      refine zx_iret rfl dX11_steps_21 ?_
      refine ⟨congrArg (fun x => some (zi x)) ?_, ?_, rK_rf, zJ.rf⟩
      · unfold vSteps
        rw [if_neg (fun q => absurd (h17.symm.trans q.2) (by decide))]
      · unfold sSteps
        rw [if_neg (fun q => absurd (h17.symm.trans q.2) (by decide))]
set_option maxHeartbeats 4000000 in
set_option maxRecDepth 100000 in
theorem eX11_anew_0 (σ : zG) (μ : zM) : zMet shR σ 1 MX11_anew yX11_anew [zr 0] μ (fun rr μ' => rr = some (zi ((rS 1 μ) 2)) ∧ rS 1 μ' = pPut (pPut (rS 1 μ) 2 0) 3 0 ∧ rK μ μ' ∧ zJ [1] μ μ') := by
  refine zmetF (by decide +kernel) rfl (Nat.le_of_ble_eq_true rfl) ?_
  show zX shR σ 1 MX11_anew 0 [(0, zr 0)] [] μ _
  refine zx_aload_n (k := 0) (nn := 1) dX11_anew_0 rfl rfl rfl ?_
  refine zx_getR (q := 1) (nn := 4) flX11_9 rfl rfl dX11_anew_1 rfl ?_
  refine zx_iconst (v := 3) (nn := 5) rfl dX11_anew_4 rfl ?_
  refine zx_iconst (v := 0) (nn := 6) rfl dX11_anew_5 rfl ?_
  refine zx_iast_n (j := 3) (nn := 7) rfl (by omega) (by decide) dX11_anew_6 rfl ?_
  refine zx_aload_n (k := 0) (nn := 8) dX11_anew_7 rfl rfl rfl ?_
  refine zx_iconst (v := 2) (nn := 9) rfl dX11_anew_8 rfl ?_
  refine zx_iconst (v := 0) (nn := 10) rfl dX11_anew_9 rfl ?_
  refine zx_callVf (nn := 13) (k := 0) (d' := 0) (as := [zi 2, zi 0]) (rest := []) (n := 2) (eX11_becomes_0 σ (zp μ 1 3 0) 2 0  (by decide)) kX11_becomes mlX11_103 rfl rfl rfl (by decide) rfl rfl (Nat.le_of_ble_eq_true rfl) dX11_anew_10 rfl ?_
  show zX shR σ 1 MX11_anew 13 [(0, zr 0)] [zi ((zp μ 1 3 0) 1 2)] (zp (zp μ 1 3 0) 1 2 0) _
  refine zx_iret rfl dX11_anew_13 ?_
  refine ⟨rfl, ?_, rK_p (rK_p rK_rf (by omega) (by omega) (by omega)) (by omega) (by omega) (by omega), (zJ.rf.p (by decide)).p (by decide)⟩
  rw [rS_p (by omega) (by omega) (by omega), rS_p (by omega) (by omega) (by omega)]
  funext i
  unfold pPut
  (repeat' split) <;> first | rfl | omega
set_option maxHeartbeats 4000000 in
set_option maxRecDepth 100000 in
theorem eX11_state_0 (σ : zG) (μ : zM) (w : Int32) : zMet shR σ 1 MX11_state yX11_state [zr 0, zi w] μ (fun rr μ' => rr = some (zi (vState (rS 1 μ) w)) ∧ μ' = μ) := by
  refine zmetF (by decide +kernel) rfl (Nat.le_of_ble_eq_true rfl) ?_
  show zX shR σ 1 MX11_state 0 [(0, zr 0), (1, zi w)] [] μ _
  refine zx_iload_n (k := 1) (nn := 1) dX11_state_0 rfl rfl rfl ?_
  by_cases h1_0 : w = 0
  · refine zx_sw h1_0 ?_
    refine zx_tabIn (tgt := 32) (off := 31) dX11_state_1 (by decide +kernel) (by decide +kernel) (by decide +kernel) (by decide) ?_
    refine zx_aload_n (k := 0) (nn := 33) dX11_state_32 rfl rfl rfl ?_
    refine zx_getR (q := 1) (nn := 36) flX11_9 rfl rfl dX11_state_33 rfl ?_
    refine zx_iconst (v := 2) (nn := 37) rfl dX11_state_36 rfl ?_
    refine zx_iald_n (j := 2) (nn := 38) rfl (by omega) (by decide) dX11_state_37 rfl ?_
    refine zx_iret rfl dX11_state_38 ?_
    refine ⟨congrArg (fun x => some (zi x)) ?_, rfl⟩
    simp [vState, zb, show rS 1 μ 1 = μ 1 1 from rfl, show rS 1 μ 2 = μ 1 2 from rfl, show rS 1 μ 3 = μ 1 3 from rfl, h1_0]
  by_cases h1_1 : w = 1
  · refine zx_sw h1_1 ?_
    refine zx_tabIn (tgt := 39) (off := 38) dX11_state_1 (by decide +kernel) (by decide +kernel) (by decide +kernel) (by decide) ?_
    refine zx_aload_n (k := 0) (nn := 40) dX11_state_39 rfl rfl rfl ?_
    refine zx_getR (q := 1) (nn := 43) flX11_9 rfl rfl dX11_state_40 rfl ?_
    refine zx_iconst (v := 1) (nn := 44) rfl dX11_state_43 rfl ?_
    refine zx_iald_n (j := 1) (nn := 45) rfl (by omega) (by decide) dX11_state_44 rfl ?_
    refine zx_iret rfl dX11_state_45 ?_
    refine ⟨congrArg (fun x => some (zi x)) ?_, rfl⟩
    simp [vState, zb, show rS 1 μ 1 = μ 1 1 from rfl, show rS 1 μ 2 = μ 1 2 from rfl, show rS 1 μ 3 = μ 1 3 from rfl, h1_0, h1_1]
  by_cases h1_2 : w = 2
  · refine zx_sw h1_2 ?_
    refine zx_tabIn (tgt := 46) (off := 45) dX11_state_1 (by decide +kernel) (by decide +kernel) (by decide +kernel) (by decide) ?_
    refine zx_aload_n (k := 0) (nn := 47) dX11_state_46 rfl rfl rfl ?_
    refine zx_getR (q := 1) (nn := 50) flX11_9 rfl rfl dX11_state_47 rfl ?_
    refine zx_iconst (v := 3) (nn := 51) rfl dX11_state_50 rfl ?_
    refine zx_iald_n (j := 3) (nn := 52) rfl (by omega) (by decide) dX11_state_51 rfl ?_
    refine zx_iret rfl dX11_state_52 ?_
    refine ⟨congrArg (fun x => some (zi x)) ?_, rfl⟩
    simp [vState, zb, show rS 1 μ 1 = μ 1 1 from rfl, show rS 1 μ 2 = μ 1 2 from rfl, show rS 1 μ 3 = μ 1 3 from rfl, h1_0, h1_1, h1_2]
  by_cases h1_3 : w = 3
  · refine zx_sw h1_3 ?_
    refine zx_tabIn (tgt := 53) (off := 52) dX11_state_1 (by decide +kernel) (by decide +kernel) (by decide +kernel) (by decide) ?_
    refine zx_aload_n (k := 0) (nn := 54) dX11_state_53 rfl rfl rfl ?_
    refine zx_callVf (nn := 57) (k := 0) (d' := 0) (as := []) (rest := []) (n := 0) (eX11_isOver_0 σ μ   ) kX11_isOver mlX11_96 rfl rfl rfl (by decide) rfl rfl (Nat.le_of_ble_eq_true rfl) dX11_state_54 rfl ?_
    show zX shR σ 1 MX11_state 57 [(0, zr 0), (1, zi w)] [zi (zb (pOver (rS 1 μ)))] μ _
    refine zx_ifb_eq (tgt := 64) (nn := 60) dX11_state_57 (by decide) rfl (fun h57 => ?_) (fun h57 => ?_)
    · refine zx_iconst (v := 0) (nn := 65) rfl dX11_state_64 rfl ?_
      refine zx_iret rfl dX11_state_65 ?_
      refine ⟨congrArg (fun x => some (zi x)) ?_, rfl⟩
      simp [vState, zb, show rS 1 μ 1 = μ 1 1 from rfl, show rS 1 μ 2 = μ 1 2 from rfl, show rS 1 μ 3 = μ 1 3 from rfl, h1_0, h1_1, h1_2, h1_3, h57]
    · refine zx_iconst (v := 1) (nn := 61) rfl dX11_state_60 rfl ?_
      refine zx_goto (tgt := 65) dX11_state_61 (by decide) ?_
      refine zx_iret rfl dX11_state_65 ?_
      refine ⟨congrArg (fun x => some (zi x)) ?_, rfl⟩
      simp [vState, zb, show rS 1 μ 1 = μ 1 1 from rfl, show rS 1 μ 2 = μ 1 2 from rfl, show rS 1 μ 3 = μ 1 3 from rfl, h1_0, h1_1, h1_2, h1_3, h57]
  refine zx_tabOut (tgt := 66) dX11_state_1 (zsw_out (lo := 0) (hi := 3) (fun k hk1 hk2 => by rcases (show k = 0 ∨ k = 1 ∨ k = 2 ∨ k = 3 by omega) with rfl | rfl | rfl | rfl; exact lv_neT h1_0 rfl; exact lv_neT h1_1 rfl; exact lv_neT h1_2 rfl; exact lv_neT h1_3 rfl)) (by decide) ?_
  refine zx_iconst (v := -1) (nn := 67) rfl dX11_state_66 rfl ?_
  refine zx_iret rfl dX11_state_67 ?_
  refine ⟨congrArg (fun x => some (zi x)) ?_, rfl⟩
  simp [vState, zb, show rS 1 μ 1 = μ 1 1 from rfl, show rS 1 μ 2 = μ 1 2 from rfl, show rS 1 μ 3 = μ 1 3 from rfl, h1_0, h1_1, h1_2, h1_3]
set_option maxHeartbeats 4000000 in
set_option maxRecDepth 100000 in
theorem eX11_in_0 (σ : zG) (μ : zM) (g : Int32) (ok : pOK (rS 1 μ)) (ab : pAB (rS 1 μ)) : zMet shR σ 4 MX11_in yX11_in [zr 0, zi g] μ (fun rr μ' => rr = some (zi (vIn (rS 1 μ) g)) ∧ μ' = μ) := by
  refine zmetF (by decide +kernel) rfl (Nat.le_of_ble_eq_true rfl) ?_
  show zX shR σ 4 MX11_in 0 [(0, zr 0), (1, zi g)] [] μ _
  refine zx_iload_n (k := 1) (nn := 1) dX11_in_0 rfl rfl rfl ?_
  refine zx_i2l (nn := 2) dX11_in_1 rfl ?_
  refine zx_lconst (v := 0) (nn := 3) rfl dX11_in_2 rfl ?_
  refine zx_ldc2 (v := 2) (nn := 6) cwX11_287 dX11_in_3 rfl ?_
  refine zx_callSf (nn := 9) (d' := 0) (as := [zj g.toInt64, zj 0, zj 2]) (rest := []) (n := 3) (eX11_isIn σ μ g.toInt64 0 2  ) kX11_isIn mlX11_70 (by decide) rfl rfl (Nat.le_of_ble_eq_true rfl) dX11_in_6 rfl ?_
  show zX shR σ 4 MX11_in 9 [(0, zr 0), (1, zi g)] [zi (zb (decide (0 ≤ g.toInt64) && decide (g.toInt64 ≤ 2)))] μ _
  rw [show zb (decide (0 ≤ g.toInt64) && decide (g.toInt64 ≤ 2)) = zb (pIn g 0 2) from congrArg zb (in_r g 0 2)]
  show zX shR σ 4 MX11_in 9 [(0, zr 0), (1, zi g)] [zi (zb (pIn g 0 2))] μ _
  refine zx_ifb_eq (tgt := 24) (nn := 12) dX11_in_9 (by decide) rfl (fun h9 => ?_) (fun h9 => ?_)
  · refine zx_iconst (v := -1) (nn := 25) rfl dX11_in_24 rfl ?_
    refine zx_iret rfl dX11_in_25 ?_
    refine ⟨congrArg (fun x => some (zi x)) ?_, rfl⟩
    unfold vIn
    rw [if_neg (by rw [h9]; decide)]
  · refine zx_aload_n (k := 0) (nn := 13) dX11_in_12 rfl rfl rfl ?_
    refine zx_iload_n (k := 1) (nn := 14) dX11_in_13 rfl rfl rfl ?_
    refine zx_aload_n (k := 0) (nn := 15) dX11_in_14 rfl rfl rfl ?_
    refine zx_callVf (nn := 18) (k := 0) (d' := 1) (as := []) (rest := [zi g, zr 0]) (n := 0) (eX11_seen_0 σ μ   ok) kX11_seen mlX11_125 rfl rfl rfl (by decide) rfl rfl (Nat.le_of_ble_eq_true rfl) dX11_in_15 rfl ?_
    show zX shR σ 4 MX11_in 18 [(0, zr 0), (1, zi g)] [zi (pSeen (rS 1 μ)), zi g, zr 0] μ _
    refine zx_callVf (nn := 21) (k := 0) (d' := 3) (as := [zi g, zi (pSeen (rS 1 μ))]) (rest := []) (n := 2) (eX11_setOf_0 σ μ g (pSeen (rS 1 μ))  ok ab (seen_b ok ab)) kX11_setOf mlX11_289 rfl rfl rfl (by decide) rfl rfl (Nat.le_of_ble_eq_true rfl) dX11_in_18 rfl ?_
    show zX shR σ 4 MX11_in 21 [(0, zr 0), (1, zi g)] [zi (pSetOf (rS 1 μ) g (pSeen (rS 1 μ)))] μ _
    refine zx_goto (tgt := 25) dX11_in_21 (by decide) ?_
    refine zx_iret rfl dX11_in_25 ?_
    refine ⟨congrArg (fun x => some (zi x)) ?_, rfl⟩
    unfold vIn
    rw [if_pos h9]
set_option maxHeartbeats 4000000 in
set_option maxRecDepth 100000 in
theorem eX11_trace_0 (σ : zG) (μ : zM) (i : Int32) (t : Nat) (ht : μ 0 35 = nI t) (ht30 : t ≤ 30) : zMet shR σ 1 MX11_trace yX11_trace [zr 0, zi i] μ (fun rr μ' => rr = some (zi (if pHas (nI t) i = true then μ 24 i.toNatClampNeg else -3)) ∧ μ' = μ) := by
  refine zmetF (by decide +kernel) rfl (Nat.le_of_ble_eq_true rfl) ?_
  show zX shR σ 1 MX11_trace 0 [(0, zr 0), (1, zi i)] [] μ _
  refine zx_iload_n (k := 1) (nn := 1) dX11_trace_0 rfl rfl rfl ?_
  refine zx_i2l (nn := 2) dX11_trace_1 rfl ?_
  refine zx_lconst (v := 0) (nn := 3) rfl dX11_trace_2 rfl ?_
  refine zx_aload_n (k := 0) (nn := 4) dX11_trace_3 rfl rfl rfl ?_
  refine zx_getI (nn := 7) flX11_399 rfl rfl dX11_trace_4 rfl ?_
  refine zx_iconst (v := 1) (nn := 8) rfl dX11_trace_7 rfl ?_
  refine zx_isub (nn := 9) dX11_trace_8 rfl ?_
  rw [show (μ 0 35) - 1 = nI t - 1 from by rw [ht]]
  show zX shR σ 1 MX11_trace 9 [(0, zr 0), (1, zi i)] [zi (nI t - 1), zj 0, zj i.toInt64] μ _
  refine zx_i2l (nn := 10) dX11_trace_9 rfl ?_
  refine zx_callSf (nn := 13) (d' := 0) (as := [zj i.toInt64, zj 0, zj ((nI t - 1).toInt64)]) (rest := []) (n := 3) (eX11_isIn σ μ i.toInt64 0 ((nI t - 1).toInt64)  ) kX11_isIn mlX11_70 (by decide) rfl rfl (Nat.le_of_ble_eq_true rfl) dX11_trace_10 rfl ?_
  show zX shR σ 1 MX11_trace 13 [(0, zr 0), (1, zi i)] [zi (zb (decide (0 ≤ i.toInt64) && decide (i.toInt64 ≤ ((nI t - 1).toInt64))))] μ _
  rw [show zb (decide (0 ≤ i.toInt64) && decide (i.toInt64 ≤ ((nI t - 1).toInt64))) = zb (pHas (nI t) i) from congrArg zb (has_r t (by omega) i)]
  show zX shR σ 1 MX11_trace 13 [(0, zr 0), (1, zi i)] [zi (zb (pHas (nI t) i))] μ _
  refine zx_ifb_eq (tgt := 25) (nn := 16) dX11_trace_13 (by decide) rfl (fun h13 => ?_) (fun h13 => ?_)
  · refine zx_bipush (v := -3) (nn := 27) rfl dX11_trace_25 rfl ?_
    refine zx_iret rfl dX11_trace_27 ?_
    refine ⟨congrArg (fun x => some (zi x)) ?_, rfl⟩
    rw [if_neg (by rw [h13]; decide)]
  · obtain ⟨i1, n_i, rfl⟩ := has_item rfl (show t ≤ 40 by omega) h13
    show zX shR σ 1 MX11_trace 16 [(0, zr 0), (1, zi (nI i1))] [] μ _
    refine zx_aload_n (k := 0) (nn := 17) dX11_trace_16 rfl rfl rfl ?_
    refine zx_getR (q := 24) (nn := 20) flX11_67 rfl rfl dX11_trace_17 rfl ?_
    refine zx_iload_n (k := 1) (nn := 21) dX11_trace_20 rfl rfl rfl ?_
    refine zx_iald_n (j := i1) (nn := 22) rfl (by have := n_i.1; omega) (by decide) dX11_trace_21 rfl ?_
    refine zx_goto (tgt := 27) dX11_trace_22 (by decide) ?_
    refine zx_iret rfl dX11_trace_27 ?_
    refine ⟨congrArg (fun x => some (zi x)) ?_, rfl⟩
    rw [if_pos h13, n_i.2.2]
set_option maxHeartbeats 4000000 in
set_option maxRecDepth 100000 in
theorem eX11_many_0 (σ : zG) (μ : zM) (w : Int32) : zMet shR σ 0 MX11_many yX11_many [zr 0, zi w] μ (fun rr μ' => rr = some (zi (if w = 0 then μ 1 0 else if w = 1 then μ 1 5 else if w = 2 then μ 1 1 else if w = 3 then μ 1 6 else if w = 4 then μ 0 27 else if w = 5 then μ 0 6 else if w = 6 then μ 0 35 else -1)) ∧ μ' = μ) := by
  refine zmetF (by decide +kernel) rfl (Nat.le_of_ble_eq_true rfl) ?_
  show zX shR σ 0 MX11_many 0 [(0, zr 0), (1, zi w)] [] μ _
  refine zx_iload_n (k := 1) (nn := 1) dX11_many_0 rfl rfl rfl ?_
  by_cases h1_0 : w = 0
  · refine zx_sw h1_0 ?_
    refine zx_tabIn (tgt := 44) (off := 43) dX11_many_1 (by decide +kernel) (by decide +kernel) (by decide +kernel) (by decide) ?_
    refine zx_aload_n (k := 0) (nn := 45) dX11_many_44 rfl rfl rfl ?_
    refine zx_getR (q := 1) (nn := 48) flX11_9 rfl rfl dX11_many_45 rfl ?_
    refine zx_iconst (v := 0) (nn := 49) rfl dX11_many_48 rfl ?_
    refine zx_iald_n (j := 0) (nn := 50) rfl (by omega) (by decide) dX11_many_49 rfl ?_
    refine zx_iret rfl dX11_many_50 ?_
    refine ⟨congrArg (fun x => some (zi x)) ?_, rfl⟩
    simp [h1_0]
  by_cases h1_1 : w = 1
  · refine zx_sw h1_1 ?_
    refine zx_tabIn (tgt := 51) (off := 50) dX11_many_1 (by decide +kernel) (by decide +kernel) (by decide +kernel) (by decide) ?_
    refine zx_aload_n (k := 0) (nn := 52) dX11_many_51 rfl rfl rfl ?_
    refine zx_getR (q := 1) (nn := 55) flX11_9 rfl rfl dX11_many_52 rfl ?_
    refine zx_iconst (v := 5) (nn := 56) rfl dX11_many_55 rfl ?_
    refine zx_iald_n (j := 5) (nn := 57) rfl (by omega) (by decide) dX11_many_56 rfl ?_
    refine zx_iret rfl dX11_many_57 ?_
    refine ⟨congrArg (fun x => some (zi x)) ?_, rfl⟩
    simp [h1_0, h1_1]
  by_cases h1_2 : w = 2
  · refine zx_sw h1_2 ?_
    refine zx_tabIn (tgt := 58) (off := 57) dX11_many_1 (by decide +kernel) (by decide +kernel) (by decide +kernel) (by decide) ?_
    refine zx_aload_n (k := 0) (nn := 59) dX11_many_58 rfl rfl rfl ?_
    refine zx_getR (q := 1) (nn := 62) flX11_9 rfl rfl dX11_many_59 rfl ?_
    refine zx_iconst (v := 1) (nn := 63) rfl dX11_many_62 rfl ?_
    refine zx_iald_n (j := 1) (nn := 64) rfl (by omega) (by decide) dX11_many_63 rfl ?_
    refine zx_iret rfl dX11_many_64 ?_
    refine ⟨congrArg (fun x => some (zi x)) ?_, rfl⟩
    simp [h1_0, h1_1, h1_2]
  by_cases h1_3 : w = 3
  · refine zx_sw h1_3 ?_
    refine zx_tabIn (tgt := 65) (off := 64) dX11_many_1 (by decide +kernel) (by decide +kernel) (by decide +kernel) (by decide) ?_
    refine zx_aload_n (k := 0) (nn := 66) dX11_many_65 rfl rfl rfl ?_
    refine zx_getR (q := 1) (nn := 69) flX11_9 rfl rfl dX11_many_66 rfl ?_
    refine zx_bipush (v := 6) (nn := 71) rfl dX11_many_69 rfl ?_
    refine zx_iald_n (j := 6) (nn := 72) rfl (by omega) (by decide) dX11_many_71 rfl ?_
    refine zx_iret rfl dX11_many_72 ?_
    refine ⟨congrArg (fun x => some (zi x)) ?_, rfl⟩
    simp [h1_0, h1_1, h1_2, h1_3]
  by_cases h1_4 : w = 4
  · refine zx_sw h1_4 ?_
    refine zx_tabIn (tgt := 73) (off := 72) dX11_many_1 (by decide +kernel) (by decide +kernel) (by decide +kernel) (by decide) ?_
    refine zx_aload_n (k := 0) (nn := 74) dX11_many_73 rfl rfl rfl ?_
    refine zx_getI (nn := 77) flX11_361 rfl rfl dX11_many_74 rfl ?_
    refine zx_iret rfl dX11_many_77 ?_
    refine ⟨congrArg (fun x => some (zi x)) ?_, rfl⟩
    simp [h1_0, h1_1, h1_2, h1_3, h1_4]
  by_cases h1_5 : w = 5
  · refine zx_sw h1_5 ?_
    refine zx_tabIn (tgt := 78) (off := 77) dX11_many_1 (by decide +kernel) (by decide +kernel) (by decide +kernel) (by decide) ?_
    refine zx_aload_n (k := 0) (nn := 79) dX11_many_78 rfl rfl rfl ?_
    refine zx_getI (nn := 82) flX11_155 rfl rfl dX11_many_79 rfl ?_
    refine zx_iret rfl dX11_many_82 ?_
    refine ⟨congrArg (fun x => some (zi x)) ?_, rfl⟩
    simp [h1_0, h1_1, h1_2, h1_3, h1_4, h1_5]
  by_cases h1_6 : w = 6
  · refine zx_sw h1_6 ?_
    refine zx_tabIn (tgt := 83) (off := 82) dX11_many_1 (by decide +kernel) (by decide +kernel) (by decide +kernel) (by decide) ?_
    refine zx_aload_n (k := 0) (nn := 84) dX11_many_83 rfl rfl rfl ?_
    refine zx_getI (nn := 87) flX11_399 rfl rfl dX11_many_84 rfl ?_
    refine zx_iret rfl dX11_many_87 ?_
    refine ⟨congrArg (fun x => some (zi x)) ?_, rfl⟩
    simp [h1_0, h1_1, h1_2, h1_3, h1_4, h1_5, h1_6]
  refine zx_tabOut (tgt := 88) dX11_many_1 (zsw_out (lo := 0) (hi := 6) (fun k hk1 hk2 => by rcases (show k = 0 ∨ k = 1 ∨ k = 2 ∨ k = 3 ∨ k = 4 ∨ k = 5 ∨ k = 6 by omega) with rfl | rfl | rfl | rfl | rfl | rfl | rfl; exact lv_neT h1_0 rfl; exact lv_neT h1_1 rfl; exact lv_neT h1_2 rfl; exact lv_neT h1_3 rfl; exact lv_neT h1_4 rfl; exact lv_neT h1_5 rfl; exact lv_neT h1_6 rfl)) (by decide) ?_
  refine zx_iconst (v := -1) (nn := 89) rfl dX11_many_88 rfl ?_
  refine zx_iret rfl dX11_many_89 ?_
  refine ⟨congrArg (fun x => some (zi x)) ?_, rfl⟩
  simp [h1_0, h1_1, h1_2, h1_3, h1_4, h1_5, h1_6]
set_option maxHeartbeats 4000000 in
set_option maxRecDepth 100000 in
theorem eX11_keep_0 (σ : zG) (μ : zM) : zMet shR σ 1 MX11_keep yX11_keep [zr 0] μ (fun rr μ' => rr = some (zi 1) ∧ (∀ j, j < 521 → μ' 2 j = μ 1 j) ∧ μ' 0 3 = 1 ∧ (∀ j, j ≠ 3 → μ' 0 j = μ 0 j) ∧ zJ [0, 2] μ μ') := by
  refine zmetF (by decide +kernel) rfl (Nat.le_of_ble_eq_true rfl) ?_
  show zX shR σ 1 MX11_keep 0 [(0, zr 0)] [] μ _
  refine zx_aload_n (k := 0) (nn := 1) dX11_keep_0 rfl rfl rfl ?_
  refine zx_getR (q := 1) (nn := 4) flX11_9 rfl rfl dX11_keep_1 rfl ?_
  refine zx_aload_n (k := 0) (nn := 5) dX11_keep_4 rfl rfl rfl ?_
  refine zx_getR (q := 2) (nn := 8) flX11_13 rfl rfl dX11_keep_5 rfl ?_
  refine zx_callS (nn := 11) (d' := 0) (as := [zr 1, zr 2]) (rest := []) (n := 2) (eX11_over_1_2 σ μ) kX11_over mlX11_277 (by decide) rfl rfl (Nat.le_of_ble_eq_true rfl) dX11_keep_8 rfl ?_
  rintro _ ν1 ⟨rfl, o1, o2⟩
  show zX shR σ 1 MX11_keep 11 [(0, zr 0)] [] ν1 _
  refine zx_aload_n (k := 0) (nn := 12) dX11_keep_11 rfl rfl rfl ?_
  refine zx_iconst (v := 1) (nn := 13) rfl dX11_keep_12 rfl ?_
  refine zx_putI (nn := 16) fpX11_431 rfl rfl rfl rfl dX11_keep_13 rfl ?_
  refine zx_iconst (v := 1) (nn := 17) rfl dX11_keep_16 rfl ?_
  refine zx_iret rfl dX11_keep_17 ?_
  exact ⟨rfl, fun j hj => by rw [zp_ne (by decide)]; exact o2 j hj, by rw [zp_eq]; exact pk_us, fun j hj => by rw [zp_eq, pk_un hj, o1 0 (by decide)], (o1.mono (by decide)).p (by decide)⟩
set_option maxHeartbeats 4000000 in
set_option maxRecDepth 100000 in
theorem eX11_again_0 (σ : zG) (μ : zM) : zMet shR σ 1 MX11_again yX11_again [zr 0] μ (fun rr μ' => rr = some (zi (if μ 0 3 = 0 then -3 else μ 2 0)) ∧ if μ 0 3 = 0 then μ' = μ else (∀ j, j < 521 → μ' 1 j = μ 2 j) ∧ zJ [1] μ μ') := by
  refine zmetF (by decide +kernel) rfl (Nat.le_of_ble_eq_true rfl) ?_
  show zX shR σ 1 MX11_again 0 [(0, zr 0)] [] μ _
  refine zx_aload_n (k := 0) (nn := 1) dX11_again_0 rfl rfl rfl ?_
  refine zx_getI (nn := 4) flX11_431 rfl rfl dX11_again_1 rfl ?_
  refine zx_if_ne (tgt := 10) (nn := 7) dX11_again_4 (by decide) rfl (fun h4 => ?_) (fun h4 => ?_)
  · refine zx_aload_n (k := 0) (nn := 11) dX11_again_10 rfl rfl rfl ?_
    refine zx_getR (q := 2) (nn := 14) flX11_13 rfl rfl dX11_again_11 rfl ?_
    refine zx_aload_n (k := 0) (nn := 15) dX11_again_14 rfl rfl rfl ?_
    refine zx_getR (q := 1) (nn := 18) flX11_9 rfl rfl dX11_again_15 rfl ?_
    refine zx_callS (nn := 21) (d' := 0) (as := [zr 2, zr 1]) (rest := []) (n := 2) (eX11_over_2_1 σ μ) kX11_over mlX11_277 (by decide) rfl rfl (Nat.le_of_ble_eq_true rfl) dX11_again_18 rfl ?_
    rintro _ ν1 ⟨rfl, o1, o2⟩
    show zX shR σ 1 MX11_again 21 [(0, zr 0)] [] ν1 _
    refine zx_aload_n (k := 0) (nn := 22) dX11_again_21 rfl rfl rfl ?_
    refine zx_getR (q := 1) (nn := 25) flX11_9 rfl rfl dX11_again_22 rfl ?_
    refine zx_iconst (v := 0) (nn := 26) rfl dX11_again_25 rfl ?_
    refine zx_iald_n (j := 0) (nn := 27) rfl (by omega) (by decide) dX11_again_26 rfl ?_
    refine zx_iret rfl dX11_again_27 ?_
    exact ⟨by rw [if_neg h4, o2 0 (by omega)], by rw [if_neg h4]; exact ⟨o2, o1⟩⟩
  · refine zx_bipush (v := -3) (nn := 9) rfl dX11_again_7 rfl ?_
    refine zx_iret rfl dX11_again_9 ?_
    exact ⟨by rw [if_pos h4], by rw [if_pos h4]⟩
set_option maxHeartbeats 4000000 in
set_option maxRecDepth 100000 in
theorem eX11_feed_0 (σ : zG) (μ : zM) (e : Int64) (n : Int32) (len : Nat) (hl : μ 0 6 = nI len) (hlen : len ≤ 200) : zMet shR σ 1 MX11_feed yX11_feed [zr 0, zj e, zi n] μ (fun rr μ' => rr = some (zi (if pIn n 1 8 = true then (if len + n.toNatClampNeg ≤ 200 then nI (len + n.toNatClampNeg) else -2) else -1)) ∧ if pIn n 1 8 = true ∧ len + n.toNatClampNeg ≤ 200 then zJ [0, 5] μ μ' ∧ μ' 0 6 = nI (len + n.toNatClampNeg) ∧ (∀ j, j ≠ 6 → μ' 0 j = μ 0 j) ∧ (∀ j, j < n.toNatClampNeg → μ' 5 (len + j) = tByte e j) ∧ ∀ j, (j < len ∨ len + n.toNatClampNeg ≤ j) → μ' 5 j = μ 5 j else μ' = μ) := by
  refine zmetF (by decide +kernel) rfl (Nat.le_of_ble_eq_true rfl) ?_
  show zX shR σ 1 MX11_feed 0 [(0, zr 0), (1, zj e), (3, zi n)] [] μ _
  refine zx_iload_n (k := 2) (nn := 1) dX11_feed_0 rfl rfl rfl ?_
  refine zx_i2l (nn := 2) dX11_feed_1 rfl ?_
  refine zx_lconst (v := 1) (nn := 3) rfl dX11_feed_2 rfl ?_
  refine zx_ldc2 (v := 8) (nn := 6) cwX11_153 dX11_feed_3 rfl ?_
  refine zx_callSf (nn := 9) (d' := 0) (as := [zj n.toInt64, zj 1, zj 8]) (rest := []) (n := 3) (eX11_isIn σ μ n.toInt64 1 8  ) kX11_isIn mlX11_70 (by decide) rfl rfl (Nat.le_of_ble_eq_true rfl) dX11_feed_6 rfl ?_
  show zX shR σ 1 MX11_feed 9 [(0, zr 0), (1, zj e), (3, zi n)] [zi (zb (decide (1 ≤ n.toInt64) && decide (n.toInt64 ≤ 8)))] μ _
  rw [show zb (decide (1 ≤ n.toInt64) && decide (n.toInt64 ≤ 8)) = zb (pIn n 1 8) from congrArg zb (in_r n 1 8)]
  show zX shR σ 1 MX11_feed 9 [(0, zr 0), (1, zj e), (3, zi n)] [zi (zb (pIn n 1 8))] μ _
  refine zx_ifb_ne (tgt := 14) (nn := 12) dX11_feed_9 (by decide) rfl (fun h9 => ?_) (fun h9 => ?_)
  · obtain ⟨n1, n_n, rfl⟩ := pIn_n1 (b := 8) (by omega) h9
    show zX shR σ 1 MX11_feed 14 [(0, zr 0), (1, zj e), (3, zi (nI n1))] [] μ _
    refine zx_aload_n (k := 0) (nn := 15) dX11_feed_14 rfl rfl rfl ?_
    refine zx_getI (nn := 18) flX11_155 rfl rfl dX11_feed_15 rfl ?_
    refine zx_iload_n (k := 2) (nn := 19) dX11_feed_18 rfl rfl rfl ?_
    refine zx_iadd (nn := 20) dX11_feed_19 rfl ?_
    rw [show (μ 0 6) + (nI n1) = nI (len + n1) from by rw [hl, nI_add]]
    show zX shR σ 1 MX11_feed 20 [(0, zr 0), (1, zj e), (3, zi (nI n1))] [zi (nI (len + n1))] μ _
    refine zx_sipush (v := 200) (nn := 23) rfl dX11_feed_20 rfl ?_
    refine zx_icmp_le (tgt := 29) (nn := 26) dX11_feed_23 (by decide) rfl (fun h23 => ?_) (fun h23 => ?_)
    · have h200 : len + n1 ≤ 200 := nI_le_le (b := len + n1) (a := 200) h23 (by omega)
      refine zx_iconst (v := 0) (nn := 30) rfl dX11_feed_29 rfl ?_
      refine zx_istore (nn := 32) (lv' := [(4, zi 0), (0, zr 0), (1, zj e), (3, zi (nI n1))]) dX11_feed_30 (by decide) rfl rfl ?_
      refine zx_lv (lv' := [(0, zr 0), (1, zj e), (3, zi (nI n1)), (4, zi 0)]) [1, 2, 3, 0] rfl ?_
      refine zx_while (τ := Nat × zM) (fun t_ => n1 - t_.1) (fun t_ => t_.1 ≤ n1 ∧ zJ [0, 5] μ t_.2 ∧ t_.2 0 6 = nI (len + t_.1) ∧ (∀ j, j ≠ 6 → t_.2 0 j = μ 0 j) ∧ (∀ j, j < t_.1 → t_.2 5 (len + j) = tByte e j) ∧ ∀ j, (j < len ∨ len + t_.1 ≤ j) → t_.2 5 j = μ 5 j) (fun t_ => [(0, zr 0), (1, zj e), (3, zi (nI n1)), (4, zi (nI t_.1))]) (fun t_ => t_.2) (t0 := (0, μ)) (show 0 ≤ n1 ∧ zJ [0, 5] μ μ ∧ μ 0 6 = nI (len + 0) ∧ (∀ j, j ≠ 6 → μ 0 j = μ 0 j) ∧ (∀ j, j < 0 → μ 5 (len + j) = tByte e j) ∧ ∀ j, (j < len ∨ len + 0 ≤ j) → μ 5 j = μ 5 j from ⟨Nat.zero_le _, zJ.rf, hl, fun _ _ => rfl, fun j h => absurd h (by omega), fun _ _ => rfl⟩) ?_
      rintro ⟨i, μ1⟩ hI ih32
      replace hI : i ≤ n1 ∧ zJ [0, 5] μ μ1 ∧ μ1 0 6 = nI (len + i) ∧ (∀ j, j ≠ 6 → μ1 0 j = μ 0 j) ∧ (∀ j, j < i → μ1 5 (len + j) = tByte e j) ∧ ∀ j, (j < len ∨ len + i ≤ j) → μ1 5 j = μ 5 j := hI
      show zX shR σ 1 MX11_feed 32 [(0, zr 0), (1, zj e), (3, zi (nI n1)), (4, zi (nI i))] [] μ1 _
      obtain ⟨hi, f1, f2, f3, f4, f5⟩ := hI
      refine zx_iload (k := 3) (nn := 34) dX11_feed_32 rfl rfl ?_
      refine zx_iload_n (k := 2) (nn := 35) dX11_feed_34 rfl rfl rfl ?_
      refine zx_icmp_ge (tgt := 75) (nn := 38) dX11_feed_35 (by decide) rfl (fun h35 => ?_) (fun h35 => ?_)
      · refine zx_aload_n (k := 0) (nn := 76) dX11_feed_75 rfl rfl rfl ?_
        refine zx_getI (nn := 79) flX11_155 rfl rfl dX11_feed_76 rfl ?_
        rw [show μ1 0 6 = nI (len + i) from f2]
        show zX shR σ 1 MX11_feed 79 [(0, zr 0), (1, zj e), (3, zi (nI n1)), (4, zi (nI i))] [zi (nI (len + i))] μ1 _
        refine zx_iret rfl dX11_feed_79 ?_
        have hge := nI_le_le h35 (by omega)
        obtain rfl : i = n1 := by omega
        exact ⟨congrArg (fun x => some (zi x)) (by rw [if_pos h9, n_n.2.2, if_pos h200]), by rw [n_n.2.2, if_pos ⟨h9, h200⟩]; exact ⟨f1, f2, f3, f4, f5⟩⟩
      · have hlt : i < n1 := nI_nle_lt h35 (by omega)
        refine zx_aload_n (k := 0) (nn := 39) dX11_feed_38 rfl rfl rfl ?_
        refine zx_getR (q := 5) (nn := 42) flX11_22 rfl rfl dX11_feed_39 rfl ?_
        refine zx_aload_n (k := 0) (nn := 43) dX11_feed_42 rfl rfl rfl ?_
        refine zx_getI (nn := 46) flX11_155 rfl rfl dX11_feed_43 rfl ?_
        rw [show μ1 0 6 = nI (len + i) from f2]
        show zX shR σ 1 MX11_feed 46 [(0, zr 0), (1, zj e), (3, zi (nI n1)), (4, zi (nI i))] [zi (nI (len + i)), zr 5] μ1 _
        refine zx_lload_n (k := 1) (nn := 47) dX11_feed_46 rfl rfl rfl ?_
        refine zx_bipush (v := 8) (nn := 49) rfl dX11_feed_47 rfl ?_
        refine zx_iload (k := 3) (nn := 51) dX11_feed_49 rfl rfl ?_
        refine zx_imul (nn := 52) dX11_feed_51 rfl ?_
        refine zx_lshr (v := zlshr e (8 * (nI i))) (nn := 53) rfl dX11_feed_52 rfl ?_
        refine zx_ldc2 (v := 255) (nn := 56) cwX11_159 dX11_feed_53 rfl ?_
        refine zx_land (nn := 57) dX11_feed_56 rfl ?_
        refine zx_l2i (nn := 58) dX11_feed_57 rfl ?_
        rw [show ((zlshr e (8 * (nI i))) &&& 255).toInt32 = tByte e i from byte_r (by omega)]
        show zX shR σ 1 MX11_feed 58 [(0, zr 0), (1, zj e), (3, zi (nI n1)), (4, zi (nI i))] [zi (tByte e i), zi (nI (len + i)), zr 5] μ1 _
        refine zx_iast_n (j := len + i) (nn := 59) rfl (by omega) (by decide) dX11_feed_58 rfl ?_
        refine zx_aload_n (k := 0) (nn := 60) dX11_feed_59 rfl rfl rfl ?_
        refine zx_dupr (nn := 61) dX11_feed_60 rfl ?_
        refine zx_getI (nn := 64) flX11_155 rfl rfl dX11_feed_61 rfl ?_
        show zX shR σ 1 MX11_feed 64 [(0, zr 0), (1, zj e), (3, zi (nI n1)), (4, zi (nI i))] [zi (μ1 0 6), zr 0] (zp μ1 5 (len + i) (tByte e i)) _
        rw [show μ1 0 6 = nI (len + i) from f2]
        show zX shR σ 1 MX11_feed 64 [(0, zr 0), (1, zj e), (3, zi (nI n1)), (4, zi (nI i))] [zi (nI (len + i)), zr 0] (zp μ1 5 (len + i) (tByte e i)) _
        refine zx_iconst (v := 1) (nn := 65) rfl dX11_feed_64 rfl ?_
        refine zx_iadd (nn := 66) dX11_feed_65 rfl ?_
        rw [show (nI (len + i)) + 1 = nI (len + i + 1) from nI_1 _]
        show zX shR σ 1 MX11_feed 66 [(0, zr 0), (1, zj e), (3, zi (nI n1)), (4, zi (nI i))] [zi (nI (len + i + 1)), zr 0] (zp μ1 5 (len + i) (tByte e i)) _
        refine zx_putI (nn := 69) fpX11_155 rfl rfl rfl rfl dX11_feed_66 rfl ?_
        refine zx_iinc (k := 3) (v := nI (i + 1)) (lv' := [(4, zi (nI (i + 1))), (0, zr 0), (1, zj e), (3, zi (nI n1))]) (nn := 72) dX11_feed_69 rfl (nI_1 i) (by decide) rfl rfl ?_
        refine zx_goto (tgt := 32) dX11_feed_72 (by decide) ?_
        refine zx_lv (lv' := [(0, zr 0), (1, zj e), (3, zi (nI n1)), (4, zi (nI (i + 1)))]) [1, 2, 3, 0] rfl ?_
        exact ih32 (i + 1, zp (zp μ1 5 (len + i) (tByte e i)) 0 6 (nI (len + i + 1))) (show (i + 1) ≤ n1 ∧ zJ [0, 5] μ (zp (zp μ1 5 (len + i) (tByte e i)) 0 6 (nI (len + i + 1))) ∧ (zp (zp μ1 5 (len + i) (tByte e i)) 0 6 (nI (len + i + 1))) 0 6 = nI (len + (i + 1)) ∧ (∀ j, j ≠ 6 → (zp (zp μ1 5 (len + i) (tByte e i)) 0 6 (nI (len + i + 1))) 0 j = μ 0 j) ∧ (∀ j, j < (i + 1) → (zp (zp μ1 5 (len + i) (tByte e i)) 0 6 (nI (len + i + 1))) 5 (len + j) = tByte e j) ∧ ∀ j, (j < len ∨ len + (i + 1) ≤ j) → (zp (zp μ1 5 (len + i) (tByte e i)) 0 6 (nI (len + i + 1))) 5 j = μ 5 j from ⟨by omega, (f1.p (by decide)).p (by decide), by rw [zp_eq]; exact pk_us, fun j hj => by rw [zp_eq, pk_un hj, zp_ne (by decide)]; exact f3 j hj, fun j hj => by
            rw [zp_ne (by decide), zp_eq]
            exact (Decidable.em (j = i)).elim (fun e_ => by subst e_; exact pk_us) (fun e_ => by rw [pk_un (by omega)]; exact f4 j (by omega)), fun j hj => by
            rw [zp_ne (by decide), zp_eq, pk_un (by omega)]
            exact f5 j (by omega)⟩) (by show n1 - (i + 1) < n1 - i; omega)
    · refine zx_bipush (v := -2) (nn := 28) rfl dX11_feed_26 rfl ?_
      refine zx_iret rfl dX11_feed_28 ?_
      have h2 : ¬ len + n1 ≤ 200 := fun q => h23 (nI_le (b := 200) q (by omega))
      exact ⟨congrArg (fun x => some (zi x)) (by rw [if_pos h9, n_n.2.2, if_neg h2]), by rw [if_neg (fun q => h2 (by rw [n_n.2.2] at q; exact q.2))]⟩
  · refine zx_iconst (v := -1) (nn := 13) rfl dX11_feed_12 rfl ?_
    refine zx_iret rfl dX11_feed_13 ?_
    have hc : ¬ (pIn n 1 8 = true ∧ len + n.toNatClampNeg ≤ 200) := fun q => absurd (h9.symm.trans q.1) (by decide)
    exact ⟨congrArg (fun x => some (zi x)) (by rw [if_neg (by rw [h9]; decide)]), by rw [if_neg hc]⟩
