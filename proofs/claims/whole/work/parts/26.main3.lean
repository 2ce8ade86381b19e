theorem has_vp {n : Nat} {x i : Int32} (hx : x = nI n) (hn : n ≤ 40) (h : pHas x i = true) : vp_in i 40 := by
  obtain ⟨j, h1, rfl⟩ := has_item hx hn h
  exact vp_in_nI h1.2.1 (by decide)
def vWrite (μ : zM) (k i : Int32) : Int32 := if pHas 4 k = true then (if μ 54 k.toNatClampNeg = -1 then -11 else if pHas (μ 55 k.toNatClampNeg) i = true then 1 else -12) else -1
def vItem (μ : zM) (k sort i : Int32) : Int32 := if pHas 4 k = true ∧ pIn sort 0 4 = true then (if μ 54 k.toNatClampNeg = -1 then -11 else if μ 54 k.toNatClampNeg = sort then (if pHas (μ 55 k.toNatClampNeg) i = true then μ (57 + k.toNatClampNeg) i.toNatClampNeg else -12) else -13) else -1
/-- why a sheet tells no acts; 0: it does -/
def vNoActs (μ : zM) (k n : Int32) : Int32 := if pHas 4 k = true ∧ pIn n 0 20 = true then (if μ 54 k.toNatClampNeg = -1 then -11 else if μ 54 k.toNatClampNeg = 0 then 0 else -13) else -1
def vShelf (s : Nat → Int32) (h w n : Int32) : Int32 := if pHas 4 h = true then (if w = 0 then (if pHas (s 0) n = true then 1 else -1) else if w = 1 then (if pHas 4 n = true then 1 else -1) else if w = 2 then 1 else -1) else -1
def mShelf (μ : zM) (h w n : Int32) : zM := if w = 0 then zp (zp μ 62 h.toNatClampNeg 1) 63 h.toNatClampNeg n else if w = 1 then (if μ 54 n.toNatClampNeg = -1 then zp μ 62 h.toNatClampNeg 0 else zp (zp (zp μ 62 h.toNatClampNeg 2) 63 h.toNatClampNeg (μ 54 n.toNatClampNeg)) 64 h.toNatClampNeg (μ 55 n.toNatClampNeg)) else zp μ 62 h.toNatClampNeg 0
def vAsLamp (μ : zM) (k : Nat) (as : Int32) : Int32 := if (decide (μ 62 k = 1) && pHas (μ 18 7) (μ 63 k)) = true then (if pUnder (μ 19 (μ 63 k).toNatClampNeg) as = true then μ 63 k else -13) else if μ 62 k = 2 then -13 else -11
def vAsRow (μ : zM) (k : Nat) (as : Int32) : Int32 := if μ 62 k = 2 then (if μ 63 k = as then μ 64 k else -13) else if (decide (μ 62 k = 1) && pHas (μ 18 7) (μ 63 k)) = true then -13 else -11
def vTaken (μ : zM) (h as : Int32) : Int32 := if pHas 4 h = true then (if pIn as 0 5 = true then vAsLamp μ h.toNatClampNeg as else if pIn as 10 14 = true then vAsRow μ h.toNatClampNeg (as - 10) else -1) else -1
def vActC (μ : zM) (h act : Int32) : Bool := pHas 4 h && pIn act 0 3 && (decide (μ 62 h.toNatClampNeg = 1) && pHas (μ 18 7) (μ 63 h.toNatClampNeg))
def vActL (μ : zM) (h act : Int32) : List Int32 := if vActC μ h act = true then pThL act (μ 19 (μ 63 h.toNatClampNeg).toNatClampNeg) (μ 63 h.toNatClampNeg) (μ 21 (μ 63 h.toNatClampNeg).toNatClampNeg) else []
def vAct (μ : zM) (h act x : Int32) : Int32 := if vActC μ h act = true then (if pThP act (μ 19 (μ 63 h.toNatClampNeg).toNatClampNeg) (μ 63 h.toNatClampNeg) (μ 21 (μ 63 h.toNatClampNeg).toNatClampNeg) = true then -15 else pThV act (μ 19 (μ 63 h.toNatClampNeg).toNatClampNeg) (μ 63 h.toNatClampNeg) (μ 21 (μ 63 h.toNatClampNeg).toNatClampNeg) x) else 0
def vMany (μ : zM) (w : Int32) : Int32 := if w = 0 then μ 18 7 else if w = 1 then μ 1 5 else if w = 2 then μ 18 8 else if w = 3 then μ 32 4 else if w = 4 then μ 47 3 else if w = 5 then μ 7 5 else if w = 6 then μ 65 1 else -1
theorem push_all {μ : zM} {L : List Int32} (h0 : μ 65 1 = nI 0) : zJ [65, 66] μ (pPush 65 1 66 μ 0 L) ∧ pPush 65 1 66 μ 0 L 65 1 = nI L.length ∧ ∀ i, i < L.length → pPush 65 1 66 μ 0 L 66 i = L.getD i 0 :=
  ⟨pPush_J, (pPush_n h0).trans (by rw [Nat.zero_add]), fun i hi => by have := pPush_at (a := 65) (j := 1) (b := 66) (by decide) (μ := μ) (t := 0) hi; rw [Nat.zero_add] at this; exact this⟩
set_option maxHeartbeats 4000000 in
set_option maxRecDepth 100000 in
theorem eX10_sheet_0 (σ : zG) (μ : zM) (k : Int32) (sort : Int32) (n : Int32) : zMet shC σ 3 MX10_sheet yX10_sheet [zr 0, zi k, zi sort, zi n] μ (fun rr μ' => rr = some (zi (vSheetC k sort n)) ∧ if vSheetC k sort n = 1 then (zJ [57 + k.toNatClampNeg] (zp (zp μ 54 k.toNatClampNeg sort) 55 k.toNatClampNeg (pW (if sort = -1 then 0 else n) 0 40)) μ' ∧ ∀ q, q < 40 → μ' (57 + k.toNatClampNeg) q = 0) else μ' = μ) := by
  refine zmetF (by decide +kernel) rfl (Nat.le_of_ble_eq_true rfl) ?_
  show zX shC σ 3 MX10_sheet 0 [(0, zr 0), (1, zi k), (2, zi sort), (3, zi n)] [] μ _
  refine zx_iload_n (k := 1) (nn := 1) dX10_sheet_0 rfl rfl rfl ?_
  refine zx_callSf (nn := 4) (d' := 0) (as := [zi k]) (rest := []) (n := 1) (eX6_isSheet σ μ k  ) kX6_isSheet mlX10_268 (by decide) rfl rfl (Nat.le_of_ble_eq_true rfl) dX10_sheet_1 rfl ?_
  show zX shC σ 3 MX10_sheet 4 [(0, zr 0), (1, zi k), (2, zi sort), (3, zi n)] [zi (zb (pHas 4 k))] μ _
  refine zx_ifb_eq (tgt := 16) (nn := 7) dX10_sheet_4 (by decide) rfl (fun h4 => ?_) (fun h4 => ?_)
  · refine zx_iconst (v := -1) (nn := 17) rfl dX10_sheet_16 rfl ?_
    refine zx_iret rfl dX10_sheet_17 ?_
    refine ⟨congrArg (fun x => some (zi x)) ?_, ?_⟩
    · simp [vSheetC, h4]
    · rw [if_neg (by simp [vSheetC, h4])]
  · refine zx_iload_n (k := 2) (nn := 8) dX10_sheet_7 rfl rfl rfl ?_
    refine zx_iconst (v := -1) (nn := 9) rfl dX10_sheet_8 rfl ?_
    refine zx_iconst (v := 4) (nn := 10) rfl dX10_sheet_9 rfl ?_
    refine zx_callSf (nn := 13) (d' := 0) (as := [zi sort, zi (-1), zi 4]) (rest := []) (n := 3) (eX10_isIn σ μ sort (-1) 4  ) kX10_isIn mlX10_135 (by decide) rfl rfl (Nat.le_of_ble_eq_true rfl) dX10_sheet_10 rfl ?_
    show zX shC σ 3 MX10_sheet 13 [(0, zr 0), (1, zi k), (2, zi sort), (3, zi n)] [zi (zb (pIn sort (-1) 4))] μ _
    refine zx_ifb_ne (tgt := 18) (nn := 16) dX10_sheet_13 (by decide) rfl (fun h13 => ?_) (fun h13 => ?_)
    · obtain ⟨k1, n_k, rfl⟩ := has4 h4
      show zX shC σ 3 MX10_sheet 18 [(0, zr 0), (1, zi (nI k1)), (2, zi sort), (3, zi n)] [] μ _
      refine zx_iload_n (k := 2) (nn := 19) dX10_sheet_18 rfl rfl rfl ?_
      refine zx_iconst (v := -1) (nn := 20) rfl dX10_sheet_19 rfl ?_
      refine zx_icmp_ne (tgt := 34) (nn := 23) dX10_sheet_20 (by decide) rfl (fun h20 => ?_) (fun h20 => ?_)
      · refine zx_iload_n (k := 3) (nn := 35) dX10_sheet_34 rfl rfl rfl ?_
        refine zx_bipush (v := 40) (nn := 37) rfl dX10_sheet_35 rfl ?_
        refine zx_icmp_le (tgt := 42) (nn := 40) dX10_sheet_37 (by decide) rfl (fun h37 => ?_) (fun h37 => ?_)
        · refine zx_iload_n (k := 3) (nn := 43) dX10_sheet_42 rfl rfl rfl ?_
          refine zx_if_ge (tgt := 51) (nn := 46) dX10_sheet_43 (by decide) rfl (fun h43 => ?_) (fun h43 => ?_)
          · refine zx_aload_n (k := 0) (nn := 52) dX10_sheet_51 rfl rfl rfl ?_
            refine zx_getR (q := 53) (nn := 55) flX10_68 rfl rfl dX10_sheet_52 rfl ?_
            refine zx_iload_n (k := 1) (nn := 56) dX10_sheet_55 rfl rfl rfl ?_
            refine zx_iload_n (k := 2) (nn := 57) dX10_sheet_56 rfl rfl rfl ?_
            refine zx_iload_n (k := 3) (nn := 58) dX10_sheet_57 rfl rfl rfl ?_
            refine zx_callV (nn := 61) (k := 53) (d' := 2) (as := [zi (nI k1), zi sort, zi n]) (rest := []) (n := 3) (eX6_renew_53 σ μ k1 sort n  n_k.1) kX6_renew mlX10_271 rfl rfl rfl (by decide) rfl rfl (Nat.le_of_ble_eq_true rfl) dX10_sheet_58 rfl ?_
            rintro _ ν1 ⟨rfl, q1⟩
            show zX shC σ 3 MX10_sheet 61 [(0, zr 0), (1, zi (nI k1)), (2, zi sort), (3, zi n)] [zi 1] ν1 _
            refine zx_iret rfl dX10_sheet_61 ?_
            replace h37 := Int32.not_lt.mpr h37
            have hv : vSheetC (nI k1) sort n = 1 := by unfold vSheetC; rw [if_pos ⟨h4, h13⟩, if_neg h20, if_neg h37, if_neg (Int32.not_lt.mpr h43)]
            refine ⟨congrArg (fun x => some (zi x)) hv.symm, ?_⟩
            rw [if_pos hv, n_k.2.2, if_neg h20]
            exact q1
          · refine zx_bipush (v := -14) (nn := 48) rfl dX10_sheet_46 rfl ?_
            refine zx_goto (tgt := 61) dX10_sheet_48 (by decide) ?_
            refine zx_iret rfl dX10_sheet_61 ?_
            replace h37 := Int32.not_lt.mpr h37
            replace h43 := Int32.not_le.mp h43
            refine ⟨congrArg (fun x => some (zi x)) ?_, ?_⟩
            · simp [vSheetC, h4, h13, h20, h37, h43]
            · rw [if_neg (by simp [vSheetC, h4, h13, h20, h37, h43])]
        · refine zx_iconst (v := -1) (nn := 41) rfl dX10_sheet_40 rfl ?_
          refine zx_iret rfl dX10_sheet_41 ?_
          replace h37 := Int32.not_le.mp h37
          refine ⟨congrArg (fun x => some (zi x)) ?_, ?_⟩
          · simp [vSheetC, h4, h13, h20, h37]
          · rw [if_neg (by simp [vSheetC, h4, h13, h20, h37])]
      · refine zx_aload_n (k := 0) (nn := 24) dX10_sheet_23 rfl rfl rfl ?_
        refine zx_getR (q := 53) (nn := 27) flX10_68 rfl rfl dX10_sheet_24 rfl ?_
        refine zx_iload_n (k := 1) (nn := 28) dX10_sheet_27 rfl rfl rfl ?_
        refine zx_iload_n (k := 2) (nn := 29) dX10_sheet_28 rfl rfl rfl ?_
        refine zx_iconst (v := 0) (nn := 30) rfl dX10_sheet_29 rfl ?_
        refine zx_callV (nn := 33) (k := 53) (d' := 2) (as := [zi (nI k1), zi sort, zi 0]) (rest := []) (n := 3) (eX6_renew_53 σ μ k1 sort 0  n_k.1) kX6_renew mlX10_271 rfl rfl rfl (by decide) rfl rfl (Nat.le_of_ble_eq_true rfl) dX10_sheet_30 rfl ?_
        rintro _ ν2 ⟨rfl, q2⟩
        show zX shC σ 3 MX10_sheet 33 [(0, zr 0), (1, zi (nI k1)), (2, zi sort), (3, zi n)] [zi 1] ν2 _
        refine zx_iret rfl dX10_sheet_33 ?_
        have hv : vSheetC (nI k1) sort n = 1 := by unfold vSheetC; rw [if_pos ⟨h4, h13⟩, if_pos h20]
        refine ⟨congrArg (fun x => some (zi x)) hv.symm, ?_⟩
        rw [if_pos hv, n_k.2.2, if_pos h20]
        exact q2
    · refine zx_iconst (v := -1) (nn := 17) rfl dX10_sheet_16 rfl ?_
      refine zx_iret rfl dX10_sheet_17 ?_
      refine ⟨congrArg (fun x => some (zi x)) ?_, ?_⟩
      · simp [vSheetC, h4, h13]
      · rw [if_neg (by simp [vSheetC, h4, h13])]
set_option maxHeartbeats 4000000 in
set_option maxRecDepth 100000 in
theorem eX10_write_0 (σ : zG) (μ : zM) (k : Int32) (i : Int32) (v : Int32) (hs : ∀ k, k < 4 → ∃ n, n ≤ 40 ∧ μ 55 k = nI n) : zMet shC σ 2 MX10_write yX10_write [zr 0, zi k, zi i, zi v] μ (fun rr μ' => rr = some (zi (vWrite μ k i)) ∧ μ' = if pHas 4 k = true ∧ ¬ μ 54 k.toNatClampNeg = -1 ∧ pHas (μ 55 k.toNatClampNeg) i = true then zp μ (57 + k.toNatClampNeg) i.toNatClampNeg (pNar (μ 54 k.toNatClampNeg) v) else μ) := by
  refine zmetF (by decide +kernel) rfl (Nat.le_of_ble_eq_true rfl) ?_
  show zX shC σ 2 MX10_write 0 [(0, zr 0), (1, zi k), (2, zi i), (3, zi v)] [] μ _
  refine zx_iload_n (k := 1) (nn := 1) dX10_write_0 rfl rfl rfl ?_
  refine zx_callSf (nn := 4) (d' := 0) (as := [zi k]) (rest := []) (n := 1) (eX6_isSheet σ μ k  ) kX6_isSheet mlX10_268 (by decide) rfl rfl (Nat.le_of_ble_eq_true rfl) dX10_write_1 rfl ?_
  show zX shC σ 2 MX10_write 4 [(0, zr 0), (1, zi k), (2, zi i), (3, zi v)] [zi (zb (pHas 4 k))] μ _
  refine zx_ifb_ne (tgt := 9) (nn := 7) dX10_write_4 (by decide) rfl (fun h4 => ?_) (fun h4 => ?_)
  · obtain ⟨k1, n_k, rfl⟩ := has4 h4
    show zX shC σ 2 MX10_write 9 [(0, zr 0), (1, zi (nI k1)), (2, zi i), (3, zi v)] [] μ _
    refine zx_aload_n (k := 0) (nn := 10) dX10_write_9 rfl rfl rfl ?_
    refine zx_getR (q := 53) (nn := 13) flX10_68 rfl rfl dX10_write_10 rfl ?_
    refine zx_iload_n (k := 1) (nn := 14) dX10_write_13 rfl rfl rfl ?_
    refine zx_callVf (nn := 17) (k := 53) (d' := 0) (as := [zi (nI k1)]) (rest := []) (n := 1) (eX6_isMissing_53 σ μ k1  n_k.1) kX6_isMissing mlX10_274 rfl rfl rfl (by decide) rfl rfl (Nat.le_of_ble_eq_true rfl) dX10_write_14 rfl ?_
    show zX shC σ 2 MX10_write 17 [(0, zr 0), (1, zi (nI k1)), (2, zi i), (3, zi v)] [zi (zb (decide (μ 54 k1 = -1)))] μ _
    refine zx_ifb_eq (tgt := 23) (nn := 20) dX10_write_17 (by decide) rfl (fun h17 => ?_) (fun h17 => ?_)
    · refine zx_aload_n (k := 0) (nn := 24) dX10_write_23 rfl rfl rfl ?_
      refine zx_getR (q := 53) (nn := 27) flX10_68 rfl rfl dX10_write_24 rfl ?_
      refine zx_iload_n (k := 1) (nn := 28) dX10_write_27 rfl rfl rfl ?_
      refine zx_iload_n (k := 2) (nn := 29) dX10_write_28 rfl rfl rfl ?_
      refine zx_callVf (nn := 32) (k := 53) (d' := 0) (as := [zi (nI k1), zi i]) (rest := []) (n := 2) (eX6_hasItem_53 σ μ k1 i  n_k.1) kX6_hasItem mlX10_277 rfl rfl rfl (by decide) rfl rfl (Nat.le_of_ble_eq_true rfl) dX10_write_29 rfl ?_
      show zX shC σ 2 MX10_write 32 [(0, zr 0), (1, zi (nI k1)), (2, zi i), (3, zi v)] [zi (zb (pHas (μ 55 k1) i))] μ _
      refine zx_ifb_eq (tgt := 48) (nn := 35) dX10_write_32 (by decide) rfl (fun h32 => ?_) (fun h32 => ?_)
      · refine zx_bipush (v := -12) (nn := 50) rfl dX10_write_48 rfl ?_
        refine zx_iret rfl dX10_write_50 ?_
        have hm := of_decide_eq_false h17
        exact ⟨congrArg (fun x => some (zi x)) (by unfold vWrite; rw [if_pos h4, n_k.2.2, if_neg hm, if_neg (by rw [h32]; decide)]), by rw [if_neg (fun q => absurd q.2.2 (by rw [n_k.2.2, h32]; decide))]⟩
      · obtain ⟨ln, hl40, hln⟩ := hs k1 n_k.1
        obtain ⟨i1, n_i, rfl⟩ := has_item hln hl40 h32
        show zX shC σ 2 MX10_write 35 [(0, zr 0), (1, zi (nI k1)), (2, zi (nI i1)), (3, zi v)] [] μ _
        refine zx_aload_n (k := 0) (nn := 36) dX10_write_35 rfl rfl rfl ?_
        refine zx_getR (q := 53) (nn := 39) flX10_68 rfl rfl dX10_write_36 rfl ?_
        refine zx_iload_n (k := 1) (nn := 40) dX10_write_39 rfl rfl rfl ?_
        refine zx_iload_n (k := 2) (nn := 41) dX10_write_40 rfl rfl rfl ?_
        refine zx_iload_n (k := 3) (nn := 42) dX10_write_41 rfl rfl rfl ?_
        refine zx_callVf (nn := 45) (k := 53) (d' := 1) (as := [zi (nI k1), zi (nI i1), zi v]) (rest := []) (n := 3) (eX6_put_53 σ μ k1 i1 v  n_k.1 n_i.2.1) kX6_put mlX10_280 rfl rfl rfl (by decide) rfl rfl (Nat.le_of_ble_eq_true rfl) dX10_write_42 rfl ?_
        show zX shC σ 2 MX10_write 45 [(0, zr 0), (1, zi (nI k1)), (2, zi (nI i1)), (3, zi v)] [zi 1] (zp μ (57 + k1) i1 (pNar (μ 54 k1) v)) _
        refine zx_goto (tgt := 50) dX10_write_45 (by decide) ?_
        refine zx_iret rfl dX10_write_50 ?_
        have hm := of_decide_eq_false h17
        exact ⟨congrArg (fun x => some (zi x)) (by unfold vWrite; rw [if_pos h4, n_k.2.2, if_neg hm, if_pos h32]), by rw [n_k.2.2, if_pos ⟨h4, hm, h32⟩, n_i.2.2]⟩
    · refine zx_bipush (v := -11) (nn := 22) rfl dX10_write_20 rfl ?_
      refine zx_iret rfl dX10_write_22 ?_
      have hm := of_decide_eq_true h17
      exact ⟨congrArg (fun x => some (zi x)) (by unfold vWrite; rw [if_pos h4, n_k.2.2, if_pos hm]), by rw [if_neg (fun q => q.2.1 (by rw [n_k.2.2]; exact hm))]⟩
  · refine zx_iconst (v := -1) (nn := 8) rfl dX10_write_7 rfl ?_
    refine zx_iret rfl dX10_write_8 ?_
    exact ⟨congrArg (fun x => some (zi x)) (by unfold vWrite; rw [if_neg (by rw [h4]; decide)]), by rw [if_neg (fun q => absurd q.1 (by rw [h4]; decide))]⟩
set_option maxHeartbeats 4000000 in
set_option maxRecDepth 100000 in
theorem eX10_item_0 (σ : zG) (μ : zM) (k : Int32) (sort : Int32) (i : Int32) (hs : ∀ k, k < 4 → ∃ n, n ≤ 40 ∧ μ 55 k = nI n) : zMet shC σ 2 MX10_item yX10_item [zr 0, zi k, zi sort, zi i] μ (fun rr μ' => rr = some (zi (vItem μ k sort i)) ∧ μ' = μ) := by
  refine zmetF (by decide +kernel) rfl (Nat.le_of_ble_eq_true rfl) ?_
  show zX shC σ 2 MX10_item 0 [(0, zr 0), (1, zi k), (2, zi sort), (3, zi i)] [] μ _
  refine zx_iload_n (k := 1) (nn := 1) dX10_item_0 rfl rfl rfl ?_
  refine zx_callSf (nn := 4) (d' := 0) (as := [zi k]) (rest := []) (n := 1) (eX6_isSheet σ μ k  ) kX6_isSheet mlX10_268 (by decide) rfl rfl (Nat.le_of_ble_eq_true rfl) dX10_item_1 rfl ?_
  show zX shC σ 2 MX10_item 4 [(0, zr 0), (1, zi k), (2, zi sort), (3, zi i)] [zi (zb (pHas 4 k))] μ _
  refine zx_ifb_eq (tgt := 16) (nn := 7) dX10_item_4 (by decide) rfl (fun h4 => ?_) (fun h4 => ?_)
  · refine zx_iconst (v := -1) (nn := 17) rfl dX10_item_16 rfl ?_
    refine zx_iret rfl dX10_item_17 ?_
    refine ⟨congrArg (fun x => some (zi x)) ?_, rfl⟩
    unfold vItem
    rw [if_neg (fun q => absurd q.1 (by rw [h4]; decide))]
  · refine zx_iload_n (k := 2) (nn := 8) dX10_item_7 rfl rfl rfl ?_
    refine zx_iconst (v := 0) (nn := 9) rfl dX10_item_8 rfl ?_
    refine zx_iconst (v := 4) (nn := 10) rfl dX10_item_9 rfl ?_
    refine zx_callSf (nn := 13) (d' := 0) (as := [zi sort, zi 0, zi 4]) (rest := []) (n := 3) (eX10_isIn σ μ sort 0 4  ) kX10_isIn mlX10_135 (by decide) rfl rfl (Nat.le_of_ble_eq_true rfl) dX10_item_10 rfl ?_
    show zX shC σ 2 MX10_item 13 [(0, zr 0), (1, zi k), (2, zi sort), (3, zi i)] [zi (zb (pIn sort 0 4))] μ _
    refine zx_ifb_ne (tgt := 18) (nn := 16) dX10_item_13 (by decide) rfl (fun h13 => ?_) (fun h13 => ?_)
    · obtain ⟨k1, n_k, rfl⟩ := has4 h4
      show zX shC σ 2 MX10_item 18 [(0, zr 0), (1, zi (nI k1)), (2, zi sort), (3, zi i)] [] μ _
      refine zx_aload_n (k := 0) (nn := 19) dX10_item_18 rfl rfl rfl ?_
      refine zx_getR (q := 53) (nn := 22) flX10_68 rfl rfl dX10_item_19 rfl ?_
      refine zx_iload_n (k := 1) (nn := 23) dX10_item_22 rfl rfl rfl ?_
      refine zx_iload_n (k := 2) (nn := 24) dX10_item_23 rfl rfl rfl ?_
      refine zx_callVf (nn := 27) (k := 53) (d' := 1) (as := [zi (nI k1), zi sort]) (rest := []) (n := 2) (eX6_refusalAs_53 σ μ k1 sort  n_k.1) kX6_refusalAs mlX10_283 rfl rfl rfl (by decide) rfl rfl (Nat.le_of_ble_eq_true rfl) dX10_item_24 rfl ?_
      show zX shC σ 2 MX10_item 27 [(0, zr 0), (1, zi (nI k1)), (2, zi sort), (3, zi i)] [zi (if μ 54 k1 = -1 then -11 else if μ 54 k1 = sort then 0 else -13)] μ _
      refine zx_istore (nn := 29) (lv' := [(4, zi (if μ 54 k1 = -1 then -11 else if μ 54 k1 = sort then 0 else -13)), (0, zr 0), (1, zi (nI k1)), (2, zi sort), (3, zi i)]) dX10_item_27 (by decide) rfl rfl ?_
      refine zx_iload (k := 0) (nn := 31) dX10_item_29 rfl rfl ?_
      refine zx_if_eq (tgt := 37) (nn := 34) dX10_item_31 (by decide) rfl (fun h31 => ?_) (fun h31 => ?_)
      · refine zx_aload_n (k := 1) (nn := 38) dX10_item_37 rfl rfl rfl ?_
        refine zx_getR (q := 53) (nn := 41) flX10_68 rfl rfl dX10_item_38 rfl ?_
        refine zx_iload_n (k := 2) (nn := 42) dX10_item_41 rfl rfl rfl ?_
        refine zx_iload_n (k := 4) (nn := 43) dX10_item_42 rfl rfl rfl ?_
        refine zx_callVf (nn := 46) (k := 53) (d' := 0) (as := [zi (nI k1), zi i]) (rest := []) (n := 2) (eX6_hasItem_53 σ μ k1 i  n_k.1) kX6_hasItem mlX10_277 rfl rfl rfl (by decide) rfl rfl (Nat.le_of_ble_eq_true rfl) dX10_item_43 rfl ?_
        show zX shC σ 2 MX10_item 46 [(4, zi (if μ 54 k1 = -1 then -11 else if μ 54 k1 = sort then 0 else -13)), (0, zr 0), (1, zi (nI k1)), (2, zi sort), (3, zi i)] [zi (zb (pHas (μ 55 k1) i))] μ _
        refine zx_ifb_eq (tgt := 63) (nn := 49) dX10_item_46 (by decide) rfl (fun h46 => ?_) (fun h46 => ?_)
        · refine zx_bipush (v := -12) (nn := 65) rfl dX10_item_63 rfl ?_
          refine zx_iret rfl dX10_item_65 ?_
          have hv : vItem μ (nI k1) sort i = (if μ 54 k1 = -1 then -11 else if μ 54 k1 = sort then (if pHas (μ 55 k1) i = true then μ (57 + k1) (i).toNatClampNeg else -12) else -13) := by unfold vItem; rw [if_pos ⟨h4, h13⟩, n_k.2.2]
          refine ⟨congrArg (fun x => some (zi x)) ?_, rfl⟩
          rw [hv]
          have ha : ¬ μ 54 k1 = -1 := fun a => by rw [if_pos a] at h31; exact absurd h31 (by decide)
          rw [if_neg ha] at h31 ⊢
          have hb : μ 54 k1 = sort := Decidable.byContradiction (fun b => by rw [if_neg b] at h31; exact absurd h31 (by decide))
          rw [if_pos hb, if_neg (by rw [h46]; decide)]
        · obtain ⟨ln, hl40, hln⟩ := hs k1 n_k.1
          obtain ⟨i1, n_i, rfl⟩ := has_item hln hl40 h46
          show zX shC σ 2 MX10_item 49 [(4, zi (if μ 54 k1 = -1 then -11 else if μ 54 k1 = sort then 0 else -13)), (0, zr 0), (1, zi (nI k1)), (2, zi sort), (3, zi (nI i1))] [] μ _
          refine zx_aload_n (k := 1) (nn := 50) dX10_item_49 rfl rfl rfl ?_
          refine zx_getR (q := 53) (nn := 53) flX10_68 rfl rfl dX10_item_50 rfl ?_
          refine zx_getR (q := 56) (nn := 56) flX10_286 rfl rfl dX10_item_53 rfl ?_
          refine zx_iload_n (k := 2) (nn := 57) dX10_item_56 rfl rfl rfl ?_
          refine zx_aald (q := 57 + k1) (nn := 58) rfl (vp_in_nI n_k.1 (by decide)) (item_ix n_k.1) dX10_item_57 rfl ?_
          refine zx_iload_n (k := 4) (nn := 59) dX10_item_58 rfl rfl rfl ?_
          refine zx_iald_n (j := i1) (nn := 60) (item_sh n_k.1) n_i.2.1 (by decide) dX10_item_59 rfl ?_
          refine zx_goto (tgt := 65) dX10_item_60 (by decide) ?_
          refine zx_iret rfl dX10_item_65 ?_
          have hv : vItem μ (nI k1) sort (nI i1) = (if μ 54 k1 = -1 then -11 else if μ 54 k1 = sort then (if pHas (μ 55 k1) (nI i1) = true then μ (57 + k1) ((nI i1)).toNatClampNeg else -12) else -13) := by unfold vItem; rw [if_pos ⟨h4, h13⟩, n_k.2.2]
          refine ⟨congrArg (fun x => some (zi x)) ?_, rfl⟩
          rw [hv]
          have ha : ¬ μ 54 k1 = -1 := fun a => by rw [if_pos a] at h31; exact absurd h31 (by decide)
          rw [if_neg ha] at h31 ⊢
          have hb : μ 54 k1 = sort := Decidable.byContradiction (fun b => by rw [if_neg b] at h31; exact absurd h31 (by decide))
          rw [if_pos hb, if_pos h46, n_i.2.2]
      · refine zx_iload (k := 0) (nn := 36) dX10_item_34 rfl rfl ?_
        refine zx_iret rfl dX10_item_36 ?_
        have hv : vItem μ (nI k1) sort i = (if μ 54 k1 = -1 then -11 else if μ 54 k1 = sort then (if pHas (μ 55 k1) i = true then μ (57 + k1) (i).toNatClampNeg else -12) else -13) := by unfold vItem; rw [if_pos ⟨h4, h13⟩, n_k.2.2]
        refine ⟨congrArg (fun x => some (zi x)) ?_, rfl⟩
        rw [hv]
        by_cases a : μ 54 k1 = -1
        · simp [a]
        · by_cases b : μ 54 k1 = sort
          · rw [if_neg a, if_pos b] at h31; exact absurd rfl h31
          · simp [a, b]
    · refine zx_iconst (v := -1) (nn := 17) rfl dX10_item_16 rfl ?_
      refine zx_iret rfl dX10_item_17 ?_
      refine ⟨congrArg (fun x => some (zi x)) ?_, rfl⟩
      unfold vItem
      rw [if_neg (fun q => absurd q.2 (by rw [h13]; decide))]
set_option maxHeartbeats 4000000 in
set_option maxRecDepth 100000 in
theorem eX10_goByItems_0 (σ : zG) (μ : zM) (k : Nat) (i : Int32) (n : Nat) (ln : Nat) (ok : pOK (cS 18 μ)) (rok : cROK 1 μ) (hk : k < 4) (hln : μ 55 k = nI ln) (hl40 : ln ≤ 40) (hn : n ≤ 20) : zMet shC σ 5 MX10_goByItems yX10_goByItems [zr 0, zi (nI k), zi i, zi (nI n)] μ (fun rr μ' => rr = some (zi ((pItems (cR 1 μ) (μ 55 k) (μ (57 + k)) i false n 0 0 (cS 18 μ)).1)) ∧ cS 18 μ' = (pItems (cR 1 μ) (μ 55 k) (μ (57 + k)) i false n 0 0 (cS 18 μ)).2 ∧ zJ [18, 20, 6, 24] μ μ') := by
  refine zmetF (by decide +kernel) rfl (Nat.le_of_ble_eq_true rfl) ?_
  show zX shC σ 5 MX10_goByItems 0 [(0, zr 0), (1, zi (nI k)), (2, zi i), (3, zi (nI n))] [] μ _
  refine zx_iconst (v := 0) (nn := 1) rfl dX10_goByItems_0 rfl ?_
  refine zx_istore (nn := 3) (lv' := [(4, zi 0), (0, zr 0), (1, zi (nI k)), (2, zi i), (3, zi (nI n))]) dX10_goByItems_1 (by decide) rfl rfl ?_
  refine zx_iconst (v := 0) (nn := 4) rfl dX10_goByItems_3 rfl ?_
  refine zx_istore (nn := 6) (lv' := [(5, zi 0), (4, zi 0), (0, zr 0), (1, zi (nI k)), (2, zi i), (3, zi (nI n))]) dX10_goByItems_4 (by decide) rfl rfl ?_
  refine zx_lv (lv' := [(0, zr 0), (1, zi (nI k)), (2, zi i), (3, zi (nI n)), (4, zi 0), (5, zi 0)]) [2, 3, 4, 5, 1, 0] rfl ?_
  refine zx_while (τ := Nat × Int32 × zM) (fun t_ => n - t_.1) (fun t_ => t_.1 ≤ n ∧ pOK (cS 18 t_.2.2) ∧ zJ [18, 20, 6, 24] μ t_.2.2 ∧ pItems (cR 1 μ) (μ 55 k) (μ (57 + k)) i false n 0 0 (cS 18 μ) = pItems (cR 1 μ) (μ 55 k) (μ (57 + k)) i false (n - t_.1) t_.1 t_.2.1 (cS 18 t_.2.2)) (fun t_ => [(0, zr 0), (1, zi (nI k)), (2, zi i), (3, zi (nI n)), (4, zi t_.2.1), (5, zi (nI t_.1))]) (fun t_ => t_.2.2) (t0 := (0, 0, μ)) (show 0 ≤ n ∧ pOK (cS 18 μ) ∧ zJ [18, 20, 6, 24] μ μ ∧ pItems (cR 1 μ) (μ 55 k) (μ (57 + k)) i false n 0 0 (cS 18 μ) = pItems (cR 1 μ) (μ 55 k) (μ (57 + k)) i false (n - 0) 0 0 (cS 18 μ) from ⟨Nat.zero_le _, ok, zJ.rf, rfl⟩) ?_
  rintro ⟨c, sum, μ1⟩ hI ih6
  replace hI : c ≤ n ∧ pOK (cS 18 μ1) ∧ zJ [18, 20, 6, 24] μ μ1 ∧ pItems (cR 1 μ) (μ 55 k) (μ (57 + k)) i false n 0 0 (cS 18 μ) = pItems (cR 1 μ) (μ 55 k) (μ (57 + k)) i false (n - c) c sum (cS 18 μ1) := hI
  show zX shC σ 5 MX10_goByItems 6 [(0, zr 0), (1, zi (nI k)), (2, zi i), (3, zi (nI n)), (4, zi sum), (5, zi (nI c))] [] μ1 _
  obtain ⟨hc, okm, hJ, hI4⟩ := hI
  have hR1 : cR 1 μ1 = cR 1 μ := cR_μ (fun q h1 h2 => hJ q (by simp; omega))
  have rokm : cROK 1 μ1 := cROK_μ (hJ 1 (by decide)).symm (hJ 4 (by decide)).symm rok
  have e55 : μ1 55 = μ 55 := hJ 55 (by decide)
  have e57 : μ1 (57 + k) = μ (57 + k) := hJ _ (by simp; omega)
  refine zx_iload (k := 5) (nn := 8) dX10_goByItems_6 rfl rfl ?_
  refine zx_iload_n (k := 3) (nn := 9) dX10_goByItems_8 rfl rfl rfl ?_
  refine zx_icmp_ge (tgt := 90) (nn := 12) dX10_goByItems_9 (by decide) rfl (fun h9 => ?_) (fun h9 => ?_)
  · refine zx_iload (k := 4) (nn := 92) dX10_goByItems_90 rfl rfl ?_
    refine zx_iret rfl dX10_goByItems_92 ?_
    have hge := nI_le_le h9 (by omega)
    rw [show n - c = 0 by omega] at hI4
    exact ⟨congrArg (fun x => some (zi x)) (by rw [hI4]; rfl), by rw [hI4]; rfl, hJ⟩
  · refine zx_aload_n (k := 0) (nn := 13) dX10_goByItems_12 rfl rfl rfl ?_
    refine zx_getR (q := 53) (nn := 16) flX10_68 rfl rfl dX10_goByItems_13 rfl ?_
    refine zx_iload_n (k := 1) (nn := 17) dX10_goByItems_16 rfl rfl rfl ?_
    refine zx_iload_n (k := 2) (nn := 18) dX10_goByItems_17 rfl rfl rfl ?_
    refine zx_iload (k := 5) (nn := 20) dX10_goByItems_18 rfl rfl ?_
    refine zx_iadd (nn := 21) dX10_goByItems_20 rfl ?_
    refine zx_callVf (nn := 24) (k := 53) (d' := 0) (as := [zi (nI k), zi (i + (nI c))]) (rest := []) (n := 2) (eX6_hasItem_53 σ μ1 k (i + (nI c))  hk) kX6_hasItem mlX10_277 rfl rfl rfl (by decide) rfl rfl (Nat.le_of_ble_eq_true rfl) dX10_goByItems_21 rfl ?_
    show zX shC σ 5 MX10_goByItems 24 [(0, zr 0), (1, zi (nI k)), (2, zi i), (3, zi (nI n)), (4, zi sum), (5, zi (nI c))] [zi (zb (pHas (μ1 55 k) (i + (nI c))))] μ1 _
    rw [e55]
    show zX shC σ 5 MX10_goByItems 24 [(0, zr 0), (1, zi (nI k)), (2, zi i), (3, zi (nI n)), (4, zi sum), (5, zi (nI c))] [zi (zb (pHas (μ 55 k) (i + nI c)))] μ1 _
    refine zx_ifb_ne (tgt := 30) (nn := 27) dX10_goByItems_24 (by decide) rfl (fun h24 => ?_) (fun h24 => ?_)
    · have hhas := h24
      have hlt : c < n := nI_nle_lt h9 (by omega)
      refine zx_aload_n (k := 0) (nn := 31) dX10_goByItems_30 rfl rfl rfl ?_
      refine zx_getR (q := 53) (nn := 34) flX10_68 rfl rfl dX10_goByItems_31 rfl ?_
      refine zx_getR (q := 56) (nn := 37) flX10_286 rfl rfl dX10_goByItems_34 rfl ?_
      refine zx_iload_n (k := 1) (nn := 38) dX10_goByItems_37 rfl rfl rfl ?_
      refine zx_aald (q := 57 + k) (nn := 39) rfl (vp_in_nI hk (by decide)) (item_ix hk) dX10_goByItems_38 rfl ?_
      refine zx_iload_n (k := 2) (nn := 40) dX10_goByItems_39 rfl rfl rfl ?_
      refine zx_iload (k := 5) (nn := 42) dX10_goByItems_40 rfl rfl ?_
      refine zx_iadd (nn := 43) dX10_goByItems_42 rfl ?_
      refine zx_iald (nn := 44) (item_sh hk) (has_vp hln hl40 hhas) dX10_goByItems_43 rfl ?_
      rw [e57]
      show zX shC σ 5 MX10_goByItems 44 [(0, zr 0), (1, zi (nI k)), (2, zi i), (3, zi (nI n)), (4, zi sum), (5, zi (nI c))] [zi (μ (57 + k) (i + nI c).toNatClampNeg)] μ1 _
      refine zx_istore (nn := 46) (lv' := [(6, zi (μ (57 + k) (i + nI c).toNatClampNeg)), (0, zr 0), (1, zi (nI k)), (2, zi i), (3, zi (nI n)), (4, zi sum), (5, zi (nI c))]) dX10_goByItems_44 (by decide) rfl rfl ?_
      refine zx_aload_n (k := 1) (nn := 47) dX10_goByItems_46 rfl rfl rfl ?_
      refine zx_getR (q := 18) (nn := 50) flX10_28 rfl rfl dX10_goByItems_47 rfl ?_
      refine zx_iload (k := 0) (nn := 52) dX10_goByItems_50 rfl rfl ?_
      refine zx_callVf (nn := 55) (k := 18) (d' := 1) (as := [zi (μ (57 + k) (i + nI c).toNatClampNeg)]) (rest := []) (n := 1) (eX8_isAct_18 σ μ1 (μ (57 + k) (i + nI c).toNatClampNeg)  ) kX8_isAct mlX10_349 rfl rfl rfl (by decide) rfl rfl (Nat.le_of_ble_eq_true rfl) dX10_goByItems_52 rfl ?_
      show zX shC σ 5 MX10_goByItems 55 [(6, zi (μ (57 + k) (i + nI c).toNatClampNeg)), (0, zr 0), (1, zi (nI k)), (2, zi i), (3, zi (nI n)), (4, zi sum), (5, zi (nI c))] [zi (zb (decide ((μ (57 + k) (i + nI c).toNatClampNeg) = 0) || pHas (cS 18 μ1 0) ((μ (57 + k) (i + nI c).toNatClampNeg) - 1)))] μ1 _
      refine zx_ifb_eq (tgt := 84) (nn := 58) dX10_goByItems_55 (by decide) rfl (fun h55 => ?_) (fun h55 => ?_)
      · refine zx_iinc (k := 6) (v := nI (c + 1)) (lv' := [(5, zi (nI (c + 1))), (6, zi (μ (57 + k) (i + nI c).toNatClampNeg)), (0, zr 0), (1, zi (nI k)), (2, zi i), (3, zi (nI n)), (4, zi sum)]) (nn := 87) dX10_goByItems_84 rfl (nI_1 c) (by decide) rfl rfl ?_
        refine zx_goto (tgt := 6) dX10_goByItems_87 (by decide) ?_
        refine zx_lv (lv' := [(0, zr 0), (1, zi (nI k)), (2, zi i), (3, zi (nI n)), (4, zi sum), (5, zi (nI (c + 1)))]) [2, 3, 4, 5, 6, 0] rfl ?_
        exact ih6 (c + 1, sum, μ1) (show (c + 1) ≤ n ∧ pOK (cS 18 μ1) ∧ zJ [18, 20, 6, 24] μ μ1 ∧ pItems (cR 1 μ) (μ 55 k) (μ (57 + k)) i false n 0 0 (cS 18 μ) = pItems (cR 1 μ) (μ 55 k) (μ (57 + k)) i false (n - (c + 1)) (c + 1) sum (cS 18 μ1) from ⟨by omega, okm, hJ, by rw [hI4, show n - c = (n - (c + 1)) + 1 by omega]; refine (show (if _ then (if _ then _ else _) else _) = _ from ?_); rw [if_pos hhas, if_neg (by rw [h55]; simp)]; rfl⟩) (by show n - (c + 1) < n - c; omega)
      · refine zx_aload_n (k := 1) (nn := 59) dX10_goByItems_58 rfl rfl rfl ?_
        refine zx_getR (q := 18) (nn := 62) flX10_28 rfl rfl dX10_goByItems_59 rfl ?_
        refine zx_callVf (nn := 65) (k := 18) (d' := 0) (as := []) (rest := []) (n := 0) (eX8_isOver_18 σ μ1   ) kX8_isOver mlX10_124 rfl rfl rfl (by decide) rfl rfl (Nat.le_of_ble_eq_true rfl) dX10_goByItems_62 rfl ?_
        show zX shC σ 5 MX10_goByItems 65 [(6, zi (μ (57 + k) (i + nI c).toNatClampNeg)), (0, zr 0), (1, zi (nI k)), (2, zi i), (3, zi (nI n)), (4, zi sum), (5, zi (nI c))] [zi (zb (pOver (cS 18 μ1)))] μ1 _
        refine zx_ifb_ne (tgt := 84) (nn := 68) dX10_goByItems_65 (by decide) rfl (fun h65 => ?_) (fun h65 => ?_)
        · refine zx_iinc (k := 6) (v := nI (c + 1)) (lv' := [(5, zi (nI (c + 1))), (6, zi (μ (57 + k) (i + nI c).toNatClampNeg)), (0, zr 0), (1, zi (nI k)), (2, zi i), (3, zi (nI n)), (4, zi sum)]) (nn := 87) dX10_goByItems_84 rfl (nI_1 c) (by decide) rfl rfl ?_
          refine zx_goto (tgt := 6) dX10_goByItems_87 (by decide) ?_
          refine zx_lv (lv' := [(0, zr 0), (1, zi (nI k)), (2, zi i), (3, zi (nI n)), (4, zi sum), (5, zi (nI (c + 1)))]) [2, 3, 4, 5, 6, 0] rfl ?_
          exact ih6 (c + 1, sum, μ1) (show (c + 1) ≤ n ∧ pOK (cS 18 μ1) ∧ zJ [18, 20, 6, 24] μ μ1 ∧ pItems (cR 1 μ) (μ 55 k) (μ (57 + k)) i false n 0 0 (cS 18 μ) = pItems (cR 1 μ) (μ 55 k) (μ (57 + k)) i false (n - (c + 1)) (c + 1) sum (cS 18 μ1) from ⟨by omega, okm, hJ, by rw [hI4, show n - c = (n - (c + 1)) + 1 by omega]; refine (show (if _ then (if _ then _ else _) else _) = _ from ?_); rw [if_pos hhas, if_neg (by rw [h65]; simp)]; rfl⟩) (by show n - (c + 1) < n - c; omega)
        · have hac : ((decide ((μ (57 + k) (i + nI c).toNatClampNeg) = 0) || pHas (cS 18 μ1 0) ((μ (57 + k) (i + nI c).toNatClampNeg) - 1)) && !pOver (cS 18 μ1)) = true := by rw [h55, h65]; rfl
          have hbm : pb (cS 18 μ1) < pB (cS 18 μ1) := pOver_b okm h65
          refine zx_iload (k := 5) (nn := 70) dX10_goByItems_68 rfl rfl ?_
          refine zx_aload_n (k := 1) (nn := 71) dX10_goByItems_70 rfl rfl rfl ?_
          refine zx_getR (q := 18) (nn := 74) flX10_28 rfl rfl dX10_goByItems_71 rfl ?_
          refine zx_iload (k := 0) (nn := 76) dX10_goByItems_74 rfl rfl ?_
          refine zx_iconst (v := 1) (nn := 77) rfl dX10_goByItems_76 rfl ?_
          refine zx_isub (nn := 78) dX10_goByItems_77 rfl ?_
          refine zx_callV (nn := 81) (k := 18) (d' := 4) (as := [zi ((μ (57 + k) (i + nI c).toNatClampNeg) - 1)]) (rest := [zi sum]) (n := 1) (eX8_goBy_18 σ μ1 ((μ (57 + k) (i + nI c).toNatClampNeg) - 1) okm rokm hbm) kX8_goBy mlX10_173 rfl rfl rfl (by decide) rfl rfl (Nat.le_of_ble_eq_true rfl) dX10_goByItems_78 rfl ?_
          rintro _ ν1 ⟨rfl, g1, g2⟩
          show zX shC σ 5 MX10_goByItems 81 [(6, zi (μ (57 + k) (i + nI c).toNatClampNeg)), (0, zr 0), (1, zi (nI k)), (2, zi i), (3, zi (nI n)), (4, zi sum), (5, zi (nI c))] [zi (pGain (cR 1 μ1) (cS 18 μ1) ((μ (57 + k) (i + nI c).toNatClampNeg) - 1)), zi sum] ν1 _
          have hg : cS 18 ν1 = pGo (cR 1 μ) (cS 18 μ1) ((μ (57 + k) (i + nI c).toNatClampNeg) - 1) := by rw [g1, hR1]
          have hokg : pOK (cS 18 ν1) := by rw [hg]; exact pOK_go okm hbm
          have hjg : zJ [18, 20, 6, 24] μ ν1 := hJ.tr (g2.mono (by decide))
          rw [hR1]
          show zX shC σ 5 MX10_goByItems 81 [(6, zi (μ (57 + k) (i + nI c).toNatClampNeg)), (0, zr 0), (1, zi (nI k)), (2, zi i), (3, zi (nI n)), (4, zi sum), (5, zi (nI c))] [zi (pGain (cR 1 μ) (cS 18 μ1) ((μ (57 + k) (i + nI c).toNatClampNeg) - 1)), zi sum] ν1 _
          refine zx_iadd (nn := 82) dX10_goByItems_81 rfl ?_
          refine zx_istore (nn := 84) (lv' := [(4, zi (sum + (pGain (cR 1 μ) (cS 18 μ1) ((μ (57 + k) (i + nI c).toNatClampNeg) - 1)))), (6, zi (μ (57 + k) (i + nI c).toNatClampNeg)), (0, zr 0), (1, zi (nI k)), (2, zi i), (3, zi (nI n)), (5, zi (nI c))]) dX10_goByItems_82 (by decide) rfl rfl ?_
          refine zx_iinc (k := 6) (v := nI (c + 1)) (lv' := [(5, zi (nI (c + 1))), (4, zi (sum + (pGain (cR 1 μ) (cS 18 μ1) ((μ (57 + k) (i + nI c).toNatClampNeg) - 1)))), (6, zi (μ (57 + k) (i + nI c).toNatClampNeg)), (0, zr 0), (1, zi (nI k)), (2, zi i), (3, zi (nI n))]) (nn := 87) dX10_goByItems_84 rfl (nI_1 c) (by decide) rfl rfl ?_
          refine zx_goto (tgt := 6) dX10_goByItems_87 (by decide) ?_
          refine zx_lv (lv' := [(0, zr 0), (1, zi (nI k)), (2, zi i), (3, zi (nI n)), (4, zi (sum + (pGain (cR 1 μ) (cS 18 μ1) ((μ (57 + k) (i + nI c).toNatClampNeg) - 1)))), (5, zi (nI (c + 1)))]) [3, 4, 5, 6, 1, 0] rfl ?_
          exact ih6 (c + 1, sum + pGain (cR 1 μ) (cS 18 μ1) ((μ (57 + k) (i + nI c).toNatClampNeg) - 1), ν1) (show (c + 1) ≤ n ∧ pOK (cS 18 ν1) ∧ zJ [18, 20, 6, 24] μ ν1 ∧ pItems (cR 1 μ) (μ 55 k) (μ (57 + k)) i false n 0 0 (cS 18 μ) = pItems (cR 1 μ) (μ 55 k) (μ (57 + k)) i false (n - (c + 1)) (c + 1) (sum + pGain (cR 1 μ) (cS 18 μ1) ((μ (57 + k) (i + nI c).toNatClampNeg) - 1)) (cS 18 ν1) from ⟨by omega, hokg, hjg, by rw [hI4, show n - c = (n - (c + 1)) + 1 by omega]; refine (show (if _ then (if _ then _ else _) else _) = _ from ?_); rw [if_pos hhas, if_pos hac, ← hg]⟩) (by show n - (c + 1) < n - c; omega)
    · refine zx_bipush (v := -12) (nn := 29) rfl dX10_goByItems_27 rfl ?_
      refine zx_iret rfl dX10_goByItems_29 ?_
      have hlt : c < n := nI_nle_lt h9 (by omega)
      rw [show n - c = (n - (c + 1)) + 1 by omega] at hI4
      replace hI4 : _ = (if _ then _ else _) := hI4
      rw [if_neg (by rw [h24]; decide)] at hI4
      exact ⟨congrArg (fun x => some (zi x)) (by rw [hI4]), by rw [hI4], hJ⟩
set_option maxHeartbeats 4000000 in
set_option maxRecDepth 100000 in
theorem eX10_worthOfItems_0 (σ : zG) (μ : zM) (k : Nat) (i : Int32) (n : Nat) (ln : Nat) (ok : pOK (cS 18 μ)) (rok : cROK 1 μ) (hk : k < 4) (hln : μ 55 k = nI ln) (hl40 : ln ≤ 40) (hn : n ≤ 20) : zMet shC σ 5 MX10_worthOfItems yX10_worthOfItems [zr 0, zi (nI k), zi i, zi (nI n)] μ (fun rr μ' => rr = some (zi ((pItems (cR 1 μ) (μ 55 k) (μ (57 + k)) i true n 0 0 (cS 18 μ)).1)) ∧ zJ [6, 25, 26, 27, 28, 29, 30, 31] μ μ') := by
  refine zmetF (by decide +kernel) rfl (Nat.le_of_ble_eq_true rfl) ?_
  show zX shC σ 5 MX10_worthOfItems 0 [(0, zr 0), (1, zi (nI k)), (2, zi i), (3, zi (nI n))] [] μ _
  refine zx_iconst (v := 0) (nn := 1) rfl dX10_worthOfItems_0 rfl ?_
  refine zx_istore (nn := 3) (lv' := [(4, zi 0), (0, zr 0), (1, zi (nI k)), (2, zi i), (3, zi (nI n))]) dX10_worthOfItems_1 (by decide) rfl rfl ?_
  refine zx_aload_n (k := 1) (nn := 4) dX10_worthOfItems_3 rfl rfl rfl ?_
  refine zx_getR (q := 25) (nn := 7) flX10_32 rfl rfl dX10_worthOfItems_4 rfl ?_
  refine zx_aload_n (k := 1) (nn := 8) dX10_worthOfItems_7 rfl rfl rfl ?_
  refine zx_getR (q := 18) (nn := 11) flX10_28 rfl rfl dX10_worthOfItems_8 rfl ?_
  refine zx_callV (nn := 14) (k := 25) (d' := 1) (as := [zr 18]) (rest := []) (n := 1) (eX8_copyFrom_25_18 σ μ) kX8_copyFrom mlX10_340 rfl rfl rfl (by decide) rfl rfl (Nat.le_of_ble_eq_true rfl) dX10_worthOfItems_11 rfl ?_
  rintro _ ν1 ⟨rfl, c1, c2⟩
  show zX shC σ 5 MX10_worthOfItems 14 [(4, zi 0), (0, zr 0), (1, zi (nI k)), (2, zi i), (3, zi (nI n))] [] ν1 _
  refine zx_iconst (v := 0) (nn := 15) rfl dX10_worthOfItems_14 rfl ?_
  refine zx_istore (nn := 17) (lv' := [(5, zi 0), (4, zi 0), (0, zr 0), (1, zi (nI k)), (2, zi i), (3, zi (nI n))]) dX10_worthOfItems_15 (by decide) rfl rfl ?_
  refine zx_lv (lv' := [(0, zr 0), (1, zi (nI k)), (2, zi i), (3, zi (nI n)), (4, zi 0), (5, zi 0)]) [2, 3, 4, 5, 1, 0] rfl ?_
  refine zx_while (τ := Nat × Int32 × zM) (fun t_ => n - t_.1) (fun t_ => t_.1 ≤ n ∧ pOK (cS 25 t_.2.2) ∧ zJ [6, 25, 26, 27, 28, 29, 30, 31] μ t_.2.2 ∧ pItems (cR 1 μ) (μ 55 k) (μ (57 + k)) i true n 0 0 (cS 18 μ) = pItems (cR 1 μ) (μ 55 k) (μ (57 + k)) i true (n - t_.1) t_.1 t_.2.1 (cS 25 t_.2.2)) (fun t_ => [(0, zr 0), (1, zi (nI k)), (2, zi i), (3, zi (nI n)), (4, zi t_.2.1), (5, zi (nI t_.1))]) (fun t_ => t_.2.2) (t0 := (0, 0, ν1)) (show 0 ≤ n ∧ pOK (cS 25 ν1) ∧ zJ [6, 25, 26, 27, 28, 29, 30, 31] μ ν1 ∧ pItems (cR 1 μ) (μ 55 k) (μ (57 + k)) i true n 0 0 (cS 18 μ) = pItems (cR 1 μ) (μ 55 k) (μ (57 + k)) i true (n - 0) 0 0 (cS 25 ν1) from ⟨Nat.zero_le _, (by rw [c1]; exact ok), c2.mono (by decide), by rw [c1]; rfl⟩) ?_
  rintro ⟨c, sum, μ1⟩ hI ih17
  replace hI : c ≤ n ∧ pOK (cS 25 μ1) ∧ zJ [6, 25, 26, 27, 28, 29, 30, 31] μ μ1 ∧ pItems (cR 1 μ) (μ 55 k) (μ (57 + k)) i true n 0 0 (cS 18 μ) = pItems (cR 1 μ) (μ 55 k) (μ (57 + k)) i true (n - c) c sum (cS 25 μ1) := hI
  show zX shC σ 5 MX10_worthOfItems 17 [(0, zr 0), (1, zi (nI k)), (2, zi i), (3, zi (nI n)), (4, zi sum), (5, zi (nI c))] [] μ1 _
  obtain ⟨hc, okm, hJ, hI4⟩ := hI
  have hR1 : cR 1 μ1 = cR 1 μ := cR_μ (fun q h1 h2 => hJ q (by simp; omega))
  have rokm : cROK 1 μ1 := cROK_μ (hJ 1 (by decide)).symm (hJ 4 (by decide)).symm rok
  have e55 : μ1 55 = μ 55 := hJ 55 (by decide)
  have e57 : μ1 (57 + k) = μ (57 + k) := hJ _ (by simp; omega)
  refine zx_iload (k := 5) (nn := 19) dX10_worthOfItems_17 rfl rfl ?_
  refine zx_iload_n (k := 3) (nn := 20) dX10_worthOfItems_19 rfl rfl rfl ?_
  refine zx_icmp_ge (tgt := 104) (nn := 23) dX10_worthOfItems_20 (by decide) rfl (fun h20 => ?_) (fun h20 => ?_)
  · refine zx_iload (k := 4) (nn := 106) dX10_worthOfItems_104 rfl rfl ?_
    refine zx_iret rfl dX10_worthOfItems_106 ?_
    have hge := nI_le_le h20 (by omega)
    rw [show n - c = 0 by omega] at hI4
    exact ⟨congrArg (fun x => some (zi x)) (by rw [hI4]; rfl), hJ⟩
  · refine zx_aload_n (k := 0) (nn := 24) dX10_worthOfItems_23 rfl rfl rfl ?_
    refine zx_getR (q := 53) (nn := 27) flX10_68 rfl rfl dX10_worthOfItems_24 rfl ?_
    refine zx_iload_n (k := 1) (nn := 28) dX10_worthOfItems_27 rfl rfl rfl ?_
    refine zx_iload_n (k := 2) (nn := 29) dX10_worthOfItems_28 rfl rfl rfl ?_
    refine zx_iload (k := 5) (nn := 31) dX10_worthOfItems_29 rfl rfl ?_
    refine zx_iadd (nn := 32) dX10_worthOfItems_31 rfl ?_
    refine zx_callVf (nn := 35) (k := 53) (d' := 0) (as := [zi (nI k), zi (i + (nI c))]) (rest := []) (n := 2) (eX6_hasItem_53 σ μ1 k (i + (nI c))  hk) kX6_hasItem mlX10_277 rfl rfl rfl (by decide) rfl rfl (Nat.le_of_ble_eq_true rfl) dX10_worthOfItems_32 rfl ?_
    show zX shC σ 5 MX10_worthOfItems 35 [(0, zr 0), (1, zi (nI k)), (2, zi i), (3, zi (nI n)), (4, zi sum), (5, zi (nI c))] [zi (zb (pHas (μ1 55 k) (i + (nI c))))] μ1 _
    rw [e55]
    show zX shC σ 5 MX10_worthOfItems 35 [(0, zr 0), (1, zi (nI k)), (2, zi i), (3, zi (nI n)), (4, zi sum), (5, zi (nI c))] [zi (zb (pHas (μ 55 k) (i + nI c)))] μ1 _
    refine zx_ifb_ne (tgt := 41) (nn := 38) dX10_worthOfItems_35 (by decide) rfl (fun h35 => ?_) (fun h35 => ?_)
    · have hhas := h35
      have hlt : c < n := nI_nle_lt h20 (by omega)
      refine zx_aload_n (k := 0) (nn := 42) dX10_worthOfItems_41 rfl rfl rfl ?_
      refine zx_getR (q := 53) (nn := 45) flX10_68 rfl rfl dX10_worthOfItems_42 rfl ?_
      refine zx_getR (q := 56) (nn := 48) flX10_286 rfl rfl dX10_worthOfItems_45 rfl ?_
      refine zx_iload_n (k := 1) (nn := 49) dX10_worthOfItems_48 rfl rfl rfl ?_
      refine zx_aald (q := 57 + k) (nn := 50) rfl (vp_in_nI hk (by decide)) (item_ix hk) dX10_worthOfItems_49 rfl ?_
      refine zx_iload_n (k := 2) (nn := 51) dX10_worthOfItems_50 rfl rfl rfl ?_
      refine zx_iload (k := 5) (nn := 53) dX10_worthOfItems_51 rfl rfl ?_
      refine zx_iadd (nn := 54) dX10_worthOfItems_53 rfl ?_
      refine zx_iald (nn := 55) (item_sh hk) (has_vp hln hl40 hhas) dX10_worthOfItems_54 rfl ?_
      rw [e57]
      show zX shC σ 5 MX10_worthOfItems 55 [(0, zr 0), (1, zi (nI k)), (2, zi i), (3, zi (nI n)), (4, zi sum), (5, zi (nI c))] [zi (μ (57 + k) (i + nI c).toNatClampNeg)] μ1 _
      refine zx_istore (nn := 57) (lv' := [(6, zi (μ (57 + k) (i + nI c).toNatClampNeg)), (0, zr 0), (1, zi (nI k)), (2, zi i), (3, zi (nI n)), (4, zi sum), (5, zi (nI c))]) dX10_worthOfItems_55 (by decide) rfl rfl ?_
      refine zx_aload_n (k := 1) (nn := 58) dX10_worthOfItems_57 rfl rfl rfl ?_
      refine zx_getR (q := 25) (nn := 61) flX10_32 rfl rfl dX10_worthOfItems_58 rfl ?_
      refine zx_iload (k := 0) (nn := 63) dX10_worthOfItems_61 rfl rfl ?_
      refine zx_callVf (nn := 66) (k := 25) (d' := 1) (as := [zi (μ (57 + k) (i + nI c).toNatClampNeg)]) (rest := []) (n := 1) (eX8_isAct_25 σ μ1 (μ (57 + k) (i + nI c).toNatClampNeg)  ) kX8_isAct mlX10_349 rfl rfl rfl (by decide) rfl rfl (Nat.le_of_ble_eq_true rfl) dX10_worthOfItems_63 rfl ?_
      show zX shC σ 5 MX10_worthOfItems 66 [(6, zi (μ (57 + k) (i + nI c).toNatClampNeg)), (0, zr 0), (1, zi (nI k)), (2, zi i), (3, zi (nI n)), (4, zi sum), (5, zi (nI c))] [zi (zb (decide ((μ (57 + k) (i + nI c).toNatClampNeg) = 0) || pHas (cS 25 μ1 0) ((μ (57 + k) (i + nI c).toNatClampNeg) - 1)))] μ1 _
      refine zx_ifb_eq (tgt := 79) (nn := 69) dX10_worthOfItems_66 (by decide) rfl (fun h66 => ?_) (fun h66 => ?_)
      · refine zx_bipush (v := -4) (nn := 81) rfl dX10_worthOfItems_79 rfl ?_
        refine zx_iret rfl dX10_worthOfItems_81 ?_
        have hlt : c < n := nI_nle_lt h20 (by omega)
        rw [show n - c = (n - (c + 1)) + 1 by omega] at hI4
        replace hI4 : _ = (if _ then (if _ then _ else _) else _) := hI4
        rw [if_pos hhas, if_neg (by rw [h66]; simp), if_pos rfl] at hI4
        exact ⟨congrArg (fun x => some (zi x)) (by rw [hI4]), hJ⟩
      · refine zx_aload_n (k := 1) (nn := 70) dX10_worthOfItems_69 rfl rfl rfl ?_
        refine zx_getR (q := 25) (nn := 73) flX10_32 rfl rfl dX10_worthOfItems_70 rfl ?_
        refine zx_callVf (nn := 76) (k := 25) (d' := 0) (as := []) (rest := []) (n := 0) (eX8_isOver_25 σ μ1   ) kX8_isOver mlX10_124 rfl rfl rfl (by decide) rfl rfl (Nat.le_of_ble_eq_true rfl) dX10_worthOfItems_73 rfl ?_
        show zX shC σ 5 MX10_worthOfItems 76 [(6, zi (μ (57 + k) (i + nI c).toNatClampNeg)), (0, zr 0), (1, zi (nI k)), (2, zi i), (3, zi (nI n)), (4, zi sum), (5, zi (nI c))] [zi (zb (pOver (cS 25 μ1)))] μ1 _
        refine zx_ifb_eq (tgt := 82) (nn := 79) dX10_worthOfItems_76 (by decide) rfl (fun h76 => ?_) (fun h76 => ?_)
        · have hac : ((decide ((μ (57 + k) (i + nI c).toNatClampNeg) = 0) || pHas (cS 25 μ1 0) ((μ (57 + k) (i + nI c).toNatClampNeg) - 1)) && !pOver (cS 25 μ1)) = true := by rw [h66, h76]; rfl
          have hbm : pb (cS 25 μ1) < pB (cS 25 μ1) := pOver_b okm h76
          refine zx_iload (k := 5) (nn := 84) dX10_worthOfItems_82 rfl rfl ?_
          refine zx_aload_n (k := 1) (nn := 85) dX10_worthOfItems_84 rfl rfl rfl ?_
          refine zx_getR (q := 25) (nn := 88) flX10_32 rfl rfl dX10_worthOfItems_85 rfl ?_
          refine zx_iload (k := 0) (nn := 90) dX10_worthOfItems_88 rfl rfl ?_
          refine zx_iconst (v := 1) (nn := 91) rfl dX10_worthOfItems_90 rfl ?_
          refine zx_isub (nn := 92) dX10_worthOfItems_91 rfl ?_
          refine zx_callV (nn := 95) (k := 25) (d' := 4) (as := [zi ((μ (57 + k) (i + nI c).toNatClampNeg) - 1)]) (rest := [zi sum]) (n := 1) (eX8_goBy_25 σ μ1 ((μ (57 + k) (i + nI c).toNatClampNeg) - 1) okm rokm hbm) kX8_goBy mlX10_173 rfl rfl rfl (by decide) rfl rfl (Nat.le_of_ble_eq_true rfl) dX10_worthOfItems_92 rfl ?_
          rintro _ ν2 ⟨rfl, g1, g2⟩
          show zX shC σ 5 MX10_worthOfItems 95 [(6, zi (μ (57 + k) (i + nI c).toNatClampNeg)), (0, zr 0), (1, zi (nI k)), (2, zi i), (3, zi (nI n)), (4, zi sum), (5, zi (nI c))] [zi (pGain (cR 1 μ1) (cS 25 μ1) ((μ (57 + k) (i + nI c).toNatClampNeg) - 1)), zi sum] ν2 _
          have hg : cS 25 ν2 = pGo (cR 1 μ) (cS 25 μ1) ((μ (57 + k) (i + nI c).toNatClampNeg) - 1) := by rw [g1, hR1]
          have hokg : pOK (cS 25 ν2) := by rw [hg]; exact pOK_go okm hbm
          have hjg : zJ [6, 25, 26, 27, 28, 29, 30, 31] μ ν2 := hJ.tr (g2.mono (by decide))
          rw [hR1]
          show zX shC σ 5 MX10_worthOfItems 95 [(6, zi (μ (57 + k) (i + nI c).toNatClampNeg)), (0, zr 0), (1, zi (nI k)), (2, zi i), (3, zi (nI n)), (4, zi sum), (5, zi (nI c))] [zi (pGain (cR 1 μ) (cS 25 μ1) ((μ (57 + k) (i + nI c).toNatClampNeg) - 1)), zi sum] ν2 _
          refine zx_iadd (nn := 96) dX10_worthOfItems_95 rfl ?_
          refine zx_istore (nn := 98) (lv' := [(4, zi (sum + (pGain (cR 1 μ) (cS 25 μ1) ((μ (57 + k) (i + nI c).toNatClampNeg) - 1)))), (6, zi (μ (57 + k) (i + nI c).toNatClampNeg)), (0, zr 0), (1, zi (nI k)), (2, zi i), (3, zi (nI n)), (5, zi (nI c))]) dX10_worthOfItems_96 (by decide) rfl rfl ?_
          refine zx_iinc (k := 6) (v := nI (c + 1)) (lv' := [(5, zi (nI (c + 1))), (4, zi (sum + (pGain (cR 1 μ) (cS 25 μ1) ((μ (57 + k) (i + nI c).toNatClampNeg) - 1)))), (6, zi (μ (57 + k) (i + nI c).toNatClampNeg)), (0, zr 0), (1, zi (nI k)), (2, zi i), (3, zi (nI n))]) (nn := 101) dX10_worthOfItems_98 rfl (nI_1 c) (by decide) rfl rfl ?_
          refine zx_goto (tgt := 17) dX10_worthOfItems_101 (by decide) ?_
          refine zx_lv (lv' := [(0, zr 0), (1, zi (nI k)), (2, zi i), (3, zi (nI n)), (4, zi (sum + (pGain (cR 1 μ) (cS 25 μ1) ((μ (57 + k) (i + nI c).toNatClampNeg) - 1)))), (5, zi (nI (c + 1)))]) [3, 4, 5, 6, 1, 0] rfl ?_
          exact ih17 (c + 1, sum + pGain (cR 1 μ) (cS 25 μ1) ((μ (57 + k) (i + nI c).toNatClampNeg) - 1), ν2) (show (c + 1) ≤ n ∧ pOK (cS 25 ν2) ∧ zJ [6, 25, 26, 27, 28, 29, 30, 31] μ ν2 ∧ pItems (cR 1 μ) (μ 55 k) (μ (57 + k)) i true n 0 0 (cS 18 μ) = pItems (cR 1 μ) (μ 55 k) (μ (57 + k)) i true (n - (c + 1)) (c + 1) (sum + pGain (cR 1 μ) (cS 25 μ1) ((μ (57 + k) (i + nI c).toNatClampNeg) - 1)) (cS 25 ν2) from ⟨by omega, hokg, hjg, by rw [hI4, show n - c = (n - (c + 1)) + 1 by omega]; refine (show (if _ then (if _ then _ else _) else _) = _ from ?_); rw [if_pos hhas, if_pos hac, ← hg]⟩) (by show n - (c + 1) < n - c; omega)
        · refine zx_bipush (v := -4) (nn := 81) rfl dX10_worthOfItems_79 rfl ?_
          refine zx_iret rfl dX10_worthOfItems_81 ?_
          have hlt : c < n := nI_nle_lt h20 (by omega)
          rw [show n - c = (n - (c + 1)) + 1 by omega] at hI4
          replace hI4 : _ = (if _ then (if _ then _ else _) else _) := hI4
          rw [if_pos hhas, if_neg (by rw [h76]; simp), if_pos rfl] at hI4
          exact ⟨congrArg (fun x => some (zi x)) (by rw [hI4]), hJ⟩
    · refine zx_bipush (v := -12) (nn := 40) rfl dX10_worthOfItems_38 rfl ?_
      refine zx_iret rfl dX10_worthOfItems_40 ?_
      have hlt : c < n := nI_nle_lt h20 (by omega)
      rw [show n - c = (n - (c + 1)) + 1 by omega] at hI4
      replace hI4 : _ = (if _ then _ else _) := hI4
      rw [if_neg (by rw [h35]; decide)] at hI4
      exact ⟨congrArg (fun x => some (zi x)) (by rw [hI4]), hJ⟩
set_option maxHeartbeats 4000000 in
set_option maxRecDepth 100000 in
theorem eX10_goAll_0 (σ : zG) (μ : zM) (k : Int32) (i : Int32) (n : Int32) (ok : pOK (cS 18 μ)) (rok : cROK 1 μ) (hs : ∀ k, k < 4 → ∃ n, n ≤ 40 ∧ μ 55 k = nI n) : zMet shC σ 6 MX10_goAll yX10_goAll [zr 0, zi k, zi i, zi n] μ (fun rr μ' => rr = some (zi (if vNoActs μ k n = 0 then (pItems (cR 1 μ) (μ 55 k.toNatClampNeg) (μ (57 + k.toNatClampNeg)) i false n.toNatClampNeg 0 0 (cS 18 μ)).1 else vNoActs μ k n)) ∧ cS 18 μ' = (if vNoActs μ k n = 0 then (pItems (cR 1 μ) (μ 55 k.toNatClampNeg) (μ (57 + k.toNatClampNeg)) i false n.toNatClampNeg 0 0 (cS 18 μ)).2 else (cS 18 μ)) ∧ zJ [18, 20, 6, 24] μ μ') := by
  refine zmetF (by decide +kernel) rfl (Nat.le_of_ble_eq_true rfl) ?_
  show zX shC σ 6 MX10_goAll 0 [(0, zr 0), (1, zi k), (2, zi i), (3, zi n)] [] μ _
  refine zx_iload_n (k := 1) (nn := 1) dX10_goAll_0 rfl rfl rfl ?_
  refine zx_callSf (nn := 4) (d' := 0) (as := [zi k]) (rest := []) (n := 1) (eX6_isSheet σ μ k  ) kX6_isSheet mlX10_268 (by decide) rfl rfl (Nat.le_of_ble_eq_true rfl) dX10_goAll_1 rfl ?_
  show zX shC σ 6 MX10_goAll 4 [(0, zr 0), (1, zi k), (2, zi i), (3, zi n)] [zi (zb (pHas 4 k))] μ _
  refine zx_ifb_eq (tgt := 17) (nn := 7) dX10_goAll_4 (by decide) rfl (fun h4 => ?_) (fun h4 => ?_)
  · refine zx_iconst (v := -1) (nn := 18) rfl dX10_goAll_17 rfl ?_
    refine zx_iret rfl dX10_goAll_18 ?_
    have hv : vNoActs μ k n = -1 := by unfold vNoActs; rw [if_neg (fun q => absurd q.1 (by rw [h4]; decide))]
    have hz : ¬ vNoActs μ k n = 0 := by rw [hv]; decide
    refine ⟨congrArg (fun x => some (zi x)) ?_, ?_, zJ.rf⟩
    · rw [if_neg hz, hv]
    · rw [if_neg hz]
  · refine zx_iload_n (k := 3) (nn := 8) dX10_goAll_7 rfl rfl rfl ?_
    refine zx_iconst (v := 0) (nn := 9) rfl dX10_goAll_8 rfl ?_
    refine zx_bipush (v := 20) (nn := 11) rfl dX10_goAll_9 rfl ?_
    refine zx_callSf (nn := 14) (d' := 0) (as := [zi n, zi 0, zi 20]) (rest := []) (n := 3) (eX10_isIn σ μ n 0 20  ) kX10_isIn mlX10_135 (by decide) rfl rfl (Nat.le_of_ble_eq_true rfl) dX10_goAll_11 rfl ?_
    show zX shC σ 6 MX10_goAll 14 [(0, zr 0), (1, zi k), (2, zi i), (3, zi n)] [zi (zb (pIn n 0 20))] μ _
    refine zx_ifb_ne (tgt := 19) (nn := 17) dX10_goAll_14 (by decide) rfl (fun h14 => ?_) (fun h14 => ?_)
    · obtain ⟨k1, n_k, rfl⟩ := has4 h4
      show zX shC σ 6 MX10_goAll 19 [(0, zr 0), (1, zi (nI k1)), (2, zi i), (3, zi n)] [] μ _
      obtain ⟨n1, n_n, rfl⟩ := pIn_n (b := 20) (by omega) (by decide) h14
      show zX shC σ 6 MX10_goAll 19 [(0, zr 0), (1, zi (nI k1)), (2, zi i), (3, zi (nI n1))] [] μ _
      obtain ⟨ln, hl40, hln⟩ := hs k1 n_k.1
      refine zx_aload_n (k := 0) (nn := 20) dX10_goAll_19 rfl rfl rfl ?_
      refine zx_getR (q := 53) (nn := 23) flX10_68 rfl rfl dX10_goAll_20 rfl ?_
      refine zx_iload_n (k := 1) (nn := 24) dX10_goAll_23 rfl rfl rfl ?_
      refine zx_iconst (v := 0) (nn := 25) rfl dX10_goAll_24 rfl ?_
      refine zx_callVf (nn := 28) (k := 53) (d' := 1) (as := [zi (nI k1), zi 0]) (rest := []) (n := 2) (eX6_refusalAs_53 σ μ k1 0  n_k.1) kX6_refusalAs mlX10_283 rfl rfl rfl (by decide) rfl rfl (Nat.le_of_ble_eq_true rfl) dX10_goAll_25 rfl ?_
      show zX shC σ 6 MX10_goAll 28 [(0, zr 0), (1, zi (nI k1)), (2, zi i), (3, zi (nI n1))] [zi (if μ 54 k1 = -1 then -11 else if μ 54 k1 = 0 then 0 else -13)] μ _
      refine zx_istore (nn := 30) (lv' := [(4, zi (if μ 54 k1 = -1 then -11 else if μ 54 k1 = 0 then 0 else -13)), (0, zr 0), (1, zi (nI k1)), (2, zi i), (3, zi (nI n1))]) dX10_goAll_28 (by decide) rfl rfl ?_
      refine zx_iload (k := 0) (nn := 32) dX10_goAll_30 rfl rfl ?_
      refine zx_if_eq (tgt := 40) (nn := 35) dX10_goAll_32 (by decide) rfl (fun h32 => ?_) (fun h32 => ?_)
      · refine zx_aload_n (k := 1) (nn := 41) dX10_goAll_40 rfl rfl rfl ?_
        refine zx_iload_n (k := 2) (nn := 42) dX10_goAll_41 rfl rfl rfl ?_
        refine zx_iload_n (k := 3) (nn := 43) dX10_goAll_42 rfl rfl rfl ?_
        refine zx_iload_n (k := 4) (nn := 44) dX10_goAll_43 rfl rfl rfl ?_
        refine zx_callV (nn := 47) (k := 0) (d' := 5) (as := [zi (nI k1), zi i, zi (nI n1)]) (rest := []) (n := 3) (eX10_goByItems_0 σ μ k1 i n1 ln ok rok n_k.1 hln hl40 n_n.1) kX10_goByItems mlX10_289 rfl rfl rfl (by decide) rfl rfl (Nat.le_of_ble_eq_true rfl) dX10_goAll_44 rfl ?_
        rintro _ ν1 ⟨rfl, q1⟩
        show zX shC σ 6 MX10_goAll 47 [(4, zi (if μ 54 k1 = -1 then -11 else if μ 54 k1 = 0 then 0 else -13)), (0, zr 0), (1, zi (nI k1)), (2, zi i), (3, zi (nI n1))] [zi ((pItems (cR 1 μ) (μ 55 k1) (μ (57 + k1)) i false n1 0 0 (cS 18 μ)).1)] ν1 _
        refine zx_iret rfl dX10_goAll_47 ?_
        have hv : vNoActs μ (nI k1) (nI n1) = (if μ 54 k1 = -1 then -11 else if μ 54 k1 = 0 then 0 else -13) := by unfold vNoActs; rw [if_pos ⟨h4, h14⟩, n_k.2.2]
        rw [h32] at hv
        refine ⟨congrArg (fun x => some (zi x)) ?_, ?_, q1.2⟩
        · rw [if_pos hv, n_k.2.2, n_n.2]
        · rw [if_pos hv, n_k.2.2, n_n.2]
          exact q1.1
      · refine zx_iload (k := 0) (nn := 37) dX10_goAll_35 rfl rfl ?_
        refine zx_goto (tgt := 47) dX10_goAll_37 (by decide) ?_
        refine zx_iret rfl dX10_goAll_47 ?_
        have hv : vNoActs μ (nI k1) (nI n1) = (if μ 54 k1 = -1 then -11 else if μ 54 k1 = 0 then 0 else -13) := by unfold vNoActs; rw [if_pos ⟨h4, h14⟩, n_k.2.2]
        have hz : ¬ vNoActs μ (nI k1) (nI n1) = 0 := by rw [hv]; exact h32
        refine ⟨congrArg (fun x => some (zi x)) ?_, ?_, zJ.rf⟩
        · rw [if_neg hz, hv]
        · rw [if_neg hz]
    · refine zx_iconst (v := -1) (nn := 18) rfl dX10_goAll_17 rfl ?_
      refine zx_iret rfl dX10_goAll_18 ?_
      have hv : vNoActs μ k n = -1 := by unfold vNoActs; rw [if_neg (fun q => absurd q.2 (by rw [h14]; decide))]
      have hz : ¬ vNoActs μ k n = 0 := by rw [hv]; decide
      refine ⟨congrArg (fun x => some (zi x)) ?_, ?_, zJ.rf⟩
      · rw [if_neg hz, hv]
      · rw [if_neg hz]
set_option maxHeartbeats 4000000 in
set_option maxRecDepth 100000 in
theorem eX10_wouldBe_0 (σ : zG) (μ : zM) (k : Int32) (i : Int32) (n : Int32) (ok : pOK (cS 18 μ)) (rok : cROK 1 μ) (hs : ∀ k, k < 4 → ∃ n, n ≤ 40 ∧ μ 55 k = nI n) : zMet shC σ 6 MX10_wouldBe yX10_wouldBe [zr 0, zi k, zi i, zi n] μ (fun rr μ' => rr = some (zi (if vNoActs μ k n = 0 then (pItems (cR 1 μ) (μ 55 k.toNatClampNeg) (μ (57 + k.toNatClampNeg)) i true n.toNatClampNeg 0 0 (cS 18 μ)).1 else vNoActs μ k n)) ∧ zJ [6, 25, 26, 27, 28, 29, 30, 31] μ μ') := by
  refine zmetF (by decide +kernel) rfl (Nat.le_of_ble_eq_true rfl) ?_
  show zX shC σ 6 MX10_wouldBe 0 [(0, zr 0), (1, zi k), (2, zi i), (3, zi n)] [] μ _
  refine zx_iload_n (k := 1) (nn := 1) dX10_wouldBe_0 rfl rfl rfl ?_
  refine zx_callSf (nn := 4) (d' := 0) (as := [zi k]) (rest := []) (n := 1) (eX6_isSheet σ μ k  ) kX6_isSheet mlX10_268 (by decide) rfl rfl (Nat.le_of_ble_eq_true rfl) dX10_wouldBe_1 rfl ?_
  show zX shC σ 6 MX10_wouldBe 4 [(0, zr 0), (1, zi k), (2, zi i), (3, zi n)] [zi (zb (pHas 4 k))] μ _
  refine zx_ifb_eq (tgt := 17) (nn := 7) dX10_wouldBe_4 (by decide) rfl (fun h4 => ?_) (fun h4 => ?_)
  · refine zx_iconst (v := -1) (nn := 18) rfl dX10_wouldBe_17 rfl ?_
    refine zx_iret rfl dX10_wouldBe_18 ?_
    have hv : vNoActs μ k n = -1 := by unfold vNoActs; rw [if_neg (fun q => absurd q.1 (by rw [h4]; decide))]
    have hz : ¬ vNoActs μ k n = 0 := by rw [hv]; decide
    refine ⟨congrArg (fun x => some (zi x)) ?_, zJ.rf⟩
    rw [if_neg hz, hv]
  · refine zx_iload_n (k := 3) (nn := 8) dX10_wouldBe_7 rfl rfl rfl ?_
    refine zx_iconst (v := 0) (nn := 9) rfl dX10_wouldBe_8 rfl ?_
    refine zx_bipush (v := 20) (nn := 11) rfl dX10_wouldBe_9 rfl ?_
    refine zx_callSf (nn := 14) (d' := 0) (as := [zi n, zi 0, zi 20]) (rest := []) (n := 3) (eX10_isIn σ μ n 0 20  ) kX10_isIn mlX10_135 (by decide) rfl rfl (Nat.le_of_ble_eq_true rfl) dX10_wouldBe_11 rfl ?_
    show zX shC σ 6 MX10_wouldBe 14 [(0, zr 0), (1, zi k), (2, zi i), (3, zi n)] [zi (zb (pIn n 0 20))] μ _
    refine zx_ifb_ne (tgt := 19) (nn := 17) dX10_wouldBe_14 (by decide) rfl (fun h14 => ?_) (fun h14 => ?_)
    · obtain ⟨k1, n_k, rfl⟩ := has4 h4
      show zX shC σ 6 MX10_wouldBe 19 [(0, zr 0), (1, zi (nI k1)), (2, zi i), (3, zi n)] [] μ _
      obtain ⟨n1, n_n, rfl⟩ := pIn_n (b := 20) (by omega) (by decide) h14
      show zX shC σ 6 MX10_wouldBe 19 [(0, zr 0), (1, zi (nI k1)), (2, zi i), (3, zi (nI n1))] [] μ _
      obtain ⟨ln, hl40, hln⟩ := hs k1 n_k.1
      refine zx_aload_n (k := 0) (nn := 20) dX10_wouldBe_19 rfl rfl rfl ?_
      refine zx_getR (q := 53) (nn := 23) flX10_68 rfl rfl dX10_wouldBe_20 rfl ?_
      refine zx_iload_n (k := 1) (nn := 24) dX10_wouldBe_23 rfl rfl rfl ?_
      refine zx_iconst (v := 0) (nn := 25) rfl dX10_wouldBe_24 rfl ?_
      refine zx_callVf (nn := 28) (k := 53) (d' := 1) (as := [zi (nI k1), zi 0]) (rest := []) (n := 2) (eX6_refusalAs_53 σ μ k1 0  n_k.1) kX6_refusalAs mlX10_283 rfl rfl rfl (by decide) rfl rfl (Nat.le_of_ble_eq_true rfl) dX10_wouldBe_25 rfl ?_
      show zX shC σ 6 MX10_wouldBe 28 [(0, zr 0), (1, zi (nI k1)), (2, zi i), (3, zi (nI n1))] [zi (if μ 54 k1 = -1 then -11 else if μ 54 k1 = 0 then 0 else -13)] μ _
      refine zx_istore (nn := 30) (lv' := [(4, zi (if μ 54 k1 = -1 then -11 else if μ 54 k1 = 0 then 0 else -13)), (0, zr 0), (1, zi (nI k1)), (2, zi i), (3, zi (nI n1))]) dX10_wouldBe_28 (by decide) rfl rfl ?_
      refine zx_iload (k := 0) (nn := 32) dX10_wouldBe_30 rfl rfl ?_
      refine zx_if_eq (tgt := 40) (nn := 35) dX10_wouldBe_32 (by decide) rfl (fun h32 => ?_) (fun h32 => ?_)
      · refine zx_aload_n (k := 1) (nn := 41) dX10_wouldBe_40 rfl rfl rfl ?_
        refine zx_iload_n (k := 2) (nn := 42) dX10_wouldBe_41 rfl rfl rfl ?_
        refine zx_iload_n (k := 3) (nn := 43) dX10_wouldBe_42 rfl rfl rfl ?_
        refine zx_iload_n (k := 4) (nn := 44) dX10_wouldBe_43 rfl rfl rfl ?_
        refine zx_callV (nn := 47) (k := 0) (d' := 5) (as := [zi (nI k1), zi i, zi (nI n1)]) (rest := []) (n := 3) (eX10_worthOfItems_0 σ μ k1 i n1 ln ok rok n_k.1 hln hl40 n_n.1) kX10_worthOfItems mlX10_292 rfl rfl rfl (by decide) rfl rfl (Nat.le_of_ble_eq_true rfl) dX10_wouldBe_44 rfl ?_
        rintro _ ν1 ⟨rfl, q1⟩
        show zX shC σ 6 MX10_wouldBe 47 [(4, zi (if μ 54 k1 = -1 then -11 else if μ 54 k1 = 0 then 0 else -13)), (0, zr 0), (1, zi (nI k1)), (2, zi i), (3, zi (nI n1))] [zi ((pItems (cR 1 μ) (μ 55 k1) (μ (57 + k1)) i true n1 0 0 (cS 18 μ)).1)] ν1 _
        refine zx_iret rfl dX10_wouldBe_47 ?_
        have hv : vNoActs μ (nI k1) (nI n1) = (if μ 54 k1 = -1 then -11 else if μ 54 k1 = 0 then 0 else -13) := by unfold vNoActs; rw [if_pos ⟨h4, h14⟩, n_k.2.2]
        rw [h32] at hv
        refine ⟨congrArg (fun x => some (zi x)) ?_, q1⟩
        rw [if_pos hv, n_k.2.2, n_n.2]
      · refine zx_iload (k := 0) (nn := 37) dX10_wouldBe_35 rfl rfl ?_
        refine zx_goto (tgt := 47) dX10_wouldBe_37 (by decide) ?_
        refine zx_iret rfl dX10_wouldBe_47 ?_
        have hv : vNoActs μ (nI k1) (nI n1) = (if μ 54 k1 = -1 then -11 else if μ 54 k1 = 0 then 0 else -13) := by unfold vNoActs; rw [if_pos ⟨h4, h14⟩, n_k.2.2]
        have hz : ¬ vNoActs μ (nI k1) (nI n1) = 0 := by rw [hv]; exact h32
        refine ⟨congrArg (fun x => some (zi x)) ?_, zJ.rf⟩
        rw [if_neg hz, hv]
    · refine zx_iconst (v := -1) (nn := 18) rfl dX10_wouldBe_17 rfl ?_
      refine zx_iret rfl dX10_wouldBe_18 ?_
      have hv : vNoActs μ k n = -1 := by unfold vNoActs; rw [if_neg (fun q => absurd q.2 (by rw [h14]; decide))]
      have hz : ¬ vNoActs μ k n = 0 := by rw [hv]; decide
      refine ⟨congrArg (fun x => some (zi x)) ?_, zJ.rf⟩
      rw [if_neg hz, hv]
set_option maxHeartbeats 4000000 in
set_option maxRecDepth 100000 in
theorem eX10_shelf_0 (σ : zG) (μ : zM) (h : Int32) (w : Int32) (n : Int32) : zMet shC σ 2 MX10_shelf yX10_shelf [zr 0, zi h, zi w, zi n] μ (fun rr μ' => rr = some (zi (vShelf (cS 18 μ) h w n)) ∧ μ' = if vShelf (cS 18 μ) h w n = 1 then mShelf μ h w n else μ) := by
  refine zmetF (by decide +kernel) rfl (Nat.le_of_ble_eq_true rfl) ?_
  show zX shC σ 2 MX10_shelf 0 [(0, zr 0), (1, zi h), (2, zi w), (3, zi n)] [] μ _
  refine zx_iload_n (k := 1) (nn := 1) dX10_shelf_0 rfl rfl rfl ?_
  refine zx_callSf (nn := 4) (d' := 0) (as := [zi h]) (rest := []) (n := 1) (eX7_isShelf σ μ h  ) kX7_isShelf mlX10_295 (by decide) rfl rfl (Nat.le_of_ble_eq_true rfl) dX10_shelf_1 rfl ?_
  show zX shC σ 2 MX10_shelf 4 [(0, zr 0), (1, zi h), (2, zi w), (3, zi n)] [zi (zb (pHas 4 h))] μ _
  refine zx_ifb_ne (tgt := 9) (nn := 7) dX10_shelf_4 (by decide) rfl (fun h4 => ?_) (fun h4 => ?_)
  · obtain ⟨k1, n_h, rfl⟩ := has4 h4
    show zX shC σ 2 MX10_shelf 9 [(0, zr 0), (1, zi (nI k1)), (2, zi w), (3, zi n)] [] μ _
    refine zx_iload_n (k := 2) (nn := 10) dX10_shelf_9 rfl rfl rfl ?_
    by_cases h10_0 : w = 0
    · refine zx_sw h10_0 ?_
      refine zx_tabIn (tgt := 36) (off := 26) dX10_shelf_10 (by decide +kernel) (by decide +kernel) (by decide +kernel) (by decide) ?_
      refine zx_aload_n (k := 0) (nn := 37) dX10_shelf_36 rfl rfl rfl ?_
      refine zx_getR (q := 18) (nn := 40) flX10_28 rfl rfl dX10_shelf_37 rfl ?_
      refine zx_iload_n (k := 3) (nn := 41) dX10_shelf_40 rfl rfl rfl ?_
      refine zx_callVf (nn := 44) (k := 18) (d' := 0) (as := [zi n]) (rest := []) (n := 1) (eX8_hasLamp_18 σ μ n  ) kX8_hasLamp mlX10_113 rfl rfl rfl (by decide) rfl rfl (Nat.le_of_ble_eq_true rfl) dX10_shelf_41 rfl ?_
      show zX shC σ 2 MX10_shelf 44 [(0, zr 0), (1, zi (nI k1)), (2, zi w), (3, zi n)] [zi (zb (pHas (cS 18 μ 0) n))] μ _
      refine zx_ifb_eq (tgt := 59) (nn := 47) dX10_shelf_44 (by decide) rfl (fun h44 => ?_) (fun h44 => ?_)
      · refine zx_iconst (v := -1) (nn := 60) rfl dX10_shelf_59 rfl ?_
        refine zx_iret rfl dX10_shelf_60 ?_
        exact ⟨congrArg (fun x => some (zi x)) (by simp [vShelf, h4, h10_0, h44]), by rw [if_neg (by simp [vShelf, h4, h10_0, h44])]⟩
      · refine zx_aload_n (k := 0) (nn := 48) dX10_shelf_47 rfl rfl rfl ?_
        refine zx_getR (q := 61) (nn := 51) flX10_77 rfl rfl dX10_shelf_48 rfl ?_
        refine zx_iload_n (k := 1) (nn := 52) dX10_shelf_51 rfl rfl rfl ?_
        refine zx_iload_n (k := 3) (nn := 53) dX10_shelf_52 rfl rfl rfl ?_
        refine zx_callVf (nn := 56) (k := 61) (d' := 0) (as := [zi (nI k1), zi n]) (rest := []) (n := 2) (eX7_putLamp_61 σ μ k1 n  n_h.1) kX7_putLamp mlX10_298 rfl rfl rfl (by decide) rfl rfl (Nat.le_of_ble_eq_true rfl) dX10_shelf_53 rfl ?_
        show zX shC σ 2 MX10_shelf 56 [(0, zr 0), (1, zi (nI k1)), (2, zi w), (3, zi n)] [zi 1] (zp (zp μ 62 k1 1) 63 k1 n) _
        refine zx_goto (tgt := 60) dX10_shelf_56 (by decide) ?_
        refine zx_iret rfl dX10_shelf_60 ?_
        have hv : vShelf (cS 18 μ) (nI k1) w n = 1 := by simp [vShelf, h4, h10_0, h44]
        exact ⟨congrArg (fun x => some (zi x)) hv.symm, by rw [if_pos hv]; unfold mShelf; simp [n_h.2.2, h10_0]⟩
    by_cases h10_1 : w = 1
    · refine zx_sw h10_1 ?_
      refine zx_tabIn (tgt := 61) (off := 51) dX10_shelf_10 (by decide +kernel) (by decide +kernel) (by decide +kernel) (by decide) ?_
      refine zx_iload_n (k := 3) (nn := 62) dX10_shelf_61 rfl rfl rfl ?_
      refine zx_callSf (nn := 65) (d' := 0) (as := [zi n]) (rest := []) (n := 1) (eX6_isSheet σ μ n  ) kX6_isSheet mlX10_268 (by decide) rfl rfl (Nat.le_of_ble_eq_true rfl) dX10_shelf_62 rfl ?_
      show zX shC σ 2 MX10_shelf 65 [(0, zr 0), (1, zi (nI k1)), (2, zi w), (3, zi n)] [zi (zb (pHas 4 n))] μ _
      refine zx_ifb_eq (tgt := 80) (nn := 68) dX10_shelf_65 (by decide) rfl (fun h65 => ?_) (fun h65 => ?_)
      · refine zx_iconst (v := -1) (nn := 81) rfl dX10_shelf_80 rfl ?_
        refine zx_iret rfl dX10_shelf_81 ?_
        exact ⟨congrArg (fun x => some (zi x)) (by simp [vShelf, h4, h10_0, h10_1, h65]), by rw [if_neg (by simp [vShelf, h4, h10_0, h10_1, h65])]⟩
      · obtain ⟨n1, n_n, rfl⟩ := has4 h65
        show zX shC σ 2 MX10_shelf 68 [(0, zr 0), (1, zi (nI k1)), (2, zi w), (3, zi (nI n1))] [] μ _
        refine zx_aload_n (k := 0) (nn := 69) dX10_shelf_68 rfl rfl rfl ?_
        refine zx_getR (q := 61) (nn := 72) flX10_77 rfl rfl dX10_shelf_69 rfl ?_
        refine zx_iload_n (k := 1) (nn := 73) dX10_shelf_72 rfl rfl rfl ?_
        refine zx_iload_n (k := 3) (nn := 74) dX10_shelf_73 rfl rfl rfl ?_
        refine zx_callVf (nn := 77) (k := 61) (d' := 1) (as := [zi (nI k1), zi (nI n1)]) (rest := []) (n := 2) (eX7_putRow_61 σ μ k1 n1  n_h.1 n_n.1) kX7_putRow mlX10_301 rfl rfl rfl (by decide) rfl rfl (Nat.le_of_ble_eq_true rfl) dX10_shelf_74 rfl ?_
        show zX shC σ 2 MX10_shelf 77 [(0, zr 0), (1, zi (nI k1)), (2, zi w), (3, zi (nI n1))] [zi 1] (if μ 54 n1 = -1 then zp μ 62 k1 0 else zp (zp (zp μ 62 k1 2) 63 k1 (μ 54 n1)) 64 k1 (μ 55 n1)) _
        refine zx_goto (tgt := 81) dX10_shelf_77 (by decide) ?_
        refine zx_iret rfl dX10_shelf_81 ?_
        have hv : vShelf (cS 18 μ) (nI k1) w (nI n1) = 1 := by simp [vShelf, h4, h10_0, h10_1, h65]
        exact ⟨congrArg (fun x => some (zi x)) hv.symm, by rw [if_pos hv]; unfold mShelf; simp [n_h.2.2, n_n.2.2, h10_0, h10_1]⟩
    by_cases h10_2 : w = 2
    · refine zx_sw h10_2 ?_
      refine zx_tabIn (tgt := 82) (off := 72) dX10_shelf_10 (by decide +kernel) (by decide +kernel) (by decide +kernel) (by decide) ?_
      refine zx_aload_n (k := 0) (nn := 83) dX10_shelf_82 rfl rfl rfl ?_
      refine zx_getR (q := 61) (nn := 86) flX10_77 rfl rfl dX10_shelf_83 rfl ?_
      refine zx_iload_n (k := 1) (nn := 87) dX10_shelf_86 rfl rfl rfl ?_
      refine zx_callVf (nn := 90) (k := 61) (d' := 0) (as := [zi (nI k1)]) (rest := []) (n := 1) (eX7_putNothing_61 σ μ k1  n_h.1) kX7_putNothing mlX10_304 rfl rfl rfl (by decide) rfl rfl (Nat.le_of_ble_eq_true rfl) dX10_shelf_87 rfl ?_
      show zX shC σ 2 MX10_shelf 90 [(0, zr 0), (1, zi (nI k1)), (2, zi w), (3, zi n)] [zi 1] (zp μ 62 k1 0) _
      refine zx_iret rfl dX10_shelf_90 ?_
      have hv : vShelf (cS 18 μ) (nI k1) w n = 1 := by simp [vShelf, h4, h10_0, h10_1, h10_2]
      exact ⟨congrArg (fun x => some (zi x)) hv.symm, by rw [if_pos hv]; unfold mShelf; simp [n_h.2.2, h10_0, h10_1, h10_2]⟩
    refine zx_tabOut (tgt := 91) dX10_shelf_10 (zsw_out (lo := 0) (hi := 2) (fun k hk1 hk2 => by rcases (show k = 0 ∨ k = 1 ∨ k = 2 by omega) with rfl | rfl | rfl; exact lv_neT h10_0 rfl; exact lv_neT h10_1 rfl; exact lv_neT h10_2 rfl)) (by decide) ?_
    refine zx_iconst (v := -1) (nn := 92) rfl dX10_shelf_91 rfl ?_
    refine zx_iret rfl dX10_shelf_92 ?_
    exact ⟨congrArg (fun x => some (zi x)) (by simp [vShelf, h4, h10_0, h10_1, h10_2]), by rw [if_neg (by simp [vShelf, h4, h10_0, h10_1, h10_2])]⟩
  · refine zx_iconst (v := -1) (nn := 8) rfl dX10_shelf_7 rfl ?_
    refine zx_iret rfl dX10_shelf_8 ?_
    exact ⟨congrArg (fun x => some (zi x)) (by simp [vShelf, h4]), by rw [if_neg (by simp [vShelf, h4])]⟩
set_option maxHeartbeats 4000000 in
set_option maxRecDepth 100000 in
theorem eX10_taken_0 (σ : zG) (μ : zM) (h : Int32) (as : Int32) (ok : pOK (cS 18 μ)) : zMet shC σ 3 MX10_taken yX10_taken [zr 0, zi h, zi as] μ (fun rr μ' => rr = some (zi (vTaken μ h as)) ∧ μ' = μ) := by
  refine zmetF (by decide +kernel) rfl (Nat.le_of_ble_eq_true rfl) ?_
  show zX shC σ 3 MX10_taken 0 [(0, zr 0), (1, zi h), (2, zi as)] [] μ _
  refine zx_iload_n (k := 1) (nn := 1) dX10_taken_0 rfl rfl rfl ?_
  refine zx_callSf (nn := 4) (d' := 0) (as := [zi h]) (rest := []) (n := 1) (eX7_isShelf σ μ h  ) kX7_isShelf mlX10_295 (by decide) rfl rfl (Nat.le_of_ble_eq_true rfl) dX10_taken_1 rfl ?_
  show zX shC σ 3 MX10_taken 4 [(0, zr 0), (1, zi h), (2, zi as)] [zi (zb (pHas 4 h))] μ _
  refine zx_ifb_ne (tgt := 9) (nn := 7) dX10_taken_4 (by decide) rfl (fun h4 => ?_) (fun h4 => ?_)
  · obtain ⟨k1, n_h, rfl⟩ := has4 h4
    show zX shC σ 3 MX10_taken 9 [(0, zr 0), (1, zi (nI k1)), (2, zi as)] [] μ _
    refine zx_iload_n (k := 2) (nn := 10) dX10_taken_9 rfl rfl rfl ?_
    refine zx_iconst (v := 0) (nn := 11) rfl dX10_taken_10 rfl ?_
    refine zx_iconst (v := 5) (nn := 12) rfl dX10_taken_11 rfl ?_
    refine zx_callSf (nn := 15) (d' := 0) (as := [zi as, zi 0, zi 5]) (rest := []) (n := 3) (eX10_isIn σ μ as 0 5  ) kX10_isIn mlX10_135 (by decide) rfl rfl (Nat.le_of_ble_eq_true rfl) dX10_taken_12 rfl ?_
    show zX shC σ 3 MX10_taken 15 [(0, zr 0), (1, zi (nI k1)), (2, zi as)] [zi (zb (pIn as 0 5))] μ _
    refine zx_ifb_eq (tgt := 28) (nn := 18) dX10_taken_15 (by decide) rfl (fun h15 => ?_) (fun h15 => ?_)
    · refine zx_iload_n (k := 2) (nn := 29) dX10_taken_28 rfl rfl rfl ?_
      refine zx_bipush (v := 10) (nn := 31) rfl dX10_taken_29 rfl ?_
      refine zx_bipush (v := 14) (nn := 33) rfl dX10_taken_31 rfl ?_
      refine zx_callSf (nn := 36) (d' := 0) (as := [zi as, zi 10, zi 14]) (rest := []) (n := 3) (eX10_isIn σ μ as 10 14  ) kX10_isIn mlX10_135 (by decide) rfl rfl (Nat.le_of_ble_eq_true rfl) dX10_taken_33 rfl ?_
      show zX shC σ 3 MX10_taken 36 [(0, zr 0), (1, zi (nI k1)), (2, zi as)] [zi (zb (pIn as 10 14))] μ _
      refine zx_ifb_eq (tgt := 54) (nn := 39) dX10_taken_36 (by decide) rfl (fun h36 => ?_) (fun h36 => ?_)
      · refine zx_iconst (v := -1) (nn := 55) rfl dX10_taken_54 rfl ?_
        refine zx_iret rfl dX10_taken_55 ?_
        have e : vTaken μ (nI k1) as = -1 := by unfold vTaken; rw [if_pos h4, n_h.2.2, if_neg (by rw [h15]; decide), if_neg (by rw [h36]; decide)]
        refine ⟨congrArg (fun x => some (zi x)) ?_, rfl⟩
        rw [e]
      · refine zx_aload_n (k := 0) (nn := 40) dX10_taken_39 rfl rfl rfl ?_
        refine zx_getR (q := 61) (nn := 43) flX10_77 rfl rfl dX10_taken_40 rfl ?_
        refine zx_iload_n (k := 1) (nn := 44) dX10_taken_43 rfl rfl rfl ?_
        refine zx_iload_n (k := 2) (nn := 45) dX10_taken_44 rfl rfl rfl ?_
        refine zx_bipush (v := 10) (nn := 47) rfl dX10_taken_45 rfl ?_
        refine zx_isub (nn := 48) dX10_taken_47 rfl ?_
        refine zx_callVf (nn := 51) (k := 61) (d' := 2) (as := [zi (nI k1), zi (as - 10)]) (rest := []) (n := 2) (eX7_asRow_61 σ μ k1 (as - 10)  n_h.1) kX7_asRow mlX10_310 rfl rfl rfl (by decide) rfl rfl (Nat.le_of_ble_eq_true rfl) dX10_taken_48 rfl ?_
        show zX shC σ 3 MX10_taken 51 [(0, zr 0), (1, zi (nI k1)), (2, zi as)] [zi (if μ 62 k1 = 2 then (if μ 63 k1 = (as - 10) then μ 64 k1 else -13) else if (decide (μ 62 k1 = 1) && pHas (μ 18 7) (μ 63 k1)) = true then -13 else -11)] μ _
        refine zx_goto (tgt := 55) dX10_taken_51 (by decide) ?_
        refine zx_iret rfl dX10_taken_55 ?_
        have e : vTaken μ (nI k1) as = vAsRow μ k1 (as - 10) := by unfold vTaken; rw [if_pos h4, n_h.2.2, if_neg (by rw [h15]; decide), if_pos h36]
        refine ⟨congrArg (fun x => some (zi x)) ?_, rfl⟩
        rw [e]
        rfl
    · refine zx_aload_n (k := 0) (nn := 19) dX10_taken_18 rfl rfl rfl ?_
      refine zx_getR (q := 61) (nn := 22) flX10_77 rfl rfl dX10_taken_19 rfl ?_
      refine zx_iload_n (k := 1) (nn := 23) dX10_taken_22 rfl rfl rfl ?_
      refine zx_iload_n (k := 2) (nn := 24) dX10_taken_23 rfl rfl rfl ?_
      refine zx_callVf (nn := 27) (k := 61) (d' := 2) (as := [zi (nI k1), zi as]) (rest := []) (n := 2) (eX7_asLamp_61 σ μ k1 as  n_h.1 ok) kX7_asLamp mlX10_307 rfl rfl rfl (by decide) rfl rfl (Nat.le_of_ble_eq_true rfl) dX10_taken_24 rfl ?_
      show zX shC σ 3 MX10_taken 27 [(0, zr 0), (1, zi (nI k1)), (2, zi as)] [zi (if (decide (μ 62 k1 = 1) && pHas (μ 18 7) (μ 63 k1)) = true then (if pUnder (μ 19 (μ 63 k1).toNatClampNeg) as = true then μ 63 k1 else -13) else if μ 62 k1 = 2 then -13 else -11)] μ _
      refine zx_iret rfl dX10_taken_27 ?_
      have e : vTaken μ (nI k1) as = vAsLamp μ k1 as := by unfold vTaken; rw [if_pos h4, n_h.2.2, if_pos h15]
      refine ⟨congrArg (fun x => some (zi x)) ?_, rfl⟩
      rw [e]
      rfl
  · refine zx_iconst (v := -1) (nn := 8) rfl dX10_taken_7 rfl ?_
    refine zx_iret rfl dX10_taken_8 ?_
    refine ⟨congrArg (fun x => some (zi x)) ?_, rfl⟩
    unfold vTaken
    rw [if_neg (by rw [h4]; decide)]
set_option maxHeartbeats 4000000 in
set_option maxRecDepth 100000 in
theorem eX10_act_0 (σ : zG) (μ : zM) (h : Int32) (act : Int32) (x : Int32) (ok : pOK (cS 18 μ)) : zMet shC σ 5 MX10_act yX10_act [zr 0, zi h, zi act, zi x] μ (fun rr μ' => rr = some (zi (vAct μ h act x)) ∧ zJ [65, 66] μ μ' ∧ μ' 65 1 = nI (vActL μ h act).length ∧ ∀ i, i < (vActL μ h act).length → μ' 66 i = (vActL μ h act).getD i 0) := by
  refine zmetF (by decide +kernel) rfl (Nat.le_of_ble_eq_true rfl) ?_
  show zX shC σ 5 MX10_act 0 [(0, zr 0), (1, zi h), (2, zi act), (3, zi x)] [] μ _
  refine zx_aload_n (k := 0) (nn := 1) dX10_act_0 rfl rfl rfl ?_
  refine zx_getR (q := 65) (nn := 4) flX10_84 rfl rfl dX10_act_1 rfl ?_
  refine zx_iconst (v := 0) (nn := 5) rfl dX10_act_4 rfl ?_
  refine zx_putI (nn := 8) fpX10_313 rfl rfl rfl rfl dX10_act_5 rfl ?_
  refine zx_iload_n (k := 1) (nn := 9) dX10_act_8 rfl rfl rfl ?_
  refine zx_callSf (nn := 12) (d' := 0) (as := [zi h]) (rest := []) (n := 1) (eX7_isShelf σ (zp μ 65 1 0) h  ) kX7_isShelf mlX10_295 (by decide) rfl rfl (Nat.le_of_ble_eq_true rfl) dX10_act_9 rfl ?_
  show zX shC σ 5 MX10_act 12 [(0, zr 0), (1, zi h), (2, zi act), (3, zi x)] [zi (zb (pHas 4 h))] (zp μ 65 1 0) _
  refine zx_ifb_eq (tgt := 35) (nn := 15) dX10_act_12 (by decide) rfl (fun h12 => ?_) (fun h12 => ?_)
  · refine zx_iconst (v := 0) (nn := 36) rfl dX10_act_35 rfl ?_
    refine zx_iret rfl dX10_act_36 ?_
    have hv : vActC μ h act = false := by simp only [vActC, h12, Bool.and_false, Bool.false_and, Bool.true_and]
    exact ⟨congrArg (fun x => some (zi x)) (by unfold vAct; rw [hv]; rfl), zJ.rf.p (by decide), by unfold vActL; rw [hv]; rfl, fun i hi => by unfold vActL at hi; rw [hv] at hi; exact absurd hi (by simp)⟩
  · refine zx_iload_n (k := 2) (nn := 16) dX10_act_15 rfl rfl rfl ?_
    refine zx_iconst (v := 0) (nn := 17) rfl dX10_act_16 rfl ?_
    refine zx_iconst (v := 3) (nn := 18) rfl dX10_act_17 rfl ?_
    refine zx_callSf (nn := 21) (d' := 0) (as := [zi act, zi 0, zi 3]) (rest := []) (n := 3) (eX10_isIn σ (zp μ 65 1 0) act 0 3  ) kX10_isIn mlX10_135 (by decide) rfl rfl (Nat.le_of_ble_eq_true rfl) dX10_act_18 rfl ?_
    show zX shC σ 5 MX10_act 21 [(0, zr 0), (1, zi h), (2, zi act), (3, zi x)] [zi (zb (pIn act 0 3))] (zp μ 65 1 0) _
    refine zx_ifb_eq (tgt := 35) (nn := 24) dX10_act_21 (by decide) rfl (fun h21 => ?_) (fun h21 => ?_)
    · refine zx_iconst (v := 0) (nn := 36) rfl dX10_act_35 rfl ?_
      refine zx_iret rfl dX10_act_36 ?_
      have hv : vActC μ h act = false := by simp only [vActC, h12, h21, Bool.and_false, Bool.false_and, Bool.true_and]
      exact ⟨congrArg (fun x => some (zi x)) (by unfold vAct; rw [hv]; rfl), zJ.rf.p (by decide), by unfold vActL; rw [hv]; rfl, fun i hi => by unfold vActL at hi; rw [hv] at hi; exact absurd hi (by simp)⟩
    · obtain ⟨k1, n_h, rfl⟩ := has4 h12
      show zX shC σ 5 MX10_act 24 [(0, zr 0), (1, zi (nI k1)), (2, zi act), (3, zi x)] [] (zp μ 65 1 0) _
      refine zx_aload_n (k := 0) (nn := 25) dX10_act_24 rfl rfl rfl ?_
      refine zx_getR (q := 61) (nn := 28) flX10_77 rfl rfl dX10_act_25 rfl ?_
      refine zx_iload_n (k := 1) (nn := 29) dX10_act_28 rfl rfl rfl ?_
      refine zx_callVf (nn := 32) (k := 61) (d' := 1) (as := [zi (nI k1)]) (rest := []) (n := 1) (eX7_holdsLamp_61 σ (zp μ 65 1 0) k1  n_h.1) kX7_holdsLamp mlX10_316 rfl rfl rfl (by decide) rfl rfl (Nat.le_of_ble_eq_true rfl) dX10_act_29 rfl ?_
      show zX shC σ 5 MX10_act 32 [(0, zr 0), (1, zi (nI k1)), (2, zi act), (3, zi x)] [zi (zb (decide ((zp μ 65 1 0) 62 k1 = 1) && pHas ((zp μ 65 1 0) 18 7) ((zp μ 65 1 0) 63 k1)))] (zp μ 65 1 0) _
      refine zx_ifb_ne (tgt := 37) (nn := 35) dX10_act_32 (by decide) rfl (fun h32 => ?_) (fun h32 => ?_)
      · refine zx_aload_n (k := 0) (nn := 38) dX10_act_37 rfl rfl rfl ?_
        refine zx_getR (q := 61) (nn := 41) flX10_77 rfl rfl dX10_act_38 rfl ?_
        refine zx_getR (q := 63) (nn := 44) flX10_319 rfl rfl dX10_act_41 rfl ?_
        refine zx_iload_n (k := 1) (nn := 45) dX10_act_44 rfl rfl rfl ?_
        refine zx_iald_n (j := k1) (nn := 46) rfl n_h.1 (by decide) dX10_act_45 rfl ?_
        refine zx_istore (nn := 48) (lv' := [(4, zi ((zp μ 65 1 0) 63 k1)), (0, zr 0), (1, zi (nI k1)), (2, zi act), (3, zi x)]) dX10_act_46 (by decide) rfl rfl ?_
        refine zx_aload_n (k := 1) (nn := 49) dX10_act_48 rfl rfl rfl ?_
        refine zx_getR (q := 65) (nn := 52) flX10_84 rfl rfl dX10_act_49 rfl ?_
        refine zx_aload_n (k := 1) (nn := 53) dX10_act_52 rfl rfl rfl ?_
        refine zx_getR (q := 18) (nn := 56) flX10_28 rfl rfl dX10_act_53 rfl ?_
        refine zx_getR (q := 19) (nn := 59) flX10_321 rfl rfl dX10_act_56 rfl ?_
        refine zx_iload (k := 0) (nn := 61) dX10_act_59 rfl rfl ?_
        refine zx_iald (nn := 62) rfl (by have q := (Bool.and_eq_true _ _).mp h32; obtain ⟨j, hj, e⟩ := has_ok (s := cS 18 μ) (c := 6) (ok_L ok).1 (ok_L ok).2 (by omega) (show pHas (cS 18 μ 0) (μ 63 k1) = true from q.2); show vp_in (μ 63 k1) 6; rw [e]; exact vp_in_nI hj.2.1 (by decide)) dX10_act_61 rfl ?_
        refine zx_iload (k := 0) (nn := 64) dX10_act_62 rfl rfl ?_
        refine zx_aload_n (k := 1) (nn := 65) dX10_act_64 rfl rfl rfl ?_
        refine zx_getR (q := 18) (nn := 68) flX10_28 rfl rfl dX10_act_65 rfl ?_
        refine zx_getR (q := 21) (nn := 71) flX10_324 rfl rfl dX10_act_68 rfl ?_
        refine zx_iload (k := 0) (nn := 73) dX10_act_71 rfl rfl ?_
        refine zx_iald (nn := 74) rfl (by have q := (Bool.and_eq_true _ _).mp h32; obtain ⟨j, hj, e⟩ := has_ok (s := cS 18 μ) (c := 6) (ok_L ok).1 (ok_L ok).2 (by omega) (show pHas (cS 18 μ 0) (μ 63 k1) = true from q.2); show vp_in (μ 63 k1) 6; rw [e]; exact vp_in_nI hj.2.1 (by decide)) dX10_act_73 rfl ?_
        refine zx_callVf (nn := 77) (k := 65) (d' := 0) (as := [zi ((zp μ 65 1 0) 19 (((zp μ 65 1 0) 63 k1).toNatClampNeg)), zi ((zp μ 65 1 0) 63 k1), zi ((zp μ 65 1 0) 21 (((zp μ 65 1 0) 63 k1).toNatClampNeg))]) (rest := []) (n := 3) (eX9_become_65 σ (zp μ 65 1 0) ((zp μ 65 1 0) 19 (((zp μ 65 1 0) 63 k1).toNatClampNeg)) ((zp μ 65 1 0) 63 k1) ((zp μ 65 1 0) 21 (((zp μ 65 1 0) 63 k1).toNatClampNeg))) kX9_become mlX10_327 rfl rfl rfl (by decide) rfl rfl (Nat.le_of_ble_eq_true rfl) dX10_act_74 rfl ?_
        show zX shC σ 5 MX10_act 77 [(4, zi ((zp μ 65 1 0) 63 k1)), (0, zr 0), (1, zi (nI k1)), (2, zi act), (3, zi x)] [] (zp (zp (zp (zp (zp μ 65 1 0) 65 2 ((zp μ 65 1 0) 19 (((zp μ 65 1 0) 63 k1).toNatClampNeg))) 65 3 ((zp μ 65 1 0) 63 k1)) 65 4 ((zp μ 65 1 0) 21 (((zp μ 65 1 0) 63 k1).toNatClampNeg))) 65 5 0) _
        refine zx_aload_n (k := 1) (nn := 78) dX10_act_77 rfl rfl rfl ?_
        refine zx_getR (q := 65) (nn := 81) flX10_84 rfl rfl dX10_act_78 rfl ?_
        refine zx_iload_n (k := 3) (nn := 82) dX10_act_81 rfl rfl rfl ?_
        refine zx_iload_n (k := 4) (nn := 83) dX10_act_82 rfl rfl rfl ?_
        refine zx_callV (nn := 86) (k := 65) (d' := 4) (as := [zi act, zi x]) (rest := []) (n := 2) (eX9_answer_65 σ (zp (zp (zp (zp (zp μ 65 1 0) 65 2 ((zp μ 65 1 0) 19 (((zp μ 65 1 0) 63 k1).toNatClampNeg))) 65 3 ((zp μ 65 1 0) 63 k1)) 65 4 ((zp μ 65 1 0) 21 (((zp μ 65 1 0) 63 k1).toNatClampNeg))) 65 5 0) act x rfl rfl) kX9_answer mlX10_331 rfl rfl rfl (by decide) rfl rfl (Nat.le_of_ble_eq_true rfl) dX10_act_83 rfl ?_
        rintro _ ν1 ⟨rfl, qA⟩
        show zX shC σ 5 MX10_act 86 [(4, zi ((zp μ 65 1 0) 63 k1)), (0, zr 0), (1, zi (nI k1)), (2, zi act), (3, zi x)] [zi (if pThP act (μ 19 (μ 63 k1).toNatClampNeg) (μ 63 k1) (μ 21 (μ 63 k1).toNatClampNeg) = true then -15 else pThV act (μ 19 (μ 63 k1).toNatClampNeg) (μ 63 k1) (μ 21 (μ 63 k1).toNatClampNeg) x)] ν1 _
        refine zx_iret rfl dX10_act_86 ?_
        have hv : vActC μ (nI k1) act = true := by simp [vActC, h12, h21, n_h.2.2]; exact (Bool.and_eq_true _ _).mp h32 |> fun q => ⟨of_decide_eq_true q.1, q.2⟩
        have hL : vActL μ (nI k1) act = pThL act (μ 19 (μ 63 k1).toNatClampNeg) (μ 63 k1) (μ 21 (μ 63 k1).toNatClampNeg) := by unfold vActL; rw [if_pos hv, n_h.2.2]
        have hp := push_all (μ := zp (zp (zp (zp (zp μ 65 1 0) 65 2 ((zp μ 65 1 0) 19 (((zp μ 65 1 0) 63 k1).toNatClampNeg))) 65 3 ((zp μ 65 1 0) 63 k1)) 65 4 ((zp μ 65 1 0) 21 (((zp μ 65 1 0) 63 k1).toNatClampNeg))) 65 5 0) (L := vActL μ (nI k1) act) rfl
        rw [hL] at hp
        refine ⟨congrArg (fun x => some (zi x)) ?_, ?_⟩
        · unfold vAct
          rw [if_pos hv, n_h.2.2]
        · have hJ0 : zJ [65, 66] μ (zp (zp (zp (zp (zp μ 65 1 0) 65 2 ((zp μ 65 1 0) 19 (((zp μ 65 1 0) 63 k1).toNatClampNeg))) 65 3 ((zp μ 65 1 0) 63 k1)) 65 4 ((zp μ 65 1 0) 21 (((zp μ 65 1 0) 63 k1).toNatClampNeg))) 65 5 0) := ((((zJ.rf.p (by decide)).p (by decide)).p (by decide)).p (by decide)).p (by decide)
          rw [hL, qA]
          split
          · exact ⟨(hJ0.tr hp.1).p (by decide), by rw [zp_eq, pk_un (by decide)]; exact hp.2.1, fun i hi => by rw [zp_ne (by decide)]; exact hp.2.2 i hi⟩
          · exact ⟨hJ0.tr hp.1, hp.2.1, hp.2.2⟩
      · refine zx_iconst (v := 0) (nn := 36) rfl dX10_act_35 rfl ?_
        refine zx_iret rfl dX10_act_36 ?_
        have h32 : (decide (μ 62 k1 = 1) && pHas (μ 18 7) (μ 63 k1)) = false := h32
        have hv : vActC μ (nI k1) act = false := by simp only [vActC, h12, h21, h32, n_h.2.2, Bool.and_false, Bool.false_and, Bool.true_and]
        exact ⟨congrArg (fun x => some (zi x)) (by unfold vAct; rw [hv]; rfl), zJ.rf.p (by decide), by unfold vActL; rw [hv]; rfl, fun i hi => by unfold vActL at hi; rw [hv] at hi; exact absurd hi (by simp)⟩
set_option maxHeartbeats 4000000 in
set_option maxRecDepth 100000 in
theorem eX10_trace_0 (σ : zG) (μ : zM) (i : Int32) (t : Nat) (ht : μ 65 1 = nI t) (ht30 : t ≤ 30) : zMet shC σ 0 MX10_trace yX10_trace [zr 0, zi i] μ (fun rr μ' => rr = some (zi (if pHas (μ 65 1) i = true then μ 66 i.toNatClampNeg else -3)) ∧ μ' = μ) := by
  refine zmetF (by decide +kernel) rfl (Nat.le_of_ble_eq_true rfl) ?_
  show zX shC σ 0 MX10_trace 0 [(0, zr 0), (1, zi i)] [] μ _
  refine zx_iload_n (k := 1) (nn := 1) dX10_trace_0 rfl rfl rfl ?_
  refine zx_if_lt (tgt := 27) (nn := 4) dX10_trace_1 (by decide) rfl (fun h1 => ?_) (fun h1 => ?_)
  · refine zx_bipush (v := -3) (nn := 29) rfl dX10_trace_27 rfl ?_
    refine zx_iret rfl dX10_trace_29 ?_
    refine ⟨congrArg (fun x => some (zi x)) ?_, rfl⟩
    rw [if_neg (by unfold pHas; rw [Bool.and_eq_true, decide_eq_true_eq, decide_eq_true_eq]; exact fun q => absurd h1 (Int32.not_lt.mpr q.1))]
  · refine zx_iload_n (k := 1) (nn := 5) dX10_trace_4 rfl rfl rfl ?_
    refine zx_aload_n (k := 0) (nn := 6) dX10_trace_5 rfl rfl rfl ?_
    refine zx_getR (q := 65) (nn := 9) flX10_84 rfl rfl dX10_trace_6 rfl ?_
    refine zx_getI (nn := 12) flX10_313 rfl rfl dX10_trace_9 rfl ?_
    refine zx_icmp_ge (tgt := 27) (nn := 15) dX10_trace_12 (by decide) rfl (fun h12 => ?_) (fun h12 => ?_)
    · refine zx_bipush (v := -3) (nn := 29) rfl dX10_trace_27 rfl ?_
      refine zx_iret rfl dX10_trace_29 ?_
      refine ⟨congrArg (fun x => some (zi x)) ?_, rfl⟩
      rw [if_neg (by unfold pHas; rw [Bool.and_eq_true, decide_eq_true_eq, decide_eq_true_eq]; exact fun q => absurd h12 (Int32.not_le.mpr q.2))]
    · have hp : pHas (μ 65 1) i = true := by unfold pHas; rw [Bool.and_eq_true, decide_eq_true_eq, decide_eq_true_eq]; exact ⟨Int32.not_lt.mp h1, Int32.not_le.mp h12⟩
      refine zx_aload_n (k := 0) (nn := 16) dX10_trace_15 rfl rfl rfl ?_
      refine zx_getR (q := 65) (nn := 19) flX10_84 rfl rfl dX10_trace_16 rfl ?_
      refine zx_getR (q := 66) (nn := 22) flX10_334 rfl rfl dX10_trace_19 rfl ?_
      refine zx_iload_n (k := 1) (nn := 23) dX10_trace_22 rfl rfl rfl ?_
      refine zx_iald (nn := 24) rfl (by obtain ⟨j, hj, e⟩ := has_ok (s := fun _ => 0) (c := 30) ht ht30 (by omega) hp; rw [e]; exact vp_in_nI hj.2.1 (by decide)) dX10_trace_23 rfl ?_
      refine zx_goto (tgt := 29) dX10_trace_24 (by decide) ?_
      refine zx_iret rfl dX10_trace_29 ?_
      refine ⟨congrArg (fun x => some (zi x)) ?_, rfl⟩
      rw [if_pos hp]
set_option maxHeartbeats 4000000 in
set_option maxRecDepth 100000 in
theorem eX10_many_0 (σ : zG) (μ : zM) (w : Int32) : zMet shC σ 0 MX10_many yX10_many [zr 0, zi w] μ (fun rr μ' => rr = some (zi (vMany μ w)) ∧ μ' = μ) := by
  refine zmetF (by decide +kernel) rfl (Nat.le_of_ble_eq_true rfl) ?_
  show zX shC σ 0 MX10_many 0 [(0, zr 0), (1, zi w)] [] μ _
  refine zx_iload_n (k := 1) (nn := 1) dX10_many_0 rfl rfl rfl ?_
  by_cases h1_0 : w = 0
  · refine zx_sw h1_0 ?_
    refine zx_tabIn (tgt := 44) (off := 43) dX10_many_1 (by decide +kernel) (by decide +kernel) (by decide +kernel) (by decide) ?_
    refine zx_aload_n (k := 0) (nn := 45) dX10_many_44 rfl rfl rfl ?_
    refine zx_getR (q := 18) (nn := 48) flX10_28 rfl rfl dX10_many_45 rfl ?_
    refine zx_getI (nn := 51) flX10_337 rfl rfl dX10_many_48 rfl ?_
    refine zx_iret rfl dX10_many_51 ?_
    refine ⟨congrArg (fun x => some (zi x)) ?_, rfl⟩
    simp [vMany, h1_0]
  by_cases h1_1 : w = 1
  · refine zx_sw h1_1 ?_
    refine zx_tabIn (tgt := 52) (off := 51) dX10_many_1 (by decide +kernel) (by decide +kernel) (by decide +kernel) (by decide) ?_
    refine zx_aload_n (k := 0) (nn := 53) dX10_many_52 rfl rfl rfl ?_
    refine zx_getR (q := 1) (nn := 56) flX10_10 rfl rfl dX10_many_53 rfl ?_
    refine zx_getI (nn := 59) flX10_170 rfl rfl dX10_many_56 rfl ?_
    refine zx_iret rfl dX10_many_59 ?_
    refine ⟨congrArg (fun x => some (zi x)) ?_, rfl⟩
    simp [vMany, h1_0, h1_1]
  by_cases h1_2 : w = 2
  · refine zx_sw h1_2 ?_
    refine zx_tabIn (tgt := 60) (off := 59) dX10_many_1 (by decide +kernel) (by decide +kernel) (by decide +kernel) (by decide) ?_
    refine zx_aload_n (k := 0) (nn := 61) dX10_many_60 rfl rfl rfl ?_
    refine zx_getR (q := 18) (nn := 64) flX10_28 rfl rfl dX10_many_61 rfl ?_
    refine zx_getI (nn := 67) flX10_156 rfl rfl dX10_many_64 rfl ?_
    refine zx_iret rfl dX10_many_67 ?_
    refine ⟨congrArg (fun x => some (zi x)) ?_, rfl⟩
    simp [vMany, h1_0, h1_1, h1_2]
  by_cases h1_3 : w = 3
  · refine zx_sw h1_3 ?_
    refine zx_tabIn (tgt := 68) (off := 67) dX10_many_1 (by decide +kernel) (by decide +kernel) (by decide +kernel) (by decide) ?_
    refine zx_aload_n (k := 0) (nn := 69) dX10_many_68 rfl rfl rfl ?_
    refine zx_getR (q := 32) (nn := 72) flX10_38 rfl rfl dX10_many_69 rfl ?_
    refine zx_getI (nn := 75) flX10_231 rfl rfl dX10_many_72 rfl ?_
    refine zx_iret rfl dX10_many_75 ?_
    refine ⟨congrArg (fun x => some (zi x)) ?_, rfl⟩
    simp [vMany, h1_0, h1_1, h1_2, h1_3]
  by_cases h1_4 : w = 4
  · refine zx_sw h1_4 ?_
    refine zx_tabIn (tgt := 76) (off := 75) dX10_many_1 (by decide +kernel) (by decide +kernel) (by decide +kernel) (by decide) ?_
    refine zx_aload_n (k := 0) (nn := 77) dX10_many_76 rfl rfl rfl ?_
    refine zx_getR (q := 47) (nn := 80) flX10_61 rfl rfl dX10_many_77 rfl ?_
    refine zx_getI (nn := 83) flX10_257 rfl rfl dX10_many_80 rfl ?_
    refine zx_iret rfl dX10_many_83 ?_
    refine ⟨congrArg (fun x => some (zi x)) ?_, rfl⟩
    simp [vMany, h1_0, h1_1, h1_2, h1_3, h1_4]
  by_cases h1_5 : w = 5
  · refine zx_sw h1_5 ?_
    refine zx_tabIn (tgt := 84) (off := 83) dX10_many_1 (by decide +kernel) (by decide +kernel) (by decide +kernel) (by decide) ?_
    refine zx_aload_n (k := 0) (nn := 85) dX10_many_84 rfl rfl rfl ?_
    refine zx_getR (q := 7) (nn := 88) flX10_19 rfl rfl dX10_many_85 rfl ?_
    refine zx_getI (nn := 91) flX10_159 rfl rfl dX10_many_88 rfl ?_
    refine zx_iret rfl dX10_many_91 ?_
    refine ⟨congrArg (fun x => some (zi x)) ?_, rfl⟩
    simp [vMany, h1_0, h1_1, h1_2, h1_3, h1_4, h1_5]
  by_cases h1_6 : w = 6
  · refine zx_sw h1_6 ?_
    refine zx_tabIn (tgt := 92) (off := 91) dX10_many_1 (by decide +kernel) (by decide +kernel) (by decide +kernel) (by decide) ?_
    refine zx_aload_n (k := 0) (nn := 93) dX10_many_92 rfl rfl rfl ?_
    refine zx_getR (q := 65) (nn := 96) flX10_84 rfl rfl dX10_many_93 rfl ?_
    refine zx_getI (nn := 99) flX10_313 rfl rfl dX10_many_96 rfl ?_
    refine zx_iret rfl dX10_many_99 ?_
    refine ⟨congrArg (fun x => some (zi x)) ?_, rfl⟩
    simp [vMany, h1_0, h1_1, h1_2, h1_3, h1_4, h1_5, h1_6]
  refine zx_tabOut (tgt := 100) dX10_many_1 (zsw_out (lo := 0) (hi := 6) (fun k hk1 hk2 => by rcases (show k = 0 ∨ k = 1 ∨ k = 2 ∨ k = 3 ∨ k = 4 ∨ k = 5 ∨ k = 6 by omega) with rfl | rfl | rfl | rfl | rfl | rfl | rfl; exact lv_neT h1_0 rfl; exact lv_neT h1_1 rfl; exact lv_neT h1_2 rfl; exact lv_neT h1_3 rfl; exact lv_neT h1_4 rfl; exact lv_neT h1_5 rfl; exact lv_neT h1_6 rfl)) (by decide) ?_
  refine zx_iconst (v := -1) (nn := 101) rfl dX10_many_100 rfl ?_
  refine zx_iret rfl dX10_many_101 ?_
  refine ⟨congrArg (fun x => some (zi x)) ?_, rfl⟩
  simp [vMany, h1_0, h1_1, h1_2, h1_3, h1_4, h1_5, h1_6]
set_option maxHeartbeats 4000000 in
set_option maxRecDepth 100000 in
theorem eX10_keep_0 (σ : zG) (μ : zM) (rok : cROK 1 μ) : zMet shC σ 2 MX10_keep yX10_keep [zr 0] μ (fun rr μ' => rr = some (zi 1) ∧ cS 73 μ' = cS 18 μ ∧ pREq (cR 67 μ') (cR 1 μ) ∧ cROK 67 μ' ∧ μ' 80 4 = μ 32 4 ∧ (∀ r, r < 6 → ∀ w, w < 4 → cP 80 μ' r w = cP 32 μ r w) ∧ μ' 0 14 = 1 ∧ zJ [0, 67, 68, 69, 70, 71, 73, 74, 75, 76, 77, 78, 80, 81, 82, 83, 84] μ μ') := by
  refine zmetF (by decide +kernel) rfl (Nat.le_of_ble_eq_true rfl) ?_
  show zX shC σ 2 MX10_keep 0 [(0, zr 0)] [] μ _
  refine zx_aload_n (k := 0) (nn := 1) dX10_keep_0 rfl rfl rfl ?_
  refine zx_getR (q := 73) (nn := 4) flX10_91 rfl rfl dX10_keep_1 rfl ?_
  refine zx_aload_n (k := 0) (nn := 5) dX10_keep_4 rfl rfl rfl ?_
  refine zx_getR (q := 18) (nn := 8) flX10_28 rfl rfl dX10_keep_5 rfl ?_
  refine zx_callV (nn := 11) (k := 73) (d' := 1) (as := [zr 18]) (rest := []) (n := 1) (eX8_copyFrom_73_18 σ μ) kX8_copyFrom mlX10_340 rfl rfl rfl (by decide) rfl rfl (Nat.le_of_ble_eq_true rfl) dX10_keep_8 rfl ?_
  rintro _ ν1 ⟨rfl, a1, a2⟩
  show zX shC σ 2 MX10_keep 11 [(0, zr 0)] [] ν1 _
  refine zx_aload_n (k := 0) (nn := 12) dX10_keep_11 rfl rfl rfl ?_
  refine zx_getR (q := 67) (nn := 15) flX10_88 rfl rfl dX10_keep_12 rfl ?_
  refine zx_aload_n (k := 0) (nn := 16) dX10_keep_15 rfl rfl rfl ?_
  refine zx_getR (q := 1) (nn := 19) flX10_10 rfl rfl dX10_keep_16 rfl ?_
  refine zx_callV (nn := 22) (k := 67) (d' := 1) (as := [zr 1]) (rest := []) (n := 1) (eX5_copyFrom_67_1 σ ν1 (cROK_μ (a2 1 (by decide)).symm (a2 4 (by decide)).symm rok)) kX5_copyFrom mlX10_344 rfl rfl rfl (by decide) rfl rfl (Nat.le_of_ble_eq_true rfl) dX10_keep_19 rfl ?_
  rintro _ ν2 ⟨rfl, b1, b2, b3⟩
  show zX shC σ 2 MX10_keep 22 [(0, zr 0)] [] ν2 _
  refine zx_aload_n (k := 0) (nn := 23) dX10_keep_22 rfl rfl rfl ?_
  refine zx_getR (q := 80) (nn := 26) flX10_94 rfl rfl dX10_keep_23 rfl ?_
  refine zx_aload_n (k := 0) (nn := 27) dX10_keep_26 rfl rfl rfl ?_
  refine zx_getR (q := 32) (nn := 30) flX10_38 rfl rfl dX10_keep_27 rfl ?_
  refine zx_callV (nn := 33) (k := 80) (d' := 1) (as := [zr 32]) (rest := []) (n := 1) (eX1_copyFrom_80_32 σ ν2) kX1_copyFrom mlX10_346 rfl rfl rfl (by decide) rfl rfl (Nat.le_of_ble_eq_true rfl) dX10_keep_30 rfl ?_
  rintro _ ν3 ⟨rfl, c1, c2, c3⟩
  show zX shC σ 2 MX10_keep 33 [(0, zr 0)] [] ν3 _
  refine zx_aload_n (k := 0) (nn := 34) dX10_keep_33 rfl rfl rfl ?_
  refine zx_iconst (v := 1) (nn := 35) rfl dX10_keep_34 rfl ?_
  refine zx_putI (nn := 38) fpX10_97 rfl rfl rfl rfl dX10_keep_35 rfl ?_
  refine zx_iconst (v := 1) (nn := 39) rfl dX10_keep_38 rfl ?_
  refine zx_iret rfl dX10_keep_39 ?_
  refine ⟨rfl, ?_⟩
  have z3 : zJ [0, 67, 68, 69, 70, 71, 73, 74, 75, 76, 77, 78, 80, 81, 82, 83, 84] μ (zp ν3 0 14 1) := (((a2.mono (by decide)).tr (b3.mono (by decide))).tr (c3.mono (by decide))).p (by decide)
  refine ⟨?_, ?_, ?_, ?_, ?_, ?_, z3⟩
  · rw [← a1]; exact cS_eq (fun q hq => ((zp_ne (by omega)).trans (c3 q (by simp; omega))).trans (b3 q (by simp; omega)))
  · have e1 : cR 67 ((zp ν3 0 14 1)) = cR 67 ν2 := cR_μ (fun q h1 h2 => (zp_ne (by omega)).trans (c3 q (by simp; omega)))
    have e2 : cR 1 ν1 = cR 1 μ := cR_μ (fun q h1 h2 => a2 q (by simp; omega))
    rw [e1, ← e2]; exact b1
  · exact cROK_μ ((zp_ne (by decide)).trans (c3 67 (by decide))).symm ((zp_ne (by decide)).trans (c3 70 (by decide))).symm b2
  · rw [zp_ne (by decide), c1, b3 32 (by decide), a2 32 (by decide)]
  · intro r hr w hw
    refine (cP_p (by decide) |> fun e => congrFun (congrFun e r) w).trans ((c2 r hr w hw).trans ?_)
    unfold cP
    rw [b3 _ (by simp; omega), a2 _ (by simp; omega)]
  · rw [zp_eq]; exact pk_us
set_option maxHeartbeats 4000000 in
set_option maxRecDepth 100000 in
theorem eX10_again_0 (σ : zG) (μ : zM) (rok : cROK 67 μ) : zMet shC σ 2 MX10_again yX10_again [zr 0] μ (fun rr μ' => rr = some (zi (if μ 0 14 = 0 then -3 else cS 73 μ 0)) ∧ if μ 0 14 = 0 then μ' = μ else cS 18 μ' = cS 73 μ ∧ pREq (cR 1 μ') (cR 67 μ) ∧ cROK 1 μ' ∧ μ' 32 4 = μ 80 4 ∧ (∀ r, r < 6 → ∀ w, w < 4 → cP 32 μ' r w = cP 80 μ r w) ∧ zJ [1, 2, 3, 4, 5, 18, 19, 20, 21, 22, 23, 32, 33, 34, 35, 36] μ μ') := by
  refine zmetF (by decide +kernel) rfl (Nat.le_of_ble_eq_true rfl) ?_
  show zX shC σ 2 MX10_again 0 [(0, zr 0)] [] μ _
  refine zx_aload_n (k := 0) (nn := 1) dX10_again_0 rfl rfl rfl ?_
  refine zx_getI (nn := 4) flX10_97 rfl rfl dX10_again_1 rfl ?_
  refine zx_if_ne (tgt := 10) (nn := 7) dX10_again_4 (by decide) rfl (fun h4 => ?_) (fun h4 => ?_)
  · refine zx_aload_n (k := 0) (nn := 11) dX10_again_10 rfl rfl rfl ?_
    refine zx_getR (q := 18) (nn := 14) flX10_28 rfl rfl dX10_again_11 rfl ?_
    refine zx_aload_n (k := 0) (nn := 15) dX10_again_14 rfl rfl rfl ?_
    refine zx_getR (q := 73) (nn := 18) flX10_91 rfl rfl dX10_again_15 rfl ?_
    refine zx_callV (nn := 21) (k := 18) (d' := 1) (as := [zr 73]) (rest := []) (n := 1) (eX8_copyFrom_18_73 σ μ) kX8_copyFrom mlX10_340 rfl rfl rfl (by decide) rfl rfl (Nat.le_of_ble_eq_true rfl) dX10_again_18 rfl ?_
    rintro _ ν1 ⟨rfl, a1, a2⟩
    show zX shC σ 2 MX10_again 21 [(0, zr 0)] [] ν1 _
    refine zx_aload_n (k := 0) (nn := 22) dX10_again_21 rfl rfl rfl ?_
    refine zx_getR (q := 1) (nn := 25) flX10_10 rfl rfl dX10_again_22 rfl ?_
    refine zx_aload_n (k := 0) (nn := 26) dX10_again_25 rfl rfl rfl ?_
    refine zx_getR (q := 67) (nn := 29) flX10_88 rfl rfl dX10_again_26 rfl ?_
    refine zx_callV (nn := 32) (k := 1) (d' := 1) (as := [zr 67]) (rest := []) (n := 1) (eX5_copyFrom_1_67 σ ν1 (cROK_μ (a2 67 (by decide)).symm (a2 70 (by decide)).symm rok)) kX5_copyFrom mlX10_344 rfl rfl rfl (by decide) rfl rfl (Nat.le_of_ble_eq_true rfl) dX10_again_29 rfl ?_
    rintro _ ν2 ⟨rfl, b1, b2, b3⟩
    show zX shC σ 2 MX10_again 32 [(0, zr 0)] [] ν2 _
    refine zx_aload_n (k := 0) (nn := 33) dX10_again_32 rfl rfl rfl ?_
    refine zx_getR (q := 32) (nn := 36) flX10_38 rfl rfl dX10_again_33 rfl ?_
    refine zx_aload_n (k := 0) (nn := 37) dX10_again_36 rfl rfl rfl ?_
    refine zx_getR (q := 80) (nn := 40) flX10_94 rfl rfl dX10_again_37 rfl ?_
    refine zx_callV (nn := 43) (k := 32) (d' := 1) (as := [zr 80]) (rest := []) (n := 1) (eX1_copyFrom_32_80 σ ν2) kX1_copyFrom mlX10_346 rfl rfl rfl (by decide) rfl rfl (Nat.le_of_ble_eq_true rfl) dX10_again_40 rfl ?_
    rintro _ ν3 ⟨rfl, c1, c2, c3⟩
    show zX shC σ 2 MX10_again 43 [(0, zr 0)] [] ν3 _
    refine zx_aload_n (k := 0) (nn := 44) dX10_again_43 rfl rfl rfl ?_
    refine zx_getR (q := 18) (nn := 47) flX10_28 rfl rfl dX10_again_44 rfl ?_
    refine zx_getI (nn := 50) flX10_337 rfl rfl dX10_again_47 rfl ?_
    refine zx_iret rfl dX10_again_50 ?_
    refine ⟨congrArg (fun x => some (zi x)) ?_, ?_⟩
    · rw [if_neg h4, ← a1]
      show ν3 18 7 = _
      rw [c3 18 (by decide), b3 18 (by decide)]
      rfl
    rw [if_neg h4]
    have z3 : zJ [1, 2, 3, 4, 5, 18, 19, 20, 21, 22, 23, 32, 33, 34, 35, 36] μ ν3 := (((a2.mono (by decide)).tr (b3.mono (by decide))).tr (c3.mono (by decide)))
    refine ⟨?_, ?_, ?_, ?_, ?_, z3⟩
    · rw [← a1]; exact cS_eq (fun q hq => (c3 q (by simp; omega)).trans (b3 q (by simp; omega)))
    · have e1 : cR 1 ν3 = cR 1 ν2 := cR_μ (fun q h1 h2 => (c3 q (by simp; omega)))
      have e2 : cR 67 ν1 = cR 67 μ := cR_μ (fun q h1 h2 => a2 q (by simp; omega))
      rw [e1, ← e2]; exact b1
    · exact cROK_μ (c3 1 (by decide)).symm (c3 4 (by decide)).symm b2
    · rw [c1, b3 80 (by decide), a2 80 (by decide)]
    · intro r hr w hw
      refine (c2 r hr w hw).trans ?_
      unfold cP
      rw [b3 _ (by simp; omega), a2 _ (by simp; omega)]
  · refine zx_bipush (v := -3) (nn := 9) rfl dX10_again_7 rfl ?_
    refine zx_iret rfl dX10_again_9 ?_
    exact ⟨congrArg (fun x => some (zi x)) (by rw [if_pos h4]), by rw [if_pos h4]⟩
