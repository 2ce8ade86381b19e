/-! the reference's thing: the trace goes on by L, parted or not -/
def gT (μ ν : zM) (t : Nat) (L : List Int32) (p : Bool) : Prop := zJ [0, 24] μ ν ∧ (∀ j, j ≠ 35 → j ≠ 39 → ν 0 j = μ 0 j) ∧ ν 0 35 = nI (t + L.length) ∧ ν 0 39 = zb p ∧ (∀ i, i < t → ν 24 i = μ 24 i) ∧ ∀ i, i < L.length → ν 24 (t + i) = L.getD i 0
theorem getD_l {L K : List Int32} {i : Nat} (h : i < L.length) : (L ++ K).getD i 0 = L.getD i 0 := by
  simp only [List.getD_eq_getElem?_getD]
  rw [List.getElem?_append_left h]
theorem getD_r {L K : List Int32} {i : Nat} (h : L.length ≤ i) : (L ++ K).getD i 0 = K.getD (i - L.length) 0 := by
  simp only [List.getD_eq_getElem?_getD]
  rw [List.getElem?_append_right h]
theorem gT_rf {μ : zM} {t : Nat} {p : Bool} (h : μ 0 35 = nI t) (hp : μ 0 39 = zb p) : gT μ μ t [] p := ⟨zJ.rf, fun _ _ _ => rfl, h, hp, fun _ _ => rfl, fun i h => absurd h (by simp)⟩
theorem gT_tr {μ ν ξ : zM} {t : Nat} {L K : List Int32} {p q : Bool} (h1 : gT μ ν t L p) (h2 : gT ν ξ (t + L.length) K q) : gT μ ξ t (L ++ K) q := by
  obtain ⟨a1, a2, a3, a4, a5, a6⟩ := h1
  obtain ⟨b1, b2, b3, b4, b5, b6⟩ := h2
  refine ⟨a1.tr b1, fun j x y => (b2 j x y).trans (a2 j x y), ?_, b4, fun i hi => (b5 i (by omega)).trans (a5 i hi), fun i hi => ?_⟩
  · rw [b3, List.length_append, Nat.add_assoc]
  · rw [List.length_append] at hi
    by_cases c : i < L.length
    · rw [b5 (t + i) (by omega), a6 i c, getD_l c]
    · rw [getD_r (by omega)]
      have := b6 (i - L.length) (by omega)
      rw [show t + L.length + (i - L.length) = t + i by omega] at this
      exact this
theorem gT_39 {μ ν : zM} {t : Nat} {L : List Int32} {p : Bool} (q : Bool) (h : gT μ ν t L p) : gT μ (zp ν 0 39 (zb q)) t L q := by
  obtain ⟨a1, a2, a3, a4, a5, a6⟩ := h
  exact ⟨a1.p (by decide), fun j x y => by rw [zp_eq, pk_un y]; exact a2 j x y, by rw [zp_eq, pk_un (by decide)]; exact a3, by rw [zp_eq]; exact pk_us, fun i hi => by rw [zp_ne (by decide)]; exact a5 i hi, fun i hi => by rw [zp_ne (by decide)]; exact a6 i hi⟩
theorem gT_b {μ : zM} {t : Nat} {v : Int32} {p : Bool} (hp : μ 0 39 = zb p) : gT μ (zp (zp μ 24 t v) 0 35 (nI (t + 1))) t [v] p := by
  refine ⟨(zJ.rf.p (by decide)).p (by decide), fun j x y => ?_, ?_, ?_, fun i hi => ?_, fun i hi => ?_⟩
  · rw [zp_eq, pk_un x, zp_ne (by decide)]
  · rw [zp_eq, pk_us]; rfl
  · rw [zp_eq, pk_un (by decide), zp_ne (by decide)]; exact hp
  · rw [zp_ne (by decide), zp_eq, pk_un (by omega)]
  · have : i = 0 := by simp at hi; exact hi
    subst this
    rw [zp_ne (by decide), zp_eq]
    exact pk_us
theorem div_m1 {x d : Int32} (h : d = -1) : -x = x / d := by
  rw [h]
  apply Int32.toInt_inj.mp
  rw [Int32.toInt_neg, Int32.toInt_div, ztm1]
  congr 1
  rw [Int.tdiv_neg, Int.tdiv_one]
theorem sub_ne0 {a n : Int32} (h : ¬ a = n) : ¬ a - n = 0 := fun q => h (by
  have := Int32.sub_add_cancel a n
  rw [q] at this
  rw [← this]
  exact Int32.zero_add _)
set_option maxHeartbeats 4000000 in
set_option maxRecDepth 100000 in
theorem eX11_begins_0 (σ : zG) (μ : zM) (b : Int32) (t : Nat) (ht : μ 0 35 = nI t) (hl : t + 1 ≤ 30) (hp : μ 0 39 = 0) : zMet shR σ 0 MX11_begins yX11_begins [zr 0, zi b] μ (fun rr μ' => rr = none ∧ gT μ μ' t [b] false) := by
  refine zmetF (by decide +kernel) rfl (Nat.le_of_ble_eq_true rfl) ?_
  show zX shR σ 0 MX11_begins 0 [(0, zr 0), (1, zi b)] [] μ _
  refine zx_aload_n (k := 0) (nn := 1) dX11_begins_0 rfl rfl rfl ?_
  refine zx_getI (nn := 4) flX11_399 rfl rfl dX11_begins_1 rfl ?_
  rw [show μ 0 35 = nI t from ht]
  show zX shR σ 0 MX11_begins 4 [(0, zr 0), (1, zi b)] [zi (nI t)] μ _
  refine zx_bipush (v := 30) (nn := 6) rfl dX11_begins_4 rfl ?_
  refine zx_icmp_ge (tgt := 29) (nn := 9) dX11_begins_6 (by decide) rfl (fun h6 => ?_) (fun h6 => ?_)
  · exact absurd (nI_le_le (b := 30) (a := t) h6 (by omega)) (by omega)
  · refine zx_aload_n (k := 0) (nn := 10) dX11_begins_9 rfl rfl rfl ?_
    refine zx_getR (q := 24) (nn := 13) flX11_67 rfl rfl dX11_begins_10 rfl ?_
    refine zx_aload_n (k := 0) (nn := 14) dX11_begins_13 rfl rfl rfl ?_
    refine zx_getI (nn := 17) flX11_399 rfl rfl dX11_begins_14 rfl ?_
    rw [show μ 0 35 = nI t from ht]
    show zX shR σ 0 MX11_begins 17 [(0, zr 0), (1, zi b)] [zi (nI t), zr 24] μ _
    refine zx_iload_n (k := 1) (nn := 18) dX11_begins_17 rfl rfl rfl ?_
    refine zx_iast_n (j := t) (nn := 19) rfl (by omega) (by decide) dX11_begins_18 rfl ?_
    refine zx_aload_n (k := 0) (nn := 20) dX11_begins_19 rfl rfl rfl ?_
    refine zx_dupr (nn := 21) dX11_begins_20 rfl ?_
    refine zx_getI (nn := 24) flX11_399 rfl rfl dX11_begins_21 rfl ?_
    show zX shR σ 0 MX11_begins 24 [(0, zr 0), (1, zi b)] [zi (μ 0 35), zr 0] (zp μ 24 t b) _
    rw [show μ 0 35 = nI t from ht]
    show zX shR σ 0 MX11_begins 24 [(0, zr 0), (1, zi b)] [zi (nI t), zr 0] (zp μ 24 t b) _
    refine zx_iconst (v := 1) (nn := 25) rfl dX11_begins_24 rfl ?_
    refine zx_iadd (nn := 26) dX11_begins_25 rfl ?_
    rw [show (nI t) + 1 = nI (t + 1) from nI_1 t]
    show zX shR σ 0 MX11_begins 26 [(0, zr 0), (1, zi b)] [zi (nI (t + 1)), zr 0] (zp μ 24 t b) _
    refine zx_putI (nn := 29) fpX11_399 rfl rfl rfl rfl dX11_begins_26 rfl ?_
    refine zx_vret rfl dX11_begins_29 ?_
    exact ⟨rfl, gT_b hp⟩
set_option maxHeartbeats 4000000 in
set_option maxRecDepth 100000 in
theorem eX11_above_1 (σ : zG) (μ : zM) : zMet shR σ 0 MX11_above yX11_above [zi 1] μ (fun rr μ' => rr = some (zi 0) ∧ μ' = μ) := by
  refine zmetF (by decide +kernel) rfl (Nat.le_of_ble_eq_true rfl) ?_
  show zX shR σ 0 MX11_above 0 [(0, zi 1)] [] μ _
  refine zx_iload_n (k := 0) (nn := 1) dX11_above_0 rfl rfl rfl ?_
  refine zx_iconst (v := 3) (nn := 2) rfl dX11_above_1 rfl ?_
  refine zx_icmp_ne (tgt := 9) (nn := 5) dX11_above_2 (by decide) rfl (fun h2 => ?_) (fun h2 => ?_)
  · refine zx_iload_n (k := 0) (nn := 10) dX11_above_9 rfl rfl rfl ?_
    refine zx_iconst (v := 5) (nn := 11) rfl dX11_above_10 rfl ?_
    refine zx_icmp_ne (tgt := 18) (nn := 14) dX11_above_11 (by decide) rfl (fun h11 => ?_) (fun h11 => ?_)
    · refine zx_iconst (v := 0) (nn := 19) rfl dX11_above_18 rfl ?_
      refine zx_iret rfl dX11_above_19 ?_
      exact ⟨rfl, rfl⟩
    · exact absurd h11 (by decide)
  · exact absurd h2 (by decide)
set_option maxHeartbeats 4000000 in
set_option maxRecDepth 100000 in
theorem eX11_above_2 (σ : zG) (μ : zM) : zMet shR σ 0 MX11_above yX11_above [zi 2] μ (fun rr μ' => rr = some (zi 0) ∧ μ' = μ) := by
  refine zmetF (by decide +kernel) rfl (Nat.le_of_ble_eq_true rfl) ?_
  show zX shR σ 0 MX11_above 0 [(0, zi 2)] [] μ _
  refine zx_iload_n (k := 0) (nn := 1) dX11_above_0 rfl rfl rfl ?_
  refine zx_iconst (v := 3) (nn := 2) rfl dX11_above_1 rfl ?_
  refine zx_icmp_ne (tgt := 9) (nn := 5) dX11_above_2 (by decide) rfl (fun h2 => ?_) (fun h2 => ?_)
  · refine zx_iload_n (k := 0) (nn := 10) dX11_above_9 rfl rfl rfl ?_
    refine zx_iconst (v := 5) (nn := 11) rfl dX11_above_10 rfl ?_
    refine zx_icmp_ne (tgt := 18) (nn := 14) dX11_above_11 (by decide) rfl (fun h11 => ?_) (fun h11 => ?_)
    · refine zx_iconst (v := 0) (nn := 19) rfl dX11_above_18 rfl ?_
      refine zx_iret rfl dX11_above_19 ?_
      exact ⟨rfl, rfl⟩
    · exact absurd h11 (by decide)
  · exact absurd h2 (by decide)
set_option maxHeartbeats 4000000 in
set_option maxRecDepth 100000 in
theorem eX11_above_3 (σ : zG) (μ : zM) : zMet shR σ 0 MX11_above yX11_above [zi 3] μ (fun rr μ' => rr = some (zi 2) ∧ μ' = μ) := by
  refine zmetF (by decide +kernel) rfl (Nat.le_of_ble_eq_true rfl) ?_
  show zX shR σ 0 MX11_above 0 [(0, zi 3)] [] μ _
  refine zx_iload_n (k := 0) (nn := 1) dX11_above_0 rfl rfl rfl ?_
  refine zx_iconst (v := 3) (nn := 2) rfl dX11_above_1 rfl ?_
  refine zx_icmp_ne (tgt := 9) (nn := 5) dX11_above_2 (by decide) rfl (fun h2 => ?_) (fun h2 => ?_)
  · exact absurd h2 (by decide)
  · refine zx_iconst (v := 2) (nn := 6) rfl dX11_above_5 rfl ?_
    refine zx_goto (tgt := 19) dX11_above_6 (by decide) ?_
    refine zx_iret rfl dX11_above_19 ?_
    exact ⟨rfl, rfl⟩
set_option maxHeartbeats 4000000 in
set_option maxRecDepth 100000 in
theorem eX11_above_4 (σ : zG) (μ : zM) : zMet shR σ 0 MX11_above yX11_above [zi 4] μ (fun rr μ' => rr = some (zi 0) ∧ μ' = μ) := by
  refine zmetF (by decide +kernel) rfl (Nat.le_of_ble_eq_true rfl) ?_
  show zX shR σ 0 MX11_above 0 [(0, zi 4)] [] μ _
  refine zx_iload_n (k := 0) (nn := 1) dX11_above_0 rfl rfl rfl ?_
  refine zx_iconst (v := 3) (nn := 2) rfl dX11_above_1 rfl ?_
  refine zx_icmp_ne (tgt := 9) (nn := 5) dX11_above_2 (by decide) rfl (fun h2 => ?_) (fun h2 => ?_)
  · refine zx_iload_n (k := 0) (nn := 10) dX11_above_9 rfl rfl rfl ?_
    refine zx_iconst (v := 5) (nn := 11) rfl dX11_above_10 rfl ?_
    refine zx_icmp_ne (tgt := 18) (nn := 14) dX11_above_11 (by decide) rfl (fun h11 => ?_) (fun h11 => ?_)
    · refine zx_iconst (v := 0) (nn := 19) rfl dX11_above_18 rfl ?_
      refine zx_iret rfl dX11_above_19 ?_
      exact ⟨rfl, rfl⟩
    · exact absurd h11 (by decide)
  · exact absurd h2 (by decide)
set_option maxHeartbeats 4000000 in
set_option maxRecDepth 100000 in
theorem eX11_above_5 (σ : zG) (μ : zM) : zMet shR σ 0 MX11_above yX11_above [zi 5] μ (fun rr μ' => rr = some (zi 4) ∧ μ' = μ) := by
  refine zmetF (by decide +kernel) rfl (Nat.le_of_ble_eq_true rfl) ?_
  show zX shR σ 0 MX11_above 0 [(0, zi 5)] [] μ _
  refine zx_iload_n (k := 0) (nn := 1) dX11_above_0 rfl rfl rfl ?_
  refine zx_iconst (v := 3) (nn := 2) rfl dX11_above_1 rfl ?_
  refine zx_icmp_ne (tgt := 9) (nn := 5) dX11_above_2 (by decide) rfl (fun h2 => ?_) (fun h2 => ?_)
  · refine zx_iload_n (k := 0) (nn := 10) dX11_above_9 rfl rfl rfl ?_
    refine zx_iconst (v := 5) (nn := 11) rfl dX11_above_10 rfl ?_
    refine zx_icmp_ne (tgt := 18) (nn := 14) dX11_above_11 (by decide) rfl (fun h11 => ?_) (fun h11 => ?_)
    · exact absurd h11 (by decide)
    · refine zx_iconst (v := 4) (nn := 15) rfl dX11_above_14 rfl ?_
      refine zx_goto (tgt := 19) dX11_above_15 (by decide) ?_
      refine zx_iret rfl dX11_above_19 ?_
      exact ⟨rfl, rfl⟩
  · exact absurd h2 (by decide)
set_option maxHeartbeats 4000000 in
set_option maxRecDepth 100000 in
theorem eX11_above_0 (σ : zG) (μ : zM) : zMet shR σ 0 MX11_above yX11_above [zi 0] μ (fun rr μ' => rr = some (zi 0) ∧ μ' = μ) := by
  refine zmetF (by decide +kernel) rfl (Nat.le_of_ble_eq_true rfl) ?_
  show zX shR σ 0 MX11_above 0 [(0, zi 0)] [] μ _
  refine zx_iload_n (k := 0) (nn := 1) dX11_above_0 rfl rfl rfl ?_
  refine zx_iconst (v := 3) (nn := 2) rfl dX11_above_1 rfl ?_
  refine zx_icmp_ne (tgt := 9) (nn := 5) dX11_above_2 (by decide) rfl (fun h2 => ?_) (fun h2 => ?_)
  · refine zx_iload_n (k := 0) (nn := 10) dX11_above_9 rfl rfl rfl ?_
    refine zx_iconst (v := 5) (nn := 11) rfl dX11_above_10 rfl ?_
    refine zx_icmp_ne (tgt := 18) (nn := 14) dX11_above_11 (by decide) rfl (fun h11 => ?_) (fun h11 => ?_)
    · refine zx_iconst (v := 0) (nn := 19) rfl dX11_above_18 rfl ?_
      refine zx_iret rfl dX11_above_19 ?_
      exact ⟨rfl, rfl⟩
    · exact absurd h11 (by decide)
  · exact absurd h2 (by decide)
set_option maxHeartbeats 4000000 in
set_option maxRecDepth 100000 in
theorem eX11_aims_0 (σ : zG) (μ : zM) (x : Int32) (t : Nat) (a n : Int32) (ht : μ 0 35 = nI t) (hl : t + 1 ≤ 30) (hp : μ 0 39 = 0) (ha : μ 0 38 = a) (hn : μ 0 37 = n) : zMet shR σ 1 MX11_aims yX11_aims [zr 0, zi 0, zi x] μ (fun rr μ' => rr = some (zi (x + a)) ∧ gT μ μ' t [10] false) := by
  have c0 : gT μ μ t [] false := gT_rf ht hp
  refine zmetF (by decide +kernel) rfl (Nat.le_of_ble_eq_true rfl) ?_
  show zX shR σ 1 MX11_aims 0 [(0, zr 0), (1, zi 0), (2, zi x)] [] μ _
  refine zx_aload_n (k := 0) (nn := 1) dX11_aims_0 rfl rfl rfl ?_
  refine zx_getI (nn := 4) flX11_402 rfl rfl dX11_aims_1 rfl ?_
  rw [show μ 0 39 = 0 from c0.2.2.2.1]
  show zX shR σ 1 MX11_aims 4 [(0, zr 0), (1, zi 0), (2, zi x)] [zi 0] μ _
  refine zx_if_eq (tgt := 9) (nn := 7) dX11_aims_4 (by decide) rfl (fun h4 => ?_) (fun h4 => ?_)
  · refine zx_iload_n (k := 1) (nn := 10) dX11_aims_9 rfl rfl rfl ?_
    refine zx_tabIn (tgt := 40) (off := 30) dX11_aims_10 (by decide +kernel) (by decide +kernel) (by decide +kernel) (by decide) ?_
    refine zx_aload_n (k := 0) (nn := 41) dX11_aims_40 rfl rfl rfl ?_
    refine zx_bipush (v := 10) (nn := 43) rfl dX11_aims_41 rfl ?_
    refine zx_callV (nn := 46) (k := 0) (d' := 0) (as := [zi 10]) (rest := []) (n := 1) (eX11_begins_0 σ μ 10 t c0.2.2.1 (by omega) c0.2.2.2.1) kX11_begins mlX11_406 rfl rfl rfl (by decide) rfl rfl (Nat.le_of_ble_eq_true rfl) dX11_aims_43 rfl ?_
    rintro _ ν1 ⟨rfl, q1⟩
    show zX shR σ 1 MX11_aims 46 [(0, zr 0), (1, zi 0), (2, zi x)] [] ν1 _
    have c1 : gT μ ν1 t [10] false := gT_tr c0 q1
    refine zx_iload_n (k := 2) (nn := 47) dX11_aims_46 rfl rfl rfl ?_
    refine zx_aload_n (k := 0) (nn := 48) dX11_aims_47 rfl rfl rfl ?_
    refine zx_getI (nn := 51) flX11_409 rfl rfl dX11_aims_48 rfl ?_
    rw [show ν1 0 38 = a from (c1.2.1 38 (by decide) (by decide)).trans ha]
    show zX shR σ 1 MX11_aims 51 [(0, zr 0), (1, zi 0), (2, zi x)] [zi a, zi x] ν1 _
    refine zx_iadd (nn := 52) dX11_aims_51 rfl ?_
    refine zx_iret rfl dX11_aims_52 ?_
    exact ⟨rfl, c1⟩
  · exact absurd h4 (by decide)
set_option maxHeartbeats 4000000 in
set_option maxRecDepth 100000 in
theorem eX11_aims_1 (σ : zG) (μ : zM) (x : Int32) (t : Nat) (a n : Int32) (ht : μ 0 35 = nI t) (hl : t + 2 ≤ 30) (hp : μ 0 39 = 0) (ha : μ 0 38 = a) (hn : μ 0 37 = n) : zMet shR σ 2 MX11_aims yX11_aims [zr 0, zi 1, zi x] μ (fun rr μ' => rr = some (zi ((x + a) * 2)) ∧ gT μ μ' t [20, 10] false) := by
  have c0 : gT μ μ t [] false := gT_rf ht hp
  refine zmetF (by decide +kernel) rfl (Nat.le_of_ble_eq_true rfl) ?_
  show zX shR σ 2 MX11_aims 0 [(0, zr 0), (1, zi 1), (2, zi x)] [] μ _
  refine zx_aload_n (k := 0) (nn := 1) dX11_aims_0 rfl rfl rfl ?_
  refine zx_getI (nn := 4) flX11_402 rfl rfl dX11_aims_1 rfl ?_
  rw [show μ 0 39 = 0 from c0.2.2.2.1]
  show zX shR σ 2 MX11_aims 4 [(0, zr 0), (1, zi 1), (2, zi x)] [zi 0] μ _
  refine zx_if_eq (tgt := 9) (nn := 7) dX11_aims_4 (by decide) rfl (fun h4 => ?_) (fun h4 => ?_)
  · refine zx_iload_n (k := 1) (nn := 10) dX11_aims_9 rfl rfl rfl ?_
    refine zx_tabIn (tgt := 53) (off := 43) dX11_aims_10 (by decide +kernel) (by decide +kernel) (by decide +kernel) (by decide) ?_
    refine zx_aload_n (k := 0) (nn := 54) dX11_aims_53 rfl rfl rfl ?_
    refine zx_bipush (v := 20) (nn := 56) rfl dX11_aims_54 rfl ?_
    refine zx_callV (nn := 59) (k := 0) (d' := 0) (as := [zi 20]) (rest := []) (n := 1) (eX11_begins_0 σ μ 20 t c0.2.2.1 (by omega) c0.2.2.2.1) kX11_begins mlX11_406 rfl rfl rfl (by decide) rfl rfl (Nat.le_of_ble_eq_true rfl) dX11_aims_56 rfl ?_
    rintro _ ν1 ⟨rfl, q1⟩
    show zX shR σ 2 MX11_aims 59 [(0, zr 0), (1, zi 1), (2, zi x)] [] ν1 _
    have c1 : gT μ ν1 t [20] false := gT_tr c0 q1
    refine zx_aload_n (k := 0) (nn := 60) dX11_aims_59 rfl rfl rfl ?_
    refine zx_iconst (v := 0) (nn := 61) rfl dX11_aims_60 rfl ?_
    refine zx_iload_n (k := 2) (nn := 62) dX11_aims_61 rfl rfl rfl ?_
    refine zx_callV (nn := 65) (k := 0) (d' := 1) (as := [zi 0, zi x]) (rest := []) (n := 2) (eX11_aims_0 σ ν1 x (t + 1) a n c1.2.2.1 (by omega) c1.2.2.2.1 ((c1.2.1 38 (by decide) (by decide)).trans ha) ((c1.2.1 37 (by decide) (by decide)).trans hn)) kX11_aims mlX11_411 rfl rfl rfl (by decide) rfl rfl (Nat.le_of_ble_eq_true rfl) dX11_aims_62 rfl ?_
    rintro _ ν2 ⟨rfl, q2⟩
    show zX shR σ 2 MX11_aims 65 [(0, zr 0), (1, zi 1), (2, zi x)] [zi (x + a)] ν2 _
    have c2 : gT μ ν2 t [20, 10] false := gT_tr c1 q2
    refine zx_iconst (v := 2) (nn := 66) rfl dX11_aims_65 rfl ?_
    refine zx_imul (nn := 67) dX11_aims_66 rfl ?_
    refine zx_iret rfl dX11_aims_67 ?_
    exact ⟨rfl, c2⟩
  · exact absurd h4 (by decide)
set_option maxHeartbeats 4000000 in
set_option maxRecDepth 100000 in
theorem eX11_aims_2 (σ : zG) (μ : zM) (x : Int32) (t : Nat) (a n : Int32) (ht : μ 0 35 = nI t) (hl : t + 1 ≤ 30) (hp : μ 0 39 = 0) (ha : μ 0 38 = a) (hn : μ 0 37 = n) : zMet shR σ 2 MX11_aims yX11_aims [zr 0, zi 2, zi x] μ (fun rr μ' => rr = some (zi (x + a)) ∧ gT μ μ' t [10] false) := by
  have c0 : gT μ μ t [] false := gT_rf ht hp
  refine zmetF (by decide +kernel) rfl (Nat.le_of_ble_eq_true rfl) ?_
  show zX shR σ 2 MX11_aims 0 [(0, zr 0), (1, zi 2), (2, zi x)] [] μ _
  refine zx_aload_n (k := 0) (nn := 1) dX11_aims_0 rfl rfl rfl ?_
  refine zx_getI (nn := 4) flX11_402 rfl rfl dX11_aims_1 rfl ?_
  rw [show μ 0 39 = 0 from c0.2.2.2.1]
  show zX shR σ 2 MX11_aims 4 [(0, zr 0), (1, zi 2), (2, zi x)] [zi 0] μ _
  refine zx_if_eq (tgt := 9) (nn := 7) dX11_aims_4 (by decide) rfl (fun h4 => ?_) (fun h4 => ?_)
  · refine zx_iload_n (k := 1) (nn := 10) dX11_aims_9 rfl rfl rfl ?_
    refine zx_tabIn (tgt := 83) (off := 73) dX11_aims_10 (by decide +kernel) (by decide +kernel) (by decide +kernel) (by decide) ?_
    refine zx_aload_n (k := 0) (nn := 84) dX11_aims_83 rfl rfl rfl ?_
    refine zx_iload_n (k := 1) (nn := 85) dX11_aims_84 rfl rfl rfl ?_
    refine zx_callSf (nn := 88) (d' := 0) (as := [zi 2]) (rest := [zr 0]) (n := 1) (eX11_above_2 σ μ) kX11_above mlX11_414 (by decide) rfl rfl (Nat.le_of_ble_eq_true rfl) dX11_aims_85 rfl ?_
    show zX shR σ 2 MX11_aims 88 [(0, zr 0), (1, zi 2), (2, zi x)] [zi 0, zr 0] μ _
    refine zx_iload_n (k := 2) (nn := 89) dX11_aims_88 rfl rfl rfl ?_
    refine zx_callV (nn := 92) (k := 0) (d' := 1) (as := [zi 0, zi x]) (rest := []) (n := 2) (eX11_aims_0 σ μ x t a n c0.2.2.1 (by omega) c0.2.2.2.1 ((c0.2.1 38 (by decide) (by decide)).trans ha) ((c0.2.1 37 (by decide) (by decide)).trans hn)) kX11_aims mlX11_411 rfl rfl rfl (by decide) rfl rfl (Nat.le_of_ble_eq_true rfl) dX11_aims_89 rfl ?_
    rintro _ ν1 ⟨rfl, q1⟩
    show zX shR σ 2 MX11_aims 92 [(0, zr 0), (1, zi 2), (2, zi x)] [zi (x + a)] ν1 _
    have c1 : gT μ ν1 t [10] false := gT_tr c0 q1
    refine zx_iret rfl dX11_aims_92 ?_
    exact ⟨rfl, c1⟩
  · exact absurd h4 (by decide)
set_option maxHeartbeats 4000000 in
set_option maxRecDepth 100000 in
theorem eX11_aims_3 (σ : zG) (μ : zM) (x : Int32) (t : Nat) (a n : Int32) (ht : μ 0 35 = nI t) (hl : t + 2 ≤ 30) (hp : μ 0 39 = 0) (ha : μ 0 38 = a) (hn : μ 0 37 = n) : zMet shR σ 3 MX11_aims yX11_aims [zr 0, zi 3, zi x] μ (fun rr μ' => rr = some (zi (x + a - 1)) ∧ gT μ μ' t [50, 10] false) := by
  have c0 : gT μ μ t [] false := gT_rf ht hp
  refine zmetF (by decide +kernel) rfl (Nat.le_of_ble_eq_true rfl) ?_
  show zX shR σ 3 MX11_aims 0 [(0, zr 0), (1, zi 3), (2, zi x)] [] μ _
  refine zx_aload_n (k := 0) (nn := 1) dX11_aims_0 rfl rfl rfl ?_
  refine zx_getI (nn := 4) flX11_402 rfl rfl dX11_aims_1 rfl ?_
  rw [show μ 0 39 = 0 from c0.2.2.2.1]
  show zX shR σ 3 MX11_aims 4 [(0, zr 0), (1, zi 3), (2, zi x)] [zi 0] μ _
  refine zx_if_eq (tgt := 9) (nn := 7) dX11_aims_4 (by decide) rfl (fun h4 => ?_) (fun h4 => ?_)
  · refine zx_iload_n (k := 1) (nn := 10) dX11_aims_9 rfl rfl rfl ?_
    refine zx_tabIn (tgt := 68) (off := 58) dX11_aims_10 (by decide +kernel) (by decide +kernel) (by decide +kernel) (by decide) ?_
    refine zx_aload_n (k := 0) (nn := 69) dX11_aims_68 rfl rfl rfl ?_
    refine zx_bipush (v := 50) (nn := 71) rfl dX11_aims_69 rfl ?_
    refine zx_callV (nn := 74) (k := 0) (d' := 0) (as := [zi 50]) (rest := []) (n := 1) (eX11_begins_0 σ μ 50 t c0.2.2.1 (by omega) c0.2.2.2.1) kX11_begins mlX11_406 rfl rfl rfl (by decide) rfl rfl (Nat.le_of_ble_eq_true rfl) dX11_aims_71 rfl ?_
    rintro _ ν1 ⟨rfl, q1⟩
    show zX shR σ 3 MX11_aims 74 [(0, zr 0), (1, zi 3), (2, zi x)] [] ν1 _
    have c1 : gT μ ν1 t [50] false := gT_tr c0 q1
    refine zx_aload_n (k := 0) (nn := 75) dX11_aims_74 rfl rfl rfl ?_
    refine zx_iconst (v := 2) (nn := 76) rfl dX11_aims_75 rfl ?_
    refine zx_iload_n (k := 2) (nn := 77) dX11_aims_76 rfl rfl rfl ?_
    refine zx_callV (nn := 80) (k := 0) (d' := 2) (as := [zi 2, zi x]) (rest := []) (n := 2) (eX11_aims_2 σ ν1 x (t + 1) a n c1.2.2.1 (by omega) c1.2.2.2.1 ((c1.2.1 38 (by decide) (by decide)).trans ha) ((c1.2.1 37 (by decide) (by decide)).trans hn)) kX11_aims mlX11_411 rfl rfl rfl (by decide) rfl rfl (Nat.le_of_ble_eq_true rfl) dX11_aims_77 rfl ?_
    rintro _ ν2 ⟨rfl, q2⟩
    show zX shR σ 3 MX11_aims 80 [(0, zr 0), (1, zi 3), (2, zi x)] [zi (x + a)] ν2 _
    have c2 : gT μ ν2 t [50, 10] false := gT_tr c1 q2
    refine zx_iconst (v := 1) (nn := 81) rfl dX11_aims_80 rfl ?_
    refine zx_isub (nn := 82) dX11_aims_81 rfl ?_
    refine zx_iret rfl dX11_aims_82 ?_
    exact ⟨rfl, c2⟩
  · exact absurd h4 (by decide)
set_option maxHeartbeats 4000000 in
set_option maxRecDepth 100000 in
theorem eX11_aims_4 (σ : zG) (μ : zM) (x : Int32) (t : Nat) (a n : Int32) (ht : μ 0 35 = nI t) (hl : t + 1 ≤ 30) (hp : μ 0 39 = 0) (ha : μ 0 38 = a) (hn : μ 0 37 = n) : zMet shR σ 2 MX11_aims yX11_aims [zr 0, zi 4, zi x] μ (fun rr μ' => rr = some (zi (x + a)) ∧ gT μ μ' t [10] false) := by
  have c0 : gT μ μ t [] false := gT_rf ht hp
  refine zmetF (by decide +kernel) rfl (Nat.le_of_ble_eq_true rfl) ?_
  show zX shR σ 2 MX11_aims 0 [(0, zr 0), (1, zi 4), (2, zi x)] [] μ _
  refine zx_aload_n (k := 0) (nn := 1) dX11_aims_0 rfl rfl rfl ?_
  refine zx_getI (nn := 4) flX11_402 rfl rfl dX11_aims_1 rfl ?_
  rw [show μ 0 39 = 0 from c0.2.2.2.1]
  show zX shR σ 2 MX11_aims 4 [(0, zr 0), (1, zi 4), (2, zi x)] [zi 0] μ _
  refine zx_if_eq (tgt := 9) (nn := 7) dX11_aims_4 (by decide) rfl (fun h4 => ?_) (fun h4 => ?_)
  · refine zx_iload_n (k := 1) (nn := 10) dX11_aims_9 rfl rfl rfl ?_
    refine zx_tabOut (tgt := 83) dX11_aims_10 (by decide +kernel) (by decide) ?_
    refine zx_aload_n (k := 0) (nn := 84) dX11_aims_83 rfl rfl rfl ?_
    refine zx_iload_n (k := 1) (nn := 85) dX11_aims_84 rfl rfl rfl ?_
    refine zx_callSf (nn := 88) (d' := 0) (as := [zi 4]) (rest := [zr 0]) (n := 1) (eX11_above_4 σ μ) kX11_above mlX11_414 (by decide) rfl rfl (Nat.le_of_ble_eq_true rfl) dX11_aims_85 rfl ?_
    show zX shR σ 2 MX11_aims 88 [(0, zr 0), (1, zi 4), (2, zi x)] [zi 0, zr 0] μ _
    refine zx_iload_n (k := 2) (nn := 89) dX11_aims_88 rfl rfl rfl ?_
    refine zx_callV (nn := 92) (k := 0) (d' := 1) (as := [zi 0, zi x]) (rest := []) (n := 2) (eX11_aims_0 σ μ x t a n c0.2.2.1 (by omega) c0.2.2.2.1 ((c0.2.1 38 (by decide) (by decide)).trans ha) ((c0.2.1 37 (by decide) (by decide)).trans hn)) kX11_aims mlX11_411 rfl rfl rfl (by decide) rfl rfl (Nat.le_of_ble_eq_true rfl) dX11_aims_89 rfl ?_
    rintro _ ν1 ⟨rfl, q1⟩
    show zX shR σ 2 MX11_aims 92 [(0, zr 0), (1, zi 4), (2, zi x)] [zi (x + a)] ν1 _
    have c1 : gT μ ν1 t [10] false := gT_tr c0 q1
    refine zx_iret rfl dX11_aims_92 ?_
    exact ⟨rfl, c1⟩
  · exact absurd h4 (by decide)
set_option maxHeartbeats 4000000 in
set_option maxRecDepth 100000 in
theorem eX11_aims_5 (σ : zG) (μ : zM) (x : Int32) (t : Nat) (a n : Int32) (ht : μ 0 35 = nI t) (hl : t + 1 ≤ 30) (hp : μ 0 39 = 0) (ha : μ 0 38 = a) (hn : μ 0 37 = n) : zMet shR σ 3 MX11_aims yX11_aims [zr 0, zi 5, zi x] μ (fun rr μ' => rr = some (zi (x + a)) ∧ gT μ μ' t [10] false) := by
  have c0 : gT μ μ t [] false := gT_rf ht hp
  refine zmetF (by decide +kernel) rfl (Nat.le_of_ble_eq_true rfl) ?_
  show zX shR σ 3 MX11_aims 0 [(0, zr 0), (1, zi 5), (2, zi x)] [] μ _
  refine zx_aload_n (k := 0) (nn := 1) dX11_aims_0 rfl rfl rfl ?_
  refine zx_getI (nn := 4) flX11_402 rfl rfl dX11_aims_1 rfl ?_
  rw [show μ 0 39 = 0 from c0.2.2.2.1]
  show zX shR σ 3 MX11_aims 4 [(0, zr 0), (1, zi 5), (2, zi x)] [zi 0] μ _
  refine zx_if_eq (tgt := 9) (nn := 7) dX11_aims_4 (by decide) rfl (fun h4 => ?_) (fun h4 => ?_)
  · refine zx_iload_n (k := 1) (nn := 10) dX11_aims_9 rfl rfl rfl ?_
    refine zx_tabOut (tgt := 83) dX11_aims_10 (by decide +kernel) (by decide) ?_
    refine zx_aload_n (k := 0) (nn := 84) dX11_aims_83 rfl rfl rfl ?_
    refine zx_iload_n (k := 1) (nn := 85) dX11_aims_84 rfl rfl rfl ?_
    refine zx_callSf (nn := 88) (d' := 0) (as := [zi 5]) (rest := [zr 0]) (n := 1) (eX11_above_5 σ μ) kX11_above mlX11_414 (by decide) rfl rfl (Nat.le_of_ble_eq_true rfl) dX11_aims_85 rfl ?_
    show zX shR σ 3 MX11_aims 88 [(0, zr 0), (1, zi 5), (2, zi x)] [zi 4, zr 0] μ _
    refine zx_iload_n (k := 2) (nn := 89) dX11_aims_88 rfl rfl rfl ?_
    refine zx_callV (nn := 92) (k := 0) (d' := 2) (as := [zi 4, zi x]) (rest := []) (n := 2) (eX11_aims_4 σ μ x t a n c0.2.2.1 (by omega) c0.2.2.2.1 ((c0.2.1 38 (by decide) (by decide)).trans ha) ((c0.2.1 37 (by decide) (by decide)).trans hn)) kX11_aims mlX11_411 rfl rfl rfl (by decide) rfl rfl (Nat.le_of_ble_eq_true rfl) dX11_aims_89 rfl ?_
    rintro _ ν1 ⟨rfl, q1⟩
    show zX shR σ 3 MX11_aims 92 [(0, zr 0), (1, zi 5), (2, zi x)] [zi (x + a)] ν1 _
    have c1 : gT μ ν1 t [10] false := gT_tr c0 q1
    refine zx_iret rfl dX11_aims_92 ?_
    exact ⟨rfl, c1⟩
  · exact absurd h4 (by decide)
set_option maxHeartbeats 4000000 in
set_option maxRecDepth 100000 in
theorem eX11_aims_5_p (σ : zG) (μ : zM) (x : Int32) (hp : μ 0 39 = 1) : zMet shR σ 1 MX11_aims yX11_aims [zr 0, zi 5, zi x] μ (fun rr μ' => rr = some (zi 0) ∧ μ' = μ) := by
  refine zmetF (by decide +kernel) rfl (Nat.le_of_ble_eq_true rfl) ?_
  show zX shR σ 1 MX11_aims 0 [(0, zr 0), (1, zi 5), (2, zi x)] [] μ _
  refine zx_aload_n (k := 0) (nn := 1) dX11_aims_0 rfl rfl rfl ?_
  refine zx_getI (nn := 4) flX11_402 rfl rfl dX11_aims_1 rfl ?_
  rw [show μ 0 39 = 1 from hp]
  show zX shR σ 1 MX11_aims 4 [(0, zr 0), (1, zi 5), (2, zi x)] [zi 1] μ _
  refine zx_if_eq (tgt := 9) (nn := 7) dX11_aims_4 (by decide) rfl (fun h4 => ?_) (fun h4 => ?_)
  · exact absurd h4 (by decide)
  · refine zx_iconst (v := 0) (nn := 8) rfl dX11_aims_7 rfl ?_
    refine zx_iret rfl dX11_aims_8 ?_
    exact ⟨rfl, rfl⟩
set_option maxHeartbeats 4000000 in
set_option maxRecDepth 100000 in
theorem eX11_swings_0_1 (σ : zG) (μ : zM) (x : Int32) (t : Nat) (a n : Int32) (ht : μ 0 35 = nI t) (hl : t + 3 ≤ 30) (hp : μ 0 39 = 0) (ha : μ 0 38 = a) (hn : μ 0 37 = n) (hk : μ 0 36 = 1) : zMet shR σ 3 MX11_swings yX11_swings [zr 0, zi 0, zi x] μ (fun rr μ' => rr = some (zi (((x + a) * 2) - n)) ∧ gT μ μ' t [11, 20, 10] false) := by
  have c0 : gT μ μ t [] false := gT_rf ht hp
  refine zmetF (by decide +kernel) rfl (Nat.le_of_ble_eq_true rfl) ?_
  show zX shR σ 3 MX11_swings 0 [(0, zr 0), (1, zi 0), (2, zi x)] [] μ _
  refine zx_aload_n (k := 0) (nn := 1) dX11_swings_0 rfl rfl rfl ?_
  refine zx_getI (nn := 4) flX11_402 rfl rfl dX11_swings_1 rfl ?_
  rw [show μ 0 39 = 0 from c0.2.2.2.1]
  show zX shR σ 3 MX11_swings 4 [(0, zr 0), (1, zi 0), (2, zi x)] [zi 0] μ _
  refine zx_if_eq (tgt := 9) (nn := 7) dX11_swings_4 (by decide) rfl (fun h4 => ?_) (fun h4 => ?_)
  · refine zx_iload_n (k := 1) (nn := 10) dX11_swings_9 rfl rfl rfl ?_
    refine zx_look (tgt := 44) (off := 34) dX11_swings_10 (by decide +kernel) (by decide +kernel) (by decide) ?_
    refine zx_aload_n (k := 0) (nn := 45) dX11_swings_44 rfl rfl rfl ?_
    refine zx_bipush (v := 11) (nn := 47) rfl dX11_swings_45 rfl ?_
    refine zx_callV (nn := 50) (k := 0) (d' := 0) (as := [zi 11]) (rest := []) (n := 1) (eX11_begins_0 σ μ 11 t c0.2.2.1 (by omega) c0.2.2.2.1) kX11_begins mlX11_406 rfl rfl rfl (by decide) rfl rfl (Nat.le_of_ble_eq_true rfl) dX11_swings_47 rfl ?_
    rintro _ ν1 ⟨rfl, q1⟩
    show zX shR σ 3 MX11_swings 50 [(0, zr 0), (1, zi 0), (2, zi x)] [] ν1 _
    have c1 : gT μ ν1 t [11] false := gT_tr c0 q1
    refine zx_aload_n (k := 0) (nn := 51) dX11_swings_50 rfl rfl rfl ?_
    refine zx_aload_n (k := 0) (nn := 52) dX11_swings_51 rfl rfl rfl ?_
    refine zx_getI (nn := 55) flX11_417 rfl rfl dX11_swings_52 rfl ?_
    rw [show ν1 0 36 = 1 from (c1.2.1 36 (by decide) (by decide)).trans hk]
    show zX shR σ 3 MX11_swings 55 [(0, zr 0), (1, zi 0), (2, zi x)] [zi 1, zr 0] ν1 _
    refine zx_iload_n (k := 2) (nn := 56) dX11_swings_55 rfl rfl rfl ?_
    refine zx_callV (nn := 59) (k := 0) (d' := 2) (as := [zi 1, zi x]) (rest := []) (n := 2) (eX11_aims_1 σ ν1 x (t + 1) a n c1.2.2.1 (by omega) c1.2.2.2.1 ((c1.2.1 38 (by decide) (by decide)).trans ha) ((c1.2.1 37 (by decide) (by decide)).trans hn)) kX11_aims mlX11_411 rfl rfl rfl (by decide) rfl rfl (Nat.le_of_ble_eq_true rfl) dX11_swings_56 rfl ?_
    rintro _ ν2 ⟨rfl, q2⟩
    show zX shR σ 3 MX11_swings 59 [(0, zr 0), (1, zi 0), (2, zi x)] [zi ((x + a) * 2)] ν2 _
    have c2 : gT μ ν2 t [11, 20, 10] false := gT_tr c1 q2
    refine zx_aload_n (k := 0) (nn := 60) dX11_swings_59 rfl rfl rfl ?_
    refine zx_getI (nn := 63) flX11_420 rfl rfl dX11_swings_60 rfl ?_
    rw [show ν2 0 37 = n from (c2.2.1 37 (by decide) (by decide)).trans hn]
    show zX shR σ 3 MX11_swings 63 [(0, zr 0), (1, zi 0), (2, zi x)] [zi n, zi ((x + a) * 2)] ν2 _
    refine zx_isub (nn := 64) dX11_swings_63 rfl ?_
    refine zx_iret rfl dX11_swings_64 ?_
    exact ⟨rfl, c2⟩
  · exact absurd h4 (by decide)
set_option maxHeartbeats 4000000 in
set_option maxRecDepth 100000 in
theorem eX11_swings_1_1 (σ : zG) (μ : zM) (x : Int32) (t : Nat) (a n : Int32) (ht : μ 0 35 = nI t) (hl : t + 3 ≤ 30) (hp : μ 0 39 = 0) (ha : μ 0 38 = a) (hn : μ 0 37 = n) (hk : μ 0 36 = 1) : zMet shR σ 4 MX11_swings yX11_swings [zr 0, zi 1, zi x] μ (fun rr μ' => rr = some (zi (((x + a) * 2) - n)) ∧ gT μ μ' t [11, 20, 10] false) := by
  have c0 : gT μ μ t [] false := gT_rf ht hp
  refine zmetF (by decide +kernel) rfl (Nat.le_of_ble_eq_true rfl) ?_
  show zX shR σ 4 MX11_swings 0 [(0, zr 0), (1, zi 1), (2, zi x)] [] μ _
  refine zx_aload_n (k := 0) (nn := 1) dX11_swings_0 rfl rfl rfl ?_
  refine zx_getI (nn := 4) flX11_402 rfl rfl dX11_swings_1 rfl ?_
  rw [show μ 0 39 = 0 from c0.2.2.2.1]
  show zX shR σ 4 MX11_swings 4 [(0, zr 0), (1, zi 1), (2, zi x)] [zi 0] μ _
  refine zx_if_eq (tgt := 9) (nn := 7) dX11_swings_4 (by decide) rfl (fun h4 => ?_) (fun h4 => ?_)
  · refine zx_iload_n (k := 1) (nn := 10) dX11_swings_9 rfl rfl rfl ?_
    refine zx_look (tgt := 97) (off := 87) dX11_swings_10 (by decide +kernel) (by decide +kernel) (by decide) ?_
    refine zx_aload_n (k := 0) (nn := 98) dX11_swings_97 rfl rfl rfl ?_
    refine zx_iload_n (k := 1) (nn := 99) dX11_swings_98 rfl rfl rfl ?_
    refine zx_callSf (nn := 102) (d' := 0) (as := [zi 1]) (rest := [zr 0]) (n := 1) (eX11_above_1 σ μ) kX11_above mlX11_414 (by decide) rfl rfl (Nat.le_of_ble_eq_true rfl) dX11_swings_99 rfl ?_
    show zX shR σ 4 MX11_swings 102 [(0, zr 0), (1, zi 1), (2, zi x)] [zi 0, zr 0] μ _
    refine zx_iload_n (k := 2) (nn := 103) dX11_swings_102 rfl rfl rfl ?_
    refine zx_callV (nn := 106) (k := 0) (d' := 3) (as := [zi 0, zi x]) (rest := []) (n := 2) (eX11_swings_0_1 σ μ x t a n c0.2.2.1 (by omega) c0.2.2.2.1 ((c0.2.1 38 (by decide) (by decide)).trans ha) ((c0.2.1 37 (by decide) (by decide)).trans hn) ((c0.2.1 36 (by decide) (by decide)).trans hk)) kX11_swings mlX11_422 rfl rfl rfl (by decide) rfl rfl (Nat.le_of_ble_eq_true rfl) dX11_swings_103 rfl ?_
    rintro _ ν1 ⟨rfl, q1⟩
    show zX shR σ 4 MX11_swings 106 [(0, zr 0), (1, zi 1), (2, zi x)] [zi (((x + a) * 2) - n)] ν1 _
    have c1 : gT μ ν1 t [11, 20, 10] false := gT_tr c0 q1
    refine zx_iret rfl dX11_swings_106 ?_
    exact ⟨rfl, c1⟩
  · exact absurd h4 (by decide)
set_option maxHeartbeats 4000000 in
set_option maxRecDepth 100000 in
theorem eX11_swings_0_2 (σ : zG) (μ : zM) (x : Int32) (t : Nat) (a n : Int32) (ht : μ 0 35 = nI t) (hl : t + 2 ≤ 30) (hp : μ 0 39 = 0) (ha : μ 0 38 = a) (hn : μ 0 37 = n) (hk : μ 0 36 = 2) : zMet shR σ 3 MX11_swings yX11_swings [zr 0, zi 0, zi x] μ (fun rr μ' => rr = some (zi ((x + a) - n)) ∧ gT μ μ' t [11, 10] false) := by
  have c0 : gT μ μ t [] false := gT_rf ht hp
  refine zmetF (by decide +kernel) rfl (Nat.le_of_ble_eq_true rfl) ?_
  show zX shR σ 3 MX11_swings 0 [(0, zr 0), (1, zi 0), (2, zi x)] [] μ _
  refine zx_aload_n (k := 0) (nn := 1) dX11_swings_0 rfl rfl rfl ?_
  refine zx_getI (nn := 4) flX11_402 rfl rfl dX11_swings_1 rfl ?_
  rw [show μ 0 39 = 0 from c0.2.2.2.1]
  show zX shR σ 3 MX11_swings 4 [(0, zr 0), (1, zi 0), (2, zi x)] [zi 0] μ _
  refine zx_if_eq (tgt := 9) (nn := 7) dX11_swings_4 (by decide) rfl (fun h4 => ?_) (fun h4 => ?_)
  · refine zx_iload_n (k := 1) (nn := 10) dX11_swings_9 rfl rfl rfl ?_
    refine zx_look (tgt := 44) (off := 34) dX11_swings_10 (by decide +kernel) (by decide +kernel) (by decide) ?_
    refine zx_aload_n (k := 0) (nn := 45) dX11_swings_44 rfl rfl rfl ?_
    refine zx_bipush (v := 11) (nn := 47) rfl dX11_swings_45 rfl ?_
    refine zx_callV (nn := 50) (k := 0) (d' := 0) (as := [zi 11]) (rest := []) (n := 1) (eX11_begins_0 σ μ 11 t c0.2.2.1 (by omega) c0.2.2.2.1) kX11_begins mlX11_406 rfl rfl rfl (by decide) rfl rfl (Nat.le_of_ble_eq_true rfl) dX11_swings_47 rfl ?_
    rintro _ ν1 ⟨rfl, q1⟩
    show zX shR σ 3 MX11_swings 50 [(0, zr 0), (1, zi 0), (2, zi x)] [] ν1 _
    have c1 : gT μ ν1 t [11] false := gT_tr c0 q1
    refine zx_aload_n (k := 0) (nn := 51) dX11_swings_50 rfl rfl rfl ?_
    refine zx_aload_n (k := 0) (nn := 52) dX11_swings_51 rfl rfl rfl ?_
    refine zx_getI (nn := 55) flX11_417 rfl rfl dX11_swings_52 rfl ?_
    rw [show ν1 0 36 = 2 from (c1.2.1 36 (by decide) (by decide)).trans hk]
    show zX shR σ 3 MX11_swings 55 [(0, zr 0), (1, zi 0), (2, zi x)] [zi 2, zr 0] ν1 _
    refine zx_iload_n (k := 2) (nn := 56) dX11_swings_55 rfl rfl rfl ?_
    refine zx_callV (nn := 59) (k := 0) (d' := 2) (as := [zi 2, zi x]) (rest := []) (n := 2) (eX11_aims_2 σ ν1 x (t + 1) a n c1.2.2.1 (by omega) c1.2.2.2.1 ((c1.2.1 38 (by decide) (by decide)).trans ha) ((c1.2.1 37 (by decide) (by decide)).trans hn)) kX11_aims mlX11_411 rfl rfl rfl (by decide) rfl rfl (Nat.le_of_ble_eq_true rfl) dX11_swings_56 rfl ?_
    rintro _ ν2 ⟨rfl, q2⟩
    show zX shR σ 3 MX11_swings 59 [(0, zr 0), (1, zi 0), (2, zi x)] [zi (x + a)] ν2 _
    have c2 : gT μ ν2 t [11, 10] false := gT_tr c1 q2
    refine zx_aload_n (k := 0) (nn := 60) dX11_swings_59 rfl rfl rfl ?_
    refine zx_getI (nn := 63) flX11_420 rfl rfl dX11_swings_60 rfl ?_
    rw [show ν2 0 37 = n from (c2.2.1 37 (by decide) (by decide)).trans hn]
    show zX shR σ 3 MX11_swings 63 [(0, zr 0), (1, zi 0), (2, zi x)] [zi n, zi (x + a)] ν2 _
    refine zx_isub (nn := 64) dX11_swings_63 rfl ?_
    refine zx_iret rfl dX11_swings_64 ?_
    exact ⟨rfl, c2⟩
  · exact absurd h4 (by decide)
set_option maxHeartbeats 4000000 in
set_option maxRecDepth 100000 in
theorem eX11_swings_2_2 (σ : zG) (μ : zM) (x : Int32) (t : Nat) (a n : Int32) (ht : μ 0 35 = nI t) (hl : t + 3 ≤ 30) (hp : μ 0 39 = 0) (ha : μ 0 38 = a) (hn : μ 0 37 = n) (hk : μ 0 36 = 2) : zMet shR σ 4 MX11_swings yX11_swings [zr 0, zi 2, zi x] μ (fun rr μ' => rr = some (zi (((x + a) - n) ^^^ n)) ∧ gT μ μ' t [30, 11, 10] false) := by
  have c0 : gT μ μ t [] false := gT_rf ht hp
  refine zmetF (by decide +kernel) rfl (Nat.le_of_ble_eq_true rfl) ?_
  show zX shR σ 4 MX11_swings 0 [(0, zr 0), (1, zi 2), (2, zi x)] [] μ _
  refine zx_aload_n (k := 0) (nn := 1) dX11_swings_0 rfl rfl rfl ?_
  refine zx_getI (nn := 4) flX11_402 rfl rfl dX11_swings_1 rfl ?_
  rw [show μ 0 39 = 0 from c0.2.2.2.1]
  show zX shR σ 4 MX11_swings 4 [(0, zr 0), (1, zi 2), (2, zi x)] [zi 0] μ _
  refine zx_if_eq (tgt := 9) (nn := 7) dX11_swings_4 (by decide) rfl (fun h4 => ?_) (fun h4 => ?_)
  · refine zx_iload_n (k := 1) (nn := 10) dX11_swings_9 rfl rfl rfl ?_
    refine zx_look (tgt := 65) (off := 55) dX11_swings_10 (by decide +kernel) (by decide +kernel) (by decide) ?_
    refine zx_aload_n (k := 0) (nn := 66) dX11_swings_65 rfl rfl rfl ?_
    refine zx_bipush (v := 30) (nn := 68) rfl dX11_swings_66 rfl ?_
    refine zx_callV (nn := 71) (k := 0) (d' := 0) (as := [zi 30]) (rest := []) (n := 1) (eX11_begins_0 σ μ 30 t c0.2.2.1 (by omega) c0.2.2.2.1) kX11_begins mlX11_406 rfl rfl rfl (by decide) rfl rfl (Nat.le_of_ble_eq_true rfl) dX11_swings_68 rfl ?_
    rintro _ ν1 ⟨rfl, q1⟩
    show zX shR σ 4 MX11_swings 71 [(0, zr 0), (1, zi 2), (2, zi x)] [] ν1 _
    have c1 : gT μ ν1 t [30] false := gT_tr c0 q1
    refine zx_aload_n (k := 0) (nn := 72) dX11_swings_71 rfl rfl rfl ?_
    refine zx_iconst (v := 0) (nn := 73) rfl dX11_swings_72 rfl ?_
    refine zx_iload_n (k := 2) (nn := 74) dX11_swings_73 rfl rfl rfl ?_
    refine zx_callV (nn := 77) (k := 0) (d' := 3) (as := [zi 0, zi x]) (rest := []) (n := 2) (eX11_swings_0_2 σ ν1 x (t + 1) a n c1.2.2.1 (by omega) c1.2.2.2.1 ((c1.2.1 38 (by decide) (by decide)).trans ha) ((c1.2.1 37 (by decide) (by decide)).trans hn) ((c1.2.1 36 (by decide) (by decide)).trans hk)) kX11_swings mlX11_422 rfl rfl rfl (by decide) rfl rfl (Nat.le_of_ble_eq_true rfl) dX11_swings_74 rfl ?_
    rintro _ ν2 ⟨rfl, q2⟩
    show zX shR σ 4 MX11_swings 77 [(0, zr 0), (1, zi 2), (2, zi x)] [zi ((x + a) - n)] ν2 _
    have c2 : gT μ ν2 t [30, 11, 10] false := gT_tr c1 q2
    refine zx_aload_n (k := 0) (nn := 78) dX11_swings_77 rfl rfl rfl ?_
    refine zx_getI (nn := 81) flX11_420 rfl rfl dX11_swings_78 rfl ?_
    rw [show ν2 0 37 = n from (c2.2.1 37 (by decide) (by decide)).trans hn]
    show zX shR σ 4 MX11_swings 81 [(0, zr 0), (1, zi 2), (2, zi x)] [zi n, zi ((x + a) - n)] ν2 _
    refine zx_ixor (nn := 82) dX11_swings_81 rfl ?_
    refine zx_iret rfl dX11_swings_82 ?_
    exact ⟨rfl, c2⟩
  · exact absurd h4 (by decide)
set_option maxHeartbeats 4000000 in
set_option maxRecDepth 100000 in
theorem eX11_swings_0_3 (σ : zG) (μ : zM) (x : Int32) (t : Nat) (a n : Int32) (ht : μ 0 35 = nI t) (hl : t + 3 ≤ 30) (hp : μ 0 39 = 0) (ha : μ 0 38 = a) (hn : μ 0 37 = n) (hk : μ 0 36 = 3) : zMet shR σ 4 MX11_swings yX11_swings [zr 0, zi 0, zi x] μ (fun rr μ' => rr = some (zi ((x + a - 1) - n)) ∧ gT μ μ' t [11, 50, 10] false) := by
  have c0 : gT μ μ t [] false := gT_rf ht hp
  refine zmetF (by decide +kernel) rfl (Nat.le_of_ble_eq_true rfl) ?_
  show zX shR σ 4 MX11_swings 0 [(0, zr 0), (1, zi 0), (2, zi x)] [] μ _
  refine zx_aload_n (k := 0) (nn := 1) dX11_swings_0 rfl rfl rfl ?_
  refine zx_getI (nn := 4) flX11_402 rfl rfl dX11_swings_1 rfl ?_
  rw [show μ 0 39 = 0 from c0.2.2.2.1]
  show zX shR σ 4 MX11_swings 4 [(0, zr 0), (1, zi 0), (2, zi x)] [zi 0] μ _
  refine zx_if_eq (tgt := 9) (nn := 7) dX11_swings_4 (by decide) rfl (fun h4 => ?_) (fun h4 => ?_)
  · refine zx_iload_n (k := 1) (nn := 10) dX11_swings_9 rfl rfl rfl ?_
    refine zx_look (tgt := 44) (off := 34) dX11_swings_10 (by decide +kernel) (by decide +kernel) (by decide) ?_
    refine zx_aload_n (k := 0) (nn := 45) dX11_swings_44 rfl rfl rfl ?_
    refine zx_bipush (v := 11) (nn := 47) rfl dX11_swings_45 rfl ?_
    refine zx_callV (nn := 50) (k := 0) (d' := 0) (as := [zi 11]) (rest := []) (n := 1) (eX11_begins_0 σ μ 11 t c0.2.2.1 (by omega) c0.2.2.2.1) kX11_begins mlX11_406 rfl rfl rfl (by decide) rfl rfl (Nat.le_of_ble_eq_true rfl) dX11_swings_47 rfl ?_
    rintro _ ν1 ⟨rfl, q1⟩
    show zX shR σ 4 MX11_swings 50 [(0, zr 0), (1, zi 0), (2, zi x)] [] ν1 _
    have c1 : gT μ ν1 t [11] false := gT_tr c0 q1
    refine zx_aload_n (k := 0) (nn := 51) dX11_swings_50 rfl rfl rfl ?_
    refine zx_aload_n (k := 0) (nn := 52) dX11_swings_51 rfl rfl rfl ?_
    refine zx_getI (nn := 55) flX11_417 rfl rfl dX11_swings_52 rfl ?_
    rw [show ν1 0 36 = 3 from (c1.2.1 36 (by decide) (by decide)).trans hk]
    show zX shR σ 4 MX11_swings 55 [(0, zr 0), (1, zi 0), (2, zi x)] [zi 3, zr 0] ν1 _
    refine zx_iload_n (k := 2) (nn := 56) dX11_swings_55 rfl rfl rfl ?_
    refine zx_callV (nn := 59) (k := 0) (d' := 3) (as := [zi 3, zi x]) (rest := []) (n := 2) (eX11_aims_3 σ ν1 x (t + 1) a n c1.2.2.1 (by omega) c1.2.2.2.1 ((c1.2.1 38 (by decide) (by decide)).trans ha) ((c1.2.1 37 (by decide) (by decide)).trans hn)) kX11_aims mlX11_411 rfl rfl rfl (by decide) rfl rfl (Nat.le_of_ble_eq_true rfl) dX11_swings_56 rfl ?_
    rintro _ ν2 ⟨rfl, q2⟩
    show zX shR σ 4 MX11_swings 59 [(0, zr 0), (1, zi 0), (2, zi x)] [zi (x + a - 1)] ν2 _
    have c2 : gT μ ν2 t [11, 50, 10] false := gT_tr c1 q2
    refine zx_aload_n (k := 0) (nn := 60) dX11_swings_59 rfl rfl rfl ?_
    refine zx_getI (nn := 63) flX11_420 rfl rfl dX11_swings_60 rfl ?_
    rw [show ν2 0 37 = n from (c2.2.1 37 (by decide) (by decide)).trans hn]
    show zX shR σ 4 MX11_swings 63 [(0, zr 0), (1, zi 0), (2, zi x)] [zi n, zi (x + a - 1)] ν2 _
    refine zx_isub (nn := 64) dX11_swings_63 rfl ?_
    refine zx_iret rfl dX11_swings_64 ?_
    exact ⟨rfl, c2⟩
  · exact absurd h4 (by decide)
set_option maxHeartbeats 4000000 in
set_option maxRecDepth 100000 in
theorem eX11_swings_2_3 (σ : zG) (μ : zM) (x : Int32) (t : Nat) (a n : Int32) (ht : μ 0 35 = nI t) (hl : t + 4 ≤ 30) (hp : μ 0 39 = 0) (ha : μ 0 38 = a) (hn : μ 0 37 = n) (hk : μ 0 36 = 3) : zMet shR σ 5 MX11_swings yX11_swings [zr 0, zi 2, zi x] μ (fun rr μ' => rr = some (zi (((x + a - 1) - n) ^^^ n)) ∧ gT μ μ' t [30, 11, 50, 10] false) := by
  have c0 : gT μ μ t [] false := gT_rf ht hp
  refine zmetF (by decide +kernel) rfl (Nat.le_of_ble_eq_true rfl) ?_
  show zX shR σ 5 MX11_swings 0 [(0, zr 0), (1, zi 2), (2, zi x)] [] μ _
  refine zx_aload_n (k := 0) (nn := 1) dX11_swings_0 rfl rfl rfl ?_
  refine zx_getI (nn := 4) flX11_402 rfl rfl dX11_swings_1 rfl ?_
  rw [show μ 0 39 = 0 from c0.2.2.2.1]
  show zX shR σ 5 MX11_swings 4 [(0, zr 0), (1, zi 2), (2, zi x)] [zi 0] μ _
  refine zx_if_eq (tgt := 9) (nn := 7) dX11_swings_4 (by decide) rfl (fun h4 => ?_) (fun h4 => ?_)
  · refine zx_iload_n (k := 1) (nn := 10) dX11_swings_9 rfl rfl rfl ?_
    refine zx_look (tgt := 65) (off := 55) dX11_swings_10 (by decide +kernel) (by decide +kernel) (by decide) ?_
    refine zx_aload_n (k := 0) (nn := 66) dX11_swings_65 rfl rfl rfl ?_
    refine zx_bipush (v := 30) (nn := 68) rfl dX11_swings_66 rfl ?_
    refine zx_callV (nn := 71) (k := 0) (d' := 0) (as := [zi 30]) (rest := []) (n := 1) (eX11_begins_0 σ μ 30 t c0.2.2.1 (by omega) c0.2.2.2.1) kX11_begins mlX11_406 rfl rfl rfl (by decide) rfl rfl (Nat.le_of_ble_eq_true rfl) dX11_swings_68 rfl ?_
    rintro _ ν1 ⟨rfl, q1⟩
    show zX shR σ 5 MX11_swings 71 [(0, zr 0), (1, zi 2), (2, zi x)] [] ν1 _
    have c1 : gT μ ν1 t [30] false := gT_tr c0 q1
    refine zx_aload_n (k := 0) (nn := 72) dX11_swings_71 rfl rfl rfl ?_
    refine zx_iconst (v := 0) (nn := 73) rfl dX11_swings_72 rfl ?_
    refine zx_iload_n (k := 2) (nn := 74) dX11_swings_73 rfl rfl rfl ?_
    refine zx_callV (nn := 77) (k := 0) (d' := 4) (as := [zi 0, zi x]) (rest := []) (n := 2) (eX11_swings_0_3 σ ν1 x (t + 1) a n c1.2.2.1 (by omega) c1.2.2.2.1 ((c1.2.1 38 (by decide) (by decide)).trans ha) ((c1.2.1 37 (by decide) (by decide)).trans hn) ((c1.2.1 36 (by decide) (by decide)).trans hk)) kX11_swings mlX11_422 rfl rfl rfl (by decide) rfl rfl (Nat.le_of_ble_eq_true rfl) dX11_swings_74 rfl ?_
    rintro _ ν2 ⟨rfl, q2⟩
    show zX shR σ 5 MX11_swings 77 [(0, zr 0), (1, zi 2), (2, zi x)] [zi ((x + a - 1) - n)] ν2 _
    have c2 : gT μ ν2 t [30, 11, 50, 10] false := gT_tr c1 q2
    refine zx_aload_n (k := 0) (nn := 78) dX11_swings_77 rfl rfl rfl ?_
    refine zx_getI (nn := 81) flX11_420 rfl rfl dX11_swings_78 rfl ?_
    rw [show ν2 0 37 = n from (c2.2.1 37 (by decide) (by decide)).trans hn]
    show zX shR σ 5 MX11_swings 81 [(0, zr 0), (1, zi 2), (2, zi x)] [zi n, zi ((x + a - 1) - n)] ν2 _
    refine zx_ixor (nn := 82) dX11_swings_81 rfl ?_
    refine zx_iret rfl dX11_swings_82 ?_
    exact ⟨rfl, c2⟩
  · exact absurd h4 (by decide)
set_option maxHeartbeats 4000000 in
set_option maxRecDepth 100000 in
theorem eX11_swings_3_3 (σ : zG) (μ : zM) (x : Int32) (t : Nat) (a n : Int32) (ht : μ 0 35 = nI t) (hl : t + 4 ≤ 30) (hp : μ 0 39 = 0) (ha : μ 0 38 = a) (hn : μ 0 37 = n) (hk : μ 0 36 = 3) : zMet shR σ 6 MX11_swings yX11_swings [zr 0, zi 3, zi x] μ (fun rr μ' => rr = some (zi (((x + a - 1) - n) ^^^ n)) ∧ gT μ μ' t [30, 11, 50, 10] false) := by
  have c0 : gT μ μ t [] false := gT_rf ht hp
  refine zmetF (by decide +kernel) rfl (Nat.le_of_ble_eq_true rfl) ?_
  show zX shR σ 6 MX11_swings 0 [(0, zr 0), (1, zi 3), (2, zi x)] [] μ _
  refine zx_aload_n (k := 0) (nn := 1) dX11_swings_0 rfl rfl rfl ?_
  refine zx_getI (nn := 4) flX11_402 rfl rfl dX11_swings_1 rfl ?_
  rw [show μ 0 39 = 0 from c0.2.2.2.1]
  show zX shR σ 6 MX11_swings 4 [(0, zr 0), (1, zi 3), (2, zi x)] [zi 0] μ _
  refine zx_if_eq (tgt := 9) (nn := 7) dX11_swings_4 (by decide) rfl (fun h4 => ?_) (fun h4 => ?_)
  · refine zx_iload_n (k := 1) (nn := 10) dX11_swings_9 rfl rfl rfl ?_
    refine zx_look (tgt := 97) (off := 87) dX11_swings_10 (by decide +kernel) (by decide +kernel) (by decide) ?_
    refine zx_aload_n (k := 0) (nn := 98) dX11_swings_97 rfl rfl rfl ?_
    refine zx_iload_n (k := 1) (nn := 99) dX11_swings_98 rfl rfl rfl ?_
    refine zx_callSf (nn := 102) (d' := 0) (as := [zi 3]) (rest := [zr 0]) (n := 1) (eX11_above_3 σ μ) kX11_above mlX11_414 (by decide) rfl rfl (Nat.le_of_ble_eq_true rfl) dX11_swings_99 rfl ?_
    show zX shR σ 6 MX11_swings 102 [(0, zr 0), (1, zi 3), (2, zi x)] [zi 2, zr 0] μ _
    refine zx_iload_n (k := 2) (nn := 103) dX11_swings_102 rfl rfl rfl ?_
    refine zx_callV (nn := 106) (k := 0) (d' := 5) (as := [zi 2, zi x]) (rest := []) (n := 2) (eX11_swings_2_3 σ μ x t a n c0.2.2.1 (by omega) c0.2.2.2.1 ((c0.2.1 38 (by decide) (by decide)).trans ha) ((c0.2.1 37 (by decide) (by decide)).trans hn) ((c0.2.1 36 (by decide) (by decide)).trans hk)) kX11_swings mlX11_422 rfl rfl rfl (by decide) rfl rfl (Nat.le_of_ble_eq_true rfl) dX11_swings_103 rfl ?_
    rintro _ ν1 ⟨rfl, q1⟩
    show zX shR σ 6 MX11_swings 106 [(0, zr 0), (1, zi 3), (2, zi x)] [zi (((x + a - 1) - n) ^^^ n)] ν1 _
    have c1 : gT μ ν1 t [30, 11, 50, 10] false := gT_tr c0 q1
    refine zx_iret rfl dX11_swings_106 ?_
    exact ⟨rfl, c1⟩
  · exact absurd h4 (by decide)
set_option maxHeartbeats 4000000 in
set_option maxRecDepth 100000 in
theorem eX11_swings_0_4 (σ : zG) (μ : zM) (x : Int32) (t : Nat) (a n : Int32) (ht : μ 0 35 = nI t) (hl : t + 2 ≤ 30) (hp : μ 0 39 = 0) (ha : μ 0 38 = a) (hn : μ 0 37 = n) (hk : μ 0 36 = 4) : zMet shR σ 3 MX11_swings yX11_swings [zr 0, zi 0, zi x] μ (fun rr μ' => rr = some (zi ((x + a) - n)) ∧ gT μ μ' t [11, 10] false) := by
  have c0 : gT μ μ t [] false := gT_rf ht hp
  refine zmetF (by decide +kernel) rfl (Nat.le_of_ble_eq_true rfl) ?_
  show zX shR σ 3 MX11_swings 0 [(0, zr 0), (1, zi 0), (2, zi x)] [] μ _
  refine zx_aload_n (k := 0) (nn := 1) dX11_swings_0 rfl rfl rfl ?_
  refine zx_getI (nn := 4) flX11_402 rfl rfl dX11_swings_1 rfl ?_
  rw [show μ 0 39 = 0 from c0.2.2.2.1]
  show zX shR σ 3 MX11_swings 4 [(0, zr 0), (1, zi 0), (2, zi x)] [zi 0] μ _
  refine zx_if_eq (tgt := 9) (nn := 7) dX11_swings_4 (by decide) rfl (fun h4 => ?_) (fun h4 => ?_)
  · refine zx_iload_n (k := 1) (nn := 10) dX11_swings_9 rfl rfl rfl ?_
    refine zx_look (tgt := 44) (off := 34) dX11_swings_10 (by decide +kernel) (by decide +kernel) (by decide) ?_
    refine zx_aload_n (k := 0) (nn := 45) dX11_swings_44 rfl rfl rfl ?_
    refine zx_bipush (v := 11) (nn := 47) rfl dX11_swings_45 rfl ?_
    refine zx_callV (nn := 50) (k := 0) (d' := 0) (as := [zi 11]) (rest := []) (n := 1) (eX11_begins_0 σ μ 11 t c0.2.2.1 (by omega) c0.2.2.2.1) kX11_begins mlX11_406 rfl rfl rfl (by decide) rfl rfl (Nat.le_of_ble_eq_true rfl) dX11_swings_47 rfl ?_
    rintro _ ν1 ⟨rfl, q1⟩
    show zX shR σ 3 MX11_swings 50 [(0, zr 0), (1, zi 0), (2, zi x)] [] ν1 _
    have c1 : gT μ ν1 t [11] false := gT_tr c0 q1
    refine zx_aload_n (k := 0) (nn := 51) dX11_swings_50 rfl rfl rfl ?_
    refine zx_aload_n (k := 0) (nn := 52) dX11_swings_51 rfl rfl rfl ?_
    refine zx_getI (nn := 55) flX11_417 rfl rfl dX11_swings_52 rfl ?_
    rw [show ν1 0 36 = 4 from (c1.2.1 36 (by decide) (by decide)).trans hk]
    show zX shR σ 3 MX11_swings 55 [(0, zr 0), (1, zi 0), (2, zi x)] [zi 4, zr 0] ν1 _
    refine zx_iload_n (k := 2) (nn := 56) dX11_swings_55 rfl rfl rfl ?_
    refine zx_callV (nn := 59) (k := 0) (d' := 2) (as := [zi 4, zi x]) (rest := []) (n := 2) (eX11_aims_4 σ ν1 x (t + 1) a n c1.2.2.1 (by omega) c1.2.2.2.1 ((c1.2.1 38 (by decide) (by decide)).trans ha) ((c1.2.1 37 (by decide) (by decide)).trans hn)) kX11_aims mlX11_411 rfl rfl rfl (by decide) rfl rfl (Nat.le_of_ble_eq_true rfl) dX11_swings_56 rfl ?_
    rintro _ ν2 ⟨rfl, q2⟩
    show zX shR σ 3 MX11_swings 59 [(0, zr 0), (1, zi 0), (2, zi x)] [zi (x + a)] ν2 _
    have c2 : gT μ ν2 t [11, 10] false := gT_tr c1 q2
    refine zx_aload_n (k := 0) (nn := 60) dX11_swings_59 rfl rfl rfl ?_
    refine zx_getI (nn := 63) flX11_420 rfl rfl dX11_swings_60 rfl ?_
    rw [show ν2 0 37 = n from (c2.2.1 37 (by decide) (by decide)).trans hn]
    show zX shR σ 3 MX11_swings 63 [(0, zr 0), (1, zi 0), (2, zi x)] [zi n, zi (x + a)] ν2 _
    refine zx_isub (nn := 64) dX11_swings_63 rfl ?_
    refine zx_iret rfl dX11_swings_64 ?_
    exact ⟨rfl, c2⟩
  · exact absurd h4 (by decide)
set_option maxHeartbeats 4000000 in
set_option maxRecDepth 100000 in
theorem eX11_swings_4_4 (σ : zG) (μ : zM) (x : Int32) (t : Nat) (a n : Int32) (ht : μ 0 35 = nI t) (hl : t + 2 ≤ 30) (hp : μ 0 39 = 0) (ha : μ 0 38 = a) (hn : μ 0 37 = n) (hk : μ 0 36 = 4) : zMet shR σ 4 MX11_swings yX11_swings [zr 0, zi 4, zi x] μ (fun rr μ' => rr = some (zi ((x + a) - n)) ∧ gT μ μ' t [11, 10] false) := by
  have c0 : gT μ μ t [] false := gT_rf ht hp
  refine zmetF (by decide +kernel) rfl (Nat.le_of_ble_eq_true rfl) ?_
  show zX shR σ 4 MX11_swings 0 [(0, zr 0), (1, zi 4), (2, zi x)] [] μ _
  refine zx_aload_n (k := 0) (nn := 1) dX11_swings_0 rfl rfl rfl ?_
  refine zx_getI (nn := 4) flX11_402 rfl rfl dX11_swings_1 rfl ?_
  rw [show μ 0 39 = 0 from c0.2.2.2.1]
  show zX shR σ 4 MX11_swings 4 [(0, zr 0), (1, zi 4), (2, zi x)] [zi 0] μ _
  refine zx_if_eq (tgt := 9) (nn := 7) dX11_swings_4 (by decide) rfl (fun h4 => ?_) (fun h4 => ?_)
  · refine zx_iload_n (k := 1) (nn := 10) dX11_swings_9 rfl rfl rfl ?_
    refine zx_look (tgt := 97) (off := 87) dX11_swings_10 (by decide +kernel) (by decide +kernel) (by decide) ?_
    refine zx_aload_n (k := 0) (nn := 98) dX11_swings_97 rfl rfl rfl ?_
    refine zx_iload_n (k := 1) (nn := 99) dX11_swings_98 rfl rfl rfl ?_
    refine zx_callSf (nn := 102) (d' := 0) (as := [zi 4]) (rest := [zr 0]) (n := 1) (eX11_above_4 σ μ) kX11_above mlX11_414 (by decide) rfl rfl (Nat.le_of_ble_eq_true rfl) dX11_swings_99 rfl ?_
    show zX shR σ 4 MX11_swings 102 [(0, zr 0), (1, zi 4), (2, zi x)] [zi 0, zr 0] μ _
    refine zx_iload_n (k := 2) (nn := 103) dX11_swings_102 rfl rfl rfl ?_
    refine zx_callV (nn := 106) (k := 0) (d' := 3) (as := [zi 0, zi x]) (rest := []) (n := 2) (eX11_swings_0_4 σ μ x t a n c0.2.2.1 (by omega) c0.2.2.2.1 ((c0.2.1 38 (by decide) (by decide)).trans ha) ((c0.2.1 37 (by decide) (by decide)).trans hn) ((c0.2.1 36 (by decide) (by decide)).trans hk)) kX11_swings mlX11_422 rfl rfl rfl (by decide) rfl rfl (Nat.le_of_ble_eq_true rfl) dX11_swings_103 rfl ?_
    rintro _ ν1 ⟨rfl, q1⟩
    show zX shR σ 4 MX11_swings 106 [(0, zr 0), (1, zi 4), (2, zi x)] [zi ((x + a) - n)] ν1 _
    have c1 : gT μ ν1 t [11, 10] false := gT_tr c0 q1
    refine zx_iret rfl dX11_swings_106 ?_
    exact ⟨rfl, c1⟩
  · exact absurd h4 (by decide)
set_option maxHeartbeats 4000000 in
set_option maxRecDepth 100000 in
theorem eX11_swings_0_5 (σ : zG) (μ : zM) (x : Int32) (t : Nat) (a n : Int32) (ht : μ 0 35 = nI t) (hl : t + 2 ≤ 30) (hp : μ 0 39 = 0) (ha : μ 0 38 = a) (hn : μ 0 37 = n) (hk : μ 0 36 = 5) : zMet shR σ 4 MX11_swings yX11_swings [zr 0, zi 0, zi x] μ (fun rr μ' => rr = some (zi ((x + a) - n)) ∧ gT μ μ' t [11, 10] false) := by
  have c0 : gT μ μ t [] false := gT_rf ht hp
  refine zmetF (by decide +kernel) rfl (Nat.le_of_ble_eq_true rfl) ?_
  show zX shR σ 4 MX11_swings 0 [(0, zr 0), (1, zi 0), (2, zi x)] [] μ _
  refine zx_aload_n (k := 0) (nn := 1) dX11_swings_0 rfl rfl rfl ?_
  refine zx_getI (nn := 4) flX11_402 rfl rfl dX11_swings_1 rfl ?_
  rw [show μ 0 39 = 0 from c0.2.2.2.1]
  show zX shR σ 4 MX11_swings 4 [(0, zr 0), (1, zi 0), (2, zi x)] [zi 0] μ _
  refine zx_if_eq (tgt := 9) (nn := 7) dX11_swings_4 (by decide) rfl (fun h4 => ?_) (fun h4 => ?_)
  · refine zx_iload_n (k := 1) (nn := 10) dX11_swings_9 rfl rfl rfl ?_
    refine zx_look (tgt := 44) (off := 34) dX11_swings_10 (by decide +kernel) (by decide +kernel) (by decide) ?_
    refine zx_aload_n (k := 0) (nn := 45) dX11_swings_44 rfl rfl rfl ?_
    refine zx_bipush (v := 11) (nn := 47) rfl dX11_swings_45 rfl ?_
    refine zx_callV (nn := 50) (k := 0) (d' := 0) (as := [zi 11]) (rest := []) (n := 1) (eX11_begins_0 σ μ 11 t c0.2.2.1 (by omega) c0.2.2.2.1) kX11_begins mlX11_406 rfl rfl rfl (by decide) rfl rfl (Nat.le_of_ble_eq_true rfl) dX11_swings_47 rfl ?_
    rintro _ ν1 ⟨rfl, q1⟩
    show zX shR σ 4 MX11_swings 50 [(0, zr 0), (1, zi 0), (2, zi x)] [] ν1 _
    have c1 : gT μ ν1 t [11] false := gT_tr c0 q1
    refine zx_aload_n (k := 0) (nn := 51) dX11_swings_50 rfl rfl rfl ?_
    refine zx_aload_n (k := 0) (nn := 52) dX11_swings_51 rfl rfl rfl ?_
    refine zx_getI (nn := 55) flX11_417 rfl rfl dX11_swings_52 rfl ?_
    rw [show ν1 0 36 = 5 from (c1.2.1 36 (by decide) (by decide)).trans hk]
    show zX shR σ 4 MX11_swings 55 [(0, zr 0), (1, zi 0), (2, zi x)] [zi 5, zr 0] ν1 _
    refine zx_iload_n (k := 2) (nn := 56) dX11_swings_55 rfl rfl rfl ?_
    refine zx_callV (nn := 59) (k := 0) (d' := 3) (as := [zi 5, zi x]) (rest := []) (n := 2) (eX11_aims_5 σ ν1 x (t + 1) a n c1.2.2.1 (by omega) c1.2.2.2.1 ((c1.2.1 38 (by decide) (by decide)).trans ha) ((c1.2.1 37 (by decide) (by decide)).trans hn)) kX11_aims mlX11_411 rfl rfl rfl (by decide) rfl rfl (Nat.le_of_ble_eq_true rfl) dX11_swings_56 rfl ?_
    rintro _ ν2 ⟨rfl, q2⟩
    show zX shR σ 4 MX11_swings 59 [(0, zr 0), (1, zi 0), (2, zi x)] [zi (x + a)] ν2 _
    have c2 : gT μ ν2 t [11, 10] false := gT_tr c1 q2
    refine zx_aload_n (k := 0) (nn := 60) dX11_swings_59 rfl rfl rfl ?_
    refine zx_getI (nn := 63) flX11_420 rfl rfl dX11_swings_60 rfl ?_
    rw [show ν2 0 37 = n from (c2.2.1 37 (by decide) (by decide)).trans hn]
    show zX shR σ 4 MX11_swings 63 [(0, zr 0), (1, zi 0), (2, zi x)] [zi n, zi (x + a)] ν2 _
    refine zx_isub (nn := 64) dX11_swings_63 rfl ?_
    refine zx_iret rfl dX11_swings_64 ?_
    exact ⟨rfl, c2⟩
  · exact absurd h4 (by decide)
set_option maxHeartbeats 4000000 in
set_option maxRecDepth 100000 in
theorem eX11_swings_4_5 (σ : zG) (μ : zM) (x : Int32) (t : Nat) (a n : Int32) (ht : μ 0 35 = nI t) (hl : t + 2 ≤ 30) (hp : μ 0 39 = 0) (ha : μ 0 38 = a) (hn : μ 0 37 = n) (hk : μ 0 36 = 5) : zMet shR σ 5 MX11_swings yX11_swings [zr 0, zi 4, zi x] μ (fun rr μ' => rr = some (zi ((x + a) - n)) ∧ gT μ μ' t [11, 10] false) := by
  have c0 : gT μ μ t [] false := gT_rf ht hp
  refine zmetF (by decide +kernel) rfl (Nat.le_of_ble_eq_true rfl) ?_
  show zX shR σ 5 MX11_swings 0 [(0, zr 0), (1, zi 4), (2, zi x)] [] μ _
  refine zx_aload_n (k := 0) (nn := 1) dX11_swings_0 rfl rfl rfl ?_
  refine zx_getI (nn := 4) flX11_402 rfl rfl dX11_swings_1 rfl ?_
  rw [show μ 0 39 = 0 from c0.2.2.2.1]
  show zX shR σ 5 MX11_swings 4 [(0, zr 0), (1, zi 4), (2, zi x)] [zi 0] μ _
  refine zx_if_eq (tgt := 9) (nn := 7) dX11_swings_4 (by decide) rfl (fun h4 => ?_) (fun h4 => ?_)
  · refine zx_iload_n (k := 1) (nn := 10) dX11_swings_9 rfl rfl rfl ?_
    refine zx_look (tgt := 97) (off := 87) dX11_swings_10 (by decide +kernel) (by decide +kernel) (by decide) ?_
    refine zx_aload_n (k := 0) (nn := 98) dX11_swings_97 rfl rfl rfl ?_
    refine zx_iload_n (k := 1) (nn := 99) dX11_swings_98 rfl rfl rfl ?_
    refine zx_callSf (nn := 102) (d' := 0) (as := [zi 4]) (rest := [zr 0]) (n := 1) (eX11_above_4 σ μ) kX11_above mlX11_414 (by decide) rfl rfl (Nat.le_of_ble_eq_true rfl) dX11_swings_99 rfl ?_
    show zX shR σ 5 MX11_swings 102 [(0, zr 0), (1, zi 4), (2, zi x)] [zi 0, zr 0] μ _
    refine zx_iload_n (k := 2) (nn := 103) dX11_swings_102 rfl rfl rfl ?_
    refine zx_callV (nn := 106) (k := 0) (d' := 4) (as := [zi 0, zi x]) (rest := []) (n := 2) (eX11_swings_0_5 σ μ x t a n c0.2.2.1 (by omega) c0.2.2.2.1 ((c0.2.1 38 (by decide) (by decide)).trans ha) ((c0.2.1 37 (by decide) (by decide)).trans hn) ((c0.2.1 36 (by decide) (by decide)).trans hk)) kX11_swings mlX11_422 rfl rfl rfl (by decide) rfl rfl (Nat.le_of_ble_eq_true rfl) dX11_swings_103 rfl ?_
    rintro _ ν1 ⟨rfl, q1⟩
    show zX shR σ 5 MX11_swings 106 [(0, zr 0), (1, zi 4), (2, zi x)] [zi ((x + a) - n)] ν1 _
    have c1 : gT μ ν1 t [11, 10] false := gT_tr c0 q1
    refine zx_iret rfl dX11_swings_106 ?_
    exact ⟨rfl, c1⟩
  · exact absurd h4 (by decide)
set_option maxHeartbeats 4000000 in
set_option maxRecDepth 100000 in
theorem eX11_swings_5_5 (σ : zG) (μ : zM) (x : Int32) (t : Nat) (a n : Int32) (ht : μ 0 35 = nI t) (hl : t + 3 ≤ 30) (hp : μ 0 39 = 0) (ha : μ 0 38 = a) (hn : μ 0 37 = n) (hk : μ 0 36 = 5) : zMet shR σ 6 MX11_swings yX11_swings [zr 0, zi 5, zi x] μ (fun rr μ' => rr = some (zi (-((x + a) - n))) ∧ gT μ μ' t [60, 11, 10] false) := by
  have c0 : gT μ μ t [] false := gT_rf ht hp
  refine zmetF (by decide +kernel) rfl (Nat.le_of_ble_eq_true rfl) ?_
  show zX shR σ 6 MX11_swings 0 [(0, zr 0), (1, zi 5), (2, zi x)] [] μ _
  refine zx_aload_n (k := 0) (nn := 1) dX11_swings_0 rfl rfl rfl ?_
  refine zx_getI (nn := 4) flX11_402 rfl rfl dX11_swings_1 rfl ?_
  rw [show μ 0 39 = 0 from c0.2.2.2.1]
  show zX shR σ 6 MX11_swings 4 [(0, zr 0), (1, zi 5), (2, zi x)] [zi 0] μ _
  refine zx_if_eq (tgt := 9) (nn := 7) dX11_swings_4 (by decide) rfl (fun h4 => ?_) (fun h4 => ?_)
  · refine zx_iload_n (k := 1) (nn := 10) dX11_swings_9 rfl rfl rfl ?_
    refine zx_look (tgt := 83) (off := 73) dX11_swings_10 (by decide +kernel) (by decide +kernel) (by decide) ?_
    refine zx_aload_n (k := 0) (nn := 84) dX11_swings_83 rfl rfl rfl ?_
    refine zx_bipush (v := 60) (nn := 86) rfl dX11_swings_84 rfl ?_
    refine zx_callV (nn := 89) (k := 0) (d' := 0) (as := [zi 60]) (rest := []) (n := 1) (eX11_begins_0 σ μ 60 t c0.2.2.1 (by omega) c0.2.2.2.1) kX11_begins mlX11_406 rfl rfl rfl (by decide) rfl rfl (Nat.le_of_ble_eq_true rfl) dX11_swings_86 rfl ?_
    rintro _ ν1 ⟨rfl, q1⟩
    show zX shR σ 6 MX11_swings 89 [(0, zr 0), (1, zi 5), (2, zi x)] [] ν1 _
    have c1 : gT μ ν1 t [60] false := gT_tr c0 q1
    refine zx_aload_n (k := 0) (nn := 90) dX11_swings_89 rfl rfl rfl ?_
    refine zx_iconst (v := 4) (nn := 91) rfl dX11_swings_90 rfl ?_
    refine zx_iload_n (k := 2) (nn := 92) dX11_swings_91 rfl rfl rfl ?_
    refine zx_callV (nn := 95) (k := 0) (d' := 5) (as := [zi 4, zi x]) (rest := []) (n := 2) (eX11_swings_4_5 σ ν1 x (t + 1) a n c1.2.2.1 (by omega) c1.2.2.2.1 ((c1.2.1 38 (by decide) (by decide)).trans ha) ((c1.2.1 37 (by decide) (by decide)).trans hn) ((c1.2.1 36 (by decide) (by decide)).trans hk)) kX11_swings mlX11_422 rfl rfl rfl (by decide) rfl rfl (Nat.le_of_ble_eq_true rfl) dX11_swings_92 rfl ?_
    rintro _ ν2 ⟨rfl, q2⟩
    show zX shR σ 6 MX11_swings 95 [(0, zr 0), (1, zi 5), (2, zi x)] [zi ((x + a) - n)] ν2 _
    have c2 : gT μ ν2 t [60, 11, 10] false := gT_tr c1 q2
    refine zx_ineg (nn := 96) dX11_swings_95 rfl ?_
    refine zx_iret rfl dX11_swings_96 ?_
    exact ⟨rfl, c2⟩
  · exact absurd h4 (by decide)
set_option maxHeartbeats 4000000 in
set_option maxRecDepth 100000 in
theorem eX11_dims_0_q (σ : zG) (μ : zM) (x : Int32) (t : Nat) (a n : Int32) (ht : μ 0 35 = nI t) (hl : t + 1 ≤ 30) (hp : μ 0 39 = 0) (ha : μ 0 38 = a) (hn : μ 0 37 = n) (hd : ¬ a = n) : zMet shR σ 1 MX11_dims yX11_dims [zr 0, zi 0, zi x] μ (fun rr μ' => rr = some (zi (x / (a - n))) ∧ gT μ μ' t [12] false) := by
  have c0 : gT μ μ t [] false := gT_rf ht hp
  refine zmetF (by decide +kernel) rfl (Nat.le_of_ble_eq_true rfl) ?_
  show zX shR σ 1 MX11_dims 0 [(0, zr 0), (1, zi 0), (2, zi x)] [] μ _
  refine zx_aload_n (k := 0) (nn := 1) dX11_dims_0 rfl rfl rfl ?_
  refine zx_getI (nn := 4) flX11_402 rfl rfl dX11_dims_1 rfl ?_
  rw [show μ 0 39 = 0 from c0.2.2.2.1]
  show zX shR σ 1 MX11_dims 4 [(0, zr 0), (1, zi 0), (2, zi x)] [zi 0] μ _
  refine zx_if_eq (tgt := 9) (nn := 7) dX11_dims_4 (by decide) rfl (fun h4 => ?_) (fun h4 => ?_)
  · refine zx_iload_n (k := 1) (nn := 10) dX11_dims_9 rfl rfl rfl ?_
    refine zx_look (tgt := 44) (off := 34) dX11_dims_10 (by decide +kernel) (by decide +kernel) (by decide) ?_
    refine zx_aload_n (k := 0) (nn := 45) dX11_dims_44 rfl rfl rfl ?_
    refine zx_bipush (v := 12) (nn := 47) rfl dX11_dims_45 rfl ?_
    refine zx_callV (nn := 50) (k := 0) (d' := 0) (as := [zi 12]) (rest := []) (n := 1) (eX11_begins_0 σ μ 12 t c0.2.2.1 (by omega) c0.2.2.2.1) kX11_begins mlX11_406 rfl rfl rfl (by decide) rfl rfl (Nat.le_of_ble_eq_true rfl) dX11_dims_47 rfl ?_
    rintro _ ν1 ⟨rfl, q1⟩
    show zX shR σ 1 MX11_dims 50 [(0, zr 0), (1, zi 0), (2, zi x)] [] ν1 _
    have c1 : gT μ ν1 t [12] false := gT_tr c0 q1
    refine zx_aload_n (k := 0) (nn := 51) dX11_dims_50 rfl rfl rfl ?_
    refine zx_aload_n (k := 0) (nn := 52) dX11_dims_51 rfl rfl rfl ?_
    refine zx_getI (nn := 55) flX11_409 rfl rfl dX11_dims_52 rfl ?_
    rw [show ν1 0 38 = a from (c1.2.1 38 (by decide) (by decide)).trans ha]
    show zX shR σ 1 MX11_dims 55 [(0, zr 0), (1, zi 0), (2, zi x)] [zi a, zr 0] ν1 _
    refine zx_aload_n (k := 0) (nn := 56) dX11_dims_55 rfl rfl rfl ?_
    refine zx_getI (nn := 59) flX11_420 rfl rfl dX11_dims_56 rfl ?_
    rw [show ν1 0 37 = n from (c1.2.1 37 (by decide) (by decide)).trans hn]
    show zX shR σ 1 MX11_dims 59 [(0, zr 0), (1, zi 0), (2, zi x)] [zi n, zi a, zr 0] ν1 _
    refine zx_icmp_ne (tgt := 66) (nn := 62) dX11_dims_59 (by decide) rfl (fun h59 => ?_) (fun h59 => ?_)
    · refine zx_iconst (v := 0) (nn := 67) rfl dX11_dims_66 rfl ?_
      refine zx_putI (nn := 70) fpX11_402 rfl rfl rfl rfl dX11_dims_67 rfl ?_
      refine zx_aload_n (k := 0) (nn := 71) dX11_dims_70 rfl rfl rfl ?_
      refine zx_getI (nn := 74) flX11_402 rfl rfl dX11_dims_71 rfl ?_
      show zX shR σ 1 MX11_dims 74 [(0, zr 0), (1, zi 0), (2, zi x)] [zi 0] (zp ν1 0 39 0) _
      refine zx_if_eq (tgt := 81) (nn := 77) dX11_dims_74 (by decide) rfl (fun h74 => ?_) (fun h74 => ?_)
      · refine zx_aload_n (k := 0) (nn := 82) dX11_dims_81 rfl rfl rfl ?_
        refine zx_getI (nn := 85) flX11_409 rfl rfl dX11_dims_82 rfl ?_
        show zX shR σ 1 MX11_dims 85 [(0, zr 0), (1, zi 0), (2, zi x)] [zi (ν1 0 38)] (zp ν1 0 39 0) _
        rw [show ν1 0 38 = a from (c1.2.1 38 (by decide) (by decide)).trans ha]
        show zX shR σ 1 MX11_dims 85 [(0, zr 0), (1, zi 0), (2, zi x)] [zi a] (zp ν1 0 39 0) _
        refine zx_aload_n (k := 0) (nn := 86) dX11_dims_85 rfl rfl rfl ?_
        refine zx_getI (nn := 89) flX11_420 rfl rfl dX11_dims_86 rfl ?_
        show zX shR σ 1 MX11_dims 89 [(0, zr 0), (1, zi 0), (2, zi x)] [zi (ν1 0 37), zi a] (zp ν1 0 39 0) _
        rw [show ν1 0 37 = n from (c1.2.1 37 (by decide) (by decide)).trans hn]
        show zX shR σ 1 MX11_dims 89 [(0, zr 0), (1, zi 0), (2, zi x)] [zi n, zi a] (zp ν1 0 39 0) _
        refine zx_isub (nn := 90) dX11_dims_89 rfl ?_
        refine zx_iconst (v := -1) (nn := 91) rfl dX11_dims_90 rfl ?_
        refine zx_icmp_ne (tgt := 99) (nn := 94) dX11_dims_91 (by decide) rfl (fun h91 => ?_) (fun h91 => ?_)
        · refine zx_iload_n (k := 2) (nn := 100) dX11_dims_99 rfl rfl rfl ?_
          refine zx_aload_n (k := 0) (nn := 101) dX11_dims_100 rfl rfl rfl ?_
          refine zx_getI (nn := 104) flX11_409 rfl rfl dX11_dims_101 rfl ?_
          show zX shR σ 1 MX11_dims 104 [(0, zr 0), (1, zi 0), (2, zi x)] [zi (ν1 0 38), zi x] (zp ν1 0 39 0) _
          rw [show ν1 0 38 = a from (c1.2.1 38 (by decide) (by decide)).trans ha]
          show zX shR σ 1 MX11_dims 104 [(0, zr 0), (1, zi 0), (2, zi x)] [zi a, zi x] (zp ν1 0 39 0) _
          refine zx_aload_n (k := 0) (nn := 105) dX11_dims_104 rfl rfl rfl ?_
          refine zx_getI (nn := 108) flX11_420 rfl rfl dX11_dims_105 rfl ?_
          show zX shR σ 1 MX11_dims 108 [(0, zr 0), (1, zi 0), (2, zi x)] [zi (ν1 0 37), zi a, zi x] (zp ν1 0 39 0) _
          rw [show ν1 0 37 = n from (c1.2.1 37 (by decide) (by decide)).trans hn]
          show zX shR σ 1 MX11_dims 108 [(0, zr 0), (1, zi 0), (2, zi x)] [zi n, zi a, zi x] (zp ν1 0 39 0) _
          refine zx_isub (nn := 109) dX11_dims_108 rfl ?_
          refine zx_idiv (nn := 110) (sub_ne0 hd) dX11_dims_109 rfl ?_
          refine zx_iret rfl dX11_dims_110 ?_
          have cf : gT μ (zp ν1 0 39 0) t [12] false := gT_39 false c1
          exact ⟨rfl, cf⟩
        · refine zx_iload_n (k := 2) (nn := 95) dX11_dims_94 rfl rfl rfl ?_
          refine zx_ineg (nn := 96) dX11_dims_95 rfl ?_
          refine zx_goto (tgt := 110) dX11_dims_96 (by decide) ?_
          refine zx_iret rfl dX11_dims_110 ?_
          have cf : gT μ (zp ν1 0 39 0) t [12] false := gT_39 false c1
          exact ⟨congrArg (fun x => some (zi x)) (div_m1 h91), cf⟩
      · exact absurd h74 (by decide)
    · exact absurd h59 hd
  · exact absurd h4 (by decide)
set_option maxHeartbeats 4000000 in
set_option maxRecDepth 100000 in
theorem eX11_dims_1_q (σ : zG) (μ : zM) (x : Int32) (t : Nat) (a n : Int32) (ht : μ 0 35 = nI t) (hl : t + 1 ≤ 30) (hp : μ 0 39 = 0) (ha : μ 0 38 = a) (hn : μ 0 37 = n) (hd : ¬ a = n) : zMet shR σ 2 MX11_dims yX11_dims [zr 0, zi 1, zi x] μ (fun rr μ' => rr = some (zi (x / (a - n))) ∧ gT μ μ' t [12] false) := by
  have c0 : gT μ μ t [] false := gT_rf ht hp
  refine zmetF (by decide +kernel) rfl (Nat.le_of_ble_eq_true rfl) ?_
  show zX shR σ 2 MX11_dims 0 [(0, zr 0), (1, zi 1), (2, zi x)] [] μ _
  refine zx_aload_n (k := 0) (nn := 1) dX11_dims_0 rfl rfl rfl ?_
  refine zx_getI (nn := 4) flX11_402 rfl rfl dX11_dims_1 rfl ?_
  rw [show μ 0 39 = 0 from c0.2.2.2.1]
  show zX shR σ 2 MX11_dims 4 [(0, zr 0), (1, zi 1), (2, zi x)] [zi 0] μ _
  refine zx_if_eq (tgt := 9) (nn := 7) dX11_dims_4 (by decide) rfl (fun h4 => ?_) (fun h4 => ?_)
  · refine zx_iload_n (k := 1) (nn := 10) dX11_dims_9 rfl rfl rfl ?_
    refine zx_look (tgt := 154) (off := 144) dX11_dims_10 (by decide +kernel) (by decide +kernel) (by decide) ?_
    refine zx_aload_n (k := 0) (nn := 155) dX11_dims_154 rfl rfl rfl ?_
    refine zx_iload_n (k := 1) (nn := 156) dX11_dims_155 rfl rfl rfl ?_
    refine zx_callSf (nn := 159) (d' := 0) (as := [zi 1]) (rest := [zr 0]) (n := 1) (eX11_above_1 σ μ) kX11_above mlX11_414 (by decide) rfl rfl (Nat.le_of_ble_eq_true rfl) dX11_dims_156 rfl ?_
    show zX shR σ 2 MX11_dims 159 [(0, zr 0), (1, zi 1), (2, zi x)] [zi 0, zr 0] μ _
    refine zx_iload_n (k := 2) (nn := 160) dX11_dims_159 rfl rfl rfl ?_
    refine zx_callV (nn := 163) (k := 0) (d' := 1) (as := [zi 0, zi x]) (rest := []) (n := 2) (eX11_dims_0_q σ μ x t a n c0.2.2.1 (by omega) c0.2.2.2.1 ((c0.2.1 38 (by decide) (by decide)).trans ha) ((c0.2.1 37 (by decide) (by decide)).trans hn) hd) kX11_dims mlX11_425 rfl rfl rfl (by decide) rfl rfl (Nat.le_of_ble_eq_true rfl) dX11_dims_160 rfl ?_
    rintro _ ν1 ⟨rfl, q1⟩
    show zX shR σ 2 MX11_dims 163 [(0, zr 0), (1, zi 1), (2, zi x)] [zi (x / (a - n))] ν1 _
    have c1 : gT μ ν1 t [12] false := gT_tr c0 q1
    refine zx_iret rfl dX11_dims_163 ?_
    exact ⟨rfl, c1⟩
  · exact absurd h4 (by decide)
set_option maxHeartbeats 4000000 in
set_option maxRecDepth 100000 in
theorem eX11_dims_2_q (σ : zG) (μ : zM) (x : Int32) (t : Nat) (a n : Int32) (ht : μ 0 35 = nI t) (hl : t + 1 ≤ 30) (hp : μ 0 39 = 0) (ha : μ 0 38 = a) (hn : μ 0 37 = n) (hd : ¬ a = n) : zMet shR σ 2 MX11_dims yX11_dims [zr 0, zi 2, zi x] μ (fun rr μ' => rr = some (zi (x / (a - n))) ∧ gT μ μ' t [12] false) := by
  have c0 : gT μ μ t [] false := gT_rf ht hp
  refine zmetF (by decide +kernel) rfl (Nat.le_of_ble_eq_true rfl) ?_
  show zX shR σ 2 MX11_dims 0 [(0, zr 0), (1, zi 2), (2, zi x)] [] μ _
  refine zx_aload_n (k := 0) (nn := 1) dX11_dims_0 rfl rfl rfl ?_
  refine zx_getI (nn := 4) flX11_402 rfl rfl dX11_dims_1 rfl ?_
  rw [show μ 0 39 = 0 from c0.2.2.2.1]
  show zX shR σ 2 MX11_dims 4 [(0, zr 0), (1, zi 2), (2, zi x)] [zi 0] μ _
  refine zx_if_eq (tgt := 9) (nn := 7) dX11_dims_4 (by decide) rfl (fun h4 => ?_) (fun h4 => ?_)
  · refine zx_iload_n (k := 1) (nn := 10) dX11_dims_9 rfl rfl rfl ?_
    refine zx_look (tgt := 154) (off := 144) dX11_dims_10 (by decide +kernel) (by decide +kernel) (by decide) ?_
    refine zx_aload_n (k := 0) (nn := 155) dX11_dims_154 rfl rfl rfl ?_
    refine zx_iload_n (k := 1) (nn := 156) dX11_dims_155 rfl rfl rfl ?_
    refine zx_callSf (nn := 159) (d' := 0) (as := [zi 2]) (rest := [zr 0]) (n := 1) (eX11_above_2 σ μ) kX11_above mlX11_414 (by decide) rfl rfl (Nat.le_of_ble_eq_true rfl) dX11_dims_156 rfl ?_
    show zX shR σ 2 MX11_dims 159 [(0, zr 0), (1, zi 2), (2, zi x)] [zi 0, zr 0] μ _
    refine zx_iload_n (k := 2) (nn := 160) dX11_dims_159 rfl rfl rfl ?_
    refine zx_callV (nn := 163) (k := 0) (d' := 1) (as := [zi 0, zi x]) (rest := []) (n := 2) (eX11_dims_0_q σ μ x t a n c0.2.2.1 (by omega) c0.2.2.2.1 ((c0.2.1 38 (by decide) (by decide)).trans ha) ((c0.2.1 37 (by decide) (by decide)).trans hn) hd) kX11_dims mlX11_425 rfl rfl rfl (by decide) rfl rfl (Nat.le_of_ble_eq_true rfl) dX11_dims_160 rfl ?_
    rintro _ ν1 ⟨rfl, q1⟩
    show zX shR σ 2 MX11_dims 163 [(0, zr 0), (1, zi 2), (2, zi x)] [zi (x / (a - n))] ν1 _
    have c1 : gT μ ν1 t [12] false := gT_tr c0 q1
    refine zx_iret rfl dX11_dims_163 ?_
    exact ⟨rfl, c1⟩
  · exact absurd h4 (by decide)
set_option maxHeartbeats 4000000 in
set_option maxRecDepth 100000 in
theorem eX11_dims_3_q (σ : zG) (μ : zM) (x : Int32) (t : Nat) (a n : Int32) (ht : μ 0 35 = nI t) (hl : t + 1 ≤ 30) (hp : μ 0 39 = 0) (ha : μ 0 38 = a) (hn : μ 0 37 = n) (hd : ¬ a = n) : zMet shR σ 3 MX11_dims yX11_dims [zr 0, zi 3, zi x] μ (fun rr μ' => rr = some (zi (x / (a - n))) ∧ gT μ μ' t [12] false) := by
  have c0 : gT μ μ t [] false := gT_rf ht hp
  refine zmetF (by decide +kernel) rfl (Nat.le_of_ble_eq_true rfl) ?_
  show zX shR σ 3 MX11_dims 0 [(0, zr 0), (1, zi 3), (2, zi x)] [] μ _
  refine zx_aload_n (k := 0) (nn := 1) dX11_dims_0 rfl rfl rfl ?_
  refine zx_getI (nn := 4) flX11_402 rfl rfl dX11_dims_1 rfl ?_
  rw [show μ 0 39 = 0 from c0.2.2.2.1]
  show zX shR σ 3 MX11_dims 4 [(0, zr 0), (1, zi 3), (2, zi x)] [zi 0] μ _
  refine zx_if_eq (tgt := 9) (nn := 7) dX11_dims_4 (by decide) rfl (fun h4 => ?_) (fun h4 => ?_)
  · refine zx_iload_n (k := 1) (nn := 10) dX11_dims_9 rfl rfl rfl ?_
    refine zx_look (tgt := 154) (off := 144) dX11_dims_10 (by decide +kernel) (by decide +kernel) (by decide) ?_
    refine zx_aload_n (k := 0) (nn := 155) dX11_dims_154 rfl rfl rfl ?_
    refine zx_iload_n (k := 1) (nn := 156) dX11_dims_155 rfl rfl rfl ?_
    refine zx_callSf (nn := 159) (d' := 0) (as := [zi 3]) (rest := [zr 0]) (n := 1) (eX11_above_3 σ μ) kX11_above mlX11_414 (by decide) rfl rfl (Nat.le_of_ble_eq_true rfl) dX11_dims_156 rfl ?_
    show zX shR σ 3 MX11_dims 159 [(0, zr 0), (1, zi 3), (2, zi x)] [zi 2, zr 0] μ _
    refine zx_iload_n (k := 2) (nn := 160) dX11_dims_159 rfl rfl rfl ?_
    refine zx_callV (nn := 163) (k := 0) (d' := 2) (as := [zi 2, zi x]) (rest := []) (n := 2) (eX11_dims_2_q σ μ x t a n c0.2.2.1 (by omega) c0.2.2.2.1 ((c0.2.1 38 (by decide) (by decide)).trans ha) ((c0.2.1 37 (by decide) (by decide)).trans hn) hd) kX11_dims mlX11_425 rfl rfl rfl (by decide) rfl rfl (Nat.le_of_ble_eq_true rfl) dX11_dims_160 rfl ?_
    rintro _ ν1 ⟨rfl, q1⟩
    show zX shR σ 3 MX11_dims 163 [(0, zr 0), (1, zi 3), (2, zi x)] [zi (x / (a - n))] ν1 _
    have c1 : gT μ ν1 t [12] false := gT_tr c0 q1
    refine zx_iret rfl dX11_dims_163 ?_
    exact ⟨rfl, c1⟩
  · exact absurd h4 (by decide)
set_option maxHeartbeats 4000000 in
set_option maxRecDepth 100000 in
theorem eX11_dims_4_q (σ : zG) (μ : zM) (x : Int32) (t : Nat) (a n : Int32) (ht : μ 0 35 = nI t) (hl : t + 2 ≤ 30) (hp : μ 0 39 = 0) (ha : μ 0 38 = a) (hn : μ 0 37 = n) (hd : ¬ a = n) : zMet shR σ 2 MX11_dims yX11_dims [zr 0, zi 4, zi x] μ (fun rr μ' => rr = some (zi ((x - 3) / (a - n))) ∧ gT μ μ' t [40, 12] false) := by
  have c0 : gT μ μ t [] false := gT_rf ht hp
  refine zmetF (by decide +kernel) rfl (Nat.le_of_ble_eq_true rfl) ?_
  show zX shR σ 2 MX11_dims 0 [(0, zr 0), (1, zi 4), (2, zi x)] [] μ _
  refine zx_aload_n (k := 0) (nn := 1) dX11_dims_0 rfl rfl rfl ?_
  refine zx_getI (nn := 4) flX11_402 rfl rfl dX11_dims_1 rfl ?_
  rw [show μ 0 39 = 0 from c0.2.2.2.1]
  show zX shR σ 2 MX11_dims 4 [(0, zr 0), (1, zi 4), (2, zi x)] [zi 0] μ _
  refine zx_if_eq (tgt := 9) (nn := 7) dX11_dims_4 (by decide) rfl (fun h4 => ?_) (fun h4 => ?_)
  · refine zx_iload_n (k := 1) (nn := 10) dX11_dims_9 rfl rfl rfl ?_
    refine zx_look (tgt := 111) (off := 101) dX11_dims_10 (by decide +kernel) (by decide +kernel) (by decide) ?_
    refine zx_aload_n (k := 0) (nn := 112) dX11_dims_111 rfl rfl rfl ?_
    refine zx_bipush (v := 40) (nn := 114) rfl dX11_dims_112 rfl ?_
    refine zx_callV (nn := 117) (k := 0) (d' := 0) (as := [zi 40]) (rest := []) (n := 1) (eX11_begins_0 σ μ 40 t c0.2.2.1 (by omega) c0.2.2.2.1) kX11_begins mlX11_406 rfl rfl rfl (by decide) rfl rfl (Nat.le_of_ble_eq_true rfl) dX11_dims_114 rfl ?_
    rintro _ ν1 ⟨rfl, q1⟩
    show zX shR σ 2 MX11_dims 117 [(0, zr 0), (1, zi 4), (2, zi x)] [] ν1 _
    have c1 : gT μ ν1 t [40] false := gT_tr c0 q1
    refine zx_aload_n (k := 0) (nn := 118) dX11_dims_117 rfl rfl rfl ?_
    refine zx_iconst (v := 0) (nn := 119) rfl dX11_dims_118 rfl ?_
    refine zx_iload_n (k := 2) (nn := 120) dX11_dims_119 rfl rfl rfl ?_
    refine zx_iconst (v := 3) (nn := 121) rfl dX11_dims_120 rfl ?_
    refine zx_isub (nn := 122) dX11_dims_121 rfl ?_
    refine zx_callV (nn := 125) (k := 0) (d' := 1) (as := [zi 0, zi (x - 3)]) (rest := []) (n := 2) (eX11_dims_0_q σ ν1 (x - 3) (t + 1) a n c1.2.2.1 (by omega) c1.2.2.2.1 ((c1.2.1 38 (by decide) (by decide)).trans ha) ((c1.2.1 37 (by decide) (by decide)).trans hn) hd) kX11_dims mlX11_425 rfl rfl rfl (by decide) rfl rfl (Nat.le_of_ble_eq_true rfl) dX11_dims_122 rfl ?_
    rintro _ ν2 ⟨rfl, q2⟩
    show zX shR σ 2 MX11_dims 125 [(0, zr 0), (1, zi 4), (2, zi x)] [zi ((x - 3) / (a - n))] ν2 _
    have c2 : gT μ ν2 t [40, 12] false := gT_tr c1 q2
    refine zx_iret rfl dX11_dims_125 ?_
    exact ⟨rfl, c2⟩
  · exact absurd h4 (by decide)
set_option maxHeartbeats 4000000 in
set_option maxRecDepth 100000 in
theorem eX11_dims_5_5_q (σ : zG) (μ : zM) (x : Int32) (t : Nat) (a n : Int32) (ht : μ 0 35 = nI t) (hl : t + 4 ≤ 30) (hp : μ 0 39 = 0) (ha : μ 0 38 = a) (hn : μ 0 37 = n) (hk : μ 0 36 = 5) (hd : ¬ a = n) : zMet shR σ 4 MX11_dims yX11_dims [zr 0, zi 5, zi x] μ (fun rr μ' => rr = some (zi ((x - 3) / (a - n) - (n + a))) ∧ gT μ μ' t [61, 40, 12, 10] false) := by
  have c0 : gT μ μ t [] false := gT_rf ht hp
  refine zmetF (by decide +kernel) rfl (Nat.le_of_ble_eq_true rfl) ?_
  show zX shR σ 4 MX11_dims 0 [(0, zr 0), (1, zi 5), (2, zi x)] [] μ _
  refine zx_aload_n (k := 0) (nn := 1) dX11_dims_0 rfl rfl rfl ?_
  refine zx_getI (nn := 4) flX11_402 rfl rfl dX11_dims_1 rfl ?_
  rw [show μ 0 39 = 0 from c0.2.2.2.1]
  show zX shR σ 4 MX11_dims 4 [(0, zr 0), (1, zi 5), (2, zi x)] [zi 0] μ _
  refine zx_if_eq (tgt := 9) (nn := 7) dX11_dims_4 (by decide) rfl (fun h4 => ?_) (fun h4 => ?_)
  · refine zx_iload_n (k := 1) (nn := 10) dX11_dims_9 rfl rfl rfl ?_
    refine zx_look (tgt := 126) (off := 116) dX11_dims_10 (by decide +kernel) (by decide +kernel) (by decide) ?_
    refine zx_aload_n (k := 0) (nn := 127) dX11_dims_126 rfl rfl rfl ?_
    refine zx_bipush (v := 61) (nn := 129) rfl dX11_dims_127 rfl ?_
    refine zx_callV (nn := 132) (k := 0) (d' := 0) (as := [zi 61]) (rest := []) (n := 1) (eX11_begins_0 σ μ 61 t c0.2.2.1 (by omega) c0.2.2.2.1) kX11_begins mlX11_406 rfl rfl rfl (by decide) rfl rfl (Nat.le_of_ble_eq_true rfl) dX11_dims_129 rfl ?_
    rintro _ ν1 ⟨rfl, q1⟩
    show zX shR σ 4 MX11_dims 132 [(0, zr 0), (1, zi 5), (2, zi x)] [] ν1 _
    have c1 : gT μ ν1 t [61] false := gT_tr c0 q1
    refine zx_aload_n (k := 0) (nn := 133) dX11_dims_132 rfl rfl rfl ?_
    refine zx_iconst (v := 4) (nn := 134) rfl dX11_dims_133 rfl ?_
    refine zx_iload_n (k := 2) (nn := 135) dX11_dims_134 rfl rfl rfl ?_
    refine zx_callV (nn := 138) (k := 0) (d' := 2) (as := [zi 4, zi x]) (rest := []) (n := 2) (eX11_dims_4_q σ ν1 x (t + 1) a n c1.2.2.1 (by omega) c1.2.2.2.1 ((c1.2.1 38 (by decide) (by decide)).trans ha) ((c1.2.1 37 (by decide) (by decide)).trans hn) hd) kX11_dims mlX11_425 rfl rfl rfl (by decide) rfl rfl (Nat.le_of_ble_eq_true rfl) dX11_dims_135 rfl ?_
    rintro _ ν2 ⟨rfl, q2⟩
    show zX shR σ 4 MX11_dims 138 [(0, zr 0), (1, zi 5), (2, zi x)] [zi ((x - 3) / (a - n))] ν2 _
    have c2 : gT μ ν2 t [61, 40, 12] false := gT_tr c1 q2
    refine zx_istore_n (nn := 139) (lv' := [(3, zi ((x - 3) / (a - n))), (0, zr 0), (1, zi 5), (2, zi x)]) dX11_dims_138 rfl (by decide) rfl rfl ?_
    refine zx_iload_n (k := 0) (nn := 140) dX11_dims_139 rfl rfl rfl ?_
    refine zx_aload_n (k := 1) (nn := 141) dX11_dims_140 rfl rfl rfl ?_
    refine zx_aload_n (k := 1) (nn := 142) dX11_dims_141 rfl rfl rfl ?_
    refine zx_getI (nn := 145) flX11_417 rfl rfl dX11_dims_142 rfl ?_
    rw [show ν2 0 36 = 5 from (c2.2.1 36 (by decide) (by decide)).trans hk]
    show zX shR σ 4 MX11_dims 145 [(3, zi ((x - 3) / (a - n))), (0, zr 0), (1, zi 5), (2, zi x)] [zi 5, zr 0, zi ((x - 3) / (a - n))] ν2 _
    refine zx_aload_n (k := 1) (nn := 146) dX11_dims_145 rfl rfl rfl ?_
    refine zx_getI (nn := 149) flX11_420 rfl rfl dX11_dims_146 rfl ?_
    rw [show ν2 0 37 = n from (c2.2.1 37 (by decide) (by decide)).trans hn]
    show zX shR σ 4 MX11_dims 149 [(3, zi ((x - 3) / (a - n))), (0, zr 0), (1, zi 5), (2, zi x)] [zi n, zi 5, zr 0, zi ((x - 3) / (a - n))] ν2 _
    refine zx_callV (nn := 152) (k := 0) (d' := 3) (as := [zi 5, zi n]) (rest := [zi ((x - 3) / (a - n))]) (n := 2) (eX11_aims_5 σ ν2 n (t + 3) a n c2.2.2.1 (by omega) c2.2.2.2.1 ((c2.2.1 38 (by decide) (by decide)).trans ha) ((c2.2.1 37 (by decide) (by decide)).trans hn)) kX11_aims mlX11_411 rfl rfl rfl (by decide) rfl rfl (Nat.le_of_ble_eq_true rfl) dX11_dims_149 rfl ?_
    rintro _ ν3 ⟨rfl, q3⟩
    show zX shR σ 4 MX11_dims 152 [(3, zi ((x - 3) / (a - n))), (0, zr 0), (1, zi 5), (2, zi x)] [zi (n + a), zi ((x - 3) / (a - n))] ν3 _
    have c3 : gT μ ν3 t [61, 40, 12, 10] false := gT_tr c2 q3
    refine zx_isub (nn := 153) dX11_dims_152 rfl ?_
    refine zx_iret rfl dX11_dims_153 ?_
    exact ⟨rfl, c3⟩
  · exact absurd h4 (by decide)
set_option maxHeartbeats 4000000 in
set_option maxRecDepth 100000 in
theorem eX11_dims_0_p (σ : zG) (μ : zM) (x : Int32) (t : Nat) (a n : Int32) (ht : μ 0 35 = nI t) (hl : t + 1 ≤ 30) (hp : μ 0 39 = 0) (ha : μ 0 38 = a) (hn : μ 0 37 = n) (hd : a = n) : zMet shR σ 1 MX11_dims yX11_dims [zr 0, zi 0, zi x] μ (fun rr μ' => rr = some (zi (0)) ∧ gT μ μ' t [12] true) := by
  have c0 : gT μ μ t [] false := gT_rf ht hp
  refine zmetF (by decide +kernel) rfl (Nat.le_of_ble_eq_true rfl) ?_
  show zX shR σ 1 MX11_dims 0 [(0, zr 0), (1, zi 0), (2, zi x)] [] μ _
  refine zx_aload_n (k := 0) (nn := 1) dX11_dims_0 rfl rfl rfl ?_
  refine zx_getI (nn := 4) flX11_402 rfl rfl dX11_dims_1 rfl ?_
  rw [show μ 0 39 = 0 from c0.2.2.2.1]
  show zX shR σ 1 MX11_dims 4 [(0, zr 0), (1, zi 0), (2, zi x)] [zi 0] μ _
  refine zx_if_eq (tgt := 9) (nn := 7) dX11_dims_4 (by decide) rfl (fun h4 => ?_) (fun h4 => ?_)
  · refine zx_iload_n (k := 1) (nn := 10) dX11_dims_9 rfl rfl rfl ?_
    refine zx_look (tgt := 44) (off := 34) dX11_dims_10 (by decide +kernel) (by decide +kernel) (by decide) ?_
    refine zx_aload_n (k := 0) (nn := 45) dX11_dims_44 rfl rfl rfl ?_
    refine zx_bipush (v := 12) (nn := 47) rfl dX11_dims_45 rfl ?_
    refine zx_callV (nn := 50) (k := 0) (d' := 0) (as := [zi 12]) (rest := []) (n := 1) (eX11_begins_0 σ μ 12 t c0.2.2.1 (by omega) c0.2.2.2.1) kX11_begins mlX11_406 rfl rfl rfl (by decide) rfl rfl (Nat.le_of_ble_eq_true rfl) dX11_dims_47 rfl ?_
    rintro _ ν1 ⟨rfl, q1⟩
    show zX shR σ 1 MX11_dims 50 [(0, zr 0), (1, zi 0), (2, zi x)] [] ν1 _
    have c1 : gT μ ν1 t [12] false := gT_tr c0 q1
    refine zx_aload_n (k := 0) (nn := 51) dX11_dims_50 rfl rfl rfl ?_
    refine zx_aload_n (k := 0) (nn := 52) dX11_dims_51 rfl rfl rfl ?_
    refine zx_getI (nn := 55) flX11_409 rfl rfl dX11_dims_52 rfl ?_
    rw [show ν1 0 38 = a from (c1.2.1 38 (by decide) (by decide)).trans ha]
    show zX shR σ 1 MX11_dims 55 [(0, zr 0), (1, zi 0), (2, zi x)] [zi a, zr 0] ν1 _
    refine zx_aload_n (k := 0) (nn := 56) dX11_dims_55 rfl rfl rfl ?_
    refine zx_getI (nn := 59) flX11_420 rfl rfl dX11_dims_56 rfl ?_
    rw [show ν1 0 37 = n from (c1.2.1 37 (by decide) (by decide)).trans hn]
    show zX shR σ 1 MX11_dims 59 [(0, zr 0), (1, zi 0), (2, zi x)] [zi n, zi a, zr 0] ν1 _
    refine zx_icmp_ne (tgt := 66) (nn := 62) dX11_dims_59 (by decide) rfl (fun h59 => ?_) (fun h59 => ?_)
    · exact absurd hd h59
    · refine zx_iconst (v := 1) (nn := 63) rfl dX11_dims_62 rfl ?_
      refine zx_goto (tgt := 67) dX11_dims_63 (by decide) ?_
      refine zx_putI (nn := 70) fpX11_402 rfl rfl rfl rfl dX11_dims_67 rfl ?_
      refine zx_aload_n (k := 0) (nn := 71) dX11_dims_70 rfl rfl rfl ?_
      refine zx_getI (nn := 74) flX11_402 rfl rfl dX11_dims_71 rfl ?_
      show zX shR σ 1 MX11_dims 74 [(0, zr 0), (1, zi 0), (2, zi x)] [zi 1] (zp ν1 0 39 1) _
      refine zx_if_eq (tgt := 81) (nn := 77) dX11_dims_74 (by decide) rfl (fun h74 => ?_) (fun h74 => ?_)
      · exact absurd h74 (by decide)
      · refine zx_iconst (v := 0) (nn := 78) rfl dX11_dims_77 rfl ?_
        refine zx_goto (tgt := 110) dX11_dims_78 (by decide) ?_
        refine zx_iret rfl dX11_dims_110 ?_
        have cf : gT μ (zp ν1 0 39 1) t [12] true := gT_39 true c1
        exact ⟨rfl, cf⟩
  · exact absurd h4 (by decide)
set_option maxHeartbeats 4000000 in
set_option maxRecDepth 100000 in
theorem eX11_dims_1_p (σ : zG) (μ : zM) (x : Int32) (t : Nat) (a n : Int32) (ht : μ 0 35 = nI t) (hl : t + 1 ≤ 30) (hp : μ 0 39 = 0) (ha : μ 0 38 = a) (hn : μ 0 37 = n) (hd : a = n) : zMet shR σ 2 MX11_dims yX11_dims [zr 0, zi 1, zi x] μ (fun rr μ' => rr = some (zi (0)) ∧ gT μ μ' t [12] true) := by
  have c0 : gT μ μ t [] false := gT_rf ht hp
  refine zmetF (by decide +kernel) rfl (Nat.le_of_ble_eq_true rfl) ?_
  show zX shR σ 2 MX11_dims 0 [(0, zr 0), (1, zi 1), (2, zi x)] [] μ _
  refine zx_aload_n (k := 0) (nn := 1) dX11_dims_0 rfl rfl rfl ?_
  refine zx_getI (nn := 4) flX11_402 rfl rfl dX11_dims_1 rfl ?_
  rw [show μ 0 39 = 0 from c0.2.2.2.1]
  show zX shR σ 2 MX11_dims 4 [(0, zr 0), (1, zi 1), (2, zi x)] [zi 0] μ _
  refine zx_if_eq (tgt := 9) (nn := 7) dX11_dims_4 (by decide) rfl (fun h4 => ?_) (fun h4 => ?_)
  · refine zx_iload_n (k := 1) (nn := 10) dX11_dims_9 rfl rfl rfl ?_
    refine zx_look (tgt := 154) (off := 144) dX11_dims_10 (by decide +kernel) (by decide +kernel) (by decide) ?_
    refine zx_aload_n (k := 0) (nn := 155) dX11_dims_154 rfl rfl rfl ?_
    refine zx_iload_n (k := 1) (nn := 156) dX11_dims_155 rfl rfl rfl ?_
    refine zx_callSf (nn := 159) (d' := 0) (as := [zi 1]) (rest := [zr 0]) (n := 1) (eX11_above_1 σ μ) kX11_above mlX11_414 (by decide) rfl rfl (Nat.le_of_ble_eq_true rfl) dX11_dims_156 rfl ?_
    show zX shR σ 2 MX11_dims 159 [(0, zr 0), (1, zi 1), (2, zi x)] [zi 0, zr 0] μ _
    refine zx_iload_n (k := 2) (nn := 160) dX11_dims_159 rfl rfl rfl ?_
    refine zx_callV (nn := 163) (k := 0) (d' := 1) (as := [zi 0, zi x]) (rest := []) (n := 2) (eX11_dims_0_p σ μ x t a n c0.2.2.1 (by omega) c0.2.2.2.1 ((c0.2.1 38 (by decide) (by decide)).trans ha) ((c0.2.1 37 (by decide) (by decide)).trans hn) hd) kX11_dims mlX11_425 rfl rfl rfl (by decide) rfl rfl (Nat.le_of_ble_eq_true rfl) dX11_dims_160 rfl ?_
    rintro _ ν1 ⟨rfl, q1⟩
    show zX shR σ 2 MX11_dims 163 [(0, zr 0), (1, zi 1), (2, zi x)] [zi 0] ν1 _
    have c1 : gT μ ν1 t [12] true := gT_tr c0 q1
    refine zx_iret rfl dX11_dims_163 ?_
    exact ⟨rfl, c1⟩
  · exact absurd h4 (by decide)
set_option maxHeartbeats 4000000 in
set_option maxRecDepth 100000 in
theorem eX11_dims_2_p (σ : zG) (μ : zM) (x : Int32) (t : Nat) (a n : Int32) (ht : μ 0 35 = nI t) (hl : t + 1 ≤ 30) (hp : μ 0 39 = 0) (ha : μ 0 38 = a) (hn : μ 0 37 = n) (hd : a = n) : zMet shR σ 2 MX11_dims yX11_dims [zr 0, zi 2, zi x] μ (fun rr μ' => rr = some (zi (0)) ∧ gT μ μ' t [12] true) := by
  have c0 : gT μ μ t [] false := gT_rf ht hp
  refine zmetF (by decide +kernel) rfl (Nat.le_of_ble_eq_true rfl) ?_
  show zX shR σ 2 MX11_dims 0 [(0, zr 0), (1, zi 2), (2, zi x)] [] μ _
  refine zx_aload_n (k := 0) (nn := 1) dX11_dims_0 rfl rfl rfl ?_
  refine zx_getI (nn := 4) flX11_402 rfl rfl dX11_dims_1 rfl ?_
  rw [show μ 0 39 = 0 from c0.2.2.2.1]
  show zX shR σ 2 MX11_dims 4 [(0, zr 0), (1, zi 2), (2, zi x)] [zi 0] μ _
  refine zx_if_eq (tgt := 9) (nn := 7) dX11_dims_4 (by decide) rfl (fun h4 => ?_) (fun h4 => ?_)
  · refine zx_iload_n (k := 1) (nn := 10) dX11_dims_9 rfl rfl rfl ?_
    refine zx_look (tgt := 154) (off := 144) dX11_dims_10 (by decide +kernel) (by decide +kernel) (by decide) ?_
    refine zx_aload_n (k := 0) (nn := 155) dX11_dims_154 rfl rfl rfl ?_
    refine zx_iload_n (k := 1) (nn := 156) dX11_dims_155 rfl rfl rfl ?_
    refine zx_callSf (nn := 159) (d' := 0) (as := [zi 2]) (rest := [zr 0]) (n := 1) (eX11_above_2 σ μ) kX11_above mlX11_414 (by decide) rfl rfl (Nat.le_of_ble_eq_true rfl) dX11_dims_156 rfl ?_
    show zX shR σ 2 MX11_dims 159 [(0, zr 0), (1, zi 2), (2, zi x)] [zi 0, zr 0] μ _
    refine zx_iload_n (k := 2) (nn := 160) dX11_dims_159 rfl rfl rfl ?_
    refine zx_callV (nn := 163) (k := 0) (d' := 1) (as := [zi 0, zi x]) (rest := []) (n := 2) (eX11_dims_0_p σ μ x t a n c0.2.2.1 (by omega) c0.2.2.2.1 ((c0.2.1 38 (by decide) (by decide)).trans ha) ((c0.2.1 37 (by decide) (by decide)).trans hn) hd) kX11_dims mlX11_425 rfl rfl rfl (by decide) rfl rfl (Nat.le_of_ble_eq_true rfl) dX11_dims_160 rfl ?_
    rintro _ ν1 ⟨rfl, q1⟩
    show zX shR σ 2 MX11_dims 163 [(0, zr 0), (1, zi 2), (2, zi x)] [zi 0] ν1 _
    have c1 : gT μ ν1 t [12] true := gT_tr c0 q1
    refine zx_iret rfl dX11_dims_163 ?_
    exact ⟨rfl, c1⟩
  · exact absurd h4 (by decide)
set_option maxHeartbeats 4000000 in
set_option maxRecDepth 100000 in
theorem eX11_dims_3_p (σ : zG) (μ : zM) (x : Int32) (t : Nat) (a n : Int32) (ht : μ 0 35 = nI t) (hl : t + 1 ≤ 30) (hp : μ 0 39 = 0) (ha : μ 0 38 = a) (hn : μ 0 37 = n) (hd : a = n) : zMet shR σ 3 MX11_dims yX11_dims [zr 0, zi 3, zi x] μ (fun rr μ' => rr = some (zi (0)) ∧ gT μ μ' t [12] true) := by
  have c0 : gT μ μ t [] false := gT_rf ht hp
  refine zmetF (by decide +kernel) rfl (Nat.le_of_ble_eq_true rfl) ?_
  show zX shR σ 3 MX11_dims 0 [(0, zr 0), (1, zi 3), (2, zi x)] [] μ _
  refine zx_aload_n (k := 0) (nn := 1) dX11_dims_0 rfl rfl rfl ?_
  refine zx_getI (nn := 4) flX11_402 rfl rfl dX11_dims_1 rfl ?_
  rw [show μ 0 39 = 0 from c0.2.2.2.1]
  show zX shR σ 3 MX11_dims 4 [(0, zr 0), (1, zi 3), (2, zi x)] [zi 0] μ _
  refine zx_if_eq (tgt := 9) (nn := 7) dX11_dims_4 (by decide) rfl (fun h4 => ?_) (fun h4 => ?_)
  · refine zx_iload_n (k := 1) (nn := 10) dX11_dims_9 rfl rfl rfl ?_
    refine zx_look (tgt := 154) (off := 144) dX11_dims_10 (by decide +kernel) (by decide +kernel) (by decide) ?_
    refine zx_aload_n (k := 0) (nn := 155) dX11_dims_154 rfl rfl rfl ?_
    refine zx_iload_n (k := 1) (nn := 156) dX11_dims_155 rfl rfl rfl ?_
    refine zx_callSf (nn := 159) (d' := 0) (as := [zi 3]) (rest := [zr 0]) (n := 1) (eX11_above_3 σ μ) kX11_above mlX11_414 (by decide) rfl rfl (Nat.le_of_ble_eq_true rfl) dX11_dims_156 rfl ?_
    show zX shR σ 3 MX11_dims 159 [(0, zr 0), (1, zi 3), (2, zi x)] [zi 2, zr 0] μ _
    refine zx_iload_n (k := 2) (nn := 160) dX11_dims_159 rfl rfl rfl ?_
    refine zx_callV (nn := 163) (k := 0) (d' := 2) (as := [zi 2, zi x]) (rest := []) (n := 2) (eX11_dims_2_p σ μ x t a n c0.2.2.1 (by omega) c0.2.2.2.1 ((c0.2.1 38 (by decide) (by decide)).trans ha) ((c0.2.1 37 (by decide) (by decide)).trans hn) hd) kX11_dims mlX11_425 rfl rfl rfl (by decide) rfl rfl (Nat.le_of_ble_eq_true rfl) dX11_dims_160 rfl ?_
    rintro _ ν1 ⟨rfl, q1⟩
    show zX shR σ 3 MX11_dims 163 [(0, zr 0), (1, zi 3), (2, zi x)] [zi 0] ν1 _
    have c1 : gT μ ν1 t [12] true := gT_tr c0 q1
    refine zx_iret rfl dX11_dims_163 ?_
    exact ⟨rfl, c1⟩
  · exact absurd h4 (by decide)
set_option maxHeartbeats 4000000 in
set_option maxRecDepth 100000 in
theorem eX11_dims_4_p (σ : zG) (μ : zM) (x : Int32) (t : Nat) (a n : Int32) (ht : μ 0 35 = nI t) (hl : t + 2 ≤ 30) (hp : μ 0 39 = 0) (ha : μ 0 38 = a) (hn : μ 0 37 = n) (hd : a = n) : zMet shR σ 2 MX11_dims yX11_dims [zr 0, zi 4, zi x] μ (fun rr μ' => rr = some (zi (0)) ∧ gT μ μ' t [40, 12] true) := by
  have c0 : gT μ μ t [] false := gT_rf ht hp
  refine zmetF (by decide +kernel) rfl (Nat.le_of_ble_eq_true rfl) ?_
  show zX shR σ 2 MX11_dims 0 [(0, zr 0), (1, zi 4), (2, zi x)] [] μ _
  refine zx_aload_n (k := 0) (nn := 1) dX11_dims_0 rfl rfl rfl ?_
  refine zx_getI (nn := 4) flX11_402 rfl rfl dX11_dims_1 rfl ?_
  rw [show μ 0 39 = 0 from c0.2.2.2.1]
  show zX shR σ 2 MX11_dims 4 [(0, zr 0), (1, zi 4), (2, zi x)] [zi 0] μ _
  refine zx_if_eq (tgt := 9) (nn := 7) dX11_dims_4 (by decide) rfl (fun h4 => ?_) (fun h4 => ?_)
  · refine zx_iload_n (k := 1) (nn := 10) dX11_dims_9 rfl rfl rfl ?_
    refine zx_look (tgt := 111) (off := 101) dX11_dims_10 (by decide +kernel) (by decide +kernel) (by decide) ?_
    refine zx_aload_n (k := 0) (nn := 112) dX11_dims_111 rfl rfl rfl ?_
    refine zx_bipush (v := 40) (nn := 114) rfl dX11_dims_112 rfl ?_
    refine zx_callV (nn := 117) (k := 0) (d' := 0) (as := [zi 40]) (rest := []) (n := 1) (eX11_begins_0 σ μ 40 t c0.2.2.1 (by omega) c0.2.2.2.1) kX11_begins mlX11_406 rfl rfl rfl (by decide) rfl rfl (Nat.le_of_ble_eq_true rfl) dX11_dims_114 rfl ?_
    rintro _ ν1 ⟨rfl, q1⟩
    show zX shR σ 2 MX11_dims 117 [(0, zr 0), (1, zi 4), (2, zi x)] [] ν1 _
    have c1 : gT μ ν1 t [40] false := gT_tr c0 q1
    refine zx_aload_n (k := 0) (nn := 118) dX11_dims_117 rfl rfl rfl ?_
    refine zx_iconst (v := 0) (nn := 119) rfl dX11_dims_118 rfl ?_
    refine zx_iload_n (k := 2) (nn := 120) dX11_dims_119 rfl rfl rfl ?_
    refine zx_iconst (v := 3) (nn := 121) rfl dX11_dims_120 rfl ?_
    refine zx_isub (nn := 122) dX11_dims_121 rfl ?_
    refine zx_callV (nn := 125) (k := 0) (d' := 1) (as := [zi 0, zi (x - 3)]) (rest := []) (n := 2) (eX11_dims_0_p σ ν1 (x - 3) (t + 1) a n c1.2.2.1 (by omega) c1.2.2.2.1 ((c1.2.1 38 (by decide) (by decide)).trans ha) ((c1.2.1 37 (by decide) (by decide)).trans hn) hd) kX11_dims mlX11_425 rfl rfl rfl (by decide) rfl rfl (Nat.le_of_ble_eq_true rfl) dX11_dims_122 rfl ?_
    rintro _ ν2 ⟨rfl, q2⟩
    show zX shR σ 2 MX11_dims 125 [(0, zr 0), (1, zi 4), (2, zi x)] [zi 0] ν2 _
    have c2 : gT μ ν2 t [40, 12] true := gT_tr c1 q2
    refine zx_iret rfl dX11_dims_125 ?_
    exact ⟨rfl, c2⟩
  · exact absurd h4 (by decide)
set_option maxHeartbeats 4000000 in
set_option maxRecDepth 100000 in
theorem eX11_dims_5_5_p (σ : zG) (μ : zM) (x : Int32) (t : Nat) (a n : Int32) (ht : μ 0 35 = nI t) (hl : t + 3 ≤ 30) (hp : μ 0 39 = 0) (ha : μ 0 38 = a) (hn : μ 0 37 = n) (hk : μ 0 36 = 5) (hd : a = n) : zMet shR σ 3 MX11_dims yX11_dims [zr 0, zi 5, zi x] μ (fun rr μ' => rr = some (zi (0)) ∧ gT μ μ' t [61, 40, 12] true) := by
  have c0 : gT μ μ t [] false := gT_rf ht hp
  refine zmetF (by decide +kernel) rfl (Nat.le_of_ble_eq_true rfl) ?_
  show zX shR σ 3 MX11_dims 0 [(0, zr 0), (1, zi 5), (2, zi x)] [] μ _
  refine zx_aload_n (k := 0) (nn := 1) dX11_dims_0 rfl rfl rfl ?_
  refine zx_getI (nn := 4) flX11_402 rfl rfl dX11_dims_1 rfl ?_
  rw [show μ 0 39 = 0 from c0.2.2.2.1]
  show zX shR σ 3 MX11_dims 4 [(0, zr 0), (1, zi 5), (2, zi x)] [zi 0] μ _
  refine zx_if_eq (tgt := 9) (nn := 7) dX11_dims_4 (by decide) rfl (fun h4 => ?_) (fun h4 => ?_)
  · refine zx_iload_n (k := 1) (nn := 10) dX11_dims_9 rfl rfl rfl ?_
    refine zx_look (tgt := 126) (off := 116) dX11_dims_10 (by decide +kernel) (by decide +kernel) (by decide) ?_
    refine zx_aload_n (k := 0) (nn := 127) dX11_dims_126 rfl rfl rfl ?_
    refine zx_bipush (v := 61) (nn := 129) rfl dX11_dims_127 rfl ?_
    refine zx_callV (nn := 132) (k := 0) (d' := 0) (as := [zi 61]) (rest := []) (n := 1) (eX11_begins_0 σ μ 61 t c0.2.2.1 (by omega) c0.2.2.2.1) kX11_begins mlX11_406 rfl rfl rfl (by decide) rfl rfl (Nat.le_of_ble_eq_true rfl) dX11_dims_129 rfl ?_
    rintro _ ν1 ⟨rfl, q1⟩
    show zX shR σ 3 MX11_dims 132 [(0, zr 0), (1, zi 5), (2, zi x)] [] ν1 _
    have c1 : gT μ ν1 t [61] false := gT_tr c0 q1
    refine zx_aload_n (k := 0) (nn := 133) dX11_dims_132 rfl rfl rfl ?_
    refine zx_iconst (v := 4) (nn := 134) rfl dX11_dims_133 rfl ?_
    refine zx_iload_n (k := 2) (nn := 135) dX11_dims_134 rfl rfl rfl ?_
    refine zx_callV (nn := 138) (k := 0) (d' := 2) (as := [zi 4, zi x]) (rest := []) (n := 2) (eX11_dims_4_p σ ν1 x (t + 1) a n c1.2.2.1 (by omega) c1.2.2.2.1 ((c1.2.1 38 (by decide) (by decide)).trans ha) ((c1.2.1 37 (by decide) (by decide)).trans hn) hd) kX11_dims mlX11_425 rfl rfl rfl (by decide) rfl rfl (Nat.le_of_ble_eq_true rfl) dX11_dims_135 rfl ?_
    rintro _ ν2 ⟨rfl, q2⟩
    show zX shR σ 3 MX11_dims 138 [(0, zr 0), (1, zi 5), (2, zi x)] [zi 0] ν2 _
    have c2 : gT μ ν2 t [61, 40, 12] true := gT_tr c1 q2
    refine zx_istore_n (nn := 139) (lv' := [(3, zi 0), (0, zr 0), (1, zi 5), (2, zi x)]) dX11_dims_138 rfl (by decide) rfl rfl ?_
    refine zx_iload_n (k := 0) (nn := 140) dX11_dims_139 rfl rfl rfl ?_
    refine zx_aload_n (k := 1) (nn := 141) dX11_dims_140 rfl rfl rfl ?_
    refine zx_aload_n (k := 1) (nn := 142) dX11_dims_141 rfl rfl rfl ?_
    refine zx_getI (nn := 145) flX11_417 rfl rfl dX11_dims_142 rfl ?_
    rw [show ν2 0 36 = 5 from (c2.2.1 36 (by decide) (by decide)).trans hk]
    show zX shR σ 3 MX11_dims 145 [(3, zi 0), (0, zr 0), (1, zi 5), (2, zi x)] [zi 5, zr 0, zi 0] ν2 _
    refine zx_aload_n (k := 1) (nn := 146) dX11_dims_145 rfl rfl rfl ?_
    refine zx_getI (nn := 149) flX11_420 rfl rfl dX11_dims_146 rfl ?_
    rw [show ν2 0 37 = n from (c2.2.1 37 (by decide) (by decide)).trans hn]
    show zX shR σ 3 MX11_dims 149 [(3, zi 0), (0, zr 0), (1, zi 5), (2, zi x)] [zi n, zi 5, zr 0, zi 0] ν2 _
    refine zx_callVf (nn := 152) (k := 0) (d' := 1) (as := [zi 5, zi n]) (rest := [zi 0]) (n := 2) (eX11_aims_5_p σ ν2 n c2.2.2.2.1) kX11_aims mlX11_411 rfl rfl rfl (by decide) rfl rfl (Nat.le_of_ble_eq_true rfl) dX11_dims_149 rfl ?_
    show zX shR σ 3 MX11_dims 152 [(3, zi 0), (0, zr 0), (1, zi 5), (2, zi x)] [zi 0, zi 0] ν2 _
    refine zx_isub (nn := 153) dX11_dims_152 rfl ?_
    refine zx_iret rfl dX11_dims_153 ?_
    exact ⟨rfl, c2⟩
  · exact absurd h4 (by decide)
set_option maxHeartbeats 4000000 in
set_option maxRecDepth 100000 in
theorem eX11_follows_0_1 (σ : zG) (μ : zM) (x : Int32) (t : Nat) (a n : Int32) (ht : μ 0 35 = nI t) (hl : t + 4 ≤ 30) (hp : μ 0 39 = 0) (ha : μ 0 38 = a) (hn : μ 0 37 = n) (hk : μ 0 36 = 1) : zMet shR σ 5 MX11_follows yX11_follows [zr 0, zi 0, zi x] μ (fun rr μ' => rr = some (zi ((((x + a) * 2) - n) ^^^ a)) ∧ gT μ μ' t [13, 11, 20, 10] false) := by
  have c0 : gT μ μ t [] false := gT_rf ht hp
  refine zmetF (by decide +kernel) rfl (Nat.le_of_ble_eq_true rfl) ?_
  show zX shR σ 5 MX11_follows 0 [(0, zr 0), (1, zi 0), (2, zi x)] [] μ _
  refine zx_aload_n (k := 0) (nn := 1) dX11_follows_0 rfl rfl rfl ?_
  refine zx_getI (nn := 4) flX11_402 rfl rfl dX11_follows_1 rfl ?_
  rw [show μ 0 39 = 0 from c0.2.2.2.1]
  show zX shR σ 5 MX11_follows 4 [(0, zr 0), (1, zi 0), (2, zi x)] [zi 0] μ _
  refine zx_if_eq (tgt := 9) (nn := 7) dX11_follows_4 (by decide) rfl (fun h4 => ?_) (fun h4 => ?_)
  · refine zx_iload_n (k := 1) (nn := 10) dX11_follows_9 rfl rfl rfl ?_
    refine zx_look (tgt := 36) (off := 26) dX11_follows_10 (by decide +kernel) (by decide +kernel) (by decide) ?_
    refine zx_aload_n (k := 0) (nn := 37) dX11_follows_36 rfl rfl rfl ?_
    refine zx_bipush (v := 13) (nn := 39) rfl dX11_follows_37 rfl ?_
    refine zx_callV (nn := 42) (k := 0) (d' := 0) (as := [zi 13]) (rest := []) (n := 1) (eX11_begins_0 σ μ 13 t c0.2.2.1 (by omega) c0.2.2.2.1) kX11_begins mlX11_406 rfl rfl rfl (by decide) rfl rfl (Nat.le_of_ble_eq_true rfl) dX11_follows_39 rfl ?_
    rintro _ ν1 ⟨rfl, q1⟩
    show zX shR σ 5 MX11_follows 42 [(0, zr 0), (1, zi 0), (2, zi x)] [] ν1 _
    have c1 : gT μ ν1 t [13] false := gT_tr c0 q1
    refine zx_aload_n (k := 0) (nn := 43) dX11_follows_42 rfl rfl rfl ?_
    refine zx_aload_n (k := 0) (nn := 44) dX11_follows_43 rfl rfl rfl ?_
    refine zx_getI (nn := 47) flX11_417 rfl rfl dX11_follows_44 rfl ?_
    rw [show ν1 0 36 = 1 from (c1.2.1 36 (by decide) (by decide)).trans hk]
    show zX shR σ 5 MX11_follows 47 [(0, zr 0), (1, zi 0), (2, zi x)] [zi 1, zr 0] ν1 _
    refine zx_iload_n (k := 2) (nn := 48) dX11_follows_47 rfl rfl rfl ?_
    refine zx_callV (nn := 51) (k := 0) (d' := 4) (as := [zi 1, zi x]) (rest := []) (n := 2) (eX11_swings_1_1 σ ν1 x (t + 1) a n c1.2.2.1 (by omega) c1.2.2.2.1 ((c1.2.1 38 (by decide) (by decide)).trans ha) ((c1.2.1 37 (by decide) (by decide)).trans hn) ((c1.2.1 36 (by decide) (by decide)).trans hk)) kX11_swings mlX11_422 rfl rfl rfl (by decide) rfl rfl (Nat.le_of_ble_eq_true rfl) dX11_follows_48 rfl ?_
    rintro _ ν2 ⟨rfl, q2⟩
    show zX shR σ 5 MX11_follows 51 [(0, zr 0), (1, zi 0), (2, zi x)] [zi (((x + a) * 2) - n)] ν2 _
    have c2 : gT μ ν2 t [13, 11, 20, 10] false := gT_tr c1 q2
    refine zx_aload_n (k := 0) (nn := 52) dX11_follows_51 rfl rfl rfl ?_
    refine zx_getI (nn := 55) flX11_409 rfl rfl dX11_follows_52 rfl ?_
    rw [show ν2 0 38 = a from (c2.2.1 38 (by decide) (by decide)).trans ha]
    show zX shR σ 5 MX11_follows 55 [(0, zr 0), (1, zi 0), (2, zi x)] [zi a, zi (((x + a) * 2) - n)] ν2 _
    refine zx_ixor (nn := 56) dX11_follows_55 rfl ?_
    refine zx_iret rfl dX11_follows_56 ?_
    exact ⟨rfl, c2⟩
  · exact absurd h4 (by decide)
set_option maxHeartbeats 4000000 in
set_option maxRecDepth 100000 in
theorem eX11_follows_1_1 (σ : zG) (μ : zM) (x : Int32) (t : Nat) (a n : Int32) (ht : μ 0 35 = nI t) (hl : t + 4 ≤ 30) (hp : μ 0 39 = 0) (ha : μ 0 38 = a) (hn : μ 0 37 = n) (hk : μ 0 36 = 1) : zMet shR σ 6 MX11_follows yX11_follows [zr 0, zi 1, zi x] μ (fun rr μ' => rr = some (zi ((((x + a) * 2) - n) ^^^ a)) ∧ gT μ μ' t [13, 11, 20, 10] false) := by
  have c0 : gT μ μ t [] false := gT_rf ht hp
  refine zmetF (by decide +kernel) rfl (Nat.le_of_ble_eq_true rfl) ?_
  show zX shR σ 6 MX11_follows 0 [(0, zr 0), (1, zi 1), (2, zi x)] [] μ _
  refine zx_aload_n (k := 0) (nn := 1) dX11_follows_0 rfl rfl rfl ?_
  refine zx_getI (nn := 4) flX11_402 rfl rfl dX11_follows_1 rfl ?_
  rw [show μ 0 39 = 0 from c0.2.2.2.1]
  show zX shR σ 6 MX11_follows 4 [(0, zr 0), (1, zi 1), (2, zi x)] [zi 0] μ _
  refine zx_if_eq (tgt := 9) (nn := 7) dX11_follows_4 (by decide) rfl (fun h4 => ?_) (fun h4 => ?_)
  · refine zx_iload_n (k := 1) (nn := 10) dX11_follows_9 rfl rfl rfl ?_
    refine zx_look (tgt := 85) (off := 75) dX11_follows_10 (by decide +kernel) (by decide +kernel) (by decide) ?_
    refine zx_aload_n (k := 0) (nn := 86) dX11_follows_85 rfl rfl rfl ?_
    refine zx_iload_n (k := 1) (nn := 87) dX11_follows_86 rfl rfl rfl ?_
    refine zx_callSf (nn := 90) (d' := 0) (as := [zi 1]) (rest := [zr 0]) (n := 1) (eX11_above_1 σ μ) kX11_above mlX11_414 (by decide) rfl rfl (Nat.le_of_ble_eq_true rfl) dX11_follows_87 rfl ?_
    show zX shR σ 6 MX11_follows 90 [(0, zr 0), (1, zi 1), (2, zi x)] [zi 0, zr 0] μ _
    refine zx_iload_n (k := 2) (nn := 91) dX11_follows_90 rfl rfl rfl ?_
    refine zx_callV (nn := 94) (k := 0) (d' := 5) (as := [zi 0, zi x]) (rest := []) (n := 2) (eX11_follows_0_1 σ μ x t a n c0.2.2.1 (by omega) c0.2.2.2.1 ((c0.2.1 38 (by decide) (by decide)).trans ha) ((c0.2.1 37 (by decide) (by decide)).trans hn) ((c0.2.1 36 (by decide) (by decide)).trans hk)) kX11_follows mlX11_428 rfl rfl rfl (by decide) rfl rfl (Nat.le_of_ble_eq_true rfl) dX11_follows_91 rfl ?_
    rintro _ ν1 ⟨rfl, q1⟩
    show zX shR σ 6 MX11_follows 94 [(0, zr 0), (1, zi 1), (2, zi x)] [zi ((((x + a) * 2) - n) ^^^ a)] ν1 _
    have c1 : gT μ ν1 t [13, 11, 20, 10] false := gT_tr c0 q1
    refine zx_iret rfl dX11_follows_94 ?_
    exact ⟨rfl, c1⟩
  · exact absurd h4 (by decide)
set_option maxHeartbeats 4000000 in
set_option maxRecDepth 100000 in
theorem eX11_follows_0_2 (σ : zG) (μ : zM) (x : Int32) (t : Nat) (a n : Int32) (ht : μ 0 35 = nI t) (hl : t + 4 ≤ 30) (hp : μ 0 39 = 0) (ha : μ 0 38 = a) (hn : μ 0 37 = n) (hk : μ 0 36 = 2) : zMet shR σ 5 MX11_follows yX11_follows [zr 0, zi 0, zi x] μ (fun rr μ' => rr = some (zi ((((x + a) - n) ^^^ n) ^^^ a)) ∧ gT μ μ' t [13, 30, 11, 10] false) := by
  have c0 : gT μ μ t [] false := gT_rf ht hp
  refine zmetF (by decide +kernel) rfl (Nat.le_of_ble_eq_true rfl) ?_
  show zX shR σ 5 MX11_follows 0 [(0, zr 0), (1, zi 0), (2, zi x)] [] μ _
  refine zx_aload_n (k := 0) (nn := 1) dX11_follows_0 rfl rfl rfl ?_
  refine zx_getI (nn := 4) flX11_402 rfl rfl dX11_follows_1 rfl ?_
  rw [show μ 0 39 = 0 from c0.2.2.2.1]
  show zX shR σ 5 MX11_follows 4 [(0, zr 0), (1, zi 0), (2, zi x)] [zi 0] μ _
  refine zx_if_eq (tgt := 9) (nn := 7) dX11_follows_4 (by decide) rfl (fun h4 => ?_) (fun h4 => ?_)
  · refine zx_iload_n (k := 1) (nn := 10) dX11_follows_9 rfl rfl rfl ?_
    refine zx_look (tgt := 36) (off := 26) dX11_follows_10 (by decide +kernel) (by decide +kernel) (by decide) ?_
    refine zx_aload_n (k := 0) (nn := 37) dX11_follows_36 rfl rfl rfl ?_
    refine zx_bipush (v := 13) (nn := 39) rfl dX11_follows_37 rfl ?_
    refine zx_callV (nn := 42) (k := 0) (d' := 0) (as := [zi 13]) (rest := []) (n := 1) (eX11_begins_0 σ μ 13 t c0.2.2.1 (by omega) c0.2.2.2.1) kX11_begins mlX11_406 rfl rfl rfl (by decide) rfl rfl (Nat.le_of_ble_eq_true rfl) dX11_follows_39 rfl ?_
    rintro _ ν1 ⟨rfl, q1⟩
    show zX shR σ 5 MX11_follows 42 [(0, zr 0), (1, zi 0), (2, zi x)] [] ν1 _
    have c1 : gT μ ν1 t [13] false := gT_tr c0 q1
    refine zx_aload_n (k := 0) (nn := 43) dX11_follows_42 rfl rfl rfl ?_
    refine zx_aload_n (k := 0) (nn := 44) dX11_follows_43 rfl rfl rfl ?_
    refine zx_getI (nn := 47) flX11_417 rfl rfl dX11_follows_44 rfl ?_
    rw [show ν1 0 36 = 2 from (c1.2.1 36 (by decide) (by decide)).trans hk]
    show zX shR σ 5 MX11_follows 47 [(0, zr 0), (1, zi 0), (2, zi x)] [zi 2, zr 0] ν1 _
    refine zx_iload_n (k := 2) (nn := 48) dX11_follows_47 rfl rfl rfl ?_
    refine zx_callV (nn := 51) (k := 0) (d' := 4) (as := [zi 2, zi x]) (rest := []) (n := 2) (eX11_swings_2_2 σ ν1 x (t + 1) a n c1.2.2.1 (by omega) c1.2.2.2.1 ((c1.2.1 38 (by decide) (by decide)).trans ha) ((c1.2.1 37 (by decide) (by decide)).trans hn) ((c1.2.1 36 (by decide) (by decide)).trans hk)) kX11_swings mlX11_422 rfl rfl rfl (by decide) rfl rfl (Nat.le_of_ble_eq_true rfl) dX11_follows_48 rfl ?_
    rintro _ ν2 ⟨rfl, q2⟩
    show zX shR σ 5 MX11_follows 51 [(0, zr 0), (1, zi 0), (2, zi x)] [zi (((x + a) - n) ^^^ n)] ν2 _
    have c2 : gT μ ν2 t [13, 30, 11, 10] false := gT_tr c1 q2
    refine zx_aload_n (k := 0) (nn := 52) dX11_follows_51 rfl rfl rfl ?_
    refine zx_getI (nn := 55) flX11_409 rfl rfl dX11_follows_52 rfl ?_
    rw [show ν2 0 38 = a from (c2.2.1 38 (by decide) (by decide)).trans ha]
    show zX shR σ 5 MX11_follows 55 [(0, zr 0), (1, zi 0), (2, zi x)] [zi a, zi (((x + a) - n) ^^^ n)] ν2 _
    refine zx_ixor (nn := 56) dX11_follows_55 rfl ?_
    refine zx_iret rfl dX11_follows_56 ?_
    exact ⟨rfl, c2⟩
  · exact absurd h4 (by decide)
set_option maxHeartbeats 4000000 in
set_option maxRecDepth 100000 in
theorem eX11_follows_2_2 (σ : zG) (μ : zM) (x : Int32) (t : Nat) (a n : Int32) (ht : μ 0 35 = nI t) (hl : t + 4 ≤ 30) (hp : μ 0 39 = 0) (ha : μ 0 38 = a) (hn : μ 0 37 = n) (hk : μ 0 36 = 2) : zMet shR σ 6 MX11_follows yX11_follows [zr 0, zi 2, zi x] μ (fun rr μ' => rr = some (zi ((((x + a) - n) ^^^ n) ^^^ a)) ∧ gT μ μ' t [13, 30, 11, 10] false) := by
  have c0 : gT μ μ t [] false := gT_rf ht hp
  refine zmetF (by decide +kernel) rfl (Nat.le_of_ble_eq_true rfl) ?_
  show zX shR σ 6 MX11_follows 0 [(0, zr 0), (1, zi 2), (2, zi x)] [] μ _
  refine zx_aload_n (k := 0) (nn := 1) dX11_follows_0 rfl rfl rfl ?_
  refine zx_getI (nn := 4) flX11_402 rfl rfl dX11_follows_1 rfl ?_
  rw [show μ 0 39 = 0 from c0.2.2.2.1]
  show zX shR σ 6 MX11_follows 4 [(0, zr 0), (1, zi 2), (2, zi x)] [zi 0] μ _
  refine zx_if_eq (tgt := 9) (nn := 7) dX11_follows_4 (by decide) rfl (fun h4 => ?_) (fun h4 => ?_)
  · refine zx_iload_n (k := 1) (nn := 10) dX11_follows_9 rfl rfl rfl ?_
    refine zx_look (tgt := 85) (off := 75) dX11_follows_10 (by decide +kernel) (by decide +kernel) (by decide) ?_
    refine zx_aload_n (k := 0) (nn := 86) dX11_follows_85 rfl rfl rfl ?_
    refine zx_iload_n (k := 1) (nn := 87) dX11_follows_86 rfl rfl rfl ?_
    refine zx_callSf (nn := 90) (d' := 0) (as := [zi 2]) (rest := [zr 0]) (n := 1) (eX11_above_2 σ μ) kX11_above mlX11_414 (by decide) rfl rfl (Nat.le_of_ble_eq_true rfl) dX11_follows_87 rfl ?_
    show zX shR σ 6 MX11_follows 90 [(0, zr 0), (1, zi 2), (2, zi x)] [zi 0, zr 0] μ _
    refine zx_iload_n (k := 2) (nn := 91) dX11_follows_90 rfl rfl rfl ?_
    refine zx_callV (nn := 94) (k := 0) (d' := 5) (as := [zi 0, zi x]) (rest := []) (n := 2) (eX11_follows_0_2 σ μ x t a n c0.2.2.1 (by omega) c0.2.2.2.1 ((c0.2.1 38 (by decide) (by decide)).trans ha) ((c0.2.1 37 (by decide) (by decide)).trans hn) ((c0.2.1 36 (by decide) (by decide)).trans hk)) kX11_follows mlX11_428 rfl rfl rfl (by decide) rfl rfl (Nat.le_of_ble_eq_true rfl) dX11_follows_91 rfl ?_
    rintro _ ν1 ⟨rfl, q1⟩
    show zX shR σ 6 MX11_follows 94 [(0, zr 0), (1, zi 2), (2, zi x)] [zi ((((x + a) - n) ^^^ n) ^^^ a)] ν1 _
    have c1 : gT μ ν1 t [13, 30, 11, 10] false := gT_tr c0 q1
    refine zx_iret rfl dX11_follows_94 ?_
    exact ⟨rfl, c1⟩
  · exact absurd h4 (by decide)
set_option maxHeartbeats 4000000 in
set_option maxRecDepth 100000 in
theorem eX11_follows_0_3 (σ : zG) (μ : zM) (x : Int32) (t : Nat) (a n : Int32) (ht : μ 0 35 = nI t) (hl : t + 5 ≤ 30) (hp : μ 0 39 = 0) (ha : μ 0 38 = a) (hn : μ 0 37 = n) (hk : μ 0 36 = 3) : zMet shR σ 7 MX11_follows yX11_follows [zr 0, zi 0, zi x] μ (fun rr μ' => rr = some (zi ((((x + a - 1) - n) ^^^ n) ^^^ a)) ∧ gT μ μ' t [13, 30, 11, 50, 10] false) := by
  have c0 : gT μ μ t [] false := gT_rf ht hp
  refine zmetF (by decide +kernel) rfl (Nat.le_of_ble_eq_true rfl) ?_
  show zX shR σ 7 MX11_follows 0 [(0, zr 0), (1, zi 0), (2, zi x)] [] μ _
  refine zx_aload_n (k := 0) (nn := 1) dX11_follows_0 rfl rfl rfl ?_
  refine zx_getI (nn := 4) flX11_402 rfl rfl dX11_follows_1 rfl ?_
  rw [show μ 0 39 = 0 from c0.2.2.2.1]
  show zX shR σ 7 MX11_follows 4 [(0, zr 0), (1, zi 0), (2, zi x)] [zi 0] μ _
  refine zx_if_eq (tgt := 9) (nn := 7) dX11_follows_4 (by decide) rfl (fun h4 => ?_) (fun h4 => ?_)
  · refine zx_iload_n (k := 1) (nn := 10) dX11_follows_9 rfl rfl rfl ?_
    refine zx_look (tgt := 36) (off := 26) dX11_follows_10 (by decide +kernel) (by decide +kernel) (by decide) ?_
    refine zx_aload_n (k := 0) (nn := 37) dX11_follows_36 rfl rfl rfl ?_
    refine zx_bipush (v := 13) (nn := 39) rfl dX11_follows_37 rfl ?_
    refine zx_callV (nn := 42) (k := 0) (d' := 0) (as := [zi 13]) (rest := []) (n := 1) (eX11_begins_0 σ μ 13 t c0.2.2.1 (by omega) c0.2.2.2.1) kX11_begins mlX11_406 rfl rfl rfl (by decide) rfl rfl (Nat.le_of_ble_eq_true rfl) dX11_follows_39 rfl ?_
    rintro _ ν1 ⟨rfl, q1⟩
    show zX shR σ 7 MX11_follows 42 [(0, zr 0), (1, zi 0), (2, zi x)] [] ν1 _
    have c1 : gT μ ν1 t [13] false := gT_tr c0 q1
    refine zx_aload_n (k := 0) (nn := 43) dX11_follows_42 rfl rfl rfl ?_
    refine zx_aload_n (k := 0) (nn := 44) dX11_follows_43 rfl rfl rfl ?_
    refine zx_getI (nn := 47) flX11_417 rfl rfl dX11_follows_44 rfl ?_
    rw [show ν1 0 36 = 3 from (c1.2.1 36 (by decide) (by decide)).trans hk]
    show zX shR σ 7 MX11_follows 47 [(0, zr 0), (1, zi 0), (2, zi x)] [zi 3, zr 0] ν1 _
    refine zx_iload_n (k := 2) (nn := 48) dX11_follows_47 rfl rfl rfl ?_
    refine zx_callV (nn := 51) (k := 0) (d' := 6) (as := [zi 3, zi x]) (rest := []) (n := 2) (eX11_swings_3_3 σ ν1 x (t + 1) a n c1.2.2.1 (by omega) c1.2.2.2.1 ((c1.2.1 38 (by decide) (by decide)).trans ha) ((c1.2.1 37 (by decide) (by decide)).trans hn) ((c1.2.1 36 (by decide) (by decide)).trans hk)) kX11_swings mlX11_422 rfl rfl rfl (by decide) rfl rfl (Nat.le_of_ble_eq_true rfl) dX11_follows_48 rfl ?_
    rintro _ ν2 ⟨rfl, q2⟩
    show zX shR σ 7 MX11_follows 51 [(0, zr 0), (1, zi 0), (2, zi x)] [zi (((x + a - 1) - n) ^^^ n)] ν2 _
    have c2 : gT μ ν2 t [13, 30, 11, 50, 10] false := gT_tr c1 q2
    refine zx_aload_n (k := 0) (nn := 52) dX11_follows_51 rfl rfl rfl ?_
    refine zx_getI (nn := 55) flX11_409 rfl rfl dX11_follows_52 rfl ?_
    rw [show ν2 0 38 = a from (c2.2.1 38 (by decide) (by decide)).trans ha]
    show zX shR σ 7 MX11_follows 55 [(0, zr 0), (1, zi 0), (2, zi x)] [zi a, zi (((x + a - 1) - n) ^^^ n)] ν2 _
    refine zx_ixor (nn := 56) dX11_follows_55 rfl ?_
    refine zx_iret rfl dX11_follows_56 ?_
    exact ⟨rfl, c2⟩
  · exact absurd h4 (by decide)
set_option maxHeartbeats 4000000 in
set_option maxRecDepth 100000 in
theorem eX11_follows_2_3 (σ : zG) (μ : zM) (x : Int32) (t : Nat) (a n : Int32) (ht : μ 0 35 = nI t) (hl : t + 5 ≤ 30) (hp : μ 0 39 = 0) (ha : μ 0 38 = a) (hn : μ 0 37 = n) (hk : μ 0 36 = 3) : zMet shR σ 8 MX11_follows yX11_follows [zr 0, zi 2, zi x] μ (fun rr μ' => rr = some (zi ((((x + a - 1) - n) ^^^ n) ^^^ a)) ∧ gT μ μ' t [13, 30, 11, 50, 10] false) := by
  have c0 : gT μ μ t [] false := gT_rf ht hp
  refine zmetF (by decide +kernel) rfl (Nat.le_of_ble_eq_true rfl) ?_
  show zX shR σ 8 MX11_follows 0 [(0, zr 0), (1, zi 2), (2, zi x)] [] μ _
  refine zx_aload_n (k := 0) (nn := 1) dX11_follows_0 rfl rfl rfl ?_
  refine zx_getI (nn := 4) flX11_402 rfl rfl dX11_follows_1 rfl ?_
  rw [show μ 0 39 = 0 from c0.2.2.2.1]
  show zX shR σ 8 MX11_follows 4 [(0, zr 0), (1, zi 2), (2, zi x)] [zi 0] μ _
  refine zx_if_eq (tgt := 9) (nn := 7) dX11_follows_4 (by decide) rfl (fun h4 => ?_) (fun h4 => ?_)
  · refine zx_iload_n (k := 1) (nn := 10) dX11_follows_9 rfl rfl rfl ?_
    refine zx_look (tgt := 85) (off := 75) dX11_follows_10 (by decide +kernel) (by decide +kernel) (by decide) ?_
    refine zx_aload_n (k := 0) (nn := 86) dX11_follows_85 rfl rfl rfl ?_
    refine zx_iload_n (k := 1) (nn := 87) dX11_follows_86 rfl rfl rfl ?_
    refine zx_callSf (nn := 90) (d' := 0) (as := [zi 2]) (rest := [zr 0]) (n := 1) (eX11_above_2 σ μ) kX11_above mlX11_414 (by decide) rfl rfl (Nat.le_of_ble_eq_true rfl) dX11_follows_87 rfl ?_
    show zX shR σ 8 MX11_follows 90 [(0, zr 0), (1, zi 2), (2, zi x)] [zi 0, zr 0] μ _
    refine zx_iload_n (k := 2) (nn := 91) dX11_follows_90 rfl rfl rfl ?_
    refine zx_callV (nn := 94) (k := 0) (d' := 7) (as := [zi 0, zi x]) (rest := []) (n := 2) (eX11_follows_0_3 σ μ x t a n c0.2.2.1 (by omega) c0.2.2.2.1 ((c0.2.1 38 (by decide) (by decide)).trans ha) ((c0.2.1 37 (by decide) (by decide)).trans hn) ((c0.2.1 36 (by decide) (by decide)).trans hk)) kX11_follows mlX11_428 rfl rfl rfl (by decide) rfl rfl (Nat.le_of_ble_eq_true rfl) dX11_follows_91 rfl ?_
    rintro _ ν1 ⟨rfl, q1⟩
    show zX shR σ 8 MX11_follows 94 [(0, zr 0), (1, zi 2), (2, zi x)] [zi ((((x + a - 1) - n) ^^^ n) ^^^ a)] ν1 _
    have c1 : gT μ ν1 t [13, 30, 11, 50, 10] false := gT_tr c0 q1
    refine zx_iret rfl dX11_follows_94 ?_
    exact ⟨rfl, c1⟩
  · exact absurd h4 (by decide)
set_option maxHeartbeats 4000000 in
set_option maxRecDepth 100000 in
theorem eX11_follows_3_3_q (σ : zG) (μ : zM) (x : Int32) (t : Nat) (a n : Int32) (ht : μ 0 35 = nI t) (hl : t + 7 ≤ 30) (hp : μ 0 39 = 0) (ha : μ 0 38 = a) (hn : μ 0 37 = n) (hk : μ 0 36 = 3) (hd : ¬ a = n) : zMet shR σ 9 MX11_follows yX11_follows [zr 0, zi 3, zi x] μ (fun rr μ' => rr = some (zi (((((x + a - 1) - n) ^^^ n) ^^^ a) + a / (a - n))) ∧ gT μ μ' t [51, 13, 30, 11, 50, 10, 12] false) := by
  have c0 : gT μ μ t [] false := gT_rf ht hp
  refine zmetF (by decide +kernel) rfl (Nat.le_of_ble_eq_true rfl) ?_
  show zX shR σ 9 MX11_follows 0 [(0, zr 0), (1, zi 3), (2, zi x)] [] μ _
  refine zx_aload_n (k := 0) (nn := 1) dX11_follows_0 rfl rfl rfl ?_
  refine zx_getI (nn := 4) flX11_402 rfl rfl dX11_follows_1 rfl ?_
  rw [show μ 0 39 = 0 from c0.2.2.2.1]
  show zX shR σ 9 MX11_follows 4 [(0, zr 0), (1, zi 3), (2, zi x)] [zi 0] μ _
  refine zx_if_eq (tgt := 9) (nn := 7) dX11_follows_4 (by decide) rfl (fun h4 => ?_) (fun h4 => ?_)
  · refine zx_iload_n (k := 1) (nn := 10) dX11_follows_9 rfl rfl rfl ?_
    refine zx_look (tgt := 57) (off := 47) dX11_follows_10 (by decide +kernel) (by decide +kernel) (by decide) ?_
    refine zx_aload_n (k := 0) (nn := 58) dX11_follows_57 rfl rfl rfl ?_
    refine zx_bipush (v := 51) (nn := 60) rfl dX11_follows_58 rfl ?_
    refine zx_callV (nn := 63) (k := 0) (d' := 0) (as := [zi 51]) (rest := []) (n := 1) (eX11_begins_0 σ μ 51 t c0.2.2.1 (by omega) c0.2.2.2.1) kX11_begins mlX11_406 rfl rfl rfl (by decide) rfl rfl (Nat.le_of_ble_eq_true rfl) dX11_follows_60 rfl ?_
    rintro _ ν1 ⟨rfl, q1⟩
    show zX shR σ 9 MX11_follows 63 [(0, zr 0), (1, zi 3), (2, zi x)] [] ν1 _
    have c1 : gT μ ν1 t [51] false := gT_tr c0 q1
    refine zx_aload_n (k := 0) (nn := 64) dX11_follows_63 rfl rfl rfl ?_
    refine zx_iconst (v := 2) (nn := 65) rfl dX11_follows_64 rfl ?_
    refine zx_iload_n (k := 2) (nn := 66) dX11_follows_65 rfl rfl rfl ?_
    refine zx_callV (nn := 69) (k := 0) (d' := 8) (as := [zi 2, zi x]) (rest := []) (n := 2) (eX11_follows_2_3 σ ν1 x (t + 1) a n c1.2.2.1 (by omega) c1.2.2.2.1 ((c1.2.1 38 (by decide) (by decide)).trans ha) ((c1.2.1 37 (by decide) (by decide)).trans hn) ((c1.2.1 36 (by decide) (by decide)).trans hk)) kX11_follows mlX11_428 rfl rfl rfl (by decide) rfl rfl (Nat.le_of_ble_eq_true rfl) dX11_follows_66 rfl ?_
    rintro _ ν2 ⟨rfl, q2⟩
    show zX shR σ 9 MX11_follows 69 [(0, zr 0), (1, zi 3), (2, zi x)] [zi ((((x + a - 1) - n) ^^^ n) ^^^ a)] ν2 _
    have c2 : gT μ ν2 t [51, 13, 30, 11, 50, 10] false := gT_tr c1 q2
    refine zx_istore_n (nn := 70) (lv' := [(3, zi ((((x + a - 1) - n) ^^^ n) ^^^ a)), (0, zr 0), (1, zi 3), (2, zi x)]) dX11_follows_69 rfl (by decide) rfl rfl ?_
    refine zx_iload_n (k := 0) (nn := 71) dX11_follows_70 rfl rfl rfl ?_
    refine zx_aload_n (k := 1) (nn := 72) dX11_follows_71 rfl rfl rfl ?_
    refine zx_aload_n (k := 1) (nn := 73) dX11_follows_72 rfl rfl rfl ?_
    refine zx_getI (nn := 76) flX11_417 rfl rfl dX11_follows_73 rfl ?_
    rw [show ν2 0 36 = 3 from (c2.2.1 36 (by decide) (by decide)).trans hk]
    show zX shR σ 9 MX11_follows 76 [(3, zi ((((x + a - 1) - n) ^^^ n) ^^^ a)), (0, zr 0), (1, zi 3), (2, zi x)] [zi 3, zr 0, zi ((((x + a - 1) - n) ^^^ n) ^^^ a)] ν2 _
    refine zx_aload_n (k := 1) (nn := 77) dX11_follows_76 rfl rfl rfl ?_
    refine zx_getI (nn := 80) flX11_409 rfl rfl dX11_follows_77 rfl ?_
    rw [show ν2 0 38 = a from (c2.2.1 38 (by decide) (by decide)).trans ha]
    show zX shR σ 9 MX11_follows 80 [(3, zi ((((x + a - 1) - n) ^^^ n) ^^^ a)), (0, zr 0), (1, zi 3), (2, zi x)] [zi a, zi 3, zr 0, zi ((((x + a - 1) - n) ^^^ n) ^^^ a)] ν2 _
    refine zx_callV (nn := 83) (k := 0) (d' := 3) (as := [zi 3, zi a]) (rest := [zi ((((x + a - 1) - n) ^^^ n) ^^^ a)]) (n := 2) (eX11_dims_3_q σ ν2 a (t + 6) a n c2.2.2.1 (by omega) c2.2.2.2.1 ((c2.2.1 38 (by decide) (by decide)).trans ha) ((c2.2.1 37 (by decide) (by decide)).trans hn) hd) kX11_dims mlX11_425 rfl rfl rfl (by decide) rfl rfl (Nat.le_of_ble_eq_true rfl) dX11_follows_80 rfl ?_
    rintro _ ν3 ⟨rfl, q3⟩
    show zX shR σ 9 MX11_follows 83 [(3, zi ((((x + a - 1) - n) ^^^ n) ^^^ a)), (0, zr 0), (1, zi 3), (2, zi x)] [zi (a / (a - n)), zi ((((x + a - 1) - n) ^^^ n) ^^^ a)] ν3 _
    have c3 : gT μ ν3 t [51, 13, 30, 11, 50, 10, 12] false := gT_tr c2 q3
    refine zx_iadd (nn := 84) dX11_follows_83 rfl ?_
    refine zx_iret rfl dX11_follows_84 ?_
    exact ⟨rfl, c3⟩
  · exact absurd h4 (by decide)
set_option maxHeartbeats 4000000 in
set_option maxRecDepth 100000 in
theorem eX11_follows_3_3_p (σ : zG) (μ : zM) (x : Int32) (t : Nat) (a n : Int32) (ht : μ 0 35 = nI t) (hl : t + 7 ≤ 30) (hp : μ 0 39 = 0) (ha : μ 0 38 = a) (hn : μ 0 37 = n) (hk : μ 0 36 = 3) (hd : a = n) : zMet shR σ 9 MX11_follows yX11_follows [zr 0, zi 3, zi x] μ (fun rr μ' => rr = some (zi (((((x + a - 1) - n) ^^^ n) ^^^ a) + 0)) ∧ gT μ μ' t [51, 13, 30, 11, 50, 10, 12] true) := by
  have c0 : gT μ μ t [] false := gT_rf ht hp
  refine zmetF (by decide +kernel) rfl (Nat.le_of_ble_eq_true rfl) ?_
  show zX shR σ 9 MX11_follows 0 [(0, zr 0), (1, zi 3), (2, zi x)] [] μ _
  refine zx_aload_n (k := 0) (nn := 1) dX11_follows_0 rfl rfl rfl ?_
  refine zx_getI (nn := 4) flX11_402 rfl rfl dX11_follows_1 rfl ?_
  rw [show μ 0 39 = 0 from c0.2.2.2.1]
  show zX shR σ 9 MX11_follows 4 [(0, zr 0), (1, zi 3), (2, zi x)] [zi 0] μ _
  refine zx_if_eq (tgt := 9) (nn := 7) dX11_follows_4 (by decide) rfl (fun h4 => ?_) (fun h4 => ?_)
  · refine zx_iload_n (k := 1) (nn := 10) dX11_follows_9 rfl rfl rfl ?_
    refine zx_look (tgt := 57) (off := 47) dX11_follows_10 (by decide +kernel) (by decide +kernel) (by decide) ?_
    refine zx_aload_n (k := 0) (nn := 58) dX11_follows_57 rfl rfl rfl ?_
    refine zx_bipush (v := 51) (nn := 60) rfl dX11_follows_58 rfl ?_
    refine zx_callV (nn := 63) (k := 0) (d' := 0) (as := [zi 51]) (rest := []) (n := 1) (eX11_begins_0 σ μ 51 t c0.2.2.1 (by omega) c0.2.2.2.1) kX11_begins mlX11_406 rfl rfl rfl (by decide) rfl rfl (Nat.le_of_ble_eq_true rfl) dX11_follows_60 rfl ?_
    rintro _ ν1 ⟨rfl, q1⟩
    show zX shR σ 9 MX11_follows 63 [(0, zr 0), (1, zi 3), (2, zi x)] [] ν1 _
    have c1 : gT μ ν1 t [51] false := gT_tr c0 q1
    refine zx_aload_n (k := 0) (nn := 64) dX11_follows_63 rfl rfl rfl ?_
    refine zx_iconst (v := 2) (nn := 65) rfl dX11_follows_64 rfl ?_
    refine zx_iload_n (k := 2) (nn := 66) dX11_follows_65 rfl rfl rfl ?_
    refine zx_callV (nn := 69) (k := 0) (d' := 8) (as := [zi 2, zi x]) (rest := []) (n := 2) (eX11_follows_2_3 σ ν1 x (t + 1) a n c1.2.2.1 (by omega) c1.2.2.2.1 ((c1.2.1 38 (by decide) (by decide)).trans ha) ((c1.2.1 37 (by decide) (by decide)).trans hn) ((c1.2.1 36 (by decide) (by decide)).trans hk)) kX11_follows mlX11_428 rfl rfl rfl (by decide) rfl rfl (Nat.le_of_ble_eq_true rfl) dX11_follows_66 rfl ?_
    rintro _ ν2 ⟨rfl, q2⟩
    show zX shR σ 9 MX11_follows 69 [(0, zr 0), (1, zi 3), (2, zi x)] [zi ((((x + a - 1) - n) ^^^ n) ^^^ a)] ν2 _
    have c2 : gT μ ν2 t [51, 13, 30, 11, 50, 10] false := gT_tr c1 q2
    refine zx_istore_n (nn := 70) (lv' := [(3, zi ((((x + a - 1) - n) ^^^ n) ^^^ a)), (0, zr 0), (1, zi 3), (2, zi x)]) dX11_follows_69 rfl (by decide) rfl rfl ?_
    refine zx_iload_n (k := 0) (nn := 71) dX11_follows_70 rfl rfl rfl ?_
    refine zx_aload_n (k := 1) (nn := 72) dX11_follows_71 rfl rfl rfl ?_
    refine zx_aload_n (k := 1) (nn := 73) dX11_follows_72 rfl rfl rfl ?_
    refine zx_getI (nn := 76) flX11_417 rfl rfl dX11_follows_73 rfl ?_
    rw [show ν2 0 36 = 3 from (c2.2.1 36 (by decide) (by decide)).trans hk]
    show zX shR σ 9 MX11_follows 76 [(3, zi ((((x + a - 1) - n) ^^^ n) ^^^ a)), (0, zr 0), (1, zi 3), (2, zi x)] [zi 3, zr 0, zi ((((x + a - 1) - n) ^^^ n) ^^^ a)] ν2 _
    refine zx_aload_n (k := 1) (nn := 77) dX11_follows_76 rfl rfl rfl ?_
    refine zx_getI (nn := 80) flX11_409 rfl rfl dX11_follows_77 rfl ?_
    rw [show ν2 0 38 = a from (c2.2.1 38 (by decide) (by decide)).trans ha]
    show zX shR σ 9 MX11_follows 80 [(3, zi ((((x + a - 1) - n) ^^^ n) ^^^ a)), (0, zr 0), (1, zi 3), (2, zi x)] [zi a, zi 3, zr 0, zi ((((x + a - 1) - n) ^^^ n) ^^^ a)] ν2 _
    refine zx_callV (nn := 83) (k := 0) (d' := 3) (as := [zi 3, zi a]) (rest := [zi ((((x + a - 1) - n) ^^^ n) ^^^ a)]) (n := 2) (eX11_dims_3_p σ ν2 a (t + 6) a n c2.2.2.1 (by omega) c2.2.2.2.1 ((c2.2.1 38 (by decide) (by decide)).trans ha) ((c2.2.1 37 (by decide) (by decide)).trans hn) hd) kX11_dims mlX11_425 rfl rfl rfl (by decide) rfl rfl (Nat.le_of_ble_eq_true rfl) dX11_follows_80 rfl ?_
    rintro _ ν3 ⟨rfl, q3⟩
    show zX shR σ 9 MX11_follows 83 [(3, zi ((((x + a - 1) - n) ^^^ n) ^^^ a)), (0, zr 0), (1, zi 3), (2, zi x)] [zi 0, zi ((((x + a - 1) - n) ^^^ n) ^^^ a)] ν3 _
    have c3 : gT μ ν3 t [51, 13, 30, 11, 50, 10, 12] true := gT_tr c2 q3
    refine zx_iadd (nn := 84) dX11_follows_83 rfl ?_
    refine zx_iret rfl dX11_follows_84 ?_
    exact ⟨rfl, c3⟩
  · exact absurd h4 (by decide)
set_option maxHeartbeats 4000000 in
set_option maxRecDepth 100000 in
theorem eX11_follows_0_4 (σ : zG) (μ : zM) (x : Int32) (t : Nat) (a n : Int32) (ht : μ 0 35 = nI t) (hl : t + 3 ≤ 30) (hp : μ 0 39 = 0) (ha : μ 0 38 = a) (hn : μ 0 37 = n) (hk : μ 0 36 = 4) : zMet shR σ 5 MX11_follows yX11_follows [zr 0, zi 0, zi x] μ (fun rr μ' => rr = some (zi (((x + a) - n) ^^^ a)) ∧ gT μ μ' t [13, 11, 10] false) := by
  have c0 : gT μ μ t [] false := gT_rf ht hp
  refine zmetF (by decide +kernel) rfl (Nat.le_of_ble_eq_true rfl) ?_
  show zX shR σ 5 MX11_follows 0 [(0, zr 0), (1, zi 0), (2, zi x)] [] μ _
  refine zx_aload_n (k := 0) (nn := 1) dX11_follows_0 rfl rfl rfl ?_
  refine zx_getI (nn := 4) flX11_402 rfl rfl dX11_follows_1 rfl ?_
  rw [show μ 0 39 = 0 from c0.2.2.2.1]
  show zX shR σ 5 MX11_follows 4 [(0, zr 0), (1, zi 0), (2, zi x)] [zi 0] μ _
  refine zx_if_eq (tgt := 9) (nn := 7) dX11_follows_4 (by decide) rfl (fun h4 => ?_) (fun h4 => ?_)
  · refine zx_iload_n (k := 1) (nn := 10) dX11_follows_9 rfl rfl rfl ?_
    refine zx_look (tgt := 36) (off := 26) dX11_follows_10 (by decide +kernel) (by decide +kernel) (by decide) ?_
    refine zx_aload_n (k := 0) (nn := 37) dX11_follows_36 rfl rfl rfl ?_
    refine zx_bipush (v := 13) (nn := 39) rfl dX11_follows_37 rfl ?_
    refine zx_callV (nn := 42) (k := 0) (d' := 0) (as := [zi 13]) (rest := []) (n := 1) (eX11_begins_0 σ μ 13 t c0.2.2.1 (by omega) c0.2.2.2.1) kX11_begins mlX11_406 rfl rfl rfl (by decide) rfl rfl (Nat.le_of_ble_eq_true rfl) dX11_follows_39 rfl ?_
    rintro _ ν1 ⟨rfl, q1⟩
    show zX shR σ 5 MX11_follows 42 [(0, zr 0), (1, zi 0), (2, zi x)] [] ν1 _
    have c1 : gT μ ν1 t [13] false := gT_tr c0 q1
    refine zx_aload_n (k := 0) (nn := 43) dX11_follows_42 rfl rfl rfl ?_
    refine zx_aload_n (k := 0) (nn := 44) dX11_follows_43 rfl rfl rfl ?_
    refine zx_getI (nn := 47) flX11_417 rfl rfl dX11_follows_44 rfl ?_
    rw [show ν1 0 36 = 4 from (c1.2.1 36 (by decide) (by decide)).trans hk]
    show zX shR σ 5 MX11_follows 47 [(0, zr 0), (1, zi 0), (2, zi x)] [zi 4, zr 0] ν1 _
    refine zx_iload_n (k := 2) (nn := 48) dX11_follows_47 rfl rfl rfl ?_
    refine zx_callV (nn := 51) (k := 0) (d' := 4) (as := [zi 4, zi x]) (rest := []) (n := 2) (eX11_swings_4_4 σ ν1 x (t + 1) a n c1.2.2.1 (by omega) c1.2.2.2.1 ((c1.2.1 38 (by decide) (by decide)).trans ha) ((c1.2.1 37 (by decide) (by decide)).trans hn) ((c1.2.1 36 (by decide) (by decide)).trans hk)) kX11_swings mlX11_422 rfl rfl rfl (by decide) rfl rfl (Nat.le_of_ble_eq_true rfl) dX11_follows_48 rfl ?_
    rintro _ ν2 ⟨rfl, q2⟩
    show zX shR σ 5 MX11_follows 51 [(0, zr 0), (1, zi 0), (2, zi x)] [zi ((x + a) - n)] ν2 _
    have c2 : gT μ ν2 t [13, 11, 10] false := gT_tr c1 q2
    refine zx_aload_n (k := 0) (nn := 52) dX11_follows_51 rfl rfl rfl ?_
    refine zx_getI (nn := 55) flX11_409 rfl rfl dX11_follows_52 rfl ?_
    rw [show ν2 0 38 = a from (c2.2.1 38 (by decide) (by decide)).trans ha]
    show zX shR σ 5 MX11_follows 55 [(0, zr 0), (1, zi 0), (2, zi x)] [zi a, zi ((x + a) - n)] ν2 _
    refine zx_ixor (nn := 56) dX11_follows_55 rfl ?_
    refine zx_iret rfl dX11_follows_56 ?_
    exact ⟨rfl, c2⟩
  · exact absurd h4 (by decide)
set_option maxHeartbeats 4000000 in
set_option maxRecDepth 100000 in
theorem eX11_follows_4_4 (σ : zG) (μ : zM) (x : Int32) (t : Nat) (a n : Int32) (ht : μ 0 35 = nI t) (hl : t + 3 ≤ 30) (hp : μ 0 39 = 0) (ha : μ 0 38 = a) (hn : μ 0 37 = n) (hk : μ 0 36 = 4) : zMet shR σ 6 MX11_follows yX11_follows [zr 0, zi 4, zi x] μ (fun rr μ' => rr = some (zi (((x + a) - n) ^^^ a)) ∧ gT μ μ' t [13, 11, 10] false) := by
  have c0 : gT μ μ t [] false := gT_rf ht hp
  refine zmetF (by decide +kernel) rfl (Nat.le_of_ble_eq_true rfl) ?_
  show zX shR σ 6 MX11_follows 0 [(0, zr 0), (1, zi 4), (2, zi x)] [] μ _
  refine zx_aload_n (k := 0) (nn := 1) dX11_follows_0 rfl rfl rfl ?_
  refine zx_getI (nn := 4) flX11_402 rfl rfl dX11_follows_1 rfl ?_
  rw [show μ 0 39 = 0 from c0.2.2.2.1]
  show zX shR σ 6 MX11_follows 4 [(0, zr 0), (1, zi 4), (2, zi x)] [zi 0] μ _
  refine zx_if_eq (tgt := 9) (nn := 7) dX11_follows_4 (by decide) rfl (fun h4 => ?_) (fun h4 => ?_)
  · refine zx_iload_n (k := 1) (nn := 10) dX11_follows_9 rfl rfl rfl ?_
    refine zx_look (tgt := 85) (off := 75) dX11_follows_10 (by decide +kernel) (by decide +kernel) (by decide) ?_
    refine zx_aload_n (k := 0) (nn := 86) dX11_follows_85 rfl rfl rfl ?_
    refine zx_iload_n (k := 1) (nn := 87) dX11_follows_86 rfl rfl rfl ?_
    refine zx_callSf (nn := 90) (d' := 0) (as := [zi 4]) (rest := [zr 0]) (n := 1) (eX11_above_4 σ μ) kX11_above mlX11_414 (by decide) rfl rfl (Nat.le_of_ble_eq_true rfl) dX11_follows_87 rfl ?_
    show zX shR σ 6 MX11_follows 90 [(0, zr 0), (1, zi 4), (2, zi x)] [zi 0, zr 0] μ _
    refine zx_iload_n (k := 2) (nn := 91) dX11_follows_90 rfl rfl rfl ?_
    refine zx_callV (nn := 94) (k := 0) (d' := 5) (as := [zi 0, zi x]) (rest := []) (n := 2) (eX11_follows_0_4 σ μ x t a n c0.2.2.1 (by omega) c0.2.2.2.1 ((c0.2.1 38 (by decide) (by decide)).trans ha) ((c0.2.1 37 (by decide) (by decide)).trans hn) ((c0.2.1 36 (by decide) (by decide)).trans hk)) kX11_follows mlX11_428 rfl rfl rfl (by decide) rfl rfl (Nat.le_of_ble_eq_true rfl) dX11_follows_91 rfl ?_
    rintro _ ν1 ⟨rfl, q1⟩
    show zX shR σ 6 MX11_follows 94 [(0, zr 0), (1, zi 4), (2, zi x)] [zi (((x + a) - n) ^^^ a)] ν1 _
    have c1 : gT μ ν1 t [13, 11, 10] false := gT_tr c0 q1
    refine zx_iret rfl dX11_follows_94 ?_
    exact ⟨rfl, c1⟩
  · exact absurd h4 (by decide)
set_option maxHeartbeats 4000000 in
set_option maxRecDepth 100000 in
theorem eX11_follows_0_5 (σ : zG) (μ : zM) (x : Int32) (t : Nat) (a n : Int32) (ht : μ 0 35 = nI t) (hl : t + 4 ≤ 30) (hp : μ 0 39 = 0) (ha : μ 0 38 = a) (hn : μ 0 37 = n) (hk : μ 0 36 = 5) : zMet shR σ 7 MX11_follows yX11_follows [zr 0, zi 0, zi x] μ (fun rr μ' => rr = some (zi ((-((x + a) - n)) ^^^ a)) ∧ gT μ μ' t [13, 60, 11, 10] false) := by
  have c0 : gT μ μ t [] false := gT_rf ht hp
  refine zmetF (by decide +kernel) rfl (Nat.le_of_ble_eq_true rfl) ?_
  show zX shR σ 7 MX11_follows 0 [(0, zr 0), (1, zi 0), (2, zi x)] [] μ _
  refine zx_aload_n (k := 0) (nn := 1) dX11_follows_0 rfl rfl rfl ?_
  refine zx_getI (nn := 4) flX11_402 rfl rfl dX11_follows_1 rfl ?_
  rw [show μ 0 39 = 0 from c0.2.2.2.1]
  show zX shR σ 7 MX11_follows 4 [(0, zr 0), (1, zi 0), (2, zi x)] [zi 0] μ _
  refine zx_if_eq (tgt := 9) (nn := 7) dX11_follows_4 (by decide) rfl (fun h4 => ?_) (fun h4 => ?_)
  · refine zx_iload_n (k := 1) (nn := 10) dX11_follows_9 rfl rfl rfl ?_
    refine zx_look (tgt := 36) (off := 26) dX11_follows_10 (by decide +kernel) (by decide +kernel) (by decide) ?_
    refine zx_aload_n (k := 0) (nn := 37) dX11_follows_36 rfl rfl rfl ?_
    refine zx_bipush (v := 13) (nn := 39) rfl dX11_follows_37 rfl ?_
    refine zx_callV (nn := 42) (k := 0) (d' := 0) (as := [zi 13]) (rest := []) (n := 1) (eX11_begins_0 σ μ 13 t c0.2.2.1 (by omega) c0.2.2.2.1) kX11_begins mlX11_406 rfl rfl rfl (by decide) rfl rfl (Nat.le_of_ble_eq_true rfl) dX11_follows_39 rfl ?_
    rintro _ ν1 ⟨rfl, q1⟩
    show zX shR σ 7 MX11_follows 42 [(0, zr 0), (1, zi 0), (2, zi x)] [] ν1 _
    have c1 : gT μ ν1 t [13] false := gT_tr c0 q1
    refine zx_aload_n (k := 0) (nn := 43) dX11_follows_42 rfl rfl rfl ?_
    refine zx_aload_n (k := 0) (nn := 44) dX11_follows_43 rfl rfl rfl ?_
    refine zx_getI (nn := 47) flX11_417 rfl rfl dX11_follows_44 rfl ?_
    rw [show ν1 0 36 = 5 from (c1.2.1 36 (by decide) (by decide)).trans hk]
    show zX shR σ 7 MX11_follows 47 [(0, zr 0), (1, zi 0), (2, zi x)] [zi 5, zr 0] ν1 _
    refine zx_iload_n (k := 2) (nn := 48) dX11_follows_47 rfl rfl rfl ?_
    refine zx_callV (nn := 51) (k := 0) (d' := 6) (as := [zi 5, zi x]) (rest := []) (n := 2) (eX11_swings_5_5 σ ν1 x (t + 1) a n c1.2.2.1 (by omega) c1.2.2.2.1 ((c1.2.1 38 (by decide) (by decide)).trans ha) ((c1.2.1 37 (by decide) (by decide)).trans hn) ((c1.2.1 36 (by decide) (by decide)).trans hk)) kX11_swings mlX11_422 rfl rfl rfl (by decide) rfl rfl (Nat.le_of_ble_eq_true rfl) dX11_follows_48 rfl ?_
    rintro _ ν2 ⟨rfl, q2⟩
    show zX shR σ 7 MX11_follows 51 [(0, zr 0), (1, zi 0), (2, zi x)] [zi (-((x + a) - n))] ν2 _
    have c2 : gT μ ν2 t [13, 60, 11, 10] false := gT_tr c1 q2
    refine zx_aload_n (k := 0) (nn := 52) dX11_follows_51 rfl rfl rfl ?_
    refine zx_getI (nn := 55) flX11_409 rfl rfl dX11_follows_52 rfl ?_
    rw [show ν2 0 38 = a from (c2.2.1 38 (by decide) (by decide)).trans ha]
    show zX shR σ 7 MX11_follows 55 [(0, zr 0), (1, zi 0), (2, zi x)] [zi a, zi (-((x + a) - n))] ν2 _
    refine zx_ixor (nn := 56) dX11_follows_55 rfl ?_
    refine zx_iret rfl dX11_follows_56 ?_
    exact ⟨rfl, c2⟩
  · exact absurd h4 (by decide)
set_option maxHeartbeats 4000000 in
set_option maxRecDepth 100000 in
theorem eX11_follows_4_5 (σ : zG) (μ : zM) (x : Int32) (t : Nat) (a n : Int32) (ht : μ 0 35 = nI t) (hl : t + 4 ≤ 30) (hp : μ 0 39 = 0) (ha : μ 0 38 = a) (hn : μ 0 37 = n) (hk : μ 0 36 = 5) : zMet shR σ 8 MX11_follows yX11_follows [zr 0, zi 4, zi x] μ (fun rr μ' => rr = some (zi ((-((x + a) - n)) ^^^ a)) ∧ gT μ μ' t [13, 60, 11, 10] false) := by
  have c0 : gT μ μ t [] false := gT_rf ht hp
  refine zmetF (by decide +kernel) rfl (Nat.le_of_ble_eq_true rfl) ?_
  show zX shR σ 8 MX11_follows 0 [(0, zr 0), (1, zi 4), (2, zi x)] [] μ _
  refine zx_aload_n (k := 0) (nn := 1) dX11_follows_0 rfl rfl rfl ?_
  refine zx_getI (nn := 4) flX11_402 rfl rfl dX11_follows_1 rfl ?_
  rw [show μ 0 39 = 0 from c0.2.2.2.1]
  show zX shR σ 8 MX11_follows 4 [(0, zr 0), (1, zi 4), (2, zi x)] [zi 0] μ _
  refine zx_if_eq (tgt := 9) (nn := 7) dX11_follows_4 (by decide) rfl (fun h4 => ?_) (fun h4 => ?_)
  · refine zx_iload_n (k := 1) (nn := 10) dX11_follows_9 rfl rfl rfl ?_
    refine zx_look (tgt := 85) (off := 75) dX11_follows_10 (by decide +kernel) (by decide +kernel) (by decide) ?_
    refine zx_aload_n (k := 0) (nn := 86) dX11_follows_85 rfl rfl rfl ?_
    refine zx_iload_n (k := 1) (nn := 87) dX11_follows_86 rfl rfl rfl ?_
    refine zx_callSf (nn := 90) (d' := 0) (as := [zi 4]) (rest := [zr 0]) (n := 1) (eX11_above_4 σ μ) kX11_above mlX11_414 (by decide) rfl rfl (Nat.le_of_ble_eq_true rfl) dX11_follows_87 rfl ?_
    show zX shR σ 8 MX11_follows 90 [(0, zr 0), (1, zi 4), (2, zi x)] [zi 0, zr 0] μ _
    refine zx_iload_n (k := 2) (nn := 91) dX11_follows_90 rfl rfl rfl ?_
    refine zx_callV (nn := 94) (k := 0) (d' := 7) (as := [zi 0, zi x]) (rest := []) (n := 2) (eX11_follows_0_5 σ μ x t a n c0.2.2.1 (by omega) c0.2.2.2.1 ((c0.2.1 38 (by decide) (by decide)).trans ha) ((c0.2.1 37 (by decide) (by decide)).trans hn) ((c0.2.1 36 (by decide) (by decide)).trans hk)) kX11_follows mlX11_428 rfl rfl rfl (by decide) rfl rfl (Nat.le_of_ble_eq_true rfl) dX11_follows_91 rfl ?_
    rintro _ ν1 ⟨rfl, q1⟩
    show zX shR σ 8 MX11_follows 94 [(0, zr 0), (1, zi 4), (2, zi x)] [zi ((-((x + a) - n)) ^^^ a)] ν1 _
    have c1 : gT μ ν1 t [13, 60, 11, 10] false := gT_tr c0 q1
    refine zx_iret rfl dX11_follows_94 ?_
    exact ⟨rfl, c1⟩
  · exact absurd h4 (by decide)
set_option maxHeartbeats 4000000 in
set_option maxRecDepth 100000 in
theorem eX11_follows_5_5 (σ : zG) (μ : zM) (x : Int32) (t : Nat) (a n : Int32) (ht : μ 0 35 = nI t) (hl : t + 4 ≤ 30) (hp : μ 0 39 = 0) (ha : μ 0 38 = a) (hn : μ 0 37 = n) (hk : μ 0 36 = 5) : zMet shR σ 9 MX11_follows yX11_follows [zr 0, zi 5, zi x] μ (fun rr μ' => rr = some (zi ((-((x + a) - n)) ^^^ a)) ∧ gT μ μ' t [13, 60, 11, 10] false) := by
  have c0 : gT μ μ t [] false := gT_rf ht hp
  refine zmetF (by decide +kernel) rfl (Nat.le_of_ble_eq_true rfl) ?_
  show zX shR σ 9 MX11_follows 0 [(0, zr 0), (1, zi 5), (2, zi x)] [] μ _
  refine zx_aload_n (k := 0) (nn := 1) dX11_follows_0 rfl rfl rfl ?_
  refine zx_getI (nn := 4) flX11_402 rfl rfl dX11_follows_1 rfl ?_
  rw [show μ 0 39 = 0 from c0.2.2.2.1]
  show zX shR σ 9 MX11_follows 4 [(0, zr 0), (1, zi 5), (2, zi x)] [zi 0] μ _
  refine zx_if_eq (tgt := 9) (nn := 7) dX11_follows_4 (by decide) rfl (fun h4 => ?_) (fun h4 => ?_)
  · refine zx_iload_n (k := 1) (nn := 10) dX11_follows_9 rfl rfl rfl ?_
    refine zx_look (tgt := 85) (off := 75) dX11_follows_10 (by decide +kernel) (by decide +kernel) (by decide) ?_
    refine zx_aload_n (k := 0) (nn := 86) dX11_follows_85 rfl rfl rfl ?_
    refine zx_iload_n (k := 1) (nn := 87) dX11_follows_86 rfl rfl rfl ?_
    refine zx_callSf (nn := 90) (d' := 0) (as := [zi 5]) (rest := [zr 0]) (n := 1) (eX11_above_5 σ μ) kX11_above mlX11_414 (by decide) rfl rfl (Nat.le_of_ble_eq_true rfl) dX11_follows_87 rfl ?_
    show zX shR σ 9 MX11_follows 90 [(0, zr 0), (1, zi 5), (2, zi x)] [zi 4, zr 0] μ _
    refine zx_iload_n (k := 2) (nn := 91) dX11_follows_90 rfl rfl rfl ?_
    refine zx_callV (nn := 94) (k := 0) (d' := 8) (as := [zi 4, zi x]) (rest := []) (n := 2) (eX11_follows_4_5 σ μ x t a n c0.2.2.1 (by omega) c0.2.2.2.1 ((c0.2.1 38 (by decide) (by decide)).trans ha) ((c0.2.1 37 (by decide) (by decide)).trans hn) ((c0.2.1 36 (by decide) (by decide)).trans hk)) kX11_follows mlX11_428 rfl rfl rfl (by decide) rfl rfl (Nat.le_of_ble_eq_true rfl) dX11_follows_91 rfl ?_
    rintro _ ν1 ⟨rfl, q1⟩
    show zX shR σ 9 MX11_follows 94 [(0, zr 0), (1, zi 5), (2, zi x)] [zi ((-((x + a) - n)) ^^^ a)] ν1 _
    have c1 : gT μ ν1 t [13, 60, 11, 10] false := gT_tr c0 q1
    refine zx_iret rfl dX11_follows_94 ?_
    exact ⟨rfl, c1⟩
  · exact absurd h4 (by decide)
