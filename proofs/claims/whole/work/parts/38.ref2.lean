/-! the reference's rules -/
def gJoin (w v x y : Int32) : Bool := if w = 2 then (if v = 60 then decide (x < y) else if v = 61 then decide (x = y) else decide (y < x)) else if w = 4 then (!decide (x = 0) && !decide (y = 0)) else (!decide (x = 0) || !decide (y = 0))
def rStep (F : Nat → Int32) (w v : Int32) (st : List Int32) : Option (List Int32) :=
  if w = 0 then some (v :: st) else if w = 1 then (if 0 ≤ v then some (F v.toNatClampNeg :: st) else none)
  else if w = 3 then (match st with
    | [] => none
    | x :: r => some (zb (decide (x = 0)) :: r))
  else if w = 2 ∨ w = 4 ∨ w = 5 then (match st with
    | y :: x :: r => some (zb (gJoin w v x y) :: r)
    | _ => none) else none
def rRun (F : Nat → Int32) (c : Nat → Int32) : Nat → Nat → List Int32 → Option (List Int32)
  | _, 0, st => some st
  | k, m + 1, st => match rStep F (c (111 + 2 * k)) (c (111 + 2 * k + 1)) st with
    | none => none
    | some t => rRun F c (k + 1) m t
theorem rStep_c {F : Nat → Int32} {w v : Int32} {st t : List Int32} (h : rStep F w v st = some t) : (w = 0 ∧ t = v :: st) ∨ ((w = 1 ∧ 0 ≤ v) ∧ t = F v.toNatClampNeg :: st) ∨ (∃ x r, w = 3 ∧ st = x :: r ∧ t = zb (decide (x = 0)) :: r) ∨
    (∃ y x r, w = 2 ∧ st = y :: x :: r ∧ t = zb (gJoin 2 v x y) :: r) ∨ (∃ y x r, w = 4 ∧ st = y :: x :: r ∧ t = zb (gJoin 4 v x y) :: r) ∨ (∃ y x r, w = 5 ∧ st = y :: x :: r ∧ t = zb (gJoin 5 v x y) :: r) := by
  unfold rStep at h
  by_cases h0 : w = 0
  · rw [if_pos h0] at h
    exact Or.inl ⟨h0, (Option.some.inj h).symm⟩
  · rw [if_neg h0] at h
    by_cases h1 : w = 1
    · rw [if_pos h1] at h
      by_cases hv : 0 ≤ v
      · rw [if_pos hv] at h
        exact Or.inr (Or.inl ⟨⟨h1, hv⟩, (Option.some.inj h).symm⟩)
      · rw [if_neg hv] at h
        exact absurd h (by simp)
    · rw [if_neg h1] at h
      by_cases h3 : w = 3
      · rw [if_pos h3] at h
        rcases st with _ | ⟨x, r⟩
        · exact absurd h (by simp)
        · exact Or.inr (Or.inr (Or.inl ⟨x, r, h3, rfl, (Option.some.inj h).symm⟩))
      · rw [if_neg h3] at h
        by_cases h2 : w = 2 ∨ w = 4 ∨ w = 5
        · rw [if_pos h2] at h
          rcases st with _ | ⟨y, _ | ⟨x, r⟩⟩
          · exact absurd h (by simp)
          · exact absurd h (by simp)
          · have e := (Option.some.inj h).symm
            rcases h2 with rfl | rfl | rfl
            · exact Or.inr (Or.inr (Or.inr (Or.inl ⟨y, x, r, rfl, rfl, e⟩)))
            · exact Or.inr (Or.inr (Or.inr (Or.inr (Or.inl ⟨y, x, r, rfl, rfl, e⟩))))
            · exact Or.inr (Or.inr (Or.inr (Or.inr (Or.inr ⟨y, x, r, rfl, rfl, e⟩))))
        · rw [if_neg h2] at h
          exact absurd h (by simp)
theorem rRun_s {F : Nat → Int32} {c : Nat → Int32} {k b : Nat} {st o : List Int32} (h : k < b) (e : rRun F c k (b - k) st = some o) : ∃ t, rStep F (c (111 + 2 * k)) (c (111 + 2 * k + 1)) st = some t ∧ rRun F c (k + 1) (b - (k + 1)) t = some o := by
  rw [show b - k = (b - (k + 1)) + 1 by omega] at e
  unfold rRun at e
  cases q : rStep F (c (111 + 2 * k)) (c (111 + 2 * k + 1)) st with
  | none => rw [q] at e; exact absurd e (by simp)
  | some t => rw [q] at e; exact ⟨t, rfl, e⟩
/-- the row c holds the rules ρ -/
def rRep (ρ : pR) (c : Nat → Int32) : Prop := c 5 = nI ρ.1 ∧ ρ.1 ≤ 8 ∧ ∀ r, r < ρ.1 → ρ.2.1 r = c (71 + 5 * r) ∧
  ((c (71 + 5 * r + 1) = 2 ∧ ρ.2.2.1 r = 1000) ∨ ∃ n, n ≤ 99 ∧ c (71 + 5 * r + 2) = nI n ∧ ((c (71 + 5 * r + 1) = 0 ∧ ρ.2.2.1 r = nI n) ∨ (c (71 + 5 * r + 1) = 1 ∧ ρ.2.2.1 r = -nI n))) ∧
  ∃ a b, a ≤ b ∧ b ≤ 200 ∧ c (71 + 5 * r + 3) = nI a ∧ c (71 + 5 * r + 4) = nI b ∧ ∀ F, (a = b → ρ.2.2.2 r F = true) ∧ (a ≠ b → ∃ v, rRun F c a (b - a) [] = some [v] ∧ ρ.2.2.2 r F = !decide (v = 0))
/-- rules and reports in row 1 are as they were -/
def rK (μ ν : zM) : Prop := ∀ i, i = 5 ∨ i = 6 ∨ 47 ≤ i → ν 1 i = μ 1 i
theorem rS_eq {k : Nat} {μ ν : zM} (h : μ k = ν k) : rS k μ = rS k ν := by
  unfold rS
  rw [h]
theorem rS_p {k j : Nat} {μ : zM} {v : Int32} (h : j < 47) (h5 : j ≠ 5) (h6 : j ≠ 6) : rS k (zp μ k j v) = pPut (rS k μ) j v := by
  funext i
  unfold rS pPut
  rw [zp_eq]
  by_cases e : i = j
  · subst e
    rw [if_pos ⟨h, h5, h6⟩, if_pos rfl, pk_us]
  · rw [if_neg e, pk_un e]
theorem rK_rf {μ : zM} : rK μ μ := fun _ _ => rfl
theorem rK_tr {μ μ1 μ2 : zM} (h1 : rK μ μ1) (h2 : rK μ1 μ2) : rK μ μ2 := fun i hi => (h2 i hi).trans (h1 i hi)
theorem rK_p {μ ν : zM} {j : Nat} {v : Int32} (h : rK μ ν) (hj : j < 47) (h5 : j ≠ 5) (h6 : j ≠ 6) : rK μ (zp ν 1 j v) := fun i hi => by
  rw [zp_eq, pk_un (by omega)]
  exact h i hi
theorem rK_e {μ ν : zM} (h : ν 1 = μ 1) : rK μ ν := fun i _ => by rw [h]
theorem rRow_eq {μ ν : zM} (hs : rS 1 ν = rS 1 μ) (hk : rK μ ν) : ν 1 = μ 1 := by
  funext i
  by_cases h : i = 5 ∨ i = 6 ∨ 47 ≤ i
  · exact hk i h
  · have e := congrFun hs i
    rw [rS_i (by omega) (by omega) (by omega), rS_i (by omega) (by omega) (by omega)] at e
    exact e
theorem rRep_K {ρ : pR} {μ ν : zM} (hk : rK μ ν) (h : rRep ρ (μ 1)) : rRep ρ (ν 1) := by
  have e : ∀ j, ν 1 (71 + j) = μ 1 (71 + j) := fun j => hk _ (Or.inr (Or.inr (by omega)))
  have er : ∀ (F : Nat → Int32) (m k : Nat) (st : List Int32), rRun F (ν 1) k m st = rRun F (μ 1) k m st := by
    intro F m
    induction m with
    | zero => intro k st; rfl
    | succ m ih =>
      intro k st
      unfold rRun
      rw [hk (111 + 2 * k) (by omega), hk (111 + 2 * k + 1) (by omega)]
      cases rStep F (μ 1 (111 + 2 * k)) (μ 1 (111 + 2 * k + 1)) st with
      | none => rfl
      | some t => exact ih (k + 1) t
  unfold rRep at h ⊢
  rw [hk 5 (by omega)]
  refine ⟨h.1, h.2.1, fun r hr => ?_⟩
  have q := h.2.2 r hr
  rw [hk (71 + 5 * r) (by omega), hk (71 + 5 * r + 1) (by omega), hk (71 + 5 * r + 2) (by omega), hk (71 + 5 * r + 3) (by omega), hk (71 + 5 * r + 4) (by omega)]
  simp only [er]
  exact q
theorem nI_m1000 {n : Nat} (h : n ≤ 99) : ¬ -nI n = 1000 := by
  intro q
  have e : (-nI n).toInt = (1000 : Int32).toInt := by rw [q]
  rw [Int32.toInt_neg, nI_toInt (by omega), show (1000 : Int32).toInt = 1000 by decide +kernel, Int.bmod_eq_of_le (by omega) (by omega)] at e
  omega
set_option maxHeartbeats 4000000 in
set_option maxRecDepth 100000 in
theorem eX11_fact_0 (σ : zG) (μ : zM) (v : Int32) (l : Nat) (ok : pOK (rS 1 μ)) (hl : l < 6) (hv : 0 ≤ v) : zMet shR σ 2 MX11_fact yX11_fact [zr 0, zi v, zi (nI l)] μ (fun rr μ' => rr = some (zi (pFact (rS 1 μ) l v.toNatClampNeg)) ∧ μ' = μ) := by
  refine zmetF (by decide +kernel) rfl (Nat.le_of_ble_eq_true rfl) ?_
  show zX shR σ 2 MX11_fact 0 [(0, zr 0), (1, zi v), (2, zi (nI l))] [] μ _
  refine zx_iload_n (k := 1) (nn := 1) dX11_fact_0 rfl rfl rfl ?_
  by_cases h1_0 : v = 0
  · refine zx_sw h1_0 ?_
    refine zx_tabIn (tgt := 32) (off := 31) dX11_fact_1 (by decide +kernel) (by decide +kernel) (by decide +kernel) (by decide) ?_
    refine zx_aload_n (k := 0) (nn := 33) dX11_fact_32 rfl rfl rfl ?_
    refine zx_getR (q := 1) (nn := 36) flX11_9 rfl rfl dX11_fact_33 rfl ?_
    refine zx_iconst (v := 2) (nn := 37) rfl dX11_fact_36 rfl ?_
    refine zx_iald_n (j := 2) (nn := 38) rfl (by omega) (by decide) dX11_fact_37 rfl ?_
    refine zx_iret rfl dX11_fact_38 ?_
    refine ⟨congrArg (fun x => some (zi x)) ?_, rfl⟩
    rw [h1_0]
    rfl
  by_cases h1_1 : v = 1
  · refine zx_sw h1_1 ?_
    refine zx_tabIn (tgt := 39) (off := 38) dX11_fact_1 (by decide +kernel) (by decide +kernel) (by decide +kernel) (by decide) ?_
    refine zx_aload_n (k := 0) (nn := 40) dX11_fact_39 rfl rfl rfl ?_
    refine zx_callVf (nn := 43) (k := 0) (d' := 1) (as := []) (rest := []) (n := 0) (eX11_seen_0 σ μ   ok) kX11_seen mlX11_125 rfl rfl rfl (by decide) rfl rfl (Nat.le_of_ble_eq_true rfl) dX11_fact_40 rfl ?_
    show zX shR σ 2 MX11_fact 43 [(0, zr 0), (1, zi v), (2, zi (nI l))] [zi (pSeen (rS 1 μ))] μ _
    refine zx_iret rfl dX11_fact_43 ?_
    refine ⟨congrArg (fun x => some (zi x)) ?_, rfl⟩
    rw [h1_1]
    rfl
  by_cases h1_2 : v = 2
  · refine zx_sw h1_2 ?_
    refine zx_tabIn (tgt := 44) (off := 43) dX11_fact_1 (by decide +kernel) (by decide +kernel) (by decide +kernel) (by decide) ?_
    refine zx_aload_n (k := 0) (nn := 45) dX11_fact_44 rfl rfl rfl ?_
    refine zx_iload_n (k := 2) (nn := 46) dX11_fact_45 rfl rfl rfl ?_
    refine zx_iconst (v := 1) (nn := 47) rfl dX11_fact_46 rfl ?_
    refine zx_callVf (nn := 50) (k := 0) (d' := 0) (as := [zi (nI l), zi 1]) (rest := []) (n := 2) (eX11_of_0 σ μ l 1  hl (by decide)) kX11_of mlX11_88 rfl rfl rfl (by decide) rfl rfl (Nat.le_of_ble_eq_true rfl) dX11_fact_47 rfl ?_
    show zX shR σ 2 MX11_fact 50 [(0, zr 0), (1, zi v), (2, zi (nI l))] [zi (rS 1 μ (7 + 4 * l + 1))] μ _
    refine zx_iret rfl dX11_fact_50 ?_
    refine ⟨congrArg (fun x => some (zi x)) ?_, rfl⟩
    rw [h1_2]
    rfl
  by_cases h1_3 : v = 3
  · refine zx_sw h1_3 ?_
    refine zx_tabIn (tgt := 51) (off := 50) dX11_fact_1 (by decide +kernel) (by decide +kernel) (by decide +kernel) (by decide) ?_
    refine zx_aload_n (k := 0) (nn := 52) dX11_fact_51 rfl rfl rfl ?_
    refine zx_iload_n (k := 2) (nn := 53) dX11_fact_52 rfl rfl rfl ?_
    refine zx_iconst (v := 2) (nn := 54) rfl dX11_fact_53 rfl ?_
    refine zx_callVf (nn := 57) (k := 0) (d' := 0) (as := [zi (nI l), zi 2]) (rest := []) (n := 2) (eX11_of_0 σ μ l 2  hl (by decide)) kX11_of mlX11_88 rfl rfl rfl (by decide) rfl rfl (Nat.le_of_ble_eq_true rfl) dX11_fact_54 rfl ?_
    show zX shR σ 2 MX11_fact 57 [(0, zr 0), (1, zi v), (2, zi (nI l))] [zi (rS 1 μ (7 + 4 * l + 2))] μ _
    refine zx_iret rfl dX11_fact_57 ?_
    refine ⟨congrArg (fun x => some (zi x)) ?_, rfl⟩
    rw [h1_3]
    rfl
  refine zx_tabOut (tgt := 58) dX11_fact_1 (zsw_out (lo := 0) (hi := 3) (fun k hk1 hk2 => by rcases (show k = 0 ∨ k = 1 ∨ k = 2 ∨ k = 3 by omega) with rfl | rfl | rfl | rfl; exact lv_neT h1_0 rfl; exact lv_neT h1_1 rfl; exact lv_neT h1_2 rfl; exact lv_neT h1_3 rfl)) (by decide) ?_
  refine zx_iload_n (k := 2) (nn := 59) dX11_fact_58 rfl rfl rfl ?_
  refine zx_iret rfl dX11_fact_59 ?_
  obtain ⟨j, hj, rfl⟩ := nI_of (x := v) (Int32.not_lt.mpr hv)
  refine ⟨congrArg (fun x => some (zi x)) ?_, rfl⟩
  rw [nI_clamp hj]
  unfold pFact
  rw [if_neg (fun q => h1_0 (by rw [q]; rfl)), if_neg (fun q => h1_1 (by rw [q]; rfl)), if_neg (fun q => h1_2 (by rw [q]; rfl)), if_neg (fun q => h1_3 (by rw [q]; rfl))]
set_option maxHeartbeats 4000000 in
set_option maxRecDepth 100000 in
theorem eX11_joined (σ : zG) (μ : zM) (w : Int32) (v : Int32) (x : Int32) (y : Int32) : zMet shR σ 0 MX11_joined yX11_joined [zi w, zi v, zi x, zi y] μ (fun rr μ' => rr = some (zi (zb (gJoin w v x y))) ∧ μ' = μ) := by
  refine zmetF (by decide +kernel) rfl (Nat.le_of_ble_eq_true rfl) ?_
  show zX shR σ 0 MX11_joined 0 [(0, zi w), (1, zi v), (2, zi x), (3, zi y)] [] μ _
  refine zx_iload_n (k := 0) (nn := 1) dX11_joined_0 rfl rfl rfl ?_
  refine zx_iconst (v := 2) (nn := 2) rfl dX11_joined_1 rfl ?_
  refine zx_icmp_ne (tgt := 54) (nn := 5) dX11_joined_2 (by decide) rfl (fun h2 => ?_) (fun h2 => ?_)
  · refine zx_iload_n (k := 0) (nn := 55) dX11_joined_54 rfl rfl rfl ?_
    refine zx_iconst (v := 4) (nn := 56) rfl dX11_joined_55 rfl ?_
    refine zx_icmp_ne (tgt := 75) (nn := 59) dX11_joined_56 (by decide) rfl (fun h56 => ?_) (fun h56 => ?_)
    · refine zx_iload_n (k := 2) (nn := 76) dX11_joined_75 rfl rfl rfl ?_
      refine zx_if_ne (tgt := 83) (nn := 79) dX11_joined_76 (by decide) rfl (fun h76 => ?_) (fun h76 => ?_)
      · refine zx_iconst (v := 1) (nn := 84) rfl dX11_joined_83 rfl ?_
        refine zx_goto (tgt := 88) dX11_joined_84 (by decide) ?_
        refine zx_zret rfl rfl dX11_joined_88 ?_
        refine ⟨congrArg (fun x => some (zi x)) ?_, rfl⟩
        simp [gJoin, zb, h2, h56, h76]
      · refine zx_iload_n (k := 3) (nn := 80) dX11_joined_79 rfl rfl rfl ?_
        refine zx_if_eq (tgt := 87) (nn := 83) dX11_joined_80 (by decide) rfl (fun h80 => ?_) (fun h80 => ?_)
        · refine zx_iconst (v := 0) (nn := 88) rfl dX11_joined_87 rfl ?_
          refine zx_zret rfl rfl dX11_joined_88 ?_
          refine ⟨congrArg (fun x => some (zi x)) ?_, rfl⟩
          simp [gJoin, zb, h2, h56, h76, h80]
        · refine zx_iconst (v := 1) (nn := 84) rfl dX11_joined_83 rfl ?_
          refine zx_goto (tgt := 88) dX11_joined_84 (by decide) ?_
          refine zx_zret rfl rfl dX11_joined_88 ?_
          refine ⟨congrArg (fun x => some (zi x)) ?_, rfl⟩
          simp [gJoin, zb, h2, h56, h76, h80]
    · refine zx_iload_n (k := 2) (nn := 60) dX11_joined_59 rfl rfl rfl ?_
      refine zx_if_eq (tgt := 71) (nn := 63) dX11_joined_60 (by decide) rfl (fun h60 => ?_) (fun h60 => ?_)
      · refine zx_iconst (v := 0) (nn := 72) rfl dX11_joined_71 rfl ?_
        refine zx_goto (tgt := 88) dX11_joined_72 (by decide) ?_
        refine zx_zret rfl rfl dX11_joined_88 ?_
        refine ⟨congrArg (fun x => some (zi x)) ?_, rfl⟩
        simp [gJoin, zb, h2, h56, h60]
      · refine zx_iload_n (k := 3) (nn := 64) dX11_joined_63 rfl rfl rfl ?_
        refine zx_if_eq (tgt := 71) (nn := 67) dX11_joined_64 (by decide) rfl (fun h64 => ?_) (fun h64 => ?_)
        · refine zx_iconst (v := 0) (nn := 72) rfl dX11_joined_71 rfl ?_
          refine zx_goto (tgt := 88) dX11_joined_72 (by decide) ?_
          refine zx_zret rfl rfl dX11_joined_88 ?_
          refine ⟨congrArg (fun x => some (zi x)) ?_, rfl⟩
          simp [gJoin, zb, h2, h56, h60, h64]
        · refine zx_iconst (v := 1) (nn := 68) rfl dX11_joined_67 rfl ?_
          refine zx_goto (tgt := 88) dX11_joined_68 (by decide) ?_
          refine zx_zret rfl rfl dX11_joined_88 ?_
          refine ⟨congrArg (fun x => some (zi x)) ?_, rfl⟩
          simp [gJoin, zb, h2, h56, h60, h64]
  · refine zx_iload_n (k := 1) (nn := 6) dX11_joined_5 rfl rfl rfl ?_
    refine zx_bipush (v := 60) (nn := 8) rfl dX11_joined_6 rfl ?_
    refine zx_icmp_ne (tgt := 24) (nn := 11) dX11_joined_8 (by decide) rfl (fun h8 => ?_) (fun h8 => ?_)
    · refine zx_iload_n (k := 1) (nn := 25) dX11_joined_24 rfl rfl rfl ?_
      refine zx_bipush (v := 61) (nn := 27) rfl dX11_joined_25 rfl ?_
      refine zx_icmp_ne (tgt := 43) (nn := 30) dX11_joined_27 (by decide) rfl (fun h27 => ?_) (fun h27 => ?_)
      · refine zx_iload_n (k := 2) (nn := 44) dX11_joined_43 rfl rfl rfl ?_
        refine zx_iload_n (k := 3) (nn := 45) dX11_joined_44 rfl rfl rfl ?_
        refine zx_icmp_le (tgt := 52) (nn := 48) dX11_joined_45 (by decide) rfl (fun h45 => ?_) (fun h45 => ?_)
        · refine zx_iconst (v := 0) (nn := 53) rfl dX11_joined_52 rfl ?_
          refine zx_zret rfl rfl dX11_joined_53 ?_
          refine ⟨congrArg (fun x => some (zi x)) ?_, rfl⟩
          simp [gJoin, zb, h2, h8, h27, Int32.not_lt.mpr h45]
        · refine zx_iconst (v := 1) (nn := 49) rfl dX11_joined_48 rfl ?_
          refine zx_goto (tgt := 53) dX11_joined_49 (by decide) ?_
          refine zx_zret rfl rfl dX11_joined_53 ?_
          refine ⟨congrArg (fun x => some (zi x)) ?_, rfl⟩
          simp [gJoin, zb, h2, h8, h27, Int32.not_le.mp h45]
      · refine zx_iload_n (k := 2) (nn := 31) dX11_joined_30 rfl rfl rfl ?_
        refine zx_iload_n (k := 3) (nn := 32) dX11_joined_31 rfl rfl rfl ?_
        refine zx_icmp_ne (tgt := 39) (nn := 35) dX11_joined_32 (by decide) rfl (fun h32 => ?_) (fun h32 => ?_)
        · refine zx_iconst (v := 0) (nn := 40) rfl dX11_joined_39 rfl ?_
          refine zx_goto (tgt := 53) dX11_joined_40 (by decide) ?_
          refine zx_zret rfl rfl dX11_joined_53 ?_
          refine ⟨congrArg (fun x => some (zi x)) ?_, rfl⟩
          simp [gJoin, zb, h2, h8, h27, h32]
        · refine zx_iconst (v := 1) (nn := 36) rfl dX11_joined_35 rfl ?_
          refine zx_goto (tgt := 53) dX11_joined_36 (by decide) ?_
          refine zx_zret rfl rfl dX11_joined_53 ?_
          refine ⟨congrArg (fun x => some (zi x)) ?_, rfl⟩
          simp [gJoin, zb, h2, h8, h27, h32]
    · refine zx_iload_n (k := 2) (nn := 12) dX11_joined_11 rfl rfl rfl ?_
      refine zx_iload_n (k := 3) (nn := 13) dX11_joined_12 rfl rfl rfl ?_
      refine zx_icmp_ge (tgt := 20) (nn := 16) dX11_joined_13 (by decide) rfl (fun h13 => ?_) (fun h13 => ?_)
      · refine zx_iconst (v := 0) (nn := 21) rfl dX11_joined_20 rfl ?_
        refine zx_goto (tgt := 53) dX11_joined_21 (by decide) ?_
        refine zx_zret rfl rfl dX11_joined_53 ?_
        refine ⟨congrArg (fun x => some (zi x)) ?_, rfl⟩
        simp [gJoin, zb, h2, h8, Int32.not_lt.mpr h13]
      · refine zx_iconst (v := 1) (nn := 17) rfl dX11_joined_16 rfl ?_
        refine zx_goto (tgt := 53) dX11_joined_17 (by decide) ?_
        refine zx_zret rfl rfl dX11_joined_53 ?_
        refine ⟨congrArg (fun x => some (zi x)) ?_, rfl⟩
        simp [gJoin, zb, h2, h8, Int32.not_le.mp h13]
set_option maxHeartbeats 4000000 in
set_option maxRecDepth 100000 in
theorem eX11_holds_0 (σ : zG) (μ : zM) (r : Nat) (l : Nat) {ρ : pR} (ok : pOK (rS 1 μ)) (hl : l < 6) (hρ : rRep ρ (μ 1)) (hr : r < ρ.1) : zMet shR σ 3 MX11_holds yX11_holds [zr 0, zi (nI r), zi (nI l)] μ (fun rr μ' => rr = some (zi (zb (ρ.2.2.2 r (pFact (rS 1 μ) l)))) ∧ zJ [6] μ μ') := by
  obtain ⟨hρ1, hρ8, hρr⟩ := hρ
  obtain ⟨hk0, hk1, a, b, hab, hb, ha3, hb4, hF⟩ := hρr r hr
  have ho : ∃ o, rRun (pFact (rS 1 μ) l) (μ 1) a (b - a) [] = some o := by
    by_cases q : a = b
    · exact ⟨[], by rw [show b - a = 0 by omega]; rfl⟩
    · obtain ⟨v, hv, _⟩ := (hF (pFact (rS 1 μ) l)).2 q
      exact ⟨_, hv⟩
  obtain ⟨o, ho⟩ := ho
  refine zmetF (by decide +kernel) rfl (Nat.le_of_ble_eq_true rfl) ?_
  show zX shR σ 3 MX11_holds 0 [(0, zr 0), (1, zi (nI r)), (2, zi (nI l))] [] μ _
  refine zx_aload_n (k := 0) (nn := 1) dX11_holds_0 rfl rfl rfl ?_
  refine zx_getR (q := 1) (nn := 4) flX11_9 rfl rfl dX11_holds_1 rfl ?_
  refine zx_bipush (v := 71) (nn := 6) rfl dX11_holds_4 rfl ?_
  refine zx_iconst (v := 5) (nn := 7) rfl dX11_holds_6 rfl ?_
  refine zx_iload_n (k := 1) (nn := 8) dX11_holds_7 rfl rfl rfl ?_
  refine zx_imul (nn := 9) dX11_holds_8 rfl ?_
  refine zx_iadd (nn := 10) dX11_holds_9 rfl ?_
  refine zx_iconst (v := 3) (nn := 11) rfl dX11_holds_10 rfl ?_
  refine zx_iadd (nn := 12) dX11_holds_11 rfl ?_
  rw [show (71 + (5 * (nI r))) + 3 = nI (71 + 5 * r + 3) from by simp only [show (2 : Int32) = nI 2 from rfl, show (3 : Int32) = nI 3 from rfl, show (1 : Int32) = nI 1 from rfl, show (4 : Int32) = nI 4 from rfl, show (5 : Int32) = nI 5 from rfl, show (7 : Int32) = nI 7 from rfl, show (31 : Int32) = nI 31 from rfl, show (47 : Int32) = nI 47 from rfl, show (71 : Int32) = nI 71 from rfl, show (111 : Int32) = nI 111 from rfl, nI_mulN, nI_add]]
  show zX shR σ 3 MX11_holds 12 [(0, zr 0), (1, zi (nI r)), (2, zi (nI l))] [zi (nI (71 + 5 * r + 3)), zr 1] μ _
  refine zx_iald_n (j := 71 + 5 * r + 3) (nn := 13) rfl (by omega) (by decide) dX11_holds_12 rfl ?_
  rw [show μ 1 (71 + 5 * r + 3) = nI a from ha3]
  show zX shR σ 3 MX11_holds 13 [(0, zr 0), (1, zi (nI r)), (2, zi (nI l))] [zi (nI a)] μ _
  refine zx_istore_n (nn := 14) (lv' := [(3, zi (nI a)), (0, zr 0), (1, zi (nI r)), (2, zi (nI l))]) dX11_holds_13 rfl (by decide) rfl rfl ?_
  refine zx_aload_n (k := 1) (nn := 15) dX11_holds_14 rfl rfl rfl ?_
  refine zx_getR (q := 1) (nn := 18) flX11_9 rfl rfl dX11_holds_15 rfl ?_
  refine zx_bipush (v := 71) (nn := 20) rfl dX11_holds_18 rfl ?_
  refine zx_iconst (v := 5) (nn := 21) rfl dX11_holds_20 rfl ?_
  refine zx_iload_n (k := 2) (nn := 22) dX11_holds_21 rfl rfl rfl ?_
  refine zx_imul (nn := 23) dX11_holds_22 rfl ?_
  refine zx_iadd (nn := 24) dX11_holds_23 rfl ?_
  refine zx_iconst (v := 4) (nn := 25) rfl dX11_holds_24 rfl ?_
  refine zx_iadd (nn := 26) dX11_holds_25 rfl ?_
  rw [show (71 + (5 * (nI r))) + 4 = nI (71 + 5 * r + 4) from by simp only [show (2 : Int32) = nI 2 from rfl, show (3 : Int32) = nI 3 from rfl, show (1 : Int32) = nI 1 from rfl, show (4 : Int32) = nI 4 from rfl, show (5 : Int32) = nI 5 from rfl, show (7 : Int32) = nI 7 from rfl, show (31 : Int32) = nI 31 from rfl, show (47 : Int32) = nI 47 from rfl, show (71 : Int32) = nI 71 from rfl, show (111 : Int32) = nI 111 from rfl, nI_mulN, nI_add]]
  show zX shR σ 3 MX11_holds 26 [(3, zi (nI a)), (0, zr 0), (1, zi (nI r)), (2, zi (nI l))] [zi (nI (71 + 5 * r + 4)), zr 1] μ _
  refine zx_iald_n (j := 71 + 5 * r + 4) (nn := 27) rfl (by omega) (by decide) dX11_holds_26 rfl ?_
  rw [show μ 1 (71 + 5 * r + 4) = nI b from hb4]
  show zX shR σ 3 MX11_holds 27 [(3, zi (nI a)), (0, zr 0), (1, zi (nI r)), (2, zi (nI l))] [zi (nI b)] μ _
  refine zx_istore (nn := 29) (lv' := [(4, zi (nI b)), (3, zi (nI a)), (0, zr 0), (1, zi (nI r)), (2, zi (nI l))]) dX11_holds_27 (by decide) rfl rfl ?_
  refine zx_iconst (v := 0) (nn := 30) rfl dX11_holds_29 rfl ?_
  refine zx_istore (nn := 32) (lv' := [(5, zi 0), (4, zi (nI b)), (3, zi (nI a)), (0, zr 0), (1, zi (nI r)), (2, zi (nI l))]) dX11_holds_30 (by decide) rfl rfl ?_
  refine zx_iload_n (k := 2) (nn := 33) dX11_holds_32 rfl rfl rfl ?_
  refine zx_istore (nn := 35) (lv' := [(6, zi (nI a)), (5, zi 0), (4, zi (nI b)), (3, zi (nI a)), (0, zr 0), (1, zi (nI r)), (2, zi (nI l))]) dX11_holds_33 (by decide) rfl rfl ?_
  refine zx_lv (lv' := [(0, zr 0), (1, zi (nI r)), (2, zi (nI l)), (3, zi (nI a)), (4, zi (nI b)), (5, zi 0), (6, zi (nI a))]) [4, 5, 6, 3, 2, 1, 0] rfl ?_
  refine zx_while (τ := Nat × List Int32 × zM) (fun t_ => b - t_.1) (fun t_ => rRun (pFact (rS 1 μ) l) (μ 1) t_.1 (b - t_.1) t_.2.1 = some o ∧ (a ≤ t_.1 ∧ t_.1 ≤ b) ∧ t_.2.1.length ≤ t_.1 - a ∧ stRep (t_.2.2 6) t_.2.1 ∧ zJ [6] μ t_.2.2) (fun t_ => [(0, zr 0), (1, zi (nI r)), (2, zi (nI l)), (3, zi (nI a)), (4, zi (nI b)), (5, zi (nI t_.2.1.length)), (6, zi (nI t_.1))]) (fun t_ => t_.2.2) (t0 := (a, [], μ)) (show rRun (pFact (rS 1 μ) l) (μ 1) a (b - a) ([]) = some o ∧ (a ≤ a ∧ a ≤ b) ∧ ([]).length ≤ a - a ∧ stRep (μ 6) ([]) ∧ zJ [6] μ μ from ⟨ho, ⟨Nat.le_refl _, hab⟩, Nat.zero_le _, trivial, zJ.rf⟩) ?_
  rintro ⟨k, st, μ1⟩ hI ih35
  replace hI : rRun (pFact (rS 1 μ) l) (μ 1) k (b - k) st = some o ∧ (a ≤ k ∧ k ≤ b) ∧ st.length ≤ k - a ∧ stRep (μ1 6) st ∧ zJ [6] μ μ1 := hI
  show zX shR σ 3 MX11_holds 35 [(0, zr 0), (1, zi (nI r)), (2, zi (nI l)), (3, zi (nI a)), (4, zi (nI b)), (5, zi (nI st.length)), (6, zi (nI k))] [] μ1 _
  obtain ⟨hr1, ⟨hr2, hr2b⟩, hr3, hr4, hr5⟩ := hI
  have e1 : μ1 1 = μ 1 := hr5 1 (by decide)
  have es1 : rS 1 μ1 = rS 1 μ := rS_eq e1
  have ok1 : pOK (rS 1 μ1) := by rw [es1]; exact ok
  refine zx_iload (k := 6) (nn := 37) dX11_holds_35 rfl rfl ?_
  refine zx_iload (k := 4) (nn := 39) dX11_holds_37 rfl rfl ?_
  refine zx_icmp_ge (tgt := 192) (nn := 42) dX11_holds_39 (by decide) rfl (fun h39 => ?_) (fun h39 => ?_)
  · refine zx_iload_n (k := 3) (nn := 193) dX11_holds_192 rfl rfl rfl ?_
    refine zx_iload (k := 4) (nn := 195) dX11_holds_193 rfl rfl ?_
    refine zx_icmp_eq (tgt := 207) (nn := 198) dX11_holds_195 (by decide) rfl (fun h195 => ?_) (fun h195 => ?_)
    · refine zx_iconst (v := 1) (nn := 208) rfl dX11_holds_207 rfl ?_
      refine zx_goto (tgt := 212) dX11_holds_208 (by decide) ?_
      refine zx_zret rfl rfl dX11_holds_212 ?_
      have hge := nI_le_le h39 (by omega)
      rw [show b - k = 0 by omega] at hr1
      have hst := Option.some.inj hr1
      refine ⟨congrArg (fun x => some (zi x)) ?_, hr5⟩
      rw [(hF (pFact (rS 1 μ) l)).1 ((nI_eq (by omega) (by omega)).mp h195)]
      rfl
    · refine zx_aload_n (k := 0) (nn := 199) dX11_holds_198 rfl rfl rfl ?_
      refine zx_getR (q := 6) (nn := 202) flX11_25 rfl rfl dX11_holds_199 rfl ?_
      refine zx_iconst (v := 0) (nn := 203) rfl dX11_holds_202 rfl ?_
      refine zx_iald_n (j := 0) (nn := 204) rfl (by omega) (by decide) dX11_holds_203 rfl ?_
      refine zx_if_eq (tgt := 211) (nn := 207) dX11_holds_204 (by decide) rfl (fun h204 => ?_) (fun h204 => ?_)
      · refine zx_iconst (v := 0) (nn := 212) rfl dX11_holds_211 rfl ?_
        refine zx_zret rfl rfl dX11_holds_212 ?_
        have hge := nI_le_le h39 (by omega)
        rw [show b - k = 0 by omega] at hr1
        have hst := Option.some.inj hr1
        obtain ⟨v, hv1, hv2⟩ := (hF (pFact (rS 1 μ) l)).2 (fun q => h195 (by rw [q]))
        rw [ho] at hv1
        have hov := Option.some.inj hv1
        rw [hst, hov] at hr4
        refine ⟨congrArg (fun x => some (zi x)) ?_, hr5⟩
        rw [hv2, ← show μ1 6 0 = v from hr4.1]
        simp [zb, h204]
      · refine zx_iconst (v := 1) (nn := 208) rfl dX11_holds_207 rfl ?_
        refine zx_goto (tgt := 212) dX11_holds_208 (by decide) ?_
        refine zx_zret rfl rfl dX11_holds_212 ?_
        have hge := nI_le_le h39 (by omega)
        rw [show b - k = 0 by omega] at hr1
        have hst := Option.some.inj hr1
        obtain ⟨v, hv1, hv2⟩ := (hF (pFact (rS 1 μ) l)).2 (fun q => h195 (by rw [q]))
        rw [ho] at hv1
        have hov := Option.some.inj hv1
        rw [hst, hov] at hr4
        refine ⟨congrArg (fun x => some (zi x)) ?_, hr5⟩
        rw [hv2, ← show μ1 6 0 = v from hr4.1]
        simp [zb, h204]
  · have hlt : k < b := nI_nle_lt h39 (by omega)
    refine zx_aload_n (k := 0) (nn := 43) dX11_holds_42 rfl rfl rfl ?_
    refine zx_getR (q := 1) (nn := 46) flX11_9 rfl rfl dX11_holds_43 rfl ?_
    refine zx_bipush (v := 111) (nn := 48) rfl dX11_holds_46 rfl ?_
    refine zx_iconst (v := 2) (nn := 49) rfl dX11_holds_48 rfl ?_
    refine zx_iload (k := 6) (nn := 51) dX11_holds_49 rfl rfl ?_
    refine zx_imul (nn := 52) dX11_holds_51 rfl ?_
    refine zx_iadd (nn := 53) dX11_holds_52 rfl ?_
    rw [show 111 + (2 * (nI k)) = nI (111 + 2 * k) from by simp only [show (2 : Int32) = nI 2 from rfl, show (3 : Int32) = nI 3 from rfl, show (1 : Int32) = nI 1 from rfl, show (4 : Int32) = nI 4 from rfl, show (5 : Int32) = nI 5 from rfl, show (7 : Int32) = nI 7 from rfl, show (31 : Int32) = nI 31 from rfl, show (47 : Int32) = nI 47 from rfl, show (71 : Int32) = nI 71 from rfl, show (111 : Int32) = nI 111 from rfl, nI_mulN, nI_add]]
    show zX shR σ 3 MX11_holds 53 [(0, zr 0), (1, zi (nI r)), (2, zi (nI l)), (3, zi (nI a)), (4, zi (nI b)), (5, zi (nI st.length)), (6, zi (nI k))] [zi (nI (111 + 2 * k)), zr 1] μ1 _
    refine zx_iald_n (j := 111 + 2 * k) (nn := 54) rfl (by omega) (by decide) dX11_holds_53 rfl ?_
    rw [show μ1 1 (111 + 2 * k) = μ 1 (111 + 2 * k) from by rw [e1]]
    show zX shR σ 3 MX11_holds 54 [(0, zr 0), (1, zi (nI r)), (2, zi (nI l)), (3, zi (nI a)), (4, zi (nI b)), (5, zi (nI st.length)), (6, zi (nI k))] [zi (μ 1 (111 + 2 * k))] μ1 _
    refine zx_istore (nn := 56) (lv' := [(7, zi (μ 1 (111 + 2 * k))), (0, zr 0), (1, zi (nI r)), (2, zi (nI l)), (3, zi (nI a)), (4, zi (nI b)), (5, zi (nI st.length)), (6, zi (nI k))]) dX11_holds_54 (by decide) rfl rfl ?_
    refine zx_aload_n (k := 1) (nn := 57) dX11_holds_56 rfl rfl rfl ?_
    refine zx_getR (q := 1) (nn := 60) flX11_9 rfl rfl dX11_holds_57 rfl ?_
    refine zx_bipush (v := 111) (nn := 62) rfl dX11_holds_60 rfl ?_
    refine zx_iconst (v := 2) (nn := 63) rfl dX11_holds_62 rfl ?_
    refine zx_iload (k := 7) (nn := 65) dX11_holds_63 rfl rfl ?_
    refine zx_imul (nn := 66) dX11_holds_65 rfl ?_
    refine zx_iadd (nn := 67) dX11_holds_66 rfl ?_
    refine zx_iconst (v := 1) (nn := 68) rfl dX11_holds_67 rfl ?_
    refine zx_iadd (nn := 69) dX11_holds_68 rfl ?_
    rw [show (111 + (2 * (nI k))) + 1 = nI (111 + 2 * k + 1) from by simp only [show (2 : Int32) = nI 2 from rfl, show (3 : Int32) = nI 3 from rfl, show (1 : Int32) = nI 1 from rfl, show (4 : Int32) = nI 4 from rfl, show (5 : Int32) = nI 5 from rfl, show (7 : Int32) = nI 7 from rfl, show (31 : Int32) = nI 31 from rfl, show (47 : Int32) = nI 47 from rfl, show (71 : Int32) = nI 71 from rfl, show (111 : Int32) = nI 111 from rfl, nI_mulN, nI_add]]
    show zX shR σ 3 MX11_holds 69 [(7, zi (μ 1 (111 + 2 * k))), (0, zr 0), (1, zi (nI r)), (2, zi (nI l)), (3, zi (nI a)), (4, zi (nI b)), (5, zi (nI st.length)), (6, zi (nI k))] [zi (nI (111 + 2 * k + 1)), zr 1] μ1 _
    refine zx_iald_n (j := 111 + 2 * k + 1) (nn := 70) rfl (by omega) (by decide) dX11_holds_69 rfl ?_
    rw [show μ1 1 (111 + 2 * k + 1) = μ 1 (111 + 2 * k + 1) from by rw [e1]]
    show zX shR σ 3 MX11_holds 70 [(7, zi (μ 1 (111 + 2 * k))), (0, zr 0), (1, zi (nI r)), (2, zi (nI l)), (3, zi (nI a)), (4, zi (nI b)), (5, zi (nI st.length)), (6, zi (nI k))] [zi (μ 1 (111 + 2 * k + 1))] μ1 _
    obtain ⟨t, ht1, ht2⟩ := rRun_s hlt hr1
    refine zx_istore (nn := 72) (lv' := [(8, zi (μ 1 (111 + 2 * k + 1))), (7, zi (μ 1 (111 + 2 * k))), (0, zr 0), (1, zi (nI r)), (2, zi (nI l)), (3, zi (nI a)), (4, zi (nI b)), (5, zi (nI st.length)), (6, zi (nI k))]) dX11_holds_70 (by decide) rfl rfl ?_
    rcases rStep_c ht1 with ⟨hw, rfl⟩ | ⟨⟨hw, hv⟩, rfl⟩ | ⟨x, r1, hw, rfl, rfl⟩ | ⟨y, x, r1, hw, rfl, rfl⟩ | ⟨y, x, r1, hw, rfl, rfl⟩ | ⟨y, x, r1, hw, rfl, rfl⟩
    · rw [hw]
      show zX shR σ 3 MX11_holds 72 [(8, zi (μ 1 (111 + 2 * k + 1))), (7, zi 0), (0, zr 0), (1, zi (nI r)), (2, zi (nI l)), (3, zi (nI a)), (4, zi (nI b)), (5, zi (nI st.length)), (6, zi (nI k))] [] μ1 _
      refine zx_iload (k := 1) (nn := 74) dX11_holds_72 rfl rfl ?_
      refine zx_iconst (v := 2) (nn := 75) rfl dX11_holds_74 rfl ?_
      refine zx_icmp_ge (tgt := 108) (nn := 78) dX11_holds_75 (by decide) rfl (fun h75 => ?_) (fun h75 => ?_)
      · exact absurd h75 (by decide)
      · refine zx_aload_n (k := 2) (nn := 79) dX11_holds_78 rfl rfl rfl ?_
        refine zx_getR (q := 6) (nn := 82) flX11_25 rfl rfl dX11_holds_79 rfl ?_
        refine zx_iload (k := 7) (nn := 84) dX11_holds_82 rfl rfl ?_
        refine zx_iload (k := 1) (nn := 86) dX11_holds_84 rfl rfl ?_
        refine zx_if_ne (tgt := 94) (nn := 89) dX11_holds_86 (by decide) rfl (fun h86 => ?_) (fun h86 => ?_)
        · exact absurd h86 (by decide)
        · refine zx_iload (k := 0) (nn := 91) dX11_holds_89 rfl rfl ?_
          refine zx_goto (tgt := 101) dX11_holds_91 (by decide) ?_
          refine zx_iast_n (j := st.length) (nn := 102) rfl (by omega) (by decide) dX11_holds_101 rfl ?_
          refine zx_iinc (k := 7) (v := nI (st.length + 1)) (lv' := [(5, zi (nI (st.length + 1))), (8, zi (μ 1 (111 + 2 * k + 1))), (7, zi 0), (0, zr 0), (1, zi (nI r)), (2, zi (nI l)), (3, zi (nI a)), (4, zi (nI b)), (6, zi (nI k))]) (nn := 105) dX11_holds_102 rfl (nI_1 st.length) (by decide) rfl rfl ?_
          refine zx_goto (tgt := 186) dX11_holds_105 (by decide) ?_
          refine zx_iinc (k := 8) (v := nI (k + 1)) (lv' := [(6, zi (nI (k + 1))), (5, zi (nI (st.length + 1))), (8, zi (μ 1 (111 + 2 * k + 1))), (7, zi 0), (0, zr 0), (1, zi (nI r)), (2, zi (nI l)), (3, zi (nI a)), (4, zi (nI b))]) (nn := 189) dX11_holds_186 rfl (nI_1 k) (by decide) rfl rfl ?_
          refine zx_goto (tgt := 35) dX11_holds_189 (by decide) ?_
          refine zx_lv (lv' := [(0, zr 0), (1, zi (nI r)), (2, zi (nI l)), (3, zi (nI a)), (4, zi (nI b)), (5, zi (nI (st.length + 1))), (6, zi (nI (k + 1)))]) [4, 5, 6, 7, 8, 1, 0] rfl ?_
          exact ih35 (k + 1, ((μ 1 (111 + 2 * k + 1)) :: st), zp μ1 6 st.length (μ 1 (111 + 2 * k + 1))) (show rRun (pFact (rS 1 μ) l) (μ 1) (k + 1) (b - (k + 1)) ((μ 1 (111 + 2 * k + 1)) :: st) = some o ∧ (a ≤ (k + 1) ∧ (k + 1) ≤ b) ∧ ((μ 1 (111 + 2 * k + 1)) :: st).length ≤ (k + 1) - a ∧ stRep ((zp μ1 6 st.length (μ 1 (111 + 2 * k + 1))) 6) ((μ 1 (111 + 2 * k + 1)) :: st) ∧ zJ [6] μ (zp μ1 6 st.length (μ 1 (111 + 2 * k + 1))) from ⟨ht2, ⟨by omega, by omega⟩, by simp; omega, ⟨by rw [zp_eq]; exact pk_us, by rw [zp_eq]; exact stRep_upd (Nat.le_refl _) hr4⟩, hr5.p (by decide)⟩) (by show b - (k + 1) < b - k; omega)
    · rw [hw]
      show zX shR σ 3 MX11_holds 72 [(8, zi (μ 1 (111 + 2 * k + 1))), (7, zi 1), (0, zr 0), (1, zi (nI r)), (2, zi (nI l)), (3, zi (nI a)), (4, zi (nI b)), (5, zi (nI st.length)), (6, zi (nI k))] [] μ1 _
      refine zx_iload (k := 1) (nn := 74) dX11_holds_72 rfl rfl ?_
      refine zx_iconst (v := 2) (nn := 75) rfl dX11_holds_74 rfl ?_
      refine zx_icmp_ge (tgt := 108) (nn := 78) dX11_holds_75 (by decide) rfl (fun h75 => ?_) (fun h75 => ?_)
      · exact absurd h75 (by decide)
      · refine zx_aload_n (k := 2) (nn := 79) dX11_holds_78 rfl rfl rfl ?_
        refine zx_getR (q := 6) (nn := 82) flX11_25 rfl rfl dX11_holds_79 rfl ?_
        refine zx_iload (k := 7) (nn := 84) dX11_holds_82 rfl rfl ?_
        refine zx_iload (k := 1) (nn := 86) dX11_holds_84 rfl rfl ?_
        refine zx_if_ne (tgt := 94) (nn := 89) dX11_holds_86 (by decide) rfl (fun h86 => ?_) (fun h86 => ?_)
        · refine zx_aload_n (k := 2) (nn := 95) dX11_holds_94 rfl rfl rfl ?_
          refine zx_iload (k := 0) (nn := 97) dX11_holds_95 rfl rfl ?_
          refine zx_iload_n (k := 4) (nn := 98) dX11_holds_97 rfl rfl rfl ?_
          refine zx_callVf (nn := 101) (k := 0) (d' := 2) (as := [zi (μ 1 (111 + 2 * k + 1)), zi (nI l)]) (rest := [zi (nI st.length), zr 6]) (n := 2) (eX11_fact_0 σ μ1 (μ 1 (111 + 2 * k + 1)) l  ok1 hl hv) kX11_fact mlX11_146 rfl rfl rfl (by decide) rfl rfl (Nat.le_of_ble_eq_true rfl) dX11_holds_98 rfl ?_
          show zX shR σ 3 MX11_holds 101 [(8, zi (μ 1 (111 + 2 * k + 1))), (7, zi 1), (0, zr 0), (1, zi (nI r)), (2, zi (nI l)), (3, zi (nI a)), (4, zi (nI b)), (5, zi (nI st.length)), (6, zi (nI k))] [zi (pFact (rS 1 μ1) l (μ 1 (111 + 2 * k + 1)).toNatClampNeg), zi (nI st.length), zr 6] μ1 _
          rw [show pFact (rS 1 μ1) l (μ 1 (111 + 2 * k + 1)).toNatClampNeg = (pFact (rS 1 μ) l) (μ 1 (111 + 2 * k + 1)).toNatClampNeg from by rw [es1]]
          show zX shR σ 3 MX11_holds 101 [(8, zi (μ 1 (111 + 2 * k + 1))), (7, zi 1), (0, zr 0), (1, zi (nI r)), (2, zi (nI l)), (3, zi (nI a)), (4, zi (nI b)), (5, zi (nI st.length)), (6, zi (nI k))] [zi ((pFact (rS 1 μ) l) (μ 1 (111 + 2 * k + 1)).toNatClampNeg), zi (nI st.length), zr 6] μ1 _
          refine zx_iast_n (j := st.length) (nn := 102) rfl (by omega) (by decide) dX11_holds_101 rfl ?_
          refine zx_iinc (k := 7) (v := nI (st.length + 1)) (lv' := [(5, zi (nI (st.length + 1))), (8, zi (μ 1 (111 + 2 * k + 1))), (7, zi 1), (0, zr 0), (1, zi (nI r)), (2, zi (nI l)), (3, zi (nI a)), (4, zi (nI b)), (6, zi (nI k))]) (nn := 105) dX11_holds_102 rfl (nI_1 st.length) (by decide) rfl rfl ?_
          refine zx_goto (tgt := 186) dX11_holds_105 (by decide) ?_
          refine zx_iinc (k := 8) (v := nI (k + 1)) (lv' := [(6, zi (nI (k + 1))), (5, zi (nI (st.length + 1))), (8, zi (μ 1 (111 + 2 * k + 1))), (7, zi 1), (0, zr 0), (1, zi (nI r)), (2, zi (nI l)), (3, zi (nI a)), (4, zi (nI b))]) (nn := 189) dX11_holds_186 rfl (nI_1 k) (by decide) rfl rfl ?_
          refine zx_goto (tgt := 35) dX11_holds_189 (by decide) ?_
          refine zx_lv (lv' := [(0, zr 0), (1, zi (nI r)), (2, zi (nI l)), (3, zi (nI a)), (4, zi (nI b)), (5, zi (nI (st.length + 1))), (6, zi (nI (k + 1)))]) [4, 5, 6, 7, 8, 1, 0] rfl ?_
          exact ih35 (k + 1, ((pFact (rS 1 μ) l) (μ 1 (111 + 2 * k + 1)).toNatClampNeg :: st), zp μ1 6 st.length ((pFact (rS 1 μ) l) (μ 1 (111 + 2 * k + 1)).toNatClampNeg)) (show rRun (pFact (rS 1 μ) l) (μ 1) (k + 1) (b - (k + 1)) ((pFact (rS 1 μ) l) (μ 1 (111 + 2 * k + 1)).toNatClampNeg :: st) = some o ∧ (a ≤ (k + 1) ∧ (k + 1) ≤ b) ∧ ((pFact (rS 1 μ) l) (μ 1 (111 + 2 * k + 1)).toNatClampNeg :: st).length ≤ (k + 1) - a ∧ stRep ((zp μ1 6 st.length ((pFact (rS 1 μ) l) (μ 1 (111 + 2 * k + 1)).toNatClampNeg)) 6) ((pFact (rS 1 μ) l) (μ 1 (111 + 2 * k + 1)).toNatClampNeg :: st) ∧ zJ [6] μ (zp μ1 6 st.length ((pFact (rS 1 μ) l) (μ 1 (111 + 2 * k + 1)).toNatClampNeg)) from ⟨ht2, ⟨by omega, by omega⟩, by simp; omega, ⟨by rw [zp_eq]; exact pk_us, by rw [zp_eq]; exact stRep_upd (Nat.le_refl _) hr4⟩, hr5.p (by decide)⟩) (by show b - (k + 1) < b - k; omega)
        · exact absurd h86 (by decide)
    · rw [hw]
      show zX shR σ 3 MX11_holds 72 [(8, zi (μ 1 (111 + 2 * k + 1))), (7, zi 3), (0, zr 0), (1, zi (nI r)), (2, zi (nI l)), (3, zi (nI a)), (4, zi (nI b)), (5, zi (nI (r1.length + 1))), (6, zi (nI k))] [] μ1 _
      refine zx_iload (k := 1) (nn := 74) dX11_holds_72 rfl rfl ?_
      refine zx_iconst (v := 2) (nn := 75) rfl dX11_holds_74 rfl ?_
      refine zx_icmp_ge (tgt := 108) (nn := 78) dX11_holds_75 (by decide) rfl (fun h75 => ?_) (fun h75 => ?_)
      · refine zx_iload (k := 1) (nn := 110) dX11_holds_108 rfl rfl ?_
        refine zx_iconst (v := 3) (nn := 111) rfl dX11_holds_110 rfl ?_
        refine zx_icmp_ne (tgt := 143) (nn := 114) dX11_holds_111 (by decide) rfl (fun h111 => ?_) (fun h111 => ?_)
        · exact absurd h111 (by decide)
        · refine zx_aload_n (k := 2) (nn := 115) dX11_holds_114 rfl rfl rfl ?_
          refine zx_getR (q := 6) (nn := 118) flX11_25 rfl rfl dX11_holds_115 rfl ?_
          refine zx_iload (k := 7) (nn := 120) dX11_holds_118 rfl rfl ?_
          refine zx_iconst (v := 1) (nn := 121) rfl dX11_holds_120 rfl ?_
          refine zx_isub (nn := 122) dX11_holds_121 rfl ?_
          rw [show (nI (r1.length + 1)) - 1 = nI r1.length from nI_pred _]
          show zX shR σ 3 MX11_holds 122 [(8, zi (μ 1 (111 + 2 * k + 1))), (7, zi 3), (0, zr 0), (1, zi (nI r)), (2, zi (nI l)), (3, zi (nI a)), (4, zi (nI b)), (5, zi (nI (r1.length + 1))), (6, zi (nI k))] [zi (nI r1.length), zr 6] μ1 _
          refine zx_aload_n (k := 2) (nn := 123) dX11_holds_122 rfl rfl rfl ?_
          refine zx_getR (q := 6) (nn := 126) flX11_25 rfl rfl dX11_holds_123 rfl ?_
          refine zx_iload (k := 7) (nn := 128) dX11_holds_126 rfl rfl ?_
          refine zx_iconst (v := 1) (nn := 129) rfl dX11_holds_128 rfl ?_
          refine zx_isub (nn := 130) dX11_holds_129 rfl ?_
          rw [show (nI (r1.length + 1)) - 1 = nI r1.length from nI_pred _]
          show zX shR σ 3 MX11_holds 130 [(8, zi (μ 1 (111 + 2 * k + 1))), (7, zi 3), (0, zr 0), (1, zi (nI r)), (2, zi (nI l)), (3, zi (nI a)), (4, zi (nI b)), (5, zi (nI (r1.length + 1))), (6, zi (nI k))] [zi (nI r1.length), zr 6, zi (nI r1.length), zr 6] μ1 _
          refine zx_iald_n (j := r1.length) (nn := 131) rfl (by simp at hr3; omega) (by decide) dX11_holds_130 rfl ?_
          refine zx_if_ne (tgt := 138) (nn := 134) dX11_holds_131 (by decide) rfl (fun h131 => ?_) (fun h131 => ?_)
          · refine zx_iconst (v := 0) (nn := 139) rfl dX11_holds_138 rfl ?_
            refine zx_iast_n (j := r1.length) (nn := 140) rfl (by simp at hr3; omega) (by decide) dX11_holds_139 rfl ?_
            refine zx_goto (tgt := 186) dX11_holds_140 (by decide) ?_
            refine zx_iinc (k := 8) (v := nI (k + 1)) (lv' := [(6, zi (nI (k + 1))), (8, zi (μ 1 (111 + 2 * k + 1))), (7, zi 3), (0, zr 0), (1, zi (nI r)), (2, zi (nI l)), (3, zi (nI a)), (4, zi (nI b)), (5, zi (nI (r1.length + 1)))]) (nn := 189) dX11_holds_186 rfl (nI_1 k) (by decide) rfl rfl ?_
            refine zx_goto (tgt := 35) dX11_holds_189 (by decide) ?_
            refine zx_lv (lv' := [(0, zr 0), (1, zi (nI r)), (2, zi (nI l)), (3, zi (nI a)), (4, zi (nI b)), (5, zi (nI (r1.length + 1))), (6, zi (nI (k + 1)))]) [3, 4, 5, 6, 7, 8, 0] rfl ?_
            exact ih35 (k + 1, (zb (decide (x = 0)) :: r1), zp μ1 6 r1.length 0) (show rRun (pFact (rS 1 μ) l) (μ 1) (k + 1) (b - (k + 1)) (zb (decide (x = 0)) :: r1) = some o ∧ (a ≤ (k + 1) ∧ (k + 1) ≤ b) ∧ (zb (decide (x = 0)) :: r1).length ≤ (k + 1) - a ∧ stRep ((zp μ1 6 r1.length 0) 6) (zb (decide (x = 0)) :: r1) ∧ zJ [6] μ (zp μ1 6 r1.length 0) from ⟨ht2, ⟨by omega, by omega⟩, by simp at hr3 ⊢; omega, ⟨by rw [zp_eq]; exact pk_us.trans (by rw [show x = μ1 6 r1.length from hr4.1.symm]; simp [zb, h131]), by rw [zp_eq]; exact stRep_upd (Nat.le_refl _) hr4.2⟩, hr5.p (by decide)⟩) (by show b - (k + 1) < b - k; omega)
          · refine zx_iconst (v := 1) (nn := 135) rfl dX11_holds_134 rfl ?_
            refine zx_goto (tgt := 139) dX11_holds_135 (by decide) ?_
            refine zx_iast_n (j := r1.length) (nn := 140) rfl (by simp at hr3; omega) (by decide) dX11_holds_139 rfl ?_
            refine zx_goto (tgt := 186) dX11_holds_140 (by decide) ?_
            refine zx_iinc (k := 8) (v := nI (k + 1)) (lv' := [(6, zi (nI (k + 1))), (8, zi (μ 1 (111 + 2 * k + 1))), (7, zi 3), (0, zr 0), (1, zi (nI r)), (2, zi (nI l)), (3, zi (nI a)), (4, zi (nI b)), (5, zi (nI (r1.length + 1)))]) (nn := 189) dX11_holds_186 rfl (nI_1 k) (by decide) rfl rfl ?_
            refine zx_goto (tgt := 35) dX11_holds_189 (by decide) ?_
            refine zx_lv (lv' := [(0, zr 0), (1, zi (nI r)), (2, zi (nI l)), (3, zi (nI a)), (4, zi (nI b)), (5, zi (nI (r1.length + 1))), (6, zi (nI (k + 1)))]) [3, 4, 5, 6, 7, 8, 0] rfl ?_
            exact ih35 (k + 1, (zb (decide (x = 0)) :: r1), zp μ1 6 r1.length 1) (show rRun (pFact (rS 1 μ) l) (μ 1) (k + 1) (b - (k + 1)) (zb (decide (x = 0)) :: r1) = some o ∧ (a ≤ (k + 1) ∧ (k + 1) ≤ b) ∧ (zb (decide (x = 0)) :: r1).length ≤ (k + 1) - a ∧ stRep ((zp μ1 6 r1.length 1) 6) (zb (decide (x = 0)) :: r1) ∧ zJ [6] μ (zp μ1 6 r1.length 1) from ⟨ht2, ⟨by omega, by omega⟩, by simp at hr3 ⊢; omega, ⟨by rw [zp_eq]; exact pk_us.trans (by rw [show x = μ1 6 r1.length from hr4.1.symm]; simp [zb, h131]), by rw [zp_eq]; exact stRep_upd (Nat.le_refl _) hr4.2⟩, hr5.p (by decide)⟩) (by show b - (k + 1) < b - k; omega)
      · exact absurd h75 (by decide)
    · rw [hw]
      show zX shR σ 3 MX11_holds 72 [(8, zi (μ 1 (111 + 2 * k + 1))), (7, zi 2), (0, zr 0), (1, zi (nI r)), (2, zi (nI l)), (3, zi (nI a)), (4, zi (nI b)), (5, zi (nI (r1.length + 2))), (6, zi (nI k))] [] μ1 _
      refine zx_iload (k := 1) (nn := 74) dX11_holds_72 rfl rfl ?_
      refine zx_iconst (v := 2) (nn := 75) rfl dX11_holds_74 rfl ?_
      refine zx_icmp_ge (tgt := 108) (nn := 78) dX11_holds_75 (by decide) rfl (fun h75 => ?_) (fun h75 => ?_)
      · refine zx_iload (k := 1) (nn := 110) dX11_holds_108 rfl rfl ?_
        refine zx_iconst (v := 3) (nn := 111) rfl dX11_holds_110 rfl ?_
        refine zx_icmp_ne (tgt := 143) (nn := 114) dX11_holds_111 (by decide) rfl (fun h111 => ?_) (fun h111 => ?_)
        · refine zx_iinc (k := 7) (v := (nI (r1.length + 2)) + (-1)) (lv' := [(5, zi ((nI (r1.length + 2)) + (-1))), (8, zi (μ 1 (111 + 2 * k + 1))), (7, zi 2), (0, zr 0), (1, zi (nI r)), (2, zi (nI l)), (3, zi (nI a)), (4, zi (nI b)), (6, zi (nI k))]) (nn := 146) dX11_holds_143 rfl rfl (by decide) rfl rfl ?_
          rw [show nI (r1.length + 2) + (-1) = nI (r1.length + 1) from nI_dec _]
          show zX shR σ 3 MX11_holds 146 [(5, zi (nI (r1.length + 1))), (8, zi (μ 1 (111 + 2 * k + 1))), (7, zi 2), (0, zr 0), (1, zi (nI r)), (2, zi (nI l)), (3, zi (nI a)), (4, zi (nI b)), (6, zi (nI k))] [] μ1 _
          refine zx_aload_n (k := 3) (nn := 147) dX11_holds_146 rfl rfl rfl ?_
          refine zx_getR (q := 6) (nn := 150) flX11_25 rfl rfl dX11_holds_147 rfl ?_
          refine zx_iload (k := 0) (nn := 152) dX11_holds_150 rfl rfl ?_
          refine zx_iconst (v := 1) (nn := 153) rfl dX11_holds_152 rfl ?_
          refine zx_isub (nn := 154) dX11_holds_153 rfl ?_
          rw [show (nI (r1.length + 1)) - 1 = nI r1.length from nI_pred _]
          show zX shR σ 3 MX11_holds 154 [(5, zi (nI (r1.length + 1))), (8, zi (μ 1 (111 + 2 * k + 1))), (7, zi 2), (0, zr 0), (1, zi (nI r)), (2, zi (nI l)), (3, zi (nI a)), (4, zi (nI b)), (6, zi (nI k))] [zi (nI r1.length), zr 6] μ1 _
          refine zx_iload (k := 2) (nn := 156) dX11_holds_154 rfl rfl ?_
          refine zx_iload (k := 1) (nn := 158) dX11_holds_156 rfl rfl ?_
          refine zx_aload_n (k := 3) (nn := 159) dX11_holds_158 rfl rfl rfl ?_
          refine zx_getR (q := 6) (nn := 162) flX11_25 rfl rfl dX11_holds_159 rfl ?_
          refine zx_iload (k := 0) (nn := 164) dX11_holds_162 rfl rfl ?_
          refine zx_iconst (v := 1) (nn := 165) rfl dX11_holds_164 rfl ?_
          refine zx_isub (nn := 166) dX11_holds_165 rfl ?_
          rw [show (nI (r1.length + 1)) - 1 = nI r1.length from nI_pred _]
          show zX shR σ 3 MX11_holds 166 [(5, zi (nI (r1.length + 1))), (8, zi (μ 1 (111 + 2 * k + 1))), (7, zi 2), (0, zr 0), (1, zi (nI r)), (2, zi (nI l)), (3, zi (nI a)), (4, zi (nI b)), (6, zi (nI k))] [zi (nI r1.length), zr 6, zi (μ 1 (111 + 2 * k + 1)), zi 2, zi (nI r1.length), zr 6] μ1 _
          refine zx_iald_n (j := r1.length) (nn := 167) rfl (by simp at hr3; omega) (by decide) dX11_holds_166 rfl ?_
          rw [show μ1 6 r1.length = x from hr4.2.1]
          show zX shR σ 3 MX11_holds 167 [(5, zi (nI (r1.length + 1))), (8, zi (μ 1 (111 + 2 * k + 1))), (7, zi 2), (0, zr 0), (1, zi (nI r)), (2, zi (nI l)), (3, zi (nI a)), (4, zi (nI b)), (6, zi (nI k))] [zi x, zi (μ 1 (111 + 2 * k + 1)), zi 2, zi (nI r1.length), zr 6] μ1 _
          refine zx_aload_n (k := 3) (nn := 168) dX11_holds_167 rfl rfl rfl ?_
          refine zx_getR (q := 6) (nn := 171) flX11_25 rfl rfl dX11_holds_168 rfl ?_
          refine zx_iload (k := 0) (nn := 173) dX11_holds_171 rfl rfl ?_
          refine zx_iald_n (j := r1.length + 1) (nn := 174) rfl (by simp at hr3; omega) (by decide) dX11_holds_173 rfl ?_
          rw [show μ1 6 (r1.length + 1) = y from hr4.1]
          show zX shR σ 3 MX11_holds 174 [(5, zi (nI (r1.length + 1))), (8, zi (μ 1 (111 + 2 * k + 1))), (7, zi 2), (0, zr 0), (1, zi (nI r)), (2, zi (nI l)), (3, zi (nI a)), (4, zi (nI b)), (6, zi (nI k))] [zi y, zi x, zi (μ 1 (111 + 2 * k + 1)), zi 2, zi (nI r1.length), zr 6] μ1 _
          refine zx_callSf (nn := 177) (d' := 0) (as := [zi 2, zi (μ 1 (111 + 2 * k + 1)), zi x, zi y]) (rest := [zi (nI r1.length), zr 6]) (n := 4) (eX11_joined σ μ1 2 (μ 1 (111 + 2 * k + 1)) x y  ) kX11_joined mlX11_149 (by decide) rfl rfl (Nat.le_of_ble_eq_true rfl) dX11_holds_174 rfl ?_
          show zX shR σ 3 MX11_holds 177 [(5, zi (nI (r1.length + 1))), (8, zi (μ 1 (111 + 2 * k + 1))), (7, zi 2), (0, zr 0), (1, zi (nI r)), (2, zi (nI l)), (3, zi (nI a)), (4, zi (nI b)), (6, zi (nI k))] [zi (zb (gJoin 2 (μ 1 (111 + 2 * k + 1)) x y)), zi (nI r1.length), zr 6] μ1 _
          refine zx_ifb_eq (tgt := 184) (nn := 180) dX11_holds_177 (by decide) rfl (fun h177 => ?_) (fun h177 => ?_)
          · refine zx_iconst (v := 0) (nn := 185) rfl dX11_holds_184 rfl ?_
            refine zx_iast_n (j := r1.length) (nn := 186) rfl (by simp at hr3; omega) (by decide) dX11_holds_185 rfl ?_
            refine zx_iinc (k := 8) (v := nI (k + 1)) (lv' := [(6, zi (nI (k + 1))), (5, zi (nI (r1.length + 1))), (8, zi (μ 1 (111 + 2 * k + 1))), (7, zi 2), (0, zr 0), (1, zi (nI r)), (2, zi (nI l)), (3, zi (nI a)), (4, zi (nI b))]) (nn := 189) dX11_holds_186 rfl (nI_1 k) (by decide) rfl rfl ?_
            refine zx_goto (tgt := 35) dX11_holds_189 (by decide) ?_
            refine zx_lv (lv' := [(0, zr 0), (1, zi (nI r)), (2, zi (nI l)), (3, zi (nI a)), (4, zi (nI b)), (5, zi (nI (r1.length + 1))), (6, zi (nI (k + 1)))]) [4, 5, 6, 7, 8, 1, 0] rfl ?_
            exact ih35 (k + 1, (zb (gJoin 2 (μ 1 (111 + 2 * k + 1)) x y) :: r1), zp μ1 6 r1.length 0) (show rRun (pFact (rS 1 μ) l) (μ 1) (k + 1) (b - (k + 1)) (zb (gJoin 2 (μ 1 (111 + 2 * k + 1)) x y) :: r1) = some o ∧ (a ≤ (k + 1) ∧ (k + 1) ≤ b) ∧ (zb (gJoin 2 (μ 1 (111 + 2 * k + 1)) x y) :: r1).length ≤ (k + 1) - a ∧ stRep ((zp μ1 6 r1.length 0) 6) (zb (gJoin 2 (μ 1 (111 + 2 * k + 1)) x y) :: r1) ∧ zJ [6] μ (zp μ1 6 r1.length 0) from ⟨ht2, ⟨by omega, by omega⟩, by simp at hr3 ⊢; omega, ⟨by rw [zp_eq]; exact pk_us.trans (by rw [h177]; rfl), by rw [zp_eq]; exact stRep_upd (Nat.le_refl _) hr4.2.2⟩, hr5.p (by decide)⟩) (by show b - (k + 1) < b - k; omega)
          · refine zx_iconst (v := 1) (nn := 181) rfl dX11_holds_180 rfl ?_
            refine zx_goto (tgt := 185) dX11_holds_181 (by decide) ?_
            refine zx_iast_n (j := r1.length) (nn := 186) rfl (by simp at hr3; omega) (by decide) dX11_holds_185 rfl ?_
            refine zx_iinc (k := 8) (v := nI (k + 1)) (lv' := [(6, zi (nI (k + 1))), (5, zi (nI (r1.length + 1))), (8, zi (μ 1 (111 + 2 * k + 1))), (7, zi 2), (0, zr 0), (1, zi (nI r)), (2, zi (nI l)), (3, zi (nI a)), (4, zi (nI b))]) (nn := 189) dX11_holds_186 rfl (nI_1 k) (by decide) rfl rfl ?_
            refine zx_goto (tgt := 35) dX11_holds_189 (by decide) ?_
            refine zx_lv (lv' := [(0, zr 0), (1, zi (nI r)), (2, zi (nI l)), (3, zi (nI a)), (4, zi (nI b)), (5, zi (nI (r1.length + 1))), (6, zi (nI (k + 1)))]) [4, 5, 6, 7, 8, 1, 0] rfl ?_
            exact ih35 (k + 1, (zb (gJoin 2 (μ 1 (111 + 2 * k + 1)) x y) :: r1), zp μ1 6 r1.length 1) (show rRun (pFact (rS 1 μ) l) (μ 1) (k + 1) (b - (k + 1)) (zb (gJoin 2 (μ 1 (111 + 2 * k + 1)) x y) :: r1) = some o ∧ (a ≤ (k + 1) ∧ (k + 1) ≤ b) ∧ (zb (gJoin 2 (μ 1 (111 + 2 * k + 1)) x y) :: r1).length ≤ (k + 1) - a ∧ stRep ((zp μ1 6 r1.length 1) 6) (zb (gJoin 2 (μ 1 (111 + 2 * k + 1)) x y) :: r1) ∧ zJ [6] μ (zp μ1 6 r1.length 1) from ⟨ht2, ⟨by omega, by omega⟩, by simp at hr3 ⊢; omega, ⟨by rw [zp_eq]; exact pk_us.trans (by rw [h177]; rfl), by rw [zp_eq]; exact stRep_upd (Nat.le_refl _) hr4.2.2⟩, hr5.p (by decide)⟩) (by show b - (k + 1) < b - k; omega)
        · exact absurd h111 (by decide)
      · exact absurd h75 (by decide)
    · rw [hw]
      show zX shR σ 3 MX11_holds 72 [(8, zi (μ 1 (111 + 2 * k + 1))), (7, zi 4), (0, zr 0), (1, zi (nI r)), (2, zi (nI l)), (3, zi (nI a)), (4, zi (nI b)), (5, zi (nI (r1.length + 2))), (6, zi (nI k))] [] μ1 _
      refine zx_iload (k := 1) (nn := 74) dX11_holds_72 rfl rfl ?_
      refine zx_iconst (v := 2) (nn := 75) rfl dX11_holds_74 rfl ?_
      refine zx_icmp_ge (tgt := 108) (nn := 78) dX11_holds_75 (by decide) rfl (fun h75 => ?_) (fun h75 => ?_)
      · refine zx_iload (k := 1) (nn := 110) dX11_holds_108 rfl rfl ?_
        refine zx_iconst (v := 3) (nn := 111) rfl dX11_holds_110 rfl ?_
        refine zx_icmp_ne (tgt := 143) (nn := 114) dX11_holds_111 (by decide) rfl (fun h111 => ?_) (fun h111 => ?_)
        · refine zx_iinc (k := 7) (v := (nI (r1.length + 2)) + (-1)) (lv' := [(5, zi ((nI (r1.length + 2)) + (-1))), (8, zi (μ 1 (111 + 2 * k + 1))), (7, zi 4), (0, zr 0), (1, zi (nI r)), (2, zi (nI l)), (3, zi (nI a)), (4, zi (nI b)), (6, zi (nI k))]) (nn := 146) dX11_holds_143 rfl rfl (by decide) rfl rfl ?_
          rw [show nI (r1.length + 2) + (-1) = nI (r1.length + 1) from nI_dec _]
          show zX shR σ 3 MX11_holds 146 [(5, zi (nI (r1.length + 1))), (8, zi (μ 1 (111 + 2 * k + 1))), (7, zi 4), (0, zr 0), (1, zi (nI r)), (2, zi (nI l)), (3, zi (nI a)), (4, zi (nI b)), (6, zi (nI k))] [] μ1 _
          refine zx_aload_n (k := 3) (nn := 147) dX11_holds_146 rfl rfl rfl ?_
          refine zx_getR (q := 6) (nn := 150) flX11_25 rfl rfl dX11_holds_147 rfl ?_
          refine zx_iload (k := 0) (nn := 152) dX11_holds_150 rfl rfl ?_
          refine zx_iconst (v := 1) (nn := 153) rfl dX11_holds_152 rfl ?_
          refine zx_isub (nn := 154) dX11_holds_153 rfl ?_
          rw [show (nI (r1.length + 1)) - 1 = nI r1.length from nI_pred _]
          show zX shR σ 3 MX11_holds 154 [(5, zi (nI (r1.length + 1))), (8, zi (μ 1 (111 + 2 * k + 1))), (7, zi 4), (0, zr 0), (1, zi (nI r)), (2, zi (nI l)), (3, zi (nI a)), (4, zi (nI b)), (6, zi (nI k))] [zi (nI r1.length), zr 6] μ1 _
          refine zx_iload (k := 2) (nn := 156) dX11_holds_154 rfl rfl ?_
          refine zx_iload (k := 1) (nn := 158) dX11_holds_156 rfl rfl ?_
          refine zx_aload_n (k := 3) (nn := 159) dX11_holds_158 rfl rfl rfl ?_
          refine zx_getR (q := 6) (nn := 162) flX11_25 rfl rfl dX11_holds_159 rfl ?_
          refine zx_iload (k := 0) (nn := 164) dX11_holds_162 rfl rfl ?_
          refine zx_iconst (v := 1) (nn := 165) rfl dX11_holds_164 rfl ?_
          refine zx_isub (nn := 166) dX11_holds_165 rfl ?_
          rw [show (nI (r1.length + 1)) - 1 = nI r1.length from nI_pred _]
          show zX shR σ 3 MX11_holds 166 [(5, zi (nI (r1.length + 1))), (8, zi (μ 1 (111 + 2 * k + 1))), (7, zi 4), (0, zr 0), (1, zi (nI r)), (2, zi (nI l)), (3, zi (nI a)), (4, zi (nI b)), (6, zi (nI k))] [zi (nI r1.length), zr 6, zi (μ 1 (111 + 2 * k + 1)), zi 4, zi (nI r1.length), zr 6] μ1 _
          refine zx_iald_n (j := r1.length) (nn := 167) rfl (by simp at hr3; omega) (by decide) dX11_holds_166 rfl ?_
          rw [show μ1 6 r1.length = x from hr4.2.1]
          show zX shR σ 3 MX11_holds 167 [(5, zi (nI (r1.length + 1))), (8, zi (μ 1 (111 + 2 * k + 1))), (7, zi 4), (0, zr 0), (1, zi (nI r)), (2, zi (nI l)), (3, zi (nI a)), (4, zi (nI b)), (6, zi (nI k))] [zi x, zi (μ 1 (111 + 2 * k + 1)), zi 4, zi (nI r1.length), zr 6] μ1 _
          refine zx_aload_n (k := 3) (nn := 168) dX11_holds_167 rfl rfl rfl ?_
          refine zx_getR (q := 6) (nn := 171) flX11_25 rfl rfl dX11_holds_168 rfl ?_
          refine zx_iload (k := 0) (nn := 173) dX11_holds_171 rfl rfl ?_
          refine zx_iald_n (j := r1.length + 1) (nn := 174) rfl (by simp at hr3; omega) (by decide) dX11_holds_173 rfl ?_
          rw [show μ1 6 (r1.length + 1) = y from hr4.1]
          show zX shR σ 3 MX11_holds 174 [(5, zi (nI (r1.length + 1))), (8, zi (μ 1 (111 + 2 * k + 1))), (7, zi 4), (0, zr 0), (1, zi (nI r)), (2, zi (nI l)), (3, zi (nI a)), (4, zi (nI b)), (6, zi (nI k))] [zi y, zi x, zi (μ 1 (111 + 2 * k + 1)), zi 4, zi (nI r1.length), zr 6] μ1 _
          refine zx_callSf (nn := 177) (d' := 0) (as := [zi 4, zi (μ 1 (111 + 2 * k + 1)), zi x, zi y]) (rest := [zi (nI r1.length), zr 6]) (n := 4) (eX11_joined σ μ1 4 (μ 1 (111 + 2 * k + 1)) x y  ) kX11_joined mlX11_149 (by decide) rfl rfl (Nat.le_of_ble_eq_true rfl) dX11_holds_174 rfl ?_
          show zX shR σ 3 MX11_holds 177 [(5, zi (nI (r1.length + 1))), (8, zi (μ 1 (111 + 2 * k + 1))), (7, zi 4), (0, zr 0), (1, zi (nI r)), (2, zi (nI l)), (3, zi (nI a)), (4, zi (nI b)), (6, zi (nI k))] [zi (zb (gJoin 4 (μ 1 (111 + 2 * k + 1)) x y)), zi (nI r1.length), zr 6] μ1 _
          refine zx_ifb_eq (tgt := 184) (nn := 180) dX11_holds_177 (by decide) rfl (fun h177 => ?_) (fun h177 => ?_)
          · refine zx_iconst (v := 0) (nn := 185) rfl dX11_holds_184 rfl ?_
            refine zx_iast_n (j := r1.length) (nn := 186) rfl (by simp at hr3; omega) (by decide) dX11_holds_185 rfl ?_
            refine zx_iinc (k := 8) (v := nI (k + 1)) (lv' := [(6, zi (nI (k + 1))), (5, zi (nI (r1.length + 1))), (8, zi (μ 1 (111 + 2 * k + 1))), (7, zi 4), (0, zr 0), (1, zi (nI r)), (2, zi (nI l)), (3, zi (nI a)), (4, zi (nI b))]) (nn := 189) dX11_holds_186 rfl (nI_1 k) (by decide) rfl rfl ?_
            refine zx_goto (tgt := 35) dX11_holds_189 (by decide) ?_
            refine zx_lv (lv' := [(0, zr 0), (1, zi (nI r)), (2, zi (nI l)), (3, zi (nI a)), (4, zi (nI b)), (5, zi (nI (r1.length + 1))), (6, zi (nI (k + 1)))]) [4, 5, 6, 7, 8, 1, 0] rfl ?_
            exact ih35 (k + 1, (zb (gJoin 4 (μ 1 (111 + 2 * k + 1)) x y) :: r1), zp μ1 6 r1.length 0) (show rRun (pFact (rS 1 μ) l) (μ 1) (k + 1) (b - (k + 1)) (zb (gJoin 4 (μ 1 (111 + 2 * k + 1)) x y) :: r1) = some o ∧ (a ≤ (k + 1) ∧ (k + 1) ≤ b) ∧ (zb (gJoin 4 (μ 1 (111 + 2 * k + 1)) x y) :: r1).length ≤ (k + 1) - a ∧ stRep ((zp μ1 6 r1.length 0) 6) (zb (gJoin 4 (μ 1 (111 + 2 * k + 1)) x y) :: r1) ∧ zJ [6] μ (zp μ1 6 r1.length 0) from ⟨ht2, ⟨by omega, by omega⟩, by simp at hr3 ⊢; omega, ⟨by rw [zp_eq]; exact pk_us.trans (by rw [h177]; rfl), by rw [zp_eq]; exact stRep_upd (Nat.le_refl _) hr4.2.2⟩, hr5.p (by decide)⟩) (by show b - (k + 1) < b - k; omega)
          · refine zx_iconst (v := 1) (nn := 181) rfl dX11_holds_180 rfl ?_
            refine zx_goto (tgt := 185) dX11_holds_181 (by decide) ?_
            refine zx_iast_n (j := r1.length) (nn := 186) rfl (by simp at hr3; omega) (by decide) dX11_holds_185 rfl ?_
            refine zx_iinc (k := 8) (v := nI (k + 1)) (lv' := [(6, zi (nI (k + 1))), (5, zi (nI (r1.length + 1))), (8, zi (μ 1 (111 + 2 * k + 1))), (7, zi 4), (0, zr 0), (1, zi (nI r)), (2, zi (nI l)), (3, zi (nI a)), (4, zi (nI b))]) (nn := 189) dX11_holds_186 rfl (nI_1 k) (by decide) rfl rfl ?_
            refine zx_goto (tgt := 35) dX11_holds_189 (by decide) ?_
            refine zx_lv (lv' := [(0, zr 0), (1, zi (nI r)), (2, zi (nI l)), (3, zi (nI a)), (4, zi (nI b)), (5, zi (nI (r1.length + 1))), (6, zi (nI (k + 1)))]) [4, 5, 6, 7, 8, 1, 0] rfl ?_
            exact ih35 (k + 1, (zb (gJoin 4 (μ 1 (111 + 2 * k + 1)) x y) :: r1), zp μ1 6 r1.length 1) (show rRun (pFact (rS 1 μ) l) (μ 1) (k + 1) (b - (k + 1)) (zb (gJoin 4 (μ 1 (111 + 2 * k + 1)) x y) :: r1) = some o ∧ (a ≤ (k + 1) ∧ (k + 1) ≤ b) ∧ (zb (gJoin 4 (μ 1 (111 + 2 * k + 1)) x y) :: r1).length ≤ (k + 1) - a ∧ stRep ((zp μ1 6 r1.length 1) 6) (zb (gJoin 4 (μ 1 (111 + 2 * k + 1)) x y) :: r1) ∧ zJ [6] μ (zp μ1 6 r1.length 1) from ⟨ht2, ⟨by omega, by omega⟩, by simp at hr3 ⊢; omega, ⟨by rw [zp_eq]; exact pk_us.trans (by rw [h177]; rfl), by rw [zp_eq]; exact stRep_upd (Nat.le_refl _) hr4.2.2⟩, hr5.p (by decide)⟩) (by show b - (k + 1) < b - k; omega)
        · exact absurd h111 (by decide)
      · exact absurd h75 (by decide)
    · rw [hw]
      show zX shR σ 3 MX11_holds 72 [(8, zi (μ 1 (111 + 2 * k + 1))), (7, zi 5), (0, zr 0), (1, zi (nI r)), (2, zi (nI l)), (3, zi (nI a)), (4, zi (nI b)), (5, zi (nI (r1.length + 2))), (6, zi (nI k))] [] μ1 _
      refine zx_iload (k := 1) (nn := 74) dX11_holds_72 rfl rfl ?_
      refine zx_iconst (v := 2) (nn := 75) rfl dX11_holds_74 rfl ?_
      refine zx_icmp_ge (tgt := 108) (nn := 78) dX11_holds_75 (by decide) rfl (fun h75 => ?_) (fun h75 => ?_)
      · refine zx_iload (k := 1) (nn := 110) dX11_holds_108 rfl rfl ?_
        refine zx_iconst (v := 3) (nn := 111) rfl dX11_holds_110 rfl ?_
        refine zx_icmp_ne (tgt := 143) (nn := 114) dX11_holds_111 (by decide) rfl (fun h111 => ?_) (fun h111 => ?_)
        · refine zx_iinc (k := 7) (v := (nI (r1.length + 2)) + (-1)) (lv' := [(5, zi ((nI (r1.length + 2)) + (-1))), (8, zi (μ 1 (111 + 2 * k + 1))), (7, zi 5), (0, zr 0), (1, zi (nI r)), (2, zi (nI l)), (3, zi (nI a)), (4, zi (nI b)), (6, zi (nI k))]) (nn := 146) dX11_holds_143 rfl rfl (by decide) rfl rfl ?_
          rw [show nI (r1.length + 2) + (-1) = nI (r1.length + 1) from nI_dec _]
          show zX shR σ 3 MX11_holds 146 [(5, zi (nI (r1.length + 1))), (8, zi (μ 1 (111 + 2 * k + 1))), (7, zi 5), (0, zr 0), (1, zi (nI r)), (2, zi (nI l)), (3, zi (nI a)), (4, zi (nI b)), (6, zi (nI k))] [] μ1 _
          refine zx_aload_n (k := 3) (nn := 147) dX11_holds_146 rfl rfl rfl ?_
          refine zx_getR (q := 6) (nn := 150) flX11_25 rfl rfl dX11_holds_147 rfl ?_
          refine zx_iload (k := 0) (nn := 152) dX11_holds_150 rfl rfl ?_
          refine zx_iconst (v := 1) (nn := 153) rfl dX11_holds_152 rfl ?_
          refine zx_isub (nn := 154) dX11_holds_153 rfl ?_
          rw [show (nI (r1.length + 1)) - 1 = nI r1.length from nI_pred _]
          show zX shR σ 3 MX11_holds 154 [(5, zi (nI (r1.length + 1))), (8, zi (μ 1 (111 + 2 * k + 1))), (7, zi 5), (0, zr 0), (1, zi (nI r)), (2, zi (nI l)), (3, zi (nI a)), (4, zi (nI b)), (6, zi (nI k))] [zi (nI r1.length), zr 6] μ1 _
          refine zx_iload (k := 2) (nn := 156) dX11_holds_154 rfl rfl ?_
          refine zx_iload (k := 1) (nn := 158) dX11_holds_156 rfl rfl ?_
          refine zx_aload_n (k := 3) (nn := 159) dX11_holds_158 rfl rfl rfl ?_
          refine zx_getR (q := 6) (nn := 162) flX11_25 rfl rfl dX11_holds_159 rfl ?_
          refine zx_iload (k := 0) (nn := 164) dX11_holds_162 rfl rfl ?_
          refine zx_iconst (v := 1) (nn := 165) rfl dX11_holds_164 rfl ?_
          refine zx_isub (nn := 166) dX11_holds_165 rfl ?_
          rw [show (nI (r1.length + 1)) - 1 = nI r1.length from nI_pred _]
          show zX shR σ 3 MX11_holds 166 [(5, zi (nI (r1.length + 1))), (8, zi (μ 1 (111 + 2 * k + 1))), (7, zi 5), (0, zr 0), (1, zi (nI r)), (2, zi (nI l)), (3, zi (nI a)), (4, zi (nI b)), (6, zi (nI k))] [zi (nI r1.length), zr 6, zi (μ 1 (111 + 2 * k + 1)), zi 5, zi (nI r1.length), zr 6] μ1 _
          refine zx_iald_n (j := r1.length) (nn := 167) rfl (by simp at hr3; omega) (by decide) dX11_holds_166 rfl ?_
          rw [show μ1 6 r1.length = x from hr4.2.1]
          show zX shR σ 3 MX11_holds 167 [(5, zi (nI (r1.length + 1))), (8, zi (μ 1 (111 + 2 * k + 1))), (7, zi 5), (0, zr 0), (1, zi (nI r)), (2, zi (nI l)), (3, zi (nI a)), (4, zi (nI b)), (6, zi (nI k))] [zi x, zi (μ 1 (111 + 2 * k + 1)), zi 5, zi (nI r1.length), zr 6] μ1 _
          refine zx_aload_n (k := 3) (nn := 168) dX11_holds_167 rfl rfl rfl ?_
          refine zx_getR (q := 6) (nn := 171) flX11_25 rfl rfl dX11_holds_168 rfl ?_
          refine zx_iload (k := 0) (nn := 173) dX11_holds_171 rfl rfl ?_
          refine zx_iald_n (j := r1.length + 1) (nn := 174) rfl (by simp at hr3; omega) (by decide) dX11_holds_173 rfl ?_
          rw [show μ1 6 (r1.length + 1) = y from hr4.1]
          show zX shR σ 3 MX11_holds 174 [(5, zi (nI (r1.length + 1))), (8, zi (μ 1 (111 + 2 * k + 1))), (7, zi 5), (0, zr 0), (1, zi (nI r)), (2, zi (nI l)), (3, zi (nI a)), (4, zi (nI b)), (6, zi (nI k))] [zi y, zi x, zi (μ 1 (111 + 2 * k + 1)), zi 5, zi (nI r1.length), zr 6] μ1 _
          refine zx_callSf (nn := 177) (d' := 0) (as := [zi 5, zi (μ 1 (111 + 2 * k + 1)), zi x, zi y]) (rest := [zi (nI r1.length), zr 6]) (n := 4) (eX11_joined σ μ1 5 (μ 1 (111 + 2 * k + 1)) x y  ) kX11_joined mlX11_149 (by decide) rfl rfl (Nat.le_of_ble_eq_true rfl) dX11_holds_174 rfl ?_
          show zX shR σ 3 MX11_holds 177 [(5, zi (nI (r1.length + 1))), (8, zi (μ 1 (111 + 2 * k + 1))), (7, zi 5), (0, zr 0), (1, zi (nI r)), (2, zi (nI l)), (3, zi (nI a)), (4, zi (nI b)), (6, zi (nI k))] [zi (zb (gJoin 5 (μ 1 (111 + 2 * k + 1)) x y)), zi (nI r1.length), zr 6] μ1 _
          refine zx_ifb_eq (tgt := 184) (nn := 180) dX11_holds_177 (by decide) rfl (fun h177 => ?_) (fun h177 => ?_)
          · refine zx_iconst (v := 0) (nn := 185) rfl dX11_holds_184 rfl ?_
            refine zx_iast_n (j := r1.length) (nn := 186) rfl (by simp at hr3; omega) (by decide) dX11_holds_185 rfl ?_
            refine zx_iinc (k := 8) (v := nI (k + 1)) (lv' := [(6, zi (nI (k + 1))), (5, zi (nI (r1.length + 1))), (8, zi (μ 1 (111 + 2 * k + 1))), (7, zi 5), (0, zr 0), (1, zi (nI r)), (2, zi (nI l)), (3, zi (nI a)), (4, zi (nI b))]) (nn := 189) dX11_holds_186 rfl (nI_1 k) (by decide) rfl rfl ?_
            refine zx_goto (tgt := 35) dX11_holds_189 (by decide) ?_
            refine zx_lv (lv' := [(0, zr 0), (1, zi (nI r)), (2, zi (nI l)), (3, zi (nI a)), (4, zi (nI b)), (5, zi (nI (r1.length + 1))), (6, zi (nI (k + 1)))]) [4, 5, 6, 7, 8, 1, 0] rfl ?_
            exact ih35 (k + 1, (zb (gJoin 5 (μ 1 (111 + 2 * k + 1)) x y) :: r1), zp μ1 6 r1.length 0) (show rRun (pFact (rS 1 μ) l) (μ 1) (k + 1) (b - (k + 1)) (zb (gJoin 5 (μ 1 (111 + 2 * k + 1)) x y) :: r1) = some o ∧ (a ≤ (k + 1) ∧ (k + 1) ≤ b) ∧ (zb (gJoin 5 (μ 1 (111 + 2 * k + 1)) x y) :: r1).length ≤ (k + 1) - a ∧ stRep ((zp μ1 6 r1.length 0) 6) (zb (gJoin 5 (μ 1 (111 + 2 * k + 1)) x y) :: r1) ∧ zJ [6] μ (zp μ1 6 r1.length 0) from ⟨ht2, ⟨by omega, by omega⟩, by simp at hr3 ⊢; omega, ⟨by rw [zp_eq]; exact pk_us.trans (by rw [h177]; rfl), by rw [zp_eq]; exact stRep_upd (Nat.le_refl _) hr4.2.2⟩, hr5.p (by decide)⟩) (by show b - (k + 1) < b - k; omega)
          · refine zx_iconst (v := 1) (nn := 181) rfl dX11_holds_180 rfl ?_
            refine zx_goto (tgt := 185) dX11_holds_181 (by decide) ?_
            refine zx_iast_n (j := r1.length) (nn := 186) rfl (by simp at hr3; omega) (by decide) dX11_holds_185 rfl ?_
            refine zx_iinc (k := 8) (v := nI (k + 1)) (lv' := [(6, zi (nI (k + 1))), (5, zi (nI (r1.length + 1))), (8, zi (μ 1 (111 + 2 * k + 1))), (7, zi 5), (0, zr 0), (1, zi (nI r)), (2, zi (nI l)), (3, zi (nI a)), (4, zi (nI b))]) (nn := 189) dX11_holds_186 rfl (nI_1 k) (by decide) rfl rfl ?_
            refine zx_goto (tgt := 35) dX11_holds_189 (by decide) ?_
            refine zx_lv (lv' := [(0, zr 0), (1, zi (nI r)), (2, zi (nI l)), (3, zi (nI a)), (4, zi (nI b)), (5, zi (nI (r1.length + 1))), (6, zi (nI (k + 1)))]) [4, 5, 6, 7, 8, 1, 0] rfl ?_
            exact ih35 (k + 1, (zb (gJoin 5 (μ 1 (111 + 2 * k + 1)) x y) :: r1), zp μ1 6 r1.length 1) (show rRun (pFact (rS 1 μ) l) (μ 1) (k + 1) (b - (k + 1)) (zb (gJoin 5 (μ 1 (111 + 2 * k + 1)) x y) :: r1) = some o ∧ (a ≤ (k + 1) ∧ (k + 1) ≤ b) ∧ (zb (gJoin 5 (μ 1 (111 + 2 * k + 1)) x y) :: r1).length ≤ (k + 1) - a ∧ stRep ((zp μ1 6 r1.length 1) 6) (zb (gJoin 5 (μ 1 (111 + 2 * k + 1)) x y) :: r1) ∧ zJ [6] μ (zp μ1 6 r1.length 1) from ⟨ht2, ⟨by omega, by omega⟩, by simp at hr3 ⊢; omega, ⟨by rw [zp_eq]; exact pk_us.trans (by rw [h177]; rfl), by rw [zp_eq]; exact stRep_upd (Nat.le_refl _) hr4.2.2⟩, hr5.p (by decide)⟩) (by show b - (k + 1) < b - k; omega)
        · exact absurd h111 (by decide)
      · exact absurd h75 (by decide)
set_option maxHeartbeats 4000000 in
set_option maxRecDepth 100000 in
theorem eX11_goalOf_0 (σ : zG) (μ : zM) (l : Nat) {ρ : pR} (ok : pOK (rS 1 μ)) (hl : l < pL (rS 1 μ)) (hρ : rRep ρ (μ 1)) : zMet shR σ 4 MX11_goalOf yX11_goalOf [zr 0, zi (nI l)] μ (fun rr μ' => rr = some (zi (pGoal ρ (rS 1 μ) l)) ∧ zJ [6] μ μ') := by
  have hl6 : l < 6 := Nat.lt_of_lt_of_le hl (ok_L ok).2
  obtain ⟨hρn, hρ8, hρr⟩ := id hρ
  refine zmetF (by decide +kernel) rfl (Nat.le_of_ble_eq_true rfl) ?_
  show zX shR σ 4 MX11_goalOf 0 [(0, zr 0), (1, zi (nI l))] [] μ _
  refine zx_iconst (v := 0) (nn := 1) rfl dX11_goalOf_0 rfl ?_
  refine zx_istore_n (nn := 2) (lv' := [(2, zi 0), (0, zr 0), (1, zi (nI l))]) dX11_goalOf_1 rfl (by decide) rfl rfl ?_
  refine zx_lv (lv' := [(0, zr 0), (1, zi (nI l)), (2, zi 0)]) [1, 2, 0] rfl ?_
  refine zx_while (τ := Nat × zM) (fun t_ => ρ.1 - t_.1) (fun t_ => t_.1 ≤ ρ.1 ∧ zJ [6] μ t_.2 ∧ pFirst (pHit ρ (rS 1 μ) l) 0 ρ.1 = pFirst (pHit ρ (rS 1 μ) l) t_.1 (ρ.1 - t_.1)) (fun t_ => [(0, zr 0), (1, zi (nI l)), (2, zi (nI t_.1))]) (fun t_ => t_.2) (t0 := (0, μ)) (show 0 ≤ ρ.1 ∧ zJ [6] μ μ ∧ pFirst (pHit ρ (rS 1 μ) l) 0 ρ.1 = pFirst (pHit ρ (rS 1 μ) l) 0 (ρ.1 - 0) from ⟨Nat.zero_le _, zJ.rf, rfl⟩) ?_
  rintro ⟨r, μ1⟩ hI ih2
  replace hI : r ≤ ρ.1 ∧ zJ [6] μ μ1 ∧ pFirst (pHit ρ (rS 1 μ) l) 0 ρ.1 = pFirst (pHit ρ (rS 1 μ) l) r (ρ.1 - r) := hI
  show zX shR σ 4 MX11_goalOf 2 [(0, zr 0), (1, zi (nI l)), (2, zi (nI r))] [] μ1 _
  obtain ⟨hr1, hr2, hr3⟩ := hI
  have e1 : μ1 1 = μ 1 := hr2 1 (by decide)
  have es1 : rS 1 μ1 = rS 1 μ := rS_eq e1
  have ok1 : pOK (rS 1 μ1) := by rw [es1]; exact ok
  have hρ1 : rRep ρ (μ1 1) := by rw [e1]; exact hρ
  refine zx_iload_n (k := 2) (nn := 3) dX11_goalOf_2 rfl rfl rfl ?_
  refine zx_aload_n (k := 0) (nn := 4) dX11_goalOf_3 rfl rfl rfl ?_
  refine zx_getR (q := 1) (nn := 7) flX11_9 rfl rfl dX11_goalOf_4 rfl ?_
  refine zx_iconst (v := 5) (nn := 8) rfl dX11_goalOf_7 rfl ?_
  refine zx_iald_n (j := 5) (nn := 9) rfl (by omega) (by decide) dX11_goalOf_8 rfl ?_
  rw [show μ1 1 5 = nI ρ.1 from by rw [e1]; exact hρn]
  show zX shR σ 4 MX11_goalOf 9 [(0, zr 0), (1, zi (nI l)), (2, zi (nI r))] [zi (nI ρ.1), zi (nI r)] μ1 _
  refine zx_icmp_ge (tgt := 112) (nn := 12) dX11_goalOf_9 (by decide) rfl (fun h9 => ?_) (fun h9 => ?_)
  · refine zx_aload_n (k := 0) (nn := 113) dX11_goalOf_112 rfl rfl rfl ?_
    refine zx_callVf (nn := 116) (k := 0) (d' := 1) (as := []) (rest := []) (n := 0) (eX11_seen_0 σ μ1   ok1) kX11_seen mlX11_125 rfl rfl rfl (by decide) rfl rfl (Nat.le_of_ble_eq_true rfl) dX11_goalOf_113 rfl ?_
    show zX shR σ 4 MX11_goalOf 116 [(0, zr 0), (1, zi (nI l)), (2, zi (nI r))] [zi (pSeen (rS 1 μ1))] μ1 _
    refine zx_iret rfl dX11_goalOf_116 ?_
    have hge := nI_le_le h9 (by omega)
    refine ⟨congrArg (fun x => some (zi x)) ?_, hr2⟩
    unfold pGoal
    rw [hr3, show ρ.1 - r = 0 by omega, es1]
    rfl
  · have hlt : r < ρ.1 := nI_nle_lt h9 (by omega)
    obtain ⟨hk, hd, _⟩ := hρr r hlt
    refine zx_bipush (v := 71) (nn := 14) rfl dX11_goalOf_12 rfl ?_
    refine zx_iconst (v := 5) (nn := 15) rfl dX11_goalOf_14 rfl ?_
    refine zx_iload_n (k := 2) (nn := 16) dX11_goalOf_15 rfl rfl rfl ?_
    refine zx_imul (nn := 17) dX11_goalOf_16 rfl ?_
    refine zx_iadd (nn := 18) dX11_goalOf_17 rfl ?_
    rw [show 71 + (5 * (nI r)) = nI (71 + 5 * r) from by simp only [show (2 : Int32) = nI 2 from rfl, show (3 : Int32) = nI 3 from rfl, show (1 : Int32) = nI 1 from rfl, show (4 : Int32) = nI 4 from rfl, show (5 : Int32) = nI 5 from rfl, show (7 : Int32) = nI 7 from rfl, show (31 : Int32) = nI 31 from rfl, show (47 : Int32) = nI 47 from rfl, show (71 : Int32) = nI 71 from rfl, show (111 : Int32) = nI 111 from rfl, nI_mulN, nI_add]]
    show zX shR σ 4 MX11_goalOf 18 [(0, zr 0), (1, zi (nI l)), (2, zi (nI r))] [zi (nI (71 + 5 * r))] μ1 _
    refine zx_istore_n (nn := 19) (lv' := [(3, zi (nI (71 + 5 * r))), (0, zr 0), (1, zi (nI l)), (2, zi (nI r))]) dX11_goalOf_18 rfl (by decide) rfl rfl ?_
    refine zx_aload_n (k := 1) (nn := 20) dX11_goalOf_19 rfl rfl rfl ?_
    refine zx_iload_n (k := 2) (nn := 21) dX11_goalOf_20 rfl rfl rfl ?_
    refine zx_iconst (v := 0) (nn := 22) rfl dX11_goalOf_21 rfl ?_
    refine zx_callVf (nn := 25) (k := 0) (d' := 0) (as := [zi (nI l), zi 0]) (rest := []) (n := 2) (eX11_of_0 σ μ1 l 0  hl6 (by decide)) kX11_of mlX11_88 rfl rfl rfl (by decide) rfl rfl (Nat.le_of_ble_eq_true rfl) dX11_goalOf_22 rfl ?_
    show zX shR σ 4 MX11_goalOf 25 [(3, zi (nI (71 + 5 * r))), (0, zr 0), (1, zi (nI l)), (2, zi (nI r))] [zi (rS 1 μ1 (7 + 4 * l + 0))] μ1 _
    rw [show rS 1 μ1 (7 + 4 * l + 0) = rS 1 μ (7 + 4 * l) from by rw [es1]; rfl]
    show zX shR σ 4 MX11_goalOf 25 [(3, zi (nI (71 + 5 * r))), (0, zr 0), (1, zi (nI l)), (2, zi (nI r))] [zi (rS 1 μ (7 + 4 * l))] μ1 _
    refine zx_aload_n (k := 1) (nn := 26) dX11_goalOf_25 rfl rfl rfl ?_
    refine zx_getR (q := 1) (nn := 29) flX11_9 rfl rfl dX11_goalOf_26 rfl ?_
    refine zx_iload_n (k := 0) (nn := 30) dX11_goalOf_29 rfl rfl rfl ?_
    refine zx_iald_n (j := 71 + 5 * r) (nn := 31) rfl (by omega) (by decide) dX11_goalOf_30 rfl ?_
    rw [show μ1 1 (71 + 5 * r) = ρ.2.1 r from by rw [e1]; exact hk.symm]
    show zX shR σ 4 MX11_goalOf 31 [(3, zi (nI (71 + 5 * r))), (0, zr 0), (1, zi (nI l)), (2, zi (nI r))] [zi (ρ.2.1 r), zi (rS 1 μ (7 + 4 * l))] μ1 _
    refine zx_callSf (nn := 34) (d' := 0) (as := [zi (rS 1 μ (7 + 4 * l)), zi (ρ.2.1 r)]) (rest := []) (n := 2) (eX11_isUnder σ μ1 (rS 1 μ (7 + 4 * l)) (ρ.2.1 r)  ) kX11_isUnder mlX11_117 (by decide) rfl rfl (Nat.le_of_ble_eq_true rfl) dX11_goalOf_31 rfl ?_
    show zX shR σ 4 MX11_goalOf 34 [(3, zi (nI (71 + 5 * r))), (0, zr 0), (1, zi (nI l)), (2, zi (nI r))] [zi (zb (pUnder (rS 1 μ (7 + 4 * l)) (ρ.2.1 r)))] μ1 _
    refine zx_ifb_eq (tgt := 106) (nn := 37) dX11_goalOf_34 (by decide) rfl (fun h34 => ?_) (fun h34 => ?_)
    · refine zx_iinc (k := 3) (v := nI (r + 1)) (lv' := [(2, zi (nI (r + 1))), (3, zi (nI (71 + 5 * r))), (0, zr 0), (1, zi (nI l))]) (nn := 109) dX11_goalOf_106 rfl (nI_1 r) (by decide) rfl rfl ?_
      refine zx_goto (tgt := 2) dX11_goalOf_109 (by decide) ?_
      refine zx_lv (lv' := [(0, zr 0), (1, zi (nI l)), (2, zi (nI (r + 1)))]) [2, 3, 0] rfl ?_
      exact ih2 (r + 1, μ1) (show (r + 1) ≤ ρ.1 ∧ zJ [6] μ μ1 ∧ pFirst (pHit ρ (rS 1 μ) l) 0 ρ.1 = pFirst (pHit ρ (rS 1 μ) l) (r + 1) (ρ.1 - (r + 1)) from ⟨by omega, hr2, by rw [hr3, pFirst_step hlt, show pHit ρ (rS 1 μ) l r = false from (by show (pUnder (rS 1 μ (7 + 4 * l)) (ρ.2.1 r) && ρ.2.2.2 r (pFact _ l)) = false; rw [h34]; rfl)]; rfl⟩) (by show ρ.1 - (r + 1) < ρ.1 - r; omega)
    · refine zx_aload_n (k := 1) (nn := 38) dX11_goalOf_37 rfl rfl rfl ?_
      refine zx_iload_n (k := 3) (nn := 39) dX11_goalOf_38 rfl rfl rfl ?_
      refine zx_iload_n (k := 2) (nn := 40) dX11_goalOf_39 rfl rfl rfl ?_
      refine zx_callV (nn := 43) (k := 0) (d' := 3) (as := [zi (nI r), zi (nI l)]) (rest := []) (n := 2) (eX11_holds_0 σ μ1 r l  ok1 hl6 hρ1 hlt) kX11_holds mlX11_120 rfl rfl rfl (by decide) rfl rfl (Nat.le_of_ble_eq_true rfl) dX11_goalOf_40 rfl ?_
      rintro _ ν1 ⟨rfl, q1⟩
      show zX shR σ 4 MX11_goalOf 43 [(3, zi (nI (71 + 5 * r))), (0, zr 0), (1, zi (nI l)), (2, zi (nI r))] [zi (zb (ρ.2.2.2 r (pFact (rS 1 μ1) l)))] ν1 _
      have e2 : ν1 1 = μ 1 := (q1 1 (by decide)).trans e1
      have es2 : rS 1 ν1 = rS 1 μ := rS_eq e2
      have ok2 : pOK (rS 1 ν1) := by rw [es2]; exact ok
      rw [show zb (ρ.2.2.2 r (pFact (rS 1 μ1) l)) = zb (ρ.2.2.2 r (pFact (rS 1 μ) l)) from by rw [es1]]
      show zX shR σ 4 MX11_goalOf 43 [(3, zi (nI (71 + 5 * r))), (0, zr 0), (1, zi (nI l)), (2, zi (nI r))] [zi (zb (ρ.2.2.2 r (pFact (rS 1 μ) l)))] ν1 _
      refine zx_ifb_eq (tgt := 106) (nn := 46) dX11_goalOf_43 (by decide) rfl (fun h43 => ?_) (fun h43 => ?_)
      · refine zx_iinc (k := 3) (v := nI (r + 1)) (lv' := [(2, zi (nI (r + 1))), (3, zi (nI (71 + 5 * r))), (0, zr 0), (1, zi (nI l))]) (nn := 109) dX11_goalOf_106 rfl (nI_1 r) (by decide) rfl rfl ?_
        refine zx_goto (tgt := 2) dX11_goalOf_109 (by decide) ?_
        refine zx_lv (lv' := [(0, zr 0), (1, zi (nI l)), (2, zi (nI (r + 1)))]) [2, 3, 0] rfl ?_
        exact ih2 (r + 1, ν1) (show (r + 1) ≤ ρ.1 ∧ zJ [6] μ ν1 ∧ pFirst (pHit ρ (rS 1 μ) l) 0 ρ.1 = pFirst (pHit ρ (rS 1 μ) l) (r + 1) (ρ.1 - (r + 1)) from ⟨by omega, (hr2.tr q1), by rw [hr3, pFirst_step hlt, show pHit ρ (rS 1 μ) l r = false from (by show (pUnder (rS 1 μ (7 + 4 * l)) (ρ.2.1 r) && ρ.2.2.2 r (pFact _ l)) = false; rw [h34, h43]; rfl)]; rfl⟩) (by show ρ.1 - (r + 1) < ρ.1 - r; omega)
      · refine zx_aload_n (k := 1) (nn := 47) dX11_goalOf_46 rfl rfl rfl ?_
        refine zx_getR (q := 1) (nn := 50) flX11_9 rfl rfl dX11_goalOf_47 rfl ?_
        refine zx_iload_n (k := 0) (nn := 51) dX11_goalOf_50 rfl rfl rfl ?_
        refine zx_iconst (v := 2) (nn := 52) rfl dX11_goalOf_51 rfl ?_
        refine zx_iadd (nn := 53) dX11_goalOf_52 rfl ?_
        rw [show (nI (71 + 5 * r)) + 2 = nI (71 + 5 * r + 2) from by simp only [show (2 : Int32) = nI 2 from rfl, show (3 : Int32) = nI 3 from rfl, show (1 : Int32) = nI 1 from rfl, show (4 : Int32) = nI 4 from rfl, show (5 : Int32) = nI 5 from rfl, show (7 : Int32) = nI 7 from rfl, show (31 : Int32) = nI 31 from rfl, show (47 : Int32) = nI 47 from rfl, show (71 : Int32) = nI 71 from rfl, show (111 : Int32) = nI 111 from rfl, nI_mulN, nI_add]]
        show zX shR σ 4 MX11_goalOf 53 [(3, zi (nI (71 + 5 * r))), (0, zr 0), (1, zi (nI l)), (2, zi (nI r))] [zi (nI (71 + 5 * r + 2)), zr 1] ν1 _
        refine zx_iald_n (j := 71 + 5 * r + 2) (nn := 54) rfl (by omega) (by decide) dX11_goalOf_53 rfl ?_
        rw [show ν1 1 (71 + 5 * r + 2) = μ 1 (71 + 5 * r + 2) from by rw [e2]]
        show zX shR σ 4 MX11_goalOf 54 [(3, zi (nI (71 + 5 * r))), (0, zr 0), (1, zi (nI l)), (2, zi (nI r))] [zi (μ 1 (71 + 5 * r + 2))] ν1 _
        refine zx_istore (nn := 56) (lv' := [(4, zi (μ 1 (71 + 5 * r + 2))), (3, zi (nI (71 + 5 * r))), (0, zr 0), (1, zi (nI l)), (2, zi (nI r))]) dX11_goalOf_54 (by decide) rfl rfl ?_
        refine zx_aload_n (k := 2) (nn := 57) dX11_goalOf_56 rfl rfl rfl ?_
        refine zx_getR (q := 1) (nn := 60) flX11_9 rfl rfl dX11_goalOf_57 rfl ?_
        refine zx_iload_n (k := 1) (nn := 61) dX11_goalOf_60 rfl rfl rfl ?_
        refine zx_iconst (v := 1) (nn := 62) rfl dX11_goalOf_61 rfl ?_
        refine zx_iadd (nn := 63) dX11_goalOf_62 rfl ?_
        rw [show (nI (71 + 5 * r)) + 1 = nI (71 + 5 * r + 1) from by simp only [show (2 : Int32) = nI 2 from rfl, show (3 : Int32) = nI 3 from rfl, show (1 : Int32) = nI 1 from rfl, show (4 : Int32) = nI 4 from rfl, show (5 : Int32) = nI 5 from rfl, show (7 : Int32) = nI 7 from rfl, show (31 : Int32) = nI 31 from rfl, show (47 : Int32) = nI 47 from rfl, show (71 : Int32) = nI 71 from rfl, show (111 : Int32) = nI 111 from rfl, nI_mulN, nI_add]]
        show zX shR σ 4 MX11_goalOf 63 [(4, zi (μ 1 (71 + 5 * r + 2))), (3, zi (nI (71 + 5 * r))), (0, zr 0), (1, zi (nI l)), (2, zi (nI r))] [zi (nI (71 + 5 * r + 1)), zr 1] ν1 _
        refine zx_iald_n (j := 71 + 5 * r + 1) (nn := 64) rfl (by omega) (by decide) dX11_goalOf_63 rfl ?_
        rw [show ν1 1 (71 + 5 * r + 1) = μ 1 (71 + 5 * r + 1) from by rw [e2]]
        show zX shR σ 4 MX11_goalOf 64 [(4, zi (μ 1 (71 + 5 * r + 2))), (3, zi (nI (71 + 5 * r))), (0, zr 0), (1, zi (nI l)), (2, zi (nI r))] [zi (μ 1 (71 + 5 * r + 1))] ν1 _
        refine zx_iconst (v := 2) (nn := 65) rfl dX11_goalOf_64 rfl ?_
        refine zx_icmp_ne (tgt := 73) (nn := 68) dX11_goalOf_65 (by decide) rfl (fun h65 => ?_) (fun h65 => ?_)
        · refine zx_aload_n (k := 2) (nn := 74) dX11_goalOf_73 rfl rfl rfl ?_
          refine zx_aload_n (k := 2) (nn := 75) dX11_goalOf_74 rfl rfl rfl ?_
          refine zx_getR (q := 1) (nn := 78) flX11_9 rfl rfl dX11_goalOf_75 rfl ?_
          refine zx_iload_n (k := 1) (nn := 79) dX11_goalOf_78 rfl rfl rfl ?_
          refine zx_iconst (v := 1) (nn := 80) rfl dX11_goalOf_79 rfl ?_
          refine zx_iadd (nn := 81) dX11_goalOf_80 rfl ?_
          rw [show (nI (71 + 5 * r)) + 1 = nI (71 + 5 * r + 1) from by simp only [show (2 : Int32) = nI 2 from rfl, show (3 : Int32) = nI 3 from rfl, show (1 : Int32) = nI 1 from rfl, show (4 : Int32) = nI 4 from rfl, show (5 : Int32) = nI 5 from rfl, show (7 : Int32) = nI 7 from rfl, show (31 : Int32) = nI 31 from rfl, show (47 : Int32) = nI 47 from rfl, show (71 : Int32) = nI 71 from rfl, show (111 : Int32) = nI 111 from rfl, nI_mulN, nI_add]]
          show zX shR σ 4 MX11_goalOf 81 [(4, zi (μ 1 (71 + 5 * r + 2))), (3, zi (nI (71 + 5 * r))), (0, zr 0), (1, zi (nI l)), (2, zi (nI r))] [zi (nI (71 + 5 * r + 1)), zr 1, zr 0] ν1 _
          refine zx_iald_n (j := 71 + 5 * r + 1) (nn := 82) rfl (by omega) (by decide) dX11_goalOf_81 rfl ?_
          rw [show ν1 1 (71 + 5 * r + 1) = μ 1 (71 + 5 * r + 1) from by rw [e2]]
          show zX shR σ 4 MX11_goalOf 82 [(4, zi (μ 1 (71 + 5 * r + 2))), (3, zi (nI (71 + 5 * r))), (0, zr 0), (1, zi (nI l)), (2, zi (nI r))] [zi (μ 1 (71 + 5 * r + 1)), zr 0] ν1 _
          refine zx_if_ne (tgt := 95) (nn := 85) dX11_goalOf_82 (by decide) rfl (fun h82 => ?_) (fun h82 => ?_)
          · refine zx_aload_n (k := 2) (nn := 96) dX11_goalOf_95 rfl rfl rfl ?_
            refine zx_callVf (nn := 99) (k := 0) (d' := 0) (as := []) (rest := [zr 0]) (n := 0) (eX11_seenAt_0 σ ν1   ok2) kX11_seenAt mlX11_109 rfl rfl rfl (by decide) rfl rfl (Nat.le_of_ble_eq_true rfl) dX11_goalOf_96 rfl ?_
            show zX shR σ 4 MX11_goalOf 99 [(4, zi (μ 1 (71 + 5 * r + 2))), (3, zi (nI (71 + 5 * r))), (0, zr 0), (1, zi (nI l)), (2, zi (nI r))] [zi (pSeenAt (rS 1 ν1)), zr 0] ν1 _
            refine zx_iload (k := 0) (nn := 101) dX11_goalOf_99 rfl rfl ?_
            refine zx_isub (nn := 102) dX11_goalOf_101 rfl ?_
            refine zx_callVf (nn := 105) (k := 0) (d' := 1) (as := [zi ((pSeenAt (rS 1 ν1)) - (μ 1 (71 + 5 * r + 2)))]) (rest := []) (n := 1) (eX11_danceAt_0 σ ν1 ((pSeenAt (rS 1 ν1)) - (μ 1 (71 + 5 * r + 2)))  ok2) kX11_danceAt mlX11_122 rfl rfl rfl (by decide) rfl rfl (Nat.le_of_ble_eq_true rfl) dX11_goalOf_102 rfl ?_
            show zX shR σ 4 MX11_goalOf 105 [(4, zi (μ 1 (71 + 5 * r + 2))), (3, zi (nI (71 + 5 * r))), (0, zr 0), (1, zi (nI l)), (2, zi (nI r))] [zi (pNear (rS 1 ν1) ((pSeenAt (rS 1 ν1)) - (μ 1 (71 + 5 * r + 2))))] ν1 _
            refine zx_iret rfl dX11_goalOf_105 ?_
            have hp : pHit ρ (rS 1 μ) l r = true := by show (pUnder (rS 1 μ (7 + 4 * l)) (ρ.2.1 r) && ρ.2.2.2 r (pFact _ l)) = true; rw [h34, h43]; rfl
            refine ⟨congrArg (fun x => some (zi x)) ?_, hr2.tr q1⟩
            unfold pGoal
            rw [hr3, pFirst_step hlt, hp]
            show _ = if ρ.2.2.1 r = 1000 then 41 else pNear _ (pSeenAt _ + ρ.2.2.1 r)
            rcases hd with ⟨d1, d2⟩ | ⟨n, hn, d1, ⟨d2, d3⟩ | ⟨d2, d3⟩⟩
            · exact absurd d1 h65
            · exact absurd d2 h82
            · rw [d3, if_neg (nI_m1000 hn), es2, d1, Int32.sub_eq_add_neg]
          · refine zx_aload_n (k := 2) (nn := 86) dX11_goalOf_85 rfl rfl rfl ?_
            refine zx_callVf (nn := 89) (k := 0) (d' := 0) (as := []) (rest := [zr 0]) (n := 0) (eX11_seenAt_0 σ ν1   ok2) kX11_seenAt mlX11_109 rfl rfl rfl (by decide) rfl rfl (Nat.le_of_ble_eq_true rfl) dX11_goalOf_86 rfl ?_
            show zX shR σ 4 MX11_goalOf 89 [(4, zi (μ 1 (71 + 5 * r + 2))), (3, zi (nI (71 + 5 * r))), (0, zr 0), (1, zi (nI l)), (2, zi (nI r))] [zi (pSeenAt (rS 1 ν1)), zr 0] ν1 _
            refine zx_iload (k := 0) (nn := 91) dX11_goalOf_89 rfl rfl ?_
            refine zx_iadd (nn := 92) dX11_goalOf_91 rfl ?_
            refine zx_goto (tgt := 102) dX11_goalOf_92 (by decide) ?_
            refine zx_callVf (nn := 105) (k := 0) (d' := 1) (as := [zi ((pSeenAt (rS 1 ν1)) + (μ 1 (71 + 5 * r + 2)))]) (rest := []) (n := 1) (eX11_danceAt_0 σ ν1 ((pSeenAt (rS 1 ν1)) + (μ 1 (71 + 5 * r + 2)))  ok2) kX11_danceAt mlX11_122 rfl rfl rfl (by decide) rfl rfl (Nat.le_of_ble_eq_true rfl) dX11_goalOf_102 rfl ?_
            show zX shR σ 4 MX11_goalOf 105 [(4, zi (μ 1 (71 + 5 * r + 2))), (3, zi (nI (71 + 5 * r))), (0, zr 0), (1, zi (nI l)), (2, zi (nI r))] [zi (pNear (rS 1 ν1) ((pSeenAt (rS 1 ν1)) + (μ 1 (71 + 5 * r + 2))))] ν1 _
            refine zx_iret rfl dX11_goalOf_105 ?_
            have hp : pHit ρ (rS 1 μ) l r = true := by show (pUnder (rS 1 μ (7 + 4 * l)) (ρ.2.1 r) && ρ.2.2.2 r (pFact _ l)) = true; rw [h34, h43]; rfl
            refine ⟨congrArg (fun x => some (zi x)) ?_, hr2.tr q1⟩
            unfold pGoal
            rw [hr3, pFirst_step hlt, hp]
            show _ = if ρ.2.2.1 r = 1000 then 41 else pNear _ (pSeenAt _ + ρ.2.2.1 r)
            rcases hd with ⟨d1, d2⟩ | ⟨n, hn, d1, ⟨d2, d3⟩ | ⟨d2, d3⟩⟩
            · exact absurd d1 h65
            · have h1000 : ¬ nI n = 1000 := fun q => absurd ((nI_eq (b := 1000) (by omega) (by omega)).mp q) (by omega)
              rw [d3, if_neg h1000, es2, d1]
            · exact absurd (d2.symm.trans h82) (by decide)
        · refine zx_bipush (v := 41) (nn := 70) rfl dX11_goalOf_68 rfl ?_
          refine zx_goto (tgt := 105) dX11_goalOf_70 (by decide) ?_
          refine zx_iret rfl dX11_goalOf_105 ?_
          have hp : pHit ρ (rS 1 μ) l r = true := by show (pUnder (rS 1 μ (7 + 4 * l)) (ρ.2.1 r) && ρ.2.2.2 r (pFact _ l)) = true; rw [h34, h43]; rfl
          refine ⟨congrArg (fun x => some (zi x)) ?_, hr2.tr q1⟩
          unfold pGoal
          rw [hr3, pFirst_step hlt, hp]
          show _ = if ρ.2.2.1 r = 1000 then 41 else pNear _ (pSeenAt _ + ρ.2.2.1 r)
          rcases hd with ⟨d1, d2⟩ | ⟨n, hn, d1, ⟨d2, d3⟩ | ⟨d2, d3⟩⟩
          · rw [if_pos d2]
          · exact absurd (d2.symm.trans h65) (by decide)
          · exact absurd (d2.symm.trans h65) (by decide)
