theorem wT_kd {μ ν : zM} (e : cS 18 μ = rS 1 ν) {x : Nat} (hx : x < 6) : μ 19 x = rS 1 ν (7 + 4 * x) := by
  rw [← e]
  unfold cS
  rw [if_neg (by omega), if_neg (by omega), if_neg (by omega), if_neg (by omega), if_neg (by omega), if_neg (by omega), if_pos (by omega), show (7 + 4 * x - 7) % 4 = 0 by omega, show (7 + 4 * x - 7) / 4 = x by omega]
theorem wT_sz {μ ν : zM} (e : cS 18 μ = rS 1 ν) {x : Nat} (hx : x < 6) : μ 21 x = rS 1 ν (7 + 4 * x + 2) := by
  rw [← e]
  unfold cS
  rw [if_neg (by omega), if_neg (by omega), if_neg (by omega), if_neg (by omega), if_neg (by omega), if_neg (by omega), if_pos (by omega), show (7 + 4 * x + 2 - 7) % 4 = 2 by omega, show (7 + 4 * x + 2 - 7) / 4 = x by omega]
theorem wT_0 {μ ν : zM} (e : cS 18 μ = rS 1 ν) : μ 18 7 = ν 1 0 := congrFun e 0
theorem wT_1 {μ ν : zM} (e : cS 18 μ = rS 1 ν) : μ 18 8 = ν 1 1 := congrFun e 1
theorem wU_5 {μ ν : zM} (h : wU 1 1 μ ν) : μ 1 5 = ν 1 5 := by
  obtain ⟨⟨⟨n, n8, hn⟩, _⟩, h5, _⟩ := h
  rw [h5, hn]
  show _ = nI (μ 1 5).toNatClampNeg
  rw [hn, nI_clamp (by omega)]
theorem wH_c {μ ν : zM} (h : wH μ ν) : ∀ k, k < 4 → ∃ n, n ≤ 40 ∧ μ 55 k = nI n := fun k hk => by
  obtain ⟨_, g2, _, ⟨n, n4, g4⟩, _⟩ := h k hk
  exact ⟨n, n4, by rw [g2]; exact g4⟩
theorem wH_r {μ ν : zM} (h : wH μ ν) : gSh ν := fun k hk => by
  obtain ⟨_, _, g3, g4, _⟩ := h k hk
  exact ⟨g3, g4⟩
theorem wP_b {μ ν : zM} {n : Nat} (h : ∀ r, r < n → (∀ w, w < 4 → cP 32 μ r w = ν 1 (47 + 4 * r + w)) ∧ (0 ≤ ν 1 (47 + 4 * r + 1) ∧ ν 1 (47 + 4 * r + 1) ≤ 40) ∧ (0 ≤ ν 1 (47 + 4 * r + 2) ∧ ν 1 (47 + 4 * r + 2) ≤ 9)) : gPB ν n := fun r hr => (h r hr).2
theorem pFit_c {P Q : Nat → Nat → Int32} {st pc a b : Int32} : ∀ {n : Nat}, (∀ r, r < n → ∀ w, w < 4 → P r w = Q r w) → (∀ r, r < n → (nI r = a ↔ nI r = b)) → pFit P st pc a n = pFit Q st pc b n
  | 0, _, _ => rfl
  | n + 1, h, g => by
    unfold pFit
    rw [pFit_c (n := n) (fun r hr => h r (by omega)) (fun r hr => g r (by omega))]
    unfold pFitAt
    rw [h n (by omega) 0 (by omega), h n (by omega) 1 (by omega), h n (by omega) 2 (by omega), h n (by omega) 3 (by omega), show decide (nI n = a) = decide (nI n = b) by rw [decide_eq_decide]; exact g n (by omega)]
theorem pWalks_c {P Q : Nat → Nat → Int32} {a b : Int32} {n : Nat} (h : ∀ r, r < n → ∀ w, w < 4 → P r w = Q r w) (g : ∀ r, r < n → (nI r = a ↔ nI r = b)) : pWalks P n a = pWalks Q n b := by
  have H : ∀ (x : Int32 × Int32) m, pWalk P n a x m = pWalk Q n b x m := by
    intro x m
    induction m with
    | zero => rfl
    | succ m ih => unfold pWalk; rw [ih, pFit_c h g]
  exact H _ _
theorem pWalks_n {P Q : Nat → Nat → Int32} {n : Nat} (n6 : n ≤ 6) (h : ∀ r, r < n → ∀ w, w < 4 → P r w = Q r w) : pWalks P n (-3) = pWalks Q n (-1) :=
  pWalks_c h (fun r hr => ⟨fun q => absurd q (nI_ne3 (by omega)), fun q => absurd q (nI_ne1 (by omega))⟩)
theorem pFirst_c {f g : Nat → Bool} : ∀ {m r : Nat}, (∀ j, f j = g j) → pFirst f r m = pFirst g r m
  | 0, _, _ => rfl
  | m + 1, r, h => by
    unfold pFirst
    rw [h r, pFirst_c (m := m) h]
theorem pLiar_c {P Q : Nat → Nat → Int32} {n : Nat} (n6 : n ≤ 6) (h : ∀ r, r < n → ∀ w, w < 4 → P r w = Q r w) : pLiar P n (-3) = pLiar Q n (-1) := by
  unfold pLiar
  rw [pWalks_n n6 h, pFirst_c (fun j => by rw [pWalks_c h (fun _ _ => Iff.rfl)])]
theorem pItems_c {ρ : pR} {a b : Nat → Int32} {i : Int32} {st : Bool} {ln : Nat} (l4 : ln ≤ 40) (h : ∀ j, j < 40 → a j = b j) : ∀ (m k : Nat) (sum : Int32) (s : Nat → Int32), pItems ρ (nI ln) a i st m k sum s = pItems ρ (nI ln) b i st m k sum s
  | 0, _, _, _ => rfl
  | m + 1, k, sum, s => by
    unfold pItems
    by_cases q : pHas (nI ln) (i + nI k) = true
    · obtain ⟨j, ⟨j1, j2, j3⟩, e⟩ := has_item rfl l4 q
      rw [if_pos q, if_pos q, e, j3, h j j2, pItems_c l4 h m, pItems_c l4 h m]
    · rw [if_neg q, if_neg q]
theorem wNo {μ ν : zM} (h : wH μ ν) (k n : Int32) : vNoActs μ k n = gNo ν k n := by
  unfold vNoActs gNo
  by_cases q : pHas 4 k = true ∧ pIn n 0 20 = true
  · rw [if_pos q, if_pos q]
    obtain ⟨j, ⟨j1, j2, j3⟩, e⟩ := has_ok (s := fun _ => 0) (x := 4) (m := 4) (c := 4) rfl (Nat.le_refl _) (by omega) q.1
    subst e
    rw [j3]
    obtain ⟨g1, _, g3, _⟩ := h j j1
    rw [g1]
    simp only [lt0_m1 g3.1]
  · rw [if_neg q, if_neg q]
theorem wItems {μ ν : zM} {ρ : pR} {s t : Nat → Int32} {k i n : Int32} {st : Bool} (h : wH μ ν) (e : s = t) (hk : vNoActs μ k n = 0) : pItems ρ (μ 55 k.toNatClampNeg) (μ (57 + k.toNatClampNeg)) i st n.toNatClampNeg 0 0 s = pItems ρ (ν 19 k.toNatClampNeg) (fun j_ => ν 20 (40 * k.toNatClampNeg + j_)) i st n.toNatClampNeg 0 0 t := by
  subst e
  have q : pHas 4 k = true := by
    unfold vNoActs at hk
    by_cases q : pHas 4 k = true ∧ pIn n 0 20 = true
    · exact q.1
    · rw [if_neg q] at hk; exact absurd hk (by decide)
  obtain ⟨j, ⟨j1, j2, j3⟩, e⟩ := has_ok (s := fun _ => 0) (x := 4) (m := 4) (c := 4) rfl (Nat.le_refl _) (by omega) q
  subst e
  rw [j3]
  obtain ⟨_, g2, _, ⟨ln, l4, g4⟩, g5⟩ := h j j1
  rw [g2, g4, pItems_c l4 g5]
theorem wRow_v {μ ν : zM} {c : Nat} {k w : Int32} (c4 : c ≤ 4) (h1 : μ 47 3 = nI c) (h : ∀ k, k < c → ∀ w, w < 3 → μ (49 + k) w = ν 17 (3 * k + w)) : (if (pHas (μ 47 3) k && pHas 3 w) = true then μ (49 + k.toNatClampNeg) w.toNatClampNeg else -9) = (if (pHas (nI c) k && pHas 3 w) = true then ν 17 (3 * k.toNatClampNeg + w.toNatClampNeg) else -9) := by
  rw [h1]
  by_cases q : (pHas (nI c) k && pHas 3 w) = true
  · obtain ⟨k1, w1, ⟨q1, q2, q3, q4, q5⟩, rfl, rfl⟩ := pHas_row c4 q
    rw [if_pos q, if_pos q, q3, q4, h k1 q5 w1 q2]
  · rw [if_neg q, if_neg q]
theorem wItem_v {μ ν : zM} (h : wH μ ν) (k q i : Int32) : vItem μ k q i = (if pHas 4 k = true ∧ pIn q 0 4 = true then (if ν 18 k.toNatClampNeg < 0 then -11 else if ν 18 k.toNatClampNeg = q then (if pHas (ν 19 k.toNatClampNeg) i = true then ν 20 (40 * k.toNatClampNeg + i.toNatClampNeg) else -12) else -13) else -1) := by
  unfold vItem
  by_cases c : pHas 4 k = true ∧ pIn q 0 4 = true
  · rw [if_pos c, if_pos c]
    obtain ⟨j, ⟨j1, j2, j3⟩, e⟩ := has_ok (s := fun _ => 0) (x := 4) (m := 4) (c := 4) rfl (Nat.le_refl _) (by omega) c.1
    subst e
    rw [j3]
    obtain ⟨g1, g2, g3, ⟨ln, l4, g4⟩, g5⟩ := h j j1
    rw [g1, g2]
    simp only [lt0_m1 g3.1]
    by_cases d : pHas (ν 19 j) i = true
    · obtain ⟨i1, ⟨_, i2, i3⟩, e⟩ := has_item g4 l4 d
      subst e
      rw [if_pos d, if_pos d, i3, g5 i1 i2]
    · rw [if_neg d, if_neg d]
  · rw [if_neg c, if_neg c]
theorem wW_32 {μ μ' ν ν' : zM} (h : wW μ ν) (p2 : zJ [32] μ μ') (p3 : cP 32 μ' = cP 32 μ) (p4 : μ' 32 4 = μ 32 4) (q2 : zJ [0] ν ν') (q3 : rF2 24 25 ν ν') : wW μ' ν' := by
  obtain ⟨a1, a2, ⟨n, n6, h1, h2, h3⟩, a4, a5, a6, a7, a8, a9⟩ := h
  have k1 := q2 1 (by decide)
  have c : ∀ k, k ≠ 32 → μ' k = μ k := fun k hk => p2 k (by rw [List.mem_singleton]; exact hk)
  have d : ∀ k, k ≠ 0 → ν' k = ν k := fun k hk => q2 k (by rw [List.mem_singleton]; exact hk)
  refine ⟨wT_f (fun q hq => c _ (by omega)) (rS_eq k1) a1, wU_f (fun q hq => c _ (by omega)) (fun i _ => by rw [k1]) a2, ⟨n, n6, by rw [p4, h1], by rw [k1, h2], fun r hr => by rw [p3, k1]; exact h3 r hr⟩,
    wF_f (by rw [c 7 (by omega)]) (c 8 (by omega)) (c 15 (by omega)) (q3 6 (by omega) (by omega)) (d 5 (by omega)) a4, wR_f (by rw [c 47 (by omega)]) (fun k hk => c _ (by omega)) (q3 27 (by omega) (by omega)) (d 17 (by omega)) a5,
    wH_f (c 54 (by omega)) (c 55 (by omega)) (fun k hk => c _ (by omega)) (d 18 (by omega)) (d 19 (by omega)) (d 20 (by omega)) a6,
    wL_f (c 62 (by omega)) (c 63 (by omega)) (c 64 (by omega)) (d 21 (by omega)) (d 22 (by omega)) (d 23 (by omega)) a7,
    wC_f (by rw [c 65 (by omega)]) (c 66 (by omega)) (q3 35 (by omega) (by omega)) (d 24 (by omega)) a8, wK_f (by rw [c 0 (by omega)]) (fun k q1 q2 => c k (by omega)) (q3 3 (by omega) (by omega)) (fun j _ => by rw [d 2 (by omega)]) a9⟩
theorem w_judge : wCall 6 MX10_judge yX10_judge 7 MX11_judge yX11_judge [zr 0] := by
  intro σ τ μ ν h
  have hW := h
  obtain ⟨⟨e, ok, ab⟩, ⟨rok, hρ⟩, a3, a4, a5, a6, a7, a8, a9⟩ := h
  obtain ⟨c, c4, h1, h2, h3⟩ := a5
  refine ⟨_, _, eX10_judge_0 σ μ c (by rw [e]; exact ok) rok c4 h1, eX11_judge_0 τ ν c ok ab hρ c4 h2, ?_⟩
  rintro r μ' t ν' ⟨p1, p2⟩ ⟨q1, q2⟩
  exact ⟨_, p1, by rw [q1, e, pJd_congr (fun j w _ hj hw => h3 j (by omega) w hw)], wW_b hW p2 q2 (by decide) (by decide) (fun j _ => by rw [q2 0 (by decide)])⟩
theorem w_often (n : Int32) (v : Int32) : wCall 7 MX10_often yX10_often 8 MX11_often yX11_often [zr 0, zi n, zi v] := by
  intro σ τ μ ν h
  have hW := h
  obtain ⟨⟨e, ok, ab⟩, ⟨rok, hρ⟩, a3, a4, a5, a6, a7, a8, a9⟩ := h
  refine ⟨_, _, eX10_often_0 σ μ n v (by rw [e]; exact ok) rok, eX11_often_0 τ ν n v ok ab hρ, ?_⟩
  rintro r μ' t ν' ⟨p1, p2⟩ ⟨q1, q2, q3, q4⟩
  have c : ∀ k, k ∈ wCc ++ [72] → μ' k = μ k := fun k hk => p2 k (by
    have := (List.all_eq_true.mp (show (wCc ++ [72]).all (fun k => decide (k ∉ [6, 25, 26, 27, 28, 29, 30, 31])) = true by decide)) k hk
    rw [decide_eq_true_eq] at this; exact this)
  have d : ∀ k, k ∈ wRc → ν' k = ν k := fun k hk => q4 k (by
    have := (List.all_eq_true.mp (show wRc.all (fun k => decide (k ∉ [1, 3, 4, 6])) = true by decide)) k hk
    rw [decide_eq_true_eq] at this; exact this)
  have z := q4 0 (by decide)
  exact ⟨_, p1, by rw [q1, e], wW_f (fun k hk _ _ => c k (List.mem_append_left _ hk)) (by rw [c 0 (by decide)]) (c 72 (by decide)) d q3 (by rw [z]) (by rw [z]) (by rw [z]) (by rw [z]) hW⟩
theorem w_row (k : Int32) (w : Int32) : wCall 1 MX10_row yX10_row 2 MX11_row yX11_row [zr 0, zi k, zi w] := by
  intro σ τ μ ν h
  have hW := h
  obtain ⟨⟨e, ok, ab⟩, ⟨rok, hρ⟩, a3, a4, a5, a6, a7, a8, a9⟩ := h
  obtain ⟨c, c4, h1, h2, h3⟩ := a5
  refine ⟨_, _, eX10_row_0 σ μ k w c c4 h1, eX11_row_0 τ ν k w c c4 h2, ?_⟩
  rintro r μ' t ν' ⟨p1, rfl⟩ ⟨q1, rfl⟩
  exact ⟨_, p1, by rw [q1, wRow_v c4 h1 h3], hW⟩
theorem w_item (k : Int32) (sort : Int32) (i : Int32) : wCall 2 MX10_item yX10_item 2 MX11_item yX11_item [zr 0, zi k, zi sort, zi i] := by
  intro σ τ μ ν h
  have hW := h
  obtain ⟨⟨e, ok, ab⟩, ⟨rok, hρ⟩, a3, a4, a5, a6, a7, a8, a9⟩ := h
  refine ⟨_, _, eX10_item_0 σ μ k sort i (wH_c a6), eX11_item_0 τ ν k sort i (wH_r a6), ?_⟩
  rintro r μ' t ν' ⟨p1, rfl⟩ ⟨q1, rfl⟩
  exact ⟨_, p1, by rw [q1, wItem_v a6], hW⟩
theorem w_wouldBe (k : Int32) (i : Int32) (n : Int32) : wCall 6 MX10_wouldBe yX10_wouldBe 8 MX11_wouldBe yX11_wouldBe [zr 0, zi k, zi i, zi n] := by
  intro σ τ μ ν h
  have hW := h
  obtain ⟨⟨e, ok, ab⟩, ⟨rok, hρ⟩, a3, a4, a5, a6, a7, a8, a9⟩ := h
  refine ⟨_, _, eX10_wouldBe_0 σ μ k i n (by rw [e]; exact ok) rok (wH_c a6), eX11_wouldBe_0 τ ν k i n ok ab hρ (wH_r a6), ?_⟩
  rintro r μ' t ν' ⟨p1, p2⟩ ⟨q1, q2⟩
  refine ⟨_, p1, ?_, wW_b hW p2 q2 (by decide) (by decide) (fun j _ => by rw [q2 0 (by decide)])⟩
  rw [q1, ← wNo a6]
  by_cases z : vNoActs μ k n = 0
  · rw [if_pos z, if_pos z, wItems a6 e z]
  · rw [if_neg z, if_neg z]
theorem w_trace (i : Int32) : wCall 0 MX10_trace yX10_trace 1 MX11_trace yX11_trace [zr 0, zi i] := by
  intro σ τ μ ν h
  have hW := h
  obtain ⟨⟨e, ok, ab⟩, ⟨rok, hρ⟩, a3, a4, a5, a6, a7, a8, a9⟩ := h
  obtain ⟨c, c3, h1, h2, h3⟩ := a8
  refine ⟨_, _, eX10_trace_0 σ μ i c h1 c3, eX11_trace_0 τ ν i c h2 c3, ?_⟩
  rintro r μ' t ν' ⟨p1, rfl⟩ ⟨q1, rfl⟩
  refine ⟨_, p1, ?_, hW⟩
  rw [q1, h1]
  by_cases q : pHas (nI c) i = true
  · obtain ⟨j, ⟨j1, j2, j3⟩, e⟩ := has_item rfl (by omega : c ≤ 40) q
    subst e
    rw [if_pos q, if_pos q, j3, h3 j j1]
  · rw [if_neg q, if_neg q]
theorem w_many (w : Int32) : wCall 0 MX10_many yX10_many 0 MX11_many yX11_many [zr 0, zi w] := by
  intro σ τ μ ν h
  have hW := h
  obtain ⟨⟨e, ok, ab⟩, ⟨rok, hρ⟩, a3, a4, a5, a6, a7, a8, a9⟩ := h
  refine ⟨_, _, eX10_many_0 σ μ w, eX11_many_0 τ ν w, ?_⟩
  rintro r μ' t ν' ⟨p1, rfl⟩ ⟨q1, rfl⟩
  refine ⟨_, p1, ?_, hW⟩
  obtain ⟨n3, _, b1, b2, _⟩ := a3
  obtain ⟨⟨n4, _, b3, b4, _⟩, _⟩ := a4
  obtain ⟨n5, _, b5, b6, _⟩ := a5
  obtain ⟨n8, _, b7, b8, _⟩ := a8
  rw [q1]
  unfold vMany
  rw [wT_0 e, wT_1 e, wU_5 ⟨rok, hρ⟩, b1, b2, b3, b4, b5, b6, b7, b8]
theorem w_span (w : Int32) : wCall 4 MX10_span yX10_span 4 MX11_span yX11_span [zr 0, zi w] := by
  intro σ τ μ ν h
  have hW := h
  obtain ⟨⟨e, ok, ab⟩, ⟨rok, hρ⟩, a3, a4, a5, a6, a7, a8, a9⟩ := h
  obtain ⟨n, n6, h1, h2, h3⟩ := a3
  have hc : ∀ r, r < n → ∀ w, w < 4 → cP 32 μ r w = gP ν r w := fun r hr w hw => (h3 r hr).1 w hw
  refine ⟨_, _, eX10_span_0 σ μ w n h1 n6, eX11_span_0 τ ν w n h2 n6 (wP_b h3), ?_⟩
  rintro r μ' t ν' ⟨p1, p2, p3, p4⟩ ⟨q1, q2, q3⟩
  refine ⟨_, p1, ?_, wW_32 hW p2 p3 (by rw [p4, h1]) q2 q3⟩
  rw [q1]
  unfold vSpan
  rw [pWalks_n n6 hc]
theorem w_liar : wCall 5 MX10_liar yX10_liar 4 MX11_liar yX11_liar [zr 0] := by
  intro σ τ μ ν h
  have hW := h
  obtain ⟨⟨e, ok, ab⟩, ⟨rok, hρ⟩, a3, a4, a5, a6, a7, a8, a9⟩ := h
  obtain ⟨n, n6, h1, h2, h3⟩ := a3
  have hc : ∀ r, r < n → ∀ w, w < 4 → cP 32 μ r w = gP ν r w := fun r hr w hw => (h3 r hr).1 w hw
  refine ⟨_, _, eX10_liar_0 σ μ n h1 n6, eX11_liar_0 τ ν n h2 n6 (wP_b h3), ?_⟩
  rintro r μ' t ν' ⟨p1, p2, p3, p4⟩ ⟨q1, q2, q3⟩
  refine ⟨_, p1, ?_, wW_32 hW p2 p3 (by rw [p4, h1]) q2 q3⟩
  rw [q1, pLiar_c n6 hc]
