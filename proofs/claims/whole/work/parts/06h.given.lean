theorem lw_t {w : Cond} {i : Nat} (h : tables_1[i]? = some w) : w ∈ lw_tbl := List.mem_append_right _ (List.mem_of_getElem? h)
theorem k_mem {w : va_W} {q : Nat} (h : q ∈ w.map Prod.fst) : ∃ (i : Nat) (e : va_E), w[i]? = some (q, e) := by
  obtain ⟨x, hx, rfl⟩ := List.mem_map.mp h
  obtain ⟨i, hi⟩ := List.getElem?_of_mem hx
  exact ⟨i, x.2, hi⟩
theorem k_P1 {D : va_G} {cl : List vw_C} {w1 w2 : va_W} {H : Heap} (h : va_P D cl (w1 ++ w2) H) : va_P D cl w1 H := fun k q hq => h k q (by rw [List.getElem?_append_left (List.getElem?_eq_some_iff.mp hq).1]; exact hq)
theorem k_up2 {w1 w2 : va_W} {k : Nat} {q : Nat × va_E} (hq : w2[k]? = some q) : (w1 ++ w2)[w1.length + k]? = some q := by
  rw [List.getElem?_append_right (Nat.le_add_right _ _), Nat.add_sub_cancel_left]; exact hq
theorem k_up1 {w1 w2 : va_W} {k : Nat} {q : Nat × va_E} (hq : w1[k]? = some q) : (w1 ++ w2)[k]? = some q := by
  rw [List.getElem?_append_left (List.getElem?_eq_some_iff.mp hq).1]; exact hq
theorem k_P2 {D : va_G} {cl : List vw_C} {w1 w2 : va_W} {H : Heap} (h : va_P D cl (w1 ++ w2) H) : va_P D cl w2 H := fun k q hq => h _ q (k_up2 hq)
theorem k_D1 {A : Nat → Prop} {w1 w2 : va_W} (h : va_D A (w1 ++ w2)) : va_D A w1 := ⟨fun i j p q hi hj e => h.1 i j p q (k_up1 hi) (k_up1 hj) e, fun k q hq => h.2 k q (k_up1 hq)⟩
theorem k_D2 {A : Nat → Prop} {w1 w2 : va_W} (h : va_D A (w1 ++ w2)) : va_D A w2 := ⟨fun i j p q hi hj e => by have := h.1 _ _ p q (k_up2 (w1 := w1) hi) (k_up2 (w1 := w1) hj) e; omega, fun k q hq => h.2 _ q (k_up2 hq)⟩
theorem k_apart {A : Nat → Prop} {w1 w2 : va_W} (h : va_D A (w1 ++ w2)) {q : Nat} (h1 : q ∈ w1.map Prod.fst) (h2 : q ∈ w2.map Prod.fst) : False := by
  obtain ⟨i, e, hi⟩ := k_mem h1
  obtain ⟨j, e', hj⟩ := k_mem h2
  have h3 := h.1 _ _ _ _ (k_up1 (w2 := w2) hi) (k_up2 (w1 := w1) hj) rfl
  have := (List.getElem?_eq_some_iff.mp hi).1
  omega
theorem k_in {A : Nat → Prop} {w : va_W} (h : va_D A w) {q : Nat} (h1 : q ∈ w.map Prod.fst) : A q := by
  obtain ⟨i, e, hi⟩ := k_mem h1
  exact h.2 i _ hi
theorem k_all {σ : zG} {sh : List zS} {μ0 : zM} {w : va_W} {A : Nat → Prop} (e : zW σ sh μ0 = w) (hD : va_D A w) (hA : ∀ q, q ∈ w.map Prod.fst → zA σ q) (μ : zM) : va_D (zA σ) (zW σ sh μ) := by
  have key : ∀ (i : Nat) (p : Nat × va_E), (zW σ sh μ)[i]? = some p → ∃ p' : Nat × va_E, w[i]? = some p' ∧ p'.1 = p.1 := by
    intro i p h
    rw [← e]
    unfold zW at h ⊢
    rw [zWl_get] at h ⊢
    cases hs : sh[i]? with
    | none => rw [hs] at h; cases h
    | some x => rw [hs] at h; cases h; exact ⟨(zad σ (0 + i), zE σ (μ0 (0 + i)) x), rfl, rfl⟩
  refine ⟨fun i j p q hi hj h => ?_, fun k q hq => ?_⟩
  · obtain ⟨p', h1, h2⟩ := key i p hi
    obtain ⟨q', h3, h4⟩ := key j q hj
    exact hD.1 i j p' q' h1 h3 (by rw [h2, h4, h])
  · obtain ⟨q', h1, h2⟩ := key k q hq
    rw [← h2]
    exact hA _ (List.mem_map.mpr ⟨q', List.mem_of_getElem? h1, rfl⟩)
def ktm : Nat → Term := fun i => .string "LampThatFollows$RuleText" (109 + 2 * i)
theorem k_len18 : ∀ i, i < 18 → zLn.getD i 0 < 2 ^ 31 := by decide
theorem k_ln18 : ∀ i, i < 18 → ∀ j, j < 18 → Int32.ofNat (zLn.getD i 0) = Int32.ofNat (zLn.getD j 0) → zLn.getD i 0 = zLn.getD j 0 := by decide +kernel
theorem k_inj18 : ∀ i, i < 18 → ∀ j, j < 18 → (zLn.getD i 0 = zLn.getD j 0 ∧ ∀ k, k < zLn.getD i 0 → (zBy.getD i []).getD k 0 = (zBy.getD j []).getD k 0) → i = j := by decide +kernel
theorem k_strs {args : Array Value} {s : State} {A : Nat → Prop} (hex : ∀ i : Nat, i < 18 → (Cond.exactly (ktm i) "java/lang/String").before args s = true) (hco : ∀ i : Nat, i < 18 → (Cond.eq (.field (ktm i) "java/lang/String" "coder" "B") (.int 0)).before args s = true)
    (har : ∀ i : Nat, i < 18 → (Cond.arrayOf (.field (ktm i) "java/lang/String" "value" "[B") .byte).before args s = true) (hle : ∀ i : Nat, i < 18 → (Cond.eq (.length (.field (ktm i) "java/lang/String" "value" "[B")) (.int (Int32.ofNat (zLn.getD i 0)))).before args s = true)
    (hel : ∀ i : Nat, i < 18 → ∀ j : Nat, j < zLn.getD i 0 → (Cond.eq (.elem (.field (ktm i) "java/lang/String" "value" "[B") (.int (Int32.ofNat j))) (.int ((zBy.getD i []).getD j 0))).before args s = true) (hA : ∀ a : Nat, a < s.heap.size → ¬ A a) :
    ∃ adK adV : Nat → Nat, vk_S 18 zLn zBy adK adV A s s.heap ∧ ∀ i : Nat, i < 18 → (ktm i).eval args s none [] s = some (.ref (adK i)) := by
  have h0 : ∀ i : Nat, ∃ q : Nat × Nat, i < 18 → vk_S 1 [zLn.getD i 0] [zBy.getD i []] (fun _ => q.1) (fun _ => q.2) A s s.heap ∧ (ktm i).eval args s none [] s = some (.ref q.1) := by
    intro i
    by_cases hi : i < 18
    · obtain ⟨k, v, h1, h2⟩ := vk_Sof (N := 1) (tm := fun _ => ktm i) (len := [zLn.getD i 0]) (byt := [zBy.getD i []]) (A := A) (fun j hj => by rw [show j = 0 by omega]; exact k_len18 i hi) (fun j hj => hex i hi) (fun j hj => hco i hi) (fun j hj => har i hi) (fun j hj => by rw [show j = 0 by omega]; exact hle i hi) (fun j hj => by rw [show j = 0 by omega]; exact hel i hi) (fun a c ha hc h => absurd (show a = c by omega) h) hA
      refine ⟨(k 0, v 0), fun _ => ⟨⟨fun j hj => ?_, fun a c ha hc _ => by omega⟩, h2 0 (by omega)⟩⟩
      have h3 := h1.1 0 (by omega)
      rw [show j = 0 by omega]
      exact h3
    · exact ⟨(0, 0), fun h => absurd h hi⟩
  obtain ⟨ad, had⟩ := Classical.axiomOfChoice h0
  refine ⟨fun i => (ad i).1, fun i => (ad i).2, ⟨fun i hi => (had i hi).1.1 0 (by omega), fun i j hi hj e => ?_⟩, fun i hi => (had i hi).2⟩
  have e : (ad i).1 = (ad j).1 := e
  obtain ⟨-, -, ⟨cf, k, fi, f, cell, f1, f2, f3, f4, f5, f6⟩, ⟨ci, i1, i2, i3, i4, i5, i6, i7⟩⟩ := (had i hi).1.1 0 (by omega)
  obtain ⟨-, -, ⟨cf', k', fi', f', cell', g1, g2, g3, g4, g5, g6⟩, ⟨cj, j1, j2, j3, j4, j5, j6, j7⟩⟩ := (had j hj).1.1 0 (by omega)
  have f3 : s.heap[(ad i).1]? = some cell := f3
  have g3 : s.heap[(ad j).1]? = some cell' := g3
  rw [e] at f3
  rw [f3] at g3
  cases g3
  rw [f1] at g1
  cases g1
  rw [f5] at g5
  have ev : (ad i).2 = (ad j).2 := by
    have := Option.some.inj g5
    exact (Value.ref.inj this)
  have i1 : s.heap[(ad i).2]? = some ci := i1
  have j1 : s.heap[(ad j).2]? = some cj := j1
  rw [ev] at i1
  rw [i1] at j1
  cases j1
  have hn : zLn.getD i 0 = zLn.getD j 0 := k_ln18 i hi j hj (i5.symm.trans j5)
  refine k_inj18 i hi j hj ⟨hn, fun k hk => ?_⟩
  have h1 := i6 k hk
  have h2 := j6 k (by show k < zLn.getD j 0; rw [← hn]; exact hk)
  rw [h1] at h2
  exact Value.int.inj (Option.some.inj h2)
theorem k_r0_109 {s : State} {b : Nat} {adK : Nat → Nat} (hts : ∀ w ∈ lw_tbl, w.before #[Value.ref b] s = true) (hs : ∀ c ∈ flatC (Jvm.Cond.and given_1 narrow_1), c.before #[Value.ref b] s = true) (hE : ∀ i : Nat, i < 18 → (ktm i).eval #[Value.ref b] s none [] s = some (.ref (adK i))) : vk_R "LampThatFollows$RuleText" 109 "hand" (adK 0) s := vk_R.of (A := #[Value.ref b]) (hts _ (lw_t (i := 540) (by decide +kernel))) (hE 0 (by decide))
theorem k_r0_111 {s : State} {b : Nat} {adK : Nat → Nat} (hts : ∀ w ∈ lw_tbl, w.before #[Value.ref b] s = true) (hs : ∀ c ∈ flatC (Jvm.Cond.and given_1 narrow_1), c.before #[Value.ref b] s = true) (hE : ∀ i : Nat, i < 18 → (ktm i).eval #[Value.ref b] s none [] s = some (.ref (adK i))) : vk_R "LampThatFollows$RuleText" 111 "steady" (adK 1) s := vk_R.of (A := #[Value.ref b]) (hts _ (lw_t (i := 541) (by decide +kernel))) (hE 1 (by decide))
theorem k_r0_113 {s : State} {b : Nat} {adK : Nat → Nat} (hts : ∀ w ∈ lw_tbl, w.before #[Value.ref b] s = true) (hs : ∀ c ∈ flatC (Jvm.Cond.and given_1 narrow_1), c.before #[Value.ref b] s = true) (hE : ∀ i : Nat, i < 18 → (ktm i).eval #[Value.ref b] s none [] s = some (.ref (adK i))) : vk_R "LampThatFollows$RuleText" 113 "quick" (adK 2) s := vk_R.of (A := #[Value.ref b]) (hts _ (lw_t (i := 542) (by decide +kernel))) (hE 2 (by decide))
theorem k_r0_115 {s : State} {b : Nat} {adK : Nat → Nat} (hts : ∀ w ∈ lw_tbl, w.before #[Value.ref b] s = true) (hs : ∀ c ∈ flatC (Jvm.Cond.and given_1 narrow_1), c.before #[Value.ref b] s = true) (hE : ∀ i : Nat, i < 18 → (ktm i).eval #[Value.ref b] s none [] s = some (.ref (adK i))) : vk_R "LampThatFollows$RuleText" 115 "nervous" (adK 3) s := vk_R.of (A := #[Value.ref b]) (hts _ (lw_t (i := 543) (by decide +kernel))) (hE 3 (by decide))
theorem k_r0_117 {s : State} {b : Nat} {adK : Nat → Nat} (hts : ∀ w ∈ lw_tbl, w.before #[Value.ref b] s = true) (hs : ∀ c ∈ flatC (Jvm.Cond.and given_1 narrow_1), c.before #[Value.ref b] s = true) (hE : ∀ i : Nat, i < 18 → (ktm i).eval #[Value.ref b] s none [] s = some (.ref (adK i))) : vk_R "LampThatFollows$RuleText" 117 "old" (adK 4) s := vk_R.of (A := #[Value.ref b]) (hts _ (lw_t (i := 544) (by decide +kernel))) (hE 4 (by decide))
theorem k_r0_119 {s : State} {b : Nat} {adK : Nat → Nat} (hts : ∀ w ∈ lw_tbl, w.before #[Value.ref b] s = true) (hs : ∀ c ∈ flatC (Jvm.Cond.and given_1 narrow_1), c.before #[Value.ref b] s = true) (hE : ∀ i : Nat, i < 18 → (ktm i).eval #[Value.ref b] s none [] s = some (.ref (adK i))) : vk_R "LampThatFollows$RuleText" 119 "tired" (adK 5) s := vk_R.of (A := #[Value.ref b]) (hts _ (lw_t (i := 545) (by decide +kernel))) (hE 5 (by decide))
theorem k_r0_121 {s : State} {b : Nat} {adK : Nat → Nat} (hts : ∀ w ∈ lw_tbl, w.before #[Value.ref b] s = true) (hs : ∀ c ∈ flatC (Jvm.Cond.and given_1 narrow_1), c.before #[Value.ref b] s = true) (hE : ∀ i : Nat, i < 18 → (ktm i).eval #[Value.ref b] s none [] s = some (.ref (adK i))) : vk_R "LampThatFollows$RuleText" 121 "if" (adK 6) s := vk_R.of (A := #[Value.ref b]) (hts _ (lw_t (i := 546) (by decide +kernel))) (hE 6 (by decide))
theorem k_r0_123 {s : State} {b : Nat} {adK : Nat → Nat} (hts : ∀ w ∈ lw_tbl, w.before #[Value.ref b] s = true) (hs : ∀ c ∈ flatC (Jvm.Cond.and given_1 narrow_1), c.before #[Value.ref b] s = true) (hE : ∀ i : Nat, i < 18 → (ktm i).eval #[Value.ref b] s none [] s = some (.ref (adK i))) : vk_R "LampThatFollows$RuleText" 123 "lead" (adK 7) s := vk_R.of (A := #[Value.ref b]) (hts _ (lw_t (i := 547) (by decide +kernel))) (hE 7 (by decide))
theorem k_r0_125 {s : State} {b : Nat} {adK : Nat → Nat} (hts : ∀ w ∈ lw_tbl, w.before #[Value.ref b] s = true) (hs : ∀ c ∈ flatC (Jvm.Cond.and given_1 narrow_1), c.before #[Value.ref b] s = true) (hE : ∀ i : Nat, i < 18 → (ktm i).eval #[Value.ref b] s none [] s = some (.ref (adK i))) : vk_R "LampThatFollows$RuleText" 125 "lag" (adK 8) s := vk_R.of (A := #[Value.ref b]) (hts _ (lw_t (i := 548) (by decide +kernel))) (hE 8 (by decide))
theorem k_r0_127 {s : State} {b : Nat} {adK : Nat → Nat} (hts : ∀ w ∈ lw_tbl, w.before #[Value.ref b] s = true) (hs : ∀ c ∈ flatC (Jvm.Cond.and given_1 narrow_1), c.before #[Value.ref b] s = true) (hE : ∀ i : Nat, i < 18 → (ktm i).eval #[Value.ref b] s none [] s = some (.ref (adK i))) : vk_R "LampThatFollows$RuleText" 127 "wait" (adK 9) s := vk_R.of (A := #[Value.ref b]) (hts _ (lw_t (i := 549) (by decide +kernel))) (hE 9 (by decide))
theorem k_r0_129 {s : State} {b : Nat} {adK : Nat → Nat} (hts : ∀ w ∈ lw_tbl, w.before #[Value.ref b] s = true) (hs : ∀ c ∈ flatC (Jvm.Cond.and given_1 narrow_1), c.before #[Value.ref b] s = true) (hE : ∀ i : Nat, i < 18 → (ktm i).eval #[Value.ref b] s none [] s = some (.ref (adK i))) : vk_R "LampThatFollows$RuleText" 129 "or" (adK 10) s := vk_R.of (A := #[Value.ref b]) (hts _ (lw_t (i := 550) (by decide +kernel))) (hE 10 (by decide))
theorem k_r0_131 {s : State} {b : Nat} {adK : Nat → Nat} (hts : ∀ w ∈ lw_tbl, w.before #[Value.ref b] s = true) (hs : ∀ c ∈ flatC (Jvm.Cond.and given_1 narrow_1), c.before #[Value.ref b] s = true) (hE : ∀ i : Nat, i < 18 → (ktm i).eval #[Value.ref b] s none [] s = some (.ref (adK i))) : vk_R "LampThatFollows$RuleText" 131 "and" (adK 11) s := vk_R.of (A := #[Value.ref b]) (hts _ (lw_t (i := 551) (by decide +kernel))) (hE 11 (by decide))
theorem k_r0_133 {s : State} {b : Nat} {adK : Nat → Nat} (hts : ∀ w ∈ lw_tbl, w.before #[Value.ref b] s = true) (hs : ∀ c ∈ flatC (Jvm.Cond.and given_1 narrow_1), c.before #[Value.ref b] s = true) (hE : ∀ i : Nat, i < 18 → (ktm i).eval #[Value.ref b] s none [] s = some (.ref (adK i))) : vk_R "LampThatFollows$RuleText" 133 "not" (adK 12) s := vk_R.of (A := #[Value.ref b]) (hts _ (lw_t (i := 552) (by decide +kernel))) (hE 12 (by decide))
theorem k_r0_135 {s : State} {b : Nat} {adK : Nat → Nat} (hts : ∀ w ∈ lw_tbl, w.before #[Value.ref b] s = true) (hs : ∀ c ∈ flatC (Jvm.Cond.and given_1 narrow_1), c.before #[Value.ref b] s = true) (hE : ∀ i : Nat, i < 18 → (ktm i).eval #[Value.ref b] s none [] s = some (.ref (adK i))) : vk_R "LampThatFollows$RuleText" 135 "beat" (adK 13) s := vk_R.of (A := #[Value.ref b]) (hts _ (lw_t (i := 553) (by decide +kernel))) (hE 13 (by decide))
theorem k_r0_137 {s : State} {b : Nat} {adK : Nat → Nat} (hts : ∀ w ∈ lw_tbl, w.before #[Value.ref b] s = true) (hs : ∀ c ∈ flatC (Jvm.Cond.and given_1 narrow_1), c.before #[Value.ref b] s = true) (hE : ∀ i : Nat, i < 18 → (ktm i).eval #[Value.ref b] s none [] s = some (.ref (adK i))) : vk_R "LampThatFollows$RuleText" 137 "place" (adK 14) s := vk_R.of (A := #[Value.ref b]) (hts _ (lw_t (i := 554) (by decide +kernel))) (hE 14 (by decide))
theorem k_r0_139 {s : State} {b : Nat} {adK : Nat → Nat} (hts : ∀ w ∈ lw_tbl, w.before #[Value.ref b] s = true) (hs : ∀ c ∈ flatC (Jvm.Cond.and given_1 narrow_1), c.before #[Value.ref b] s = true) (hE : ∀ i : Nat, i < 18 → (ktm i).eval #[Value.ref b] s none [] s = some (.ref (adK i))) : vk_R "LampThatFollows$RuleText" 139 "aim" (adK 15) s := vk_R.of (A := #[Value.ref b]) (hts _ (lw_t (i := 555) (by decide +kernel))) (hE 15 (by decide))
theorem k_r0_141 {s : State} {b : Nat} {adK : Nat → Nat} (hts : ∀ w ∈ lw_tbl, w.before #[Value.ref b] s = true) (hs : ∀ c ∈ flatC (Jvm.Cond.and given_1 narrow_1), c.before #[Value.ref b] s = true) (hE : ∀ i : Nat, i < 18 → (ktm i).eval #[Value.ref b] s none [] s = some (.ref (adK i))) : vk_R "LampThatFollows$RuleText" 141 "size" (adK 16) s := vk_R.of (A := #[Value.ref b]) (hts _ (lw_t (i := 556) (by decide +kernel))) (hE 16 (by decide))
theorem k_r0_143 {s : State} {b : Nat} {adK : Nat → Nat} (hts : ∀ w ∈ lw_tbl, w.before #[Value.ref b] s = true) (hs : ∀ c ∈ flatC (Jvm.Cond.and given_1 narrow_1), c.before #[Value.ref b] s = true) (hE : ∀ i : Nat, i < 18 → (ktm i).eval #[Value.ref b] s none [] s = some (.ref (adK i))) : vk_R "LampThatFollows$RuleText" 143 "number" (adK 17) s := vk_R.of (A := #[Value.ref b]) (hts _ (lw_t (i := 557) (by decide +kernel))) (hE 17 (by decide))
theorem k_r1_194 {s : State} {b : Nat} {adK : Nat → Nat} (hts : ∀ w ∈ lw_tbl, w.before #[Value.ref b] s = true) (hs : ∀ c ∈ flatC (Jvm.Cond.and given_1 narrow_1), c.before #[Value.ref b] s = true) (hE : ∀ i : Nat, i < 18 → (ktm i).eval #[Value.ref b] s none [] s = some (.ref (adK i))) : vk_R "LampThatFollowsModel" 194 "hand" (adK 0) s := vk_R.of (A := #[Value.ref b]) (hts _ (lw_t (i := 1339) (by decide +kernel))) (va_eqR (t := ktm 0) (hs (Cond.eq (ktm 0) (.string "LampThatFollowsModel" 194)) (by decide +kernel)) (hE 0 (by decide)))
theorem k_r1_200 {s : State} {b : Nat} {adK : Nat → Nat} (hts : ∀ w ∈ lw_tbl, w.before #[Value.ref b] s = true) (hs : ∀ c ∈ flatC (Jvm.Cond.and given_1 narrow_1), c.before #[Value.ref b] s = true) (hE : ∀ i : Nat, i < 18 → (ktm i).eval #[Value.ref b] s none [] s = some (.ref (adK i))) : vk_R "LampThatFollowsModel" 200 "steady" (adK 1) s := vk_R.of (A := #[Value.ref b]) (hts _ (lw_t (i := 1346) (by decide +kernel))) (va_eqR (t := ktm 1) (hs (Cond.eq (ktm 1) (.string "LampThatFollowsModel" 200)) (by decide +kernel)) (hE 1 (by decide)))
theorem k_r1_202 {s : State} {b : Nat} {adK : Nat → Nat} (hts : ∀ w ∈ lw_tbl, w.before #[Value.ref b] s = true) (hs : ∀ c ∈ flatC (Jvm.Cond.and given_1 narrow_1), c.before #[Value.ref b] s = true) (hE : ∀ i : Nat, i < 18 → (ktm i).eval #[Value.ref b] s none [] s = some (.ref (adK i))) : vk_R "LampThatFollowsModel" 202 "quick" (adK 2) s := vk_R.of (A := #[Value.ref b]) (hts _ (lw_t (i := 1347) (by decide +kernel))) (va_eqR (t := ktm 2) (hs (Cond.eq (ktm 2) (.string "LampThatFollowsModel" 202)) (by decide +kernel)) (hE 2 (by decide)))
theorem k_r1_204 {s : State} {b : Nat} {adK : Nat → Nat} (hts : ∀ w ∈ lw_tbl, w.before #[Value.ref b] s = true) (hs : ∀ c ∈ flatC (Jvm.Cond.and given_1 narrow_1), c.before #[Value.ref b] s = true) (hE : ∀ i : Nat, i < 18 → (ktm i).eval #[Value.ref b] s none [] s = some (.ref (adK i))) : vk_R "LampThatFollowsModel" 204 "nervous" (adK 3) s := vk_R.of (A := #[Value.ref b]) (hts _ (lw_t (i := 1348) (by decide +kernel))) (va_eqR (t := ktm 3) (hs (Cond.eq (ktm 3) (.string "LampThatFollowsModel" 204)) (by decide +kernel)) (hE 3 (by decide)))
theorem k_r1_206 {s : State} {b : Nat} {adK : Nat → Nat} (hts : ∀ w ∈ lw_tbl, w.before #[Value.ref b] s = true) (hs : ∀ c ∈ flatC (Jvm.Cond.and given_1 narrow_1), c.before #[Value.ref b] s = true) (hE : ∀ i : Nat, i < 18 → (ktm i).eval #[Value.ref b] s none [] s = some (.ref (adK i))) : vk_R "LampThatFollowsModel" 206 "old" (adK 4) s := vk_R.of (A := #[Value.ref b]) (hts _ (lw_t (i := 1349) (by decide +kernel))) (va_eqR (t := ktm 4) (hs (Cond.eq (ktm 4) (.string "LampThatFollowsModel" 206)) (by decide +kernel)) (hE 4 (by decide)))
theorem k_r1_208 {s : State} {b : Nat} {adK : Nat → Nat} (hts : ∀ w ∈ lw_tbl, w.before #[Value.ref b] s = true) (hs : ∀ c ∈ flatC (Jvm.Cond.and given_1 narrow_1), c.before #[Value.ref b] s = true) (hE : ∀ i : Nat, i < 18 → (ktm i).eval #[Value.ref b] s none [] s = some (.ref (adK i))) : vk_R "LampThatFollowsModel" 208 "tired" (adK 5) s := vk_R.of (A := #[Value.ref b]) (hts _ (lw_t (i := 1350) (by decide +kernel))) (va_eqR (t := ktm 5) (hs (Cond.eq (ktm 5) (.string "LampThatFollowsModel" 208)) (by decide +kernel)) (hE 5 (by decide)))
theorem k_r1_272 {s : State} {b : Nat} {adK : Nat → Nat} (hts : ∀ w ∈ lw_tbl, w.before #[Value.ref b] s = true) (hs : ∀ c ∈ flatC (Jvm.Cond.and given_1 narrow_1), c.before #[Value.ref b] s = true) (hE : ∀ i : Nat, i < 18 → (ktm i).eval #[Value.ref b] s none [] s = some (.ref (adK i))) : vk_R "LampThatFollowsModel" 272 "if" (adK 6) s := vk_R.of (A := #[Value.ref b]) (hts _ (lw_t (i := 1355) (by decide +kernel))) (va_eqR (t := ktm 6) (hs (Cond.eq (ktm 6) (.string "LampThatFollowsModel" 272)) (by decide +kernel)) (hE 6 (by decide)))
theorem k_r1_245 {s : State} {b : Nat} {adK : Nat → Nat} (hts : ∀ w ∈ lw_tbl, w.before #[Value.ref b] s = true) (hs : ∀ c ∈ flatC (Jvm.Cond.and given_1 narrow_1), c.before #[Value.ref b] s = true) (hE : ∀ i : Nat, i < 18 → (ktm i).eval #[Value.ref b] s none [] s = some (.ref (adK i))) : vk_R "LampThatFollowsModel" 245 "not" (adK 12) s := vk_R.of (A := #[Value.ref b]) (hts _ (lw_t (i := 1368) (by decide +kernel))) (va_eqR (t := ktm 12) (hs (Cond.eq (ktm 12) (.string "LampThatFollowsModel" 245)) (by decide +kernel)) (hE 12 (by decide)))
theorem k_r1_210 {s : State} {b : Nat} {adK : Nat → Nat} (hts : ∀ w ∈ lw_tbl, w.before #[Value.ref b] s = true) (hs : ∀ c ∈ flatC (Jvm.Cond.and given_1 narrow_1), c.before #[Value.ref b] s = true) (hE : ∀ i : Nat, i < 18 → (ktm i).eval #[Value.ref b] s none [] s = some (.ref (adK i))) : vk_R "LampThatFollowsModel" 210 "beat" (adK 13) s := vk_R.of (A := #[Value.ref b]) (hts _ (lw_t (i := 1389) (by decide +kernel))) (va_eqR (t := ktm 13) (hs (Cond.eq (ktm 13) (.string "LampThatFollowsModel" 210)) (by decide +kernel)) (hE 13 (by decide)))
theorem k_r1_212 {s : State} {b : Nat} {adK : Nat → Nat} (hts : ∀ w ∈ lw_tbl, w.before #[Value.ref b] s = true) (hs : ∀ c ∈ flatC (Jvm.Cond.and given_1 narrow_1), c.before #[Value.ref b] s = true) (hE : ∀ i : Nat, i < 18 → (ktm i).eval #[Value.ref b] s none [] s = some (.ref (adK i))) : vk_R "LampThatFollowsModel" 212 "place" (adK 14) s := vk_R.of (A := #[Value.ref b]) (hts _ (lw_t (i := 1390) (by decide +kernel))) (va_eqR (t := ktm 14) (hs (Cond.eq (ktm 14) (.string "LampThatFollowsModel" 212)) (by decide +kernel)) (hE 14 (by decide)))
theorem k_r1_214 {s : State} {b : Nat} {adK : Nat → Nat} (hts : ∀ w ∈ lw_tbl, w.before #[Value.ref b] s = true) (hs : ∀ c ∈ flatC (Jvm.Cond.and given_1 narrow_1), c.before #[Value.ref b] s = true) (hE : ∀ i : Nat, i < 18 → (ktm i).eval #[Value.ref b] s none [] s = some (.ref (adK i))) : vk_R "LampThatFollowsModel" 214 "aim" (adK 15) s := vk_R.of (A := #[Value.ref b]) (hts _ (lw_t (i := 1391) (by decide +kernel))) (va_eqR (t := ktm 15) (hs (Cond.eq (ktm 15) (.string "LampThatFollowsModel" 214)) (by decide +kernel)) (hE 15 (by decide)))
theorem k_r1_216 {s : State} {b : Nat} {adK : Nat → Nat} (hts : ∀ w ∈ lw_tbl, w.before #[Value.ref b] s = true) (hs : ∀ c ∈ flatC (Jvm.Cond.and given_1 narrow_1), c.before #[Value.ref b] s = true) (hE : ∀ i : Nat, i < 18 → (ktm i).eval #[Value.ref b] s none [] s = some (.ref (adK i))) : vk_R "LampThatFollowsModel" 216 "size" (adK 16) s := vk_R.of (A := #[Value.ref b]) (hts _ (lw_t (i := 1392) (by decide +kernel))) (va_eqR (t := ktm 16) (hs (Cond.eq (ktm 16) (.string "LampThatFollowsModel" 216)) (by decide +kernel)) (hE 16 (by decide)))
theorem k_r1_218 {s : State} {b : Nat} {adK : Nat → Nat} (hts : ∀ w ∈ lw_tbl, w.before #[Value.ref b] s = true) (hs : ∀ c ∈ flatC (Jvm.Cond.and given_1 narrow_1), c.before #[Value.ref b] s = true) (hE : ∀ i : Nat, i < 18 → (ktm i).eval #[Value.ref b] s none [] s = some (.ref (adK i))) : vk_R "LampThatFollowsModel" 218 "number" (adK 17) s := vk_R.of (A := #[Value.ref b]) (hts _ (lw_t (i := 1393) (by decide +kernel))) (va_eqR (t := ktm 17) (hs (Cond.eq (ktm 17) (.string "LampThatFollowsModel" 218)) (by decide +kernel)) (hE 17 (by decide)))
theorem k_r1_256 {s : State} {b : Nat} {adK : Nat → Nat} (hts : ∀ w ∈ lw_tbl, w.before #[Value.ref b] s = true) (hs : ∀ c ∈ flatC (Jvm.Cond.and given_1 narrow_1), c.before #[Value.ref b] s = true) (hE : ∀ i : Nat, i < 18 → (ktm i).eval #[Value.ref b] s none [] s = some (.ref (adK i))) : vk_R "LampThatFollowsModel" 256 "and" (adK 11) s := vk_R.of (A := #[Value.ref b]) (hts _ (lw_t (i := 1398) (by decide +kernel))) (va_eqR (t := ktm 11) (hs (Cond.eq (ktm 11) (.string "LampThatFollowsModel" 256)) (by decide +kernel)) (hE 11 (by decide)))
theorem k_r1_261 {s : State} {b : Nat} {adK : Nat → Nat} (hts : ∀ w ∈ lw_tbl, w.before #[Value.ref b] s = true) (hs : ∀ c ∈ flatC (Jvm.Cond.and given_1 narrow_1), c.before #[Value.ref b] s = true) (hE : ∀ i : Nat, i < 18 → (ktm i).eval #[Value.ref b] s none [] s = some (.ref (adK i))) : vk_R "LampThatFollowsModel" 261 "or" (adK 10) s := vk_R.of (A := #[Value.ref b]) (hts _ (lw_t (i := 1399) (by decide +kernel))) (va_eqR (t := ktm 10) (hs (Cond.eq (ktm 10) (.string "LampThatFollowsModel" 261)) (by decide +kernel)) (hE 10 (by decide)))
theorem k_r1_263 {s : State} {b : Nat} {adK : Nat → Nat} (hts : ∀ w ∈ lw_tbl, w.before #[Value.ref b] s = true) (hs : ∀ c ∈ flatC (Jvm.Cond.and given_1 narrow_1), c.before #[Value.ref b] s = true) (hE : ∀ i : Nat, i < 18 → (ktm i).eval #[Value.ref b] s none [] s = some (.ref (adK i))) : vk_R "LampThatFollowsModel" 263 "lead" (adK 7) s := vk_R.of (A := #[Value.ref b]) (hts _ (lw_t (i := 1404) (by decide +kernel))) (va_eqR (t := ktm 7) (hs (Cond.eq (ktm 7) (.string "LampThatFollowsModel" 263)) (by decide +kernel)) (hE 7 (by decide)))
theorem k_r1_265 {s : State} {b : Nat} {adK : Nat → Nat} (hts : ∀ w ∈ lw_tbl, w.before #[Value.ref b] s = true) (hs : ∀ c ∈ flatC (Jvm.Cond.and given_1 narrow_1), c.before #[Value.ref b] s = true) (hE : ∀ i : Nat, i < 18 → (ktm i).eval #[Value.ref b] s none [] s = some (.ref (adK i))) : vk_R "LampThatFollowsModel" 265 "lag" (adK 8) s := vk_R.of (A := #[Value.ref b]) (hts _ (lw_t (i := 1405) (by decide +kernel))) (va_eqR (t := ktm 8) (hs (Cond.eq (ktm 8) (.string "LampThatFollowsModel" 265)) (by decide +kernel)) (hE 8 (by decide)))
theorem k_r1_267 {s : State} {b : Nat} {adK : Nat → Nat} (hts : ∀ w ∈ lw_tbl, w.before #[Value.ref b] s = true) (hs : ∀ c ∈ flatC (Jvm.Cond.and given_1 narrow_1), c.before #[Value.ref b] s = true) (hE : ∀ i : Nat, i < 18 → (ktm i).eval #[Value.ref b] s none [] s = some (.ref (adK i))) : vk_R "LampThatFollowsModel" 267 "wait" (adK 9) s := vk_R.of (A := #[Value.ref b]) (hts _ (lw_t (i := 1406) (by decide +kernel))) (va_eqR (t := ktm 9) (hs (Cond.eq (ktm 9) (.string "LampThatFollowsModel" 267)) (by decide +kernel)) (hE 9 (by decide)))
set_option maxHeartbeats 4000000 in
set_option maxRecDepth 100000 in
theorem k_ro {s : State} {b : Nat} (hts : ∀ w ∈ lw_tbl, w.before #[Value.ref b] s = true) (hgv : (Jvm.Cond.and given_1 narrow_1).before #[Value.ref b] s = true) :
    ∃ (t : Nat) (adK : Nat → Nat), ∀ (σ : zG), zad σ 199 = t → (∀ i, zad σ (200 + i) = adK i) → (∀ q, zA σ q → s.heap.size ≤ q) → zRO σ s s.heap := by
  have hs := flat_of_before _ hgv
  have hA0 : ∀ a : Nat, a < s.heap.size → ¬ (fun q : Nat => s.heap.size ≤ q) a := fun a h => Nat.not_le.mpr h
  obtain ⟨t, ht, hT⟩ := va_Tof (tm := .static "LampThatFollows" "KIND_ABOVE" "[I") (ty := .int) (N := 6) (f := fun j => .int (zkA j)) (A := fun q : Nat => s.heap.size ≤ q) (by decide) (hs _ (by decide +kernel)) (va_eqt (hs _ (by decide +kernel))) (fun j hj => va_eqt (hs _ (by revert j hj; decide +kernel))) hA0
  have hZ := va_Zref (hts _ (lw_t (i := 429) (by decide +kernel))) (hts _ (lw_t (i := 1) (by decide +kernel))) ht hA0
  have hC : va_Z "java/lang/String" "COMPACT_STRINGS" "Z" (.int 1) (fun q : Nat => s.heap.size ≤ q) s s.heap := va_Zof (hts _ (lw_t (i := 571) (by decide +kernel))) (hts _ (lw_t (i := 15) (by decide +kernel))) (va_eqt (hs _ (by decide +kernel))) hA0
  have hF : va_Zq "jdk/internal/util/Preconditions" "SIOOBE_FORMATTER" "Ljava/util/function/BiFunction;" (fun q : Nat => s.heap.size ≤ q) s s.heap := va_Zqof (hts _ (lw_t (i := 587) (by decide +kernel))) (hts _ (lw_t (i := 17) (by decide +kernel))) (hs _ (by decide +kernel)) hA0
  obtain ⟨adK, adV, hK, hE⟩ := k_strs (args := #[Value.ref b]) (s := s) (A := fun q : Nat => s.heap.size ≤ q) (fun i hi => hs _ (by revert i hi; decide +kernel)) (fun i hi => hs _ (by revert i hi; decide +kernel)) (fun i hi => hs _ (by revert i hi; decide +kernel)) (fun i hi => hs _ (by revert i hi; decide +kernel)) (fun i hi j hj => hs _ (by revert i hi j hj; decide +kernel)) hA0
  have hR : ∀ q ∈ zPl, vk_R q.1 q.2.1 (zTx.getD q.2.2 "") (adK q.2.2) s := by
    unfold zPl
    exact (List.forall_mem_cons.mpr ⟨k_r0_109 hts hs hE, (List.forall_mem_cons.mpr ⟨k_r0_111 hts hs hE, (List.forall_mem_cons.mpr ⟨k_r0_113 hts hs hE, (List.forall_mem_cons.mpr ⟨k_r0_115 hts hs hE, (List.forall_mem_cons.mpr ⟨k_r0_117 hts hs hE, (List.forall_mem_cons.mpr ⟨k_r0_119 hts hs hE, (List.forall_mem_cons.mpr ⟨k_r0_121 hts hs hE, (List.forall_mem_cons.mpr ⟨k_r0_123 hts hs hE, (List.forall_mem_cons.mpr ⟨k_r0_125 hts hs hE, (List.forall_mem_cons.mpr ⟨k_r0_127 hts hs hE, (List.forall_mem_cons.mpr ⟨k_r0_129 hts hs hE, (List.forall_mem_cons.mpr ⟨k_r0_131 hts hs hE, (List.forall_mem_cons.mpr ⟨k_r0_133 hts hs hE, (List.forall_mem_cons.mpr ⟨k_r0_135 hts hs hE, (List.forall_mem_cons.mpr ⟨k_r0_137 hts hs hE, (List.forall_mem_cons.mpr ⟨k_r0_139 hts hs hE, (List.forall_mem_cons.mpr ⟨k_r0_141 hts hs hE, (List.forall_mem_cons.mpr ⟨k_r0_143 hts hs hE, (List.forall_mem_cons.mpr ⟨k_r1_194 hts hs hE, (List.forall_mem_cons.mpr ⟨k_r1_200 hts hs hE, (List.forall_mem_cons.mpr ⟨k_r1_202 hts hs hE, (List.forall_mem_cons.mpr ⟨k_r1_204 hts hs hE, (List.forall_mem_cons.mpr ⟨k_r1_206 hts hs hE, (List.forall_mem_cons.mpr ⟨k_r1_208 hts hs hE, (List.forall_mem_cons.mpr ⟨k_r1_272 hts hs hE, (List.forall_mem_cons.mpr ⟨k_r1_245 hts hs hE, (List.forall_mem_cons.mpr ⟨k_r1_210 hts hs hE, (List.forall_mem_cons.mpr ⟨k_r1_212 hts hs hE, (List.forall_mem_cons.mpr ⟨k_r1_214 hts hs hE, (List.forall_mem_cons.mpr ⟨k_r1_216 hts hs hE, (List.forall_mem_cons.mpr ⟨k_r1_218 hts hs hE, (List.forall_mem_cons.mpr ⟨k_r1_256 hts hs hE, (List.forall_mem_cons.mpr ⟨k_r1_261 hts hs hE, (List.forall_mem_cons.mpr ⟨k_r1_263 hts hs hE, (List.forall_mem_cons.mpr ⟨k_r1_265 hts hs hE, (List.forall_mem_cons.mpr ⟨k_r1_267 hts hs hE, (fun _ h => absurd h List.not_mem_nil)⟩)⟩)⟩)⟩)⟩)⟩)⟩)⟩)⟩)⟩)⟩)⟩)⟩)⟩)⟩)⟩)⟩)⟩)⟩)⟩)⟩)⟩)⟩)⟩)⟩)⟩)⟩)⟩)⟩)⟩)⟩)⟩)⟩)⟩)⟩)⟩)
  refine ⟨t, adK, fun σ h1 h2 h3 => ⟨?_, ?_, ⟨adV, ?_⟩, ?_, hC.narrow h3, ?_⟩⟩
  · rw [h1]; exact hZ.narrow h3
  · rw [h1]; exact hT.narrow h3
  · rw [show (fun i => zad σ (200 + i)) = adK from funext h2]
    exact hK.narrow h3
  · intro q hq
    rw [h2]
    exact hR q hq
  · rcases hF with h | ⟨t0, h⟩
    · exact ⟨none, h.narrow h3, va_Nw.of rfl (hts _ (lw_t (i := 428) (by decide +kernel)))⟩
    · exact ⟨some t0, h.narrow h3, va_Nw.of rfl (hts _ (lw_t (i := 428) (by decide +kernel)))⟩
set_option maxHeartbeats 4000000 in
theorem k_known {s : State} {b : Nat} (hts : ∀ w ∈ lw_tbl, w.before #[Value.ref b] s = true) : ∃ D : va_G, ∀ (k : Nat) (q : vw_C), vwCl[k]? = some q → u_Kn s q.1 q.2.1 q.2.2 (D.1 k) (D.2 k) := by
  have hz : ∀ w ∈ zw, w.before #[Value.ref b] s = true := fun w hw => hts w (List.mem_filter.mp hw).1
  obtain ⟨c0, i0, h0⟩ := u_known (C := RX0) (T := TX0) (N := 9) (n := 9) hz uX0 (hts _ (lw_t (i := 206) (by decide +kernel)))
  obtain ⟨c1, i1, h1⟩ := u_known (C := RX1) (T := TX1) (N := 7) (n := 7) hz uX1 (hts _ (lw_t (i := 159) (by decide +kernel)))
  obtain ⟨c2, i2, h2⟩ := u_known (C := RX2) (T := TX2) (N := 3) (n := 3) hz uX2 (hts _ (lw_t (i := 190) (by decide +kernel)))
  obtain ⟨c3, i3, h3⟩ := u_known (C := RX3) (T := TX3) (N := 4) (n := 4) hz uX3 (hts _ (lw_t (i := 247) (by decide +kernel)))
  obtain ⟨c4, i4, h4⟩ := u_known (C := RX4) (T := TX4) (N := 8) (n := 8) hz uX4 (hts _ (lw_t (i := 62) (by decide +kernel)))
  obtain ⟨c5, i5, h5⟩ := u_known (C := RX5) (T := TX5) (N := 7) (n := 7) hz uX5 (hts _ (lw_t (i := 29) (by decide +kernel)))
  obtain ⟨c6, i6, h6⟩ := u_known (C := RX6) (T := TX6) (N := 3) (n := 3) hz uX6 (hts _ (lw_t (i := 269) (by decide +kernel)))
  obtain ⟨c7, i7, h7⟩ := u_known (C := RX7) (T := TX7) (N := 5) (n := 5) hz uX7 (hts _ (lw_t (i := 289) (by decide +kernel)))
  obtain ⟨c8, i8, h8⟩ := u_known (C := RX8) (T := TX8) (N := 12) (n := 12) hz uX8 (hts _ (lw_t (i := 96) (by decide +kernel)))
  obtain ⟨c9, i9, h9⟩ := u_known (C := RX9) (T := TX9) (N := 6) (n := 6) hz uX9 (hts _ (lw_t (i := 312) (by decide +kernel)))
  obtain ⟨c10, i10, h10⟩ := u_known (C := RX10) (T := TX10) (N := 15) (n := 15) hz uX10 (hts _ (lw_t (i := 21) (by decide +kernel)))
  obtain ⟨c11, i11, h11⟩ := u_known (C := RX11) (T := TX11) (N := 40) (n := 40) hz uX11 (hts _ (lw_t (i := 1072) (by decide +kernel)))
  refine ⟨(fun k => if k = 0 then c0 else if k = 1 then c1 else if k = 2 then c2 else if k = 3 then c3 else if k = 4 then c4 else if k = 5 then c5 else if k = 6 then c6 else if k = 7 then c7 else if k = 8 then c8 else if k = 9 then c9 else if k = 10 then c10 else c11, fun k => if k = 0 then i0 else if k = 1 then i1 else if k = 2 then i2 else if k = 3 then i3 else if k = 4 then i4 else if k = 5 then i5 else if k = 6 then i6 else if k = 7 then i7 else if k = 8 then i8 else if k = 9 then i9 else if k = 10 then i10 else i11), fun k q hq => ?_⟩
  match k, hq with
  | 0, hq => cases hq; exact h0
  | 1, hq => cases hq; exact h1
  | 2, hq => cases hq; exact h2
  | 3, hq => cases hq; exact h3
  | 4, hq => cases hq; exact h4
  | 5, hq => cases hq; exact h5
  | 6, hq => cases hq; exact h6
  | 7, hq => cases hq; exact h7
  | 8, hq => cases hq; exact h8
  | 9, hq => cases hq; exact h9
  | 10, hq => cases hq; exact h10
  | 11, hq => cases hq; exact h11
  | k + 12, hq => simp [vwCl] at hq
theorem k_arrs {s : State} {b : Nat} (hts : ∀ w ∈ lw_tbl, w.before #[Value.ref b] s = true) : ∃ cI cL cA : ClassId, ∀ (k : Nat) (q : ClassId × FieldType), (kT cI cL cA)[k]? = some q → ArrOfT s q.1 q.2 ∧ va_RA s q.1 q.2 := by
  obtain ⟨cI, kI, pI, a1, a2, a3⟩ := Cond.arrayClass_spec (hts (.arrayClass .int) (lw_t (i := 60) (by decide +kernel)))
  obtain ⟨cL, kL, pL, b1, b2, b3⟩ := Cond.arrayClass_spec (hts (.arrayClass .long) (lw_t (i := 1199) (by decide +kernel)))
  obtain ⟨p, cA, kA, d1, d2, d3, d4, d5⟩ := arrayOverA_spec (hts (.arrayOver (.array .int)) (lw_t (i := 212) (by decide +kernel)))
  refine ⟨cI, cL, cA, fun k q hq => ?_⟩
  match k, hq with
  | 0, hq => cases hq; exact ⟨fun N z => ⟨(fun k h => by cases h), kI, a2, pI, a3⟩, a1⟩
  | 1, hq => cases hq; exact ⟨fun N z => ⟨(fun k h => by cases h), kL, b2, pL, b3⟩, b1⟩
  | 2, hq => cases hq; exact ⟨fun N z => ⟨(fun k h => by cases h), kA, d3, p, d4⟩, d5⟩
  | k + 3, hq => simp [kT] at hq
theorem k_nest {s : State} {b : Nat} (hts : ∀ w ∈ lw_tbl, w.before #[Value.ref b] s = true) : kN s := ⟨(List.forall_mem_cons.mpr ⟨va_Nw.of rfl (hts _ (lw_t (i := 30) (by decide +kernel))), (List.forall_mem_cons.mpr ⟨va_Nw.of rfl (hts _ (lw_t (i := 63) (by decide +kernel))), (List.forall_mem_cons.mpr ⟨va_Nw.of rfl (hts _ (lw_t (i := 68) (by decide +kernel))), (List.forall_mem_cons.mpr ⟨va_Nw.of rfl (hts _ (lw_t (i := 160) (by decide +kernel))), (List.forall_mem_cons.mpr ⟨va_Nw.of rfl (hts _ (lw_t (i := 270) (by decide +kernel))), (List.forall_mem_cons.mpr ⟨va_Nw.of rfl (hts _ (lw_t (i := 313) (by decide +kernel))), (fun _ h => absurd h List.not_mem_nil)⟩)⟩)⟩)⟩)⟩)⟩), (hts (.arrayOver (.array .int)) (lw_t (i := 212) (by decide +kernel)))⟩
