def lC (p : Program) (s : State) (m : MethodId) (meth : Method) (c : Code) (b L : Nat) (xs : Nat → Int32) (σ τ : zG) : Prop :=
  lw_At p s m meth c b L xs ∧ L ≤ 2560 ∧ zlau τ = zlau σ ∧ (∀ q, zA σ q → s.heap.size ≤ q ∧ ¬ zA τ q) ∧ (∀ q, zA τ q → s.heap.size ≤ q) ∧
  (va_K (zD σ) vwCl (zT σ) s ∧ zRO σ s s.heap ∧ ∀ μ, va_D (zA σ) (zW σ shC μ)) ∧ (va_K (zD τ) vwCl (zT τ) s ∧ zRO τ s s.heap ∧ ∀ μ, va_D (zA τ) (zW τ shR μ))
/-- at this place of the law, with these ints of both: it comes to its end with true -/
def lX (p : Program) (e : Env) (s : State) (m : MethodId) (below : List Frame) (meth : Method) (c : Code) (b : Nat) (σ τ : zG) (pc : Nat) (lv : List (Nat × Value)) (st : List Value) (μ ν : zM) : Prop :=
  ∀ (H : Heap) (locs : List Loc) (ls : Array Slot), va_P (zD σ) vwCl (zW σ shC μ) H → va_P (zD τ) vwCl (zW τ shR ν) H → va_S (fun q => s.heap.size ≤ q) s.heap H locs → lv_has ls 4 lv →
  W p (zlau σ) e room_1 s m #[Value.ref b] below meth c H locs 600000 7302250 (lw_Z below #[Value.ref b] s) (F0 m pc ls st)
theorem lx_callC {p : Program} {e : Env} {s : State} {m : MethodId} {below : List Frame} {meth : Method} {c : Code} {b L : Nat} {xs : Nat → Int32} {σ τ : zG} {pc nn d' n idx ci N : Nat} {M' : zO} {y : MethodName} {as : List zV} {μ ν : zM} {Q' : Option zV → zM → Prop} {C0 : String} {Tt : u_T} {fl : List (Option Nat)} {lv : List (Nat × Value)} {st rest : List Value}
    (C : lC p s m meth c b L xs σ τ) (hm : zMet shC σ d' M' y (zr 0 :: as) μ Q') (hc : zCalV M' y n) (hlk : Cond.methodLink R_law idx y ∈ zw) (hsh : shC[0]? = some (.inl (ci, fl))) (hcl : vwCl[ci]? = some (C0, Tt, N)) (hyc : y.cls = C0) (hd : d' ≤ 300) (hn : as.length = n)
    (hst : st = (as.map (zval (zad σ))).reverse ++ Value.ref (zad σ 0) :: rest) (hW : (rest.map fun v => v.category).sum ≤ 8) (hdg : decode code pc = .ok (.invokevirtual idx, 3)) (hpc : nn = pc + 3)
    (kk : ∀ r μ', Q' r μ' → lX p e s m below meth c b σ τ nn lv ((r.map (zval (zad σ))).toList ++ rest) μ' ν) : lX p e s m below meth c b σ τ pc lv st μ ν := by
  subst hpc
  subst hst
  intro H locs ls hPc hPr hS hl
  obtain ⟨⟨hx, hb, hr, hml, hown, hts0, hX, hbl, hlocks, hgv⟩, hL, hlau, hAC, hAR, ⟨hKc, hROc, hDc⟩, ⟨hKr, hROr, hDr⟩⟩ := id C
  have hts : ∀ w ∈ zw, w.before #[Value.ref b] s = true := fun w hw => hts0 w (List.mem_filter.mp hw).1
  obtain ⟨⟨hc1, hc2, hc3, hc4⟩, hc5, hc6⟩ := hc
  have hR2 : d' + 1 ≤ room_1.frames ∧ 8 + (M'.2.2.1 + 11) + 200 * d' ≤ room_1.locals := ⟨by show d' + 1 ≤ 2048; omega, by show _ ≤ 84000; omega⟩
  have hgood : GoodIn zw (wsV R_law idx y.cls y (zws M' y)) := by
    intro w hw
    rcases List.mem_append.mp hw with h | h
    · simp at h
      rcases h with rfl | rfl | rfl | rfl
      · exact ⟨hlk, zw_good _ hlk⟩
      · exact ⟨hc5, zw_good _ hc5⟩
      · exact ⟨hc6, zw_good _ hc6⟩
      · exact ⟨hc2, zw_good _ hc2⟩
    · exact zws_good hc1 w h
  have hrc := va_recv hKc hPc hcl (zW_get hsh)
  have hrun : va_Run p (zlau σ) e room_1 s m #[Value.ref b] below meth c H locs 600000 7302250 0 0 (F0 m pc ls ((as.map (zval (zad σ))).reverse ++ Value.ref (zad σ 0) :: rest)) rest (zQ shC σ Q' (Value.ref (zad σ 0) :: as.map (zval (zad σ))).toArray) (zA σ) :=
    va_runV (As := as.map (zval (zad σ))) ⟨hx, hb, hml, hown, hts⟩ hm (cwV n hts hgood rfl rfl rfl ⟨rfl, hc3⟩ hR2) ⟨zB_blind _, by rw [hyc]; exact hrc, fun U hU hW => ⟨rfl, ⟨by rw [hU]; exact hPc, va_K.moved hW.alike hKc, hDc _⟩, zRO_go hW (fun q h1 h2 => by rw [hU]; exact hS.2.1 q h1 (Nat.not_le.mpr h1)) hROc⟩⟩ rfl (by rw [List.length_map]; exact hn) hl.1 rfl (lv_room hW) hdg ⟨Nat.le_refl _, Nat.le_refl _⟩
  intro T hT X
  obtain ⟨v, st₀, t, T', L', h0, X', hL', e1, e2, ⟨⟨r, μ', hv, hq, hP', hK', hD'⟩, hz, hk⟩, stp⟩ := hrun T hT X
  cases hv
  rw [h0] at hz hk
  have hS' : va_S (fun q => s.heap.size ≤ q) s.heap T'.heap (locs ++ L') := ⟨Nat.le_trans hS.1 (by rw [e1]; exact hz), fun q h1 h2 => by rw [e1, hk q (Nat.lt_of_lt_of_le h1 hS.1) (fun z => h2 ((hAC q z).1))]; exact hS.2.1 q h1 h2, fun q hq => by
      rcases List.mem_append.mp hq with h | h
      · exact hS.2.2 q h
      · exact ((hAC _ (hL' q h)).1)⟩
  have hO : va_P (zD τ) vwCl (zW τ shR ν) T'.heap := hPr.kept (fun k q hq => by
    rw [e1]
    exact hk q.1 (hPr k q hq).lt (fun z => (hAC _ z).2 ((hDr ν).2 k q hq)))
  obtain ⟨t2, a1, b1⟩ := kk r μ' hq T'.heap (locs ++ L') ls (by rw [e1]; exact hP') hO hS' hl T' rfl X'
  exact ⟨t2, stp t2 a1, b1⟩
theorem lx_callM {p : Program} {e : Env} {s : State} {m : MethodId} {below : List Frame} {meth : Method} {c : Code} {b L : Nat} {xs : Nat → Int32} {σ τ : zG} {pc nn d' n idx ci N : Nat} {M' : zO} {y : MethodName} {as : List zV} {μ ν : zM} {Q' : Option zV → zM → Prop} {C0 : String} {Tt : u_T} {fl : List (Option Nat)} {lv : List (Nat × Value)} {st rest : List Value}
    (C : lC p s m meth c b L xs σ τ) (hm : zMet shR τ d' M' y (zr 0 :: as) ν Q') (hc : zCalV M' y n) (hlk : Cond.methodLink R_law idx y ∈ zw) (hsh : shR[0]? = some (.inl (ci, fl))) (hcl : vwCl[ci]? = some (C0, Tt, N)) (hyc : y.cls = C0) (hd : d' ≤ 300) (hn : as.length = n)
    (hst : st = (as.map (zval (zad τ))).reverse ++ Value.ref (zad τ 0) :: rest) (hW : (rest.map fun v => v.category).sum ≤ 8) (hdg : decode code pc = .ok (.invokevirtual idx, 3)) (hpc : nn = pc + 3)
    (kk : ∀ r μ', Q' r μ' → lX p e s m below meth c b σ τ nn lv ((r.map (zval (zad τ))).toList ++ rest) μ μ') : lX p e s m below meth c b σ τ pc lv st μ ν := by
  subst hpc
  subst hst
  intro H locs ls hPc hPr hS hl
  obtain ⟨⟨hx, hb, hr, hml, hown, hts0, hX, hbl, hlocks, hgv⟩, hL, hlau, hAC, hAR, ⟨hKc, hROc, hDc⟩, ⟨hKr, hROr, hDr⟩⟩ := id C
  have hts : ∀ w ∈ zw, w.before #[Value.ref b] s = true := fun w hw => hts0 w (List.mem_filter.mp hw).1
  obtain ⟨⟨hc1, hc2, hc3, hc4⟩, hc5, hc6⟩ := hc
  have hR2 : d' + 1 ≤ room_1.frames ∧ 8 + (M'.2.2.1 + 11) + 200 * d' ≤ room_1.locals := ⟨by show d' + 1 ≤ 2048; omega, by show _ ≤ 84000; omega⟩
  have hgood : GoodIn zw (wsV R_law idx y.cls y (zws M' y)) := by
    intro w hw
    rcases List.mem_append.mp hw with h | h
    · simp at h
      rcases h with rfl | rfl | rfl | rfl
      · exact ⟨hlk, zw_good _ hlk⟩
      · exact ⟨hc5, zw_good _ hc5⟩
      · exact ⟨hc6, zw_good _ hc6⟩
      · exact ⟨hc2, zw_good _ hc2⟩
    · exact zws_good hc1 w h
  have hrc := va_recv hKr hPr hcl (zW_get hsh)
  have hrun : va_Run p (zlau τ) e room_1 s m #[Value.ref b] below meth c H locs 600000 7302250 0 0 (F0 m pc ls ((as.map (zval (zad τ))).reverse ++ Value.ref (zad τ 0) :: rest)) rest (zQ shR τ Q' (Value.ref (zad τ 0) :: as.map (zval (zad τ))).toArray) (zA τ) :=
    va_runV (As := as.map (zval (zad τ))) ⟨hx, hb, hml, hown, hts⟩ hm (cwV n hts hgood rfl rfl rfl ⟨rfl, hc3⟩ hR2) ⟨zB_blind _, by rw [hyc]; exact hrc, fun U hU hW => ⟨rfl, ⟨by rw [hU]; exact hPr, va_K.moved hW.alike hKr, hDr _⟩, zRO_go hW (fun q h1 h2 => by rw [hU]; exact hS.2.1 q h1 (Nat.not_le.mpr h1)) hROr⟩⟩ rfl (by rw [List.length_map]; exact hn) hl.1 rfl (lv_room hW) hdg ⟨Nat.le_refl _, Nat.le_refl _⟩
  rw [hlau] at hrun
  intro T hT X
  obtain ⟨v, st₀, t, T', L', h0, X', hL', e1, e2, ⟨⟨r, μ', hv, hq, hP', hK', hD'⟩, hz, hk⟩, stp⟩ := hrun T hT X
  cases hv
  rw [h0] at hz hk
  have hS' : va_S (fun q => s.heap.size ≤ q) s.heap T'.heap (locs ++ L') := ⟨Nat.le_trans hS.1 (by rw [e1]; exact hz), fun q h1 h2 => by rw [e1, hk q (Nat.lt_of_lt_of_le h1 hS.1) (fun z => h2 (hAR q z))]; exact hS.2.1 q h1 h2, fun q hq => by
      rcases List.mem_append.mp hq with h | h
      · exact hS.2.2 q h
      · exact (hAR _ (hL' q h))⟩
  have hO : va_P (zD σ) vwCl (zW σ shC μ) T'.heap := hPc.kept (fun k q hq => by
    rw [e1]
    exact hk q.1 (hPc k q hq).lt (fun z => (hAC _ ((hDc μ).2 k q hq)).2 z))
  obtain ⟨t2, a1, b1⟩ := kk r μ' hq T'.heap (locs ++ L') ls hO (by rw [e1]; exact hP') hS' hl T' rfl X'
  exact ⟨t2, stp t2 a1, b1⟩
