/-- a constructor's contract: from its new object alone, the world that it makes -/
def kMet (l : Launch) (D : va_G) (tA : List (ClassId × FieldType)) (d : Nat) (M : zO) (y : MethodName) (as : List Value) (ws0 : va_W) (mc ms : Nat) (Pw : va_W → Prop) : Prop :=
  ∀ sz : Nat, Met l y (zws M y) ({ frames := d, cells := mc, slots := ms, locals := 200 * d }) (va_Pc as (fun U => U.heap.size = sz ∧ va_P D vwCl ws0 U.heap ∧ va_K D vwCl tA U ∧ va_D (fun _ => True) ws0 ∧ kN U)) (kQ D (va_A ws0 sz) Pw) mc ms (va_A ws0 sz)
theorem kmet {l : Launch} {D : va_G} {tA : List (ClassId × FieldType)} {d : Nat} {M : zO} {y : MethodName} {as : List Value} {lv : List (Nat × Value)} {ws0 : va_W} {mc ms : Nat} {Pw : va_W → Prop} (hy : plainName y.cls = true) (ho : y.cls = M.1) (hi : y.name = "<init>") (hc : (lg_sl as).length ≤ M.2.2.1) (hlv : lv_args 0 as = lv)
    (hX : ∀ A, kX l D tA A d M mc ms Pw 0 lv [] ws0 0 0) : kMet l D tA d M y as ws0 mc ms Pw := by
  intro sz
  refine Met.ofW (cc := M.2.1) (maxL := M.2.2.1) (ret := M.2.2.2) hy rfl ?_
  intro p e s m args below meth c s₁ B hml hv
  obtain ⟨rfl, hsz, hP, hK, hD0, hN⟩ := hv
  have hts := atoms_spec (ws := zws M y) B.pre
  have hown : s.vm.findClass y.cls = some m.cls := findClass_of_methodNamed B.named
  have hin : meth.name = y.name := (name_of_methodNamed B.named B.method).1
  subst hsz
  have hD := hD0.self (sz := s.heap.size)
  have hcx : kCx D tA (va_A ws0 s.heap.size) d M mc ms p (headSpec (zws M y) ({ frames := d, cells := mc, slots := ms, locals := 200 * d })).room s m as.toArray meth c :=
    ⟨B.exec, B.bytes, hml, B.returns, B.notSynchronized, by rw [← ho]; exact hown, fun w hw => hts w (List.mem_cons_of_mem _ hw), ⟨Nat.le_refl _, Nat.le_refl _, Nat.le_refl _, Nat.le_refl _⟩, by rw [hin, hi], hK, fun q h => Or.inr h, hN⟩
  have hl := lv_entry as (n := M.2.2.1) hc
  rw [hlv] at hl
  rw [lg_entry_eq]
  exact hX _ _ _ _ _ _ _ _ _ _ hcx _ _ _ hP hD va_S.rf hl
theorem k_join {A0 : Nat → Prop} {D : va_G} {cl : List vw_C} {wr w1 : va_W} {a : Nat} {e0 : va_E} {H H1 : Heap} (hP : va_P D cl (wr ++ [(a, e0)]) H) (hD : va_D A0 (wr ++ [(a, e0)]))
    (hk : ∀ q : Nat, q < H.size → ¬ va_A [(a, e0)] H.size q → H1[q]? = H[q]?) (hF : ∀ q, va_A [(a, e0)] H.size q → A0 q) (hP1 : va_P D cl w1 H1) (hD1 : va_D (va_A [(a, e0)] H.size) w1) : va_P D cl (wr ++ w1) H1 ∧ va_D A0 (wr ++ w1) := by
  have up : ∀ (k : Nat) (q : Nat × va_E), wr[k]? = some q → (wr ++ [(a, e0)])[k]? = some q := fun k q hq => by
    rw [List.getElem?_append_left (List.getElem?_eq_some_iff.mp hq).1]; exact hq
  have apart : ∀ (k : Nat) (q : Nat × va_E), wr[k]? = some q → q.1 < H.size ∧ ¬ va_A [(a, e0)] H.size q.1 := by
    intro k q hq
    have hlt := (List.getElem?_eq_some_iff.mp hq).1
    have hl := (hP k q (up k q hq)).lt
    refine ⟨hl, fun h => ?_⟩
    rcases h with ⟨j, e, hj⟩ | h
    · have hj0 : j < 1 := (List.getElem?_eq_some_iff.mp hj).1
      rw [show j = 0 by omega] at hj
      have hj1 : (a, e0) = (q.1, e) := Option.some.inj hj
      have h2 : (wr ++ [(a, e0)])[wr.length]? = some (a, e0) := by simp
      have := hD.1 k wr.length q (a, e0) (up k q hq) h2 (congrArg Prod.fst hj1).symm
      omega
    · omega
  have low : ∀ (k : Nat) (q : Nat × va_E), (wr ++ w1)[k]? = some q → (k < wr.length ∧ wr[k]? = some q) ∨ (wr.length ≤ k ∧ w1[k - wr.length]? = some q) := fun k q hq => by
    by_cases h : k < wr.length
    · rw [List.getElem?_append_left h] at hq
      exact Or.inl ⟨h, hq⟩
    · rw [List.getElem?_append_right (by omega)] at hq
      exact Or.inr ⟨by omega, hq⟩
  refine ⟨fun k q hq => ?_, fun i j x y hi hj hxy => ?_, fun k q hq => ?_⟩
  · rcases low k q hq with ⟨h, hq⟩ | ⟨h, hq⟩
    · obtain ⟨g1, g2⟩ := apart k q hq
      exact (hP k q (up k q hq)).kept (hk q.1 g1 g2)
    · exact hP1 _ q hq
  · rcases low i x hi with ⟨h, hi⟩ | ⟨h, hi⟩ <;> rcases low j y hj with ⟨h', hj⟩ | ⟨h', hj⟩
    · exact hD.1 i j x y (up i x hi) (up j y hj) hxy
    · exact absurd (by rw [hxy]; exact hD1.2 _ y hj) (apart i x hi).2
    · exact absurd (by rw [← hxy]; exact hD1.2 _ x hi) (apart j y hj).2
    · have := hD1.1 _ _ x y hi hj hxy
      omega
  · rcases low k q hq with ⟨h, hq⟩ | ⟨h, hq⟩
    · exact hD.2 k q (up k q hq)
    · exact hF _ (hD1.2 _ q hq)
theorem k_arr {c : ClassId} {N : Nat} {f g : Nat → Value} (h : ∀ j, j < N → f j = g j) : arrV c N f = arrV c N g := by
  have e : (Array.ofFn (n := N) fun j => f j.val) = Array.ofFn (n := N) fun j => g j.val := congrArg (fun F => Array.ofFn (n := N) F) (funext fun j => h j.val j.isLt)
  unfold arrV
  rw [e]
/-- the class that 'new' makes -/
def kCls (own : String) (idx ci N : Nat) (fs : List Value) : Prop := ∃ (C : String) (T : u_T) (ty : Nat → FieldType), vwCl[ci]? = some (C, T, N) ∧ (∀ w ∈ u_ws C T N, w ∈ zw) ∧ (∀ k, k < N → parseFieldDescriptor (T k).2.2.1 = some (ty k)) ∧ Cond.classLink own idx C ∈ zw ∧ Cond.instantiable C N ∈ zw ∧ Cond.initialized C ∈ zw ∧ ∀ j, j < N → defaultValue (ty j) = vp_V fs j
section
variable {l : Launch} {D : va_G} {tA : List (ClassId × FieldType)} {A : Nat → Prop} {d : Nat} {M : zO} {mc ms : Nat} {Pw : va_W → Prop} {pc nn : Nat} {lv : List (Nat × Value)} {st : List Value} {ws : va_W} {n k : Nat}
theorem kx_new {idx ci N : Nat} {fs : List Value} (hC0 : kCls M.1 idx ci N fs) (hc : n + 1 ≤ mc) (hs : k + N ≤ ms) (hdg : decode M.2.1 pc = .ok (.new idx, 3)) (hpc : nn = pc + 3)
    (kk : ∀ q, kX l D tA A d M mc ms Pw nn lv (.ref q :: st) (ws ++ [(q, .inr (ci, fs))]) (n + 1) (k + N)) : kX l D tA A d M mc ms Pw pc lv st ws n k := by
  subst hpc
  intro p e R s m args below meth c hC H locs ls hP hD hS hl
  obtain ⟨hx, hb, hml, hr, hlk, hown, hts, hroom, hin, hK, hA, hN0⟩ := id hC
  obtain ⟨C, T, ty, h1, h2, h3, h4, h5, h6, h7⟩ := hC0
  exact va_new (ci := ci) (fs := fs) (C := C) (T := T) (N := N) hx hb hts h2 ty h3 hown (hts _ h4) (hts _ h5) (hts _ h6) hK hP hD hS hA h1 h7 (by omega) (by omega) hdg (fun q H1 hP1 hD1 hS1 => kk q p e R s m args below meth c hC H1 locs ls hP1 hD1 hS1 hl)
theorem kx_get {idx ci j i a : Nat} {v : Value} {fs : List Value} (hf : zFld M.1 idx ci j) (he : ws[i]? = some (a, .inr (ci, fs))) (hv : fs[j]? = some v) (hdg : decode M.2.1 pc = .ok (.getfield idx, 3)) (hpc : nn = pc + 3)
    (kk : kX l D tA A d M mc ms Pw nn lv (v :: st) ws n k) : kX l D tA A d M mc ms Pw pc lv (.ref a :: st) ws n k := by
  subst hpc
  intro p e R s m args below meth c hC H locs ls hP hD hS hl
  obtain ⟨hx, hb, hml, hr, hlk, hown, hts, hroom, hin, hK, hA, hN0⟩ := id hC
  obtain ⟨C, Tt, N, h1, h2, h3, h4⟩ := hf
  exact va_get (C := C) (T := Tt) (N := N) hx hb hts h3 hown hK hP i he h1 j h2 (hts _ h4) (fun _ q => q) hv hdg (kk p e R s m args below meth c hC H locs ls hP hD hS hl)
theorem kx_ast {i a N : Nat} {cI : ClassId} {f : Nat → Int32} {x ix : Int32} {ws' : va_W} (hI : (cI, FieldType.int) ∈ tA) (he : ws[i]? = some (a, .inl (cI, N, .inl f))) (hix : vp_in ix N) (hdg : decode M.2.1 pc = .ok (.iastore, 1)) (hpc : nn = pc + 1) (hws : ws.set i (a, .inl (cI, N, .inl (upd f ix.toNatClampNeg x))) = ws')
    (kk : kX l D tA A d M mc ms Pw nn lv st ws' n k) : kX l D tA A d M mc ms Pw pc lv (.int x :: .int ix :: .ref a :: st) ws n k := by
  subst hpc
  subst hws
  intro p e R s m args below meth c hC H locs ls hP hD hS hl
  obtain ⟨hx, hb, hml, hr, hlk, hown, hts, hroom, hin, hK, hA, hN0⟩ := id hC
  obtain ⟨t0, ht⟩ := List.getElem?_of_mem hI
  exact va_iast hx hb hK hP hD hS i t0 he ht hix hdg (fun H1 locs1 hP1 hD1 hS1 => kk p e R s m args below meth c hC H1 locs1 ls hP1 hD1 hS1 hl)
/-- a row's ints count as far as it goes -/
theorem kx_row {i a N : Nat} {cI : ClassId} {f g : Nat → Int32} {ws' : va_W} (he : ws[i]? = some (a, .inl (cI, N, .inl f))) (hfg : ∀ j, j < N → f j = g j) (hws : ws.set i (a, .inl (cI, N, .inl g)) = ws')
    (kk : kX l D tA A d M mc ms Pw pc lv st ws' n k) : kX l D tA A d M mc ms Pw pc lv st ws n k := by
  subst hws
  intro p e R s m args below meth c hC H locs ls hP hD hS hl
  refine kk p e R s m args below meth c hC H locs ls (hP.set hD he ?_ (fun _ _ => rfl)) (hD.set he) hS hl
  have h0 : H[a]? = some (vp_cell cI (N, .inl f)) := hP i _ he
  show H[a]? = some (vp_cell cI (N, .inl g))
  rw [h0, vp_cell_i, vp_cell_i]
  refine congrArg some ?_
  exact k_arr (fun j hj => by rw [hfg j hj])
theorem kx_mna {idx N' K' : Nat} {cI cA : ClassId} {x y : Int32} (hI : (cI, FieldType.int) ∈ tA) (hA2 : (cA, FieldType.array .int) ∈ tA) (h1 : Cond.classLink M.1 idx ("[" ++ (FieldType.array .int).toString) ∈ zw) (h3 : Cond.arrayClass .int ∈ zw) (hx0 : ¬ x < 0) (hy0 : ¬ y < 0) (hN : x.toNatClampNeg = N') (hM : y.toNatClampNeg = K') (hN2 : N' ≤ 1000) (hM2 : K' ≤ 1000)
    (hc : n + (1 + N') ≤ mc) (hs : k + (N' + N' * K') ≤ ms) (hdg : decode M.2.1 pc = .ok (.multianewarray idx 2, 4)) (hpc : nn = pc + 4)
    (kk : ∀ (q : Nat) (r : Nat → Nat), kX l D tA A d M mc ms Pw nn lv (.ref q :: st) (ws ++ (q, .inl (cA, N', .inr (.inr (.inr (.inr (fun i => if i < N' then some (r i) else none)))))) :: (List.range N').map (fun i => (r i, .inl (cI, K', .inl (fun _ => 0))))) (n + 1 + N') (k + N' + N' * K')) : kX l D tA A d M mc ms Pw pc lv (.int y :: .int x :: st) ws n k := by
  subst hpc
  intro p e R s m args below meth c hC H locs ls hP hD hS hl
  obtain ⟨hx, hb, hml, hr, hlk, hown, hts, hroom, hin, hK, hA, hN0⟩ := id hC
  obtain ⟨i1, hi1⟩ := List.getElem?_of_mem hI
  obtain ⟨i2, hi2⟩ := List.getElem?_of_mem hA2
  have e1 : s.vm.findClass ("[" ++ FieldType.int.toString) = some cI := (hK.2 i1 _ hi1).2
  have e2 : s.vm.findClass ("[" ++ (FieldType.array .int).toString) = some cA := (hK.2 i2 _ hi2).2
  refine gm_mna (ty := .int) (cy := cI) (N := N') (K := K') hx hb hown (hts _ h1) (over_moved (Vm.Alike.refl s.vm) hN0.2) (hts _ h3) e1 hx0 hy0 hN hM (by omega) (by show K' * 4 ≤ _; omega) (by omega) rfl (by omega) (by omega) hdg (fun cA' F hfA _ hF => ?_)
  rw [e2] at hfA
  cases hfA
  obtain ⟨hP1, hD1⟩ := gm_world (z := (K', .inl (fun _ => 0))) hP hD hF (fun _ => rfl) (fun q hq => hA q (Nat.le_trans hS.1 hq))
  refine kk H.size (fun i => H.size + 1 + i) p e R s m args below meth c hC F locs ls hP1 hD1 ⟨?_, fun q h1 h2 => ?_, hS.2.2⟩ hl
  · have h9 := hF.1
    have h8 := hS.1
    omega
  · exact (hF.2.2.2 q (Nat.lt_of_lt_of_le h1 hS.1)).trans (hS.2.1 q h1 h2)
end
section
variable {p : Program} {l : Launch} {e : Env} {R : Room} {s : State} {m : MethodId} {args : Array Value} {below : List Frame} {meth : Method} {c : Code} {H : Heap} {locs : List Loc} {n k : Nat} {Q : State → Prop}
/-- a constructor is called: the new object, last of the world, becomes all that it makes -/
theorem wk_call {D : va_G} {tA : List (ClassId × FieldType)} {A : Nat → Prop} {own : String} {cc : ByteArray} {nL pc : Nat} {ls : Array Slot} {d' mc' ms' idx a an : Nat} {M' : zO} {y : MethodName} {as rest st : List Value} {e0 : va_E} {wr ws : va_W} {Pw' : va_W → Prop} (hx : p.tables.exec = Jvm.exec) (hb : c.code = cc) (hml : c.maxLocals = nL) (hown : s.vm.findClass own = some m.cls) (hts : ∀ w ∈ zw, w.before args s = true) (hK : va_K D vwCl tA s) (hA : ∀ q, s.heap.size ≤ q → A q) (hN0 : kN s)
    (hP : va_P D vwCl ws H) (hD : va_D A ws) (hS : va_S A s.heap H locs) (hlz : ls.size = nL)
    (hm : kMet l D tA d' M' y (.ref a :: as) [(a, e0)] mc' ms' Pw') (hc : zCal M' y an) (han : as.length = an) (hi : Cond.instanceMethod y ∈ zw) (hy1 : y.name = "<init>") (hret : M'.2.2.2 = none)
    (hlk : Cond.methodLink own idx y ∈ zw ∨ ∃ host, (own, idx, y, host) ∈ kNl) (hws : ws = wr ++ [(a, e0)]) (hd : d' + 1 ≤ R.frames ∧ 119 + 200 * d' ≤ R.locals) (hst : st = as.reverse ++ .ref a :: rest) (hW : (rest.map fun v => v.category).sum ≤ 8) (hn : n + mc' ≤ R.cells) (hk : k + ms' ≤ R.slots) (hdg : decode cc pc = .ok (.invokespecial idx, 3))
    (kk : ∀ w1 H1 locs1, Pw' w1 → va_P D vwCl (wr ++ w1) H1 → va_D A (wr ++ w1) → va_S A s.heap H1 locs1 → W p l e R s m args below meth c H1 locs1 (n + mc') (k + ms') Q (F0 m (pc + 3) ls rest)) : W p l e R s m args below meth c H locs n k Q (F0 m pc ls st) := by
  subst hst
  subst hws
  subst han
  obtain ⟨hc1, hc2, hc3, hc4⟩ := hc
  have hl0 : (wr ++ [(a, e0)])[wr.length]? = some (a, e0) := by simp
  have hPc : va_P D vwCl [(a, e0)] H := fun j q hq => by
    have hj0 : j < 1 := (List.getElem?_eq_some_iff.mp hq).1
    rw [show j = 0 by omega] at hq
    cases hq
    exact hP _ _ hl0
  have hDc : va_D (fun _ => True) [(a, e0)] := ⟨fun i j x z hi hj _ => by
    have h1 : i < 1 := (List.getElem?_eq_some_iff.mp hi).1
    have h2 : j < 1 := (List.getElem?_eq_some_iff.mp hj).1
    omega, fun _ _ _ => trivial⟩
  have hF := va_free (wc := [(a, e0)]) hD hS hA [wr.length] (by simp)
  have hR2 : d' + 1 ≤ R.frames ∧ 8 + (M'.2.2.1 + 11) + 200 * d' ≤ R.locals := ⟨by omega, by omega⟩
  have hgood : GoodIn zw (zws M' y) := zws_good hc1
  have hzw : zws M' y = Cond.code y M'.2.1 M'.2.2.1 none :: zw := by unfold zws; rw [hret]
  have hbl : FrameBlind (va_Pc (.ref a :: as) (fun U => U.heap.size = H.size ∧ va_P D vwCl [(a, e0)] U.heap ∧ va_K D vwCl tA U ∧ va_D (fun _ => True) [(a, e0)] ∧ kN U)) := fun av U g mk q => by
    obtain ⟨q0, q1, q2, q3, q4, q5⟩ := q
    exact ⟨q0, q1, q2, va_K.moved (u := U) (U := U.calling g mk av) (Vm.Alike.refl U.vm) q3, q4, kN_same rfl q5⟩
  have hpre : PreS s H (va_Pc (.ref a :: as) (fun U => U.heap.size = H.size ∧ va_P D vwCl [(a, e0)] U.heap ∧ va_K D vwCl tA U ∧ va_D (fun _ => True) [(a, e0)] ∧ kN U)) (.ref a :: as) :=
    ⟨hbl, fun U hU hW => ⟨rfl, by rw [hU], by rw [hU]; exact hPc, va_K.moved hW.alike hK, hDc, kN_go hW hN0⟩⟩
  have hrun : va_Run p l e R s m args below meth c H locs n k mc' ms' (F0 m pc ls (as.reverse ++ .ref a :: rest)) rest (kQ D (va_A [(a, e0)] H.size) Pw' (Value.ref a :: as).toArray) (va_A [(a, e0)] H.size) := by
    rcases hlk with hlk | ⟨host, hlk⟩
    · exact va_runI (As := as) (rest := rest) ⟨hx, hb, hml, hown, hts⟩ (hm H.size) (cwI as.length hts hgood hzw rfl rfl (hts _ hc2) (hts _ hlk) (hts _ hi) hy1 hc3 hR2) hpre rfl rfl hlz rfl (lv_room hW) hdg ⟨hn, hk⟩
    · exact va_runIN (As := as) (rest := rest) ⟨hx, hb, hml, hown, hts⟩ (hm H.size) ⟨va_cnB as.length hts hgood hzw rfl rfl (hN0.1 _ hlk) (hts _ hc2) hc3 hR2, hy1, hts _ hi⟩ hpre rfl rfl hlz rfl (lv_room hW) hdg ⟨hn, hk⟩
  refine va_callv hrun hS (fun q _ h => hF q h) hF (fun u t H1 locs1 ht hvm hw hB hz1 hk1 hS1 => ?_)
  obtain ⟨hP1, hD1⟩ := hB
  rw [ht] at hP1
  obtain ⟨hP2, hD2⟩ := k_join hP hD hk1 hF hP1 hD1
  exact kk u H1 locs1 hw hP2 hD2 hS1
end
section
variable {l : Launch} {D : va_G} {tA : List (ClassId × FieldType)} {A : Nat → Prop} {d : Nat} {M : zO} {mc ms : Nat} {Pw : va_W → Prop} {pc nn : Nat} {lv : List (Nat × Value)} {st : List Value} {ws : va_W} {n k : Nat}
theorem kx_call {d' mc' ms' idx a an : Nat} {M' : zO} {y : MethodName} {as rest : List Value} {e0 : va_E} {wr : va_W} {Pw' : va_W → Prop} (hm : kMet l D tA d' M' y (.ref a :: as) [(a, e0)] mc' ms' Pw') (hc : zCal M' y an) (han : as.length = an) (hi : Cond.instanceMethod y ∈ zw) (hy1 : y.name = "<init>") (hret : M'.2.2.2 = none)
    (hlk : Cond.methodLink M.1 idx y ∈ zw ∨ ∃ host, (M.1, idx, y, host) ∈ kNl) (hws : ws = wr ++ [(a, e0)]) (hd : d' + 1 ≤ d) (hst : st = as.reverse ++ .ref a :: rest) (hW : (rest.map fun v => v.category).sum ≤ 8) (hn : n + mc' ≤ mc) (hk : k + ms' ≤ ms) (hdg : decode M.2.1 pc = .ok (.invokespecial idx, 3)) (hpc : nn = pc + 3)
    (kk : ∀ w1, Pw' w1 → kX l D tA A d M mc ms Pw nn lv rest (wr ++ w1) (n + mc') (k + ms')) : kX l D tA A d M mc ms Pw pc lv st ws n k := by
  subst hpc
  intro p e R s m args below meth c hC H locs ls hP hD hS hl
  obtain ⟨hx, hb, hml, hr, hlk2, hown, hts, ⟨hr1, hr2, hr3, hr4⟩, hin, hK, hA, hN0⟩ := id hC
  exact wk_call hx hb hml hown hts hK hA hN0 hP hD hS hl.1 hm hc han hi hy1 hret hlk hws ⟨by omega, by omega⟩ hst hW (by omega) (by omega) hdg (fun w1 H1 locs1 hw hP1 hD1 hS1 => kk w1 hw p e R s m args below meth c hC H1 locs1 ls hP1 hD1 hS1 hl)
end
