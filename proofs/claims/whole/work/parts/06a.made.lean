/-! CONSTRUCTORS: the world as a list that grows -/
/-- the links to private constructors of nest mates; rows of rows -/
def kNl : List (String × Nat × MethodName × String) := [(RX10, 9, yX5_init, "LampThatFollows"), (RX10, 18, yX4_init, "LampThatFollows"), (RX4, 26, yX5_init, "LampThatFollows"), (RX10, 37, yX1_init, "LampThatFollows"), (RX10, 67, yX6_init, "LampThatFollows"), (RX10, 83, yX9_init, "LampThatFollows")]
def kN (U : State) : Prop := (∀ q ∈ kNl, va_Nw (.methodLinkNest q.1 q.2.1 q.2.2.1 q.2.2.2) U) ∧ (Cond.arrayOver (.array .int)).before #[] U = true
theorem kN_go {s U : State} (hW : s.WarmedH U.vm) (h : kN s) : kN U := ⟨fun q hq => va_Nw.warmM hW (h.1 q hq), over_moved hW.alike h.2⟩
theorem kN_same {s U : State} (hW : s.vm = U.vm) (h : kN s) : kN U := ⟨fun q hq => va_Nw.same rfl hW (h.1 q hq), over_moved (by rw [hW]; exact Vm.Alike.refl U.vm) h.2⟩
def kQ (D : va_G) (A : Nat → Prop) (Pw : va_W → Prop) : Array Value → State → Outcome → State → Prop := va_Qv Pw (fun ws t => va_P D vwCl ws t.heap ∧ va_D A ws) A
def kCx (D : va_G) (tA : List (ClassId × FieldType)) (A : Nat → Prop) (d : Nat) (M : zO) (mc ms : Nat) (p : Program) (R : Room) (s : State) (m : MethodId) (args : Array Value) (meth : Method) (c : Code) : Prop :=
  p.tables.exec = Jvm.exec ∧ c.code = M.2.1 ∧ c.maxLocals = M.2.2.1 ∧ meth.sig.returnType = M.2.2.2 ∧ meth.locks = false ∧ s.vm.findClass M.1 = some m.cls ∧ (∀ w ∈ zw, w.before args s = true) ∧ (mc ≤ R.cells ∧ ms ≤ R.slots ∧ d ≤ R.frames ∧ 200 * d ≤ R.locals) ∧ meth.name = "<init>" ∧ va_K D vwCl tA s ∧ (∀ q, s.heap.size ≤ q → A q) ∧ kN s
def kX (l : Launch) (D : va_G) (tA : List (ClassId × FieldType)) (A : Nat → Prop) (d : Nat) (M : zO) (mc ms : Nat) (Pw : va_W → Prop) (pc : Nat) (lv : List (Nat × Value)) (st : List Value) (ws : va_W) (n k : Nat) : Prop :=
  ∀ (p : Program) (e : Env) (R : Room) (s : State) (m : MethodId) (args : Array Value) (below : List Frame) (meth : Method) (c : Code), kCx D tA A d M mc ms p R s m args meth c →
  ∀ (H : Heap) (locs : List Loc) (ls : Array Slot), va_P D vwCl ws H → va_D A ws → va_S A s.heap H locs → lv_has ls M.2.2.1 lv →
  W p l e R s m args below meth c H locs n k (MQ below (kQ D A Pw) args s mc ms A) (F0 m pc ls st)
def zFldF (own : String) (idx ci j : Nat) (ty : FieldType) : Prop := ∃ (C : String) (Tt : u_T) (N : Nat) (ty0 : Nat → FieldType), vwCl[ci]? = some (C, Tt, N) ∧ j < N ∧ (∀ w ∈ u_ws C Tt N, w ∈ zw) ∧ Cond.fieldLink own idx (Tt j).1 (Tt j).2.1 (Tt j).2.2.1 ∈ zw ∧
  (∀ k, k < N → parseFieldDescriptor (Tt k).2.2.1 = some (ty0 k)) ∧ (∀ a, a < N → ∀ b, b < N → a ≠ b → (Tt a).2.1 ≠ (Tt b).2.1) ∧ (Tt j).2.2.2 = true ∧ (Tt j).1 = own ∧ parseFieldDescriptor (Tt j).2.2.1 = some ty
section
variable {l : Launch} {D : va_G} {tA : List (ClassId × FieldType)} {A : Nat → Prop} {d : Nat} {M : zO} {mc ms : Nat} {Pw : va_W → Prop} {pc nn : Nat} {lv : List (Nat × Value)} {st : List Value} {ws : va_W} {n k : Nat}
theorem kx_al {i : Nat} {v : Value} (j : Nat) (hj : lv[j]? = some (i, v)) (hv : v.category = 1) (hi : i < 4) (hdg : decode M.2.1 pc = .ok (.aload_n ⟨i, hi⟩, 1)) (hpc : nn = pc + 1) (hr : ∃ q, v = .ref q) (kk : kX l D tA A d M mc ms Pw nn lv (v :: st) ws n k) : kX l D tA A d M mc ms Pw pc lv st ws n k := by
  subst hpc
  obtain ⟨q, rfl⟩ := hr
  intro p e R s m args below meth c hC H locs ls hP hD hS hl
  exact lv_aload_n hC.1 hC.2.1 hdg rfl (lv_at hl j hj) (kk p e R s m args below meth c hC H locs ls hP hD hS hl)
theorem kx_newa {x : Int32} {N : Nat} {cI : ClassId} (hI : (cI, FieldType.int) ∈ tA) (hw : Cond.arrayClass .int ∈ zw) (hn : ¬ x < 0) (hN : x.toNatClampNeg = N) (hN2 : N ≤ 100000) (hc : n + 1 ≤ mc) (hs : k + N ≤ ms) (hdg : decode M.2.1 pc = .ok (.newarray .int, 2)) (hpc : nn = pc + 2)
    (kk : ∀ q, kX l D tA A d M mc ms Pw nn lv (.ref q :: st) (ws ++ [(q, .inl (cI, N, .inl (fun _ => 0)))]) (n + 1) (k + N)) : kX l D tA A d M mc ms Pw pc lv (.int x :: st) ws n k := by
  subst hpc
  intro p e R s m args below meth c hC H locs ls hP hD hS hl
  obtain ⟨hx, hb, hml, hr, hlk, hown, hts, hroom, hin, hK, hA, hN0⟩ := id hC
  refine va_newa (atype := .int) (ty := .int) (a0 := (N, .inl (fun _ => 0))) hx hb (hts (.arrayClass .int) hw) rfl hK hP hD hS hA (fun cA => rfl) hn hN (by show N * 4 ≤ _; omega) (by omega) (by omega) hdg (fun q cA H1 hK1 hP1 hD1 hS1 => ?_)
  obtain ⟨i, hi⟩ := List.getElem?_of_mem hI
  have e1 : s.vm.findClass ("[" ++ FieldType.int.toString) = some cI := (hK.2 i _ hi).2
  have e2 : s.vm.findClass ("[" ++ FieldType.int.toString) = some cA := (hK1.2 tA.length (cA, .int) (by simp)).2
  rw [e1] at e2
  cases e2
  exact kk q p e R s m args below meth c hC H1 locs ls hP1 hD1 hS1 hl
theorem kx_bip {v : Int} {x : Int32} (hx : (Int8.ofInt v).toInt32 = x) (hdg : decode M.2.1 pc = .ok (.bipush v, 2)) (hpc : nn = pc + 2) (kk : kX l D tA A d M mc ms Pw nn lv (.int x :: st) ws n k) : kX l D tA A d M mc ms Pw pc lv st ws n k := by
  subst hpc
  intro p e R s m args below meth c hC H locs ls hP hD hS hl
  exact lv_bipush hC.1 hC.2.1 hdg hx (kk p e R s m args below meth c hC H locs ls hP hD hS hl)
theorem kx_ret (hr : M.2.2.2 = none) (hn : n = mc) (hk : k = ms) (hdg : decode M.2.1 pc = .ok (.return_, 1)) (kk : Pw ws) : kX l D tA A d M mc ms Pw pc lv [] ws n k := by
  intro p e R s m args below meth c hC H locs ls hP hD hS hl
  obtain ⟨hx, hb, hml, hr2, hlk, hown, hts, hroom, hin, hK, hA, hN0⟩ := id hC
  subst hn hk
  exact W.vret hx hb (by rw [hr2, hr]) (fun t ht hW => ⟨⟨ws, rfl, kk, by rw [ht]; exact hP, hD⟩, hS.F ht⟩) hS.2.2 hdg
theorem kx_sip {v : Int} {x : Int32} (hx : (Int16.ofInt v).toInt32 = x) (hdg : decode M.2.1 pc = .ok (.sipush v, 3)) (hpc : nn = pc + 3) (kk : kX l D tA A d M mc ms Pw nn lv (.int x :: st) ws n k) : kX l D tA A d M mc ms Pw pc lv st ws n k := by
  subst hpc
  intro p e R s m args below meth c hC H locs ls hP hD hS hl
  exact lv_sipush hC.1 hC.2.1 hdg hx (kk p e R s m args below meth c hC H locs ls hP hD hS hl)
theorem kx_dup {v : Value} (hv : v.category = 1) (hdg : decode M.2.1 pc = .ok (.dup, 1)) (hpc : nn = pc + 1) (kk : kX l D tA A d M mc ms Pw nn lv (v :: v :: st) ws n k) : kX l D tA A d M mc ms Pw pc lv (v :: st) ws n k := by
  subst hpc
  intro p e R s m args below meth c hC H locs ls hP hD hS hl
  exact lv_dup hC.1 hC.2.1 hdg hv (kk p e R s m args below meth c hC H locs ls hP hD hS hl)
theorem kx_putF {idx ci j i a : Nat} {ty : FieldType} {v : Value} {fs : List Value} {ws' : va_W} (hf : zFldF M.1 idx ci j ty) (he : ws[i]? = some (a, .inr (ci, fs))) (hnr : narrow ty v = v) (hfit : fits ty v = true) (hlen : j < fs.length) (hdg : decode M.2.1 pc = .ok (.putfield idx, 3)) (hpc : nn = pc + 3) (hws : ws.set i (a, .inr (ci, fs.set j v)) = ws')
    (kk : kX l D tA A d M mc ms Pw nn lv st ws' n k) : kX l D tA A d M mc ms Pw pc lv (v :: .ref a :: st) ws n k := by
  subst hpc
  subst hws
  intro p e R s m args below meth c hC H locs ls hP hD hS hl
  obtain ⟨hx, hb, hml, hr, hlk, hown, hts, hroom, hin, hK, hA, hN0⟩ := id hC
  obtain ⟨C, Tt, N, ty0, h1, h2, h3, h4, h5, h6, h7, h8, h9⟩ := hf
  refine va_putF (D := D) (ci := ci) (v := v) (ty := ty) (C := C) (T := Tt) (N := N) hx hb hts h3 ty0 h5 h6 hown hK hP hD hS i he h1 j h2 (hts _ h4) (fun _ q => q) h7 hin h8 h9 hnr hfit hlen hdg (fun H1 locs1 hP1 hD1 hS1 => ?_)
  exact kk p e R s m args below meth c hC H1 locs1 ls hP1 hD1 hS1 hl
theorem kx_put {idx ci j i a : Nat} {ty : FieldType} {v : Value} {fs : List Value} {ws' : va_W} (hf : zFldP M.1 idx ci j ty) (he : ws[i]? = some (a, .inr (ci, fs))) (hnr : narrow ty v = v) (hfit : fits ty v = true) (hlen : j < fs.length) (hdg : decode M.2.1 pc = .ok (.putfield idx, 3)) (hpc : nn = pc + 3) (hws : ws.set i (a, .inr (ci, fs.set j v)) = ws')
    (kk : kX l D tA A d M mc ms Pw nn lv st ws' n k) : kX l D tA A d M mc ms Pw pc lv (v :: .ref a :: st) ws n k := by
  subst hpc
  subst hws
  intro p e R s m args below meth c hC H locs ls hP hD hS hl
  obtain ⟨hx, hb, hml, hr, hlk, hown, hts, hroom, hin, hK, hA, hN0⟩ := id hC
  obtain ⟨C, Tt, N, ty0, h1, h2, h3, h4, h5, h6, h7, h8⟩ := hf
  refine va_put (D := D) (ci := ci) (v := v) (ty := ty) (C := C) (T := Tt) (N := N) hx hb hts h3 ty0 h5 h6 hown hK hP hD hS i he h1 j h2 (hts _ h4) (fun _ q => q) h7 h8 hnr hfit hlen hdg (fun H1 locs1 hP1 hD1 hS1 => ?_)
  exact kk p e R s m args below meth c hC H1 locs1 ls hP1 hD1 hS1 hl
theorem kx_obj {idx a : Nat} (h1 : Cond.methodLink M.1 idx objectInit ∈ zw) (h2 : Cond.instanceMethod objectInit ∈ zw) (h3 : Cond.code objectInit ⟨#[0xb1]⟩ 1 none ∈ zw) (hd : 1 ≤ d) (hdg : decode M.2.1 pc = .ok (.invokespecial idx, 3)) (hpc : nn = pc + 3) (kk : kX l D tA A d M mc ms Pw nn lv [] ws n k) : kX l D tA A d M mc ms Pw pc lv [.ref a] ws n k := by
  subst hpc
  intro p e R s m args below meth c hC H locs ls hP hD hS hl
  obtain ⟨hx, hb, hml, hr, hlk, hown, hts, hroom, hin, hK, hA, hN0⟩ := id hC
  refine W.objInit hx hb hown (hts _ h1) (hts _ h2) (hts _ h3) rfl (by rw [hml]; exact hl.1) rfl hdg (by omega) (by have e1 : (F0 m pc ls [Value.ref a]).monitorRoom = 0 := rfl; have e2 : (List.map (fun (v : Value) => v.category) []).sum = 0 := rfl; omega) ?_
  refine W.eq (g2 := F0 m (pc + 3) ls []) rfl ?_
  exact kk p e R s m args below meth c hC H locs ls hP hD hS hl
end
