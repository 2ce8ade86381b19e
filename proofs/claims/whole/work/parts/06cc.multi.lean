/-! new T[n][m] by the machine's own words: the outer row is made, then for each of its places an inner row is made and stored there. -/
/-- a row of K places, v in each -/
def gm_row (c : ClassId) (K : Nat) (v : Value) : Cell := arrV c K (fun _ => v)
/-- the row of rows at address h, its first i places filled by what lies behind it -/
def gm_rows (c : ClassId) (N h i : Nat) : Cell := arrV c N (fun j => va_rf (if j < i then some (h + 1 + j) else none))
theorem gm_rows_next (c : ClassId) (N h i : Nat) : (gm_rows c N h i).setSlot i (.ref (h + 1 + i)) = gm_rows c N h (i + 1) := by
  unfold gm_rows
  rw [arrV_store]
  refine congrArg (arrV c N) (funext fun j => ?_)
  by_cases h0 : j = i
  · subst h0
    simp [updV, va_rf]
  · by_cases h1 : j < i
    · simp [updV, h0, h1, Nat.lt_succ_of_lt h1]
    · have h2 : ¬ j < i + 1 := by omega
      simp [updV, h0, h1, h2]
theorem gm_rows_zero (c : ClassId) (N h : Nat) : gm_rows c N h 0 = gm_row c N .null := by
  unfold gm_rows gm_row
  refine congrArg (arrV c N) (funext fun j => ?_)
  simp [va_rf]
/-- heap F over heap H: the row of rows with i inner ones behind it, all below as it was -/
def gm_H (H F : Heap) (cA cy : ClassId) (N K : Nat) (v : Value) (i : Nat) : Prop :=
  F.size = H.size + 1 + i ∧ F[H.size]? = some (gm_rows cA N H.size i) ∧ (∀ j : Nat, j < i → F[H.size + 1 + j]? = some (gm_row cy K v)) ∧ ∀ a : Nat, a < H.size → F[a]? = H[a]?
theorem gm_first (H : Heap) (cA cy : ClassId) (N K : Nat) (v : Value) : gm_H H (H.push (gm_rows cA N H.size 0)) cA cy N K v 0 := by
  refine ⟨by simp, by simp, fun j h => absurd h (Nat.not_lt_zero j), fun a h => ?_⟩
  rw [Array.getElem?_push, if_neg (Nat.ne_of_lt h)]
theorem gm_next {H F : Heap} {cA cy : ClassId} {N K : Nat} {v : Value} {i : Nat} (h : gm_H H F cA cy N K v i) : gm_H H ((F.push (gm_row cy K v)).setIfInBounds H.size (gm_rows cA N H.size (i + 1))) cA cy N K v (i + 1) := by
  obtain ⟨h1, -, h3, h4⟩ := h
  have hb : H.size < (F.push (gm_row cy K v)).size := by rw [Array.size_push]; omega
  refine ⟨by rw [Array.size_setIfInBounds, Array.size_push]; omega, ?_, fun j hj => ?_, fun a ha => ?_⟩
  · rw [Array.getElem?_setIfInBounds, if_pos rfl, if_pos hb]
  · rw [Array.getElem?_setIfInBounds, if_neg (by omega), Array.getElem?_push]
    by_cases e : H.size + 1 + j = F.size
    · rw [if_pos e]
    · rw [if_neg e]
      exact h3 j (by omega)
  · rw [Array.getElem?_setIfInBounds, if_neg (by omega), Array.getElem?_push, if_neg (by omega)]
    exact h4 a ha
section GM1
variable {E : CtlPost} {e : Env} {d : Bool} {acts : List Action} {U : State}
/-- one row is made -/
theorem gm_new {c comp : ClassId} {kc : Class} {ty : FieldType} {L : Nat} {v : Value} (hk : U.vm.classes[c]? = some kc) (hkind : kc.kind = .array comp ty) (hL : ¬ L > e.platform.arrayLengthLimit) (hB : ¬ L * componentBytes ty > e.platform.maxHeapBytes)
    (hv : fits ty v = true) (hc : U.heap.size + 1 ≤ e.platform.maxCells) (hs : U.slotsUsed + L ≤ e.platform.maxSlots) {P : Addr → Pre} (hp : ∀ d' acts', P U.heap.size d' acts' (U.pushCell (gm_row c L v))) : wp (Jvm.newArray c L v) P E e d acts U := by
  have hall : ∀ (i : Nat) (w : Value), (Array.replicate L v)[i]? = some w → U.fitsSlot c .none i w = true := fun i w hw => by
    have hw2 : w = v := by
      rw [Array.getElem?_replicate] at hw
      split at hw
      · exact (Option.some.inj hw).symm
      · cases hw
    subst hw2
    simp [State.fitsSlot, State.slotType?, hk, hkind, hv]
  have hm : ¬ L > e.platform.maxSlots := by omega
  unfold Jvm.newArray Jvm.arrayFits
  simp only [wp_bind', Jvm.W.ask, Jvm.W.ite, Jvm.W.theClass, Jvm.W.alloc, Jvm.W.stop, wp_pure', hk, hkind, hL, hB, hm, if_false, Option.some.injEq, exists_eq_left']
  refine ⟨by omega, by rw [Array.size_replicate]; exact hs, hall, ?_⟩
  have h := hp d (allocActs (Array.replicate L v) U.heap.size acts)
  unfold gm_row at h
  rw [← arrV_new] at h
  exact h
theorem gm_make1 {c comp : ClassId} {kc : Class} {ty : FieldType} {k : Int32} (hk : U.vm.classes[c]? = some kc) (hkind : kc.kind = .array comp ty) (hk0 : ¬ k < 0) (hL : ¬ k.toNatClampNeg > e.platform.arrayLengthLimit) (hB : ¬ k.toNatClampNeg * componentBytes ty > e.platform.maxHeapBytes)
    (hv : fits ty (defaultValue ty) = true) (hc : U.heap.size + 1 ≤ e.platform.maxCells) (hs : U.slotsUsed + k.toNatClampNeg ≤ e.platform.maxSlots) {P : Addr → Pre} (hp : ∀ d' acts', P U.heap.size d' acts' (U.pushCell (gm_row c k.toNatClampNeg (defaultValue ty)))) :
    wp (multianewarray.make c [k]) P E e d acts U := by
  unfold multianewarray.make
  simp only [wp_bind', Jvm.W.ite, Jvm.W.theClass, wp_pure', hk0, if_false, hk, hkind, Option.some.injEq, exists_eq_left']
  exact gm_new hk hkind hL hB hv hc hs hp
end GM1
/-- a loop whose every turn is known ahead: where it comes out is known ahead, whatever is asked there -/
theorem gm_run {e : Env} {G : Nat → State → Prop} {f : JFrame} {N : Nat} {b : Nat → PUnit → Sem (ForInStep PUnit)}
    (hstep : ∀ i u, i < N → G i u → ∃ w, G (i + 1) w ∧ ∀ (E : CtlPost) (P : ForInStep PUnit → Pre) (d : Bool) (acts : List Action), (∀ d' acts', P (.yield PUnit.unit) d' acts' (w.setTop f)) → wp (b i PUnit.unit) P E e d acts (u.setTop f)) :
    ∀ (r i : Nat) (u : State), i + r = N → G i u → ∃ w, G N w ∧ ∀ (E : CtlPost) (P : PUnit → Pre) (d : Bool) (acts : List Action), (∀ d' acts', P PUnit.unit d' acts' (w.setTop f)) → wp (forIn (List.range' i r 1) PUnit.unit b) P E e d acts (u.setTop f)
  | 0, i, u, h, hG => ⟨u, by rw [← h]; exact hG, fun E P d acts hp => by
      rw [List.range'_zero, List.forIn_nil, wp_pure']
      exact hp _ _⟩
  | r + 1, i, u, h, hG => by
    obtain ⟨w1, g1, s1⟩ := hstep i u (by omega) hG
    obtain ⟨w, g2, s2⟩ := gm_run hstep r (i + 1) w1 (by omega) g1
    refine ⟨w, g2, fun E P d acts hp => ?_⟩
    rw [List.range'_succ, List.forIn_cons, wp_bind']
    exact s1 _ _ _ _ (fun d' acts' => s2 _ _ _ _ hp)
section GM2
variable {p : Program} {l : Launch} {e : Env} {R : Room} {s : State} {m : MethodId} {args : Array Value} {below : List Frame} {meth : Method} {c : Code} {locs : List Loc} {cells slots : Nat}
/-- one turn of the loop: an inner row is made and stored -/
theorem gm_turn {V : Vm} {H : Heap} {N K : Nat} {cA cy cc : ClassId} {kA ky : Class} {ty : FieldType} {k : Int32} {f : JFrame} (hH : s.heap.size ≤ H.size) (hK : k.toNatClampNeg = K) (hkA : V.classes[cA]? = some kA) (hA : kA.kind = .array cy (.array ty)) (hky : V.classes[cy]? = some ky) (hy : ky.kind = .array cc ty)
    (hk0 : ¬ k < 0) (hL : ¬ K > e.platform.arrayLengthLimit) (hB : ¬ K * componentBytes ty > e.platform.maxHeapBytes) (hv : fits ty (defaultValue ty) = true) (hcells : cells + (1 + N) ≤ R.cells) (hslots : slots + (N + N * K) ≤ R.slots)
    (i : Nat) (u : State) (hi : i < N) (hG : Stand p l e R s m args below meth c u locs (cells + 1 + i) (slots + N + i * K) ∧ gm_H H u.heap cA cy N K (defaultValue ty) i ∧ u.vm = V) :
    ∃ w, (Stand p l e R s m args below meth c w locs (cells + 1 + (i + 1)) (slots + N + (i + 1) * K) ∧ gm_H H w.heap cA cy N K (defaultValue ty) (i + 1) ∧ w.vm = V) ∧
      ∀ (E : CtlPost) (P : ForInStep PUnit → Pre) (d : Bool) (acts : List Action), (∀ d' acts', P (.yield PUnit.unit) d' acts' (w.setTop f)) →
        wp (do
          let a ← multianewarray.make cy [k]
          writeLoc H.size i (.ref a)
          Pure.pure (ForInStep.yield PUnit.unit)) P E e d acts (u.setTop f) := by
  obtain ⟨X, hF, hvm⟩ := hG
  subst hK
  have hmul : i * k.toNatClampNeg + k.toNatClampNeg ≤ N * k.toNatClampNeg := by
    have h := Nat.mul_le_mul_right k.toNatClampNeg (Nat.succ_le_of_lt hi)
    rwa [Nat.succ_mul] at h
  obtain ⟨r1, r2⟩ := X.roomAbove (a := 1) (b := k.toNatClampNeg) (by omega) (by omega)
  have hz : u.heap.size = H.size + 1 + i := hF.1
  have hlt : H.size < u.heap.size := by omega
  have hcell : (u.pushCell (gm_row cy k.toNatClampNeg (defaultValue ty))).heap[H.size]? = some (gm_rows cA N H.size i) := (State.heap_pushCell_of_lt u _ hlt).trans hF.2.1
  have Y := ((X.pushed (gm_row cy k.toNatClampNeg (defaultValue ty))).stored hcell i (.ref (H.size + 1 + i))).dropFresh (fun x hx => by
    rw [List.mem_singleton] at hx
    subst hx
    exact hH)
  have hsz : (gm_row cy k.toNatClampNeg (defaultValue ty)).slots.size = k.toNatClampNeg := arrV_size _ _ _
  rw [hsz, gm_rows_next] at Y
  have hcount : slots + N + (i + 1) * k.toNatClampNeg = slots + N + i * k.toNatClampNeg + k.toNatClampNeg := by rw [Nat.succ_mul]; omega
  refine ⟨(u.pushCell (gm_row cy k.toNatClampNeg (defaultValue ty))).setCell H.size (gm_rows cA N H.size (i + 1)), ⟨by rw [hcount]; exact Y, gm_next hF, hvm⟩, fun E P d acts hp => ?_⟩
  rw [wp_bind']
  refine gm_make1 (U := u.setTop f) (show u.vm.classes[cy]? = some ky by rw [hvm]; exact hky) hy hk0 hL hB hv r1 r2 (fun d' acts' => ?_)
  rw [wp_bind', Jvm.W.writeLoc]
  refine ⟨gm_rows cA N H.size i, hcell, by simp [gm_rows, arrV], by unfold gm_rows; rw [arrV_size]; exact hi, ?_, ?_⟩
  · have hq : u.vm.classes[cA]? = some kA := by rw [hvm]; exact hkA
    simp [gm_rows, arrV, State.fitsSlot, State.slotType?, hq, hA]
    rfl
  · rw [wp_pure']
    show P _ _ _ (((u.pushCell _).setCell H.size ((gm_rows cA N H.size i).setSlot i (.ref u.heap.size))).setTop f)
    rw [hz, gm_rows_next]
    exact hp _ _
end GM2
section GM3
variable {p : Program} {l : Launch} {e : Env} {R : Room} {s : State} {m : MethodId} {args : Array Value} {below : List Frame} {meth : Method} {c : Code} {locs : List Loc} {cells slots : Nat}
/-- rows of rows: where the making of them comes out is known ahead -/
theorem gm_make2 {u : State} {N K : Nat} {cA cy cc : ClassId} {kA ky : Class} {ty : FieldType} {n k : Int32} {f : JFrame} (X : Stand p l e R s m args below meth c u locs cells slots) (hN : n.toNatClampNeg = N) (hK : k.toNatClampNeg = K)
    (hkA : u.vm.classes[cA]? = some kA) (hA : kA.kind = .array cy (.array ty)) (hky : u.vm.classes[cy]? = some ky) (hy : ky.kind = .array cc ty) (hn0 : ¬ n < 0) (hk0 : ¬ k < 0)
    (hL1 : ¬ N > e.platform.arrayLengthLimit) (hB1 : ¬ N * componentBytes (.array ty) > e.platform.maxHeapBytes) (hL : ¬ K > e.platform.arrayLengthLimit) (hB : ¬ K * componentBytes ty > e.platform.maxHeapBytes)
    (hv : fits ty (defaultValue ty) = true) (hcells : cells + (1 + N) ≤ R.cells) (hslots : slots + (N + N * K) ≤ R.slots) :
    ∃ w, (Stand p l e R s m args below meth c w locs (cells + 1 + N) (slots + N + N * K) ∧ gm_H u.heap w.heap cA cy N K (defaultValue ty) N ∧ w.vm = u.vm) ∧
      ∀ (E : CtlPost) (P : Addr → Pre) (d : Bool) (acts : List Action), (∀ d' acts', P u.heap.size d' acts' (w.setTop f)) → wp (multianewarray.make cA [n, k]) P E e d acts (u.setTop f) := by
  have hsz : (gm_rows cA N u.heap.size 0).slots.size = N := arrV_size _ _ _
  have X0 := X.pushed (gm_rows cA N u.heap.size 0)
  rw [hsz] at X0
  obtain ⟨w, hw, hrun⟩ := gm_run (e := e) (f := f) (N := N) (G := fun i w => Stand p l e R s m args below meth c w locs (cells + 1 + i) (slots + N + i * K) ∧ gm_H u.heap w.heap cA cy N K (defaultValue ty) i ∧ w.vm = u.vm)
    (b := fun i _ => do
      let a ← multianewarray.make cy [k]
      writeLoc u.heap.size i (.ref a)
      Pure.pure (ForInStep.yield PUnit.unit))
    (fun i w hi hG => gm_turn X.heapGrown hK hkA hA hky hy hk0 hL hB hv hcells hslots i w hi hG) N 0 (u.pushCell (gm_rows cA N u.heap.size 0)) (by omega)
    ⟨by rw [Nat.zero_mul]; exact X0, gm_first u.heap cA cy N K (defaultValue ty), rfl⟩
  refine ⟨w, hw, fun E P d acts hp => ?_⟩
  subst hN
  have hfind : ([k].find? (· < 0)) = none := by simp [hk0]
  obtain ⟨r1, r2⟩ := X.roomAbove (a := 1) (b := n.toNatClampNeg) (by omega) (by omega)
  unfold multianewarray.make
  simp only [wp_bind', Jvm.W.ite, Jvm.W.theClass, wp_pure', hn0, if_false, hA, State.vm_setTop, hkA, Option.some.injEq, exists_eq_left', hfind]
  refine gm_new (U := u.setTop f) hkA hA hL1 hB1 rfl r1 r2 (fun d' acts' => ?_)
  rw [ite_self, wp_bind', Std.Legacy.Range.forIn_eq_forIn_range']
  have hr : ([:n.toNatClampNeg] : Std.Legacy.Range).size = n.toNatClampNeg := by simp [Std.Legacy.Range.size]
  rw [hr]
  show wp (forIn (List.range' 0 n.toNatClampNeg 1) PUnit.unit _) _ E e d' acts' ((u.pushCell (gm_row cA n.toNatClampNeg .null)).setTop f)
  rw [← gm_rows_zero cA n.toNatClampNeg u.heap.size]
  exact hrun E _ d' acts' (fun d'' acts'' => hp _ _)
end GM3
section GM4
variable {p : Program} {l : Launch} {e : Env} {R : Room} {s : State} {m : MethodId} {args : Array Value} {below : List Frame} {meth : Method} {c : Code} {H : Heap} {locs : List Loc} {cells slots : Nat} {Q : State → Prop}
/-- 'multianewarray' with two counts, as a row -/
theorem gm_mna {cc : ByteArray} {pc index N K : Nat} {ls : Array Slot} {rest : List Value} {own : String} {ty : FieldType} {cy : ClassId} {n k : Int32} (hx : p.tables.exec = Jvm.exec) (hb : c.code = cc) (hown : s.vm.findClass own = some m.cls)
    (hlink : (Cond.classLink own index ("[" ++ (FieldType.array ty).toString)).before args s = true) (hover : (Cond.arrayOver (.array ty)).before args s = true) (harr : (Cond.arrayClass ty).before args s = true) (hcy : s.vm.findClass (FieldType.array ty).toString = some cy)
    (hn0 : ¬ n < 0) (hk0 : ¬ k < 0) (hN : n.toNatClampNeg = N) (hK : k.toNatClampNeg = K) (hb1 : N * 4 ≤ 536870912) (hb2 : K * componentBytes ty ≤ 536870912) (hb3 : K ≤ 536870912) (hv : fits ty (defaultValue ty) = true)
    (hcells : cells + (1 + N) ≤ R.cells) (hslots : slots + (N + N * K) ≤ R.slots) (hdg : decode cc pc = .ok (.multianewarray index 2, 4))
    (kk : ∀ (cA : ClassId) (F : Heap), s.vm.findClass ("[" ++ (FieldType.array ty).toString) = some cA → ArrOfT s cA (.array ty) → gm_H H F cA cy N K (defaultValue ty) N →
      W p l e R s m args below meth c F locs (cells + 1 + N) (slots + N + N * K) Q (F0 m (pc + 4) ls (.ref H.size :: rest))) : W p l e R s m args below meth c H locs cells slots Q (F0 m pc ls (.int k :: .int n :: rest)) := by
  intro T hT X
  subst hT
  have hpl : e.platform.magicAccessors = ({} : Platform).magicAccessors := by rw [X.admits.platform]
  obtain ⟨comp, cA, kA, hcomp, -, hkA, hA, hnA⟩ := arrayOverA_spec hover
  cases hcy.symm.trans hcomp
  obtain ⟨cy2, ky, cc2, hcy2, hky, hy⟩ := Cond.arrayClass_spec harr
  cases hcy.symm.trans hcy2
  obtain ⟨c3, hc3, hcl⟩ := Cond.classLink_spec hown hlink e.platform hpl
  cases hnA.symm.trans hc3
  obtain ⟨hgive, hwarm, -⟩ := State.classEntry (e := e) X.warmed hcl
  generalize T.vm.noted m.cls index (.cls cA) = V at hgive hwarm
  have hal : s.vm.Alike V := hwarm.alike
  obtain ⟨kA1, hkA1, eA⟩ := hal.2.2 _ _ hkA
  obtain ⟨ky1, hky1, ey⟩ := hal.2.2 _ _ hky
  have hl : e.platform.arrayLengthLimit = 2147483645 := Launch.admits_arrayLengthLimit X.admits
  have hh : e.platform.maxHeapBytes = 536870912 := Launch.admits_maxHeapBytes X.admits
  obtain ⟨w, ⟨hS, hF, -⟩, hrun⟩ := gm_make2 (X.noted hwarm) (f := F0 m pc ls rest) hN hK (hkA := hkA1) (hA := by rw [eA]; exact hA) (hky := hky1) (hy := by rw [ey]; exact hy) hn0 hk0 (by omega) (by rw [hh]; show ¬ N * 4 > _; omega) (by omega) (by rw [hh]; omega) hv hcells hslots
  have hArr : ArrOfT s cA (.array ty) := fun N9 z9 => ⟨(fun q hq => by cases hq), kA, hkA, cy, hA⟩
  obtain ⟨t, a1, b1⟩ := kk cA w.heap hnA hArr hF w rfl hS
  refine ⟨t, ?_, b1⟩
  jvm_step X.here [hx, hb, hdg]
  simp only [multianewarray.sem, wp_bind', Jvm.W.resolveClassAt_links (State.method?_setTop (F0 m pc ls (.int k :: .int n :: rest)) X.here.top) hgive]
  show wp (Jvm.popN [Value.int n, Value.int k].length) _ _ e _ _ ((T.setVm V).setTop (F0 m pc ls (.int k :: .int n :: rest)))
  rw [popN_top (f := F0 m pc ls (.int k :: .int n :: rest)) (s := T.setVm V) X.here.top (rest := rest) rfl]
  simp only [List.mapM_cons, List.mapM_nil, wp_bind', wp_pure']
  refine hrun _ _ _ _ (fun d' acts' => ?_)
  simp only [wp_bind', Jvm.W.mark, Jvm.W.pushRef, State.topJava?_setTop' _ hS.here.top, Option.some.injEq, exists_eq_left', State.setTop_setTop]
  intro acts
  simp [jvm, hS.here.top]
  exact a1
end GM4
/-- the rows that it made, put behind a world of cells -/
theorem gm_world {D : va_G} {cl : List vw_C} {A : Nat → Prop} {ws : va_W} {H F : Heap} {cA cy : ClassId} {N K : Nat} {v : Value} {z : vp_A} (hP : va_P D cl ws H) (hD : va_D A ws) (hF : gm_H H F cA cy N K v N) (hz : ∀ c0 : ClassId, gm_row c0 K v = vp_cell c0 z) (hA : ∀ q, H.size ≤ q → A q) :
    va_P D cl (ws ++ (H.size, .inl (cA, N, .inr (.inr (.inr (.inr (fun i => if i < N then some (H.size + 1 + i) else none)))))) :: (List.range N).map (fun i => (H.size + 1 + i, .inl (cy, z)))) F ∧
      va_D A (ws ++ (H.size, .inl (cA, N, .inr (.inr (.inr (.inr (fun i => if i < N then some (H.size + 1 + i) else none)))))) :: (List.range N).map (fun i => (H.size + 1 + i, .inl (cy, z)))) := by
  obtain ⟨-, f2, f3, f4⟩ := hF
  have hnew : ∀ (j : Nat) (q : Nat × va_E), ((H.size, .inl (cA, N, .inr (.inr (.inr (.inr (fun i => if i < N then some (H.size + 1 + i) else none)))))) :: (List.range N).map (fun i => ((H.size + 1 + i, .inl (cy, z)) : Nat × va_E)))[j]? = some q → q.1 = H.size + j ∧ va_at D cl q F := fun j q hq => by
    cases j with
    | zero =>
      cases hq
      exact ⟨rfl, f2⟩
    | succ j =>
      rw [List.getElem?_cons_succ, List.getElem?_map] at hq
      by_cases h : j < N
      · rw [List.getElem?_range h] at hq
        cases hq
        refine ⟨by show H.size + 1 + j = H.size + (j + 1); omega, ?_⟩
        show F[H.size + 1 + j]? = some (vp_cell cy z)
        rw [f3 j h, hz]
      · rw [List.getElem?_eq_none (by rw [List.length_range]; omega)] at hq
        cases hq
  have hkey : ∀ (j : Nat) (q : Nat × va_E), (ws ++ (H.size, .inl (cA, N, .inr (.inr (.inr (.inr (fun i => if i < N then some (H.size + 1 + i) else none)))))) :: (List.range N).map (fun i => ((H.size + 1 + i, .inl (cy, z)) : Nat × va_E)))[j]? = some q →
      (j < ws.length ∧ ws[j]? = some q ∧ q.1 < H.size) ∨ (ws.length ≤ j ∧ q.1 = H.size + (j - ws.length) ∧ va_at D cl q F) := fun j q hq => by
    rcases Nat.lt_or_ge j ws.length with h | h
    · rw [List.getElem?_append_left h] at hq
      exact Or.inl ⟨h, hq, (hP j q hq).lt⟩
    · rw [List.getElem?_append_right h] at hq
      exact Or.inr ⟨h, hnew _ q hq⟩
  refine ⟨fun j q hq => ?_, fun i j a b hi hj hab => ?_, fun j q hq => ?_⟩
  · rcases hkey j q hq with ⟨-, h, h2⟩ | ⟨-, -, h⟩
    · exact (hP j q h).kept (f4 q.1 h2)
    · exact h
  · rcases hkey i a hi with ⟨i1, i2, i3⟩ | ⟨i1, i2, -⟩ <;> rcases hkey j b hj with ⟨j1, j2, j3⟩ | ⟨j1, j2, -⟩
    · exact hD.1 i j a b i2 j2 hab
    · omega
    · omega
    · omega
  · rcases hkey j q hq with ⟨-, h, -⟩ | ⟨-, h, -⟩
    · exact hD.2 j q h
    · exact hA _ (by omega)
