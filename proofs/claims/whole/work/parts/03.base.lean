/-! THE WORLD OF ONE SYSTEM: its objects and rows by ids, its ints by id and place -/
abbrev zV : Type := Int32 ⊕ Int64 ⊕ Nat
abbrev zi (x : Int32) : zV := Sum.inl x
abbrev zj (x : Int64) : zV := Sum.inr (Sum.inl x)
abbrev zr (k : Nat) : zV := Sum.inr (Sum.inr k)
def zval (ad : Nat → Nat) : zV → Value
  | .inl x => .int x
  | .inr (.inl x) => .long x
  | .inr (.inr k) => .ref (ad k)
abbrev zM : Type := Nat → Nat → Int32
/-- what an id stands for: an object (its class, of its fields: an int, or which id it holds), a row of ints, a row of longs (each an int's value), a row of ids -/
abbrev zS : Type := (Nat × List (Option Nat)) ⊕ (Nat ⊕ Nat ⊕ List Nat)
/-- classes and slots, the classes of int[], long[], int[][], the addresses, the cells that may change, the launch -/
abbrev zG : Type := va_G × (ClassId × ClassId × ClassId) × (Nat → Nat) × (Nat → Prop) × Launch
abbrev zD (σ : zG) : va_G := σ.1
abbrev zad (σ : zG) : Nat → Nat := σ.2.2.1
abbrev zA (σ : zG) : Nat → Prop := σ.2.2.2.1
abbrev zlau (σ : zG) : Launch := σ.2.2.2.2
def zFl (ad : Nat → Nat) (f : Nat → Int32) : Nat → List (Option Nat) → List Value
  | _, [] => []
  | j, none :: r => .int (f j) :: zFl ad f (j + 1) r
  | j, some q :: r => .ref (ad q) :: zFl ad f (j + 1) r
def zE (σ : zG) (f : Nat → Int32) : zS → va_E
  | .inl o => .inr (o.1, zFl (zad σ) f 0 o.2)
  | .inr (.inl n) => .inl (σ.2.1.1, n, .inl f)
  | .inr (.inr (.inl n)) => .inl (σ.2.1.2.1, n, .inr (.inl (fun j => (f j).toInt64)))
  | .inr (.inr (.inr l)) => .inl (σ.2.1.2.2, l.length, .inr (.inr (.inr (.inr (fun j => (l[j]?).map (zad σ))))))
def zWl (σ : zG) (μ : zM) : Nat → List zS → va_W
  | _, [] => []
  | k, x :: r => (zad σ k, zE σ (μ k) x) :: zWl σ μ (k + 1) r
def zW (σ : zG) (sh : List zS) (μ : zM) : va_W := zWl σ μ 0 sh
def zu (μ : zM) (k : Nat) (f : Nat → Int32) : zM := fun q => if q = k then f else μ q
/-- one int becomes v -/
def zp (μ : zM) (k j : Nat) (v : Int32) : zM := zu μ k (upd (μ k) j v)
def zT (σ : zG) : List (ClassId × FieldType) := [(σ.2.1.1, .int), (σ.2.1.2.1, .long), (σ.2.1.2.2, .array .int)]
theorem zFl_get (ad : Nat → Nat) (f : Nat → Int32) : ∀ (l : List (Option Nat)) (b k : Nat), (zFl ad f b l)[k]? = (l[k]?).map (fun o => match o with | none => Value.int (f (b + k)) | some q => Value.ref (ad q))
  | [], b, k => by simp [zFl]
  | none :: r, b, 0 => by simp [zFl]
  | some q :: r, b, 0 => by simp [zFl]
  | none :: r, b, k + 1 => by
    have h := zFl_get ad f r (b + 1) k
    simp only [zFl, List.getElem?_cons_succ, h]
    rw [show b + 1 + k = b + (k + 1) by omega]
  | some q :: r, b, k + 1 => by
    have h := zFl_get ad f r (b + 1) k
    simp only [zFl, List.getElem?_cons_succ, h]
    rw [show b + 1 + k = b + (k + 1) by omega]
theorem zFl_len (ad : Nat → Nat) (f : Nat → Int32) : ∀ (l : List (Option Nat)) (b : Nat), (zFl ad f b l).length = l.length
  | [], b => rfl
  | none :: r, b => by simp [zFl, zFl_len ad f r (b + 1)]
  | some q :: r, b => by simp [zFl, zFl_len ad f r (b + 1)]
theorem zFl_set (ad : Nat → Nat) (f : Nat → Int32) (l : List (Option Nat)) (k : Nat) (v : Int32) (hk : l[k]? = some none) : (zFl ad f 0 l).set k (.int v) = zFl ad (upd f k v) 0 l := by
  apply List.ext_getElem?
  intro j
  rw [zFl_get, List.getElem?_set, zFl_get, zFl_len]
  by_cases h : k = j
  · subst h
    have hl : k < l.length := (List.getElem?_eq_some_iff.mp hk).1
    rw [if_pos rfl, if_pos hl, hk]
    simp [upd]
  · rw [if_neg h]
    cases l[j]? with
    | none => rfl
    | some o =>
      cases o with
      | none => simp [upd, Ne.symm h]
      | some q => rfl
theorem zWl_get (σ : zG) (μ : zM) : ∀ (sh : List zS) (b k : Nat), (zWl σ μ b sh)[k]? = (sh[k]?).map (fun x => (zad σ (b + k), zE σ (μ (b + k)) x))
  | [], b, k => by simp [zWl]
  | x :: r, b, 0 => by simp [zWl]
  | x :: r, b, k + 1 => by
    have h := zWl_get σ μ r (b + 1) k
    simp only [zWl, List.getElem?_cons_succ, h]
    rw [show b + 1 + k = b + (k + 1) by omega]
theorem zWl_len (σ : zG) (μ : zM) : ∀ (sh : List zS) (b : Nat), (zWl σ μ b sh).length = sh.length
  | [], b => rfl
  | x :: r, b => by simp [zWl, zWl_len σ μ r (b + 1)]
theorem zW_get {σ : zG} {sh : List zS} {μ : zM} {k : Nat} {x : zS} (h : sh[k]? = some x) : (zW σ sh μ)[k]? = some (zad σ k, zE σ (μ k) x) := by
  unfold zW
  rw [zWl_get, h]
  simp
theorem zW_set {σ : zG} {sh : List zS} {μ : zM} {k : Nat} {x : zS} (h : sh[k]? = some x) (f : Nat → Int32) : (zW σ sh μ).set k (zad σ k, zE σ f x) = zW σ sh (zu μ k f) := by
  apply List.ext_getElem?
  intro j
  unfold zW
  rw [zWl_get, List.getElem?_set, zWl_get, zWl_len]
  by_cases hj : k = j
  · subst hj
    have hl : k < sh.length := (List.getElem?_eq_some_iff.mp h).1
    rw [if_pos rfl, if_pos hl, h]
    simp [zu]
  · rw [if_neg hj]
    simp [zu, Ne.symm hj]
/-! read only: the table of kinds (id 199), the texts (ids 200 and on) -/
def zkA : Nat → Int32 := fun j => ([-1, 0, 0, 2, 0, 4] : List Int32).getD j 0
def zTx : List String := ["hand", "steady", "quick", "nervous", "old", "tired", "if", "lead", "lag", "wait", "or", "and", "not", "beat", "place", "aim", "size", "number"]
def zLn : List Nat := [4, 6, 5, 7, 3, 5, 2, 4, 3, 4, 2, 3, 3, 4, 5, 3, 4, 6]
def zBy : List (List Int32) := [[104, 97, 110, 100], [115, 116, 101, 97, 100, 121], [113, 117, 105, 99, 107], [110, 101, 114, 118, 111, 117, 115], [111, 108, 100], [116, 105, 114, 101, 100], [105, 102], [108, 101, 97, 100], [108, 97, 103], [119, 97, 105, 116], [111, 114], [97, 110, 100], [110, 111, 116], [98, 101, 97, 116], [112, 108, 97, 99, 101], [97, 105, 109], [115, 105, 122, 101], [110, 117, 109, 98, 101, 114]]
/-- the pools' texts: whose pool, where, which text -/
def zPl : List (String × Nat × Nat) := [("LampThatFollows$RuleText", 109, 0), ("LampThatFollows$RuleText", 111, 1), ("LampThatFollows$RuleText", 113, 2), ("LampThatFollows$RuleText", 115, 3), ("LampThatFollows$RuleText", 117, 4), ("LampThatFollows$RuleText", 119, 5), ("LampThatFollows$RuleText", 121, 6), ("LampThatFollows$RuleText", 123, 7), ("LampThatFollows$RuleText", 125, 8), ("LampThatFollows$RuleText", 127, 9), ("LampThatFollows$RuleText", 129, 10), ("LampThatFollows$RuleText", 131, 11), ("LampThatFollows$RuleText", 133, 12), ("LampThatFollows$RuleText", 135, 13), ("LampThatFollows$RuleText", 137, 14), ("LampThatFollows$RuleText", 139, 15), ("LampThatFollows$RuleText", 141, 16), ("LampThatFollows$RuleText", 143, 17), ("LampThatFollowsModel", 194, 0), ("LampThatFollowsModel", 200, 1), ("LampThatFollowsModel", 202, 2), ("LampThatFollowsModel", 204, 3), ("LampThatFollowsModel", 206, 4), ("LampThatFollowsModel", 208, 5), ("LampThatFollowsModel", 272, 6), ("LampThatFollowsModel", 245, 12), ("LampThatFollowsModel", 210, 13), ("LampThatFollowsModel", 212, 14), ("LampThatFollowsModel", 214, 15), ("LampThatFollowsModel", 216, 16), ("LampThatFollowsModel", 218, 17), ("LampThatFollowsModel", 256, 11), ("LampThatFollowsModel", 261, 10), ("LampThatFollowsModel", 263, 7), ("LampThatFollowsModel", 265, 8), ("LampThatFollowsModel", 267, 9)]
def zRO (σ : zG) (U : State) (H : Heap) : Prop :=
  va_Z "LampThatFollows" "KIND_ABOVE" "[I" (.ref (zad σ 199)) (zA σ) U H ∧ va_T .int (zad σ 199) 6 (fun j => .int (zkA j)) (zA σ) U H ∧
  (∃ adV : Nat → Nat, vk_S 18 zLn zBy (fun i => zad σ (200 + i)) adV (zA σ) U H) ∧ (∀ q ∈ zPl, vk_R q.1 q.2.1 (zTx.getD q.2.2 "") (zad σ (200 + q.2.2)) U) ∧
  va_Z "java/lang/String" "COMPACT_STRINGS" "Z" (.int 1) (zA σ) U H ∧ ∃ fo : Option Nat, va_Z "jdk/internal/util/Preconditions" "SIOOBE_FORMATTER" "Ljava/util/function/BiFunction;" (va_rf fo) (zA σ) U H ∧
  va_Nw (.fieldLinkNest "LampThatFollows$Stage" 135 "LampThatFollows" "KIND_ABOVE" "[I" "LampThatFollows") U
theorem zRO_go {σ : zG} {s U : State} {H H1 : Heap} (hW : s.WarmedH U.vm) (hq : ∀ a : Nat, a < H.size → ¬ zA σ a → H1[a]? = H[a]?) (h : zRO σ s H) : zRO σ U H1 := by
  obtain ⟨h1, h2, ⟨adV, h3⟩, h4, h5, fo, h6, h7⟩ := h
  exact ⟨(h1.kept hq).moved hW.alike, (h2.kept hq).moved hW.alike, ⟨adV, (h3.kept hq).moved hW.alike⟩, fun q hm => (h4 q hm).warm hW, (h5.kept hq).moved hW.alike, fo, (h6.kept hq).moved hW.alike, h7.warmF hW⟩
/-! the words that every method has -/
def zw : List Cond := lw_tbl.filter goodWord
theorem zw_in {w : Cond} {i : Nat} (h : lw_tbl[i]? = some w) (hg : goodWord w = true) : w ∈ zw := List.mem_filter.mpr ⟨List.mem_of_getElem? h, hg⟩
theorem zw_t {w : Cond} {i : Nat} (h : tables_1[i]? = some w) (hg : goodWord w = true) : w ∈ zw := List.mem_filter.mpr ⟨List.mem_append_right _ (List.mem_of_getElem? h), hg⟩
theorem zw_p {w : Cond} {i : Nat} (h : (k2_sels lw_privs)[i]? = some w) (hg : goodWord w = true) : w ∈ zw := List.mem_filter.mpr ⟨List.mem_append_left _ (List.mem_of_getElem? h), hg⟩
theorem zw_good : ∀ w ∈ zw, (w.onTables && w.keeps) = true ∨ ∃ ty, w = .arrayClass ty := fun w h => good_of_word (List.mem_filter.mp h).2
/-- a method: whose, its code, its locals, its answer's kind -/
abbrev zO : Type := String × ByteArray × Nat × Option FieldType
def zws (M : zO) (y : MethodName) : List Cond := Cond.code y M.2.1 M.2.2.1 M.2.2.2 :: zw
theorem zws_good {M : zO} {y : MethodName} (h : Cond.code y M.2.1 M.2.2.1 M.2.2.2 ∈ zw) : GoodIn zw (zws M y) := by
  intro w hw
  rcases List.mem_cons.mp hw with rfl | hw
  · exact ⟨h, zw_good _ h⟩
  · exact ⟨hw, zw_good _ hw⟩
def zlv (σ : zG) (lv : List (Nat × zV)) : List (Nat × Value) := lv.map (fun q => (q.1, zval (zad σ) q.2))
def zB (sh : List zS) (σ : zG) (μ : zM) (U : State) : Prop := va_P (zD σ) vwCl (zW σ sh μ) U.heap ∧ va_K (zD σ) vwCl (zT σ) U ∧ va_D (zA σ) (zW σ sh μ)
def zQ (sh : List zS) (σ : zG) (Q : Option zV → zM → Prop) : Array Value → State → Outcome → State → Prop := fun _ st oc t =>
  (∃ (r : Option zV) (μ' : zM), oc = .returned (r.map (zval (zad σ))) ∧ Q r μ' ∧ zB sh σ μ' t) ∧ va_F (zA σ) st t
def zCx (sh : List zS) (σ : zG) (d : Nat) (M : zO) (p : Program) (R : Room) (s : State) (m : MethodId) (args : Array Value) (meth : Method) (c : Code) : Prop :=
  p.tables.exec = Jvm.exec ∧ c.code = M.2.1 ∧ c.maxLocals = M.2.2.1 ∧ meth.sig.returnType = M.2.2.2 ∧ meth.locks = false ∧ s.vm.findClass M.1 = some m.cls ∧ (∀ w ∈ zw, w.before args s = true) ∧
  (d ≤ R.frames ∧ 200 * d ≤ R.locals) ∧ va_K (zD σ) vwCl (zT σ) s ∧ zRO σ s s.heap
/-- at this place of the method, with these locals, this stack, these ints: it comes to its end, with Q -/
def zX (sh : List zS) (σ : zG) (d : Nat) (M : zO) (pc : Nat) (lv : List (Nat × zV)) (st : List zV) (μ : zM) (Q : Option zV → zM → Prop) : Prop :=
  ∀ (p : Program) (e : Env) (R : Room) (s : State) (m : MethodId) (args : Array Value) (below : List Frame) (meth : Method) (c : Code), zCx sh σ d M p R s m args meth c →
  ∀ (H : Heap) (locs : List Loc) (ls : Array Slot), va_P (zD σ) vwCl (zW σ sh μ) H → va_D (zA σ) (zW σ sh μ) → va_S (zA σ) s.heap H locs → lv_has ls M.2.2.1 (zlv σ lv) →
  W p (zlau σ) e R s m args below meth c H locs 0 0 (MQ below (zQ sh σ Q) args s 0 0 (zA σ)) (F0 m pc ls (st.map (zval (zad σ))))
/-- a call of the method, with these ints: it comes back, with Q -/
def zMet (sh : List zS) (σ : zG) (d : Nat) (M : zO) (y : MethodName) (as : List zV) (μ : zM) (Q : Option zV → zM → Prop) : Prop :=
  Met (zlau σ) y (zws M y) ({ frames := d, cells := 0, slots := 0, locals := 200 * d }) (va_Pc (as.map (zval (zad σ))) (fun U => zB sh σ μ U ∧ zRO σ U U.heap)) (zQ sh σ Q) 0 0 (zA σ)
/-- the entry's locals -/
def zar : Nat → List zV → List (Nat × zV)
  | _, [] => []
  | i, .inl x :: r => (i, .inl x) :: zar (i + 1) r
  | i, .inr (.inl x) :: r => (i, .inr (.inl x)) :: zar (i + 2) r
  | i, .inr (.inr x) :: r => (i, .inr (.inr x)) :: zar (i + 1) r
def zcat : List zV → Nat
  | [] => 0
  | .inl _ :: r => 1 + zcat r
  | .inr (.inl _) :: r => 2 + zcat r
  | .inr (.inr _) :: r => 1 + zcat r
theorem zar_eq (σ : zG) : ∀ (as : List zV) (i : Nat), lv_args i (as.map (zval (zad σ))) = zlv σ (zar i as)
  | [], i => rfl
  | .inl x :: r, i => by
    have h := zar_eq σ r (i + 1)
    simp [lv_args, zar, zlv, zval, Value.category] at h ⊢
    exact h
  | .inr (.inl x) :: r, i => by
    have h := zar_eq σ r (i + 2)
    simp [lv_args, zar, zlv, zval, Value.category] at h ⊢
    exact h
  | .inr (.inr x) :: r, i => by
    have h := zar_eq σ r (i + 1)
    simp [lv_args, zar, zlv, zval, Value.category] at h ⊢
    exact h
theorem zcat_eq (σ : zG) : ∀ (st : List zV), ((st.map (zval (zad σ))).map fun v => v.category).sum = zcat st
  | [] => rfl
  | .inl x :: r => by
    have h := zcat_eq σ r
    simp [zcat, zval, Value.category] at h ⊢
    omega
  | .inr (.inl x) :: r => by
    have h := zcat_eq σ r
    simp [zcat, zval, Value.category] at h ⊢
    omega
  | .inr (.inr x) :: r => by
    have h := zcat_eq σ r
    simp [zcat, zval, Value.category] at h ⊢
    omega
/-! ENTRY, ENDS, CALLS -/
theorem zval_cat (ad : Nat → Nat) (v : zV) : (zval ad v).category = match v with | .inl _ => 1 | .inr (.inl _) => 2 | .inr (.inr _) => 1 := by
  rcases v with x | x | x <;> rfl
theorem lg_sl_len (vs : List Value) : (lg_sl vs).length = (vs.map fun v => v.category).sum := by
  induction vs with
  | nil => rfl
  | cons v r ih =>
    have h : lg_sl (v :: r) = (if v.category = 2 then [Slot.val v, .second] else [Slot.val v]) ++ lg_sl r := rfl
    rw [h, List.length_append, ih, List.map_cons, List.sum_cons]
    rcases lv_cat v with e | e <;> rw [e] <;> simp
/-- a method's contract, by its body -/
theorem zmet {sh : List zS} {σ : zG} {d : Nat} {M : zO} {y : MethodName} {as : List zV} {μ : zM} {Q : Option zV → zM → Prop} (hy : plainName y.cls = true) (ho : y.cls = M.1) (hc : zcat as ≤ M.2.2.1)
    (hX : zX sh σ d M 0 (zar 0 as) [] μ Q) : zMet sh σ d M y as μ Q := by
  refine Met.ofW (cc := M.2.1) (maxL := M.2.2.1) (ret := M.2.2.2) hy rfl ?_
  intro p e s m args below meth c s₁ B hml hv
  obtain ⟨rfl, ⟨hP, hK, hD⟩, hRO⟩ := hv
  have hts := atoms_spec (ws := zws M y) B.pre
  have hown : s.vm.findClass y.cls = some m.cls := findClass_of_methodNamed B.named
  have hcx : zCx sh σ d M p (headSpec (zws M y) ({ frames := d, cells := 0, slots := 0, locals := 200 * d })).room s m (as.map (zval (zad σ))).toArray meth c :=
    ⟨B.exec, B.bytes, hml, B.returns, B.notSynchronized, by rw [← ho]; exact hown, fun w hw => hts w (List.mem_cons_of_mem _ hw), ⟨Nat.le_refl _, Nat.le_refl _⟩, hK, hRO⟩
  have hn : (lg_sl (as.map (zval (zad σ)))).length ≤ M.2.2.1 := by
    rw [lg_sl_len, zcat_eq]
    exact hc
  have hl := lv_entry (as.map (zval (zad σ))) (n := M.2.2.1) hn
  rw [zar_eq] at hl
  rw [lg_entry_eq]
  exact hX _ _ _ _ _ _ _ _ _ hcx _ _ _ hP hD va_S.rf hl
theorem zMet.mono {sh : List zS} {σ : zG} {d : Nat} {M : zO} {y : MethodName} {as : List zV} {μ : zM} {Q Q' : Option zV → zM → Prop} (h : zMet sh σ d M y as μ Q) (hQ : ∀ r μ', Q r μ' → Q' r μ') : zMet sh σ d M y as μ Q' := by
  intro p e ha hc hk s m args below hf happ hP hK
  obtain ⟨n, o, h1, h2, h3, ⟨⟨r, μ', q1, q2, q3⟩, q4⟩, h5⟩ := h p e ha hc hk s m args below hf happ hP hK
  exact ⟨n, o, h1, h2, h3, ⟨⟨r, μ', q1, hQ _ _ q2, q3⟩, q4⟩, h5⟩
/-- what is said of a method that is called -/
def zCal (M : zO) (y : MethodName) (n : Nat) : Prop := Cond.code y M.2.1 M.2.2.1 M.2.2.2 ∈ zw ∧ Cond.initialized y.cls ∈ zw ∧ (y.cls ≠ "java/lang/invoke/MethodHandle" ∧ y.cls ≠ "java/lang/invoke/VarHandle" ∧ (parseMethodDescriptor y.desc).map (fun d => d.parameters.length) = some n) ∧ M.2.2.1 ≤ 100
def zCalV (M : zO) (y : MethodName) (n : Nat) : Prop := zCal M y n ∧ Cond.instanceMethod y ∈ zw ∧ Cond.selects y.cls y y ∈ zw
def zCalS (M : zO) (y : MethodName) (n : Nat) : Prop := zCal M y n ∧ Cond.static y ∈ zw
section ZC
variable {sh : List zS} {σ : zG} {d d' : Nat} {M M' : zO} {pc n nn idx k ci : Nat} {lv : List (Nat × zV)} {st rest as : List zV} {μ : zM} {Q Q' : Option zV → zM → Prop} {y : MethodName} {fl : List (Option Nat)}
theorem zB_blind (as : List zV) : FrameBlind (va_Pc (as.map (zval (zad σ))) (fun U => zB sh σ μ U ∧ zRO σ U U.heap)) := by
  intro a U g mk q
  obtain ⟨h1, ⟨hP, hK, hD⟩, hRO⟩ := q
  exact ⟨h1, ⟨hP, va_K.moved (u := U) (U := U.calling g mk a) (Vm.Alike.refl U.vm) hK, hD⟩, zRO_go (s := U) (U := U.calling g mk a) (State.WarmedH.refl U) (fun _ _ _ => rfl) hRO⟩
/-- behind a call -/
theorem zx_after {p : Program} {e : Env} {R : Room} {s : State} {m : MethodId} {args : Array Value} {below : List Frame} {meth : Method} {c : Code} {H : Heap} {locs : List Loc} {ls : Array Slot} {st0 : List Value} {a : Array Value}
    (hr : va_Run p (zlau σ) e R s m args below meth c H locs 0 0 0 0 (F0 m pc ls st0) (rest.map (zval (zad σ))) (zQ sh σ Q' a) (zA σ)) (hC : zCx sh σ d M p R s m args meth c) (hS : va_S (zA σ) s.heap H locs) (hl : lv_has ls M.2.2.1 (zlv σ lv))
    (kk : ∀ r μ', Q' r μ' → zX sh σ d M (pc + 3) lv (r.toList ++ rest) μ' Q) : W p (zlau σ) e R s m args below meth c H locs 0 0 (MQ below (zQ sh σ Q) args s 0 0 (zA σ)) (F0 m pc ls st0) := by
  intro T hT X
  obtain ⟨v, st₀, t, T', L, h0, X', hL, e1, e2, ⟨⟨r, μ', hv, hq, hP, hK, hD⟩, hz, hk⟩, stp⟩ := hr T hT X
  cases hv
  rw [h0] at hz hk
  have hS' : va_S (zA σ) s.heap T'.heap (locs ++ L) := ⟨Nat.le_trans hS.1 (by rw [e1]; exact hz), fun q h1 h2 => by rw [e1, hk q (Nat.lt_of_lt_of_le h1 hS.1) h2]; exact hS.2.1 q h1 h2, fun q hq => by
      rcases List.mem_append.mp hq with h | h
      · exact hS.2.2 q h
      · exact hL q h⟩
  have hst : (r.map (zval (zad σ))).toList ++ rest.map (zval (zad σ)) = (r.toList ++ rest).map (zval (zad σ)) := by
    cases r <;> rfl
  obtain ⟨t2, a1, b1⟩ := kk r μ' hq p e R s m args below meth c hC T'.heap (locs ++ L) ls (by rw [e1]; exact hP) hD hS' hl T' rfl X'
  rw [← hst] at a1
  exact ⟨t2, stp t2 a1, b1⟩
theorem zx_callV {C : String} {Tt : u_T} {N : Nat} (hm : zMet sh σ d' M' y (zr k :: as) μ Q') (hc : zCalV M' y n) (hlk : Cond.methodLink M.1 idx y ∈ zw) (hsh : sh[k]? = some (.inl (ci, fl))) (hcl : vwCl[ci]? = some (C, Tt, N)) (hyc : y.cls = C) (hd : d' + 1 ≤ d) (hn : as.length = n) (hst : st = as.reverse ++ zr k :: rest) (hW : zcat rest ≤ 8)
    (hdg : decode M.2.1 pc = .ok (.invokevirtual idx, 3)) (hpc : nn = pc + 3) (kk : ∀ r μ', Q' r μ' → zX sh σ d M nn lv (r.toList ++ rest) μ' Q) : zX sh σ d M pc lv st μ Q := by
  subst hpc
  subst hst
  intro p e R s m args below meth c hC H locs ls hP hD hS hl
  obtain ⟨hx, hb, hml, hr, hlk2, hown, hts, hroom, hK, hRO⟩ := id hC
  obtain ⟨⟨hc1, hc2, hc3, hc4⟩, hc5, hc6⟩ := hc
  have hR2 : d' + 1 ≤ R.frames ∧ 8 + (M'.2.2.1 + 11) + 200 * d' ≤ R.locals := ⟨by omega, by omega⟩
  have hstk : ((as.reverse ++ zr k :: rest).map (zval (zad σ))) = (as.map (zval (zad σ))).reverse ++ Value.ref (zad σ k) :: rest.map (zval (zad σ)) := by
    rw [List.map_append, List.map_reverse]; rfl
  rw [hstk]
  have hgood : GoodIn zw (wsV M.1 idx y.cls y (zws M' y)) := by
    intro w hw
    rcases List.mem_append.mp hw with h | h
    · simp at h
      rcases h with rfl | rfl | rfl | rfl
      · exact ⟨hlk, zw_good _ hlk⟩
      · exact ⟨hc5, zw_good _ hc5⟩
      · exact ⟨hc6, zw_good _ hc6⟩
      · exact ⟨hc2, zw_good _ hc2⟩
    · exact zws_good hc1 w h
  have hrc := va_recv hK hP hcl (zW_get hsh)
  refine zx_after (lv := lv) (va_runV (As := as.map (zval (zad σ))) ⟨hx, hb, hml, hown, hts⟩ hm (cwV n hts hgood rfl rfl rfl ⟨rfl, hc3⟩ hR2) ⟨zB_blind _, by rw [hyc]; exact hrc, fun U hU hW => ⟨rfl, ⟨by rw [hU]; exact hP, va_K.moved hW.alike hK, hD⟩, zRO_go hW (fun q h1 h2 => by rw [hU]; exact hS.2.1 q h1 h2) hRO⟩⟩ rfl (by rw [List.length_map]; exact hn) hl.1 rfl (lv_room (by rw [zcat_eq]; exact hW)) hdg ⟨Nat.zero_le _, Nat.zero_le _⟩) hC hS hl kk
theorem zx_callS (hm : zMet sh σ d' M' y as μ Q') (hc : zCalS M' y n) (hlk : Cond.methodLink M.1 idx y ∈ zw) (hd : d' + 1 ≤ d) (hn : as.length = n) (hst : st = as.reverse ++ rest) (hW : zcat rest ≤ 8)
    (hdg : decode M.2.1 pc = .ok (.invokestatic idx, 3)) (hpc : nn = pc + 3) (kk : ∀ r μ', Q' r μ' → zX sh σ d M nn lv (r.toList ++ rest) μ' Q) : zX sh σ d M pc lv st μ Q := by
  subst hpc
  subst hst
  intro p e R s m args below meth c hC H locs ls hP hD hS hl
  obtain ⟨hx, hb, hml, hr, hlk2, hown, hts, hroom, hK, hRO⟩ := id hC
  obtain ⟨⟨hc1, hc2, hc3, hc4⟩, hc5⟩ := hc
  have hR2 : d' + 1 ≤ R.frames ∧ 8 + (M'.2.2.1 + 11) + 200 * d' ≤ R.locals := ⟨by omega, by omega⟩
  have hstk : ((as.reverse ++ rest).map (zval (zad σ))) = (as.map (zval (zad σ))).reverse ++ rest.map (zval (zad σ)) := by
    rw [List.map_append, List.map_reverse]
  rw [hstk]
  have hgood : GoodIn zw (va_wsS M.1 idx y (zws M' y)) := by
    intro w hw
    rcases List.mem_append.mp hw with h | h
    · simp at h
      rcases h with rfl | rfl | rfl
      · exact ⟨hlk, zw_good _ hlk⟩
      · exact ⟨hc5, zw_good _ hc5⟩
      · exact ⟨hc2, zw_good _ hc2⟩
    · exact zws_good hc1 w h
  refine zx_after (lv := lv) (va_runS (As := as.map (zval (zad σ))) ⟨hx, hb, hml, hown, hts⟩ hm (va_cwS n hts hgood rfl rfl rfl hc3 hR2) ⟨zB_blind _, fun U hU hW => ⟨rfl, ⟨by rw [hU]; exact hP, va_K.moved hW.alike hK, hD⟩, zRO_go hW (fun q h1 h2 => by rw [hU]; exact hS.2.1 q h1 h2) hRO⟩⟩ rfl (by rw [List.length_map]; exact hn) hl.1 rfl (lv_room (by rw [zcat_eq]; exact hW)) hdg ⟨Nat.zero_le _, Nat.zero_le _⟩) hC hS hl kk
/-- ends -/
theorem zx_iret {v : Int32} (hr : M.2.2.2 = some .int) (hdg : decode M.2.1 pc = .ok (.ireturn, 1)) (kk : Q (some (zi v)) μ) : zX sh σ d M pc lv [zi v] μ Q := by
  intro p e R s m args below meth c hC H locs ls hP hD hS hl
  obtain ⟨hx, hb, hml, hr2, hlk, hown, hts, hroom, hK, hRO⟩ := hC
  exact W.iret (v := v) hx hb (hr2.trans hr) (fun t ht hW => ⟨⟨some (zi v), μ, rfl, kk, by rw [ht]; exact hP, va_K.moved hW.alike hK, hD⟩, hS.F ht⟩) hS.2.2 hdg hlk
theorem zx_zret {v : Int32} {ty : FieldType} (hr : M.2.2.2 = some ty) (hn : narrow ty (.int v) = .int v) (hdg : decode M.2.1 pc = .ok (.ireturn, 1)) (kk : Q (some (zi v)) μ) : zX sh σ d M pc lv [zi v] μ Q := by
  intro p e R s m args below meth c hC H locs ls hP hD hS hl
  obtain ⟨hx, hb, hml, hr2, hlk, hown, hts, hroom, hK, hRO⟩ := hC
  exact W.zret (v := v) hx hb (hr2.trans hr) hn (fun t ht hW => ⟨⟨some (zi v), μ, rfl, kk, by rw [ht]; exact hP, va_K.moved hW.alike hK, hD⟩, hS.F ht⟩) hS.2.2 hdg hlk
theorem zx_lret {v : Int64} (hr : M.2.2.2 = some .long) (hdg : decode M.2.1 pc = .ok (.lreturn, 1)) (kk : Q (some (zj v)) μ) : zX sh σ d M pc lv [zj v] μ Q := by
  intro p e R s m args below meth c hC H locs ls hP hD hS hl
  obtain ⟨hx, hb, hml, hr2, hlk, hown, hts, hroom, hK, hRO⟩ := hC
  exact W.lret (v := v) hx hb (hr2.trans hr) (fun t ht hW => ⟨⟨some (zj v), μ, rfl, kk, by rw [ht]; exact hP, va_K.moved hW.alike hK, hD⟩, hS.F ht⟩) hS.2.2 hdg hlk
theorem zx_aret {q : Nat} {ty : FieldType} (hr : M.2.2.2 = some ty) (hrt : (∃ n, ty = .object n) ∨ ∃ t, ty = .array t) (hdg : decode M.2.1 pc = .ok (.areturn, 1)) (kk : Q (some (zr q)) μ) : zX sh σ d M pc lv [zr q] μ Q := by
  intro p e R s m args below meth c hC H locs ls hP hD hS hl
  obtain ⟨hx, hb, hml, hr2, hlk, hown, hts, hroom, hK, hRO⟩ := hC
  exact W.aret (v := .ref (zad σ q)) hx hb (hr2.trans hr) hrt (Or.inr ⟨_, rfl⟩) (fun t ht hW => ⟨⟨some (zr q), μ, rfl, kk, by rw [ht]; exact hP, va_K.moved hW.alike hK, hD⟩, hS.F ht⟩) hS.2.2 hdg hlk
theorem zx_vret (hr : M.2.2.2 = none) (hdg : decode M.2.1 pc = .ok (.return_, 1)) (kk : Q none μ) : zX sh σ d M pc lv [] μ Q := by
  intro p e R s m args below meth c hC H locs ls hP hD hS hl
  obtain ⟨hx, hb, hml, hr2, hlk, hown, hts, hroom, hK, hRO⟩ := hC
  exact W.vret hx hb (hr2.trans hr) (fun t ht hW => ⟨⟨none, μ, rfl, kk, by rw [ht]; exact hP, va_K.moved hW.alike hK, hD⟩, hS.F ht⟩) hS.2.2 hdg hlk
end ZC
/-! AN INSTRUCTION, A ROW -/
def zc2 : zV → Bool
  | .inr (.inl _) => true
  | _ => false
theorem zc2_eq (ad : Nat → Nat) (v : zV) : ((zval ad v).category == 2) = zc2 v := by
  rcases v with x | x | x <;> rfl
theorem zlv_get {σ : zG} {lv : List (Nat × zV)} {k i : Nat} {v : zV} (h : lv[k]? = some (i, v)) : (zlv σ lv)[k]? = some (i, zval (zad σ) v) := by
  unfold zlv
  rw [List.getElem?_map, h]
  rfl
theorem zlv_st1 {σ : zG} {lv lv' : List (Nat × zV)} {i : Nat} {v : zV} (h : (i, v) :: lv.filter (fun q => !(q.1 == i) && !(q.1 + 1 == i && zc2 q.2)) = lv') : (i, zval (zad σ) v) :: (zlv σ lv).filter (fun q => !(q.1 == i) && !(q.1 + 1 == i && q.2.category == 2)) = zlv σ lv' := by
  subst h
  unfold zlv
  rw [List.filter_map, List.map_cons]
  congr 2
  apply List.filter_congr
  intro q _
  simp [zc2_eq]
theorem zlv_st2 {σ : zG} {lv lv' : List (Nat × zV)} {i : Nat} {v : zV} (h : (i, v) :: lv.filter (fun q => !(q.1 == i) && (!(q.1 == i + 1) && !(q.1 + 1 == i && zc2 q.2))) = lv') : (i, zval (zad σ) v) :: (zlv σ lv).filter (fun q => !(q.1 == i) && (!(q.1 == i + 1) && !(q.1 + 1 == i && q.2.category == 2))) = zlv σ lv' := by
  subst h
  unfold zlv
  rw [List.filter_map, List.map_cons]
  congr 2
  apply List.filter_congr
  intro q _
  simp [zc2_eq]
def zFld (own : String) (idx ci j : Nat) : Prop := ∃ (C : String) (Tt : u_T) (N : Nat), vwCl[ci]? = some (C, Tt, N) ∧ j < N ∧ (∀ w ∈ u_ws C Tt N, w ∈ zw) ∧ Cond.fieldLink own idx (Tt j).1 (Tt j).2.1 (Tt j).2.2.1 ∈ zw
def zFldP (own : String) (idx ci j : Nat) (ty : FieldType) : Prop := ∃ (C : String) (Tt : u_T) (N : Nat) (ty0 : Nat → FieldType), vwCl[ci]? = some (C, Tt, N) ∧ j < N ∧ (∀ w ∈ u_ws C Tt N, w ∈ zw) ∧ Cond.fieldLink own idx (Tt j).1 (Tt j).2.1 (Tt j).2.2.1 ∈ zw ∧
  (∀ k, k < N → parseFieldDescriptor (Tt k).2.2.1 = some (ty0 k)) ∧ (∀ a, a < N → ∀ b, b < N → a ≠ b → (Tt a).2.1 ≠ (Tt b).2.1) ∧ (Tt j).2.2.2 = false ∧ parseFieldDescriptor (Tt j).2.2.1 = some ty
section ZI
variable {sh : List zS} {σ : zG} {d : Nat} {M : zO} {pc nn tgt idx k ci j i q : Nat} {lv lv' : List (Nat × zV)} {st : List zV} {μ : zM} {Q : Option zV → zM → Prop}
theorem zx_iconst {n : Int} {v : Int32} (hv : Int32.ofInt n = v) (hdg : decode M.2.1 pc = .ok (.iconst n, 1)) (hpc : nn = pc + 1) (kk : zX sh σ d M nn lv (zi v :: st) μ Q) : zX sh σ d M pc lv (st) μ Q := by
  subst hpc
  intro p e R s m args below meth c hC H locs ls hP hD hS hl
  obtain ⟨hx, hb, hml, hr2, hlk, hown, hts, hroom, hK, hRO⟩ := id hC
  exact lv_iconst hx hb hdg hv (kk p e R s m args below meth c hC H locs ls hP hD hS hl)
theorem zx_bipush {n : Int} {v : Int32} (hv : (Int8.ofInt n).toInt32 = v) (hdg : decode M.2.1 pc = .ok (.bipush n, 2)) (hpc : nn = pc + 2) (kk : zX sh σ d M nn lv (zi v :: st) μ Q) : zX sh σ d M pc lv (st) μ Q := by
  subst hpc
  intro p e R s m args below meth c hC H locs ls hP hD hS hl
  obtain ⟨hx, hb, hml, hr2, hlk, hown, hts, hroom, hK, hRO⟩ := id hC
  exact lv_bipush hx hb hdg hv (kk p e R s m args below meth c hC H locs ls hP hD hS hl)
theorem zx_sipush {n : Int} {v : Int32} (hv : (Int16.ofInt n).toInt32 = v) (hdg : decode M.2.1 pc = .ok (.sipush n, 3)) (hpc : nn = pc + 3) (kk : zX sh σ d M nn lv (zi v :: st) μ Q) : zX sh σ d M pc lv (st) μ Q := by
  subst hpc
  intro p e R s m args below meth c hC H locs ls hP hD hS hl
  obtain ⟨hx, hb, hml, hr2, hlk, hown, hts, hroom, hK, hRO⟩ := id hC
  exact lv_sipush hx hb hdg hv (kk p e R s m args below meth c hC H locs ls hP hD hS hl)
theorem zx_lconst {n : Fin 2} {v : Int64} (hv : Int64.ofNat (n : Nat) = v) (hdg : decode M.2.1 pc = .ok (.lconst n, 1)) (hpc : nn = pc + 1) (kk : zX sh σ d M nn lv (zj v :: st) μ Q) : zX sh σ d M pc lv (st) μ Q := by
  subst hpc
  intro p e R s m args below meth c hC H locs ls hP hD hS hl
  obtain ⟨hx, hb, hml, hr2, hlk, hown, hts, hroom, hK, hRO⟩ := id hC
  exact lv_lconst hx hb hdg hv (kk p e R s m args below meth c hC H locs ls hP hD hS hl)
theorem zx_iadd {x y : Int32} (hdg : decode M.2.1 pc = .ok (.iadd, 1)) (hpc : nn = pc + 1) (kk : zX sh σ d M nn lv (zi (x + y) :: st) μ Q) : zX sh σ d M pc lv (zi y :: zi x :: st) μ Q := by
  subst hpc
  intro p e R s m args below meth c hC H locs ls hP hD hS hl
  obtain ⟨hx, hb, hml, hr2, hlk, hown, hts, hroom, hK, hRO⟩ := id hC
  exact lv_iadd hx hb hdg (kk p e R s m args below meth c hC H locs ls hP hD hS hl)
theorem zx_isub {x y : Int32} (hdg : decode M.2.1 pc = .ok (.isub, 1)) (hpc : nn = pc + 1) (kk : zX sh σ d M nn lv (zi (x - y) :: st) μ Q) : zX sh σ d M pc lv (zi y :: zi x :: st) μ Q := by
  subst hpc
  intro p e R s m args below meth c hC H locs ls hP hD hS hl
  obtain ⟨hx, hb, hml, hr2, hlk, hown, hts, hroom, hK, hRO⟩ := id hC
  exact lv_isub hx hb hdg (kk p e R s m args below meth c hC H locs ls hP hD hS hl)
theorem zx_imul {x y : Int32} (hdg : decode M.2.1 pc = .ok (.imul, 1)) (hpc : nn = pc + 1) (kk : zX sh σ d M nn lv (zi (x * y) :: st) μ Q) : zX sh σ d M pc lv (zi y :: zi x :: st) μ Q := by
  subst hpc
  intro p e R s m args below meth c hC H locs ls hP hD hS hl
  obtain ⟨hx, hb, hml, hr2, hlk, hown, hts, hroom, hK, hRO⟩ := id hC
  exact lv_imul hx hb hdg (kk p e R s m args below meth c hC H locs ls hP hD hS hl)
theorem zx_iand {x y : Int32} (hdg : decode M.2.1 pc = .ok (.iand, 1)) (hpc : nn = pc + 1) (kk : zX sh σ d M nn lv (zi (x &&& y) :: st) μ Q) : zX sh σ d M pc lv (zi y :: zi x :: st) μ Q := by
  subst hpc
  intro p e R s m args below meth c hC H locs ls hP hD hS hl
  obtain ⟨hx, hb, hml, hr2, hlk, hown, hts, hroom, hK, hRO⟩ := id hC
  exact lv_iand hx hb hdg (kk p e R s m args below meth c hC H locs ls hP hD hS hl)
theorem zx_ior {x y : Int32} (hdg : decode M.2.1 pc = .ok (.ior, 1)) (hpc : nn = pc + 1) (kk : zX sh σ d M nn lv (zi (x ||| y) :: st) μ Q) : zX sh σ d M pc lv (zi y :: zi x :: st) μ Q := by
  subst hpc
  intro p e R s m args below meth c hC H locs ls hP hD hS hl
  obtain ⟨hx, hb, hml, hr2, hlk, hown, hts, hroom, hK, hRO⟩ := id hC
  exact lv_ior hx hb hdg (kk p e R s m args below meth c hC H locs ls hP hD hS hl)
theorem zx_ixor {x y : Int32} (hdg : decode M.2.1 pc = .ok (.ixor, 1)) (hpc : nn = pc + 1) (kk : zX sh σ d M nn lv (zi (x ^^^ y) :: st) μ Q) : zX sh σ d M pc lv (zi y :: zi x :: st) μ Q := by
  subst hpc
  intro p e R s m args below meth c hC H locs ls hP hD hS hl
  obtain ⟨hx, hb, hml, hr2, hlk, hown, hts, hroom, hK, hRO⟩ := id hC
  exact lv_ixor hx hb hdg (kk p e R s m args below meth c hC H locs ls hP hD hS hl)
theorem zx_idiv {x y : Int32} (hne : ¬ y = 0) (hdg : decode M.2.1 pc = .ok (.idiv, 1)) (hpc : nn = pc + 1) (kk : zX sh σ d M nn lv (zi (x / y) :: st) μ Q) : zX sh σ d M pc lv (zi y :: zi x :: st) μ Q := by
  subst hpc
  intro p e R s m args below meth c hC H locs ls hP hD hS hl
  obtain ⟨hx, hb, hml, hr2, hlk, hown, hts, hroom, hK, hRO⟩ := id hC
  exact lv_idiv hx hb hdg hne (kk p e R s m args below meth c hC H locs ls hP hD hS hl)
theorem zx_irem {x y : Int32} (hne : ¬ y = 0) (hdg : decode M.2.1 pc = .ok (.irem, 1)) (hpc : nn = pc + 1) (kk : zX sh σ d M nn lv (zi (x - x / y * y) :: st) μ Q) : zX sh σ d M pc lv (zi y :: zi x :: st) μ Q := by
  subst hpc
  intro p e R s m args below meth c hC H locs ls hP hD hS hl
  obtain ⟨hx, hb, hml, hr2, hlk, hown, hts, hroom, hK, hRO⟩ := id hC
  exact lv_irem hx hb hdg hne (kk p e R s m args below meth c hC H locs ls hP hD hS hl)
theorem zx_ineg {x : Int32} (hdg : decode M.2.1 pc = .ok (.ineg, 1)) (hpc : nn = pc + 1) (kk : zX sh σ d M nn lv (zi (-x) :: st) μ Q) : zX sh σ d M pc lv (zi x :: st) μ Q := by
  subst hpc
  intro p e R s m args below meth c hC H locs ls hP hD hS hl
  obtain ⟨hx, hb, hml, hr2, hlk, hown, hts, hroom, hK, hRO⟩ := id hC
  exact lv_ineg hx hb hdg (kk p e R s m args below meth c hC H locs ls hP hD hS hl)
theorem zx_ladd {x y : Int64} (hdg : decode M.2.1 pc = .ok (.ladd, 1)) (hpc : nn = pc + 1) (kk : zX sh σ d M nn lv (zj (x + y) :: st) μ Q) : zX sh σ d M pc lv (zj y :: zj x :: st) μ Q := by
  subst hpc
  intro p e R s m args below meth c hC H locs ls hP hD hS hl
  obtain ⟨hx, hb, hml, hr2, hlk, hown, hts, hroom, hK, hRO⟩ := id hC
  exact lv_ladd hx hb hdg (kk p e R s m args below meth c hC H locs ls hP hD hS hl)
theorem zx_lsub {x y : Int64} (hdg : decode M.2.1 pc = .ok (.lsub, 1)) (hpc : nn = pc + 1) (kk : zX sh σ d M nn lv (zj (x - y) :: st) μ Q) : zX sh σ d M pc lv (zj y :: zj x :: st) μ Q := by
  subst hpc
  intro p e R s m args below meth c hC H locs ls hP hD hS hl
  obtain ⟨hx, hb, hml, hr2, hlk, hown, hts, hroom, hK, hRO⟩ := id hC
  exact lv_lsub hx hb hdg (kk p e R s m args below meth c hC H locs ls hP hD hS hl)
theorem zx_land {x y : Int64} (hdg : decode M.2.1 pc = .ok (.land, 1)) (hpc : nn = pc + 1) (kk : zX sh σ d M nn lv (zj (x &&& y) :: st) μ Q) : zX sh σ d M pc lv (zj y :: zj x :: st) μ Q := by
  subst hpc
  intro p e R s m args below meth c hC H locs ls hP hD hS hl
  obtain ⟨hx, hb, hml, hr2, hlk, hown, hts, hroom, hK, hRO⟩ := id hC
  exact lv_land hx hb hdg (kk p e R s m args below meth c hC H locs ls hP hD hS hl)
theorem zx_lor {x y : Int64} (hdg : decode M.2.1 pc = .ok (.lor, 1)) (hpc : nn = pc + 1) (kk : zX sh σ d M nn lv (zj (x ||| y) :: st) μ Q) : zX sh σ d M pc lv (zj y :: zj x :: st) μ Q := by
  subst hpc
  intro p e R s m args below meth c hC H locs ls hP hD hS hl
  obtain ⟨hx, hb, hml, hr2, hlk, hown, hts, hroom, hK, hRO⟩ := id hC
  exact lv_lor hx hb hdg (kk p e R s m args below meth c hC H locs ls hP hD hS hl)
theorem zx_ishl {x y : Int32} (hdg : decode M.2.1 pc = .ok (.ishl, 1)) (hpc : nn = pc + 1) (kk : zX sh σ d M nn lv (zi (x <<< (y &&& 31)) :: st) μ Q) : zX sh σ d M pc lv (zi y :: zi x :: st) μ Q := by
  subst hpc
  intro p e R s m args below meth c hC H locs ls hP hD hS hl
  obtain ⟨hx, hb, hml, hr2, hlk, hown, hts, hroom, hK, hRO⟩ := id hC
  exact lv_ishl hx hb hdg (kk p e R s m args below meth c hC H locs ls hP hD hS hl)
theorem zx_ishr {x y : Int32} (hdg : decode M.2.1 pc = .ok (.ishr, 1)) (hpc : nn = pc + 1) (kk : zX sh σ d M nn lv (zi (x >>> (y &&& 31)) :: st) μ Q) : zX sh σ d M pc lv (zi y :: zi x :: st) μ Q := by
  subst hpc
  intro p e R s m args below meth c hC H locs ls hP hD hS hl
  obtain ⟨hx, hb, hml, hr2, hlk, hown, hts, hroom, hK, hRO⟩ := id hC
  exact lv_ishr hx hb hdg (kk p e R s m args below meth c hC H locs ls hP hD hS hl)
theorem zx_iushr {x y v : Int32} (hv : (x.toUInt32 >>> (y.toUInt32 &&& Int32.toUInt32 31)).toInt32 = v) (hdg : decode M.2.1 pc = .ok (.iushr, 1)) (hpc : nn = pc + 1) (kk : zX sh σ d M nn lv (zi v :: st) μ Q) : zX sh σ d M pc lv (zi y :: zi x :: st) μ Q := by
  subst hpc
  intro p e R s m args below meth c hC H locs ls hP hD hS hl
  obtain ⟨hx, hb, hml, hr2, hlk, hown, hts, hroom, hK, hRO⟩ := id hC
  exact lv_iushr hx hb hdg hv (kk p e R s m args below meth c hC H locs ls hP hD hS hl)
theorem zx_lushr {x v : Int64} {y : Int32} (hv : (x.toUInt64 >>> (y.toInt64.toUInt64 &&& Int64.toUInt64 63)).toInt64 = v) (hdg : decode M.2.1 pc = .ok (.lushr, 1)) (hpc : nn = pc + 1) (kk : zX sh σ d M nn lv (zj v :: st) μ Q) : zX sh σ d M pc lv (zi y :: zj x :: st) μ Q := by
  subst hpc
  intro p e R s m args below meth c hC H locs ls hP hD hS hl
  obtain ⟨hx, hb, hml, hr2, hlk, hown, hts, hroom, hK, hRO⟩ := id hC
  exact lv_lushr hx hb hdg hv (kk p e R s m args below meth c hC H locs ls hP hD hS hl)
theorem zx_lshl {x v : Int64} {y : Int32} (hv : x <<< (y.toInt64 &&& 63) = v) (hdg : decode M.2.1 pc = .ok (.lshl, 1)) (hpc : nn = pc + 1) (kk : zX sh σ d M nn lv (zj v :: st) μ Q) : zX sh σ d M pc lv (zi y :: zj x :: st) μ Q := by
  subst hpc
  intro p e R s m args below meth c hC H locs ls hP hD hS hl
  obtain ⟨hx, hb, hml, hr2, hlk, hown, hts, hroom, hK, hRO⟩ := id hC
  exact lv_lshl hx hb hdg hv (kk p e R s m args below meth c hC H locs ls hP hD hS hl)
theorem zx_lshr {x v : Int64} {y : Int32} (hv : x >>> (y.toInt64 &&& 63) = v) (hdg : decode M.2.1 pc = .ok (.lshr, 1)) (hpc : nn = pc + 1) (kk : zX sh σ d M nn lv (zj v :: st) μ Q) : zX sh σ d M pc lv (zi y :: zj x :: st) μ Q := by
  subst hpc
  intro p e R s m args below meth c hC H locs ls hP hD hS hl
  obtain ⟨hx, hb, hml, hr2, hlk, hown, hts, hroom, hK, hRO⟩ := id hC
  exact lv_lshr hx hb hdg hv (kk p e R s m args below meth c hC H locs ls hP hD hS hl)
theorem zx_i2l {x : Int32} (hdg : decode M.2.1 pc = .ok (.i2l, 1)) (hpc : nn = pc + 1) (kk : zX sh σ d M nn lv (zj x.toInt64 :: st) μ Q) : zX sh σ d M pc lv (zi x :: st) μ Q := by
  subst hpc
  intro p e R s m args below meth c hC H locs ls hP hD hS hl
  obtain ⟨hx, hb, hml, hr2, hlk, hown, hts, hroom, hK, hRO⟩ := id hC
  exact lv_i2l hx hb hdg rfl (kk p e R s m args below meth c hC H locs ls hP hD hS hl)
theorem zx_l2i {x : Int64} (hdg : decode M.2.1 pc = .ok (.l2i, 1)) (hpc : nn = pc + 1) (kk : zX sh σ d M nn lv (zi x.toInt32 :: st) μ Q) : zX sh σ d M pc lv (zj x :: st) μ Q := by
  subst hpc
  intro p e R s m args below meth c hC H locs ls hP hD hS hl
  obtain ⟨hx, hb, hml, hr2, hlk, hown, hts, hroom, hK, hRO⟩ := id hC
  exact lv_l2i hx hb hdg rfl (kk p e R s m args below meth c hC H locs ls hP hD hS hl)
theorem zx_i2b {x : Int32} (hdg : decode M.2.1 pc = .ok (.i2b, 1)) (hpc : nn = pc + 1) (kk : zX sh σ d M nn lv (zi x.toInt8.toInt32 :: st) μ Q) : zX sh σ d M pc lv (zi x :: st) μ Q := by
  subst hpc
  intro p e R s m args below meth c hC H locs ls hP hD hS hl
  obtain ⟨hx, hb, hml, hr2, hlk, hown, hts, hroom, hK, hRO⟩ := id hC
  exact lv_i2b hx hb hdg rfl (kk p e R s m args below meth c hC H locs ls hP hD hS hl)
theorem zx_i2s {x : Int32} (hdg : decode M.2.1 pc = .ok (.i2s, 1)) (hpc : nn = pc + 1) (kk : zX sh σ d M nn lv (zi x.toInt16.toInt32 :: st) μ Q) : zX sh σ d M pc lv (zi x :: st) μ Q := by
  subst hpc
  intro p e R s m args below meth c hC H locs ls hP hD hS hl
  obtain ⟨hx, hb, hml, hr2, hlk, hown, hts, hroom, hK, hRO⟩ := id hC
  exact lv_i2s hx hb hdg rfl (kk p e R s m args below meth c hC H locs ls hP hD hS hl)
theorem zx_lcmp {x y : Int64} (hdg : decode M.2.1 pc = .ok (.lcmp, 1)) (hpc : nn = pc + 1) (kk : zX sh σ d M nn lv (zi (lg_cmp x y) :: st) μ Q) : zX sh σ d M pc lv (zj y :: zj x :: st) μ Q := by
  subst hpc
  intro p e R s m args below meth c hC H locs ls hP hD hS hl
  obtain ⟨hx, hb, hml, hr2, hlk, hown, hts, hroom, hK, hRO⟩ := id hC
  exact W.lcmp hx hb hdg (kk p e R s m args below meth c hC H locs ls hP hD hS hl)
theorem zx_dupi {x : Int32} (hdg : decode M.2.1 pc = .ok (.dup, 1)) (hpc : nn = pc + 1) (kk : zX sh σ d M nn lv (zi x :: zi x :: st) μ Q) : zX sh σ d M pc lv (zi x :: st) μ Q := by
  subst hpc
  intro p e R s m args below meth c hC H locs ls hP hD hS hl
  obtain ⟨hx, hb, hml, hr2, hlk, hown, hts, hroom, hK, hRO⟩ := id hC
  exact lv_dup hx hb hdg rfl (kk p e R s m args below meth c hC H locs ls hP hD hS hl)
theorem zx_popi {x : Int32} (hdg : decode M.2.1 pc = .ok (.pop, 1)) (hpc : nn = pc + 1) (kk : zX sh σ d M nn lv (st) μ Q) : zX sh σ d M pc lv (zi x :: st) μ Q := by
  subst hpc
  intro p e R s m args below meth c hC H locs ls hP hD hS hl
  obtain ⟨hx, hb, hml, hr2, hlk, hown, hts, hroom, hK, hRO⟩ := id hC
  exact lv_pop hx hb hdg rfl (kk p e R s m args below meth c hC H locs ls hP hD hS hl)
theorem zx_dupr {x : Nat} (hdg : decode M.2.1 pc = .ok (.dup, 1)) (hpc : nn = pc + 1) (kk : zX sh σ d M nn lv (zr x :: zr x :: st) μ Q) : zX sh σ d M pc lv (zr x :: st) μ Q := by
  subst hpc
  intro p e R s m args below meth c hC H locs ls hP hD hS hl
  obtain ⟨hx, hb, hml, hr2, hlk, hown, hts, hroom, hK, hRO⟩ := id hC
  exact lv_dup hx hb hdg rfl (kk p e R s m args below meth c hC H locs ls hP hD hS hl)
theorem zx_popr {x : Nat} (hdg : decode M.2.1 pc = .ok (.pop, 1)) (hpc : nn = pc + 1) (kk : zX sh σ d M nn lv (st) μ Q) : zX sh σ d M pc lv (zr x :: st) μ Q := by
  subst hpc
  intro p e R s m args below meth c hC H locs ls hP hD hS hl
  obtain ⟨hx, hb, hml, hr2, hlk, hown, hts, hroom, hK, hRO⟩ := id hC
  exact lv_pop hx hb hdg rfl (kk p e R s m args below meth c hC H locs ls hP hD hS hl)
theorem zx_dup2 {x : Int32} {y : Nat} (hdg : decode M.2.1 pc = .ok (.dup2, 1)) (hpc : nn = pc + 1) (kk : zX sh σ d M nn lv (zi x :: zr y :: zi x :: zr y :: st) μ Q) : zX sh σ d M pc lv (zi x :: zr y :: st) μ Q := by
  subst hpc
  intro p e R s m args below meth c hC H locs ls hP hD hS hl
  obtain ⟨hx, hb, hml, hr2, hlk, hown, hts, hroom, hK, hRO⟩ := id hC
  exact lv_dup2_11 hx hb hdg rfl rfl (kk p e R s m args below meth c hC H locs ls hP hD hS hl)
theorem zx_iload_n {kf : Fin 4} {x : Int32} (hdg : decode M.2.1 pc = .ok (.iload_n kf, 1)) (hi : (kf : Nat) = i) (h : lv[k]? = some (i, zi x)) (hpc : nn = pc + 1) (kk : zX sh σ d M nn lv (zi x :: st) μ Q) : zX sh σ d M pc lv st μ Q := by
  subst hpc
  intro p e R s m args below meth c hC H locs ls hP hD hS hl
  obtain ⟨hx, hb, hml, hr2, hlk, hown, hts, hroom, hK, hRO⟩ := id hC
  exact lv_iload_n hx hb hdg hi (lv_at hl k (zlv_get h)) (kk p e R s m args below meth c hC H locs ls hP hD hS hl)
theorem zx_iload {x : Int32} (hdg : decode M.2.1 pc = .ok (.iload i, 2)) (h : lv[k]? = some (i, zi x)) (hpc : nn = pc + 2) (kk : zX sh σ d M nn lv (zi x :: st) μ Q) : zX sh σ d M pc lv st μ Q := by
  subst hpc
  intro p e R s m args below meth c hC H locs ls hP hD hS hl
  obtain ⟨hx, hb, hml, hr2, hlk, hown, hts, hroom, hK, hRO⟩ := id hC
  exact lv_iload hx hb hdg (lv_at hl k (zlv_get h)) (kk p e R s m args below meth c hC H locs ls hP hD hS hl)
theorem zx_lload_n {kf : Fin 4} {x : Int64} (hdg : decode M.2.1 pc = .ok (.lload_n kf, 1)) (hi : (kf : Nat) = i) (h : lv[k]? = some (i, zj x)) (hpc : nn = pc + 1) (kk : zX sh σ d M nn lv (zj x :: st) μ Q) : zX sh σ d M pc lv st μ Q := by
  subst hpc
  intro p e R s m args below meth c hC H locs ls hP hD hS hl
  obtain ⟨hx, hb, hml, hr2, hlk, hown, hts, hroom, hK, hRO⟩ := id hC
  exact lv_lload_n hx hb hdg hi (lv_at hl k (zlv_get h)) (kk p e R s m args below meth c hC H locs ls hP hD hS hl)
theorem zx_lload {x : Int64} (hdg : decode M.2.1 pc = .ok (.lload i, 2)) (h : lv[k]? = some (i, zj x)) (hpc : nn = pc + 2) (kk : zX sh σ d M nn lv (zj x :: st) μ Q) : zX sh σ d M pc lv st μ Q := by
  subst hpc
  intro p e R s m args below meth c hC H locs ls hP hD hS hl
  obtain ⟨hx, hb, hml, hr2, hlk, hown, hts, hroom, hK, hRO⟩ := id hC
  exact lv_lload hx hb hdg (lv_at hl k (zlv_get h)) (kk p e R s m args below meth c hC H locs ls hP hD hS hl)
theorem zx_aload_n {kf : Fin 4} {x : Nat} (hdg : decode M.2.1 pc = .ok (.aload_n kf, 1)) (hi : (kf : Nat) = i) (h : lv[k]? = some (i, zr x)) (hpc : nn = pc + 1) (kk : zX sh σ d M nn lv (zr x :: st) μ Q) : zX sh σ d M pc lv st μ Q := by
  subst hpc
  intro p e R s m args below meth c hC H locs ls hP hD hS hl
  obtain ⟨hx, hb, hml, hr2, hlk, hown, hts, hroom, hK, hRO⟩ := id hC
  exact lv_aload_n hx hb hdg hi (lv_at hl k (zlv_get h)) (kk p e R s m args below meth c hC H locs ls hP hD hS hl)
theorem zx_aload {x : Nat} (hdg : decode M.2.1 pc = .ok (.aload i, 2)) (h : lv[k]? = some (i, zr x)) (hpc : nn = pc + 2) (kk : zX sh σ d M nn lv (zr x :: st) μ Q) : zX sh σ d M pc lv st μ Q := by
  subst hpc
  intro p e R s m args below meth c hC H locs ls hP hD hS hl
  obtain ⟨hx, hb, hml, hr2, hlk, hown, hts, hroom, hK, hRO⟩ := id hC
  exact lv_aload hx hb hdg (lv_at hl k (zlv_get h)) (kk p e R s m args below meth c hC H locs ls hP hD hS hl)
theorem zx_istore_n {kf : Fin 4} {x : Int32} (hdg : decode M.2.1 pc = .ok (.istore_n kf, 1)) (hi : (kf : Nat) = i) (hn : i < M.2.2.1) (h : (i, zi x) :: lv.filter (fun q => !(q.1 == i) && !(q.1 + 1 == i && zc2 q.2)) = lv') (hpc : nn = pc + 1) (kk : zX sh σ d M nn lv' st μ Q) : zX sh σ d M pc lv (zi x :: st) μ Q := by
  subst hpc
  intro p e R s m args below meth c hC H locs ls hP hD hS hl
  obtain ⟨hx, hb, hml, hr2, hlk, hown, hts, hroom, hK, hRO⟩ := id hC
  exact lv_istore_n hx hb hdg hi hl hn (zlv_st1 h) (fun ls' hl' => kk p e R s m args below meth c hC H locs ls' hP hD hS hl')
theorem zx_istore {x : Int32} (hdg : decode M.2.1 pc = .ok (.istore i, 2)) (hn : i < M.2.2.1) (h : (i, zi x) :: lv.filter (fun q => !(q.1 == i) && !(q.1 + 1 == i && zc2 q.2)) = lv') (hpc : nn = pc + 2) (kk : zX sh σ d M nn lv' st μ Q) : zX sh σ d M pc lv (zi x :: st) μ Q := by
  subst hpc
  intro p e R s m args below meth c hC H locs ls hP hD hS hl
  obtain ⟨hx, hb, hml, hr2, hlk, hown, hts, hroom, hK, hRO⟩ := id hC
  exact lv_istore hx hb hdg hl hn (zlv_st1 h) (fun ls' hl' => kk p e R s m args below meth c hC H locs ls' hP hD hS hl')
theorem zx_astore_n {kf : Fin 4} {x : Nat} (hdg : decode M.2.1 pc = .ok (.astore_n kf, 1)) (hi : (kf : Nat) = i) (hn : i < M.2.2.1) (h : (i, zr x) :: lv.filter (fun q => !(q.1 == i) && !(q.1 + 1 == i && zc2 q.2)) = lv') (hpc : nn = pc + 1) (kk : zX sh σ d M nn lv' st μ Q) : zX sh σ d M pc lv (zr x :: st) μ Q := by
  subst hpc
  intro p e R s m args below meth c hC H locs ls hP hD hS hl
  obtain ⟨hx, hb, hml, hr2, hlk, hown, hts, hroom, hK, hRO⟩ := id hC
  exact lv_astore_n hx hb hdg hi hl hn (zlv_st1 h) (fun ls' hl' => kk p e R s m args below meth c hC H locs ls' hP hD hS hl')
theorem zx_astore {x : Nat} (hdg : decode M.2.1 pc = .ok (.astore i, 2)) (hn : i < M.2.2.1) (h : (i, zr x) :: lv.filter (fun q => !(q.1 == i) && !(q.1 + 1 == i && zc2 q.2)) = lv') (hpc : nn = pc + 2) (kk : zX sh σ d M nn lv' st μ Q) : zX sh σ d M pc lv (zr x :: st) μ Q := by
  subst hpc
  intro p e R s m args below meth c hC H locs ls hP hD hS hl
  obtain ⟨hx, hb, hml, hr2, hlk, hown, hts, hroom, hK, hRO⟩ := id hC
  exact lv_astore hx hb hdg hl hn (zlv_st1 h) (fun ls' hl' => kk p e R s m args below meth c hC H locs ls' hP hD hS hl')
theorem zx_lstore_n {kf : Fin 4} {x : Int64} (hdg : decode M.2.1 pc = .ok (.lstore_n kf, 1)) (hi : (kf : Nat) = i) (hn : i + 1 < M.2.2.1) (h : (i, zj x) :: lv.filter (fun q => !(q.1 == i) && (!(q.1 == i + 1) && !(q.1 + 1 == i && zc2 q.2))) = lv') (hpc : nn = pc + 1) (kk : zX sh σ d M nn lv' st μ Q) : zX sh σ d M pc lv (zj x :: st) μ Q := by
  subst hpc
  intro p e R s m args below meth c hC H locs ls hP hD hS hl
  obtain ⟨hx, hb, hml, hr2, hlk, hown, hts, hroom, hK, hRO⟩ := id hC
  exact lv_lstore_n hx hb hdg hi hl hn (zlv_st2 h) (fun ls' hl' => kk p e R s m args below meth c hC H locs ls' hP hD hS hl')
theorem zx_lstore {x : Int64} (hdg : decode M.2.1 pc = .ok (.lstore i, 2)) (hn : i + 1 < M.2.2.1) (h : (i, zj x) :: lv.filter (fun q => !(q.1 == i) && (!(q.1 == i + 1) && !(q.1 + 1 == i && zc2 q.2))) = lv') (hpc : nn = pc + 2) (kk : zX sh σ d M nn lv' st μ Q) : zX sh σ d M pc lv (zj x :: st) μ Q := by
  subst hpc
  intro p e R s m args below meth c hC H locs ls hP hD hS hl
  obtain ⟨hx, hb, hml, hr2, hlk, hown, hts, hroom, hK, hRO⟩ := id hC
  exact lv_lstore hx hb hdg hl hn (zlv_st2 h) (fun ls' hl' => kk p e R s m args below meth c hC H locs ls' hP hD hS hl')
theorem zx_iinc {n : Int} {x v : Int32} (hdg : decode M.2.1 pc = .ok (.iinc i n, 3)) (h : lv[k]? = some (i, zi x)) (hv : x + Int32.ofInt n = v) (hn : i < M.2.2.1) (h2 : (i, zi v) :: lv.filter (fun q => !(q.1 == i) && !(q.1 + 1 == i && zc2 q.2)) = lv') (hpc : nn = pc + 3) (kk : zX sh σ d M nn lv' st μ Q) : zX sh σ d M pc lv st μ Q := by
  subst hpc
  intro p e R s m args below meth c hC H locs ls hP hD hS hl
  obtain ⟨hx, hb, hml, hr2, hlk, hown, hts, hroom, hK, hRO⟩ := id hC
  exact lv_iinc hx hb hdg hl (zlv_get h) hv hn (zlv_st1 h2) (fun ls' hl' => kk p e R s m args below meth c hC H locs ls' hP hD hS hl')
theorem zx_if_eq {x : Int32} {off : Int} (hdg : decode M.2.1 pc = .ok (.ifCond .eq off, 3)) (ht : (pc : Int) + off = (tgt : Int)) (hpc : nn = pc + 3) (kt : x = 0 → zX sh σ d M tgt lv st μ Q) (kf : ¬ x = 0 → zX sh σ d M nn lv st μ Q) : zX sh σ d M pc lv (zi x :: st) μ Q := by
  subst hpc
  intro p e R s m args below meth c hC H locs ls hP hD hS hl
  obtain ⟨hx, hb, hml, hr2, hlk, hown, hts, hroom, hK, hRO⟩ := id hC
  exact lv_if_eq hx hb hdg ht (fun h => kt h p e R s m args below meth c hC H locs ls hP hD hS hl) (fun h => kf h p e R s m args below meth c hC H locs ls hP hD hS hl)
theorem zx_if_ne {x : Int32} {off : Int} (hdg : decode M.2.1 pc = .ok (.ifCond .ne off, 3)) (ht : (pc : Int) + off = (tgt : Int)) (hpc : nn = pc + 3) (kt : ¬ x = 0 → zX sh σ d M tgt lv st μ Q) (kf : x = 0 → zX sh σ d M nn lv st μ Q) : zX sh σ d M pc lv (zi x :: st) μ Q := by
  subst hpc
  intro p e R s m args below meth c hC H locs ls hP hD hS hl
  obtain ⟨hx, hb, hml, hr2, hlk, hown, hts, hroom, hK, hRO⟩ := id hC
  exact lv_if_ne hx hb hdg ht (fun h => kt h p e R s m args below meth c hC H locs ls hP hD hS hl) (fun h => kf h p e R s m args below meth c hC H locs ls hP hD hS hl)
theorem zx_if_lt {x : Int32} {off : Int} (hdg : decode M.2.1 pc = .ok (.ifCond .lt off, 3)) (ht : (pc : Int) + off = (tgt : Int)) (hpc : nn = pc + 3) (kt : x < 0 → zX sh σ d M tgt lv st μ Q) (kf : ¬ x < 0 → zX sh σ d M nn lv st μ Q) : zX sh σ d M pc lv (zi x :: st) μ Q := by
  subst hpc
  intro p e R s m args below meth c hC H locs ls hP hD hS hl
  obtain ⟨hx, hb, hml, hr2, hlk, hown, hts, hroom, hK, hRO⟩ := id hC
  exact lv_if_lt hx hb hdg ht (fun h => kt h p e R s m args below meth c hC H locs ls hP hD hS hl) (fun h => kf h p e R s m args below meth c hC H locs ls hP hD hS hl)
theorem zx_if_ge {x : Int32} {off : Int} (hdg : decode M.2.1 pc = .ok (.ifCond .ge off, 3)) (ht : (pc : Int) + off = (tgt : Int)) (hpc : nn = pc + 3) (kt : 0 ≤ x → zX sh σ d M tgt lv st μ Q) (kf : ¬ 0 ≤ x → zX sh σ d M nn lv st μ Q) : zX sh σ d M pc lv (zi x :: st) μ Q := by
  subst hpc
  intro p e R s m args below meth c hC H locs ls hP hD hS hl
  obtain ⟨hx, hb, hml, hr2, hlk, hown, hts, hroom, hK, hRO⟩ := id hC
  exact lv_if_ge hx hb hdg ht (fun h => kt h p e R s m args below meth c hC H locs ls hP hD hS hl) (fun h => kf h p e R s m args below meth c hC H locs ls hP hD hS hl)
theorem zx_if_gt {x : Int32} {off : Int} (hdg : decode M.2.1 pc = .ok (.ifCond .gt off, 3)) (ht : (pc : Int) + off = (tgt : Int)) (hpc : nn = pc + 3) (kt : 0 < x → zX sh σ d M tgt lv st μ Q) (kf : ¬ 0 < x → zX sh σ d M nn lv st μ Q) : zX sh σ d M pc lv (zi x :: st) μ Q := by
  subst hpc
  intro p e R s m args below meth c hC H locs ls hP hD hS hl
  obtain ⟨hx, hb, hml, hr2, hlk, hown, hts, hroom, hK, hRO⟩ := id hC
  exact lv_if_gt hx hb hdg ht (fun h => kt h p e R s m args below meth c hC H locs ls hP hD hS hl) (fun h => kf h p e R s m args below meth c hC H locs ls hP hD hS hl)
theorem zx_if_le {x : Int32} {off : Int} (hdg : decode M.2.1 pc = .ok (.ifCond .le off, 3)) (ht : (pc : Int) + off = (tgt : Int)) (hpc : nn = pc + 3) (kt : x ≤ 0 → zX sh σ d M tgt lv st μ Q) (kf : ¬ x ≤ 0 → zX sh σ d M nn lv st μ Q) : zX sh σ d M pc lv (zi x :: st) μ Q := by
  subst hpc
  intro p e R s m args below meth c hC H locs ls hP hD hS hl
  obtain ⟨hx, hb, hml, hr2, hlk, hown, hts, hroom, hK, hRO⟩ := id hC
  exact lv_if_le hx hb hdg ht (fun h => kt h p e R s m args below meth c hC H locs ls hP hD hS hl) (fun h => kf h p e R s m args below meth c hC H locs ls hP hD hS hl)
theorem zx_icmp_eq {x y : Int32} {off : Int} (hdg : decode M.2.1 pc = .ok (.if_icmp .eq off, 3)) (ht : (pc : Int) + off = (tgt : Int)) (hpc : nn = pc + 3) (kt : x = y → zX sh σ d M tgt lv st μ Q) (kf : ¬ x = y → zX sh σ d M nn lv st μ Q) : zX sh σ d M pc lv (zi y :: zi x :: st) μ Q := by
  subst hpc
  intro p e R s m args below meth c hC H locs ls hP hD hS hl
  obtain ⟨hx, hb, hml, hr2, hlk, hown, hts, hroom, hK, hRO⟩ := id hC
  exact lv_icmp_eq hx hb hdg ht (fun h => kt h p e R s m args below meth c hC H locs ls hP hD hS hl) (fun h => kf h p e R s m args below meth c hC H locs ls hP hD hS hl)
theorem zx_icmp_ne {x y : Int32} {off : Int} (hdg : decode M.2.1 pc = .ok (.if_icmp .ne off, 3)) (ht : (pc : Int) + off = (tgt : Int)) (hpc : nn = pc + 3) (kt : ¬ x = y → zX sh σ d M tgt lv st μ Q) (kf : x = y → zX sh σ d M nn lv st μ Q) : zX sh σ d M pc lv (zi y :: zi x :: st) μ Q := by
  subst hpc
  intro p e R s m args below meth c hC H locs ls hP hD hS hl
  obtain ⟨hx, hb, hml, hr2, hlk, hown, hts, hroom, hK, hRO⟩ := id hC
  exact lv_icmp_ne hx hb hdg ht (fun h => kt h p e R s m args below meth c hC H locs ls hP hD hS hl) (fun h => kf h p e R s m args below meth c hC H locs ls hP hD hS hl)
theorem zx_icmp_lt {x y : Int32} {off : Int} (hdg : decode M.2.1 pc = .ok (.if_icmp .lt off, 3)) (ht : (pc : Int) + off = (tgt : Int)) (hpc : nn = pc + 3) (kt : x < y → zX sh σ d M tgt lv st μ Q) (kf : ¬ x < y → zX sh σ d M nn lv st μ Q) : zX sh σ d M pc lv (zi y :: zi x :: st) μ Q := by
  subst hpc
  intro p e R s m args below meth c hC H locs ls hP hD hS hl
  obtain ⟨hx, hb, hml, hr2, hlk, hown, hts, hroom, hK, hRO⟩ := id hC
  exact lv_icmp_lt hx hb hdg ht (fun h => kt h p e R s m args below meth c hC H locs ls hP hD hS hl) (fun h => kf h p e R s m args below meth c hC H locs ls hP hD hS hl)
theorem zx_icmp_ge {x y : Int32} {off : Int} (hdg : decode M.2.1 pc = .ok (.if_icmp .ge off, 3)) (ht : (pc : Int) + off = (tgt : Int)) (hpc : nn = pc + 3) (kt : y ≤ x → zX sh σ d M tgt lv st μ Q) (kf : ¬ y ≤ x → zX sh σ d M nn lv st μ Q) : zX sh σ d M pc lv (zi y :: zi x :: st) μ Q := by
  subst hpc
  intro p e R s m args below meth c hC H locs ls hP hD hS hl
  obtain ⟨hx, hb, hml, hr2, hlk, hown, hts, hroom, hK, hRO⟩ := id hC
  exact lv_icmp_ge hx hb hdg ht (fun h => kt h p e R s m args below meth c hC H locs ls hP hD hS hl) (fun h => kf h p e R s m args below meth c hC H locs ls hP hD hS hl)
theorem zx_icmp_gt {x y : Int32} {off : Int} (hdg : decode M.2.1 pc = .ok (.if_icmp .gt off, 3)) (ht : (pc : Int) + off = (tgt : Int)) (hpc : nn = pc + 3) (kt : y < x → zX sh σ d M tgt lv st μ Q) (kf : ¬ y < x → zX sh σ d M nn lv st μ Q) : zX sh σ d M pc lv (zi y :: zi x :: st) μ Q := by
  subst hpc
  intro p e R s m args below meth c hC H locs ls hP hD hS hl
  obtain ⟨hx, hb, hml, hr2, hlk, hown, hts, hroom, hK, hRO⟩ := id hC
  exact lv_icmp_gt hx hb hdg ht (fun h => kt h p e R s m args below meth c hC H locs ls hP hD hS hl) (fun h => kf h p e R s m args below meth c hC H locs ls hP hD hS hl)
theorem zx_icmp_le {x y : Int32} {off : Int} (hdg : decode M.2.1 pc = .ok (.if_icmp .le off, 3)) (ht : (pc : Int) + off = (tgt : Int)) (hpc : nn = pc + 3) (kt : x ≤ y → zX sh σ d M tgt lv st μ Q) (kf : ¬ x ≤ y → zX sh σ d M nn lv st μ Q) : zX sh σ d M pc lv (zi y :: zi x :: st) μ Q := by
  subst hpc
  intro p e R s m args below meth c hC H locs ls hP hD hS hl
  obtain ⟨hx, hb, hml, hr2, hlk, hown, hts, hroom, hK, hRO⟩ := id hC
  exact lv_icmp_le hx hb hdg ht (fun h => kt h p e R s m args below meth c hC H locs ls hP hD hS hl) (fun h => kf h p e R s m args below meth c hC H locs ls hP hD hS hl)
theorem zx_goto {off : Int} (hdg : decode M.2.1 pc = .ok (.goto off, 3)) (ht : (pc : Int) + off = (tgt : Int)) (kk : zX sh σ d M tgt lv st μ Q) : zX sh σ d M pc lv st μ Q := by
  intro p e R s m args below meth c hC H locs ls hP hD hS hl
  obtain ⟨hx, hb, hml, hr2, hlk, hown, hts, hroom, hK, hRO⟩ := id hC
  exact lv_goto hx hb hdg ht (kk p e R s m args below meth c hC H locs ls hP hD hS hl)
theorem zx_tabIn {dflt lo hi off : Int} {offs : Array Int} {len : Nat} {x : Int32} (hdg : decode M.2.1 pc = .ok (.tableswitch dflt lo hi offs, len)) (h1 : ¬ x.toInt < lo) (h2 : ¬ hi < x.toInt) (ho : offs[(x.toInt - lo).toNat]? = some off) (ht : (pc : Int) + off = (tgt : Int)) (kk : zX sh σ d M tgt lv st μ Q) : zX sh σ d M pc lv (zi x :: st) μ Q := by
  intro p e R s m args below meth c hC H locs ls hP hD hS hl
  obtain ⟨hx, hb, hml, hr2, hlk, hown, hts, hroom, hK, hRO⟩ := id hC
  exact lv_tableIn hx hb hdg h1 h2 ho ht (kk p e R s m args below meth c hC H locs ls hP hD hS hl)
theorem zx_tabOut {dflt lo hi : Int} {offs : Array Int} {len : Nat} {x : Int32} (hdg : decode M.2.1 pc = .ok (.tableswitch dflt lo hi offs, len)) (h : x.toInt < lo ∨ hi < x.toInt) (ht : (pc : Int) + dflt = (tgt : Int)) (kk : zX sh σ d M tgt lv st μ Q) : zX sh σ d M pc lv (zi x :: st) μ Q := by
  intro p e R s m args below meth c hC H locs ls hP hD hS hl
  obtain ⟨hx, hb, hml, hr2, hlk, hown, hts, hroom, hK, hRO⟩ := id hC
  exact lv_tableOut hx hb hdg h ht (kk p e R s m args below meth c hC H locs ls hP hD hS hl)
theorem zx_look {dflt off : Int} {ps : Array (Int × Int)} {len : Nat} {x : Int32} (hdg : decode M.2.1 pc = .ok (.lookupswitch dflt ps, len)) (hp : (ps.toList.zip (ps.toList.drop 1)).all (fun (a, next) => a.1 < next.1) = true) (ho : Op.lookupswitch.offset ps.toList dflt x.toInt = off) (ht : (pc : Int) + off = (tgt : Int)) (kk : zX sh σ d M tgt lv st μ Q) : zX sh σ d M pc lv (zi x :: st) μ Q := by
  intro p e R s m args below meth c hC H locs ls hP hD hS hl
  obtain ⟨hx, hb, hml, hr2, hlk, hown, hts, hroom, hK, hRO⟩ := id hC
  exact lv_lookup hx hb hdg hp ho ht (kk p e R s m args below meth c hC H locs ls hP hD hS hl)
theorem zx_ldc {v : Int32} (hw : Cond.constant M.1 idx v ∈ zw) (hdg : decode M.2.1 pc = .ok (.ldc idx, 2)) (hpc : nn = pc + 2) (kk : zX sh σ d M nn lv (zi v :: st) μ Q) : zX sh σ d M pc lv st μ Q := by
  subst hpc
  intro p e R s m args below meth c hC H locs ls hP hD hS hl
  obtain ⟨hx, hb, hml, hr2, hlk, hown, hts, hroom, hK, hRO⟩ := id hC
  exact lv_ldc hx hb hown (hts _ hw) hdg (kk p e R s m args below meth c hC H locs ls hP hD hS hl)
theorem zx_ldcw {v : Int32} (hw : Cond.constant M.1 idx v ∈ zw) (hdg : decode M.2.1 pc = .ok (.ldc_w idx, 3)) (hpc : nn = pc + 3) (kk : zX sh σ d M nn lv (zi v :: st) μ Q) : zX sh σ d M pc lv st μ Q := by
  subst hpc
  intro p e R s m args below meth c hC H locs ls hP hD hS hl
  obtain ⟨hx, hb, hml, hr2, hlk, hown, hts, hroom, hK, hRO⟩ := id hC
  exact lv_ldcw hx hb hown (hts _ hw) hdg (kk p e R s m args below meth c hC H locs ls hP hD hS hl)
theorem zx_ldc2 {v : Int64} (hw : Cond.constantLong M.1 idx v ∈ zw) (hdg : decode M.2.1 pc = .ok (.ldc2_w idx, 3)) (hpc : nn = pc + 3) (kk : zX sh σ d M nn lv (zj v :: st) μ Q) : zX sh σ d M pc lv st μ Q := by
  subst hpc
  intro p e R s m args below meth c hC H locs ls hP hD hS hl
  obtain ⟨hx, hb, hml, hr2, hlk, hown, hts, hroom, hK, hRO⟩ := id hC
  exact lv_ldc2 hx hb hown (hts _ hw) hdg (kk p e R s m args below meth c hC H locs ls hP hD hS hl)
theorem zx_ldcS (hw : (M.1, idx, k) ∈ zPl) (hdg : decode M.2.1 pc = .ok (.ldc idx, 2)) (hpc : nn = pc + 2) (kk : zX sh σ d M nn lv (zr (200 + k) :: st) μ Q) : zX sh σ d M pc lv st μ Q := by
  subst hpc
  intro p e R s m args below meth c hC H locs ls hP hD hS hl
  obtain ⟨hx, hb, hml, hr2, hlk, hown, hts, hroom, hK, hRO⟩ := id hC
  exact va_ldcS hx hb hown (hRO.2.2.2.1 _ hw) hdg (kk p e R s m args below meth c hC H locs ls hP hD hS hl)
theorem zx_ldcSw (hw : (M.1, idx, k) ∈ zPl) (hdg : decode M.2.1 pc = .ok (.ldc_w idx, 3)) (hpc : nn = pc + 3) (kk : zX sh σ d M nn lv (zr (200 + k) :: st) μ Q) : zX sh σ d M pc lv st μ Q := by
  subst hpc
  intro p e R s m args below meth c hC H locs ls hP hD hS hl
  obtain ⟨hx, hb, hml, hr2, hlk, hown, hts, hroom, hK, hRO⟩ := id hC
  have hZ := hRO.2.2.2.1 _ hw
  have hk2 := kk p e R s m args below meth c hC H locs ls hP hD hS hl
  intro T hT X
  obtain ⟨t, a1, b1⟩ := hk2 T hT X
  obtain ⟨k0, cf, i0, a', hk, hcf, hcp, -, hr, hev'⟩ := Cond.stringRef_spec hown hZ.1
  cases hZ.2.symm.trans hev'
  obtain ⟨k', hk', he⟩ := X.warmed.alike.2.2 _ _ hk
  have hr' : k'.resolved[idx]? = some (some (.string (zad σ (200 + k)))) := by
    rcases X.warmed.entry hk hk' idx with h | ⟨h, -⟩
    · rw [h]; exact hr
    · rw [hr] at h; cases h
  refine ⟨t, ?_, b1⟩
  jvm_step X.here [hx, hb, hdg, Op.ldc_w.wp_string (e := e) (s := T) (f := F0 m pc ls (st.map (zval (zad σ)))) X.here.top hk' (by rw [he]; exact hcf) hcp hr']
  exact a1
theorem zx_getI {fl : List (Option Nat)} (hf : zFld M.1 idx ci j) (hsh : sh[k]? = some (.inl (ci, fl))) (hfl : fl[j]? = some (none)) (hdg : decode M.2.1 pc = .ok (.getfield idx, 3)) (hpc : nn = pc + 3) (kk : zX sh σ d M nn lv (zi (μ k j) :: st) μ Q) : zX sh σ d M pc lv (zr k :: st) μ Q := by
  subst hpc
  intro p e R s m args below meth c hC H locs ls hP hD hS hl
  obtain ⟨hx, hb, hml, hr2, hlk, hown, hts, hroom, hK, hRO⟩ := id hC
  obtain ⟨C, Tt, N, h1, h2, h3, h4⟩ := hf
  have hz : ((zFl (zad σ) (μ k) 0 fl))[j]? = some (Value.int (μ k j)) := by
    rw [zFl_get, hfl]; simp
  exact va_get (D := zD σ) (ci := ci) (v := Value.int (μ k j)) (C := C) (T := Tt) (N := N) hx hb hts h3 hown hK hP k (zW_get hsh) h1 j h2 (hts _ h4) (fun _ h9 => h9) hz hdg (kk p e R s m args below meth c hC H locs ls hP hD hS hl)
theorem zx_getR {fl : List (Option Nat)} (hf : zFld M.1 idx ci j) (hsh : sh[k]? = some (.inl (ci, fl))) (hfl : fl[j]? = some (some q)) (hdg : decode M.2.1 pc = .ok (.getfield idx, 3)) (hpc : nn = pc + 3) (kk : zX sh σ d M nn lv (zr q :: st) μ Q) : zX sh σ d M pc lv (zr k :: st) μ Q := by
  subst hpc
  intro p e R s m args below meth c hC H locs ls hP hD hS hl
  obtain ⟨hx, hb, hml, hr2, hlk, hown, hts, hroom, hK, hRO⟩ := id hC
  obtain ⟨C, Tt, N, h1, h2, h3, h4⟩ := hf
  have hz : ((zFl (zad σ) (μ k) 0 fl))[j]? = some (Value.ref (zad σ q)) := by
    rw [zFl_get, hfl]; simp
  exact va_get (D := zD σ) (ci := ci) (v := Value.ref (zad σ q)) (C := C) (T := Tt) (N := N) hx hb hts h3 hown hK hP k (zW_get hsh) h1 j h2 (hts _ h4) (fun _ h9 => h9) hz hdg (kk p e R s m args below meth c hC H locs ls hP hD hS hl)
theorem zx_putI {fl : List (Option Nat)} {x : Int32} {ty : FieldType} (hf : zFldP M.1 idx ci j ty) (hsh : sh[k]? = some (.inl (ci, fl))) (hfl : fl[j]? = some none) (hnr : narrow ty (.int x) = .int x) (hfit : fits ty (.int x) = true) (hdg : decode M.2.1 pc = .ok (.putfield idx, 3)) (hpc : nn = pc + 3) (kk : zX sh σ d M nn lv st (zp μ k j x) Q) : zX sh σ d M pc lv (zi x :: zr k :: st) μ Q := by
  subst hpc
  intro p e R s m args below meth c hC H locs ls hP hD hS hl
  obtain ⟨hx, hb, hml, hr2, hlk, hown, hts, hroom, hK, hRO⟩ := id hC
  obtain ⟨C, Tt, N, ty0, h1, h2, h3, h4, h5, h6, h7, h8⟩ := hf
  have hlen : j < (zFl (zad σ) (μ k) 0 fl).length := by
    rw [zFl_len]; exact (List.getElem?_eq_some_iff.mp hfl).1
  have he : (zW σ sh μ).set k (zad σ k, .inr (ci, (zFl (zad σ) (μ k) 0 fl).set j (.int x))) = zW σ sh (zp μ k j x) := by
    rw [zFl_set _ _ _ _ _ hfl]
    exact zW_set hsh (upd (μ k) j x)
  refine va_put (D := zD σ) (ci := ci) (v := .int x) (ty := ty) (C := C) (T := Tt) (N := N) hx hb hts h3 ty0 h5 h6 hown hK hP hD hS k (zW_get hsh) h1 j h2 (hts _ h4) (fun _ h9 => h9) h7 h8 hnr hfit hlen hdg (fun H1 locs1 hP1 hD1 hS1 => ?_)
  exact kk p e R s m args below meth c hC H1 locs1 ls (by rw [← he]; exact hP1) (by rw [← he]; exact hD1) hS1 hl
theorem zx_iald {n : Nat} {x : Int32} (hsh : sh[k]? = some (.inr (.inl n))) (hin : vp_in x n) (hdg : decode M.2.1 pc = .ok (.iaload, 1)) (hpc : nn = pc + 1) (kk : zX sh σ d M nn lv (zi (μ k x.toNatClampNeg) :: st) μ Q) : zX sh σ d M pc lv (zi x :: zr k :: st) μ Q := by
  subst hpc
  intro p e R s m args below meth c hC H locs ls hP hD hS hl
  obtain ⟨hx, hb, hml, hr2, hlk, hown, hts, hroom, hK, hRO⟩ := id hC
  exact va_iald hx hb hK hP k 0 (zW_get hsh) rfl hin hdg (kk p e R s m args below meth c hC H locs ls hP hD hS hl)
theorem zx_iast {n : Nat} {x v : Int32} (hsh : sh[k]? = some (.inr (.inl n))) (hin : vp_in x n) (hdg : decode M.2.1 pc = .ok (.iastore, 1)) (hpc : nn = pc + 1) (kk : zX sh σ d M nn lv st (zp μ k x.toNatClampNeg v) Q) : zX sh σ d M pc lv (zi v :: zi x :: zr k :: st) μ Q := by
  subst hpc
  intro p e R s m args below meth c hC H locs ls hP hD hS hl
  obtain ⟨hx, hb, hml, hr2, hlk, hown, hts, hroom, hK, hRO⟩ := id hC
  refine va_iast hx hb hK hP hD hS k 0 (zW_get hsh) rfl hin hdg (fun H1 locs1 hP1 hD1 hS1 => ?_)
  have he : (zW σ sh μ).set k (zad σ k, .inl (σ.2.1.1, n, .inl (upd (μ k) x.toNatClampNeg v))) = zW σ sh (zp μ k x.toNatClampNeg v) := zW_set hsh (upd (μ k) x.toNatClampNeg v)
  exact kk p e R s m args below meth c hC H1 locs1 ls (by rw [← he]; exact hP1) (by rw [← he]; exact hD1) hS1 hl
theorem zx_lald {n : Nat} {x : Int32} (hsh : sh[k]? = some (.inr (.inr (.inl n)))) (hin : vp_in x n) (hdg : decode M.2.1 pc = .ok (.laload, 1)) (hpc : nn = pc + 1) (kk : zX sh σ d M nn lv (zj (μ k x.toNatClampNeg).toInt64 :: st) μ Q) : zX sh σ d M pc lv (zi x :: zr k :: st) μ Q := by
  subst hpc
  intro p e R s m args below meth c hC H locs ls hP hD hS hl
  obtain ⟨hx, hb, hml, hr2, hlk, hown, hts, hroom, hK, hRO⟩ := id hC
  exact va_lald hx hb hK hP k 1 (zW_get hsh) rfl hin hdg (kk p e R s m args below meth c hC H locs ls hP hD hS hl)
theorem zx_last {n : Nat} {x : Int32} {v : Int64} {w : Int32} (hw : w.toInt64 = v) (hsh : sh[k]? = some (.inr (.inr (.inl n)))) (hin : vp_in x n) (hdg : decode M.2.1 pc = .ok (.lastore, 1)) (hpc : nn = pc + 1) (kk : zX sh σ d M nn lv st (zp μ k x.toNatClampNeg w) Q) : zX sh σ d M pc lv (zj v :: zi x :: zr k :: st) μ Q := by
  subst hpc
  intro p e R s m args below meth c hC H locs ls hP hD hS hl
  obtain ⟨hx, hb, hml, hr2, hlk, hown, hts, hroom, hK, hRO⟩ := id hC
  refine va_last hx hb hK hP hD hS k 1 (zW_get hsh) rfl hin hdg (fun H1 locs1 hP1 hD1 hS1 => ?_)
  have hf : vp_updL (fun j => (μ k j).toInt64) x.toNatClampNeg v = fun j => ((upd (μ k) x.toNatClampNeg w) j).toInt64 := by
    funext j
    unfold vp_updL upd
    by_cases h : j = x.toNatClampNeg
    · rw [if_pos h, if_pos h, hw]
    · rw [if_neg h, if_neg h]
  have he : (zW σ sh μ).set k (zad σ k, .inl (σ.2.1.2.1, n, .inr (.inl (vp_updL (fun j => (μ k j).toInt64) x.toNatClampNeg v)))) = zW σ sh (zp μ k x.toNatClampNeg w) := by
    rw [hf]
    exact zW_set hsh (upd (μ k) x.toNatClampNeg w)
  exact kk p e R s m args below meth c hC H1 locs1 ls (by rw [← he]; exact hP1) (by rw [← he]; exact hD1) hS1 hl
theorem zx_aald {l : List Nat} {x : Int32} (hsh : sh[k]? = some (.inr (.inr (.inr l)))) (hin : vp_in x l.length) (hq : l[x.toNatClampNeg]? = some q) (hdg : decode M.2.1 pc = .ok (.aaload, 1)) (hpc : nn = pc + 1) (kk : zX sh σ d M nn lv (zr q :: st) μ Q) : zX sh σ d M pc lv (zi x :: zr k :: st) μ Q := by
  subst hpc
  intro p e R s m args below meth c hC H locs ls hP hD hS hl
  obtain ⟨hx, hb, hml, hr2, hlk, hown, hts, hroom, hK, hRO⟩ := id hC
  have hlt : x.toNatClampNeg < l.length := Nat.not_le.mp fun q => hin (Or.inr q)
  have hP1 := hP k _ (zW_get hsh)
  exact W.aald (v := va_rf ((l[x.toNatClampNeg]?).map (zad σ))) (ty := .array .int) hx hb hP1 ((hK.2 2 _ rfl).1 l.length (fun j => va_rf ((l[j]?).map (zad σ)))) rfl (fun q => by cases q) (by show ¬ (x < 0 ∨ (arrV _ _ _).slots.size ≤ _); rw [arrV_size]; exact hin) (by show (arrV _ _ _).slots[_]? = _; rw [arrV_read _ _ hlt]) rfl rfl hdg (by rw [hq]; exact kk p e R s m args below meth c hC H locs ls hP hD hS hl)
theorem zx_getK (hown : M.1 = "LampThatFollows$Stage") (hdg : decode M.2.1 pc = .ok (.getstatic 135, 3)) (hpc : nn = pc + 3) (kk : zX sh σ d M nn lv (zr 199 :: st) μ Q) : zX sh σ d M pc lv st μ Q := by
  subst hpc
  have hown2 := hown
  intro p e R s m args below meth c hC H locs ls hP hD hS hl
  obtain ⟨hx, hb, hml, hr2, hlk, hown, hts, hroom, hK, hRO⟩ := id hC
  rw [hown2] at hown
  obtain ⟨fo, hfo, hnw⟩ := hRO.2.2.2.2.2
  exact va_getsN hx hb hRO.1 hS hown (hnw.use rfl) (fun _ h9 => h9) hdg (kk p e R s m args below meth c hC H locs ls hP hD hS hl)
theorem zx_aldK {x : Int32} (hin : vp_in x 6) (hdg : decode M.2.1 pc = .ok (.iaload, 1)) (hpc : nn = pc + 1) (kk : zX sh σ d M nn lv (zi (zkA x.toNatClampNeg) :: st) μ Q) : zX sh σ d M pc lv (zi x :: zr 199 :: st) μ Q := by
  subst hpc
  intro p e R s m args below meth c hC H locs ls hP hD hS hl
  obtain ⟨hx, hb, hml, hr2, hlk, hown, hts, hroom, hK, hRO⟩ := id hC
  exact va_ti hx hb hRO.2.1 hS hin rfl hdg (kk p e R s m args below meth c hC H locs ls hP hD hS hl)
theorem zx_lv (ks : List Nat) (h : ks.filterMap (fun k => lv[k]?) = lv') (kk : zX sh σ d M pc lv' st μ Q) : zX sh σ d M pc lv st μ Q := by
  intro p e R s m args below meth c hC H locs ls hP hD hS hl
  refine kk p e R s m args below meth c hC H locs ls hP hD hS ⟨hl.1, hl.2.1, fun q hq => ?_⟩
  obtain ⟨q0, hq0, rfl⟩ := List.mem_map.mp hq
  rw [← h] at hq0
  obtain ⟨k, -, hk⟩ := List.mem_filterMap.mp hq0
  exact hl.2.2 _ (List.mem_map.mpr ⟨q0, List.mem_of_getElem? hk, rfl⟩)
end ZI
