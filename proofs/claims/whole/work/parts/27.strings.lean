/-! TEXTS: values as they are (the bytes' row has no id) -/
/-- where the texts and their bytes lie, as s has it -/
def zEt (σ : zG) (adV : Nat → Nat) (U : State) : Prop := vk_S 18 zLn zBy (fun i => zad σ (200 + i)) adV (zA σ) U U.heap
def zY (sh : List zS) (σ : zG) (aV : Nat → Nat) (d : Nat) (M : zO) (pc : Nat) (lv : List (Nat × Value)) (st : List Value) (μ : zM) (Q : Option zV → zM → Prop) : Prop :=
  ∀ (p : Program) (e : Env) (R : Room) (s : State) (m : MethodId) (args : Array Value) (below : List Frame) (meth : Method) (c : Code), zCx sh σ d M p R s m args meth c → zEt σ aV s →
  ∀ (H : Heap) (locs : List Loc) (ls : Array Slot), va_P (zD σ) vwCl (zW σ sh μ) H → va_D (zA σ) (zW σ sh μ) → va_S (zA σ) s.heap H locs → lv_has ls M.2.2.1 lv →
  W p (zlau σ) e R s m args below meth c H locs 0 0 (MQ below (zQ sh σ Q) args s 0 0 (zA σ)) (F0 m pc ls st)
def zMR (sh : List zS) (σ : zG) (aV : Nat → Nat) (d : Nat) (M : zO) (y : MethodName) (As : List Value) (μ : zM) (Q : Option zV → zM → Prop) : Prop :=
  Met (zlau σ) y (zws M y) ({ frames := d, cells := 0, slots := 0, locals := 200 * d }) (va_Pc As (fun U => zB sh σ μ U ∧ zRO σ U U.heap ∧ zEt σ aV U)) (zQ sh σ Q) 0 0 (zA σ)
theorem zEt_go {σ : zG} {aV : Nat → Nat} {s U : State} (hW : s.WarmedH U.vm) (hq : ∀ a : Nat, a < s.heap.size → ¬ zA σ a → U.heap[a]? = s.heap[a]?) (h : zEt σ aV s) : zEt σ aV U := (vk_S.kept h hq).moved hW.alike
theorem zmetR {sh : List zS} {σ : zG} {aV : Nat → Nat} {d : Nat} {M : zO} {y : MethodName} {As : List Value} {μ : zM} {Q : Option zV → zM → Prop} (hy : plainFor y = true) (ho : y.cls = M.1) (hc : (As.map fun v => v.category).sum ≤ M.2.2.1)
    (hX : zY sh σ aV d M 0 (lv_args 0 As) [] μ Q) : zMR sh σ aV d M y As μ Q := by
  refine va_MetF (cc := M.2.1) (maxL := M.2.2.1) (ret := M.2.2.2) hy rfl ?_
  intro p e s m args below meth c s₁ B hml hv
  obtain ⟨rfl, ⟨hP, hK, hD⟩, hRO, hE⟩ := hv
  have hts := atoms_spec (ws := zws M y) B.pre
  have hown : s.vm.findClass y.cls = some m.cls := findClass_of_methodNamed B.named
  have hcx : zCx sh σ d M p (headSpec (zws M y) ({ frames := d, cells := 0, slots := 0, locals := 200 * d })).room s m As.toArray meth c :=
    ⟨B.exec, B.bytes, hml, B.returns, B.notSynchronized, by rw [← ho]; exact hown, fun w hw => hts w (List.mem_cons_of_mem _ hw), ⟨Nat.le_refl _, Nat.le_refl _⟩, hK, hRO⟩
  have hn : (lg_sl As).length ≤ M.2.2.1 := by
    rw [lg_sl_len]
    exact hc
  have hl := lv_entry As (n := M.2.2.1) hn
  rw [lg_entry_eq]
  exact hX _ _ _ _ _ _ _ _ _ hcx hE _ _ _ hP hD va_S.rf hl
theorem zx_y {sh : List zS} {σ : zG} {d : Nat} {M : zO} {pc : Nat} {lv : List (Nat × zV)} {st : List zV} {μ : zM} {Q : Option zV → zM → Prop} (h : ∀ aV, zY sh σ aV d M pc (zlv σ lv) (st.map (zval (zad σ))) μ Q) : zX sh σ d M pc lv st μ Q := by
  intro p e R s m args below meth c hC H locs ls hP hD hS hl
  obtain ⟨hx, hb, hml, hr2, hlk, hown, hts, hroom, hK, hRO⟩ := id hC
  obtain ⟨aV, hE⟩ := hRO.2.2.1
  exact h aV p e R s m args below meth c hC hE H locs ls hP hD hS hl
section ZY
variable {sh : List zS} {σ : zG} {aV : Nat → Nat} {d d' : Nat} {M M' : zO} {pc n nn tgt idx k j i q : Nat} {lv lv' : List (Nat × Value)} {st rest As : List Value} {μ : zM} {Q Q' : Option zV → zM → Prop} {y : MethodName}
theorem zy_after {p : Program} {e : Env} {R : Room} {s : State} {m : MethodId} {args : Array Value} {below : List Frame} {meth : Method} {c : Code} {H : Heap} {locs : List Loc} {ls : Array Slot} {st0 : List Value} {a : Array Value}
    (hr : va_Run p (zlau σ) e R s m args below meth c H locs 0 0 0 0 (F0 m pc ls st0) rest (zQ sh σ Q' a) (zA σ)) (hC : zCx sh σ d M p R s m args meth c) (hE : zEt σ aV s) (hS : va_S (zA σ) s.heap H locs) (hl : lv_has ls M.2.2.1 lv)
    (kk : ∀ r μ', Q' r μ' → zY sh σ aV d M (pc + 3) lv ((r.map (zval (zad σ))).toList ++ rest) μ' Q) : W p (zlau σ) e R s m args below meth c H locs 0 0 (MQ below (zQ sh σ Q) args s 0 0 (zA σ)) (F0 m pc ls st0) := by
  intro T hT X
  obtain ⟨v, st₀, t, T', L, h0, X', hL, e1, e2, ⟨⟨r, μ', hv, hq, hP, hK, hD⟩, hz, hk⟩, stp⟩ := hr T hT X
  cases hv
  rw [h0] at hz hk
  have hS' : va_S (zA σ) s.heap T'.heap (locs ++ L) := ⟨Nat.le_trans hS.1 (by rw [e1]; exact hz), fun q h1 h2 => by rw [e1, hk q (Nat.lt_of_lt_of_le h1 hS.1) h2]; exact hS.2.1 q h1 h2, fun q hq => by
      rcases List.mem_append.mp hq with h | h
      · exact hS.2.2 q h
      · exact hL q h⟩
  obtain ⟨t2, a1, b1⟩ := kk r μ' hq p e R s m args below meth c hC hE T'.heap (locs ++ L) ls (by rw [e1]; exact hP) hD hS' hl T' rfl X'
  exact ⟨t2, stp t2 a1, b1⟩
theorem zEt_blind (As : List Value) : FrameBlind (va_Pc As (fun U => zB sh σ μ U ∧ zRO σ U U.heap ∧ zEt σ aV U)) := by
  intro a U g mk q
  obtain ⟨h1, ⟨hP, hK, hD⟩, hRO, hE⟩ := q
  exact ⟨h1, ⟨hP, va_K.moved (u := U) (U := U.calling g mk a) (Vm.Alike.refl U.vm) hK, hD⟩, zRO_go (s := U) (U := U.calling g mk a) (State.WarmedH.refl U) (fun _ _ _ => rfl) hRO, zEt_go (s := U) (U := U.calling g mk a) (State.WarmedH.refl U) (fun _ _ _ => rfl) hE⟩
theorem zy_callS (hm : zMR sh σ aV d' M' y As μ Q') (hc : zCalS M' y n) (hlk : Cond.methodLink M.1 idx y ∈ zw) (hd : d' + 1 ≤ d) (hn : As.length = n) (hst : st = As.reverse ++ rest) (hW : (rest.map fun v => v.category).sum ≤ 8)
    (hdg : decode M.2.1 pc = .ok (.invokestatic idx, 3)) (kk : ∀ r μ', Q' r μ' → zY sh σ aV d M (pc + 3) lv ((r.map (zval (zad σ))).toList ++ rest) μ' Q) : zY sh σ aV d M pc lv st μ Q := by
  subst hst
  intro p e R s m args below meth c hC hE H locs ls hP hD hS hl
  obtain ⟨hx, hb, hml, hr, hlk2, hown, hts, hroom, hK, hRO⟩ := id hC
  obtain ⟨⟨hc1, hc2, hc3, hc4⟩, hc5⟩ := hc
  have hR2 : d' + 1 ≤ R.frames ∧ 8 + (M'.2.2.1 + 11) + 200 * d' ≤ R.locals := ⟨by omega, by omega⟩
  have hgood : GoodIn zw (va_wsS M.1 idx y (zws M' y)) := by
    intro w hw
    rcases List.mem_append.mp hw with h | h
    · simp at h
      rcases h with rfl | rfl | rfl
      · exact ⟨hlk, zw_good _ hlk⟩
      · exact ⟨hc5, zw_good _ hc5⟩
      · exact ⟨hc2, zw_good _ hc2⟩
    · exact zws_good hc1 w h
  refine zy_after (lv := lv) (va_runS (As := As) ⟨hx, hb, hml, hown, hts⟩ hm (va_cwS n hts hgood rfl rfl rfl hc3 hR2) ⟨zEt_blind _, fun U hU hW => ⟨rfl, ⟨by rw [hU]; exact hP, va_K.moved hW.alike hK, hD⟩, zRO_go hW (fun q h1 h2 => by rw [hU]; exact hS.2.1 q h1 h2) hRO, zEt_go hW (fun q h1 h2 => by rw [hU]; exact hS.2.1 q h1 h2) hE⟩⟩ rfl hn hl.1 rfl (lv_room hW) hdg ⟨Nat.zero_le _, Nat.zero_le _⟩) hC hE hS hl kk
/-- a call on text number i -/
theorem zy_callT (hm : zMR sh σ aV d' M' y (Value.ref (zad σ (200 + i)) :: As) μ Q') (hc : zCalV M' y n) (hyc : y.cls = "java/lang/String") (hlk : Cond.methodLink M.1 idx y ∈ zw) (hi : i < 18) (hd : d' + 1 ≤ d) (hn : As.length = n) (hst : st = As.reverse ++ Value.ref (zad σ (200 + i)) :: rest) (hW : (rest.map fun v => v.category).sum ≤ 8)
    (hdg : decode M.2.1 pc = .ok (.invokevirtual idx, 3)) (kk : ∀ r μ', Q' r μ' → zY sh σ aV d M (pc + 3) lv ((r.map (zval (zad σ))).toList ++ rest) μ' Q) : zY sh σ aV d M pc lv st μ Q := by
  subst hst
  intro p e R s m args below meth c hC hE H locs ls hP hD hS hl
  obtain ⟨hx, hb, hml, hr, hlk2, hown, hts, hroom, hK, hRO⟩ := id hC
  obtain ⟨⟨hc1, hc2, hc3, hc4⟩, hc5, hc6⟩ := hc
  have hR2 : d' + 1 ≤ R.frames ∧ 8 + (M'.2.2.1 + 11) + 200 * d' ≤ R.locals := ⟨by omega, by omega⟩
  have hgood : GoodIn zw (wsV M.1 idx y.cls y (zws M' y)) := by
    intro w hw
    rcases List.mem_append.mp hw with h | h
    · simp at h
      rcases h with rfl | rfl | rfl | rfl
      · exact ⟨hlk, zw_good _ hlk⟩
      · exact ⟨hc5, zw_good _ hc5⟩
      · exact ⟨hc6, zw_good _ hc6⟩
      · exact ⟨hc2, zw_good _ hc2⟩
    · exact zws_good hc1 w h
  have hrc := vk_recv hE hi hS
  refine zy_after (lv := lv) (va_runV (As := As) ⟨hx, hb, hml, hown, hts⟩ hm (cwV n hts hgood rfl rfl rfl ⟨rfl, hc3⟩ hR2) ⟨zEt_blind _, by rw [hyc]; exact hrc, fun U hU hW => ⟨rfl, ⟨by rw [hU]; exact hP, va_K.moved hW.alike hK, hD⟩, zRO_go hW (fun q h1 h2 => by rw [hU]; exact hS.2.1 q h1 h2) hRO, zEt_go hW (fun q h1 h2 => by rw [hU]; exact hS.2.1 q h1 h2) hE⟩⟩ rfl hn hl.1 rfl (lv_room hW) hdg ⟨Nat.zero_le _, Nat.zero_le _⟩) hC hE hS hl kk
theorem zy_iload_n {kf : Fin 4} {x : Int32} (hdg : decode M.2.1 pc = .ok (.iload_n kf, 1)) (hi : (kf : Nat) = i) (h : lv[k]? = some (i, .int x)) (hpc : nn = pc + 1) (kk : zY sh σ aV d M nn lv (.int x :: st) μ Q) : zY sh σ aV d M pc lv st μ Q := by
  subst hpc
  intro p e R s m args below meth c hC hE H locs ls hP hD hS hl
  obtain ⟨hx, hb, hml, hr2, hlk, hown, hts, hroom, hK, hRO⟩ := id hC
  exact lv_iload_n hx hb hdg hi (lv_at hl k h) (kk p e R s m args below meth c hC hE H locs ls hP hD hS hl)
theorem zy_aload_n {kf : Fin 4} {x : Nat} (hdg : decode M.2.1 pc = .ok (.aload_n kf, 1)) (hi : (kf : Nat) = i) (h : lv[k]? = some (i, .ref x)) (hpc : nn = pc + 1) (kk : zY sh σ aV d M nn lv (.ref x :: st) μ Q) : zY sh σ aV d M pc lv st μ Q := by
  subst hpc
  intro p e R s m args below meth c hC hE H locs ls hP hD hS hl
  obtain ⟨hx, hb, hml, hr2, hlk, hown, hts, hroom, hK, hRO⟩ := id hC
  exact lv_aload_n hx hb hdg hi (lv_at hl k h) (kk p e R s m args below meth c hC hE H locs ls hP hD hS hl)
theorem zy_iconst {n : Int} {v : Int32} (hv : Int32.ofInt n = v) (hdg : decode M.2.1 pc = .ok (.iconst n, 1)) (hpc : nn = pc + 1) (kk : zY sh σ aV d M nn lv (.int v :: st) μ Q) : zY sh σ aV d M pc lv (st) μ Q := by
  subst hpc
  intro p e R s m args below meth c hC hE H locs ls hP hD hS hl
  obtain ⟨hx, hb, hml, hr2, hlk, hown, hts, hroom, hK, hRO⟩ := id hC
  exact lv_iconst hx hb hdg hv (kk p e R s m args below meth c hC hE H locs ls hP hD hS hl)
theorem zy_sipush {n : Int} {v : Int32} (hv : (Int16.ofInt n).toInt32 = v) (hdg : decode M.2.1 pc = .ok (.sipush n, 3)) (hpc : nn = pc + 3) (kk : zY sh σ aV d M nn lv (.int v :: st) μ Q) : zY sh σ aV d M pc lv (st) μ Q := by
  subst hpc
  intro p e R s m args below meth c hC hE H locs ls hP hD hS hl
  obtain ⟨hx, hb, hml, hr2, hlk, hown, hts, hroom, hK, hRO⟩ := id hC
  exact lv_sipush hx hb hdg hv (kk p e R s m args below meth c hC hE H locs ls hP hD hS hl)
theorem zy_iand {x y : Int32} (hdg : decode M.2.1 pc = .ok (.iand, 1)) (hpc : nn = pc + 1) (kk : zY sh σ aV d M nn lv (.int (x &&& y) :: st) μ Q) : zY sh σ aV d M pc lv (.int y :: .int x :: st) μ Q := by
  subst hpc
  intro p e R s m args below meth c hC hE H locs ls hP hD hS hl
  obtain ⟨hx, hb, hml, hr2, hlk, hown, hts, hroom, hK, hRO⟩ := id hC
  exact lv_iand hx hb hdg (kk p e R s m args below meth c hC hE H locs ls hP hD hS hl)
theorem zy_ishr {x y : Int32} (hdg : decode M.2.1 pc = .ok (.ishr, 1)) (hpc : nn = pc + 1) (kk : zY sh σ aV d M nn lv (.int (x >>> (y &&& 31)) :: st) μ Q) : zY sh σ aV d M pc lv (.int y :: .int x :: st) μ Q := by
  subst hpc
  intro p e R s m args below meth c hC hE H locs ls hP hD hS hl
  obtain ⟨hx, hb, hml, hr2, hlk, hown, hts, hroom, hK, hRO⟩ := id hC
  exact lv_ishr hx hb hdg (kk p e R s m args below meth c hC hE H locs ls hP hD hS hl)
theorem zy_i2c {x v : Int32} (hv : (x.toUInt32 % 65536).toInt32 = v) (hdg : decode M.2.1 pc = .ok (.i2c, 1)) (hpc : nn = pc + 1) (kk : zY sh σ aV d M nn lv (.int v :: st) μ Q) : zY sh σ aV d M pc lv (.int x :: st) μ Q := by
  subst hpc
  intro p e R s m args below meth c hC hE H locs ls hP hD hS hl
  obtain ⟨hx, hb, hml, hr2, hlk, hown, hts, hroom, hK, hRO⟩ := id hC
  exact lv_i2c hx hb hdg hv (kk p e R s m args below meth c hC hE H locs ls hP hD hS hl)
theorem zy_pop {x : Int32} (hdg : decode M.2.1 pc = .ok (.pop, 1)) (hpc : nn = pc + 1) (kk : zY sh σ aV d M nn lv (st) μ Q) : zY sh σ aV d M pc lv (.int x :: st) μ Q := by
  subst hpc
  intro p e R s m args below meth c hC hE H locs ls hP hD hS hl
  obtain ⟨hx, hb, hml, hr2, hlk, hown, hts, hroom, hK, hRO⟩ := id hC
  exact lv_pop hx hb hdg rfl (kk p e R s m args below meth c hC hE H locs ls hP hD hS hl)
theorem zy_value (hM : M.1 = "java/lang/String") (hi : i < 18) (hdg : decode M.2.1 pc = .ok (.getfield 9, 3)) (hpc : nn = pc + 3) (kk : zY sh σ aV d M nn lv (.ref (aV i) :: st) μ Q) : zY sh σ aV d M pc lv (.ref (zad σ (200 + i)) :: st) μ Q := by
  subst hpc
  intro p e R s m args below meth c hC hE H locs ls hP hD hS hl
  obtain ⟨hx, hb, hml, hr2, hlk, hown, hts, hroom, hK, hRO⟩ := id hC
  exact vk_getf (own := "java/lang/String") (ref := "java/lang/String") hx hb (hE.1 i hi).2.2.1 hS (by rw [← hM]; exact hown) (hts _ (zw_t (i := 1697) (by decide +kernel) rfl)) (fun _ h9 => h9) hdg (kk p e R s m args below meth c hC hE H locs ls hP hD hS hl)
theorem zy_coder (hM : M.1 = "java/lang/String") (hi : i < 18) (hdg : decode M.2.1 pc = .ok (.getfield 15, 3)) (hpc : nn = pc + 3) (kk : zY sh σ aV d M nn lv (.int 0 :: st) μ Q) : zY sh σ aV d M pc lv (.ref (zad σ (200 + i)) :: st) μ Q := by
  subst hpc
  intro p e R s m args below meth c hC hE H locs ls hP hD hS hl
  obtain ⟨hx, hb, hml, hr2, hlk, hown, hts, hroom, hK, hRO⟩ := id hC
  exact vk_getf (own := "java/lang/String") (ref := "java/lang/String") hx hb (hE.1 i hi).2.1 hS (by rw [← hM]; exact hown) (hts _ (zw_t (i := 1698) (by decide +kernel) rfl)) (fun _ h9 => h9) hdg (kk p e R s m args below meth c hC hE H locs ls hP hD hS hl)
theorem zy_len (hi : i < 18) {v : Int32} (hv : Int32.ofNat (zLn.getD i 0) = v) (hdg : decode M.2.1 pc = .ok (.arraylength, 1)) (hpc : nn = pc + 1) (kk : zY sh σ aV d M nn lv (.int v :: st) μ Q) : zY sh σ aV d M pc lv (.ref (aV i) :: st) μ Q := by
  subst hpc
  intro p e R s m args below meth c hC hE H locs ls hP hD hS hl
  obtain ⟨hx, hb, hml, hr2, hlk, hown, hts, hroom, hK, hRO⟩ := id hC
  exact va_tlen hx hb (hE.1 i hi).2.2.2 hS hv hdg (kk p e R s m args below meth c hC hE H locs ls hP hD hS hl)
theorem zy_bald (hi : i < 18) {x v : Int32} (hin : vp_in x (zLn.getD i 0)) (hv : (zBy.getD i []).getD x.toNatClampNeg 0 = v) (hdg : decode M.2.1 pc = .ok (.baload, 1)) (hpc : nn = pc + 1) (kk : zY sh σ aV d M nn lv (.int v :: st) μ Q) : zY sh σ aV d M pc lv (.int x :: .ref (aV i) :: st) μ Q := by
  subst hpc
  intro p e R s m args below meth c hC hE H locs ls hP hD hS hl
  obtain ⟨hx, hb, hml, hr2, hlk, hown, hts, hroom, hK, hRO⟩ := id hC
  exact va_tb (v := .int v) hx hb (hE.1 i hi).2.2.2 hS hin (by rw [← hv]) hdg (kk p e R s m args below meth c hC hE H locs ls hP hD hS hl)
theorem zy_compact (hM : M.1 = "java/lang/String") (hdg : decode M.2.1 pc = .ok (.getstatic 38, 3)) (hpc : nn = pc + 3) (kk : zY sh σ aV d M nn lv (.int 1 :: st) μ Q) : zY sh σ aV d M pc lv (st) μ Q := by
  subst hpc
  intro p e R s m args below meth c hC hE H locs ls hP hD hS hl
  obtain ⟨hx, hb, hml, hr2, hlk, hown, hts, hroom, hK, hRO⟩ := id hC
  exact va_gets (own := "java/lang/String") (ref := "java/lang/String") hx hb hRO.2.2.2.2.1 hS (by rw [← hM]; exact hown) (hts _ (zw_t (i := 570) (by decide +kernel) rfl)) (fun _ h9 => h9) hdg (kk p e R s m args below meth c hC hE H locs ls hP hD hS hl)
theorem zy_fmt (hM : M.1 = "java/lang/String") (hdg : decode M.2.1 pc = .ok (.getstatic 1053, 3)) (hpc : nn = pc + 3) (kk : ∀ fo : Option Nat, zY sh σ aV d M nn lv (va_rf fo :: st) μ Q) : zY sh σ aV d M pc lv st μ Q := by
  subst hpc
  intro p e R s m args below meth c hC hE H locs ls hP hD hS hl
  obtain ⟨hx, hb, hml, hr2, hlk, hown, hts, hroom, hK, hRO⟩ := id hC
  obtain ⟨fo, hfo, -⟩ := hRO.2.2.2.2.2
  exact va_gets (own := "java/lang/String") (ref := "jdk/internal/util/Preconditions") hx hb hfo hS (by rw [← hM]; exact hown) (hts _ (zw_t (i := 586) (by decide +kernel) rfl)) (fun _ h9 => h9) hdg (kk fo p e R s m args below meth c hC hE H locs ls hP hD hS hl)
theorem zy_if_eq {x : Int32} {off : Int} (hdg : decode M.2.1 pc = .ok (.ifCond .eq off, 3)) (ht : (pc : Int) + off = (tgt : Int)) (hpc : nn = pc + 3) (kt : x = 0 → zY sh σ aV d M tgt lv st μ Q) (kf : ¬ x = 0 → zY sh σ aV d M nn lv st μ Q) : zY sh σ aV d M pc lv (.int x :: st) μ Q := by
  subst hpc
  intro p e R s m args below meth c hC hE H locs ls hP hD hS hl
  obtain ⟨hx, hb, hml, hr2, hlk, hown, hts, hroom, hK, hRO⟩ := id hC
  exact lv_if_eq hx hb hdg ht (fun h => kt h p e R s m args below meth c hC hE H locs ls hP hD hS hl) (fun h => kf h p e R s m args below meth c hC hE H locs ls hP hD hS hl)
theorem zy_if_ne {x : Int32} {off : Int} (hdg : decode M.2.1 pc = .ok (.ifCond .ne off, 3)) (ht : (pc : Int) + off = (tgt : Int)) (hpc : nn = pc + 3) (kt : ¬ x = 0 → zY sh σ aV d M tgt lv st μ Q) (kf : x = 0 → zY sh σ aV d M nn lv st μ Q) : zY sh σ aV d M pc lv (.int x :: st) μ Q := by
  subst hpc
  intro p e R s m args below meth c hC hE H locs ls hP hD hS hl
  obtain ⟨hx, hb, hml, hr2, hlk, hown, hts, hroom, hK, hRO⟩ := id hC
  exact lv_if_ne hx hb hdg ht (fun h => kt h p e R s m args below meth c hC hE H locs ls hP hD hS hl) (fun h => kf h p e R s m args below meth c hC hE H locs ls hP hD hS hl)
theorem zy_if_lt {x : Int32} {off : Int} (hdg : decode M.2.1 pc = .ok (.ifCond .lt off, 3)) (ht : (pc : Int) + off = (tgt : Int)) (hpc : nn = pc + 3) (kt : x < 0 → zY sh σ aV d M tgt lv st μ Q) (kf : ¬ x < 0 → zY sh σ aV d M nn lv st μ Q) : zY sh σ aV d M pc lv (.int x :: st) μ Q := by
  subst hpc
  intro p e R s m args below meth c hC hE H locs ls hP hD hS hl
  obtain ⟨hx, hb, hml, hr2, hlk, hown, hts, hroom, hK, hRO⟩ := id hC
  exact lv_if_lt hx hb hdg ht (fun h => kt h p e R s m args below meth c hC hE H locs ls hP hD hS hl) (fun h => kf h p e R s m args below meth c hC hE H locs ls hP hD hS hl)
theorem zy_icmp_lt {x y : Int32} {off : Int} (hdg : decode M.2.1 pc = .ok (.if_icmp .lt off, 3)) (ht : (pc : Int) + off = (tgt : Int)) (hpc : nn = pc + 3) (kt : x < y → zY sh σ aV d M tgt lv st μ Q) (kf : ¬ x < y → zY sh σ aV d M nn lv st μ Q) : zY sh σ aV d M pc lv (.int y :: .int x :: st) μ Q := by
  subst hpc
  intro p e R s m args below meth c hC hE H locs ls hP hD hS hl
  obtain ⟨hx, hb, hml, hr2, hlk, hown, hts, hroom, hK, hRO⟩ := id hC
  exact lv_icmp_lt hx hb hdg ht (fun h => kt h p e R s m args below meth c hC hE H locs ls hP hD hS hl) (fun h => kf h p e R s m args below meth c hC hE H locs ls hP hD hS hl)
theorem zy_goto {off : Int} (hdg : decode M.2.1 pc = .ok (.goto off, 3)) (ht : (pc : Int) + off = (tgt : Int)) (kk : zY sh σ aV d M tgt lv st μ Q) : zY sh σ aV d M pc lv st μ Q := by
  intro p e R s m args below meth c hC hE H locs ls hP hD hS hl
  obtain ⟨hx, hb, hml, hr2, hlk, hown, hts, hroom, hK, hRO⟩ := id hC
  exact lv_goto hx hb hdg ht (kk p e R s m args below meth c hC hE H locs ls hP hD hS hl)
theorem zy_iret {v : Int32} (hr : M.2.2.2 = some .int) (hdg : decode M.2.1 pc = .ok (.ireturn, 1)) (kk : Q (some (zi v)) μ) : zY sh σ aV d M pc lv [.int v] μ Q := by
  intro p e R s m args below meth c hC hE H locs ls hP hD hS hl
  obtain ⟨hx, hb, hml, hr2, hlk, hown, hts, hroom, hK, hRO⟩ := hC
  exact W.iret (v := v) hx hb (hr2.trans hr) (fun t ht hW => ⟨⟨some (zi v), μ, rfl, kk, by rw [ht]; exact hP, va_K.moved hW.alike hK, hD⟩, hS.F ht⟩) hS.2.2 hdg hlk
theorem zy_zret {v : Int32} {ty : FieldType} (hr : M.2.2.2 = some ty) (hn : narrow ty (.int v) = .int v) (hdg : decode M.2.1 pc = .ok (.ireturn, 1)) (kk : Q (some (zi v)) μ) : zY sh σ aV d M pc lv [.int v] μ Q := by
  intro p e R s m args below meth c hC hE H locs ls hP hD hS hl
  obtain ⟨hx, hb, hml, hr2, hlk, hown, hts, hroom, hK, hRO⟩ := hC
  exact W.zret (v := v) hx hb (hr2.trans hr) hn (fun t ht hW => ⟨⟨some (zi v), μ, rfl, kk, by rw [ht]; exact hP, va_K.moved hW.alike hK, hD⟩, hS.F ht⟩) hS.2.2 hdg hlk
theorem zy_vret (hr : M.2.2.2 = none) (hdg : decode M.2.1 pc = .ok (.return_, 1)) (kk : Q none μ) : zY sh σ aV d M pc lv [] μ Q := by
  intro p e R s m args below meth c hC hE H locs ls hP hD hS hl
  obtain ⟨hx, hb, hml, hr2, hlk, hown, hts, hroom, hK, hRO⟩ := hC
  exact W.vret hx hb (hr2.trans hr) (fun t ht hW => ⟨⟨none, μ, rfl, kk, by rw [ht]; exact hP, va_K.moved hW.alike hK, hD⟩, hS.F ht⟩) hS.2.2 hdg hlk
end ZY
theorem sJ0_coder (sh : List zS) (σ : zG) (aV : Nat → Nat) (μ : zM) (i : Nat) (hi : i < 18) : zMR sh σ aV 0 MJ0_coder_7d493 yJ0_coder_7d493 [.ref (zad σ (200 + i))] μ (fun rr μ' => rr = some (zi 0) ∧ μ' = μ) := by
  refine zmetR (by decide +kernel) rfl (Nat.le_of_ble_eq_true rfl) ?_
  show zY sh σ aV 0 MJ0_coder_7d493 0 [(0, .ref (zad σ (200 + i)))] [] μ _
  refine zy_compact (nn := 3) rfl dJ0_coder_7d493_0 rfl ?_
  refine zy_if_eq (tgt := 13) (nn := 6) dJ0_coder_7d493_3 (by decide) rfl (fun h => absurd h (by decide)) (fun _ => ?_)
  refine zy_aload_n (k := 0) (nn := 7) dJ0_coder_7d493_6 rfl rfl rfl ?_
  refine zy_coder (nn := 10) rfl hi dJ0_coder_7d493_7 rfl ?_
  refine zy_goto (tgt := 14) dJ0_coder_7d493_10 (by decide) ?_
  exact zy_zret rfl rfl dJ0_coder_7d493_14 ⟨rfl, rfl⟩
theorem sJ0_isLatin1 (sh : List zS) (σ : zG) (aV : Nat → Nat) (μ : zM) (i : Nat) (hi : i < 18) : zMR sh σ aV 0 MJ0_isLatin1_aae02 yJ0_isLatin1_aae02 [.ref (zad σ (200 + i))] μ (fun rr μ' => rr = some (zi 1) ∧ μ' = μ) := by
  refine zmetR (by decide +kernel) rfl (Nat.le_of_ble_eq_true rfl) ?_
  show zY sh σ aV 0 MJ0_isLatin1_aae02 0 [(0, .ref (zad σ (200 + i)))] [] μ _
  refine zy_compact (nn := 3) rfl dJ0_isLatin1_aae02_0 rfl ?_
  refine zy_if_eq (tgt := 17) (nn := 6) dJ0_isLatin1_aae02_3 (by decide) rfl (fun h => absurd h (by decide)) (fun _ => ?_)
  refine zy_aload_n (k := 0) (nn := 7) dJ0_isLatin1_aae02_6 rfl rfl rfl ?_
  refine zy_coder (nn := 10) rfl hi dJ0_isLatin1_aae02_7 rfl ?_
  refine zy_if_ne (tgt := 17) (nn := 13) dJ0_isLatin1_aae02_10 (by decide) rfl (fun h => absurd rfl h) (fun _ => ?_)
  refine zy_iconst (v := 1) (nn := 14) rfl dJ0_isLatin1_aae02_13 rfl ?_
  refine zy_goto (tgt := 18) dJ0_isLatin1_aae02_14 (by decide) ?_
  exact zy_zret rfl rfl dJ0_isLatin1_aae02_18 ⟨rfl, rfl⟩
theorem sJ3_checkIndex (sh : List zS) (σ : zG) (aV : Nat → Nat) (μ : zM) (x n : Int32) (fo : Option Nat) (h0 : ¬ x < 0) (h1 : x < n) : zMR sh σ aV 0 MJ3_checkIndex_8e157 yJ3_checkIndex_8e157 [.int x, .int n, va_rf fo] μ (fun rr μ' => rr = some (zi x) ∧ μ' = μ) := by
  refine zmetR (by decide +kernel) rfl (by cases fo <;> exact Nat.le_of_ble_eq_true rfl) ?_
  have hl : lv_args 0 [Value.int x, .int n, va_rf fo] = [(0, .int x), (1, .int n), (2, va_rf fo)] := rfl
  rw [hl]
  refine zy_iload_n (k := 0) (nn := 1) dJ3_checkIndex_8e157_0 rfl rfl rfl ?_
  refine zy_if_lt (tgt := 9) (nn := 4) dJ3_checkIndex_8e157_1 (by decide) rfl (fun h => absurd h h0) (fun _ => ?_)
  refine zy_iload_n (k := 0) (nn := 5) dJ3_checkIndex_8e157_4 rfl rfl rfl ?_
  refine zy_iload_n (k := 1) (nn := 6) dJ3_checkIndex_8e157_5 rfl rfl rfl ?_
  refine zy_icmp_lt (tgt := 16) (nn := 9) dJ3_checkIndex_8e157_6 (by decide) rfl (fun _ => ?_) (fun h => absurd h1 h)
  refine zy_iload_n (k := 0) (nn := 17) dJ3_checkIndex_8e157_16 rfl rfl rfl ?_
  exact zy_iret rfl dJ3_checkIndex_8e157_17 ⟨rfl, rfl⟩
theorem sJ0_checkIndex (sh : List zS) (σ : zG) (aV : Nat → Nat) (μ : zM) (x n : Int32) (h0 : ¬ x < 0) (h1 : x < n) : zMR sh σ aV 1 MJ0_checkIndex_df160 yJ0_checkIndex_df160 [.int x, .int n] μ (fun rr μ' => rr = none ∧ μ' = μ) := by
  refine zmetR (by decide +kernel) rfl (Nat.le_of_ble_eq_true rfl) ?_
  show zY sh σ aV 1 MJ0_checkIndex_df160 0 [(0, .int x), (1, .int n)] [] μ _
  refine zy_iload_n (k := 0) (nn := 1) dJ0_checkIndex_df160_0 rfl rfl rfl ?_
  refine zy_iload_n (k := 1) (nn := 2) dJ0_checkIndex_df160_1 rfl rfl rfl ?_
  refine zy_fmt (nn := 5) rfl dJ0_checkIndex_df160_2 rfl (fun fo => ?_)
  refine zy_callS (As := [.int x, .int n, va_rf fo]) (rest := []) (n := 3) (sJ3_checkIndex sh σ aV μ x n fo h0 h1) kJ3_checkIndex_8e157 mlJ0_1059 (by decide) rfl rfl (Nat.le_of_ble_eq_true rfl) dJ0_checkIndex_df160_5 ?_
  rintro _ μ' ⟨rfl, hμ⟩
  rw [hμ]
  show zY sh σ aV 1 MJ0_checkIndex_df160 8 [(0, .int x), (1, .int n)] [.int x] _ _
  refine zy_pop (nn := 9) dJ0_checkIndex_df160_8 rfl ?_
  exact zy_vret rfl dJ0_checkIndex_df160_9 ⟨rfl, rfl⟩
theorem tx_len {i : Nat} (hi : i < 18) : zLn.getD i 0 ≤ 7 ∧ (zBy.getD i []).length = zLn.getD i 0 := by
  have h : ∀ i, i < 18 → zLn.getD i 0 ≤ 7 ∧ (zBy.getD i []).length = zLn.getD i 0 := by decide
  exact h i hi
theorem tx_ch {i j : Nat} (hi : i < 18) (hj : j < zLn.getD i 0) : (((((zBy.getD i []).getD j 0) &&& 255).toUInt32 % 65536).toInt32 = (zBy.getD i []).getD j 0) ∧ narrow .char (.int ((zBy.getD i []).getD j 0)) = .int ((zBy.getD i []).getD j 0) := by
  have h : ∀ i, i < 18 → ∀ j, j < 7 → (((((zBy.getD i []).getD j 0) &&& 255).toUInt32 % 65536).toInt32 = (zBy.getD i []).getD j 0) ∧ narrow .char (.int ((zBy.getD i []).getD j 0)) = .int ((zBy.getD i []).getD j 0) := by decide +kernel
  exact h i hi j (by have := (tx_len hi).1; omega)
theorem sJ1_charAt (sh : List zS) (σ : zG) (aV : Nat → Nat) (μ : zM) (i j : Nat) (hi : i < 18) (hj : j < zLn.getD i 0) : zMR sh σ aV 2 MJ1_charAt_3b067 yJ1_charAt_3b067 [.ref (aV i), .int (nI j)] μ (fun rr μ' => rr = some (zi ((zBy.getD i []).getD j 0)) ∧ μ' = μ) := by
  refine zmetR (by decide +kernel) rfl (Nat.le_of_ble_eq_true rfl) ?_
  have h7 := (tx_len hi).1
  show zY sh σ aV 2 MJ1_charAt_3b067 0 [(0, .ref (aV i)), (1, .int (nI j))] [] μ _
  refine zy_iload_n (k := 1) (nn := 1) dJ1_charAt_3b067_0 rfl rfl rfl ?_
  refine zy_aload_n (k := 0) (nn := 2) dJ1_charAt_3b067_1 rfl rfl rfl ?_
  refine zy_len (nn := 3) hi rfl dJ1_charAt_3b067_2 rfl ?_
  refine zy_callS (As := [.int (nI j), .int (Int32.ofNat (zLn.getD i 0))]) (rest := []) (n := 2) (sJ0_checkIndex sh σ aV μ (nI j) (Int32.ofNat (zLn.getD i 0)) (fun q => absurd ((nI_ltI (b := 0) (by omega) (by omega)).mp q) (by omega)) (nI_lt hj (by omega))) kJ0_checkIndex_df160 mlJ1_9 (by decide) rfl rfl (Nat.le_of_ble_eq_true rfl) dJ1_charAt_3b067_3 ?_
  rintro _ μ' ⟨rfl, hμ⟩
  rw [hμ]
  show zY sh σ aV 2 MJ1_charAt_3b067 6 [(0, .ref (aV i)), (1, .int (nI j))] [] _ _
  refine zy_aload_n (k := 0) (nn := 7) dJ1_charAt_3b067_6 rfl rfl rfl ?_
  refine zy_iload_n (k := 1) (nn := 8) dJ1_charAt_3b067_7 rfl rfl rfl ?_
  refine zy_bald (v := ((zBy.getD i []).getD j 0)) (nn := 9) hi (vp_in_nI hj (by omega)) (by rw [nI_clamp (by omega)]) dJ1_charAt_3b067_8 rfl ?_
  refine zy_sipush (v := 255) (nn := 12) rfl dJ1_charAt_3b067_9 rfl ?_
  refine zy_iand (nn := 13) dJ1_charAt_3b067_12 rfl ?_
  refine zy_i2c (nn := 14) (tx_ch hi hj).1 dJ1_charAt_3b067_13 rfl ?_
  exact zy_zret rfl (tx_ch hi hj).2 dJ1_charAt_3b067_14 ⟨rfl, rfl⟩
theorem eJ0_charAt (sh : List zS) (σ : zG) (μ : zM) (i j : Nat) (hi : i < 18) (hj : j < zLn.getD i 0) : zMet sh σ 3 MJ0_charAt_5068e yJ0_charAt_5068e [zr (200 + i), zi (nI j)] μ (fun rr μ' => rr = some (zi ((zBy.getD i []).getD j 0)) ∧ μ' = μ) := by
  refine zmetF (by decide +kernel) rfl (Nat.le_of_ble_eq_true rfl) (zx_y fun aV => ?_)
  show zY sh σ aV 3 MJ0_charAt_5068e 0 [(0, .ref (zad σ (200 + i))), (1, .int (nI j))] [] μ _
  refine zy_aload_n (k := 0) (nn := 1) dJ0_charAt_5068e_0 rfl rfl rfl ?_
  refine zy_callT (i := i) (As := []) (rest := []) (n := 0) (sJ0_isLatin1 sh σ aV μ i hi) kJ0_isLatin1_aae02 rfl mlJ0_492 hi (by decide) rfl rfl (Nat.le_of_ble_eq_true rfl) dJ0_charAt_5068e_1 ?_
  rintro _ μ' ⟨rfl, hμ⟩
  rw [hμ]
  show zY sh σ aV 3 MJ0_charAt_5068e 4 [(0, .ref (zad σ (200 + i))), (1, .int (nI j))] [.int 1] _ _
  refine zy_if_eq (tgt := 16) (nn := 7) dJ0_charAt_5068e_4 (by decide) rfl (fun h => absurd h (by decide)) (fun _ => ?_)
  refine zy_aload_n (k := 0) (nn := 8) dJ0_charAt_5068e_7 rfl rfl rfl ?_
  refine zy_value (nn := 11) rfl hi dJ0_charAt_5068e_8 rfl ?_
  refine zy_iload_n (k := 1) (nn := 12) dJ0_charAt_5068e_11 rfl rfl rfl ?_
  refine zy_callS (As := [.ref (aV i), .int (nI j)]) (rest := []) (n := 2) (sJ1_charAt sh σ aV μ i j hi hj) kJ1_charAt_3b067 mlJ0_495 (by decide) rfl rfl (Nat.le_of_ble_eq_true rfl) dJ0_charAt_5068e_12 ?_
  rintro _ μ' ⟨rfl, hμ⟩
  rw [hμ]
  exact zy_zret rfl (tx_ch hi hj).2 dJ0_charAt_5068e_15 ⟨rfl, rfl⟩
theorem eJ0_length (sh : List zS) (σ : zG) (μ : zM) (i : Nat) (hi : i < 18) : zMet sh σ 1 MJ0_length_8abf5 yJ0_length_8abf5 [zr (200 + i)] μ (fun rr μ' => rr = some (zi (nI (zLn.getD i 0))) ∧ μ' = μ) := by
  refine zmetF (by decide +kernel) rfl (Nat.le_of_ble_eq_true rfl) (zx_y fun aV => ?_)
  show zY sh σ aV 1 MJ0_length_8abf5 0 [(0, .ref (zad σ (200 + i)))] [] μ _
  refine zy_aload_n (k := 0) (nn := 1) dJ0_length_8abf5_0 rfl rfl rfl ?_
  refine zy_value (nn := 4) rfl hi dJ0_length_8abf5_1 rfl ?_
  refine zy_len (v := nI (zLn.getD i 0)) (nn := 5) hi rfl dJ0_length_8abf5_4 rfl ?_
  refine zy_aload_n (k := 0) (nn := 6) dJ0_length_8abf5_5 rfl rfl rfl ?_
  refine zy_callT (i := i) (As := []) (rest := [.int (nI (zLn.getD i 0))]) (n := 0) (sJ0_coder sh σ aV μ i hi) kJ0_coder_7d493 rfl mlJ0_335 hi (by decide) rfl rfl (Nat.le_of_ble_eq_true rfl) dJ0_length_8abf5_6 ?_
  rintro _ μ' ⟨rfl, hμ⟩
  rw [hμ]
  show zY sh σ aV 1 MJ0_length_8abf5 9 [(0, .ref (zad σ (200 + i)))] [.int 0, .int (nI (zLn.getD i 0))] _ _
  refine zy_ishr (nn := 10) dJ0_length_8abf5_9 rfl ?_
  refine zy_iret rfl dJ0_length_8abf5_10 ⟨congrArg (fun x => some (zi x)) ?_, rfl⟩
  have h : ∀ i, i < 18 → nI (zLn.getD i 0) >>> ((0 : Int32) &&& 31) = nI (zLn.getD i 0) := by decide
  exact h i hi
