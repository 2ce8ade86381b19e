/-- the two systems -/
abbrev shC : List zS := [.inl (10, [some 1, some 7, some 18, some 25, some 32, some 37, some 39, some 47, some 53, some 61, some 65, some 67, some 73, some 80, none]), .inl (5, [some 2, some 3, some 4, some 5, some 6, none, none]), .inr (.inl 8), .inr (.inl 8), .inr (.inl 8), .inr (.inl 200), .inr (.inl 200), .inl (4, [some 8, some 9, some 10, some 11, some 12, none, none, none]), .inr (.inl 200), .inr (.inl 201), .inr (.inl 201), .inr (.inl 201), .inl (5, [some 13, some 14, some 15, some 16, some 17, none, none]), .inr (.inl 8), .inr (.inl 8), .inr (.inl 8), .inr (.inl 200), .inr (.inl 200), .inl (8, [some 1, some 19, some 20, some 21, some 22, some 23, some 24, none, none, none, none, none]), .inr (.inl 6), .inr (.inl 6), .inr (.inl 6), .inr (.inl 6), .inr (.inl 16), .inr (.inl 5), .inl (8, [some 1, some 26, some 27, some 28, some 29, some 30, some 31, none, none, none, none, none]), .inr (.inl 6), .inr (.inl 6), .inr (.inl 6), .inr (.inl 6), .inr (.inl 16), .inr (.inl 5), .inl (1, [some 33, some 34, some 35, some 36, none, none, none]), .inr (.inl 6), .inr (.inl 6), .inr (.inl 6), .inr (.inl 6), .inl (2, [some 18, some 25, some 38]), .inr (.inl 16), .inl (0, [some 18, some 25, some 40, some 45, some 46, none, none, none, none]), .inr (.inr (.inr [41, 42, 43, 44])), .inr (.inl 6), .inr (.inl 6), .inr (.inl 6), .inr (.inl 6), .inr (.inl 4), .inr (.inl 4), .inl (3, [some 18, some 25, some 48, none]), .inr (.inr (.inr [49, 50, 51, 52])), .inr (.inl 3), .inr (.inl 3), .inr (.inl 3), .inr (.inl 3), .inl (6, [some 54, some 55, some 56]), .inr (.inl 4), .inr (.inl 4), .inr (.inr (.inr [57, 58, 59, 60])), .inr (.inl 40), .inr (.inl 40), .inr (.inl 40), .inr (.inl 40), .inl (7, [some 18, some 53, some 62, some 63, some 64]), .inr (.inl 4), .inr (.inl 4), .inr (.inl 4), .inl (9, [some 66, none, none, none, none, none]), .inr (.inl 30), .inl (5, [some 68, some 69, some 70, some 71, some 72, none, none]), .inr (.inl 8), .inr (.inl 8), .inr (.inl 8), .inr (.inl 200), .inr (.inl 200), .inl (8, [some 67, some 74, some 75, some 76, some 77, some 78, some 79, none, none, none, none, none]), .inr (.inl 6), .inr (.inl 6), .inr (.inl 6), .inr (.inl 6), .inr (.inl 16), .inr (.inl 5), .inl (1, [some 81, some 82, some 83, some 84, none, none, none]), .inr (.inl 6), .inr (.inl 6), .inr (.inl 6), .inr (.inl 6)]
abbrev shR : List zS := [.inl (11, [some 1, some 2, some 3, none, some 4, some 5, none, some 6, none, none, none, none, none, none, none, some 7, some 8, some 9, some 15, some 16, none, none, none, none, none, none, some 17, none, some 18, some 19, some 20, some 21, some 22, some 23, some 24, none, none, none, none, none]), .inr (.inl 521), .inr (.inl 521), .inr (.inl 521), .inr (.inl 6), .inr (.inl 200), .inr (.inl 200), .inr (.inl 8), .inr (.inl 16), .inr (.inr (.inr [10, 11, 12, 13, 14])), .inr (.inl 8), .inr (.inl 8), .inr (.inl 8), .inr (.inl 8), .inr (.inl 8), .inr (.inl 4), .inr (.inl 4), .inr (.inl 12), .inr (.inl 4), .inr (.inl 4), .inr (.inr (.inl 160)), .inr (.inl 4), .inr (.inl 4), .inr (.inl 4), .inr (.inl 30)]
/-- a truth as an int -/
def zb (c : Bool) : Int32 := if c then 1 else 0
theorem zb_t : zb true = 1 := rfl
theorem zb_f : zb false = 0 := rfl
theorem zb_nar (c : Bool) : narrow .boolean (.int (zb c)) = .int (zb c) := by cases c <;> rfl
theorem zb_0 {c : Bool} : zb c = 0 ↔ c = false := by cases c <;> decide
theorem zb_1 {c : Bool} : zb c = 1 ↔ c = true := by cases c <;> decide
theorem zb_n0 {c : Bool} : ¬ zb c = 0 ↔ c = true := by cases c <;> decide
def zushr (x y : Int32) : Int32 := (x.toUInt32 >>> (y.toUInt32 &&& Int32.toUInt32 31)).toInt32
def zlushr (x : Int64) (y : Int32) : Int64 := (x.toUInt64 >>> (y.toInt64.toUInt64 &&& Int64.toUInt64 63)).toInt64
def zlshl (x : Int64) (y : Int32) : Int64 := x <<< (y.toInt64 &&& 63)
def zlshr (x : Int64) (y : Int32) : Int64 := x >>> (y.toInt64 &&& 63)
theorem zsw_out {x : Int32} {lo hi : Int} (h : ∀ k : Int, lo ≤ k → k ≤ hi → ¬ x.toInt = k) : x.toInt < lo ∨ hi < x.toInt := by
  by_cases h1 : x.toInt < lo
  · exact Or.inl h1
  · by_cases h2 : hi < x.toInt
    · exact Or.inr h2
    · exact absurd rfl (h x.toInt (by omega) (by omega))
section ZU
variable {sh : List zS} {σ : zG} {d : Nat} {M : zO} {pc nn tgt k : Nat} {lv : List (Nat × zV)} {st : List zV} {μ : zM} {Q : Option zV → zM → Prop}
theorem zx_sw {x v : Int32} (h : x = v) (kk : zX sh σ d M pc lv (zi v :: st) μ Q) : zX sh σ d M pc lv (zi x :: st) μ Q := by
  rw [h]; exact kk
theorem zx_ifb_eq {c : Bool} {off : Int} (hdg : decode M.2.1 pc = .ok (.ifCond .eq off, 3)) (ht : (pc : Int) + off = (tgt : Int)) (hpc : nn = pc + 3) (kt : c = false → zX sh σ d M tgt lv st μ Q) (kf : c = true → zX sh σ d M nn lv st μ Q) : zX sh σ d M pc lv (zi (zb c) :: st) μ Q :=
  zx_if_eq hdg ht hpc (fun h => kt (zb_0.mp h)) (fun h => kf (zb_n0.mp h))
theorem zx_ifb_ne {c : Bool} {off : Int} (hdg : decode M.2.1 pc = .ok (.ifCond .ne off, 3)) (ht : (pc : Int) + off = (tgt : Int)) (hpc : nn = pc + 3) (kt : c = true → zX sh σ d M tgt lv st μ Q) (kf : c = false → zX sh σ d M nn lv st μ Q) : zX sh σ d M pc lv (zi (zb c) :: st) μ Q :=
  zx_if_ne hdg ht hpc (fun h => kt (zb_n0.mp h)) (fun h => kf (zb_0.mp h))
theorem zx_iald_n {n j : Nat} (hsh : sh[k]? = some (.inr (.inl n))) (hj : j < n) (hn : n < 2 ^ 31) (hdg : decode M.2.1 pc = .ok (.iaload, 1)) (hpc : nn = pc + 1) (kk : zX sh σ d M nn lv (zi (μ k j) :: st) μ Q) : zX sh σ d M pc lv (zi (nI j) :: zr k :: st) μ Q := by
  refine zx_iald hsh (vp_in_nI hj hn) hdg hpc ?_
  rw [nI_clamp (by omega)]
  exact kk
theorem zx_iast_n {n j : Nat} {v : Int32} (hsh : sh[k]? = some (.inr (.inl n))) (hj : j < n) (hn : n < 2 ^ 31) (hdg : decode M.2.1 pc = .ok (.iastore, 1)) (hpc : nn = pc + 1) (kk : zX sh σ d M nn lv st (zp μ k j v) Q) : zX sh σ d M pc lv (zi v :: zi (nI j) :: zr k :: st) μ Q := by
  refine zx_iast hsh (vp_in_nI hj hn) hdg hpc ?_
  rw [nI_clamp (by omega)]
  exact kk
end ZU
/-- from the end of a count down to its start -/
theorem z_up {n : Nat} {P : Nat → Prop} (he : P n) (hs : ∀ i, i < n → P (i + 1) → P i) : ∀ i, i ≤ n → P i := by
  intro i hi
  have h : ∀ k j, j + k = n → P j := by
    intro k
    induction k with
    | zero => intro j hj; rw [show j = n by omega]; exact he
    | succ k ih => intro j hj; exact hs j (by omega) (ih (j + 1) (by omega))
  exact h (n - i) i (by omega)
section ZL
variable {sh : List zS} {σ : zG} {d : Nat} {M : zO} {pc pc' : Nat} {lv lv' : List (Nat × zV)} {st st' : List zV} {μ μ' : zM} {Q : Option zV → zM → Prop}
/-- ways that meet -/
theorem zx_cut (h : zX sh σ d M pc' lv' st' μ' Q → zX sh σ d M pc lv st μ Q) (k : zX sh σ d M pc' lv' st' μ' Q) : zX sh σ d M pc lv st μ Q := h k
/-- a loop -/
theorem zx_while {τ : Type} (ms : τ → Nat) (I : τ → Prop) (lvF : τ → List (Nat × zV)) (muF : τ → zM) {t0 : τ} (h0 : I t0)
    (step : ∀ t, I t → (∀ t', I t' → ms t' < ms t → zX sh σ d M pc (lvF t') [] (muF t') Q) → zX sh σ d M pc (lvF t) [] (muF t) Q) : zX sh σ d M pc (lvF t0) [] (muF t0) Q := by
  have h : ∀ n t, ms t < n → I t → zX sh σ d M pc (lvF t) [] (muF t) Q := by
    intro n
    induction n with
    | zero => intro t ht; omega
    | succ n ih => intro t ht hI; exact step t hI (fun t' hI' hm => ih t' (by omega) hI')
  exact h (ms t0 + 1) t0 (by omega) h0
end ZL
/-- as zmet, of a class of the machine's own too -/
theorem zmetF {sh : List zS} {σ : zG} {d : Nat} {M : zO} {y : MethodName} {as : List zV} {μ : zM} {Q : Option zV → zM → Prop} (hy : plainFor y = true) (ho : y.cls = M.1) (hc : zcat as ≤ M.2.2.1)
    (hX : zX sh σ d M 0 (zar 0 as) [] μ Q) : zMet sh σ d M y as μ Q := by
  refine va_MetF (cc := M.2.1) (maxL := M.2.2.1) (ret := M.2.2.2) hy rfl ?_
  intro p e s m args below meth c s₁ B hml hv
  obtain ⟨rfl, ⟨hP, hK, hD⟩, hRO⟩ := hv
  have hts := atoms_spec (ws := zws M y) B.pre
  have hown : s.vm.findClass y.cls = some m.cls := findClass_of_methodNamed B.named
  have hcx : zCx sh σ d M p (headSpec (zws M y) ({ frames := d, cells := 0, slots := 0, locals := 200 * d })).room s m (as.map (zval (zad σ))).toArray meth c :=
    ⟨B.exec, B.bytes, hml, B.returns, B.notSynchronized, by rw [← ho]; exact hown, fun w hw => hts w (List.mem_cons_of_mem _ hw), ⟨Nat.le_refl _, Nat.le_refl _⟩, hK, hRO⟩
  have hn : (lg_sl (as.map (zval (zad σ)))).length ≤ M.2.2.1 := by
    rw [lg_sl_len, zcat_eq]
    exact hc
  have hl := lv_entry (as.map (zval (zad σ))) (n := M.2.2.1) hn
  rw [zar_eq] at hl
  rw [lg_entry_eq]
  exact hX _ _ _ _ _ _ _ _ _ hcx _ _ _ hP hD va_S.rf hl
theorem vp_lit {x : Int32} {n : Nat} (h : (!(decide (x < 0) || decide (n ≤ x.toNatClampNeg))) = true) : vp_in x n := by
  intro q
  rcases q with q | q
  · simp [q] at h
  · simp [q] at h
section ZF
variable {sh : List zS} {σ : zG} {d d' : Nat} {M M' : zO} {pc n nn idx k ci : Nat} {lv : List (Nat × zV)} {st rest as : List zV} {μ μ1 : zM} {v : Option zV} {Q : Option zV → zM → Prop} {y : MethodName} {fl : List (Option Nat)}
/-- a call whose answer and whose ints behind it are told -/
theorem zx_callVf {C : String} {Tt : u_T} {N : Nat} (hm : zMet sh σ d' M' y (zr k :: as) μ (fun r μ' => r = v ∧ μ' = μ1)) (hc : zCalV M' y n) (hlk : Cond.methodLink M.1 idx y ∈ zw) (hsh : sh[k]? = some (.inl (ci, fl))) (hcl : vwCl[ci]? = some (C, Tt, N)) (hyc : y.cls = C) (hd : d' + 1 ≤ d) (hn : as.length = n) (hst : st = as.reverse ++ zr k :: rest) (hW : zcat rest ≤ 8)
    (hdg : decode M.2.1 pc = .ok (.invokevirtual idx, 3)) (hpc : nn = pc + 3) (kk : zX sh σ d M nn lv (v.toList ++ rest) μ1 Q) : zX sh σ d M pc lv st μ Q :=
  zx_callV hm hc hlk hsh hcl hyc hd hn hst hW hdg hpc (fun r μ' h => by rw [h.1, h.2]; exact kk)
theorem zx_callSf (hm : zMet sh σ d' M' y as μ (fun r μ' => r = v ∧ μ' = μ1)) (hc : zCalS M' y n) (hlk : Cond.methodLink M.1 idx y ∈ zw) (hd : d' + 1 ≤ d) (hn : as.length = n) (hst : st = as.reverse ++ rest) (hW : zcat rest ≤ 8)
    (hdg : decode M.2.1 pc = .ok (.invokestatic idx, 3)) (hpc : nn = pc + 3) (kk : zX sh σ d M nn lv (v.toList ++ rest) μ1 Q) : zX sh σ d M pc lv st μ Q :=
  zx_callS hm hc hlk hd hn hst hW hdg hpc (fun r μ' h => by rw [h.1, h.2]; exact kk)
end ZF
theorem ztm2 : (-2 : Int32).toInt = -2 := by decide +kernel
theorem ztm1 : (-1 : Int32).toInt = -1 := by decide +kernel
theorem zt0 : (0 : Int32).toInt = 0 := by decide +kernel
theorem zt1 : (1 : Int32).toInt = 1 := by decide +kernel
theorem zt2 : (2 : Int32).toInt = 2 := by decide +kernel
theorem zt3 : (3 : Int32).toInt = 3 := by decide +kernel
theorem zt4 : (4 : Int32).toInt = 4 := by decide +kernel
theorem zt5 : (5 : Int32).toInt = 5 := by decide +kernel
theorem zt6 : (6 : Int32).toInt = 6 := by decide +kernel
theorem zt7 : (7 : Int32).toInt = 7 := by decide +kernel
theorem zt8 : (8 : Int32).toInt = 8 := by decide +kernel
theorem zt9 : (9 : Int32).toInt = 9 := by decide +kernel
theorem zt10 : (10 : Int32).toInt = 10 := by decide +kernel
theorem zt15 : (15 : Int32).toInt = 15 := by decide +kernel
theorem zt16 : (16 : Int32).toInt = 16 := by decide +kernel
theorem zt20 : (20 : Int32).toInt = 20 := by decide +kernel
theorem zt30 : (30 : Int32).toInt = 30 := by decide +kernel
theorem zt31 : (31 : Int32).toInt = 31 := by decide +kernel
theorem zt40 : (40 : Int32).toInt = 40 := by decide +kernel
theorem zt41 : (41 : Int32).toInt = 41 := by decide +kernel
theorem zt200 : (200 : Int32).toInt = 200 := by decide +kernel
theorem zt999 : (999 : Int32).toInt = 999 := by decide +kernel
