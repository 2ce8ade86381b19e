/-! THE READER. A reading: did it go, the token behind it (or the one at fault), what it lays in the class, what it lays in the reference. K, V: the tokens' kinds and values -/
abbrev pC : Type := Bool × Nat × List Int32 × List (Int32 × Int32)
def rSign (c : Int32) : Int32 := if c = 60 then -6 else if c = 61 then -7 else if c = 62 then -8 else 0
def rVal (K V : Nat → Int32) (k : Nat) : pC := if K k = -2 then (true, k + 1, [V k], [(0, V k)]) else if 0 ≤ K k - 269 ∧ K k - 269 < 5 then (true, k + 1, [-1 - (K k - 269)], [(1, K k - 269)]) else (false, k, [], [])
def rTest (K V : Nat → Int32) (k : Nat) : pC :=
  if (rVal K V k).1 = true then
    (if rSign (K (rVal K V k).2.1) = 0 then (false, (rVal K V k).2.1, [], [])
     else if (rVal K V ((rVal K V k).2.1 + 1)).1 = true then (true, (rVal K V ((rVal K V k).2.1 + 1)).2.1, (rVal K V k).2.2.1 ++ ((rVal K V ((rVal K V k).2.1 + 1)).2.2.1 ++ [rSign (K (rVal K V k).2.1)]), (rVal K V k).2.2.2 ++ ((rVal K V ((rVal K V k).2.1 + 1)).2.2.2 ++ [(2, K (rVal K V k).2.1)]))
     else (false, (rVal K V ((rVal K V k).2.1 + 1)).2.1, [], []))
  else (false, (rVal K V k).2.1, [], [])
def rNots (K : Nat → Int32) : Nat → Nat → Nat
  | 0, _ => 0
  | m + 1, k => if K k = 268 then rNots K m (k + 1) + 1 else 0
def rCore (K V : Nat → Int32) (any : Nat → pC) (may : Bool) (k : Nat) : pC :=
  if K k = 40 then (if may = true then (if (any (k + 1)).1 = true ∧ K (any (k + 1)).2.1 = 41 then (true, (any (k + 1)).2.1 + 1, (any (k + 1)).2.2.1, (any (k + 1)).2.2.2) else (false, (any (k + 1)).2.1, [], [])) else (false, k, [], [])) else rTest K V k
def rOne (K V : Nat → Int32) (any : Nat → pC) (may : Bool) (k : Nat) : pC :=
  if (rCore K V any may (k + rNots K 200 k)).1 = true then (true, (rCore K V any may (k + rNots K 200 k)).2.1, (rCore K V any may (k + rNots K 200 k)).2.2.1 ++ (if rNots K 200 k % 2 = 1 then [-9] else []), (rCore K V any may (k + rNots K 200 k)).2.2.2 ++ List.replicate (rNots K 200 k) (3, 0))
  else (false, (rCore K V any may (k + rNots K 200 k)).2.1, [], [])
def rMore (K : Nat → Int32) (one : Nat → pC) (sep c rc : Int32) : Nat → pC → pC
  | 0, a => a
  | m + 1, a => if K a.2.1 = sep then (if (one (a.2.1 + 1)).1 = true then rMore K one sep c rc m (true, (one (a.2.1 + 1)).2.1, a.2.2.1 ++ ((one (a.2.1 + 1)).2.2.1 ++ [c]), a.2.2.2 ++ ((one (a.2.1 + 1)).2.2.2 ++ [(rc, 0)])) else (false, (one (a.2.1 + 1)).2.1, [], [])) else a
def rJoin (K : Nat → Int32) (one : Nat → pC) (sep c rc : Int32) (k : Nat) : pC := if (one k).1 = true then rMore K one sep c rc 200 (one k) else (false, (one k).2.1, [], [])
def rAll (K V : Nat → Int32) (any : Nat → pC) (may : Bool) : Nat → pC := rJoin K (rOne K V any may) 267 (-10) 4
def rAny (K V : Nat → Int32) (any : Nat → pC) (may : Bool) : Nat → pC := rJoin K (rAll K V any may) 266 (-11) 5
def rCond (K V : Nat → Int32) : Nat → Nat → pC
  | 0 => rAny K V (fun k => (false, k, [], [])) false
  | o + 1 => rAny K V (rCond K V o) true
/-- it goes on, not beyond the end; it lays no more than a code a token -/
def pGd (c : Nat) (f : Nat → pC) : Prop := ∀ k, k ≤ c → (k ≤ (f k).2.1 ∧ (f k).2.1 ≤ c) ∧ (f k).2.2.1.length + k ≤ (f k).2.1 ∧ (f k).2.2.2.length + k ≤ (f k).2.1
theorem gd_val {K V : Nat → Int32} {c : Nat} (hc : K c = -1) : pGd c (rVal K V) := by
  intro k hk
  unfold rVal
  by_cases h1 : K k = -2
  · have : k ≠ c := fun e => by rw [e, hc] at h1; exact absurd h1 (by decide)
    rw [if_pos h1]; simp; omega
  · by_cases h2 : 0 ≤ K k - 269 ∧ K k - 269 < 5
    · have : k ≠ c := fun e => by rw [e, hc] at h2; exact absurd h2.1 (by decide)
      rw [if_neg h1, if_pos h2]; simp; omega
    · rw [if_neg h1, if_neg h2]; simp; omega
theorem gd_test {K V : Nat → Int32} {c : Nat} (hc : K c = -1) : pGd c (rTest K V) := by
  intro k hk
  have h1 := gd_val (V := V) hc k hk
  unfold rTest
  by_cases a : (rVal K V k).1 = true
  · rw [if_pos a]
    by_cases b : rSign (K (rVal K V k).2.1) = 0
    · rw [if_pos b]; simp; omega
    · have hne : (rVal K V k).2.1 ≠ c := fun e => b (by rw [e, hc]; decide)
      have h2 := gd_val (V := V) hc ((rVal K V k).2.1 + 1) (by omega)
      rw [if_neg b]
      split
      · simp; omega
      · simp; omega
  · rw [if_neg a]; simp; omega
theorem nots_le {K : Nat → Int32} {c : Nat} (hc : K c = -1) : ∀ {m k : Nat}, k ≤ c → k + rNots K m k ≤ c
  | 0, k, h => h
  | m + 1, k, h => by
    show k + (if _ then _ else _) ≤ c
    by_cases q : K k = 268
    · have : k ≠ c := fun e => by rw [e, hc] at q; exact absurd q (by decide)
      have := nots_le hc (m := m) (k := k + 1) (by omega)
      rw [if_pos q]; omega
    · rw [if_neg q]; exact h
theorem gd_core {K V : Nat → Int32} {c : Nat} (hc : K c = -1) {any : Nat → pC} {may : Bool} (ha : may = true → pGd c any) : pGd c (rCore K V any may) := by
  intro k hk
  unfold rCore
  by_cases h : K k = 40
  · have hne : k ≠ c := fun e => by rw [e, hc] at h; exact absurd h (by decide)
    rw [if_pos h]
    by_cases hm : may = true
    · have h2 := ha hm (k + 1) (by omega)
      rw [if_pos hm]
      split
      · rename_i g
        have : (any (k + 1)).2.1 ≠ c := fun e => by rw [e, hc] at g; exact absurd g.2 (by decide)
        simp; omega
      · simp; omega
    · rw [if_neg hm]; simp; omega
  · rw [if_neg h]; exact gd_test hc k hk
theorem gd_one {K V : Nat → Int32} {c : Nat} (hc : K c = -1) {any : Nat → pC} {may : Bool} (ha : may = true → pGd c any) : pGd c (rOne K V any may) := by
  intro k hk
  have h1 := nots_le hc (m := 200) hk
  have h2 := gd_core (V := V) hc ha (k + rNots K 200 k) h1
  unfold rOne
  split
  · refine ⟨⟨by simp; omega, by simp; omega⟩, ?_, ?_⟩
    · show ((rCore K V any may (k + rNots K 200 k)).2.2.1 ++ _).length + k ≤ (rCore K V any may (k + rNots K 200 k)).2.1
      rw [List.length_append]
      split <;> simp <;> omega
    · show ((rCore K V any may (k + rNots K 200 k)).2.2.2 ++ _).length + k ≤ (rCore K V any may (k + rNots K 200 k)).2.1
      rw [List.length_append, List.length_replicate]
      omega
  · simp; omega
theorem gd_more {K : Nat → Int32} {c : Nat} (hc : K c = -1) {one : Nat → pC} (h1 : pGd c one) {sep x rc : Int32} (hs : sep ≠ -1) {k : Nat} : ∀ {m : Nat} {a : pC}, ((k ≤ a.2.1 ∧ a.2.1 ≤ c) ∧ a.2.2.1.length + k ≤ a.2.1 ∧ a.2.2.2.length + k ≤ a.2.1) →
    ((k ≤ (rMore K one sep x rc m a).2.1 ∧ (rMore K one sep x rc m a).2.1 ≤ c) ∧ (rMore K one sep x rc m a).2.2.1.length + k ≤ (rMore K one sep x rc m a).2.1 ∧ (rMore K one sep x rc m a).2.2.2.length + k ≤ (rMore K one sep x rc m a).2.1)
  | 0, a, h => h
  | m + 1, a, h => by
    by_cases q : K a.2.1 = sep
    · have hne : a.2.1 ≠ c := fun e => hs (by rw [← q, e, hc])
      have h2 := h1 (a.2.1 + 1) (by omega)
      by_cases g : (one (a.2.1 + 1)).1 = true
      · have e : rMore K one sep x rc (m + 1) a = rMore K one sep x rc m (true, (one (a.2.1 + 1)).2.1, a.2.2.1 ++ ((one (a.2.1 + 1)).2.2.1 ++ [x]), a.2.2.2 ++ ((one (a.2.1 + 1)).2.2.2 ++ [(rc, 0)])) := by
          show (if _ then (if _ then _ else _) else _) = _
          rw [if_pos q, if_pos g]
        rw [e]
        exact gd_more hc h1 hs (m := m) (by simp; omega)
      · have e : rMore K one sep x rc (m + 1) a = (false, (one (a.2.1 + 1)).2.1, [], []) := by
          show (if _ then (if _ then _ else _) else _) = _
          rw [if_pos q, if_neg g]
        rw [e]; simp; omega
    · have e : rMore K one sep x rc (m + 1) a = a := if_neg q
      rw [e]; exact h
theorem gd_join {K : Nat → Int32} {c : Nat} (hc : K c = -1) {one : Nat → pC} (h1 : pGd c one) {sep x rc : Int32} (hs : sep ≠ -1) : pGd c (rJoin K one sep x rc) := by
  intro k hk
  have h2 := h1 k hk
  unfold rJoin
  split
  · exact gd_more hc h1 hs h2
  · simp; omega
theorem gd_cond {K V : Nat → Int32} {c : Nat} (hc : K c = -1) : ∀ o, pGd c (rCond K V o)
  | 0 => gd_join hc (gd_join hc (gd_one hc (fun h => absurd h (by decide))) (by decide)) (by decide)
  | o + 1 => gd_join hc (gd_join hc (gd_one hc (fun _ => gd_cond hc o)) (by decide)) (by decide)
/-! in the class: the tables, the next token, the codes that lie in the draft -/
def rdS (K V : Nat → Int32) (c : Nat) (μ : zM) (nx cc : Nat) : Prop := (∀ k, k ≤ c → μ 9 k = K k) ∧ (∀ k, k < c → μ 10 k = V k) ∧ (K c = -1 ∧ c ≤ 200) ∧ (μ 7 7 = nI nx ∧ nx ≤ c) ∧ μ 12 6 = nI cc ∧ cc ≤ nx
def rdE (μ μ' : zM) : Prop := zJ [7, 12, 16] μ μ' ∧ (∀ i, i ≠ 7 → μ' 7 i = μ 7 i) ∧ ∀ i, i ≠ 6 → μ' 12 i = μ 12 i
def rdC (μ μ' : zM) (cc : Nat) (cs : List Int32) : Prop := (∀ j, j < cc → μ' 16 j = μ 16 j) ∧ ∀ j, j < cs.length → μ' 16 (cc + j) = cs.getD j 0
def rdP (K V : Nat → Int32) (c : Nat) (μ : zM) (cc : Nat) (r : pC) (μ' : zM) : Prop := rdE μ μ' ∧ μ' 7 7 = nI r.2.1 ∧ (r.1 = true → rdS K V c μ' r.2.1 (cc + r.2.2.1.length) ∧ rdC μ μ' cc r.2.2.1)
theorem rdE.rf {μ : zM} : rdE μ μ := ⟨zJ.rf, fun _ _ => rfl, fun _ _ => rfl⟩
theorem rdE.tr {μ μ1 μ2 : zM} (h : rdE μ μ1) (g : rdE μ1 μ2) : rdE μ μ2 := ⟨h.1.tr g.1, fun i hi => (g.2.1 i hi).trans (h.2.1 i hi), fun i hi => (g.2.2 i hi).trans (h.2.2 i hi)⟩
theorem rdE.nx {μ : zM} {v : Int32} : rdE μ (zp μ 7 7 v) := ⟨zJ.rf.p (by decide), fun i hi => by rw [zp_eq, pk_un hi], fun i _ => by rw [zp_ne (by decide)]⟩
theorem rdE.cd {μ : zM} {n : Nat} {v w : Int32} : rdE μ (zp (zp μ 16 n v) 12 6 w) := ⟨(zJ.rf.p (by decide)).p (by decide), fun i _ => by rw [zp_ne (by decide), zp_ne (by decide)], fun i hi => by rw [zp_eq, pk_un hi, zp_ne (by decide)]⟩
theorem rdC.rf {μ : zM} {cc : Nat} : rdC μ μ cc [] := ⟨fun _ _ => rfl, fun j h => absurd h (by simp)⟩
theorem rdC.app {μ μ1 μ2 : zM} {cc : Nat} {a b : List Int32} (h : rdC μ μ1 cc a) (g : rdC μ1 μ2 (cc + a.length) b) : rdC μ μ2 cc (a ++ b) := by
  refine ⟨fun j hj => (g.1 j (by omega)).trans (h.1 j hj), fun j hj => ?_⟩
  rw [List.length_append] at hj
  by_cases q : j < a.length
  · rw [g.1 _ (by omega), h.2 j q]
    simp [List.getD, List.getElem?_append_left q]
  · have := g.2 (j - a.length) (by omega)
    rw [show cc + a.length + (j - a.length) = cc + j by omega] at this
    rw [this]
    simp [List.getD, List.getElem?_append_right (Nat.not_lt.mp q)]
theorem rdC.E {μ μ1 : zM} {cc : Nat} (h : μ1 16 = μ 16) : rdC μ μ1 cc [] := ⟨fun j _ => by rw [h], fun j h => absurd h (by simp)⟩
theorem rdC.one {μ : zM} {cc : Nat} {v w : Int32} : rdC μ (zp (zp μ 16 cc v) 12 6 w) cc [v] := by
  refine ⟨fun j hj => by rw [zp_ne (by decide), zp_eq, pk_un (by omega)], fun j hj => ?_⟩
  simp at hj
  subst hj
  rw [zp_ne (by decide), zp_eq]
  exact pk_us
theorem rdS.nx {K V : Nat → Int32} {c nx cc : Nat} {μ : zM} (h : rdS K V c μ nx cc) (hk : K nx ≠ -1) : rdS K V c (zp μ 7 7 (nI (nx + 1))) (nx + 1) cc := by
  obtain ⟨h1, h2, h3, h4, h5⟩ := h
  have : nx ≠ c := fun e => hk (by rw [e]; exact h3.1)
  exact ⟨fun k hk => by rw [zp_ne (by decide)]; exact h1 k hk, fun k hk => by rw [zp_ne (by decide)]; exact h2 k hk, h3, ⟨by rw [zp_eq]; exact pk_us, by omega⟩, by rw [zp_ne (by decide)]; exact h5.1, by omega⟩
theorem rdS.cd {K V : Nat → Int32} {c nx cc : Nat} {v : Int32} {μ : zM} (h : rdS K V c μ nx cc) (hk : cc < nx) : rdS K V c (zp (zp μ 16 cc v) 12 6 (nI (cc + 1))) nx (cc + 1) := by
  obtain ⟨h1, h2, h3, h4, h5⟩ := h
  exact ⟨fun k hk => by rw [zp_ne (by decide), zp_ne (by decide)]; exact h1 k hk, fun k hk => by rw [zp_ne (by decide), zp_ne (by decide)]; exact h2 k hk, h3, ⟨by rw [zp_ne (by decide), zp_ne (by decide)]; exact h4.1, h4.2⟩, by rw [zp_eq]; exact pk_us, by omega⟩
set_option maxHeartbeats 4000000 in
set_option maxRecDepth 100000 in
theorem eX4_signHere_7 (σ : zG) (μ : zM) (K V : Nat → Int32) (c nx cc : Nat) (hS : rdS K V c μ nx cc) : zMet shC σ 0 MX4_signHere yX4_signHere [zr 7] μ (fun rr μ' => rr = some (zi (rSign (K nx))) ∧ μ' = μ) := by
  refine zmetF (by decide +kernel) rfl (Nat.le_of_ble_eq_true rfl) ?_
  show zX shC σ 0 MX4_signHere 0 [(0, zr 7)] [] μ _
  refine zx_aload_n (k := 0) (nn := 1) dX4_signHere_0 rfl rfl rfl ?_
  refine zx_getR (q := 9) (nn := 4) flX4_15 rfl rfl dX4_signHere_1 rfl ?_
  refine zx_aload_n (k := 0) (nn := 5) dX4_signHere_4 rfl rfl rfl ?_
  refine zx_getI (nn := 8) flX4_38 rfl rfl dX4_signHere_5 rfl ?_
  rw [show μ 7 7 = nI nx from hS.2.2.2.1.1]
  show zX shC σ 0 MX4_signHere 8 [(0, zr 7)] [zi (nI nx), zr 9] μ _
  refine zx_iald_n (j := nx) (nn := 9) rfl (by have := hS.2.2.1.2; have := hS.2.2.2.1.2; omega) (by decide) dX4_signHere_8 rfl ?_
  rw [show μ 9 nx = K nx from hS.1 nx hS.2.2.2.1.2]
  show zX shC σ 0 MX4_signHere 9 [(0, zr 7)] [zi (K nx)] μ _
  by_cases h9_60 : (K nx) = 60
  · refine zx_sw h9_60 ?_
    refine zx_tabIn (tgt := 36) (off := 27) dX4_signHere_9 (by decide +kernel) (by decide +kernel) (by decide +kernel) (by decide) ?_
    refine zx_bipush (v := -6) (nn := 38) rfl dX4_signHere_36 rfl ?_
    refine zx_iret rfl dX4_signHere_38 ?_
    refine ⟨congrArg (fun x => some (zi x)) ?_, rfl⟩
    simp [rSign, h9_60]
  by_cases h9_61 : (K nx) = 61
  · refine zx_sw h9_61 ?_
    refine zx_tabIn (tgt := 39) (off := 30) dX4_signHere_9 (by decide +kernel) (by decide +kernel) (by decide +kernel) (by decide) ?_
    refine zx_bipush (v := -7) (nn := 41) rfl dX4_signHere_39 rfl ?_
    refine zx_iret rfl dX4_signHere_41 ?_
    refine ⟨congrArg (fun x => some (zi x)) ?_, rfl⟩
    simp [rSign, h9_60, h9_61]
  by_cases h9_62 : (K nx) = 62
  · refine zx_sw h9_62 ?_
    refine zx_tabIn (tgt := 42) (off := 33) dX4_signHere_9 (by decide +kernel) (by decide +kernel) (by decide +kernel) (by decide) ?_
    refine zx_bipush (v := -8) (nn := 44) rfl dX4_signHere_42 rfl ?_
    refine zx_iret rfl dX4_signHere_44 ?_
    refine ⟨congrArg (fun x => some (zi x)) ?_, rfl⟩
    simp [rSign, h9_60, h9_61, h9_62]
  refine zx_tabOut (tgt := 45) dX4_signHere_9 (zsw_out (lo := 60) (hi := 62) (fun k hk1 hk2 => by rcases (show k = 60 ∨ k = 61 ∨ k = 62 by omega) with rfl | rfl | rfl; exact lv_neT h9_60 rfl; exact lv_neT h9_61 rfl; exact lv_neT h9_62 rfl)) (by decide) ?_
  refine zx_iconst (v := 0) (nn := 46) rfl dX4_signHere_45 rfl ?_
  refine zx_iret rfl dX4_signHere_46 ?_
  refine ⟨congrArg (fun x => some (zi x)) ?_, rfl⟩
  simp [rSign, h9_60, h9_61, h9_62]
set_option maxHeartbeats 4000000 in
set_option maxRecDepth 100000 in
theorem eX4_readValue_7 (σ : zG) (μ : zM) (K V : Nat → Int32) (c nx cc : Nat) (hS : rdS K V c μ nx cc) : zMet shC σ 1 MX4_readValue yX4_readValue [zr 7] μ (fun rr μ' => rr = some (zi (zb (rVal K V nx).1)) ∧ rdP K V c μ cc (rVal K V nx) μ') := by
  refine zmetF (by decide +kernel) rfl (Nat.le_of_ble_eq_true rfl) ?_
  show zX shC σ 1 MX4_readValue 0 [(0, zr 7)] [] μ _
  refine zx_aload_n (k := 0) (nn := 1) dX4_readValue_0 rfl rfl rfl ?_
  refine zx_getR (q := 9) (nn := 4) flX4_15 rfl rfl dX4_readValue_1 rfl ?_
  refine zx_aload_n (k := 0) (nn := 5) dX4_readValue_4 rfl rfl rfl ?_
  refine zx_getI (nn := 8) flX4_38 rfl rfl dX4_readValue_5 rfl ?_
  rw [show μ 7 7 = nI nx from hS.2.2.2.1.1]
  show zX shC σ 1 MX4_readValue 8 [(0, zr 7)] [zi (nI nx), zr 9] μ _
  refine zx_iald_n (j := nx) (nn := 9) rfl (by have := hS.2.2.1.2; have := hS.2.2.2.1.2; omega) (by decide) dX4_readValue_8 rfl ?_
  rw [show μ 9 nx = K nx from hS.1 nx hS.2.2.2.1.2]
  show zX shC σ 1 MX4_readValue 9 [(0, zr 7)] [zi (K nx)] μ _
  refine zx_sipush (v := 269) (nn := 12) rfl dX4_readValue_9 rfl ?_
  refine zx_isub (nn := 13) dX4_readValue_12 rfl ?_
  refine zx_istore_n (nn := 14) (lv' := [(1, zi ((K nx) - 269)), (0, zr 7)]) dX4_readValue_13 rfl (by decide) rfl rfl ?_
  refine zx_aload_n (k := 1) (nn := 15) dX4_readValue_14 rfl rfl rfl ?_
  refine zx_getR (q := 9) (nn := 18) flX4_15 rfl rfl dX4_readValue_15 rfl ?_
  refine zx_aload_n (k := 1) (nn := 19) dX4_readValue_18 rfl rfl rfl ?_
  refine zx_getI (nn := 22) flX4_38 rfl rfl dX4_readValue_19 rfl ?_
  rw [show μ 7 7 = nI nx from hS.2.2.2.1.1]
  show zX shC σ 1 MX4_readValue 22 [(1, zi ((K nx) - 269)), (0, zr 7)] [zi (nI nx), zr 9] μ _
  refine zx_iald_n (j := nx) (nn := 23) rfl (by have := hS.2.2.1.2; have := hS.2.2.2.1.2; omega) (by decide) dX4_readValue_22 rfl ?_
  rw [show μ 9 nx = K nx from hS.1 nx hS.2.2.2.1.2]
  show zX shC σ 1 MX4_readValue 23 [(1, zi ((K nx) - 269)), (0, zr 7)] [zi (K nx)] μ _
  refine zx_bipush (v := -2) (nn := 25) rfl dX4_readValue_23 rfl ?_
  refine zx_icmp_ne (tgt := 47) (nn := 28) dX4_readValue_25 (by decide) rfl (fun h25 => ?_) (fun h25 => ?_)
  · refine zx_iload_n (k := 0) (nn := 48) dX4_readValue_47 rfl rfl rfl ?_
    refine zx_if_lt (tgt := 69) (nn := 51) dX4_readValue_48 (by decide) rfl (fun h48 => ?_) (fun h48 => ?_)
    · refine zx_iconst (v := 0) (nn := 70) rfl dX4_readValue_69 rfl ?_
      refine zx_zret rfl rfl dX4_readValue_70 ?_
      have hr : rVal K V nx = (false, nx, [], []) := by unfold rVal; rw [if_neg h25, if_neg (fun q => absurd h48 (Int32.not_lt.mpr q.1))]
      rw [hr]
      exact ⟨rfl, rdE.rf, hS.2.2.2.1.1, fun h => by cases h⟩
    · refine zx_iload_n (k := 0) (nn := 52) dX4_readValue_51 rfl rfl rfl ?_
      refine zx_iconst (v := 5) (nn := 53) rfl dX4_readValue_52 rfl ?_
      refine zx_icmp_ge (tgt := 69) (nn := 56) dX4_readValue_53 (by decide) rfl (fun h53 => ?_) (fun h53 => ?_)
      · refine zx_iconst (v := 0) (nn := 70) rfl dX4_readValue_69 rfl ?_
        refine zx_zret rfl rfl dX4_readValue_70 ?_
        have hr : rVal K V nx = (false, nx, [], []) := by unfold rVal; rw [if_neg h25, if_neg (fun q => absurd h53 (Int32.not_le.mpr q.2))]
        rw [hr]
        exact ⟨rfl, rdE.rf, hS.2.2.2.1.1, fun h => by cases h⟩
      · have hne : nx ≠ c := fun e => by rw [e, hS.2.2.1.1] at h48; exact absurd h48 (by decide)
        have hb := hS.2.2.2.1.2
        have hb2 := hS.2.2.2.2.2
        have hb3 := hS.2.2.1.2
        refine zx_aload_n (k := 1) (nn := 57) dX4_readValue_56 rfl rfl rfl ?_
        refine zx_getR (q := 12) (nn := 60) flX4_27 rfl rfl dX4_readValue_57 rfl ?_
        refine zx_iconst (v := -1) (nn := 61) rfl dX4_readValue_60 rfl ?_
        refine zx_iload_n (k := 0) (nn := 62) dX4_readValue_61 rfl rfl rfl ?_
        refine zx_isub (nn := 63) dX4_readValue_62 rfl ?_
        refine zx_callVf (nn := 66) (k := 12) (d' := 0) (as := [zi ((-1) - ((K nx) - 269))]) (rest := []) (n := 1) (eX5_addCode_12 σ μ ((-1) - ((K nx) - 269)) cc hS.2.2.2.2.1 (by omega)) kX5_addCode mlX4_63 rfl rfl rfl (by decide) rfl rfl (Nat.le_of_ble_eq_true rfl) dX4_readValue_63 rfl ?_
        show zX shC σ 1 MX4_readValue 66 [(1, zi ((K nx) - 269)), (0, zr 7)] [] (zp (zp μ 16 cc ((-1) - ((K nx) - 269))) 12 6 (nI (cc + 1))) _
        refine zx_goto (tgt := 71) dX4_readValue_66 (by decide) ?_
        refine zx_aload_n (k := 1) (nn := 72) dX4_readValue_71 rfl rfl rfl ?_
        refine zx_dupr (nn := 73) dX4_readValue_72 rfl ?_
        refine zx_getI (nn := 76) flX4_38 rfl rfl dX4_readValue_73 rfl ?_
        show zX shC σ 1 MX4_readValue 76 [(1, zi ((K nx) - 269)), (0, zr 7)] [zi (μ 7 7), zr 7] (zp (zp μ 16 cc ((-1) - ((K nx) - 269))) 12 6 (nI (cc + 1))) _
        rw [show μ 7 7 = nI nx from hS.2.2.2.1.1]
        show zX shC σ 1 MX4_readValue 76 [(1, zi ((K nx) - 269)), (0, zr 7)] [zi (nI nx), zr 7] (zp (zp μ 16 cc ((-1) - ((K nx) - 269))) 12 6 (nI (cc + 1))) _
        refine zx_iconst (v := 1) (nn := 77) rfl dX4_readValue_76 rfl ?_
        refine zx_iadd (nn := 78) dX4_readValue_77 rfl ?_
        rw [show (nI nx) + 1 = nI (nx + 1) from nI_1 _]
        show zX shC σ 1 MX4_readValue 78 [(1, zi ((K nx) - 269)), (0, zr 7)] [zi (nI (nx + 1)), zr 7] (zp (zp μ 16 cc ((-1) - ((K nx) - 269))) 12 6 (nI (cc + 1))) _
        refine zx_putI (nn := 81) fpX4_38 rfl rfl rfl rfl dX4_readValue_78 rfl ?_
        refine zx_iconst (v := 1) (nn := 82) rfl dX4_readValue_81 rfl ?_
        refine zx_zret rfl rfl dX4_readValue_82 ?_
        have hr : rVal K V nx = (true, nx + 1, [-1 - (K nx - 269)], [(1, K nx - 269)]) := by unfold rVal; rw [if_neg h25, if_pos ⟨Int32.not_lt.mp h48, Int32.not_le.mp h53⟩]
        rw [hr]
        refine ⟨rfl, rdE.cd.tr rdE.nx, by rw [zp_eq]; exact pk_us, fun _ => ⟨?_, ?_⟩⟩
        · obtain ⟨h1, h2, h3, h4, h5⟩ := hS
          exact ⟨fun k hk => by rw [zp_ne (by decide), zp_ne (by decide), zp_ne (by decide)]; exact h1 k hk, fun k hk => by rw [zp_ne (by decide), zp_ne (by decide), zp_ne (by decide)]; exact h2 k hk, h3, ⟨by rw [zp_eq]; exact pk_us, by have := h4.2; show nx + 1 ≤ c; omega⟩, by rw [zp_ne (by decide), zp_eq]; exact pk_us, by have := h5.2; show cc + 1 ≤ nx + 1; omega⟩
        · have := rdC.one (μ := μ) (cc := cc) (v := -1 - (K nx - 269)) (w := nI (cc + 1))
          exact ⟨fun j hj => by rw [zp_ne (by decide)]; exact this.1 j hj, fun j hj => by rw [zp_ne (by decide)]; exact this.2 j hj⟩
  · have hne : nx ≠ c := fun e => by rw [e, hS.2.2.1.1] at h25; exact absurd h25 (by decide)
    have hb := hS.2.2.2.1.2
    have hb2 := hS.2.2.2.2.2
    have hb3 := hS.2.2.1.2
    refine zx_aload_n (k := 1) (nn := 29) dX4_readValue_28 rfl rfl rfl ?_
    refine zx_getR (q := 12) (nn := 32) flX4_27 rfl rfl dX4_readValue_29 rfl ?_
    refine zx_aload_n (k := 1) (nn := 33) dX4_readValue_32 rfl rfl rfl ?_
    refine zx_getR (q := 10) (nn := 36) flX4_18 rfl rfl dX4_readValue_33 rfl ?_
    refine zx_aload_n (k := 1) (nn := 37) dX4_readValue_36 rfl rfl rfl ?_
    refine zx_getI (nn := 40) flX4_38 rfl rfl dX4_readValue_37 rfl ?_
    rw [show μ 7 7 = nI nx from hS.2.2.2.1.1]
    show zX shC σ 1 MX4_readValue 40 [(1, zi ((K nx) - 269)), (0, zr 7)] [zi (nI nx), zr 10, zr 12] μ _
    refine zx_iald_n (j := nx) (nn := 41) rfl (by omega) (by decide) dX4_readValue_40 rfl ?_
    rw [show μ 10 nx = V nx from hS.2.1 nx (by omega)]
    show zX shC σ 1 MX4_readValue 41 [(1, zi ((K nx) - 269)), (0, zr 7)] [zi (V nx), zr 12] μ _
    refine zx_callVf (nn := 44) (k := 12) (d' := 0) (as := [zi (V nx)]) (rest := []) (n := 1) (eX5_addCode_12 σ μ (V nx) cc hS.2.2.2.2.1 (by omega)) kX5_addCode mlX4_63 rfl rfl rfl (by decide) rfl rfl (Nat.le_of_ble_eq_true rfl) dX4_readValue_41 rfl ?_
    show zX shC σ 1 MX4_readValue 44 [(1, zi ((K nx) - 269)), (0, zr 7)] [] (zp (zp μ 16 cc (V nx)) 12 6 (nI (cc + 1))) _
    refine zx_goto (tgt := 71) dX4_readValue_44 (by decide) ?_
    refine zx_aload_n (k := 1) (nn := 72) dX4_readValue_71 rfl rfl rfl ?_
    refine zx_dupr (nn := 73) dX4_readValue_72 rfl ?_
    refine zx_getI (nn := 76) flX4_38 rfl rfl dX4_readValue_73 rfl ?_
    show zX shC σ 1 MX4_readValue 76 [(1, zi ((K nx) - 269)), (0, zr 7)] [zi (μ 7 7), zr 7] (zp (zp μ 16 cc (V nx)) 12 6 (nI (cc + 1))) _
    rw [show μ 7 7 = nI nx from hS.2.2.2.1.1]
    show zX shC σ 1 MX4_readValue 76 [(1, zi ((K nx) - 269)), (0, zr 7)] [zi (nI nx), zr 7] (zp (zp μ 16 cc (V nx)) 12 6 (nI (cc + 1))) _
    refine zx_iconst (v := 1) (nn := 77) rfl dX4_readValue_76 rfl ?_
    refine zx_iadd (nn := 78) dX4_readValue_77 rfl ?_
    rw [show (nI nx) + 1 = nI (nx + 1) from nI_1 _]
    show zX shC σ 1 MX4_readValue 78 [(1, zi ((K nx) - 269)), (0, zr 7)] [zi (nI (nx + 1)), zr 7] (zp (zp μ 16 cc (V nx)) 12 6 (nI (cc + 1))) _
    refine zx_putI (nn := 81) fpX4_38 rfl rfl rfl rfl dX4_readValue_78 rfl ?_
    refine zx_iconst (v := 1) (nn := 82) rfl dX4_readValue_81 rfl ?_
    refine zx_zret rfl rfl dX4_readValue_82 ?_
    have hr : rVal K V nx = (true, nx + 1, [V nx], [(0, V nx)]) := by unfold rVal; rw [if_pos h25]
    rw [hr]
    refine ⟨rfl, rdE.cd.tr rdE.nx, by rw [zp_eq]; exact pk_us, fun _ => ⟨?_, ?_⟩⟩
    · obtain ⟨h1, h2, h3, h4, h5⟩ := hS
      exact ⟨fun k hk => by rw [zp_ne (by decide), zp_ne (by decide), zp_ne (by decide)]; exact h1 k hk, fun k hk => by rw [zp_ne (by decide), zp_ne (by decide), zp_ne (by decide)]; exact h2 k hk, h3, ⟨by rw [zp_eq]; exact pk_us, by have := h4.2; show nx + 1 ≤ c; omega⟩, by rw [zp_ne (by decide), zp_eq]; exact pk_us, by have := h5.2; show cc + 1 ≤ nx + 1; omega⟩
    · have := rdC.one (μ := μ) (cc := cc) (v := V nx) (w := nI (cc + 1))
      exact ⟨fun j hj => by rw [zp_ne (by decide)]; exact this.1 j hj, fun j hj => by rw [zp_ne (by decide)]; exact this.2 j hj⟩
