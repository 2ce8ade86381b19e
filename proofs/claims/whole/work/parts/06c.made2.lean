section
variable {l : Launch} {D : va_G} {tA : List (ClassId × FieldType)} {A : Nat → Prop} {d : Nat} {M : zO} {mc ms : Nat} {Pw : va_W → Prop} {pc nn : Nat} {lv : List (Nat × Value)} {st : List Value} {ws : va_W} {n k : Nat}
theorem kx_ic {v : Int} {x : Int32} (hx : Int32.ofInt v = x) (hdg : decode M.2.1 pc = .ok (.iconst v, 1)) (hpc : nn = pc + 1) (kk : kX l D tA A d M mc ms Pw nn lv (.int x :: st) ws n k) : kX l D tA A d M mc ms Pw pc lv st ws n k := by
  subst hpc
  intro p e R s m args below meth c hC H locs ls hP hD hS hl
  exact lv_iconst hC.1 hC.2.1 hdg hx (kk p e R s m args below meth c hC H locs ls hP hD hS hl)
theorem kx_newl {x : Int32} {N : Nat} {cI : ClassId} (hI : (cI, FieldType.long) ∈ tA) (hw : Cond.arrayClass .long ∈ zw) (hn : ¬ x < 0) (hN : x.toNatClampNeg = N) (hN2 : N ≤ 100000) (hc : n + 1 ≤ mc) (hs : k + N ≤ ms) (hdg : decode M.2.1 pc = .ok (.newarray .long, 2)) (hpc : nn = pc + 2)
    (kk : ∀ q, kX l D tA A d M mc ms Pw nn lv (.ref q :: st) (ws ++ [(q, .inl (cI, N, .inr (.inl (fun _ => 0))))]) (n + 1) (k + N)) : kX l D tA A d M mc ms Pw pc lv (.int x :: st) ws n k := by
  subst hpc
  intro p e R s m args below meth c hC H locs ls hP hD hS hl
  obtain ⟨hx, hb, hml, hr, hlk, hown, hts, hroom, hin, hK, hA, hN0⟩ := id hC
  refine va_newa (atype := .long) (ty := .long) (a0 := (N, .inr (.inl (fun _ => 0)))) hx hb (hts (.arrayClass .long) hw) rfl hK hP hD hS hA (fun cA => rfl) hn hN (by show N * 8 ≤ _; omega) (by omega) (by omega) hdg (fun q cA H1 hK1 hP1 hD1 hS1 => ?_)
  obtain ⟨i, hi⟩ := List.getElem?_of_mem hI
  have e1 : s.vm.findClass ("[" ++ FieldType.long.toString) = some cI := (hK.2 i _ hi).2
  have e2 : s.vm.findClass ("[" ++ FieldType.long.toString) = some cA := (hK1.2 tA.length (cA, .long) (by simp)).2
  rw [e1] at e2
  cases e2
  exact kk q p e R s m args below meth c hC H1 locs ls hP1 hD1 hS1 hl
end
