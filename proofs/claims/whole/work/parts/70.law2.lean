abbrev lvL (σ τ : zG) (b i : Nat) : List (Nat × Value) := [(0, .ref b), (1, .ref (zad σ 0)), (2, .ref (zad τ 0)), (3, .int (nI i))]
theorem lx_cat (ad : Nat → Nat) (r : Option zV) : (((r.map (zval ad)).toList ++ ([] : List Value)).map (fun (v : Value) => v.category)).sum ≤ 8 := by
  cases r with
  | none => exact Nat.zero_le _
  | some v =>
    rcases v with v | v | v
    · exact Nat.le_of_ble_eq_true rfl
    · exact Nat.le_of_ble_eq_true rfl
    · exact Nat.le_of_ble_eq_true rfl
section
variable {p : Program} {e : Env} {s : State} {m : MethodId} {below : List Frame} {meth : Method} {c : Code} {b L : Nat} {xs : Nat → Int32} {σ τ : zG} {μ ν : zM} {i : Nat}
theorem lx_al1 {pc nn : Nat} {st : List Value} (C : lC p s m meth c b L xs σ τ) (hdg : decode code pc = .ok (.aload_n 1, 1)) (hpc : nn = pc + 1) (kk : lX p e s m below meth c b σ τ nn (lvL σ τ b i) (Value.ref (zad σ 0) :: st) μ ν) : lX p e s m below meth c b σ τ pc (lvL σ τ b i) st μ ν := by
  subst hpc
  intro H locs ls hPc hPr hS hl
  exact lv_aload_n C.1.1 C.1.2.1 hdg rfl (lv_at hl 1 rfl) (kk H locs ls hPc hPr hS hl)
theorem lx_al2 {pc nn : Nat} {st : List Value} (C : lC p s m meth c b L xs σ τ) (hdg : decode code pc = .ok (.aload_n 2, 1)) (hpc : nn = pc + 1) (kk : lX p e s m below meth c b σ τ nn (lvL σ τ b i) (Value.ref (zad τ 0) :: st) μ ν) : lX p e s m below meth c b σ τ pc (lvL σ τ b i) st μ ν := by
  subst hpc
  intro H locs ls hPc hPr hS hl
  exact lv_aload_n C.1.1 C.1.2.1 hdg rfl (lv_at hl 2 rfl) (kk H locs ls hPc hPr hS hl)
theorem lx_arg {pc nn k : Nat} {st : List Value} (C : lC p s m meth c b L xs σ τ) (hi : i + 5 ≤ L) (hk : k < 5) (d0 : decode code pc = .ok (.aload_n 0, 1)) (d1 : decode code (pc + 1) = .ok (.iload_n 3, 1)) (d2 : decode code (pc + 2) = .ok (.iconst (k : Int), 1)) (d3 : decode code (pc + 3) = .ok (.iadd, 1)) (d4 : decode code (pc + 4) = .ok (.iaload, 1)) (hpc : nn = pc + 5)
    (kk : lX p e s m below meth c b σ τ nn (lvL σ τ b i) (Value.int (xs (i + k)) :: st) μ ν) : lX p e s m below meth c b σ τ pc (lvL σ τ b i) st μ ν := by
  subst hpc
  intro H locs ls hPc hPr hS hl
  have hL := C.2.1
  refine lv_aload_n C.1.1 C.1.2.1 d0 rfl (lv_at hl 0 rfl) ?_
  refine lv_iload_n C.1.1 C.1.2.1 d1 rfl (lv_at hl 3 rfl) ?_
  refine lv_iconst (v := nI k) C.1.1 C.1.2.1 d2 (by rcases (show k = 0 ∨ k = 1 ∨ k = 2 ∨ k = 3 ∨ k = 4 by omega) with rfl | rfl | rfl | rfl | rfl <;> decide) ?_
  refine lv_iadd C.1.1 C.1.2.1 d3 ?_
  rw [nI_add]
  refine va_sld C.1.1 C.1.2.1 C.1.2.2.2.2.2.2.1 C.1.2.2.2.2.2.2.2.1 (Nat.not_le.mpr C.1.2.2.2.2.2.2.2.1) hS (vp_in_nI (by omega) (by omega)) d4 ?_
  rw [nI_clamp (by omega)]
  exact kk H locs ls hPc hPr hS hl
theorem lx_eq {pc : Nat} {off : Int} {v : Int32} (C : lC p s m meth c b L xs σ τ) (hdg : decode code pc = .ok (.if_icmp .eq off, 3)) (ht : (pc : Int) + off = (1631 : Nat)) (kk : lX p e s m below meth c b σ τ 1631 (lvL σ τ b i) [] μ ν) : lX p e s m below meth c b σ τ pc (lvL σ τ b i) [Value.int v, Value.int v] μ ν := by
  intro H locs ls hPc hPr hS hl
  exact lv_icmp_eq (tgt := 1631) C.1.1 C.1.2.1 hdg ht (fun _ => kk H locs ls hPc hPr hS hl) (fun q => absurd rfl q)
theorem law_0 (C : lC p s m meth c b L xs σ τ) (w : wW μ ν) (hi : i + 5 ≤ L) (kk : ∀ μ' ν', wW μ' ν' → lX p e s m below meth c b σ τ 1631 (lvL σ τ b i) [] μ' ν') : lX p e s m below meth c b σ τ 244 (lvL σ τ b i) [] μ ν := by
  obtain ⟨P, Q, h1, h2, h3⟩ := w_lamp (xs (i + 1)) (xs (i + 2)) (xs (i + 3)) (xs (i + 4)) σ τ μ ν w
  refine lx_al1 C dL_law_244 rfl ?_
  refine lx_arg (k := 1) C hi (by decide) dL_law_245 dL_law_246 dL_law_247 dL_law_248 dL_law_249 rfl ?_
  refine lx_arg (k := 2) C hi (by decide) dL_law_250 dL_law_251 dL_law_252 dL_law_253 dL_law_254 rfl ?_
  refine lx_arg (k := 3) C hi (by decide) dL_law_255 dL_law_256 dL_law_257 dL_law_258 dL_law_259 rfl ?_
  refine lx_arg (k := 4) C hi (by decide) dL_law_260 dL_law_261 dL_law_262 dL_law_263 dL_law_264 rfl ?_
  refine lx_callC C h1 kX10_lamp mlL_13 rfl rfl rfl (by decide) rfl rfl (by decide) dL_law_265 rfl (fun r μ' hr => ?_)
  refine lx_al2 C dL_law_268 rfl ?_
  refine lx_arg (k := 1) C hi (by decide) dL_law_269 dL_law_270 dL_law_271 dL_law_272 dL_law_273 rfl ?_
  refine lx_arg (k := 2) C hi (by decide) dL_law_274 dL_law_275 dL_law_276 dL_law_277 dL_law_278 rfl ?_
  refine lx_arg (k := 3) C hi (by decide) dL_law_279 dL_law_280 dL_law_281 dL_law_282 dL_law_283 rfl ?_
  refine lx_arg (k := 4) C hi (by decide) dL_law_284 dL_law_285 dL_law_286 dL_law_287 dL_law_288 rfl ?_
  refine lx_callM C h2 kX11_lamp mlL_17 rfl rfl rfl (by decide) rfl rfl (lx_cat _ _) dL_law_289 rfl (fun t ν' ht => ?_)
  obtain ⟨v, rfl, rfl, w'⟩ := h3 _ _ _ _ hr ht
  exact lx_eq C dL_law_292 rfl (kk _ _ w')
theorem law_1 (C : lC p s m meth c b L xs σ τ) (w : wW μ ν) (hi : i + 5 ≤ L) (kk : ∀ μ' ν', wW μ' ν' → lX p e s m below meth c b σ τ 1631 (lvL σ τ b i) [] μ' ν') : lX p e s m below meth c b σ τ 297 (lvL σ τ b i) [] μ ν := by
  obtain ⟨P, Q, h1, h2, h3⟩ := w_lampOf (xs (i + 1)) (xs (i + 2)) σ τ μ ν w
  refine lx_al1 C dL_law_297 rfl ?_
  refine lx_arg (k := 1) C hi (by decide) dL_law_298 dL_law_299 dL_law_300 dL_law_301 dL_law_302 rfl ?_
  refine lx_arg (k := 2) C hi (by decide) dL_law_303 dL_law_304 dL_law_305 dL_law_306 dL_law_307 rfl ?_
  refine lx_callC C h1 kX10_lampOf mlL_18 rfl rfl rfl (by decide) rfl rfl (by decide) dL_law_308 rfl (fun r μ' hr => ?_)
  refine lx_al2 C dL_law_311 rfl ?_
  refine lx_arg (k := 1) C hi (by decide) dL_law_312 dL_law_313 dL_law_314 dL_law_315 dL_law_316 rfl ?_
  refine lx_arg (k := 2) C hi (by decide) dL_law_317 dL_law_318 dL_law_319 dL_law_320 dL_law_321 rfl ?_
  refine lx_callM C h2 kX11_lampOf mlL_22 rfl rfl rfl (by decide) rfl rfl (lx_cat _ _) dL_law_322 rfl (fun t ν' ht => ?_)
  obtain ⟨v, rfl, rfl, w'⟩ := h3 _ _ _ _ hr ht
  exact lx_eq C dL_law_325 rfl (kk _ _ w')
theorem law_2 (C : lC p s m meth c b L xs σ τ) (w : wW μ ν) (hi : i + 5 ≤ L) (kk : ∀ μ' ν', wW μ' ν' → lX p e s m below meth c b σ τ 1631 (lvL σ τ b i) [] μ' ν') : lX p e s m below meth c b σ τ 330 (lvL σ τ b i) [] μ ν := by
  obtain ⟨P, Q, h1, h2, h3⟩ := w_change (xs (i + 1)) (xs (i + 2)) (xs (i + 3)) σ τ μ ν w
  refine lx_al1 C dL_law_330 rfl ?_
  refine lx_arg (k := 1) C hi (by decide) dL_law_331 dL_law_332 dL_law_333 dL_law_334 dL_law_335 rfl ?_
  refine lx_arg (k := 2) C hi (by decide) dL_law_336 dL_law_337 dL_law_338 dL_law_339 dL_law_340 rfl ?_
  refine lx_arg (k := 3) C hi (by decide) dL_law_341 dL_law_342 dL_law_343 dL_law_344 dL_law_345 rfl ?_
  refine lx_callC C h1 kX10_change mlL_23 rfl rfl rfl (by decide) rfl rfl (by decide) dL_law_346 rfl (fun r μ' hr => ?_)
  refine lx_al2 C dL_law_349 rfl ?_
  refine lx_arg (k := 1) C hi (by decide) dL_law_350 dL_law_351 dL_law_352 dL_law_353 dL_law_354 rfl ?_
  refine lx_arg (k := 2) C hi (by decide) dL_law_355 dL_law_356 dL_law_357 dL_law_358 dL_law_359 rfl ?_
  refine lx_arg (k := 3) C hi (by decide) dL_law_360 dL_law_361 dL_law_362 dL_law_363 dL_law_364 rfl ?_
  refine lx_callM C h2 kX11_change mlL_27 rfl rfl rfl (by decide) rfl rfl (lx_cat _ _) dL_law_365 rfl (fun t ν' ht => ?_)
  obtain ⟨v, rfl, rfl, w'⟩ := h3 _ _ _ _ hr ht
  exact lx_eq C dL_law_368 rfl (kk _ _ w')
theorem law_3 (C : lC p s m meth c b L xs σ τ) (w : wW μ ν) (hi : i + 5 ≤ L) (kk : ∀ μ' ν', wW μ' ν' → lX p e s m below meth c b σ τ 1631 (lvL σ τ b i) [] μ' ν') : lX p e s m below meth c b σ τ 373 (lvL σ τ b i) [] μ ν := by
  obtain ⟨P, Q, h1, h2, h3⟩ := w_remake (xs (i + 1)) (xs (i + 2)) σ τ μ ν w
  refine lx_al1 C dL_law_373 rfl ?_
  refine lx_arg (k := 1) C hi (by decide) dL_law_374 dL_law_375 dL_law_376 dL_law_377 dL_law_378 rfl ?_
  refine lx_arg (k := 2) C hi (by decide) dL_law_379 dL_law_380 dL_law_381 dL_law_382 dL_law_383 rfl ?_
  refine lx_callC C h1 kX10_remake mlL_28 rfl rfl rfl (by decide) rfl rfl (by decide) dL_law_384 rfl (fun r μ' hr => ?_)
  refine lx_al2 C dL_law_387 rfl ?_
  refine lx_arg (k := 1) C hi (by decide) dL_law_388 dL_law_389 dL_law_390 dL_law_391 dL_law_392 rfl ?_
  refine lx_arg (k := 2) C hi (by decide) dL_law_393 dL_law_394 dL_law_395 dL_law_396 dL_law_397 rfl ?_
  refine lx_callM C h2 kX11_remake mlL_31 rfl rfl rfl (by decide) rfl rfl (lx_cat _ _) dL_law_398 rfl (fun t ν' ht => ?_)
  obtain ⟨v, rfl, rfl, w'⟩ := h3 _ _ _ _ hr ht
  exact lx_eq C dL_law_401 rfl (kk _ _ w')
theorem law_4 (C : lC p s m meth c b L xs σ τ) (w : wW μ ν) (hi : i + 5 ≤ L) (kk : ∀ μ' ν', wW μ' ν' → lX p e s m below meth c b σ τ 1631 (lvL σ τ b i) [] μ' ν') : lX p e s m below meth c b σ τ 406 (lvL σ τ b i) [] μ ν := by
  obtain ⟨P, Q, h1, h2, h3⟩ := w_dance (xs (i + 1)) σ τ μ ν w
  refine lx_al1 C dL_law_406 rfl ?_
  refine lx_arg (k := 1) C hi (by decide) dL_law_407 dL_law_408 dL_law_409 dL_law_410 dL_law_411 rfl ?_
  refine lx_callC C h1 kX10_dance mlL_32 rfl rfl rfl (by decide) rfl rfl (by decide) dL_law_412 rfl (fun r μ' hr => ?_)
  refine lx_al2 C dL_law_415 rfl ?_
  refine lx_arg (k := 1) C hi (by decide) dL_law_416 dL_law_417 dL_law_418 dL_law_419 dL_law_420 rfl ?_
  refine lx_callM C h2 kX11_dance mlL_36 rfl rfl rfl (by decide) rfl rfl (lx_cat _ _) dL_law_421 rfl (fun t ν' ht => ?_)
  obtain ⟨v, rfl, rfl, w'⟩ := h3 _ _ _ _ hr ht
  exact lx_eq C dL_law_424 rfl (kk _ _ w')
theorem law_5 (C : lC p s m meth c b L xs σ τ) (w : wW μ ν) (hi : i + 5 ≤ L) (kk : ∀ μ' ν', wW μ' ν' → lX p e s m below meth c b σ τ 1631 (lvL σ τ b i) [] μ' ν') : lX p e s m below meth c b σ τ 429 (lvL σ τ b i) [] μ ν := by
  obtain ⟨P, Q, h1, h2, h3⟩ := w_danceOf (xs (i + 1)) σ τ μ ν w
  refine lx_al1 C dL_law_429 rfl ?_
  refine lx_arg (k := 1) C hi (by decide) dL_law_430 dL_law_431 dL_law_432 dL_law_433 dL_law_434 rfl ?_
  refine lx_callC C h1 kX10_danceOf mlL_37 rfl rfl rfl (by decide) rfl rfl (by decide) dL_law_435 rfl (fun r μ' hr => ?_)
  refine lx_al2 C dL_law_438 rfl ?_
  refine lx_arg (k := 1) C hi (by decide) dL_law_439 dL_law_440 dL_law_441 dL_law_442 dL_law_443 rfl ?_
  refine lx_callM C h2 kX11_danceOf mlL_40 rfl rfl rfl (by decide) rfl rfl (lx_cat _ _) dL_law_444 rfl (fun t ν' ht => ?_)
  obtain ⟨v, rfl, rfl, w'⟩ := h3 _ _ _ _ hr ht
  exact lx_eq C dL_law_447 rfl (kk _ _ w')
theorem law_6 (C : lC p s m meth c b L xs σ τ) (w : wW μ ν) (hi : i + 5 ≤ L) (kk : ∀ μ' ν', wW μ' ν' → lX p e s m below meth c b σ τ 1631 (lvL σ τ b i) [] μ' ν') : lX p e s m below meth c b σ τ 452 (lvL σ τ b i) [] μ ν := by
  obtain ⟨P, Q, h1, h2, h3⟩ := w_steps (xs (i + 1)) (xs (i + 2)) σ τ μ ν w
  refine lx_al1 C dL_law_452 rfl ?_
  refine lx_arg (k := 1) C hi (by decide) dL_law_453 dL_law_454 dL_law_455 dL_law_456 dL_law_457 rfl ?_
  refine lx_arg (k := 2) C hi (by decide) dL_law_458 dL_law_459 dL_law_460 dL_law_461 dL_law_462 rfl ?_
  refine lx_callC C h1 kX10_steps mlL_41 rfl rfl rfl (by decide) rfl rfl (by decide) dL_law_463 rfl (fun r μ' hr => ?_)
  refine lx_al2 C dL_law_466 rfl ?_
  refine lx_arg (k := 1) C hi (by decide) dL_law_467 dL_law_468 dL_law_469 dL_law_470 dL_law_471 rfl ?_
  refine lx_arg (k := 2) C hi (by decide) dL_law_472 dL_law_473 dL_law_474 dL_law_475 dL_law_476 rfl ?_
  refine lx_callM C h2 kX11_steps mlL_44 rfl rfl rfl (by decide) rfl rfl (lx_cat _ _) dL_law_477 rfl (fun t ν' ht => ?_)
  obtain ⟨v, rfl, rfl, w'⟩ := h3 _ _ _ _ hr ht
  exact lx_eq C dL_law_480 rfl (kk _ _ w')
theorem law_7 (C : lC p s m meth c b L xs σ τ) (w : wW μ ν) (hi : i + 5 ≤ L) (kk : ∀ μ' ν', wW μ' ν' → lX p e s m below meth c b σ τ 1631 (lvL σ τ b i) [] μ' ν') : lX p e s m below meth c b σ τ 485 (lvL σ τ b i) [] μ ν := by
  obtain ⟨P, Q, h1, h2, h3⟩ := w_anew  σ τ μ ν w
  refine lx_al1 C dL_law_485 rfl ?_
  refine lx_callC C h1 kX10_anew mlL_45 rfl rfl rfl (by decide) rfl rfl (by decide) dL_law_486 rfl (fun r μ' hr => ?_)
  refine lx_al2 C dL_law_489 rfl ?_
  refine lx_callM C h2 kX11_anew mlL_49 rfl rfl rfl (by decide) rfl rfl (lx_cat _ _) dL_law_490 rfl (fun t ν' ht => ?_)
  obtain ⟨v, rfl, rfl, w'⟩ := h3 _ _ _ _ hr ht
  exact lx_eq C dL_law_493 rfl (kk _ _ w')
theorem law_8 (C : lC p s m meth c b L xs σ τ) (w : wW μ ν) (hi : i + 5 ≤ L) (kk : ∀ μ' ν', wW μ' ν' → lX p e s m below meth c b σ τ 1631 (lvL σ τ b i) [] μ' ν') : lX p e s m below meth c b σ τ 498 (lvL σ τ b i) [] μ ν := by
  obtain ⟨P, Q, h1, h2, h3⟩ := w_state (xs (i + 1)) σ τ μ ν w
  refine lx_al1 C dL_law_498 rfl ?_
  refine lx_arg (k := 1) C hi (by decide) dL_law_499 dL_law_500 dL_law_501 dL_law_502 dL_law_503 rfl ?_
  refine lx_callC C h1 kX10_state mlL_50 rfl rfl rfl (by decide) rfl rfl (by decide) dL_law_504 rfl (fun r μ' hr => ?_)
  refine lx_al2 C dL_law_507 rfl ?_
  refine lx_arg (k := 1) C hi (by decide) dL_law_508 dL_law_509 dL_law_510 dL_law_511 dL_law_512 rfl ?_
  refine lx_callM C h2 kX11_state mlL_53 rfl rfl rfl (by decide) rfl rfl (lx_cat _ _) dL_law_513 rfl (fun t ν' ht => ?_)
  obtain ⟨v, rfl, rfl, w'⟩ := h3 _ _ _ _ hr ht
  exact lx_eq C dL_law_516 rfl (kk _ _ w')
theorem law_10 (C : lC p s m meth c b L xs σ τ) (w : wW μ ν) (hi : i + 5 ≤ L) (kk : ∀ μ' ν', wW μ' ν' → lX p e s m below meth c b σ τ 1631 (lvL σ τ b i) [] μ' ν') : lX p e s m below meth c b σ τ 584 (lvL σ τ b i) [] μ ν := by
  obtain ⟨P, Q, h1, h2, h3⟩ := w_rules  σ τ μ ν w
  refine lx_al1 C dL_law_584 rfl ?_
  refine lx_callC C h1 kX10_rules mlL_61 rfl rfl rfl (by decide) rfl rfl (by decide) dL_law_585 rfl (fun r μ' hr => ?_)
  refine lx_al2 C dL_law_588 rfl ?_
  refine lx_callM C h2 kX11_rules mlL_64 rfl rfl rfl (by decide) rfl rfl (lx_cat _ _) dL_law_589 rfl (fun t ν' ht => ?_)
  obtain ⟨v, rfl, rfl, w'⟩ := h3 _ _ _ _ hr ht
  exact lx_eq C dL_law_592 rfl (kk _ _ w')
theorem law_11 (C : lC p s m meth c b L xs σ τ) (w : wW μ ν) (hi : i + 5 ≤ L) (kk : ∀ μ' ν', wW μ' ν' → lX p e s m below meth c b σ τ 1631 (lvL σ τ b i) [] μ' ν') : lX p e s m below meth c b σ τ 597 (lvL σ τ b i) [] μ ν := by
  obtain ⟨P, Q, h1, h2, h3⟩ := w_beat  σ τ μ ν w
  refine lx_al1 C dL_law_597 rfl ?_
  refine lx_callC C h1 kX10_beat mlL_65 rfl rfl rfl (by decide) rfl rfl (by decide) dL_law_598 rfl (fun r μ' hr => ?_)
  refine lx_al2 C dL_law_601 rfl ?_
  refine lx_callM C h2 kX11_beat mlL_68 rfl rfl rfl (by decide) rfl rfl (lx_cat _ _) dL_law_602 rfl (fun t ν' ht => ?_)
  obtain ⟨v, rfl, rfl, w'⟩ := h3 _ _ _ _ hr ht
  exact lx_eq C dL_law_605 rfl (kk _ _ w')
theorem law_12 (C : lC p s m meth c b L xs σ τ) (w : wW μ ν) (hi : i + 5 ≤ L) (kk : ∀ μ' ν', wW μ' ν' → lX p e s m below meth c b σ τ 1631 (lvL σ τ b i) [] μ' ν') : lX p e s m below meth c b σ τ 610 (lvL σ τ b i) [] μ ν := by
  obtain ⟨P, Q, h1, h2, h3⟩ := w_in (xs (i + 1)) σ τ μ ν w
  refine lx_al1 C dL_law_610 rfl ?_
  refine lx_arg (k := 1) C hi (by decide) dL_law_611 dL_law_612 dL_law_613 dL_law_614 dL_law_615 rfl ?_
  refine lx_callC C h1 kX10_in mlL_69 rfl rfl rfl (by decide) rfl rfl (by decide) dL_law_616 rfl (fun r μ' hr => ?_)
  refine lx_al2 C dL_law_619 rfl ?_
  refine lx_arg (k := 1) C hi (by decide) dL_law_620 dL_law_621 dL_law_622 dL_law_623 dL_law_624 rfl ?_
  refine lx_callM C h2 kX11_in mlL_72 rfl rfl rfl (by decide) rfl rfl (lx_cat _ _) dL_law_625 rfl (fun t ν' ht => ?_)
  obtain ⟨v, rfl, rfl, w'⟩ := h3 _ _ _ _ hr ht
  exact lx_eq C dL_law_628 rfl (kk _ _ w')
theorem law_13 (C : lC p s m meth c b L xs σ τ) (w : wW μ ν) (hi : i + 5 ≤ L) (kk : ∀ μ' ν', wW μ' ν' → lX p e s m below meth c b σ τ 1631 (lvL σ τ b i) [] μ' ν') : lX p e s m below meth c b σ τ 633 (lvL σ τ b i) [] μ ν := by
  obtain ⟨P, Q, h1, h2, h3⟩ := w_shows (xs (i + 1)) σ τ μ ν w
  refine lx_al1 C dL_law_633 rfl ?_
  refine lx_arg (k := 1) C hi (by decide) dL_law_634 dL_law_635 dL_law_636 dL_law_637 dL_law_638 rfl ?_
  refine lx_callC C h1 kX10_shows mlL_73 rfl rfl rfl (by decide) rfl rfl (by decide) dL_law_639 rfl (fun r μ' hr => ?_)
  refine lx_al2 C dL_law_642 rfl ?_
  refine lx_arg (k := 1) C hi (by decide) dL_law_643 dL_law_644 dL_law_645 dL_law_646 dL_law_647 rfl ?_
  refine lx_callM C h2 kX11_shows mlL_76 rfl rfl rfl (by decide) rfl rfl (lx_cat _ _) dL_law_648 rfl (fun t ν' ht => ?_)
  obtain ⟨v, rfl, rfl, w'⟩ := h3 _ _ _ _ hr ht
  exact lx_eq C dL_law_651 rfl (kk _ _ w')
theorem law_14 (C : lC p s m meth c b L xs σ τ) (w : wW μ ν) (hi : i + 5 ≤ L) (kk : ∀ μ' ν', wW μ' ν' → lX p e s m below meth c b σ τ 1631 (lvL σ τ b i) [] μ' ν') : lX p e s m below meth c b σ τ 656 (lvL σ τ b i) [] μ ν := by
  obtain ⟨P, Q, h1, h2, h3⟩ := w_on (xs (i + 1)) σ τ μ ν w
  refine lx_al1 C dL_law_656 rfl ?_
  refine lx_arg (k := 1) C hi (by decide) dL_law_657 dL_law_658 dL_law_659 dL_law_660 dL_law_661 rfl ?_
  refine lx_callC C h1 kX10_on mlL_77 rfl rfl rfl (by decide) rfl rfl (by decide) dL_law_662 rfl (fun r μ' hr => ?_)
  refine lx_al2 C dL_law_665 rfl ?_
  refine lx_arg (k := 1) C hi (by decide) dL_law_666 dL_law_667 dL_law_668 dL_law_669 dL_law_670 rfl ?_
  refine lx_callM C h2 kX11_on mlL_80 rfl rfl rfl (by decide) rfl rfl (lx_cat _ _) dL_law_671 rfl (fun t ν' ht => ?_)
  obtain ⟨v, rfl, rfl, w'⟩ := h3 _ _ _ _ hr ht
  exact lx_eq C dL_law_674 rfl (kk _ _ w')
theorem law_15 (C : lC p s m meth c b L xs σ τ) (w : wW μ ν) (hi : i + 5 ≤ L) (kk : ∀ μ' ν', wW μ' ν' → lX p e s m below meth c b σ τ 1631 (lvL σ τ b i) [] μ' ν') : lX p e s m below meth c b σ τ 679 (lvL σ τ b i) [] μ ν := by
  obtain ⟨P, Q, h1, h2, h3⟩ := w_lost (xs (i + 1)) σ τ μ ν w
  refine lx_al1 C dL_law_679 rfl ?_
  refine lx_arg (k := 1) C hi (by decide) dL_law_680 dL_law_681 dL_law_682 dL_law_683 dL_law_684 rfl ?_
  refine lx_callC C h1 kX10_lost mlL_81 rfl rfl rfl (by decide) rfl rfl (by decide) dL_law_685 rfl (fun r μ' hr => ?_)
  refine lx_al2 C dL_law_688 rfl ?_
  refine lx_arg (k := 1) C hi (by decide) dL_law_689 dL_law_690 dL_law_691 dL_law_692 dL_law_693 rfl ?_
  refine lx_callM C h2 kX11_lost mlL_84 rfl rfl rfl (by decide) rfl rfl (lx_cat _ _) dL_law_694 rfl (fun t ν' ht => ?_)
  obtain ⟨v, rfl, rfl, w'⟩ := h3 _ _ _ _ hr ht
  exact lx_eq C dL_law_697 rfl (kk _ _ w')
theorem law_16 (C : lC p s m meth c b L xs σ τ) (w : wW μ ν) (hi : i + 5 ≤ L) (kk : ∀ μ' ν', wW μ' ν' → lX p e s m below meth c b σ τ 1631 (lvL σ τ b i) [] μ' ν') : lX p e s m below meth c b σ τ 702 (lvL σ τ b i) [] μ ν := by
  obtain ⟨P, Q, h1, h2, h3⟩ := w_crosses (xs (i + 1)) (xs (i + 2)) σ τ μ ν w
  refine lx_al1 C dL_law_702 rfl ?_
  refine lx_arg (k := 1) C hi (by decide) dL_law_703 dL_law_704 dL_law_705 dL_law_706 dL_law_707 rfl ?_
  refine lx_arg (k := 2) C hi (by decide) dL_law_708 dL_law_709 dL_law_710 dL_law_711 dL_law_712 rfl ?_
  refine lx_callC C h1 kX10_crosses mlL_85 rfl rfl rfl (by decide) rfl rfl (by decide) dL_law_713 rfl (fun r μ' hr => ?_)
  refine lx_al2 C dL_law_716 rfl ?_
  refine lx_arg (k := 1) C hi (by decide) dL_law_717 dL_law_718 dL_law_719 dL_law_720 dL_law_721 rfl ?_
  refine lx_arg (k := 2) C hi (by decide) dL_law_722 dL_law_723 dL_law_724 dL_law_725 dL_law_726 rfl ?_
  refine lx_callM C h2 kX11_crosses mlL_88 rfl rfl rfl (by decide) rfl rfl (lx_cat _ _) dL_law_727 rfl (fun t ν' ht => ?_)
  obtain ⟨v, rfl, rfl, w'⟩ := h3 _ _ _ _ hr ht
  exact lx_eq C dL_law_730 rfl (kk _ _ w')
theorem law_17 (C : lC p s m meth c b L xs σ τ) (w : wW μ ν) (hi : i + 5 ≤ L) (kk : ∀ μ' ν', wW μ' ν' → lX p e s m below meth c b σ τ 1631 (lvL σ τ b i) [] μ' ν') : lX p e s m below meth c b σ τ 735 (lvL σ τ b i) [] μ ν := by
  obtain ⟨P, Q, h1, h2, h3⟩ := w_sized (xs (i + 1)) σ τ μ ν w
  refine lx_al1 C dL_law_735 rfl ?_
  refine lx_arg (k := 1) C hi (by decide) dL_law_736 dL_law_737 dL_law_738 dL_law_739 dL_law_740 rfl ?_
  refine lx_callC C h1 kX10_sized mlL_89 rfl rfl rfl (by decide) rfl rfl (by decide) dL_law_741 rfl (fun r μ' hr => ?_)
  refine lx_al2 C dL_law_744 rfl ?_
  refine lx_arg (k := 1) C hi (by decide) dL_law_745 dL_law_746 dL_law_747 dL_law_748 dL_law_749 rfl ?_
  refine lx_callM C h2 kX11_sized mlL_92 rfl rfl rfl (by decide) rfl rfl (lx_cat _ _) dL_law_750 rfl (fun t ν' ht => ?_)
  obtain ⟨v, rfl, rfl, w'⟩ := h3 _ _ _ _ hr ht
  exact lx_eq C dL_law_753 rfl (kk _ _ w')
theorem law_18 (C : lC p s m meth c b L xs σ τ) (w : wW μ ν) (hi : i + 5 ≤ L) (kk : ∀ μ' ν', wW μ' ν' → lX p e s m below meth c b σ τ 1631 (lvL σ τ b i) [] μ' ν') : lX p e s m below meth c b σ τ 758 (lvL σ τ b i) [] μ ν := by
  obtain ⟨P, Q, h1, h2, h3⟩ := w_aimed (xs (i + 1)) σ τ μ ν w
  refine lx_al1 C dL_law_758 rfl ?_
  refine lx_arg (k := 1) C hi (by decide) dL_law_759 dL_law_760 dL_law_761 dL_law_762 dL_law_763 rfl ?_
  refine lx_callC C h1 kX10_aimed mlL_93 rfl rfl rfl (by decide) rfl rfl (by decide) dL_law_764 rfl (fun r μ' hr => ?_)
  refine lx_al2 C dL_law_767 rfl ?_
  refine lx_arg (k := 1) C hi (by decide) dL_law_768 dL_law_769 dL_law_770 dL_law_771 dL_law_772 rfl ?_
  refine lx_callM C h2 kX11_aimed mlL_96 rfl rfl rfl (by decide) rfl rfl (lx_cat _ _) dL_law_773 rfl (fun t ν' ht => ?_)
  obtain ⟨v, rfl, rfl, w'⟩ := h3 _ _ _ _ hr ht
  exact lx_eq C dL_law_776 rfl (kk _ _ w')
theorem law_19 (C : lC p s m meth c b L xs σ τ) (w : wW μ ν) (hi : i + 5 ≤ L) (kk : ∀ μ' ν', wW μ' ν' → lX p e s m below meth c b σ τ 1631 (lvL σ τ b i) [] μ' ν') : lX p e s m below meth c b σ τ 781 (lvL σ τ b i) [] μ ν := by
  obtain ⟨P, Q, h1, h2, h3⟩ := w_stepFor (xs (i + 1)) σ τ μ ν w
  refine lx_al1 C dL_law_781 rfl ?_
  refine lx_arg (k := 1) C hi (by decide) dL_law_782 dL_law_783 dL_law_784 dL_law_785 dL_law_786 rfl ?_
  refine lx_callC C h1 kX10_stepFor mlL_97 rfl rfl rfl (by decide) rfl rfl (by decide) dL_law_787 rfl (fun r μ' hr => ?_)
  refine lx_al2 C dL_law_790 rfl ?_
  refine lx_arg (k := 1) C hi (by decide) dL_law_791 dL_law_792 dL_law_793 dL_law_794 dL_law_795 rfl ?_
  refine lx_callM C h2 kX11_stepFor mlL_100 rfl rfl rfl (by decide) rfl rfl (lx_cat _ _) dL_law_796 rfl (fun t ν' ht => ?_)
  obtain ⟨v, rfl, rfl, w'⟩ := h3 _ _ _ _ hr ht
  exact lx_eq C dL_law_799 rfl (kk _ _ w')
theorem law_20 (C : lC p s m meth c b L xs σ τ) (w : wW μ ν) (hi : i + 5 ≤ L) (kk : ∀ μ' ν', wW μ' ν' → lX p e s m below meth c b σ τ 1631 (lvL σ τ b i) [] μ' ν') : lX p e s m below meth c b σ τ 804 (lvL σ τ b i) [] μ ν := by
  obtain ⟨P, Q, h1, h2, h3⟩ := w_who  σ τ μ ν w
  refine lx_al1 C dL_law_804 rfl ?_
  refine lx_callC C h1 kX10_who mlL_101 rfl rfl rfl (by decide) rfl rfl (by decide) dL_law_805 rfl (fun r μ' hr => ?_)
  refine lx_al2 C dL_law_808 rfl ?_
  refine lx_callM C h2 kX11_who mlL_104 rfl rfl rfl (by decide) rfl rfl (lx_cat _ _) dL_law_809 rfl (fun t ν' ht => ?_)
  obtain ⟨v, rfl, rfl, w'⟩ := h3 _ _ _ _ hr ht
  exact lx_eq C dL_law_812 rfl (kk _ _ w')
theorem law_21 (C : lC p s m meth c b L xs σ τ) (w : wW μ ν) (hi : i + 5 ≤ L) (kk : ∀ μ' ν', wW μ' ν' → lX p e s m below meth c b σ τ 1631 (lvL σ τ b i) [] μ' ν') : lX p e s m below meth c b σ τ 817 (lvL σ τ b i) [] μ ν := by
  obtain ⟨P, Q, h1, h2, h3⟩ := w_best (xs (i + 1)) σ τ μ ν w
  refine lx_al1 C dL_law_817 rfl ?_
  refine lx_arg (k := 1) C hi (by decide) dL_law_818 dL_law_819 dL_law_820 dL_law_821 dL_law_822 rfl ?_
  refine lx_callC C h1 kX10_best mlL_105 rfl rfl rfl (by decide) rfl rfl (by decide) dL_law_823 rfl (fun r μ' hr => ?_)
  refine lx_al2 C dL_law_826 rfl ?_
  refine lx_arg (k := 1) C hi (by decide) dL_law_827 dL_law_828 dL_law_829 dL_law_830 dL_law_831 rfl ?_
  refine lx_callM C h2 kX11_best mlL_108 rfl rfl rfl (by decide) rfl rfl (lx_cat _ _) dL_law_832 rfl (fun t ν' ht => ?_)
  obtain ⟨v, rfl, rfl, w'⟩ := h3 _ _ _ _ hr ht
  exact lx_eq C dL_law_835 rfl (kk _ _ w')
theorem law_22 (C : lC p s m meth c b L xs σ τ) (w : wW μ ν) (hi : i + 5 ≤ L) (kk : ∀ μ' ν', wW μ' ν' → lX p e s m below meth c b σ τ 1631 (lvL σ τ b i) [] μ' ν') : lX p e s m below meth c b σ τ 840 (lvL σ τ b i) [] μ ν := by
  obtain ⟨P, Q, h1, h2, h3⟩ := w_ith (xs (i + 1)) (xs (i + 2)) σ τ μ ν w
  refine lx_al1 C dL_law_840 rfl ?_
  refine lx_arg (k := 1) C hi (by decide) dL_law_841 dL_law_842 dL_law_843 dL_law_844 dL_law_845 rfl ?_
  refine lx_arg (k := 2) C hi (by decide) dL_law_846 dL_law_847 dL_law_848 dL_law_849 dL_law_850 rfl ?_
  refine lx_callC C h1 kX10_ith mlL_109 rfl rfl rfl (by decide) rfl rfl (by decide) dL_law_851 rfl (fun r μ' hr => ?_)
  refine lx_al2 C dL_law_854 rfl ?_
  refine lx_arg (k := 1) C hi (by decide) dL_law_855 dL_law_856 dL_law_857 dL_law_858 dL_law_859 rfl ?_
  refine lx_arg (k := 2) C hi (by decide) dL_law_860 dL_law_861 dL_law_862 dL_law_863 dL_law_864 rfl ?_
  refine lx_callM C h2 kX11_ith mlL_112 rfl rfl rfl (by decide) rfl rfl (lx_cat _ _) dL_law_865 rfl (fun t ν' ht => ?_)
  obtain ⟨v, rfl, rfl, w'⟩ := h3 _ _ _ _ hr ht
  exact lx_eq C dL_law_868 rfl (kk _ _ w')
theorem law_23 (C : lC p s m meth c b L xs σ τ) (w : wW μ ν) (hi : i + 5 ≤ L) (kk : ∀ μ' ν', wW μ' ν' → lX p e s m below meth c b σ τ 1631 (lvL σ τ b i) [] μ' ν') : lX p e s m below meth c b σ τ 873 (lvL σ τ b i) [] μ ν := by
  obtain ⟨P, Q, h1, h2, h3⟩ := w_ways (xs (i + 1)) σ τ μ ν w
  refine lx_al1 C dL_law_873 rfl ?_
  refine lx_arg (k := 1) C hi (by decide) dL_law_874 dL_law_875 dL_law_876 dL_law_877 dL_law_878 rfl ?_
  refine lx_callC C h1 kX10_ways mlL_113 rfl rfl rfl (by decide) rfl rfl (by decide) dL_law_879 rfl (fun r μ' hr => ?_)
  refine lx_al2 C dL_law_882 rfl ?_
  refine lx_arg (k := 1) C hi (by decide) dL_law_883 dL_law_884 dL_law_885 dL_law_886 dL_law_887 rfl ?_
  refine lx_callM C h2 kX11_ways mlL_116 rfl rfl rfl (by decide) rfl rfl (lx_cat _ _) dL_law_888 rfl (fun t ν' ht => ?_)
  obtain ⟨v, rfl, rfl, w'⟩ := h3 _ _ _ _ hr ht
  exact lx_eq C dL_law_891 rfl (kk _ _ w')
theorem law_24 (C : lC p s m meth c b L xs σ τ) (w : wW μ ν) (hi : i + 5 ≤ L) (kk : ∀ μ' ν', wW μ' ν' → lX p e s m below meth c b σ τ 1631 (lvL σ τ b i) [] μ' ν') : lX p e s m below meth c b σ τ 896 (lvL σ τ b i) [] μ ν := by
  obtain ⟨P, Q, h1, h2, h3⟩ := w_game (xs (i + 1)) σ τ μ ν w
  refine lx_al1 C dL_law_896 rfl ?_
  refine lx_arg (k := 1) C hi (by decide) dL_law_897 dL_law_898 dL_law_899 dL_law_900 dL_law_901 rfl ?_
  refine lx_callC C h1 kX10_game mlL_117 rfl rfl rfl (by decide) rfl rfl (by decide) dL_law_902 rfl (fun r μ' hr => ?_)
  refine lx_al2 C dL_law_905 rfl ?_
  refine lx_arg (k := 1) C hi (by decide) dL_law_906 dL_law_907 dL_law_908 dL_law_909 dL_law_910 rfl ?_
  refine lx_callM C h2 kX11_game mlL_120 rfl rfl rfl (by decide) rfl rfl (lx_cat _ _) dL_law_911 rfl (fun t ν' ht => ?_)
  obtain ⟨v, rfl, rfl, w'⟩ := h3 _ _ _ _ hr ht
  exact lx_eq C dL_law_914 rfl (kk _ _ w')
theorem law_25 (C : lC p s m meth c b L xs σ τ) (w : wW μ ν) (hi : i + 5 ≤ L) (kk : ∀ μ' ν', wW μ' ν' → lX p e s m below meth c b σ τ 1631 (lvL σ τ b i) [] μ' ν') : lX p e s m below meth c b σ τ 919 (lvL σ τ b i) [] μ ν := by
  obtain ⟨P, Q, h1, h2, h3⟩ := w_play (xs (i + 1)) σ τ μ ν w
  refine lx_al1 C dL_law_919 rfl ?_
  refine lx_arg (k := 1) C hi (by decide) dL_law_920 dL_law_921 dL_law_922 dL_law_923 dL_law_924 rfl ?_
  refine lx_callC C h1 kX10_play mlL_121 rfl rfl rfl (by decide) rfl rfl (by decide) dL_law_925 rfl (fun r μ' hr => ?_)
  refine lx_al2 C dL_law_928 rfl ?_
  refine lx_arg (k := 1) C hi (by decide) dL_law_929 dL_law_930 dL_law_931 dL_law_932 dL_law_933 rfl ?_
  refine lx_callM C h2 kX11_play mlL_124 rfl rfl rfl (by decide) rfl rfl (lx_cat _ _) dL_law_934 rfl (fun t ν' ht => ?_)
  obtain ⟨v, rfl, rfl, w'⟩ := h3 _ _ _ _ hr ht
  exact lx_eq C dL_law_937 rfl (kk _ _ w')
theorem law_26 (C : lC p s m meth c b L xs σ τ) (w : wW μ ν) (hi : i + 5 ≤ L) (kk : ∀ μ' ν', wW μ' ν' → lX p e s m below meth c b σ τ 1631 (lvL σ τ b i) [] μ' ν') : lX p e s m below meth c b σ τ 942 (lvL σ τ b i) [] μ ν := by
  obtain ⟨P, Q, h1, h2, h3⟩ := w_report (xs (i + 1)) (xs (i + 2)) (xs (i + 3)) (xs (i + 4)) σ τ μ ν w
  refine lx_al1 C dL_law_942 rfl ?_
  refine lx_arg (k := 1) C hi (by decide) dL_law_943 dL_law_944 dL_law_945 dL_law_946 dL_law_947 rfl ?_
  refine lx_arg (k := 2) C hi (by decide) dL_law_948 dL_law_949 dL_law_950 dL_law_951 dL_law_952 rfl ?_
  refine lx_arg (k := 3) C hi (by decide) dL_law_953 dL_law_954 dL_law_955 dL_law_956 dL_law_957 rfl ?_
  refine lx_arg (k := 4) C hi (by decide) dL_law_958 dL_law_959 dL_law_960 dL_law_961 dL_law_962 rfl ?_
  refine lx_callC C h1 kX10_report mlL_125 rfl rfl rfl (by decide) rfl rfl (by decide) dL_law_963 rfl (fun r μ' hr => ?_)
  refine lx_al2 C dL_law_966 rfl ?_
  refine lx_arg (k := 1) C hi (by decide) dL_law_967 dL_law_968 dL_law_969 dL_law_970 dL_law_971 rfl ?_
  refine lx_arg (k := 2) C hi (by decide) dL_law_972 dL_law_973 dL_law_974 dL_law_975 dL_law_976 rfl ?_
  refine lx_arg (k := 3) C hi (by decide) dL_law_977 dL_law_978 dL_law_979 dL_law_980 dL_law_981 rfl ?_
  refine lx_arg (k := 4) C hi (by decide) dL_law_982 dL_law_983 dL_law_984 dL_law_985 dL_law_986 rfl ?_
  refine lx_callM C h2 kX11_report mlL_128 rfl rfl rfl (by decide) rfl rfl (lx_cat _ _) dL_law_987 rfl (fun t ν' ht => ?_)
  obtain ⟨v, rfl, rfl, w'⟩ := h3 _ _ _ _ hr ht
  exact lx_eq C dL_law_990 rfl (kk _ _ w')
theorem law_27 (C : lC p s m meth c b L xs σ τ) (w : wW μ ν) (hi : i + 5 ≤ L) (kk : ∀ μ' ν', wW μ' ν' → lX p e s m below meth c b σ τ 1631 (lvL σ τ b i) [] μ' ν') : lX p e s m below meth c b σ τ 995 (lvL σ τ b i) [] μ ν := by
  obtain ⟨P, Q, h1, h2, h3⟩ := w_forget  σ τ μ ν w
  refine lx_al1 C dL_law_995 rfl ?_
  refine lx_callC C h1 kX10_forget mlL_129 rfl rfl rfl (by decide) rfl rfl (by decide) dL_law_996 rfl (fun r μ' hr => ?_)
  refine lx_al2 C dL_law_999 rfl ?_
  refine lx_callM C h2 kX11_forget mlL_132 rfl rfl rfl (by decide) rfl rfl (lx_cat _ _) dL_law_1000 rfl (fun t ν' ht => ?_)
  obtain ⟨v, rfl, rfl, w'⟩ := h3 _ _ _ _ hr ht
  exact lx_eq C dL_law_1003 rfl (kk _ _ w')
theorem law_28 (C : lC p s m meth c b L xs σ τ) (w : wW μ ν) (hi : i + 5 ≤ L) (kk : ∀ μ' ν', wW μ' ν' → lX p e s m below meth c b σ τ 1631 (lvL σ τ b i) [] μ' ν') : lX p e s m below meth c b σ τ 1008 (lvL σ τ b i) [] μ ν := by
  obtain ⟨P, Q, h1, h2, h3⟩ := w_span (xs (i + 1)) σ τ μ ν w
  refine lx_al1 C dL_law_1008 rfl ?_
  refine lx_arg (k := 1) C hi (by decide) dL_law_1009 dL_law_1010 dL_law_1011 dL_law_1012 dL_law_1013 rfl ?_
  refine lx_callC C h1 kX10_span mlL_133 rfl rfl rfl (by decide) rfl rfl (by decide) dL_law_1014 rfl (fun r μ' hr => ?_)
  refine lx_al2 C dL_law_1017 rfl ?_
  refine lx_arg (k := 1) C hi (by decide) dL_law_1018 dL_law_1019 dL_law_1020 dL_law_1021 dL_law_1022 rfl ?_
  refine lx_callM C h2 kX11_span mlL_136 rfl rfl rfl (by decide) rfl rfl (lx_cat _ _) dL_law_1023 rfl (fun t ν' ht => ?_)
  obtain ⟨v, rfl, rfl, w'⟩ := h3 _ _ _ _ hr ht
  exact lx_eq C dL_law_1026 rfl (kk _ _ w')
theorem law_29 (C : lC p s m meth c b L xs σ τ) (w : wW μ ν) (hi : i + 5 ≤ L) (kk : ∀ μ' ν', wW μ' ν' → lX p e s m below meth c b σ τ 1631 (lvL σ τ b i) [] μ' ν') : lX p e s m below meth c b σ τ 1031 (lvL σ τ b i) [] μ ν := by
  obtain ⟨P, Q, h1, h2, h3⟩ := w_liar  σ τ μ ν w
  refine lx_al1 C dL_law_1031 rfl ?_
  refine lx_callC C h1 kX10_liar mlL_137 rfl rfl rfl (by decide) rfl rfl (by decide) dL_law_1032 rfl (fun r μ' hr => ?_)
  refine lx_al2 C dL_law_1035 rfl ?_
  refine lx_callM C h2 kX11_liar mlL_140 rfl rfl rfl (by decide) rfl rfl (lx_cat _ _) dL_law_1036 rfl (fun t ν' ht => ?_)
  obtain ⟨v, rfl, rfl, w'⟩ := h3 _ _ _ _ hr ht
  exact lx_eq C dL_law_1039 rfl (kk _ _ w')
theorem law_30 (C : lC p s m meth c b L xs σ τ) (w : wW μ ν) (hi : i + 5 ≤ L) (kk : ∀ μ' ν', wW μ' ν' → lX p e s m below meth c b σ τ 1631 (lvL σ τ b i) [] μ' ν') : lX p e s m below meth c b σ τ 1044 (lvL σ τ b i) [] μ ν := by
  obtain ⟨P, Q, h1, h2, h3⟩ := w_seed (xs (i + 1)) σ τ μ ν w
  refine lx_al1 C dL_law_1044 rfl ?_
  refine lx_arg (k := 1) C hi (by decide) dL_law_1045 dL_law_1046 dL_law_1047 dL_law_1048 dL_law_1049 rfl ?_
  refine lx_callC C h1 kX10_seed mlL_141 rfl rfl rfl (by decide) rfl rfl (by decide) dL_law_1050 rfl (fun r μ' hr => ?_)
  refine lx_al2 C dL_law_1053 rfl ?_
  refine lx_arg (k := 1) C hi (by decide) dL_law_1054 dL_law_1055 dL_law_1056 dL_law_1057 dL_law_1058 rfl ?_
  refine lx_callM C h2 kX11_seed mlL_144 rfl rfl rfl (by decide) rfl rfl (lx_cat _ _) dL_law_1059 rfl (fun t ν' ht => ?_)
  obtain ⟨v, rfl, rfl, w'⟩ := h3 _ _ _ _ hr ht
  exact lx_eq C dL_law_1062 rfl (kk _ _ w')
theorem law_31 (C : lC p s m meth c b L xs σ τ) (w : wW μ ν) (hi : i + 5 ≤ L) (kk : ∀ μ' ν', wW μ' ν' → lX p e s m below meth c b σ τ 1631 (lvL σ τ b i) [] μ' ν') : lX p e s m below meth c b σ τ 1067 (lvL σ τ b i) [] μ ν := by
  obtain ⟨P, Q, h1, h2, h3⟩ := w_lot  σ τ μ ν w
  refine lx_al1 C dL_law_1067 rfl ?_
  refine lx_callC C h1 kX10_lot mlL_145 rfl rfl rfl (by decide) rfl rfl (by decide) dL_law_1068 rfl (fun r μ' hr => ?_)
  refine lx_al2 C dL_law_1071 rfl ?_
  refine lx_callM C h2 kX11_lot mlL_148 rfl rfl rfl (by decide) rfl rfl (lx_cat _ _) dL_law_1072 rfl (fun t ν' ht => ?_)
  obtain ⟨v, rfl, rfl, w'⟩ := h3 _ _ _ _ hr ht
  exact lx_eq C dL_law_1075 rfl (kk _ _ w')
theorem law_32 (C : lC p s m meth c b L xs σ τ) (w : wW μ ν) (hi : i + 5 ≤ L) (kk : ∀ μ' ν', wW μ' ν' → lX p e s m below meth c b σ τ 1631 (lvL σ τ b i) [] μ' ν') : lX p e s m below meth c b σ τ 1080 (lvL σ τ b i) [] μ ν := by
  obtain ⟨P, Q, h1, h2, h3⟩ := w_often (xs (i + 1)) (xs (i + 2)) σ τ μ ν w
  refine lx_al1 C dL_law_1080 rfl ?_
  refine lx_arg (k := 1) C hi (by decide) dL_law_1081 dL_law_1082 dL_law_1083 dL_law_1084 dL_law_1085 rfl ?_
  refine lx_arg (k := 2) C hi (by decide) dL_law_1086 dL_law_1087 dL_law_1088 dL_law_1089 dL_law_1090 rfl ?_
  refine lx_callC C h1 kX10_often mlL_149 rfl rfl rfl (by decide) rfl rfl (by decide) dL_law_1091 rfl (fun r μ' hr => ?_)
  refine lx_al2 C dL_law_1094 rfl ?_
  refine lx_arg (k := 1) C hi (by decide) dL_law_1095 dL_law_1096 dL_law_1097 dL_law_1098 dL_law_1099 rfl ?_
  refine lx_arg (k := 2) C hi (by decide) dL_law_1100 dL_law_1101 dL_law_1102 dL_law_1103 dL_law_1104 rfl ?_
  refine lx_callM C h2 kX11_often mlL_152 rfl rfl rfl (by decide) rfl rfl (lx_cat _ _) dL_law_1105 rfl (fun t ν' ht => ?_)
  obtain ⟨v, rfl, rfl, w'⟩ := h3 _ _ _ _ hr ht
  exact lx_eq C dL_law_1108 rfl (kk _ _ w')
theorem law_33 (C : lC p s m meth c b L xs σ τ) (w : wW μ ν) (hi : i + 5 ≤ L) (kk : ∀ μ' ν', wW μ' ν' → lX p e s m below meth c b σ τ 1631 (lvL σ τ b i) [] μ' ν') : lX p e s m below meth c b σ τ 1113 (lvL σ τ b i) [] μ ν := by
  obtain ⟨P, Q, h1, h2, h3⟩ := w_prove (xs (i + 1)) σ τ μ ν w
  refine lx_al1 C dL_law_1113 rfl ?_
  refine lx_arg (k := 1) C hi (by decide) dL_law_1114 dL_law_1115 dL_law_1116 dL_law_1117 dL_law_1118 rfl ?_
  refine lx_callC C h1 kX10_prove mlL_153 rfl rfl rfl (by decide) rfl rfl (by decide) dL_law_1119 rfl (fun r μ' hr => ?_)
  refine lx_al2 C dL_law_1122 rfl ?_
  refine lx_arg (k := 1) C hi (by decide) dL_law_1123 dL_law_1124 dL_law_1125 dL_law_1126 dL_law_1127 rfl ?_
  refine lx_callM C h2 kX11_prove mlL_156 rfl rfl rfl (by decide) rfl rfl (lx_cat _ _) dL_law_1128 rfl (fun t ν' ht => ?_)
  obtain ⟨v, rfl, rfl, w'⟩ := h3 _ _ _ _ hr ht
  exact lx_eq C dL_law_1131 rfl (kk _ _ w')
theorem law_34 (C : lC p s m meth c b L xs σ τ) (w : wW μ ν) (hi : i + 5 ≤ L) (kk : ∀ μ' ν', wW μ' ν' → lX p e s m below meth c b σ τ 1631 (lvL σ τ b i) [] μ' ν') : lX p e s m below meth c b σ τ 1136 (lvL σ τ b i) [] μ ν := by
  obtain ⟨P, Q, h1, h2, h3⟩ := w_row (xs (i + 1)) (xs (i + 2)) σ τ μ ν w
  refine lx_al1 C dL_law_1136 rfl ?_
  refine lx_arg (k := 1) C hi (by decide) dL_law_1137 dL_law_1138 dL_law_1139 dL_law_1140 dL_law_1141 rfl ?_
  refine lx_arg (k := 2) C hi (by decide) dL_law_1142 dL_law_1143 dL_law_1144 dL_law_1145 dL_law_1146 rfl ?_
  refine lx_callC C h1 kX10_row mlL_157 rfl rfl rfl (by decide) rfl rfl (by decide) dL_law_1147 rfl (fun r μ' hr => ?_)
  refine lx_al2 C dL_law_1150 rfl ?_
  refine lx_arg (k := 1) C hi (by decide) dL_law_1151 dL_law_1152 dL_law_1153 dL_law_1154 dL_law_1155 rfl ?_
  refine lx_arg (k := 2) C hi (by decide) dL_law_1156 dL_law_1157 dL_law_1158 dL_law_1159 dL_law_1160 rfl ?_
  refine lx_callM C h2 kX11_row mlL_160 rfl rfl rfl (by decide) rfl rfl (lx_cat _ _) dL_law_1161 rfl (fun t ν' ht => ?_)
  obtain ⟨v, rfl, rfl, w'⟩ := h3 _ _ _ _ hr ht
  exact lx_eq C dL_law_1164 rfl (kk _ _ w')
theorem law_35 (C : lC p s m meth c b L xs σ τ) (w : wW μ ν) (hi : i + 5 ≤ L) (kk : ∀ μ' ν', wW μ' ν' → lX p e s m below meth c b σ τ 1631 (lvL σ τ b i) [] μ' ν') : lX p e s m below meth c b σ τ 1169 (lvL σ τ b i) [] μ ν := by
  obtain ⟨P, Q, h1, h2, h3⟩ := w_alterRow (xs (i + 1)) (xs (i + 2)) (xs (i + 3)) σ τ μ ν w
  refine lx_al1 C dL_law_1169 rfl ?_
  refine lx_arg (k := 1) C hi (by decide) dL_law_1170 dL_law_1171 dL_law_1172 dL_law_1173 dL_law_1174 rfl ?_
  refine lx_arg (k := 2) C hi (by decide) dL_law_1175 dL_law_1176 dL_law_1177 dL_law_1178 dL_law_1179 rfl ?_
  refine lx_arg (k := 3) C hi (by decide) dL_law_1180 dL_law_1181 dL_law_1182 dL_law_1183 dL_law_1184 rfl ?_
  refine lx_callC C h1 kX10_alterRow mlL_161 rfl rfl rfl (by decide) rfl rfl (by decide) dL_law_1185 rfl (fun r μ' hr => ?_)
  refine lx_al2 C dL_law_1188 rfl ?_
  refine lx_arg (k := 1) C hi (by decide) dL_law_1189 dL_law_1190 dL_law_1191 dL_law_1192 dL_law_1193 rfl ?_
  refine lx_arg (k := 2) C hi (by decide) dL_law_1194 dL_law_1195 dL_law_1196 dL_law_1197 dL_law_1198 rfl ?_
  refine lx_arg (k := 3) C hi (by decide) dL_law_1199 dL_law_1200 dL_law_1201 dL_law_1202 dL_law_1203 rfl ?_
  refine lx_callM C h2 kX11_alterRow mlL_164 rfl rfl rfl (by decide) rfl rfl (lx_cat _ _) dL_law_1204 rfl (fun t ν' ht => ?_)
  obtain ⟨v, rfl, rfl, w'⟩ := h3 _ _ _ _ hr ht
  exact lx_eq C dL_law_1207 rfl (kk _ _ w')
theorem law_36 (C : lC p s m meth c b L xs σ τ) (w : wW μ ν) (hi : i + 5 ≤ L) (kk : ∀ μ' ν', wW μ' ν' → lX p e s m below meth c b σ τ 1631 (lvL σ τ b i) [] μ' ν') : lX p e s m below meth c b σ τ 1212 (lvL σ τ b i) [] μ ν := by
  obtain ⟨P, Q, h1, h2, h3⟩ := w_judge  σ τ μ ν w
  refine lx_al1 C dL_law_1212 rfl ?_
  refine lx_callC C h1 kX10_judge mlL_165 rfl rfl rfl (by decide) rfl rfl (by decide) dL_law_1213 rfl (fun r μ' hr => ?_)
  refine lx_al2 C dL_law_1216 rfl ?_
  refine lx_callM C h2 kX11_judge mlL_168 rfl rfl rfl (by decide) rfl rfl (lx_cat _ _) dL_law_1217 rfl (fun t ν' ht => ?_)
  obtain ⟨v, rfl, rfl, w'⟩ := h3 _ _ _ _ hr ht
  exact lx_eq C dL_law_1220 rfl (kk _ _ w')
theorem law_37 (C : lC p s m meth c b L xs σ τ) (w : wW μ ν) (hi : i + 5 ≤ L) (kk : ∀ μ' ν', wW μ' ν' → lX p e s m below meth c b σ τ 1631 (lvL σ τ b i) [] μ' ν') : lX p e s m below meth c b σ τ 1225 (lvL σ τ b i) [] μ ν := by
  obtain ⟨P, Q, h1, h2, h3⟩ := w_sheet (xs (i + 1)) (xs (i + 2)) (xs (i + 3)) σ τ μ ν w
  refine lx_al1 C dL_law_1225 rfl ?_
  refine lx_arg (k := 1) C hi (by decide) dL_law_1226 dL_law_1227 dL_law_1228 dL_law_1229 dL_law_1230 rfl ?_
  refine lx_arg (k := 2) C hi (by decide) dL_law_1231 dL_law_1232 dL_law_1233 dL_law_1234 dL_law_1235 rfl ?_
  refine lx_arg (k := 3) C hi (by decide) dL_law_1236 dL_law_1237 dL_law_1238 dL_law_1239 dL_law_1240 rfl ?_
  refine lx_callC C h1 kX10_sheet mlL_169 rfl rfl rfl (by decide) rfl rfl (by decide) dL_law_1241 rfl (fun r μ' hr => ?_)
  refine lx_al2 C dL_law_1244 rfl ?_
  refine lx_arg (k := 1) C hi (by decide) dL_law_1245 dL_law_1246 dL_law_1247 dL_law_1248 dL_law_1249 rfl ?_
  refine lx_arg (k := 2) C hi (by decide) dL_law_1250 dL_law_1251 dL_law_1252 dL_law_1253 dL_law_1254 rfl ?_
  refine lx_arg (k := 3) C hi (by decide) dL_law_1255 dL_law_1256 dL_law_1257 dL_law_1258 dL_law_1259 rfl ?_
  refine lx_callM C h2 kX11_sheet mlL_172 rfl rfl rfl (by decide) rfl rfl (lx_cat _ _) dL_law_1260 rfl (fun t ν' ht => ?_)
  obtain ⟨v, rfl, rfl, w'⟩ := h3 _ _ _ _ hr ht
  exact lx_eq C dL_law_1263 rfl (kk _ _ w')
theorem law_38 (C : lC p s m meth c b L xs σ τ) (w : wW μ ν) (hi : i + 5 ≤ L) (kk : ∀ μ' ν', wW μ' ν' → lX p e s m below meth c b σ τ 1631 (lvL σ τ b i) [] μ' ν') : lX p e s m below meth c b σ τ 1268 (lvL σ τ b i) [] μ ν := by
  obtain ⟨P, Q, h1, h2, h3⟩ := w_write (xs (i + 1)) (xs (i + 2)) (xs (i + 3)) σ τ μ ν w
  refine lx_al1 C dL_law_1268 rfl ?_
  refine lx_arg (k := 1) C hi (by decide) dL_law_1269 dL_law_1270 dL_law_1271 dL_law_1272 dL_law_1273 rfl ?_
  refine lx_arg (k := 2) C hi (by decide) dL_law_1274 dL_law_1275 dL_law_1276 dL_law_1277 dL_law_1278 rfl ?_
  refine lx_arg (k := 3) C hi (by decide) dL_law_1279 dL_law_1280 dL_law_1281 dL_law_1282 dL_law_1283 rfl ?_
  refine lx_callC C h1 kX10_write mlL_173 rfl rfl rfl (by decide) rfl rfl (by decide) dL_law_1284 rfl (fun r μ' hr => ?_)
  refine lx_al2 C dL_law_1287 rfl ?_
  refine lx_arg (k := 1) C hi (by decide) dL_law_1288 dL_law_1289 dL_law_1290 dL_law_1291 dL_law_1292 rfl ?_
  refine lx_arg (k := 2) C hi (by decide) dL_law_1293 dL_law_1294 dL_law_1295 dL_law_1296 dL_law_1297 rfl ?_
  refine lx_arg (k := 3) C hi (by decide) dL_law_1298 dL_law_1299 dL_law_1300 dL_law_1301 dL_law_1302 rfl ?_
  refine lx_callM C h2 kX11_write mlL_176 rfl rfl rfl (by decide) rfl rfl (lx_cat _ _) dL_law_1303 rfl (fun t ν' ht => ?_)
  obtain ⟨v, rfl, rfl, w'⟩ := h3 _ _ _ _ hr ht
  exact lx_eq C dL_law_1306 rfl (kk _ _ w')
theorem law_39 (C : lC p s m meth c b L xs σ τ) (w : wW μ ν) (hi : i + 5 ≤ L) (kk : ∀ μ' ν', wW μ' ν' → lX p e s m below meth c b σ τ 1631 (lvL σ τ b i) [] μ' ν') : lX p e s m below meth c b σ τ 1311 (lvL σ τ b i) [] μ ν := by
  obtain ⟨P, Q, h1, h2, h3⟩ := w_item (xs (i + 1)) (xs (i + 2)) (xs (i + 3)) σ τ μ ν w
  refine lx_al1 C dL_law_1311 rfl ?_
  refine lx_arg (k := 1) C hi (by decide) dL_law_1312 dL_law_1313 dL_law_1314 dL_law_1315 dL_law_1316 rfl ?_
  refine lx_arg (k := 2) C hi (by decide) dL_law_1317 dL_law_1318 dL_law_1319 dL_law_1320 dL_law_1321 rfl ?_
  refine lx_arg (k := 3) C hi (by decide) dL_law_1322 dL_law_1323 dL_law_1324 dL_law_1325 dL_law_1326 rfl ?_
  refine lx_callC C h1 kX10_item mlL_177 rfl rfl rfl (by decide) rfl rfl (by decide) dL_law_1327 rfl (fun r μ' hr => ?_)
  refine lx_al2 C dL_law_1330 rfl ?_
  refine lx_arg (k := 1) C hi (by decide) dL_law_1331 dL_law_1332 dL_law_1333 dL_law_1334 dL_law_1335 rfl ?_
  refine lx_arg (k := 2) C hi (by decide) dL_law_1336 dL_law_1337 dL_law_1338 dL_law_1339 dL_law_1340 rfl ?_
  refine lx_arg (k := 3) C hi (by decide) dL_law_1341 dL_law_1342 dL_law_1343 dL_law_1344 dL_law_1345 rfl ?_
  refine lx_callM C h2 kX11_item mlL_180 rfl rfl rfl (by decide) rfl rfl (lx_cat _ _) dL_law_1346 rfl (fun t ν' ht => ?_)
  obtain ⟨v, rfl, rfl, w'⟩ := h3 _ _ _ _ hr ht
  exact lx_eq C dL_law_1349 rfl (kk _ _ w')
theorem law_40 (C : lC p s m meth c b L xs σ τ) (w : wW μ ν) (hi : i + 5 ≤ L) (kk : ∀ μ' ν', wW μ' ν' → lX p e s m below meth c b σ τ 1631 (lvL σ τ b i) [] μ' ν') : lX p e s m below meth c b σ τ 1354 (lvL σ τ b i) [] μ ν := by
  obtain ⟨P, Q, h1, h2, h3⟩ := w_goAll (xs (i + 1)) (xs (i + 2)) (xs (i + 3)) σ τ μ ν w
  refine lx_al1 C dL_law_1354 rfl ?_
  refine lx_arg (k := 1) C hi (by decide) dL_law_1355 dL_law_1356 dL_law_1357 dL_law_1358 dL_law_1359 rfl ?_
  refine lx_arg (k := 2) C hi (by decide) dL_law_1360 dL_law_1361 dL_law_1362 dL_law_1363 dL_law_1364 rfl ?_
  refine lx_arg (k := 3) C hi (by decide) dL_law_1365 dL_law_1366 dL_law_1367 dL_law_1368 dL_law_1369 rfl ?_
  refine lx_callC C h1 kX10_goAll mlL_181 rfl rfl rfl (by decide) rfl rfl (by decide) dL_law_1370 rfl (fun r μ' hr => ?_)
  refine lx_al2 C dL_law_1373 rfl ?_
  refine lx_arg (k := 1) C hi (by decide) dL_law_1374 dL_law_1375 dL_law_1376 dL_law_1377 dL_law_1378 rfl ?_
  refine lx_arg (k := 2) C hi (by decide) dL_law_1379 dL_law_1380 dL_law_1381 dL_law_1382 dL_law_1383 rfl ?_
  refine lx_arg (k := 3) C hi (by decide) dL_law_1384 dL_law_1385 dL_law_1386 dL_law_1387 dL_law_1388 rfl ?_
  refine lx_callM C h2 kX11_goAll mlL_184 rfl rfl rfl (by decide) rfl rfl (lx_cat _ _) dL_law_1389 rfl (fun t ν' ht => ?_)
  obtain ⟨v, rfl, rfl, w'⟩ := h3 _ _ _ _ hr ht
  exact lx_eq C dL_law_1392 rfl (kk _ _ w')
theorem law_41 (C : lC p s m meth c b L xs σ τ) (w : wW μ ν) (hi : i + 5 ≤ L) (kk : ∀ μ' ν', wW μ' ν' → lX p e s m below meth c b σ τ 1631 (lvL σ τ b i) [] μ' ν') : lX p e s m below meth c b σ τ 1397 (lvL σ τ b i) [] μ ν := by
  obtain ⟨P, Q, h1, h2, h3⟩ := w_wouldBe (xs (i + 1)) (xs (i + 2)) (xs (i + 3)) σ τ μ ν w
  refine lx_al1 C dL_law_1397 rfl ?_
  refine lx_arg (k := 1) C hi (by decide) dL_law_1398 dL_law_1399 dL_law_1400 dL_law_1401 dL_law_1402 rfl ?_
  refine lx_arg (k := 2) C hi (by decide) dL_law_1403 dL_law_1404 dL_law_1405 dL_law_1406 dL_law_1407 rfl ?_
  refine lx_arg (k := 3) C hi (by decide) dL_law_1408 dL_law_1409 dL_law_1410 dL_law_1411 dL_law_1412 rfl ?_
  refine lx_callC C h1 kX10_wouldBe mlL_185 rfl rfl rfl (by decide) rfl rfl (by decide) dL_law_1413 rfl (fun r μ' hr => ?_)
  refine lx_al2 C dL_law_1416 rfl ?_
  refine lx_arg (k := 1) C hi (by decide) dL_law_1417 dL_law_1418 dL_law_1419 dL_law_1420 dL_law_1421 rfl ?_
  refine lx_arg (k := 2) C hi (by decide) dL_law_1422 dL_law_1423 dL_law_1424 dL_law_1425 dL_law_1426 rfl ?_
  refine lx_arg (k := 3) C hi (by decide) dL_law_1427 dL_law_1428 dL_law_1429 dL_law_1430 dL_law_1431 rfl ?_
  refine lx_callM C h2 kX11_wouldBe mlL_188 rfl rfl rfl (by decide) rfl rfl (lx_cat _ _) dL_law_1432 rfl (fun t ν' ht => ?_)
  obtain ⟨v, rfl, rfl, w'⟩ := h3 _ _ _ _ hr ht
  exact lx_eq C dL_law_1435 rfl (kk _ _ w')
theorem law_42 (C : lC p s m meth c b L xs σ τ) (w : wW μ ν) (hi : i + 5 ≤ L) (kk : ∀ μ' ν', wW μ' ν' → lX p e s m below meth c b σ τ 1631 (lvL σ τ b i) [] μ' ν') : lX p e s m below meth c b σ τ 1440 (lvL σ τ b i) [] μ ν := by
  obtain ⟨P, Q, h1, h2, h3⟩ := w_shelf (xs (i + 1)) (xs (i + 2)) (xs (i + 3)) σ τ μ ν w
  refine lx_al1 C dL_law_1440 rfl ?_
  refine lx_arg (k := 1) C hi (by decide) dL_law_1441 dL_law_1442 dL_law_1443 dL_law_1444 dL_law_1445 rfl ?_
  refine lx_arg (k := 2) C hi (by decide) dL_law_1446 dL_law_1447 dL_law_1448 dL_law_1449 dL_law_1450 rfl ?_
  refine lx_arg (k := 3) C hi (by decide) dL_law_1451 dL_law_1452 dL_law_1453 dL_law_1454 dL_law_1455 rfl ?_
  refine lx_callC C h1 kX10_shelf mlL_189 rfl rfl rfl (by decide) rfl rfl (by decide) dL_law_1456 rfl (fun r μ' hr => ?_)
  refine lx_al2 C dL_law_1459 rfl ?_
  refine lx_arg (k := 1) C hi (by decide) dL_law_1460 dL_law_1461 dL_law_1462 dL_law_1463 dL_law_1464 rfl ?_
  refine lx_arg (k := 2) C hi (by decide) dL_law_1465 dL_law_1466 dL_law_1467 dL_law_1468 dL_law_1469 rfl ?_
  refine lx_arg (k := 3) C hi (by decide) dL_law_1470 dL_law_1471 dL_law_1472 dL_law_1473 dL_law_1474 rfl ?_
  refine lx_callM C h2 kX11_shelf mlL_192 rfl rfl rfl (by decide) rfl rfl (lx_cat _ _) dL_law_1475 rfl (fun t ν' ht => ?_)
  obtain ⟨v, rfl, rfl, w'⟩ := h3 _ _ _ _ hr ht
  exact lx_eq C dL_law_1478 rfl (kk _ _ w')
theorem law_43 (C : lC p s m meth c b L xs σ τ) (w : wW μ ν) (hi : i + 5 ≤ L) (kk : ∀ μ' ν', wW μ' ν' → lX p e s m below meth c b σ τ 1631 (lvL σ τ b i) [] μ' ν') : lX p e s m below meth c b σ τ 1483 (lvL σ τ b i) [] μ ν := by
  obtain ⟨P, Q, h1, h2, h3⟩ := w_taken (xs (i + 1)) (xs (i + 2)) σ τ μ ν w
  refine lx_al1 C dL_law_1483 rfl ?_
  refine lx_arg (k := 1) C hi (by decide) dL_law_1484 dL_law_1485 dL_law_1486 dL_law_1487 dL_law_1488 rfl ?_
  refine lx_arg (k := 2) C hi (by decide) dL_law_1489 dL_law_1490 dL_law_1491 dL_law_1492 dL_law_1493 rfl ?_
  refine lx_callC C h1 kX10_taken mlL_193 rfl rfl rfl (by decide) rfl rfl (by decide) dL_law_1494 rfl (fun r μ' hr => ?_)
  refine lx_al2 C dL_law_1497 rfl ?_
  refine lx_arg (k := 1) C hi (by decide) dL_law_1498 dL_law_1499 dL_law_1500 dL_law_1501 dL_law_1502 rfl ?_
  refine lx_arg (k := 2) C hi (by decide) dL_law_1503 dL_law_1504 dL_law_1505 dL_law_1506 dL_law_1507 rfl ?_
  refine lx_callM C h2 kX11_taken mlL_196 rfl rfl rfl (by decide) rfl rfl (lx_cat _ _) dL_law_1508 rfl (fun t ν' ht => ?_)
  obtain ⟨v, rfl, rfl, w'⟩ := h3 _ _ _ _ hr ht
  exact lx_eq C dL_law_1511 rfl (kk _ _ w')
theorem law_44 (C : lC p s m meth c b L xs σ τ) (w : wW μ ν) (hi : i + 5 ≤ L) (kk : ∀ μ' ν', wW μ' ν' → lX p e s m below meth c b σ τ 1631 (lvL σ τ b i) [] μ' ν') : lX p e s m below meth c b σ τ 1516 (lvL σ τ b i) [] μ ν := by
  obtain ⟨P, Q, h1, h2, h3⟩ := w_act (xs (i + 1)) (xs (i + 2)) (xs (i + 3)) σ τ μ ν w
  refine lx_al1 C dL_law_1516 rfl ?_
  refine lx_arg (k := 1) C hi (by decide) dL_law_1517 dL_law_1518 dL_law_1519 dL_law_1520 dL_law_1521 rfl ?_
  refine lx_arg (k := 2) C hi (by decide) dL_law_1522 dL_law_1523 dL_law_1524 dL_law_1525 dL_law_1526 rfl ?_
  refine lx_arg (k := 3) C hi (by decide) dL_law_1527 dL_law_1528 dL_law_1529 dL_law_1530 dL_law_1531 rfl ?_
  refine lx_callC C h1 kX10_act mlL_197 rfl rfl rfl (by decide) rfl rfl (by decide) dL_law_1532 rfl (fun r μ' hr => ?_)
  refine lx_al2 C dL_law_1535 rfl ?_
  refine lx_arg (k := 1) C hi (by decide) dL_law_1536 dL_law_1537 dL_law_1538 dL_law_1539 dL_law_1540 rfl ?_
  refine lx_arg (k := 2) C hi (by decide) dL_law_1541 dL_law_1542 dL_law_1543 dL_law_1544 dL_law_1545 rfl ?_
  refine lx_arg (k := 3) C hi (by decide) dL_law_1546 dL_law_1547 dL_law_1548 dL_law_1549 dL_law_1550 rfl ?_
  refine lx_callM C h2 kX11_act mlL_200 rfl rfl rfl (by decide) rfl rfl (lx_cat _ _) dL_law_1551 rfl (fun t ν' ht => ?_)
  obtain ⟨v, rfl, rfl, w'⟩ := h3 _ _ _ _ hr ht
  exact lx_eq C dL_law_1554 rfl (kk _ _ w')
theorem law_45 (C : lC p s m meth c b L xs σ τ) (w : wW μ ν) (hi : i + 5 ≤ L) (kk : ∀ μ' ν', wW μ' ν' → lX p e s m below meth c b σ τ 1631 (lvL σ τ b i) [] μ' ν') : lX p e s m below meth c b σ τ 1559 (lvL σ τ b i) [] μ ν := by
  obtain ⟨P, Q, h1, h2, h3⟩ := w_trace (xs (i + 1)) σ τ μ ν w
  refine lx_al1 C dL_law_1559 rfl ?_
  refine lx_arg (k := 1) C hi (by decide) dL_law_1560 dL_law_1561 dL_law_1562 dL_law_1563 dL_law_1564 rfl ?_
  refine lx_callC C h1 kX10_trace mlL_201 rfl rfl rfl (by decide) rfl rfl (by decide) dL_law_1565 rfl (fun r μ' hr => ?_)
  refine lx_al2 C dL_law_1568 rfl ?_
  refine lx_arg (k := 1) C hi (by decide) dL_law_1569 dL_law_1570 dL_law_1571 dL_law_1572 dL_law_1573 rfl ?_
  refine lx_callM C h2 kX11_trace mlL_204 rfl rfl rfl (by decide) rfl rfl (lx_cat _ _) dL_law_1574 rfl (fun t ν' ht => ?_)
  obtain ⟨v, rfl, rfl, w'⟩ := h3 _ _ _ _ hr ht
  exact lx_eq C dL_law_1577 rfl (kk _ _ w')
theorem law_46 (C : lC p s m meth c b L xs σ τ) (w : wW μ ν) (hi : i + 5 ≤ L) (kk : ∀ μ' ν', wW μ' ν' → lX p e s m below meth c b σ τ 1631 (lvL σ τ b i) [] μ' ν') : lX p e s m below meth c b σ τ 1582 (lvL σ τ b i) [] μ ν := by
  obtain ⟨P, Q, h1, h2, h3⟩ := w_many (xs (i + 1)) σ τ μ ν w
  refine lx_al1 C dL_law_1582 rfl ?_
  refine lx_arg (k := 1) C hi (by decide) dL_law_1583 dL_law_1584 dL_law_1585 dL_law_1586 dL_law_1587 rfl ?_
  refine lx_callC C h1 kX10_many mlL_205 rfl rfl rfl (by decide) rfl rfl (by decide) dL_law_1588 rfl (fun r μ' hr => ?_)
  refine lx_al2 C dL_law_1591 rfl ?_
  refine lx_arg (k := 1) C hi (by decide) dL_law_1592 dL_law_1593 dL_law_1594 dL_law_1595 dL_law_1596 rfl ?_
  refine lx_callM C h2 kX11_many mlL_208 rfl rfl rfl (by decide) rfl rfl (lx_cat _ _) dL_law_1597 rfl (fun t ν' ht => ?_)
  obtain ⟨v, rfl, rfl, w'⟩ := h3 _ _ _ _ hr ht
  exact lx_eq C dL_law_1600 rfl (kk _ _ w')
theorem law_47 (C : lC p s m meth c b L xs σ τ) (w : wW μ ν) (hi : i + 5 ≤ L) (kk : ∀ μ' ν', wW μ' ν' → lX p e s m below meth c b σ τ 1631 (lvL σ τ b i) [] μ' ν') : lX p e s m below meth c b σ τ 1605 (lvL σ τ b i) [] μ ν := by
  obtain ⟨P, Q, h1, h2, h3⟩ := w_keep  σ τ μ ν w
  refine lx_al1 C dL_law_1605 rfl ?_
  refine lx_callC C h1 kX10_keep mlL_209 rfl rfl rfl (by decide) rfl rfl (by decide) dL_law_1606 rfl (fun r μ' hr => ?_)
  refine lx_al2 C dL_law_1609 rfl ?_
  refine lx_callM C h2 kX11_keep mlL_212 rfl rfl rfl (by decide) rfl rfl (lx_cat _ _) dL_law_1610 rfl (fun t ν' ht => ?_)
  obtain ⟨v, rfl, rfl, w'⟩ := h3 _ _ _ _ hr ht
  exact lx_eq C dL_law_1613 rfl (kk _ _ w')
theorem law_48 (C : lC p s m meth c b L xs σ τ) (w : wW μ ν) (hi : i + 5 ≤ L) (kk : ∀ μ' ν', wW μ' ν' → lX p e s m below meth c b σ τ 1631 (lvL σ τ b i) [] μ' ν') : lX p e s m below meth c b σ τ 1618 (lvL σ τ b i) [] μ ν := by
  obtain ⟨P, Q, h1, h2, h3⟩ := w_again  σ τ μ ν w
  refine lx_al1 C dL_law_1618 rfl ?_
  refine lx_callC C h1 kX10_again mlL_213 rfl rfl rfl (by decide) rfl rfl (by decide) dL_law_1619 rfl (fun r μ' hr => ?_)
  refine lx_al2 C dL_law_1622 rfl ?_
  refine lx_callM C h2 kX11_again mlL_216 rfl rfl rfl (by decide) rfl rfl (lx_cat _ _) dL_law_1623 rfl (fun t ν' ht => ?_)
  obtain ⟨v, rfl, rfl, w'⟩ := h3 _ _ _ _ hr ht
  exact lx_eq C dL_law_1626 rfl (kk _ _ w')
end
