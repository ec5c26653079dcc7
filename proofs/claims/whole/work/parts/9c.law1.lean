/-! THE LAW'S TURNS: each call on both sides -/
section LWR
variable {PG : Gp → Code → Prop} {PQ : Gp → List Frame → Array Value → State → State → Prop} {d RC RS nL cells slots pc q t : Nat} {y : MethodName} {cc : ByteArray} {ret : Option FieldType} {lv st : List Value} {h : Hp}
theorem p_wide (k n : Nat) (hk : cells ≤ k) (hn : slots ≤ n) (x : gP PG PQ d RC RS y cc nL ret k n pc lv st h) : gP PG PQ d RC RS y cc nL ret cells slots pc lv st h := fun p l e s m args below meth c G C hPG ls H locs hl hw hS => W.widen hk hn (x p l e s m args below meth c G C hPG ls H locs hl hw hS)
theorem p_bool {x : Int32} {off off2 : Int} {n1 n0 : Int} {q1 q2 t2 : Nat} (hd : gb cc pc (.ifCond .eq off) off q t) (hd1 : decode cc q = .ok ((.iconst n1), 1) ∧ q + 1 = q1 ∧ Int32.ofInt n1 = 1) (hd2 : gb cc q1 (.goto off2) off2 q2 t2) (hd3 : decode cc t = .ok ((.iconst n0), 1) ∧ t + 1 = t2 ∧ Int32.ofInt n0 = 0) (k : gP PG PQ d RC RS y cc nL ret cells slots t2 lv (.int (if x = 0 then 0 else 1) :: st) h) : gP PG PQ d RC RS y cc nL ret cells slots pc lv (.int x :: st) h := by
  refine p_ifeq hd (fun z => ?_) (fun z => ?_)
  · rw [if_pos z] at k; exact p_iconst hd3 k
  · rw [if_neg z] at k; exact p_iconst hd1 (p_goto hd2 k)
end LWR
abbrev PGL (L : Nat) (f : Nat → Int32) : Gp → Code → Prop := fun G _ => gsn G = L ∧ gsx G = f
abbrev llv (i : Nat) (v5 v6 : Value) : List Value := [.float 0, .ref 0, .ref 50, .ref 59, .int (nI i), v5, v6]
abbrev lwF (PQ : Gp → List Frame → Array Value → State → State → Prop) (L : Nat) (f : Nat → Int32) (RC RS cells slots pc i : Nat) (v5 v6 : Value) (st : List Value) (h : Hp) : Prop := gP (PGL L f) PQ 20 RC RS yL_law cL_law 7 (some .boolean) cells slots pc (llv i v5 v6) st h
section LWS
variable {PQ : Gp → List Frame → Array Value → State → State → Prop} {L RC RS cells slots i pc : Nat} {f : Nat → Int32} {v5 v6 : Value} {st : List Value} {h : Hp}
theorem w_arg {n : Int} {v : Int32} {q1 q2 q3 q4 q5 : Nat} (k : Nat) (hi : i + 7 ≤ L) (hL : L ≤ 3584) (hk : k < 7) (hv : v = nI k) (d1 : gd cL_law pc (.aload_n 0) 1 q1) (d2 : gd cL_law q1 (.iload 4) 2 q2) (d3 : decode cL_law q2 = .ok ((.iconst n), 1) ∧ q2 + 1 = q3 ∧ Int32.ofInt n = v) (d4 : gd cL_law q3 .iadd 1 q4) (d5 : gd cL_law q4 .iaload 1 q5) (x : lwF PQ L f RC RS cells slots q5 i v5 v6 (.int (f (i + k)) :: st) h) : lwF PQ L f RC RS cells slots pc i v5 v6 st h := by
  refine p_sL0 d1 (p_iL4 d2 (p_iconst d3 (p_iadd d4 ?_)))
  rw [hv, show nI i + nI k = nI (i + k) from (Int32.ofNat_add i k).symm]
  exact p_sld (fun G c z => z) (by omega) (by omega) d5 x
theorem w_argb {n : Int} {v : Int32} {q1 q2 q3 q4 q5 : Nat} (k : Nat) (hi : i + 7 ≤ L) (hL : L ≤ 3584) (hk : k < 7) (hv : v = nI k) (d1 : gd cL_law pc (.aload_n 0) 1 q1) (d2 : gd cL_law q1 (.iload 4) 2 q2) (d3 : decode cL_law q2 = .ok ((.bipush n), 2) ∧ q2 + 2 = q3 ∧ (Int8.ofInt n).toInt32 = v) (d4 : gd cL_law q3 .iadd 1 q4) (d5 : gd cL_law q4 .iaload 1 q5) (x : lwF PQ L f RC RS cells slots q5 i v5 v6 (.int (f (i + k)) :: st) h) : lwF PQ L f RC RS cells slots pc i v5 v6 st h := by
  refine p_sL0 d1 (p_iL4 d2 (p_bipush d3 (p_iadd d4 ?_)))
  rw [hv, show nI i + nI k = nI (i + k) from (Int32.ofNat_add i k).symm]
  exact p_sld (fun G c z => z) (by omega) (by omega) d5 x
theorem SX.i0 (S : SX h) : 0 ∈ gL h := S.1 0 (by decide)
theorem SX.k0 (S : SX h) : gK h 0 = 8 := S.2.1 0 (by decide)
theorem SX.i50 (S : SX h) : 50 ∈ gL h := S.1 50 (by decide)
theorem SX.k50 (S : SX h) : gK h 50 = 10 := S.2.1 50 (by decide)
theorem ble_of {a b : Nat} (h : a ≤ b) : Nat.ble a b = true := Nat.ble_eq_true_of_le h
theorem lg_cmp_rf (r : Int64) : lg_cmp r r = 0 := by
  unfold lg_cmp
  simp
theorem w_feed (j : J h) (hi : i + 7 ≤ L) (hL : L ≤ 3584) (hc : Nat.ble (cells + 17) RC = true) (hs : Nat.ble (slots + 307) RS = true) (x : ∀ h2, J h2 → lwF PQ L f RC RS (cells + 17) (slots + 307) 1968 i v5 v6 [] h2) : lwF PQ L f RC RS cells slots 256 i v5 v6 [] h := by
  refine p_wide (cells + 17) (slots + 307) (by omega) (by omega) ?_
  obtain ⟨r, h1, m1, S1, n1⟩ := q_feed j (f (i + 1)) (f (i + 2)) (f (i + 3)) (f (i + 4)) (f (i + 5))
  refine p_aL1 dL_law_256 ?_
  refine w_arg 1 hi hL (by decide) rfl dL_law_257 dL_law_258 dL_law_260 dL_law_261 dL_law_262 ?_
  refine w_arg 2 hi hL (by decide) rfl dL_law_263 dL_law_264 dL_law_266 dL_law_267 dL_law_268 ?_
  refine w_arg 3 hi hL (by decide) rfl dL_law_269 dL_law_270 dL_law_272 dL_law_273 dL_law_274 ?_
  refine w_arg 4 hi hL (by decide) rfl dL_law_275 dL_law_276 dL_law_278 dL_law_279 dL_law_280 ?_
  refine w_arg 5 hi hL (by decide) rfl dL_law_281 dL_law_282 dL_law_284 dL_law_285 dL_law_286 ?_
  refine pe_v5i m1 lm_L_19 dL_law_287 j.1.1.1.i0 j.1.1.1.k0 rfl rfl hc hs ?_
  refine p_aL2 dL_law_290 ?_
  refine w_arg 1 hi hL (by decide) rfl dL_law_291 dL_law_292 dL_law_294 dL_law_295 dL_law_296 ?_
  refine w_arg 2 hi hL (by decide) rfl dL_law_297 dL_law_298 dL_law_300 dL_law_301 dL_law_302 ?_
  refine w_arg 3 hi hL (by decide) rfl dL_law_303 dL_law_304 dL_law_306 dL_law_307 dL_law_308 ?_
  refine w_arg 4 hi hL (by decide) rfl dL_law_309 dL_law_310 dL_law_312 dL_law_313 dL_law_314 ?_
  refine w_arg 5 hi hL (by decide) rfl dL_law_315 dL_law_316 dL_law_318 dL_law_319 dL_law_320 ?_
  refine p_v5 n1 lm_L_23 dL_law_321 S1.i50 S1.k50 rfl rfl hc hs (fun v h2 e => ?_)
  obtain ⟨rfl, j2⟩ := e
  show lwF PQ L f RC RS (cells + 17) (slots + 307) 324 i v5 v6 [.int r, .int r] h2
  exact p_iceq dL_law_324 (fun _ => x h2 j2) (fun z => absurd rfl z)
theorem w_city (j : J h) (hi : i + 7 ≤ L) (hL : L ≤ 3584) (hc : Nat.ble (cells + 17) RC = true) (hs : Nat.ble (slots + 307) RS = true) (x : ∀ h2, J h2 → lwF PQ L f RC RS (cells + 17) (slots + 307) 1968 i v5 v6 [] h2) : lwF PQ L f RC RS cells slots 329 i v5 v6 [] h := by
  have hc0 : cells ≤ RC := by have := Nat.le_of_ble_eq_true hc; omega
  have hs0 : slots ≤ RS := by have := Nat.le_of_ble_eq_true hs; omega
  refine p_aL1 dL_law_329 ?_
  refine w_arg 1 hi hL (by decide) rfl dL_law_330 dL_law_331 dL_law_333 dL_law_334 dL_law_335 ?_
  refine p_v1 (q_city j (f (i + 1))) lm_L_24 dL_law_336 j.1.1.1.i0 j.1.1.1.k0 rfl rfl (ble_of hc0) (ble_of hs0) (fun v h1 e => ?_)
  obtain ⟨r, rfl, S1, n1⟩ := e
  show lwF PQ L f RC RS cells slots 339 i v5 v6 [.int r] h1
  refine p_aL2 dL_law_339 ?_
  refine w_arg 1 hi hL (by decide) rfl dL_law_340 dL_law_341 dL_law_343 dL_law_344 dL_law_345 ?_
  refine p_v1 n1 lm_L_27 dL_law_346 S1.i50 S1.k50 rfl rfl hc hs (fun v h2 e => ?_)
  obtain ⟨rfl, j2⟩ := e
  show lwF PQ L f RC RS (cells + 17) (slots + 307) 349 i v5 v6 [.int r, .int r] h2
  exact p_iceq dL_law_349 (fun _ => x h2 j2) (fun z => absurd rfl z)
theorem w_fault (j : J h) (hi : i + 7 ≤ L) (hL : L ≤ 3584) (hc : Nat.ble (cells + 17) RC = true) (hs : Nat.ble (slots + 307) RS = true) (x : ∀ h2, J h2 → lwF PQ L f RC RS (cells + 17) (slots + 307) 1968 i v5 v6 [] h2) : lwF PQ L f RC RS cells slots 354 i v5 v6 [] h := by
  refine p_wide (cells + 17) (slots + 307) (by omega) (by omega) ?_
  obtain ⟨r, h1, m1, S1, n1⟩ := q_fault j 
  refine p_aL1 dL_law_354 ?_
  refine pe_v0i m1 lm_L_28 dL_law_355 j.1.1.1.i0 j.1.1.1.k0 rfl rfl hc hs ?_
  refine p_aL2 dL_law_358 ?_
  refine p_v0 n1 lm_L_32 dL_law_359 S1.i50 S1.k50 rfl rfl hc hs (fun v h2 e => ?_)
  obtain ⟨rfl, j2⟩ := e
  show lwF PQ L f RC RS (cells + 17) (slots + 307) 362 i v5 v6 [.int r, .int r] h2
  exact p_iceq dL_law_362 (fun _ => x h2 j2) (fun z => absurd rfl z)
theorem w_where (j : J h) (hi : i + 7 ≤ L) (hL : L ≤ 3584) (hc : Nat.ble (cells + 17) RC = true) (hs : Nat.ble (slots + 307) RS = true) (x : ∀ h2, J h2 → lwF PQ L f RC RS (cells + 17) (slots + 307) 1968 i v5 v6 [] h2) : lwF PQ L f RC RS cells slots 367 i v5 v6 [] h := by
  refine p_wide (cells + 17) (slots + 307) (by omega) (by omega) ?_
  obtain ⟨r, h1, m1, S1, n1⟩ := q_where j 
  refine p_aL1 dL_law_367 ?_
  refine pe_v0i m1 lm_L_33 dL_law_368 j.1.1.1.i0 j.1.1.1.k0 rfl rfl hc hs ?_
  refine p_aL2 dL_law_371 ?_
  refine p_v0 n1 lm_L_36 dL_law_372 S1.i50 S1.k50 rfl rfl hc hs (fun v h2 e => ?_)
  obtain ⟨rfl, j2⟩ := e
  show lwF PQ L f RC RS (cells + 17) (slots + 307) 375 i v5 v6 [.int r, .int r] h2
  exact p_iceq dL_law_375 (fun _ => x h2 j2) (fun z => absurd rfl z)
theorem w_pane (j : J h) (hi : i + 7 ≤ L) (hL : L ≤ 3584) (hc : Nat.ble (cells + 17) RC = true) (hs : Nat.ble (slots + 307) RS = true) (x : ∀ h2, J h2 → lwF PQ L f RC RS (cells + 17) (slots + 307) 1968 i v5 v6 [] h2) : lwF PQ L f RC RS cells slots 380 i v5 v6 [] h := by
  refine p_wide (cells + 17) (slots + 307) (by omega) (by omega) ?_
  obtain ⟨r, h1, m1, S1, n1⟩ := q_pane j (f (i + 1)) (f (i + 2))
  refine p_aL1 dL_law_380 ?_
  refine w_arg 1 hi hL (by decide) rfl dL_law_381 dL_law_382 dL_law_384 dL_law_385 dL_law_386 ?_
  refine w_arg 2 hi hL (by decide) rfl dL_law_387 dL_law_388 dL_law_390 dL_law_391 dL_law_392 ?_
  refine pe_v2i m1 lm_L_37 dL_law_393 j.1.1.1.i0 j.1.1.1.k0 rfl rfl hc hs ?_
  refine p_aL2 dL_law_396 ?_
  refine w_arg 1 hi hL (by decide) rfl dL_law_397 dL_law_398 dL_law_400 dL_law_401 dL_law_402 ?_
  refine w_arg 2 hi hL (by decide) rfl dL_law_403 dL_law_404 dL_law_406 dL_law_407 dL_law_408 ?_
  refine p_v2 n1 lm_L_41 dL_law_409 S1.i50 S1.k50 rfl rfl hc hs (fun v h2 e => ?_)
  obtain ⟨rfl, j2⟩ := e
  show lwF PQ L f RC RS (cells + 17) (slots + 307) 412 i v5 v6 [.int r, .int r] h2
  exact p_iceq dL_law_412 (fun _ => x h2 j2) (fun z => absurd rfl z)
theorem w_word (j : J h) (hi : i + 7 ≤ L) (hL : L ≤ 3584) (hc : Nat.ble (cells + 17) RC = true) (hs : Nat.ble (slots + 307) RS = true) (x : ∀ h2, J h2 → lwF PQ L f RC RS (cells + 17) (slots + 307) 1968 i v5 v6 [] h2) : lwF PQ L f RC RS cells slots 417 i v5 v6 [] h := by
  refine p_wide (cells + 17) (slots + 307) (by omega) (by omega) ?_
  obtain ⟨r, h1, m1, S1, n1⟩ := q_word j (f (i + 1))
  refine p_aL1 dL_law_417 ?_
  refine w_arg 1 hi hL (by decide) rfl dL_law_418 dL_law_419 dL_law_421 dL_law_422 dL_law_423 ?_
  refine pe_v1i m1 lm_L_42 dL_law_424 j.1.1.1.i0 j.1.1.1.k0 rfl rfl hc hs ?_
  refine p_aL2 dL_law_427 ?_
  refine w_arg 1 hi hL (by decide) rfl dL_law_428 dL_law_429 dL_law_431 dL_law_432 dL_law_433 ?_
  refine p_v1 n1 lm_L_45 dL_law_434 S1.i50 S1.k50 rfl rfl hc hs (fun v h2 e => ?_)
  obtain ⟨rfl, j2⟩ := e
  show lwF PQ L f RC RS (cells + 17) (slots + 307) 437 i v5 v6 [.int r, .int r] h2
  exact p_iceq dL_law_437 (fun _ => x h2 j2) (fun z => absurd rfl z)
theorem w_view (j : J h) (hi : i + 7 ≤ L) (hL : L ≤ 3584) (hc : Nat.ble (cells + 17) RC = true) (hs : Nat.ble (slots + 307) RS = true) (x : ∀ h2, J h2 → lwF PQ L f RC RS (cells + 17) (slots + 307) 1968 i v5 v6 [] h2) : lwF PQ L f RC RS cells slots 442 i v5 v6 [] h := by
  refine p_wide (cells + 17) (slots + 307) (by omega) (by omega) ?_
  obtain ⟨r, h1, m1, S1, n1⟩ := q_view j (f (i + 1))
  refine p_aL1 dL_law_442 ?_
  refine w_arg 1 hi hL (by decide) rfl dL_law_443 dL_law_444 dL_law_446 dL_law_447 dL_law_448 ?_
  refine pe_v1i m1 lm_L_46 dL_law_449 j.1.1.1.i0 j.1.1.1.k0 rfl rfl hc hs ?_
  refine p_aL2 dL_law_452 ?_
  refine w_arg 1 hi hL (by decide) rfl dL_law_453 dL_law_454 dL_law_456 dL_law_457 dL_law_458 ?_
  refine p_v1 n1 lm_L_49 dL_law_459 S1.i50 S1.k50 rfl rfl hc hs (fun v h2 e => ?_)
  obtain ⟨rfl, j2⟩ := e
  show lwF PQ L f RC RS (cells + 17) (slots + 307) 462 i v5 v6 [.int r, .int r] h2
  exact p_iceq dL_law_462 (fun _ => x h2 j2) (fun z => absurd rfl z)
theorem w_seen (j : J h) (hi : i + 7 ≤ L) (hL : L ≤ 3584) (hc : Nat.ble (cells + 17) RC = true) (hs : Nat.ble (slots + 307) RS = true) (x : ∀ h2, J h2 → lwF PQ L f RC RS (cells + 17) (slots + 307) 1968 i v5 v6 [] h2) : lwF PQ L f RC RS cells slots 467 i v5 v6 [] h := by
  refine p_wide (cells + 17) (slots + 307) (by omega) (by omega) ?_
  obtain ⟨r, h1, m1, S1, n1⟩ := q_seen j (f (i + 1)) (f (i + 2))
  refine p_aL1 dL_law_467 ?_
  refine w_arg 1 hi hL (by decide) rfl dL_law_468 dL_law_469 dL_law_471 dL_law_472 dL_law_473 ?_
  refine w_arg 2 hi hL (by decide) rfl dL_law_474 dL_law_475 dL_law_477 dL_law_478 dL_law_479 ?_
  refine pe_v2i m1 lm_L_50 dL_law_480 j.1.1.1.i0 j.1.1.1.k0 rfl rfl hc hs ?_
  refine p_aL2 dL_law_483 ?_
  refine w_arg 1 hi hL (by decide) rfl dL_law_484 dL_law_485 dL_law_487 dL_law_488 dL_law_489 ?_
  refine w_arg 2 hi hL (by decide) rfl dL_law_490 dL_law_491 dL_law_493 dL_law_494 dL_law_495 ?_
  refine p_v2 n1 lm_L_53 dL_law_496 S1.i50 S1.k50 rfl rfl hc hs (fun v h2 e => ?_)
  obtain ⟨rfl, j2⟩ := e
  show lwF PQ L f RC RS (cells + 17) (slots + 307) 499 i v5 v6 [.int r, .int r] h2
  exact p_iceq dL_law_499 (fun _ => x h2 j2) (fun z => absurd rfl z)
theorem w_read (j : J h) (hi : i + 7 ≤ L) (hL : L ≤ 3584) (hc : Nat.ble (cells + 17) RC = true) (hs : Nat.ble (slots + 307) RS = true) (x : ∀ h2, J h2 → lwF PQ L f RC RS (cells + 17) (slots + 307) 1968 i v5 v6 [] h2) : lwF PQ L f RC RS cells slots 504 i v5 v6 [] h := by
  refine p_wide (cells + 17) (slots + 307) (by omega) (by omega) ?_
  obtain ⟨r, h1, m1, S1, n1⟩ := q_read j (f (i + 1)) (f (i + 2))
  refine p_aL1 dL_law_504 ?_
  refine w_arg 1 hi hL (by decide) rfl dL_law_505 dL_law_506 dL_law_508 dL_law_509 dL_law_510 ?_
  refine w_arg 2 hi hL (by decide) rfl dL_law_511 dL_law_512 dL_law_514 dL_law_515 dL_law_516 ?_
  refine pe_v2i m1 lm_L_54 dL_law_517 j.1.1.1.i0 j.1.1.1.k0 rfl rfl hc hs ?_
  refine p_aL2 dL_law_520 ?_
  refine w_arg 1 hi hL (by decide) rfl dL_law_521 dL_law_522 dL_law_524 dL_law_525 dL_law_526 ?_
  refine w_arg 2 hi hL (by decide) rfl dL_law_527 dL_law_528 dL_law_530 dL_law_531 dL_law_532 ?_
  refine p_v2 n1 lm_L_57 dL_law_533 S1.i50 S1.k50 rfl rfl hc hs (fun v h2 e => ?_)
  obtain ⟨rfl, j2⟩ := e
  show lwF PQ L f RC RS (cells + 17) (slots + 307) 536 i v5 v6 [.int r, .int r] h2
  exact p_iceq dL_law_536 (fun _ => x h2 j2) (fun z => absurd rfl z)
theorem w_together (j : J h) (hi : i + 7 ≤ L) (hL : L ≤ 3584) (hc : Nat.ble (cells + 17) RC = true) (hs : Nat.ble (slots + 307) RS = true) (x : ∀ h2, J h2 → lwF PQ L f RC RS (cells + 17) (slots + 307) 1968 i v5 v6 [] h2) : lwF PQ L f RC RS cells slots 541 i v5 v6 [] h := by
  refine p_wide (cells + 17) (slots + 307) (by omega) (by omega) ?_
  obtain ⟨r, h1, m1, S1, n1⟩ := q_together j (f (i + 1)) (f (i + 2))
  refine p_aL1 dL_law_541 ?_
  refine w_arg 1 hi hL (by decide) rfl dL_law_542 dL_law_543 dL_law_545 dL_law_546 dL_law_547 ?_
  refine w_arg 2 hi hL (by decide) rfl dL_law_548 dL_law_549 dL_law_551 dL_law_552 dL_law_553 ?_
  refine pe_v2i m1 lm_L_58 dL_law_554 j.1.1.1.i0 j.1.1.1.k0 rfl rfl hc hs ?_
  refine p_aL2 dL_law_557 ?_
  refine w_arg 1 hi hL (by decide) rfl dL_law_558 dL_law_559 dL_law_561 dL_law_562 dL_law_563 ?_
  refine w_arg 2 hi hL (by decide) rfl dL_law_564 dL_law_565 dL_law_567 dL_law_568 dL_law_569 ?_
  refine p_v2 n1 lm_L_61 dL_law_570 S1.i50 S1.k50 rfl rfl hc hs (fun v h2 e => ?_)
  obtain ⟨rfl, j2⟩ := e
  show lwF PQ L f RC RS (cells + 17) (slots + 307) 573 i v5 v6 [.int r, .int r] h2
  exact p_iceq dL_law_573 (fun _ => x h2 j2) (fun z => absurd rfl z)
theorem w_readTogether (j : J h) (hi : i + 7 ≤ L) (hL : L ≤ 3584) (hc : Nat.ble (cells + 17) RC = true) (hs : Nat.ble (slots + 307) RS = true) (x : ∀ h2, J h2 → lwF PQ L f RC RS (cells + 17) (slots + 307) 1968 i v5 v6 [] h2) : lwF PQ L f RC RS cells slots 578 i v5 v6 [] h := by
  refine p_wide (cells + 17) (slots + 307) (by omega) (by omega) ?_
  obtain ⟨r, h1, m1, S1, n1⟩ := q_readTogether j (f (i + 1)) (f (i + 2))
  refine p_aL1 dL_law_578 ?_
  refine w_arg 1 hi hL (by decide) rfl dL_law_579 dL_law_580 dL_law_582 dL_law_583 dL_law_584 ?_
  refine w_arg 2 hi hL (by decide) rfl dL_law_585 dL_law_586 dL_law_588 dL_law_589 dL_law_590 ?_
  refine pe_v2i m1 lm_L_62 dL_law_591 j.1.1.1.i0 j.1.1.1.k0 rfl rfl hc hs ?_
  refine p_aL2 dL_law_594 ?_
  refine w_arg 1 hi hL (by decide) rfl dL_law_595 dL_law_596 dL_law_598 dL_law_599 dL_law_600 ?_
  refine w_arg 2 hi hL (by decide) rfl dL_law_601 dL_law_602 dL_law_604 dL_law_605 dL_law_606 ?_
  refine p_v2 n1 lm_L_65 dL_law_607 S1.i50 S1.k50 rfl rfl hc hs (fun v h2 e => ?_)
  obtain ⟨rfl, j2⟩ := e
  show lwF PQ L f RC RS (cells + 17) (slots + 307) 610 i v5 v6 [.int r, .int r] h2
  exact p_iceq dL_law_610 (fun _ => x h2 j2) (fun z => absurd rfl z)
theorem w_viewsFor (j : J h) (hi : i + 7 ≤ L) (hL : L ≤ 3584) (hc : Nat.ble (cells + 17) RC = true) (hs : Nat.ble (slots + 307) RS = true) (x : ∀ h2, J h2 → lwF PQ L f RC RS (cells + 17) (slots + 307) 1968 i v5 v6 [] h2) : lwF PQ L f RC RS cells slots 615 i v5 v6 [] h := by
  refine p_wide (cells + 17) (slots + 307) (by omega) (by omega) ?_
  obtain ⟨r, h1, m1, S1, n1⟩ := q_viewsFor j (f (i + 1)) (f (i + 2))
  refine p_aL1 dL_law_615 ?_
  refine w_arg 1 hi hL (by decide) rfl dL_law_616 dL_law_617 dL_law_619 dL_law_620 dL_law_621 ?_
  refine w_arg 2 hi hL (by decide) rfl dL_law_622 dL_law_623 dL_law_625 dL_law_626 dL_law_627 ?_
  refine pe_v2i m1 lm_L_66 dL_law_628 j.1.1.1.i0 j.1.1.1.k0 rfl rfl hc hs ?_
  refine p_aL2 dL_law_631 ?_
  refine w_arg 1 hi hL (by decide) rfl dL_law_632 dL_law_633 dL_law_635 dL_law_636 dL_law_637 ?_
  refine w_arg 2 hi hL (by decide) rfl dL_law_638 dL_law_639 dL_law_641 dL_law_642 dL_law_643 ?_
  refine p_v2 n1 lm_L_69 dL_law_644 S1.i50 S1.k50 rfl rfl hc hs (fun v h2 e => ?_)
  obtain ⟨rfl, j2⟩ := e
  show lwF PQ L f RC RS (cells + 17) (slots + 307) 647 i v5 v6 [.int r, .int r] h2
  exact p_iceq dL_law_647 (fun _ => x h2 j2) (fun z => absurd rfl z)
end LWS
