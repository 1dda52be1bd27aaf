/-! the law, 2: the cases of the switch -/
abbrev lvL (b x m o i : Nat) : Lv := [(0, .ref b), (1, .ref x), (2, .ref m), (3, .ref o), (4, .int (nI i))]
def bz (x : Int32) : Int32 := if x = 0 then 0 else 1
theorem bz_01 (x : Int32) : bz x = 0 ∨ bz x = 1 := by
  unfold bz
  split
  · exact Or.inl rfl
  · exact Or.inr rfl
abbrev sd (x y : Int32) : Int64 := (x.toInt64 <<< ((32 : Int32).toInt64 &&& 63)) ||| (y.toInt64 &&& 4294967295)
theorem lbool {G : Gam} {d : Nat} {k : Nat × Nat} {Y : MR} {M : Mem} {lv : Lv} {st : List Value} {pc : Nat} {Q : Option Value → Mem → Prop} {x : Int32} (d0 : decode Y.2.1 pc = .ok (.ifCond .eq 7, 3)) (d1 : decode Y.2.1 (pc + 3) = .ok (.iconst 1, 1)) (d2 : decode Y.2.1 (pc + 4) = .ok (.goto 4, 3)) (d3 : decode Y.2.1 (pc + 7) = .ok (.iconst 0, 1)) (kk : XJ G d k Y M lv (.int (bz x) :: st) (pc + 8) Q) : XJ G d k Y M lv (.int x :: st) pc Q := by
  refine x_if_eq (tgt := pc + 7) d0 (by omega) (fun h => ?_) (fun h => ?_)
  · refine x_iconst (v := 0) d3 (by decide) ?_
    have e : bz x = 0 := if_pos h
    rw [e] at kk; exact kk
  · refine x_iconst (v := 1) d1 (by decide) ?_
    refine x_goto (tgt := pc + 8) d2 (by omega) ?_
    have e : bz x = 1 := if_neg h
    rw [e] at kk; exact kk
/-- between two rounds -/
def LwS (G : Gam) (τ ad : Nat → Nat) (o : Nat) (M : Mem) : Prop := ∃ σ κ ω ε Md f, M = L3 τ ad κ σ Md o f ∧ Bn G τ ω ε σ κ Md ∧ D3 τ ad κ σ Md o f
section LAW
variable {G : Gam} {τ ad : Nat → Nat} {b o i g L : Nat} {xs : Nat → Int32} {M : Mem} {Q : Option Value → Mem → Prop}
theorem La_days (hG : GOK G) (hA : adOK ad) (hT : OldT G .int b L (fun j => .int (xs j))) (hL : L ≤ 3584) (hi7 : i + 7 ≤ L) (hS : LwS G τ ad o M) (back : ∀ M', LwS G τ ad o M' → XJ G 101 (3 * g, 810 * g) ML_law M' (lvL b (τ 0) (ad 99) o i) [] 2138 Q) : XJ G 101 (3 * (g + 1), 810 * (g + 1)) ML_law M (lvL b (τ 0) (ad 99) o i) [] 220 Q := by
  obtain ⟨σ, κ, ω, ε, Md, f, rfl, hB, hd⟩ := hS
  refine x_aload_n dL_law_220 rfl rfl ?_
  refine ldg (j := 1) dL_law_221 dL_law_222 dL_law_224 rfl dL_law_225 dL_law_226 rfl rfl hT (by omega) hL ?_
  obtain ⟨a, σN, hc, hm⟩ := pr_days (n := xs (i + 1)) hG hA hB
  refine x_cV1 (b := τ 0) dL_law_227 lv_L_19 (L3_x hB.1.1) rfl rfl rfl (L_cc hc hd (fun κ' ω' ε' Md' hB' hd' => ?_))
  refine x_aload_n dL_law_230 rfl rfl ?_
  refine ldg (j := 1) dL_law_231 dL_law_232 dL_law_234 rfl dL_law_235 dL_law_236 rfl rfl hT (by omega) hL ?_
  refine x_cV1 (b := ad 99) dL_law_237 lv_L_23 (L3_m hd') rfl rfl rfl (L_cm hm hd' (fun σ' hs hd2 => ?_))
  refine x_icmp_eq (tgt := 2138) dL_law_240 (by decide) (fun _ => ?_) (fun h => absurd rfl h)
  exact x_room (k1 := (3 * g, 810 * g)) (by show 3 * g ≤ 3 * (g + 1); omega) (by show 810 * g ≤ 810 * (g + 1); omega) (back _ ⟨σ', κ', ω', ε', Md', f, rfl, Bn_E hs hB', hd2⟩)
theorem La_person (hG : GOK G) (hA : adOK ad) (hT : OldT G .int b L (fun j => .int (xs j))) (hL : L ≤ 3584) (hi7 : i + 7 ≤ L) (hS : LwS G τ ad o M) (back : ∀ M', LwS G τ ad o M' → XJ G 101 (3 * g, 810 * g) ML_law M' (lvL b (τ 0) (ad 99) o i) [] 2138 Q) : XJ G 101 (3 * (g + 1), 810 * (g + 1)) ML_law M (lvL b (τ 0) (ad 99) o i) [] 245 Q := by
  obtain ⟨σ, κ, ω, ε, Md, f, rfl, hB, hd⟩ := hS
  refine x_aload_n dL_law_245 rfl rfl ?_
  refine ldg (j := 1) dL_law_246 dL_law_247 dL_law_249 rfl dL_law_250 dL_law_251 rfl rfl hT (by omega) hL ?_
  refine ldg (j := 2) dL_law_252 dL_law_253 dL_law_255 rfl dL_law_256 dL_law_257 rfl rfl hT (by omega) hL ?_
  refine ldg (j := 3) dL_law_258 dL_law_259 dL_law_261 rfl dL_law_262 dL_law_263 rfl rfl hT (by omega) hL ?_
  obtain ⟨a, σN, hc, hm⟩ := pr_person (a := xs (i + 1)) (b := xs (i + 2)) (c := xs (i + 3)) hG hA hB
  refine x_rV3 (mc := 2) (ms := 410) (b := τ 0) dL_law_264 lv_L_24 (L3_x hB.1.1) rfl rfl rfl ⟨by show 2 ≤ 3 * (g + 1); omega, by show 410 ≤ 810 * (g + 1); omega⟩ (L_cc hc hd (fun κ' ω' ε' Md' hB' hd' => ?_))
  refine x_aload_n dL_law_267 rfl rfl ?_
  refine ldg (j := 1) dL_law_268 dL_law_269 dL_law_271 rfl dL_law_272 dL_law_273 rfl rfl hT (by omega) hL ?_
  refine ldg (j := 2) dL_law_274 dL_law_275 dL_law_277 rfl dL_law_278 dL_law_279 rfl rfl hT (by omega) hL ?_
  refine ldg (j := 3) dL_law_280 dL_law_281 dL_law_283 rfl dL_law_284 dL_law_285 rfl rfl hT (by omega) hL ?_
  refine x_cV3 (b := ad 99) dL_law_286 lv_L_28 (L3_m hd') rfl rfl rfl (L_cm hm hd' (fun σ' hs hd2 => ?_))
  refine x_icmp_eq (tgt := 2138) dL_law_289 (by decide) (fun _ => ?_) (fun h => absurd rfl h)
  exact x_room (k1 := (3 * g, 810 * g)) (by show 3 * g ≤ 3 * (g + 1) - 2; omega) (by show 810 * g ≤ 810 * (g + 1) - 410; omega) (back _ ⟨σ', κ', ω', ε', Md', f, rfl, Bn_E hs hB', hd2⟩)
theorem La_line (hG : GOK G) (hA : adOK ad) (hT : OldT G .int b L (fun j => .int (xs j))) (hL : L ≤ 3584) (hi7 : i + 7 ≤ L) (hS : LwS G τ ad o M) (back : ∀ M', LwS G τ ad o M' → XJ G 101 (3 * g, 810 * g) ML_law M' (lvL b (τ 0) (ad 99) o i) [] 2138 Q) : XJ G 101 (3 * (g + 1), 810 * (g + 1)) ML_law M (lvL b (τ 0) (ad 99) o i) [] 294 Q := by
  obtain ⟨σ, κ, ω, ε, Md, f, rfl, hB, hd⟩ := hS
  refine x_aload_n dL_law_294 rfl rfl ?_
  refine ldg (j := 1) dL_law_295 dL_law_296 dL_law_298 rfl dL_law_299 dL_law_300 rfl rfl hT (by omega) hL ?_
  refine ldg (j := 2) dL_law_301 dL_law_302 dL_law_304 rfl dL_law_305 dL_law_306 rfl rfl hT (by omega) hL ?_
  refine ldg (j := 3) dL_law_307 dL_law_308 dL_law_310 rfl dL_law_311 dL_law_312 rfl rfl hT (by omega) hL ?_
  refine ldg (j := 4) dL_law_313 dL_law_314 dL_law_316 rfl dL_law_317 dL_law_318 rfl rfl hT (by omega) hL ?_
  refine ldg (j := 5) dL_law_319 dL_law_320 dL_law_322 rfl dL_law_323 dL_law_324 rfl rfl hT (by omega) hL ?_
  refine ldg6 (j := 6) dL_law_325 dL_law_326 dL_law_328 rfl dL_law_330 dL_law_331 rfl rfl hT (by omega) hL ?_
  obtain ⟨a, σN, hc, hm⟩ := pr_line (p := xs (i + 1)) (day := xs (i + 2)) (sort := xs (i + 3)) (mood := xs (i + 4)) (say := xs (i + 5)) (src := xs (i + 6)) hG hA hB
  refine x_rV6 (mc := 2) (ms := 410) (b := τ 0) dL_law_332 lv_L_29 (L3_x hB.1.1) rfl rfl rfl ⟨by show 2 ≤ 3 * (g + 1); omega, by show 410 ≤ 810 * (g + 1); omega⟩ (L_cc hc hd (fun κ' ω' ε' Md' hB' hd' => ?_))
  refine x_aload_n dL_law_335 rfl rfl ?_
  refine ldg (j := 1) dL_law_336 dL_law_337 dL_law_339 rfl dL_law_340 dL_law_341 rfl rfl hT (by omega) hL ?_
  refine ldg (j := 2) dL_law_342 dL_law_343 dL_law_345 rfl dL_law_346 dL_law_347 rfl rfl hT (by omega) hL ?_
  refine ldg (j := 3) dL_law_348 dL_law_349 dL_law_351 rfl dL_law_352 dL_law_353 rfl rfl hT (by omega) hL ?_
  refine ldg (j := 4) dL_law_354 dL_law_355 dL_law_357 rfl dL_law_358 dL_law_359 rfl rfl hT (by omega) hL ?_
  refine ldg (j := 5) dL_law_360 dL_law_361 dL_law_363 rfl dL_law_364 dL_law_365 rfl rfl hT (by omega) hL ?_
  refine ldg6 (j := 6) dL_law_366 dL_law_367 dL_law_369 rfl dL_law_371 dL_law_372 rfl rfl hT (by omega) hL ?_
  refine x_cV6 (b := ad 99) dL_law_373 lv_L_33 (L3_m hd') rfl rfl rfl (L_cm hm hd' (fun σ' hs hd2 => ?_))
  refine x_icmp_eq (tgt := 2138) dL_law_376 (by decide) (fun _ => ?_) (fun h => absurd rfl h)
  exact x_room (k1 := (3 * g, 810 * g)) (by show 3 * g ≤ 3 * (g + 1) - 2; omega) (by show 810 * g ≤ 810 * (g + 1) - 410; omega) (back _ ⟨σ', κ', ω', ε', Md', f, rfl, Bn_E hs hB', hd2⟩)
theorem La_stop (hG : GOK G) (hA : adOK ad) (hT : OldT G .int b L (fun j => .int (xs j))) (hL : L ≤ 3584) (hi7 : i + 7 ≤ L) (hS : LwS G τ ad o M) (back : ∀ M', LwS G τ ad o M' → XJ G 101 (3 * g, 810 * g) ML_law M' (lvL b (τ 0) (ad 99) o i) [] 2138 Q) : XJ G 101 (3 * (g + 1), 810 * (g + 1)) ML_law M (lvL b (τ 0) (ad 99) o i) [] 449 Q := by
  obtain ⟨σ, κ, ω, ε, Md, f, rfl, hB, hd⟩ := hS
  refine x_aload_n dL_law_449 rfl rfl ?_
  refine ldg (j := 1) dL_law_450 dL_law_451 dL_law_453 rfl dL_law_454 dL_law_455 rfl rfl hT (by omega) hL ?_
  refine ldg (j := 2) dL_law_456 dL_law_457 dL_law_459 rfl dL_law_460 dL_law_461 rfl rfl hT (by omega) hL ?_
  obtain ⟨a, σN, hc, hm⟩ := pr_stop (a := xs (i + 1)) (b := xs (i + 2)) hG hA hB
  refine x_rV2 (mc := 2) (ms := 410) (b := τ 0) dL_law_462 lv_L_44 (L3_x hB.1.1) rfl rfl rfl ⟨by show 2 ≤ 3 * (g + 1); omega, by show 410 ≤ 810 * (g + 1); omega⟩ (L_cc hc hd (fun κ' ω' ε' Md' hB' hd' => ?_))
  refine x_aload_n dL_law_465 rfl rfl ?_
  refine ldg (j := 1) dL_law_466 dL_law_467 dL_law_469 rfl dL_law_470 dL_law_471 rfl rfl hT (by omega) hL ?_
  refine ldg (j := 2) dL_law_472 dL_law_473 dL_law_475 rfl dL_law_476 dL_law_477 rfl rfl hT (by omega) hL ?_
  refine x_cV2 (b := ad 99) dL_law_478 lv_L_48 (L3_m hd') rfl rfl rfl (L_cm hm hd' (fun σ' hs hd2 => ?_))
  refine x_icmp_eq (tgt := 2138) dL_law_481 (by decide) (fun _ => ?_) (fun h => absurd rfl h)
  exact x_room (k1 := (3 * g, 810 * g)) (by show 3 * g ≤ 3 * (g + 1) - 2; omega) (by show 810 * g ≤ 810 * (g + 1) - 410; omega) (back _ ⟨σ', κ', ω', ε', Md', f, rfl, Bn_E hs hB', hd2⟩)
theorem La_stopped (hG : GOK G) (hA : adOK ad) (hT : OldT G .int b L (fun j => .int (xs j))) (hL : L ≤ 3584) (hi7 : i + 7 ≤ L) (hS : LwS G τ ad o M) (back : ∀ M', LwS G τ ad o M' → XJ G 101 (3 * g, 810 * g) ML_law M' (lvL b (τ 0) (ad 99) o i) [] 2138 Q) : XJ G 101 (3 * (g + 1), 810 * (g + 1)) ML_law M (lvL b (τ 0) (ad 99) o i) [] 486 Q := by
  obtain ⟨σ, κ, ω, ε, Md, f, rfl, hB, hd⟩ := hS
  refine x_aload_n dL_law_486 rfl rfl ?_
  refine ldg (j := 1) dL_law_487 dL_law_488 dL_law_490 rfl dL_law_491 dL_law_492 rfl rfl hT (by omega) hL ?_
  refine ldg (j := 2) dL_law_493 dL_law_494 dL_law_496 rfl dL_law_497 dL_law_498 rfl rfl hT (by omega) hL ?_
  obtain ⟨a, σN, hc, hm⟩ := pr_stopped (p := xs (i + 1)) (q := xs (i + 2)) hG hA hB
  refine x_cV2 (b := τ 0) dL_law_499 lv_L_49 (L3_x hB.1.1) rfl rfl rfl (L_cc hc hd (fun κ' ω' ε' Md' hB' hd' => ?_))
  refine x_aload_n dL_law_502 rfl rfl ?_
  refine ldg (j := 1) dL_law_503 dL_law_504 dL_law_506 rfl dL_law_507 dL_law_508 rfl rfl hT (by omega) hL ?_
  refine ldg (j := 2) dL_law_509 dL_law_510 dL_law_512 rfl dL_law_513 dL_law_514 rfl rfl hT (by omega) hL ?_
  refine x_cV2 (b := ad 99) dL_law_515 lv_L_52 (L3_m hd') rfl rfl rfl (L_cm hm hd' (fun σ' hs hd2 => ?_))
  refine x_icmp_eq (tgt := 2138) dL_law_518 (by decide) (fun _ => ?_) (fun h => absurd rfl h)
  exact x_room (k1 := (3 * g, 810 * g)) (by show 3 * g ≤ 3 * (g + 1); omega) (by show 810 * g ≤ 810 * (g + 1); omega) (back _ ⟨σ', κ', ω', ε', Md', f, rfl, Bn_E hs hB', hd2⟩)
theorem La_feed (hG : GOK G) (hA : adOK ad) (hT : OldT G .int b L (fun j => .int (xs j))) (hL : L ≤ 3584) (hi7 : i + 7 ≤ L) (hS : LwS G τ ad o M) (back : ∀ M', LwS G τ ad o M' → XJ G 101 (3 * g, 810 * g) ML_law M' (lvL b (τ 0) (ad 99) o i) [] 2138 Q) : XJ G 101 (3 * (g + 1), 810 * (g + 1)) ML_law M (lvL b (τ 0) (ad 99) o i) [] 523 Q := by
  obtain ⟨σ, κ, ω, ε, Md, f, rfl, hB, hd⟩ := hS
  refine x_aload_n dL_law_523 rfl rfl ?_
  refine ldg (j := 1) dL_law_524 dL_law_525 dL_law_527 rfl dL_law_528 dL_law_529 rfl rfl hT (by omega) hL ?_
  refine ldg (j := 2) dL_law_530 dL_law_531 dL_law_533 rfl dL_law_534 dL_law_535 rfl rfl hT (by omega) hL ?_
  refine ldg (j := 3) dL_law_536 dL_law_537 dL_law_539 rfl dL_law_540 dL_law_541 rfl rfl hT (by omega) hL ?_
  refine ldg (j := 4) dL_law_542 dL_law_543 dL_law_545 rfl dL_law_546 dL_law_547 rfl rfl hT (by omega) hL ?_
  refine ldg (j := 5) dL_law_548 dL_law_549 dL_law_551 rfl dL_law_552 dL_law_553 rfl rfl hT (by omega) hL ?_
  obtain ⟨a, σN, hc, hm⟩ := pr_feed (a := xs (i + 1)) (b := xs (i + 2)) (c := xs (i + 3)) (e := xs (i + 4)) (f := xs (i + 5)) hG hA hB
  refine x_cV5 (b := τ 0) dL_law_554 lv_L_53 (L3_x hB.1.1) rfl rfl rfl (L_cc hc hd (fun κ' ω' ε' Md' hB' hd' => ?_))
  refine x_aload_n dL_law_557 rfl rfl ?_
  refine ldg (j := 1) dL_law_558 dL_law_559 dL_law_561 rfl dL_law_562 dL_law_563 rfl rfl hT (by omega) hL ?_
  refine ldg (j := 2) dL_law_564 dL_law_565 dL_law_567 rfl dL_law_568 dL_law_569 rfl rfl hT (by omega) hL ?_
  refine ldg (j := 3) dL_law_570 dL_law_571 dL_law_573 rfl dL_law_574 dL_law_575 rfl rfl hT (by omega) hL ?_
  refine ldg (j := 4) dL_law_576 dL_law_577 dL_law_579 rfl dL_law_580 dL_law_581 rfl rfl hT (by omega) hL ?_
  refine ldg (j := 5) dL_law_582 dL_law_583 dL_law_585 rfl dL_law_586 dL_law_587 rfl rfl hT (by omega) hL ?_
  refine x_cV5 (b := ad 99) dL_law_588 lv_L_57 (L3_m hd') rfl rfl rfl (L_cm hm hd' (fun σ' hs hd2 => ?_))
  refine x_icmp_eq (tgt := 2138) dL_law_591 (by decide) (fun _ => ?_) (fun h => absurd rfl h)
  exact x_room (k1 := (3 * g, 810 * g)) (by show 3 * g ≤ 3 * (g + 1); omega) (by show 810 * g ≤ 810 * (g + 1); omega) (back _ ⟨σ', κ', ω', ε', Md', f, rfl, Bn_E hs hB', hd2⟩)
theorem La_end (hG : GOK G) (hA : adOK ad) (hT : OldT G .int b L (fun j => .int (xs j))) (hL : L ≤ 3584) (hi7 : i + 7 ≤ L) (hS : LwS G τ ad o M) (back : ∀ M', LwS G τ ad o M' → XJ G 101 (3 * g, 810 * g) ML_law M' (lvL b (τ 0) (ad 99) o i) [] 2138 Q) : XJ G 101 (3 * (g + 1), 810 * (g + 1)) ML_law M (lvL b (τ 0) (ad 99) o i) [] 596 Q := by
  obtain ⟨σ, κ, ω, ε, Md, f, rfl, hB, hd⟩ := hS
  refine x_aload_n dL_law_596 rfl rfl ?_
  refine ldg (j := 1) dL_law_597 dL_law_598 dL_law_600 rfl dL_law_601 dL_law_602 rfl rfl hT (by omega) hL ?_
  obtain ⟨a, σN, hc, hm⟩ := pr_end (n := xs (i + 1)) hG hA hB
  refine x_cV1 (b := τ 0) dL_law_603 lv_L_58 (L3_x hB.1.1) rfl rfl rfl (L_cc hc hd (fun κ' ω' ε' Md' hB' hd' => ?_))
  refine x_aload_n dL_law_606 rfl rfl ?_
  refine ldg (j := 1) dL_law_607 dL_law_608 dL_law_610 rfl dL_law_611 dL_law_612 rfl rfl hT (by omega) hL ?_
  refine x_cV1 (b := ad 99) dL_law_613 lv_L_62 (L3_m hd') rfl rfl rfl (L_cm hm hd' (fun σ' hs hd2 => ?_))
  refine x_icmp_eq (tgt := 2138) dL_law_616 (by decide) (fun _ => ?_) (fun h => absurd rfl h)
  exact x_room (k1 := (3 * g, 810 * g)) (by show 3 * g ≤ 3 * (g + 1); omega) (by show 810 * g ≤ 810 * (g + 1); omega) (back _ ⟨σ', κ', ω', ε', Md', f, rfl, Bn_E hs hB', hd2⟩)
theorem La_fault (hG : GOK G) (hA : adOK ad) (hT : OldT G .int b L (fun j => .int (xs j))) (hL : L ≤ 3584) (hi7 : i + 7 ≤ L) (hS : LwS G τ ad o M) (back : ∀ M', LwS G τ ad o M' → XJ G 101 (3 * g, 810 * g) ML_law M' (lvL b (τ 0) (ad 99) o i) [] 2138 Q) : XJ G 101 (3 * (g + 1), 810 * (g + 1)) ML_law M (lvL b (τ 0) (ad 99) o i) [] 621 Q := by
  obtain ⟨σ, κ, ω, ε, Md, f, rfl, hB, hd⟩ := hS
  refine x_aload_n dL_law_621 rfl rfl ?_
  obtain ⟨a, σN, hc, hm⟩ := pr_fault hG hA hB
  refine x_cV0 (b := τ 0) dL_law_622 lv_L_63 (L3_x hB.1.1) rfl rfl rfl (L_cc hc hd (fun κ' ω' ε' Md' hB' hd' => ?_))
  refine x_aload_n dL_law_625 rfl rfl ?_
  refine x_cV0 (b := ad 99) dL_law_626 lv_L_66 (L3_m hd') rfl rfl rfl (L_cm hm hd' (fun σ' hs hd2 => ?_))
  refine x_icmp_eq (tgt := 2138) dL_law_629 (by decide) (fun _ => ?_) (fun h => absurd rfl h)
  exact x_room (k1 := (3 * g, 810 * g)) (by show 3 * g ≤ 3 * (g + 1); omega) (by show 810 * g ≤ 810 * (g + 1); omega) (back _ ⟨σ', κ', ω', ε', Md', f, rfl, Bn_E hs hB', hd2⟩)
theorem La_rule (hG : GOK G) (hA : adOK ad) (hT : OldT G .int b L (fun j => .int (xs j))) (hL : L ≤ 3584) (hi7 : i + 7 ≤ L) (hS : LwS G τ ad o M) (back : ∀ M', LwS G τ ad o M' → XJ G 101 (3 * g, 810 * g) ML_law M' (lvL b (τ 0) (ad 99) o i) [] 2138 Q) : XJ G 101 (3 * (g + 1), 810 * (g + 1)) ML_law M (lvL b (τ 0) (ad 99) o i) [] 634 Q := by
  obtain ⟨σ, κ, ω, ε, Md, f, rfl, hB, hd⟩ := hS
  refine x_aload_n dL_law_634 rfl rfl ?_
  refine ldg (j := 1) dL_law_635 dL_law_636 dL_law_638 rfl dL_law_639 dL_law_640 rfl rfl hT (by omega) hL ?_
  obtain ⟨a, σN, hc, hm⟩ := pr_rule (fr := xs (i + 1)) hG hA hB
  refine x_rV1 (mc := 3) (ms := 810) (b := τ 0) dL_law_641 lv_L_67 (L3_x hB.1.1) rfl rfl rfl ⟨by show 3 ≤ 3 * (g + 1); omega, by show 810 ≤ 810 * (g + 1); omega⟩ (L_cc hc hd (fun κ' ω' ε' Md' hB' hd' => ?_))
  refine x_aload_n dL_law_644 rfl rfl ?_
  refine ldg (j := 1) dL_law_645 dL_law_646 dL_law_648 rfl dL_law_649 dL_law_650 rfl rfl hT (by omega) hL ?_
  refine x_cV1 (b := ad 99) dL_law_651 lv_L_70 (L3_m hd') rfl rfl rfl (L_cm hm hd' (fun σ' hs hd2 => ?_))
  refine x_icmp_eq (tgt := 2138) dL_law_654 (by decide) (fun _ => ?_) (fun h => absurd rfl h)
  exact x_room (k1 := (3 * g, 810 * g)) (by show 3 * g ≤ 3 * (g + 1) - 3; omega) (by show 810 * g ≤ 810 * (g + 1) - 810; omega) (back _ ⟨σ', κ', ω', ε', Md', f, rfl, Bn_E hs hB', hd2⟩)
theorem La_force (hG : GOK G) (hA : adOK ad) (hT : OldT G .int b L (fun j => .int (xs j))) (hL : L ≤ 3584) (hi7 : i + 7 ≤ L) (hS : LwS G τ ad o M) (back : ∀ M', LwS G τ ad o M' → XJ G 101 (3 * g, 810 * g) ML_law M' (lvL b (τ 0) (ad 99) o i) [] 2138 Q) : XJ G 101 (3 * (g + 1), 810 * (g + 1)) ML_law M (lvL b (τ 0) (ad 99) o i) [] 659 Q := by
  obtain ⟨σ, κ, ω, ε, Md, f, rfl, hB, hd⟩ := hS
  refine x_aload_n dL_law_659 rfl rfl ?_
  refine ldg (j := 1) dL_law_660 dL_law_661 dL_law_663 rfl dL_law_664 dL_law_665 rfl rfl hT (by omega) hL ?_
  refine ldg (j := 2) dL_law_666 dL_law_667 dL_law_669 rfl dL_law_670 dL_law_671 rfl rfl hT (by omega) hL ?_
  obtain ⟨a, σN, hc, hm⟩ := pr_force (day := xs (i + 1)) (q := xs (i + 2)) hG hA hB
  refine x_cV2 (b := τ 0) dL_law_672 lv_L_71 (L3_x hB.1.1) rfl rfl rfl (L_cc hc hd (fun κ' ω' ε' Md' hB' hd' => ?_))
  refine x_aload_n dL_law_675 rfl rfl ?_
  refine ldg (j := 1) dL_law_676 dL_law_677 dL_law_679 rfl dL_law_680 dL_law_681 rfl rfl hT (by omega) hL ?_
  refine ldg (j := 2) dL_law_682 dL_law_683 dL_law_685 rfl dL_law_686 dL_law_687 rfl rfl hT (by omega) hL ?_
  refine x_cV2 (b := ad 99) dL_law_688 lv_L_74 (L3_m hd') rfl rfl rfl (L_cm hm hd' (fun σ' hs hd2 => ?_))
  refine x_icmp_eq (tgt := 2138) dL_law_691 (by decide) (fun _ => ?_) (fun h => absurd rfl h)
  exact x_room (k1 := (3 * g, 810 * g)) (by show 3 * g ≤ 3 * (g + 1); omega) (by show 810 * g ≤ 810 * (g + 1); omega) (back _ ⟨σ', κ', ω', ε', Md', f, rfl, Bn_E hs hB', hd2⟩)
theorem La_asked (hG : GOK G) (hA : adOK ad) (hT : OldT G .int b L (fun j => .int (xs j))) (hL : L ≤ 3584) (hi7 : i + 7 ≤ L) (hS : LwS G τ ad o M) (back : ∀ M', LwS G τ ad o M' → XJ G 101 (3 * g, 810 * g) ML_law M' (lvL b (τ 0) (ad 99) o i) [] 2138 Q) : XJ G 101 (3 * (g + 1), 810 * (g + 1)) ML_law M (lvL b (τ 0) (ad 99) o i) [] 696 Q := by
  obtain ⟨σ, κ, ω, ε, Md, f, rfl, hB, hd⟩ := hS
  refine x_aload_n dL_law_696 rfl rfl ?_
  refine ldg (j := 1) dL_law_697 dL_law_698 dL_law_700 rfl dL_law_701 dL_law_702 rfl rfl hT (by omega) hL ?_
  refine ldg (j := 2) dL_law_703 dL_law_704 dL_law_706 rfl dL_law_707 dL_law_708 rfl rfl hT (by omega) hL ?_
  refine ldg (j := 3) dL_law_709 dL_law_710 dL_law_712 rfl dL_law_713 dL_law_714 rfl rfl hT (by omega) hL ?_
  refine ldg (j := 4) dL_law_715 dL_law_716 dL_law_718 rfl dL_law_719 dL_law_720 rfl rfl hT (by omega) hL ?_
  obtain ⟨a, σN, hc, hm⟩ := pr_asked (p := xs (i + 1)) (day := xs (i + 2)) (sort := xs (i + 3)) (q := xs (i + 4)) hG hA hB
  refine x_cV4 (b := τ 0) dL_law_721 lv_L_75 (L3_x hB.1.1) rfl rfl rfl (L_cc hc hd (fun κ' ω' ε' Md' hB' hd' => ?_))
  refine x_aload_n dL_law_724 rfl rfl ?_
  refine ldg (j := 1) dL_law_725 dL_law_726 dL_law_728 rfl dL_law_729 dL_law_730 rfl rfl hT (by omega) hL ?_
  refine ldg (j := 2) dL_law_731 dL_law_732 dL_law_734 rfl dL_law_735 dL_law_736 rfl rfl hT (by omega) hL ?_
  refine ldg (j := 3) dL_law_737 dL_law_738 dL_law_740 rfl dL_law_741 dL_law_742 rfl rfl hT (by omega) hL ?_
  refine ldg (j := 4) dL_law_743 dL_law_744 dL_law_746 rfl dL_law_747 dL_law_748 rfl rfl hT (by omega) hL ?_
  refine x_cV4 (b := ad 99) dL_law_749 lv_L_79 (L3_m hd') rfl rfl rfl (L_cm hm hd' (fun σ' hs hd2 => ?_))
  refine x_icmp_eq (tgt := 2138) dL_law_752 (by decide) (fun _ => ?_) (fun h => absurd rfl h)
  exact x_room (k1 := (3 * g, 810 * g)) (by show 3 * g ≤ 3 * (g + 1); omega) (by show 810 * g ≤ 810 * (g + 1); omega) (back _ ⟨σ', κ', ω', ε', Md', f, rfl, Bn_E hs hB', hd2⟩)
theorem La_shown (hG : GOK G) (hA : adOK ad) (hT : OldT G .int b L (fun j => .int (xs j))) (hL : L ≤ 3584) (hi7 : i + 7 ≤ L) (hS : LwS G τ ad o M) (back : ∀ M', LwS G τ ad o M' → XJ G 101 (3 * g, 810 * g) ML_law M' (lvL b (τ 0) (ad 99) o i) [] 2138 Q) : XJ G 101 (3 * (g + 1), 810 * (g + 1)) ML_law M (lvL b (τ 0) (ad 99) o i) [] 757 Q := by
  obtain ⟨σ, κ, ω, ε, Md, f, rfl, hB, hd⟩ := hS
  refine x_aload_n dL_law_757 rfl rfl ?_
  refine ldg (j := 1) dL_law_758 dL_law_759 dL_law_761 rfl dL_law_762 dL_law_763 rfl rfl hT (by omega) hL ?_
  refine ldg (j := 2) dL_law_764 dL_law_765 dL_law_767 rfl dL_law_768 dL_law_769 rfl rfl hT (by omega) hL ?_
  refine ldg (j := 3) dL_law_770 dL_law_771 dL_law_773 rfl dL_law_774 dL_law_775 rfl rfl hT (by omega) hL ?_
  refine ldg (j := 4) dL_law_776 dL_law_777 dL_law_779 rfl dL_law_780 dL_law_781 rfl rfl hT (by omega) hL ?_
  obtain ⟨a, σN, hc, hm⟩ := pr_shown (l := xs (i + 1)) (day := xs (i + 2)) (rank := xs (i + 3)) (q := xs (i + 4)) hG hA hB
  refine x_cV4 (b := τ 0) dL_law_782 lv_L_80 (L3_x hB.1.1) rfl rfl rfl (L_cc hc hd (fun κ' ω' ε' Md' hB' hd' => ?_))
  refine x_aload_n dL_law_785 rfl rfl ?_
  refine ldg (j := 1) dL_law_786 dL_law_787 dL_law_789 rfl dL_law_790 dL_law_791 rfl rfl hT (by omega) hL ?_
  refine ldg (j := 2) dL_law_792 dL_law_793 dL_law_795 rfl dL_law_796 dL_law_797 rfl rfl hT (by omega) hL ?_
  refine ldg (j := 3) dL_law_798 dL_law_799 dL_law_801 rfl dL_law_802 dL_law_803 rfl rfl hT (by omega) hL ?_
  refine ldg (j := 4) dL_law_804 dL_law_805 dL_law_807 rfl dL_law_808 dL_law_809 rfl rfl hT (by omega) hL ?_
  refine x_cV4 (b := ad 99) dL_law_810 lv_L_83 (L3_m hd') rfl rfl rfl (L_cm hm hd' (fun σ' hs hd2 => ?_))
  refine x_icmp_eq (tgt := 2138) dL_law_813 (by decide) (fun _ => ?_) (fun h => absurd rfl h)
  exact x_room (k1 := (3 * g, 810 * g)) (by show 3 * g ≤ 3 * (g + 1); omega) (by show 810 * g ≤ 810 * (g + 1); omega) (back _ ⟨σ', κ', ω', ε', Md', f, rfl, Bn_E hs hB', hd2⟩)
theorem La_digest (hG : GOK G) (hA : adOK ad) (hT : OldT G .int b L (fun j => .int (xs j))) (hL : L ≤ 3584) (hi7 : i + 7 ≤ L) (hS : LwS G τ ad o M) (back : ∀ M', LwS G τ ad o M' → XJ G 101 (3 * g, 810 * g) ML_law M' (lvL b (τ 0) (ad 99) o i) [] 2138 Q) : XJ G 101 (3 * (g + 1), 810 * (g + 1)) ML_law M (lvL b (τ 0) (ad 99) o i) [] 818 Q := by
  obtain ⟨σ, κ, ω, ε, Md, f, rfl, hB, hd⟩ := hS
  refine x_aload_n dL_law_818 rfl rfl ?_
  refine ldg (j := 1) dL_law_819 dL_law_820 dL_law_822 rfl dL_law_823 dL_law_824 rfl rfl hT (by omega) hL ?_
  refine ldg (j := 2) dL_law_825 dL_law_826 dL_law_828 rfl dL_law_829 dL_law_830 rfl rfl hT (by omega) hL ?_
  refine ldg (j := 3) dL_law_831 dL_law_832 dL_law_834 rfl dL_law_835 dL_law_836 rfl rfl hT (by omega) hL ?_
  refine ldg (j := 4) dL_law_837 dL_law_838 dL_law_840 rfl dL_law_841 dL_law_842 rfl rfl hT (by omega) hL ?_
  refine ldg (j := 5) dL_law_843 dL_law_844 dL_law_846 rfl dL_law_847 dL_law_848 rfl rfl hT (by omega) hL ?_
  obtain ⟨a, σN, hc, hm⟩ := pr_digest (of := xs (i + 1)) (day := xs (i + 2)) (rank := xs (i + 3)) (q := xs (i + 4)) (i := xs (i + 5)) hG hA hB
  refine x_cV5 (b := τ 0) dL_law_849 lv_L_84 (L3_x hB.1.1) rfl rfl rfl (L_cc hc hd (fun κ' ω' ε' Md' hB' hd' => ?_))
  refine x_aload_n dL_law_852 rfl rfl ?_
  refine ldg (j := 1) dL_law_853 dL_law_854 dL_law_856 rfl dL_law_857 dL_law_858 rfl rfl hT (by omega) hL ?_
  refine ldg (j := 2) dL_law_859 dL_law_860 dL_law_862 rfl dL_law_863 dL_law_864 rfl rfl hT (by omega) hL ?_
  refine ldg (j := 3) dL_law_865 dL_law_866 dL_law_868 rfl dL_law_869 dL_law_870 rfl rfl hT (by omega) hL ?_
  refine ldg (j := 4) dL_law_871 dL_law_872 dL_law_874 rfl dL_law_875 dL_law_876 rfl rfl hT (by omega) hL ?_
  refine ldg (j := 5) dL_law_877 dL_law_878 dL_law_880 rfl dL_law_881 dL_law_882 rfl rfl hT (by omega) hL ?_
  refine x_cV5 (b := ad 99) dL_law_883 lv_L_87 (L3_m hd') rfl rfl rfl (L_cm hm hd' (fun σ' hs hd2 => ?_))
  refine x_icmp_eq (tgt := 2138) dL_law_886 (by decide) (fun _ => ?_) (fun h => absurd rfl h)
  exact x_room (k1 := (3 * g, 810 * g)) (by show 3 * g ≤ 3 * (g + 1); omega) (by show 810 * g ≤ 810 * (g + 1); omega) (back _ ⟨σ', κ', ω', ε', Md', f, rfl, Bn_E hs hB', hd2⟩)
theorem La_left (hG : GOK G) (hA : adOK ad) (hT : OldT G .int b L (fun j => .int (xs j))) (hL : L ≤ 3584) (hi7 : i + 7 ≤ L) (hS : LwS G τ ad o M) (back : ∀ M', LwS G τ ad o M' → XJ G 101 (3 * g, 810 * g) ML_law M' (lvL b (τ 0) (ad 99) o i) [] 2138 Q) : XJ G 101 (3 * (g + 1), 810 * (g + 1)) ML_law M (lvL b (τ 0) (ad 99) o i) [] 891 Q := by
  obtain ⟨σ, κ, ω, ε, Md, f, rfl, hB, hd⟩ := hS
  refine x_aload_n dL_law_891 rfl rfl ?_
  refine ldg (j := 1) dL_law_892 dL_law_893 dL_law_895 rfl dL_law_896 dL_law_897 rfl rfl hT (by omega) hL ?_
  refine ldg (j := 2) dL_law_898 dL_law_899 dL_law_901 rfl dL_law_902 dL_law_903 rfl rfl hT (by omega) hL ?_
  refine ldg (j := 3) dL_law_904 dL_law_905 dL_law_907 rfl dL_law_908 dL_law_909 rfl rfl hT (by omega) hL ?_
  refine ldg (j := 4) dL_law_910 dL_law_911 dL_law_913 rfl dL_law_914 dL_law_915 rfl rfl hT (by omega) hL ?_
  obtain ⟨a, σN, hc, hm⟩ := pr_left (of := xs (i + 1)) (day := xs (i + 2)) (rank := xs (i + 3)) (q := xs (i + 4)) hG hA hB
  refine x_cV4 (b := τ 0) dL_law_916 lv_L_88 (L3_x hB.1.1) rfl rfl rfl (L_cc hc hd (fun κ' ω' ε' Md' hB' hd' => ?_))
  refine x_aload_n dL_law_919 rfl rfl ?_
  refine ldg (j := 1) dL_law_920 dL_law_921 dL_law_923 rfl dL_law_924 dL_law_925 rfl rfl hT (by omega) hL ?_
  refine ldg (j := 2) dL_law_926 dL_law_927 dL_law_929 rfl dL_law_930 dL_law_931 rfl rfl hT (by omega) hL ?_
  refine ldg (j := 3) dL_law_932 dL_law_933 dL_law_935 rfl dL_law_936 dL_law_937 rfl rfl hT (by omega) hL ?_
  refine ldg (j := 4) dL_law_938 dL_law_939 dL_law_941 rfl dL_law_942 dL_law_943 rfl rfl hT (by omega) hL ?_
  refine x_cV4 (b := ad 99) dL_law_944 lv_L_91 (L3_m hd') rfl rfl rfl (L_cm hm hd' (fun σ' hs hd2 => ?_))
  refine x_icmp_eq (tgt := 2138) dL_law_947 (by decide) (fun _ => ?_) (fun h => absurd rfl h)
  exact x_room (k1 := (3 * g, 810 * g)) (by show 3 * g ≤ 3 * (g + 1); omega) (by show 810 * g ≤ 810 * (g + 1); omega) (back _ ⟨σ', κ', ω', ε', Md', f, rfl, Bn_E hs hB', hd2⟩)
theorem La_happen (hG : GOK G) (hA : adOK ad) (hT : OldT G .int b L (fun j => .int (xs j))) (hL : L ≤ 3584) (hi7 : i + 7 ≤ L) (hS : LwS G τ ad o M) (back : ∀ M', LwS G τ ad o M' → XJ G 101 (3 * g, 810 * g) ML_law M' (lvL b (τ 0) (ad 99) o i) [] 2138 Q) : XJ G 101 (3 * (g + 1), 810 * (g + 1)) ML_law M (lvL b (τ 0) (ad 99) o i) [] 952 Q := by
  obtain ⟨σ, κ, ω, ε, Md, f, rfl, hB, hd⟩ := hS
  refine x_aload_n dL_law_952 rfl rfl ?_
  refine ldg (j := 1) dL_law_953 dL_law_954 dL_law_956 rfl dL_law_957 dL_law_958 rfl rfl hT (by omega) hL ?_
  refine ldg (j := 2) dL_law_959 dL_law_960 dL_law_962 rfl dL_law_963 dL_law_964 rfl rfl hT (by omega) hL ?_
  refine ldg (j := 3) dL_law_965 dL_law_966 dL_law_968 rfl dL_law_969 dL_law_970 rfl rfl hT (by omega) hL ?_
  refine ldg (j := 4) dL_law_971 dL_law_972 dL_law_974 rfl dL_law_975 dL_law_976 rfl rfl hT (by omega) hL ?_
  refine lbool dL_law_977 dL_law_980 dL_law_981 dL_law_984 ?_
  obtain ⟨a, σN, hc, hm⟩ := pr_happen (a := xs (i + 1)) (b := xs (i + 2)) (c := xs (i + 3)) (z := bz (xs (i + 4))) (hz := bz_01 _) hG hA hB
  refine x_rV4 (mc := 2) (ms := 410) (b := τ 0) dL_law_985 lv_L_92 (L3_x hB.1.1) rfl rfl rfl ⟨by show 2 ≤ 3 * (g + 1); omega, by show 410 ≤ 810 * (g + 1); omega⟩ (L_cc hc hd (fun κ' ω' ε' Md' hB' hd' => ?_))
  refine x_aload_n dL_law_988 rfl rfl ?_
  refine ldg (j := 1) dL_law_989 dL_law_990 dL_law_992 rfl dL_law_993 dL_law_994 rfl rfl hT (by omega) hL ?_
  refine ldg (j := 2) dL_law_995 dL_law_996 dL_law_998 rfl dL_law_999 dL_law_1000 rfl rfl hT (by omega) hL ?_
  refine ldg (j := 3) dL_law_1001 dL_law_1002 dL_law_1004 rfl dL_law_1005 dL_law_1006 rfl rfl hT (by omega) hL ?_
  refine ldg (j := 4) dL_law_1007 dL_law_1008 dL_law_1010 rfl dL_law_1011 dL_law_1012 rfl rfl hT (by omega) hL ?_
  refine lbool dL_law_1013 dL_law_1016 dL_law_1017 dL_law_1020 ?_
  refine x_cV4 (b := ad 99) dL_law_1021 lv_L_96 (L3_m hd') rfl rfl rfl (L_cm hm hd' (fun σ' hs hd2 => ?_))
  refine x_icmp_eq (tgt := 2138) dL_law_1024 (by decide) (fun _ => ?_) (fun h => absurd rfl h)
  exact x_room (k1 := (3 * g, 810 * g)) (by show 3 * g ≤ 3 * (g + 1) - 2; omega) (by show 810 * g ≤ 810 * (g + 1) - 410; omega) (back _ ⟨σ', κ', ω', ε', Md', f, rfl, Bn_E hs hB', hd2⟩)
theorem La_truth (hG : GOK G) (hA : adOK ad) (hT : OldT G .int b L (fun j => .int (xs j))) (hL : L ≤ 3584) (hi7 : i + 7 ≤ L) (hS : LwS G τ ad o M) (back : ∀ M', LwS G τ ad o M' → XJ G 101 (3 * g, 810 * g) ML_law M' (lvL b (τ 0) (ad 99) o i) [] 2138 Q) : XJ G 101 (3 * (g + 1), 810 * (g + 1)) ML_law M (lvL b (τ 0) (ad 99) o i) [] 1029 Q := by
  obtain ⟨σ, κ, ω, ε, Md, f, rfl, hB, hd⟩ := hS
  refine x_aload_n dL_law_1029 rfl rfl ?_
  refine ldg (j := 1) dL_law_1030 dL_law_1031 dL_law_1033 rfl dL_law_1034 dL_law_1035 rfl rfl hT (by omega) hL ?_
  refine ldg (j := 2) dL_law_1036 dL_law_1037 dL_law_1039 rfl dL_law_1040 dL_law_1041 rfl rfl hT (by omega) hL ?_
  obtain ⟨a, σN, hc, hm⟩ := pr_truth (l := xs (i + 1)) (q := xs (i + 2)) hG hA hB
  refine x_cV2 (b := τ 0) dL_law_1042 lv_L_97 (L3_x hB.1.1) rfl rfl rfl (L_cc hc hd (fun κ' ω' ε' Md' hB' hd' => ?_))
  refine x_aload_n dL_law_1045 rfl rfl ?_
  refine ldg (j := 1) dL_law_1046 dL_law_1047 dL_law_1049 rfl dL_law_1050 dL_law_1051 rfl rfl hT (by omega) hL ?_
  refine ldg (j := 2) dL_law_1052 dL_law_1053 dL_law_1055 rfl dL_law_1056 dL_law_1057 rfl rfl hT (by omega) hL ?_
  refine x_cV2 (b := ad 99) dL_law_1058 lv_L_100 (L3_m hd') rfl rfl rfl (L_cm hm hd' (fun σ' hs hd2 => ?_))
  refine x_icmp_eq (tgt := 2138) dL_law_1061 (by decide) (fun _ => ?_) (fun h => absurd rfl h)
  exact x_room (k1 := (3 * g, 810 * g)) (by show 3 * g ≤ 3 * (g + 1); omega) (by show 810 * g ≤ 810 * (g + 1); omega) (back _ ⟨σ', κ', ω', ε', Md', f, rfl, Bn_E hs hB', hd2⟩)
theorem La_way (hG : GOK G) (hA : adOK ad) (hT : OldT G .int b L (fun j => .int (xs j))) (hL : L ≤ 3584) (hi7 : i + 7 ≤ L) (hS : LwS G τ ad o M) (back : ∀ M', LwS G τ ad o M' → XJ G 101 (3 * g, 810 * g) ML_law M' (lvL b (τ 0) (ad 99) o i) [] 2138 Q) : XJ G 101 (3 * (g + 1), 810 * (g + 1)) ML_law M (lvL b (τ 0) (ad 99) o i) [] 1066 Q := by
  obtain ⟨σ, κ, ω, ε, Md, f, rfl, hB, hd⟩ := hS
  refine x_aload_n dL_law_1066 rfl rfl ?_
  refine ldg (j := 1) dL_law_1067 dL_law_1068 dL_law_1070 rfl dL_law_1071 dL_law_1072 rfl rfl hT (by omega) hL ?_
  refine ldg (j := 2) dL_law_1073 dL_law_1074 dL_law_1076 rfl dL_law_1077 dL_law_1078 rfl rfl hT (by omega) hL ?_
  refine ldg (j := 3) dL_law_1079 dL_law_1080 dL_law_1082 rfl dL_law_1083 dL_law_1084 rfl rfl hT (by omega) hL ?_
  refine ldg (j := 4) dL_law_1085 dL_law_1086 dL_law_1088 rfl dL_law_1089 dL_law_1090 rfl rfl hT (by omega) hL ?_
  obtain ⟨a, σN, hc, hm⟩ := pr_way (p := xs (i + 1)) (say := xs (i + 2)) (q := xs (i + 3)) (what := xs (i + 4)) hG hA hB
  refine x_cV4 (b := τ 0) dL_law_1091 lv_L_101 (L3_x hB.1.1) rfl rfl rfl (L_cc hc hd (fun κ' ω' ε' Md' hB' hd' => ?_))
  refine x_aload_n dL_law_1094 rfl rfl ?_
  refine ldg (j := 1) dL_law_1095 dL_law_1096 dL_law_1098 rfl dL_law_1099 dL_law_1100 rfl rfl hT (by omega) hL ?_
  refine ldg (j := 2) dL_law_1101 dL_law_1102 dL_law_1104 rfl dL_law_1105 dL_law_1106 rfl rfl hT (by omega) hL ?_
  refine ldg (j := 3) dL_law_1107 dL_law_1108 dL_law_1110 rfl dL_law_1111 dL_law_1112 rfl rfl hT (by omega) hL ?_
  refine ldg (j := 4) dL_law_1113 dL_law_1114 dL_law_1116 rfl dL_law_1117 dL_law_1118 rfl rfl hT (by omega) hL ?_
  refine x_cV4 (b := ad 99) dL_law_1119 lv_L_104 (L3_m hd') rfl rfl rfl (L_cm hm hd' (fun σ' hs hd2 => ?_))
  refine x_icmp_eq (tgt := 2138) dL_law_1122 (by decide) (fun _ => ?_) (fun h => absurd rfl h)
  exact x_room (k1 := (3 * g, 810 * g)) (by show 3 * g ≤ 3 * (g + 1); omega) (by show 810 * g ≤ 810 * (g + 1); omega) (back _ ⟨σ', κ', ω', ε', Md', f, rfl, Bn_E hs hB', hd2⟩)
theorem La_bearers (hG : GOK G) (hA : adOK ad) (hT : OldT G .int b L (fun j => .int (xs j))) (hL : L ≤ 3584) (hi7 : i + 7 ≤ L) (hS : LwS G τ ad o M) (back : ∀ M', LwS G τ ad o M' → XJ G 101 (3 * g, 810 * g) ML_law M' (lvL b (τ 0) (ad 99) o i) [] 2138 Q) : XJ G 101 (3 * (g + 1), 810 * (g + 1)) ML_law M (lvL b (τ 0) (ad 99) o i) [] 1127 Q := by
  obtain ⟨σ, κ, ω, ε, Md, f, rfl, hB, hd⟩ := hS
  refine x_aload_n dL_law_1127 rfl rfl ?_
  refine ldg (j := 1) dL_law_1128 dL_law_1129 dL_law_1131 rfl dL_law_1132 dL_law_1133 rfl rfl hT (by omega) hL ?_
  refine ldg (j := 2) dL_law_1134 dL_law_1135 dL_law_1137 rfl dL_law_1138 dL_law_1139 rfl rfl hT (by omega) hL ?_
  obtain ⟨a, σN, hc, hm⟩ := pr_bearers (say := xs (i + 1)) (q := xs (i + 2)) hG hA hB
  refine x_cV2 (b := τ 0) dL_law_1140 lv_L_105 (L3_x hB.1.1) rfl rfl rfl (L_cc hc hd (fun κ' ω' ε' Md' hB' hd' => ?_))
  refine x_aload_n dL_law_1143 rfl rfl ?_
  refine ldg (j := 1) dL_law_1144 dL_law_1145 dL_law_1147 rfl dL_law_1148 dL_law_1149 rfl rfl hT (by omega) hL ?_
  refine ldg (j := 2) dL_law_1150 dL_law_1151 dL_law_1153 rfl dL_law_1154 dL_law_1155 rfl rfl hT (by omega) hL ?_
  refine x_cV2 (b := ad 99) dL_law_1156 lv_L_108 (L3_m hd') rfl rfl rfl (L_cm hm hd' (fun σ' hs hd2 => ?_))
  refine x_icmp_eq (tgt := 2138) dL_law_1159 (by decide) (fun _ => ?_) (fun h => absurd rfl h)
  exact x_room (k1 := (3 * g, 810 * g)) (by show 3 * g ≤ 3 * (g + 1); omega) (by show 810 * g ≤ 810 * (g + 1); omega) (back _ ⟨σ', κ', ω', ε', Md', f, rfl, Bn_E hs hB', hd2⟩)
theorem La_mark (hG : GOK G) (hA : adOK ad) (hT : OldT G .int b L (fun j => .int (xs j))) (hL : L ≤ 3584) (hi7 : i + 7 ≤ L) (hS : LwS G τ ad o M) (back : ∀ M', LwS G τ ad o M' → XJ G 101 (3 * g, 810 * g) ML_law M' (lvL b (τ 0) (ad 99) o i) [] 2138 Q) : XJ G 101 (3 * (g + 1), 810 * (g + 1)) ML_law M (lvL b (τ 0) (ad 99) o i) [] 1164 Q := by
  obtain ⟨σ, κ, ω, ε, Md, f, rfl, hB, hd⟩ := hS
  refine x_aload_n dL_law_1164 rfl rfl ?_
  refine ldg (j := 1) dL_law_1165 dL_law_1166 dL_law_1168 rfl dL_law_1169 dL_law_1170 rfl rfl hT (by omega) hL ?_
  refine ldg (j := 2) dL_law_1171 dL_law_1172 dL_law_1174 rfl dL_law_1175 dL_law_1176 rfl rfl hT (by omega) hL ?_
  refine ldg (j := 3) dL_law_1177 dL_law_1178 dL_law_1180 rfl dL_law_1181 dL_law_1182 rfl rfl hT (by omega) hL ?_
  obtain ⟨a, σN, hc, hm⟩ := pr_mark (r := xs (i + 1)) (l := xs (i + 2)) (v := xs (i + 3)) hG hA hB
  refine x_rV3 (mc := 2) (ms := 410) (b := τ 0) dL_law_1183 lv_L_109 (L3_x hB.1.1) rfl rfl rfl ⟨by show 2 ≤ 3 * (g + 1); omega, by show 410 ≤ 810 * (g + 1); omega⟩ (L_cc hc hd (fun κ' ω' ε' Md' hB' hd' => ?_))
  refine x_aload_n dL_law_1186 rfl rfl ?_
  refine ldg (j := 1) dL_law_1187 dL_law_1188 dL_law_1190 rfl dL_law_1191 dL_law_1192 rfl rfl hT (by omega) hL ?_
  refine ldg (j := 2) dL_law_1193 dL_law_1194 dL_law_1196 rfl dL_law_1197 dL_law_1198 rfl rfl hT (by omega) hL ?_
  refine ldg (j := 3) dL_law_1199 dL_law_1200 dL_law_1202 rfl dL_law_1203 dL_law_1204 rfl rfl hT (by omega) hL ?_
  refine x_cV3 (b := ad 99) dL_law_1205 lv_L_113 (L3_m hd') rfl rfl rfl (L_cm hm hd' (fun σ' hs hd2 => ?_))
  refine x_icmp_eq (tgt := 2138) dL_law_1208 (by decide) (fun _ => ?_) (fun h => absurd rfl h)
  exact x_room (k1 := (3 * g, 810 * g)) (by show 3 * g ≤ 3 * (g + 1) - 2; omega) (by show 810 * g ≤ 810 * (g + 1) - 410; omega) (back _ ⟨σ', κ', ω', ε', Md', f, rfl, Bn_E hs hB', hd2⟩)
theorem La_marked (hG : GOK G) (hA : adOK ad) (hT : OldT G .int b L (fun j => .int (xs j))) (hL : L ≤ 3584) (hi7 : i + 7 ≤ L) (hS : LwS G τ ad o M) (back : ∀ M', LwS G τ ad o M' → XJ G 101 (3 * g, 810 * g) ML_law M' (lvL b (τ 0) (ad 99) o i) [] 2138 Q) : XJ G 101 (3 * (g + 1), 810 * (g + 1)) ML_law M (lvL b (τ 0) (ad 99) o i) [] 1213 Q := by
  obtain ⟨σ, κ, ω, ε, Md, f, rfl, hB, hd⟩ := hS
  refine x_aload_n dL_law_1213 rfl rfl ?_
  refine ldg (j := 1) dL_law_1214 dL_law_1215 dL_law_1217 rfl dL_law_1218 dL_law_1219 rfl rfl hT (by omega) hL ?_
  refine ldg (j := 2) dL_law_1220 dL_law_1221 dL_law_1223 rfl dL_law_1224 dL_law_1225 rfl rfl hT (by omega) hL ?_
  refine ldg (j := 3) dL_law_1226 dL_law_1227 dL_law_1229 rfl dL_law_1230 dL_law_1231 rfl rfl hT (by omega) hL ?_
  obtain ⟨a, σN, hc, hm⟩ := pr_marked (r := xs (i + 1)) (l := xs (i + 2)) (q := xs (i + 3)) hG hA hB
  refine x_cV3 (b := τ 0) dL_law_1232 lv_L_114 (L3_x hB.1.1) rfl rfl rfl (L_cc hc hd (fun κ' ω' ε' Md' hB' hd' => ?_))
  refine x_aload_n dL_law_1235 rfl rfl ?_
  refine ldg (j := 1) dL_law_1236 dL_law_1237 dL_law_1239 rfl dL_law_1240 dL_law_1241 rfl rfl hT (by omega) hL ?_
  refine ldg (j := 2) dL_law_1242 dL_law_1243 dL_law_1245 rfl dL_law_1246 dL_law_1247 rfl rfl hT (by omega) hL ?_
  refine ldg (j := 3) dL_law_1248 dL_law_1249 dL_law_1251 rfl dL_law_1252 dL_law_1253 rfl rfl hT (by omega) hL ?_
  refine x_cV3 (b := ad 99) dL_law_1254 lv_L_117 (L3_m hd') rfl rfl rfl (L_cm hm hd' (fun σ' hs hd2 => ?_))
  refine x_icmp_eq (tgt := 2138) dL_law_1257 (by decide) (fun _ => ?_) (fun h => absurd rfl h)
  exact x_room (k1 := (3 * g, 810 * g)) (by show 3 * g ≤ 3 * (g + 1); omega) (by show 810 * g ≤ 810 * (g + 1); omega) (back _ ⟨σ', κ', ω', ε', Md', f, rfl, Bn_E hs hB', hd2⟩)
theorem La_agree (hG : GOK G) (hA : adOK ad) (hT : OldT G .int b L (fun j => .int (xs j))) (hL : L ≤ 3584) (hi7 : i + 7 ≤ L) (hS : LwS G τ ad o M) (back : ∀ M', LwS G τ ad o M' → XJ G 101 (3 * g, 810 * g) ML_law M' (lvL b (τ 0) (ad 99) o i) [] 2138 Q) : XJ G 101 (3 * (g + 1), 810 * (g + 1)) ML_law M (lvL b (τ 0) (ad 99) o i) [] 1262 Q := by
  obtain ⟨σ, κ, ω, ε, Md, f, rfl, hB, hd⟩ := hS
  refine x_aload_n dL_law_1262 rfl rfl ?_
  refine ldg (j := 1) dL_law_1263 dL_law_1264 dL_law_1266 rfl dL_law_1267 dL_law_1268 rfl rfl hT (by omega) hL ?_
  refine ldg (j := 2) dL_law_1269 dL_law_1270 dL_law_1272 rfl dL_law_1273 dL_law_1274 rfl rfl hT (by omega) hL ?_
  refine ldg (j := 3) dL_law_1275 dL_law_1276 dL_law_1278 rfl dL_law_1279 dL_law_1280 rfl rfl hT (by omega) hL ?_
  refine ldg (j := 4) dL_law_1281 dL_law_1282 dL_law_1284 rfl dL_law_1285 dL_law_1286 rfl rfl hT (by omega) hL ?_
  obtain ⟨a, σN, hc, hm⟩ := pr_agree (a := xs (i + 1)) (b := xs (i + 2)) (q := xs (i + 3)) (w := xs (i + 4)) hG hA hB
  refine x_cV4 (b := τ 0) dL_law_1287 lv_L_118 (L3_x hB.1.1) rfl rfl rfl (L_cc hc hd (fun κ' ω' ε' Md' hB' hd' => ?_))
  refine x_aload_n dL_law_1290 rfl rfl ?_
  refine ldg (j := 1) dL_law_1291 dL_law_1292 dL_law_1294 rfl dL_law_1295 dL_law_1296 rfl rfl hT (by omega) hL ?_
  refine ldg (j := 2) dL_law_1297 dL_law_1298 dL_law_1300 rfl dL_law_1301 dL_law_1302 rfl rfl hT (by omega) hL ?_
  refine ldg (j := 3) dL_law_1303 dL_law_1304 dL_law_1306 rfl dL_law_1307 dL_law_1308 rfl rfl hT (by omega) hL ?_
  refine ldg (j := 4) dL_law_1309 dL_law_1310 dL_law_1312 rfl dL_law_1313 dL_law_1314 rfl rfl hT (by omega) hL ?_
  refine x_cV4 (b := ad 99) dL_law_1315 lv_L_121 (L3_m hd') rfl rfl rfl (L_cm hm hd' (fun σ' hs hd2 => ?_))
  refine x_icmp_eq (tgt := 2138) dL_law_1318 (by decide) (fun _ => ?_) (fun h => absurd rfl h)
  exact x_room (k1 := (3 * g, 810 * g)) (by show 3 * g ≤ 3 * (g + 1); omega) (by show 810 * g ≤ 810 * (g + 1); omega) (back _ ⟨σ', κ', ω', ε', Md', f, rfl, Bn_E hs hB', hd2⟩)
theorem La_habit (hG : GOK G) (hA : adOK ad) (hT : OldT G .int b L (fun j => .int (xs j))) (hL : L ≤ 3584) (hi7 : i + 7 ≤ L) (hS : LwS G τ ad o M) (back : ∀ M', LwS G τ ad o M' → XJ G 101 (3 * g, 810 * g) ML_law M' (lvL b (τ 0) (ad 99) o i) [] 2138 Q) : XJ G 101 (3 * (g + 1), 810 * (g + 1)) ML_law M (lvL b (τ 0) (ad 99) o i) [] 1323 Q := by
  obtain ⟨σ, κ, ω, ε, Md, f, rfl, hB, hd⟩ := hS
  refine x_aload_n dL_law_1323 rfl rfl ?_
  refine ldg (j := 1) dL_law_1324 dL_law_1325 dL_law_1327 rfl dL_law_1328 dL_law_1329 rfl rfl hT (by omega) hL ?_
  refine ldg (j := 2) dL_law_1330 dL_law_1331 dL_law_1333 rfl dL_law_1334 dL_law_1335 rfl rfl hT (by omega) hL ?_
  obtain ⟨a, σN, hc, hm⟩ := pr_habit (r := xs (i + 1)) (q := xs (i + 2)) hG hA hB
  refine x_cV2 (b := τ 0) dL_law_1336 lv_L_122 (L3_x hB.1.1) rfl rfl rfl (L_cc hc hd (fun κ' ω' ε' Md' hB' hd' => ?_))
  refine x_aload_n dL_law_1339 rfl rfl ?_
  refine ldg (j := 1) dL_law_1340 dL_law_1341 dL_law_1343 rfl dL_law_1344 dL_law_1345 rfl rfl hT (by omega) hL ?_
  refine ldg (j := 2) dL_law_1346 dL_law_1347 dL_law_1349 rfl dL_law_1350 dL_law_1351 rfl rfl hT (by omega) hL ?_
  refine x_cV2 (b := ad 99) dL_law_1352 lv_L_125 (L3_m hd') rfl rfl rfl (L_cm hm hd' (fun σ' hs hd2 => ?_))
  refine x_icmp_eq (tgt := 2138) dL_law_1355 (by decide) (fun _ => ?_) (fun h => absurd rfl h)
  exact x_room (k1 := (3 * g, 810 * g)) (by show 3 * g ≤ 3 * (g + 1); omega) (by show 810 * g ≤ 810 * (g + 1); omega) (back _ ⟨σ', κ', ω', ε', Md', f, rfl, Bn_E hs hB', hd2⟩)
theorem La_held (hG : GOK G) (hA : adOK ad) (hT : OldT G .int b L (fun j => .int (xs j))) (hL : L ≤ 3584) (hi7 : i + 7 ≤ L) (hS : LwS G τ ad o M) (back : ∀ M', LwS G τ ad o M' → XJ G 101 (3 * g, 810 * g) ML_law M' (lvL b (τ 0) (ad 99) o i) [] 2138 Q) : XJ G 101 (3 * (g + 1), 810 * (g + 1)) ML_law M (lvL b (τ 0) (ad 99) o i) [] 1360 Q := by
  obtain ⟨σ, κ, ω, ε, Md, f, rfl, hB, hd⟩ := hS
  refine x_aload_n dL_law_1360 rfl rfl ?_
  refine ldg (j := 1) dL_law_1361 dL_law_1362 dL_law_1364 rfl dL_law_1365 dL_law_1366 rfl rfl hT (by omega) hL ?_
  refine ldg (j := 2) dL_law_1367 dL_law_1368 dL_law_1370 rfl dL_law_1371 dL_law_1372 rfl rfl hT (by omega) hL ?_
  obtain ⟨a, σN, hc, hm⟩ := pr_held (l := xs (i + 1)) (q := xs (i + 2)) hG hA hB
  refine x_cV2 (b := τ 0) dL_law_1373 lv_L_126 (L3_x hB.1.1) rfl rfl rfl (L_cc hc hd (fun κ' ω' ε' Md' hB' hd' => ?_))
  refine x_aload_n dL_law_1376 rfl rfl ?_
  refine ldg (j := 1) dL_law_1377 dL_law_1378 dL_law_1380 rfl dL_law_1381 dL_law_1382 rfl rfl hT (by omega) hL ?_
  refine ldg (j := 2) dL_law_1383 dL_law_1384 dL_law_1386 rfl dL_law_1387 dL_law_1388 rfl rfl hT (by omega) hL ?_
  refine x_cV2 (b := ad 99) dL_law_1389 lv_L_129 (L3_m hd') rfl rfl rfl (L_cm hm hd' (fun σ' hs hd2 => ?_))
  refine x_icmp_eq (tgt := 2138) dL_law_1392 (by decide) (fun _ => ?_) (fun h => absurd rfl h)
  exact x_room (k1 := (3 * g, 810 * g)) (by show 3 * g ≤ 3 * (g + 1); omega) (by show 810 * g ≤ 810 * (g + 1); omega) (back _ ⟨σ', κ', ω', ε', Md', f, rfl, Bn_E hs hB', hd2⟩)
theorem La_land (hG : GOK G) (hA : adOK ad) (hT : OldT G .int b L (fun j => .int (xs j))) (hL : L ≤ 3584) (hi7 : i + 7 ≤ L) (hS : LwS G τ ad o M) (back : ∀ M', LwS G τ ad o M' → XJ G 101 (3 * g, 810 * g) ML_law M' (lvL b (τ 0) (ad 99) o i) [] 2138 Q) : XJ G 101 (3 * (g + 1), 810 * (g + 1)) ML_law M (lvL b (τ 0) (ad 99) o i) [] 1397 Q := by
  obtain ⟨σ, κ, ω, ε, Md, f, rfl, hB, hd⟩ := hS
  refine x_aload_n dL_law_1397 rfl rfl ?_
  refine ldg (j := 1) dL_law_1398 dL_law_1399 dL_law_1401 rfl dL_law_1402 dL_law_1403 rfl rfl hT (by omega) hL ?_
  refine ldg (j := 2) dL_law_1404 dL_law_1405 dL_law_1407 rfl dL_law_1408 dL_law_1409 rfl rfl hT (by omega) hL ?_
  refine ldg (j := 3) dL_law_1410 dL_law_1411 dL_law_1413 rfl dL_law_1414 dL_law_1415 rfl rfl hT (by omega) hL ?_
  obtain ⟨a, σN, hc, hm⟩ := pr_land (a := xs (i + 1)) (b := xs (i + 2)) (c := xs (i + 3)) hG hA hB
  refine x_cV3 (b := τ 0) dL_law_1416 lv_L_130 (L3_x hB.1.1) rfl rfl rfl (L_cc hc hd (fun κ' ω' ε' Md' hB' hd' => ?_))
  refine x_aload_n dL_law_1419 rfl rfl ?_
  refine ldg (j := 1) dL_law_1420 dL_law_1421 dL_law_1423 rfl dL_law_1424 dL_law_1425 rfl rfl hT (by omega) hL ?_
  refine ldg (j := 2) dL_law_1426 dL_law_1427 dL_law_1429 rfl dL_law_1430 dL_law_1431 rfl rfl hT (by omega) hL ?_
  refine ldg (j := 3) dL_law_1432 dL_law_1433 dL_law_1435 rfl dL_law_1436 dL_law_1437 rfl rfl hT (by omega) hL ?_
  refine x_cV3 (b := ad 99) dL_law_1438 lv_L_133 (L3_m hd') rfl rfl rfl (L_cm hm hd' (fun σ' hs hd2 => ?_))
  refine x_icmp_eq (tgt := 2138) dL_law_1441 (by decide) (fun _ => ?_) (fun h => absurd rfl h)
  exact x_room (k1 := (3 * g, 810 * g)) (by show 3 * g ≤ 3 * (g + 1); omega) (by show 810 * g ≤ 810 * (g + 1); omega) (back _ ⟨σ', κ', ω', ε', Md', f, rfl, Bn_E hs hB', hd2⟩)
theorem La_span (hG : GOK G) (hA : adOK ad) (hT : OldT G .int b L (fun j => .int (xs j))) (hL : L ≤ 3584) (hi7 : i + 7 ≤ L) (hS : LwS G τ ad o M) (back : ∀ M', LwS G τ ad o M' → XJ G 101 (3 * g, 810 * g) ML_law M' (lvL b (τ 0) (ad 99) o i) [] 2138 Q) : XJ G 101 (3 * (g + 1), 810 * (g + 1)) ML_law M (lvL b (τ 0) (ad 99) o i) [] 1446 Q := by
  obtain ⟨σ, κ, ω, ε, Md, f, rfl, hB, hd⟩ := hS
  refine x_aload_n dL_law_1446 rfl rfl ?_
  refine ldg (j := 1) dL_law_1447 dL_law_1448 dL_law_1450 rfl dL_law_1451 dL_law_1452 rfl rfl hT (by omega) hL ?_
  refine ldg (j := 2) dL_law_1453 dL_law_1454 dL_law_1456 rfl dL_law_1457 dL_law_1458 rfl rfl hT (by omega) hL ?_
  refine ldg (j := 3) dL_law_1459 dL_law_1460 dL_law_1462 rfl dL_law_1463 dL_law_1464 rfl rfl hT (by omega) hL ?_
  refine ldg (j := 4) dL_law_1465 dL_law_1466 dL_law_1468 rfl dL_law_1469 dL_law_1470 rfl rfl hT (by omega) hL ?_
  obtain ⟨a, σN, hc, hm⟩ := pr_span (sort := xs (i + 1)) (day := xs (i + 2)) (q := xs (i + 3)) (what := xs (i + 4)) hG hA hB
  refine x_cV4 (b := τ 0) dL_law_1471 lv_L_134 (L3_x hB.1.1) rfl rfl rfl (L_cc hc hd (fun κ' ω' ε' Md' hB' hd' => ?_))
  refine x_aload_n dL_law_1474 rfl rfl ?_
  refine ldg (j := 1) dL_law_1475 dL_law_1476 dL_law_1478 rfl dL_law_1479 dL_law_1480 rfl rfl hT (by omega) hL ?_
  refine ldg (j := 2) dL_law_1481 dL_law_1482 dL_law_1484 rfl dL_law_1485 dL_law_1486 rfl rfl hT (by omega) hL ?_
  refine ldg (j := 3) dL_law_1487 dL_law_1488 dL_law_1490 rfl dL_law_1491 dL_law_1492 rfl rfl hT (by omega) hL ?_
  refine ldg (j := 4) dL_law_1493 dL_law_1494 dL_law_1496 rfl dL_law_1497 dL_law_1498 rfl rfl hT (by omega) hL ?_
  refine x_cV4 (b := ad 99) dL_law_1499 lv_L_137 (L3_m hd') rfl rfl rfl (L_cm hm hd' (fun σ' hs hd2 => ?_))
  refine x_icmp_eq (tgt := 2138) dL_law_1502 (by decide) (fun _ => ?_) (fun h => absurd rfl h)
  exact x_room (k1 := (3 * g, 810 * g)) (by show 3 * g ≤ 3 * (g + 1); omega) (by show 810 * g ≤ 810 * (g + 1); omega) (back _ ⟨σ', κ', ω', ε', Md', f, rfl, Bn_E hs hB', hd2⟩)
theorem La_mood (hG : GOK G) (hA : adOK ad) (hT : OldT G .int b L (fun j => .int (xs j))) (hL : L ≤ 3584) (hi7 : i + 7 ≤ L) (hS : LwS G τ ad o M) (back : ∀ M', LwS G τ ad o M' → XJ G 101 (3 * g, 810 * g) ML_law M' (lvL b (τ 0) (ad 99) o i) [] 2138 Q) : XJ G 101 (3 * (g + 1), 810 * (g + 1)) ML_law M (lvL b (τ 0) (ad 99) o i) [] 1507 Q := by
  obtain ⟨σ, κ, ω, ε, Md, f, rfl, hB, hd⟩ := hS
  refine x_aload_n dL_law_1507 rfl rfl ?_
  refine ldg (j := 1) dL_law_1508 dL_law_1509 dL_law_1511 rfl dL_law_1512 dL_law_1513 rfl rfl hT (by omega) hL ?_
  refine ldg (j := 2) dL_law_1514 dL_law_1515 dL_law_1517 rfl dL_law_1518 dL_law_1519 rfl rfl hT (by omega) hL ?_
  refine ldg (j := 3) dL_law_1520 dL_law_1521 dL_law_1523 rfl dL_law_1524 dL_law_1525 rfl rfl hT (by omega) hL ?_
  obtain ⟨a, σN, hc, hm⟩ := pr_mood (day := xs (i + 1)) (q := xs (i + 2)) (what := xs (i + 3)) hG hA hB
  refine x_cV3 (b := τ 0) dL_law_1526 lv_L_138 (L3_x hB.1.1) rfl rfl rfl (L_cc hc hd (fun κ' ω' ε' Md' hB' hd' => ?_))
  refine x_aload_n dL_law_1529 rfl rfl ?_
  refine ldg (j := 1) dL_law_1530 dL_law_1531 dL_law_1533 rfl dL_law_1534 dL_law_1535 rfl rfl hT (by omega) hL ?_
  refine ldg (j := 2) dL_law_1536 dL_law_1537 dL_law_1539 rfl dL_law_1540 dL_law_1541 rfl rfl hT (by omega) hL ?_
  refine ldg (j := 3) dL_law_1542 dL_law_1543 dL_law_1545 rfl dL_law_1546 dL_law_1547 rfl rfl hT (by omega) hL ?_
  refine x_cV3 (b := ad 99) dL_law_1548 lv_L_141 (L3_m hd') rfl rfl rfl (L_cm hm hd' (fun σ' hs hd2 => ?_))
  refine x_icmp_eq (tgt := 2138) dL_law_1551 (by decide) (fun _ => ?_) (fun h => absurd rfl h)
  exact x_room (k1 := (3 * g, 810 * g)) (by show 3 * g ≤ 3 * (g + 1); omega) (by show 810 * g ≤ 810 * (g + 1); omega) (back _ ⟨σ', κ', ω', ε', Md', f, rfl, Bn_E hs hB', hd2⟩)
theorem La_turn (hG : GOK G) (hA : adOK ad) (hT : OldT G .int b L (fun j => .int (xs j))) (hL : L ≤ 3584) (hi7 : i + 7 ≤ L) (hS : LwS G τ ad o M) (back : ∀ M', LwS G τ ad o M' → XJ G 101 (3 * g, 810 * g) ML_law M' (lvL b (τ 0) (ad 99) o i) [] 2138 Q) : XJ G 101 (3 * (g + 1), 810 * (g + 1)) ML_law M (lvL b (τ 0) (ad 99) o i) [] 1556 Q := by
  obtain ⟨σ, κ, ω, ε, Md, f, rfl, hB, hd⟩ := hS
  refine x_aload_n dL_law_1556 rfl rfl ?_
  refine ldg (j := 1) dL_law_1557 dL_law_1558 dL_law_1560 rfl dL_law_1561 dL_law_1562 rfl rfl hT (by omega) hL ?_
  refine ldg (j := 2) dL_law_1563 dL_law_1564 dL_law_1566 rfl dL_law_1567 dL_law_1568 rfl rfl hT (by omega) hL ?_
  refine ldg (j := 3) dL_law_1569 dL_law_1570 dL_law_1572 rfl dL_law_1573 dL_law_1574 rfl rfl hT (by omega) hL ?_
  refine ldg (j := 4) dL_law_1575 dL_law_1576 dL_law_1578 rfl dL_law_1579 dL_law_1580 rfl rfl hT (by omega) hL ?_
  obtain ⟨a, σN, hc, hm⟩ := pr_turn (a := xs (i + 1)) (b := xs (i + 2)) (q := xs (i + 3)) (what := xs (i + 4)) hG hA hB
  refine x_cV4 (b := τ 0) dL_law_1581 lv_L_142 (L3_x hB.1.1) rfl rfl rfl (L_cc hc hd (fun κ' ω' ε' Md' hB' hd' => ?_))
  refine x_aload_n dL_law_1584 rfl rfl ?_
  refine ldg (j := 1) dL_law_1585 dL_law_1586 dL_law_1588 rfl dL_law_1589 dL_law_1590 rfl rfl hT (by omega) hL ?_
  refine ldg (j := 2) dL_law_1591 dL_law_1592 dL_law_1594 rfl dL_law_1595 dL_law_1596 rfl rfl hT (by omega) hL ?_
  refine ldg (j := 3) dL_law_1597 dL_law_1598 dL_law_1600 rfl dL_law_1601 dL_law_1602 rfl rfl hT (by omega) hL ?_
  refine ldg (j := 4) dL_law_1603 dL_law_1604 dL_law_1606 rfl dL_law_1607 dL_law_1608 rfl rfl hT (by omega) hL ?_
  refine x_cV4 (b := ad 99) dL_law_1609 lv_L_145 (L3_m hd') rfl rfl rfl (L_cm hm hd' (fun σ' hs hd2 => ?_))
  refine x_icmp_eq (tgt := 2138) dL_law_1612 (by decide) (fun _ => ?_) (fun h => absurd rfl h)
  exact x_room (k1 := (3 * g, 810 * g)) (by show 3 * g ≤ 3 * (g + 1); omega) (by show 810 * g ≤ 810 * (g + 1); omega) (back _ ⟨σ', κ', ω', ε', Md', f, rfl, Bn_E hs hB', hd2⟩)
theorem La_last (hG : GOK G) (hA : adOK ad) (hT : OldT G .int b L (fun j => .int (xs j))) (hL : L ≤ 3584) (hi7 : i + 7 ≤ L) (hS : LwS G τ ad o M) (back : ∀ M', LwS G τ ad o M' → XJ G 101 (3 * g, 810 * g) ML_law M' (lvL b (τ 0) (ad 99) o i) [] 2138 Q) : XJ G 101 (3 * (g + 1), 810 * (g + 1)) ML_law M (lvL b (τ 0) (ad 99) o i) [] 1617 Q := by
  obtain ⟨σ, κ, ω, ε, Md, f, rfl, hB, hd⟩ := hS
  refine x_aload_n dL_law_1617 rfl rfl ?_
  refine ldg (j := 1) dL_law_1618 dL_law_1619 dL_law_1621 rfl dL_law_1622 dL_law_1623 rfl rfl hT (by omega) hL ?_
  refine ldg (j := 2) dL_law_1624 dL_law_1625 dL_law_1627 rfl dL_law_1628 dL_law_1629 rfl rfl hT (by omega) hL ?_
  obtain ⟨a, σN, hc, hm⟩ := pr_last (p := xs (i + 1)) (q := xs (i + 2)) hG hA hB
  refine x_cV2 (b := τ 0) dL_law_1630 lv_L_146 (L3_x hB.1.1) rfl rfl rfl (L_cc hc hd (fun κ' ω' ε' Md' hB' hd' => ?_))
  refine x_aload_n dL_law_1633 rfl rfl ?_
  refine ldg (j := 1) dL_law_1634 dL_law_1635 dL_law_1637 rfl dL_law_1638 dL_law_1639 rfl rfl hT (by omega) hL ?_
  refine ldg (j := 2) dL_law_1640 dL_law_1641 dL_law_1643 rfl dL_law_1644 dL_law_1645 rfl rfl hT (by omega) hL ?_
  refine x_cV2 (b := ad 99) dL_law_1646 lv_L_149 (L3_m hd') rfl rfl rfl (L_cm hm hd' (fun σ' hs hd2 => ?_))
  refine x_icmp_eq (tgt := 2138) dL_law_1649 (by decide) (fun _ => ?_) (fun h => absurd rfl h)
  exact x_room (k1 := (3 * g, 810 * g)) (by show 3 * g ≤ 3 * (g + 1); omega) (by show 810 * g ≤ 810 * (g + 1); omega) (back _ ⟨σ', κ', ω', ε', Md', f, rfl, Bn_E hs hB', hd2⟩)
theorem La_lean (hG : GOK G) (hA : adOK ad) (hT : OldT G .int b L (fun j => .int (xs j))) (hL : L ≤ 3584) (hi7 : i + 7 ≤ L) (hS : LwS G τ ad o M) (back : ∀ M', LwS G τ ad o M' → XJ G 101 (3 * g, 810 * g) ML_law M' (lvL b (τ 0) (ad 99) o i) [] 2138 Q) : XJ G 101 (3 * (g + 1), 810 * (g + 1)) ML_law M (lvL b (τ 0) (ad 99) o i) [] 1654 Q := by
  obtain ⟨σ, κ, ω, ε, Md, f, rfl, hB, hd⟩ := hS
  refine x_aload_n dL_law_1654 rfl rfl ?_
  refine ldg (j := 1) dL_law_1655 dL_law_1656 dL_law_1658 rfl dL_law_1659 dL_law_1660 rfl rfl hT (by omega) hL ?_
  refine ldg (j := 2) dL_law_1661 dL_law_1662 dL_law_1664 rfl dL_law_1665 dL_law_1666 rfl rfl hT (by omega) hL ?_
  obtain ⟨a, σN, hc, hm⟩ := pr_lean (sort := xs (i + 1)) (q := xs (i + 2)) hG hA hB
  refine x_cV2 (b := τ 0) dL_law_1667 lv_L_150 (L3_x hB.1.1) rfl rfl rfl (L_cc hc hd (fun κ' ω' ε' Md' hB' hd' => ?_))
  refine x_aload_n dL_law_1670 rfl rfl ?_
  refine ldg (j := 1) dL_law_1671 dL_law_1672 dL_law_1674 rfl dL_law_1675 dL_law_1676 rfl rfl hT (by omega) hL ?_
  refine ldg (j := 2) dL_law_1677 dL_law_1678 dL_law_1680 rfl dL_law_1681 dL_law_1682 rfl rfl hT (by omega) hL ?_
  refine x_cV2 (b := ad 99) dL_law_1683 lv_L_153 (L3_m hd') rfl rfl rfl (L_cm hm hd' (fun σ' hs hd2 => ?_))
  refine x_icmp_eq (tgt := 2138) dL_law_1686 (by decide) (fun _ => ?_) (fun h => absurd rfl h)
  exact x_room (k1 := (3 * g, 810 * g)) (by show 3 * g ≤ 3 * (g + 1); omega) (by show 810 * g ≤ 810 * (g + 1); omega) (back _ ⟨σ', κ', ω', ε', Md', f, rfl, Bn_E hs hB', hd2⟩)
theorem La_watcher (hG : GOK G) (hA : adOK ad) (hT : OldT G .int b L (fun j => .int (xs j))) (hL : L ≤ 3584) (hi7 : i + 7 ≤ L) (hS : LwS G τ ad o M) (back : ∀ M', LwS G τ ad o M' → XJ G 101 (3 * g, 810 * g) ML_law M' (lvL b (τ 0) (ad 99) o i) [] 2138 Q) : XJ G 101 (3 * (g + 1), 810 * (g + 1)) ML_law M (lvL b (τ 0) (ad 99) o i) [] 1691 Q := by
  obtain ⟨σ, κ, ω, ε, Md, f, rfl, hB, hd⟩ := hS
  refine x_aload_n dL_law_1691 rfl rfl ?_
  refine ldg (j := 1) dL_law_1692 dL_law_1693 dL_law_1695 rfl dL_law_1696 dL_law_1697 rfl rfl hT (by omega) hL ?_
  refine ldg (j := 2) dL_law_1698 dL_law_1699 dL_law_1701 rfl dL_law_1702 dL_law_1703 rfl rfl hT (by omega) hL ?_
  obtain ⟨a, σN, hc, hm⟩ := pr_watcher (a := xs (i + 1)) (b := xs (i + 2)) hG hA hB
  refine x_cV2 (b := τ 0) dL_law_1704 lv_L_154 (L3_x hB.1.1) rfl rfl rfl (L_cc hc hd (fun κ' ω' ε' Md' hB' hd' => ?_))
  refine x_aload_n dL_law_1707 rfl rfl ?_
  refine ldg (j := 1) dL_law_1708 dL_law_1709 dL_law_1711 rfl dL_law_1712 dL_law_1713 rfl rfl hT (by omega) hL ?_
  refine ldg (j := 2) dL_law_1714 dL_law_1715 dL_law_1717 rfl dL_law_1718 dL_law_1719 rfl rfl hT (by omega) hL ?_
  refine x_cV2 (b := ad 99) dL_law_1720 lv_L_157 (L3_m hd') rfl rfl rfl (L_cm hm hd' (fun σ' hs hd2 => ?_))
  refine x_icmp_eq (tgt := 2138) dL_law_1723 (by decide) (fun _ => ?_) (fun h => absurd rfl h)
  exact x_room (k1 := (3 * g, 810 * g)) (by show 3 * g ≤ 3 * (g + 1); omega) (by show 810 * g ≤ 810 * (g + 1); omega) (back _ ⟨σ', κ', ω', ε', Md', f, rfl, Bn_E hs hB', hd2⟩)
theorem La_want (hG : GOK G) (hA : adOK ad) (hT : OldT G .int b L (fun j => .int (xs j))) (hL : L ≤ 3584) (hi7 : i + 7 ≤ L) (hS : LwS G τ ad o M) (back : ∀ M', LwS G τ ad o M' → XJ G 101 (3 * g, 810 * g) ML_law M' (lvL b (τ 0) (ad 99) o i) [] 2138 Q) : XJ G 101 (3 * (g + 1), 810 * (g + 1)) ML_law M (lvL b (τ 0) (ad 99) o i) [] 1728 Q := by
  obtain ⟨σ, κ, ω, ε, Md, f, rfl, hB, hd⟩ := hS
  refine x_aload_n dL_law_1728 rfl rfl ?_
  refine ldg (j := 1) dL_law_1729 dL_law_1730 dL_law_1732 rfl dL_law_1733 dL_law_1734 rfl rfl hT (by omega) hL ?_
  refine ldg (j := 2) dL_law_1735 dL_law_1736 dL_law_1738 rfl dL_law_1739 dL_law_1740 rfl rfl hT (by omega) hL ?_
  obtain ⟨a, σN, hc, hm⟩ := pr_want (a := xs (i + 1)) (b := xs (i + 2)) hG hA hB
  refine x_cV2 (b := τ 0) dL_law_1741 lv_L_158 (L3_x hB.1.1) rfl rfl rfl (L_cc hc hd (fun κ' ω' ε' Md' hB' hd' => ?_))
  refine x_aload_n dL_law_1744 rfl rfl ?_
  refine ldg (j := 1) dL_law_1745 dL_law_1746 dL_law_1748 rfl dL_law_1749 dL_law_1750 rfl rfl hT (by omega) hL ?_
  refine ldg (j := 2) dL_law_1751 dL_law_1752 dL_law_1754 rfl dL_law_1755 dL_law_1756 rfl rfl hT (by omega) hL ?_
  refine x_cV2 (b := ad 99) dL_law_1757 lv_L_161 (L3_m hd') rfl rfl rfl (L_cm hm hd' (fun σ' hs hd2 => ?_))
  refine x_icmp_eq (tgt := 2138) dL_law_1760 (by decide) (fun _ => ?_) (fun h => absurd rfl h)
  exact x_room (k1 := (3 * g, 810 * g)) (by show 3 * g ≤ 3 * (g + 1); omega) (by show 810 * g ≤ 810 * (g + 1); omega) (back _ ⟨σ', κ', ω', ε', Md', f, rfl, Bn_E hs hB', hd2⟩)
theorem La_table (hG : GOK G) (hA : adOK ad) (hT : OldT G .int b L (fun j => .int (xs j))) (hL : L ≤ 3584) (hi7 : i + 7 ≤ L) (hS : LwS G τ ad o M) (back : ∀ M', LwS G τ ad o M' → XJ G 101 (3 * g, 810 * g) ML_law M' (lvL b (τ 0) (ad 99) o i) [] 2138 Q) : XJ G 101 (3 * (g + 1), 810 * (g + 1)) ML_law M (lvL b (τ 0) (ad 99) o i) [] 1765 Q := by
  obtain ⟨σ, κ, ω, ε, Md, f, rfl, hB, hd⟩ := hS
  refine x_aload_n dL_law_1765 rfl rfl ?_
  refine ldg (j := 1) dL_law_1766 dL_law_1767 dL_law_1769 rfl dL_law_1770 dL_law_1771 rfl rfl hT (by omega) hL ?_
  obtain ⟨a, σN, hc, hm⟩ := pr_table (w := xs (i + 1)) hG hA hB
  refine x_cV1 (b := τ 0) dL_law_1772 lv_L_162 (L3_x hB.1.1) rfl rfl rfl (L_cc hc hd (fun κ' ω' ε' Md' hB' hd' => ?_))
  refine x_aload_n dL_law_1775 rfl rfl ?_
  refine ldg (j := 1) dL_law_1776 dL_law_1777 dL_law_1779 rfl dL_law_1780 dL_law_1781 rfl rfl hT (by omega) hL ?_
  refine x_cV1 (b := ad 99) dL_law_1782 lv_L_165 (L3_m hd') rfl rfl rfl (L_cm hm hd' (fun σ' hs hd2 => ?_))
  refine x_icmp_eq (tgt := 2138) dL_law_1785 (by decide) (fun _ => ?_) (fun h => absurd rfl h)
  exact x_room (k1 := (3 * g, 810 * g)) (by show 3 * g ≤ 3 * (g + 1); omega) (by show 810 * g ≤ 810 * (g + 1); omega) (back _ ⟨σ', κ', ω', ε', Md', f, rfl, Bn_E hs hB', hd2⟩)
theorem La_alike (hG : GOK G) (hA : adOK ad) (hT : OldT G .int b L (fun j => .int (xs j))) (hL : L ≤ 3584) (hi7 : i + 7 ≤ L) (hS : LwS G τ ad o M) (back : ∀ M', LwS G τ ad o M' → XJ G 101 (3 * g, 810 * g) ML_law M' (lvL b (τ 0) (ad 99) o i) [] 2138 Q) : XJ G 101 (3 * (g + 1), 810 * (g + 1)) ML_law M (lvL b (τ 0) (ad 99) o i) [] 1790 Q := by
  obtain ⟨σ, κ, ω, ε, Md, f, rfl, hB, hd⟩ := hS
  refine x_aload_n dL_law_1790 rfl rfl ?_
  refine ldg (j := 1) dL_law_1791 dL_law_1792 dL_law_1794 rfl dL_law_1795 dL_law_1796 rfl rfl hT (by omega) hL ?_
  refine ldg (j := 2) dL_law_1797 dL_law_1798 dL_law_1800 rfl dL_law_1801 dL_law_1802 rfl rfl hT (by omega) hL ?_
  obtain ⟨a, σN, hc, hm⟩ := pr_alike (p := xs (i + 1)) (by' := xs (i + 2)) hG hA hB
  refine x_cV2 (b := τ 0) dL_law_1803 lv_L_166 (L3_x hB.1.1) rfl rfl rfl (L_cc hc hd (fun κ' ω' ε' Md' hB' hd' => ?_))
  refine x_aload_n dL_law_1806 rfl rfl ?_
  refine ldg (j := 1) dL_law_1807 dL_law_1808 dL_law_1810 rfl dL_law_1811 dL_law_1812 rfl rfl hT (by omega) hL ?_
  refine ldg (j := 2) dL_law_1813 dL_law_1814 dL_law_1816 rfl dL_law_1817 dL_law_1818 rfl rfl hT (by omega) hL ?_
  refine x_cV2 (b := ad 99) dL_law_1819 lv_L_169 (L3_m hd') rfl rfl rfl (L_cm hm hd' (fun σ' hs hd2 => ?_))
  refine x_icmp_eq (tgt := 2138) dL_law_1822 (by decide) (fun _ => ?_) (fun h => absurd rfl h)
  exact x_room (k1 := (3 * g, 810 * g)) (by show 3 * g ≤ 3 * (g + 1); omega) (by show 810 * g ≤ 810 * (g + 1); omega) (back _ ⟨σ', κ', ω', ε', Md', f, rfl, Bn_E hs hB', hd2⟩)
theorem La_hide (hG : GOK G) (hA : adOK ad) (hT : OldT G .int b L (fun j => .int (xs j))) (hL : L ≤ 3584) (hi7 : i + 7 ≤ L) (hS : LwS G τ ad o M) (back : ∀ M', LwS G τ ad o M' → XJ G 101 (3 * g, 810 * g) ML_law M' (lvL b (τ 0) (ad 99) o i) [] 2138 Q) : XJ G 101 (3 * (g + 1), 810 * (g + 1)) ML_law M (lvL b (τ 0) (ad 99) o i) [] 1827 Q := by
  obtain ⟨σ, κ, ω, ε, Md, f, rfl, hB, hd⟩ := hS
  refine x_aload_n dL_law_1827 rfl rfl ?_
  refine ldg (j := 1) dL_law_1828 dL_law_1829 dL_law_1831 rfl dL_law_1832 dL_law_1833 rfl rfl hT (by omega) hL ?_
  obtain ⟨a, σN, hc, hm⟩ := pr_hide (m := xs (i + 1)) hG hA hB
  refine x_cV1 (b := τ 0) dL_law_1834 lv_L_170 (L3_x hB.1.1) rfl rfl rfl (L_cc hc hd (fun κ' ω' ε' Md' hB' hd' => ?_))
  refine x_aload_n dL_law_1837 rfl rfl ?_
  refine ldg (j := 1) dL_law_1838 dL_law_1839 dL_law_1841 rfl dL_law_1842 dL_law_1843 rfl rfl hT (by omega) hL ?_
  refine x_cV1 (b := ad 99) dL_law_1844 lv_L_173 (L3_m hd') rfl rfl rfl (L_cm hm hd' (fun σ' hs hd2 => ?_))
  refine x_icmp_eq (tgt := 2138) dL_law_1847 (by decide) (fun _ => ?_) (fun h => absurd rfl h)
  exact x_room (k1 := (3 * g, 810 * g)) (by show 3 * g ≤ 3 * (g + 1); omega) (by show 810 * g ≤ 810 * (g + 1); omega) (back _ ⟨σ', κ', ω', ε', Md', f, rfl, Bn_E hs hB', hd2⟩)
theorem La_question (hG : GOK G) (hA : adOK ad) (hT : OldT G .int b L (fun j => .int (xs j))) (hL : L ≤ 3584) (hi7 : i + 7 ≤ L) (hS : LwS G τ ad o M) (back : ∀ M', LwS G τ ad o M' → XJ G 101 (3 * g, 810 * g) ML_law M' (lvL b (τ 0) (ad 99) o i) [] 2138 Q) : XJ G 101 (3 * (g + 1), 810 * (g + 1)) ML_law M (lvL b (τ 0) (ad 99) o i) [] 1852 Q := by
  obtain ⟨σ, κ, ω, ε, Md, f, rfl, hB, hd⟩ := hS
  refine x_aload_n dL_law_1852 rfl rfl ?_
  refine ldg (j := 1) dL_law_1853 dL_law_1854 dL_law_1856 rfl dL_law_1857 dL_law_1858 rfl rfl hT (by omega) hL ?_
  refine ldg (j := 2) dL_law_1859 dL_law_1860 dL_law_1862 rfl dL_law_1863 dL_law_1864 rfl rfl hT (by omega) hL ?_
  obtain ⟨a, σN, hc, hm⟩ := pr_question (a := xs (i + 1)) (b := xs (i + 2)) hG hA hB
  refine x_rV2 (mc := 2) (ms := 410) (b := τ 0) dL_law_1865 lv_L_174 (L3_x hB.1.1) rfl rfl rfl ⟨by show 2 ≤ 3 * (g + 1); omega, by show 410 ≤ 810 * (g + 1); omega⟩ (L_cc hc hd (fun κ' ω' ε' Md' hB' hd' => ?_))
  refine x_aload_n dL_law_1868 rfl rfl ?_
  refine ldg (j := 1) dL_law_1869 dL_law_1870 dL_law_1872 rfl dL_law_1873 dL_law_1874 rfl rfl hT (by omega) hL ?_
  refine ldg (j := 2) dL_law_1875 dL_law_1876 dL_law_1878 rfl dL_law_1879 dL_law_1880 rfl rfl hT (by omega) hL ?_
  refine x_cV2 (b := ad 99) dL_law_1881 lv_L_177 (L3_m hd') rfl rfl rfl (L_cm hm hd' (fun σ' hs hd2 => ?_))
  refine x_icmp_eq (tgt := 2138) dL_law_1884 (by decide) (fun _ => ?_) (fun h => absurd rfl h)
  exact x_room (k1 := (3 * g, 810 * g)) (by show 3 * g ≤ 3 * (g + 1) - 2; omega) (by show 810 * g ≤ 810 * (g + 1) - 410; omega) (back _ ⟨σ', κ', ω', ε', Md', f, rfl, Bn_E hs hB', hd2⟩)
theorem La_buy (hG : GOK G) (hA : adOK ad) (hT : OldT G .int b L (fun j => .int (xs j))) (hL : L ≤ 3584) (hi7 : i + 7 ≤ L) (hS : LwS G τ ad o M) (back : ∀ M', LwS G τ ad o M' → XJ G 101 (3 * g, 810 * g) ML_law M' (lvL b (τ 0) (ad 99) o i) [] 2138 Q) : XJ G 101 (3 * (g + 1), 810 * (g + 1)) ML_law M (lvL b (τ 0) (ad 99) o i) [] 1889 Q := by
  obtain ⟨σ, κ, ω, ε, Md, f, rfl, hB, hd⟩ := hS
  refine x_aload_n dL_law_1889 rfl rfl ?_
  refine ldg (j := 1) dL_law_1890 dL_law_1891 dL_law_1893 rfl dL_law_1894 dL_law_1895 rfl rfl hT (by omega) hL ?_
  obtain ⟨a, σN, hc, hm⟩ := pr_buy (coin := xs (i + 1)) hG hA hB
  refine x_cV1 (b := τ 0) dL_law_1896 lv_L_178 (L3_x hB.1.1) rfl rfl rfl (L_cc hc hd (fun κ' ω' ε' Md' hB' hd' => ?_))
  refine x_aload_n dL_law_1899 rfl rfl ?_
  refine ldg (j := 1) dL_law_1900 dL_law_1901 dL_law_1903 rfl dL_law_1904 dL_law_1905 rfl rfl hT (by omega) hL ?_
  refine x_cV1 (b := ad 99) dL_law_1906 lv_L_181 (L3_m hd') rfl rfl rfl (L_cm hm hd' (fun σ' hs hd2 => ?_))
  refine x_icmp_eq (tgt := 2138) dL_law_1909 (by decide) (fun _ => ?_) (fun h => absurd rfl h)
  exact x_room (k1 := (3 * g, 810 * g)) (by show 3 * g ≤ 3 * (g + 1); omega) (by show 810 * g ≤ 810 * (g + 1); omega) (back _ ⟨σ', κ', ω', ε', Md', f, rfl, Bn_E hs hB', hd2⟩)
theorem La_judge (hG : GOK G) (hA : adOK ad) (hT : OldT G .int b L (fun j => .int (xs j))) (hL : L ≤ 3584) (hi7 : i + 7 ≤ L) (hS : LwS G τ ad o M) (back : ∀ M', LwS G τ ad o M' → XJ G 101 (3 * g, 810 * g) ML_law M' (lvL b (τ 0) (ad 99) o i) [] 2138 Q) : XJ G 101 (3 * (g + 1), 810 * (g + 1)) ML_law M (lvL b (τ 0) (ad 99) o i) [] 1914 Q := by
  obtain ⟨σ, κ, ω, ε, Md, f, rfl, hB, hd⟩ := hS
  refine x_aload_n dL_law_1914 rfl rfl ?_
  refine ldg (j := 1) dL_law_1915 dL_law_1916 dL_law_1918 rfl dL_law_1919 dL_law_1920 rfl rfl hT (by omega) hL ?_
  refine ldg (j := 2) dL_law_1921 dL_law_1922 dL_law_1924 rfl dL_law_1925 dL_law_1926 rfl rfl hT (by omega) hL ?_
  obtain ⟨a, σN, hc, hm⟩ := pr_judge (set := xs (i + 1)) (coin := xs (i + 2)) hG hA hB
  refine x_cV2 (b := τ 0) dL_law_1927 lv_L_182 (L3_x hB.1.1) rfl rfl rfl (L_cc hc hd (fun κ' ω' ε' Md' hB' hd' => ?_))
  refine x_aload_n dL_law_1930 rfl rfl ?_
  refine ldg (j := 1) dL_law_1931 dL_law_1932 dL_law_1934 rfl dL_law_1935 dL_law_1936 rfl rfl hT (by omega) hL ?_
  refine ldg (j := 2) dL_law_1937 dL_law_1938 dL_law_1940 rfl dL_law_1941 dL_law_1942 rfl rfl hT (by omega) hL ?_
  refine x_cV2 (b := ad 99) dL_law_1943 lv_L_185 (L3_m hd') rfl rfl rfl (L_cm hm hd' (fun σ' hs hd2 => ?_))
  refine x_icmp_eq (tgt := 2138) dL_law_1946 (by decide) (fun _ => ?_) (fun h => absurd rfl h)
  exact x_room (k1 := (3 * g, 810 * g)) (by show 3 * g ≤ 3 * (g + 1); omega) (by show 810 * g ≤ 810 * (g + 1); omega) (back _ ⟨σ', κ', ω', ε', Md', f, rfl, Bn_E hs hB', hd2⟩)
theorem La_lot (hG : GOK G) (hA : adOK ad) (hT : OldT G .int b L (fun j => .int (xs j))) (hL : L ≤ 3584) (hi7 : i + 7 ≤ L) (hS : LwS G τ ad o M) (back : ∀ M', LwS G τ ad o M' → XJ G 101 (3 * g, 810 * g) ML_law M' (lvL b (τ 0) (ad 99) o i) [] 2138 Q) : XJ G 101 (3 * (g + 1), 810 * (g + 1)) ML_law M (lvL b (τ 0) (ad 99) o i) [] 1951 Q := by
  obtain ⟨σ, κ, ω, ε, Md, f, rfl, hB, hd⟩ := hS
  refine x_aload_n dL_law_1951 rfl rfl ?_
  refine ldg (j := 1) dL_law_1952 dL_law_1953 dL_law_1955 rfl dL_law_1956 dL_law_1957 rfl rfl hT (by omega) hL ?_
  refine ldg (j := 2) dL_law_1958 dL_law_1959 dL_law_1961 rfl dL_law_1962 dL_law_1963 rfl rfl hT (by omega) hL ?_
  refine x_i2l dL_law_1964 ?_
  refine x_bipush (v := 32) dL_law_1965 rfl ?_
  refine x_lshl dL_law_1967 ?_
  refine ldg (j := 3) dL_law_1968 dL_law_1969 dL_law_1971 rfl dL_law_1972 dL_law_1973 rfl rfl hT (by omega) hL ?_
  refine x_i2l dL_law_1974 ?_
  refine x_ldc2 dL_law_1975 tb1749 ?_
  refine x_land dL_law_1978 ?_
  refine x_lor dL_law_1979 ?_
  refine ldg (j := 4) dL_law_1980 dL_law_1981 dL_law_1983 rfl dL_law_1984 dL_law_1985 rfl rfl hT (by omega) hL ?_
  obtain ⟨a, σN, hc, hm⟩ := pr_lot (n := xs (i + 1)) (seed := sd (xs (i + 2)) (xs (i + 3))) (i := xs (i + 4)) hG hA hB
  refine x_cV3 (b := τ 0) dL_law_1986 lv_L_188 (L3_x hB.1.1) rfl rfl rfl (L_cc hc hd (fun κ' ω' ε' Md' hB' hd' => ?_))
  refine x_aload_n dL_law_1989 rfl rfl ?_
  refine ldg (j := 1) dL_law_1990 dL_law_1991 dL_law_1993 rfl dL_law_1994 dL_law_1995 rfl rfl hT (by omega) hL ?_
  refine ldg (j := 2) dL_law_1996 dL_law_1997 dL_law_1999 rfl dL_law_2000 dL_law_2001 rfl rfl hT (by omega) hL ?_
  refine x_i2l dL_law_2002 ?_
  refine x_bipush (v := 32) dL_law_2003 rfl ?_
  refine x_lshl dL_law_2005 ?_
  refine ldg (j := 3) dL_law_2006 dL_law_2007 dL_law_2009 rfl dL_law_2010 dL_law_2011 rfl rfl hT (by omega) hL ?_
  refine x_i2l dL_law_2012 ?_
  refine x_ldc2 dL_law_2013 tb1749 ?_
  refine x_land dL_law_2016 ?_
  refine x_lor dL_law_2017 ?_
  refine ldg (j := 4) dL_law_2018 dL_law_2019 dL_law_2021 rfl dL_law_2022 dL_law_2023 rfl rfl hT (by omega) hL ?_
  refine x_cV3 (b := ad 99) dL_law_2024 lv_L_192 (L3_m hd') rfl rfl rfl (L_cm hm hd' (fun σ' hs hd2 => ?_))
  refine x_icmp_eq (tgt := 2138) dL_law_2027 (by decide) (fun _ => ?_) (fun h => absurd rfl h)
  exact x_room (k1 := (3 * g, 810 * g)) (by show 3 * g ≤ 3 * (g + 1); omega) (by show 810 * g ≤ 810 * (g + 1); omega) (back _ ⟨σ', κ', ω', ε', Md', f, rfl, Bn_E hs hB', hd2⟩)
theorem La_beside (hG : GOK G) (hA : adOK ad) (hT : OldT G .int b L (fun j => .int (xs j))) (hL : L ≤ 3584) (hi7 : i + 7 ≤ L) (hS : LwS G τ ad o M) (back : ∀ M', LwS G τ ad o M' → XJ G 101 (3 * g, 810 * g) ML_law M' (lvL b (τ 0) (ad 99) o i) [] 2138 Q) : XJ G 101 (3 * (g + 1), 810 * (g + 1)) ML_law M (lvL b (τ 0) (ad 99) o i) [] 2032 Q := by
  obtain ⟨σ, κ, ω, ε, Md, f, rfl, hB, hd⟩ := hS
  refine x_aload_n dL_law_2032 rfl rfl ?_
  refine ldg (j := 1) dL_law_2033 dL_law_2034 dL_law_2036 rfl dL_law_2037 dL_law_2038 rfl rfl hT (by omega) hL ?_
  refine ldg (j := 2) dL_law_2039 dL_law_2040 dL_law_2042 rfl dL_law_2043 dL_law_2044 rfl rfl hT (by omega) hL ?_
  refine x_i2l dL_law_2045 ?_
  refine x_bipush (v := 32) dL_law_2046 rfl ?_
  refine x_lshl dL_law_2048 ?_
  refine ldg (j := 3) dL_law_2049 dL_law_2050 dL_law_2052 rfl dL_law_2053 dL_law_2054 rfl rfl hT (by omega) hL ?_
  refine x_i2l dL_law_2055 ?_
  refine x_ldc2 dL_law_2056 tb1749 ?_
  refine x_land dL_law_2059 ?_
  refine x_lor dL_law_2060 ?_
  refine ldg (j := 4) dL_law_2061 dL_law_2062 dL_law_2064 rfl dL_law_2065 dL_law_2066 rfl rfl hT (by omega) hL ?_
  obtain ⟨a, σN, hc, hm⟩ := pr_beside (n := xs (i + 1)) (seed := sd (xs (i + 2)) (xs (i + 3))) (day := xs (i + 4)) hG hA hB
  refine x_cV3 (b := τ 0) dL_law_2067 lv_L_193 (L3_x hB.1.1) rfl rfl rfl (L_cc hc hd (fun κ' ω' ε' Md' hB' hd' => ?_))
  refine x_aload_n dL_law_2070 rfl rfl ?_
  refine ldg (j := 1) dL_law_2071 dL_law_2072 dL_law_2074 rfl dL_law_2075 dL_law_2076 rfl rfl hT (by omega) hL ?_
  refine ldg (j := 2) dL_law_2077 dL_law_2078 dL_law_2080 rfl dL_law_2081 dL_law_2082 rfl rfl hT (by omega) hL ?_
  refine x_i2l dL_law_2083 ?_
  refine x_bipush (v := 32) dL_law_2084 rfl ?_
  refine x_lshl dL_law_2086 ?_
  refine ldg (j := 3) dL_law_2087 dL_law_2088 dL_law_2090 rfl dL_law_2091 dL_law_2092 rfl rfl hT (by omega) hL ?_
  refine x_i2l dL_law_2093 ?_
  refine x_ldc2 dL_law_2094 tb1749 ?_
  refine x_land dL_law_2097 ?_
  refine x_lor dL_law_2098 ?_
  refine ldg (j := 4) dL_law_2099 dL_law_2100 dL_law_2102 rfl dL_law_2103 dL_law_2104 rfl rfl hT (by omega) hL ?_
  refine x_cV3 (b := ad 99) dL_law_2105 lv_L_196 (L3_m hd') rfl rfl rfl (L_cm hm hd' (fun σ' hs hd2 => ?_))
  refine x_icmp_eq (tgt := 2138) dL_law_2108 (by decide) (fun _ => ?_) (fun h => absurd rfl h)
  exact x_room (k1 := (3 * g, 810 * g)) (by show 3 * g ≤ 3 * (g + 1); omega) (by show 810 * g ≤ 810 * (g + 1); omega) (back _ ⟨σ', κ', ω', ε', Md', f, rfl, Bn_E hs hB', hd2⟩)
theorem La_count (hG : GOK G) (hA : adOK ad) (hT : OldT G .int b L (fun j => .int (xs j))) (hL : L ≤ 3584) (hi7 : i + 7 ≤ L) (hS : LwS G τ ad o M) (back : ∀ M', LwS G τ ad o M' → XJ G 101 (3 * g, 810 * g) ML_law M' (lvL b (τ 0) (ad 99) o i) [] 2138 Q) : XJ G 101 (3 * (g + 1), 810 * (g + 1)) ML_law M (lvL b (τ 0) (ad 99) o i) [] 2113 Q := by
  obtain ⟨σ, κ, ω, ε, Md, f, rfl, hB, hd⟩ := hS
  refine x_aload_n dL_law_2113 rfl rfl ?_
  refine ldg (j := 1) dL_law_2114 dL_law_2115 dL_law_2117 rfl dL_law_2118 dL_law_2119 rfl rfl hT (by omega) hL ?_
  obtain ⟨a, σN, hc, hm⟩ := pr_count (w := xs (i + 1)) hG hA hB
  refine x_cV1 (b := τ 0) dL_law_2120 lv_L_197 (L3_x hB.1.1) rfl rfl rfl (L_cc hc hd (fun κ' ω' ε' Md' hB' hd' => ?_))
  refine x_aload_n dL_law_2123 rfl rfl ?_
  refine ldg (j := 1) dL_law_2124 dL_law_2125 dL_law_2127 rfl dL_law_2128 dL_law_2129 rfl rfl hT (by omega) hL ?_
  refine x_cV1 (b := ad 99) dL_law_2130 lv_L_200 (L3_m hd') rfl rfl rfl (L_cm hm hd' (fun σ' hs hd2 => ?_))
  refine x_icmp_eq (tgt := 2138) dL_law_2133 (by decide) (fun _ => ?_) (fun h => absurd rfl h)
  exact x_room (k1 := (3 * g, 810 * g)) (by show 3 * g ≤ 3 * (g + 1); omega) (by show 810 * g ≤ 810 * (g + 1); omega) (back _ ⟨σ', κ', ω', ε', Md', f, rfl, Bn_E hs hB', hd2⟩)
end LAW
