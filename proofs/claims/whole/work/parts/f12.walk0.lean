/-! the law's walk: table check refer veil begin value insert update -/
section
variable {Q : PE} {K : KT} {P : PT} {J I : IT} {c cs ns Lg : Nat} {i : Int} {xs : Int → Int}
theorem walk_table (h : LI c Lg xs K P J I cs ns) (c6 : 6 * c ≤ i) (hi : (0 ≤ i ∧ i + 6 ≤ Lg) ∧ Lg ≤ 3072) (nx : ∀ K P J I cs ns, (cs ≤ 603072 ∧ ns ≤ 7207018) → LI (c + 1) Lg xs K P J I cs ns → VL Q K P J I cs ns 3229 (Lw i) []) : VL Q K P J I cs ns 244 (Lw i) [] := by
  refine VE.aload_n (o := 1000) (pc' := 245) d_Law_law_244 rfl rfl ?_
  refine VL.arg (i := i) (pc' := 251) d_Law_law_245 d_Law_law_246 d_Law_law_248 d_Law_law_249 d_Law_law_250 rfl rfl rfl h.1 (by decide) hi ?_
  refine VE.aload_n (o := 50) (pc' := 252) d_Law_law_251 rfl rfl ?_
  obtain ⟨hc, Qc, sp, hq⟩ := case_table (p1 := xs (i + 1)) h (by omega)
  refine VE.callSWE (k := 3) (pc' := 255) d_Law_law_252 rfl sp.lim rfl rfl cd_Law_table kw_initialized_RowForgeLaw (by decide) (by decide) (by decide +kernel) rfl st_Law_table lk_Law_154 rfl rfl rfl (by show cs + (603072 - cs) ≤ 603072; omega) (by show ns + (7207018 - ns) ≤ 7207018; omega) (fun k9 n9 r K1 P1 J1 I1 hz => ?_)
  obtain ⟨hk9, k0, n0, kk0, nn0, hz⟩ := hz
  have hk : k9 ≤ 603072 - cs ∧ n9 ≤ 7207018 - ns := hk9
  refine VE.wf (fun wf => ?_)
  obtain ⟨kc, er, hL1, Q2, sp2, hq2⟩ := hq r K1 P1 J1 I1 k0 n0 hz wf
  subst er
  refine VE.istore (pc' := 257) d_Law_law_255 rfl rfl ?_
  refine VE.pick [0, 1, 2, 3, 4, 5] ?_
  refine VE.aload_n (o := 100) (pc' := 258) d_Law_law_257 rfl rfl ?_
  refine VL.arg (i := i) (pc' := 264) d_Law_law_258 d_Law_law_259 d_Law_law_261 d_Law_law_262 d_Law_law_263 rfl rfl rfl hL1 (by decide) hi ?_
  refine VE.callV (ci := 11) (T := T11) (N := 94) (pc' := 267) d_Law_law_264 rfl sp2 rfl mv_Model_table.1 mv_Model_table.2.1 rfl mv_Model_table.2.2.1 mv_Model_table.2.2.2 lk_Law_159 rfl (hL1.1.1.k rfl) rfl rfl rfl (by show cs + k9 + 0 ≤ 603072; omega) (by show ns + n9 + 0 ≤ 7207018; omega) (fun r2 K2 P2 J2 I2 hz2 => ?_)
  obtain ⟨b, er2, -, -, h93, hb, hN⟩ := hq2 _ _ _ _ _ hz2
  injection er2 with er2
  subst er2
  exact law_tail d_Law_law_267 d_Law_law_269 d_Law_law_270 d_Law_law_273 d_Law_law_275 d_Law_law_280 d_Law_law_282 d_Law_law_285 d_Law_law_286 d_Law_law_287 d_Law_law_288 d_Law_law_290 d_Law_law_291 d_Law_law_292 d_Law_law_297 (by decide) hN.1 h93 hb (by show cs + k9 ≤ 603072 ∧ ns + n9 ≤ 7207018; omega) (nx _ _ _ _ (cs + k9) (ns + n9) (by omega) (hN.mono (by omega) (by omega)))
theorem walk_check (h : LI c Lg xs K P J I cs ns) (c6 : 6 * c ≤ i) (hi : (0 ≤ i ∧ i + 6 ≤ Lg) ∧ Lg ≤ 3072) (nx : ∀ K P J I cs ns, (cs ≤ 603072 ∧ ns ≤ 7207018) → LI (c + 1) Lg xs K P J I cs ns → VL Q K P J I cs ns 3229 (Lw i) []) : VL Q K P J I cs ns 300 (Lw i) [] := by
  refine VE.aload_n (o := 1000) (pc' := 301) d_Law_law_300 rfl rfl ?_
  refine VL.arg (i := i) (pc' := 307) d_Law_law_301 d_Law_law_302 d_Law_law_304 d_Law_law_305 d_Law_law_306 rfl rfl rfl h.1 (by decide) hi ?_
  refine VL.arg (i := i) (pc' := 313) d_Law_law_307 d_Law_law_308 d_Law_law_310 d_Law_law_311 d_Law_law_312 rfl rfl rfl h.1 (by decide) hi ?_
  refine VL.arg (i := i) (pc' := 319) d_Law_law_313 d_Law_law_314 d_Law_law_316 d_Law_law_317 d_Law_law_318 rfl rfl rfl h.1 (by decide) hi ?_
  refine VL.arg (i := i) (pc' := 325) d_Law_law_319 d_Law_law_320 d_Law_law_322 d_Law_law_323 d_Law_law_324 rfl rfl rfl h.1 (by decide) hi ?_
  refine VE.aload_n (o := 50) (pc' := 326) d_Law_law_325 rfl rfl ?_
  obtain ⟨hc, Qc, sp, hq⟩ := case_check (p1 := xs (i + 1)) (p2 := xs (i + 2)) (p3 := xs (i + 3)) (p4 := xs (i + 4)) h (by omega)
  refine VE.callSWE (k := 6) (pc' := 329) d_Law_law_326 rfl sp.lim rfl rfl cd_Law_check kw_initialized_RowForgeLaw (by decide) (by decide) (by decide +kernel) rfl st_Law_check lk_Law_163 rfl rfl rfl (by show cs + (603072 - cs) ≤ 603072; omega) (by show ns + (7207018 - ns) ≤ 7207018; omega) (fun k9 n9 r K1 P1 J1 I1 hz => ?_)
  obtain ⟨hk9, k0, n0, kk0, nn0, hz⟩ := hz
  have hk : k9 ≤ 603072 - cs ∧ n9 ≤ 7207018 - ns := hk9
  refine VE.wf (fun wf => ?_)
  obtain ⟨kc, er, hL1, Q2, sp2, hq2⟩ := hq r K1 P1 J1 I1 k0 n0 hz wf
  subst er
  refine VE.istore (pc' := 331) d_Law_law_329 rfl rfl ?_
  refine VE.pick [0, 1, 2, 3, 4, 5] ?_
  refine VE.aload_n (o := 100) (pc' := 332) d_Law_law_331 rfl rfl ?_
  refine VL.arg (i := i) (pc' := 338) d_Law_law_332 d_Law_law_333 d_Law_law_335 d_Law_law_336 d_Law_law_337 rfl rfl rfl hL1 (by decide) hi ?_
  refine VL.arg (i := i) (pc' := 344) d_Law_law_338 d_Law_law_339 d_Law_law_341 d_Law_law_342 d_Law_law_343 rfl rfl rfl hL1 (by decide) hi ?_
  refine VL.arg (i := i) (pc' := 350) d_Law_law_344 d_Law_law_345 d_Law_law_347 d_Law_law_348 d_Law_law_349 rfl rfl rfl hL1 (by decide) hi ?_
  refine VL.arg (i := i) (pc' := 356) d_Law_law_350 d_Law_law_351 d_Law_law_353 d_Law_law_354 d_Law_law_355 rfl rfl rfl hL1 (by decide) hi ?_
  refine VE.callV (ci := 11) (T := T11) (N := 94) (pc' := 359) d_Law_law_356 rfl sp2 rfl mv_Model_check.1 mv_Model_check.2.1 rfl mv_Model_check.2.2.1 mv_Model_check.2.2.2 lk_Law_166 rfl (hL1.1.1.k rfl) rfl rfl rfl (by show cs + k9 + 0 ≤ 603072; omega) (by show ns + n9 + 0 ≤ 7207018; omega) (fun r2 K2 P2 J2 I2 hz2 => ?_)
  obtain ⟨b, er2, -, -, h93, hb, hN⟩ := hq2 _ _ _ _ _ hz2
  injection er2 with er2
  subst er2
  exact law_tail d_Law_law_359 d_Law_law_361 d_Law_law_362 d_Law_law_365 d_Law_law_367 d_Law_law_372 d_Law_law_374 d_Law_law_377 d_Law_law_378 d_Law_law_379 d_Law_law_380 d_Law_law_382 d_Law_law_383 d_Law_law_384 d_Law_law_389 (by decide) hN.1 h93 hb (by show cs + k9 ≤ 603072 ∧ ns + n9 ≤ 7207018; omega) (nx _ _ _ _ (cs + k9) (ns + n9) (by omega) (hN.mono (by omega) (by omega)))
theorem walk_refer (h : LI c Lg xs K P J I cs ns) (c6 : 6 * c ≤ i) (hi : (0 ≤ i ∧ i + 6 ≤ Lg) ∧ Lg ≤ 3072) (nx : ∀ K P J I cs ns, (cs ≤ 603072 ∧ ns ≤ 7207018) → LI (c + 1) Lg xs K P J I cs ns → VL Q K P J I cs ns 3229 (Lw i) []) : VL Q K P J I cs ns 392 (Lw i) [] := by
  refine VE.aload_n (o := 1000) (pc' := 393) d_Law_law_392 rfl rfl ?_
  refine VL.arg (i := i) (pc' := 399) d_Law_law_393 d_Law_law_394 d_Law_law_396 d_Law_law_397 d_Law_law_398 rfl rfl rfl h.1 (by decide) hi ?_
  refine VL.arg (i := i) (pc' := 405) d_Law_law_399 d_Law_law_400 d_Law_law_402 d_Law_law_403 d_Law_law_404 rfl rfl rfl h.1 (by decide) hi ?_
  refine VL.arg (i := i) (pc' := 411) d_Law_law_405 d_Law_law_406 d_Law_law_408 d_Law_law_409 d_Law_law_410 rfl rfl rfl h.1 (by decide) hi ?_
  refine VL.arg (i := i) (pc' := 417) d_Law_law_411 d_Law_law_412 d_Law_law_414 d_Law_law_415 d_Law_law_416 rfl rfl rfl h.1 (by decide) hi ?_
  obtain ⟨hc, Qc, sp, hq⟩ := case_refer (p1 := xs (i + 1)) (p2 := xs (i + 2)) (p3 := xs (i + 3)) (p4 := xs (i + 4)) h (by omega)
  refine VE.callSWE (k := 5) (pc' := 420) d_Law_law_417 rfl sp.lim rfl rfl cd_Law_refer kw_initialized_RowForgeLaw (by decide) (by decide) (by decide +kernel) rfl st_Law_refer lk_Law_167 rfl rfl rfl (by show cs + (603072 - cs) ≤ 603072; omega) (by show ns + (7207018 - ns) ≤ 7207018; omega) (fun k9 n9 r K1 P1 J1 I1 hz => ?_)
  obtain ⟨hk9, k0, n0, kk0, nn0, hz⟩ := hz
  have hk : k9 ≤ 603072 - cs ∧ n9 ≤ 7207018 - ns := hk9
  refine VE.wf (fun wf => ?_)
  obtain ⟨kc, er, hL1, Q2, sp2, hq2⟩ := hq r K1 P1 J1 I1 k0 n0 hz wf
  subst er
  refine VE.istore (pc' := 422) d_Law_law_420 rfl rfl ?_
  refine VE.pick [0, 1, 2, 3, 4, 5] ?_
  refine VE.aload_n (o := 100) (pc' := 423) d_Law_law_422 rfl rfl ?_
  refine VL.arg (i := i) (pc' := 429) d_Law_law_423 d_Law_law_424 d_Law_law_426 d_Law_law_427 d_Law_law_428 rfl rfl rfl hL1 (by decide) hi ?_
  refine VL.arg (i := i) (pc' := 435) d_Law_law_429 d_Law_law_430 d_Law_law_432 d_Law_law_433 d_Law_law_434 rfl rfl rfl hL1 (by decide) hi ?_
  refine VL.arg (i := i) (pc' := 441) d_Law_law_435 d_Law_law_436 d_Law_law_438 d_Law_law_439 d_Law_law_440 rfl rfl rfl hL1 (by decide) hi ?_
  refine VL.arg (i := i) (pc' := 447) d_Law_law_441 d_Law_law_442 d_Law_law_444 d_Law_law_445 d_Law_law_446 rfl rfl rfl hL1 (by decide) hi ?_
  refine VE.callV (ci := 11) (T := T11) (N := 94) (pc' := 450) d_Law_law_447 rfl sp2 rfl mv_Model_refer.1 mv_Model_refer.2.1 rfl mv_Model_refer.2.2.1 mv_Model_refer.2.2.2 lk_Law_170 rfl (hL1.1.1.k rfl) rfl rfl rfl (by show cs + k9 + 0 ≤ 603072; omega) (by show ns + n9 + 0 ≤ 7207018; omega) (fun r2 K2 P2 J2 I2 hz2 => ?_)
  obtain ⟨er2, -, -, h93, hN⟩ := hq2 _ _ _ _ _ hz2
  injection er2 with er2
  subst er2
  exact law_tailN d_Law_law_450 d_Law_law_451 d_Law_law_454 d_Law_law_456 d_Law_law_461 (by decide) hN.1 h93 (by show cs + k9 ≤ 603072 ∧ ns + n9 ≤ 7207018; omega) (nx _ _ _ _ (cs + k9) (ns + n9) (by omega) (hN.mono (by omega) (by omega)))
theorem walk_veil (h : LI c Lg xs K P J I cs ns) (c6 : 6 * c ≤ i) (hi : (0 ≤ i ∧ i + 6 ≤ Lg) ∧ Lg ≤ 3072) (nx : ∀ K P J I cs ns, (cs ≤ 603072 ∧ ns ≤ 7207018) → LI (c + 1) Lg xs K P J I cs ns → VL Q K P J I cs ns 3229 (Lw i) []) : VL Q K P J I cs ns 464 (Lw i) [] := by
  refine VE.aload_n (o := 1000) (pc' := 465) d_Law_law_464 rfl rfl ?_
  refine VL.arg (i := i) (pc' := 471) d_Law_law_465 d_Law_law_466 d_Law_law_468 d_Law_law_469 d_Law_law_470 rfl rfl rfl h.1 (by decide) hi ?_
  refine VL.arg (i := i) (pc' := 477) d_Law_law_471 d_Law_law_472 d_Law_law_474 d_Law_law_475 d_Law_law_476 rfl rfl rfl h.1 (by decide) hi ?_
  refine VL.arg (i := i) (pc' := 483) d_Law_law_477 d_Law_law_478 d_Law_law_480 d_Law_law_481 d_Law_law_482 rfl rfl rfl h.1 (by decide) hi ?_
  refine VL.arg (i := i) (pc' := 489) d_Law_law_483 d_Law_law_484 d_Law_law_486 d_Law_law_487 d_Law_law_488 rfl rfl rfl h.1 (by decide) hi ?_
  refine VL.arg (i := i) (pc' := 495) d_Law_law_489 d_Law_law_490 d_Law_law_492 d_Law_law_493 d_Law_law_494 rfl rfl rfl h.1 (by decide) hi ?_
  refine VE.aload_n (o := 50) (pc' := 496) d_Law_law_495 rfl rfl ?_
  obtain ⟨hc, Qc, sp, hq⟩ := case_veil (p1 := xs (i + 1)) (p2 := xs (i + 2)) (p3 := xs (i + 3)) (p4 := xs (i + 4)) (p5 := xs (i + 5)) h (by omega)
  refine VE.callSWE (k := 7) (pc' := 499) d_Law_law_496 rfl sp.lim rfl rfl cd_Law_veil kw_initialized_RowForgeLaw (by decide) (by decide) (by decide +kernel) rfl st_Law_veil lk_Law_171 rfl rfl rfl (by show cs + (603072 - cs) ≤ 603072; omega) (by show ns + (7207018 - ns) ≤ 7207018; omega) (fun k9 n9 r K1 P1 J1 I1 hz => ?_)
  obtain ⟨hk9, k0, n0, kk0, nn0, hz⟩ := hz
  have hk : k9 ≤ 603072 - cs ∧ n9 ≤ 7207018 - ns := hk9
  refine VE.wf (fun wf => ?_)
  obtain ⟨kc, er, hL1, Q2, sp2, hq2⟩ := hq r K1 P1 J1 I1 k0 n0 hz wf
  subst er
  refine VE.istore (pc' := 501) d_Law_law_499 rfl rfl ?_
  refine VE.pick [0, 1, 2, 3, 4, 5] ?_
  refine VE.aload_n (o := 100) (pc' := 502) d_Law_law_501 rfl rfl ?_
  refine VL.arg (i := i) (pc' := 508) d_Law_law_502 d_Law_law_503 d_Law_law_505 d_Law_law_506 d_Law_law_507 rfl rfl rfl hL1 (by decide) hi ?_
  refine VL.arg (i := i) (pc' := 514) d_Law_law_508 d_Law_law_509 d_Law_law_511 d_Law_law_512 d_Law_law_513 rfl rfl rfl hL1 (by decide) hi ?_
  refine VL.arg (i := i) (pc' := 520) d_Law_law_514 d_Law_law_515 d_Law_law_517 d_Law_law_518 d_Law_law_519 rfl rfl rfl hL1 (by decide) hi ?_
  refine VL.arg (i := i) (pc' := 526) d_Law_law_520 d_Law_law_521 d_Law_law_523 d_Law_law_524 d_Law_law_525 rfl rfl rfl hL1 (by decide) hi ?_
  refine VL.arg (i := i) (pc' := 532) d_Law_law_526 d_Law_law_527 d_Law_law_529 d_Law_law_530 d_Law_law_531 rfl rfl rfl hL1 (by decide) hi ?_
  refine VE.callV (ci := 11) (T := T11) (N := 94) (pc' := 535) d_Law_law_532 rfl sp2 rfl mv_Model_veil.1 mv_Model_veil.2.1 rfl mv_Model_veil.2.2.1 mv_Model_veil.2.2.2 lk_Law_174 rfl (hL1.1.1.k rfl) rfl rfl rfl (by show cs + k9 + 0 ≤ 603072; omega) (by show ns + n9 + 0 ≤ 7207018; omega) (fun r2 K2 P2 J2 I2 hz2 => ?_)
  obtain ⟨b, er2, -, -, h93, hb, hN⟩ := hq2 _ _ _ _ _ hz2
  injection er2 with er2
  subst er2
  exact law_tail d_Law_law_535 d_Law_law_537 d_Law_law_538 d_Law_law_541 d_Law_law_543 d_Law_law_548 d_Law_law_550 d_Law_law_553 d_Law_law_554 d_Law_law_555 d_Law_law_556 d_Law_law_558 d_Law_law_559 d_Law_law_560 d_Law_law_565 (by decide) hN.1 h93 hb (by show cs + k9 ≤ 603072 ∧ ns + n9 ≤ 7207018; omega) (nx _ _ _ _ (cs + k9) (ns + n9) (by omega) (hN.mono (by omega) (by omega)))
theorem walk_begin (h : LI c Lg xs K P J I cs ns) (c6 : 6 * c ≤ i) (hi : (0 ≤ i ∧ i + 6 ≤ Lg) ∧ Lg ≤ 3072) (nx : ∀ K P J I cs ns, (cs ≤ 603072 ∧ ns ≤ 7207018) → LI (c + 1) Lg xs K P J I cs ns → VL Q K P J I cs ns 3229 (Lw i) []) : VL Q K P J I cs ns 568 (Lw i) [] := by
  refine VE.aload_n (o := 1000) (pc' := 569) d_Law_law_568 rfl rfl ?_
  refine VL.arg (i := i) (pc' := 575) d_Law_law_569 d_Law_law_570 d_Law_law_572 d_Law_law_573 d_Law_law_574 rfl rfl rfl h.1 (by decide) hi ?_
  refine VE.aload_n (o := 50) (pc' := 576) d_Law_law_575 rfl rfl ?_
  obtain ⟨hc, Qc, sp, hq⟩ := case_begin (p1 := xs (i + 1)) h (by omega)
  refine VE.callSWE (k := 3) (pc' := 579) d_Law_law_576 rfl sp.lim rfl rfl cd_Law_begin kw_initialized_RowForgeLaw (by decide) (by decide) (by decide +kernel) rfl st_Law_begin lk_Law_175 rfl rfl rfl (by show cs + (603072 - cs) ≤ 603072; omega) (by show ns + (7207018 - ns) ≤ 7207018; omega) (fun k9 n9 r K1 P1 J1 I1 hz => ?_)
  obtain ⟨hk9, k0, n0, kk0, nn0, hz⟩ := hz
  have hk : k9 ≤ 603072 - cs ∧ n9 ≤ 7207018 - ns := hk9
  refine VE.wf (fun wf => ?_)
  obtain ⟨kc, er, hL1, Q2, sp2, hq2⟩ := hq r K1 P1 J1 I1 k0 n0 hz wf
  subst er
  refine VE.istore (pc' := 581) d_Law_law_579 rfl rfl ?_
  refine VE.pick [0, 1, 2, 3, 4, 5] ?_
  refine VE.aload_n (o := 100) (pc' := 582) d_Law_law_581 rfl rfl ?_
  refine VL.arg (i := i) (pc' := 588) d_Law_law_582 d_Law_law_583 d_Law_law_585 d_Law_law_586 d_Law_law_587 rfl rfl rfl hL1 (by decide) hi ?_
  refine VE.callV (ci := 11) (T := T11) (N := 94) (pc' := 591) d_Law_law_588 rfl sp2 rfl mv_Model_begin.1 mv_Model_begin.2.1 rfl mv_Model_begin.2.2.1 mv_Model_begin.2.2.2 lk_Law_177 rfl (hL1.1.1.k rfl) rfl rfl rfl (by show cs + k9 + 0 ≤ 603072; omega) (by show ns + n9 + 0 ≤ 7207018; omega) (fun r2 K2 P2 J2 I2 hz2 => ?_)
  obtain ⟨b, er2, -, -, h93, hb, hN⟩ := hq2 _ _ _ _ _ hz2
  injection er2 with er2
  subst er2
  exact law_tail d_Law_law_591 d_Law_law_593 d_Law_law_594 d_Law_law_597 d_Law_law_599 d_Law_law_604 d_Law_law_606 d_Law_law_609 d_Law_law_610 d_Law_law_611 d_Law_law_612 d_Law_law_614 d_Law_law_615 d_Law_law_616 d_Law_law_621 (by decide) hN.1 h93 hb (by show cs + k9 ≤ 603072 ∧ ns + n9 ≤ 7207018; omega) (nx _ _ _ _ (cs + k9) (ns + n9) (by omega) (hN.mono (by omega) (by omega)))
theorem walk_value (h : LI c Lg xs K P J I cs ns) (c6 : 6 * c ≤ i) (hi : (0 ≤ i ∧ i + 6 ≤ Lg) ∧ Lg ≤ 3072) (nx : ∀ K P J I cs ns, (cs ≤ 603072 ∧ ns ≤ 7207018) → LI (c + 1) Lg xs K P J I cs ns → VL Q K P J I cs ns 3229 (Lw i) []) : VL Q K P J I cs ns 624 (Lw i) [] := by
  refine VE.aload_n (o := 1000) (pc' := 625) d_Law_law_624 rfl rfl ?_
  refine VL.arg (i := i) (pc' := 631) d_Law_law_625 d_Law_law_626 d_Law_law_628 d_Law_law_629 d_Law_law_630 rfl rfl rfl h.1 (by decide) hi ?_
  refine VE.aload_n (o := 50) (pc' := 632) d_Law_law_631 rfl rfl ?_
  obtain ⟨hc, Qc, sp, hq⟩ := case_value (p1 := xs (i + 1)) h (by omega)
  refine VE.callSWE (k := 3) (pc' := 635) d_Law_law_632 rfl sp.lim rfl rfl cd_Law_value kw_initialized_RowForgeLaw (by decide) (by decide) (by decide +kernel) rfl st_Law_value lk_Law_178 rfl rfl rfl (by show cs + (603072 - cs) ≤ 603072; omega) (by show ns + (7207018 - ns) ≤ 7207018; omega) (fun k9 n9 r K1 P1 J1 I1 hz => ?_)
  obtain ⟨hk9, k0, n0, kk0, nn0, hz⟩ := hz
  have hk : k9 ≤ 603072 - cs ∧ n9 ≤ 7207018 - ns := hk9
  refine VE.wf (fun wf => ?_)
  obtain ⟨kc, er, hL1, Q2, sp2, hq2⟩ := hq r K1 P1 J1 I1 k0 n0 hz wf
  subst er
  refine VE.istore (pc' := 637) d_Law_law_635 rfl rfl ?_
  refine VE.pick [0, 1, 2, 3, 4, 5] ?_
  refine VE.aload_n (o := 100) (pc' := 638) d_Law_law_637 rfl rfl ?_
  refine VL.arg (i := i) (pc' := 644) d_Law_law_638 d_Law_law_639 d_Law_law_641 d_Law_law_642 d_Law_law_643 rfl rfl rfl hL1 (by decide) hi ?_
  refine VE.callV (ci := 11) (T := T11) (N := 94) (pc' := 647) d_Law_law_644 rfl sp2 rfl mv_Model_value.1 mv_Model_value.2.1 rfl mv_Model_value.2.2.1 mv_Model_value.2.2.2 lk_Law_180 rfl (hL1.1.1.k rfl) rfl rfl rfl (by show cs + k9 + 0 ≤ 603072; omega) (by show ns + n9 + 0 ≤ 7207018; omega) (fun r2 K2 P2 J2 I2 hz2 => ?_)
  obtain ⟨b, er2, -, -, h93, hb, hN⟩ := hq2 _ _ _ _ _ hz2
  injection er2 with er2
  subst er2
  exact law_tail d_Law_law_647 d_Law_law_649 d_Law_law_650 d_Law_law_653 d_Law_law_655 d_Law_law_660 d_Law_law_662 d_Law_law_665 d_Law_law_666 d_Law_law_667 d_Law_law_668 d_Law_law_670 d_Law_law_671 d_Law_law_672 d_Law_law_677 (by decide) hN.1 h93 hb (by show cs + k9 ≤ 603072 ∧ ns + n9 ≤ 7207018; omega) (nx _ _ _ _ (cs + k9) (ns + n9) (by omega) (hN.mono (by omega) (by omega)))
theorem walk_insert (h : LI c Lg xs K P J I cs ns) (c6 : 6 * c ≤ i) (hi : (0 ≤ i ∧ i + 6 ≤ Lg) ∧ Lg ≤ 3072) (nx : ∀ K P J I cs ns, (cs ≤ 603072 ∧ ns ≤ 7207018) → LI (c + 1) Lg xs K P J I cs ns → VL Q K P J I cs ns 3229 (Lw i) []) : VL Q K P J I cs ns 680 (Lw i) [] := by
  refine VE.aload_n (o := 1000) (pc' := 681) d_Law_law_680 rfl rfl ?_
  refine VL.arg (i := i) (pc' := 687) d_Law_law_681 d_Law_law_682 d_Law_law_684 d_Law_law_685 d_Law_law_686 rfl rfl rfl h.1 (by decide) hi ?_
  refine VL.arg (i := i) (pc' := 693) d_Law_law_687 d_Law_law_688 d_Law_law_690 d_Law_law_691 d_Law_law_692 rfl rfl rfl h.1 (by decide) hi ?_
  refine VE.aload_n (o := 50) (pc' := 694) d_Law_law_693 rfl rfl ?_
  obtain ⟨hc, Qc, sp, hq⟩ := case_insert (p1 := xs (i + 1)) (p2 := xs (i + 2)) h (by omega)
  refine VE.callSWE (k := 4) (pc' := 697) d_Law_law_694 rfl sp.lim rfl rfl cd_Law_insert kw_initialized_RowForgeLaw (by decide) (by decide) (by decide +kernel) rfl st_Law_insert lk_Law_181 rfl rfl rfl (by show cs + (603072 - cs) ≤ 603072; omega) (by show ns + (7207018 - ns) ≤ 7207018; omega) (fun k9 n9 r K1 P1 J1 I1 hz => ?_)
  obtain ⟨hk9, k0, n0, kk0, nn0, hz⟩ := hz
  have hk : k9 ≤ 603072 - cs ∧ n9 ≤ 7207018 - ns := hk9
  refine VE.wf (fun wf => ?_)
  obtain ⟨kc, er, hL1, Q2, sp2, hq2⟩ := hq r K1 P1 J1 I1 k0 n0 hz wf
  subst er
  refine VE.istore (pc' := 699) d_Law_law_697 rfl rfl ?_
  refine VE.pick [0, 1, 2, 3, 4, 5] ?_
  refine VE.aload_n (o := 100) (pc' := 700) d_Law_law_699 rfl rfl ?_
  refine VL.arg (i := i) (pc' := 706) d_Law_law_700 d_Law_law_701 d_Law_law_703 d_Law_law_704 d_Law_law_705 rfl rfl rfl hL1 (by decide) hi ?_
  refine VL.arg (i := i) (pc' := 712) d_Law_law_706 d_Law_law_707 d_Law_law_709 d_Law_law_710 d_Law_law_711 rfl rfl rfl hL1 (by decide) hi ?_
  refine VE.callV (ci := 11) (T := T11) (N := 94) (pc' := 715) d_Law_law_712 rfl sp2 rfl mv_Model_insert.1 mv_Model_insert.2.1 rfl mv_Model_insert.2.2.1 mv_Model_insert.2.2.2 lk_Law_184 rfl (hL1.1.1.k rfl) rfl rfl rfl (by show cs + k9 + 0 ≤ 603072; omega) (by show ns + n9 + 0 ≤ 7207018; omega) (fun r2 K2 P2 J2 I2 hz2 => ?_)
  obtain ⟨b, er2, -, -, h93, hb, hN⟩ := hq2 _ _ _ _ _ hz2
  injection er2 with er2
  subst er2
  exact law_tail d_Law_law_715 d_Law_law_717 d_Law_law_718 d_Law_law_721 d_Law_law_723 d_Law_law_728 d_Law_law_730 d_Law_law_733 d_Law_law_734 d_Law_law_735 d_Law_law_736 d_Law_law_738 d_Law_law_739 d_Law_law_740 d_Law_law_745 (by decide) hN.1 h93 hb (by show cs + k9 ≤ 603072 ∧ ns + n9 ≤ 7207018; omega) (nx _ _ _ _ (cs + k9) (ns + n9) (by omega) (hN.mono (by omega) (by omega)))
theorem walk_update (h : LI c Lg xs K P J I cs ns) (c6 : 6 * c ≤ i) (hi : (0 ≤ i ∧ i + 6 ≤ Lg) ∧ Lg ≤ 3072) (nx : ∀ K P J I cs ns, (cs ≤ 603072 ∧ ns ≤ 7207018) → LI (c + 1) Lg xs K P J I cs ns → VL Q K P J I cs ns 3229 (Lw i) []) : VL Q K P J I cs ns 748 (Lw i) [] := by
  refine VE.aload_n (o := 1000) (pc' := 749) d_Law_law_748 rfl rfl ?_
  refine VL.arg (i := i) (pc' := 755) d_Law_law_749 d_Law_law_750 d_Law_law_752 d_Law_law_753 d_Law_law_754 rfl rfl rfl h.1 (by decide) hi ?_
  refine VL.arg (i := i) (pc' := 761) d_Law_law_755 d_Law_law_756 d_Law_law_758 d_Law_law_759 d_Law_law_760 rfl rfl rfl h.1 (by decide) hi ?_
  refine VL.arg (i := i) (pc' := 767) d_Law_law_761 d_Law_law_762 d_Law_law_764 d_Law_law_765 d_Law_law_766 rfl rfl rfl h.1 (by decide) hi ?_
  refine VL.arg (i := i) (pc' := 773) d_Law_law_767 d_Law_law_768 d_Law_law_770 d_Law_law_771 d_Law_law_772 rfl rfl rfl h.1 (by decide) hi ?_
  refine VL.arg (i := i) (pc' := 779) d_Law_law_773 d_Law_law_774 d_Law_law_776 d_Law_law_777 d_Law_law_778 rfl rfl rfl h.1 (by decide) hi ?_
  refine VE.aload_n (o := 50) (pc' := 780) d_Law_law_779 rfl rfl ?_
  obtain ⟨hc, Qc, sp, hq⟩ := case_update (p1 := xs (i + 1)) (p2 := xs (i + 2)) (p3 := xs (i + 3)) (p4 := xs (i + 4)) (p5 := xs (i + 5)) h (by omega)
  refine VE.callSWE (k := 7) (pc' := 783) d_Law_law_780 rfl sp.lim rfl rfl cd_Law_update kw_initialized_RowForgeLaw (by decide) (by decide) (by decide +kernel) rfl st_Law_update lk_Law_185 rfl rfl rfl (by show cs + (603072 - cs) ≤ 603072; omega) (by show ns + (7207018 - ns) ≤ 7207018; omega) (fun k9 n9 r K1 P1 J1 I1 hz => ?_)
  obtain ⟨hk9, k0, n0, kk0, nn0, hz⟩ := hz
  have hk : k9 ≤ 603072 - cs ∧ n9 ≤ 7207018 - ns := hk9
  refine VE.wf (fun wf => ?_)
  obtain ⟨kc, er, hL1, Q2, sp2, hq2⟩ := hq r K1 P1 J1 I1 k0 n0 hz wf
  subst er
  refine VE.istore (pc' := 785) d_Law_law_783 rfl rfl ?_
  refine VE.pick [0, 1, 2, 3, 4, 5] ?_
  refine VE.aload_n (o := 100) (pc' := 786) d_Law_law_785 rfl rfl ?_
  refine VL.arg (i := i) (pc' := 792) d_Law_law_786 d_Law_law_787 d_Law_law_789 d_Law_law_790 d_Law_law_791 rfl rfl rfl hL1 (by decide) hi ?_
  refine VL.arg (i := i) (pc' := 798) d_Law_law_792 d_Law_law_793 d_Law_law_795 d_Law_law_796 d_Law_law_797 rfl rfl rfl hL1 (by decide) hi ?_
  refine VL.arg (i := i) (pc' := 804) d_Law_law_798 d_Law_law_799 d_Law_law_801 d_Law_law_802 d_Law_law_803 rfl rfl rfl hL1 (by decide) hi ?_
  refine VL.arg (i := i) (pc' := 810) d_Law_law_804 d_Law_law_805 d_Law_law_807 d_Law_law_808 d_Law_law_809 rfl rfl rfl hL1 (by decide) hi ?_
  refine VL.arg (i := i) (pc' := 816) d_Law_law_810 d_Law_law_811 d_Law_law_813 d_Law_law_814 d_Law_law_815 rfl rfl rfl hL1 (by decide) hi ?_
  refine VE.callV (ci := 11) (T := T11) (N := 94) (pc' := 819) d_Law_law_816 rfl sp2 rfl mv_Model_update.1 mv_Model_update.2.1 rfl mv_Model_update.2.2.1 mv_Model_update.2.2.2 lk_Law_187 rfl (hL1.1.1.k rfl) rfl rfl rfl (by show cs + k9 + 0 ≤ 603072; omega) (by show ns + n9 + 0 ≤ 7207018; omega) (fun r2 K2 P2 J2 I2 hz2 => ?_)
  obtain ⟨b, er2, -, -, h93, hb, hN⟩ := hq2 _ _ _ _ _ hz2
  injection er2 with er2
  subst er2
  exact law_tail d_Law_law_819 d_Law_law_821 d_Law_law_822 d_Law_law_825 d_Law_law_827 d_Law_law_832 d_Law_law_834 d_Law_law_837 d_Law_law_838 d_Law_law_839 d_Law_law_840 d_Law_law_842 d_Law_law_843 d_Law_law_844 d_Law_law_849 (by decide) hN.1 h93 hb (by show cs + k9 ≤ 603072 ∧ ns + n9 ≤ 7207018; omega) (nx _ _ _ _ (cs + k9) (ns + n9) (by omega) (hN.mono (by omega) (by omega)))
end
