/-! part 85: each call of the law -/
section H85
variable {G : aG} {ls : Array Slot} {d n nc ns b L i : Nat} {mu : aM} {ro : aR} {sg : aS} {xs : Nat → Int32}
theorem lc_0 (h : LX G ls d b L i xs) (hJ : J9 n mu ro sg) (hc : nc + 3 ≤ 600000) (hs : ns + 168 ≤ 7302250) (hN : ∀ n' nc' ns' mu' ro' sg', nc' ≤ nc + 3 → ns' ≤ ns + 168 → J9 n' mu' ro' sg' → AX G ls n' nc' ns' mu' ro' sg' 2115 []) : AX G ls n nc ns mu ro sg 240 [] := by
  refine ax_1 h dl_240 ?_
  refine ax_a (jn := 1) h dl_241 dl_242 dl_243 dl_244 dl_245 (by decide) (by decide) ?_
  refine ax_a (jn := 2) h dl_246 dl_247 dl_248 dl_249 dl_250 (by decide) (by decide) ?_
  refine ax_a (jn := 3) h dl_251 dl_252 dl_253 dl_254 dl_255 (by decide) (by decide) ?_
  refine ax_z h dl_256 dl_259 dl_260 dl_263 ?_
  refine ax_calli (b9 := 0) (av := [.int (xs (i + 1)), .int (xs (i + 2)), .int (if ¬ (xs (i + 3)) = 0 then 1 else 0)]) (rest := []) (mc := 0) (ms := 0) h (by omega) (by omega) dl_264 lk_13 (by decide) (by rw [hJ.m.1]) rfl (j_road hJ (by have := h.1.2.2.1; omega)) (fun v n1 mu1 ro1 sg1 hq => ?_)
  obtain ⟨rfl, rfl, rfl, hM2⟩ := hq
  refine ax_2 h dl_267 ?_
  refine ax_a (jn := 1) h dl_268 dl_269 dl_270 dl_271 dl_272 (by decide) (by decide) ?_
  refine ax_a (jn := 2) h dl_273 dl_274 dl_275 dl_276 dl_277 (by decide) (by decide) ?_
  refine ax_a (jn := 3) h dl_278 dl_279 dl_280 dl_281 dl_282 (by decide) (by decide) ?_
  refine ax_z h dl_283 dl_286 dl_287 dl_290 ?_
  refine ax_calli (b9 := 48) (av := [.int (xs (i + 1)), .int (xs (i + 2)), .int (if ¬ (xs (i + 3)) = 0 then 1 else 0)]) (rest := [.int v]) (mc := 0) (ms := 0) h (by omega) (by omega) dl_291 lk_17 (by simp only [cs_n, cs_i, cs_l]; omega) (by rw [hJ.m.2]) rfl hM2 (fun v2 n2 mu2 ro2 sg2 hq2 => ?_)
  obtain ⟨rfl, rfl, rfl, he, hJ2⟩ := hq2
  cases he
  refine ax_eq (tgt := 2115) h dl_294 (by decide) ?_
  exact hN _ _ _ _ _ _ (by omega) (by omega) hJ2
theorem lc_1 (h : LX G ls d b L i xs) (hJ : J9 n mu ro sg) (hc : nc + 3 ≤ 600000) (hs : ns + 168 ≤ 7302250) (hN : ∀ n' nc' ns' mu' ro' sg', nc' ≤ nc + 3 → ns' ≤ ns + 168 → J9 n' mu' ro' sg' → AX G ls n' nc' ns' mu' ro' sg' 2115 []) : AX G ls n nc ns mu ro sg 299 [] := by
  refine ax_1 h dl_299 ?_
  refine ax_a (jn := 1) h dl_300 dl_301 dl_302 dl_303 dl_304 (by decide) (by decide) ?_
  refine ax_a (jn := 2) h dl_305 dl_306 dl_307 dl_308 dl_309 (by decide) (by decide) ?_
  refine ax_a (jn := 3) h dl_310 dl_311 dl_312 dl_313 dl_314 (by decide) (by decide) ?_
  refine ax_z h dl_315 dl_318 dl_319 dl_322 ?_
  refine ax_calli (b9 := 0) (av := [.int (xs (i + 1)), .int (xs (i + 2)), .int (if ¬ (xs (i + 3)) = 0 then 1 else 0)]) (rest := []) (mc := 0) (ms := 0) h (by omega) (by omega) dl_323 lk_18 (by decide) (by rw [hJ.m.1]) rfl (j_post hJ (by have := h.1.2.2.1; omega)) (fun v n1 mu1 ro1 sg1 hq => ?_)
  obtain ⟨rfl, rfl, rfl, hM2⟩ := hq
  refine ax_2 h dl_326 ?_
  refine ax_a (jn := 1) h dl_327 dl_328 dl_329 dl_330 dl_331 (by decide) (by decide) ?_
  refine ax_a (jn := 2) h dl_332 dl_333 dl_334 dl_335 dl_336 (by decide) (by decide) ?_
  refine ax_a (jn := 3) h dl_337 dl_338 dl_339 dl_340 dl_341 (by decide) (by decide) ?_
  refine ax_z h dl_342 dl_345 dl_346 dl_349 ?_
  refine ax_calli (b9 := 48) (av := [.int (xs (i + 1)), .int (xs (i + 2)), .int (if ¬ (xs (i + 3)) = 0 then 1 else 0)]) (rest := [.int v]) (mc := 0) (ms := 0) h (by omega) (by omega) dl_350 lk_21 (by simp only [cs_n, cs_i, cs_l]; omega) (by rw [hJ.m.2]) rfl hM2 (fun v2 n2 mu2 ro2 sg2 hq2 => ?_)
  obtain ⟨rfl, rfl, rfl, he, hJ2⟩ := hq2
  cases he
  refine ax_eq (tgt := 2115) h dl_353 (by decide) ?_
  exact hN _ _ _ _ _ _ (by omega) (by omega) hJ2
theorem lc_2 (h : LX G ls d b L i xs) (hJ : J9 n mu ro sg) (hc : nc + 3 ≤ 600000) (hs : ns + 168 ≤ 7302250) (hN : ∀ n' nc' ns' mu' ro' sg', nc' ≤ nc + 3 → ns' ≤ ns + 168 → J9 n' mu' ro' sg' → AX G ls n' nc' ns' mu' ro' sg' 2115 []) : AX G ls n nc ns mu ro sg 358 [] := by
  refine ax_1 h dl_358 ?_
  refine ax_a (jn := 1) h dl_359 dl_360 dl_361 dl_362 dl_363 (by decide) (by decide) ?_
  refine ax_a (jn := 2) h dl_364 dl_365 dl_366 dl_367 dl_368 (by decide) (by decide) ?_
  refine ax_calli (b9 := 0) (av := [.int (xs (i + 1)), .int (xs (i + 2))]) (rest := []) (mc := 0) (ms := 0) h (by omega) (by omega) dl_369 lk_22 (by decide) (by rw [hJ.m.1]) rfl (j_door hJ (by have := h.1.2.2.1; omega)) (fun v n1 mu1 ro1 sg1 hq => ?_)
  obtain ⟨rfl, rfl, rfl, hM2⟩ := hq
  refine ax_2 h dl_372 ?_
  refine ax_a (jn := 1) h dl_373 dl_374 dl_375 dl_376 dl_377 (by decide) (by decide) ?_
  refine ax_a (jn := 2) h dl_378 dl_379 dl_380 dl_381 dl_382 (by decide) (by decide) ?_
  refine ax_calli (b9 := 48) (av := [.int (xs (i + 1)), .int (xs (i + 2))]) (rest := [.int v]) (mc := 0) (ms := 0) h (by omega) (by omega) dl_383 lk_26 (by simp only [cs_n, cs_i, cs_l]; omega) (by rw [hJ.m.2]) rfl hM2 (fun v2 n2 mu2 ro2 sg2 hq2 => ?_)
  obtain ⟨rfl, rfl, rfl, he, hJ2⟩ := hq2
  cases he
  refine ax_eq (tgt := 2115) h dl_386 (by decide) ?_
  exact hN _ _ _ _ _ _ (by omega) (by omega) hJ2
theorem lc_3 (h : LX G ls d b L i xs) (hJ : J9 n mu ro sg) (hc : nc + 3 ≤ 600000) (hs : ns + 168 ≤ 7302250) (hN : ∀ n' nc' ns' mu' ro' sg', nc' ≤ nc + 3 → ns' ≤ ns + 168 → J9 n' mu' ro' sg' → AX G ls n' nc' ns' mu' ro' sg' 2115 []) : AX G ls n nc ns mu ro sg 391 [] := by
  refine ax_1 h dl_391 ?_
  refine ax_a (jn := 1) h dl_392 dl_393 dl_394 dl_395 dl_396 (by decide) (by decide) ?_
  refine ax_a (jn := 2) h dl_397 dl_398 dl_399 dl_400 dl_401 (by decide) (by decide) ?_
  refine ax_z h dl_402 dl_405 dl_406 dl_409 ?_
  refine ax_calli (b9 := 0) (av := [.int (xs (i + 1)), .int (if ¬ (xs (i + 2)) = 0 then 1 else 0)]) (rest := []) (mc := 0) (ms := 0) h (by omega) (by omega) dl_410 lk_27 (by decide) (by rw [hJ.m.1]) rfl (j_shut hJ (by have := h.1.2.2.1; omega)) (fun v n1 mu1 ro1 sg1 hq => ?_)
  obtain ⟨rfl, rfl, rfl, hM2⟩ := hq
  refine ax_2 h dl_413 ?_
  refine ax_a (jn := 1) h dl_414 dl_415 dl_416 dl_417 dl_418 (by decide) (by decide) ?_
  refine ax_a (jn := 2) h dl_419 dl_420 dl_421 dl_422 dl_423 (by decide) (by decide) ?_
  refine ax_z h dl_424 dl_427 dl_428 dl_431 ?_
  refine ax_calli (b9 := 48) (av := [.int (xs (i + 1)), .int (if ¬ (xs (i + 2)) = 0 then 1 else 0)]) (rest := [.int v]) (mc := 0) (ms := 0) h (by omega) (by omega) dl_432 lk_31 (by simp only [cs_n, cs_i, cs_l]; omega) (by rw [hJ.m.2]) rfl hM2 (fun v2 n2 mu2 ro2 sg2 hq2 => ?_)
  obtain ⟨rfl, rfl, rfl, he, hJ2⟩ := hq2
  cases he
  refine ax_eq (tgt := 2115) h dl_435 (by decide) ?_
  exact hN _ _ _ _ _ _ (by omega) (by omega) hJ2
theorem lc_4 (h : LX G ls d b L i xs) (hJ : J9 n mu ro sg) (hc : nc + 3 ≤ 600000) (hs : ns + 168 ≤ 7302250) (hN : ∀ n' nc' ns' mu' ro' sg', nc' ≤ nc + 3 → ns' ≤ ns + 168 → J9 n' mu' ro' sg' → AX G ls n' nc' ns' mu' ro' sg' 2115 []) : AX G ls n nc ns mu ro sg 440 [] := by
  refine ax_1 h dl_440 ?_
  refine ax_a (jn := 1) h dl_441 dl_442 dl_443 dl_444 dl_445 (by decide) (by decide) ?_
  refine ax_a (jn := 2) h dl_446 dl_447 dl_448 dl_449 dl_450 (by decide) (by decide) ?_
  refine ax_a (jn := 3) h dl_451 dl_452 dl_453 dl_454 dl_455 (by decide) (by decide) ?_
  refine ax_calli (b9 := 0) (av := [.int (xs (i + 1)), .int (xs (i + 2)), .int (xs (i + 3))]) (rest := []) (mc := 0) (ms := 0) h (by omega) (by omega) dl_456 lk_32 (by decide) (by rw [hJ.m.1]) rfl (j_way hJ (by have := h.1.2.2.1; omega)) (fun v n1 mu1 ro1 sg1 hq => ?_)
  obtain ⟨rfl, rfl, rfl, hM2⟩ := hq
  refine ax_2 h dl_459 ?_
  refine ax_a (jn := 1) h dl_460 dl_461 dl_462 dl_463 dl_464 (by decide) (by decide) ?_
  refine ax_a (jn := 2) h dl_465 dl_466 dl_467 dl_468 dl_469 (by decide) (by decide) ?_
  refine ax_a (jn := 3) h dl_470 dl_471 dl_472 dl_473 dl_474 (by decide) (by decide) ?_
  refine ax_calli (b9 := 48) (av := [.int (xs (i + 1)), .int (xs (i + 2)), .int (xs (i + 3))]) (rest := [.int v]) (mc := 0) (ms := 0) h (by omega) (by omega) dl_475 lk_36 (by simp only [cs_n, cs_i, cs_l]; omega) (by rw [hJ.m.2]) rfl hM2 (fun v2 n2 mu2 ro2 sg2 hq2 => ?_)
  obtain ⟨rfl, rfl, rfl, he, hJ2⟩ := hq2
  cases he
  refine ax_eq (tgt := 2115) h dl_478 (by decide) ?_
  exact hN _ _ _ _ _ _ (by omega) (by omega) hJ2
theorem lc_5 (h : LX G ls d b L i xs) (hJ : J9 n mu ro sg) (hc : nc + 3 ≤ 600000) (hs : ns + 168 ≤ 7302250) (hN : ∀ n' nc' ns' mu' ro' sg', nc' ≤ nc + 3 → ns' ≤ ns + 168 → J9 n' mu' ro' sg' → AX G ls n' nc' ns' mu' ro' sg' 2115 []) : AX G ls n nc ns mu ro sg 483 [] := by
  refine ax_1 h dl_483 ?_
  refine ax_a (jn := 1) h dl_484 dl_485 dl_486 dl_487 dl_488 (by decide) (by decide) ?_
  refine ax_a (jn := 2) h dl_489 dl_490 dl_491 dl_492 dl_493 (by decide) (by decide) ?_
  refine ax_calli (b9 := 0) (av := [.int (xs (i + 1)), .int (xs (i + 2))]) (rest := []) (mc := 0) (ms := 0) h (by omega) (by omega) dl_494 lk_37 (by decide) (by rw [hJ.m.1]) rfl (j_blind hJ (by have := h.1.2.2.1; omega)) (fun v n1 mu1 ro1 sg1 hq => ?_)
  obtain ⟨rfl, rfl, rfl, hM2⟩ := hq
  refine ax_2 h dl_497 ?_
  refine ax_a (jn := 1) h dl_498 dl_499 dl_500 dl_501 dl_502 (by decide) (by decide) ?_
  refine ax_a (jn := 2) h dl_503 dl_504 dl_505 dl_506 dl_507 (by decide) (by decide) ?_
  refine ax_calli (b9 := 48) (av := [.int (xs (i + 1)), .int (xs (i + 2))]) (rest := [.int v]) (mc := 0) (ms := 0) h (by omega) (by omega) dl_508 lk_40 (by simp only [cs_n, cs_i, cs_l]; omega) (by rw [hJ.m.2]) rfl hM2 (fun v2 n2 mu2 ro2 sg2 hq2 => ?_)
  obtain ⟨rfl, rfl, rfl, he, hJ2⟩ := hq2
  cases he
  refine ax_eq (tgt := 2115) h dl_511 (by decide) ?_
  exact hN _ _ _ _ _ _ (by omega) (by omega) hJ2
theorem lc_6 (h : LX G ls d b L i xs) (hJ : J9 n mu ro sg) (hc : nc + 3 ≤ 600000) (hs : ns + 168 ≤ 7302250) (hN : ∀ n' nc' ns' mu' ro' sg', nc' ≤ nc + 3 → ns' ≤ ns + 168 → J9 n' mu' ro' sg' → AX G ls n' nc' ns' mu' ro' sg' 2115 []) : AX G ls n nc ns mu ro sg 516 [] := by
  refine ax_1 h dl_516 ?_
  refine ax_a (jn := 1) h dl_517 dl_518 dl_519 dl_520 dl_521 (by decide) (by decide) ?_
  refine ax_a (jn := 2) h dl_522 dl_523 dl_524 dl_525 dl_526 (by decide) (by decide) ?_
  refine ax_a (jn := 3) h dl_527 dl_528 dl_529 dl_530 dl_531 (by decide) (by decide) ?_
  refine ax_calli (b9 := 0) (av := [.int (xs (i + 1)), .int (xs (i + 2)), .int (xs (i + 3))]) (rest := []) (mc := 3) (ms := 168) h (by omega) (by omega) dl_532 lk_41 (by decide) (by rw [hJ.m.1]) rfl (j_talk hJ (by have := h.1.2.2.1; omega)) (fun v n1 mu1 ro1 sg1 hq => ?_)
  obtain ⟨hm48, hM2⟩ := hq
  refine ax_2 h dl_535 ?_
  refine ax_a (jn := 1) h dl_536 dl_537 dl_538 dl_539 dl_540 (by decide) (by decide) ?_
  refine ax_a (jn := 2) h dl_541 dl_542 dl_543 dl_544 dl_545 (by decide) (by decide) ?_
  refine ax_a (jn := 3) h dl_546 dl_547 dl_548 dl_549 dl_550 (by decide) (by decide) ?_
  refine ax_calli (b9 := 48) (av := [.int (xs (i + 1)), .int (xs (i + 2)), .int (xs (i + 3))]) (rest := [.int v]) (mc := 0) (ms := 0) h (by omega) (by omega) dl_551 lk_44 (by simp only [cs_n, cs_i, cs_l]; omega) (by rw [hm48]) rfl hM2 (fun v2 n2 mu2 ro2 sg2 hq2 => ?_)
  obtain ⟨rfl, rfl, rfl, he, hJ2⟩ := hq2
  cases he
  refine ax_eq (tgt := 2115) h dl_554 (by decide) ?_
  exact hN _ _ _ _ _ _ (by omega) (by omega) hJ2
theorem lc_7 (h : LX G ls d b L i xs) (hJ : J9 n mu ro sg) (hc : nc + 3 ≤ 600000) (hs : ns + 168 ≤ 7302250) (hN : ∀ n' nc' ns' mu' ro' sg', nc' ≤ nc + 3 → ns' ≤ ns + 168 → J9 n' mu' ro' sg' → AX G ls n' nc' ns' mu' ro' sg' 2115 []) : AX G ls n nc ns mu ro sg 559 [] := by
  refine ax_1 h dl_559 ?_
  refine ax_a (jn := 1) h dl_560 dl_561 dl_562 dl_563 dl_564 (by decide) (by decide) ?_
  refine ax_a (jn := 2) h dl_565 dl_566 dl_567 dl_568 dl_569 (by decide) (by decide) ?_
  refine ax_a (jn := 3) h dl_570 dl_571 dl_572 dl_573 dl_574 (by decide) (by decide) ?_
  refine ax_a (jn := 4) h dl_575 dl_576 dl_577 dl_578 dl_579 (by decide) (by decide) ?_
  refine ax_a (jn := 5) h dl_580 dl_581 dl_582 dl_583 dl_584 (by decide) (by decide) ?_
  refine ax_b (jn := 6) h dl_585 dl_586 dl_587 dl_589 dl_590 (by decide) (by decide) ?_
  refine ax_b (jn := 7) h dl_591 dl_592 dl_593 dl_595 dl_596 (by decide) (by decide) ?_
  refine ax_calli (b9 := 0) (av := [.int (xs (i + 1)), .int (xs (i + 2)), .int (xs (i + 3)), .int (xs (i + 4)), .int (xs (i + 5)), .int (xs (i + 6)), .int (xs (i + 7))]) (rest := []) (mc := 0) (ms := 0) h (by omega) (by omega) dl_597 lk_45 (by decide) (by rw [hJ.m.1]) rfl (j_piece hJ (by have := h.1.2.2.1; omega)) (fun v n1 mu1 ro1 sg1 hq => ?_)
  obtain ⟨rfl, rfl, rfl, hM2⟩ := hq
  refine ax_2 h dl_600 ?_
  refine ax_a (jn := 1) h dl_601 dl_602 dl_603 dl_604 dl_605 (by decide) (by decide) ?_
  refine ax_a (jn := 2) h dl_606 dl_607 dl_608 dl_609 dl_610 (by decide) (by decide) ?_
  refine ax_a (jn := 3) h dl_611 dl_612 dl_613 dl_614 dl_615 (by decide) (by decide) ?_
  refine ax_a (jn := 4) h dl_616 dl_617 dl_618 dl_619 dl_620 (by decide) (by decide) ?_
  refine ax_a (jn := 5) h dl_621 dl_622 dl_623 dl_624 dl_625 (by decide) (by decide) ?_
  refine ax_b (jn := 6) h dl_626 dl_627 dl_628 dl_630 dl_631 (by decide) (by decide) ?_
  refine ax_b (jn := 7) h dl_632 dl_633 dl_634 dl_636 dl_637 (by decide) (by decide) ?_
  refine ax_calli (b9 := 48) (av := [.int (xs (i + 1)), .int (xs (i + 2)), .int (xs (i + 3)), .int (xs (i + 4)), .int (xs (i + 5)), .int (xs (i + 6)), .int (xs (i + 7))]) (rest := [.int v]) (mc := 0) (ms := 0) h (by omega) (by omega) dl_638 lk_49 (by simp only [cs_n, cs_i, cs_l]; omega) (by rw [hJ.m.2]) rfl hM2 (fun v2 n2 mu2 ro2 sg2 hq2 => ?_)
  obtain ⟨rfl, rfl, rfl, he, hJ2⟩ := hq2
  cases he
  refine ax_eq (tgt := 2115) h dl_641 (by decide) ?_
  exact hN _ _ _ _ _ _ (by omega) (by omega) hJ2
theorem lc_8 (h : LX G ls d b L i xs) (hJ : J9 n mu ro sg) (hc : nc + 3 ≤ 600000) (hs : ns + 168 ≤ 7302250) (hN : ∀ n' nc' ns' mu' ro' sg', nc' ≤ nc + 3 → ns' ≤ ns + 168 → J9 n' mu' ro' sg' → AX G ls n' nc' ns' mu' ro' sg' 2115 []) : AX G ls n nc ns mu ro sg 646 [] := by
  refine ax_1 h dl_646 ?_
  refine ax_a (jn := 1) h dl_647 dl_648 dl_649 dl_650 dl_651 (by decide) (by decide) ?_
  refine ax_a (jn := 2) h dl_652 dl_653 dl_654 dl_655 dl_656 (by decide) (by decide) ?_
  refine ax_calli (b9 := 0) (av := [.int (xs (i + 1)), .int (xs (i + 2))]) (rest := []) (mc := 0) (ms := 0) h (by omega) (by omega) dl_657 lk_50 (by decide) (by rw [hJ.m.1]) rfl (j_about hJ (by have := h.1.2.2.1; omega)) (fun v n1 mu1 ro1 sg1 hq => ?_)
  obtain ⟨rfl, rfl, rfl, hM2⟩ := hq
  refine ax_2 h dl_660 ?_
  refine ax_a (jn := 1) h dl_661 dl_662 dl_663 dl_664 dl_665 (by decide) (by decide) ?_
  refine ax_a (jn := 2) h dl_666 dl_667 dl_668 dl_669 dl_670 (by decide) (by decide) ?_
  refine ax_calli (b9 := 48) (av := [.int (xs (i + 1)), .int (xs (i + 2))]) (rest := [.int v]) (mc := 0) (ms := 0) h (by omega) (by omega) dl_671 lk_53 (by simp only [cs_n, cs_i, cs_l]; omega) (by rw [hJ.m.2]) rfl hM2 (fun v2 n2 mu2 ro2 sg2 hq2 => ?_)
  obtain ⟨rfl, rfl, rfl, he, hJ2⟩ := hq2
  cases he
  refine ax_eq (tgt := 2115) h dl_674 (by decide) ?_
  exact hN _ _ _ _ _ _ (by omega) (by omega) hJ2
theorem lc_9 (h : LX G ls d b L i xs) (hJ : J9 n mu ro sg) (hc : nc + 3 ≤ 600000) (hs : ns + 168 ≤ 7302250) (hN : ∀ n' nc' ns' mu' ro' sg', nc' ≤ nc + 3 → ns' ≤ ns + 168 → J9 n' mu' ro' sg' → AX G ls n' nc' ns' mu' ro' sg' 2115 []) : AX G ls n nc ns mu ro sg 679 [] := by
  refine ax_1 h dl_679 ?_
  refine ax_a (jn := 1) h dl_680 dl_681 dl_682 dl_683 dl_684 (by decide) (by decide) ?_
  refine ax_a (jn := 2) h dl_685 dl_686 dl_687 dl_688 dl_689 (by decide) (by decide) ?_
  refine ax_a (jn := 3) h dl_690 dl_691 dl_692 dl_693 dl_694 (by decide) (by decide) ?_
  refine ax_calli (b9 := 0) (av := [.int (xs (i + 1)), .int (xs (i + 2)), .int (xs (i + 3))]) (rest := []) (mc := 0) (ms := 0) h (by omega) (by omega) dl_695 lk_54 (by decide) (by rw [hJ.m.1]) rfl (j_at hJ (by have := h.1.2.2.1; omega)) (fun v n1 mu1 ro1 sg1 hq => ?_)
  obtain ⟨rfl, rfl, rfl, hM2⟩ := hq
  refine ax_2 h dl_698 ?_
  refine ax_a (jn := 1) h dl_699 dl_700 dl_701 dl_702 dl_703 (by decide) (by decide) ?_
  refine ax_a (jn := 2) h dl_704 dl_705 dl_706 dl_707 dl_708 (by decide) (by decide) ?_
  refine ax_a (jn := 3) h dl_709 dl_710 dl_711 dl_712 dl_713 (by decide) (by decide) ?_
  refine ax_calli (b9 := 48) (av := [.int (xs (i + 1)), .int (xs (i + 2)), .int (xs (i + 3))]) (rest := [.int v]) (mc := 0) (ms := 0) h (by omega) (by omega) dl_714 lk_57 (by simp only [cs_n, cs_i, cs_l]; omega) (by rw [hJ.m.2]) rfl hM2 (fun v2 n2 mu2 ro2 sg2 hq2 => ?_)
  obtain ⟨rfl, rfl, rfl, he, hJ2⟩ := hq2
  cases he
  refine ax_eq (tgt := 2115) h dl_717 (by decide) ?_
  exact hN _ _ _ _ _ _ (by omega) (by omega) hJ2
theorem lc_10 (h : LX G ls d b L i xs) (hJ : J9 n mu ro sg) (hc : nc + 3 ≤ 600000) (hs : ns + 168 ≤ 7302250) (hN : ∀ n' nc' ns' mu' ro' sg', nc' ≤ nc + 3 → ns' ≤ ns + 168 → J9 n' mu' ro' sg' → AX G ls n' nc' ns' mu' ro' sg' 2115 []) : AX G ls n nc ns mu ro sg 722 [] := by
  refine ax_1 h dl_722 ?_
  refine ax_a (jn := 1) h dl_723 dl_724 dl_725 dl_726 dl_727 (by decide) (by decide) ?_
  refine ax_a (jn := 2) h dl_728 dl_729 dl_730 dl_731 dl_732 (by decide) (by decide) ?_
  refine ax_a (jn := 3) h dl_733 dl_734 dl_735 dl_736 dl_737 (by decide) (by decide) ?_
  refine ax_a (jn := 4) h dl_738 dl_739 dl_740 dl_741 dl_742 (by decide) (by decide) ?_
  refine ax_calli (b9 := 0) (av := [.int (xs (i + 1)), .int (xs (i + 2)), .int (xs (i + 3)), .int (xs (i + 4))]) (rest := []) (mc := 2) (ms := 8) h (by omega) (by omega) dl_743 lk_58 (by decide) (by rw [hJ.m.1]) rfl (j_row hJ (by have := h.1.2.2.1; omega)) (fun v n1 mu1 ro1 sg1 hq => ?_)
  obtain ⟨hm48, hM2⟩ := hq
  refine ax_2 h dl_746 ?_
  refine ax_a (jn := 1) h dl_747 dl_748 dl_749 dl_750 dl_751 (by decide) (by decide) ?_
  refine ax_a (jn := 2) h dl_752 dl_753 dl_754 dl_755 dl_756 (by decide) (by decide) ?_
  refine ax_a (jn := 3) h dl_757 dl_758 dl_759 dl_760 dl_761 (by decide) (by decide) ?_
  refine ax_a (jn := 4) h dl_762 dl_763 dl_764 dl_765 dl_766 (by decide) (by decide) ?_
  refine ax_calli (b9 := 48) (av := [.int (xs (i + 1)), .int (xs (i + 2)), .int (xs (i + 3)), .int (xs (i + 4))]) (rest := [.int v]) (mc := 0) (ms := 0) h (by omega) (by omega) dl_767 lk_62 (by simp only [cs_n, cs_i, cs_l]; omega) (by rw [hm48]) rfl hM2 (fun v2 n2 mu2 ro2 sg2 hq2 => ?_)
  obtain ⟨rfl, rfl, rfl, he, hJ2⟩ := hq2
  cases he
  refine ax_eq (tgt := 2115) h dl_770 (by decide) ?_
  exact hN _ _ _ _ _ _ (by omega) (by omega) hJ2
theorem lc_11 (h : LX G ls d b L i xs) (hJ : J9 n mu ro sg) (hc : nc + 3 ≤ 600000) (hs : ns + 168 ≤ 7302250) (hN : ∀ n' nc' ns' mu' ro' sg', nc' ≤ nc + 3 → ns' ≤ ns + 168 → J9 n' mu' ro' sg' → AX G ls n' nc' ns' mu' ro' sg' 2115 []) : AX G ls n nc ns mu ro sg 775 [] := by
  refine ax_1 h dl_775 ?_
  refine ax_a (jn := 1) h dl_776 dl_777 dl_778 dl_779 dl_780 (by decide) (by decide) ?_
  refine ax_a (jn := 2) h dl_781 dl_782 dl_783 dl_784 dl_785 (by decide) (by decide) ?_
  refine ax_a (jn := 3) h dl_786 dl_787 dl_788 dl_789 dl_790 (by decide) (by decide) ?_
  refine ax_a (jn := 4) h dl_791 dl_792 dl_793 dl_794 dl_795 (by decide) (by decide) ?_
  refine ax_calli (b9 := 0) (av := [.int (xs (i + 1)), .int (xs (i + 2)), .int (xs (i + 3)), .int (xs (i + 4))]) (rest := []) (mc := 0) (ms := 0) h (by omega) (by omega) dl_796 lk_63 (by decide) (by rw [hJ.m.1]) rfl (j_fits hJ (by have := h.1.2.2.1; omega)) (fun v n1 mu1 ro1 sg1 hq => ?_)
  obtain ⟨rfl, rfl, rfl, hM2⟩ := hq
  refine ax_2 h dl_799 ?_
  refine ax_a (jn := 1) h dl_800 dl_801 dl_802 dl_803 dl_804 (by decide) (by decide) ?_
  refine ax_a (jn := 2) h dl_805 dl_806 dl_807 dl_808 dl_809 (by decide) (by decide) ?_
  refine ax_a (jn := 3) h dl_810 dl_811 dl_812 dl_813 dl_814 (by decide) (by decide) ?_
  refine ax_a (jn := 4) h dl_815 dl_816 dl_817 dl_818 dl_819 (by decide) (by decide) ?_
  refine ax_calli (b9 := 48) (av := [.int (xs (i + 1)), .int (xs (i + 2)), .int (xs (i + 3)), .int (xs (i + 4))]) (rest := [.int v]) (mc := 0) (ms := 0) h (by omega) (by omega) dl_820 lk_66 (by simp only [cs_n, cs_i, cs_l]; omega) (by rw [hJ.m.2]) rfl hM2 (fun v2 n2 mu2 ro2 sg2 hq2 => ?_)
  obtain ⟨rfl, rfl, rfl, he, hJ2⟩ := hq2
  cases he
  refine ax_eq (tgt := 2115) h dl_823 (by decide) ?_
  exact hN _ _ _ _ _ _ (by omega) (by omega) hJ2
theorem lc_12 (h : LX G ls d b L i xs) (hJ : J9 n mu ro sg) (hc : nc + 3 ≤ 600000) (hs : ns + 168 ≤ 7302250) (hN : ∀ n' nc' ns' mu' ro' sg', nc' ≤ nc + 3 → ns' ≤ ns + 168 → J9 n' mu' ro' sg' → AX G ls n' nc' ns' mu' ro' sg' 2115 []) : AX G ls n nc ns mu ro sg 828 [] := by
  refine ax_1 h dl_828 ?_
  refine ax_a (jn := 1) h dl_829 dl_830 dl_831 dl_832 dl_833 (by decide) (by decide) ?_
  refine ax_calli (b9 := 0) (av := [.int (xs (i + 1))]) (rest := []) (mc := 0) (ms := 0) h (by omega) (by omega) dl_834 lk_67 (by decide) (by rw [hJ.m.1]) rfl (j_scan hJ (by have := h.1.2.2.1; omega)) (fun v n1 mu1 ro1 sg1 hq => ?_)
  obtain ⟨rfl, rfl, rfl, hM2⟩ := hq
  refine ax_2 h dl_837 ?_
  refine ax_a (jn := 1) h dl_838 dl_839 dl_840 dl_841 dl_842 (by decide) (by decide) ?_
  refine ax_calli (b9 := 48) (av := [.int (xs (i + 1))]) (rest := [.int v]) (mc := 0) (ms := 0) h (by omega) (by omega) dl_843 lk_71 (by simp only [cs_n, cs_i, cs_l]; omega) (by rw [hJ.m.2]) rfl hM2 (fun v2 n2 mu2 ro2 sg2 hq2 => ?_)
  obtain ⟨rfl, rfl, rfl, he, hJ2⟩ := hq2
  cases he
  refine ax_eq (tgt := 2115) h dl_846 (by decide) ?_
  exact hN _ _ _ _ _ _ (by omega) (by omega) hJ2
theorem lc_13 (h : LX G ls d b L i xs) (hJ : J9 n mu ro sg) (hc : nc + 3 ≤ 600000) (hs : ns + 168 ≤ 7302250) (hN : ∀ n' nc' ns' mu' ro' sg', nc' ≤ nc + 3 → ns' ≤ ns + 168 → J9 n' mu' ro' sg' → AX G ls n' nc' ns' mu' ro' sg' 2115 []) : AX G ls n nc ns mu ro sg 851 [] := by
  refine ax_1 h dl_851 ?_
  refine ax_a (jn := 1) h dl_852 dl_853 dl_854 dl_855 dl_856 (by decide) (by decide) ?_
  refine ax_a (jn := 2) h dl_857 dl_858 dl_859 dl_860 dl_861 (by decide) (by decide) ?_
  refine ax_calli (b9 := 0) (av := [.int (xs (i + 1)), .int (xs (i + 2))]) (rest := []) (mc := 0) (ms := 0) h (by omega) (by omega) dl_862 lk_72 (by decide) (by rw [hJ.m.1]) rfl (j_finding hJ (by have := h.1.2.2.1; omega)) (fun v n1 mu1 ro1 sg1 hq => ?_)
  obtain ⟨rfl, rfl, rfl, hM2⟩ := hq
  refine ax_2 h dl_865 ?_
  refine ax_a (jn := 1) h dl_866 dl_867 dl_868 dl_869 dl_870 (by decide) (by decide) ?_
  refine ax_a (jn := 2) h dl_871 dl_872 dl_873 dl_874 dl_875 (by decide) (by decide) ?_
  refine ax_calli (b9 := 48) (av := [.int (xs (i + 1)), .int (xs (i + 2))]) (rest := [.int v]) (mc := 0) (ms := 0) h (by omega) (by omega) dl_876 lk_75 (by simp only [cs_n, cs_i, cs_l]; omega) (by rw [hJ.m.2]) rfl hM2 (fun v2 n2 mu2 ro2 sg2 hq2 => ?_)
  obtain ⟨rfl, rfl, rfl, he, hJ2⟩ := hq2
  cases he
  refine ax_eq (tgt := 2115) h dl_879 (by decide) ?_
  exact hN _ _ _ _ _ _ (by omega) (by omega) hJ2
theorem lc_14 (h : LX G ls d b L i xs) (hJ : J9 n mu ro sg) (hc : nc + 3 ≤ 600000) (hs : ns + 168 ≤ 7302250) (hN : ∀ n' nc' ns' mu' ro' sg', nc' ≤ nc + 3 → ns' ≤ ns + 168 → J9 n' mu' ro' sg' → AX G ls n' nc' ns' mu' ro' sg' 2115 []) : AX G ls n nc ns mu ro sg 884 [] := by
  refine ax_1 h dl_884 ?_
  refine ax_a (jn := 1) h dl_885 dl_886 dl_887 dl_888 dl_889 (by decide) (by decide) ?_
  refine ax_a (jn := 2) h dl_890 dl_891 dl_892 dl_893 dl_894 (by decide) (by decide) ?_
  refine ax_calli (b9 := 0) (av := [.int (xs (i + 1)), .int (xs (i + 2))]) (rest := []) (mc := 0) (ms := 0) h (by omega) (by omega) dl_895 lk_76 (by decide) (by rw [hJ.m.1]) rfl (j_clear hJ (by have := h.1.2.2.1; omega)) (fun v n1 mu1 ro1 sg1 hq => ?_)
  obtain ⟨rfl, rfl, rfl, hM2⟩ := hq
  refine ax_2 h dl_898 ?_
  refine ax_a (jn := 1) h dl_899 dl_900 dl_901 dl_902 dl_903 (by decide) (by decide) ?_
  refine ax_a (jn := 2) h dl_904 dl_905 dl_906 dl_907 dl_908 (by decide) (by decide) ?_
  refine ax_calli (b9 := 48) (av := [.int (xs (i + 1)), .int (xs (i + 2))]) (rest := [.int v]) (mc := 0) (ms := 0) h (by omega) (by omega) dl_909 lk_79 (by simp only [cs_n, cs_i, cs_l]; omega) (by rw [hJ.m.2]) rfl hM2 (fun v2 n2 mu2 ro2 sg2 hq2 => ?_)
  obtain ⟨rfl, rfl, rfl, he, hJ2⟩ := hq2
  cases he
  refine ax_eq (tgt := 2115) h dl_912 (by decide) ?_
  exact hN _ _ _ _ _ _ (by omega) (by omega) hJ2
theorem lc_15 (h : LX G ls d b L i xs) (hJ : J9 n mu ro sg) (hc : nc + 3 ≤ 600000) (hs : ns + 168 ≤ 7302250) (hN : ∀ n' nc' ns' mu' ro' sg', nc' ≤ nc + 3 → ns' ≤ ns + 168 → J9 n' mu' ro' sg' → AX G ls n' nc' ns' mu' ro' sg' 2115 []) : AX G ls n nc ns mu ro sg 917 [] := by
  refine ax_1 h dl_917 ?_
  refine ax_a (jn := 1) h dl_918 dl_919 dl_920 dl_921 dl_922 (by decide) (by decide) ?_
  refine ax_a (jn := 2) h dl_923 dl_924 dl_925 dl_926 dl_927 (by decide) (by decide) ?_
  refine ax_calll (b9 := 0) (av := [.int (xs (i + 1)), .int (xs (i + 2))]) (rest := []) (mc := 0) (ms := 0) h (by omega) (by omega) dl_928 lk_80 (by decide) (by rw [hJ.m.1]) rfl (j_nothing hJ (by have := h.1.2.2.1; omega)) (fun v n1 mu1 ro1 sg1 hq => ?_)
  obtain ⟨rfl, rfl, rfl, hM2⟩ := hq
  refine ax_2 h dl_931 ?_
  refine ax_a (jn := 1) h dl_932 dl_933 dl_934 dl_935 dl_936 (by decide) (by decide) ?_
  refine ax_a (jn := 2) h dl_937 dl_938 dl_939 dl_940 dl_941 (by decide) (by decide) ?_
  refine ax_calll (b9 := 48) (av := [.int (xs (i + 1)), .int (xs (i + 2))]) (rest := [.long v]) (mc := 0) (ms := 0) h (by omega) (by omega) dl_942 lk_84 (by simp only [cs_n, cs_i, cs_l]; omega) (by rw [hJ.m.2]) rfl hM2 (fun v2 n2 mu2 ro2 sg2 hq2 => ?_)
  obtain ⟨rfl, rfl, rfl, he, hJ2⟩ := hq2
  cases he
  refine ax_eql (tgt := 2115) h dl_945 dl_946 (by decide) ?_
  exact hN _ _ _ _ _ _ (by omega) (by omega) hJ2
theorem lc_16 (h : LX G ls d b L i xs) (hJ : J9 n mu ro sg) (hc : nc + 3 ≤ 600000) (hs : ns + 168 ≤ 7302250) (hN : ∀ n' nc' ns' mu' ro' sg', nc' ≤ nc + 3 → ns' ≤ ns + 168 → J9 n' mu' ro' sg' → AX G ls n' nc' ns' mu' ro' sg' 2115 []) : AX G ls n nc ns mu ro sg 951 [] := by
  refine ax_1 h dl_951 ?_
  refine ax_a (jn := 1) h dl_952 dl_953 dl_954 dl_955 dl_956 (by decide) (by decide) ?_
  refine ax_a (jn := 2) h dl_957 dl_958 dl_959 dl_960 dl_961 (by decide) (by decide) ?_
  refine ax_a (jn := 3) h dl_962 dl_963 dl_964 dl_965 dl_966 (by decide) (by decide) ?_
  refine ax_a (jn := 4) h dl_967 dl_968 dl_969 dl_970 dl_971 (by decide) (by decide) ?_
  refine ax_calli (b9 := 0) (av := [.int (xs (i + 1)), .int (xs (i + 2)), .int (xs (i + 3)), .int (xs (i + 4))]) (rest := []) (mc := 0) (ms := 0) h (by omega) (by omega) dl_972 lk_85 (by decide) (by rw [hJ.m.1]) rfl (j_chain hJ (by have := h.1.2.2.1; omega)) (fun v n1 mu1 ro1 sg1 hq => ?_)
  obtain ⟨rfl, rfl, rfl, hM2⟩ := hq
  refine ax_2 h dl_975 ?_
  refine ax_a (jn := 1) h dl_976 dl_977 dl_978 dl_979 dl_980 (by decide) (by decide) ?_
  refine ax_a (jn := 2) h dl_981 dl_982 dl_983 dl_984 dl_985 (by decide) (by decide) ?_
  refine ax_a (jn := 3) h dl_986 dl_987 dl_988 dl_989 dl_990 (by decide) (by decide) ?_
  refine ax_a (jn := 4) h dl_991 dl_992 dl_993 dl_994 dl_995 (by decide) (by decide) ?_
  refine ax_calli (b9 := 48) (av := [.int (xs (i + 1)), .int (xs (i + 2)), .int (xs (i + 3)), .int (xs (i + 4))]) (rest := [.int v]) (mc := 0) (ms := 0) h (by omega) (by omega) dl_996 lk_88 (by simp only [cs_n, cs_i, cs_l]; omega) (by rw [hJ.m.2]) rfl hM2 (fun v2 n2 mu2 ro2 sg2 hq2 => ?_)
  obtain ⟨rfl, rfl, rfl, he, hJ2⟩ := hq2
  cases he
  refine ax_eq (tgt := 2115) h dl_999 (by decide) ?_
  exact hN _ _ _ _ _ _ (by omega) (by omega) hJ2
theorem lc_17 (h : LX G ls d b L i xs) (hJ : J9 n mu ro sg) (hc : nc + 3 ≤ 600000) (hs : ns + 168 ≤ 7302250) (hN : ∀ n' nc' ns' mu' ro' sg', nc' ≤ nc + 3 → ns' ≤ ns + 168 → J9 n' mu' ro' sg' → AX G ls n' nc' ns' mu' ro' sg' 2115 []) : AX G ls n nc ns mu ro sg 1004 [] := by
  refine ax_1 h dl_1004 ?_
  refine ax_a (jn := 1) h dl_1005 dl_1006 dl_1007 dl_1008 dl_1009 (by decide) (by decide) ?_
  refine ax_a (jn := 2) h dl_1010 dl_1011 dl_1012 dl_1013 dl_1014 (by decide) (by decide) ?_
  refine ax_a (jn := 3) h dl_1015 dl_1016 dl_1017 dl_1018 dl_1019 (by decide) (by decide) ?_
  refine ax_calli (b9 := 0) (av := [.int (xs (i + 1)), .int (xs (i + 2)), .int (xs (i + 3))]) (rest := []) (mc := 0) (ms := 0) h (by omega) (by omega) dl_1020 lk_89 (by decide) (by rw [hJ.m.1]) rfl (j_count hJ (by have := h.1.2.2.1; omega)) (fun v n1 mu1 ro1 sg1 hq => ?_)
  obtain ⟨rfl, rfl, rfl, hM2⟩ := hq
  refine ax_2 h dl_1023 ?_
  refine ax_a (jn := 1) h dl_1024 dl_1025 dl_1026 dl_1027 dl_1028 (by decide) (by decide) ?_
  refine ax_a (jn := 2) h dl_1029 dl_1030 dl_1031 dl_1032 dl_1033 (by decide) (by decide) ?_
  refine ax_a (jn := 3) h dl_1034 dl_1035 dl_1036 dl_1037 dl_1038 (by decide) (by decide) ?_
  refine ax_calli (b9 := 48) (av := [.int (xs (i + 1)), .int (xs (i + 2)), .int (xs (i + 3))]) (rest := [.int v]) (mc := 0) (ms := 0) h (by omega) (by omega) dl_1039 lk_92 (by simp only [cs_n, cs_i, cs_l]; omega) (by rw [hJ.m.2]) rfl hM2 (fun v2 n2 mu2 ro2 sg2 hq2 => ?_)
  obtain ⟨rfl, rfl, rfl, he, hJ2⟩ := hq2
  cases he
  refine ax_eq (tgt := 2115) h dl_1042 (by decide) ?_
  exact hN _ _ _ _ _ _ (by omega) (by omega) hJ2
theorem lc_18 (h : LX G ls d b L i xs) (hJ : J9 n mu ro sg) (hc : nc + 3 ≤ 600000) (hs : ns + 168 ≤ 7302250) (hN : ∀ n' nc' ns' mu' ro' sg', nc' ≤ nc + 3 → ns' ≤ ns + 168 → J9 n' mu' ro' sg' → AX G ls n' nc' ns' mu' ro' sg' 2115 []) : AX G ls n nc ns mu ro sg 1047 [] := by
  refine ax_1 h dl_1047 ?_
  refine ax_a (jn := 1) h dl_1048 dl_1049 dl_1050 dl_1051 dl_1052 (by decide) (by decide) ?_
  refine ax_a (jn := 2) h dl_1053 dl_1054 dl_1055 dl_1056 dl_1057 (by decide) (by decide) ?_
  refine ax_a (jn := 3) h dl_1058 dl_1059 dl_1060 dl_1061 dl_1062 (by decide) (by decide) ?_
  refine ax_calll (b9 := 0) (av := [.int (xs (i + 1)), .int (xs (i + 2)), .int (xs (i + 3))]) (rest := []) (mc := 0) (ms := 0) h (by omega) (by omega) dl_1063 lk_93 (by decide) (by rw [hJ.m.1]) rfl (j_odds hJ (by have := h.1.2.2.1; omega)) (fun v n1 mu1 ro1 sg1 hq => ?_)
  obtain ⟨rfl, rfl, rfl, hM2⟩ := hq
  refine ax_2 h dl_1066 ?_
  refine ax_a (jn := 1) h dl_1067 dl_1068 dl_1069 dl_1070 dl_1071 (by decide) (by decide) ?_
  refine ax_a (jn := 2) h dl_1072 dl_1073 dl_1074 dl_1075 dl_1076 (by decide) (by decide) ?_
  refine ax_a (jn := 3) h dl_1077 dl_1078 dl_1079 dl_1080 dl_1081 (by decide) (by decide) ?_
  refine ax_calll (b9 := 48) (av := [.int (xs (i + 1)), .int (xs (i + 2)), .int (xs (i + 3))]) (rest := [.long v]) (mc := 0) (ms := 0) h (by omega) (by omega) dl_1082 lk_97 (by simp only [cs_n, cs_i, cs_l]; omega) (by rw [hJ.m.2]) rfl hM2 (fun v2 n2 mu2 ro2 sg2 hq2 => ?_)
  obtain ⟨rfl, rfl, rfl, he, hJ2⟩ := hq2
  cases he
  refine ax_eql (tgt := 2115) h dl_1085 dl_1086 (by decide) ?_
  exact hN _ _ _ _ _ _ (by omega) (by omega) hJ2
theorem lc_19 (h : LX G ls d b L i xs) (hJ : J9 n mu ro sg) (hc : nc + 3 ≤ 600000) (hs : ns + 168 ≤ 7302250) (hN : ∀ n' nc' ns' mu' ro' sg', nc' ≤ nc + 3 → ns' ≤ ns + 168 → J9 n' mu' ro' sg' → AX G ls n' nc' ns' mu' ro' sg' 2115 []) : AX G ls n nc ns mu ro sg 1091 [] := by
  refine ax_1 h dl_1091 ?_
  refine ax_a (jn := 1) h dl_1092 dl_1093 dl_1094 dl_1095 dl_1096 (by decide) (by decide) ?_
  refine ax_a (jn := 2) h dl_1097 dl_1098 dl_1099 dl_1100 dl_1101 (by decide) (by decide) ?_
  refine ax_calli (b9 := 0) (av := [.int (xs (i + 1)), .int (xs (i + 2))]) (rest := []) (mc := 0) (ms := 0) h (by omega) (by omega) dl_1102 lk_98 (by decide) (by rw [hJ.m.1]) rfl (j_group hJ (by have := h.1.2.2.1; omega)) (fun v n1 mu1 ro1 sg1 hq => ?_)
  obtain ⟨rfl, rfl, rfl, hM2⟩ := hq
  refine ax_2 h dl_1105 ?_
  refine ax_a (jn := 1) h dl_1106 dl_1107 dl_1108 dl_1109 dl_1110 (by decide) (by decide) ?_
  refine ax_a (jn := 2) h dl_1111 dl_1112 dl_1113 dl_1114 dl_1115 (by decide) (by decide) ?_
  refine ax_calli (b9 := 48) (av := [.int (xs (i + 1)), .int (xs (i + 2))]) (rest := [.int v]) (mc := 0) (ms := 0) h (by omega) (by omega) dl_1116 lk_101 (by simp only [cs_n, cs_i, cs_l]; omega) (by rw [hJ.m.2]) rfl hM2 (fun v2 n2 mu2 ro2 sg2 hq2 => ?_)
  obtain ⟨rfl, rfl, rfl, he, hJ2⟩ := hq2
  cases he
  refine ax_eq (tgt := 2115) h dl_1119 (by decide) ?_
  exact hN _ _ _ _ _ _ (by omega) (by omega) hJ2
theorem lc_20 (h : LX G ls d b L i xs) (hJ : J9 n mu ro sg) (hc : nc + 3 ≤ 600000) (hs : ns + 168 ≤ 7302250) (hN : ∀ n' nc' ns' mu' ro' sg', nc' ≤ nc + 3 → ns' ≤ ns + 168 → J9 n' mu' ro' sg' → AX G ls n' nc' ns' mu' ro' sg' 2115 []) : AX G ls n nc ns mu ro sg 1124 [] := by
  refine ax_1 h dl_1124 ?_
  refine ax_a (jn := 1) h dl_1125 dl_1126 dl_1127 dl_1128 dl_1129 (by decide) (by decide) ?_
  refine ax_a (jn := 2) h dl_1130 dl_1131 dl_1132 dl_1133 dl_1134 (by decide) (by decide) ?_
  refine ax_calli (b9 := 0) (av := [.int (xs (i + 1)), .int (xs (i + 2))]) (rest := []) (mc := 0) (ms := 0) h (by omega) (by omega) dl_1135 lk_102 (by decide) (by rw [hJ.m.1]) rfl (j_likes hJ (by have := h.1.2.2.1; omega)) (fun v n1 mu1 ro1 sg1 hq => ?_)
  obtain ⟨rfl, rfl, rfl, hM2⟩ := hq
  refine ax_2 h dl_1138 ?_
  refine ax_a (jn := 1) h dl_1139 dl_1140 dl_1141 dl_1142 dl_1143 (by decide) (by decide) ?_
  refine ax_a (jn := 2) h dl_1144 dl_1145 dl_1146 dl_1147 dl_1148 (by decide) (by decide) ?_
  refine ax_calli (b9 := 48) (av := [.int (xs (i + 1)), .int (xs (i + 2))]) (rest := [.int v]) (mc := 0) (ms := 0) h (by omega) (by omega) dl_1149 lk_105 (by simp only [cs_n, cs_i, cs_l]; omega) (by rw [hJ.m.2]) rfl hM2 (fun v2 n2 mu2 ro2 sg2 hq2 => ?_)
  obtain ⟨rfl, rfl, rfl, he, hJ2⟩ := hq2
  cases he
  refine ax_eq (tgt := 2115) h dl_1152 (by decide) ?_
  exact hN _ _ _ _ _ _ (by omega) (by omega) hJ2
theorem lc_21 (h : LX G ls d b L i xs) (hJ : J9 n mu ro sg) (hc : nc + 3 ≤ 600000) (hs : ns + 168 ≤ 7302250) (hN : ∀ n' nc' ns' mu' ro' sg', nc' ≤ nc + 3 → ns' ≤ ns + 168 → J9 n' mu' ro' sg' → AX G ls n' nc' ns' mu' ro' sg' 2115 []) : AX G ls n nc ns mu ro sg 1157 [] := by
  refine ax_1 h dl_1157 ?_
  refine ax_a (jn := 1) h dl_1158 dl_1159 dl_1160 dl_1161 dl_1162 (by decide) (by decide) ?_
  refine ax_a (jn := 2) h dl_1163 dl_1164 dl_1165 dl_1166 dl_1167 (by decide) (by decide) ?_
  refine ax_calli (b9 := 0) (av := [.int (xs (i + 1)), .int (xs (i + 2))]) (rest := []) (mc := 0) (ms := 0) h (by omega) (by omega) dl_1168 lk_106 (by decide) (by rw [hJ.m.1]) rfl (j_put hJ (by have := h.1.2.2.1; omega)) (fun v n1 mu1 ro1 sg1 hq => ?_)
  obtain ⟨rfl, rfl, rfl, hM2⟩ := hq
  refine ax_2 h dl_1171 ?_
  refine ax_a (jn := 1) h dl_1172 dl_1173 dl_1174 dl_1175 dl_1176 (by decide) (by decide) ?_
  refine ax_a (jn := 2) h dl_1177 dl_1178 dl_1179 dl_1180 dl_1181 (by decide) (by decide) ?_
  refine ax_calli (b9 := 48) (av := [.int (xs (i + 1)), .int (xs (i + 2))]) (rest := [.int v]) (mc := 0) (ms := 0) h (by omega) (by omega) dl_1182 lk_109 (by simp only [cs_n, cs_i, cs_l]; omega) (by rw [hJ.m.2]) rfl hM2 (fun v2 n2 mu2 ro2 sg2 hq2 => ?_)
  obtain ⟨rfl, rfl, rfl, he, hJ2⟩ := hq2
  cases he
  refine ax_eq (tgt := 2115) h dl_1185 (by decide) ?_
  exact hN _ _ _ _ _ _ (by omega) (by omega) hJ2
theorem lc_22 (h : LX G ls d b L i xs) (hJ : J9 n mu ro sg) (hc : nc + 3 ≤ 600000) (hs : ns + 168 ≤ 7302250) (hN : ∀ n' nc' ns' mu' ro' sg', nc' ≤ nc + 3 → ns' ≤ ns + 168 → J9 n' mu' ro' sg' → AX G ls n' nc' ns' mu' ro' sg' 2115 []) : AX G ls n nc ns mu ro sg 1190 [] := by
  refine ax_1 h dl_1190 ?_
  refine ax_a (jn := 1) h dl_1191 dl_1192 dl_1193 dl_1194 dl_1195 (by decide) (by decide) ?_
  refine ax_a (jn := 2) h dl_1196 dl_1197 dl_1198 dl_1199 dl_1200 (by decide) (by decide) ?_
  refine ax_calli (b9 := 0) (av := [.int (xs (i + 1)), .int (xs (i + 2))]) (rest := []) (mc := 0) (ms := 0) h (by omega) (by omega) dl_1201 lk_110 (by decide) (by rw [hJ.m.1]) rfl (j_told hJ (by have := h.1.2.2.1; omega)) (fun v n1 mu1 ro1 sg1 hq => ?_)
  obtain ⟨rfl, rfl, rfl, hM2⟩ := hq
  refine ax_2 h dl_1204 ?_
  refine ax_a (jn := 1) h dl_1205 dl_1206 dl_1207 dl_1208 dl_1209 (by decide) (by decide) ?_
  refine ax_a (jn := 2) h dl_1210 dl_1211 dl_1212 dl_1213 dl_1214 (by decide) (by decide) ?_
  refine ax_calli (b9 := 48) (av := [.int (xs (i + 1)), .int (xs (i + 2))]) (rest := [.int v]) (mc := 0) (ms := 0) h (by omega) (by omega) dl_1215 lk_113 (by simp only [cs_n, cs_i, cs_l]; omega) (by rw [hJ.m.2]) rfl hM2 (fun v2 n2 mu2 ro2 sg2 hq2 => ?_)
  obtain ⟨rfl, rfl, rfl, he, hJ2⟩ := hq2
  cases he
  refine ax_eq (tgt := 2115) h dl_1218 (by decide) ?_
  exact hN _ _ _ _ _ _ (by omega) (by omega) hJ2
theorem lc_23 (h : LX G ls d b L i xs) (hJ : J9 n mu ro sg) (hc : nc + 3 ≤ 600000) (hs : ns + 168 ≤ 7302250) (hN : ∀ n' nc' ns' mu' ro' sg', nc' ≤ nc + 3 → ns' ≤ ns + 168 → J9 n' mu' ro' sg' → AX G ls n' nc' ns' mu' ro' sg' 2115 []) : AX G ls n nc ns mu ro sg 1223 [] := by
  refine ax_1 h dl_1223 ?_
  refine ax_calli (b9 := 0) (av := []) (rest := []) (mc := 0) (ms := 0) h (by omega) (by omega) dl_1224 lk_114 (by decide) (by rw [hJ.m.1]) rfl (j_miss hJ (by have := h.1.2.2.1; omega)) (fun v n1 mu1 ro1 sg1 hq => ?_)
  obtain ⟨rfl, rfl, rfl, hM2⟩ := hq
  refine ax_2 h dl_1227 ?_
  refine ax_calli (b9 := 48) (av := []) (rest := [.int v]) (mc := 0) (ms := 0) h (by omega) (by omega) dl_1228 lk_118 (by simp only [cs_n, cs_i, cs_l]; omega) (by rw [hJ.m.2]) rfl hM2 (fun v2 n2 mu2 ro2 sg2 hq2 => ?_)
  obtain ⟨rfl, rfl, rfl, he, hJ2⟩ := hq2
  cases he
  refine ax_eq (tgt := 2115) h dl_1231 (by decide) ?_
  exact hN _ _ _ _ _ _ (by omega) (by omega) hJ2
theorem lc_24 (h : LX G ls d b L i xs) (hJ : J9 n mu ro sg) (hc : nc + 3 ≤ 600000) (hs : ns + 168 ≤ 7302250) (hN : ∀ n' nc' ns' mu' ro' sg', nc' ≤ nc + 3 → ns' ≤ ns + 168 → J9 n' mu' ro' sg' → AX G ls n' nc' ns' mu' ro' sg' 2115 []) : AX G ls n nc ns mu ro sg 1236 [] := by
  refine ax_1 h dl_1236 ?_
  refine ax_a (jn := 1) h dl_1237 dl_1238 dl_1239 dl_1240 dl_1241 (by decide) (by decide) ?_
  refine ax_a (jn := 2) h dl_1242 dl_1243 dl_1244 dl_1245 dl_1246 (by decide) (by decide) ?_
  refine ax_a (jn := 3) h dl_1247 dl_1248 dl_1249 dl_1250 dl_1251 (by decide) (by decide) ?_
  refine ax_z h dl_1252 dl_1255 dl_1256 dl_1259 ?_
  refine ax_calli (b9 := 0) (av := [.int (xs (i + 1)), .int (xs (i + 2)), .int (if ¬ (xs (i + 3)) = 0 then 1 else 0)]) (rest := []) (mc := 0) (ms := 0) h (by omega) (by omega) dl_1260 lk_119 (by decide) (by rw [hJ.m.1]) rfl (j_bar hJ (by have := h.1.2.2.1; omega)) (fun v n1 mu1 ro1 sg1 hq => ?_)
  obtain ⟨rfl, rfl, rfl, hM2⟩ := hq
  refine ax_2 h dl_1263 ?_
  refine ax_a (jn := 1) h dl_1264 dl_1265 dl_1266 dl_1267 dl_1268 (by decide) (by decide) ?_
  refine ax_a (jn := 2) h dl_1269 dl_1270 dl_1271 dl_1272 dl_1273 (by decide) (by decide) ?_
  refine ax_a (jn := 3) h dl_1274 dl_1275 dl_1276 dl_1277 dl_1278 (by decide) (by decide) ?_
  refine ax_z h dl_1279 dl_1282 dl_1283 dl_1286 ?_
  refine ax_calli (b9 := 48) (av := [.int (xs (i + 1)), .int (xs (i + 2)), .int (if ¬ (xs (i + 3)) = 0 then 1 else 0)]) (rest := [.int v]) (mc := 0) (ms := 0) h (by omega) (by omega) dl_1287 lk_122 (by simp only [cs_n, cs_i, cs_l]; omega) (by rw [hJ.m.2]) rfl hM2 (fun v2 n2 mu2 ro2 sg2 hq2 => ?_)
  obtain ⟨rfl, rfl, rfl, he, hJ2⟩ := hq2
  cases he
  refine ax_eq (tgt := 2115) h dl_1290 (by decide) ?_
  exact hN _ _ _ _ _ _ (by omega) (by omega) hJ2
theorem lc_25 (h : LX G ls d b L i xs) (hJ : J9 n mu ro sg) (hc : nc + 3 ≤ 600000) (hs : ns + 168 ≤ 7302250) (hN : ∀ n' nc' ns' mu' ro' sg', nc' ≤ nc + 3 → ns' ≤ ns + 168 → J9 n' mu' ro' sg' → AX G ls n' nc' ns' mu' ro' sg' 2115 []) : AX G ls n nc ns mu ro sg 1295 [] := by
  refine ax_1 h dl_1295 ?_
  refine ax_a (jn := 1) h dl_1296 dl_1297 dl_1298 dl_1299 dl_1300 (by decide) (by decide) ?_
  refine ax_a (jn := 2) h dl_1301 dl_1302 dl_1303 dl_1304 dl_1305 (by decide) (by decide) ?_
  refine ax_a (jn := 3) h dl_1306 dl_1307 dl_1308 dl_1309 dl_1310 (by decide) (by decide) ?_
  refine ax_a (jn := 4) h dl_1311 dl_1312 dl_1313 dl_1314 dl_1315 (by decide) (by decide) ?_
  refine ax_calli (b9 := 0) (av := [.int (xs (i + 1)), .int (xs (i + 2)), .int (xs (i + 3)), .int (xs (i + 4))]) (rest := []) (mc := 0) (ms := 0) h (by omega) (by omega) dl_1316 lk_123 (by decide) (by rw [hJ.m.1]) rfl (j_grow hJ (by have := h.1.2.2.1; omega)) (fun v n1 mu1 ro1 sg1 hq => ?_)
  obtain ⟨rfl, rfl, rfl, hM2⟩ := hq
  refine ax_2 h dl_1319 ?_
  refine ax_a (jn := 1) h dl_1320 dl_1321 dl_1322 dl_1323 dl_1324 (by decide) (by decide) ?_
  refine ax_a (jn := 2) h dl_1325 dl_1326 dl_1327 dl_1328 dl_1329 (by decide) (by decide) ?_
  refine ax_a (jn := 3) h dl_1330 dl_1331 dl_1332 dl_1333 dl_1334 (by decide) (by decide) ?_
  refine ax_a (jn := 4) h dl_1335 dl_1336 dl_1337 dl_1338 dl_1339 (by decide) (by decide) ?_
  refine ax_calli (b9 := 48) (av := [.int (xs (i + 1)), .int (xs (i + 2)), .int (xs (i + 3)), .int (xs (i + 4))]) (rest := [.int v]) (mc := 0) (ms := 0) h (by omega) (by omega) dl_1340 lk_126 (by simp only [cs_n, cs_i, cs_l]; omega) (by rw [hJ.m.2]) rfl hM2 (fun v2 n2 mu2 ro2 sg2 hq2 => ?_)
  obtain ⟨rfl, rfl, rfl, he, hJ2⟩ := hq2
  cases he
  refine ax_eq (tgt := 2115) h dl_1343 (by decide) ?_
  exact hN _ _ _ _ _ _ (by omega) (by omega) hJ2
theorem lc_26 (h : LX G ls d b L i xs) (hJ : J9 n mu ro sg) (hc : nc + 3 ≤ 600000) (hs : ns + 168 ≤ 7302250) (hN : ∀ n' nc' ns' mu' ro' sg', nc' ≤ nc + 3 → ns' ≤ ns + 168 → J9 n' mu' ro' sg' → AX G ls n' nc' ns' mu' ro' sg' 2115 []) : AX G ls n nc ns mu ro sg 1348 [] := by
  refine ax_1 h dl_1348 ?_
  refine ax_a (jn := 1) h dl_1349 dl_1350 dl_1351 dl_1352 dl_1353 (by decide) (by decide) ?_
  refine ax_a (jn := 2) h dl_1354 dl_1355 dl_1356 dl_1357 dl_1358 (by decide) (by decide) ?_
  refine ax_a (jn := 3) h dl_1359 dl_1360 dl_1361 dl_1362 dl_1363 (by decide) (by decide) ?_
  refine ax_a (jn := 4) h dl_1364 dl_1365 dl_1366 dl_1367 dl_1368 (by decide) (by decide) ?_
  refine ax_calli (b9 := 0) (av := [.int (xs (i + 1)), .int (xs (i + 2)), .int (xs (i + 3)), .int (xs (i + 4))]) (rest := []) (mc := 0) (ms := 0) h (by omega) (by omega) dl_1369 lk_127 (by decide) (by rw [hJ.m.1]) rfl (j_gone hJ (by have := h.1.2.2.1; omega)) (fun v n1 mu1 ro1 sg1 hq => ?_)
  obtain ⟨rfl, rfl, rfl, hM2⟩ := hq
  refine ax_2 h dl_1372 ?_
  refine ax_a (jn := 1) h dl_1373 dl_1374 dl_1375 dl_1376 dl_1377 (by decide) (by decide) ?_
  refine ax_a (jn := 2) h dl_1378 dl_1379 dl_1380 dl_1381 dl_1382 (by decide) (by decide) ?_
  refine ax_a (jn := 3) h dl_1383 dl_1384 dl_1385 dl_1386 dl_1387 (by decide) (by decide) ?_
  refine ax_a (jn := 4) h dl_1388 dl_1389 dl_1390 dl_1391 dl_1392 (by decide) (by decide) ?_
  refine ax_calli (b9 := 48) (av := [.int (xs (i + 1)), .int (xs (i + 2)), .int (xs (i + 3)), .int (xs (i + 4))]) (rest := [.int v]) (mc := 0) (ms := 0) h (by omega) (by omega) dl_1393 lk_130 (by simp only [cs_n, cs_i, cs_l]; omega) (by rw [hJ.m.2]) rfl hM2 (fun v2 n2 mu2 ro2 sg2 hq2 => ?_)
  obtain ⟨rfl, rfl, rfl, he, hJ2⟩ := hq2
  cases he
  refine ax_eq (tgt := 2115) h dl_1396 (by decide) ?_
  exact hN _ _ _ _ _ _ (by omega) (by omega) hJ2
theorem lc_27 (h : LX G ls d b L i xs) (hJ : J9 n mu ro sg) (hc : nc + 3 ≤ 600000) (hs : ns + 168 ≤ 7302250) (hN : ∀ n' nc' ns' mu' ro' sg', nc' ≤ nc + 3 → ns' ≤ ns + 168 → J9 n' mu' ro' sg' → AX G ls n' nc' ns' mu' ro' sg' 2115 []) : AX G ls n nc ns mu ro sg 1401 [] := by
  refine ax_1 h dl_1401 ?_
  refine ax_a (jn := 1) h dl_1402 dl_1403 dl_1404 dl_1405 dl_1406 (by decide) (by decide) ?_
  refine ax_a (jn := 2) h dl_1407 dl_1408 dl_1409 dl_1410 dl_1411 (by decide) (by decide) ?_
  refine ax_calli (b9 := 0) (av := [.int (xs (i + 1)), .int (xs (i + 2))]) (rest := []) (mc := 0) (ms := 0) h (by omega) (by omega) dl_1412 lk_131 (by decide) (by rw [hJ.m.1]) rfl (j_answer hJ (by have := h.1.2.2.1; omega)) (fun v n1 mu1 ro1 sg1 hq => ?_)
  obtain ⟨rfl, rfl, rfl, hM2⟩ := hq
  refine ax_2 h dl_1415 ?_
  refine ax_a (jn := 1) h dl_1416 dl_1417 dl_1418 dl_1419 dl_1420 (by decide) (by decide) ?_
  refine ax_a (jn := 2) h dl_1421 dl_1422 dl_1423 dl_1424 dl_1425 (by decide) (by decide) ?_
  refine ax_calli (b9 := 48) (av := [.int (xs (i + 1)), .int (xs (i + 2))]) (rest := [.int v]) (mc := 0) (ms := 0) h (by omega) (by omega) dl_1426 lk_134 (by simp only [cs_n, cs_i, cs_l]; omega) (by rw [hJ.m.2]) rfl hM2 (fun v2 n2 mu2 ro2 sg2 hq2 => ?_)
  obtain ⟨rfl, rfl, rfl, he, hJ2⟩ := hq2
  cases he
  refine ax_eq (tgt := 2115) h dl_1429 (by decide) ?_
  exact hN _ _ _ _ _ _ (by omega) (by omega) hJ2
theorem lc_28 (h : LX G ls d b L i xs) (hJ : J9 n mu ro sg) (hc : nc + 3 ≤ 600000) (hs : ns + 168 ≤ 7302250) (hN : ∀ n' nc' ns' mu' ro' sg', nc' ≤ nc + 3 → ns' ≤ ns + 168 → J9 n' mu' ro' sg' → AX G ls n' nc' ns' mu' ro' sg' 2115 []) : AX G ls n nc ns mu ro sg 1434 [] := by
  refine ax_1 h dl_1434 ?_
  refine ax_a (jn := 1) h dl_1435 dl_1436 dl_1437 dl_1438 dl_1439 (by decide) (by decide) ?_
  refine ax_a (jn := 2) h dl_1440 dl_1441 dl_1442 dl_1443 dl_1444 (by decide) (by decide) ?_
  refine ax_calli (b9 := 0) (av := [.int (xs (i + 1)), .int (xs (i + 2))]) (rest := []) (mc := 0) (ms := 0) h (by omega) (by omega) dl_1445 lk_135 (by decide) (by rw [hJ.m.1]) rfl (j_next hJ (by have := h.1.2.2.1; omega)) (fun v n1 mu1 ro1 sg1 hq => ?_)
  obtain ⟨rfl, rfl, rfl, hM2⟩ := hq
  refine ax_2 h dl_1448 ?_
  refine ax_a (jn := 1) h dl_1449 dl_1450 dl_1451 dl_1452 dl_1453 (by decide) (by decide) ?_
  refine ax_a (jn := 2) h dl_1454 dl_1455 dl_1456 dl_1457 dl_1458 (by decide) (by decide) ?_
  refine ax_calli (b9 := 48) (av := [.int (xs (i + 1)), .int (xs (i + 2))]) (rest := [.int v]) (mc := 0) (ms := 0) h (by omega) (by omega) dl_1459 lk_138 (by simp only [cs_n, cs_i, cs_l]; omega) (by rw [hJ.m.2]) rfl hM2 (fun v2 n2 mu2 ro2 sg2 hq2 => ?_)
  obtain ⟨rfl, rfl, rfl, he, hJ2⟩ := hq2
  cases he
  refine ax_eq (tgt := 2115) h dl_1462 (by decide) ?_
  exact hN _ _ _ _ _ _ (by omega) (by omega) hJ2
theorem lc_29 (h : LX G ls d b L i xs) (hJ : J9 n mu ro sg) (hc : nc + 3 ≤ 600000) (hs : ns + 168 ≤ 7302250) (hN : ∀ n' nc' ns' mu' ro' sg', nc' ≤ nc + 3 → ns' ≤ ns + 168 → J9 n' mu' ro' sg' → AX G ls n' nc' ns' mu' ro' sg' 2115 []) : AX G ls n nc ns mu ro sg 1467 [] := by
  refine ax_1 h dl_1467 ?_
  refine ax_a (jn := 1) h dl_1468 dl_1469 dl_1470 dl_1471 dl_1472 (by decide) (by decide) ?_
  refine ax_calli (b9 := 0) (av := [.int (xs (i + 1))]) (rest := []) (mc := 0) (ms := 0) h (by omega) (by omega) dl_1473 lk_139 (by decide) (by rw [hJ.m.1]) rfl (j_rows hJ (by have := h.1.2.2.1; omega)) (fun v n1 mu1 ro1 sg1 hq => ?_)
  obtain ⟨rfl, rfl, rfl, hM2⟩ := hq
  refine ax_2 h dl_1476 ?_
  refine ax_a (jn := 1) h dl_1477 dl_1478 dl_1479 dl_1480 dl_1481 (by decide) (by decide) ?_
  refine ax_calli (b9 := 48) (av := [.int (xs (i + 1))]) (rest := [.int v]) (mc := 0) (ms := 0) h (by omega) (by omega) dl_1482 lk_142 (by simp only [cs_n, cs_i, cs_l]; omega) (by rw [hJ.m.2]) rfl hM2 (fun v2 n2 mu2 ro2 sg2 hq2 => ?_)
  obtain ⟨rfl, rfl, rfl, he, hJ2⟩ := hq2
  cases he
  refine ax_eq (tgt := 2115) h dl_1485 (by decide) ?_
  exact hN _ _ _ _ _ _ (by omega) (by omega) hJ2
theorem lc_30 (h : LX G ls d b L i xs) (hJ : J9 n mu ro sg) (hc : nc + 3 ≤ 600000) (hs : ns + 168 ≤ 7302250) (hN : ∀ n' nc' ns' mu' ro' sg', nc' ≤ nc + 3 → ns' ≤ ns + 168 → J9 n' mu' ro' sg' → AX G ls n' nc' ns' mu' ro' sg' 2115 []) : AX G ls n nc ns mu ro sg 1490 [] := by
  refine ax_1 h dl_1490 ?_
  refine ax_a (jn := 1) h dl_1491 dl_1492 dl_1493 dl_1494 dl_1495 (by decide) (by decide) ?_
  refine ax_a (jn := 2) h dl_1496 dl_1497 dl_1498 dl_1499 dl_1500 (by decide) (by decide) ?_
  refine ax_a (jn := 3) h dl_1501 dl_1502 dl_1503 dl_1504 dl_1505 (by decide) (by decide) ?_
  refine ax_calli (b9 := 0) (av := [.int (xs (i + 1)), .int (xs (i + 2)), .int (xs (i + 3))]) (rest := []) (mc := 0) (ms := 0) h (by omega) (by omega) dl_1506 lk_143 (by decide) (by rw [hJ.m.1]) rfl (j_work hJ (by have := h.1.2.2.1; omega)) (fun v n1 mu1 ro1 sg1 hq => ?_)
  obtain ⟨rfl, rfl, rfl, hM2⟩ := hq
  refine ax_2 h dl_1509 ?_
  refine ax_a (jn := 1) h dl_1510 dl_1511 dl_1512 dl_1513 dl_1514 (by decide) (by decide) ?_
  refine ax_a (jn := 2) h dl_1515 dl_1516 dl_1517 dl_1518 dl_1519 (by decide) (by decide) ?_
  refine ax_a (jn := 3) h dl_1520 dl_1521 dl_1522 dl_1523 dl_1524 (by decide) (by decide) ?_
  refine ax_calli (b9 := 48) (av := [.int (xs (i + 1)), .int (xs (i + 2)), .int (xs (i + 3))]) (rest := [.int v]) (mc := 0) (ms := 0) h (by omega) (by omega) dl_1525 lk_146 (by simp only [cs_n, cs_i, cs_l]; omega) (by rw [hJ.m.2]) rfl hM2 (fun v2 n2 mu2 ro2 sg2 hq2 => ?_)
  obtain ⟨rfl, rfl, rfl, he, hJ2⟩ := hq2
  cases he
  refine ax_eq (tgt := 2115) h dl_1528 (by decide) ?_
  exact hN _ _ _ _ _ _ (by omega) (by omega) hJ2
theorem lc_31 (h : LX G ls d b L i xs) (hJ : J9 n mu ro sg) (hc : nc + 3 ≤ 600000) (hs : ns + 168 ≤ 7302250) (hN : ∀ n' nc' ns' mu' ro' sg', nc' ≤ nc + 3 → ns' ≤ ns + 168 → J9 n' mu' ro' sg' → AX G ls n' nc' ns' mu' ro' sg' 2115 []) : AX G ls n nc ns mu ro sg 1533 [] := by
  refine ax_1 h dl_1533 ?_
  refine ax_a (jn := 1) h dl_1534 dl_1535 dl_1536 dl_1537 dl_1538 (by decide) (by decide) ?_
  refine ax_a (jn := 2) h dl_1539 dl_1540 dl_1541 dl_1542 dl_1543 (by decide) (by decide) ?_
  refine ax_calli (b9 := 0) (av := [.int (xs (i + 1)), .int (xs (i + 2))]) (rest := []) (mc := 0) (ms := 0) h (by omega) (by omega) dl_1544 lk_147 (by decide) (by rw [hJ.m.1]) rfl (j_still hJ (by have := h.1.2.2.1; omega)) (fun v n1 mu1 ro1 sg1 hq => ?_)
  obtain ⟨rfl, rfl, rfl, hM2⟩ := hq
  refine ax_2 h dl_1547 ?_
  refine ax_a (jn := 1) h dl_1548 dl_1549 dl_1550 dl_1551 dl_1552 (by decide) (by decide) ?_
  refine ax_a (jn := 2) h dl_1553 dl_1554 dl_1555 dl_1556 dl_1557 (by decide) (by decide) ?_
  refine ax_calli (b9 := 48) (av := [.int (xs (i + 1)), .int (xs (i + 2))]) (rest := [.int v]) (mc := 0) (ms := 0) h (by omega) (by omega) dl_1558 lk_150 (by simp only [cs_n, cs_i, cs_l]; omega) (by rw [hJ.m.2]) rfl hM2 (fun v2 n2 mu2 ro2 sg2 hq2 => ?_)
  obtain ⟨rfl, rfl, rfl, he, hJ2⟩ := hq2
  cases he
  refine ax_eq (tgt := 2115) h dl_1561 (by decide) ?_
  exact hN _ _ _ _ _ _ (by omega) (by omega) hJ2
theorem lc_32 (h : LX G ls d b L i xs) (hJ : J9 n mu ro sg) (hc : nc + 3 ≤ 600000) (hs : ns + 168 ≤ 7302250) (hN : ∀ n' nc' ns' mu' ro' sg', nc' ≤ nc + 3 → ns' ≤ ns + 168 → J9 n' mu' ro' sg' → AX G ls n' nc' ns' mu' ro' sg' 2115 []) : AX G ls n nc ns mu ro sg 1566 [] := by
  refine ax_1 h dl_1566 ?_
  refine ax_a (jn := 1) h dl_1567 dl_1568 dl_1569 dl_1570 dl_1571 (by decide) (by decide) ?_
  refine ax_a (jn := 2) h dl_1572 dl_1573 dl_1574 dl_1575 dl_1576 (by decide) (by decide) ?_
  refine ax_a (jn := 3) h dl_1577 dl_1578 dl_1579 dl_1580 dl_1581 (by decide) (by decide) ?_
  refine ax_calli (b9 := 0) (av := [.int (xs (i + 1)), .int (xs (i + 2)), .int (xs (i + 3))]) (rest := []) (mc := 0) (ms := 0) h (by omega) (by omega) dl_1582 lk_151 (by decide) (by rw [hJ.m.1]) rfl (j_parted hJ (by have := h.1.2.2.1; omega)) (fun v n1 mu1 ro1 sg1 hq => ?_)
  obtain ⟨rfl, rfl, rfl, hM2⟩ := hq
  refine ax_2 h dl_1585 ?_
  refine ax_a (jn := 1) h dl_1586 dl_1587 dl_1588 dl_1589 dl_1590 (by decide) (by decide) ?_
  refine ax_a (jn := 2) h dl_1591 dl_1592 dl_1593 dl_1594 dl_1595 (by decide) (by decide) ?_
  refine ax_a (jn := 3) h dl_1596 dl_1597 dl_1598 dl_1599 dl_1600 (by decide) (by decide) ?_
  refine ax_calli (b9 := 48) (av := [.int (xs (i + 1)), .int (xs (i + 2)), .int (xs (i + 3))]) (rest := [.int v]) (mc := 0) (ms := 0) h (by omega) (by omega) dl_1601 lk_154 (by simp only [cs_n, cs_i, cs_l]; omega) (by rw [hJ.m.2]) rfl hM2 (fun v2 n2 mu2 ro2 sg2 hq2 => ?_)
  obtain ⟨rfl, rfl, rfl, he, hJ2⟩ := hq2
  cases he
  refine ax_eq (tgt := 2115) h dl_1604 (by decide) ?_
  exact hN _ _ _ _ _ _ (by omega) (by omega) hJ2
theorem lc_33 (h : LX G ls d b L i xs) (hJ : J9 n mu ro sg) (hc : nc + 3 ≤ 600000) (hs : ns + 168 ≤ 7302250) (hN : ∀ n' nc' ns' mu' ro' sg', nc' ≤ nc + 3 → ns' ≤ ns + 168 → J9 n' mu' ro' sg' → AX G ls n' nc' ns' mu' ro' sg' 2115 []) : AX G ls n nc ns mu ro sg 1609 [] := by
  refine ax_1 h dl_1609 ?_
  refine ax_a (jn := 1) h dl_1610 dl_1611 dl_1612 dl_1613 dl_1614 (by decide) (by decide) ?_
  refine ax_a (jn := 2) h dl_1615 dl_1616 dl_1617 dl_1618 dl_1619 (by decide) (by decide) ?_
  refine ax_a (jn := 3) h dl_1620 dl_1621 dl_1622 dl_1623 dl_1624 (by decide) (by decide) ?_
  refine ax_calli (b9 := 0) (av := [.int (xs (i + 1)), .int (xs (i + 2)), .int (xs (i + 3))]) (rest := []) (mc := 0) (ms := 0) h (by omega) (by omega) dl_1625 lk_155 (by decide) (by rw [hJ.m.1]) rfl (j_least hJ (by have := h.1.2.2.1; omega)) (fun v n1 mu1 ro1 sg1 hq => ?_)
  obtain ⟨rfl, rfl, rfl, hM2⟩ := hq
  refine ax_2 h dl_1628 ?_
  refine ax_a (jn := 1) h dl_1629 dl_1630 dl_1631 dl_1632 dl_1633 (by decide) (by decide) ?_
  refine ax_a (jn := 2) h dl_1634 dl_1635 dl_1636 dl_1637 dl_1638 (by decide) (by decide) ?_
  refine ax_a (jn := 3) h dl_1639 dl_1640 dl_1641 dl_1642 dl_1643 (by decide) (by decide) ?_
  refine ax_calli (b9 := 48) (av := [.int (xs (i + 1)), .int (xs (i + 2)), .int (xs (i + 3))]) (rest := [.int v]) (mc := 0) (ms := 0) h (by omega) (by omega) dl_1644 lk_158 (by simp only [cs_n, cs_i, cs_l]; omega) (by rw [hJ.m.2]) rfl hM2 (fun v2 n2 mu2 ro2 sg2 hq2 => ?_)
  obtain ⟨rfl, rfl, rfl, he, hJ2⟩ := hq2
  cases he
  refine ax_eq (tgt := 2115) h dl_1647 (by decide) ?_
  exact hN _ _ _ _ _ _ (by omega) (by omega) hJ2
theorem lc_34 (h : LX G ls d b L i xs) (hJ : J9 n mu ro sg) (hc : nc + 3 ≤ 600000) (hs : ns + 168 ≤ 7302250) (hN : ∀ n' nc' ns' mu' ro' sg', nc' ≤ nc + 3 → ns' ≤ ns + 168 → J9 n' mu' ro' sg' → AX G ls n' nc' ns' mu' ro' sg' 2115 []) : AX G ls n nc ns mu ro sg 1652 [] := by
  refine ax_1 h dl_1652 ?_
  refine ax_a (jn := 1) h dl_1653 dl_1654 dl_1655 dl_1656 dl_1657 (by decide) (by decide) ?_
  refine ax_a (jn := 2) h dl_1658 dl_1659 dl_1660 dl_1661 dl_1662 (by decide) (by decide) ?_
  refine ax_a (jn := 3) h dl_1663 dl_1664 dl_1665 dl_1666 dl_1667 (by decide) (by decide) ?_
  refine ax_calli (b9 := 0) (av := [.int (xs (i + 1)), .int (xs (i + 2)), .int (xs (i + 3))]) (rest := []) (mc := 0) (ms := 0) h (by omega) (by omega) dl_1668 lk_159 (by decide) (by rw [hJ.m.1]) rfl (j_may hJ (by have := h.1.2.2.1; omega)) (fun v n1 mu1 ro1 sg1 hq => ?_)
  obtain ⟨rfl, rfl, rfl, hM2⟩ := hq
  refine ax_2 h dl_1671 ?_
  refine ax_a (jn := 1) h dl_1672 dl_1673 dl_1674 dl_1675 dl_1676 (by decide) (by decide) ?_
  refine ax_a (jn := 2) h dl_1677 dl_1678 dl_1679 dl_1680 dl_1681 (by decide) (by decide) ?_
  refine ax_a (jn := 3) h dl_1682 dl_1683 dl_1684 dl_1685 dl_1686 (by decide) (by decide) ?_
  refine ax_calli (b9 := 48) (av := [.int (xs (i + 1)), .int (xs (i + 2)), .int (xs (i + 3))]) (rest := [.int v]) (mc := 0) (ms := 0) h (by omega) (by omega) dl_1687 lk_162 (by simp only [cs_n, cs_i, cs_l]; omega) (by rw [hJ.m.2]) rfl hM2 (fun v2 n2 mu2 ro2 sg2 hq2 => ?_)
  obtain ⟨rfl, rfl, rfl, he, hJ2⟩ := hq2
  cases he
  refine ax_eq (tgt := 2115) h dl_1690 (by decide) ?_
  exact hN _ _ _ _ _ _ (by omega) (by omega) hJ2
theorem lc_35 (h : LX G ls d b L i xs) (hJ : J9 n mu ro sg) (hc : nc + 3 ≤ 600000) (hs : ns + 168 ≤ 7302250) (hN : ∀ n' nc' ns' mu' ro' sg', nc' ≤ nc + 3 → ns' ≤ ns + 168 → J9 n' mu' ro' sg' → AX G ls n' nc' ns' mu' ro' sg' 2115 []) : AX G ls n nc ns mu ro sg 1695 [] := by
  refine ax_1 h dl_1695 ?_
  refine ax_a (jn := 1) h dl_1696 dl_1697 dl_1698 dl_1699 dl_1700 (by decide) (by decide) ?_
  refine ax_a (jn := 2) h dl_1701 dl_1702 dl_1703 dl_1704 dl_1705 (by decide) (by decide) ?_
  refine ax_a (jn := 3) h dl_1706 dl_1707 dl_1708 dl_1709 dl_1710 (by decide) (by decide) ?_
  refine ax_calli (b9 := 0) (av := [.int (xs (i + 1)), .int (xs (i + 2)), .int (xs (i + 3))]) (rest := []) (mc := 0) (ms := 0) h (by omega) (by omega) dl_1711 lk_163 (by decide) (by rw [hJ.m.1]) rfl (j_look hJ (by have := h.1.2.2.1; omega)) (fun v n1 mu1 ro1 sg1 hq => ?_)
  obtain ⟨rfl, rfl, rfl, hM2⟩ := hq
  refine ax_2 h dl_1714 ?_
  refine ax_a (jn := 1) h dl_1715 dl_1716 dl_1717 dl_1718 dl_1719 (by decide) (by decide) ?_
  refine ax_a (jn := 2) h dl_1720 dl_1721 dl_1722 dl_1723 dl_1724 (by decide) (by decide) ?_
  refine ax_a (jn := 3) h dl_1725 dl_1726 dl_1727 dl_1728 dl_1729 (by decide) (by decide) ?_
  refine ax_calli (b9 := 48) (av := [.int (xs (i + 1)), .int (xs (i + 2)), .int (xs (i + 3))]) (rest := [.int v]) (mc := 0) (ms := 0) h (by omega) (by omega) dl_1730 lk_166 (by simp only [cs_n, cs_i, cs_l]; omega) (by rw [hJ.m.2]) rfl hM2 (fun v2 n2 mu2 ro2 sg2 hq2 => ?_)
  obtain ⟨rfl, rfl, rfl, he, hJ2⟩ := hq2
  cases he
  refine ax_eq (tgt := 2115) h dl_1733 (by decide) ?_
  exact hN _ _ _ _ _ _ (by omega) (by omega) hJ2
theorem lc_36 (h : LX G ls d b L i xs) (hJ : J9 n mu ro sg) (hc : nc + 3 ≤ 600000) (hs : ns + 168 ≤ 7302250) (hN : ∀ n' nc' ns' mu' ro' sg', nc' ≤ nc + 3 → ns' ≤ ns + 168 → J9 n' mu' ro' sg' → AX G ls n' nc' ns' mu' ro' sg' 2115 []) : AX G ls n nc ns mu ro sg 1738 [] := by
  refine ax_1 h dl_1738 ?_
  refine ax_a (jn := 1) h dl_1739 dl_1740 dl_1741 dl_1742 dl_1743 (by decide) (by decide) ?_
  refine ax_a (jn := 2) h dl_1744 dl_1745 dl_1746 dl_1747 dl_1748 (by decide) (by decide) ?_
  refine ax_calli (b9 := 0) (av := [.int (xs (i + 1)), .int (xs (i + 2))]) (rest := []) (mc := 0) (ms := 0) h (by omega) (by omega) dl_1749 lk_167 (by decide) (by rw [hJ.m.1]) rfl (j_looks hJ (by have := h.1.2.2.1; omega)) (fun v n1 mu1 ro1 sg1 hq => ?_)
  obtain ⟨rfl, rfl, rfl, hM2⟩ := hq
  refine ax_2 h dl_1752 ?_
  refine ax_a (jn := 1) h dl_1753 dl_1754 dl_1755 dl_1756 dl_1757 (by decide) (by decide) ?_
  refine ax_a (jn := 2) h dl_1758 dl_1759 dl_1760 dl_1761 dl_1762 (by decide) (by decide) ?_
  refine ax_calli (b9 := 48) (av := [.int (xs (i + 1)), .int (xs (i + 2))]) (rest := [.int v]) (mc := 0) (ms := 0) h (by omega) (by omega) dl_1763 lk_170 (by simp only [cs_n, cs_i, cs_l]; omega) (by rw [hJ.m.2]) rfl hM2 (fun v2 n2 mu2 ro2 sg2 hq2 => ?_)
  obtain ⟨rfl, rfl, rfl, he, hJ2⟩ := hq2
  cases he
  refine ax_eq (tgt := 2115) h dl_1766 (by decide) ?_
  exact hN _ _ _ _ _ _ (by omega) (by omega) hJ2
theorem lc_37 (h : LX G ls d b L i xs) (hJ : J9 n mu ro sg) (hc : nc + 3 ≤ 600000) (hs : ns + 168 ≤ 7302250) (hN : ∀ n' nc' ns' mu' ro' sg', nc' ≤ nc + 3 → ns' ≤ ns + 168 → J9 n' mu' ro' sg' → AX G ls n' nc' ns' mu' ro' sg' 2115 []) : AX G ls n nc ns mu ro sg 1771 [] := by
  refine ax_1 h dl_1771 ?_
  refine ax_a (jn := 1) h dl_1772 dl_1773 dl_1774 dl_1775 dl_1776 (by decide) (by decide) ?_
  refine ax_a (jn := 2) h dl_1777 dl_1778 dl_1779 dl_1780 dl_1781 (by decide) (by decide) ?_
  refine ax_a (jn := 3) h dl_1782 dl_1783 dl_1784 dl_1785 dl_1786 (by decide) (by decide) ?_
  refine ax_calli (b9 := 0) (av := [.int (xs (i + 1)), .int (xs (i + 2)), .int (xs (i + 3))]) (rest := []) (mc := 0) (ms := 0) h (by omega) (by omega) dl_1787 lk_171 (by decide) (by rw [hJ.m.1]) rfl (j_sheet hJ (by have := h.1.2.2.1; omega)) (fun v n1 mu1 ro1 sg1 hq => ?_)
  obtain ⟨rfl, rfl, rfl, hM2⟩ := hq
  refine ax_2 h dl_1790 ?_
  refine ax_a (jn := 1) h dl_1791 dl_1792 dl_1793 dl_1794 dl_1795 (by decide) (by decide) ?_
  refine ax_a (jn := 2) h dl_1796 dl_1797 dl_1798 dl_1799 dl_1800 (by decide) (by decide) ?_
  refine ax_a (jn := 3) h dl_1801 dl_1802 dl_1803 dl_1804 dl_1805 (by decide) (by decide) ?_
  refine ax_calli (b9 := 48) (av := [.int (xs (i + 1)), .int (xs (i + 2)), .int (xs (i + 3))]) (rest := [.int v]) (mc := 0) (ms := 0) h (by omega) (by omega) dl_1806 lk_174 (by simp only [cs_n, cs_i, cs_l]; omega) (by rw [hJ.m.2]) rfl hM2 (fun v2 n2 mu2 ro2 sg2 hq2 => ?_)
  obtain ⟨rfl, rfl, rfl, he, hJ2⟩ := hq2
  cases he
  refine ax_eq (tgt := 2115) h dl_1809 (by decide) ?_
  exact hN _ _ _ _ _ _ (by omega) (by omega) hJ2
theorem lc_38 (h : LX G ls d b L i xs) (hJ : J9 n mu ro sg) (hc : nc + 3 ≤ 600000) (hs : ns + 168 ≤ 7302250) (hN : ∀ n' nc' ns' mu' ro' sg', nc' ≤ nc + 3 → ns' ≤ ns + 168 → J9 n' mu' ro' sg' → AX G ls n' nc' ns' mu' ro' sg' 2115 []) : AX G ls n nc ns mu ro sg 1814 [] := by
  refine ax_1 h dl_1814 ?_
  refine ax_a (jn := 1) h dl_1815 dl_1816 dl_1817 dl_1818 dl_1819 (by decide) (by decide) ?_
  refine ax_calli (b9 := 0) (av := [.int (xs (i + 1))]) (rest := []) (mc := 0) (ms := 0) h (by omega) (by omega) dl_1820 lk_175 (by decide) (by rw [hJ.m.1]) rfl (j_lose hJ (by have := h.1.2.2.1; omega)) (fun v n1 mu1 ro1 sg1 hq => ?_)
  obtain ⟨rfl, rfl, rfl, hM2⟩ := hq
  refine ax_2 h dl_1823 ?_
  refine ax_a (jn := 1) h dl_1824 dl_1825 dl_1826 dl_1827 dl_1828 (by decide) (by decide) ?_
  refine ax_calli (b9 := 48) (av := [.int (xs (i + 1))]) (rest := [.int v]) (mc := 0) (ms := 0) h (by omega) (by omega) dl_1829 lk_178 (by simp only [cs_n, cs_i, cs_l]; omega) (by rw [hJ.m.2]) rfl hM2 (fun v2 n2 mu2 ro2 sg2 hq2 => ?_)
  obtain ⟨rfl, rfl, rfl, he, hJ2⟩ := hq2
  cases he
  refine ax_eq (tgt := 2115) h dl_1832 (by decide) ?_
  exact hN _ _ _ _ _ _ (by omega) (by omega) hJ2
theorem lc_39 (h : LX G ls d b L i xs) (hJ : J9 n mu ro sg) (hc : nc + 3 ≤ 600000) (hs : ns + 168 ≤ 7302250) (hN : ∀ n' nc' ns' mu' ro' sg', nc' ≤ nc + 3 → ns' ≤ ns + 168 → J9 n' mu' ro' sg' → AX G ls n' nc' ns' mu' ro' sg' 2115 []) : AX G ls n nc ns mu ro sg 1837 [] := by
  refine ax_1 h dl_1837 ?_
  refine ax_a (jn := 1) h dl_1838 dl_1839 dl_1840 dl_1841 dl_1842 (by decide) (by decide) ?_
  refine ax_a (jn := 2) h dl_1843 dl_1844 dl_1845 dl_1846 dl_1847 (by decide) (by decide) ?_
  refine ax_a (jn := 3) h dl_1848 dl_1849 dl_1850 dl_1851 dl_1852 (by decide) (by decide) ?_
  refine ax_calli (b9 := 0) (av := [.int (xs (i + 1)), .int (xs (i + 2)), .int (xs (i + 3))]) (rest := []) (mc := 0) (ms := 0) h (by omega) (by omega) dl_1853 lk_179 (by decide) (by rw [hJ.m.1]) rfl (j_set hJ (by have := h.1.2.2.1; omega)) (fun v n1 mu1 ro1 sg1 hq => ?_)
  obtain ⟨rfl, rfl, rfl, hM2⟩ := hq
  refine ax_2 h dl_1856 ?_
  refine ax_a (jn := 1) h dl_1857 dl_1858 dl_1859 dl_1860 dl_1861 (by decide) (by decide) ?_
  refine ax_a (jn := 2) h dl_1862 dl_1863 dl_1864 dl_1865 dl_1866 (by decide) (by decide) ?_
  refine ax_a (jn := 3) h dl_1867 dl_1868 dl_1869 dl_1870 dl_1871 (by decide) (by decide) ?_
  refine ax_calli (b9 := 48) (av := [.int (xs (i + 1)), .int (xs (i + 2)), .int (xs (i + 3))]) (rest := [.int v]) (mc := 0) (ms := 0) h (by omega) (by omega) dl_1872 lk_182 (by simp only [cs_n, cs_i, cs_l]; omega) (by rw [hJ.m.2]) rfl hM2 (fun v2 n2 mu2 ro2 sg2 hq2 => ?_)
  obtain ⟨rfl, rfl, rfl, he, hJ2⟩ := hq2
  cases he
  refine ax_eq (tgt := 2115) h dl_1875 (by decide) ?_
  exact hN _ _ _ _ _ _ (by omega) (by omega) hJ2
theorem lc_40 (h : LX G ls d b L i xs) (hJ : J9 n mu ro sg) (hc : nc + 3 ≤ 600000) (hs : ns + 168 ≤ 7302250) (hN : ∀ n' nc' ns' mu' ro' sg', nc' ≤ nc + 3 → ns' ≤ ns + 168 → J9 n' mu' ro' sg' → AX G ls n' nc' ns' mu' ro' sg' 2115 []) : AX G ls n nc ns mu ro sg 1880 [] := by
  refine ax_1 h dl_1880 ?_
  refine ax_a (jn := 1) h dl_1881 dl_1882 dl_1883 dl_1884 dl_1885 (by decide) (by decide) ?_
  refine ax_a (jn := 2) h dl_1886 dl_1887 dl_1888 dl_1889 dl_1890 (by decide) (by decide) ?_
  refine ax_a (jn := 3) h dl_1891 dl_1892 dl_1893 dl_1894 dl_1895 (by decide) (by decide) ?_
  refine ax_calll (b9 := 0) (av := [.int (xs (i + 1)), .int (xs (i + 2)), .int (xs (i + 3))]) (rest := []) (mc := 0) (ms := 0) h (by omega) (by omega) dl_1896 lk_183 (by decide) (by rw [hJ.m.1]) rfl (j_cell hJ (by have := h.1.2.2.1; omega)) (fun v n1 mu1 ro1 sg1 hq => ?_)
  obtain ⟨rfl, rfl, rfl, hM2⟩ := hq
  refine ax_2 h dl_1899 ?_
  refine ax_a (jn := 1) h dl_1900 dl_1901 dl_1902 dl_1903 dl_1904 (by decide) (by decide) ?_
  refine ax_a (jn := 2) h dl_1905 dl_1906 dl_1907 dl_1908 dl_1909 (by decide) (by decide) ?_
  refine ax_a (jn := 3) h dl_1910 dl_1911 dl_1912 dl_1913 dl_1914 (by decide) (by decide) ?_
  refine ax_calll (b9 := 48) (av := [.int (xs (i + 1)), .int (xs (i + 2)), .int (xs (i + 3))]) (rest := [.long v]) (mc := 0) (ms := 0) h (by omega) (by omega) dl_1915 lk_186 (by simp only [cs_n, cs_i, cs_l]; omega) (by rw [hJ.m.2]) rfl hM2 (fun v2 n2 mu2 ro2 sg2 hq2 => ?_)
  obtain ⟨rfl, rfl, rfl, he, hJ2⟩ := hq2
  cases he
  refine ax_eql (tgt := 2115) h dl_1918 dl_1919 (by decide) ?_
  exact hN _ _ _ _ _ _ (by omega) (by omega) hJ2
theorem lc_41 (h : LX G ls d b L i xs) (hJ : J9 n mu ro sg) (hc : nc + 3 ≤ 600000) (hs : ns + 168 ≤ 7302250) (hN : ∀ n' nc' ns' mu' ro' sg', nc' ≤ nc + 3 → ns' ≤ ns + 168 → J9 n' mu' ro' sg' → AX G ls n' nc' ns' mu' ro' sg' 2115 []) : AX G ls n nc ns mu ro sg 1924 [] := by
  refine ax_1 h dl_1924 ?_
  refine ax_a (jn := 1) h dl_1925 dl_1926 dl_1927 dl_1928 dl_1929 (by decide) (by decide) ?_
  refine ax_a (jn := 2) h dl_1930 dl_1931 dl_1932 dl_1933 dl_1934 (by decide) (by decide) ?_
  refine ax_a (jn := 3) h dl_1935 dl_1936 dl_1937 dl_1938 dl_1939 (by decide) (by decide) ?_
  refine ax_a (jn := 4) h dl_1940 dl_1941 dl_1942 dl_1943 dl_1944 (by decide) (by decide) ?_
  refine ax_a (jn := 5) h dl_1945 dl_1946 dl_1947 dl_1948 dl_1949 (by decide) (by decide) ?_
  refine ax_calli (b9 := 0) (av := [.int (xs (i + 1)), .int (xs (i + 2)), .int (xs (i + 3)), .int (xs (i + 4)), .int (xs (i + 5))]) (rest := []) (mc := 0) (ms := 0) h (by omega) (by omega) dl_1950 lk_187 (by decide) (by rw [hJ.m.1]) rfl (j_copy hJ (by have := h.1.2.2.1; omega)) (fun v n1 mu1 ro1 sg1 hq => ?_)
  obtain ⟨rfl, rfl, rfl, hM2⟩ := hq
  refine ax_2 h dl_1953 ?_
  refine ax_a (jn := 1) h dl_1954 dl_1955 dl_1956 dl_1957 dl_1958 (by decide) (by decide) ?_
  refine ax_a (jn := 2) h dl_1959 dl_1960 dl_1961 dl_1962 dl_1963 (by decide) (by decide) ?_
  refine ax_a (jn := 3) h dl_1964 dl_1965 dl_1966 dl_1967 dl_1968 (by decide) (by decide) ?_
  refine ax_a (jn := 4) h dl_1969 dl_1970 dl_1971 dl_1972 dl_1973 (by decide) (by decide) ?_
  refine ax_a (jn := 5) h dl_1974 dl_1975 dl_1976 dl_1977 dl_1978 (by decide) (by decide) ?_
  refine ax_calli (b9 := 48) (av := [.int (xs (i + 1)), .int (xs (i + 2)), .int (xs (i + 3)), .int (xs (i + 4)), .int (xs (i + 5))]) (rest := [.int v]) (mc := 0) (ms := 0) h (by omega) (by omega) dl_1979 lk_191 (by simp only [cs_n, cs_i, cs_l]; omega) (by rw [hJ.m.2]) rfl hM2 (fun v2 n2 mu2 ro2 sg2 hq2 => ?_)
  obtain ⟨rfl, rfl, rfl, he, hJ2⟩ := hq2
  cases he
  refine ax_eq (tgt := 2115) h dl_1982 (by decide) ?_
  exact hN _ _ _ _ _ _ (by omega) (by omega) hJ2
theorem lc_42 (h : LX G ls d b L i xs) (hJ : J9 n mu ro sg) (hc : nc + 3 ≤ 600000) (hs : ns + 168 ≤ 7302250) (hN : ∀ n' nc' ns' mu' ro' sg', nc' ≤ nc + 3 → ns' ≤ ns + 168 → J9 n' mu' ro' sg' → AX G ls n' nc' ns' mu' ro' sg' 2115 []) : AX G ls n nc ns mu ro sg 1987 [] := by
  refine ax_1 h dl_1987 ?_
  refine ax_a (jn := 1) h dl_1988 dl_1989 dl_1990 dl_1991 dl_1992 (by decide) (by decide) ?_
  refine ax_calli (b9 := 0) (av := [.int (xs (i + 1))]) (rest := []) (mc := 0) (ms := 0) h (by omega) (by omega) dl_1993 lk_192 (by decide) (by rw [hJ.m.1]) rfl (j_tell hJ (by have := h.1.2.2.1; omega)) (fun v n1 mu1 ro1 sg1 hq => ?_)
  obtain ⟨rfl, rfl, rfl, hM2⟩ := hq
  refine ax_2 h dl_1996 ?_
  refine ax_a (jn := 1) h dl_1997 dl_1998 dl_1999 dl_2000 dl_2001 (by decide) (by decide) ?_
  refine ax_calli (b9 := 48) (av := [.int (xs (i + 1))]) (rest := [.int v]) (mc := 0) (ms := 0) h (by omega) (by omega) dl_2002 lk_195 (by simp only [cs_n, cs_i, cs_l]; omega) (by rw [hJ.m.2]) rfl hM2 (fun v2 n2 mu2 ro2 sg2 hq2 => ?_)
  obtain ⟨rfl, rfl, rfl, he, hJ2⟩ := hq2
  cases he
  refine ax_eq (tgt := 2115) h dl_2005 (by decide) ?_
  exact hN _ _ _ _ _ _ (by omega) (by omega) hJ2
theorem lc_43 (h : LX G ls d b L i xs) (hJ : J9 n mu ro sg) (hc : nc + 3 ≤ 600000) (hs : ns + 168 ≤ 7302250) (hN : ∀ n' nc' ns' mu' ro' sg', nc' ≤ nc + 3 → ns' ≤ ns + 168 → J9 n' mu' ro' sg' → AX G ls n' nc' ns' mu' ro' sg' 2115 []) : AX G ls n nc ns mu ro sg 2010 [] := by
  refine ax_1 h dl_2010 ?_
  refine ax_a (jn := 1) h dl_2011 dl_2012 dl_2013 dl_2014 dl_2015 (by decide) (by decide) ?_
  refine ax_calli (b9 := 0) (av := [.int (xs (i + 1))]) (rest := []) (mc := 0) (ms := 0) h (by omega) (by omega) dl_2016 lk_196 (by decide) (by rw [hJ.m.1]) rfl (j_call hJ (by have := h.1.2.2.1; omega)) (fun v n1 mu1 ro1 sg1 hq => ?_)
  obtain ⟨rfl, rfl, rfl, hM2⟩ := hq
  refine ax_2 h dl_2019 ?_
  refine ax_a (jn := 1) h dl_2020 dl_2021 dl_2022 dl_2023 dl_2024 (by decide) (by decide) ?_
  refine ax_calli (b9 := 48) (av := [.int (xs (i + 1))]) (rest := [.int v]) (mc := 0) (ms := 0) h (by omega) (by omega) dl_2025 lk_199 (by simp only [cs_n, cs_i, cs_l]; omega) (by rw [hJ.m.2]) rfl hM2 (fun v2 n2 mu2 ro2 sg2 hq2 => ?_)
  obtain ⟨rfl, rfl, rfl, he, hJ2⟩ := hq2
  cases he
  refine ax_eq (tgt := 2115) h dl_2028 (by decide) ?_
  exact hN _ _ _ _ _ _ (by omega) (by omega) hJ2
theorem lc_44 (h : LX G ls d b L i xs) (hJ : J9 n mu ro sg) (hc : nc + 3 ≤ 600000) (hs : ns + 168 ≤ 7302250) (hN : ∀ n' nc' ns' mu' ro' sg', nc' ≤ nc + 3 → ns' ≤ ns + 168 → J9 n' mu' ro' sg' → AX G ls n' nc' ns' mu' ro' sg' 2115 []) : AX G ls n nc ns mu ro sg 2033 [] := by
  refine ax_1 h dl_2033 ?_
  refine ax_a (jn := 1) h dl_2034 dl_2035 dl_2036 dl_2037 dl_2038 (by decide) (by decide) ?_
  refine ax_a (jn := 2) h dl_2039 dl_2040 dl_2041 dl_2042 dl_2043 (by decide) (by decide) ?_
  refine ax_calli (b9 := 0) (av := [.int (xs (i + 1)), .int (xs (i + 2))]) (rest := []) (mc := 0) (ms := 0) h (by omega) (by omega) dl_2044 lk_200 (by decide) (by rw [hJ.m.1]) rfl (j_as hJ (by have := h.1.2.2.1; omega)) (fun v n1 mu1 ro1 sg1 hq => ?_)
  obtain ⟨rfl, rfl, rfl, hM2⟩ := hq
  refine ax_2 h dl_2047 ?_
  refine ax_a (jn := 1) h dl_2048 dl_2049 dl_2050 dl_2051 dl_2052 (by decide) (by decide) ?_
  refine ax_a (jn := 2) h dl_2053 dl_2054 dl_2055 dl_2056 dl_2057 (by decide) (by decide) ?_
  refine ax_calli (b9 := 48) (av := [.int (xs (i + 1)), .int (xs (i + 2))]) (rest := [.int v]) (mc := 0) (ms := 0) h (by omega) (by omega) dl_2058 lk_203 (by simp only [cs_n, cs_i, cs_l]; omega) (by rw [hJ.m.2]) rfl hM2 (fun v2 n2 mu2 ro2 sg2 hq2 => ?_)
  obtain ⟨rfl, rfl, rfl, he, hJ2⟩ := hq2
  cases he
  refine ax_eq (tgt := 2115) h dl_2061 (by decide) ?_
  exact hN _ _ _ _ _ _ (by omega) (by omega) hJ2
theorem lc_45 (h : LX G ls d b L i xs) (hJ : J9 n mu ro sg) (hc : nc + 3 ≤ 600000) (hs : ns + 168 ≤ 7302250) (hN : ∀ n' nc' ns' mu' ro' sg', nc' ≤ nc + 3 → ns' ≤ ns + 168 → J9 n' mu' ro' sg' → AX G ls n' nc' ns' mu' ro' sg' 2115 []) : AX G ls n nc ns mu ro sg 2066 [] := by
  refine ax_1 h dl_2066 ?_
  refine ax_calli (b9 := 0) (av := []) (rest := []) (mc := 0) (ms := 0) h (by omega) (by omega) dl_2067 lk_204 (by decide) (by rw [hJ.m.1]) rfl (j_trace hJ (by have := h.1.2.2.1; omega)) (fun v n1 mu1 ro1 sg1 hq => ?_)
  obtain ⟨rfl, rfl, rfl, hM2⟩ := hq
  refine ax_2 h dl_2070 ?_
  refine ax_calli (b9 := 48) (av := []) (rest := [.int v]) (mc := 0) (ms := 0) h (by omega) (by omega) dl_2071 lk_207 (by simp only [cs_n, cs_i, cs_l]; omega) (by rw [hJ.m.2]) rfl hM2 (fun v2 n2 mu2 ro2 sg2 hq2 => ?_)
  obtain ⟨rfl, rfl, rfl, he, hJ2⟩ := hq2
  cases he
  refine ax_eq (tgt := 2115) h dl_2074 (by decide) ?_
  exact hN _ _ _ _ _ _ (by omega) (by omega) hJ2
theorem lc_46 (h : LX G ls d b L i xs) (hJ : J9 n mu ro sg) (hc : nc + 3 ≤ 600000) (hs : ns + 168 ≤ 7302250) (hN : ∀ n' nc' ns' mu' ro' sg', nc' ≤ nc + 3 → ns' ≤ ns + 168 → J9 n' mu' ro' sg' → AX G ls n' nc' ns' mu' ro' sg' 2115 []) : AX G ls n nc ns mu ro sg 2079 [] := by
  refine ax_1 h dl_2079 ?_
  refine ax_calli (b9 := 0) (av := []) (rest := []) (mc := 0) (ms := 0) h (by omega) (by omega) dl_2080 lk_208 (by decide) (by rw [hJ.m.1]) rfl (j_fault hJ (by have := h.1.2.2.1; omega)) (fun v n1 mu1 ro1 sg1 hq => ?_)
  obtain ⟨rfl, rfl, rfl, hM2⟩ := hq
  refine ax_2 h dl_2083 ?_
  refine ax_calli (b9 := 48) (av := []) (rest := [.int v]) (mc := 0) (ms := 0) h (by omega) (by omega) dl_2084 lk_211 (by simp only [cs_n, cs_i, cs_l]; omega) (by rw [hJ.m.2]) rfl hM2 (fun v2 n2 mu2 ro2 sg2 hq2 => ?_)
  obtain ⟨rfl, rfl, rfl, he, hJ2⟩ := hq2
  cases he
  refine ax_eq (tgt := 2115) h dl_2087 (by decide) ?_
  exact hN _ _ _ _ _ _ (by omega) (by omega) hJ2
theorem lc_47 (h : LX G ls d b L i xs) (hJ : J9 n mu ro sg) (hc : nc + 3 ≤ 600000) (hs : ns + 168 ≤ 7302250) (hN : ∀ n' nc' ns' mu' ro' sg', nc' ≤ nc + 3 → ns' ≤ ns + 168 → J9 n' mu' ro' sg' → AX G ls n' nc' ns' mu' ro' sg' 2115 []) : AX G ls n nc ns mu ro sg 2092 [] := by
  refine ax_1 h dl_2092 ?_
  refine ax_a (jn := 1) h dl_2093 dl_2094 dl_2095 dl_2096 dl_2097 (by decide) (by decide) ?_
  refine ax_calli (b9 := 0) (av := [.int (xs (i + 1))]) (rest := []) (mc := 0) (ms := 0) h (by omega) (by omega) dl_2098 lk_212 (by decide) (by rw [hJ.m.1]) rfl (j_many hJ (by have := h.1.2.2.1; omega)) (fun v n1 mu1 ro1 sg1 hq => ?_)
  obtain ⟨rfl, rfl, rfl, hM2⟩ := hq
  refine ax_2 h dl_2101 ?_
  refine ax_a (jn := 1) h dl_2102 dl_2103 dl_2104 dl_2105 dl_2106 (by decide) (by decide) ?_
  refine ax_calli (b9 := 48) (av := [.int (xs (i + 1))]) (rest := [.int v]) (mc := 0) (ms := 0) h (by omega) (by omega) dl_2107 lk_215 (by simp only [cs_n, cs_i, cs_l]; omega) (by rw [hJ.m.2]) rfl hM2 (fun v2 n2 mu2 ro2 sg2 hq2 => ?_)
  obtain ⟨rfl, rfl, rfl, he, hJ2⟩ := hq2
  cases he
  refine ax_eq (tgt := 2115) h dl_2110 (by decide) ?_
  exact hN _ _ _ _ _ _ (by omega) (by omega) hJ2
end H85
