section AR
variable {X : kX} {k0 : Nat} {D E : zD}
theorem k_a0 (F : k_F X) (hk : k0 + 6 ≤ k_L X) (h : v_Inv D E) (N : ∀ D2 E2, v_Inv D2 E2 → k_J X 1568 (nI k0) [] D2 E2) : k_J X 33 (nI k0) [.int (nI 0)] D E := by
  refine k_sw F (by decide) (off := 215) (tgt := 248) rfl (by decide) ?_
  obtain ⟨P, Q, hC, hM, hT⟩ := v_m_coin h (k_x X (k0 + 1))
  refine k_X F dL_law_248 ?_
  refine k_arg F hk 1 (by decide) (by decide) dL_law_249 dL_law_250 dL_law_251 dL_law_252 dL_law_253 ?_
  refine k_callX (as := [.int (k_x X (k0 + 1))]) (st := []) F (fun _ => rfl) rfl kL_13 hC (by decide) (Nat.le_of_ble_eq_true rfl) dL_law_254 (fun r D2 p => ?_)
  refine k_M F dL_law_257 ?_
  refine k_arg F hk 1 (by decide) (by decide) dL_law_258 dL_law_259 dL_law_260 dL_law_261 dL_law_262 ?_
  refine k_callM (as := [.int (k_x X (k0 + 1))]) (st := [.int r]) F (fun _ => rfl) rfl kL_17 hM (by decide) (Nat.le_of_ble_eq_true rfl) dL_law_263 (fun r2 E2 q => ?_)
  obtain ⟨e, h2⟩ := hT _ _ _ _ p q
  exact k_same F e dL_law_266 (by decide) (N _ _ h2)
theorem k_a1 (F : k_F X) (hk : k0 + 6 ≤ k_L X) (h : v_Inv D E) (N : ∀ D2 E2, v_Inv D2 E2 → k_J X 1568 (nI k0) [] D2 E2) : k_J X 33 (nI k0) [.int (nI 1)] D E := by
  refine k_sw F (by decide) (off := 238) (tgt := 271) rfl (by decide) ?_
  obtain ⟨P, Q, hC, hM, hT⟩ := v_m_of h (k_x X (k0 + 1)) (k_x X (k0 + 2))
  refine k_X F dL_law_271 ?_
  refine k_arg F hk 1 (by decide) (by decide) dL_law_272 dL_law_273 dL_law_274 dL_law_275 dL_law_276 ?_
  refine k_arg F hk 2 (by decide) (by decide) dL_law_277 dL_law_278 dL_law_279 dL_law_280 dL_law_281 ?_
  refine k_callX (as := [.int (k_x X (k0 + 1)), .int (k_x X (k0 + 2))]) (st := []) F (fun _ => rfl) rfl kL_18 hC (by decide) (Nat.le_of_ble_eq_true rfl) dL_law_282 (fun r D2 p => ?_)
  refine k_M F dL_law_285 ?_
  refine k_arg F hk 1 (by decide) (by decide) dL_law_286 dL_law_287 dL_law_288 dL_law_289 dL_law_290 ?_
  refine k_arg F hk 2 (by decide) (by decide) dL_law_291 dL_law_292 dL_law_293 dL_law_294 dL_law_295 ?_
  refine k_callM (as := [.int (k_x X (k0 + 1)), .int (k_x X (k0 + 2))]) (st := [.int r]) F (fun _ => rfl) rfl kL_22 hM (by decide) (Nat.le_of_ble_eq_true rfl) dL_law_296 (fun r2 E2 q => ?_)
  obtain ⟨e, h2⟩ := hT _ _ _ _ p q
  exact k_same F e dL_law_299 (by decide) (N _ _ h2)
theorem k_a2 (F : k_F X) (hk : k0 + 6 ≤ k_L X) (h : v_Inv D E) (N : ∀ D2 E2, v_Inv D2 E2 → k_J X 1568 (nI k0) [] D2 E2) : k_J X 33 (nI k0) [.int (nI 2)] D E := by
  refine k_sw F (by decide) (off := 271) (tgt := 304) rfl (by decide) ?_
  obtain ⟨P, Q, hC, hM, hT⟩ := v_m_change h (k_x X (k0 + 1)) (k_x X (k0 + 2)) (k_x X (k0 + 3))
  refine k_X F dL_law_304 ?_
  refine k_arg F hk 1 (by decide) (by decide) dL_law_305 dL_law_306 dL_law_307 dL_law_308 dL_law_309 ?_
  refine k_arg F hk 2 (by decide) (by decide) dL_law_310 dL_law_311 dL_law_312 dL_law_313 dL_law_314 ?_
  refine k_arg F hk 3 (by decide) (by decide) dL_law_315 dL_law_316 dL_law_317 dL_law_318 dL_law_319 ?_
  refine k_callX (as := [.int (k_x X (k0 + 1)), .int (k_x X (k0 + 2)), .int (k_x X (k0 + 3))]) (st := []) F (fun _ => rfl) rfl kL_23 hC (by decide) (Nat.le_of_ble_eq_true rfl) dL_law_320 (fun r D2 p => ?_)
  refine k_M F dL_law_323 ?_
  refine k_arg F hk 1 (by decide) (by decide) dL_law_324 dL_law_325 dL_law_326 dL_law_327 dL_law_328 ?_
  refine k_arg F hk 2 (by decide) (by decide) dL_law_329 dL_law_330 dL_law_331 dL_law_332 dL_law_333 ?_
  refine k_arg F hk 3 (by decide) (by decide) dL_law_334 dL_law_335 dL_law_336 dL_law_337 dL_law_338 ?_
  refine k_callM (as := [.int (k_x X (k0 + 1)), .int (k_x X (k0 + 2)), .int (k_x X (k0 + 3))]) (st := [.int r]) F (fun _ => rfl) rfl kL_27 hM (by decide) (Nat.le_of_ble_eq_true rfl) dL_law_339 (fun r2 E2 q => ?_)
  obtain ⟨e, h2⟩ := hT _ _ _ _ p q
  exact k_same F e dL_law_342 (by decide) (N _ _ h2)
theorem k_a3 (F : k_F X) (hk : k0 + 6 ≤ k_L X) (h : v_Inv D E) (N : ∀ D2 E2, v_Inv D2 E2 → k_J X 1568 (nI k0) [] D2 E2) : k_J X 33 (nI k0) [.int (nI 3)] D E := by
  refine k_sw F (by decide) (off := 314) (tgt := 347) rfl (by decide) ?_
  obtain ⟨P, Q, hC, hM, hT⟩ := v_m_put h (k_x X (k0 + 1)) (k_x X (k0 + 2))
  refine k_X F dL_law_347 ?_
  refine k_arg F hk 1 (by decide) (by decide) dL_law_348 dL_law_349 dL_law_350 dL_law_351 dL_law_352 ?_
  refine k_arg F hk 2 (by decide) (by decide) dL_law_353 dL_law_354 dL_law_355 dL_law_356 dL_law_357 ?_
  refine k_callX (as := [.int (k_x X (k0 + 1)), .int (k_x X (k0 + 2))]) (st := []) F (fun _ => rfl) rfl kL_28 hC (by decide) (Nat.le_of_ble_eq_true rfl) dL_law_358 (fun r D2 p => ?_)
  refine k_M F dL_law_361 ?_
  refine k_arg F hk 1 (by decide) (by decide) dL_law_362 dL_law_363 dL_law_364 dL_law_365 dL_law_366 ?_
  refine k_arg F hk 2 (by decide) (by decide) dL_law_367 dL_law_368 dL_law_369 dL_law_370 dL_law_371 ?_
  refine k_callM (as := [.int (k_x X (k0 + 1)), .int (k_x X (k0 + 2))]) (st := [.int r]) F (fun _ => rfl) rfl kL_31 hM (by decide) (Nat.le_of_ble_eq_true rfl) dL_law_372 (fun r2 E2 q => ?_)
  obtain ⟨e, h2⟩ := hT _ _ _ _ p q
  exact k_same F e dL_law_375 (by decide) (N _ _ h2)
theorem k_a4 (F : k_F X) (hk : k0 + 6 ≤ k_L X) (h : v_Inv D E) (N : ∀ D2 E2, v_Inv D2 E2 → k_J X 1568 (nI k0) [] D2 E2) : k_J X 33 (nI k0) [.int (nI 4)] D E := by
  refine k_sw F (by decide) (off := 347) (tgt := 380) rfl (by decide) ?_
  obtain ⟨P, Q, hC, hM, hT⟩ := v_m_rule h (k_x X (k0 + 1)) (k_x X (k0 + 2))
  refine k_X F dL_law_380 ?_
  refine k_arg F hk 1 (by decide) (by decide) dL_law_381 dL_law_382 dL_law_383 dL_law_384 dL_law_385 ?_
  refine k_arg F hk 2 (by decide) (by decide) dL_law_386 dL_law_387 dL_law_388 dL_law_389 dL_law_390 ?_
  refine k_callX (as := [.int (k_x X (k0 + 1)), .int (k_x X (k0 + 2))]) (st := []) F (fun _ => rfl) rfl kL_32 hC (by decide) (Nat.le_of_ble_eq_true rfl) dL_law_391 (fun r D2 p => ?_)
  refine k_M F dL_law_394 ?_
  refine k_arg F hk 1 (by decide) (by decide) dL_law_395 dL_law_396 dL_law_397 dL_law_398 dL_law_399 ?_
  refine k_arg F hk 2 (by decide) (by decide) dL_law_400 dL_law_401 dL_law_402 dL_law_403 dL_law_404 ?_
  refine k_callM (as := [.int (k_x X (k0 + 1)), .int (k_x X (k0 + 2))]) (st := [.int r]) F (fun _ => rfl) rfl kL_35 hM (by decide) (Nat.le_of_ble_eq_true rfl) dL_law_405 (fun r2 E2 q => ?_)
  obtain ⟨e, h2⟩ := hT _ _ _ _ p q
  exact k_same F e dL_law_408 (by decide) (N _ _ h2)
theorem k_a5 (F : k_F X) (hk : k0 + 6 ≤ k_L X) (h : v_Inv D E) (N : ∀ D2 E2, v_Inv D2 E2 → k_J X 1568 (nI k0) [] D2 E2) : k_J X 33 (nI k0) [.int (nI 5)] D E := by
  refine k_sw F (by decide) (off := 380) (tgt := 413) rfl (by decide) ?_
  obtain ⟨P, Q, hC, hM, hT⟩ := v_m_sew h
  refine k_X F dL_law_413 ?_
  refine k_callX (as := []) (st := []) F (fun _ => rfl) rfl kL_36 hC (by decide) (Nat.le_of_ble_eq_true rfl) dL_law_414 (fun r D2 p => ?_)
  refine k_M F dL_law_417 ?_
  refine k_callM (as := []) (st := [.int r]) F (fun _ => rfl) rfl kL_40 hM (by decide) (Nat.le_of_ble_eq_true rfl) dL_law_418 (fun r2 E2 q => ?_)
  obtain ⟨e, h2⟩ := hT _ _ _ _ p q
  exact k_same F e dL_law_421 (by decide) (N _ _ h2)
theorem k_a6 (F : k_F X) (hk : k0 + 6 ≤ k_L X) (h : v_Inv D E) (N : ∀ D2 E2, v_Inv D2 E2 → k_J X 1568 (nI k0) [] D2 E2) : k_J X 33 (nI k0) [.int (nI 6)] D E := by
  refine k_sw F (by decide) (off := 393) (tgt := 426) rfl (by decide) ?_
  obtain ⟨P, Q, hC, hM, hT⟩ := v_m_lie h (k_x X (k0 + 1))
  refine k_X F dL_law_426 ?_
  refine k_arg F hk 1 (by decide) (by decide) dL_law_427 dL_law_428 dL_law_429 dL_law_430 dL_law_431 ?_
  refine k_callX (as := [.int (k_x X (k0 + 1))]) (st := []) F (fun _ => rfl) rfl kL_41 hC (by decide) (Nat.le_of_ble_eq_true rfl) dL_law_432 (fun r D2 p => ?_)
  refine k_M F dL_law_435 ?_
  refine k_arg F hk 1 (by decide) (by decide) dL_law_436 dL_law_437 dL_law_438 dL_law_439 dL_law_440 ?_
  refine k_callM (as := [.int (k_x X (k0 + 1))]) (st := [.int r]) F (fun _ => rfl) rfl kL_44 hM (by decide) (Nat.le_of_ble_eq_true rfl) dL_law_441 (fun r2 E2 q => ?_)
  obtain ⟨e, h2⟩ := hT _ _ _ _ p q
  exact k_same F e dL_law_444 (by decide) (N _ _ h2)
theorem k_a7 (F : k_F X) (hk : k0 + 6 ≤ k_L X) (h : v_Inv D E) (N : ∀ D2 E2, v_Inv D2 E2 → k_J X 1568 (nI k0) [] D2 E2) : k_J X 33 (nI k0) [.int (nI 7)] D E := by
  refine k_sw F (by decide) (off := 416) (tgt := 449) rfl (by decide) ?_
  obtain ⟨P, Q, hC, hM, hT⟩ := v_m_pence h (k_x X (k0 + 1))
  refine k_X F dL_law_449 ?_
  refine k_arg F hk 1 (by decide) (by decide) dL_law_450 dL_law_451 dL_law_452 dL_law_453 dL_law_454 ?_
  refine k_callX (as := [.int (k_x X (k0 + 1))]) (st := []) F (fun _ => rfl) rfl kL_45 hC (by decide) (Nat.le_of_ble_eq_true rfl) dL_law_455 (fun r D2 p => ?_)
  refine k_M F dL_law_458 ?_
  refine k_arg F hk 1 (by decide) (by decide) dL_law_459 dL_law_460 dL_law_461 dL_law_462 dL_law_463 ?_
  refine k_callM (as := [.int (k_x X (k0 + 1))]) (st := [.int r]) F (fun _ => rfl) rfl kL_48 hM (by decide) (Nat.le_of_ble_eq_true rfl) dL_law_464 (fun r2 E2 q => ?_)
  obtain ⟨e, h2⟩ := hT _ _ _ _ p q
  exact k_same F e dL_law_467 (by decide) (N _ _ h2)
theorem k_a8 (F : k_F X) (hk : k0 + 6 ≤ k_L X) (h : v_Inv D E) (N : ∀ D2 E2, v_Inv D2 E2 → k_J X 1568 (nI k0) [] D2 E2) : k_J X 33 (nI k0) [.int (nI 8)] D E := by
  refine k_sw F (by decide) (off := 439) (tgt := 472) rfl (by decide) ?_
  obtain ⟨P, Q, hC, hM, hT⟩ := v_m_steps h (k_x X (k0 + 1))
  refine k_X F dL_law_472 ?_
  refine k_arg F hk 1 (by decide) (by decide) dL_law_473 dL_law_474 dL_law_475 dL_law_476 dL_law_477 ?_
  refine k_callX (as := [.int (k_x X (k0 + 1))]) (st := []) F (fun _ => rfl) rfl kL_49 hC (by decide) (Nat.le_of_ble_eq_true rfl) dL_law_478 (fun r D2 p => ?_)
  refine k_M F dL_law_481 ?_
  refine k_arg F hk 1 (by decide) (by decide) dL_law_482 dL_law_483 dL_law_484 dL_law_485 dL_law_486 ?_
  refine k_callM (as := [.int (k_x X (k0 + 1))]) (st := [.int r]) F (fun _ => rfl) rfl kL_52 hM (by decide) (Nat.le_of_ble_eq_true rfl) dL_law_487 (fun r2 E2 q => ?_)
  obtain ⟨e, h2⟩ := hT _ _ _ _ p q
  exact k_same F e dL_law_490 (by decide) (N _ _ h2)
theorem k_a9 (F : k_F X) (hk : k0 + 6 ≤ k_L X) (h : v_Inv D E) (N : ∀ D2 E2, v_Inv D2 E2 → k_J X 1568 (nI k0) [] D2 E2) : k_J X 33 (nI k0) [.int (nI 9)] D E := by
  refine k_sw F (by decide) (off := 462) (tgt := 495) rfl (by decide) ?_
  obtain ⟨P, Q, hC, hM, hT⟩ := v_m_now h (k_x X (k0 + 1))
  refine k_X F dL_law_495 ?_
  refine k_arg F hk 1 (by decide) (by decide) dL_law_496 dL_law_497 dL_law_498 dL_law_499 dL_law_500 ?_
  refine k_callX (as := [.int (k_x X (k0 + 1))]) (st := []) F (fun _ => rfl) rfl kL_53 hC (by decide) (Nat.le_of_ble_eq_true rfl) dL_law_501 (fun r D2 p => ?_)
  refine k_M F dL_law_504 ?_
  refine k_arg F hk 1 (by decide) (by decide) dL_law_505 dL_law_506 dL_law_507 dL_law_508 dL_law_509 ?_
  refine k_callM (as := [.int (k_x X (k0 + 1))]) (st := [.int r]) F (fun _ => rfl) rfl kL_56 hM (by decide) (Nat.le_of_ble_eq_true rfl) dL_law_510 (fun r2 E2 q => ?_)
  obtain ⟨e, h2⟩ := hT _ _ _ _ p q
  exact k_same F e dL_law_513 (by decide) (N _ _ h2)
theorem k_a10 (F : k_F X) (hk : k0 + 6 ≤ k_L X) (h : v_Inv D E) (N : ∀ D2 E2, v_Inv D2 E2 → k_J X 1568 (nI k0) [] D2 E2) : k_J X 33 (nI k0) [.int (nI 10)] D E := by
  refine k_sw F (by decide) (off := 485) (tgt := 518) rfl (by decide) ?_
  obtain ⟨P, Q, hC, hM, hT⟩ := v_m_ahead h (k_x X (k0 + 1)) (k_x X (k0 + 2))
  refine k_X F dL_law_518 ?_
  refine k_arg F hk 1 (by decide) (by decide) dL_law_519 dL_law_520 dL_law_521 dL_law_522 dL_law_523 ?_
  refine k_arg F hk 2 (by decide) (by decide) dL_law_524 dL_law_525 dL_law_526 dL_law_527 dL_law_528 ?_
  refine k_callX (as := [.int (k_x X (k0 + 1)), .int (k_x X (k0 + 2))]) (st := []) F (fun _ => rfl) rfl kL_57 hC (by decide) (Nat.le_of_ble_eq_true rfl) dL_law_529 (fun r D2 p => ?_)
  refine k_M F dL_law_532 ?_
  refine k_arg F hk 1 (by decide) (by decide) dL_law_533 dL_law_534 dL_law_535 dL_law_536 dL_law_537 ?_
  refine k_arg F hk 2 (by decide) (by decide) dL_law_538 dL_law_539 dL_law_540 dL_law_541 dL_law_542 ?_
  refine k_callM (as := [.int (k_x X (k0 + 1)), .int (k_x X (k0 + 2))]) (st := [.int r]) F (fun _ => rfl) rfl kL_60 hM (by decide) (Nat.le_of_ble_eq_true rfl) dL_law_543 (fun r2 E2 q => ?_)
  obtain ⟨e, h2⟩ := hT _ _ _ _ p q
  exact k_same F e dL_law_546 (by decide) (N _ _ h2)
theorem k_a11 (F : k_F X) (hk : k0 + 6 ≤ k_L X) (h : v_Inv D E) (N : ∀ D2 E2, v_Inv D2 E2 → k_J X 1568 (nI k0) [] D2 E2) : k_J X 33 (nI k0) [.int (nI 11)] D E := by
  refine k_sw F (by decide) (off := 518) (tgt := 551) rfl (by decide) ?_
  obtain ⟨P, Q, hC, hM, hT⟩ := v_m_when h (k_x X (k0 + 1))
  refine k_X F dL_law_551 ?_
  refine k_arg F hk 1 (by decide) (by decide) dL_law_552 dL_law_553 dL_law_554 dL_law_555 dL_law_556 ?_
  refine k_callX (as := [.int (k_x X (k0 + 1))]) (st := []) F (fun _ => rfl) rfl kL_61 hC (by decide) (Nat.le_of_ble_eq_true rfl) dL_law_557 (fun r D2 p => ?_)
  refine k_M F dL_law_560 ?_
  refine k_arg F hk 1 (by decide) (by decide) dL_law_561 dL_law_562 dL_law_563 dL_law_564 dL_law_565 ?_
  refine k_callM (as := [.int (k_x X (k0 + 1))]) (st := [.int r]) F (fun _ => rfl) rfl kL_64 hM (by decide) (Nat.le_of_ble_eq_true rfl) dL_law_566 (fun r2 E2 q => ?_)
  obtain ⟨e, h2⟩ := hT _ _ _ _ p q
  exact k_same F e dL_law_569 (by decide) (N _ _ h2)
theorem k_a12 (F : k_F X) (hk : k0 + 6 ≤ k_L X) (h : v_Inv D E) (N : ∀ D2 E2, v_Inv D2 E2 → k_J X 1568 (nI k0) [] D2 E2) : k_J X 33 (nI k0) [.int (nI 12)] D E := by
  refine k_sw F (by decide) (off := 541) (tgt := 574) rfl (by decide) ?_
  obtain ⟨P, Q, hC, hM, hT⟩ := v_m_falls h (k_x X (k0 + 1))
  refine k_X F dL_law_574 ?_
  refine k_arg F hk 1 (by decide) (by decide) dL_law_575 dL_law_576 dL_law_577 dL_law_578 dL_law_579 ?_
  refine k_callX (as := [.int (k_x X (k0 + 1))]) (st := []) F (fun _ => rfl) rfl kL_65 hC (by decide) (Nat.le_of_ble_eq_true rfl) dL_law_580 (fun r D2 p => ?_)
  refine k_M F dL_law_583 ?_
  refine k_arg F hk 1 (by decide) (by decide) dL_law_584 dL_law_585 dL_law_586 dL_law_587 dL_law_588 ?_
  refine k_callM (as := [.int (k_x X (k0 + 1))]) (st := [.int r]) F (fun _ => rfl) rfl kL_68 hM (by decide) (Nat.le_of_ble_eq_true rfl) dL_law_589 (fun r2 E2 q => ?_)
  obtain ⟨e, h2⟩ := hT _ _ _ _ p q
  exact k_same F e dL_law_592 (by decide) (N _ _ h2)
theorem k_a13 (F : k_F X) (hk : k0 + 6 ≤ k_L X) (h : v_Inv D E) (N : ∀ D2 E2, v_Inv D2 E2 → k_J X 1568 (nI k0) [] D2 E2) : k_J X 33 (nI k0) [.int (nI 13)] D E := by
  refine k_sw F (by decide) (off := 564) (tgt := 597) rfl (by decide) ?_
  obtain ⟨P, Q, hC, hM, hT⟩ := v_m_first h
  refine k_X F dL_law_597 ?_
  refine k_callX (as := []) (st := []) F (fun _ => rfl) rfl kL_69 hC (by decide) (Nat.le_of_ble_eq_true rfl) dL_law_598 (fun r D2 p => ?_)
  refine k_M F dL_law_601 ?_
  refine k_callM (as := []) (st := [.int r]) F (fun _ => rfl) rfl kL_72 hM (by decide) (Nat.le_of_ble_eq_true rfl) dL_law_602 (fun r2 E2 q => ?_)
  obtain ⟨e, h2⟩ := hT _ _ _ _ p q
  exact k_same F e dL_law_605 (by decide) (N _ _ h2)
theorem k_a14 (F : k_F X) (hk : k0 + 6 ≤ k_L X) (h : v_Inv D E) (N : ∀ D2 E2, v_Inv D2 E2 → k_J X 1568 (nI k0) [] D2 E2) : k_J X 33 (nI k0) [.int (nI 14)] D E := by
  refine k_sw F (by decide) (off := 577) (tgt := 610) rfl (by decide) ?_
  obtain ⟨P, Q, hC, hM, hT⟩ := v_m_cell h (k_x X (k0 + 1)) (k_x X (k0 + 2))
  refine k_X F dL_law_610 ?_
  refine k_arg F hk 1 (by decide) (by decide) dL_law_611 dL_law_612 dL_law_613 dL_law_614 dL_law_615 ?_
  refine k_arg F hk 2 (by decide) (by decide) dL_law_616 dL_law_617 dL_law_618 dL_law_619 dL_law_620 ?_
  refine k_callX (as := [.int (k_x X (k0 + 1)), .int (k_x X (k0 + 2))]) (st := []) F (fun _ => rfl) rfl kL_73 hC (by decide) (Nat.le_of_ble_eq_true rfl) dL_law_621 (fun r D2 p => ?_)
  refine k_M F dL_law_624 ?_
  refine k_arg F hk 1 (by decide) (by decide) dL_law_625 dL_law_626 dL_law_627 dL_law_628 dL_law_629 ?_
  refine k_arg F hk 2 (by decide) (by decide) dL_law_630 dL_law_631 dL_law_632 dL_law_633 dL_law_634 ?_
  refine k_callM (as := [.int (k_x X (k0 + 1)), .int (k_x X (k0 + 2))]) (st := [.int r]) F (fun _ => rfl) rfl kL_76 hM (by decide) (Nat.le_of_ble_eq_true rfl) dL_law_635 (fun r2 E2 q => ?_)
  obtain ⟨e, h2⟩ := hT _ _ _ _ p q
  exact k_same F e dL_law_638 (by decide) (N _ _ h2)
theorem k_a15 (F : k_F X) (hk : k0 + 6 ≤ k_L X) (h : v_Inv D E) (N : ∀ D2 E2, v_Inv D2 E2 → k_J X 1568 (nI k0) [] D2 E2) : k_J X 33 (nI k0) [.int (nI 15)] D E := by
  refine k_sw F (by decide) (off := 610) (tgt := 643) rfl (by decide) ?_
  obtain ⟨P, Q, hC, hM, hT⟩ := v_m_bears h (k_x X (k0 + 1)) (k_x X (k0 + 2))
  refine k_X F dL_law_643 ?_
  refine k_arg F hk 1 (by decide) (by decide) dL_law_644 dL_law_645 dL_law_646 dL_law_647 dL_law_648 ?_
  refine k_arg F hk 2 (by decide) (by decide) dL_law_649 dL_law_650 dL_law_651 dL_law_652 dL_law_653 ?_
  refine k_callX (as := [.int (k_x X (k0 + 1)), .int (k_x X (k0 + 2))]) (st := []) F (fun _ => rfl) rfl kL_77 hC (by decide) (Nat.le_of_ble_eq_true rfl) dL_law_654 (fun r D2 p => ?_)
  refine k_M F dL_law_657 ?_
  refine k_arg F hk 1 (by decide) (by decide) dL_law_658 dL_law_659 dL_law_660 dL_law_661 dL_law_662 ?_
  refine k_arg F hk 2 (by decide) (by decide) dL_law_663 dL_law_664 dL_law_665 dL_law_666 dL_law_667 ?_
  refine k_callM (as := [.int (k_x X (k0 + 1)), .int (k_x X (k0 + 2))]) (st := [.int r]) F (fun _ => rfl) rfl kL_80 hM (by decide) (Nat.le_of_ble_eq_true rfl) dL_law_668 (fun r2 E2 q => ?_)
  obtain ⟨e, h2⟩ := hT _ _ _ _ p q
  exact k_same F e dL_law_671 (by decide) (N _ _ h2)
theorem k_a16 (F : k_F X) (hk : k0 + 6 ≤ k_L X) (h : v_Inv D E) (N : ∀ D2 E2, v_Inv D2 E2 → k_J X 1568 (nI k0) [] D2 E2) : k_J X 33 (nI k0) [.int (nI 16)] D E := by
  refine k_sw F (by decide) (off := 643) (tgt := 676) rfl (by decide) ?_
  obtain ⟨P, Q, hC, hM, hT⟩ := v_m_latest h (k_x X (k0 + 1)) (k_x X (k0 + 2))
  refine k_X F dL_law_676 ?_
  refine k_arg F hk 1 (by decide) (by decide) dL_law_677 dL_law_678 dL_law_679 dL_law_680 dL_law_681 ?_
  refine k_arg F hk 2 (by decide) (by decide) dL_law_682 dL_law_683 dL_law_684 dL_law_685 dL_law_686 ?_
  refine k_callX (as := [.int (k_x X (k0 + 1)), .int (k_x X (k0 + 2))]) (st := []) F (fun _ => rfl) rfl kL_81 hC (by decide) (Nat.le_of_ble_eq_true rfl) dL_law_687 (fun r D2 p => ?_)
  refine k_M F dL_law_690 ?_
  refine k_arg F hk 1 (by decide) (by decide) dL_law_691 dL_law_692 dL_law_693 dL_law_694 dL_law_695 ?_
  refine k_arg F hk 2 (by decide) (by decide) dL_law_696 dL_law_697 dL_law_698 dL_law_699 dL_law_700 ?_
  refine k_callM (as := [.int (k_x X (k0 + 1)), .int (k_x X (k0 + 2))]) (st := [.int r]) F (fun _ => rfl) rfl kL_84 hM (by decide) (Nat.le_of_ble_eq_true rfl) dL_law_701 (fun r2 E2 q => ?_)
  obtain ⟨e, h2⟩ := hT _ _ _ _ p q
  exact k_same F e dL_law_704 (by decide) (N _ _ h2)
theorem k_a17 (F : k_F X) (hk : k0 + 6 ≤ k_L X) (h : v_Inv D E) (N : ∀ D2 E2, v_Inv D2 E2 → k_J X 1568 (nI k0) [] D2 E2) : k_J X 33 (nI k0) [.int (nI 17)] D E := by
  refine k_sw F (by decide) (off := 676) (tgt := 709) rfl (by decide) ?_
  obtain ⟨P, Q, hC, hM, hT⟩ := v_m_carry h (k_x X (k0 + 1))
  refine k_X F dL_law_709 ?_
  refine k_arg F hk 1 (by decide) (by decide) dL_law_710 dL_law_711 dL_law_712 dL_law_713 dL_law_714 ?_
  refine k_callX (as := [.int (k_x X (k0 + 1))]) (st := []) F (fun _ => rfl) rfl kL_85 hC (by decide) (Nat.le_of_ble_eq_true rfl) dL_law_715 (fun r D2 p => ?_)
  refine k_M F dL_law_718 ?_
  refine k_arg F hk 1 (by decide) (by decide) dL_law_719 dL_law_720 dL_law_721 dL_law_722 dL_law_723 ?_
  refine k_callM (as := [.int (k_x X (k0 + 1))]) (st := [.int r]) F (fun _ => rfl) rfl kL_88 hM (by decide) (Nat.le_of_ble_eq_true rfl) dL_law_724 (fun r2 E2 q => ?_)
  obtain ⟨e, h2⟩ := hT _ _ _ _ p q
  exact k_same F e dL_law_727 (by decide) (N _ _ h2)
theorem k_a18 (F : k_F X) (hk : k0 + 6 ≤ k_L X) (h : v_Inv D E) (N : ∀ D2 E2, v_Inv D2 E2 → k_J X 1568 (nI k0) [] D2 E2) : k_J X 33 (nI k0) [.int (nI 18)] D E := by
  refine k_sw F (by decide) (off := 699) (tgt := 732) rfl (by decide) ?_
  obtain ⟨P, Q, hC, hM, hT⟩ := v_m_carried h (k_x X (k0 + 1))
  refine k_X F dL_law_732 ?_
  refine k_arg F hk 1 (by decide) (by decide) dL_law_733 dL_law_734 dL_law_735 dL_law_736 dL_law_737 ?_
  refine k_callX (as := [.int (k_x X (k0 + 1))]) (st := []) F (fun _ => rfl) rfl kL_89 hC (by decide) (Nat.le_of_ble_eq_true rfl) dL_law_738 (fun r D2 p => ?_)
  refine k_M F dL_law_741 ?_
  refine k_arg F hk 1 (by decide) (by decide) dL_law_742 dL_law_743 dL_law_744 dL_law_745 dL_law_746 ?_
  refine k_callM (as := [.int (k_x X (k0 + 1))]) (st := [.int r]) F (fun _ => rfl) rfl kL_92 hM (by decide) (Nat.le_of_ble_eq_true rfl) dL_law_747 (fun r2 E2 q => ?_)
  obtain ⟨e, h2⟩ := hT _ _ _ _ p q
  exact k_same F e dL_law_750 (by decide) (N _ _ h2)
theorem k_a19 (F : k_F X) (hk : k0 + 6 ≤ k_L X) (h : v_Inv D E) (N : ∀ D2 E2, v_Inv D2 E2 → k_J X 1568 (nI k0) [] D2 E2) : k_J X 33 (nI k0) [.int (nI 19)] D E := by
  refine k_sw F (by decide) (off := 722) (tgt := 755) rfl (by decide) ?_
  obtain ⟨P, Q, hC, hM, hT⟩ := v_m_kindFor h (k_x X (k0 + 1))
  refine k_X F dL_law_755 ?_
  refine k_arg F hk 1 (by decide) (by decide) dL_law_756 dL_law_757 dL_law_758 dL_law_759 dL_law_760 ?_
  refine k_callX (as := [.int (k_x X (k0 + 1))]) (st := []) F (fun _ => rfl) rfl kL_93 hC (by decide) (Nat.le_of_ble_eq_true rfl) dL_law_761 (fun r D2 p => ?_)
  refine k_M F dL_law_764 ?_
  refine k_arg F hk 1 (by decide) (by decide) dL_law_765 dL_law_766 dL_law_767 dL_law_768 dL_law_769 ?_
  refine k_callM (as := [.int (k_x X (k0 + 1))]) (st := [.int r]) F (fun _ => rfl) rfl kL_96 hM (by decide) (Nat.le_of_ble_eq_true rfl) dL_law_770 (fun r2 E2 q => ?_)
  obtain ⟨e, h2⟩ := hT _ _ _ _ p q
  exact k_same F e dL_law_773 (by decide) (N _ _ h2)
theorem k_a20 (F : k_F X) (hk : k0 + 6 ≤ k_L X) (h : v_Inv D E) (N : ∀ D2 E2, v_Inv D2 E2 → k_J X 1568 (nI k0) [] D2 E2) : k_J X 33 (nI k0) [.int (nI 20)] D E := by
  refine k_sw F (by decide) (off := 745) (tgt := 778) rfl (by decide) ?_
  obtain ⟨P, Q, hC, hM, hT⟩ := v_m_worst h (k_x X (k0 + 1))
  refine k_X F dL_law_778 ?_
  refine k_arg F hk 1 (by decide) (by decide) dL_law_779 dL_law_780 dL_law_781 dL_law_782 dL_law_783 ?_
  refine k_callX (as := [.int (k_x X (k0 + 1))]) (st := []) F (fun _ => rfl) rfl kL_97 hC (by decide) (Nat.le_of_ble_eq_true rfl) dL_law_784 (fun r D2 p => ?_)
  refine k_M F dL_law_787 ?_
  refine k_arg F hk 1 (by decide) (by decide) dL_law_788 dL_law_789 dL_law_790 dL_law_791 dL_law_792 ?_
  refine k_callM (as := [.int (k_x X (k0 + 1))]) (st := [.int r]) F (fun _ => rfl) rfl kL_100 hM (by decide) (Nat.le_of_ble_eq_true rfl) dL_law_793 (fun r2 E2 q => ?_)
  obtain ⟨e, h2⟩ := hT _ _ _ _ p q
  exact k_same F e dL_law_796 (by decide) (N _ _ h2)
theorem k_a21 (F : k_F X) (hk : k0 + 6 ≤ k_L X) (h : v_Inv D E) (N : ∀ D2 E2, v_Inv D2 E2 → k_J X 1568 (nI k0) [] D2 E2) : k_J X 33 (nI k0) [.int (nI 21)] D E := by
  refine k_sw F (by decide) (off := 768) (tgt := 801) rfl (by decide) ?_
  obtain ⟨P, Q, hC, hM, hT⟩ := v_m_hem h (k_x X (k0 + 1))
  refine k_X F dL_law_801 ?_
  refine k_arg F hk 1 (by decide) (by decide) dL_law_802 dL_law_803 dL_law_804 dL_law_805 dL_law_806 ?_
  refine k_callX (as := [.int (k_x X (k0 + 1))]) (st := []) F (fun _ => rfl) rfl kL_101 hC (by decide) (Nat.le_of_ble_eq_true rfl) dL_law_807 (fun r D2 p => ?_)
  refine k_M F dL_law_810 ?_
  refine k_arg F hk 1 (by decide) (by decide) dL_law_811 dL_law_812 dL_law_813 dL_law_814 dL_law_815 ?_
  refine k_callM (as := [.int (k_x X (k0 + 1))]) (st := [.int r]) F (fun _ => rfl) rfl kL_104 hM (by decide) (Nat.le_of_ble_eq_true rfl) dL_law_816 (fun r2 E2 q => ?_)
  obtain ⟨e, h2⟩ := hT _ _ _ _ p q
  exact k_same F e dL_law_819 (by decide) (N _ _ h2)
theorem k_a22 (F : k_F X) (hk : k0 + 6 ≤ k_L X) (h : v_Inv D E) (N : ∀ D2 E2, v_Inv D2 E2 → k_J X 1568 (nI k0) [] D2 E2) : k_J X 33 (nI k0) [.int (nI 22)] D E := by
  refine k_sw F (by decide) (off := 791) (tgt := 824) rfl (by decide) ?_
  obtain ⟨P, Q, hC, hM, hT⟩ := v_m_pay h (k_x X (k0 + 1))
  refine k_X F dL_law_824 ?_
  refine k_arg F hk 1 (by decide) (by decide) dL_law_825 dL_law_826 dL_law_827 dL_law_828 dL_law_829 ?_
  refine k_callX (as := [.int (k_x X (k0 + 1))]) (st := []) F (fun _ => rfl) rfl kL_105 hC (by decide) (Nat.le_of_ble_eq_true rfl) dL_law_830 (fun r D2 p => ?_)
  refine k_M F dL_law_833 ?_
  refine k_arg F hk 1 (by decide) (by decide) dL_law_834 dL_law_835 dL_law_836 dL_law_837 dL_law_838 ?_
  refine k_callM (as := [.int (k_x X (k0 + 1))]) (st := [.int r]) F (fun _ => rfl) rfl kL_108 hM (by decide) (Nat.le_of_ble_eq_true rfl) dL_law_839 (fun r2 E2 q => ?_)
  obtain ⟨e, h2⟩ := hT _ _ _ _ p q
  exact k_same F e dL_law_842 (by decide) (N _ _ h2)
theorem k_a23 (F : k_F X) (hk : k0 + 6 ≤ k_L X) (h : v_Inv D E) (N : ∀ D2 E2, v_Inv D2 E2 → k_J X 1568 (nI k0) [] D2 E2) : k_J X 33 (nI k0) [.int (nI 23)] D E := by
  refine k_sw F (by decide) (off := 814) (tgt := 847) rfl (by decide) ?_
  obtain ⟨P, Q, hC, hM, hT⟩ := v_m_small h (k_x X (k0 + 1))
  refine k_X F dL_law_847 ?_
  refine k_arg F hk 1 (by decide) (by decide) dL_law_848 dL_law_849 dL_law_850 dL_law_851 dL_law_852 ?_
  refine k_callX (as := [.int (k_x X (k0 + 1))]) (st := []) F (fun _ => rfl) rfl kL_109 hC (by decide) (Nat.le_of_ble_eq_true rfl) dL_law_853 (fun r D2 p => ?_)
  refine k_M F dL_law_856 ?_
  refine k_arg F hk 1 (by decide) (by decide) dL_law_857 dL_law_858 dL_law_859 dL_law_860 dL_law_861 ?_
  refine k_callM (as := [.int (k_x X (k0 + 1))]) (st := [.int r]) F (fun _ => rfl) rfl kL_112 hM (by decide) (Nat.le_of_ble_eq_true rfl) dL_law_862 (fun r2 E2 q => ?_)
  obtain ⟨e, h2⟩ := hT _ _ _ _ p q
  exact k_same F e dL_law_865 (by decide) (N _ _ h2)
theorem k_a24 (F : k_F X) (hk : k0 + 6 ≤ k_L X) (h : v_Inv D E) (N : ∀ D2 E2, v_Inv D2 E2 → k_J X 1568 (nI k0) [] D2 E2) : k_J X 33 (nI k0) [.int (nI 24)] D E := by
  refine k_sw F (by decide) (off := 837) (tgt := 870) rfl (by decide) ?_
  obtain ⟨P, Q, hC, hM, hT⟩ := v_m_paid h (k_x X (k0 + 1))
  refine k_X F dL_law_870 ?_
  refine k_arg F hk 1 (by decide) (by decide) dL_law_871 dL_law_872 dL_law_873 dL_law_874 dL_law_875 ?_
  refine k_callX (as := [.int (k_x X (k0 + 1))]) (st := []) F (fun _ => rfl) rfl kL_113 hC (by decide) (Nat.le_of_ble_eq_true rfl) dL_law_876 (fun r D2 p => ?_)
  refine k_M F dL_law_879 ?_
  refine k_arg F hk 1 (by decide) (by decide) dL_law_880 dL_law_881 dL_law_882 dL_law_883 dL_law_884 ?_
  refine k_callM (as := [.int (k_x X (k0 + 1))]) (st := [.int r]) F (fun _ => rfl) rfl kL_116 hM (by decide) (Nat.le_of_ble_eq_true rfl) dL_law_885 (fun r2 E2 q => ?_)
  obtain ⟨e, h2⟩ := hT _ _ _ _ p q
  exact k_same F e dL_law_888 (by decide) (N _ _ h2)
theorem k_a25 (F : k_F X) (hk : k0 + 6 ≤ k_L X) (h : v_Inv D E) (N : ∀ D2 E2, v_Inv D2 E2 → k_J X 1568 (nI k0) [] D2 E2) : k_J X 33 (nI k0) [.int (nI 25)] D E := by
  refine k_sw F (by decide) (off := 860) (tgt := 893) rfl (by decide) ?_
  obtain ⟨P, Q, hC, hM, hT⟩ := v_m_sums h
  refine k_X F dL_law_893 ?_
  refine k_callX (as := []) (st := []) F (fun _ => rfl) rfl kL_117 hC (by decide) (Nat.le_of_ble_eq_true rfl) dL_law_894 (fun r D2 p => ?_)
  refine k_M F dL_law_897 ?_
  refine k_callM (as := []) (st := [.int r]) F (fun _ => rfl) rfl kL_120 hM (by decide) (Nat.le_of_ble_eq_true rfl) dL_law_898 (fun r2 E2 q => ?_)
  obtain ⟨e, h2⟩ := hT _ _ _ _ p q
  exact k_same F e dL_law_901 (by decide) (N _ _ h2)
theorem k_a26 (F : k_F X) (hk : k0 + 6 ≤ k_L X) (h : v_Inv D E) (N : ∀ D2 E2, v_Inv D2 E2 → k_J X 1568 (nI k0) [] D2 E2) : k_J X 33 (nI k0) [.int (nI 26)] D E := by
  refine k_sw F (by decide) (off := 873) (tgt := 906) rfl (by decide) ?_
  obtain ⟨P, Q, hC, hM, hT⟩ := v_m_fits h (k_x X (k0 + 1)) (k_x X (k0 + 2))
  refine k_X F dL_law_906 ?_
  refine k_arg F hk 1 (by decide) (by decide) dL_law_907 dL_law_908 dL_law_909 dL_law_910 dL_law_911 ?_
  refine k_arg F hk 2 (by decide) (by decide) dL_law_912 dL_law_913 dL_law_914 dL_law_915 dL_law_916 ?_
  refine k_callX (as := [.int (k_x X (k0 + 1)), .int (k_x X (k0 + 2))]) (st := []) F (fun _ => rfl) rfl kL_121 hC (by decide) (Nat.le_of_ble_eq_true rfl) dL_law_917 (fun r D2 p => ?_)
  refine k_M F dL_law_920 ?_
  refine k_arg F hk 1 (by decide) (by decide) dL_law_921 dL_law_922 dL_law_923 dL_law_924 dL_law_925 ?_
  refine k_arg F hk 2 (by decide) (by decide) dL_law_926 dL_law_927 dL_law_928 dL_law_929 dL_law_930 ?_
  refine k_callM (as := [.int (k_x X (k0 + 1)), .int (k_x X (k0 + 2))]) (st := [.int r]) F (fun _ => rfl) rfl kL_124 hM (by decide) (Nat.le_of_ble_eq_true rfl) dL_law_931 (fun r2 E2 q => ?_)
  obtain ⟨e, h2⟩ := hT _ _ _ _ p q
  exact k_same F e dL_law_934 (by decide) (N _ _ h2)
theorem k_a27 (F : k_F X) (hk : k0 + 6 ≤ k_L X) (h : v_Inv D E) (N : ∀ D2 E2, v_Inv D2 E2 → k_J X 1568 (nI k0) [] D2 E2) : k_J X 33 (nI k0) [.int (nI 27)] D E := by
  refine k_sw F (by decide) (off := 906) (tgt := 939) rfl (by decide) ?_
  obtain ⟨P, Q, hC, hM, hT⟩ := v_m_size h (k_x X (k0 + 1)) (k_x X (k0 + 2))
  refine k_X F dL_law_939 ?_
  refine k_arg F hk 1 (by decide) (by decide) dL_law_940 dL_law_941 dL_law_942 dL_law_943 dL_law_944 ?_
  refine k_arg F hk 2 (by decide) (by decide) dL_law_945 dL_law_946 dL_law_947 dL_law_948 dL_law_949 ?_
  refine k_callX (as := [.int (k_x X (k0 + 1)), .int (k_x X (k0 + 2))]) (st := []) F (fun _ => rfl) rfl kL_125 hC (by decide) (Nat.le_of_ble_eq_true rfl) dL_law_950 (fun r D2 p => ?_)
  refine k_M F dL_law_953 ?_
  refine k_arg F hk 1 (by decide) (by decide) dL_law_954 dL_law_955 dL_law_956 dL_law_957 dL_law_958 ?_
  refine k_arg F hk 2 (by decide) (by decide) dL_law_959 dL_law_960 dL_law_961 dL_law_962 dL_law_963 ?_
  refine k_callM (as := [.int (k_x X (k0 + 1)), .int (k_x X (k0 + 2))]) (st := [.int r]) F (fun _ => rfl) rfl kL_128 hM (by decide) (Nat.le_of_ble_eq_true rfl) dL_law_964 (fun r2 E2 q => ?_)
  obtain ⟨e, h2⟩ := hT _ _ _ _ p q
  exact k_same F e dL_law_967 (by decide) (N _ _ h2)
theorem k_a28 (F : k_F X) (hk : k0 + 6 ≤ k_L X) (h : v_Inv D E) (N : ∀ D2 E2, v_Inv D2 E2 → k_J X 1568 (nI k0) [] D2 E2) : k_J X 33 (nI k0) [.int (nI 28)] D E := by
  refine k_sw F (by decide) (off := 939) (tgt := 972) rfl (by decide) ?_
  obtain ⟨P, Q, hC, hM, hT⟩ := v_m_began h (k_x X (k0 + 1))
  refine k_X F dL_law_972 ?_
  refine k_arg F hk 1 (by decide) (by decide) dL_law_973 dL_law_974 dL_law_975 dL_law_976 dL_law_977 ?_
  refine k_callX (as := [.int (k_x X (k0 + 1))]) (st := []) F (fun _ => rfl) rfl kL_129 hC (by decide) (Nat.le_of_ble_eq_true rfl) dL_law_978 (fun r D2 p => ?_)
  refine k_M F dL_law_981 ?_
  refine k_arg F hk 1 (by decide) (by decide) dL_law_982 dL_law_983 dL_law_984 dL_law_985 dL_law_986 ?_
  refine k_callM (as := [.int (k_x X (k0 + 1))]) (st := [.int r]) F (fun _ => rfl) rfl kL_132 hM (by decide) (Nat.le_of_ble_eq_true rfl) dL_law_987 (fun r2 E2 q => ?_)
  obtain ⟨e, h2⟩ := hT _ _ _ _ p q
  exact k_same F e dL_law_990 (by decide) (N _ _ h2)
theorem k_a29 (F : k_F X) (hk : k0 + 6 ≤ k_L X) (h : v_Inv D E) (N : ∀ D2 E2, v_Inv D2 E2 → k_J X 1568 (nI k0) [] D2 E2) : k_J X 33 (nI k0) [.int (nI 29)] D E := by
  refine k_sw F (by decide) (off := 962) (tgt := 995) rfl (by decide) ?_
  obtain ⟨P, Q, hC, hM, hT⟩ := v_m_boy h (k_x X (k0 + 1)) (k_x X (k0 + 2))
  refine k_X F dL_law_995 ?_
  refine k_arg F hk 1 (by decide) (by decide) dL_law_996 dL_law_997 dL_law_998 dL_law_999 dL_law_1000 ?_
  refine k_arg F hk 2 (by decide) (by decide) dL_law_1001 dL_law_1002 dL_law_1003 dL_law_1004 dL_law_1005 ?_
  refine k_callX (as := [.int (k_x X (k0 + 1)), .int (k_x X (k0 + 2))]) (st := []) F (fun _ => rfl) rfl kL_133 hC (by decide) (Nat.le_of_ble_eq_true rfl) dL_law_1006 (fun r D2 p => ?_)
  refine k_M F dL_law_1009 ?_
  refine k_arg F hk 1 (by decide) (by decide) dL_law_1010 dL_law_1011 dL_law_1012 dL_law_1013 dL_law_1014 ?_
  refine k_arg F hk 2 (by decide) (by decide) dL_law_1015 dL_law_1016 dL_law_1017 dL_law_1018 dL_law_1019 ?_
  refine k_callM (as := [.int (k_x X (k0 + 1)), .int (k_x X (k0 + 2))]) (st := [.int r]) F (fun _ => rfl) rfl kL_136 hM (by decide) (Nat.le_of_ble_eq_true rfl) dL_law_1020 (fun r2 E2 q => ?_)
  obtain ⟨e, h2⟩ := hT _ _ _ _ p q
  exact k_same F e dL_law_1023 (by decide) (N _ _ h2)
theorem k_a30 (F : k_F X) (hk : k0 + 6 ≤ k_L X) (h : v_Inv D E) (N : ∀ D2 E2, v_Inv D2 E2 → k_J X 1568 (nI k0) [] D2 E2) : k_J X 33 (nI k0) [.int (nI 30)] D E := by
  refine k_sw F (by decide) (off := 995) (tgt := 1028) rfl (by decide) ?_
  obtain ⟨P, Q, hC, hM, hT⟩ := v_m_lining h (k_x X (k0 + 1))
  refine k_X F dL_law_1028 ?_
  refine k_arg F hk 1 (by decide) (by decide) dL_law_1029 dL_law_1030 dL_law_1031 dL_law_1032 dL_law_1033 ?_
  refine k_callX (as := [.int (k_x X (k0 + 1))]) (st := []) F (fun _ => rfl) rfl kL_137 hC (by decide) (Nat.le_of_ble_eq_true rfl) dL_law_1034 (fun r D2 p => ?_)
  refine k_M F dL_law_1037 ?_
  refine k_arg F hk 1 (by decide) (by decide) dL_law_1038 dL_law_1039 dL_law_1040 dL_law_1041 dL_law_1042 ?_
  refine k_callM (as := [.int (k_x X (k0 + 1))]) (st := [.int r]) F (fun _ => rfl) rfl kL_140 hM (by decide) (Nat.le_of_ble_eq_true rfl) dL_law_1043 (fun r2 E2 q => ?_)
  obtain ⟨e, h2⟩ := hT _ _ _ _ p q
  exact k_same F e dL_law_1046 (by decide) (N _ _ h2)
theorem k_a31 (F : k_F X) (hk : k0 + 6 ≤ k_L X) (h : v_Inv D E) (N : ∀ D2 E2, v_Inv D2 E2 → k_J X 1568 (nI k0) [] D2 E2) : k_J X 33 (nI k0) [.int (nI 31)] D E := by
  refine k_sw F (by decide) (off := 1018) (tgt := 1051) rfl (by decide) ?_
  obtain ⟨P, Q, hC, hM, hT⟩ := v_m_back h (k_x X (k0 + 1)) (k_x X (k0 + 2))
  refine k_X F dL_law_1051 ?_
  refine k_arg F hk 1 (by decide) (by decide) dL_law_1052 dL_law_1053 dL_law_1054 dL_law_1055 dL_law_1056 ?_
  refine k_arg F hk 2 (by decide) (by decide) dL_law_1057 dL_law_1058 dL_law_1059 dL_law_1060 dL_law_1061 ?_
  refine k_callX (as := [.int (k_x X (k0 + 1)), .int (k_x X (k0 + 2))]) (st := []) F (fun _ => rfl) rfl kL_141 hC (by decide) (Nat.le_of_ble_eq_true rfl) dL_law_1062 (fun r D2 p => ?_)
  refine k_M F dL_law_1065 ?_
  refine k_arg F hk 1 (by decide) (by decide) dL_law_1066 dL_law_1067 dL_law_1068 dL_law_1069 dL_law_1070 ?_
  refine k_arg F hk 2 (by decide) (by decide) dL_law_1071 dL_law_1072 dL_law_1073 dL_law_1074 dL_law_1075 ?_
  refine k_callM (as := [.int (k_x X (k0 + 1)), .int (k_x X (k0 + 2))]) (st := [.int r]) F (fun _ => rfl) rfl kL_144 hM (by decide) (Nat.le_of_ble_eq_true rfl) dL_law_1076 (fun r2 E2 q => ?_)
  obtain ⟨e, h2⟩ := hT _ _ _ _ p q
  exact k_same F e dL_law_1079 (by decide) (N _ _ h2)
theorem k_a32 (F : k_F X) (hk : k0 + 6 ≤ k_L X) (h : v_Inv D E) (N : ∀ D2 E2, v_Inv D2 E2 → k_J X 1568 (nI k0) [] D2 E2) : k_J X 33 (nI k0) [.int (nI 32)] D E := by
  refine k_sw F (by decide) (off := 1051) (tgt := 1084) rfl (by decide) ?_
  obtain ⟨P, Q, hC, hM, hT⟩ := v_m_richest h (k_x X (k0 + 1))
  refine k_X F dL_law_1084 ?_
  refine k_arg F hk 1 (by decide) (by decide) dL_law_1085 dL_law_1086 dL_law_1087 dL_law_1088 dL_law_1089 ?_
  refine k_callX (as := [.int (k_x X (k0 + 1))]) (st := []) F (fun _ => rfl) rfl kL_145 hC (by decide) (Nat.le_of_ble_eq_true rfl) dL_law_1090 (fun r D2 p => ?_)
  refine k_M F dL_law_1093 ?_
  refine k_arg F hk 1 (by decide) (by decide) dL_law_1094 dL_law_1095 dL_law_1096 dL_law_1097 dL_law_1098 ?_
  refine k_callM (as := [.int (k_x X (k0 + 1))]) (st := [.int r]) F (fun _ => rfl) rfl kL_148 hM (by decide) (Nat.le_of_ble_eq_true rfl) dL_law_1099 (fun r2 E2 q => ?_)
  obtain ⟨e, h2⟩ := hT _ _ _ _ p q
  exact k_same F e dL_law_1102 (by decide) (N _ _ h2)
theorem k_a33 (F : k_F X) (hk : k0 + 6 ≤ k_L X) (h : v_Inv D E) (N : ∀ D2 E2, v_Inv D2 E2 → k_J X 1568 (nI k0) [] D2 E2) : k_J X 33 (nI k0) [.int (nI 33)] D E := by
  refine k_sw F (by decide) (off := 1074) (tgt := 1107) rfl (by decide) ?_
  obtain ⟨P, Q, hC, hM, hT⟩ := v_m_days h (k_x X (k0 + 1))
  refine k_X F dL_law_1107 ?_
  refine k_arg F hk 1 (by decide) (by decide) dL_law_1108 dL_law_1109 dL_law_1110 dL_law_1111 dL_law_1112 ?_
  refine k_callX (as := [.int (k_x X (k0 + 1))]) (st := []) F (fun _ => rfl) rfl kL_149 hC (by decide) (Nat.le_of_ble_eq_true rfl) dL_law_1113 (fun r D2 p => ?_)
  refine k_M F dL_law_1116 ?_
  refine k_arg F hk 1 (by decide) (by decide) dL_law_1117 dL_law_1118 dL_law_1119 dL_law_1120 dL_law_1121 ?_
  refine k_callM (as := [.int (k_x X (k0 + 1))]) (st := [.int r]) F (fun _ => rfl) rfl kL_152 hM (by decide) (Nat.le_of_ble_eq_true rfl) dL_law_1122 (fun r2 E2 q => ?_)
  obtain ⟨e, h2⟩ := hT _ _ _ _ p q
  exact k_same F e dL_law_1125 (by decide) (N _ _ h2)
theorem k_a34 (F : k_F X) (hk : k0 + 6 ≤ k_L X) (h : v_Inv D E) (N : ∀ D2 E2, v_Inv D2 E2 → k_J X 1568 (nI k0) [] D2 E2) : k_J X 33 (nI k0) [.int (nI 34)] D E := by
  refine k_sw F (by decide) (off := 1097) (tgt := 1130) rfl (by decide) ?_
  obtain ⟨P, Q, hC, hM, hT⟩ := v_m_seed h (k_x X (k0 + 1))
  refine k_X F dL_law_1130 ?_
  refine k_arg F hk 1 (by decide) (by decide) dL_law_1131 dL_law_1132 dL_law_1133 dL_law_1134 dL_law_1135 ?_
  refine k_callX (as := [.int (k_x X (k0 + 1))]) (st := []) F (fun _ => rfl) rfl kL_153 hC (by decide) (Nat.le_of_ble_eq_true rfl) dL_law_1136 (fun r D2 p => ?_)
  refine k_M F dL_law_1139 ?_
  refine k_arg F hk 1 (by decide) (by decide) dL_law_1140 dL_law_1141 dL_law_1142 dL_law_1143 dL_law_1144 ?_
  refine k_callM (as := [.int (k_x X (k0 + 1))]) (st := [.int r]) F (fun _ => rfl) rfl kL_156 hM (by decide) (Nat.le_of_ble_eq_true rfl) dL_law_1145 (fun r2 E2 q => ?_)
  obtain ⟨e, h2⟩ := hT _ _ _ _ p q
  exact k_same F e dL_law_1148 (by decide) (N _ _ h2)
theorem k_a35 (F : k_F X) (hk : k0 + 6 ≤ k_L X) (h : v_Inv D E) (N : ∀ D2 E2, v_Inv D2 E2 → k_J X 1568 (nI k0) [] D2 E2) : k_J X 33 (nI k0) [.int (nI 35)] D E := by
  refine k_sw F (by decide) (off := 1120) (tgt := 1153) rfl (by decide) ?_
  obtain ⟨P, Q, hC, hM, hT⟩ := v_m_feed h (k_x X (k0 + 1)) (k_x X (k0 + 2))
  refine k_X F dL_law_1153 ?_
  refine k_arg F hk 1 (by decide) (by decide) dL_law_1154 dL_law_1155 dL_law_1156 dL_law_1157 dL_law_1158 ?_
  refine k_arg F hk 2 (by decide) (by decide) dL_law_1159 dL_law_1160 dL_law_1161 dL_law_1162 dL_law_1163 ?_
  refine k_callX (as := [.int (k_x X (k0 + 1)), .int (k_x X (k0 + 2))]) (st := []) F (fun _ => rfl) rfl kL_157 hC (by decide) (Nat.le_of_ble_eq_true rfl) dL_law_1164 (fun r D2 p => ?_)
  refine k_M F dL_law_1167 ?_
  refine k_arg F hk 1 (by decide) (by decide) dL_law_1168 dL_law_1169 dL_law_1170 dL_law_1171 dL_law_1172 ?_
  refine k_arg F hk 2 (by decide) (by decide) dL_law_1173 dL_law_1174 dL_law_1175 dL_law_1176 dL_law_1177 ?_
  refine k_callM (as := [.int (k_x X (k0 + 1)), .int (k_x X (k0 + 2))]) (st := [.int r]) F (fun _ => rfl) rfl kL_160 hM (by decide) (Nat.le_of_ble_eq_true rfl) dL_law_1178 (fun r2 E2 q => ?_)
  obtain ⟨e, h2⟩ := hT _ _ _ _ p q
  exact k_same F e dL_law_1181 (by decide) (N _ _ h2)
theorem k_a36 (F : k_F X) (hk : k0 + 6 ≤ k_L X) (h : v_Inv D E) (N : ∀ D2 E2, v_Inv D2 E2 → k_J X 1568 (nI k0) [] D2 E2) : k_J X 33 (nI k0) [.int (nI 36)] D E := by
  refine k_sw F (by decide) (off := 1153) (tgt := 1186) rfl (by decide) ?_
  obtain ⟨P, Q, hC, hM, hT⟩ := v_m_wipe h
  refine k_X F dL_law_1186 ?_
  refine k_callX (as := []) (st := []) F (fun _ => rfl) rfl kL_161 hC (by decide) (Nat.le_of_ble_eq_true rfl) dL_law_1187 (fun r D2 p => ?_)
  refine k_M F dL_law_1190 ?_
  refine k_callM (as := []) (st := [.int r]) F (fun _ => rfl) rfl kL_164 hM (by decide) (Nat.le_of_ble_eq_true rfl) dL_law_1191 (fun r2 E2 q => ?_)
  obtain ⟨e, h2⟩ := hT _ _ _ _ p q
  exact k_same F e dL_law_1194 (by decide) (N _ _ h2)
theorem k_a37 (F : k_F X) (hk : k0 + 6 ≤ k_L X) (h : v_Inv D E) (N : ∀ D2 E2, v_Inv D2 E2 → k_J X 1568 (nI k0) [] D2 E2) : k_J X 33 (nI k0) [.int (nI 37)] D E := by
  refine k_sw F (by decide) (off := 1166) (tgt := 1199) rfl (by decide) ?_
  obtain ⟨P, Q, hC, hM, hT⟩ := v_m_text h
  refine k_X F dL_law_1199 ?_
  refine k_callX (as := []) (st := []) F (fun _ => rfl) rfl kL_165 hC (by decide) (Nat.le_of_ble_eq_true rfl) dL_law_1200 (fun r D2 p => ?_)
  refine k_M F dL_law_1203 ?_
  refine k_callM (as := []) (st := [.int r]) F (fun _ => rfl) rfl kL_168 hM (by decide) (Nat.le_of_ble_eq_true rfl) dL_law_1204 (fun r2 E2 q => ?_)
  obtain ⟨e, h2⟩ := hT _ _ _ _ p q
  exact k_same F e dL_law_1207 (by decide) (N _ _ h2)
theorem k_a38 (F : k_F X) (hk : k0 + 6 ≤ k_L X) (h : v_Inv D E) (N : ∀ D2 E2, v_Inv D2 E2 → k_J X 1568 (nI k0) [] D2 E2) : k_J X 33 (nI k0) [.int (nI 38)] D E := by
  refine k_sw F (by decide) (off := 1179) (tgt := 1212) rfl (by decide) ?_
  obtain ⟨P, Q, hC, hM, hT⟩ := v_m_hold h (k_x X (k0 + 1)) (k_x X (k0 + 2))
  refine k_X F dL_law_1212 ?_
  refine k_arg F hk 1 (by decide) (by decide) dL_law_1213 dL_law_1214 dL_law_1215 dL_law_1216 dL_law_1217 ?_
  refine k_arg F hk 2 (by decide) (by decide) dL_law_1218 dL_law_1219 dL_law_1220 dL_law_1221 dL_law_1222 ?_
  refine k_callX (as := [.int (k_x X (k0 + 1)), .int (k_x X (k0 + 2))]) (st := []) F (fun _ => rfl) rfl kL_169 hC (by decide) (Nat.le_of_ble_eq_true rfl) dL_law_1223 (fun r D2 p => ?_)
  refine k_M F dL_law_1226 ?_
  refine k_arg F hk 1 (by decide) (by decide) dL_law_1227 dL_law_1228 dL_law_1229 dL_law_1230 dL_law_1231 ?_
  refine k_arg F hk 2 (by decide) (by decide) dL_law_1232 dL_law_1233 dL_law_1234 dL_law_1235 dL_law_1236 ?_
  refine k_callM (as := [.int (k_x X (k0 + 1)), .int (k_x X (k0 + 2))]) (st := [.int r]) F (fun _ => rfl) rfl kL_172 hM (by decide) (Nat.le_of_ble_eq_true rfl) dL_law_1237 (fun r2 E2 q => ?_)
  obtain ⟨e, h2⟩ := hT _ _ _ _ p q
  exact k_same F e dL_law_1240 (by decide) (N _ _ h2)
theorem k_a39 (F : k_F X) (hk : k0 + 6 ≤ k_L X) (h : v_Inv D E) (N : ∀ D2 E2, v_Inv D2 E2 → k_J X 1568 (nI k0) [] D2 E2) : k_J X 33 (nI k0) [.int (nI 39)] D E := by
  refine k_sw F (by decide) (off := 1212) (tgt := 1245) rfl (by decide) ?_
  obtain ⟨P, Q, hC, hM, hT⟩ := v_m_as h (k_x X (k0 + 1)) (k_x X (k0 + 2))
  refine k_X F dL_law_1245 ?_
  refine k_arg F hk 1 (by decide) (by decide) dL_law_1246 dL_law_1247 dL_law_1248 dL_law_1249 dL_law_1250 ?_
  refine k_arg F hk 2 (by decide) (by decide) dL_law_1251 dL_law_1252 dL_law_1253 dL_law_1254 dL_law_1255 ?_
  refine k_callX (as := [.int (k_x X (k0 + 1)), .int (k_x X (k0 + 2))]) (st := []) F (fun _ => rfl) rfl kL_173 hC (by decide) (Nat.le_of_ble_eq_true rfl) dL_law_1256 (fun r D2 p => ?_)
  refine k_M F dL_law_1259 ?_
  refine k_arg F hk 1 (by decide) (by decide) dL_law_1260 dL_law_1261 dL_law_1262 dL_law_1263 dL_law_1264 ?_
  refine k_arg F hk 2 (by decide) (by decide) dL_law_1265 dL_law_1266 dL_law_1267 dL_law_1268 dL_law_1269 ?_
  refine k_callM (as := [.int (k_x X (k0 + 1)), .int (k_x X (k0 + 2))]) (st := [.int r]) F (fun _ => rfl) rfl kL_176 hM (by decide) (Nat.le_of_ble_eq_true rfl) dL_law_1270 (fun r2 E2 q => ?_)
  obtain ⟨e, h2⟩ := hT _ _ _ _ p q
  exact k_same F e dL_law_1273 (by decide) (N _ _ h2)
theorem k_a40 (F : k_F X) (hk : k0 + 6 ≤ k_L X) (h : v_Inv D E) (N : ∀ D2 E2, v_Inv D2 E2 → k_J X 1568 (nI k0) [] D2 E2) : k_J X 33 (nI k0) [.int (nI 40)] D E := by
  refine k_sw F (by decide) (off := 1245) (tgt := 1278) rfl (by decide) ?_
  obtain ⟨P, Q, hC, hM, hT⟩ := v_m_sheet h (k_x X (k0 + 1)) (k_x X (k0 + 2)) (k_x X (k0 + 3))
  refine k_X F dL_law_1278 ?_
  refine k_arg F hk 1 (by decide) (by decide) dL_law_1279 dL_law_1280 dL_law_1281 dL_law_1282 dL_law_1283 ?_
  refine k_arg F hk 2 (by decide) (by decide) dL_law_1284 dL_law_1285 dL_law_1286 dL_law_1287 dL_law_1288 ?_
  refine k_arg F hk 3 (by decide) (by decide) dL_law_1289 dL_law_1290 dL_law_1291 dL_law_1292 dL_law_1293 ?_
  refine k_callX (as := [.int (k_x X (k0 + 1)), .int (k_x X (k0 + 2)), .int (k_x X (k0 + 3))]) (st := []) F (fun _ => rfl) rfl kL_177 hC (by decide) (Nat.le_of_ble_eq_true rfl) dL_law_1294 (fun r D2 p => ?_)
  refine k_M F dL_law_1297 ?_
  refine k_arg F hk 1 (by decide) (by decide) dL_law_1298 dL_law_1299 dL_law_1300 dL_law_1301 dL_law_1302 ?_
  refine k_arg F hk 2 (by decide) (by decide) dL_law_1303 dL_law_1304 dL_law_1305 dL_law_1306 dL_law_1307 ?_
  refine k_arg F hk 3 (by decide) (by decide) dL_law_1308 dL_law_1309 dL_law_1310 dL_law_1311 dL_law_1312 ?_
  refine k_callM (as := [.int (k_x X (k0 + 1)), .int (k_x X (k0 + 2)), .int (k_x X (k0 + 3))]) (st := [.int r]) F (fun _ => rfl) rfl kL_180 hM (by decide) (Nat.le_of_ble_eq_true rfl) dL_law_1313 (fun r2 E2 q => ?_)
  obtain ⟨e, h2⟩ := hT _ _ _ _ p q
  exact k_same F e dL_law_1316 (by decide) (N _ _ h2)
theorem k_a41 (F : k_F X) (hk : k0 + 6 ≤ k_L X) (h : v_Inv D E) (N : ∀ D2 E2, v_Inv D2 E2 → k_J X 1568 (nI k0) [] D2 E2) : k_J X 33 (nI k0) [.int (nI 41)] D E := by
  refine k_sw F (by decide) (off := 1288) (tgt := 1321) rfl (by decide) ?_
  obtain ⟨P, Q, hC, hM, hT⟩ := v_m_write h (k_x X (k0 + 1)) (k_x X (k0 + 2)) (k_x X (k0 + 3))
  refine k_X F dL_law_1321 ?_
  refine k_arg F hk 1 (by decide) (by decide) dL_law_1322 dL_law_1323 dL_law_1324 dL_law_1325 dL_law_1326 ?_
  refine k_arg F hk 2 (by decide) (by decide) dL_law_1327 dL_law_1328 dL_law_1329 dL_law_1330 dL_law_1331 ?_
  refine k_arg F hk 3 (by decide) (by decide) dL_law_1332 dL_law_1333 dL_law_1334 dL_law_1335 dL_law_1336 ?_
  refine k_callX (as := [.int (k_x X (k0 + 1)), .int (k_x X (k0 + 2)), .int (k_x X (k0 + 3))]) (st := []) F (fun _ => rfl) rfl kL_181 hC (by decide) (Nat.le_of_ble_eq_true rfl) dL_law_1337 (fun r D2 p => ?_)
  refine k_M F dL_law_1340 ?_
  refine k_arg F hk 1 (by decide) (by decide) dL_law_1341 dL_law_1342 dL_law_1343 dL_law_1344 dL_law_1345 ?_
  refine k_arg F hk 2 (by decide) (by decide) dL_law_1346 dL_law_1347 dL_law_1348 dL_law_1349 dL_law_1350 ?_
  refine k_arg F hk 3 (by decide) (by decide) dL_law_1351 dL_law_1352 dL_law_1353 dL_law_1354 dL_law_1355 ?_
  refine k_callM (as := [.int (k_x X (k0 + 1)), .int (k_x X (k0 + 2)), .int (k_x X (k0 + 3))]) (st := [.int r]) F (fun _ => rfl) rfl kL_184 hM (by decide) (Nat.le_of_ble_eq_true rfl) dL_law_1356 (fun r2 E2 q => ?_)
  obtain ⟨e, h2⟩ := hT _ _ _ _ p q
  exact k_same F e dL_law_1359 (by decide) (N _ _ h2)
theorem k_a42 (F : k_F X) (hk : k0 + 6 ≤ k_L X) (h : v_Inv D E) (N : ∀ D2 E2, v_Inv D2 E2 → k_J X 1568 (nI k0) [] D2 E2) : k_J X 33 (nI k0) [.int (nI 42)] D E := by
  refine k_sw F (by decide) (off := 1331) (tgt := 1364) rfl (by decide) ?_
  obtain ⟨P, Q, hC, hM, hT⟩ := v_m_copy h (k_x X (k0 + 1)) (k_x X (k0 + 2)) (k_x X (k0 + 3)) (k_x X (k0 + 4)) (k_x X (k0 + 5))
  refine k_X F dL_law_1364 ?_
  refine k_arg F hk 1 (by decide) (by decide) dL_law_1365 dL_law_1366 dL_law_1367 dL_law_1368 dL_law_1369 ?_
  refine k_arg F hk 2 (by decide) (by decide) dL_law_1370 dL_law_1371 dL_law_1372 dL_law_1373 dL_law_1374 ?_
  refine k_arg F hk 3 (by decide) (by decide) dL_law_1375 dL_law_1376 dL_law_1377 dL_law_1378 dL_law_1379 ?_
  refine k_arg F hk 4 (by decide) (by decide) dL_law_1380 dL_law_1381 dL_law_1382 dL_law_1383 dL_law_1384 ?_
  refine k_arg F hk 5 (by decide) (by decide) dL_law_1385 dL_law_1386 dL_law_1387 dL_law_1388 dL_law_1389 ?_
  refine k_callX (as := [.int (k_x X (k0 + 1)), .int (k_x X (k0 + 2)), .int (k_x X (k0 + 3)), .int (k_x X (k0 + 4)), .int (k_x X (k0 + 5))]) (st := []) F (fun _ => rfl) rfl kL_185 hC (by decide) (Nat.le_of_ble_eq_true rfl) dL_law_1390 (fun r D2 p => ?_)
  refine k_M F dL_law_1393 ?_
  refine k_arg F hk 1 (by decide) (by decide) dL_law_1394 dL_law_1395 dL_law_1396 dL_law_1397 dL_law_1398 ?_
  refine k_arg F hk 2 (by decide) (by decide) dL_law_1399 dL_law_1400 dL_law_1401 dL_law_1402 dL_law_1403 ?_
  refine k_arg F hk 3 (by decide) (by decide) dL_law_1404 dL_law_1405 dL_law_1406 dL_law_1407 dL_law_1408 ?_
  refine k_arg F hk 4 (by decide) (by decide) dL_law_1409 dL_law_1410 dL_law_1411 dL_law_1412 dL_law_1413 ?_
  refine k_arg F hk 5 (by decide) (by decide) dL_law_1414 dL_law_1415 dL_law_1416 dL_law_1417 dL_law_1418 ?_
  refine k_callM (as := [.int (k_x X (k0 + 1)), .int (k_x X (k0 + 2)), .int (k_x X (k0 + 3)), .int (k_x X (k0 + 4)), .int (k_x X (k0 + 5))]) (st := [.int r]) F (fun _ => rfl) rfl kL_189 hM (by decide) (Nat.le_of_ble_eq_true rfl) dL_law_1419 (fun r2 E2 q => ?_)
  obtain ⟨e, h2⟩ := hT _ _ _ _ p q
  exact k_same F e dL_law_1422 (by decide) (N _ _ h2)
theorem k_a43 (F : k_F X) (hk : k0 + 6 ≤ k_L X) (h : v_Inv D E) (N : ∀ D2 E2, v_Inv D2 E2 → k_J X 1568 (nI k0) [] D2 E2) : k_J X 33 (nI k0) [.int (nI 43)] D E := by
  refine k_sw F (by decide) (off := 1394) (tgt := 1427) rfl (by decide) ?_
  obtain ⟨P, Q, hC, hM, hT⟩ := v_m_load h (k_x X (k0 + 1))
  refine k_X F dL_law_1427 ?_
  refine k_arg F hk 1 (by decide) (by decide) dL_law_1428 dL_law_1429 dL_law_1430 dL_law_1431 dL_law_1432 ?_
  refine k_callX (as := [.int (k_x X (k0 + 1))]) (st := []) F (fun _ => rfl) rfl kL_190 hC (by decide) (Nat.le_of_ble_eq_true rfl) dL_law_1433 (fun r D2 p => ?_)
  refine k_M F dL_law_1436 ?_
  refine k_arg F hk 1 (by decide) (by decide) dL_law_1437 dL_law_1438 dL_law_1439 dL_law_1440 dL_law_1441 ?_
  refine k_callM (as := [.int (k_x X (k0 + 1))]) (st := [.int r]) F (fun _ => rfl) rfl kL_193 hM (by decide) (Nat.le_of_ble_eq_true rfl) dL_law_1442 (fun r2 E2 q => ?_)
  obtain ⟨e, h2⟩ := hT _ _ _ _ p q
  exact k_same F e dL_law_1445 (by decide) (N _ _ h2)
theorem k_a44 (F : k_F X) (hk : k0 + 6 ≤ k_L X) (h : v_Inv D E) (N : ∀ D2 E2, v_Inv D2 E2 → k_J X 1568 (nI k0) [] D2 E2) : k_J X 33 (nI k0) [.int (nI 44)] D E := by
  refine k_sw F (by decide) (off := 1417) (tgt := 1450) rfl (by decide) ?_
  obtain ⟨P, Q, hC, hM, hT⟩ := v_m_judge h (k_x X (k0 + 1)) (k_x X (k0 + 2))
  refine k_X F dL_law_1450 ?_
  refine k_arg F hk 1 (by decide) (by decide) dL_law_1451 dL_law_1452 dL_law_1453 dL_law_1454 dL_law_1455 ?_
  refine k_arg F hk 2 (by decide) (by decide) dL_law_1456 dL_law_1457 dL_law_1458 dL_law_1459 dL_law_1460 ?_
  refine k_callX (as := [.int (k_x X (k0 + 1)), .int (k_x X (k0 + 2))]) (st := []) F (fun _ => rfl) rfl kL_194 hC (by decide) (Nat.le_of_ble_eq_true rfl) dL_law_1461 (fun r D2 p => ?_)
  refine k_M F dL_law_1464 ?_
  refine k_arg F hk 1 (by decide) (by decide) dL_law_1465 dL_law_1466 dL_law_1467 dL_law_1468 dL_law_1469 ?_
  refine k_arg F hk 2 (by decide) (by decide) dL_law_1470 dL_law_1471 dL_law_1472 dL_law_1473 dL_law_1474 ?_
  refine k_callM (as := [.int (k_x X (k0 + 1)), .int (k_x X (k0 + 2))]) (st := [.int r]) F (fun _ => rfl) rfl kL_197 hM (by decide) (Nat.le_of_ble_eq_true rfl) dL_law_1475 (fun r2 E2 q => ?_)
  obtain ⟨e, h2⟩ := hT _ _ _ _ p q
  exact k_same F e dL_law_1478 (by decide) (N _ _ h2)
theorem k_a45 (F : k_F X) (hk : k0 + 6 ≤ k_L X) (h : v_Inv D E) (N : ∀ D2 E2, v_Inv D2 E2 → k_J X 1568 (nI k0) [] D2 E2) : k_J X 33 (nI k0) [.int (nI 45)] D E := by
  refine k_sw F (by decide) (off := 1450) (tgt := 1483) rfl (by decide) ?_
  obtain ⟨P, Q, hC, hM, hT⟩ := v_m_image h
  refine k_X F dL_law_1483 ?_
  refine k_callX (as := []) (st := []) F (fun _ => rfl) rfl kL_198 hC (by decide) (Nat.le_of_ble_eq_true rfl) dL_law_1484 (fun r D2 p => ?_)
  refine k_M F dL_law_1487 ?_
  refine k_callM (as := []) (st := [.int r]) F (fun _ => rfl) rfl kL_201 hM (by decide) (Nat.le_of_ble_eq_true rfl) dL_law_1488 (fun r2 E2 q => ?_)
  obtain ⟨e, h2⟩ := hT _ _ _ _ p q
  exact k_same F e dL_law_1491 (by decide) (N _ _ h2)
theorem k_a46 (F : k_F X) (hk : k0 + 6 ≤ k_L X) (h : v_Inv D E) (N : ∀ D2 E2, v_Inv D2 E2 → k_J X 1568 (nI k0) [] D2 E2) : k_J X 33 (nI k0) [.int (nI 46)] D E := by
  refine k_sw F (by decide) (off := 1463) (tgt := 1496) rfl (by decide) ?_
  obtain ⟨P, Q, hC, hM, hT⟩ := v_m_undo h
  refine k_X F dL_law_1496 ?_
  refine k_callX (as := []) (st := []) F (fun _ => rfl) rfl kL_202 hC (by decide) (Nat.le_of_ble_eq_true rfl) dL_law_1497 (fun r D2 p => ?_)
  refine k_M F dL_law_1500 ?_
  refine k_callM (as := []) (st := [.int r]) F (fun _ => rfl) rfl kL_205 hM (by decide) (Nat.le_of_ble_eq_true rfl) dL_law_1501 (fun r2 E2 q => ?_)
  obtain ⟨e, h2⟩ := hT _ _ _ _ p q
  exact k_same F e dL_law_1504 (by decide) (N _ _ h2)
theorem k_a47 (F : k_F X) (hk : k0 + 6 ≤ k_L X) (h : v_Inv D E) (N : ∀ D2 E2, v_Inv D2 E2 → k_J X 1568 (nI k0) [] D2 E2) : k_J X 33 (nI k0) [.int (nI 47)] D E := by
  refine k_sw F (by decide) (off := 1476) (tgt := 1509) rfl (by decide) ?_
  obtain ⟨P, Q, hC, hM, hT⟩ := v_m_tear h
  refine k_X F dL_law_1509 ?_
  refine k_callX (as := []) (st := []) F (fun _ => rfl) rfl kL_206 hC (by decide) (Nat.le_of_ble_eq_true rfl) dL_law_1510 (fun r D2 p => ?_)
  refine k_M F dL_law_1513 ?_
  refine k_callM (as := []) (st := [.int r]) F (fun _ => rfl) rfl kL_209 hM (by decide) (Nat.le_of_ble_eq_true rfl) dL_law_1514 (fun r2 E2 q => ?_)
  obtain ⟨e, h2⟩ := hT _ _ _ _ p q
  exact k_same F e dL_law_1517 (by decide) (N _ _ h2)
theorem k_a48 (F : k_F X) (hk : k0 + 6 ≤ k_L X) (h : v_Inv D E) (N : ∀ D2 E2, v_Inv D2 E2 → k_J X 1568 (nI k0) [] D2 E2) : k_J X 33 (nI k0) [.int (nI 48)] D E := by
  refine k_sw F (by decide) (off := 1489) (tgt := 1522) rfl (by decide) ?_
  obtain ⟨P, Q, hC, hM, hT⟩ := v_m_count h (k_x X (k0 + 1))
  refine k_X F dL_law_1522 ?_
  refine k_arg F hk 1 (by decide) (by decide) dL_law_1523 dL_law_1524 dL_law_1525 dL_law_1526 dL_law_1527 ?_
  refine k_callX (as := [.int (k_x X (k0 + 1))]) (st := []) F (fun _ => rfl) rfl kL_210 hC (by decide) (Nat.le_of_ble_eq_true rfl) dL_law_1528 (fun r D2 p => ?_)
  refine k_M F dL_law_1531 ?_
  refine k_arg F hk 1 (by decide) (by decide) dL_law_1532 dL_law_1533 dL_law_1534 dL_law_1535 dL_law_1536 ?_
  refine k_callM (as := [.int (k_x X (k0 + 1))]) (st := [.int r]) F (fun _ => rfl) rfl kL_213 hM (by decide) (Nat.le_of_ble_eq_true rfl) dL_law_1537 (fun r2 E2 q => ?_)
  obtain ⟨e, h2⟩ := hT _ _ _ _ p q
  exact k_same F e dL_law_1540 (by decide) (N _ _ h2)
theorem k_a49 (F : k_F X) (hk : k0 + 6 ≤ k_L X) (h : v_Inv D E) (N : ∀ D2 E2, v_Inv D2 E2 → k_J X 1568 (nI k0) [] D2 E2) : k_J X 33 (nI k0) [.int (nI 49)] D E := by
  refine k_sw F (by decide) (off := 1512) (tgt := 1545) rfl (by decide) ?_
  obtain ⟨P, Q, hC, hM, hT⟩ := v_m_status h (k_x X (k0 + 1))
  refine k_X F dL_law_1545 ?_
  refine k_arg F hk 1 (by decide) (by decide) dL_law_1546 dL_law_1547 dL_law_1548 dL_law_1549 dL_law_1550 ?_
  refine k_callX (as := [.int (k_x X (k0 + 1))]) (st := []) F (fun _ => rfl) rfl kL_214 hC (by decide) (Nat.le_of_ble_eq_true rfl) dL_law_1551 (fun r D2 p => ?_)
  refine k_M F dL_law_1554 ?_
  refine k_arg F hk 1 (by decide) (by decide) dL_law_1555 dL_law_1556 dL_law_1557 dL_law_1558 dL_law_1559 ?_
  refine k_callM (as := [.int (k_x X (k0 + 1))]) (st := [.int r]) F (fun _ => rfl) rfl kL_217 hM (by decide) (Nat.le_of_ble_eq_true rfl) dL_law_1560 (fun r2 E2 q => ?_)
  obtain ⟨e, h2⟩ := hT _ _ _ _ p q
  exact k_same F e dL_law_1563 (by decide) (N _ _ h2)
/-- every arm -/
theorem k_arms (F : k_F X) (hk : k0 + 6 ≤ k_L X) (h : v_Inv D E) (N : ∀ D2 E2, v_Inv D2 E2 → k_J X 1568 (nI k0) [] D2 E2) (v : Nat) (hv : v < 64) : k_J X 33 (nI k0) [.int (nI v)] D E := by
  rcases Nat.lt_or_ge v 50 with z | z
  · match v, z with
    | 0, _ => exact k_a0 F hk h N
    | 1, _ => exact k_a1 F hk h N
    | 2, _ => exact k_a2 F hk h N
    | 3, _ => exact k_a3 F hk h N
    | 4, _ => exact k_a4 F hk h N
    | 5, _ => exact k_a5 F hk h N
    | 6, _ => exact k_a6 F hk h N
    | 7, _ => exact k_a7 F hk h N
    | 8, _ => exact k_a8 F hk h N
    | 9, _ => exact k_a9 F hk h N
    | 10, _ => exact k_a10 F hk h N
    | 11, _ => exact k_a11 F hk h N
    | 12, _ => exact k_a12 F hk h N
    | 13, _ => exact k_a13 F hk h N
    | 14, _ => exact k_a14 F hk h N
    | 15, _ => exact k_a15 F hk h N
    | 16, _ => exact k_a16 F hk h N
    | 17, _ => exact k_a17 F hk h N
    | 18, _ => exact k_a18 F hk h N
    | 19, _ => exact k_a19 F hk h N
    | 20, _ => exact k_a20 F hk h N
    | 21, _ => exact k_a21 F hk h N
    | 22, _ => exact k_a22 F hk h N
    | 23, _ => exact k_a23 F hk h N
    | 24, _ => exact k_a24 F hk h N
    | 25, _ => exact k_a25 F hk h N
    | 26, _ => exact k_a26 F hk h N
    | 27, _ => exact k_a27 F hk h N
    | 28, _ => exact k_a28 F hk h N
    | 29, _ => exact k_a29 F hk h N
    | 30, _ => exact k_a30 F hk h N
    | 31, _ => exact k_a31 F hk h N
    | 32, _ => exact k_a32 F hk h N
    | 33, _ => exact k_a33 F hk h N
    | 34, _ => exact k_a34 F hk h N
    | 35, _ => exact k_a35 F hk h N
    | 36, _ => exact k_a36 F hk h N
    | 37, _ => exact k_a37 F hk h N
    | 38, _ => exact k_a38 F hk h N
    | 39, _ => exact k_a39 F hk h N
    | 40, _ => exact k_a40 F hk h N
    | 41, _ => exact k_a41 F hk h N
    | 42, _ => exact k_a42 F hk h N
    | 43, _ => exact k_a43 F hk h N
    | 44, _ => exact k_a44 F hk h N
    | 45, _ => exact k_a45 F hk h N
    | 46, _ => exact k_a46 F hk h N
    | 47, _ => exact k_a47 F hk h N
    | 48, _ => exact k_a48 F hk h N
    | 49, _ => exact k_a49 F hk h N
    | n + 50, z => exact absurd z (by omega)
  · exact k_out F z hv (N D E h)
/-- the loop -/
theorem k_loop (F : k_F X) : ∀ (n k : Nat) (D E : zD), v_Inv D E → k ≤ k_L X → k_L X < k + n → k_J X 18 (nI k) [] D E
  | 0, k, _, _, _, hk, hn => absurd hn (by omega)
  | n + 1, k, D, E, h, hk, hn => k_head F hk (fun hk6 v hv => k_arms F hk6 h (fun D2 E2 h2 => k_foot F (k_loop F n (k + 6) D2 E2 h2 hk6 (by omega))) v hv)
end AR
