/-! the law: its 43 cases, its loop -/
section LAW
variable {l : Launch} {g : Gv} {b L : Nat} {xs : Nat → Int32}
theorem lc_sill (G : G0 g) {m : Mem} (I : INV m) (i : Nat) (hi : i + 6 ≤ L) (hL : L ≤ 3072) (hk : ∀ m2, INV m2 → JX l g mL_law (KW g b L xs m2) 1619 (LZ g b i) []) : JX l g mL_law (KW g b L xs m) 220 (LZ g b i) [] := by
  obtain ⟨d1, d2, r, P, h1, h2, hC, hM⟩ := op_sill (l := l) (g := g) I (xs (i + 1)) (xs (i + 2)) (xs (i + 3))
  refine x_aload1 221 dL_law_220 rfl ?_
  refine xl_arg 226 1 i dL_law_221 dL_law_222 dL_law_223 dL_law_224 dL_law_225 rfl (by decide) (by decide) hi hL ?_
  refine xl_arg 231 2 i dL_law_226 dL_law_227 dL_law_228 dL_law_229 dL_law_230 rfl (by decide) (by decide) hi hL ?_
  refine xl_arg 236 3 i dL_law_231 dL_law_232 dL_law_233 dL_law_234 dL_law_235 rfl (by decide) (by decide) hi hL ?_
  refine xl_call 239 (a := 0) (As := [.int (xs (i + 1)), .int (xs (i + 2)), .int (xs (i + 3))]) rfl dL_law_236 rfl cl_L_13 rfl h1 rfl hC (fun m1 q1 => ?_)
  refine x_aload2 240 dL_law_239 rfl ?_
  refine xl_arg 245 1 i dL_law_240 dL_law_241 dL_law_242 dL_law_243 dL_law_244 rfl (by decide) (by decide) hi hL ?_
  refine xl_arg 250 2 i dL_law_245 dL_law_246 dL_law_247 dL_law_248 dL_law_249 rfl (by decide) (by decide) hi hL ?_
  refine xl_arg 255 3 i dL_law_250 dL_law_251 dL_law_252 dL_law_253 dL_law_254 rfl (by decide) (by decide) hi hL ?_
  refine xl_call 258 (a := 68) (As := [.int (xs (i + 1)), .int (xs (i + 2)), .int (xs (i + 3))]) rfl dL_law_255 rfl cl_L_17 rfl h2 rfl (hM m1 q1) (fun m2 q2 => ?_)
  exact x_cmp_eq 1619 261 dL_law_258 (by decide) rfl (fun _ => hk m2 q2) (fun q => absurd rfl q)
theorem lc_ofSill (G : G0 g) {m : Mem} (I : INV m) (i : Nat) (hi : i + 6 ≤ L) (hL : L ≤ 3072) (hk : ∀ m2, INV m2 → JX l g mL_law (KW g b L xs m2) 1619 (LZ g b i) []) : JX l g mL_law (KW g b L xs m) 263 (LZ g b i) [] := by
  obtain ⟨d1, d2, r, P, h1, h2, hC, hM⟩ := op_ofSill (l := l) (g := g) I (xs (i + 1)) (xs (i + 2))
  refine x_aload1 264 dL_law_263 rfl ?_
  refine xl_arg 269 1 i dL_law_264 dL_law_265 dL_law_266 dL_law_267 dL_law_268 rfl (by decide) (by decide) hi hL ?_
  refine xl_arg 274 2 i dL_law_269 dL_law_270 dL_law_271 dL_law_272 dL_law_273 rfl (by decide) (by decide) hi hL ?_
  refine xl_call 277 (a := 0) (As := [.int (xs (i + 1)), .int (xs (i + 2))]) rfl dL_law_274 rfl cl_L_18 rfl h1 rfl hC (fun m1 q1 => ?_)
  refine x_aload2 278 dL_law_277 rfl ?_
  refine xl_arg 283 1 i dL_law_278 dL_law_279 dL_law_280 dL_law_281 dL_law_282 rfl (by decide) (by decide) hi hL ?_
  refine xl_arg 288 2 i dL_law_283 dL_law_284 dL_law_285 dL_law_286 dL_law_287 rfl (by decide) (by decide) hi hL ?_
  refine xl_call 291 (a := 68) (As := [.int (xs (i + 1)), .int (xs (i + 2))]) rfl dL_law_288 rfl cl_L_22 rfl h2 rfl (hM m1 q1) (fun m2 q2 => ?_)
  exact x_cmp_eq 1619 294 dL_law_291 (by decide) rfl (fun _ => hk m2 q2) (fun q => absurd rfl q)
theorem lc_town (G : G0 g) {m : Mem} (I : INV m) (i : Nat) (hi : i + 6 ≤ L) (hL : L ≤ 3072) (hk : ∀ m2, INV m2 → JX l g mL_law (KW g b L xs m2) 1619 (LZ g b i) []) : JX l g mL_law (KW g b L xs m) 296 (LZ g b i) [] := by
  obtain ⟨d1, d2, r, P, h1, h2, hC, hM⟩ := op_town (l := l) (g := g) I (xs (i + 1)) (xs (i + 2))
  refine x_aload1 297 dL_law_296 rfl ?_
  refine xl_arg 302 1 i dL_law_297 dL_law_298 dL_law_299 dL_law_300 dL_law_301 rfl (by decide) (by decide) hi hL ?_
  refine xl_arg 307 2 i dL_law_302 dL_law_303 dL_law_304 dL_law_305 dL_law_306 rfl (by decide) (by decide) hi hL ?_
  refine xl_call 310 (a := 0) (As := [.int (xs (i + 1)), .int (xs (i + 2))]) rfl dL_law_307 rfl cl_L_23 rfl h1 rfl hC (fun m1 q1 => ?_)
  refine x_aload2 311 dL_law_310 rfl ?_
  refine xl_arg 316 1 i dL_law_311 dL_law_312 dL_law_313 dL_law_314 dL_law_315 rfl (by decide) (by decide) hi hL ?_
  refine xl_arg 321 2 i dL_law_316 dL_law_317 dL_law_318 dL_law_319 dL_law_320 rfl (by decide) (by decide) hi hL ?_
  refine xl_call 324 (a := 68) (As := [.int (xs (i + 1)), .int (xs (i + 2))]) rfl dL_law_321 rfl cl_L_26 rfl h2 rfl (hM m1 q1) (fun m2 q2 => ?_)
  exact x_cmp_eq 1619 327 dL_law_324 (by decide) rfl (fun _ => hk m2 q2) (fun q => absurd rfl q)
theorem lc_heir (G : G0 g) {m : Mem} (I : INV m) (i : Nat) (hi : i + 6 ≤ L) (hL : L ≤ 3072) (hk : ∀ m2, INV m2 → JX l g mL_law (KW g b L xs m2) 1619 (LZ g b i) []) : JX l g mL_law (KW g b L xs m) 329 (LZ g b i) [] := by
  obtain ⟨d1, d2, r, P, h1, h2, hC, hM⟩ := op_heir (l := l) (g := g) I (xs (i + 1)) (xs (i + 2)) (xs (i + 3))
  refine x_aload1 330 dL_law_329 rfl ?_
  refine xl_arg 335 1 i dL_law_330 dL_law_331 dL_law_332 dL_law_333 dL_law_334 rfl (by decide) (by decide) hi hL ?_
  refine xl_arg 340 2 i dL_law_335 dL_law_336 dL_law_337 dL_law_338 dL_law_339 rfl (by decide) (by decide) hi hL ?_
  refine xl_arg 345 3 i dL_law_340 dL_law_341 dL_law_342 dL_law_343 dL_law_344 rfl (by decide) (by decide) hi hL ?_
  refine xl_call 348 (a := 0) (As := [.int (xs (i + 1)), .int (xs (i + 2)), .int (xs (i + 3))]) rfl dL_law_345 rfl cl_L_27 rfl h1 rfl hC (fun m1 q1 => ?_)
  refine x_aload2 349 dL_law_348 rfl ?_
  refine xl_arg 354 1 i dL_law_349 dL_law_350 dL_law_351 dL_law_352 dL_law_353 rfl (by decide) (by decide) hi hL ?_
  refine xl_arg 359 2 i dL_law_354 dL_law_355 dL_law_356 dL_law_357 dL_law_358 rfl (by decide) (by decide) hi hL ?_
  refine xl_arg 364 3 i dL_law_359 dL_law_360 dL_law_361 dL_law_362 dL_law_363 rfl (by decide) (by decide) hi hL ?_
  refine xl_call 367 (a := 68) (As := [.int (xs (i + 1)), .int (xs (i + 2)), .int (xs (i + 3))]) rfl dL_law_364 rfl cl_L_30 rfl h2 rfl (hM m1 q1) (fun m2 q2 => ?_)
  exact x_cmp_eq 1619 370 dL_law_367 (by decide) rfl (fun _ => hk m2 q2) (fun q => absurd rfl q)
theorem lc_ofHeir (G : G0 g) {m : Mem} (I : INV m) (i : Nat) (hi : i + 6 ≤ L) (hL : L ≤ 3072) (hk : ∀ m2, INV m2 → JX l g mL_law (KW g b L xs m2) 1619 (LZ g b i) []) : JX l g mL_law (KW g b L xs m) 372 (LZ g b i) [] := by
  obtain ⟨d1, d2, r, P, h1, h2, hC, hM⟩ := op_ofHeir (l := l) (g := g) I (xs (i + 1)) (xs (i + 2))
  refine x_aload1 373 dL_law_372 rfl ?_
  refine xl_arg 378 1 i dL_law_373 dL_law_374 dL_law_375 dL_law_376 dL_law_377 rfl (by decide) (by decide) hi hL ?_
  refine xl_arg 383 2 i dL_law_378 dL_law_379 dL_law_380 dL_law_381 dL_law_382 rfl (by decide) (by decide) hi hL ?_
  refine xl_call 386 (a := 0) (As := [.int (xs (i + 1)), .int (xs (i + 2))]) rfl dL_law_383 rfl cl_L_31 rfl h1 rfl hC (fun m1 q1 => ?_)
  refine x_aload2 387 dL_law_386 rfl ?_
  refine xl_arg 392 1 i dL_law_387 dL_law_388 dL_law_389 dL_law_390 dL_law_391 rfl (by decide) (by decide) hi hL ?_
  refine xl_arg 397 2 i dL_law_392 dL_law_393 dL_law_394 dL_law_395 dL_law_396 rfl (by decide) (by decide) hi hL ?_
  refine xl_call 400 (a := 68) (As := [.int (xs (i + 1)), .int (xs (i + 2))]) rfl dL_law_397 rfl cl_L_34 rfl h2 rfl (hM m1 q1) (fun m2 q2 => ?_)
  exact x_cmp_eq 1619 403 dL_law_400 (by decide) rfl (fun _ => hk m2 q2) (fun q => absurd rfl q)
theorem lc_change (G : G0 g) {m : Mem} (I : INV m) (i : Nat) (hi : i + 6 ≤ L) (hL : L ≤ 3072) (hk : ∀ m2, INV m2 → JX l g mL_law (KW g b L xs m2) 1619 (LZ g b i) []) : JX l g mL_law (KW g b L xs m) 405 (LZ g b i) [] := by
  obtain ⟨d1, d2, r, P, h1, h2, hC, hM⟩ := op_change (l := l) (g := g) I (xs (i + 1)) (xs (i + 2)) (xs (i + 3))
  refine x_aload1 406 dL_law_405 rfl ?_
  refine xl_arg 411 1 i dL_law_406 dL_law_407 dL_law_408 dL_law_409 dL_law_410 rfl (by decide) (by decide) hi hL ?_
  refine xl_arg 416 2 i dL_law_411 dL_law_412 dL_law_413 dL_law_414 dL_law_415 rfl (by decide) (by decide) hi hL ?_
  refine xl_arg 421 3 i dL_law_416 dL_law_417 dL_law_418 dL_law_419 dL_law_420 rfl (by decide) (by decide) hi hL ?_
  refine xl_call 424 (a := 0) (As := [.int (xs (i + 1)), .int (xs (i + 2)), .int (xs (i + 3))]) rfl dL_law_421 rfl cl_L_35 rfl h1 rfl hC (fun m1 q1 => ?_)
  refine x_aload2 425 dL_law_424 rfl ?_
  refine xl_arg 430 1 i dL_law_425 dL_law_426 dL_law_427 dL_law_428 dL_law_429 rfl (by decide) (by decide) hi hL ?_
  refine xl_arg 435 2 i dL_law_430 dL_law_431 dL_law_432 dL_law_433 dL_law_434 rfl (by decide) (by decide) hi hL ?_
  refine xl_arg 440 3 i dL_law_435 dL_law_436 dL_law_437 dL_law_438 dL_law_439 rfl (by decide) (by decide) hi hL ?_
  refine xl_call 443 (a := 68) (As := [.int (xs (i + 1)), .int (xs (i + 2)), .int (xs (i + 3))]) rfl dL_law_440 rfl cl_L_38 rfl h2 rfl (hM m1 q1) (fun m2 q2 => ?_)
  exact x_cmp_eq 1619 446 dL_law_443 (by decide) rfl (fun _ => hk m2 q2) (fun q => absurd rfl q)
theorem lc_become (G : G0 g) {m : Mem} (I : INV m) (i : Nat) (hi : i + 6 ≤ L) (hL : L ≤ 3072) (hk : ∀ m2, INV m2 → JX l g mL_law (KW g b L xs m2) 1619 (LZ g b i) []) : JX l g mL_law (KW g b L xs m) 448 (LZ g b i) [] := by
  obtain ⟨d1, d2, r, P, h1, h2, hC, hM⟩ := op_become (l := l) (g := g) I (xs (i + 1)) (xs (i + 2))
  refine x_aload1 449 dL_law_448 rfl ?_
  refine xl_arg 454 1 i dL_law_449 dL_law_450 dL_law_451 dL_law_452 dL_law_453 rfl (by decide) (by decide) hi hL ?_
  refine xl_arg 459 2 i dL_law_454 dL_law_455 dL_law_456 dL_law_457 dL_law_458 rfl (by decide) (by decide) hi hL ?_
  refine xl_call 462 (a := 0) (As := [.int (xs (i + 1)), .int (xs (i + 2))]) rfl dL_law_459 rfl cl_L_39 rfl h1 rfl hC (fun m1 q1 => ?_)
  refine x_aload2 463 dL_law_462 rfl ?_
  refine xl_arg 468 1 i dL_law_463 dL_law_464 dL_law_465 dL_law_466 dL_law_467 rfl (by decide) (by decide) hi hL ?_
  refine xl_arg 473 2 i dL_law_468 dL_law_469 dL_law_470 dL_law_471 dL_law_472 rfl (by decide) (by decide) hi hL ?_
  refine xl_call 476 (a := 68) (As := [.int (xs (i + 1)), .int (xs (i + 2))]) rfl dL_law_473 rfl cl_L_42 rfl h2 rfl (hM m1 q1) (fun m2 q2 => ?_)
  exact x_cmp_eq 1619 479 dL_law_476 (by decide) rfl (fun _ => hk m2 q2) (fun q => absurd rfl q)
theorem lc_as (G : G0 g) {m : Mem} (I : INV m) (i : Nat) (hi : i + 6 ≤ L) (hL : L ≤ 3072) (hk : ∀ m2, INV m2 → JX l g mL_law (KW g b L xs m2) 1619 (LZ g b i) []) : JX l g mL_law (KW g b L xs m) 481 (LZ g b i) [] := by
  obtain ⟨d1, d2, r, P, h1, h2, hC, hM⟩ := op_as (l := l) (g := g) I (xs (i + 1)) (xs (i + 2))
  refine x_aload1 482 dL_law_481 rfl ?_
  refine xl_arg 487 1 i dL_law_482 dL_law_483 dL_law_484 dL_law_485 dL_law_486 rfl (by decide) (by decide) hi hL ?_
  refine xl_arg 492 2 i dL_law_487 dL_law_488 dL_law_489 dL_law_490 dL_law_491 rfl (by decide) (by decide) hi hL ?_
  refine xl_call 495 (a := 0) (As := [.int (xs (i + 1)), .int (xs (i + 2))]) rfl dL_law_492 rfl cl_L_43 rfl h1 rfl hC (fun m1 q1 => ?_)
  refine x_aload2 496 dL_law_495 rfl ?_
  refine xl_arg 501 1 i dL_law_496 dL_law_497 dL_law_498 dL_law_499 dL_law_500 rfl (by decide) (by decide) hi hL ?_
  refine xl_arg 506 2 i dL_law_501 dL_law_502 dL_law_503 dL_law_504 dL_law_505 rfl (by decide) (by decide) hi hL ?_
  refine xl_call 509 (a := 68) (As := [.int (xs (i + 1)), .int (xs (i + 2))]) rfl dL_law_506 rfl cl_L_46 rfl h2 rfl (hM m1 q1) (fun m2 q2 => ?_)
  exact x_cmp_eq 1619 512 dL_law_509 (by decide) rfl (fun _ => hk m2 q2) (fun q => absurd rfl q)
theorem lc_feed (G : G0 g) {m : Mem} (I : INV m) (i : Nat) (hi : i + 6 ≤ L) (hL : L ≤ 3072) (hk : ∀ m2, INV m2 → JX l g mL_law (KW g b L xs m2) 1619 (LZ g b i) []) : JX l g mL_law (KW g b L xs m) 514 (LZ g b i) [] := by
  obtain ⟨d1, d2, r, P, h1, h2, hC, hM⟩ := op_feed (l := l) (g := g) I (((Int32.toInt64 (xs (i + 1))) <<< (Int32.toInt64 (32 : Int32) &&& 63)) ||| ((Int32.toInt64 (xs (i + 2))) &&& (4294967295 : Int64))) (xs (i + 3))
  refine x_aload1 515 dL_law_514 rfl ?_
  refine xl_arg 520 1 i dL_law_515 dL_law_516 dL_law_517 dL_law_518 dL_law_519 rfl (by decide) (by decide) hi hL ?_
  refine x_i2l 521 dL_law_520 rfl ?_
  refine x_bipush 523 dL_law_521 rfl (show _ = (32 : Int32) by decide) ?_
  refine x_lshl 524 dL_law_523 rfl ?_
  refine xl_arg 529 2 i dL_law_524 dL_law_525 dL_law_526 dL_law_527 dL_law_528 rfl (by decide) (by decide) hi hL ?_
  refine x_i2l 530 dL_law_529 rfl ?_
  refine x_ldc2 533 dL_law_530 rfl kl_L_47 ?_
  refine x_land 534 dL_law_533 rfl ?_
  refine x_lor 535 dL_law_534 rfl ?_
  refine xl_arg 540 3 i dL_law_535 dL_law_536 dL_law_537 dL_law_538 dL_law_539 rfl (by decide) (by decide) hi hL ?_
  refine xl_call 543 (a := 0) (As := [.long (((Int32.toInt64 (xs (i + 1))) <<< (Int32.toInt64 (32 : Int32) &&& 63)) ||| ((Int32.toInt64 (xs (i + 2))) &&& (4294967295 : Int64))), .int (xs (i + 3))]) rfl dL_law_540 rfl cl_L_49 rfl h1 rfl hC (fun m1 q1 => ?_)
  refine x_aload2 544 dL_law_543 rfl ?_
  refine xl_arg 549 1 i dL_law_544 dL_law_545 dL_law_546 dL_law_547 dL_law_548 rfl (by decide) (by decide) hi hL ?_
  refine x_i2l 550 dL_law_549 rfl ?_
  refine x_bipush 552 dL_law_550 rfl (show _ = (32 : Int32) by decide) ?_
  refine x_lshl 553 dL_law_552 rfl ?_
  refine xl_arg 558 2 i dL_law_553 dL_law_554 dL_law_555 dL_law_556 dL_law_557 rfl (by decide) (by decide) hi hL ?_
  refine x_i2l 559 dL_law_558 rfl ?_
  refine x_ldc2 562 dL_law_559 rfl kl_L_47 ?_
  refine x_land 563 dL_law_562 rfl ?_
  refine x_lor 564 dL_law_563 rfl ?_
  refine xl_arg 569 3 i dL_law_564 dL_law_565 dL_law_566 dL_law_567 dL_law_568 rfl (by decide) (by decide) hi hL ?_
  refine xl_call 572 (a := 68) (As := [.long (((Int32.toInt64 (xs (i + 1))) <<< (Int32.toInt64 (32 : Int32) &&& 63)) ||| ((Int32.toInt64 (xs (i + 2))) &&& (4294967295 : Int64))), .int (xs (i + 3))]) rfl dL_law_569 rfl cl_L_53 rfl h2 rfl (hM m1 q1) (fun m2 q2 => ?_)
  exact x_cmp_eq 1619 575 dL_law_572 (by decide) rfl (fun _ => hk m2 q2) (fun q => absurd rfl q)
theorem lc_text (G : G0 g) {m : Mem} (I : INV m) (i : Nat) (hi : i + 6 ≤ L) (hL : L ≤ 3072) (hk : ∀ m2, INV m2 → JX l g mL_law (KW g b L xs m2) 1619 (LZ g b i) []) : JX l g mL_law (KW g b L xs m) 577 (LZ g b i) [] := by
  obtain ⟨d1, d2, r, P, h1, h2, hC, hM⟩ := op_text (l := l) (g := g) G I (xs (i + 1))
  refine x_aload1 578 dL_law_577 rfl ?_
  refine xl_arg 583 1 i dL_law_578 dL_law_579 dL_law_580 dL_law_581 dL_law_582 rfl (by decide) (by decide) hi hL ?_
  refine xl_call 586 (a := 0) (As := [.int (xs (i + 1))]) rfl dL_law_583 rfl cl_L_54 rfl h1 rfl hC (fun m1 q1 => ?_)
  refine x_aload2 587 dL_law_586 rfl ?_
  refine xl_arg 592 1 i dL_law_587 dL_law_588 dL_law_589 dL_law_590 dL_law_591 rfl (by decide) (by decide) hi hL ?_
  refine xl_call 595 (a := 68) (As := [.int (xs (i + 1))]) rfl dL_law_592 rfl cl_L_58 rfl h2 rfl (hM m1 q1) (fun m2 q2 => ?_)
  exact x_cmp_eq 1619 598 dL_law_595 (by decide) rfl (fun _ => hk m2 q2) (fun q => absurd rfl q)
theorem lc_law (G : G0 g) {m : Mem} (I : INV m) (i : Nat) (hi : i + 6 ≤ L) (hL : L ≤ 3072) (hk : ∀ m2, INV m2 → JX l g mL_law (KW g b L xs m2) 1619 (LZ g b i) []) : JX l g mL_law (KW g b L xs m) 600 (LZ g b i) [] := by
  obtain ⟨d1, d2, r, P, h1, h2, hC, hM⟩ := op_law (l := l) (g := g) I (xs (i + 1)) (xs (i + 2)) (xs (i + 3)) (xs (i + 4))
  refine x_aload1 601 dL_law_600 rfl ?_
  refine xl_arg 606 1 i dL_law_601 dL_law_602 dL_law_603 dL_law_604 dL_law_605 rfl (by decide) (by decide) hi hL ?_
  refine xl_arg 611 2 i dL_law_606 dL_law_607 dL_law_608 dL_law_609 dL_law_610 rfl (by decide) (by decide) hi hL ?_
  refine xl_arg 616 3 i dL_law_611 dL_law_612 dL_law_613 dL_law_614 dL_law_615 rfl (by decide) (by decide) hi hL ?_
  refine xl_arg 621 4 i dL_law_616 dL_law_617 dL_law_618 dL_law_619 dL_law_620 rfl (by decide) (by decide) hi hL ?_
  refine xl_call 624 (a := 0) (As := [.int (xs (i + 1)), .int (xs (i + 2)), .int (xs (i + 3)), .int (xs (i + 4))]) rfl dL_law_621 rfl cl_L_59 rfl h1 rfl hC (fun m1 q1 => ?_)
  refine x_aload2 625 dL_law_624 rfl ?_
  refine xl_arg 630 1 i dL_law_625 dL_law_626 dL_law_627 dL_law_628 dL_law_629 rfl (by decide) (by decide) hi hL ?_
  refine xl_arg 635 2 i dL_law_630 dL_law_631 dL_law_632 dL_law_633 dL_law_634 rfl (by decide) (by decide) hi hL ?_
  refine xl_arg 640 3 i dL_law_635 dL_law_636 dL_law_637 dL_law_638 dL_law_639 rfl (by decide) (by decide) hi hL ?_
  refine xl_arg 645 4 i dL_law_640 dL_law_641 dL_law_642 dL_law_643 dL_law_644 rfl (by decide) (by decide) hi hL ?_
  refine xl_call 648 (a := 68) (As := [.int (xs (i + 1)), .int (xs (i + 2)), .int (xs (i + 3)), .int (xs (i + 4))]) rfl dL_law_645 rfl cl_L_63 rfl h2 rfl (hM m1 q1) (fun m2 q2 => ?_)
  exact x_cmp_eq 1619 651 dL_law_648 (by decide) rfl (fun _ => hk m2 q2) (fun q => absurd rfl q)
theorem lc_days (G : G0 g) {m : Mem} (I : INV m) (i : Nat) (hi : i + 6 ≤ L) (hL : L ≤ 3072) (hk : ∀ m2, INV m2 → JX l g mL_law (KW g b L xs m2) 1619 (LZ g b i) []) : JX l g mL_law (KW g b L xs m) 653 (LZ g b i) [] := by
  obtain ⟨d1, d2, r, P, h1, h2, hC, hM⟩ := op_days (l := l) (g := g) I (xs (i + 1))
  refine x_aload1 654 dL_law_653 rfl ?_
  refine xl_arg 659 1 i dL_law_654 dL_law_655 dL_law_656 dL_law_657 dL_law_658 rfl (by decide) (by decide) hi hL ?_
  refine xl_call 662 (a := 0) (As := [.int (xs (i + 1))]) rfl dL_law_659 rfl cl_L_64 rfl h1 rfl hC (fun m1 q1 => ?_)
  refine x_aload2 663 dL_law_662 rfl ?_
  refine xl_arg 668 1 i dL_law_663 dL_law_664 dL_law_665 dL_law_666 dL_law_667 rfl (by decide) (by decide) hi hL ?_
  refine xl_call 671 (a := 68) (As := [.int (xs (i + 1))]) rfl dL_law_668 rfl cl_L_67 rfl h2 rfl (hM m1 q1) (fun m2 q2 => ?_)
  exact x_cmp_eq 1619 674 dL_law_671 (by decide) rfl (fun _ => hk m2 q2) (fun q => absurd rfl q)
theorem lc_loose (G : G0 g) {m : Mem} (I : INV m) (i : Nat) (hi : i + 6 ≤ L) (hL : L ≤ 3072) (hk : ∀ m2, INV m2 → JX l g mL_law (KW g b L xs m2) 1619 (LZ g b i) []) : JX l g mL_law (KW g b L xs m) 676 (LZ g b i) [] := by
  obtain ⟨d1, d2, r, P, h1, h2, hC, hM⟩ := op_loose (l := l) (g := g) I (xs (i + 1))
  refine x_aload1 677 dL_law_676 rfl ?_
  refine xl_arg 682 1 i dL_law_677 dL_law_678 dL_law_679 dL_law_680 dL_law_681 rfl (by decide) (by decide) hi hL ?_
  refine xl_call 685 (a := 0) (As := [.int (xs (i + 1))]) rfl dL_law_682 rfl cl_L_68 rfl h1 rfl hC (fun m1 q1 => ?_)
  refine x_aload2 686 dL_law_685 rfl ?_
  refine xl_arg 691 1 i dL_law_686 dL_law_687 dL_law_688 dL_law_689 dL_law_690 rfl (by decide) (by decide) hi hL ?_
  refine xl_call 694 (a := 68) (As := [.int (xs (i + 1))]) rfl dL_law_691 rfl cl_L_71 rfl h2 rfl (hM m1 q1) (fun m2 q2 => ?_)
  exact x_cmp_eq 1619 697 dL_law_694 (by decide) rfl (fun _ => hk m2 q2) (fun q => absurd rfl q)
theorem lc_then (G : G0 g) {m : Mem} (I : INV m) (i : Nat) (hi : i + 6 ≤ L) (hL : L ≤ 3072) (hk : ∀ m2, INV m2 → JX l g mL_law (KW g b L xs m2) 1619 (LZ g b i) []) : JX l g mL_law (KW g b L xs m) 699 (LZ g b i) [] := by
  obtain ⟨d1, d2, r, P, h1, h2, hC, hM⟩ := op_then (l := l) (g := g) I (xs (i + 1)) (xs (i + 2))
  refine x_aload1 700 dL_law_699 rfl ?_
  refine xl_arg 705 1 i dL_law_700 dL_law_701 dL_law_702 dL_law_703 dL_law_704 rfl (by decide) (by decide) hi hL ?_
  refine xl_arg 710 2 i dL_law_705 dL_law_706 dL_law_707 dL_law_708 dL_law_709 rfl (by decide) (by decide) hi hL ?_
  refine xl_call 713 (a := 0) (As := [.int (xs (i + 1)), .int (xs (i + 2))]) rfl dL_law_710 rfl cl_L_72 rfl h1 rfl hC (fun m1 q1 => ?_)
  refine x_aload2 714 dL_law_713 rfl ?_
  refine xl_arg 719 1 i dL_law_714 dL_law_715 dL_law_716 dL_law_717 dL_law_718 rfl (by decide) (by decide) hi hL ?_
  refine xl_arg 724 2 i dL_law_719 dL_law_720 dL_law_721 dL_law_722 dL_law_723 rfl (by decide) (by decide) hi hL ?_
  refine xl_call 727 (a := 68) (As := [.int (xs (i + 1)), .int (xs (i + 2))]) rfl dL_law_724 rfl cl_L_75 rfl h2 rfl (hM m1 q1) (fun m2 q2 => ?_)
  exact x_cmp_eq 1619 730 dL_law_727 (by decide) rfl (fun _ => hk m2 q2) (fun q => absurd rfl q)
theorem lc_first (G : G0 g) {m : Mem} (I : INV m) (i : Nat) (hi : i + 6 ≤ L) (hL : L ≤ 3072) (hk : ∀ m2, INV m2 → JX l g mL_law (KW g b L xs m2) 1619 (LZ g b i) []) : JX l g mL_law (KW g b L xs m) 732 (LZ g b i) [] := by
  obtain ⟨d1, d2, r, P, h1, h2, hC, hM⟩ := op_first (l := l) (g := g) I (xs (i + 1)) (xs (i + 2))
  refine x_aload1 733 dL_law_732 rfl ?_
  refine xl_arg 738 1 i dL_law_733 dL_law_734 dL_law_735 dL_law_736 dL_law_737 rfl (by decide) (by decide) hi hL ?_
  refine xl_arg 743 2 i dL_law_738 dL_law_739 dL_law_740 dL_law_741 dL_law_742 rfl (by decide) (by decide) hi hL ?_
  refine xl_call 746 (a := 0) (As := [.int (xs (i + 1)), .int (xs (i + 2))]) rfl dL_law_743 rfl cl_L_76 rfl h1 rfl hC (fun m1 q1 => ?_)
  refine x_aload2 747 dL_law_746 rfl ?_
  refine xl_arg 752 1 i dL_law_747 dL_law_748 dL_law_749 dL_law_750 dL_law_751 rfl (by decide) (by decide) hi hL ?_
  refine xl_arg 757 2 i dL_law_752 dL_law_753 dL_law_754 dL_law_755 dL_law_756 rfl (by decide) (by decide) hi hL ?_
  refine xl_call 760 (a := 68) (As := [.int (xs (i + 1)), .int (xs (i + 2))]) rfl dL_law_757 rfl cl_L_79 rfl h2 rfl (hM m1 q1) (fun m2 q2 => ?_)
  exact x_cmp_eq 1619 763 dL_law_760 (by decide) rfl (fun _ => hk m2 q2) (fun q => absurd rfl q)
theorem lc_meet (G : G0 g) {m : Mem} (I : INV m) (i : Nat) (hi : i + 6 ≤ L) (hL : L ≤ 3072) (hk : ∀ m2, INV m2 → JX l g mL_law (KW g b L xs m2) 1619 (LZ g b i) []) : JX l g mL_law (KW g b L xs m) 765 (LZ g b i) [] := by
  obtain ⟨d1, d2, r, P, h1, h2, hC, hM⟩ := op_meet (l := l) (g := g) I (xs (i + 1)) (xs (i + 2))
  refine x_aload1 766 dL_law_765 rfl ?_
  refine xl_arg 771 1 i dL_law_766 dL_law_767 dL_law_768 dL_law_769 dL_law_770 rfl (by decide) (by decide) hi hL ?_
  refine xl_arg 776 2 i dL_law_771 dL_law_772 dL_law_773 dL_law_774 dL_law_775 rfl (by decide) (by decide) hi hL ?_
  refine xl_call 779 (a := 0) (As := [.int (xs (i + 1)), .int (xs (i + 2))]) rfl dL_law_776 rfl cl_L_80 rfl h1 rfl hC (fun m1 q1 => ?_)
  refine x_aload2 780 dL_law_779 rfl ?_
  refine xl_arg 785 1 i dL_law_780 dL_law_781 dL_law_782 dL_law_783 dL_law_784 rfl (by decide) (by decide) hi hL ?_
  refine xl_arg 790 2 i dL_law_785 dL_law_786 dL_law_787 dL_law_788 dL_law_789 rfl (by decide) (by decide) hi hL ?_
  refine xl_call 793 (a := 68) (As := [.int (xs (i + 1)), .int (xs (i + 2))]) rfl dL_law_790 rfl cl_L_83 rfl h2 rfl (hM m1 q1) (fun m2 q2 => ?_)
  exact x_cmp_eq 1619 796 dL_law_793 (by decide) rfl (fun _ => hk m2 q2) (fun q => absurd rfl q)
theorem lc_bright (G : G0 g) {m : Mem} (I : INV m) (i : Nat) (hi : i + 6 ≤ L) (hL : L ≤ 3072) (hk : ∀ m2, INV m2 → JX l g mL_law (KW g b L xs m2) 1619 (LZ g b i) []) : JX l g mL_law (KW g b L xs m) 798 (LZ g b i) [] := by
  obtain ⟨d1, d2, r, P, h1, h2, hC, hM⟩ := op_bright (l := l) (g := g) I (xs (i + 1)) (xs (i + 2))
  refine x_aload1 799 dL_law_798 rfl ?_
  refine xl_arg 804 1 i dL_law_799 dL_law_800 dL_law_801 dL_law_802 dL_law_803 rfl (by decide) (by decide) hi hL ?_
  refine xl_arg 809 2 i dL_law_804 dL_law_805 dL_law_806 dL_law_807 dL_law_808 rfl (by decide) (by decide) hi hL ?_
  refine xl_call 812 (a := 0) (As := [.int (xs (i + 1)), .int (xs (i + 2))]) rfl dL_law_809 rfl cl_L_84 rfl h1 rfl hC (fun m1 q1 => ?_)
  refine x_aload2 813 dL_law_812 rfl ?_
  refine xl_arg 818 1 i dL_law_813 dL_law_814 dL_law_815 dL_law_816 dL_law_817 rfl (by decide) (by decide) hi hL ?_
  refine xl_arg 823 2 i dL_law_818 dL_law_819 dL_law_820 dL_law_821 dL_law_822 rfl (by decide) (by decide) hi hL ?_
  refine xl_call 826 (a := 68) (As := [.int (xs (i + 1)), .int (xs (i + 2))]) rfl dL_law_823 rfl cl_L_87 rfl h2 rfl (hM m1 q1) (fun m2 q2 => ?_)
  exact x_cmp_eq 1619 829 dL_law_826 (by decide) rfl (fun _ => hk m2 q2) (fun q => absurd rfl q)
theorem lc_place (G : G0 g) {m : Mem} (I : INV m) (i : Nat) (hi : i + 6 ≤ L) (hL : L ≤ 3072) (hk : ∀ m2, INV m2 → JX l g mL_law (KW g b L xs m2) 1619 (LZ g b i) []) : JX l g mL_law (KW g b L xs m) 831 (LZ g b i) [] := by
  obtain ⟨d1, d2, r, P, h1, h2, hC, hM⟩ := op_place (l := l) (g := g) I (xs (i + 1)) (xs (i + 2)) (xs (i + 3))
  refine x_aload1 832 dL_law_831 rfl ?_
  refine xl_arg 837 1 i dL_law_832 dL_law_833 dL_law_834 dL_law_835 dL_law_836 rfl (by decide) (by decide) hi hL ?_
  refine xl_arg 842 2 i dL_law_837 dL_law_838 dL_law_839 dL_law_840 dL_law_841 rfl (by decide) (by decide) hi hL ?_
  refine xl_arg 847 3 i dL_law_842 dL_law_843 dL_law_844 dL_law_845 dL_law_846 rfl (by decide) (by decide) hi hL ?_
  refine xl_call 850 (a := 0) (As := [.int (xs (i + 1)), .int (xs (i + 2)), .int (xs (i + 3))]) rfl dL_law_847 rfl cl_L_88 rfl h1 rfl hC (fun m1 q1 => ?_)
  refine x_aload2 851 dL_law_850 rfl ?_
  refine xl_arg 856 1 i dL_law_851 dL_law_852 dL_law_853 dL_law_854 dL_law_855 rfl (by decide) (by decide) hi hL ?_
  refine xl_arg 861 2 i dL_law_856 dL_law_857 dL_law_858 dL_law_859 dL_law_860 rfl (by decide) (by decide) hi hL ?_
  refine xl_arg 866 3 i dL_law_861 dL_law_862 dL_law_863 dL_law_864 dL_law_865 rfl (by decide) (by decide) hi hL ?_
  refine xl_call 869 (a := 68) (As := [.int (xs (i + 1)), .int (xs (i + 2)), .int (xs (i + 3))]) rfl dL_law_866 rfl cl_L_91 rfl h2 rfl (hM m1 q1) (fun m2 q2 => ?_)
  exact x_cmp_eq 1619 872 dL_law_869 (by decide) rfl (fun _ => hk m2 q2) (fun q => absurd rfl q)
theorem lc_cartsFor (G : G0 g) {m : Mem} (I : INV m) (i : Nat) (hi : i + 6 ≤ L) (hL : L ≤ 3072) (hk : ∀ m2, INV m2 → JX l g mL_law (KW g b L xs m2) 1619 (LZ g b i) []) : JX l g mL_law (KW g b L xs m) 874 (LZ g b i) [] := by
  obtain ⟨d1, d2, r, P, h1, h2, hC, hM⟩ := op_cartsFor (l := l) (g := g) I (xs (i + 1)) (xs (i + 2))
  refine x_aload1 875 dL_law_874 rfl ?_
  refine xl_arg 880 1 i dL_law_875 dL_law_876 dL_law_877 dL_law_878 dL_law_879 rfl (by decide) (by decide) hi hL ?_
  refine xl_arg 885 2 i dL_law_880 dL_law_881 dL_law_882 dL_law_883 dL_law_884 rfl (by decide) (by decide) hi hL ?_
  refine xl_call 888 (a := 0) (As := [.int (xs (i + 1)), .int (xs (i + 2))]) rfl dL_law_885 rfl cl_L_92 rfl h1 rfl hC (fun m1 q1 => ?_)
  refine x_aload2 889 dL_law_888 rfl ?_
  refine xl_arg 894 1 i dL_law_889 dL_law_890 dL_law_891 dL_law_892 dL_law_893 rfl (by decide) (by decide) hi hL ?_
  refine xl_arg 899 2 i dL_law_894 dL_law_895 dL_law_896 dL_law_897 dL_law_898 rfl (by decide) (by decide) hi hL ?_
  refine xl_call 902 (a := 68) (As := [.int (xs (i + 1)), .int (xs (i + 2))]) rfl dL_law_899 rfl cl_L_95 rfl h2 rfl (hM m1 q1) (fun m2 q2 => ?_)
  exact x_cmp_eq 1619 905 dL_law_902 (by decide) rfl (fun _ => hk m2 q2) (fun q => absurd rfl q)
theorem lc_stop (G : G0 g) {m : Mem} (I : INV m) (i : Nat) (hi : i + 6 ≤ L) (hL : L ≤ 3072) (hk : ∀ m2, INV m2 → JX l g mL_law (KW g b L xs m2) 1619 (LZ g b i) []) : JX l g mL_law (KW g b L xs m) 907 (LZ g b i) [] := by
  obtain ⟨d1, d2, r, P, h1, h2, hC, hM⟩ := op_stop (l := l) (g := g) I (xs (i + 1)) (xs (i + 2))
  refine x_aload1 908 dL_law_907 rfl ?_
  refine xl_arg 913 1 i dL_law_908 dL_law_909 dL_law_910 dL_law_911 dL_law_912 rfl (by decide) (by decide) hi hL ?_
  refine xl_arg 918 2 i dL_law_913 dL_law_914 dL_law_915 dL_law_916 dL_law_917 rfl (by decide) (by decide) hi hL ?_
  refine xl_call 921 (a := 0) (As := [.int (xs (i + 1)), .int (xs (i + 2))]) rfl dL_law_918 rfl cl_L_96 rfl h1 rfl hC (fun m1 q1 => ?_)
  refine x_aload2 922 dL_law_921 rfl ?_
  refine xl_arg 927 1 i dL_law_922 dL_law_923 dL_law_924 dL_law_925 dL_law_926 rfl (by decide) (by decide) hi hL ?_
  refine xl_arg 932 2 i dL_law_927 dL_law_928 dL_law_929 dL_law_930 dL_law_931 rfl (by decide) (by decide) hi hL ?_
  refine xl_call 935 (a := 68) (As := [.int (xs (i + 1)), .int (xs (i + 2))]) rfl dL_law_932 rfl cl_L_99 rfl h2 rfl (hM m1 q1) (fun m2 q2 => ?_)
  exact x_cmp_eq 1619 938 dL_law_935 (by decide) rfl (fun _ => hk m2 q2) (fun q => absurd rfl q)
theorem lc_swap (G : G0 g) {m : Mem} (I : INV m) (i : Nat) (hi : i + 6 ≤ L) (hL : L ≤ 3072) (hk : ∀ m2, INV m2 → JX l g mL_law (KW g b L xs m2) 1619 (LZ g b i) []) : JX l g mL_law (KW g b L xs m) 940 (LZ g b i) [] := by
  obtain ⟨d1, d2, r, P, h1, h2, hC, hM⟩ := op_swap (l := l) (g := g) I (xs (i + 1))
  refine x_aload1 941 dL_law_940 rfl ?_
  refine xl_arg 946 1 i dL_law_941 dL_law_942 dL_law_943 dL_law_944 dL_law_945 rfl (by decide) (by decide) hi hL ?_
  refine xl_call 949 (a := 0) (As := [.int (xs (i + 1))]) rfl dL_law_946 rfl cl_L_100 rfl h1 rfl hC (fun m1 q1 => ?_)
  refine x_aload2 950 dL_law_949 rfl ?_
  refine xl_arg 955 1 i dL_law_950 dL_law_951 dL_law_952 dL_law_953 dL_law_954 rfl (by decide) (by decide) hi hL ?_
  refine xl_call 958 (a := 68) (As := [.int (xs (i + 1))]) rfl dL_law_955 rfl cl_L_103 rfl h2 rfl (hM m1 q1) (fun m2 q2 => ?_)
  exact x_cmp_eq 1619 961 dL_law_958 (by decide) rfl (fun _ => hk m2 q2) (fun q => absurd rfl q)
theorem lc_sunFor (G : G0 g) {m : Mem} (I : INV m) (i : Nat) (hi : i + 6 ≤ L) (hL : L ≤ 3072) (hk : ∀ m2, INV m2 → JX l g mL_law (KW g b L xs m2) 1619 (LZ g b i) []) : JX l g mL_law (KW g b L xs m) 963 (LZ g b i) [] := by
  obtain ⟨d1, d2, r, P, h1, h2, hC, hM⟩ := op_sunFor (l := l) (g := g) I (xs (i + 1)) (xs (i + 2)) (xs (i + 3))
  refine x_aload1 964 dL_law_963 rfl ?_
  refine xl_arg 969 1 i dL_law_964 dL_law_965 dL_law_966 dL_law_967 dL_law_968 rfl (by decide) (by decide) hi hL ?_
  refine xl_arg 974 2 i dL_law_969 dL_law_970 dL_law_971 dL_law_972 dL_law_973 rfl (by decide) (by decide) hi hL ?_
  refine xl_arg 979 3 i dL_law_974 dL_law_975 dL_law_976 dL_law_977 dL_law_978 rfl (by decide) (by decide) hi hL ?_
  refine xl_call 982 (a := 0) (As := [.int (xs (i + 1)), .int (xs (i + 2)), .int (xs (i + 3))]) rfl dL_law_979 rfl cl_L_104 rfl h1 rfl hC (fun m1 q1 => ?_)
  refine x_aload2 983 dL_law_982 rfl ?_
  refine xl_arg 988 1 i dL_law_983 dL_law_984 dL_law_985 dL_law_986 dL_law_987 rfl (by decide) (by decide) hi hL ?_
  refine xl_arg 993 2 i dL_law_988 dL_law_989 dL_law_990 dL_law_991 dL_law_992 rfl (by decide) (by decide) hi hL ?_
  refine xl_arg 998 3 i dL_law_993 dL_law_994 dL_law_995 dL_law_996 dL_law_997 rfl (by decide) (by decide) hi hL ?_
  refine xl_call 1001 (a := 68) (As := [.int (xs (i + 1)), .int (xs (i + 2)), .int (xs (i + 3))]) rfl dL_law_998 rfl cl_L_107 rfl h2 rfl (hM m1 q1) (fun m2 q2 => ?_)
  exact x_cmp_eq 1619 1004 dL_law_1001 (by decide) rfl (fun _ => hk m2 q2) (fun q => absurd rfl q)
theorem lc_sweepFor (G : G0 g) {m : Mem} (I : INV m) (i : Nat) (hi : i + 6 ≤ L) (hL : L ≤ 3072) (hk : ∀ m2, INV m2 → JX l g mL_law (KW g b L xs m2) 1619 (LZ g b i) []) : JX l g mL_law (KW g b L xs m) 1006 (LZ g b i) [] := by
  obtain ⟨d1, d2, r, P, h1, h2, hC, hM⟩ := op_sweepFor (l := l) (g := g) I (xs (i + 1)) (xs (i + 2))
  refine x_aload1 1007 dL_law_1006 rfl ?_
  refine xl_arg 1012 1 i dL_law_1007 dL_law_1008 dL_law_1009 dL_law_1010 dL_law_1011 rfl (by decide) (by decide) hi hL ?_
  refine xl_arg 1017 2 i dL_law_1012 dL_law_1013 dL_law_1014 dL_law_1015 dL_law_1016 rfl (by decide) (by decide) hi hL ?_
  refine xl_call 1020 (a := 0) (As := [.int (xs (i + 1)), .int (xs (i + 2))]) rfl dL_law_1017 rfl cl_L_108 rfl h1 rfl hC (fun m1 q1 => ?_)
  refine x_aload2 1021 dL_law_1020 rfl ?_
  refine xl_arg 1026 1 i dL_law_1021 dL_law_1022 dL_law_1023 dL_law_1024 dL_law_1025 rfl (by decide) (by decide) hi hL ?_
  refine xl_arg 1031 2 i dL_law_1026 dL_law_1027 dL_law_1028 dL_law_1029 dL_law_1030 rfl (by decide) (by decide) hi hL ?_
  refine xl_call 1034 (a := 68) (As := [.int (xs (i + 1)), .int (xs (i + 2))]) rfl dL_law_1031 rfl cl_L_111 rfl h2 rfl (hM m1 q1) (fun m2 q2 => ?_)
  exact x_cmp_eq 1619 1037 dL_law_1034 (by decide) rfl (fun _ => hk m2 q2) (fun q => absurd rfl q)
theorem lc_whence (G : G0 g) {m : Mem} (I : INV m) (i : Nat) (hi : i + 6 ≤ L) (hL : L ≤ 3072) (hk : ∀ m2, INV m2 → JX l g mL_law (KW g b L xs m2) 1619 (LZ g b i) []) : JX l g mL_law (KW g b L xs m) 1039 (LZ g b i) [] := by
  obtain ⟨d1, d2, r, P, h1, h2, hC, hM⟩ := op_whence (l := l) (g := g) I (xs (i + 1)) (xs (i + 2)) (xs (i + 3))
  refine x_aload1 1040 dL_law_1039 rfl ?_
  refine xl_arg 1045 1 i dL_law_1040 dL_law_1041 dL_law_1042 dL_law_1043 dL_law_1044 rfl (by decide) (by decide) hi hL ?_
  refine xl_arg 1050 2 i dL_law_1045 dL_law_1046 dL_law_1047 dL_law_1048 dL_law_1049 rfl (by decide) (by decide) hi hL ?_
  refine xl_arg 1055 3 i dL_law_1050 dL_law_1051 dL_law_1052 dL_law_1053 dL_law_1054 rfl (by decide) (by decide) hi hL ?_
  refine xl_call 1058 (a := 0) (As := [.int (xs (i + 1)), .int (xs (i + 2)), .int (xs (i + 3))]) rfl dL_law_1055 rfl cl_L_112 rfl h1 rfl hC (fun m1 q1 => ?_)
  refine x_aload2 1059 dL_law_1058 rfl ?_
  refine xl_arg 1064 1 i dL_law_1059 dL_law_1060 dL_law_1061 dL_law_1062 dL_law_1063 rfl (by decide) (by decide) hi hL ?_
  refine xl_arg 1069 2 i dL_law_1064 dL_law_1065 dL_law_1066 dL_law_1067 dL_law_1068 rfl (by decide) (by decide) hi hL ?_
  refine xl_arg 1074 3 i dL_law_1069 dL_law_1070 dL_law_1071 dL_law_1072 dL_law_1073 rfl (by decide) (by decide) hi hL ?_
  refine xl_call 1077 (a := 68) (As := [.int (xs (i + 1)), .int (xs (i + 2)), .int (xs (i + 3))]) rfl dL_law_1074 rfl cl_L_115 rfl h2 rfl (hM m1 q1) (fun m2 q2 => ?_)
  exact x_cmp_eq 1619 1080 dL_law_1077 (by decide) rfl (fun _ => hk m2 q2) (fun q => absurd rfl q)
theorem lc_bare (G : G0 g) {m : Mem} (I : INV m) (i : Nat) (hi : i + 6 ≤ L) (hL : L ≤ 3072) (hk : ∀ m2, INV m2 → JX l g mL_law (KW g b L xs m2) 1619 (LZ g b i) []) : JX l g mL_law (KW g b L xs m) 1082 (LZ g b i) [] := by
  obtain ⟨d1, d2, r, P, h1, h2, hC, hM⟩ := op_bare (l := l) (g := g) I (xs (i + 1))
  refine x_aload1 1083 dL_law_1082 rfl ?_
  refine xl_arg 1088 1 i dL_law_1083 dL_law_1084 dL_law_1085 dL_law_1086 dL_law_1087 rfl (by decide) (by decide) hi hL ?_
  refine xl_call 1091 (a := 0) (As := [.int (xs (i + 1))]) rfl dL_law_1088 rfl cl_L_116 rfl h1 rfl hC (fun m1 q1 => ?_)
  refine x_aload2 1092 dL_law_1091 rfl ?_
  refine xl_arg 1097 1 i dL_law_1092 dL_law_1093 dL_law_1094 dL_law_1095 dL_law_1096 rfl (by decide) (by decide) hi hL ?_
  refine xl_call 1100 (a := 68) (As := [.int (xs (i + 1))]) rfl dL_law_1097 rfl cl_L_119 rfl h2 rfl (hM m1 q1) (fun m2 q2 => ?_)
  exact x_cmp_eq 1619 1103 dL_law_1100 (by decide) rfl (fun _ => hk m2 q2) (fun q => absurd rfl q)
theorem lc_crowd (G : G0 g) {m : Mem} (I : INV m) (i : Nat) (hi : i + 6 ≤ L) (hL : L ≤ 3072) (hk : ∀ m2, INV m2 → JX l g mL_law (KW g b L xs m2) 1619 (LZ g b i) []) : JX l g mL_law (KW g b L xs m) 1105 (LZ g b i) [] := by
  obtain ⟨d1, d2, r, P, h1, h2, hC, hM⟩ := op_crowd (l := l) (g := g) I (xs (i + 1)) (xs (i + 2))
  refine x_aload1 1106 dL_law_1105 rfl ?_
  refine xl_arg 1111 1 i dL_law_1106 dL_law_1107 dL_law_1108 dL_law_1109 dL_law_1110 rfl (by decide) (by decide) hi hL ?_
  refine xl_arg 1116 2 i dL_law_1111 dL_law_1112 dL_law_1113 dL_law_1114 dL_law_1115 rfl (by decide) (by decide) hi hL ?_
  refine xl_call 1119 (a := 0) (As := [.int (xs (i + 1)), .int (xs (i + 2))]) rfl dL_law_1116 rfl cl_L_120 rfl h1 rfl hC (fun m1 q1 => ?_)
  refine x_aload2 1120 dL_law_1119 rfl ?_
  refine xl_arg 1125 1 i dL_law_1120 dL_law_1121 dL_law_1122 dL_law_1123 dL_law_1124 rfl (by decide) (by decide) hi hL ?_
  refine xl_arg 1130 2 i dL_law_1125 dL_law_1126 dL_law_1127 dL_law_1128 dL_law_1129 rfl (by decide) (by decide) hi hL ?_
  refine xl_call 1133 (a := 68) (As := [.int (xs (i + 1)), .int (xs (i + 2))]) rfl dL_law_1130 rfl cl_L_123 rfl h2 rfl (hM m1 q1) (fun m2 q2 => ?_)
  exact x_cmp_eq 1619 1136 dL_law_1133 (by decide) rfl (fun _ => hk m2 q2) (fun q => absurd rfl q)
theorem lc_light (G : G0 g) {m : Mem} (I : INV m) (i : Nat) (hi : i + 6 ≤ L) (hL : L ≤ 3072) (hk : ∀ m2, INV m2 → JX l g mL_law (KW g b L xs m2) 1619 (LZ g b i) []) : JX l g mL_law (KW g b L xs m) 1138 (LZ g b i) [] := by
  obtain ⟨d1, d2, r, P, h1, h2, hC, hM⟩ := op_light (l := l) (g := g) I (xs (i + 1))
  refine x_aload1 1139 dL_law_1138 rfl ?_
  refine xl_arg 1144 1 i dL_law_1139 dL_law_1140 dL_law_1141 dL_law_1142 dL_law_1143 rfl (by decide) (by decide) hi hL ?_
  refine xl_call 1147 (a := 0) (As := [.int (xs (i + 1))]) rfl dL_law_1144 rfl cl_L_124 rfl h1 rfl hC (fun m1 q1 => ?_)
  refine x_aload2 1148 dL_law_1147 rfl ?_
  refine xl_arg 1153 1 i dL_law_1148 dL_law_1149 dL_law_1150 dL_law_1151 dL_law_1152 rfl (by decide) (by decide) hi hL ?_
  refine xl_call 1156 (a := 68) (As := [.int (xs (i + 1))]) rfl dL_law_1153 rfl cl_L_127 rfl h2 rfl (hM m1 q1) (fun m2 q2 => ?_)
  exact x_cmp_eq 1619 1159 dL_law_1156 (by decide) rfl (fun _ => hk m2 q2) (fun q => absurd rfl q)
theorem lc_late (G : G0 g) {m : Mem} (I : INV m) (i : Nat) (hi : i + 6 ≤ L) (hL : L ≤ 3072) (hk : ∀ m2, INV m2 → JX l g mL_law (KW g b L xs m2) 1619 (LZ g b i) []) : JX l g mL_law (KW g b L xs m) 1161 (LZ g b i) [] := by
  obtain ⟨d1, d2, r, P, h1, h2, hC, hM⟩ := op_late (l := l) (g := g) I (xs (i + 1))
  refine x_aload1 1162 dL_law_1161 rfl ?_
  refine xl_arg 1167 1 i dL_law_1162 dL_law_1163 dL_law_1164 dL_law_1165 dL_law_1166 rfl (by decide) (by decide) hi hL ?_
  refine xl_call 1170 (a := 0) (As := [.int (xs (i + 1))]) rfl dL_law_1167 rfl cl_L_128 rfl h1 rfl hC (fun m1 q1 => ?_)
  refine x_aload2 1171 dL_law_1170 rfl ?_
  refine xl_arg 1176 1 i dL_law_1171 dL_law_1172 dL_law_1173 dL_law_1174 dL_law_1175 rfl (by decide) (by decide) hi hL ?_
  refine xl_call 1179 (a := 68) (As := [.int (xs (i + 1))]) rfl dL_law_1176 rfl cl_L_131 rfl h2 rfl (hM m1 q1) (fun m2 q2 => ?_)
  exact x_cmp_eq 1619 1182 dL_law_1179 (by decide) rfl (fun _ => hk m2 q2) (fun q => absurd rfl q)
theorem lc_odds (G : G0 g) {m : Mem} (I : INV m) (i : Nat) (hi : i + 6 ≤ L) (hL : L ≤ 3072) (hk : ∀ m2, INV m2 → JX l g mL_law (KW g b L xs m2) 1619 (LZ g b i) []) : JX l g mL_law (KW g b L xs m) 1184 (LZ g b i) [] := by
  obtain ⟨d1, d2, r, P, h1, h2, hC, hM⟩ := op_odds (l := l) (g := g) I (xs (i + 1)) (xs (i + 2)) (xs (i + 3))
  refine x_aload1 1185 dL_law_1184 rfl ?_
  refine xl_arg 1190 1 i dL_law_1185 dL_law_1186 dL_law_1187 dL_law_1188 dL_law_1189 rfl (by decide) (by decide) hi hL ?_
  refine xl_arg 1195 2 i dL_law_1190 dL_law_1191 dL_law_1192 dL_law_1193 dL_law_1194 rfl (by decide) (by decide) hi hL ?_
  refine xl_arg 1200 3 i dL_law_1195 dL_law_1196 dL_law_1197 dL_law_1198 dL_law_1199 rfl (by decide) (by decide) hi hL ?_
  refine xl_call 1203 (a := 0) (As := [.int (xs (i + 1)), .int (xs (i + 2)), .int (xs (i + 3))]) rfl dL_law_1200 rfl cl_L_132 rfl h1 rfl hC (fun m1 q1 => ?_)
  refine x_aload2 1204 dL_law_1203 rfl ?_
  refine xl_arg 1209 1 i dL_law_1204 dL_law_1205 dL_law_1206 dL_law_1207 dL_law_1208 rfl (by decide) (by decide) hi hL ?_
  refine xl_arg 1214 2 i dL_law_1209 dL_law_1210 dL_law_1211 dL_law_1212 dL_law_1213 rfl (by decide) (by decide) hi hL ?_
  refine xl_arg 1219 3 i dL_law_1214 dL_law_1215 dL_law_1216 dL_law_1217 dL_law_1218 rfl (by decide) (by decide) hi hL ?_
  refine xl_call 1222 (a := 68) (As := [.int (xs (i + 1)), .int (xs (i + 2)), .int (xs (i + 3))]) rfl dL_law_1219 rfl cl_L_135 rfl h2 rfl (hM m1 q1) (fun m2 q2 => ?_)
  exact x_cmp_eq 1619 1225 dL_law_1222 (by decide) rfl (fun _ => hk m2 q2) (fun q => absurd rfl q)
theorem lc_seed (G : G0 g) {m : Mem} (I : INV m) (i : Nat) (hi : i + 6 ≤ L) (hL : L ≤ 3072) (hk : ∀ m2, INV m2 → JX l g mL_law (KW g b L xs m2) 1619 (LZ g b i) []) : JX l g mL_law (KW g b L xs m) 1227 (LZ g b i) [] := by
  obtain ⟨d1, d2, r, P, h1, h2, hC, hM⟩ := op_seed (l := l) (g := g) I (xs (i + 1))
  refine x_aload1 1228 dL_law_1227 rfl ?_
  refine xl_arg 1233 1 i dL_law_1228 dL_law_1229 dL_law_1230 dL_law_1231 dL_law_1232 rfl (by decide) (by decide) hi hL ?_
  refine xl_call 1236 (a := 0) (As := [.int (xs (i + 1))]) rfl dL_law_1233 rfl cl_L_136 rfl h1 rfl hC (fun m1 q1 => ?_)
  refine x_aload2 1237 dL_law_1236 rfl ?_
  refine xl_arg 1242 1 i dL_law_1237 dL_law_1238 dL_law_1239 dL_law_1240 dL_law_1241 rfl (by decide) (by decide) hi hL ?_
  refine xl_call 1245 (a := 68) (As := [.int (xs (i + 1))]) rfl dL_law_1242 rfl cl_L_139 rfl h2 rfl (hM m1 q1) (fun m2 q2 => ?_)
  exact x_cmp_eq 1619 1248 dL_law_1245 (by decide) rfl (fun _ => hk m2 q2) (fun q => absurd rfl q)
theorem lc_voice (G : G0 g) {m : Mem} (I : INV m) (i : Nat) (hi : i + 6 ≤ L) (hL : L ≤ 3072) (hk : ∀ m2, INV m2 → JX l g mL_law (KW g b L xs m2) 1619 (LZ g b i) []) : JX l g mL_law (KW g b L xs m) 1250 (LZ g b i) [] := by
  obtain ⟨d1, d2, r, P, h1, h2, hC, hM⟩ := op_voice (l := l) (g := g) I (xs (i + 1)) (xs (i + 2)) (xs (i + 3))
  refine x_aload1 1251 dL_law_1250 rfl ?_
  refine xl_arg 1256 1 i dL_law_1251 dL_law_1252 dL_law_1253 dL_law_1254 dL_law_1255 rfl (by decide) (by decide) hi hL ?_
  refine xl_arg 1261 2 i dL_law_1256 dL_law_1257 dL_law_1258 dL_law_1259 dL_law_1260 rfl (by decide) (by decide) hi hL ?_
  refine xl_arg 1266 3 i dL_law_1261 dL_law_1262 dL_law_1263 dL_law_1264 dL_law_1265 rfl (by decide) (by decide) hi hL ?_
  refine xl_call 1269 (a := 0) (As := [.int (xs (i + 1)), .int (xs (i + 2)), .int (xs (i + 3))]) rfl dL_law_1266 rfl cl_L_140 rfl h1 rfl hC (fun m1 q1 => ?_)
  refine x_aload2 1270 dL_law_1269 rfl ?_
  refine xl_arg 1275 1 i dL_law_1270 dL_law_1271 dL_law_1272 dL_law_1273 dL_law_1274 rfl (by decide) (by decide) hi hL ?_
  refine xl_arg 1280 2 i dL_law_1275 dL_law_1276 dL_law_1277 dL_law_1278 dL_law_1279 rfl (by decide) (by decide) hi hL ?_
  refine xl_arg 1285 3 i dL_law_1280 dL_law_1281 dL_law_1282 dL_law_1283 dL_law_1284 rfl (by decide) (by decide) hi hL ?_
  refine xl_call 1288 (a := 68) (As := [.int (xs (i + 1)), .int (xs (i + 2)), .int (xs (i + 3))]) rfl dL_law_1285 rfl cl_L_143 rfl h2 rfl (hM m1 q1) (fun m2 q2 => ?_)
  exact x_cmp_eq 1619 1291 dL_law_1288 (by decide) rfl (fun _ => hk m2 q2) (fun q => absurd rfl q)
theorem lc_trace (G : G0 g) {m : Mem} (I : INV m) (i : Nat) (hi : i + 6 ≤ L) (hL : L ≤ 3072) (hk : ∀ m2, INV m2 → JX l g mL_law (KW g b L xs m2) 1619 (LZ g b i) []) : JX l g mL_law (KW g b L xs m) 1293 (LZ g b i) [] := by
  obtain ⟨d1, d2, r, P, h1, h2, hC, hM⟩ := op_trace (l := l) (g := g) I (xs (i + 1))
  refine x_aload1 1294 dL_law_1293 rfl ?_
  refine xl_arg 1299 1 i dL_law_1294 dL_law_1295 dL_law_1296 dL_law_1297 dL_law_1298 rfl (by decide) (by decide) hi hL ?_
  refine xl_call 1302 (a := 0) (As := [.int (xs (i + 1))]) rfl dL_law_1299 rfl cl_L_144 rfl h1 rfl hC (fun m1 q1 => ?_)
  refine x_aload2 1303 dL_law_1302 rfl ?_
  refine xl_arg 1308 1 i dL_law_1303 dL_law_1304 dL_law_1305 dL_law_1306 dL_law_1307 rfl (by decide) (by decide) hi hL ?_
  refine xl_call 1311 (a := 68) (As := [.int (xs (i + 1))]) rfl dL_law_1308 rfl cl_L_147 rfl h2 rfl (hM m1 q1) (fun m2 q2 => ?_)
  exact x_cmp_eq 1619 1314 dL_law_1311 (by decide) rfl (fun _ => hk m2 q2) (fun q => absurd rfl q)
theorem lc_sheet (G : G0 g) {m : Mem} (I : INV m) (i : Nat) (hi : i + 6 ≤ L) (hL : L ≤ 3072) (hk : ∀ m2, INV m2 → JX l g mL_law (KW g b L xs m2) 1619 (LZ g b i) []) : JX l g mL_law (KW g b L xs m) 1316 (LZ g b i) [] := by
  obtain ⟨d1, d2, r, P, h1, h2, hC, hM⟩ := op_sheet (l := l) (g := g) I (xs (i + 1)) (xs (i + 2)) (xs (i + 3))
  refine x_aload1 1317 dL_law_1316 rfl ?_
  refine xl_arg 1322 1 i dL_law_1317 dL_law_1318 dL_law_1319 dL_law_1320 dL_law_1321 rfl (by decide) (by decide) hi hL ?_
  refine xl_arg 1327 2 i dL_law_1322 dL_law_1323 dL_law_1324 dL_law_1325 dL_law_1326 rfl (by decide) (by decide) hi hL ?_
  refine xl_arg 1332 3 i dL_law_1327 dL_law_1328 dL_law_1329 dL_law_1330 dL_law_1331 rfl (by decide) (by decide) hi hL ?_
  refine xl_call 1335 (a := 0) (As := [.int (xs (i + 1)), .int (xs (i + 2)), .int (xs (i + 3))]) rfl dL_law_1332 rfl cl_L_148 rfl h1 rfl hC (fun m1 q1 => ?_)
  refine x_aload2 1336 dL_law_1335 rfl ?_
  refine xl_arg 1341 1 i dL_law_1336 dL_law_1337 dL_law_1338 dL_law_1339 dL_law_1340 rfl (by decide) (by decide) hi hL ?_
  refine xl_arg 1346 2 i dL_law_1341 dL_law_1342 dL_law_1343 dL_law_1344 dL_law_1345 rfl (by decide) (by decide) hi hL ?_
  refine xl_arg 1351 3 i dL_law_1346 dL_law_1347 dL_law_1348 dL_law_1349 dL_law_1350 rfl (by decide) (by decide) hi hL ?_
  refine xl_call 1354 (a := 68) (As := [.int (xs (i + 1)), .int (xs (i + 2)), .int (xs (i + 3))]) rfl dL_law_1351 rfl cl_L_151 rfl h2 rfl (hM m1 q1) (fun m2 q2 => ?_)
  exact x_cmp_eq 1619 1357 dL_law_1354 (by decide) rfl (fun _ => hk m2 q2) (fun q => absurd rfl q)
theorem lc_put (G : G0 g) {m : Mem} (I : INV m) (i : Nat) (hi : i + 6 ≤ L) (hL : L ≤ 3072) (hk : ∀ m2, INV m2 → JX l g mL_law (KW g b L xs m2) 1619 (LZ g b i) []) : JX l g mL_law (KW g b L xs m) 1359 (LZ g b i) [] := by
  obtain ⟨d1, d2, r, P, h1, h2, hC, hM⟩ := op_put (l := l) (g := g) I (xs (i + 1)) (xs (i + 2)) (xs (i + 3))
  refine x_aload1 1360 dL_law_1359 rfl ?_
  refine xl_arg 1365 1 i dL_law_1360 dL_law_1361 dL_law_1362 dL_law_1363 dL_law_1364 rfl (by decide) (by decide) hi hL ?_
  refine xl_arg 1370 2 i dL_law_1365 dL_law_1366 dL_law_1367 dL_law_1368 dL_law_1369 rfl (by decide) (by decide) hi hL ?_
  refine xl_arg 1375 3 i dL_law_1370 dL_law_1371 dL_law_1372 dL_law_1373 dL_law_1374 rfl (by decide) (by decide) hi hL ?_
  refine xl_call 1378 (a := 0) (As := [.int (xs (i + 1)), .int (xs (i + 2)), .int (xs (i + 3))]) rfl dL_law_1375 rfl cl_L_152 rfl h1 rfl hC (fun m1 q1 => ?_)
  refine x_aload2 1379 dL_law_1378 rfl ?_
  refine xl_arg 1384 1 i dL_law_1379 dL_law_1380 dL_law_1381 dL_law_1382 dL_law_1383 rfl (by decide) (by decide) hi hL ?_
  refine xl_arg 1389 2 i dL_law_1384 dL_law_1385 dL_law_1386 dL_law_1387 dL_law_1388 rfl (by decide) (by decide) hi hL ?_
  refine xl_arg 1394 3 i dL_law_1389 dL_law_1390 dL_law_1391 dL_law_1392 dL_law_1393 rfl (by decide) (by decide) hi hL ?_
  refine xl_call 1397 (a := 68) (As := [.int (xs (i + 1)), .int (xs (i + 2)), .int (xs (i + 3))]) rfl dL_law_1394 rfl cl_L_155 rfl h2 rfl (hM m1 q1) (fun m2 q2 => ?_)
  exact x_cmp_eq 1619 1400 dL_law_1397 (by decide) rfl (fun _ => hk m2 q2) (fun q => absurd rfl q)
theorem lc_move (G : G0 g) {m : Mem} (I : INV m) (i : Nat) (hi : i + 6 ≤ L) (hL : L ≤ 3072) (hk : ∀ m2, INV m2 → JX l g mL_law (KW g b L xs m2) 1619 (LZ g b i) []) : JX l g mL_law (KW g b L xs m) 1402 (LZ g b i) [] := by
  obtain ⟨d1, d2, r, P, h1, h2, hC, hM⟩ := op_move (l := l) (g := g) I (xs (i + 1)) (xs (i + 2)) (xs (i + 3)) (xs (i + 4)) (xs (i + 5))
  refine x_aload1 1403 dL_law_1402 rfl ?_
  refine xl_arg 1408 1 i dL_law_1403 dL_law_1404 dL_law_1405 dL_law_1406 dL_law_1407 rfl (by decide) (by decide) hi hL ?_
  refine xl_arg 1413 2 i dL_law_1408 dL_law_1409 dL_law_1410 dL_law_1411 dL_law_1412 rfl (by decide) (by decide) hi hL ?_
  refine xl_arg 1418 3 i dL_law_1413 dL_law_1414 dL_law_1415 dL_law_1416 dL_law_1417 rfl (by decide) (by decide) hi hL ?_
  refine xl_arg 1423 4 i dL_law_1418 dL_law_1419 dL_law_1420 dL_law_1421 dL_law_1422 rfl (by decide) (by decide) hi hL ?_
  refine xl_arg 1428 5 i dL_law_1423 dL_law_1424 dL_law_1425 dL_law_1426 dL_law_1427 rfl (by decide) (by decide) hi hL ?_
  refine xl_call 1431 (a := 0) (As := [.int (xs (i + 1)), .int (xs (i + 2)), .int (xs (i + 3)), .int (xs (i + 4)), .int (xs (i + 5))]) rfl dL_law_1428 rfl cl_L_156 rfl h1 rfl hC (fun m1 q1 => ?_)
  refine x_aload2 1432 dL_law_1431 rfl ?_
  refine xl_arg 1437 1 i dL_law_1432 dL_law_1433 dL_law_1434 dL_law_1435 dL_law_1436 rfl (by decide) (by decide) hi hL ?_
  refine xl_arg 1442 2 i dL_law_1437 dL_law_1438 dL_law_1439 dL_law_1440 dL_law_1441 rfl (by decide) (by decide) hi hL ?_
  refine xl_arg 1447 3 i dL_law_1442 dL_law_1443 dL_law_1444 dL_law_1445 dL_law_1446 rfl (by decide) (by decide) hi hL ?_
  refine xl_arg 1452 4 i dL_law_1447 dL_law_1448 dL_law_1449 dL_law_1450 dL_law_1451 rfl (by decide) (by decide) hi hL ?_
  refine xl_arg 1457 5 i dL_law_1452 dL_law_1453 dL_law_1454 dL_law_1455 dL_law_1456 rfl (by decide) (by decide) hi hL ?_
  refine xl_call 1460 (a := 68) (As := [.int (xs (i + 1)), .int (xs (i + 2)), .int (xs (i + 3)), .int (xs (i + 4)), .int (xs (i + 5))]) rfl dL_law_1457 rfl cl_L_160 rfl h2 rfl (hM m1 q1) (fun m2 q2 => ?_)
  exact x_cmp_eq 1619 1463 dL_law_1460 (by decide) rfl (fun _ => hk m2 q2) (fun q => absurd rfl q)
theorem lc_suns (G : G0 g) {m : Mem} (I : INV m) (i : Nat) (hi : i + 6 ≤ L) (hL : L ≤ 3072) (hk : ∀ m2, INV m2 → JX l g mL_law (KW g b L xs m2) 1619 (LZ g b i) []) : JX l g mL_law (KW g b L xs m) 1465 (LZ g b i) [] := by
  obtain ⟨d1, d2, r, P, h1, h2, hC, hM⟩ := op_suns (l := l) (g := g) I (xs (i + 1))
  refine x_aload1 1466 dL_law_1465 rfl ?_
  refine xl_arg 1471 1 i dL_law_1466 dL_law_1467 dL_law_1468 dL_law_1469 dL_law_1470 rfl (by decide) (by decide) hi hL ?_
  refine xl_call 1474 (a := 0) (As := [.int (xs (i + 1))]) rfl dL_law_1471 rfl cl_L_161 rfl h1 rfl hC (fun m1 q1 => ?_)
  refine x_aload2 1475 dL_law_1474 rfl ?_
  refine xl_arg 1480 1 i dL_law_1475 dL_law_1476 dL_law_1477 dL_law_1478 dL_law_1479 rfl (by decide) (by decide) hi hL ?_
  refine xl_call 1483 (a := 68) (As := [.int (xs (i + 1))]) rfl dL_law_1480 rfl cl_L_164 rfl h2 rfl (hM m1 q1) (fun m2 q2 => ?_)
  exact x_cmp_eq 1619 1486 dL_law_1483 (by decide) rfl (fun _ => hk m2 q2) (fun q => absurd rfl q)
theorem lc_judge (G : G0 g) {m : Mem} (I : INV m) (i : Nat) (hi : i + 6 ≤ L) (hL : L ≤ 3072) (hk : ∀ m2, INV m2 → JX l g mL_law (KW g b L xs m2) 1619 (LZ g b i) []) : JX l g mL_law (KW g b L xs m) 1488 (LZ g b i) [] := by
  obtain ⟨d1, d2, r, P, h1, h2, hC, hM⟩ := op_judge (l := l) (g := g) I (xs (i + 1))
  refine x_aload1 1489 dL_law_1488 rfl ?_
  refine xl_arg 1494 1 i dL_law_1489 dL_law_1490 dL_law_1491 dL_law_1492 dL_law_1493 rfl (by decide) (by decide) hi hL ?_
  refine xl_call 1497 (a := 0) (As := [.int (xs (i + 1))]) rfl dL_law_1494 rfl cl_L_165 rfl h1 rfl hC (fun m1 q1 => ?_)
  refine x_aload2 1498 dL_law_1497 rfl ?_
  refine xl_arg 1503 1 i dL_law_1498 dL_law_1499 dL_law_1500 dL_law_1501 dL_law_1502 rfl (by decide) (by decide) hi hL ?_
  refine xl_call 1506 (a := 68) (As := [.int (xs (i + 1))]) rfl dL_law_1503 rfl cl_L_168 rfl h2 rfl (hM m1 q1) (fun m2 q2 => ?_)
  exact x_cmp_eq 1619 1509 dL_law_1506 (by decide) rfl (fun _ => hk m2 q2) (fun q => absurd rfl q)
theorem lc_image (G : G0 g) {m : Mem} (I : INV m) (i : Nat) (hi : i + 6 ≤ L) (hL : L ≤ 3072) (hk : ∀ m2, INV m2 → JX l g mL_law (KW g b L xs m2) 1619 (LZ g b i) []) : JX l g mL_law (KW g b L xs m) 1511 (LZ g b i) [] := by
  obtain ⟨d1, d2, r, P, h1, h2, hC, hM⟩ := op_image (l := l) (g := g) I 
  refine x_aload1 1512 dL_law_1511 rfl ?_
  refine xl_call 1515 (a := 0) (As := []) rfl dL_law_1512 rfl cl_L_169 rfl h1 rfl hC (fun m1 q1 => ?_)
  refine x_aload2 1516 dL_law_1515 rfl ?_
  refine xl_call 1519 (a := 68) (As := []) rfl dL_law_1516 rfl cl_L_173 rfl h2 rfl (hM m1 q1) (fun m2 q2 => ?_)
  exact x_cmp_eq 1619 1522 dL_law_1519 (by decide) rfl (fun _ => hk m2 q2) (fun q => absurd rfl q)
theorem lc_restore (G : G0 g) {m : Mem} (I : INV m) (i : Nat) (hi : i + 6 ≤ L) (hL : L ≤ 3072) (hk : ∀ m2, INV m2 → JX l g mL_law (KW g b L xs m2) 1619 (LZ g b i) []) : JX l g mL_law (KW g b L xs m) 1524 (LZ g b i) [] := by
  obtain ⟨d1, d2, r, P, h1, h2, hC, hM⟩ := op_restore (l := l) (g := g) I 
  refine x_aload1 1525 dL_law_1524 rfl ?_
  refine xl_call 1528 (a := 0) (As := []) rfl dL_law_1525 rfl cl_L_174 rfl h1 rfl hC (fun m1 q1 => ?_)
  refine x_aload2 1529 dL_law_1528 rfl ?_
  refine xl_call 1532 (a := 68) (As := []) rfl dL_law_1529 rfl cl_L_177 rfl h2 rfl (hM m1 q1) (fun m2 q2 => ?_)
  exact x_cmp_eq 1619 1535 dL_law_1532 (by decide) rfl (fun _ => hk m2 q2) (fun q => absurd rfl q)
theorem lc_tell (G : G0 g) {m : Mem} (I : INV m) (i : Nat) (hi : i + 6 ≤ L) (hL : L ≤ 3072) (hk : ∀ m2, INV m2 → JX l g mL_law (KW g b L xs m2) 1619 (LZ g b i) []) : JX l g mL_law (KW g b L xs m) 1537 (LZ g b i) [] := by
  obtain ⟨d1, d2, r, P, h1, h2, hC, hM⟩ := op_tell (l := l) (g := g) I (xs (i + 1))
  refine x_aload1 1538 dL_law_1537 rfl ?_
  refine xl_arg 1543 1 i dL_law_1538 dL_law_1539 dL_law_1540 dL_law_1541 dL_law_1542 rfl (by decide) (by decide) hi hL ?_
  refine xl_call 1546 (a := 0) (As := [.int (xs (i + 1))]) rfl dL_law_1543 rfl cl_L_178 rfl h1 rfl hC (fun m1 q1 => ?_)
  refine x_aload2 1547 dL_law_1546 rfl ?_
  refine xl_arg 1552 1 i dL_law_1547 dL_law_1548 dL_law_1549 dL_law_1550 dL_law_1551 rfl (by decide) (by decide) hi hL ?_
  refine xl_call 1555 (a := 68) (As := [.int (xs (i + 1))]) rfl dL_law_1552 rfl cl_L_181 rfl h2 rfl (hM m1 q1) (fun m2 q2 => ?_)
  exact x_cmp_eq 1619 1558 dL_law_1555 (by decide) rfl (fun _ => hk m2 q2) (fun q => absurd rfl q)
theorem lc_check (G : G0 g) {m : Mem} (I : INV m) (i : Nat) (hi : i + 6 ≤ L) (hL : L ≤ 3072) (hk : ∀ m2, INV m2 → JX l g mL_law (KW g b L xs m2) 1619 (LZ g b i) []) : JX l g mL_law (KW g b L xs m) 1560 (LZ g b i) [] := by
  obtain ⟨d1, d2, r, P, h1, h2, hC, hM⟩ := op_check (l := l) (g := g) I 
  refine x_aload1 1561 dL_law_1560 rfl ?_
  refine xl_call 1564 (a := 0) (As := []) rfl dL_law_1561 rfl cl_L_182 rfl h1 rfl hC (fun m1 q1 => ?_)
  refine x_aload2 1565 dL_law_1564 rfl ?_
  refine xl_call 1568 (a := 68) (As := []) rfl dL_law_1565 rfl cl_L_185 rfl h2 rfl (hM m1 q1) (fun m2 q2 => ?_)
  exact x_cmp_eq 1619 1571 dL_law_1568 (by decide) rfl (fun _ => hk m2 q2) (fun q => absurd rfl q)
theorem lc_count (G : G0 g) {m : Mem} (I : INV m) (i : Nat) (hi : i + 6 ≤ L) (hL : L ≤ 3072) (hk : ∀ m2, INV m2 → JX l g mL_law (KW g b L xs m2) 1619 (LZ g b i) []) : JX l g mL_law (KW g b L xs m) 1573 (LZ g b i) [] := by
  obtain ⟨d1, d2, r, P, h1, h2, hC, hM⟩ := op_count (l := l) (g := g) I (xs (i + 1))
  refine x_aload1 1574 dL_law_1573 rfl ?_
  refine xl_arg 1579 1 i dL_law_1574 dL_law_1575 dL_law_1576 dL_law_1577 dL_law_1578 rfl (by decide) (by decide) hi hL ?_
  refine xl_call 1582 (a := 0) (As := [.int (xs (i + 1))]) rfl dL_law_1579 rfl cl_L_186 rfl h1 rfl hC (fun m1 q1 => ?_)
  refine x_aload2 1583 dL_law_1582 rfl ?_
  refine xl_arg 1588 1 i dL_law_1583 dL_law_1584 dL_law_1585 dL_law_1586 dL_law_1587 rfl (by decide) (by decide) hi hL ?_
  refine xl_call 1591 (a := 68) (As := [.int (xs (i + 1))]) rfl dL_law_1588 rfl cl_L_189 rfl h2 rfl (hM m1 q1) (fun m2 q2 => ?_)
  exact x_cmp_eq 1619 1594 dL_law_1591 (by decide) rfl (fun _ => hk m2 q2) (fun q => absurd rfl q)
theorem lc_told (G : G0 g) {m : Mem} (I : INV m) (i : Nat) (hi : i + 6 ≤ L) (hL : L ≤ 3072) (hk : ∀ m2, INV m2 → JX l g mL_law (KW g b L xs m2) 1619 (LZ g b i) []) : JX l g mL_law (KW g b L xs m) 1596 (LZ g b i) [] := by
  obtain ⟨d1, d2, r, P, h1, h2, hC, hM⟩ := op_told (l := l) (g := g) I (xs (i + 1))
  refine x_aload1 1597 dL_law_1596 rfl ?_
  refine xl_arg 1602 1 i dL_law_1597 dL_law_1598 dL_law_1599 dL_law_1600 dL_law_1601 rfl (by decide) (by decide) hi hL ?_
  refine xl_call 1605 (a := 0) (As := [.int (xs (i + 1))]) rfl dL_law_1602 rfl cl_L_190 rfl h1 rfl hC (fun m1 q1 => ?_)
  refine x_aload2 1606 dL_law_1605 rfl ?_
  refine xl_arg 1611 1 i dL_law_1606 dL_law_1607 dL_law_1608 dL_law_1609 dL_law_1610 rfl (by decide) (by decide) hi hL ?_
  refine xl_call 1614 (a := 68) (As := [.int (xs (i + 1))]) rfl dL_law_1611 rfl cl_L_193 rfl h2 rfl (hM m1 q1) (fun m2 q2 => ?_)
  exact x_cmp_eq 1619 1617 dL_law_1614 (by decide) rfl (fun _ => hk m2 q2) (fun q => absurd rfl q)
theorem law_exit {i L : Nat} (hL : L ≤ 3072) (hi : i ≤ L + 6) (h : ¬ (nI L - nI 6 < nI i)) : i + 6 ≤ L := by
  have h1 : ¬ ((nI L - nI 6).toInt < (nI i).toInt) := fun q => h (Int32.lt_iff_toInt_lt.mpr q)
  rw [pk_sub_toInt (by omega) (by decide), nI_toInt (by omega)] at h1
  omega
theorem law_loop (G : G0 g) (hL : L ≤ 3072) : ∀ (n i : Nat) (m : Mem), INV m → i ≤ L + 6 → L ≤ i + n → JX l g mL_law (KW g b L xs m) 18 (LZ g b i) [] := by
  intro n
  induction n with
  | zero =>
    intro i m I hi hn
    refine x_iload3 19 dL_law_18 rfl ?_
    refine x_aloadR 20 dL_law_19 rfl ?_
    refine xl_len 21 dL_law_20 rfl ?_
    refine x_bipush 23 dL_law_21 rfl (show _ = nI 6 by decide) ?_
    refine x_isub 24 dL_law_23 rfl ?_
    refine x_cmp_gt 1625 27 dL_law_24 (by decide) rfl (fun _ => ?_) (fun q => ?_)
    · refine x_iconst 1626 dL_law_1625 rfl (show _ = (1 : Int32) by decide) ?_
      exact xl_ret dL_law_1626
    · exact absurd (law_exit hL hi q) (by omega)
  | succ n ih =>
    intro i m I hi hn
    refine x_iload3 19 dL_law_18 rfl ?_
    refine x_aloadR 20 dL_law_19 rfl ?_
    refine xl_len 21 dL_law_20 rfl ?_
    refine x_bipush 23 dL_law_21 rfl (show _ = nI 6 by decide) ?_
    refine x_isub 24 dL_law_23 rfl ?_
    refine x_cmp_gt 1625 27 dL_law_24 (by decide) rfl (fun _ => ?_) (fun q => ?_)
    · refine x_iconst 1626 dL_law_1625 rfl (show _ = (1 : Int32) by decide) ?_
      exact xl_ret dL_law_1626
    · have h6 := law_exit hL hi q
      have hk : ∀ m2, INV m2 → JX l g mL_law (KW g b L xs m2) 1619 (LZ g b i) [] := fun m2 I2 => by
        refine x_iinc3 1622 (nI 6) dL_law_1619 rfl rfl rfl (by decide) ?_
        refine x_goto 18 dL_law_1622 (by decide) ?_
        rw [nI_add i 6]
        exact ih (i + 6) m2 I2 (by omega) (by omega)
      refine x_aloadR 28 dL_law_27 rfl ?_
      refine x_iload3 29 dL_law_28 rfl ?_
      refine xl_ld 30 i rfl (by omega) hL dL_law_29 rfl ?_
      refine x_bipush 32 dL_law_30 rfl (show _ = (63 : Int32) by decide) ?_
      refine x_iand 33 dL_law_32 rfl ?_
      generalize xs i &&& 63 = v
      by_cases hv : v.toInt < 0 ∨ 42 < v.toInt
      · exact x_tabOut 1619 dL_law_33 hv (by decide) (hk m I)
      · obtain ⟨k, hk1⟩ : ∃ k : Nat, v.toInt = k := ⟨v.toInt.toNat, by omega⟩
        have hk43 : k < 43 := by omega
        have e1 : ¬ v.toInt < 0 := by omega
        have e2 : ¬ 42 < v.toInt := by omega
        match k, hk1, hk43 with
        | 0, hk1, _ => exact x_tabIn 220 dL_law_33 e1 e2 (by rw [hk1]; rfl) (by decide) (lc_sill G I i h6 hL hk)
        | 1, hk1, _ => exact x_tabIn 263 dL_law_33 e1 e2 (by rw [hk1]; rfl) (by decide) (lc_ofSill G I i h6 hL hk)
        | 2, hk1, _ => exact x_tabIn 296 dL_law_33 e1 e2 (by rw [hk1]; rfl) (by decide) (lc_town G I i h6 hL hk)
        | 3, hk1, _ => exact x_tabIn 329 dL_law_33 e1 e2 (by rw [hk1]; rfl) (by decide) (lc_heir G I i h6 hL hk)
        | 4, hk1, _ => exact x_tabIn 372 dL_law_33 e1 e2 (by rw [hk1]; rfl) (by decide) (lc_ofHeir G I i h6 hL hk)
        | 5, hk1, _ => exact x_tabIn 405 dL_law_33 e1 e2 (by rw [hk1]; rfl) (by decide) (lc_change G I i h6 hL hk)
        | 6, hk1, _ => exact x_tabIn 448 dL_law_33 e1 e2 (by rw [hk1]; rfl) (by decide) (lc_become G I i h6 hL hk)
        | 7, hk1, _ => exact x_tabIn 481 dL_law_33 e1 e2 (by rw [hk1]; rfl) (by decide) (lc_as G I i h6 hL hk)
        | 8, hk1, _ => exact x_tabIn 514 dL_law_33 e1 e2 (by rw [hk1]; rfl) (by decide) (lc_feed G I i h6 hL hk)
        | 9, hk1, _ => exact x_tabIn 577 dL_law_33 e1 e2 (by rw [hk1]; rfl) (by decide) (lc_text G I i h6 hL hk)
        | 10, hk1, _ => exact x_tabIn 600 dL_law_33 e1 e2 (by rw [hk1]; rfl) (by decide) (lc_law G I i h6 hL hk)
        | 11, hk1, _ => exact x_tabIn 653 dL_law_33 e1 e2 (by rw [hk1]; rfl) (by decide) (lc_days G I i h6 hL hk)
        | 12, hk1, _ => exact x_tabIn 676 dL_law_33 e1 e2 (by rw [hk1]; rfl) (by decide) (lc_loose G I i h6 hL hk)
        | 13, hk1, _ => exact x_tabIn 699 dL_law_33 e1 e2 (by rw [hk1]; rfl) (by decide) (lc_then G I i h6 hL hk)
        | 14, hk1, _ => exact x_tabIn 732 dL_law_33 e1 e2 (by rw [hk1]; rfl) (by decide) (lc_first G I i h6 hL hk)
        | 15, hk1, _ => exact x_tabIn 765 dL_law_33 e1 e2 (by rw [hk1]; rfl) (by decide) (lc_meet G I i h6 hL hk)
        | 16, hk1, _ => exact x_tabIn 798 dL_law_33 e1 e2 (by rw [hk1]; rfl) (by decide) (lc_bright G I i h6 hL hk)
        | 17, hk1, _ => exact x_tabIn 831 dL_law_33 e1 e2 (by rw [hk1]; rfl) (by decide) (lc_place G I i h6 hL hk)
        | 18, hk1, _ => exact x_tabIn 874 dL_law_33 e1 e2 (by rw [hk1]; rfl) (by decide) (lc_cartsFor G I i h6 hL hk)
        | 19, hk1, _ => exact x_tabIn 907 dL_law_33 e1 e2 (by rw [hk1]; rfl) (by decide) (lc_stop G I i h6 hL hk)
        | 20, hk1, _ => exact x_tabIn 940 dL_law_33 e1 e2 (by rw [hk1]; rfl) (by decide) (lc_swap G I i h6 hL hk)
        | 21, hk1, _ => exact x_tabIn 963 dL_law_33 e1 e2 (by rw [hk1]; rfl) (by decide) (lc_sunFor G I i h6 hL hk)
        | 22, hk1, _ => exact x_tabIn 1006 dL_law_33 e1 e2 (by rw [hk1]; rfl) (by decide) (lc_sweepFor G I i h6 hL hk)
        | 23, hk1, _ => exact x_tabIn 1039 dL_law_33 e1 e2 (by rw [hk1]; rfl) (by decide) (lc_whence G I i h6 hL hk)
        | 24, hk1, _ => exact x_tabIn 1082 dL_law_33 e1 e2 (by rw [hk1]; rfl) (by decide) (lc_bare G I i h6 hL hk)
        | 25, hk1, _ => exact x_tabIn 1105 dL_law_33 e1 e2 (by rw [hk1]; rfl) (by decide) (lc_crowd G I i h6 hL hk)
        | 26, hk1, _ => exact x_tabIn 1138 dL_law_33 e1 e2 (by rw [hk1]; rfl) (by decide) (lc_light G I i h6 hL hk)
        | 27, hk1, _ => exact x_tabIn 1161 dL_law_33 e1 e2 (by rw [hk1]; rfl) (by decide) (lc_late G I i h6 hL hk)
        | 28, hk1, _ => exact x_tabIn 1184 dL_law_33 e1 e2 (by rw [hk1]; rfl) (by decide) (lc_odds G I i h6 hL hk)
        | 29, hk1, _ => exact x_tabIn 1227 dL_law_33 e1 e2 (by rw [hk1]; rfl) (by decide) (lc_seed G I i h6 hL hk)
        | 30, hk1, _ => exact x_tabIn 1250 dL_law_33 e1 e2 (by rw [hk1]; rfl) (by decide) (lc_voice G I i h6 hL hk)
        | 31, hk1, _ => exact x_tabIn 1293 dL_law_33 e1 e2 (by rw [hk1]; rfl) (by decide) (lc_trace G I i h6 hL hk)
        | 32, hk1, _ => exact x_tabIn 1316 dL_law_33 e1 e2 (by rw [hk1]; rfl) (by decide) (lc_sheet G I i h6 hL hk)
        | 33, hk1, _ => exact x_tabIn 1359 dL_law_33 e1 e2 (by rw [hk1]; rfl) (by decide) (lc_put G I i h6 hL hk)
        | 34, hk1, _ => exact x_tabIn 1402 dL_law_33 e1 e2 (by rw [hk1]; rfl) (by decide) (lc_move G I i h6 hL hk)
        | 35, hk1, _ => exact x_tabIn 1465 dL_law_33 e1 e2 (by rw [hk1]; rfl) (by decide) (lc_suns G I i h6 hL hk)
        | 36, hk1, _ => exact x_tabIn 1488 dL_law_33 e1 e2 (by rw [hk1]; rfl) (by decide) (lc_judge G I i h6 hL hk)
        | 37, hk1, _ => exact x_tabIn 1511 dL_law_33 e1 e2 (by rw [hk1]; rfl) (by decide) (lc_image G I i h6 hL hk)
        | 38, hk1, _ => exact x_tabIn 1524 dL_law_33 e1 e2 (by rw [hk1]; rfl) (by decide) (lc_restore G I i h6 hL hk)
        | 39, hk1, _ => exact x_tabIn 1537 dL_law_33 e1 e2 (by rw [hk1]; rfl) (by decide) (lc_tell G I i h6 hL hk)
        | 40, hk1, _ => exact x_tabIn 1560 dL_law_33 e1 e2 (by rw [hk1]; rfl) (by decide) (lc_check G I i h6 hL hk)
        | 41, hk1, _ => exact x_tabIn 1573 dL_law_33 e1 e2 (by rw [hk1]; rfl) (by decide) (lc_count G I i h6 hL hk)
        | 42, hk1, _ => exact x_tabIn 1596 dL_law_33 e1 e2 (by rw [hk1]; rfl) (by decide) (lc_told G I i h6 hL hk)
        | k + 43, _, h => exact absurd h (by omega)
end LAW
