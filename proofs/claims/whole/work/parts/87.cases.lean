theorem lcmp_rf (x : Int64) : lg_cmp x x = 0 := by
  unfold lg_cmp
  simp
/-! the cases of the law -/
theorem lc_0 {E : zE} {b L i : Nat} {xs : Nat → Int32} {σ : zM} {S : sS} (hL : L ≤ 3072) (hi : i + 6 ≤ L) (hW : WF S) (hX : RX S σ) (hM : RM S σ) (K : ∀ (S' : sS) (τ : zM), WF S' → RX S' τ → RM S' τ → Lw E b L xs 1887 (lsL E b i) [] τ) : Lw E b L xs 240 (lsL E b i) [] σ := by
  refine w_aload_n 241 dL_law_240 rfl rfl ?_
  refine w_arg 246 1 dL_law_241 dL_law_242 dL_law_243 dL_law_244 dL_law_245 rfl (by decide) (by omega) hL ?_
  refine w_arg 251 2 dL_law_246 dL_law_247 dL_law_248 dL_law_249 dL_law_250 rfl (by decide) (by omega) hL ?_
  refine w_call 254 (As := [.int (xs (i + 1)), .int (xs (i + 2))]) (rest := []) (a := 0) (ci := 9) (tX9_row (d := 0) hW hX) kX9_row dL_law_251 rfl lL_13 rfl rfl rfl (by decide) (by decide) (fun v τ h => ?_)
  obtain ⟨x, rfl, hx, hX1, hF⟩ := h
  have hM1 : RM S τ := hM.fr hW hF
  refine w_aload_n 255 dL_law_254 rfl rfl ?_
  refine w_arg 260 1 dL_law_255 dL_law_256 dL_law_257 dL_law_258 dL_law_259 rfl (by decide) (by omega) hL ?_
  refine w_arg 265 2 dL_law_260 dL_law_261 dL_law_262 dL_law_263 dL_law_264 rfl (by decide) (by omega) hL ?_
  refine w_call 268 (As := [.int (xs (i + 1)), .int (xs (i + 2))]) (rest := [.int x]) (a := 102) (ci := 10) (tX10_row (d := 0) hW hM1) kX10_row dL_law_265 rfl lL_17 rfl rfl rfl (Nat.le_of_ble_eq_true rfl) (by decide) (fun v τ2 h => ?_)
  obtain ⟨y, rfl, hy, hM2, hF2⟩ := h
  have hW2 : WF (spRow S (xs (i + 1)) (xs (i + 2))).2 := wfRow hW (xs (i + 1)) (xs (i + 2))
  have hX2 := RX.fr hW2 hX1 hF2
  exact w_icmp_eq 1887 271 dL_law_268 (by decide) rfl (fun _ => K _ _ hW2 hX2 hM2) (fun h => absurd (hx.trans hy.symm) h)
theorem lc_1 {E : zE} {b L i : Nat} {xs : Nat → Int32} {σ : zM} {S : sS} (hL : L ≤ 3072) (hi : i + 6 ≤ L) (hW : WF S) (hX : RX S σ) (hM : RM S σ) (K : ∀ (S' : sS) (τ : zM), WF S' → RX S' τ → RM S' τ → Lw E b L xs 1887 (lsL E b i) [] τ) : Lw E b L xs 273 (lsL E b i) [] σ := by
  refine w_aload_n 274 dL_law_273 rfl rfl ?_
  refine w_arg 279 1 dL_law_274 dL_law_275 dL_law_276 dL_law_277 dL_law_278 rfl (by decide) (by omega) hL ?_
  refine w_arg 284 2 dL_law_279 dL_law_280 dL_law_281 dL_law_282 dL_law_283 rfl (by decide) (by omega) hL ?_
  refine w_arg 289 3 dL_law_284 dL_law_285 dL_law_286 dL_law_287 dL_law_288 rfl (by decide) (by omega) hL ?_
  refine w_call 292 (As := [.int (xs (i + 1)), .int (xs (i + 2)), .int (xs (i + 3))]) (rest := []) (a := 0) (ci := 9) (tX9_lay (d := 0) hW hX) kX9_lay dL_law_289 rfl lL_18 rfl rfl rfl (by decide) (by decide) (fun v τ h => ?_)
  obtain ⟨x, rfl, hx, hX1, hF⟩ := h
  have hM1 : RM S τ := hM.fr hW hF
  refine w_aload_n 293 dL_law_292 rfl rfl ?_
  refine w_arg 298 1 dL_law_293 dL_law_294 dL_law_295 dL_law_296 dL_law_297 rfl (by decide) (by omega) hL ?_
  refine w_arg 303 2 dL_law_298 dL_law_299 dL_law_300 dL_law_301 dL_law_302 rfl (by decide) (by omega) hL ?_
  refine w_arg 308 3 dL_law_303 dL_law_304 dL_law_305 dL_law_306 dL_law_307 rfl (by decide) (by omega) hL ?_
  refine w_call 311 (As := [.int (xs (i + 1)), .int (xs (i + 2)), .int (xs (i + 3))]) (rest := [.int x]) (a := 102) (ci := 10) (tX10_lay (d := 0) hW hM1) kX10_lay dL_law_308 rfl lL_22 rfl rfl rfl (Nat.le_of_ble_eq_true rfl) (by decide) (fun v τ2 h => ?_)
  obtain ⟨y, rfl, hy, hM2, hF2⟩ := h
  have hW2 : WF (spLay S (xs (i + 1)) (xs (i + 2)) (xs (i + 3))).2 := wfLay hW (xs (i + 1)) (xs (i + 2)) (xs (i + 3))
  have hX2 := RX.fr hW2 hX1 hF2
  exact w_icmp_eq 1887 314 dL_law_311 (by decide) rfl (fun _ => K _ _ hW2 hX2 hM2) (fun h => absurd (hx.trans hy.symm) h)
theorem lc_2 {E : zE} {b L i : Nat} {xs : Nat → Int32} {σ : zM} {S : sS} (hL : L ≤ 3072) (hi : i + 6 ≤ L) (hW : WF S) (hX : RX S σ) (hM : RM S σ) (K : ∀ (S' : sS) (τ : zM), WF S' → RX S' τ → RM S' τ → Lw E b L xs 1887 (lsL E b i) [] τ) : Lw E b L xs 316 (lsL E b i) [] σ := by
  refine w_aload_n 317 dL_law_316 rfl rfl ?_
  refine w_arg 322 1 dL_law_317 dL_law_318 dL_law_319 dL_law_320 dL_law_321 rfl (by decide) (by omega) hL ?_
  refine w_arg 327 2 dL_law_322 dL_law_323 dL_law_324 dL_law_325 dL_law_326 rfl (by decide) (by omega) hL ?_
  refine w_call 330 (As := [.int (xs (i + 1)), .int (xs (i + 2))]) (rest := []) (a := 0) (ci := 9) (tX9_at (d := 0) hW hX) kX9_at dL_law_327 rfl lL_23 rfl rfl rfl (by decide) (by decide) (fun v τ h => ?_)
  obtain ⟨x, rfl, hx, hX1, hF⟩ := h
  have hM1 : RM S τ := hM.fr hW hF
  refine w_aload_n 331 dL_law_330 rfl rfl ?_
  refine w_arg 336 1 dL_law_331 dL_law_332 dL_law_333 dL_law_334 dL_law_335 rfl (by decide) (by omega) hL ?_
  refine w_arg 341 2 dL_law_336 dL_law_337 dL_law_338 dL_law_339 dL_law_340 rfl (by decide) (by omega) hL ?_
  refine w_call 344 (As := [.int (xs (i + 1)), .int (xs (i + 2))]) (rest := [.int x]) (a := 102) (ci := 10) (tX10_at (d := 0) hW hM1) kX10_at dL_law_341 rfl lL_26 rfl rfl rfl (Nat.le_of_ble_eq_true rfl) (by decide) (fun v τ2 h => ?_)
  obtain ⟨y, rfl, hy, hM2, hF2⟩ := h
  have hW2 : WF (spAt S (xs (i + 1)) (xs (i + 2))).2 := wfAt hW (xs (i + 1)) (xs (i + 2))
  have hX2 := RX.fr hW2 hX1 hF2
  exact w_icmp_eq 1887 347 dL_law_344 (by decide) rfl (fun _ => K _ _ hW2 hX2 hM2) (fun h => absurd (hx.trans hy.symm) h)
theorem lc_3 {E : zE} {b L i : Nat} {xs : Nat → Int32} {σ : zM} {S : sS} (hL : L ≤ 3072) (hi : i + 6 ≤ L) (hW : WF S) (hX : RX S σ) (hM : RM S σ) (K : ∀ (S' : sS) (τ : zM), WF S' → RX S' τ → RM S' τ → Lw E b L xs 1887 (lsL E b i) [] τ) : Lw E b L xs 349 (lsL E b i) [] σ := by
  refine w_aload_n 350 dL_law_349 rfl rfl ?_
  refine w_arg 355 1 dL_law_350 dL_law_351 dL_law_352 dL_law_353 dL_law_354 rfl (by decide) (by omega) hL ?_
  refine w_call 358 (As := [.int (xs (i + 1))]) (rest := []) (a := 0) (ci := 9) (tX9_tear (d := 0) hW hX) kX9_tear dL_law_355 rfl lL_27 rfl rfl rfl (by decide) (by decide) (fun v τ h => ?_)
  obtain ⟨x, rfl, hx, hX1, hF⟩ := h
  have hM1 : RM S τ := hM.fr hW hF
  refine w_aload_n 359 dL_law_358 rfl rfl ?_
  refine w_arg 364 1 dL_law_359 dL_law_360 dL_law_361 dL_law_362 dL_law_363 rfl (by decide) (by omega) hL ?_
  refine w_call 367 (As := [.int (xs (i + 1))]) (rest := [.int x]) (a := 102) (ci := 10) (tX10_tear (d := 0) hW hM1) kX10_tear dL_law_364 rfl lL_31 rfl rfl rfl (Nat.le_of_ble_eq_true rfl) (by decide) (fun v τ2 h => ?_)
  obtain ⟨y, rfl, hy, hM2, hF2⟩ := h
  have hW2 : WF (spTear S (xs (i + 1))).2 := wfTear hW (xs (i + 1))
  have hX2 := RX.fr hW2 hX1 hF2
  exact w_icmp_eq 1887 370 dL_law_367 (by decide) rfl (fun _ => K _ _ hW2 hX2 hM2) (fun h => absurd (hx.trans hy.symm) h)
theorem lc_4 {E : zE} {b L i : Nat} {xs : Nat → Int32} {σ : zM} {S : sS} (hL : L ≤ 3072) (hi : i + 6 ≤ L) (hW : WF S) (hX : RX S σ) (hM : RM S σ) (K : ∀ (S' : sS) (τ : zM), WF S' → RX S' τ → RM S' τ → Lw E b L xs 1887 (lsL E b i) [] τ) : Lw E b L xs 372 (lsL E b i) [] σ := by
  refine w_aload_n 373 dL_law_372 rfl rfl ?_
  refine w_arg 378 1 dL_law_373 dL_law_374 dL_law_375 dL_law_376 dL_law_377 rfl (by decide) (by omega) hL ?_
  refine w_arg 383 2 dL_law_378 dL_law_379 dL_law_380 dL_law_381 dL_law_382 rfl (by decide) (by omega) hL ?_
  refine w_arg 388 3 dL_law_383 dL_law_384 dL_law_385 dL_law_386 dL_law_387 rfl (by decide) (by omega) hL ?_
  refine w_arg 393 4 dL_law_388 dL_law_389 dL_law_390 dL_law_391 dL_law_392 rfl (by decide) (by omega) hL ?_
  refine w_arg 398 5 dL_law_393 dL_law_394 dL_law_395 dL_law_396 dL_law_397 rfl (by decide) (by omega) hL ?_
  refine w_call 401 (As := [.int (xs (i + 1)), .int (xs (i + 2)), .int (xs (i + 3)), .int (xs (i + 4)), .int (xs (i + 5))]) (rest := []) (a := 0) (ci := 9) (tX9_copy (d := 0) hW hX) kX9_copy dL_law_398 rfl lL_32 rfl rfl rfl (by decide) (by decide) (fun v τ h => ?_)
  obtain ⟨x, rfl, hx, hX1, hF⟩ := h
  have hM1 : RM S τ := hM.fr hW hF
  refine w_aload_n 402 dL_law_401 rfl rfl ?_
  refine w_arg 407 1 dL_law_402 dL_law_403 dL_law_404 dL_law_405 dL_law_406 rfl (by decide) (by omega) hL ?_
  refine w_arg 412 2 dL_law_407 dL_law_408 dL_law_409 dL_law_410 dL_law_411 rfl (by decide) (by omega) hL ?_
  refine w_arg 417 3 dL_law_412 dL_law_413 dL_law_414 dL_law_415 dL_law_416 rfl (by decide) (by omega) hL ?_
  refine w_arg 422 4 dL_law_417 dL_law_418 dL_law_419 dL_law_420 dL_law_421 rfl (by decide) (by omega) hL ?_
  refine w_arg 427 5 dL_law_422 dL_law_423 dL_law_424 dL_law_425 dL_law_426 rfl (by decide) (by omega) hL ?_
  refine w_call 430 (As := [.int (xs (i + 1)), .int (xs (i + 2)), .int (xs (i + 3)), .int (xs (i + 4)), .int (xs (i + 5))]) (rest := [.int x]) (a := 102) (ci := 10) (tX10_copy (d := 0) hW hM1) kX10_copy dL_law_427 rfl lL_36 rfl rfl rfl (Nat.le_of_ble_eq_true rfl) (by decide) (fun v τ2 h => ?_)
  obtain ⟨y, rfl, hy, hM2, hF2⟩ := h
  have hW2 : WF (spCopy S (xs (i + 1)) (xs (i + 2)) (xs (i + 3)) (xs (i + 4)) (xs (i + 5))).2 := wfCopy hW (xs (i + 1)) (xs (i + 2)) (xs (i + 3)) (xs (i + 4)) (xs (i + 5))
  have hX2 := RX.fr hW2 hX1 hF2
  exact w_icmp_eq 1887 433 dL_law_430 (by decide) rfl (fun _ => K _ _ hW2 hX2 hM2) (fun h => absurd (hx.trans hy.symm) h)
theorem lc_5 {E : zE} {b L i : Nat} {xs : Nat → Int32} {σ : zM} {S : sS} (hL : L ≤ 3072) (hi : i + 6 ≤ L) (hW : WF S) (hX : RX S σ) (hM : RM S σ) (K : ∀ (S' : sS) (τ : zM), WF S' → RX S' τ → RM S' τ → Lw E b L xs 1887 (lsL E b i) [] τ) : Lw E b L xs 435 (lsL E b i) [] σ := by
  refine w_aload_n 436 dL_law_435 rfl rfl ?_
  refine w_arg 441 1 dL_law_436 dL_law_437 dL_law_438 dL_law_439 dL_law_440 rfl (by decide) (by omega) hL ?_
  refine w_call 444 (As := [.int (xs (i + 1))]) (rest := []) (a := 0) (ci := 9) (tX9_mean (d := 0) hW hX) kX9_mean dL_law_441 rfl lL_37 rfl rfl rfl (by decide) (by decide) (fun v τ h => ?_)
  obtain ⟨x, rfl, hx, hX1, hF⟩ := h
  have hM1 : RM S τ := hM.fr hW hF
  refine w_aload_n 445 dL_law_444 rfl rfl ?_
  refine w_arg 450 1 dL_law_445 dL_law_446 dL_law_447 dL_law_448 dL_law_449 rfl (by decide) (by omega) hL ?_
  refine w_call 453 (As := [.int (xs (i + 1))]) (rest := [.int x]) (a := 102) (ci := 10) (tX10_mean (d := 0) hW hM1) kX10_mean dL_law_450 rfl lL_40 rfl rfl rfl (Nat.le_of_ble_eq_true rfl) (by decide) (fun v τ2 h => ?_)
  obtain ⟨y, rfl, hy, hM2, hF2⟩ := h
  have hW2 : WF (spMean S (xs (i + 1))).2 := wfMean hW (xs (i + 1))
  have hX2 := RX.fr hW2 hX1 hF2
  exact w_icmp_eq 1887 456 dL_law_453 (by decide) rfl (fun _ => K _ _ hW2 hX2 hM2) (fun h => absurd (hx.trans hy.symm) h)
theorem lc_6 {E : zE} {b L i : Nat} {xs : Nat → Int32} {σ : zM} {S : sS} (hL : L ≤ 3072) (hi : i + 6 ≤ L) (hW : WF S) (hX : RX S σ) (hM : RM S σ) (K : ∀ (S' : sS) (τ : zM), WF S' → RX S' τ → RM S' τ → Lw E b L xs 1887 (lsL E b i) [] τ) : Lw E b L xs 458 (lsL E b i) [] σ := by
  refine w_aload_n 459 dL_law_458 rfl rfl ?_
  refine w_arg 464 1 dL_law_459 dL_law_460 dL_law_461 dL_law_462 dL_law_463 rfl (by decide) (by omega) hL ?_
  refine w_arg 469 2 dL_law_464 dL_law_465 dL_law_466 dL_law_467 dL_law_468 rfl (by decide) (by omega) hL ?_
  refine w_call 472 (As := [.int (xs (i + 1)), .int (xs (i + 2))]) (rest := []) (a := 0) (ci := 9) (tX9_text (d := 0) hW hX) kX9_text dL_law_469 rfl lL_41 rfl rfl rfl (by decide) (by decide) (fun v τ h => ?_)
  obtain ⟨x, rfl, hx, hX1, hF⟩ := h
  have hM1 : RM S τ := hM.fr hW hF
  refine w_aload_n 473 dL_law_472 rfl rfl ?_
  refine w_arg 478 1 dL_law_473 dL_law_474 dL_law_475 dL_law_476 dL_law_477 rfl (by decide) (by omega) hL ?_
  refine w_arg 483 2 dL_law_478 dL_law_479 dL_law_480 dL_law_481 dL_law_482 rfl (by decide) (by omega) hL ?_
  refine w_call 486 (As := [.int (xs (i + 1)), .int (xs (i + 2))]) (rest := [.int x]) (a := 102) (ci := 10) (tX10_text (d := 0) hW hM1) kX10_text dL_law_483 rfl lL_44 rfl rfl rfl (Nat.le_of_ble_eq_true rfl) (by decide) (fun v τ2 h => ?_)
  obtain ⟨y, rfl, hy, hM2, hF2⟩ := h
  have hW2 : WF (spText S (xs (i + 1)) (xs (i + 2))).2 := wfText hW (xs (i + 1)) (xs (i + 2))
  have hX2 := RX.fr hW2 hX1 hF2
  exact w_icmp_eq 1887 489 dL_law_486 (by decide) rfl (fun _ => K _ _ hW2 hX2 hM2) (fun h => absurd (hx.trans hy.symm) h)
theorem lc_7 {E : zE} {b L i : Nat} {xs : Nat → Int32} {σ : zM} {S : sS} (hL : L ≤ 3072) (hi : i + 6 ≤ L) (hW : WF S) (hX : RX S σ) (hM : RM S σ) (K : ∀ (S' : sS) (τ : zM), WF S' → RX S' τ → RM S' τ → Lw E b L xs 1887 (lsL E b i) [] τ) : Lw E b L xs 491 (lsL E b i) [] σ := by
  refine w_aload_n 492 dL_law_491 rfl rfl ?_
  refine w_arg 497 1 dL_law_492 dL_law_493 dL_law_494 dL_law_495 dL_law_496 rfl (by decide) (by omega) hL ?_
  refine w_arg 502 2 dL_law_497 dL_law_498 dL_law_499 dL_law_500 dL_law_501 rfl (by decide) (by omega) hL ?_
  refine w_arg 507 3 dL_law_502 dL_law_503 dL_law_504 dL_law_505 dL_law_506 rfl (by decide) (by omega) hL ?_
  refine w_call 510 (As := [.int (xs (i + 1)), .int (xs (i + 2)), .int (xs (i + 3))]) (rest := []) (a := 0) (ci := 9) (tX9_put (d := 0) hW hX) kX9_put dL_law_507 rfl lL_45 rfl rfl rfl (by decide) (by decide) (fun v τ h => ?_)
  obtain ⟨x, rfl, hx, hX1, hF⟩ := h
  have hM1 : RM S τ := hM.fr hW hF
  refine w_aload_n 511 dL_law_510 rfl rfl ?_
  refine w_arg 516 1 dL_law_511 dL_law_512 dL_law_513 dL_law_514 dL_law_515 rfl (by decide) (by omega) hL ?_
  refine w_arg 521 2 dL_law_516 dL_law_517 dL_law_518 dL_law_519 dL_law_520 rfl (by decide) (by omega) hL ?_
  refine w_arg 526 3 dL_law_521 dL_law_522 dL_law_523 dL_law_524 dL_law_525 rfl (by decide) (by omega) hL ?_
  refine w_call 529 (As := [.int (xs (i + 1)), .int (xs (i + 2)), .int (xs (i + 3))]) (rest := [.int x]) (a := 102) (ci := 10) (tX10_put (d := 0) hW hM1) kX10_put dL_law_526 rfl lL_48 rfl rfl rfl (Nat.le_of_ble_eq_true rfl) (by decide) (fun v τ2 h => ?_)
  obtain ⟨y, rfl, hy, hM2, hF2⟩ := h
  have hW2 : WF (spPut S (xs (i + 1)) (xs (i + 2)) (xs (i + 3))).2 := wfPut hW (xs (i + 1)) (xs (i + 2)) (xs (i + 3))
  have hX2 := RX.fr hW2 hX1 hF2
  exact w_icmp_eq 1887 532 dL_law_529 (by decide) rfl (fun _ => K _ _ hW2 hX2 hM2) (fun h => absurd (hx.trans hy.symm) h)
theorem lc_8 {E : zE} {b L i : Nat} {xs : Nat → Int32} {σ : zM} {S : sS} (hL : L ≤ 3072) (hi : i + 6 ≤ L) (hW : WF S) (hX : RX S σ) (hM : RM S σ) (K : ∀ (S' : sS) (τ : zM), WF S' → RX S' τ → RM S' τ → Lw E b L xs 1887 (lsL E b i) [] τ) : Lw E b L xs 534 (lsL E b i) [] σ := by
  refine w_aload_n 535 dL_law_534 rfl rfl ?_
  refine w_arg 540 1 dL_law_535 dL_law_536 dL_law_537 dL_law_538 dL_law_539 rfl (by decide) (by omega) hL ?_
  refine w_call 543 (As := [.int (xs (i + 1))]) (rest := []) (a := 0) (ci := 9) (tX9_fault (d := 0) hW hX) kX9_fault dL_law_540 rfl lL_49 rfl rfl rfl (by decide) (by decide) (fun v τ h => ?_)
  obtain ⟨x, rfl, hx, hX1, hF⟩ := h
  have hM1 : RM S τ := hM.fr hW hF
  refine w_aload_n 544 dL_law_543 rfl rfl ?_
  refine w_arg 549 1 dL_law_544 dL_law_545 dL_law_546 dL_law_547 dL_law_548 rfl (by decide) (by omega) hL ?_
  refine w_call 552 (As := [.int (xs (i + 1))]) (rest := [.int x]) (a := 102) (ci := 10) (tX10_fault (d := 0) hW hM1) kX10_fault dL_law_549 rfl lL_52 rfl rfl rfl (Nat.le_of_ble_eq_true rfl) (by decide) (fun v τ2 h => ?_)
  obtain ⟨y, rfl, hy, hM2, hF2⟩ := h
  have hW2 : WF (spFault S (xs (i + 1))).2 := wfFault hW (xs (i + 1))
  have hX2 := RX.fr hW2 hX1 hF2
  exact w_icmp_eq 1887 555 dL_law_552 (by decide) rfl (fun _ => K _ _ hW2 hX2 hM2) (fun h => absurd (hx.trans hy.symm) h)
theorem lc_9 {E : zE} {b L i : Nat} {xs : Nat → Int32} {σ : zM} {S : sS} (hL : L ≤ 3072) (hi : i + 6 ≤ L) (hW : WF S) (hX : RX S σ) (hM : RM S σ) (K : ∀ (S' : sS) (τ : zM), WF S' → RX S' τ → RM S' τ → Lw E b L xs 1887 (lsL E b i) [] τ) : Lw E b L xs 557 (lsL E b i) [] σ := by
  refine w_aload_n 558 dL_law_557 rfl rfl ?_
  refine w_arg 563 1 dL_law_558 dL_law_559 dL_law_560 dL_law_561 dL_law_562 rfl (by decide) (by omega) hL ?_
  refine w_arg 568 2 dL_law_563 dL_law_564 dL_law_565 dL_law_566 dL_law_567 rfl (by decide) (by omega) hL ?_
  refine w_call 571 (As := [.int (xs (i + 1)), .int (xs (i + 2))]) (rest := []) (a := 0) (ci := 9) (tX9_box (d := 0) hW hX) kX9_box dL_law_568 rfl lL_53 rfl rfl rfl (by decide) (by decide) (fun v τ h => ?_)
  obtain ⟨x, rfl, hx, hX1, hF⟩ := h
  have hM1 : RM S τ := hM.fr hW hF
  refine w_aload_n 572 dL_law_571 rfl rfl ?_
  refine w_arg 577 1 dL_law_572 dL_law_573 dL_law_574 dL_law_575 dL_law_576 rfl (by decide) (by omega) hL ?_
  refine w_arg 582 2 dL_law_577 dL_law_578 dL_law_579 dL_law_580 dL_law_581 rfl (by decide) (by omega) hL ?_
  refine w_call 585 (As := [.int (xs (i + 1)), .int (xs (i + 2))]) (rest := [.int x]) (a := 102) (ci := 10) (tX10_box (d := 0) hW hM1) kX10_box dL_law_582 rfl lL_56 rfl rfl rfl (Nat.le_of_ble_eq_true rfl) (by decide) (fun v τ2 h => ?_)
  obtain ⟨y, rfl, hy, hM2, hF2⟩ := h
  have hW2 : WF (spBox S (xs (i + 1)) (xs (i + 2))).2 := WF_box hW (xs (i + 1)) (xs (i + 2))
  have hX2 := RX.fr hW2 hX1 hF2
  exact w_icmp_eq 1887 588 dL_law_585 (by decide) rfl (fun _ => K _ _ hW2 hX2 hM2) (fun h => absurd (hx.trans hy.symm) h)
theorem lc_10 {E : zE} {b L i : Nat} {xs : Nat → Int32} {σ : zM} {S : sS} (hL : L ≤ 3072) (hi : i + 6 ≤ L) (hW : WF S) (hX : RX S σ) (hM : RM S σ) (K : ∀ (S' : sS) (τ : zM), WF S' → RX S' τ → RM S' τ → Lw E b L xs 1887 (lsL E b i) [] τ) : Lw E b L xs 590 (lsL E b i) [] σ := by
  refine w_aload_n 591 dL_law_590 rfl rfl ?_
  refine w_arg 596 1 dL_law_591 dL_law_592 dL_law_593 dL_law_594 dL_law_595 rfl (by decide) (by omega) hL ?_
  refine w_arg 601 2 dL_law_596 dL_law_597 dL_law_598 dL_law_599 dL_law_600 rfl (by decide) (by omega) hL ?_
  refine w_arg 606 3 dL_law_601 dL_law_602 dL_law_603 dL_law_604 dL_law_605 rfl (by decide) (by omega) hL ?_
  refine w_call 609 (As := [.int (xs (i + 1)), .int (xs (i + 2)), .int (xs (i + 3))]) (rest := []) (a := 0) (ci := 9) (tX9_usual (d := 0) hW hX) kX9_usual dL_law_606 rfl lL_57 rfl rfl rfl (by decide) (by decide) (fun v τ h => ?_)
  obtain ⟨x, rfl, hx, hX1, hF⟩ := h
  have hM1 : RM S τ := hM.fr hW hF
  refine w_aload_n 610 dL_law_609 rfl rfl ?_
  refine w_arg 615 1 dL_law_610 dL_law_611 dL_law_612 dL_law_613 dL_law_614 rfl (by decide) (by omega) hL ?_
  refine w_arg 620 2 dL_law_615 dL_law_616 dL_law_617 dL_law_618 dL_law_619 rfl (by decide) (by omega) hL ?_
  refine w_arg 625 3 dL_law_620 dL_law_621 dL_law_622 dL_law_623 dL_law_624 rfl (by decide) (by omega) hL ?_
  refine w_call 628 (As := [.int (xs (i + 1)), .int (xs (i + 2)), .int (xs (i + 3))]) (rest := [.int x]) (a := 102) (ci := 10) (tX10_usual (d := 0) hW hM1) kX10_usual dL_law_625 rfl lL_60 rfl rfl rfl (Nat.le_of_ble_eq_true rfl) (by decide) (fun v τ2 h => ?_)
  obtain ⟨y, rfl, hy, hM2, hF2⟩ := h
  have hW2 : WF (spUsual S (xs (i + 1)) (xs (i + 2)) (xs (i + 3))).2 := wfUsual hW (xs (i + 1)) (xs (i + 2)) (xs (i + 3))
  have hX2 := RX.fr hW2 hX1 hF2
  exact w_icmp_eq 1887 631 dL_law_628 (by decide) rfl (fun _ => K _ _ hW2 hX2 hM2) (fun h => absurd (hx.trans hy.symm) h)
theorem lc_11 {E : zE} {b L i : Nat} {xs : Nat → Int32} {σ : zM} {S : sS} (hL : L ≤ 3072) (hi : i + 6 ≤ L) (hW : WF S) (hX : RX S σ) (hM : RM S σ) (K : ∀ (S' : sS) (τ : zM), WF S' → RX S' τ → RM S' τ → Lw E b L xs 1887 (lsL E b i) [] τ) : Lw E b L xs 633 (lsL E b i) [] σ := by
  refine w_aload_n 634 dL_law_633 rfl rfl ?_
  refine w_arg 639 1 dL_law_634 dL_law_635 dL_law_636 dL_law_637 dL_law_638 rfl (by decide) (by omega) hL ?_
  refine w_arg 644 2 dL_law_639 dL_law_640 dL_law_641 dL_law_642 dL_law_643 rfl (by decide) (by omega) hL ?_
  refine w_arg 649 3 dL_law_644 dL_law_645 dL_law_646 dL_law_647 dL_law_648 rfl (by decide) (by omega) hL ?_
  refine w_arg 654 4 dL_law_649 dL_law_650 dL_law_651 dL_law_652 dL_law_653 rfl (by decide) (by omega) hL ?_
  refine w_call 657 (As := [.int (xs (i + 1)), .int (xs (i + 2)), .int (xs (i + 3)), .int (xs (i + 4))]) (rest := []) (a := 0) (ci := 9) (tX9_player (d := 0) hW hX) kX9_player dL_law_654 rfl lL_61 rfl rfl rfl (by decide) (by decide) (fun v τ h => ?_)
  obtain ⟨x, rfl, hx, hX1, hF⟩ := h
  have hM1 : RM S τ := hM.fr hW hF
  refine w_aload_n 658 dL_law_657 rfl rfl ?_
  refine w_arg 663 1 dL_law_658 dL_law_659 dL_law_660 dL_law_661 dL_law_662 rfl (by decide) (by omega) hL ?_
  refine w_arg 668 2 dL_law_663 dL_law_664 dL_law_665 dL_law_666 dL_law_667 rfl (by decide) (by omega) hL ?_
  refine w_arg 673 3 dL_law_668 dL_law_669 dL_law_670 dL_law_671 dL_law_672 rfl (by decide) (by omega) hL ?_
  refine w_arg 678 4 dL_law_673 dL_law_674 dL_law_675 dL_law_676 dL_law_677 rfl (by decide) (by omega) hL ?_
  refine w_call 681 (As := [.int (xs (i + 1)), .int (xs (i + 2)), .int (xs (i + 3)), .int (xs (i + 4))]) (rest := [.int x]) (a := 102) (ci := 10) (tX10_player (d := 0) hW hM1) kX10_player dL_law_678 rfl lL_65 rfl rfl rfl (Nat.le_of_ble_eq_true rfl) (by decide) (fun v τ2 h => ?_)
  obtain ⟨y, rfl, hy, hM2, hF2⟩ := h
  have hW2 : WF (spPlayer S (xs (i + 1)) (xs (i + 2)) (xs (i + 3)) (xs (i + 4))).2 := WF_player hW (xs (i + 1)) (xs (i + 2)) (xs (i + 3)) (xs (i + 4))
  have hX2 := RX.fr hW2 hX1 hF2
  exact w_icmp_eq 1887 684 dL_law_681 (by decide) rfl (fun _ => K _ _ hW2 hX2 hM2) (fun h => absurd (hx.trans hy.symm) h)
theorem lc_12 {E : zE} {b L i : Nat} {xs : Nat → Int32} {σ : zM} {S : sS} (hL : L ≤ 3072) (hi : i + 6 ≤ L) (hW : WF S) (hX : RX S σ) (hM : RM S σ) (K : ∀ (S' : sS) (τ : zM), WF S' → RX S' τ → RM S' τ → Lw E b L xs 1887 (lsL E b i) [] τ) : Lw E b L xs 686 (lsL E b i) [] σ := by
  refine w_aload_n 687 dL_law_686 rfl rfl ?_
  refine w_arg 692 1 dL_law_687 dL_law_688 dL_law_689 dL_law_690 dL_law_691 rfl (by decide) (by omega) hL ?_
  refine w_arg 697 2 dL_law_692 dL_law_693 dL_law_694 dL_law_695 dL_law_696 rfl (by decide) (by omega) hL ?_
  refine w_call 700 (As := [.int (xs (i + 1)), .int (xs (i + 2))]) (rest := []) (a := 0) (ci := 9) (tX9_about (d := 0) hW hX) kX9_about dL_law_697 rfl lL_66 rfl rfl rfl (by decide) (by decide) (fun v τ h => ?_)
  obtain ⟨x, rfl, hx, hX1, hF⟩ := h
  have hM1 : RM S τ := hM.fr hW hF
  refine w_aload_n 701 dL_law_700 rfl rfl ?_
  refine w_arg 706 1 dL_law_701 dL_law_702 dL_law_703 dL_law_704 dL_law_705 rfl (by decide) (by omega) hL ?_
  refine w_arg 711 2 dL_law_706 dL_law_707 dL_law_708 dL_law_709 dL_law_710 rfl (by decide) (by omega) hL ?_
  refine w_call 714 (As := [.int (xs (i + 1)), .int (xs (i + 2))]) (rest := [.int x]) (a := 102) (ci := 10) (tX10_about (d := 0) hW hM1) kX10_about dL_law_711 rfl lL_69 rfl rfl rfl (Nat.le_of_ble_eq_true rfl) (by decide) (fun v τ2 h => ?_)
  obtain ⟨y, rfl, hy, hM2, hF2⟩ := h
  have hW2 : WF (spAbout S (xs (i + 1)) (xs (i + 2))).2 := wfAbout hW (xs (i + 1)) (xs (i + 2))
  have hX2 := RX.fr hW2 hX1 hF2
  exact w_icmp_eq 1887 717 dL_law_714 (by decide) rfl (fun _ => K _ _ hW2 hX2 hM2) (fun h => absurd (hx.trans hy.symm) h)
theorem lc_13 {E : zE} {b L i : Nat} {xs : Nat → Int32} {σ : zM} {S : sS} (hL : L ≤ 3072) (hi : i + 6 ≤ L) (hW : WF S) (hX : RX S σ) (hM : RM S σ) (K : ∀ (S' : sS) (τ : zM), WF S' → RX S' τ → RM S' τ → Lw E b L xs 1887 (lsL E b i) [] τ) : Lw E b L xs 719 (lsL E b i) [] σ := by
  refine w_aload_n 720 dL_law_719 rfl rfl ?_
  refine w_arg 725 1 dL_law_720 dL_law_721 dL_law_722 dL_law_723 dL_law_724 rfl (by decide) (by omega) hL ?_
  refine w_arg 730 2 dL_law_725 dL_law_726 dL_law_727 dL_law_728 dL_law_729 rfl (by decide) (by omega) hL ?_
  refine w_call 733 (As := [.int (xs (i + 1)), .int (xs (i + 2))]) (rest := []) (a := 0) (ci := 9) (tX9_mark (d := 0) hW hX) kX9_mark dL_law_730 rfl lL_70 rfl rfl rfl (by decide) (by decide) (fun v τ h => ?_)
  obtain ⟨x, rfl, hx, hX1, hF⟩ := h
  have hM1 : RM S τ := hM.fr hW hF
  refine w_aload_n 734 dL_law_733 rfl rfl ?_
  refine w_arg 739 1 dL_law_734 dL_law_735 dL_law_736 dL_law_737 dL_law_738 rfl (by decide) (by omega) hL ?_
  refine w_arg 744 2 dL_law_739 dL_law_740 dL_law_741 dL_law_742 dL_law_743 rfl (by decide) (by omega) hL ?_
  refine w_call 747 (As := [.int (xs (i + 1)), .int (xs (i + 2))]) (rest := [.int x]) (a := 102) (ci := 10) (tX10_mark (d := 0) hW hM1) kX10_mark dL_law_744 rfl lL_73 rfl rfl rfl (Nat.le_of_ble_eq_true rfl) (by decide) (fun v τ2 h => ?_)
  obtain ⟨y, rfl, hy, hM2, hF2⟩ := h
  have hW2 : WF (spMark S (xs (i + 1)) (xs (i + 2))).2 := wfMark hW (xs (i + 1)) (xs (i + 2))
  have hX2 := RX.fr hW2 hX1 hF2
  exact w_icmp_eq 1887 750 dL_law_747 (by decide) rfl (fun _ => K _ _ hW2 hX2 hM2) (fun h => absurd (hx.trans hy.symm) h)
theorem lc_14 {E : zE} {b L i : Nat} {xs : Nat → Int32} {σ : zM} {S : sS} (hL : L ≤ 3072) (hi : i + 6 ≤ L) (hW : WF S) (hX : RX S σ) (hM : RM S σ) (K : ∀ (S' : sS) (τ : zM), WF S' → RX S' τ → RM S' τ → Lw E b L xs 1887 (lsL E b i) [] τ) : Lw E b L xs 752 (lsL E b i) [] σ := by
  refine w_aload_n 753 dL_law_752 rfl rfl ?_
  refine w_arg 758 1 dL_law_753 dL_law_754 dL_law_755 dL_law_756 dL_law_757 rfl (by decide) (by omega) hL ?_
  refine w_arg 763 2 dL_law_758 dL_law_759 dL_law_760 dL_law_761 dL_law_762 rfl (by decide) (by omega) hL ?_
  refine w_arg 768 3 dL_law_763 dL_law_764 dL_law_765 dL_law_766 dL_law_767 rfl (by decide) (by omega) hL ?_
  refine w_call 771 (As := [.int (xs (i + 1)), .int (xs (i + 2)), .int (xs (i + 3))]) (rest := []) (a := 0) (ci := 9) (tX9_draws (d := 0) hW hX) kX9_draws dL_law_768 rfl lL_74 rfl rfl rfl (by decide) (by decide) (fun v τ h => ?_)
  obtain ⟨x, rfl, hx, hX1, hF⟩ := h
  have hM1 : RM S τ := hM.fr hW hF
  refine w_aload_n 772 dL_law_771 rfl rfl ?_
  refine w_arg 777 1 dL_law_772 dL_law_773 dL_law_774 dL_law_775 dL_law_776 rfl (by decide) (by omega) hL ?_
  refine w_arg 782 2 dL_law_777 dL_law_778 dL_law_779 dL_law_780 dL_law_781 rfl (by decide) (by omega) hL ?_
  refine w_arg 787 3 dL_law_782 dL_law_783 dL_law_784 dL_law_785 dL_law_786 rfl (by decide) (by omega) hL ?_
  refine w_call 790 (As := [.int (xs (i + 1)), .int (xs (i + 2)), .int (xs (i + 3))]) (rest := [.int x]) (a := 102) (ci := 10) (tX10_draws (d := 0) hW hM1) kX10_draws dL_law_787 rfl lL_77 rfl rfl rfl (Nat.le_of_ble_eq_true rfl) (by decide) (fun v τ2 h => ?_)
  obtain ⟨y, rfl, hy, hM2, hF2⟩ := h
  have hW2 : WF (spDraws S (xs (i + 1)) (xs (i + 2)) (xs (i + 3))).2 := wfDraws hW (xs (i + 1)) (xs (i + 2)) (xs (i + 3))
  have hX2 := RX.fr hW2 hX1 hF2
  exact w_icmp_eq 1887 793 dL_law_790 (by decide) rfl (fun _ => K _ _ hW2 hX2 hM2) (fun h => absurd (hx.trans hy.symm) h)
theorem lc_15 {E : zE} {b L i : Nat} {xs : Nat → Int32} {σ : zM} {S : sS} (hL : L ≤ 3072) (hi : i + 6 ≤ L) (hW : WF S) (hX : RX S σ) (hM : RM S σ) (K : ∀ (S' : sS) (τ : zM), WF S' → RX S' τ → RM S' τ → Lw E b L xs 1887 (lsL E b i) [] τ) : Lw E b L xs 795 (lsL E b i) [] σ := by
  refine w_aload_n 796 dL_law_795 rfl rfl ?_
  refine w_arg 801 1 dL_law_796 dL_law_797 dL_law_798 dL_law_799 dL_law_800 rfl (by decide) (by omega) hL ?_
  refine w_arg 806 2 dL_law_801 dL_law_802 dL_law_803 dL_law_804 dL_law_805 rfl (by decide) (by omega) hL ?_
  refine w_arg 811 3 dL_law_806 dL_law_807 dL_law_808 dL_law_809 dL_law_810 rfl (by decide) (by omega) hL ?_
  refine w_arg 816 4 dL_law_811 dL_law_812 dL_law_813 dL_law_814 dL_law_815 rfl (by decide) (by omega) hL ?_
  refine w_call 819 (As := [.int (xs (i + 1)), .int (xs (i + 2)), .int (xs (i + 3)), .int (xs (i + 4))]) (rest := []) (a := 0) (ci := 9) (tX9_guess (d := 0) hW hX) kX9_guess dL_law_816 rfl lL_78 rfl rfl rfl (by decide) (by decide) (fun v τ h => ?_)
  obtain ⟨x, rfl, hx, hX1, hF⟩ := h
  have hM1 : RM S τ := hM.fr hW hF
  refine w_aload_n 820 dL_law_819 rfl rfl ?_
  refine w_arg 825 1 dL_law_820 dL_law_821 dL_law_822 dL_law_823 dL_law_824 rfl (by decide) (by omega) hL ?_
  refine w_arg 830 2 dL_law_825 dL_law_826 dL_law_827 dL_law_828 dL_law_829 rfl (by decide) (by omega) hL ?_
  refine w_arg 835 3 dL_law_830 dL_law_831 dL_law_832 dL_law_833 dL_law_834 rfl (by decide) (by omega) hL ?_
  refine w_arg 840 4 dL_law_835 dL_law_836 dL_law_837 dL_law_838 dL_law_839 rfl (by decide) (by omega) hL ?_
  refine w_call 843 (As := [.int (xs (i + 1)), .int (xs (i + 2)), .int (xs (i + 3)), .int (xs (i + 4))]) (rest := [.int x]) (a := 102) (ci := 10) (tX10_guess (d := 0) hW hM1) kX10_guess dL_law_840 rfl lL_81 rfl rfl rfl (Nat.le_of_ble_eq_true rfl) (by decide) (fun v τ2 h => ?_)
  obtain ⟨y, rfl, hy, hM2, hF2⟩ := h
  have hW2 : WF (spGuess S (xs (i + 1)) (xs (i + 2)) (xs (i + 3)) (xs (i + 4))).2 := wfGuess hW (xs (i + 1)) (xs (i + 2)) (xs (i + 3)) (xs (i + 4))
  have hX2 := RX.fr hW2 hX1 hF2
  exact w_icmp_eq 1887 846 dL_law_843 (by decide) rfl (fun _ => K _ _ hW2 hX2 hM2) (fun h => absurd (hx.trans hy.symm) h)
theorem lc_16 {E : zE} {b L i : Nat} {xs : Nat → Int32} {σ : zM} {S : sS} (hL : L ≤ 3072) (hi : i + 6 ≤ L) (hW : WF S) (hX : RX S σ) (hM : RM S σ) (K : ∀ (S' : sS) (τ : zM), WF S' → RX S' τ → RM S' τ → Lw E b L xs 1887 (lsL E b i) [] τ) : Lw E b L xs 848 (lsL E b i) [] σ := by
  refine w_aload_n 849 dL_law_848 rfl rfl ?_
  refine w_arg 854 1 dL_law_849 dL_law_850 dL_law_851 dL_law_852 dL_law_853 rfl (by decide) (by omega) hL ?_
  refine w_arg 859 2 dL_law_854 dL_law_855 dL_law_856 dL_law_857 dL_law_858 rfl (by decide) (by omega) hL ?_
  refine w_arg 864 3 dL_law_859 dL_law_860 dL_law_861 dL_law_862 dL_law_863 rfl (by decide) (by omega) hL ?_
  refine w_arg 869 4 dL_law_864 dL_law_865 dL_law_866 dL_law_867 dL_law_868 rfl (by decide) (by omega) hL ?_
  refine w_call 872 (As := [.int (xs (i + 1)), .int (xs (i + 2)), .int (xs (i + 3)), .int (xs (i + 4))]) (rest := []) (a := 0) (ci := 9) (tX9_step (d := 0) hW hX) kX9_step dL_law_869 rfl lL_82 rfl rfl rfl (by decide) (by decide) (fun v τ h => ?_)
  obtain ⟨x, rfl, hx, hX1, hF⟩ := h
  have hM1 : RM S τ := hM.fr hW hF
  refine w_aload_n 873 dL_law_872 rfl rfl ?_
  refine w_arg 878 1 dL_law_873 dL_law_874 dL_law_875 dL_law_876 dL_law_877 rfl (by decide) (by omega) hL ?_
  refine w_arg 883 2 dL_law_878 dL_law_879 dL_law_880 dL_law_881 dL_law_882 rfl (by decide) (by omega) hL ?_
  refine w_arg 888 3 dL_law_883 dL_law_884 dL_law_885 dL_law_886 dL_law_887 rfl (by decide) (by omega) hL ?_
  refine w_arg 893 4 dL_law_888 dL_law_889 dL_law_890 dL_law_891 dL_law_892 rfl (by decide) (by omega) hL ?_
  refine w_call 896 (As := [.int (xs (i + 1)), .int (xs (i + 2)), .int (xs (i + 3)), .int (xs (i + 4))]) (rest := [.int x]) (a := 102) (ci := 10) (tX10_step (d := 0) hW hM1) kX10_step dL_law_893 rfl lL_85 rfl rfl rfl (Nat.le_of_ble_eq_true rfl) (by decide) (fun v τ2 h => ?_)
  obtain ⟨y, rfl, hy, hM2, hF2⟩ := h
  have hW2 : WF (spStep S (xs (i + 1)) (xs (i + 2)) (xs (i + 3)) (xs (i + 4))).2 := wfStep hW (xs (i + 1)) (xs (i + 2)) (xs (i + 3)) (xs (i + 4))
  have hX2 := RX.fr hW2 hX1 hF2
  exact w_icmp_eq 1887 899 dL_law_896 (by decide) rfl (fun _ => K _ _ hW2 hX2 hM2) (fun h => absurd (hx.trans hy.symm) h)
theorem lc_17 {E : zE} {b L i : Nat} {xs : Nat → Int32} {σ : zM} {S : sS} (hL : L ≤ 3072) (hi : i + 6 ≤ L) (hW : WF S) (hX : RX S σ) (hM : RM S σ) (K : ∀ (S' : sS) (τ : zM), WF S' → RX S' τ → RM S' τ → Lw E b L xs 1887 (lsL E b i) [] τ) : Lw E b L xs 901 (lsL E b i) [] σ := by
  refine w_aload_n 902 dL_law_901 rfl rfl ?_
  refine w_arg 907 1 dL_law_902 dL_law_903 dL_law_904 dL_law_905 dL_law_906 rfl (by decide) (by omega) hL ?_
  refine w_arg 912 2 dL_law_907 dL_law_908 dL_law_909 dL_law_910 dL_law_911 rfl (by decide) (by omega) hL ?_
  refine w_arg 917 3 dL_law_912 dL_law_913 dL_law_914 dL_law_915 dL_law_916 rfl (by decide) (by omega) hL ?_
  refine w_call 920 (As := [.int (xs (i + 1)), .int (xs (i + 2)), .int (xs (i + 3))]) (rest := []) (a := 0) (ci := 9) (tX9_comes (d := 0) hW hX) kX9_comes dL_law_917 rfl lL_86 rfl rfl rfl (by decide) (by decide) (fun v τ h => ?_)
  obtain ⟨x, rfl, hx, hX1, hF⟩ := h
  have hM1 : RM S τ := hM.fr hW hF
  refine w_aload_n 921 dL_law_920 rfl rfl ?_
  refine w_arg 926 1 dL_law_921 dL_law_922 dL_law_923 dL_law_924 dL_law_925 rfl (by decide) (by omega) hL ?_
  refine w_arg 931 2 dL_law_926 dL_law_927 dL_law_928 dL_law_929 dL_law_930 rfl (by decide) (by omega) hL ?_
  refine w_arg 936 3 dL_law_931 dL_law_932 dL_law_933 dL_law_934 dL_law_935 rfl (by decide) (by omega) hL ?_
  refine w_call 939 (As := [.int (xs (i + 1)), .int (xs (i + 2)), .int (xs (i + 3))]) (rest := [.int x]) (a := 102) (ci := 10) (tX10_comes (d := 0) hW hM1) kX10_comes dL_law_936 rfl lL_89 rfl rfl rfl (Nat.le_of_ble_eq_true rfl) (by decide) (fun v τ2 h => ?_)
  obtain ⟨y, rfl, hy, hM2, hF2⟩ := h
  have hW2 : WF (spComes S (xs (i + 1)) (xs (i + 2)) (xs (i + 3))).2 := wfComes hW (xs (i + 1)) (xs (i + 2)) (xs (i + 3))
  have hX2 := RX.fr hW2 hX1 hF2
  exact w_icmp_eq 1887 942 dL_law_939 (by decide) rfl (fun _ => K _ _ hW2 hX2 hM2) (fun h => absurd (hx.trans hy.symm) h)
theorem lc_18 {E : zE} {b L i : Nat} {xs : Nat → Int32} {σ : zM} {S : sS} (hL : L ≤ 3072) (hi : i + 6 ≤ L) (hW : WF S) (hX : RX S σ) (hM : RM S σ) (K : ∀ (S' : sS) (τ : zM), WF S' → RX S' τ → RM S' τ → Lw E b L xs 1887 (lsL E b i) [] τ) : Lw E b L xs 944 (lsL E b i) [] σ := by
  refine w_aload_n 945 dL_law_944 rfl rfl ?_
  refine w_arg 950 1 dL_law_945 dL_law_946 dL_law_947 dL_law_948 dL_law_949 rfl (by decide) (by omega) hL ?_
  refine w_call 953 (As := [.int (xs (i + 1))]) (rest := []) (a := 0) (ci := 9) (tX9_most (d := 0) hW hX) kX9_most dL_law_950 rfl lL_90 rfl rfl rfl (by decide) (by decide) (fun v τ h => ?_)
  obtain ⟨x, rfl, hx, hX1, hF⟩ := h
  have hM1 : RM S τ := hM.fr hW hF
  refine w_aload_n 954 dL_law_953 rfl rfl ?_
  refine w_arg 959 1 dL_law_954 dL_law_955 dL_law_956 dL_law_957 dL_law_958 rfl (by decide) (by omega) hL ?_
  refine w_call 962 (As := [.int (xs (i + 1))]) (rest := [.int x]) (a := 102) (ci := 10) (tX10_most (d := 0) hW hM1) kX10_most dL_law_959 rfl lL_93 rfl rfl rfl (Nat.le_of_ble_eq_true rfl) (by decide) (fun v τ2 h => ?_)
  obtain ⟨y, rfl, hy, hM2, hF2⟩ := h
  have hW2 : WF (spMost S (xs (i + 1))).2 := wfMost hW (xs (i + 1))
  have hX2 := RX.fr hW2 hX1 hF2
  exact w_icmp_eq 1887 965 dL_law_962 (by decide) rfl (fun _ => K _ _ hW2 hX2 hM2) (fun h => absurd (hx.trans hy.symm) h)
theorem lc_19 {E : zE} {b L i : Nat} {xs : Nat → Int32} {σ : zM} {S : sS} (hL : L ≤ 3072) (hi : i + 6 ≤ L) (hW : WF S) (hX : RX S σ) (hM : RM S σ) (K : ∀ (S' : sS) (τ : zM), WF S' → RX S' τ → RM S' τ → Lw E b L xs 1887 (lsL E b i) [] τ) : Lw E b L xs 967 (lsL E b i) [] σ := by
  refine w_aload_n 968 dL_law_967 rfl rfl ?_
  refine w_arg 973 1 dL_law_968 dL_law_969 dL_law_970 dL_law_971 dL_law_972 rfl (by decide) (by omega) hL ?_
  refine w_arg 978 2 dL_law_973 dL_law_974 dL_law_975 dL_law_976 dL_law_977 rfl (by decide) (by omega) hL ?_
  refine w_arg 983 3 dL_law_978 dL_law_979 dL_law_980 dL_law_981 dL_law_982 rfl (by decide) (by omega) hL ?_
  refine w_call 986 (As := [.int (xs (i + 1)), .int (xs (i + 2)), .int (xs (i + 3))]) (rest := []) (a := 0) (ci := 9) (tX9_keeps (d := 0) hW hX) kX9_keeps dL_law_983 rfl lL_94 rfl rfl rfl (by decide) (by decide) (fun v τ h => ?_)
  obtain ⟨x, rfl, hx, hX1, hF⟩ := h
  have hM1 : RM S τ := hM.fr hW hF
  refine w_aload_n 987 dL_law_986 rfl rfl ?_
  refine w_arg 992 1 dL_law_987 dL_law_988 dL_law_989 dL_law_990 dL_law_991 rfl (by decide) (by omega) hL ?_
  refine w_arg 997 2 dL_law_992 dL_law_993 dL_law_994 dL_law_995 dL_law_996 rfl (by decide) (by omega) hL ?_
  refine w_arg 1002 3 dL_law_997 dL_law_998 dL_law_999 dL_law_1000 dL_law_1001 rfl (by decide) (by omega) hL ?_
  refine w_call 1005 (As := [.int (xs (i + 1)), .int (xs (i + 2)), .int (xs (i + 3))]) (rest := [.int x]) (a := 102) (ci := 10) (tX10_keeps (d := 0) hW hM1) kX10_keeps dL_law_1002 rfl lL_97 rfl rfl rfl (Nat.le_of_ble_eq_true rfl) (by decide) (fun v τ2 h => ?_)
  obtain ⟨y, rfl, hy, hM2, hF2⟩ := h
  have hW2 : WF (spKeeps S (xs (i + 1)) (xs (i + 2)) (xs (i + 3))).2 := wfKeeps hW (xs (i + 1)) (xs (i + 2)) (xs (i + 3))
  have hX2 := RX.fr hW2 hX1 hF2
  exact w_icmp_eq 1887 1008 dL_law_1005 (by decide) rfl (fun _ => K _ _ hW2 hX2 hM2) (fun h => absurd (hx.trans hy.symm) h)
theorem lc_20 {E : zE} {b L i : Nat} {xs : Nat → Int32} {σ : zM} {S : sS} (hL : L ≤ 3072) (hi : i + 6 ≤ L) (hW : WF S) (hX : RX S σ) (hM : RM S σ) (K : ∀ (S' : sS) (τ : zM), WF S' → RX S' τ → RM S' τ → Lw E b L xs 1887 (lsL E b i) [] τ) : Lw E b L xs 1010 (lsL E b i) [] σ := by
  refine w_aload_n 1011 dL_law_1010 rfl rfl ?_
  refine w_arg 1016 1 dL_law_1011 dL_law_1012 dL_law_1013 dL_law_1014 dL_law_1015 rfl (by decide) (by omega) hL ?_
  refine w_arg 1021 2 dL_law_1016 dL_law_1017 dL_law_1018 dL_law_1019 dL_law_1020 rfl (by decide) (by omega) hL ?_
  refine w_arg 1026 3 dL_law_1021 dL_law_1022 dL_law_1023 dL_law_1024 dL_law_1025 rfl (by decide) (by omega) hL ?_
  refine w_call 1029 (As := [.int (xs (i + 1)), .int (xs (i + 2)), .int (xs (i + 3))]) (rest := []) (a := 0) (ci := 9) (tX9_was (d := 0) hW hX) kX9_was dL_law_1026 rfl lL_98 rfl rfl rfl (by decide) (by decide) (fun v τ h => ?_)
  obtain ⟨x, rfl, hx, hX1, hF⟩ := h
  have hM1 : RM S τ := hM.fr hW hF
  refine w_aload_n 1030 dL_law_1029 rfl rfl ?_
  refine w_arg 1035 1 dL_law_1030 dL_law_1031 dL_law_1032 dL_law_1033 dL_law_1034 rfl (by decide) (by omega) hL ?_
  refine w_arg 1040 2 dL_law_1035 dL_law_1036 dL_law_1037 dL_law_1038 dL_law_1039 rfl (by decide) (by omega) hL ?_
  refine w_arg 1045 3 dL_law_1040 dL_law_1041 dL_law_1042 dL_law_1043 dL_law_1044 rfl (by decide) (by omega) hL ?_
  refine w_call 1048 (As := [.int (xs (i + 1)), .int (xs (i + 2)), .int (xs (i + 3))]) (rest := [.int x]) (a := 102) (ci := 10) (tX10_was (d := 0) hW hM1) kX10_was dL_law_1045 rfl lL_101 rfl rfl rfl (Nat.le_of_ble_eq_true rfl) (by decide) (fun v τ2 h => ?_)
  obtain ⟨y, rfl, hy, hM2, hF2⟩ := h
  have hW2 : WF (spWas S (xs (i + 1)) (xs (i + 2)) (xs (i + 3))).2 := wfWas hW (xs (i + 1)) (xs (i + 2)) (xs (i + 3))
  have hX2 := RX.fr hW2 hX1 hF2
  exact w_icmp_eq 1887 1051 dL_law_1048 (by decide) rfl (fun _ => K _ _ hW2 hX2 hM2) (fun h => absurd (hx.trans hy.symm) h)
theorem lc_21 {E : zE} {b L i : Nat} {xs : Nat → Int32} {σ : zM} {S : sS} (hL : L ≤ 3072) (hi : i + 6 ≤ L) (hW : WF S) (hX : RX S σ) (hM : RM S σ) (K : ∀ (S' : sS) (τ : zM), WF S' → RX S' τ → RM S' τ → Lw E b L xs 1887 (lsL E b i) [] τ) : Lw E b L xs 1053 (lsL E b i) [] σ := by
  refine w_aload_n 1054 dL_law_1053 rfl rfl ?_
  refine w_arg 1059 1 dL_law_1054 dL_law_1055 dL_law_1056 dL_law_1057 dL_law_1058 rfl (by decide) (by omega) hL ?_
  refine w_arg 1064 2 dL_law_1059 dL_law_1060 dL_law_1061 dL_law_1062 dL_law_1063 rfl (by decide) (by omega) hL ?_
  refine w_arg 1069 3 dL_law_1064 dL_law_1065 dL_law_1066 dL_law_1067 dL_law_1068 rfl (by decide) (by omega) hL ?_
  refine w_arg 1074 4 dL_law_1069 dL_law_1070 dL_law_1071 dL_law_1072 dL_law_1073 rfl (by decide) (by omega) hL ?_
  refine w_call 1077 (As := [.int (xs (i + 1)), .int (xs (i + 2)), .int (xs (i + 3)), .int (xs (i + 4))]) (rest := []) (a := 0) (ci := 9) (tX9_off (d := 0) hW hX) kX9_off dL_law_1074 rfl lL_102 rfl rfl rfl (by decide) (by decide) (fun v τ h => ?_)
  obtain ⟨x, rfl, hx, hX1, hF⟩ := h
  have hM1 : RM S τ := hM.fr hW hF
  refine w_aload_n 1078 dL_law_1077 rfl rfl ?_
  refine w_arg 1083 1 dL_law_1078 dL_law_1079 dL_law_1080 dL_law_1081 dL_law_1082 rfl (by decide) (by omega) hL ?_
  refine w_arg 1088 2 dL_law_1083 dL_law_1084 dL_law_1085 dL_law_1086 dL_law_1087 rfl (by decide) (by omega) hL ?_
  refine w_arg 1093 3 dL_law_1088 dL_law_1089 dL_law_1090 dL_law_1091 dL_law_1092 rfl (by decide) (by omega) hL ?_
  refine w_arg 1098 4 dL_law_1093 dL_law_1094 dL_law_1095 dL_law_1096 dL_law_1097 rfl (by decide) (by omega) hL ?_
  refine w_call 1101 (As := [.int (xs (i + 1)), .int (xs (i + 2)), .int (xs (i + 3)), .int (xs (i + 4))]) (rest := [.int x]) (a := 102) (ci := 10) (tX10_off (d := 0) hW hM1) kX10_off dL_law_1098 rfl lL_105 rfl rfl rfl (Nat.le_of_ble_eq_true rfl) (by decide) (fun v τ2 h => ?_)
  obtain ⟨y, rfl, hy, hM2, hF2⟩ := h
  have hW2 : WF (spOff S (xs (i + 1)) (xs (i + 2)) (xs (i + 3)) (xs (i + 4))).2 := wfOff hW (xs (i + 1)) (xs (i + 2)) (xs (i + 3)) (xs (i + 4))
  have hX2 := RX.fr hW2 hX1 hF2
  exact w_icmp_eq 1887 1104 dL_law_1101 (by decide) rfl (fun _ => K _ _ hW2 hX2 hM2) (fun h => absurd (hx.trans hy.symm) h)
theorem lc_22 {E : zE} {b L i : Nat} {xs : Nat → Int32} {σ : zM} {S : sS} (hL : L ≤ 3072) (hi : i + 6 ≤ L) (hW : WF S) (hX : RX S σ) (hM : RM S σ) (K : ∀ (S' : sS) (τ : zM), WF S' → RX S' τ → RM S' τ → Lw E b L xs 1887 (lsL E b i) [] τ) : Lw E b L xs 1106 (lsL E b i) [] σ := by
  refine w_aload_n 1107 dL_law_1106 rfl rfl ?_
  refine w_arg 1112 1 dL_law_1107 dL_law_1108 dL_law_1109 dL_law_1110 dL_law_1111 rfl (by decide) (by omega) hL ?_
  refine w_arg 1117 2 dL_law_1112 dL_law_1113 dL_law_1114 dL_law_1115 dL_law_1116 rfl (by decide) (by omega) hL ?_
  refine w_call 1120 (As := [.int (xs (i + 1)), .int (xs (i + 2))]) (rest := []) (a := 0) (ci := 9) (tX9_kept (d := 0) hW hX) kX9_kept dL_law_1117 rfl lL_106 rfl rfl rfl (by decide) (by decide) (fun v τ h => ?_)
  obtain ⟨x, rfl, hx, hX1, hF⟩ := h
  have hM1 : RM S τ := hM.fr hW hF
  refine w_aload_n 1121 dL_law_1120 rfl rfl ?_
  refine w_arg 1126 1 dL_law_1121 dL_law_1122 dL_law_1123 dL_law_1124 dL_law_1125 rfl (by decide) (by omega) hL ?_
  refine w_arg 1131 2 dL_law_1126 dL_law_1127 dL_law_1128 dL_law_1129 dL_law_1130 rfl (by decide) (by omega) hL ?_
  refine w_call 1134 (As := [.int (xs (i + 1)), .int (xs (i + 2))]) (rest := [.int x]) (a := 102) (ci := 10) (tX10_kept (d := 0) hW hM1) kX10_kept dL_law_1131 rfl lL_109 rfl rfl rfl (Nat.le_of_ble_eq_true rfl) (by decide) (fun v τ2 h => ?_)
  obtain ⟨y, rfl, hy, hM2, hF2⟩ := h
  have hW2 : WF (spKept S (xs (i + 1)) (xs (i + 2))).2 := wfKept hW (xs (i + 1)) (xs (i + 2))
  have hX2 := RX.fr hW2 hX1 hF2
  exact w_icmp_eq 1887 1137 dL_law_1134 (by decide) rfl (fun _ => K _ _ hW2 hX2 hM2) (fun h => absurd (hx.trans hy.symm) h)
theorem lc_23 {E : zE} {b L i : Nat} {xs : Nat → Int32} {σ : zM} {S : sS} (hL : L ≤ 3072) (hi : i + 6 ≤ L) (hW : WF S) (hX : RX S σ) (hM : RM S σ) (K : ∀ (S' : sS) (τ : zM), WF S' → RX S' τ → RM S' τ → Lw E b L xs 1887 (lsL E b i) [] τ) : Lw E b L xs 1139 (lsL E b i) [] σ := by
  refine w_aload_n 1140 dL_law_1139 rfl rfl ?_
  refine w_arg 1145 1 dL_law_1140 dL_law_1141 dL_law_1142 dL_law_1143 dL_law_1144 rfl (by decide) (by omega) hL ?_
  refine w_arg 1150 2 dL_law_1145 dL_law_1146 dL_law_1147 dL_law_1148 dL_law_1149 rfl (by decide) (by omega) hL ?_
  refine w_arg 1155 3 dL_law_1150 dL_law_1151 dL_law_1152 dL_law_1153 dL_law_1154 rfl (by decide) (by omega) hL ?_
  refine w_call 1158 (As := [.int (xs (i + 1)), .int (xs (i + 2)), .int (xs (i + 3))]) (rest := []) (a := 0) (ci := 9) (tX9_seats (d := 0) hW hX) kX9_seats dL_law_1155 rfl lL_110 rfl rfl rfl (by decide) (by decide) (fun v τ h => ?_)
  obtain ⟨x, rfl, hx, hX1, hF⟩ := h
  have hM1 : RM S τ := hM.fr hW hF
  refine w_aload_n 1159 dL_law_1158 rfl rfl ?_
  refine w_arg 1164 1 dL_law_1159 dL_law_1160 dL_law_1161 dL_law_1162 dL_law_1163 rfl (by decide) (by omega) hL ?_
  refine w_arg 1169 2 dL_law_1164 dL_law_1165 dL_law_1166 dL_law_1167 dL_law_1168 rfl (by decide) (by omega) hL ?_
  refine w_arg 1174 3 dL_law_1169 dL_law_1170 dL_law_1171 dL_law_1172 dL_law_1173 rfl (by decide) (by omega) hL ?_
  refine w_call 1177 (As := [.int (xs (i + 1)), .int (xs (i + 2)), .int (xs (i + 3))]) (rest := [.int x]) (a := 102) (ci := 10) (tX10_seats (d := 0) hW hM1) kX10_seats dL_law_1174 rfl lL_113 rfl rfl rfl (Nat.le_of_ble_eq_true rfl) (by decide) (fun v τ2 h => ?_)
  obtain ⟨y, rfl, hy, hM2, hF2⟩ := h
  have hW2 : WF (spSeats S (xs (i + 1)) (xs (i + 2)) (xs (i + 3))).2 := wfSeats hW (xs (i + 1)) (xs (i + 2)) (xs (i + 3))
  have hX2 := RX.fr hW2 hX1 hF2
  exact w_icmp_eq 1887 1180 dL_law_1177 (by decide) rfl (fun _ => K _ _ hW2 hX2 hM2) (fun h => absurd (hx.trans hy.symm) h)
theorem lc_24 {E : zE} {b L i : Nat} {xs : Nat → Int32} {σ : zM} {S : sS} (hL : L ≤ 3072) (hi : i + 6 ≤ L) (hW : WF S) (hX : RX S σ) (hM : RM S σ) (K : ∀ (S' : sS) (τ : zM), WF S' → RX S' τ → RM S' τ → Lw E b L xs 1887 (lsL E b i) [] τ) : Lw E b L xs 1182 (lsL E b i) [] σ := by
  refine w_aload_n 1183 dL_law_1182 rfl rfl ?_
  refine w_arg 1188 1 dL_law_1183 dL_law_1184 dL_law_1185 dL_law_1186 dL_law_1187 rfl (by decide) (by omega) hL ?_
  refine w_arg 1193 2 dL_law_1188 dL_law_1189 dL_law_1190 dL_law_1191 dL_law_1192 rfl (by decide) (by omega) hL ?_
  refine w_arg 1198 3 dL_law_1193 dL_law_1194 dL_law_1195 dL_law_1196 dL_law_1197 rfl (by decide) (by omega) hL ?_
  refine w_call 1201 (As := [.int (xs (i + 1)), .int (xs (i + 2)), .int (xs (i + 3))]) (rest := []) (a := 0) (ci := 9) (tX9_parts (d := 0) hW hX) kX9_parts dL_law_1198 rfl lL_114 rfl rfl rfl (by decide) (by decide) (fun v τ h => ?_)
  obtain ⟨x, rfl, hx, hX1, hF⟩ := h
  have hM1 : RM S τ := hM.fr hW hF
  refine w_aload_n 1202 dL_law_1201 rfl rfl ?_
  refine w_arg 1207 1 dL_law_1202 dL_law_1203 dL_law_1204 dL_law_1205 dL_law_1206 rfl (by decide) (by omega) hL ?_
  refine w_arg 1212 2 dL_law_1207 dL_law_1208 dL_law_1209 dL_law_1210 dL_law_1211 rfl (by decide) (by omega) hL ?_
  refine w_arg 1217 3 dL_law_1212 dL_law_1213 dL_law_1214 dL_law_1215 dL_law_1216 rfl (by decide) (by omega) hL ?_
  refine w_call 1220 (As := [.int (xs (i + 1)), .int (xs (i + 2)), .int (xs (i + 3))]) (rest := [.int x]) (a := 102) (ci := 10) (tX10_parts (d := 0) hW hM1) kX10_parts dL_law_1217 rfl lL_117 rfl rfl rfl (Nat.le_of_ble_eq_true rfl) (by decide) (fun v τ2 h => ?_)
  obtain ⟨y, rfl, hy, hM2, hF2⟩ := h
  have hW2 : WF (spParts S (xs (i + 1)) (xs (i + 2)) (xs (i + 3))).2 := wfParts hW (xs (i + 1)) (xs (i + 2)) (xs (i + 3))
  have hX2 := RX.fr hW2 hX1 hF2
  exact w_icmp_eq 1887 1223 dL_law_1220 (by decide) rfl (fun _ => K _ _ hW2 hX2 hM2) (fun h => absurd (hx.trans hy.symm) h)
theorem lc_25 {E : zE} {b L i : Nat} {xs : Nat → Int32} {σ : zM} {S : sS} (hL : L ≤ 3072) (hi : i + 6 ≤ L) (hW : WF S) (hX : RX S σ) (hM : RM S σ) (K : ∀ (S' : sS) (τ : zM), WF S' → RX S' τ → RM S' τ → Lw E b L xs 1887 (lsL E b i) [] τ) : Lw E b L xs 1225 (lsL E b i) [] σ := by
  refine w_aload_n 1226 dL_law_1225 rfl rfl ?_
  refine w_arg 1231 1 dL_law_1226 dL_law_1227 dL_law_1228 dL_law_1229 dL_law_1230 rfl (by decide) (by omega) hL ?_
  refine w_arg 1236 2 dL_law_1231 dL_law_1232 dL_law_1233 dL_law_1234 dL_law_1235 rfl (by decide) (by omega) hL ?_
  refine w_arg 1241 3 dL_law_1236 dL_law_1237 dL_law_1238 dL_law_1239 dL_law_1240 rfl (by decide) (by omega) hL ?_
  refine w_call 1244 (As := [.int (xs (i + 1)), .int (xs (i + 2)), .int (xs (i + 3))]) (rest := []) (a := 0) (ci := 9) (tX9_few (d := 0) hW hX) kX9_few dL_law_1241 rfl lL_118 rfl rfl rfl (by decide) (by decide) (fun v τ h => ?_)
  obtain ⟨x, rfl, hx, hX1, hF⟩ := h
  have hM1 : RM S τ := hM.fr hW hF
  refine w_aload_n 1245 dL_law_1244 rfl rfl ?_
  refine w_arg 1250 1 dL_law_1245 dL_law_1246 dL_law_1247 dL_law_1248 dL_law_1249 rfl (by decide) (by omega) hL ?_
  refine w_arg 1255 2 dL_law_1250 dL_law_1251 dL_law_1252 dL_law_1253 dL_law_1254 rfl (by decide) (by omega) hL ?_
  refine w_arg 1260 3 dL_law_1255 dL_law_1256 dL_law_1257 dL_law_1258 dL_law_1259 rfl (by decide) (by omega) hL ?_
  refine w_call 1263 (As := [.int (xs (i + 1)), .int (xs (i + 2)), .int (xs (i + 3))]) (rest := [.int x]) (a := 102) (ci := 10) (tX10_few (d := 0) hW hM1) kX10_few dL_law_1260 rfl lL_121 rfl rfl rfl (Nat.le_of_ble_eq_true rfl) (by decide) (fun v τ2 h => ?_)
  obtain ⟨y, rfl, hy, hM2, hF2⟩ := h
  have hW2 : WF (spFew S (xs (i + 1)) (xs (i + 2)) (xs (i + 3))).2 := wfFew hW (xs (i + 1)) (xs (i + 2)) (xs (i + 3))
  have hX2 := RX.fr hW2 hX1 hF2
  exact w_icmp_eq 1887 1266 dL_law_1263 (by decide) rfl (fun _ => K _ _ hW2 hX2 hM2) (fun h => absurd (hx.trans hy.symm) h)
theorem lc_26 {E : zE} {b L i : Nat} {xs : Nat → Int32} {σ : zM} {S : sS} (hL : L ≤ 3072) (hi : i + 6 ≤ L) (hW : WF S) (hX : RX S σ) (hM : RM S σ) (K : ∀ (S' : sS) (τ : zM), WF S' → RX S' τ → RM S' τ → Lw E b L xs 1887 (lsL E b i) [] τ) : Lw E b L xs 1268 (lsL E b i) [] σ := by
  refine w_aload_n 1269 dL_law_1268 rfl rfl ?_
  refine w_arg 1274 1 dL_law_1269 dL_law_1270 dL_law_1271 dL_law_1272 dL_law_1273 rfl (by decide) (by omega) hL ?_
  refine w_arg 1279 2 dL_law_1274 dL_law_1275 dL_law_1276 dL_law_1277 dL_law_1278 rfl (by decide) (by omega) hL ?_
  refine w_arg 1284 3 dL_law_1279 dL_law_1280 dL_law_1281 dL_law_1282 dL_law_1283 rfl (by decide) (by omega) hL ?_
  refine w_arg 1289 4 dL_law_1284 dL_law_1285 dL_law_1286 dL_law_1287 dL_law_1288 rfl (by decide) (by omega) hL ?_
  refine w_call 1292 (As := [.int (xs (i + 1)), .int (xs (i + 2)), .int (xs (i + 3)), .int (xs (i + 4))]) (rest := []) (a := 0) (ci := 9) (tX9_soon (d := 0) hW hX) kX9_soon dL_law_1289 rfl lL_122 rfl rfl rfl (by decide) (by decide) (fun v τ h => ?_)
  obtain ⟨x, rfl, hx, hX1, hF⟩ := h
  have hM1 : RM S τ := hM.fr hW hF
  refine w_aload_n 1293 dL_law_1292 rfl rfl ?_
  refine w_arg 1298 1 dL_law_1293 dL_law_1294 dL_law_1295 dL_law_1296 dL_law_1297 rfl (by decide) (by omega) hL ?_
  refine w_arg 1303 2 dL_law_1298 dL_law_1299 dL_law_1300 dL_law_1301 dL_law_1302 rfl (by decide) (by omega) hL ?_
  refine w_arg 1308 3 dL_law_1303 dL_law_1304 dL_law_1305 dL_law_1306 dL_law_1307 rfl (by decide) (by omega) hL ?_
  refine w_arg 1313 4 dL_law_1308 dL_law_1309 dL_law_1310 dL_law_1311 dL_law_1312 rfl (by decide) (by omega) hL ?_
  refine w_call 1316 (As := [.int (xs (i + 1)), .int (xs (i + 2)), .int (xs (i + 3)), .int (xs (i + 4))]) (rest := [.int x]) (a := 102) (ci := 10) (tX10_soon (d := 0) hW hM1) kX10_soon dL_law_1313 rfl lL_125 rfl rfl rfl (Nat.le_of_ble_eq_true rfl) (by decide) (fun v τ2 h => ?_)
  obtain ⟨y, rfl, hy, hM2, hF2⟩ := h
  have hW2 : WF (spSoon S (xs (i + 1)) (xs (i + 2)) (xs (i + 3)) (xs (i + 4))).2 := wfSoon hW (xs (i + 1)) (xs (i + 2)) (xs (i + 3)) (xs (i + 4))
  have hX2 := RX.fr hW2 hX1 hF2
  exact w_icmp_eq 1887 1319 dL_law_1316 (by decide) rfl (fun _ => K _ _ hW2 hX2 hM2) (fun h => absurd (hx.trans hy.symm) h)
theorem lc_27 {E : zE} {b L i : Nat} {xs : Nat → Int32} {σ : zM} {S : sS} (hL : L ≤ 3072) (hi : i + 6 ≤ L) (hW : WF S) (hX : RX S σ) (hM : RM S σ) (K : ∀ (S' : sS) (τ : zM), WF S' → RX S' τ → RM S' τ → Lw E b L xs 1887 (lsL E b i) [] τ) : Lw E b L xs 1321 (lsL E b i) [] σ := by
  refine w_aload_n 1322 dL_law_1321 rfl rfl ?_
  refine w_arg 1327 1 dL_law_1322 dL_law_1323 dL_law_1324 dL_law_1325 dL_law_1326 rfl (by decide) (by omega) hL ?_
  refine w_arg 1332 2 dL_law_1327 dL_law_1328 dL_law_1329 dL_law_1330 dL_law_1331 rfl (by decide) (by omega) hL ?_
  refine w_call 1335 (As := [.int (xs (i + 1)), .int (xs (i + 2))]) (rest := []) (a := 0) (ci := 9) (tX9_common (d := 0) hW hX) kX9_common dL_law_1332 rfl lL_126 rfl rfl rfl (by decide) (by decide) (fun v τ h => ?_)
  obtain ⟨x, rfl, hx, hX1, hF⟩ := h
  have hM1 : RM S τ := hM.fr hW hF
  refine w_aload_n 1336 dL_law_1335 rfl rfl ?_
  refine w_arg 1341 1 dL_law_1336 dL_law_1337 dL_law_1338 dL_law_1339 dL_law_1340 rfl (by decide) (by omega) hL ?_
  refine w_arg 1346 2 dL_law_1341 dL_law_1342 dL_law_1343 dL_law_1344 dL_law_1345 rfl (by decide) (by omega) hL ?_
  refine w_call 1349 (As := [.int (xs (i + 1)), .int (xs (i + 2))]) (rest := [.int x]) (a := 102) (ci := 10) (tX10_common (d := 0) hW hM1) kX10_common dL_law_1346 rfl lL_129 rfl rfl rfl (Nat.le_of_ble_eq_true rfl) (by decide) (fun v τ2 h => ?_)
  obtain ⟨y, rfl, hy, hM2, hF2⟩ := h
  have hW2 : WF (spCommon S (xs (i + 1)) (xs (i + 2))).2 := wfCommon hW (xs (i + 1)) (xs (i + 2))
  have hX2 := RX.fr hW2 hX1 hF2
  exact w_icmp_eq 1887 1352 dL_law_1349 (by decide) rfl (fun _ => K _ _ hW2 hX2 hM2) (fun h => absurd (hx.trans hy.symm) h)
theorem lc_28 {E : zE} {b L i : Nat} {xs : Nat → Int32} {σ : zM} {S : sS} (hL : L ≤ 3072) (hi : i + 6 ≤ L) (hW : WF S) (hX : RX S σ) (hM : RM S σ) (K : ∀ (S' : sS) (τ : zM), WF S' → RX S' τ → RM S' τ → Lw E b L xs 1887 (lsL E b i) [] τ) : Lw E b L xs 1354 (lsL E b i) [] σ := by
  refine w_aload_n 1355 dL_law_1354 rfl rfl ?_
  refine w_arg 1360 1 dL_law_1355 dL_law_1356 dL_law_1357 dL_law_1358 dL_law_1359 rfl (by decide) (by omega) hL ?_
  refine w_call 1363 (As := [.int (xs (i + 1))]) (rest := []) (a := 0) (ci := 9) (tX9_land (d := 0) hW hX) kX9_land dL_law_1360 rfl lL_130 rfl rfl rfl (by decide) (by decide) (fun v τ h => ?_)
  obtain ⟨x, rfl, hx, hX1, hF⟩ := h
  have hM1 : RM S τ := hM.fr hW hF
  refine w_aload_n 1364 dL_law_1363 rfl rfl ?_
  refine w_arg 1369 1 dL_law_1364 dL_law_1365 dL_law_1366 dL_law_1367 dL_law_1368 rfl (by decide) (by omega) hL ?_
  refine w_call 1372 (As := [.int (xs (i + 1))]) (rest := [.int x]) (a := 102) (ci := 10) (tX10_land (d := 0) hW hM1) kX10_land dL_law_1369 rfl lL_133 rfl rfl rfl (Nat.le_of_ble_eq_true rfl) (by decide) (fun v τ2 h => ?_)
  obtain ⟨y, rfl, hy, hM2, hF2⟩ := h
  have hW2 : WF (spLand S (xs (i + 1))).2 := wfLand hW (xs (i + 1))
  have hX2 := RX.fr hW2 hX1 hF2
  exact w_icmp_eq 1887 1375 dL_law_1372 (by decide) rfl (fun _ => K _ _ hW2 hX2 hM2) (fun h => absurd (hx.trans hy.symm) h)
theorem lc_29 {E : zE} {b L i : Nat} {xs : Nat → Int32} {σ : zM} {S : sS} (hL : L ≤ 3072) (hi : i + 6 ≤ L) (hW : WF S) (hX : RX S σ) (hM : RM S σ) (K : ∀ (S' : sS) (τ : zM), WF S' → RX S' τ → RM S' τ → Lw E b L xs 1887 (lsL E b i) [] τ) : Lw E b L xs 1377 (lsL E b i) [] σ := by
  refine w_aload_n 1378 dL_law_1377 rfl rfl ?_
  refine w_arg 1383 1 dL_law_1378 dL_law_1379 dL_law_1380 dL_law_1381 dL_law_1382 rfl (by decide) (by omega) hL ?_
  refine w_arg 1388 2 dL_law_1383 dL_law_1384 dL_law_1385 dL_law_1386 dL_law_1387 rfl (by decide) (by omega) hL ?_
  refine w_arg 1393 3 dL_law_1388 dL_law_1389 dL_law_1390 dL_law_1391 dL_law_1392 rfl (by decide) (by omega) hL ?_
  refine w_call 1396 (As := [.int (xs (i + 1)), .int (xs (i + 2)), .int (xs (i + 3))]) (rest := []) (a := 0) (ci := 9) (tX9_leaf (d := 0) hW hX) kX9_leaf dL_law_1393 rfl lL_134 rfl rfl rfl (by decide) (by decide) (fun v τ h => ?_)
  obtain ⟨x, rfl, hx, hX1, hF⟩ := h
  have hM1 : RM S τ := hM.fr hW hF
  refine w_aload_n 1397 dL_law_1396 rfl rfl ?_
  refine w_arg 1402 1 dL_law_1397 dL_law_1398 dL_law_1399 dL_law_1400 dL_law_1401 rfl (by decide) (by omega) hL ?_
  refine w_arg 1407 2 dL_law_1402 dL_law_1403 dL_law_1404 dL_law_1405 dL_law_1406 rfl (by decide) (by omega) hL ?_
  refine w_arg 1412 3 dL_law_1407 dL_law_1408 dL_law_1409 dL_law_1410 dL_law_1411 rfl (by decide) (by omega) hL ?_
  refine w_call 1415 (As := [.int (xs (i + 1)), .int (xs (i + 2)), .int (xs (i + 3))]) (rest := [.int x]) (a := 102) (ci := 10) (tX10_leaf (d := 0) hW hM1) kX10_leaf dL_law_1412 rfl lL_137 rfl rfl rfl (Nat.le_of_ble_eq_true rfl) (by decide) (fun v τ2 h => ?_)
  obtain ⟨y, rfl, hy, hM2, hF2⟩ := h
  have hW2 : WF (spLeaf S (xs (i + 1)) (xs (i + 2)) (xs (i + 3))).2 := WF_leaf hW (xs (i + 1)) (xs (i + 2)) (xs (i + 3))
  have hX2 := RX.fr hW2 hX1 hF2
  exact w_icmp_eq 1887 1418 dL_law_1415 (by decide) rfl (fun _ => K _ _ hW2 hX2 hM2) (fun h => absurd (hx.trans hy.symm) h)
theorem lc_30 {E : zE} {b L i : Nat} {xs : Nat → Int32} {σ : zM} {S : sS} (hL : L ≤ 3072) (hi : i + 6 ≤ L) (hW : WF S) (hX : RX S σ) (hM : RM S σ) (K : ∀ (S' : sS) (τ : zM), WF S' → RX S' τ → RM S' τ → Lw E b L xs 1887 (lsL E b i) [] τ) : Lw E b L xs 1420 (lsL E b i) [] σ := by
  refine w_aload_n 1421 dL_law_1420 rfl rfl ?_
  refine w_arg 1426 1 dL_law_1421 dL_law_1422 dL_law_1423 dL_law_1424 dL_law_1425 rfl (by decide) (by omega) hL ?_
  refine w_arg 1431 2 dL_law_1426 dL_law_1427 dL_law_1428 dL_law_1429 dL_law_1430 rfl (by decide) (by omega) hL ?_
  refine w_arg 1436 3 dL_law_1431 dL_law_1432 dL_law_1433 dL_law_1434 dL_law_1435 rfl (by decide) (by omega) hL ?_
  refine w_arg 1441 4 dL_law_1436 dL_law_1437 dL_law_1438 dL_law_1439 dL_law_1440 rfl (by decide) (by omega) hL ?_
  refine w_call 1444 (As := [.int (xs (i + 1)), .int (xs (i + 2)), .int (xs (i + 3)), .int (xs (i + 4))]) (rest := []) (a := 0) (ci := 9) (tX9_guessed (d := 0) hW hX) kX9_guessed dL_law_1441 rfl lL_138 rfl rfl rfl (by decide) (by decide) (fun v τ h => ?_)
  obtain ⟨x, rfl, hx, hX1, hF⟩ := h
  have hM1 : RM S τ := hM.fr hW hF
  refine w_aload_n 1445 dL_law_1444 rfl rfl ?_
  refine w_arg 1450 1 dL_law_1445 dL_law_1446 dL_law_1447 dL_law_1448 dL_law_1449 rfl (by decide) (by omega) hL ?_
  refine w_arg 1455 2 dL_law_1450 dL_law_1451 dL_law_1452 dL_law_1453 dL_law_1454 rfl (by decide) (by omega) hL ?_
  refine w_arg 1460 3 dL_law_1455 dL_law_1456 dL_law_1457 dL_law_1458 dL_law_1459 rfl (by decide) (by omega) hL ?_
  refine w_arg 1465 4 dL_law_1460 dL_law_1461 dL_law_1462 dL_law_1463 dL_law_1464 rfl (by decide) (by omega) hL ?_
  refine w_call 1468 (As := [.int (xs (i + 1)), .int (xs (i + 2)), .int (xs (i + 3)), .int (xs (i + 4))]) (rest := [.int x]) (a := 102) (ci := 10) (tX10_guessed (d := 0) hW hM1) kX10_guessed dL_law_1465 rfl lL_141 rfl rfl rfl (Nat.le_of_ble_eq_true rfl) (by decide) (fun v τ2 h => ?_)
  obtain ⟨y, rfl, hy, hM2, hF2⟩ := h
  have hW2 : WF (spGuessed S (xs (i + 1)) (xs (i + 2)) (xs (i + 3)) (xs (i + 4))).2 := WF_guessed hW (xs (i + 1)) (xs (i + 2)) (xs (i + 3)) (xs (i + 4))
  have hX2 := RX.fr hW2 hX1 hF2
  exact w_icmp_eq 1887 1471 dL_law_1468 (by decide) rfl (fun _ => K _ _ hW2 hX2 hM2) (fun h => absurd (hx.trans hy.symm) h)
theorem lc_31 {E : zE} {b L i : Nat} {xs : Nat → Int32} {σ : zM} {S : sS} (hL : L ≤ 3072) (hi : i + 6 ≤ L) (hW : WF S) (hX : RX S σ) (hM : RM S σ) (K : ∀ (S' : sS) (τ : zM), WF S' → RX S' τ → RM S' τ → Lw E b L xs 1887 (lsL E b i) [] τ) : Lw E b L xs 1473 (lsL E b i) [] σ := by
  refine w_aload_n 1474 dL_law_1473 rfl rfl ?_
  refine w_arg 1479 1 dL_law_1474 dL_law_1475 dL_law_1476 dL_law_1477 dL_law_1478 rfl (by decide) (by omega) hL ?_
  refine w_arg 1484 2 dL_law_1479 dL_law_1480 dL_law_1481 dL_law_1482 dL_law_1483 rfl (by decide) (by omega) hL ?_
  refine w_call 1487 (As := [.int (xs (i + 1)), .int (xs (i + 2))]) (rest := []) (a := 0) (ci := 9) (tX9_told (d := 0) hW hX) kX9_told dL_law_1484 rfl lL_142 rfl rfl rfl (by decide) (by decide) (fun v τ h => ?_)
  obtain ⟨x, rfl, hx, hX1, hF⟩ := h
  have hM1 : RM S τ := hM.fr hW hF
  refine w_aload_n 1488 dL_law_1487 rfl rfl ?_
  refine w_arg 1493 1 dL_law_1488 dL_law_1489 dL_law_1490 dL_law_1491 dL_law_1492 rfl (by decide) (by omega) hL ?_
  refine w_arg 1498 2 dL_law_1493 dL_law_1494 dL_law_1495 dL_law_1496 dL_law_1497 rfl (by decide) (by omega) hL ?_
  refine w_call 1501 (As := [.int (xs (i + 1)), .int (xs (i + 2))]) (rest := [.int x]) (a := 102) (ci := 10) (tX10_told (d := 0) hW hM1) kX10_told dL_law_1498 rfl lL_145 rfl rfl rfl (Nat.le_of_ble_eq_true rfl) (by decide) (fun v τ2 h => ?_)
  obtain ⟨y, rfl, hy, hM2, hF2⟩ := h
  have hW2 : WF (spTold S (xs (i + 1)) (xs (i + 2))).2 := wfTold hW (xs (i + 1)) (xs (i + 2))
  have hX2 := RX.fr hW2 hX1 hF2
  exact w_icmp_eq 1887 1504 dL_law_1501 (by decide) rfl (fun _ => K _ _ hW2 hX2 hM2) (fun h => absurd (hx.trans hy.symm) h)
theorem lc_32 {E : zE} {b L i : Nat} {xs : Nat → Int32} {σ : zM} {S : sS} (hL : L ≤ 3072) (hi : i + 6 ≤ L) (hW : WF S) (hX : RX S σ) (hM : RM S σ) (K : ∀ (S' : sS) (τ : zM), WF S' → RX S' τ → RM S' τ → Lw E b L xs 1887 (lsL E b i) [] τ) : Lw E b L xs 1506 (lsL E b i) [] σ := by
  refine w_aload_n 1507 dL_law_1506 rfl rfl ?_
  refine w_arg 1512 1 dL_law_1507 dL_law_1508 dL_law_1509 dL_law_1510 dL_law_1511 rfl (by decide) (by omega) hL ?_
  refine w_call 1515 (As := [.int (xs (i + 1))]) (rest := []) (a := 0) (ci := 9) (tX9_back (d := 0) hW hX) kX9_back dL_law_1512 rfl lL_146 rfl rfl rfl (by decide) (by decide) (fun v τ h => ?_)
  obtain ⟨x, rfl, hx, hX1, hF⟩ := h
  have hM1 : RM S τ := hM.fr hW hF
  refine w_aload_n 1516 dL_law_1515 rfl rfl ?_
  refine w_arg 1521 1 dL_law_1516 dL_law_1517 dL_law_1518 dL_law_1519 dL_law_1520 rfl (by decide) (by omega) hL ?_
  refine w_call 1524 (As := [.int (xs (i + 1))]) (rest := [.int x]) (a := 102) (ci := 10) (tX10_back (d := 0) hW hM1) kX10_back dL_law_1521 rfl lL_149 rfl rfl rfl (Nat.le_of_ble_eq_true rfl) (by decide) (fun v τ2 h => ?_)
  obtain ⟨y, rfl, hy, hM2, hF2⟩ := h
  have hW2 : WF (spBack S (xs (i + 1))).2 := WF_back hW (xs (i + 1))
  have hX2 := RX.fr hW2 hX1 hF2
  exact w_icmp_eq 1887 1527 dL_law_1524 (by decide) rfl (fun _ => K _ _ hW2 hX2 hM2) (fun h => absurd (hx.trans hy.symm) h)
theorem lc_33 {E : zE} {b L i : Nat} {xs : Nat → Int32} {σ : zM} {S : sS} (hL : L ≤ 3072) (hi : i + 6 ≤ L) (hW : WF S) (hX : RX S σ) (hM : RM S σ) (K : ∀ (S' : sS) (τ : zM), WF S' → RX S' τ → RM S' τ → Lw E b L xs 1887 (lsL E b i) [] τ) : Lw E b L xs 1529 (lsL E b i) [] σ := by
  refine w_aload_n 1530 dL_law_1529 rfl rfl ?_
  refine w_arg 1535 1 dL_law_1530 dL_law_1531 dL_law_1532 dL_law_1533 dL_law_1534 rfl (by decide) (by omega) hL ?_
  refine w_call 1538 (As := [.int (xs (i + 1))]) (rest := []) (a := 0) (ci := 9) (tX9_hand (d := 0) hW hX) kX9_hand dL_law_1535 rfl lL_150 rfl rfl rfl (by decide) (by decide) (fun v τ h => ?_)
  obtain ⟨x, rfl, hx, hX1, hF⟩ := h
  have hM1 : RM S τ := hM.fr hW hF
  refine w_aload_n 1539 dL_law_1538 rfl rfl ?_
  refine w_arg 1544 1 dL_law_1539 dL_law_1540 dL_law_1541 dL_law_1542 dL_law_1543 rfl (by decide) (by omega) hL ?_
  refine w_call 1547 (As := [.int (xs (i + 1))]) (rest := [.int x]) (a := 102) (ci := 10) (tX10_hand (d := 0) hW hM1) kX10_hand dL_law_1544 rfl lL_153 rfl rfl rfl (Nat.le_of_ble_eq_true rfl) (by decide) (fun v τ2 h => ?_)
  obtain ⟨y, rfl, hy, hM2, hF2⟩ := h
  have hW2 : WF (spHand S (xs (i + 1))).2 := wfHand hW (xs (i + 1))
  have hX2 := RX.fr hW2 hX1 hF2
  exact w_icmp_eq 1887 1550 dL_law_1547 (by decide) rfl (fun _ => K _ _ hW2 hX2 hM2) (fun h => absurd (hx.trans hy.symm) h)
theorem lc_34 {E : zE} {b L i : Nat} {xs : Nat → Int32} {σ : zM} {S : sS} (hL : L ≤ 3072) (hi : i + 6 ≤ L) (hW : WF S) (hX : RX S σ) (hM : RM S σ) (K : ∀ (S' : sS) (τ : zM), WF S' → RX S' τ → RM S' τ → Lw E b L xs 1887 (lsL E b i) [] τ) : Lw E b L xs 1552 (lsL E b i) [] σ := by
  refine w_aload_n 1553 dL_law_1552 rfl rfl ?_
  refine w_arg 1558 1 dL_law_1553 dL_law_1554 dL_law_1555 dL_law_1556 dL_law_1557 rfl (by decide) (by omega) hL ?_
  refine w_call 1561 (As := [.int (xs (i + 1))]) (rest := []) (a := 0) (ci := 9) (tX9_guesser (d := 0) hW hX) kX9_guesser dL_law_1558 rfl lL_154 rfl rfl rfl (by decide) (by decide) (fun v τ h => ?_)
  obtain ⟨x, rfl, hx, hX1, hF⟩ := h
  have hM1 : RM S τ := hM.fr hW hF
  refine w_aload_n 1562 dL_law_1561 rfl rfl ?_
  refine w_arg 1567 1 dL_law_1562 dL_law_1563 dL_law_1564 dL_law_1565 dL_law_1566 rfl (by decide) (by omega) hL ?_
  refine w_call 1570 (As := [.int (xs (i + 1))]) (rest := [.int x]) (a := 102) (ci := 10) (tX10_guesser (d := 0) hW hM1) kX10_guesser dL_law_1567 rfl lL_157 rfl rfl rfl (Nat.le_of_ble_eq_true rfl) (by decide) (fun v τ2 h => ?_)
  obtain ⟨y, rfl, hy, hM2, hF2⟩ := h
  have hW2 : WF (spGuesser S (xs (i + 1))).2 := wfGuesser hW (xs (i + 1))
  have hX2 := RX.fr hW2 hX1 hF2
  exact w_icmp_eq 1887 1573 dL_law_1570 (by decide) rfl (fun _ => K _ _ hW2 hX2 hM2) (fun h => absurd (hx.trans hy.symm) h)
theorem lc_35 {E : zE} {b L i : Nat} {xs : Nat → Int32} {σ : zM} {S : sS} (hL : L ≤ 3072) (hi : i + 6 ≤ L) (hW : WF S) (hX : RX S σ) (hM : RM S σ) (K : ∀ (S' : sS) (τ : zM), WF S' → RX S' τ → RM S' τ → Lw E b L xs 1887 (lsL E b i) [] τ) : Lw E b L xs 1575 (lsL E b i) [] σ := by
  refine w_aload_n 1576 dL_law_1575 rfl rfl ?_
  refine w_arg 1581 1 dL_law_1576 dL_law_1577 dL_law_1578 dL_law_1579 dL_law_1580 rfl (by decide) (by omega) hL ?_
  refine w_call 1584 (As := [.int (xs (i + 1))]) (rest := []) (a := 0) (ci := 9) (tX9_machine (d := 0) hW hX) kX9_machine dL_law_1581 rfl lL_158 rfl rfl rfl (by decide) (by decide) (fun v τ h => ?_)
  obtain ⟨x, rfl, hx, hX1, hF⟩ := h
  have hM1 : RM S τ := hM.fr hW hF
  refine w_aload_n 1585 dL_law_1584 rfl rfl ?_
  refine w_arg 1590 1 dL_law_1585 dL_law_1586 dL_law_1587 dL_law_1588 dL_law_1589 rfl (by decide) (by omega) hL ?_
  refine w_call 1593 (As := [.int (xs (i + 1))]) (rest := [.int x]) (a := 102) (ci := 10) (tX10_machine (d := 0) hW hM1) kX10_machine dL_law_1590 rfl lL_161 rfl rfl rfl (Nat.le_of_ble_eq_true rfl) (by decide) (fun v τ2 h => ?_)
  obtain ⟨y, rfl, hy, hM2, hF2⟩ := h
  have hW2 : WF (spMachine S (xs (i + 1))).2 := wfMachine hW (xs (i + 1))
  have hX2 := RX.fr hW2 hX1 hF2
  exact w_icmp_eq 1887 1596 dL_law_1593 (by decide) rfl (fun _ => K _ _ hW2 hX2 hM2) (fun h => absurd (hx.trans hy.symm) h)
theorem lc_36 {E : zE} {b L i : Nat} {xs : Nat → Int32} {σ : zM} {S : sS} (hL : L ≤ 3072) (hi : i + 6 ≤ L) (hW : WF S) (hX : RX S σ) (hM : RM S σ) (K : ∀ (S' : sS) (τ : zM), WF S' → RX S' τ → RM S' τ → Lw E b L xs 1887 (lsL E b i) [] τ) : Lw E b L xs 1598 (lsL E b i) [] σ := by
  refine w_aload_n 1599 dL_law_1598 rfl rfl ?_
  refine w_call 1602 (As := []) (rest := []) (a := 0) (ci := 9) (tX9_held (d := 0) hW hX) kX9_held dL_law_1599 rfl lL_162 rfl rfl rfl (by decide) (by decide) (fun v τ h => ?_)
  obtain ⟨x, rfl, hx, hX1, hF⟩ := h
  have hM1 : RM S τ := hM.fr hW hF
  refine w_aload_n 1603 dL_law_1602 rfl rfl ?_
  refine w_call 1606 (As := []) (rest := [.int x]) (a := 102) (ci := 10) (tX10_held (d := 0) hW hM1) kX10_held dL_law_1603 rfl lL_166 rfl rfl rfl (Nat.le_of_ble_eq_true rfl) (by decide) (fun v τ2 h => ?_)
  obtain ⟨y, rfl, hy, hM2, hF2⟩ := h
  have hW2 : WF (spHeld S ).2 := wfHeld hW 
  have hX2 := RX.fr hW2 hX1 hF2
  exact w_icmp_eq 1887 1609 dL_law_1606 (by decide) rfl (fun _ => K _ _ hW2 hX2 hM2) (fun h => absurd (hx.trans hy.symm) h)
theorem lc_37 {E : zE} {b L i : Nat} {xs : Nat → Int32} {σ : zM} {S : sS} (hL : L ≤ 3072) (hi : i + 6 ≤ L) (hW : WF S) (hX : RX S σ) (hM : RM S σ) (K : ∀ (S' : sS) (τ : zM), WF S' → RX S' τ → RM S' τ → Lw E b L xs 1887 (lsL E b i) [] τ) : Lw E b L xs 1611 (lsL E b i) [] σ := by
  refine w_aload_n 1612 dL_law_1611 rfl rfl ?_
  refine w_arg 1617 1 dL_law_1612 dL_law_1613 dL_law_1614 dL_law_1615 dL_law_1616 rfl (by decide) (by omega) hL ?_
  refine w_arg 1622 2 dL_law_1617 dL_law_1618 dL_law_1619 dL_law_1620 dL_law_1621 rfl (by decide) (by omega) hL ?_
  refine w_arg 1627 3 dL_law_1622 dL_law_1623 dL_law_1624 dL_law_1625 dL_law_1626 rfl (by decide) (by omega) hL ?_
  refine w_arg 1632 4 dL_law_1627 dL_law_1628 dL_law_1629 dL_law_1630 dL_law_1631 rfl (by decide) (by omega) hL ?_
  refine w_arg 1637 5 dL_law_1632 dL_law_1633 dL_law_1634 dL_law_1635 dL_law_1636 rfl (by decide) (by omega) hL ?_
  refine w_call 1640 (As := [.int (xs (i + 1)), .int (xs (i + 2)), .int (xs (i + 3)), .int (xs (i + 4)), .int (xs (i + 5))]) (rest := []) (a := 0) (ci := 9) (tX9_sign (d := 0) hW hX) kX9_sign dL_law_1637 rfl lL_167 rfl rfl rfl (by decide) (by decide) (fun v τ h => ?_)
  obtain ⟨x, rfl, hx, hX1, hF⟩ := h
  have hM1 : RM S τ := hM.fr hW hF
  refine w_aload_n 1641 dL_law_1640 rfl rfl ?_
  refine w_arg 1646 1 dL_law_1641 dL_law_1642 dL_law_1643 dL_law_1644 dL_law_1645 rfl (by decide) (by omega) hL ?_
  refine w_arg 1651 2 dL_law_1646 dL_law_1647 dL_law_1648 dL_law_1649 dL_law_1650 rfl (by decide) (by omega) hL ?_
  refine w_arg 1656 3 dL_law_1651 dL_law_1652 dL_law_1653 dL_law_1654 dL_law_1655 rfl (by decide) (by omega) hL ?_
  refine w_arg 1661 4 dL_law_1656 dL_law_1657 dL_law_1658 dL_law_1659 dL_law_1660 rfl (by decide) (by omega) hL ?_
  refine w_arg 1666 5 dL_law_1661 dL_law_1662 dL_law_1663 dL_law_1664 dL_law_1665 rfl (by decide) (by omega) hL ?_
  refine w_call 1669 (As := [.int (xs (i + 1)), .int (xs (i + 2)), .int (xs (i + 3)), .int (xs (i + 4)), .int (xs (i + 5))]) (rest := [.int x]) (a := 102) (ci := 10) (tX10_sign (d := 0) hW hM1) kX10_sign dL_law_1666 rfl lL_170 rfl rfl rfl (Nat.le_of_ble_eq_true rfl) (by decide) (fun v τ2 h => ?_)
  obtain ⟨y, rfl, hy, hM2, hF2⟩ := h
  have hW2 : WF (spSign S (xs (i + 1)) (xs (i + 2)) (xs (i + 3)) (xs (i + 4)) (xs (i + 5))).2 := wfSign hW (xs (i + 1)) (xs (i + 2)) (xs (i + 3)) (xs (i + 4)) (xs (i + 5))
  have hX2 := RX.fr hW2 hX1 hF2
  exact w_icmp_eq 1887 1672 dL_law_1669 (by decide) rfl (fun _ => K _ _ hW2 hX2 hM2) (fun h => absurd (hx.trans hy.symm) h)
theorem lc_38 {E : zE} {b L i : Nat} {xs : Nat → Int32} {σ : zM} {S : sS} (hL : L ≤ 3072) (hi : i + 6 ≤ L) (hW : WF S) (hX : RX S σ) (hM : RM S σ) (K : ∀ (S' : sS) (τ : zM), WF S' → RX S' τ → RM S' τ → Lw E b L xs 1887 (lsL E b i) [] τ) : Lw E b L xs 1674 (lsL E b i) [] σ := by
  refine w_aload_n 1675 dL_law_1674 rfl rfl ?_
  refine w_arg 1680 1 dL_law_1675 dL_law_1676 dL_law_1677 dL_law_1678 dL_law_1679 rfl (by decide) (by omega) hL ?_
  refine w_arg 1685 2 dL_law_1680 dL_law_1681 dL_law_1682 dL_law_1683 dL_law_1684 rfl (by decide) (by omega) hL ?_
  refine w_arg 1690 3 dL_law_1685 dL_law_1686 dL_law_1687 dL_law_1688 dL_law_1689 rfl (by decide) (by omega) hL ?_
  refine w_arg 1695 4 dL_law_1690 dL_law_1691 dL_law_1692 dL_law_1693 dL_law_1694 rfl (by decide) (by omega) hL ?_
  refine w_call 1698 (As := [.int (xs (i + 1)), .int (xs (i + 2)), .int (xs (i + 3)), .int (xs (i + 4))]) (rest := []) (a := 0) (ci := 9) (tX9_stranger (d := 0) hW hX) kX9_stranger dL_law_1695 rfl lL_171 rfl rfl rfl (by decide) (by decide) (fun v τ h => ?_)
  obtain ⟨x, rfl, hx, hX1, hF⟩ := h
  have hM1 : RM S τ := hM.fr hW hF
  refine w_aload_n 1699 dL_law_1698 rfl rfl ?_
  refine w_arg 1704 1 dL_law_1699 dL_law_1700 dL_law_1701 dL_law_1702 dL_law_1703 rfl (by decide) (by omega) hL ?_
  refine w_arg 1709 2 dL_law_1704 dL_law_1705 dL_law_1706 dL_law_1707 dL_law_1708 rfl (by decide) (by omega) hL ?_
  refine w_arg 1714 3 dL_law_1709 dL_law_1710 dL_law_1711 dL_law_1712 dL_law_1713 rfl (by decide) (by omega) hL ?_
  refine w_arg 1719 4 dL_law_1714 dL_law_1715 dL_law_1716 dL_law_1717 dL_law_1718 rfl (by decide) (by omega) hL ?_
  refine w_call 1722 (As := [.int (xs (i + 1)), .int (xs (i + 2)), .int (xs (i + 3)), .int (xs (i + 4))]) (rest := [.int x]) (a := 102) (ci := 10) (tX10_stranger (d := 0) hW hM1) kX10_stranger dL_law_1719 rfl lL_174 rfl rfl rfl (Nat.le_of_ble_eq_true rfl) (by decide) (fun v τ2 h => ?_)
  obtain ⟨y, rfl, hy, hM2, hF2⟩ := h
  have hW2 : WF (spStranger S (xs (i + 1)) (xs (i + 2)) (xs (i + 3)) (xs (i + 4))).2 := wfStranger hW (xs (i + 1)) (xs (i + 2)) (xs (i + 3)) (xs (i + 4))
  have hX2 := RX.fr hW2 hX1 hF2
  exact w_icmp_eq 1887 1725 dL_law_1722 (by decide) rfl (fun _ => K _ _ hW2 hX2 hM2) (fun h => absurd (hx.trans hy.symm) h)
theorem lc_39 {E : zE} {b L i : Nat} {xs : Nat → Int32} {σ : zM} {S : sS} (hL : L ≤ 3072) (hi : i + 6 ≤ L) (hW : WF S) (hX : RX S σ) (hM : RM S σ) (K : ∀ (S' : sS) (τ : zM), WF S' → RX S' τ → RM S' τ → Lw E b L xs 1887 (lsL E b i) [] τ) : Lw E b L xs 1727 (lsL E b i) [] σ := by
  refine w_aload_n 1728 dL_law_1727 rfl rfl ?_
  refine w_arg 1733 1 dL_law_1728 dL_law_1729 dL_law_1730 dL_law_1731 dL_law_1732 rfl (by decide) (by omega) hL ?_
  refine w_call 1736 (As := [.int (xs (i + 1))]) (rest := []) (a := 0) (ci := 9) (tX9_image (d := 0) hW hX) kX9_image dL_law_1733 rfl lL_175 rfl rfl rfl (by decide) (by decide) (fun v τ h => ?_)
  obtain ⟨x, rfl, hx, hX1, hF⟩ := h
  have hM1 : RM S τ := hM.fr hW hF
  refine w_aload_n 1737 dL_law_1736 rfl rfl ?_
  refine w_arg 1742 1 dL_law_1737 dL_law_1738 dL_law_1739 dL_law_1740 dL_law_1741 rfl (by decide) (by omega) hL ?_
  refine w_call 1745 (As := [.int (xs (i + 1))]) (rest := [.int x]) (a := 102) (ci := 10) (tX10_image (d := 0) hW hM1) kX10_image dL_law_1742 rfl lL_178 rfl rfl rfl (Nat.le_of_ble_eq_true rfl) (by decide) (fun v τ2 h => ?_)
  obtain ⟨y, rfl, hy, hM2, hF2⟩ := h
  have hW2 : WF (spImage S (xs (i + 1))).2 := wfImage hW (xs (i + 1))
  have hX2 := RX.fr hW2 hX1 hF2
  exact w_icmp_eq 1887 1748 dL_law_1745 (by decide) rfl (fun _ => K _ _ hW2 hX2 hM2) (fun h => absurd (hx.trans hy.symm) h)
theorem lc_40 {E : zE} {b L i : Nat} {xs : Nat → Int32} {σ : zM} {S : sS} (hL : L ≤ 3072) (hi : i + 6 ≤ L) (hW : WF S) (hX : RX S σ) (hM : RM S σ) (K : ∀ (S' : sS) (τ : zM), WF S' → RX S' τ → RM S' τ → Lw E b L xs 1887 (lsL E b i) [] τ) : Lw E b L xs 1750 (lsL E b i) [] σ := by
  refine w_aload_n 1751 dL_law_1750 rfl rfl ?_
  refine w_arg 1756 1 dL_law_1751 dL_law_1752 dL_law_1753 dL_law_1754 dL_law_1755 rfl (by decide) (by omega) hL ?_
  refine w_call 1759 (As := [.int (xs (i + 1))]) (rest := []) (a := 0) (ci := 9) (tX9_on (d := 0) hW hX) kX9_on dL_law_1756 rfl lL_179 rfl rfl rfl (by decide) (by decide) (fun v τ h => ?_)
  obtain ⟨x, rfl, hx, hX1, hF⟩ := h
  have hM1 : RM S τ := hM.fr hW hF
  refine w_aload_n 1760 dL_law_1759 rfl rfl ?_
  refine w_arg 1765 1 dL_law_1760 dL_law_1761 dL_law_1762 dL_law_1763 dL_law_1764 rfl (by decide) (by omega) hL ?_
  refine w_call 1768 (As := [.int (xs (i + 1))]) (rest := [.int x]) (a := 102) (ci := 10) (tX10_on (d := 0) hW hM1) kX10_on dL_law_1765 rfl lL_182 rfl rfl rfl (Nat.le_of_ble_eq_true rfl) (by decide) (fun v τ2 h => ?_)
  obtain ⟨y, rfl, hy, hM2, hF2⟩ := h
  have hW2 : WF (spOn S (xs (i + 1))).2 := WF_on hW (xs (i + 1))
  have hX2 := RX.fr hW2 hX1 hF2
  exact w_icmp_eq 1887 1771 dL_law_1768 (by decide) rfl (fun _ => K _ _ hW2 hX2 hM2) (fun h => absurd (hx.trans hy.symm) h)
theorem lc_41 {E : zE} {b L i : Nat} {xs : Nat → Int32} {σ : zM} {S : sS} (hL : L ≤ 3072) (hi : i + 6 ≤ L) (hW : WF S) (hX : RX S σ) (hM : RM S σ) (K : ∀ (S' : sS) (τ : zM), WF S' → RX S' τ → RM S' τ → Lw E b L xs 1887 (lsL E b i) [] τ) : Lw E b L xs 1773 (lsL E b i) [] σ := by
  refine w_aload_n 1774 dL_law_1773 rfl rfl ?_
  refine w_call 1777 (As := []) (rest := []) (a := 0) (ci := 9) (tX9_asked (d := 0) hX) kX9_asked dL_law_1774 rfl lL_183 rfl rfl rfl (by decide) (by decide) (fun v τ h => ?_)
  obtain ⟨x, rfl, hx, rfl⟩ := h
  have hM1 := hM
  refine w_aload_n 1778 dL_law_1777 rfl rfl ?_
  refine w_call 1781 (As := []) (rest := [.int x]) (a := 102) (ci := 10) (tX10_asked (d := 0) hM1) kX10_asked dL_law_1778 rfl lL_186 rfl rfl rfl (Nat.le_of_ble_eq_true rfl) (by decide) (fun v τ2 h => ?_)
  obtain ⟨y, rfl, hy, rfl⟩ := h
  exact w_icmp_eq 1887 1784 dL_law_1781 (by decide) rfl (fun _ => K _ _ hW hX hM) (fun h => absurd (hx.trans hy.symm) h)
theorem lc_42 {E : zE} {b L i : Nat} {xs : Nat → Int32} {σ : zM} {S : sS} (hL : L ≤ 3072) (hi : i + 6 ≤ L) (hW : WF S) (hX : RX S σ) (hM : RM S σ) (K : ∀ (S' : sS) (τ : zM), WF S' → RX S' τ → RM S' τ → Lw E b L xs 1887 (lsL E b i) [] τ) : Lw E b L xs 1786 (lsL E b i) [] σ := by
  refine w_aload_n 1787 dL_law_1786 rfl rfl ?_
  refine w_call 1790 (As := []) (rest := []) (a := 0) (ci := 9) (tX9_upper (d := 0) hX) kX9_upper dL_law_1787 rfl lL_187 rfl rfl rfl (by decide) (by decide) (fun v τ h => ?_)
  obtain ⟨x, rfl, hx, rfl⟩ := h
  have hM1 := hM
  refine w_aload_n 1791 dL_law_1790 rfl rfl ?_
  refine w_call 1794 (As := []) (rest := [.long x]) (a := 102) (ci := 10) (tX10_upper (d := 0) hM1) kX10_upper dL_law_1791 rfl lL_191 rfl rfl rfl (Nat.le_of_ble_eq_true rfl) (by decide) (fun v τ2 h => ?_)
  obtain ⟨y, rfl, hy, rfl⟩ := h
  refine w_lcmp 1795 dL_law_1794 rfl ?_
  rw [hx, hy, lcmp_rf]
  exact w_if_eq 1887 1798 dL_law_1795 (by decide) rfl (fun _ => K _ _ hW hX hM) (fun h => absurd rfl h)
theorem lc_43 {E : zE} {b L i : Nat} {xs : Nat → Int32} {σ : zM} {S : sS} (hL : L ≤ 3072) (hi : i + 6 ≤ L) (hW : WF S) (hX : RX S σ) (hM : RM S σ) (K : ∀ (S' : sS) (τ : zM), WF S' → RX S' τ → RM S' τ → Lw E b L xs 1887 (lsL E b i) [] τ) : Lw E b L xs 1800 (lsL E b i) [] σ := by
  refine w_aload_n 1801 dL_law_1800 rfl rfl ?_
  refine w_call 1804 (As := []) (rest := []) (a := 0) (ci := 9) (tX9_lower (d := 0) hX) kX9_lower dL_law_1801 rfl lL_192 rfl rfl rfl (by decide) (by decide) (fun v τ h => ?_)
  obtain ⟨x, rfl, hx, rfl⟩ := h
  have hM1 := hM
  refine w_aload_n 1805 dL_law_1804 rfl rfl ?_
  refine w_call 1808 (As := []) (rest := [.long x]) (a := 102) (ci := 10) (tX10_lower (d := 0) hM1) kX10_lower dL_law_1805 rfl lL_195 rfl rfl rfl (Nat.le_of_ble_eq_true rfl) (by decide) (fun v τ2 h => ?_)
  obtain ⟨y, rfl, hy, rfl⟩ := h
  refine w_lcmp 1809 dL_law_1808 rfl ?_
  rw [hx, hy, lcmp_rf]
  exact w_if_eq 1887 1812 dL_law_1809 (by decide) rfl (fun _ => K _ _ hW hX hM) (fun h => absurd rfl h)
theorem lc_44 {E : zE} {b L i : Nat} {xs : Nat → Int32} {σ : zM} {S : sS} (hL : L ≤ 3072) (hi : i + 6 ≤ L) (hW : WF S) (hX : RX S σ) (hM : RM S σ) (K : ∀ (S' : sS) (τ : zM), WF S' → RX S' τ → RM S' τ → Lw E b L xs 1887 (lsL E b i) [] τ) : Lw E b L xs 1814 (lsL E b i) [] σ := by
  refine w_aload_n 1815 dL_law_1814 rfl rfl ?_
  refine w_arg 1820 1 dL_law_1815 dL_law_1816 dL_law_1817 dL_law_1818 dL_law_1819 rfl (by decide) (by omega) hL ?_
  refine w_call 1823 (As := [.int (xs (i + 1))]) (rest := []) (a := 0) (ci := 9) (tX9_count (d := 0) hW hX) kX9_count dL_law_1820 rfl lL_196 rfl rfl rfl (by decide) (by decide) (fun v τ h => ?_)
  obtain ⟨x, rfl, hx, hX1, hF⟩ := h
  have hM1 : RM S τ := hM.fr hW hF
  refine w_aload_n 1824 dL_law_1823 rfl rfl ?_
  refine w_arg 1829 1 dL_law_1824 dL_law_1825 dL_law_1826 dL_law_1827 dL_law_1828 rfl (by decide) (by omega) hL ?_
  refine w_call 1832 (As := [.int (xs (i + 1))]) (rest := [.int x]) (a := 102) (ci := 10) (tX10_count (d := 0) hW hM1) kX10_count dL_law_1829 rfl lL_199 rfl rfl rfl (Nat.le_of_ble_eq_true rfl) (by decide) (fun v τ2 h => ?_)
  obtain ⟨y, rfl, hy, hM2, hF2⟩ := h
  have hW2 : WF (spCount S (xs (i + 1))).2 := wfCount hW (xs (i + 1))
  have hX2 := RX.fr hW2 hX1 hF2
  exact w_icmp_eq 1887 1835 dL_law_1832 (by decide) rfl (fun _ => K _ _ hW2 hX2 hM2) (fun h => absurd (hx.trans hy.symm) h)
theorem lc_45 {E : zE} {b L i : Nat} {xs : Nat → Int32} {σ : zM} {S : sS} (hL : L ≤ 3072) (hi : i + 6 ≤ L) (hW : WF S) (hX : RX S σ) (hM : RM S σ) (K : ∀ (S' : sS) (τ : zM), WF S' → RX S' τ → RM S' τ → Lw E b L xs 1887 (lsL E b i) [] τ) : Lw E b L xs 1837 (lsL E b i) [] σ := by
  refine w_aload_n 1838 dL_law_1837 rfl rfl ?_
  refine w_call 1841 (As := []) (rest := []) (a := 0) (ci := 9) (tX9_finding (d := 0) hX) kX9_finding dL_law_1838 rfl lL_200 rfl rfl rfl (by decide) (by decide) (fun v τ h => ?_)
  obtain ⟨x, rfl, hx, rfl⟩ := h
  have hM1 := hM
  refine w_aload_n 1842 dL_law_1841 rfl rfl ?_
  refine w_call 1845 (As := []) (rest := [.int x]) (a := 102) (ci := 10) (tX10_finding (d := 0) hM1) kX10_finding dL_law_1842 rfl lL_203 rfl rfl rfl (Nat.le_of_ble_eq_true rfl) (by decide) (fun v τ2 h => ?_)
  obtain ⟨y, rfl, hy, rfl⟩ := h
  exact w_icmp_eq 1887 1848 dL_law_1845 (by decide) rfl (fun _ => K _ _ hW hX hM) (fun h => absurd (hx.trans hy.symm) h)
theorem lc_46 {E : zE} {b L i : Nat} {xs : Nat → Int32} {σ : zM} {S : sS} (hL : L ≤ 3072) (hi : i + 6 ≤ L) (hW : WF S) (hX : RX S σ) (hM : RM S σ) (K : ∀ (S' : sS) (τ : zM), WF S' → RX S' τ → RM S' τ → Lw E b L xs 1887 (lsL E b i) [] τ) : Lw E b L xs 1850 (lsL E b i) [] σ := by
  refine w_aload_n 1851 dL_law_1850 rfl rfl ?_
  refine w_arg 1856 1 dL_law_1851 dL_law_1852 dL_law_1853 dL_law_1854 dL_law_1855 rfl (by decide) (by omega) hL ?_
  refine w_call 1859 (As := [.int (xs (i + 1))]) (rest := []) (a := 0) (ci := 9) (tX9_findings (d := 0) hX) kX9_findings dL_law_1856 rfl lL_204 rfl rfl rfl (by decide) (by decide) (fun v τ h => ?_)
  obtain ⟨x, rfl, hx, hX1, hF⟩ := h
  have hM1 : RM S τ := hM.fr hW hF
  refine w_aload_n 1860 dL_law_1859 rfl rfl ?_
  refine w_arg 1865 1 dL_law_1860 dL_law_1861 dL_law_1862 dL_law_1863 dL_law_1864 rfl (by decide) (by omega) hL ?_
  refine w_call 1868 (As := [.int (xs (i + 1))]) (rest := [.int x]) (a := 102) (ci := 10) (tX10_findings (d := 0) hM1) kX10_findings dL_law_1865 rfl lL_207 rfl rfl rfl (Nat.le_of_ble_eq_true rfl) (by decide) (fun v τ2 h => ?_)
  obtain ⟨y, rfl, hy, hM2, hF2⟩ := h
  have hW2 : WF (spFindings S (xs (i + 1))).2 := wfFindings hW (xs (i + 1))
  have hX2 := RX.fr hW2 hX1 hF2
  exact w_icmp_eq 1887 1871 dL_law_1868 (by decide) rfl (fun _ => K _ _ hW2 hX2 hM2) (fun h => absurd (hx.trans hy.symm) h)
theorem lc_47 {E : zE} {b L i : Nat} {xs : Nat → Int32} {σ : zM} {S : sS} (hL : L ≤ 3072) (hi : i + 6 ≤ L) (hW : WF S) (hX : RX S σ) (hM : RM S σ) (K : ∀ (S' : sS) (τ : zM), WF S' → RX S' τ → RM S' τ → Lw E b L xs 1887 (lsL E b i) [] τ) : Lw E b L xs 1873 (lsL E b i) [] σ := by
  refine w_aload_n 1874 dL_law_1873 rfl rfl ?_
  refine w_call 1877 (As := []) (rest := []) (a := 0) (ci := 9) (tX9_digest (d := 0) hW hX) kX9_digest dL_law_1874 rfl lL_208 rfl rfl rfl (by decide) (by decide) (fun v τ h => ?_)
  obtain ⟨x, rfl, hx, rfl⟩ := h
  have hM1 := hM
  refine w_aload_n 1878 dL_law_1877 rfl rfl ?_
  refine w_call 1881 (As := []) (rest := [.long x]) (a := 102) (ci := 10) (tX10_digest (d := 0) hW hM1) kX10_digest dL_law_1878 rfl lL_211 rfl rfl rfl (Nat.le_of_ble_eq_true rfl) (by decide) (fun v τ2 h => ?_)
  obtain ⟨y, rfl, hy, hF2, hM2⟩ := h
  have hX2 := RX.fr hW hX (hF2.mono (by intro a j h; omega))
  refine w_lcmp 1882 dL_law_1881 rfl ?_
  rw [hx, hy, lcmp_rf]
  exact w_if_eq 1887 1885 dL_law_1882 (by decide) rfl (fun _ => K _ _ hW hX2 hM2) (fun h => absurd rfl h)
