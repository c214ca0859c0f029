theorem law_cellar {G : vG} {p : Program} {e : Env} {s : State} {m : MethodId} {below : List Frame} {meth : Method} {c : Code} {b L : Nat} {xs : Nat → Int32} {C S : Nat} {i j : Nat} {σ : vS} (A : LwA G p s m meth c b L xs) (hi : i + 6 ≤ L) (hC : C ≤ 600000) (hS : S ≤ 7302250) (hj : j < 512) (h : Inv j σ) (k : ∀ σ2, Inv (j + 1) σ2 → Lw G p e s m below meth c b L xs C S i 1539 [] σ2) : Lw G p e s m below meth c b L xs C S i 220 [] σ := by
  refine L_x A dL_law_220 ?_
  refine L_arg A 1 (by decide) (by omega) dL_law_221 dL_law_222 dL_law_223 dL_law_224 dL_law_225 ?_
  refine L_arg A 2 (by decide) (by omega) dL_law_226 dL_law_227 dL_law_228 dL_law_229 dL_law_230 ?_
  refine L_arg A 3 (by decide) (by omega) dL_law_231 dL_law_232 dL_law_233 dL_law_234 dL_law_235 ?_
  refine L_callA A (As := [.int (xs (i + 1)), .int (xs (i + 2)), .int (xs (i + 3))]) (st := []) rfl dL_law_236 cv_L_13 rfl (by decide) (op_cellar (Nat.le_refl 100) hj h) hC hS (fun v σ1 h1 => ?_)
  refine L_m A dL_law_239 ?_
  refine L_arg A 1 (by decide) (by omega) dL_law_240 dL_law_241 dL_law_242 dL_law_243 dL_law_244 ?_
  refine L_arg A 2 (by decide) (by omega) dL_law_245 dL_law_246 dL_law_247 dL_law_248 dL_law_249 ?_
  refine L_arg A 3 (by decide) (by omega) dL_law_250 dL_law_251 dL_law_252 dL_law_253 dL_law_254 ?_
  refine L_callB A (As := [.int (xs (i + 1)), .int (xs (i + 2)), .int (xs (i + 3))]) (st := [.int v]) rfl dL_law_255 cv_L_17 rfl (Nat.le_of_ble_eq_true rfl) h1 hC hS (fun σ2 h2 => ?_)
  exact L_eq A dL_law_258 (by decide) (k σ2 h2)
theorem law_told {G : vG} {p : Program} {e : Env} {s : State} {m : MethodId} {below : List Frame} {meth : Method} {c : Code} {b L : Nat} {xs : Nat → Int32} {C S : Nat} {i j : Nat} {σ : vS} (A : LwA G p s m meth c b L xs) (hi : i + 6 ≤ L) (hC : C ≤ 600000) (hS : S ≤ 7302250) (hj : j < 512) (h : Inv j σ) (k : ∀ σ2, Inv (j + 1) σ2 → Lw G p e s m below meth c b L xs C S i 1539 [] σ2) : Lw G p e s m below meth c b L xs C S i 263 [] σ := by
  refine L_x A dL_law_263 ?_
  refine L_arg A 1 (by decide) (by omega) dL_law_264 dL_law_265 dL_law_266 dL_law_267 dL_law_268 ?_
  refine L_arg A 2 (by decide) (by omega) dL_law_269 dL_law_270 dL_law_271 dL_law_272 dL_law_273 ?_
  refine L_callA A (As := [.int (xs (i + 1)), .int (xs (i + 2))]) (st := []) rfl dL_law_274 cv_L_18 rfl (by decide) (op_told (Nat.le_refl 100) hj h) hC hS (fun v σ1 h1 => ?_)
  refine L_m A dL_law_277 ?_
  refine L_arg A 1 (by decide) (by omega) dL_law_278 dL_law_279 dL_law_280 dL_law_281 dL_law_282 ?_
  refine L_arg A 2 (by decide) (by omega) dL_law_283 dL_law_284 dL_law_285 dL_law_286 dL_law_287 ?_
  refine L_callB A (As := [.int (xs (i + 1)), .int (xs (i + 2))]) (st := [.int v]) rfl dL_law_288 cv_L_22 rfl (Nat.le_of_ble_eq_true rfl) h1 hC hS (fun σ2 h2 => ?_)
  exact L_eq A dL_law_291 (by decide) (k σ2 h2)
theorem law_takes {G : vG} {p : Program} {e : Env} {s : State} {m : MethodId} {below : List Frame} {meth : Method} {c : Code} {b L : Nat} {xs : Nat → Int32} {C S : Nat} {i j : Nat} {σ : vS} (A : LwA G p s m meth c b L xs) (hi : i + 6 ≤ L) (hC : C ≤ 600000) (hS : S ≤ 7302250) (hj : j < 512) (h : Inv j σ) (k : ∀ σ2, Inv (j + 1) σ2 → Lw G p e s m below meth c b L xs C S i 1539 [] σ2) : Lw G p e s m below meth c b L xs C S i 296 [] σ := by
  refine L_x A dL_law_296 ?_
  refine L_arg A 1 (by decide) (by omega) dL_law_297 dL_law_298 dL_law_299 dL_law_300 dL_law_301 ?_
  refine L_arg A 2 (by decide) (by omega) dL_law_302 dL_law_303 dL_law_304 dL_law_305 dL_law_306 ?_
  refine L_callA A (As := [.int (xs (i + 1)), .int (xs (i + 2))]) (st := []) rfl dL_law_307 cv_L_23 rfl (by decide) (op_takes (Nat.le_refl 100) hj h) hC hS (fun v σ1 h1 => ?_)
  refine L_m A dL_law_310 ?_
  refine L_arg A 1 (by decide) (by omega) dL_law_311 dL_law_312 dL_law_313 dL_law_314 dL_law_315 ?_
  refine L_arg A 2 (by decide) (by omega) dL_law_316 dL_law_317 dL_law_318 dL_law_319 dL_law_320 ?_
  refine L_callB A (As := [.int (xs (i + 1)), .int (xs (i + 2))]) (st := [.int v]) rfl dL_law_321 cv_L_26 rfl (Nat.le_of_ble_eq_true rfl) h1 hC hS (fun σ2 h2 => ?_)
  exact L_eq A dL_law_324 (by decide) (k σ2 h2)
theorem law_as {G : vG} {p : Program} {e : Env} {s : State} {m : MethodId} {below : List Frame} {meth : Method} {c : Code} {b L : Nat} {xs : Nat → Int32} {C S : Nat} {i j : Nat} {σ : vS} (A : LwA G p s m meth c b L xs) (hi : i + 6 ≤ L) (hC : C ≤ 600000) (hS : S ≤ 7302250) (hj : j < 512) (h : Inv j σ) (k : ∀ σ2, Inv (j + 1) σ2 → Lw G p e s m below meth c b L xs C S i 1539 [] σ2) : Lw G p e s m below meth c b L xs C S i 329 [] σ := by
  refine L_x A dL_law_329 ?_
  refine L_arg A 1 (by decide) (by omega) dL_law_330 dL_law_331 dL_law_332 dL_law_333 dL_law_334 ?_
  refine L_arg A 2 (by decide) (by omega) dL_law_335 dL_law_336 dL_law_337 dL_law_338 dL_law_339 ?_
  refine L_callA A (As := [.int (xs (i + 1)), .int (xs (i + 2))]) (st := []) rfl dL_law_340 cv_L_27 rfl (by decide) (op_as (Nat.le_refl 100) hj h) hC hS (fun v σ1 h1 => ?_)
  refine L_m A dL_law_343 ?_
  refine L_arg A 1 (by decide) (by omega) dL_law_344 dL_law_345 dL_law_346 dL_law_347 dL_law_348 ?_
  refine L_arg A 2 (by decide) (by omega) dL_law_349 dL_law_350 dL_law_351 dL_law_352 dL_law_353 ?_
  refine L_callB A (As := [.int (xs (i + 1)), .int (xs (i + 2))]) (st := [.int v]) rfl dL_law_354 cv_L_30 rfl (Nat.le_of_ble_eq_true rfl) h1 hC hS (fun σ2 h2 => ?_)
  exact L_eq A dL_law_357 (by decide) (k σ2 h2)
theorem law_turns {G : vG} {p : Program} {e : Env} {s : State} {m : MethodId} {below : List Frame} {meth : Method} {c : Code} {b L : Nat} {xs : Nat → Int32} {C S : Nat} {i j : Nat} {σ : vS} (A : LwA G p s m meth c b L xs) (hi : i + 6 ≤ L) (hC : C ≤ 600000) (hS : S ≤ 7302250) (hj : j < 512) (h : Inv j σ) (k : ∀ σ2, Inv (j + 1) σ2 → Lw G p e s m below meth c b L xs C S i 1539 [] σ2) : Lw G p e s m below meth c b L xs C S i 362 [] σ := by
  refine L_x A dL_law_362 ?_
  refine L_arg A 1 (by decide) (by omega) dL_law_363 dL_law_364 dL_law_365 dL_law_366 dL_law_367 ?_
  refine L_arg A 2 (by decide) (by omega) dL_law_368 dL_law_369 dL_law_370 dL_law_371 dL_law_372 ?_
  refine L_callA A (As := [.int (xs (i + 1)), .int (xs (i + 2))]) (st := []) rfl dL_law_373 cv_L_31 rfl (by decide) (op_turns (Nat.le_refl 100) hj h) hC hS (fun v σ1 h1 => ?_)
  refine L_m A dL_law_376 ?_
  refine L_arg A 1 (by decide) (by omega) dL_law_377 dL_law_378 dL_law_379 dL_law_380 dL_law_381 ?_
  refine L_arg A 2 (by decide) (by omega) dL_law_382 dL_law_383 dL_law_384 dL_law_385 dL_law_386 ?_
  refine L_callB A (As := [.int (xs (i + 1)), .int (xs (i + 2))]) (st := [.int v]) rfl dL_law_387 cv_L_34 rfl (Nat.le_of_ble_eq_true rfl) h1 hC hS (fun σ2 h2 => ?_)
  exact L_eq A dL_law_390 (by decide) (k σ2 h2)
theorem law_set {G : vG} {p : Program} {e : Env} {s : State} {m : MethodId} {below : List Frame} {meth : Method} {c : Code} {b L : Nat} {xs : Nat → Int32} {C S : Nat} {i j : Nat} {σ : vS} (A : LwA G p s m meth c b L xs) (hi : i + 6 ≤ L) (hC : C ≤ 600000) (hS : S ≤ 7302250) (hj : j < 512) (h : Inv j σ) (k : ∀ σ2, Inv (j + 1) σ2 → Lw G p e s m below meth c b L xs C S i 1539 [] σ2) : Lw G p e s m below meth c b L xs C S i 395 [] σ := by
  refine L_x A dL_law_395 ?_
  refine L_arg A 1 (by decide) (by omega) dL_law_396 dL_law_397 dL_law_398 dL_law_399 dL_law_400 ?_
  refine L_arg A 2 (by decide) (by omega) dL_law_401 dL_law_402 dL_law_403 dL_law_404 dL_law_405 ?_
  refine L_arg A 3 (by decide) (by omega) dL_law_406 dL_law_407 dL_law_408 dL_law_409 dL_law_410 ?_
  refine L_callA A (As := [.int (xs (i + 1)), .int (xs (i + 2)), .int (xs (i + 3))]) (st := []) rfl dL_law_411 cv_L_35 rfl (by decide) (op_set (Nat.le_refl 100) hj h) hC hS (fun v σ1 h1 => ?_)
  refine L_m A dL_law_414 ?_
  refine L_arg A 1 (by decide) (by omega) dL_law_415 dL_law_416 dL_law_417 dL_law_418 dL_law_419 ?_
  refine L_arg A 2 (by decide) (by omega) dL_law_420 dL_law_421 dL_law_422 dL_law_423 dL_law_424 ?_
  refine L_arg A 3 (by decide) (by omega) dL_law_425 dL_law_426 dL_law_427 dL_law_428 dL_law_429 ?_
  refine L_callB A (As := [.int (xs (i + 1)), .int (xs (i + 2)), .int (xs (i + 3))]) (st := [.int v]) rfl dL_law_430 cv_L_38 rfl (Nat.le_of_ble_eq_true rfl) h1 hC hS (fun σ2 h2 => ?_)
  exact L_eq A dL_law_433 (by decide) (k σ2 h2)
theorem law_pipe {G : vG} {p : Program} {e : Env} {s : State} {m : MethodId} {below : List Frame} {meth : Method} {c : Code} {b L : Nat} {xs : Nat → Int32} {C S : Nat} {i j : Nat} {σ : vS} (A : LwA G p s m meth c b L xs) (hi : i + 6 ≤ L) (hC : C ≤ 600000) (hS : S ≤ 7302250) (hj : j < 512) (h : Inv j σ) (k : ∀ σ2, Inv (j + 1) σ2 → Lw G p e s m below meth c b L xs C S i 1539 [] σ2) : Lw G p e s m below meth c b L xs C S i 438 [] σ := by
  refine L_x A dL_law_438 ?_
  refine L_arg A 1 (by decide) (by omega) dL_law_439 dL_law_440 dL_law_441 dL_law_442 dL_law_443 ?_
  refine L_arg A 2 (by decide) (by omega) dL_law_444 dL_law_445 dL_law_446 dL_law_447 dL_law_448 ?_
  refine L_arg A 3 (by decide) (by omega) dL_law_449 dL_law_450 dL_law_451 dL_law_452 dL_law_453 ?_
  refine L_callA A (As := [.int (xs (i + 1)), .int (xs (i + 2)), .int (xs (i + 3))]) (st := []) rfl dL_law_454 cv_L_39 rfl (by decide) (op_pipe (Nat.le_refl 100) hj h) hC hS (fun v σ1 h1 => ?_)
  refine L_m A dL_law_457 ?_
  refine L_arg A 1 (by decide) (by omega) dL_law_458 dL_law_459 dL_law_460 dL_law_461 dL_law_462 ?_
  refine L_arg A 2 (by decide) (by omega) dL_law_463 dL_law_464 dL_law_465 dL_law_466 dL_law_467 ?_
  refine L_arg A 3 (by decide) (by omega) dL_law_468 dL_law_469 dL_law_470 dL_law_471 dL_law_472 ?_
  refine L_callB A (As := [.int (xs (i + 1)), .int (xs (i + 2)), .int (xs (i + 3))]) (st := [.int v]) rfl dL_law_473 cv_L_42 rfl (Nat.le_of_ble_eq_true rfl) h1 hC hS (fun σ2 h2 => ?_)
  exact L_eq A dL_law_476 (by decide) (k σ2 h2)
theorem law_pipeOf {G : vG} {p : Program} {e : Env} {s : State} {m : MethodId} {below : List Frame} {meth : Method} {c : Code} {b L : Nat} {xs : Nat → Int32} {C S : Nat} {i j : Nat} {σ : vS} (A : LwA G p s m meth c b L xs) (hi : i + 6 ≤ L) (hC : C ≤ 600000) (hS : S ≤ 7302250) (hj : j < 512) (h : Inv j σ) (k : ∀ σ2, Inv (j + 1) σ2 → Lw G p e s m below meth c b L xs C S i 1539 [] σ2) : Lw G p e s m below meth c b L xs C S i 481 [] σ := by
  refine L_x A dL_law_481 ?_
  refine L_arg A 1 (by decide) (by omega) dL_law_482 dL_law_483 dL_law_484 dL_law_485 dL_law_486 ?_
  refine L_arg A 2 (by decide) (by omega) dL_law_487 dL_law_488 dL_law_489 dL_law_490 dL_law_491 ?_
  refine L_callA A (As := [.int (xs (i + 1)), .int (xs (i + 2))]) (st := []) rfl dL_law_492 cv_L_43 rfl (by decide) (op_pipeOf (Nat.le_refl 100) hj h) hC hS (fun v σ1 h1 => ?_)
  refine L_m A dL_law_495 ?_
  refine L_arg A 1 (by decide) (by omega) dL_law_496 dL_law_497 dL_law_498 dL_law_499 dL_law_500 ?_
  refine L_arg A 2 (by decide) (by omega) dL_law_501 dL_law_502 dL_law_503 dL_law_504 dL_law_505 ?_
  refine L_callB A (As := [.int (xs (i + 1)), .int (xs (i + 2))]) (st := [.int v]) rfl dL_law_506 cv_L_46 rfl (Nat.le_of_ble_eq_true rfl) h1 hC hS (fun σ2 h2 => ?_)
  exact L_eq A dL_law_509 (by decide) (k σ2 h2)
theorem law_cork {G : vG} {p : Program} {e : Env} {s : State} {m : MethodId} {below : List Frame} {meth : Method} {c : Code} {b L : Nat} {xs : Nat → Int32} {C S : Nat} {i j : Nat} {σ : vS} (A : LwA G p s m meth c b L xs) (hi : i + 6 ≤ L) (hC : C ≤ 600000) (hS : S ≤ 7302250) (hj : j < 512) (h : Inv j σ) (k : ∀ σ2, Inv (j + 1) σ2 → Lw G p e s m below meth c b L xs C S i 1539 [] σ2) : Lw G p e s m below meth c b L xs C S i 514 [] σ := by
  refine L_x A dL_law_514 ?_
  refine L_arg A 1 (by decide) (by omega) dL_law_515 dL_law_516 dL_law_517 dL_law_518 dL_law_519 ?_
  refine L_arg A 2 (by decide) (by omega) dL_law_520 dL_law_521 dL_law_522 dL_law_523 dL_law_524 ?_
  refine L_callA A (As := [.int (xs (i + 1)), .int (xs (i + 2))]) (st := []) rfl dL_law_525 cv_L_47 rfl (by decide) (op_cork (Nat.le_refl 100) hj h) hC hS (fun v σ1 h1 => ?_)
  refine L_m A dL_law_528 ?_
  refine L_arg A 1 (by decide) (by omega) dL_law_529 dL_law_530 dL_law_531 dL_law_532 dL_law_533 ?_
  refine L_arg A 2 (by decide) (by omega) dL_law_534 dL_law_535 dL_law_536 dL_law_537 dL_law_538 ?_
  refine L_callB A (As := [.int (xs (i + 1)), .int (xs (i + 2))]) (st := [.int v]) rfl dL_law_539 cv_L_50 rfl (Nat.le_of_ble_eq_true rfl) h1 hC hS (fun σ2 h2 => ?_)
  exact L_eq A dL_law_542 (by decide) (k σ2 h2)
theorem law_thirst {G : vG} {p : Program} {e : Env} {s : State} {m : MethodId} {below : List Frame} {meth : Method} {c : Code} {b L : Nat} {xs : Nat → Int32} {C S : Nat} {i j : Nat} {σ : vS} (A : LwA G p s m meth c b L xs) (hi : i + 6 ≤ L) (hC : C ≤ 600000) (hS : S ≤ 7302250) (hj : j < 512) (h : Inv j σ) (k : ∀ σ2, Inv (j + 1) σ2 → Lw G p e s m below meth c b L xs C S i 1539 [] σ2) : Lw G p e s m below meth c b L xs C S i 547 [] σ := by
  refine L_x A dL_law_547 ?_
  refine L_arg A 1 (by decide) (by omega) dL_law_548 dL_law_549 dL_law_550 dL_law_551 dL_law_552 ?_
  refine L_callA A (As := [.int (xs (i + 1))]) (st := []) rfl dL_law_553 cv_L_51 rfl (by decide) (op_thirst (Nat.le_refl 100) hj h) hC hS (fun v σ1 h1 => ?_)
  refine L_m A dL_law_556 ?_
  refine L_arg A 1 (by decide) (by omega) dL_law_557 dL_law_558 dL_law_559 dL_law_560 dL_law_561 ?_
  refine L_callB A (As := [.int (xs (i + 1))]) (st := [.int v]) rfl dL_law_562 cv_L_55 rfl (Nat.le_of_ble_eq_true rfl) h1 hC hS (fun σ2 h2 => ?_)
  exact L_eq A dL_law_565 (by decide) (k σ2 h2)
theorem law_deal {G : vG} {p : Program} {e : Env} {s : State} {m : MethodId} {below : List Frame} {meth : Method} {c : Code} {b L : Nat} {xs : Nat → Int32} {C S : Nat} {i j : Nat} {σ : vS} (A : LwA G p s m meth c b L xs) (hi : i + 6 ≤ L) (hC : C ≤ 600000) (hS : S ≤ 7302250) (hj : j < 512) (h : Inv j σ) (k : ∀ σ2, Inv (j + 1) σ2 → Lw G p e s m below meth c b L xs C S i 1539 [] σ2) : Lw G p e s m below meth c b L xs C S i 570 [] σ := by
  refine L_x A dL_law_570 ?_
  refine L_arg A 1 (by decide) (by omega) dL_law_571 dL_law_572 dL_law_573 dL_law_574 dL_law_575 ?_
  refine L_callA A (As := [.int (xs (i + 1))]) (st := []) rfl dL_law_576 cv_L_56 rfl (by decide) (op_deal (Nat.le_refl 100) hj h) hC hS (fun v σ1 h1 => ?_)
  refine L_m A dL_law_579 ?_
  refine L_arg A 1 (by decide) (by omega) dL_law_580 dL_law_581 dL_law_582 dL_law_583 dL_law_584 ?_
  refine L_callB A (As := [.int (xs (i + 1))]) (st := [.int v]) rfl dL_law_585 cv_L_59 rfl (Nat.le_of_ble_eq_true rfl) h1 hC hS (fun σ2 h2 => ?_)
  exact L_eq A dL_law_588 (by decide) (k σ2 h2)
theorem law_seed {G : vG} {p : Program} {e : Env} {s : State} {m : MethodId} {below : List Frame} {meth : Method} {c : Code} {b L : Nat} {xs : Nat → Int32} {C S : Nat} {i j : Nat} {σ : vS} (A : LwA G p s m meth c b L xs) (hi : i + 6 ≤ L) (hC : C ≤ 600000) (hS : S ≤ 7302250) (hj : j < 512) (h : Inv j σ) (k : ∀ σ2, Inv (j + 1) σ2 → Lw G p e s m below meth c b L xs C S i 1539 [] σ2) : Lw G p e s m below meth c b L xs C S i 593 [] σ := by
  refine L_x A dL_law_593 ?_
  refine L_arg A 1 (by decide) (by omega) dL_law_594 dL_law_595 dL_law_596 dL_law_597 dL_law_598 ?_
  refine L_callA A (As := [.int (xs (i + 1))]) (st := []) rfl dL_law_599 cv_L_60 rfl (by decide) (op_seed (Nat.le_refl 100) hj h) hC hS (fun v σ1 h1 => ?_)
  refine L_m A dL_law_602 ?_
  refine L_arg A 1 (by decide) (by omega) dL_law_603 dL_law_604 dL_law_605 dL_law_606 dL_law_607 ?_
  refine L_callB A (As := [.int (xs (i + 1))]) (st := [.int v]) rfl dL_law_608 cv_L_63 rfl (Nat.le_of_ble_eq_true rfl) h1 hC hS (fun σ2 h2 => ?_)
  exact L_eq A dL_law_611 (by decide) (k σ2 h2)
theorem law_hours {G : vG} {p : Program} {e : Env} {s : State} {m : MethodId} {below : List Frame} {meth : Method} {c : Code} {b L : Nat} {xs : Nat → Int32} {C S : Nat} {i j : Nat} {σ : vS} (A : LwA G p s m meth c b L xs) (hi : i + 6 ≤ L) (hC : C ≤ 600000) (hS : S ≤ 7302250) (hj : j < 512) (h : Inv j σ) (k : ∀ σ2, Inv (j + 1) σ2 → Lw G p e s m below meth c b L xs C S i 1539 [] σ2) : Lw G p e s m below meth c b L xs C S i 616 [] σ := by
  refine L_x A dL_law_616 ?_
  refine L_arg A 1 (by decide) (by omega) dL_law_617 dL_law_618 dL_law_619 dL_law_620 dL_law_621 ?_
  refine L_callA A (As := [.int (xs (i + 1))]) (st := []) rfl dL_law_622 cv_L_64 rfl (by decide) (op_hours (Nat.le_refl 100) hj h) hC hS (fun v σ1 h1 => ?_)
  refine L_m A dL_law_625 ?_
  refine L_arg A 1 (by decide) (by omega) dL_law_626 dL_law_627 dL_law_628 dL_law_629 dL_law_630 ?_
  refine L_callB A (As := [.int (xs (i + 1))]) (st := [.int v]) rfl dL_law_631 cv_L_67 rfl (Nat.le_of_ble_eq_true rfl) h1 hC hS (fun σ2 h2 => ?_)
  exact L_eq A dL_law_634 (by decide) (k σ2 h2)
theorem law_town {G : vG} {p : Program} {e : Env} {s : State} {m : MethodId} {below : List Frame} {meth : Method} {c : Code} {b L : Nat} {xs : Nat → Int32} {C S : Nat} {i j : Nat} {σ : vS} (A : LwA G p s m meth c b L xs) (hi : i + 6 ≤ L) (hC : C ≤ 600000) (hS : S ≤ 7302250) (hj : j < 512) (h : Inv j σ) (k : ∀ σ2, Inv (j + 1) σ2 → Lw G p e s m below meth c b L xs C S i 1539 [] σ2) : Lw G p e s m below meth c b L xs C S i 639 [] σ := by
  refine L_x A dL_law_639 ?_
  refine L_arg A 1 (by decide) (by omega) dL_law_640 dL_law_641 dL_law_642 dL_law_643 dL_law_644 ?_
  refine L_callA A (As := [.int (xs (i + 1))]) (st := []) rfl dL_law_645 cv_L_68 rfl (by decide) (op_town (Nat.le_refl 100) hj h) hC hS (fun v σ1 h1 => ?_)
  refine L_m A dL_law_648 ?_
  refine L_arg A 1 (by decide) (by omega) dL_law_649 dL_law_650 dL_law_651 dL_law_652 dL_law_653 ?_
  refine L_callB A (As := [.int (xs (i + 1))]) (st := [.int v]) rfl dL_law_654 cv_L_71 rfl (Nat.le_of_ble_eq_true rfl) h1 hC hS (fun σ2 h2 => ?_)
  exact L_eq A dL_law_657 (by decide) (k σ2 h2)
theorem law_behind {G : vG} {p : Program} {e : Env} {s : State} {m : MethodId} {below : List Frame} {meth : Method} {c : Code} {b L : Nat} {xs : Nat → Int32} {C S : Nat} {i j : Nat} {σ : vS} (A : LwA G p s m meth c b L xs) (hi : i + 6 ≤ L) (hC : C ≤ 600000) (hS : S ≤ 7302250) (hj : j < 512) (h : Inv j σ) (k : ∀ σ2, Inv (j + 1) σ2 → Lw G p e s m below meth c b L xs C S i 1539 [] σ2) : Lw G p e s m below meth c b L xs C S i 662 [] σ := by
  refine L_x A dL_law_662 ?_
  refine L_arg A 1 (by decide) (by omega) dL_law_663 dL_law_664 dL_law_665 dL_law_666 dL_law_667 ?_
  refine L_arg A 2 (by decide) (by omega) dL_law_668 dL_law_669 dL_law_670 dL_law_671 dL_law_672 ?_
  refine L_callA A (As := [.int (xs (i + 1)), .int (xs (i + 2))]) (st := []) rfl dL_law_673 cv_L_72 rfl (by decide) (op_behind (Nat.le_refl 100) hj h) hC hS (fun v σ1 h1 => ?_)
  refine L_m A dL_law_676 ?_
  refine L_arg A 1 (by decide) (by omega) dL_law_677 dL_law_678 dL_law_679 dL_law_680 dL_law_681 ?_
  refine L_arg A 2 (by decide) (by omega) dL_law_682 dL_law_683 dL_law_684 dL_law_685 dL_law_686 ?_
  refine L_callB A (As := [.int (xs (i + 1)), .int (xs (i + 2))]) (st := [.int v]) rfl dL_law_687 cv_L_75 rfl (Nat.le_of_ble_eq_true rfl) h1 hC hS (fun σ2 h2 => ?_)
  exact L_eq A dL_law_690 (by decide) (k σ2 h2)
theorem law_taste {G : vG} {p : Program} {e : Env} {s : State} {m : MethodId} {below : List Frame} {meth : Method} {c : Code} {b L : Nat} {xs : Nat → Int32} {C S : Nat} {i j : Nat} {σ : vS} (A : LwA G p s m meth c b L xs) (hi : i + 6 ≤ L) (hC : C ≤ 600000) (hS : S ≤ 7302250) (hj : j < 512) (h : Inv j σ) (k : ∀ σ2, Inv (j + 1) σ2 → Lw G p e s m below meth c b L xs C S i 1539 [] σ2) : Lw G p e s m below meth c b L xs C S i 695 [] σ := by
  refine L_x A dL_law_695 ?_
  refine L_arg A 1 (by decide) (by omega) dL_law_696 dL_law_697 dL_law_698 dL_law_699 dL_law_700 ?_
  refine L_arg A 2 (by decide) (by omega) dL_law_701 dL_law_702 dL_law_703 dL_law_704 dL_law_705 ?_
  refine L_arg A 3 (by decide) (by omega) dL_law_706 dL_law_707 dL_law_708 dL_law_709 dL_law_710 ?_
  refine L_callA A (As := [.int (xs (i + 1)), .int (xs (i + 2)), .int (xs (i + 3))]) (st := []) rfl dL_law_711 cv_L_76 rfl (by decide) (op_taste (Nat.le_refl 100) hj h) hC hS (fun v σ1 h1 => ?_)
  refine L_m A dL_law_714 ?_
  refine L_arg A 1 (by decide) (by omega) dL_law_715 dL_law_716 dL_law_717 dL_law_718 dL_law_719 ?_
  refine L_arg A 2 (by decide) (by omega) dL_law_720 dL_law_721 dL_law_722 dL_law_723 dL_law_724 ?_
  refine L_arg A 3 (by decide) (by omega) dL_law_725 dL_law_726 dL_law_727 dL_law_728 dL_law_729 ?_
  refine L_callB A (As := [.int (xs (i + 1)), .int (xs (i + 2)), .int (xs (i + 3))]) (st := [.int v]) rfl dL_law_730 cv_L_79 rfl (Nat.le_of_ble_eq_true rfl) h1 hC hS (fun σ2 h2 => ?_)
  exact L_eq A dL_law_733 (by decide) (k σ2 h2)
theorem law_rests {G : vG} {p : Program} {e : Env} {s : State} {m : MethodId} {below : List Frame} {meth : Method} {c : Code} {b L : Nat} {xs : Nat → Int32} {C S : Nat} {i j : Nat} {σ : vS} (A : LwA G p s m meth c b L xs) (hi : i + 6 ≤ L) (hC : C ≤ 600000) (hS : S ≤ 7302250) (hj : j < 512) (h : Inv j σ) (k : ∀ σ2, Inv (j + 1) σ2 → Lw G p e s m below meth c b L xs C S i 1539 [] σ2) : Lw G p e s m below meth c b L xs C S i 738 [] σ := by
  refine L_x A dL_law_738 ?_
  refine L_callA A (As := []) (st := []) rfl dL_law_739 cv_L_80 rfl (by decide) (op_rests (Nat.le_refl 100) hj h) hC hS (fun v σ1 h1 => ?_)
  refine L_m A dL_law_742 ?_
  refine L_callB A (As := []) (st := [.int v]) rfl dL_law_743 cv_L_84 rfl (Nat.le_of_ble_eq_true rfl) h1 hC hS (fun σ2 h2 => ?_)
  exact L_eq A dL_law_746 (by decide) (k σ2 h2)
theorem law_corks {G : vG} {p : Program} {e : Env} {s : State} {m : MethodId} {below : List Frame} {meth : Method} {c : Code} {b L : Nat} {xs : Nat → Int32} {C S : Nat} {i j : Nat} {σ : vS} (A : LwA G p s m meth c b L xs) (hi : i + 6 ≤ L) (hC : C ≤ 600000) (hS : S ≤ 7302250) (hj : j < 512) (h : Inv j σ) (k : ∀ σ2, Inv (j + 1) σ2 → Lw G p e s m below meth c b L xs C S i 1539 [] σ2) : Lw G p e s m below meth c b L xs C S i 751 [] σ := by
  refine L_x A dL_law_751 ?_
  refine L_arg A 1 (by decide) (by omega) dL_law_752 dL_law_753 dL_law_754 dL_law_755 dL_law_756 ?_
  refine L_arg A 2 (by decide) (by omega) dL_law_757 dL_law_758 dL_law_759 dL_law_760 dL_law_761 ?_
  refine L_arg A 3 (by decide) (by omega) dL_law_762 dL_law_763 dL_law_764 dL_law_765 dL_law_766 ?_
  refine L_callA A (As := [.int (xs (i + 1)), .int (xs (i + 2)), .int (xs (i + 3))]) (st := []) rfl dL_law_767 cv_L_85 rfl (by decide) (op_corks (Nat.le_refl 100) hj h) hC hS (fun v σ1 h1 => ?_)
  refine L_m A dL_law_770 ?_
  refine L_arg A 1 (by decide) (by omega) dL_law_771 dL_law_772 dL_law_773 dL_law_774 dL_law_775 ?_
  refine L_arg A 2 (by decide) (by omega) dL_law_776 dL_law_777 dL_law_778 dL_law_779 dL_law_780 ?_
  refine L_arg A 3 (by decide) (by omega) dL_law_781 dL_law_782 dL_law_783 dL_law_784 dL_law_785 ?_
  refine L_callB A (As := [.int (xs (i + 1)), .int (xs (i + 2)), .int (xs (i + 3))]) (st := [.int v]) rfl dL_law_786 cv_L_88 rfl (Nat.le_of_ble_eq_true rfl) h1 hC hS (fun σ2 h2 => ?_)
  exact L_eq A dL_law_789 (by decide) (k σ2 h2)
theorem law_dig {G : vG} {p : Program} {e : Env} {s : State} {m : MethodId} {below : List Frame} {meth : Method} {c : Code} {b L : Nat} {xs : Nat → Int32} {C S : Nat} {i j : Nat} {σ : vS} (A : LwA G p s m meth c b L xs) (hi : i + 6 ≤ L) (hC : C ≤ 600000) (hS : S ≤ 7302250) (hj : j < 512) (h : Inv j σ) (k : ∀ σ2, Inv (j + 1) σ2 → Lw G p e s m below meth c b L xs C S i 1539 [] σ2) : Lw G p e s m below meth c b L xs C S i 794 [] σ := by
  refine L_x A dL_law_794 ?_
  refine L_arg A 1 (by decide) (by omega) dL_law_795 dL_law_796 dL_law_797 dL_law_798 dL_law_799 ?_
  refine L_arg A 2 (by decide) (by omega) dL_law_800 dL_law_801 dL_law_802 dL_law_803 dL_law_804 ?_
  refine L_callA A (As := [.int (xs (i + 1)), .int (xs (i + 2))]) (st := []) rfl dL_law_805 cv_L_89 rfl (by decide) (op_dig (Nat.le_refl 100) hj h) hC hS (fun v σ1 h1 => ?_)
  refine L_m A dL_law_808 ?_
  refine L_arg A 1 (by decide) (by omega) dL_law_809 dL_law_810 dL_law_811 dL_law_812 dL_law_813 ?_
  refine L_arg A 2 (by decide) (by omega) dL_law_814 dL_law_815 dL_law_816 dL_law_817 dL_law_818 ?_
  refine L_callB A (As := [.int (xs (i + 1)), .int (xs (i + 2))]) (st := [.int v]) rfl dL_law_819 cv_L_92 rfl (Nat.le_of_ble_eq_true rfl) h1 hC hS (fun σ2 h2 => ?_)
  exact L_eq A dL_law_822 (by decide) (k σ2 h2)
theorem law_loser {G : vG} {p : Program} {e : Env} {s : State} {m : MethodId} {below : List Frame} {meth : Method} {c : Code} {b L : Nat} {xs : Nat → Int32} {C S : Nat} {i j : Nat} {σ : vS} (A : LwA G p s m meth c b L xs) (hi : i + 6 ≤ L) (hC : C ≤ 600000) (hS : S ≤ 7302250) (hj : j < 512) (h : Inv j σ) (k : ∀ σ2, Inv (j + 1) σ2 → Lw G p e s m below meth c b L xs C S i 1539 [] σ2) : Lw G p e s m below meth c b L xs C S i 827 [] σ := by
  refine L_x A dL_law_827 ?_
  refine L_arg A 1 (by decide) (by omega) dL_law_828 dL_law_829 dL_law_830 dL_law_831 dL_law_832 ?_
  refine L_arg A 2 (by decide) (by omega) dL_law_833 dL_law_834 dL_law_835 dL_law_836 dL_law_837 ?_
  refine L_callA A (As := [.int (xs (i + 1)), .int (xs (i + 2))]) (st := []) rfl dL_law_838 cv_L_93 rfl (by decide) (op_loser (Nat.le_refl 100) hj h) hC hS (fun v σ1 h1 => ?_)
  refine L_m A dL_law_841 ?_
  refine L_arg A 1 (by decide) (by omega) dL_law_842 dL_law_843 dL_law_844 dL_law_845 dL_law_846 ?_
  refine L_arg A 2 (by decide) (by omega) dL_law_847 dL_law_848 dL_law_849 dL_law_850 dL_law_851 ?_
  refine L_callB A (As := [.int (xs (i + 1)), .int (xs (i + 2))]) (st := [.int v]) rfl dL_law_852 cv_L_96 rfl (Nat.le_of_ble_eq_true rfl) h1 hC hS (fun σ2 h2 => ?_)
  exact L_eq A dL_law_855 (by decide) (k σ2 h2)
theorem law_tap {G : vG} {p : Program} {e : Env} {s : State} {m : MethodId} {below : List Frame} {meth : Method} {c : Code} {b L : Nat} {xs : Nat → Int32} {C S : Nat} {i j : Nat} {σ : vS} (A : LwA G p s m meth c b L xs) (hi : i + 6 ≤ L) (hC : C ≤ 600000) (hS : S ≤ 7302250) (hj : j < 512) (h : Inv j σ) (k : ∀ σ2, Inv (j + 1) σ2 → Lw G p e s m below meth c b L xs C S i 1539 [] σ2) : Lw G p e s m below meth c b L xs C S i 860 [] σ := by
  refine L_x A dL_law_860 ?_
  refine L_arg A 1 (by decide) (by omega) dL_law_861 dL_law_862 dL_law_863 dL_law_864 dL_law_865 ?_
  refine L_arg A 2 (by decide) (by omega) dL_law_866 dL_law_867 dL_law_868 dL_law_869 dL_law_870 ?_
  refine L_callA A (As := [.int (xs (i + 1)), .int (xs (i + 2))]) (st := []) rfl dL_law_871 cv_L_97 rfl (by decide) (op_tap (Nat.le_refl 100) hj h) hC hS (fun v σ1 h1 => ?_)
  refine L_m A dL_law_874 ?_
  refine L_arg A 1 (by decide) (by omega) dL_law_875 dL_law_876 dL_law_877 dL_law_878 dL_law_879 ?_
  refine L_arg A 2 (by decide) (by omega) dL_law_880 dL_law_881 dL_law_882 dL_law_883 dL_law_884 ?_
  refine L_callB A (As := [.int (xs (i + 1)), .int (xs (i + 2))]) (st := [.int v]) rfl dL_law_885 cv_L_100 rfl (Nat.le_of_ble_eq_true rfl) h1 hC hS (fun σ2 h2 => ?_)
  exact L_eq A dL_law_888 (by decide) (k σ2 h2)
theorem law_dug {G : vG} {p : Program} {e : Env} {s : State} {m : MethodId} {below : List Frame} {meth : Method} {c : Code} {b L : Nat} {xs : Nat → Int32} {C S : Nat} {i j : Nat} {σ : vS} (A : LwA G p s m meth c b L xs) (hi : i + 6 ≤ L) (hC : C ≤ 600000) (hS : S ≤ 7302250) (hj : j < 512) (h : Inv j σ) (k : ∀ σ2, Inv (j + 1) σ2 → Lw G p e s m below meth c b L xs C S i 1539 [] σ2) : Lw G p e s m below meth c b L xs C S i 893 [] σ := by
  refine L_x A dL_law_893 ?_
  refine L_arg A 1 (by decide) (by omega) dL_law_894 dL_law_895 dL_law_896 dL_law_897 dL_law_898 ?_
  refine L_arg A 2 (by decide) (by omega) dL_law_899 dL_law_900 dL_law_901 dL_law_902 dL_law_903 ?_
  refine L_arg A 3 (by decide) (by omega) dL_law_904 dL_law_905 dL_law_906 dL_law_907 dL_law_908 ?_
  refine L_callA A (As := [.int (xs (i + 1)), .int (xs (i + 2)), .int (xs (i + 3))]) (st := []) rfl dL_law_909 cv_L_101 rfl (by decide) (op_dug (Nat.le_refl 100) hj h) hC hS (fun v σ1 h1 => ?_)
  refine L_m A dL_law_912 ?_
  refine L_arg A 1 (by decide) (by omega) dL_law_913 dL_law_914 dL_law_915 dL_law_916 dL_law_917 ?_
  refine L_arg A 2 (by decide) (by omega) dL_law_918 dL_law_919 dL_law_920 dL_law_921 dL_law_922 ?_
  refine L_arg A 3 (by decide) (by omega) dL_law_923 dL_law_924 dL_law_925 dL_law_926 dL_law_927 ?_
  refine L_callB A (As := [.int (xs (i + 1)), .int (xs (i + 2)), .int (xs (i + 3))]) (st := [.int v]) rfl dL_law_928 cv_L_104 rfl (Nat.le_of_ble_eq_true rfl) h1 hC hS (fun σ2 h2 => ?_)
  exact L_eq A dL_law_931 (by decide) (k σ2 h2)
theorem law_fee {G : vG} {p : Program} {e : Env} {s : State} {m : MethodId} {below : List Frame} {meth : Method} {c : Code} {b L : Nat} {xs : Nat → Int32} {C S : Nat} {i j : Nat} {σ : vS} (A : LwA G p s m meth c b L xs) (hi : i + 6 ≤ L) (hC : C ≤ 600000) (hS : S ≤ 7302250) (hj : j < 512) (h : Inv j σ) (k : ∀ σ2, Inv (j + 1) σ2 → Lw G p e s m below meth c b L xs C S i 1539 [] σ2) : Lw G p e s m below meth c b L xs C S i 936 [] σ := by
  refine L_x A dL_law_936 ?_
  refine L_callA A (As := []) (st := []) rfl dL_law_937 cv_L_105 rfl (by decide) (op_fee (Nat.le_refl 100) hj h) hC hS (fun v σ1 h1 => ?_)
  refine L_m A dL_law_940 ?_
  refine L_callB A (As := []) (st := [.int v]) rfl dL_law_941 cv_L_108 rfl (Nat.le_of_ble_eq_true rfl) h1 hC hS (fun σ2 h2 => ?_)
  exact L_eq A dL_law_944 (by decide) (k σ2 h2)
theorem law_fine {G : vG} {p : Program} {e : Env} {s : State} {m : MethodId} {below : List Frame} {meth : Method} {c : Code} {b L : Nat} {xs : Nat → Int32} {C S : Nat} {i j : Nat} {σ : vS} (A : LwA G p s m meth c b L xs) (hi : i + 6 ≤ L) (hC : C ≤ 600000) (hS : S ≤ 7302250) (hj : j < 512) (h : Inv j σ) (k : ∀ σ2, Inv (j + 1) σ2 → Lw G p e s m below meth c b L xs C S i 1539 [] σ2) : Lw G p e s m below meth c b L xs C S i 949 [] σ := by
  refine L_x A dL_law_949 ?_
  refine L_arg A 1 (by decide) (by omega) dL_law_950 dL_law_951 dL_law_952 dL_law_953 dL_law_954 ?_
  refine L_callA A (As := [.int (xs (i + 1))]) (st := []) rfl dL_law_955 cv_L_109 rfl (by decide) (op_fine (Nat.le_refl 100) hj h) hC hS (fun v σ1 h1 => ?_)
  refine L_m A dL_law_958 ?_
  refine L_arg A 1 (by decide) (by omega) dL_law_959 dL_law_960 dL_law_961 dL_law_962 dL_law_963 ?_
  refine L_callB A (As := [.int (xs (i + 1))]) (st := [.int v]) rfl dL_law_964 cv_L_112 rfl (Nat.le_of_ble_eq_true rfl) h1 hC hS (fun σ2 h2 => ?_)
  exact L_eq A dL_law_967 (by decide) (k σ2 h2)
theorem law_feed {G : vG} {p : Program} {e : Env} {s : State} {m : MethodId} {below : List Frame} {meth : Method} {c : Code} {b L : Nat} {xs : Nat → Int32} {C S : Nat} {i j : Nat} {σ : vS} (A : LwA G p s m meth c b L xs) (hi : i + 6 ≤ L) (hC : C ≤ 600000) (hS : S ≤ 7302250) (hj : j < 512) (h : Inv j σ) (k : ∀ σ2, Inv (j + 1) σ2 → Lw G p e s m below meth c b L xs C S i 1539 [] σ2) : Lw G p e s m below meth c b L xs C S i 972 [] σ := by
  refine L_x A dL_law_972 ?_
  refine L_arg A 1 (by decide) (by omega) dL_law_973 dL_law_974 dL_law_975 dL_law_976 dL_law_977 ?_
  refine L_arg A 2 (by decide) (by omega) dL_law_978 dL_law_979 dL_law_980 dL_law_981 dL_law_982 ?_
  refine L_arg A 3 (by decide) (by omega) dL_law_983 dL_law_984 dL_law_985 dL_law_986 dL_law_987 ?_
  refine L_callA A (As := [.int (xs (i + 1)), .int (xs (i + 2)), .int (xs (i + 3))]) (st := []) rfl dL_law_988 cv_L_113 rfl (by decide) (op_feed (Nat.le_refl 100) hj h) hC hS (fun v σ1 h1 => ?_)
  refine L_m A dL_law_991 ?_
  refine L_arg A 1 (by decide) (by omega) dL_law_992 dL_law_993 dL_law_994 dL_law_995 dL_law_996 ?_
  refine L_arg A 2 (by decide) (by omega) dL_law_997 dL_law_998 dL_law_999 dL_law_1000 dL_law_1001 ?_
  refine L_arg A 3 (by decide) (by omega) dL_law_1002 dL_law_1003 dL_law_1004 dL_law_1005 dL_law_1006 ?_
  refine L_callB A (As := [.int (xs (i + 1)), .int (xs (i + 2)), .int (xs (i + 3))]) (st := [.int v]) rfl dL_law_1007 cv_L_116 rfl (Nat.le_of_ble_eq_true rfl) h1 hC hS (fun σ2 h2 => ?_)
  exact L_eq A dL_law_1010 (by decide) (k σ2 h2)
theorem law_trim {G : vG} {p : Program} {e : Env} {s : State} {m : MethodId} {below : List Frame} {meth : Method} {c : Code} {b L : Nat} {xs : Nat → Int32} {C S : Nat} {i j : Nat} {σ : vS} (A : LwA G p s m meth c b L xs) (hi : i + 6 ≤ L) (hC : C ≤ 600000) (hS : S ≤ 7302250) (hj : j < 512) (h : Inv j σ) (k : ∀ σ2, Inv (j + 1) σ2 → Lw G p e s m below meth c b L xs C S i 1539 [] σ2) : Lw G p e s m below meth c b L xs C S i 1015 [] σ := by
  refine L_x A dL_law_1015 ?_
  refine L_arg A 1 (by decide) (by omega) dL_law_1016 dL_law_1017 dL_law_1018 dL_law_1019 dL_law_1020 ?_
  refine L_callA A (As := [.int (xs (i + 1))]) (st := []) rfl dL_law_1021 cv_L_117 rfl (by decide) (op_trim (Nat.le_refl 100) hj h) hC hS (fun v σ1 h1 => ?_)
  refine L_m A dL_law_1024 ?_
  refine L_arg A 1 (by decide) (by omega) dL_law_1025 dL_law_1026 dL_law_1027 dL_law_1028 dL_law_1029 ?_
  refine L_callB A (As := [.int (xs (i + 1))]) (st := [.int v]) rfl dL_law_1030 cv_L_120 rfl (Nat.le_of_ble_eq_true rfl) h1 hC hS (fun σ2 h2 => ?_)
  exact L_eq A dL_law_1033 (by decide) (k σ2 h2)
theorem law_text {G : vG} {p : Program} {e : Env} {s : State} {m : MethodId} {below : List Frame} {meth : Method} {c : Code} {b L : Nat} {xs : Nat → Int32} {C S : Nat} {i j : Nat} {σ : vS} (A : LwA G p s m meth c b L xs) (hi : i + 6 ≤ L) (hC : C ≤ 600000) (hS : S ≤ 7302250) (hj : j < 512) (h : Inv j σ) (k : ∀ σ2, Inv (j + 1) σ2 → Lw G p e s m below meth c b L xs C S i 1539 [] σ2) : Lw G p e s m below meth c b L xs C S i 1038 [] σ := by
  refine L_x A dL_law_1038 ?_
  refine L_callA A (As := []) (st := []) rfl dL_law_1039 cv_L_121 rfl (by decide) (op_text (Nat.le_refl 100) hj h) hC hS (fun v σ1 h1 => ?_)
  refine L_m A dL_law_1042 ?_
  refine L_callB A (As := []) (st := [.int v]) rfl dL_law_1043 cv_L_124 rfl (Nat.le_of_ble_eq_true rfl) h1 hC hS (fun σ2 h2 => ?_)
  exact L_eq A dL_law_1046 (by decide) (k σ2 h2)
theorem law_textTold {G : vG} {p : Program} {e : Env} {s : State} {m : MethodId} {below : List Frame} {meth : Method} {c : Code} {b L : Nat} {xs : Nat → Int32} {C S : Nat} {i j : Nat} {σ : vS} (A : LwA G p s m meth c b L xs) (hi : i + 6 ≤ L) (hC : C ≤ 600000) (hS : S ≤ 7302250) (hj : j < 512) (h : Inv j σ) (k : ∀ σ2, Inv (j + 1) σ2 → Lw G p e s m below meth c b L xs C S i 1539 [] σ2) : Lw G p e s m below meth c b L xs C S i 1051 [] σ := by
  refine L_x A dL_law_1051 ?_
  refine L_arg A 1 (by decide) (by omega) dL_law_1052 dL_law_1053 dL_law_1054 dL_law_1055 dL_law_1056 ?_
  refine L_arg A 2 (by decide) (by omega) dL_law_1057 dL_law_1058 dL_law_1059 dL_law_1060 dL_law_1061 ?_
  refine L_callA A (As := [.int (xs (i + 1)), .int (xs (i + 2))]) (st := []) rfl dL_law_1062 cv_L_125 rfl (by decide) (op_textTold (Nat.le_refl 100) hj h) hC hS (fun v σ1 h1 => ?_)
  refine L_m A dL_law_1065 ?_
  refine L_arg A 1 (by decide) (by omega) dL_law_1066 dL_law_1067 dL_law_1068 dL_law_1069 dL_law_1070 ?_
  refine L_arg A 2 (by decide) (by omega) dL_law_1071 dL_law_1072 dL_law_1073 dL_law_1074 dL_law_1075 ?_
  refine L_callB A (As := [.int (xs (i + 1)), .int (xs (i + 2))]) (st := [.int v]) rfl dL_law_1076 cv_L_128 rfl (Nat.le_of_ble_eq_true rfl) h1 hC hS (fun σ2 h2 => ?_)
  exact L_eq A dL_law_1079 (by decide) (k σ2 h2)
theorem law_why {G : vG} {p : Program} {e : Env} {s : State} {m : MethodId} {below : List Frame} {meth : Method} {c : Code} {b L : Nat} {xs : Nat → Int32} {C S : Nat} {i j : Nat} {σ : vS} (A : LwA G p s m meth c b L xs) (hi : i + 6 ≤ L) (hC : C ≤ 600000) (hS : S ≤ 7302250) (hj : j < 512) (h : Inv j σ) (k : ∀ σ2, Inv (j + 1) σ2 → Lw G p e s m below meth c b L xs C S i 1539 [] σ2) : Lw G p e s m below meth c b L xs C S i 1084 [] σ := by
  refine L_x A dL_law_1084 ?_
  refine L_arg A 1 (by decide) (by omega) dL_law_1085 dL_law_1086 dL_law_1087 dL_law_1088 dL_law_1089 ?_
  refine L_callA A (As := [.int (xs (i + 1))]) (st := []) rfl dL_law_1090 cv_L_129 rfl (by decide) (op_why (Nat.le_refl 100) hj h) hC hS (fun v σ1 h1 => ?_)
  refine L_m A dL_law_1093 ?_
  refine L_arg A 1 (by decide) (by omega) dL_law_1094 dL_law_1095 dL_law_1096 dL_law_1097 dL_law_1098 ?_
  refine L_callB A (As := [.int (xs (i + 1))]) (st := [.int v]) rfl dL_law_1099 cv_L_132 rfl (Nat.le_of_ble_eq_true rfl) h1 hC hS (fun σ2 h2 => ?_)
  exact L_eq A dL_law_1102 (by decide) (k σ2 h2)
theorem law_sheet {G : vG} {p : Program} {e : Env} {s : State} {m : MethodId} {below : List Frame} {meth : Method} {c : Code} {b L : Nat} {xs : Nat → Int32} {C S : Nat} {i j : Nat} {σ : vS} (A : LwA G p s m meth c b L xs) (hi : i + 6 ≤ L) (hC : C ≤ 600000) (hS : S ≤ 7302250) (hj : j < 512) (h : Inv j σ) (k : ∀ σ2, Inv (j + 1) σ2 → Lw G p e s m below meth c b L xs C S i 1539 [] σ2) : Lw G p e s m below meth c b L xs C S i 1107 [] σ := by
  refine L_x A dL_law_1107 ?_
  refine L_arg A 1 (by decide) (by omega) dL_law_1108 dL_law_1109 dL_law_1110 dL_law_1111 dL_law_1112 ?_
  refine L_arg A 2 (by decide) (by omega) dL_law_1113 dL_law_1114 dL_law_1115 dL_law_1116 dL_law_1117 ?_
  refine L_arg A 3 (by decide) (by omega) dL_law_1118 dL_law_1119 dL_law_1120 dL_law_1121 dL_law_1122 ?_
  refine L_callA A (As := [.int (xs (i + 1)), .int (xs (i + 2)), .int (xs (i + 3))]) (st := []) rfl dL_law_1123 cv_L_133 rfl (by decide) (op_sheet (Nat.le_refl 100) hj h) hC hS (fun v σ1 h1 => ?_)
  refine L_m A dL_law_1126 ?_
  refine L_arg A 1 (by decide) (by omega) dL_law_1127 dL_law_1128 dL_law_1129 dL_law_1130 dL_law_1131 ?_
  refine L_arg A 2 (by decide) (by omega) dL_law_1132 dL_law_1133 dL_law_1134 dL_law_1135 dL_law_1136 ?_
  refine L_arg A 3 (by decide) (by omega) dL_law_1137 dL_law_1138 dL_law_1139 dL_law_1140 dL_law_1141 ?_
  refine L_callB A (As := [.int (xs (i + 1)), .int (xs (i + 2)), .int (xs (i + 3))]) (st := [.int v]) rfl dL_law_1142 cv_L_136 rfl (Nat.le_of_ble_eq_true rfl) h1 hC hS (fun σ2 h2 => ?_)
  exact L_eq A dL_law_1145 (by decide) (k σ2 h2)
theorem law_mark {G : vG} {p : Program} {e : Env} {s : State} {m : MethodId} {below : List Frame} {meth : Method} {c : Code} {b L : Nat} {xs : Nat → Int32} {C S : Nat} {i j : Nat} {σ : vS} (A : LwA G p s m meth c b L xs) (hi : i + 6 ≤ L) (hC : C ≤ 600000) (hS : S ≤ 7302250) (hj : j < 512) (h : Inv j σ) (k : ∀ σ2, Inv (j + 1) σ2 → Lw G p e s m below meth c b L xs C S i 1539 [] σ2) : Lw G p e s m below meth c b L xs C S i 1150 [] σ := by
  refine L_x A dL_law_1150 ?_
  refine L_arg A 1 (by decide) (by omega) dL_law_1151 dL_law_1152 dL_law_1153 dL_law_1154 dL_law_1155 ?_
  refine L_arg A 2 (by decide) (by omega) dL_law_1156 dL_law_1157 dL_law_1158 dL_law_1159 dL_law_1160 ?_
  refine L_arg A 3 (by decide) (by omega) dL_law_1161 dL_law_1162 dL_law_1163 dL_law_1164 dL_law_1165 ?_
  refine L_callA A (As := [.int (xs (i + 1)), .int (xs (i + 2)), .int (xs (i + 3))]) (st := []) rfl dL_law_1166 cv_L_137 rfl (by decide) (op_mark (Nat.le_refl 100) hj h) hC hS (fun v σ1 h1 => ?_)
  refine L_m A dL_law_1169 ?_
  refine L_arg A 1 (by decide) (by omega) dL_law_1170 dL_law_1171 dL_law_1172 dL_law_1173 dL_law_1174 ?_
  refine L_arg A 2 (by decide) (by omega) dL_law_1175 dL_law_1176 dL_law_1177 dL_law_1178 dL_law_1179 ?_
  refine L_arg A 3 (by decide) (by omega) dL_law_1180 dL_law_1181 dL_law_1182 dL_law_1183 dL_law_1184 ?_
  refine L_callB A (As := [.int (xs (i + 1)), .int (xs (i + 2)), .int (xs (i + 3))]) (st := [.int v]) rfl dL_law_1185 cv_L_140 rfl (Nat.le_of_ble_eq_true rfl) h1 hC hS (fun σ2 h2 => ?_)
  exact L_eq A dL_law_1188 (by decide) (k σ2 h2)
theorem law_pour {G : vG} {p : Program} {e : Env} {s : State} {m : MethodId} {below : List Frame} {meth : Method} {c : Code} {b L : Nat} {xs : Nat → Int32} {C S : Nat} {i j : Nat} {σ : vS} (A : LwA G p s m meth c b L xs) (hi : i + 6 ≤ L) (hC : C ≤ 600000) (hS : S ≤ 7302250) (hj : j < 512) (h : Inv j σ) (k : ∀ σ2, Inv (j + 1) σ2 → Lw G p e s m below meth c b L xs C S i 1539 [] σ2) : Lw G p e s m below meth c b L xs C S i 1193 [] σ := by
  refine L_x A dL_law_1193 ?_
  refine L_arg A 1 (by decide) (by omega) dL_law_1194 dL_law_1195 dL_law_1196 dL_law_1197 dL_law_1198 ?_
  refine L_callA A (As := [.int (xs (i + 1))]) (st := []) rfl dL_law_1199 cv_L_141 rfl (by decide) (op_pour (Nat.le_refl 100) hj h) hC hS (fun v σ1 h1 => ?_)
  refine L_m A dL_law_1202 ?_
  refine L_arg A 1 (by decide) (by omega) dL_law_1203 dL_law_1204 dL_law_1205 dL_law_1206 dL_law_1207 ?_
  refine L_callB A (As := [.int (xs (i + 1))]) (st := [.int v]) rfl dL_law_1208 cv_L_144 rfl (Nat.le_of_ble_eq_true rfl) h1 hC hS (fun σ2 h2 => ?_)
  exact L_eq A dL_law_1211 (by decide) (k σ2 h2)
theorem law_reads {G : vG} {p : Program} {e : Env} {s : State} {m : MethodId} {below : List Frame} {meth : Method} {c : Code} {b L : Nat} {xs : Nat → Int32} {C S : Nat} {i j : Nat} {σ : vS} (A : LwA G p s m meth c b L xs) (hi : i + 6 ≤ L) (hC : C ≤ 600000) (hS : S ≤ 7302250) (hj : j < 512) (h : Inv j σ) (k : ∀ σ2, Inv (j + 1) σ2 → Lw G p e s m below meth c b L xs C S i 1539 [] σ2) : Lw G p e s m below meth c b L xs C S i 1216 [] σ := by
  refine L_x A dL_law_1216 ?_
  refine L_arg A 1 (by decide) (by omega) dL_law_1217 dL_law_1218 dL_law_1219 dL_law_1220 dL_law_1221 ?_
  refine L_callA A (As := [.int (xs (i + 1))]) (st := []) rfl dL_law_1222 cv_L_145 rfl (by decide) (op_reads (Nat.le_refl 100) hj h) hC hS (fun v σ1 h1 => ?_)
  refine L_m A dL_law_1225 ?_
  refine L_arg A 1 (by decide) (by omega) dL_law_1226 dL_law_1227 dL_law_1228 dL_law_1229 dL_law_1230 ?_
  refine L_callB A (As := [.int (xs (i + 1))]) (st := [.int v]) rfl dL_law_1231 cv_L_148 rfl (Nat.le_of_ble_eq_true rfl) h1 hC hS (fun σ2 h2 => ?_)
  exact L_eq A dL_law_1234 (by decide) (k σ2 h2)
theorem law_copy {G : vG} {p : Program} {e : Env} {s : State} {m : MethodId} {below : List Frame} {meth : Method} {c : Code} {b L : Nat} {xs : Nat → Int32} {C S : Nat} {i j : Nat} {σ : vS} (A : LwA G p s m meth c b L xs) (hi : i + 6 ≤ L) (hC : C ≤ 600000) (hS : S ≤ 7302250) (hj : j < 512) (h : Inv j σ) (k : ∀ σ2, Inv (j + 1) σ2 → Lw G p e s m below meth c b L xs C S i 1539 [] σ2) : Lw G p e s m below meth c b L xs C S i 1239 [] σ := by
  refine L_x A dL_law_1239 ?_
  refine L_arg A 1 (by decide) (by omega) dL_law_1240 dL_law_1241 dL_law_1242 dL_law_1243 dL_law_1244 ?_
  refine L_arg A 2 (by decide) (by omega) dL_law_1245 dL_law_1246 dL_law_1247 dL_law_1248 dL_law_1249 ?_
  refine L_arg A 3 (by decide) (by omega) dL_law_1250 dL_law_1251 dL_law_1252 dL_law_1253 dL_law_1254 ?_
  refine L_arg A 4 (by decide) (by omega) dL_law_1255 dL_law_1256 dL_law_1257 dL_law_1258 dL_law_1259 ?_
  refine L_arg A 5 (by decide) (by omega) dL_law_1260 dL_law_1261 dL_law_1262 dL_law_1263 dL_law_1264 ?_
  refine L_callA A (As := [.int (xs (i + 1)), .int (xs (i + 2)), .int (xs (i + 3)), .int (xs (i + 4)), .int (xs (i + 5))]) (st := []) rfl dL_law_1265 cv_L_149 rfl (by decide) (op_copy (Nat.le_refl 100) hj h) hC hS (fun v σ1 h1 => ?_)
  refine L_m A dL_law_1268 ?_
  refine L_arg A 1 (by decide) (by omega) dL_law_1269 dL_law_1270 dL_law_1271 dL_law_1272 dL_law_1273 ?_
  refine L_arg A 2 (by decide) (by omega) dL_law_1274 dL_law_1275 dL_law_1276 dL_law_1277 dL_law_1278 ?_
  refine L_arg A 3 (by decide) (by omega) dL_law_1279 dL_law_1280 dL_law_1281 dL_law_1282 dL_law_1283 ?_
  refine L_arg A 4 (by decide) (by omega) dL_law_1284 dL_law_1285 dL_law_1286 dL_law_1287 dL_law_1288 ?_
  refine L_arg A 5 (by decide) (by omega) dL_law_1289 dL_law_1290 dL_law_1291 dL_law_1292 dL_law_1293 ?_
  refine L_callB A (As := [.int (xs (i + 1)), .int (xs (i + 2)), .int (xs (i + 3)), .int (xs (i + 4)), .int (xs (i + 5))]) (st := [.int v]) rfl dL_law_1294 cv_L_153 rfl (Nat.le_of_ble_eq_true rfl) h1 hC hS (fun σ2 h2 => ?_)
  exact L_eq A dL_law_1297 (by decide) (k σ2 h2)
theorem law_lay {G : vG} {p : Program} {e : Env} {s : State} {m : MethodId} {below : List Frame} {meth : Method} {c : Code} {b L : Nat} {xs : Nat → Int32} {C S : Nat} {i j : Nat} {σ : vS} (A : LwA G p s m meth c b L xs) (hi : i + 6 ≤ L) (hC : C ≤ 600000) (hS : S ≤ 7302250) (hj : j < 512) (h : Inv j σ) (k : ∀ σ2, Inv (j + 1) σ2 → Lw G p e s m below meth c b L xs C S i 1539 [] σ2) : Lw G p e s m below meth c b L xs C S i 1302 [] σ := by
  refine L_x A dL_law_1302 ?_
  refine L_arg A 1 (by decide) (by omega) dL_law_1303 dL_law_1304 dL_law_1305 dL_law_1306 dL_law_1307 ?_
  refine L_arg A 2 (by decide) (by omega) dL_law_1308 dL_law_1309 dL_law_1310 dL_law_1311 dL_law_1312 ?_
  refine L_arg A 3 (by decide) (by omega) dL_law_1313 dL_law_1314 dL_law_1315 dL_law_1316 dL_law_1317 ?_
  refine L_callA A (As := [.int (xs (i + 1)), .int (xs (i + 2)), .int (xs (i + 3))]) (st := []) rfl dL_law_1318 cv_L_154 rfl (by decide) (op_lay (Nat.le_refl 100) hj h) hC hS (fun v σ1 h1 => ?_)
  refine L_m A dL_law_1321 ?_
  refine L_arg A 1 (by decide) (by omega) dL_law_1322 dL_law_1323 dL_law_1324 dL_law_1325 dL_law_1326 ?_
  refine L_arg A 2 (by decide) (by omega) dL_law_1327 dL_law_1328 dL_law_1329 dL_law_1330 dL_law_1331 ?_
  refine L_arg A 3 (by decide) (by omega) dL_law_1332 dL_law_1333 dL_law_1334 dL_law_1335 dL_law_1336 ?_
  refine L_callB A (As := [.int (xs (i + 1)), .int (xs (i + 2)), .int (xs (i + 3))]) (st := [.int v]) rfl dL_law_1337 cv_L_157 rfl (Nat.le_of_ble_eq_true rfl) h1 hC hS (fun σ2 h2 => ?_)
  exact L_eq A dL_law_1340 (by decide) (k σ2 h2)
theorem law_ask {G : vG} {p : Program} {e : Env} {s : State} {m : MethodId} {below : List Frame} {meth : Method} {c : Code} {b L : Nat} {xs : Nat → Int32} {C S : Nat} {i j : Nat} {σ : vS} (A : LwA G p s m meth c b L xs) (hi : i + 6 ≤ L) (hC : C ≤ 600000) (hS : S ≤ 7302250) (hj : j < 512) (h : Inv j σ) (k : ∀ σ2, Inv (j + 1) σ2 → Lw G p e s m below meth c b L xs C S i 1539 [] σ2) : Lw G p e s m below meth c b L xs C S i 1345 [] σ := by
  refine L_x A dL_law_1345 ?_
  refine L_arg A 1 (by decide) (by omega) dL_law_1346 dL_law_1347 dL_law_1348 dL_law_1349 dL_law_1350 ?_
  refine L_arg A 2 (by decide) (by omega) dL_law_1351 dL_law_1352 dL_law_1353 dL_law_1354 dL_law_1355 ?_
  refine L_callA A (As := [.int (xs (i + 1)), .int (xs (i + 2))]) (st := []) rfl dL_law_1356 cv_L_158 rfl (by decide) (op_ask (Nat.le_refl 100) hj h) hC hS (fun v σ1 h1 => ?_)
  refine L_m A dL_law_1359 ?_
  refine L_arg A 1 (by decide) (by omega) dL_law_1360 dL_law_1361 dL_law_1362 dL_law_1363 dL_law_1364 ?_
  refine L_arg A 2 (by decide) (by omega) dL_law_1365 dL_law_1366 dL_law_1367 dL_law_1368 dL_law_1369 ?_
  refine L_callB A (As := [.int (xs (i + 1)), .int (xs (i + 2))]) (st := [.int v]) rfl dL_law_1370 cv_L_161 rfl (Nat.le_of_ble_eq_true rfl) h1 hC hS (fun σ2 h2 => ?_)
  exact L_eq A dL_law_1373 (by decide) (k σ2 h2)
theorem law_item {G : vG} {p : Program} {e : Env} {s : State} {m : MethodId} {below : List Frame} {meth : Method} {c : Code} {b L : Nat} {xs : Nat → Int32} {C S : Nat} {i j : Nat} {σ : vS} (A : LwA G p s m meth c b L xs) (hi : i + 6 ≤ L) (hC : C ≤ 600000) (hS : S ≤ 7302250) (hj : j < 512) (h : Inv j σ) (k : ∀ σ2, Inv (j + 1) σ2 → Lw G p e s m below meth c b L xs C S i 1539 [] σ2) : Lw G p e s m below meth c b L xs C S i 1378 [] σ := by
  refine L_x A dL_law_1378 ?_
  refine L_arg A 1 (by decide) (by omega) dL_law_1379 dL_law_1380 dL_law_1381 dL_law_1382 dL_law_1383 ?_
  refine L_arg A 2 (by decide) (by omega) dL_law_1384 dL_law_1385 dL_law_1386 dL_law_1387 dL_law_1388 ?_
  refine L_callA A (As := [.int (xs (i + 1)), .int (xs (i + 2))]) (st := []) rfl dL_law_1389 cv_L_162 rfl (by decide) (op_item (Nat.le_refl 100) hj h) hC hS (fun v σ1 h1 => ?_)
  refine L_m A dL_law_1392 ?_
  refine L_arg A 1 (by decide) (by omega) dL_law_1393 dL_law_1394 dL_law_1395 dL_law_1396 dL_law_1397 ?_
  refine L_arg A 2 (by decide) (by omega) dL_law_1398 dL_law_1399 dL_law_1400 dL_law_1401 dL_law_1402 ?_
  refine L_callB A (As := [.int (xs (i + 1)), .int (xs (i + 2))]) (st := [.int v]) rfl dL_law_1403 cv_L_165 rfl (Nat.le_of_ble_eq_true rfl) h1 hC hS (fun σ2 h2 => ?_)
  exact L_eq A dL_law_1406 (by decide) (k σ2 h2)
theorem law_rest {G : vG} {p : Program} {e : Env} {s : State} {m : MethodId} {below : List Frame} {meth : Method} {c : Code} {b L : Nat} {xs : Nat → Int32} {C S : Nat} {i j : Nat} {σ : vS} (A : LwA G p s m meth c b L xs) (hi : i + 6 ≤ L) (hC : C ≤ 600000) (hS : S ≤ 7302250) (hj : j < 512) (h : Inv j σ) (k : ∀ σ2, Inv (j + 1) σ2 → Lw G p e s m below meth c b L xs C S i 1539 [] σ2) : Lw G p e s m below meth c b L xs C S i 1411 [] σ := by
  refine L_x A dL_law_1411 ?_
  refine L_arg A 1 (by decide) (by omega) dL_law_1412 dL_law_1413 dL_law_1414 dL_law_1415 dL_law_1416 ?_
  refine L_arg A 2 (by decide) (by omega) dL_law_1417 dL_law_1418 dL_law_1419 dL_law_1420 dL_law_1421 ?_
  refine L_callA A (As := [.int (xs (i + 1)), .int (xs (i + 2))]) (st := []) rfl dL_law_1422 cv_L_166 rfl (by decide) (op_rest (Nat.le_refl 100) hj h) hC hS (fun v σ1 h1 => ?_)
  refine L_m A dL_law_1425 ?_
  refine L_arg A 1 (by decide) (by omega) dL_law_1426 dL_law_1427 dL_law_1428 dL_law_1429 dL_law_1430 ?_
  refine L_arg A 2 (by decide) (by omega) dL_law_1431 dL_law_1432 dL_law_1433 dL_law_1434 dL_law_1435 ?_
  refine L_callB A (As := [.int (xs (i + 1)), .int (xs (i + 2))]) (st := [.int v]) rfl dL_law_1436 cv_L_169 rfl (Nat.le_of_ble_eq_true rfl) h1 hC hS (fun σ2 h2 => ?_)
  exact L_eq A dL_law_1439 (by decide) (k σ2 h2)
theorem law_tell {G : vG} {p : Program} {e : Env} {s : State} {m : MethodId} {below : List Frame} {meth : Method} {c : Code} {b L : Nat} {xs : Nat → Int32} {C S : Nat} {i j : Nat} {σ : vS} (A : LwA G p s m meth c b L xs) (hi : i + 6 ≤ L) (hC : C ≤ 600000) (hS : S ≤ 7302250) (hj : j < 512) (h : Inv j σ) (k : ∀ σ2, Inv (j + 1) σ2 → Lw G p e s m below meth c b L xs C S i 1539 [] σ2) : Lw G p e s m below meth c b L xs C S i 1444 [] σ := by
  refine L_x A dL_law_1444 ?_
  refine L_arg A 1 (by decide) (by omega) dL_law_1445 dL_law_1446 dL_law_1447 dL_law_1448 dL_law_1449 ?_
  refine L_callA A (As := [.int (xs (i + 1))]) (st := []) rfl dL_law_1450 cv_L_170 rfl (by decide) (op_tell (Nat.le_refl 100) hj h) hC hS (fun v σ1 h1 => ?_)
  refine L_m A dL_law_1453 ?_
  refine L_arg A 1 (by decide) (by omega) dL_law_1454 dL_law_1455 dL_law_1456 dL_law_1457 dL_law_1458 ?_
  refine L_callB A (As := [.int (xs (i + 1))]) (st := [.int v]) rfl dL_law_1459 cv_L_173 rfl (Nat.le_of_ble_eq_true rfl) h1 hC hS (fun σ2 h2 => ?_)
  exact L_eq A dL_law_1462 (by decide) (k σ2 h2)
theorem law_check {G : vG} {p : Program} {e : Env} {s : State} {m : MethodId} {below : List Frame} {meth : Method} {c : Code} {b L : Nat} {xs : Nat → Int32} {C S : Nat} {i j : Nat} {σ : vS} (A : LwA G p s m meth c b L xs) (hi : i + 6 ≤ L) (hC : C ≤ 600000) (hS : S ≤ 7302250) (hj : j < 512) (h : Inv j σ) (k : ∀ σ2, Inv (j + 1) σ2 → Lw G p e s m below meth c b L xs C S i 1539 [] σ2) : Lw G p e s m below meth c b L xs C S i 1467 [] σ := by
  refine L_x A dL_law_1467 ?_
  refine L_arg A 1 (by decide) (by omega) dL_law_1468 dL_law_1469 dL_law_1470 dL_law_1471 dL_law_1472 ?_
  refine L_callA A (As := [.int (xs (i + 1))]) (st := []) rfl dL_law_1473 cv_L_174 rfl (by decide) (op_check (Nat.le_refl 100) hj h) hC hS (fun v σ1 h1 => ?_)
  refine L_m A dL_law_1476 ?_
  refine L_arg A 1 (by decide) (by omega) dL_law_1477 dL_law_1478 dL_law_1479 dL_law_1480 dL_law_1481 ?_
  refine L_callB A (As := [.int (xs (i + 1))]) (st := [.int v]) rfl dL_law_1482 cv_L_177 rfl (Nat.le_of_ble_eq_true rfl) h1 hC hS (fun σ2 h2 => ?_)
  exact L_eq A dL_law_1485 (by decide) (k σ2 h2)
theorem law_keep {G : vG} {p : Program} {e : Env} {s : State} {m : MethodId} {below : List Frame} {meth : Method} {c : Code} {b L : Nat} {xs : Nat → Int32} {C S : Nat} {i j : Nat} {σ : vS} (A : LwA G p s m meth c b L xs) (hi : i + 6 ≤ L) (hC : C ≤ 600000) (hS : S ≤ 7302250) (hj : j < 512) (h : Inv j σ) (k : ∀ σ2, Inv (j + 1) σ2 → Lw G p e s m below meth c b L xs C S i 1539 [] σ2) : Lw G p e s m below meth c b L xs C S i 1490 [] σ := by
  refine L_x A dL_law_1490 ?_
  refine L_callA A (As := []) (st := []) rfl dL_law_1491 cv_L_178 rfl (by decide) (op_keep (Nat.le_refl 100) hj h) hC hS (fun v σ1 h1 => ?_)
  refine L_m A dL_law_1494 ?_
  refine L_callB A (As := []) (st := [.int v]) rfl dL_law_1495 cv_L_181 rfl (Nat.le_of_ble_eq_true rfl) h1 hC hS (fun σ2 h2 => ?_)
  exact L_eq A dL_law_1498 (by decide) (k σ2 h2)
theorem law_back {G : vG} {p : Program} {e : Env} {s : State} {m : MethodId} {below : List Frame} {meth : Method} {c : Code} {b L : Nat} {xs : Nat → Int32} {C S : Nat} {i j : Nat} {σ : vS} (A : LwA G p s m meth c b L xs) (hi : i + 6 ≤ L) (hC : C ≤ 600000) (hS : S ≤ 7302250) (hj : j < 512) (h : Inv j σ) (k : ∀ σ2, Inv (j + 1) σ2 → Lw G p e s m below meth c b L xs C S i 1539 [] σ2) : Lw G p e s m below meth c b L xs C S i 1503 [] σ := by
  refine L_x A dL_law_1503 ?_
  refine L_callA A (As := []) (st := []) rfl dL_law_1504 cv_L_182 rfl (by decide) (op_back (Nat.le_refl 100) hj h) hC hS (fun v σ1 h1 => ?_)
  refine L_m A dL_law_1507 ?_
  refine L_callB A (As := []) (st := [.int v]) rfl dL_law_1508 cv_L_185 rfl (Nat.le_of_ble_eq_true rfl) h1 hC hS (fun σ2 h2 => ?_)
  exact L_eq A dL_law_1511 (by decide) (k σ2 h2)
theorem law_count {G : vG} {p : Program} {e : Env} {s : State} {m : MethodId} {below : List Frame} {meth : Method} {c : Code} {b L : Nat} {xs : Nat → Int32} {C S : Nat} {i j : Nat} {σ : vS} (A : LwA G p s m meth c b L xs) (hi : i + 6 ≤ L) (hC : C ≤ 600000) (hS : S ≤ 7302250) (hj : j < 512) (h : Inv j σ) (k : ∀ σ2, Inv (j + 1) σ2 → Lw G p e s m below meth c b L xs C S i 1539 [] σ2) : Lw G p e s m below meth c b L xs C S i 1516 [] σ := by
  refine L_x A dL_law_1516 ?_
  refine L_arg A 1 (by decide) (by omega) dL_law_1517 dL_law_1518 dL_law_1519 dL_law_1520 dL_law_1521 ?_
  refine L_callA A (As := [.int (xs (i + 1))]) (st := []) rfl dL_law_1522 cv_L_186 rfl (by decide) (op_count (Nat.le_refl 100) hj h) hC hS (fun v σ1 h1 => ?_)
  refine L_m A dL_law_1525 ?_
  refine L_arg A 1 (by decide) (by omega) dL_law_1526 dL_law_1527 dL_law_1528 dL_law_1529 dL_law_1530 ?_
  refine L_callB A (As := [.int (xs (i + 1))]) (st := [.int v]) rfl dL_law_1531 cv_L_189 rfl (Nat.le_of_ble_eq_true rfl) h1 hC hS (fun σ2 h2 => ?_)
  exact L_eq A dL_law_1534 (by decide) (k σ2 h2)
