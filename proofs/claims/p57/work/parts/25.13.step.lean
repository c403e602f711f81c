/-! the law: 25.13.step (wip/p57/gen) -/
theorem i327_346 : zi 327 346 347 2 0 0 := by decide +kernel
theorem i327_347 : zi 327 347 348 1 12 0 := by decide +kernel
theorem i327_348 : zi 327 348 349 0 0 100 := by decide +kernel
theorem i327_349 : zi 327 349 350 21 144 11 := by decide +kernel
theorem na_144 : z_na 144 = 2 := by decide +kernel
theorem i327_350 : zi 327 350 351 18 353 2 := by decide +kernel
theorem i327_351 : zi 327 351 352 0 0 1 := by decide +kernel
theorem i327_352 : zi 327 352 353 17 354 0 := by decide +kernel
theorem i327_354 : zi 327 354 355 26 0 0 := by decide +kernel
theorem i327_262 : zi 327 262 263 1 4 0 := by decide +kernel
theorem i327_263 : zi 327 263 264 0 0 6 := by decide +kernel
theorem i327_264 : zi 327 264 265 13 4 0 := by decide +kernel
theorem i327_265 : zi 327 265 266 3 12 0 := by decide +kernel
theorem i327_266 : zi 327 266 267 2 2 0 := by decide +kernel
theorem i327_267 : zi 327 267 268 1 12 0 := by decide +kernel
theorem i327_268 : zi 327 268 269 8 0 0 := by decide +kernel
theorem i327_269 : zi 327 269 270 18 310 1 := by decide +kernel
theorem i327_270 : zi 327 270 271 1 5 0 := by decide +kernel
theorem i327_271 : zi 327 271 272 0 0 3 := by decide +kernel
theorem i327_272 : zi 327 272 273 13 4 0 := by decide +kernel
theorem i327_273 : zi 327 273 274 3 13 0 := by decide +kernel
theorem i327_274 : zi 327 274 275 2 0 0 := by decide +kernel
theorem i327_275 : zi 327 275 276 1 12 0 := by decide +kernel
theorem i327_276 : zi 327 276 277 1 13 0 := by decide +kernel
theorem i327_277 : zi 327 277 278 1 13 0 := by decide +kernel
theorem i327_278 : zi 327 278 279 0 0 1 := by decide +kernel
theorem i327_279 : zi 327 279 280 19 286 1 := by decide +kernel
theorem i327_280 : zi 327 280 281 1 5 0 := by decide +kernel
theorem i327_281 : zi 327 281 282 0 0 3 := by decide +kernel
theorem i327_282 : zi 327 282 283 13 3 0 := by decide +kernel
theorem i327_283 : zi 327 283 284 0 0 3 := by decide +kernel
theorem i327_284 : zi 327 284 285 13 4 0 := by decide +kernel
theorem i327_285 : zi 327 285 286 17 287 0 := by decide +kernel
theorem i327_287 : zi 327 287 288 21 143 11 := by decide +kernel
theorem na_143 : z_na 143 = 3 := by decide +kernel
theorem i327_288 : zi 327 288 289 2 2 0 := by decide +kernel
theorem i327_289 : zi 327 289 290 1 12 0 := by decide +kernel
theorem i327_290 : zi 327 290 291 1 13 0 := by decide +kernel
theorem i327_291 : zi 327 291 292 0 0 1 := by decide +kernel
theorem i327_292 : zi 327 292 293 13 0 0 := by decide +kernel
theorem i327_293 : zi 327 293 294 10 0 0 := by decide +kernel
theorem i327_294 : zi 327 294 295 2 2 0 := by decide +kernel
theorem i327_295 : zi 327 295 296 0 0 6 := by decide +kernel
theorem i327_296 : zi 327 296 297 1 12 0 := by decide +kernel
theorem i327_297 : zi 327 297 298 13 0 0 := by decide +kernel
theorem i327_298 : zi 327 298 299 1 13 0 := by decide +kernel
theorem i327_299 : zi 327 299 300 0 0 1 := by decide +kernel
theorem i327_300 : zi 327 300 301 19 307 1 := by decide +kernel
theorem i327_301 : zi 327 301 302 1 5 0 := by decide +kernel
theorem i327_302 : zi 327 302 303 0 0 3 := by decide +kernel
theorem i327_303 : zi 327 303 304 13 3 0 := by decide +kernel
theorem i327_304 : zi 327 304 305 0 0 3 := by decide +kernel
theorem i327_305 : zi 327 305 306 13 4 0 := by decide +kernel
theorem i327_306 : zi 327 306 307 17 308 0 := by decide +kernel
theorem i327_308 : zi 327 308 309 10 0 0 := by decide +kernel
theorem i327_309 : zi 327 309 310 17 346 0 := by decide +kernel
theorem i327_286 : zi 327 286 287 0 0 0 := by decide +kernel
theorem i327_307 : zi 327 307 308 0 0 0 := by decide +kernel
theorem i327_310 : zi 327 310 311 1 5 0 := by decide +kernel
theorem i327_311 : zi 327 311 312 0 0 5 := by decide +kernel
theorem i327_312 : zi 327 312 313 13 4 0 := by decide +kernel
theorem i327_313 : zi 327 313 314 18 346 1 := by decide +kernel
theorem i327_314 : zi 327 314 315 2 0 0 := by decide +kernel
theorem i327_315 : zi 327 315 316 1 12 0 := by decide +kernel
theorem i327_316 : zi 327 316 317 0 0 (-1) := by decide +kernel
theorem i327_317 : zi 327 317 318 0 0 0 := by decide +kernel
theorem i327_318 : zi 327 318 319 21 143 11 := by decide +kernel
theorem i327_319 : zi 327 319 320 2 2 0 := by decide +kernel
theorem i327_320 : zi 327 320 321 1 12 0 := by decide +kernel
theorem i327_321 : zi 327 321 322 0 0 0 := by decide +kernel
theorem i327_322 : zi 327 322 323 10 0 0 := by decide +kernel
theorem i327_323 : zi 327 323 324 2 0 0 := by decide +kernel
theorem i327_324 : zi 327 324 325 0 0 36 := by decide +kernel
theorem i327_325 : zi 327 325 326 1 12 0 := by decide +kernel
theorem i327_326 : zi 327 326 327 13 2 0 := by decide +kernel
theorem i327_327 : zi 327 327 328 1 5 0 := by decide +kernel
theorem i327_328 : zi 327 328 329 0 0 5 := by decide +kernel
theorem i327_329 : zi 327 329 330 13 3 0 := by decide +kernel
theorem i327_330 : zi 327 330 331 0 0 36 := by decide +kernel
theorem i327_331 : zi 327 331 332 13 4 0 := by decide +kernel
theorem i327_332 : zi 327 332 333 13 0 0 := by decide +kernel
theorem i327_333 : zi 327 333 334 0 0 0 := by decide +kernel
theorem i327_334 : zi 327 334 335 21 161 11 := by decide +kernel
theorem i327_335 : zi 327 335 336 0 0 (-1) := by decide +kernel
theorem i327_336 : zi 327 336 337 19 344 1 := by decide +kernel
theorem i327_337 : zi 327 337 338 2 0 0 := by decide +kernel
theorem i327_338 : zi 327 338 339 1 12 0 := by decide +kernel
theorem i327_339 : zi 327 339 340 0 0 (-1) := by decide +kernel
theorem i327_340 : zi 327 340 341 21 165 11 := by decide +kernel
theorem i327_341 : zi 327 341 342 18 344 1 := by decide +kernel
theorem i327_342 : zi 327 342 343 0 0 1 := by decide +kernel
theorem i327_343 : zi 327 343 344 17 345 0 := by decide +kernel
theorem i327_345 : zi 327 345 346 26 0 0 := by decide +kernel
theorem i327_355 : zi 327 355 356 2 0 0 := by decide +kernel
theorem i327_356 : zi 327 356 357 21 142 11 := by decide +kernel
theorem i327_357 : zi 327 357 358 3 13 0 := by decide +kernel
theorem i327_358 : zi 327 358 359 1 5 0 := by decide +kernel
theorem i327_359 : zi 327 359 360 0 0 4 := by decide +kernel
theorem i327_360 : zi 327 360 361 13 4 0 := by decide +kernel
theorem i327_361 : zi 327 361 362 18 378 1 := by decide +kernel
theorem i327_362 : zi 327 362 363 2 0 0 := by decide +kernel
theorem i327_363 : zi 327 363 364 21 139 11 := by decide +kernel
theorem na_139 : z_na 139 = 0 := by decide +kernel
theorem i327_364 : zi 327 364 365 1 13 0 := by decide +kernel
theorem i327_365 : zi 327 365 366 0 0 1 := by decide +kernel
theorem i327_366 : zi 327 366 367 13 0 0 := by decide +kernel
theorem i327_367 : zi 327 367 368 19 376 1 := by decide +kernel
theorem i327_368 : zi 327 368 369 2 0 0 := by decide +kernel
theorem i327_369 : zi 327 369 370 21 142 11 := by decide +kernel
theorem i327_370 : zi 327 370 371 1 13 0 := by decide +kernel
theorem i327_371 : zi 327 371 372 0 0 1 := by decide +kernel
theorem i327_372 : zi 327 372 373 13 0 0 := by decide +kernel
theorem i327_373 : zi 327 373 374 19 376 1 := by decide +kernel
theorem i327_374 : zi 327 374 375 0 0 1 := by decide +kernel
theorem i327_375 : zi 327 375 376 17 377 0 := by decide +kernel
theorem i327_377 : zi 327 377 378 26 0 0 := by decide +kernel
theorem i327_378 : zi 327 378 379 2 0 0 := by decide +kernel
theorem i327_379 : zi 327 379 380 0 0 1 := by decide +kernel
theorem i327_380 : zi 327 380 381 1 4 0 := by decide +kernel
theorem i327_381 : zi 327 381 382 0 0 20 := by decide +kernel
theorem i327_382 : zi 327 382 383 13 4 0 := by decide +kernel
theorem i327_383 : zi 327 383 384 13 0 0 := by decide +kernel
theorem i327_384 : zi 327 384 385 0 0 1 := by decide +kernel
theorem i327_385 : zi 327 385 386 1 5 0 := by decide +kernel
theorem i327_386 : zi 327 386 387 0 0 50 := by decide +kernel
theorem i327_387 : zi 327 387 388 13 4 0 := by decide +kernel
theorem i327_388 : zi 327 388 389 13 0 0 := by decide +kernel
theorem i327_389 : zi 327 389 390 21 138 11 := by decide +kernel
theorem na_138 : z_na 138 = 2 := by decide +kernel
theorem i327_390 : zi 327 390 391 1 5 0 := by decide +kernel
theorem i327_391 : zi 327 391 392 0 0 8 := by decide +kernel
theorem i327_392 : zi 327 392 393 13 4 0 := by decide +kernel
theorem i327_393 : zi 327 393 394 0 0 1 := by decide +kernel
theorem i327_394 : zi 327 394 395 19 405 4 := by decide +kernel
theorem i327_405 : zi 327 405 406 0 0 1 := by decide +kernel
theorem i327_406 : zi 327 406 407 17 408 0 := by decide +kernel
theorem i327_408 : zi 327 408 409 26 0 0 := by decide +kernel
theorem i327_395 : zi 327 395 396 2 0 0 := by decide +kernel
theorem i327_396 : zi 327 396 397 1 13 0 := by decide +kernel
theorem i327_397 : zi 327 397 398 21 140 11 := by decide +kernel
theorem na_140 : z_na 140 = 1 := by decide +kernel
theorem i327_398 : zi 327 398 399 1 13 0 := by decide +kernel
theorem i327_399 : zi 327 399 400 19 407 4 := by decide +kernel
theorem i327_400 : zi 327 400 401 2 0 0 := by decide +kernel
theorem i327_401 : zi 327 401 402 1 13 0 := by decide +kernel
theorem i327_402 : zi 327 402 403 21 140 11 := by decide +kernel
theorem i327_403 : zi 327 403 404 1 13 0 := by decide +kernel
theorem i327_404 : zi 327 404 405 19 407 1 := by decide +kernel
theorem i327_409 : zi 327 409 410 2 1 0 := by decide +kernel
theorem i327_410 : zi 327 410 411 0 0 8 := by decide +kernel
theorem i327_411 : zi 327 411 412 8 0 0 := by decide +kernel
theorem i327_412 : zi 327 412 413 18 426 0 := by decide +kernel
theorem i327_426 : zi 327 426 427 0 0 1 := by decide +kernel
theorem i327_427 : zi 327 427 428 17 429 0 := by decide +kernel
theorem i327_429 : zi 327 429 430 26 0 0 := by decide +kernel
theorem i327_413 : zi 327 413 414 2 0 0 := by decide +kernel
theorem i327_414 : zi 327 414 415 0 0 1 := by decide +kernel
theorem i327_415 : zi 327 415 416 1 5 0 := by decide +kernel
theorem i327_416 : zi 327 416 417 0 0 50 := by decide +kernel
theorem i327_417 : zi 327 417 418 13 4 0 := by decide +kernel
theorem i327_418 : zi 327 418 419 13 0 0 := by decide +kernel
theorem i327_419 : zi 327 419 420 21 141 11 := by decide +kernel
theorem na_141 : z_na 141 = 1 := by decide +kernel
theorem i327_420 : zi 327 420 421 0 0 1 := by decide +kernel
theorem i327_421 : zi 327 421 422 1 5 0 := by decide +kernel
theorem i327_422 : zi 327 422 423 0 0 50 := by decide +kernel
theorem i327_423 : zi 327 423 424 13 4 0 := by decide +kernel
theorem i327_424 : zi 327 424 425 13 0 0 := by decide +kernel
theorem i327_425 : zi 327 425 426 19 428 4 := by decide +kernel
theorem i327_430 : zi 327 430 431 2 0 0 := by decide +kernel
theorem i327_431 : zi 327 431 432 0 0 1 := by decide +kernel
theorem i327_432 : zi 327 432 433 1 5 0 := by decide +kernel
theorem i327_433 : zi 327 433 434 0 0 100 := by decide +kernel
theorem i327_434 : zi 327 434 435 13 4 0 := by decide +kernel
theorem i327_435 : zi 327 435 436 13 0 0 := by decide +kernel
theorem i327_436 : zi 327 436 437 21 182 11 := by decide +kernel
theorem na_182 : z_na 182 = 1 := by decide +kernel
theorem i327_437 : zi 327 437 438 3 14 0 := by decide +kernel
theorem i327_438 : zi 327 438 439 1 14 0 := by decide +kernel
theorem i327_439 : zi 327 439 440 18 451 2 := by decide +kernel
theorem i327_440 : zi 327 440 441 1 14 0 := by decide +kernel
theorem i327_441 : zi 327 441 442 18 449 0 := by decide +kernel
theorem i327_449 : zi 327 449 450 0 0 1 := by decide +kernel
theorem i327_450 : zi 327 450 451 17 452 0 := by decide +kernel
theorem i327_452 : zi 327 452 453 26 0 0 := by decide +kernel
theorem i327_442 : zi 327 442 443 2 0 0 := by decide +kernel
theorem i327_443 : zi 327 443 444 0 0 1 := by decide +kernel
theorem i327_444 : zi 327 444 445 21 182 11 := by decide +kernel
theorem i327_445 : zi 327 445 446 1 14 0 := by decide +kernel
theorem i327_446 : zi 327 446 447 0 0 1 := by decide +kernel
theorem i327_447 : zi 327 447 448 13 1 0 := by decide +kernel
theorem i327_448 : zi 327 448 449 19 451 1 := by decide +kernel
theorem i327_453 : zi 327 453 454 1 4 0 := by decide +kernel
theorem i327_454 : zi 327 454 455 0 0 3 := by decide +kernel
theorem i327_455 : zi 327 455 456 13 4 0 := by decide +kernel
theorem i327_456 : zi 327 456 457 3 15 0 := by decide +kernel
theorem i327_457 : zi 327 457 458 2 0 0 := by decide +kernel
theorem i327_458 : zi 327 458 459 1 15 0 := by decide +kernel
theorem i327_459 : zi 327 459 460 1 5 0 := by decide +kernel
theorem i327_460 : zi 327 460 461 0 0 2 := by decide +kernel
theorem i327_461 : zi 327 461 462 13 4 0 := by decide +kernel
theorem i327_462 : zi 327 462 463 18 465 1 := by decide +kernel
theorem i327_463 : zi 327 463 464 0 0 1 := by decide +kernel
theorem i327_464 : zi 327 464 465 17 466 0 := by decide +kernel
theorem i327_466 : zi 327 466 467 1 5 0 := by decide +kernel
theorem i327_467 : zi 327 467 468 0 0 2 := by decide +kernel
theorem i327_468 : zi 327 468 469 13 3 0 := by decide +kernel
theorem i327_469 : zi 327 469 470 0 0 4 := by decide +kernel
theorem i327_470 : zi 327 470 471 13 4 0 := by decide +kernel
theorem i327_471 : zi 327 471 472 18 474 1 := by decide +kernel
theorem i327_472 : zi 327 472 473 0 0 1 := by decide +kernel
theorem i327_473 : zi 327 473 474 17 475 0 := by decide +kernel
theorem i327_475 : zi 327 475 476 0 0 1 := by decide +kernel
theorem i327_476 : zi 327 476 477 1 5 0 := by decide +kernel
theorem i327_477 : zi 327 477 478 0 0 8 := by decide +kernel
theorem i327_478 : zi 327 478 479 13 3 0 := by decide +kernel
theorem i327_479 : zi 327 479 480 0 0 1000 := by decide +kernel
theorem i327_480 : zi 327 480 481 13 4 0 := by decide +kernel
theorem nz_1000 : ¬ (1000 : Int32) = 0 := by decide
theorem i327_481 : zi 327 481 482 13 0 0 := by decide +kernel
theorem i327_482 : zi 327 482 483 21 180 11 := by decide +kernel
theorem na_180 : z_na 180 = 4 := by decide +kernel
theorem i327_483 : zi 327 483 484 18 493 0 := by decide +kernel
theorem i327_493 : zi 327 493 494 0 0 1 := by decide +kernel
theorem i327_494 : zi 327 494 495 17 496 0 := by decide +kernel
theorem i327_496 : zi 327 496 497 26 0 0 := by decide +kernel
theorem i327_484 : zi 327 484 485 2 0 0 := by decide +kernel
theorem i327_485 : zi 327 485 486 1 15 0 := by decide +kernel
theorem i327_486 : zi 327 486 487 21 181 11 := by decide +kernel
theorem na_181 : z_na 181 = 1 := by decide +kernel
theorem i327_487 : zi 327 487 488 18 495 2 := by decide +kernel
theorem i327_488 : zi 327 488 489 2 0 0 := by decide +kernel
theorem i327_489 : zi 327 489 490 1 15 0 := by decide +kernel
theorem i327_490 : zi 327 490 491 21 181 11 := by decide +kernel
theorem i327_491 : zi 327 491 492 0 0 65521 := by decide +kernel
theorem i327_492 : zi 327 492 493 19 495 3 := by decide +kernel
theorem i327_474 : zi 327 474 475 0 0 0 := by decide +kernel
theorem i327_465 : zi 327 465 466 0 0 0 := by decide +kernel
set_option maxRecDepth 100000 in
theorem q327_346 {L : Nat} (x a b t p q y : Int32) (u13 : Option zV) {S : zS} {n : Nat} (hn : n < 480) (w : jLaw n S) (hf : 0 ≤ y.toInt ∧ y.toInt < 6) : zH L 327 (346, [some (.inr (.inr 0)), some (.inr (.inr 13)), some (.inr (.inr 81)), some (.inl x), some (.inl a), some (.inl b), some (.inl t), some (.inl p), some (.inl q), none, none, none, some (.inl y), u13, none, none, none], [], S) (jQ (fun S' => jLaw (n + 6) S')) := by
  have hnf := zk_nat hf.1
  have h18 := (jI_Eng w.1).2.2 y.toNatClampNeg (by omega)
  unfold zn at h18
  refine zH_pre (zr_2_0 i327_346 (zr_1_12 i327_347 (zr_0 i327_348 kc_100 (zt_rfl)))) ?_
  have hP : jP144 y 100 S := ⟨jI_n (by omega) w.1, (by simp only [zk_lt, zk_le, jk_65521b, jk_1000, zk_1, jk_0, jk_2, jk_3, jk_4, jk_5, jk_6, jk_7, jk_8, jk_10, jk_11, jk_13, jk_14, jk_15, jk_16, jk_18, jk_20, jk_24, jk_25, jk_36, jk_40, jk_50, jk_64, jk_72, jk_100, jk_120, jk_200, jk_201, jk_216, jk_255, jk_256, jk_257, jk_512, jk_1000, jk_2048, jk_9999, jk_10000, jk_65521, jk_65536, jk_104729, jk_2147483647, jk_m1, jk_m2, jk_m3, jk_m4, jk_m5, jk_m6, jk_m7, jk_m8, jk_m9, jk_m10, jk_m11, jk_m12, jk_m13, jk_m14]; omega)⟩
  refine zH_call (zs_21_2 i327_349 na_144 ob_0 rfl) (y144 y 100 S hP) ?_
  have f := (show jLaw n (B144 y 100 S) ∧ (A144 y 100 S) = S 18 y.toNatClampNeg from ⟨⟨jq144 w.1 y (by unfold zn; decide), jCx_k rfl (p_B144 _ _ S) w.2.1, jE_k rfl rfl (p_B144 _ _ S) w.2.2⟩, rfl⟩)
  generalize (B144 y 100 S) = S1 at f ⊢
  generalize (A144 y 100 S) = r at f ⊢
  obtain ⟨w1, r1⟩ := f
  have hc : ¬ (r < 0) := by rw [r1, zk_lt, jk_0]; omega
  refine zH_pre (zt_cast (zr_18_2 i327_350 (fun _ => zt_rfl) (fun _ => zt_rfl)) (if_neg hc)) ?_
  clear hc
  refine zH_pre (zr_0 i327_351 kc_1 (zr_17 i327_352 (zt_rfl))) ?_
  exact zH_ret (zr_26 i327_354 zo_1) ⟨rfl, jLaw_u (by omega) w1⟩
set_option maxRecDepth 100000 in
theorem q327_262 {L : Nat} (x a b t p q : Int32) {S : zS} {n : Nat} (hn : n < 480) (w : jLaw n S) (ha : 0 ≤ a.toInt) (hb : 0 ≤ b.toInt) (ht : zn 39 t) (hT : ¬ S 5 0 = 0 → t.toInt < (S 5 0).toInt) (hp : zx 216 p) (hq : 0 ≤ q.toInt ∧ q.toInt < 4) : zH L 327 (262, [some (.inr (.inr 0)), some (.inr (.inr 13)), some (.inr (.inr 81)), some (.inl x), some (.inl a), some (.inl b), some (.inl t), some (.inl p), some (.inl q), none, none, none, none, none, none, none, none], [], S) (jQ (fun S' => jLaw (n + 6) S')) := by
  have h6 := jrem (x := a) (y := 6) ha (by decide)
  rw [jk_6] at h6
  have hx6 : zx 6 (zrem a 6) := by rw [zx_iff]; omega
  have hnf := zk_nat h6.1
  have hE := w.2.2 (zrem a 6).toNatClampNeg (by omega)
  have hG := (jI_Eng w.1).1 (zrem a 6).toNatClampNeg (by omega)
  have hE2 : (S 81 (zrem a 6).toNatClampNeg).toInt = (S 16 (zrem a 6).toNatClampNeg).toInt + 1 := by rw [hE, zk_tadd (by rw [zk_1]; omega) (by rw [zk_1]; omega), zk_1]
  have e6 : (6 + (zrem a 6)).toInt = 6 + (zrem a 6).toInt := by rw [zk_tadd (by rw [jk_6]; omega) (by rw [jk_6]; omega), jk_6]
  have g0 : zx 12 (zrem a 6) := by rw [zx_iff]; omega
  refine zH_pre (zr_1_4 i327_262 (zr_0 i327_263 kc_6 (zr_13_4 i327_264 nz_6 (zr_3_12 i327_265 (zr_2_2 i327_266 (zr_1_12 i327_267 (zr_8 i327_268 ar_81 (g0) rfl rfl (zt_rfl)))))))) ?_
  by_cases he : ((S 81 (zrem a 6).toNatClampNeg) = 0)
  · refine zH_pre (zt_cast (zr_18_1 i327_269 (fun _ => zt_rfl) (fun _ => zt_rfl)) (if_pos he)) ?_
    have h16 : S 16 (zrem a 6).toNatClampNeg = -1 := zk_eq.mpr (by rw [he, jk_0] at hE2; rw [jk_m1]; omega)
    have h3 := jrem (x := b) (y := 3) hb (by decide)
    rw [jk_3] at h3
    have hb3 := jdv (x := b) (y := 3) hb (by decide)
    have h33 := jrem (x := b / 3) (y := 3) hb3.1 (by decide)
    rw [jk_3] at h33
    refine zH_pre (zr_1_5 i327_270 (zr_0 i327_271 kc_3 (zr_13_4 i327_272 nz_3 (zr_3_13 i327_273 (zr_2_0 i327_274 (zr_1_12 i327_275 (zr_1_13 i327_276 (zr_1_13 i327_277 (zr_0 i327_278 kc_1 (zt_rfl)))))))))) ?_
    by_cases hen : ((zrem b 3) = 1)
    · refine zH_pre (zt_cast (zr_19_1 i327_279 (fun _ => zt_rfl) (fun _ => zt_rfl)) (if_pos hen)) ?_
      have hdm : zb (zrem b 3 = -1) = zb (¬ S 16 (zrem a 6).toNatClampNeg = -1) := ((zb_0 _).mpr (fun e => by rw [e, jk_m1] at h3; omega)).trans ((zb_0 _).mpr (fun e => e h16)).symm
      refine zH_pre (zr_1_5 i327_280 (zr_0 i327_281 kc_3 (zr_13_3 i327_282 nz_3 (zr_0 i327_283 kc_3 (zr_13_4 i327_284 nz_3 (zr_17 i327_285 (zt_rfl))))))) ?_
      have hP : jP143 (zrem a 6) (zrem b 3) (zrem (b / 3) 3) S := ⟨jI_n (by omega) w.1, (by rw [if_pos hen]; simp only [zk_lt, zk_le, jk_m1, zk_1, jk_0, jk_2, jk_3, jk_4, jk_5, jk_6, jk_7, jk_8, jk_10, jk_11, jk_13, jk_14, jk_15, jk_16, jk_18, jk_20, jk_24, jk_25, jk_36, jk_40, jk_50, jk_64, jk_72, jk_100, jk_120, jk_200, jk_201, jk_216, jk_255, jk_256, jk_257, jk_512, jk_1000, jk_2048, jk_9999, jk_10000, jk_65521, jk_65536, jk_104729, jk_2147483647, jk_m1, jk_m2, jk_m3, jk_m4, jk_m5, jk_m6, jk_m7, jk_m8, jk_m9, jk_m10, jk_m11, jk_m12, jk_m13, jk_m14]; omega), hdm⟩
      refine zH_calln (zs_21_3 i327_287 na_143 ob_0 rfl) (y143 (zrem a 6) (zrem b 3) (zrem (b / 3) 3) S hP) ?_
      have g0 : zx 12 (zrem a 6) := by rw [zx_iff]; omega
      refine zH_pre (zr_2_2 i327_288 (zr_1_12 i327_289 (zr_1_13 i327_290 (zr_0 i327_291 kc_1 (zr_13_0 i327_292 (zr_10 i327_293 ar_81 (g0) rfl (zr_2_2 i327_294 (zr_0 i327_295 kc_6 (zr_1_12 i327_296 (zr_13_0 i327_297 (zr_1_13 i327_298 (zr_0 i327_299 kc_1 (zt_rfl))))))))))))) ?_
      have hc : ((zrem b 3) = 1) := hen
      refine zH_pre (zt_cast (zr_19_1 i327_300 (fun _ => zt_rfl) (fun _ => zt_rfl)) (if_pos hc)) ?_
      clear hc
      have g0 : zx 12 (6 + (zrem a 6)) := by rw [zx_iff]; omega
      refine zH_pre (zr_1_5 i327_301 (zr_0 i327_302 kc_3 (zr_13_3 i327_303 nz_3 (zr_0 i327_304 kc_3 (zr_13_4 i327_305 nz_3 (zr_17 i327_306 (zr_10 i327_308 ar_81 (g0) rfl (zr_17 i327_309 (zt_rfl))))))))) ?_
      have f := (show jLaw n (z_up (z_up (B143 (zrem a 6) (zrem b 3) (zrem (b / 3) 3) S) 81 (zrem a 6).toNatClampNeg ((zrem b 3) + 1)) 81 (6 + (zrem a 6)).toNatClampNeg (zrem (b / 3) 3)) from jmount1 w hx6 (by omega) (c := zrem (b / 3) 3) (by rw [zx_iff]; omega) (by have := zk_nat (x := 6 + (zrem a 6)) (by omega); omega))
      generalize (z_up (z_up (B143 (zrem a 6) (zrem b 3) (zrem (b / 3) 3) S) 81 (zrem a 6).toNatClampNeg ((zrem b 3) + 1)) 81 (6 + (zrem a 6)).toNatClampNeg (zrem (b / 3) 3)) = S1 at f ⊢
      have w1 := f
      exact q327_346 x a b t p q _ _ hn w1 h6
    · refine zH_pre (zt_cast (zr_19_1 i327_279 (fun _ => zt_rfl) (fun _ => zt_rfl)) (if_neg hen)) ?_
      have hdm : zb (zrem b 3 = -1) = zb (¬ S 16 (zrem a 6).toNatClampNeg = -1) := ((zb_0 _).mpr (fun e => by rw [e, jk_m1] at h3; omega)).trans ((zb_0 _).mpr (fun e => e h16)).symm
      refine zH_pre (zr_0 i327_286 kc_0 (zt_rfl)) ?_
      have hP : jP143 (zrem a 6) (zrem b 3) 0 S := ⟨jI_n (by omega) w.1, (by rw [if_neg hen]; simp only [zk_lt, zk_le, jk_m1, zk_1, jk_0, jk_2, jk_3, jk_4, jk_5, jk_6, jk_7, jk_8, jk_10, jk_11, jk_13, jk_14, jk_15, jk_16, jk_18, jk_20, jk_24, jk_25, jk_36, jk_40, jk_50, jk_64, jk_72, jk_100, jk_120, jk_200, jk_201, jk_216, jk_255, jk_256, jk_257, jk_512, jk_1000, jk_2048, jk_9999, jk_10000, jk_65521, jk_65536, jk_104729, jk_2147483647, jk_m1, jk_m2, jk_m3, jk_m4, jk_m5, jk_m6, jk_m7, jk_m8, jk_m9, jk_m10, jk_m11, jk_m12, jk_m13, jk_m14]; omega), hdm⟩
      refine zH_calln (zs_21_3 i327_287 na_143 ob_0 rfl) (y143 (zrem a 6) (zrem b 3) 0 S hP) ?_
      have g0 : zx 12 (zrem a 6) := by rw [zx_iff]; omega
      refine zH_pre (zr_2_2 i327_288 (zr_1_12 i327_289 (zr_1_13 i327_290 (zr_0 i327_291 kc_1 (zr_13_0 i327_292 (zr_10 i327_293 ar_81 (g0) rfl (zr_2_2 i327_294 (zr_0 i327_295 kc_6 (zr_1_12 i327_296 (zr_13_0 i327_297 (zr_1_13 i327_298 (zr_0 i327_299 kc_1 (zt_rfl))))))))))))) ?_
      have hc : ¬ ((zrem b 3) = 1) := hen
      refine zH_pre (zt_cast (zr_19_1 i327_300 (fun _ => zt_rfl) (fun _ => zt_rfl)) (if_neg hc)) ?_
      clear hc
      have g0 : zx 12 (6 + (zrem a 6)) := by rw [zx_iff]; omega
      refine zH_pre (zr_0 i327_307 kc_0 (zr_10 i327_308 ar_81 (g0) rfl (zr_17 i327_309 (zt_rfl)))) ?_
      have f := (show jLaw n (z_up (z_up (B143 (zrem a 6) (zrem b 3) 0 S) 81 (zrem a 6).toNatClampNeg ((zrem b 3) + 1)) 81 (6 + (zrem a 6)).toNatClampNeg 0) from jmount1 w hx6 (by omega) (c := 0) (by unfold zx; decide) (by have := zk_nat (x := 6 + (zrem a 6)) (by omega); omega))
      generalize (z_up (z_up (B143 (zrem a 6) (zrem b 3) 0 S) 81 (zrem a 6).toNatClampNeg ((zrem b 3) + 1)) 81 (6 + (zrem a 6)).toNatClampNeg 0) = S1 at f ⊢
      have w1 := f
      exact q327_346 x a b t p q _ _ hn w1 h6
  · refine zH_pre (zt_cast (zr_18_1 i327_269 (fun _ => zt_rfl) (fun _ => zt_rfl)) (if_neg he)) ?_
    have h16 : ¬ S 16 (zrem a 6).toNatClampNeg = -1 := fun e => he (zk_eq.mpr (by rw [hE2, e, jk_m1, jk_0]; rfl))
    refine zH_pre (zr_1_5 i327_310 (zr_0 i327_311 kc_5 (zr_13_4 i327_312 nz_5 (zt_rfl)))) ?_
    by_cases h5 : ((zrem b 5) = 0)
    · refine zH_pre (zt_cast (zr_18_1 i327_313 (fun _ => zt_rfl) (fun _ => zt_rfl)) (if_pos h5)) ?_
      have hdm : zb ((-1 : Int32) = -1) = zb (¬ S 16 (zrem a 6).toNatClampNeg = -1) := ((zb_1 _).mpr rfl).trans ((zb_1 _).mpr h16).symm
      have hb5 := jdv (x := b) (y := 5) hb (by decide)
      have h36 := jrem (x := b / 5) (y := 36) hb5.1 (by decide)
      rw [jk_36] at h36
      have e1 : (36 * (zrem a 6)).toInt = 36 * (zrem a 6).toInt := by rw [zk_tmul (by rw [jk_36]; omega) (by rw [jk_36]; omega), jk_36]
      have e2 : ((36 * (zrem a 6)) + (zrem (b / 5) 36)).toInt = 36 * (zrem a 6).toInt + (zrem (b / 5) 36).toInt := by rw [zk_tadd (by omega) (by omega), e1]
      have hnp := zk_nat (x := (36 * (zrem a 6)) + (zrem (b / 5) 36)) (by omega)
      refine zH_pre (zr_2_0 i327_314 (zr_1_12 i327_315 (zr_0 i327_316 kc_m1 (zr_0 i327_317 kc_0 (zt_rfl))))) ?_
      have hP : jP143 (zrem a 6) (-1) 0 S := ⟨jI_n (by omega) w.1, (by rw [if_neg (by decide)]; simp only [zk_lt, zk_le, jk_m1, zk_1, jk_0, jk_2, jk_3, jk_4, jk_5, jk_6, jk_7, jk_8, jk_10, jk_11, jk_13, jk_14, jk_15, jk_16, jk_18, jk_20, jk_24, jk_25, jk_36, jk_40, jk_50, jk_64, jk_72, jk_100, jk_120, jk_200, jk_201, jk_216, jk_255, jk_256, jk_257, jk_512, jk_1000, jk_2048, jk_9999, jk_10000, jk_65521, jk_65536, jk_104729, jk_2147483647, jk_m1, jk_m2, jk_m3, jk_m4, jk_m5, jk_m6, jk_m7, jk_m8, jk_m9, jk_m10, jk_m11, jk_m12, jk_m13, jk_m14]; omega), hdm⟩
      refine zH_calln (zs_21_3 i327_318 na_143 ob_0 rfl) (y143 (zrem a 6) (-1) 0 S hP) ?_
      have g0 : zx 12 (zrem a 6) := by rw [zx_iff]; omega
      refine zH_pre (zr_2_2 i327_319 (zr_1_12 i327_320 (zr_0 i327_321 kc_0 (zr_10 i327_322 ar_81 (g0) rfl (zr_2_0 i327_323 (zr_0 i327_324 kc_36 (zr_1_12 i327_325 (zr_13_2 i327_326 (zr_1_5 i327_327 (zr_0 i327_328 kc_5 (zr_13_3 i327_329 nz_5 (zr_0 i327_330 kc_36 (zr_13_4 i327_331 nz_36 (zr_13_0 i327_332 (zr_0 i327_333 kc_0 (zt_rfl)))))))))))))))) ?_
      have f := jmount0 (by omega) w hx6
      generalize (z_up (B143 (zrem a 6) (-1) 0 S) 81 (zrem a 6).toNatClampNeg 0) = S1 at f ⊢
      obtain ⟨w1, y1, y2⟩ := f
      have hP : jP161 ((36 * (zrem a 6)) + (zrem (b / 5) 36)) 0 S1 := ⟨jI_n (by omega) w1.1, (by simp only [zk_lt, zk_le, jk_m1, zk_1, jk_0, jk_2, jk_3, jk_4, jk_5, jk_6, jk_7, jk_8, jk_10, jk_11, jk_13, jk_14, jk_15, jk_16, jk_18, jk_20, jk_24, jk_25, jk_36, jk_40, jk_50, jk_64, jk_72, jk_100, jk_120, jk_200, jk_201, jk_216, jk_255, jk_256, jk_257, jk_512, jk_1000, jk_2048, jk_9999, jk_10000, jk_65521, jk_65536, jk_104729, jk_2147483647, jk_m1, jk_m2, jk_m3, jk_m4, jk_m5, jk_m6, jk_m7, jk_m8, jk_m9, jk_m10, jk_m11, jk_m12, jk_m13, jk_m14]; omega)⟩
      refine zH_call (zs_21_2 i327_334 na_161 ob_0 rfl) (y161 ((36 * (zrem a 6)) + (zrem (b / 5) 36)) 0 S1 hP) ?_
      have f := (show (A161 ((36 * (zrem a 6)) + (zrem (b / 5) 36)) 0 S1) = -1 from jkey0 (y1 _ (by omega) (by omega)))
      generalize (A161 ((36 * (zrem a 6)) + (zrem (b / 5) 36)) 0 S1) = r at f ⊢
      refine zH_pre (zr_0 i327_335 kc_m1 (zt_rfl)) ?_
      have hc : (r = (-1)) := f
      refine zH_pre (zt_cast (zr_19_1 i327_336 (fun _ => zt_rfl) (fun _ => zt_rfl)) (if_pos hc)) ?_
      clear hc
      refine zH_pre (zr_2_0 i327_337 (zr_1_12 i327_338 (zr_0 i327_339 kc_m1 (zt_rfl)))) ?_
      have hP : jP165 (zrem a 6) (-1) S1 := ⟨jI_n (by omega) w1.1, ⟨(by simp only [zk_lt, zk_le, zk_1, jk_0, jk_2, jk_3, jk_4, jk_5, jk_6, jk_7, jk_8, jk_10, jk_11, jk_13, jk_14, jk_15, jk_16, jk_18, jk_20, jk_24, jk_25, jk_36, jk_40, jk_50, jk_64, jk_72, jk_100, jk_120, jk_200, jk_201, jk_216, jk_255, jk_256, jk_257, jk_512, jk_1000, jk_2048, jk_9999, jk_10000, jk_65521, jk_65536, jk_104729, jk_2147483647, jk_m1, jk_m2, jk_m3, jk_m4, jk_m5, jk_m6, jk_m7, jk_m8, jk_m9, jk_m10, jk_m11, jk_m12, jk_m13, jk_m14]; omega), Or.inl rfl⟩⟩
      refine zH_call (zs_21_2 i327_340 na_165 ob_0 rfl) (y165 (zrem a 6) (-1) S1 hP) ?_
      have f := (show jLaw n (B165 (zrem a 6) (-1) S1) ∧ (A165 (zrem a 6) (-1) S1) = 0 from (fun z => ⟨z.1, z.2.2.2.2.2.2.2 (fun i hi e => y2 i hi e)⟩) (jv165 (by omega) w1 h6 (b := -1) (Or.inl rfl)))
      generalize (B165 (zrem a 6) (-1) S1) = S2 at f ⊢
      generalize (A165 (zrem a 6) (-1) S1) = r2 at f ⊢
      obtain ⟨w2, r3⟩ := f
      have hc : (r2 = 0) := r3
      refine zH_pre (zt_cast (zr_18_1 i327_341 (fun _ => zt_rfl) (fun _ => zt_rfl)) (if_pos hc)) ?_
      clear hc
      refine zH_pre (zr_0 i327_342 kc_1 (zr_17 i327_343 (zt_rfl))) ?_
      exact zH_ret (zr_26 i327_345 zo_1) ⟨rfl, jLaw_u (by omega) w2⟩
    · refine zH_pre (zt_cast (zr_18_1 i327_313 (fun _ => zt_rfl) (fun _ => zt_rfl)) (if_neg h5)) ?_
      exact q327_346 x a b t p q _ _ hn w h6
set_option maxRecDepth 100000 in
theorem q327_355 {L : Nat} (x a b t p q : Int32) {S : zS} {n : Nat} (hn : n < 480) (w : jLaw n S) (ha : 0 ≤ a.toInt) (hb : 0 ≤ b.toInt) (ht : zn 39 t) (hT : ¬ S 5 0 = 0 → t.toInt < (S 5 0).toInt) (hp : zx 216 p) (hq : 0 ≤ q.toInt ∧ q.toInt < 4) : zH L 327 (355, [some (.inr (.inr 0)), some (.inr (.inr 13)), some (.inr (.inr 81)), some (.inl x), some (.inl a), some (.inl b), some (.inl t), some (.inl p), some (.inl q), none, none, none, none, none, none, none, none], [], S) (jQ (fun S' => jLaw (n + 6) S')) := by
  have hK := (jI_Key w.1).2
  refine zH_pre (zr_2_0 i327_355 (zt_rfl)) ?_
  have hP : jP142  S := jI_n (by omega) w.1
  refine zH_call (zs_21_0 i327_356 na_142 ob_0 rfl) (y142  S hP) ?_
  have f := (show (A142 S) = S 2 0 from rfl)
  generalize (A142 S) = k at f ⊢
  have hk := f
  refine zH_pre (zr_3_13 i327_357 (zr_1_5 i327_358 (zr_0 i327_359 kc_4 (zr_13_4 i327_360 nz_4 (zt_rfl))))) ?_
  by_cases h4 : ((zrem b 4) = 0)
  · refine zH_pre (zt_cast (zr_18_1 i327_361 (fun _ => zt_rfl) (fun _ => zt_rfl)) (if_pos h4)) ?_
    refine zH_pre (zr_2_0 i327_362 (zt_rfl)) ?_
    have hP : jP139  S := jI_n (by omega) w.1
    refine zH_call (zs_21_0 i327_363 na_139 ob_0 rfl) (y139  S hP) ?_
    have f := (show jLaw (n + 1) (B139 S) ∧ (B139 S) 2 0 = k + 1 ∧ (A139 S) = k + 1 from (fun z => ⟨⟨z.1, jCx_k rfl (p_B139 S) w.2.1, jE_k rfl rfl (p_B139 S) w.2.2⟩, by rw [z.2, hk]; rfl, by rw [hk]; rfl⟩) (jq139 (by omega) w.1))
    generalize (B139 S) = S1 at f ⊢
    generalize (A139 S) = r at f ⊢
    obtain ⟨w1, k1, r1⟩ := f
    refine zH_pre (zr_1_13 i327_364 (zr_0 i327_365 kc_1 (zr_13_0 i327_366 (zt_rfl)))) ?_
    have hc : (r = (k + 1)) := r1
    refine zH_pre (zt_cast (zr_19_1 i327_367 (fun _ => zt_rfl) (fun _ => zt_rfl)) (if_pos hc)) ?_
    clear hc
    refine zH_pre (zr_2_0 i327_368 (zt_rfl)) ?_
    have hP : jP142  S1 := jI_n (by omega) w1.1
    refine zH_call (zs_21_0 i327_369 na_142 ob_0 rfl) (y142  S1 hP) ?_
    have f := (show (A142 S1) = k + 1 from k1)
    generalize (A142 S1) = r2 at f ⊢
    refine zH_pre (zr_1_13 i327_370 (zr_0 i327_371 kc_1 (zr_13_0 i327_372 (zt_rfl)))) ?_
    have hc : (r2 = (k + 1)) := f
    refine zH_pre (zt_cast (zr_19_1 i327_373 (fun _ => zt_rfl) (fun _ => zt_rfl)) (if_pos hc)) ?_
    clear hc
    refine zH_pre (zr_0 i327_374 kc_1 (zr_17 i327_375 (zt_rfl))) ?_
    exact zH_ret (zr_26 i327_377 zo_1) ⟨rfl, jLaw_u (by omega) w1⟩
  · refine zH_pre (zt_cast (zr_18_1 i327_361 (fun _ => zt_rfl) (fun _ => zt_rfl)) (if_neg h4)) ?_
    have h20 := jrem (x := a) (y := 20) ha (by decide)
    rw [jk_20] at h20
    have h50 := jrem (x := b) (y := 50) hb (by decide)
    rw [jk_50] at h50
    have g1 : (1 + (zrem a 20)).toInt = 1 + (zrem a 20).toInt := jp1 h20 (by decide)
    have g2 : (1 + (zrem b 50)).toInt = 1 + (zrem b 50).toInt := jp1 h50 (by decide)
    refine zH_pre (zr_2_0 i327_378 (zr_0 i327_379 kc_1 (zr_1_4 i327_380 (zr_0 i327_381 kc_20 (zr_13_4 i327_382 nz_20 (zr_13_0 i327_383 (zr_0 i327_384 kc_1 (zr_1_5 i327_385 (zr_0 i327_386 kc_50 (zr_13_4 i327_387 nz_50 (zr_13_0 i327_388 (zt_rfl)))))))))))) ?_
    have hP : jP138 (1 + (zrem a 20)) (1 + (zrem b 50)) S := ⟨jI_n (by omega) w.1, (by simp only [zk_lt, zk_le, jk_65521b, jk_1000, zk_1, jk_0, jk_2, jk_3, jk_4, jk_5, jk_6, jk_7, jk_8, jk_10, jk_11, jk_13, jk_14, jk_15, jk_16, jk_18, jk_20, jk_24, jk_25, jk_36, jk_40, jk_50, jk_64, jk_72, jk_100, jk_120, jk_200, jk_201, jk_216, jk_255, jk_256, jk_257, jk_512, jk_1000, jk_2048, jk_9999, jk_10000, jk_65521, jk_65536, jk_104729, jk_2147483647, jk_m1, jk_m2, jk_m3, jk_m4, jk_m5, jk_m6, jk_m7, jk_m8, jk_m9, jk_m10, jk_m11, jk_m12, jk_m13, jk_m14]; omega)⟩
    refine zH_calln (zs_21_2 i327_389 na_138 ob_0 rfl) (y138 (1 + (zrem a 20)) (1 + (zrem b 50)) S hP) ?_
    have f := (show jLaw n (B138 (1 + (zrem a 20)) (1 + (zrem b 50)) S) ∧ (B138 (1 + (zrem a 20)) (1 + (zrem b 50)) S) 2 0 = S 2 0 ∧ (B138 (1 + (zrem a 20)) (1 + (zrem b 50)) S) 2 3 = S 2 3 from (fun hp => ⟨⟨jq138 w.1 _ _, jCx_k rfl hp w.2.1, jE_k rfl rfl hp w.2.2⟩, hp.2 2 0 rfl rfl, hp.2 2 3 rfl rfl⟩) (p_B138 (1 + (zrem a 20)) (1 + (zrem b 50)) S))
    generalize (B138 (1 + (zrem a 20)) (1 + (zrem b 50)) S) = S1 at f ⊢
    obtain ⟨w1, k0, k3⟩ := f
    refine zH_pre (zr_1_5 i327_390 (zr_0 i327_391 kc_8 (zr_13_4 i327_392 nz_8 (zr_0 i327_393 kc_1 (zt_rfl))))) ?_
    by_cases h8 : (1 < (zrem b 8))
    · refine zH_pre (zt_cast (zr_19_4 i327_394 (fun _ => zt_rfl) (fun _ => zt_rfl)) (if_pos h8)) ?_
      refine zH_pre (zr_0 i327_405 kc_1 (zr_17 i327_406 (zt_rfl))) ?_
      exact zH_ret (zr_26 i327_408 zo_1) ⟨rfl, jLaw_u (by omega) w1⟩
    · refine zH_pre (zt_cast (zr_19_4 i327_394 (fun _ => zt_rfl) (fun _ => zt_rfl)) (if_neg h8)) ?_
      have d1 : ¬ k < S1 2 3 := by rw [zk_lt, k3, hk]; omega
      have d2 : ¬ S1 2 0 < k := by rw [zk_lt, k0, hk]; omega
      refine zH_pre (zr_2_0 i327_395 (zr_1_13 i327_396 (zt_rfl))) ?_
      have hP : jP140 k S1 := ⟨jI_n (by omega) w1.1, ⟨d1, d2⟩⟩
      refine zH_call (zs_21_1 i327_397 na_140 ob_0 rfl) (y140 k S1 hP) ?_
      have f := (show (jLaw n (B140 k S1) ∧ (B140 k S1) 2 3 = k ∧ (B140 k S1) 2 0 = S1 2 0) ∧ (A140 k S1) = S1 2 3 from ⟨(fun z => ⟨⟨z.1, jCx_k rfl (p_B140 k S1) w1.2.1, jE_k rfl rfl (p_B140 k S1) w1.2.2⟩, z.2⟩) (jq140 w1.1 (by rw [k3, hk]; omega) (by rw [k0, hk]; omega)), rfl⟩)
      generalize (B140 k S1) = S2 at f ⊢
      generalize (A140 k S1) = r at f ⊢
      obtain ⟨⟨w2, l3, l0⟩, r1⟩ := f
      refine zH_pre (zr_1_13 i327_398 (zt_rfl)) ?_
      have hc : ¬ (k < r) := by rw [r1]; exact d1
      refine zH_pre (zt_cast (zr_19_4 i327_399 (fun _ => zt_rfl) (fun _ => zt_rfl)) (if_neg hc)) ?_
      clear hc
      refine zH_pre (zr_2_0 i327_400 (zr_1_13 i327_401 (zt_rfl))) ?_
      have hP : jP140 k S2 := ⟨jI_n (by omega) w2.1, ⟨by rw [l3, zk_lt]; omega, by rw [l0]; exact d2⟩⟩
      refine zH_call (zs_21_1 i327_402 na_140 ob_0 rfl) (y140 k S2 hP) ?_
      have f := (show jLaw n (B140 k S2) ∧ (A140 k S2) = k from ⟨(fun z => ⟨z.1, jCx_k rfl (p_B140 k S2) w2.2.1, jE_k rfl rfl (p_B140 k S2) w2.2.2⟩) (jq140 w2.1 (by rw [l3]; omega) (by rw [l0, k0, hk]; omega)), l3⟩)
      generalize (B140 k S2) = S3 at f ⊢
      generalize (A140 k S2) = r2 at f ⊢
      obtain ⟨w3, r4⟩ := f
      refine zH_pre (zr_1_13 i327_403 (zt_rfl)) ?_
      have hc : (r2 = k) := r4
      refine zH_pre (zt_cast (zr_19_1 i327_404 (fun _ => zt_rfl) (fun _ => zt_rfl)) (if_pos hc)) ?_
      clear hc
      refine zH_pre (zr_0 i327_405 kc_1 (zr_17 i327_406 (zt_rfl))) ?_
      exact zH_ret (zr_26 i327_408 zo_1) ⟨rfl, jLaw_u (by omega) w3⟩
set_option maxRecDepth 100000 in
theorem q327_409 {L : Nat} (x a b t p q : Int32) {S : zS} {n : Nat} (hn : n < 480) (w : jLaw n S) (ha : 0 ≤ a.toInt) (hb : 0 ≤ b.toInt) (ht : zn 39 t) (hT : ¬ S 5 0 = 0 → t.toInt < (S 5 0).toInt) (hp : zx 216 p) (hq : 0 ≤ q.toInt ∧ q.toInt < 4) : zH L 327 (409, [some (.inr (.inr 0)), some (.inr (.inr 13)), some (.inr (.inr 81)), some (.inl x), some (.inl a), some (.inl b), some (.inl t), some (.inl p), some (.inl q), none, none, none, none, none, none, none, none], [], S) (jQ (fun S' => jLaw (n + 6) S')) := by
  have k8 := jcx8 w.2.1
  have h50 := jrem (x := b) (y := 50) hb (by decide)
  rw [jk_50] at h50
  have g2 : (1 + (zrem b 50)).toInt = 1 + (zrem b 50).toInt := jp1 h50 (by decide)
  refine zH_pre (zr_2_1 i327_409 (zr_0 i327_410 kc_8 (zr_8 i327_411 ar_13 (zx_9_8) kt_8 rfl (zt_rfl)))) ?_
  by_cases c8 : ((S 13 8) = 0)
  · refine zH_pre (zt_cast (zr_18_0 i327_412 (fun _ => zt_rfl) (fun _ => zt_rfl)) (if_pos c8)) ?_
    refine zH_pre (zr_0 i327_426 kc_1 (zr_17 i327_427 (zt_rfl))) ?_
    exact zH_ret (zr_26 i327_429 zo_1) ⟨rfl, jLaw_u (by omega) w⟩
  · refine zH_pre (zt_cast (zr_18_0 i327_412 (fun _ => zt_rfl) (fun _ => zt_rfl)) (if_neg c8)) ?_
    refine zH_pre (zr_2_0 i327_413 (zr_0 i327_414 kc_1 (zr_1_5 i327_415 (zr_0 i327_416 kc_50 (zr_13_4 i327_417 nz_50 (zr_13_0 i327_418 (zt_rfl))))))) ?_
    have hP : jP141 (1 + (zrem b 50)) S := ⟨jI_n (by omega) w.1, (by simp only [zk_lt, zk_le, jk_65521b, jk_1000, zk_1, jk_0, jk_2, jk_3, jk_4, jk_5, jk_6, jk_7, jk_8, jk_10, jk_11, jk_13, jk_14, jk_15, jk_16, jk_18, jk_20, jk_24, jk_25, jk_36, jk_40, jk_50, jk_64, jk_72, jk_100, jk_120, jk_200, jk_201, jk_216, jk_255, jk_256, jk_257, jk_512, jk_1000, jk_2048, jk_9999, jk_10000, jk_65521, jk_65536, jk_104729, jk_2147483647, jk_m1, jk_m2, jk_m3, jk_m4, jk_m5, jk_m6, jk_m7, jk_m8, jk_m9, jk_m10, jk_m11, jk_m12, jk_m13, jk_m14]; omega), (fun e => c8 (k8.trans e))⟩
    refine zH_call (zs_21_1 i327_419 na_141 ob_0 rfl) (y141 (1 + (zrem b 50)) S hP) ?_
    have f := (show jLaw (n + 1) (B141 (1 + (zrem b 50)) S) ∧ ((A141 (1 + (zrem b 50)) S)).toInt ≤ (1 + (zrem b 50)).toInt from (fun z => ⟨⟨z.1, jCx_k rfl (p_B141 _ S) w.2.1, jE_k rfl rfl (p_B141 _ S) w.2.2⟩, z.2.2⟩) (jq141 (by omega) w.1 (a := 1 + (zrem b 50)) (by omega)))
    generalize (B141 (1 + (zrem b 50)) S) = S1 at f ⊢
    generalize (A141 (1 + (zrem b 50)) S) = r at f ⊢
    obtain ⟨w1, r1⟩ := f
    refine zH_pre (zr_0 i327_420 kc_1 (zr_1_5 i327_421 (zr_0 i327_422 kc_50 (zr_13_4 i327_423 nz_50 (zr_13_0 i327_424 (zt_rfl)))))) ?_
    have hc : ¬ ((1 + (zrem b 50)) < r) := by rw [zk_lt]; omega
    refine zH_pre (zt_cast (zr_19_4 i327_425 (fun _ => zt_rfl) (fun _ => zt_rfl)) (if_neg hc)) ?_
    clear hc
    refine zH_pre (zr_0 i327_426 kc_1 (zr_17 i327_427 (zt_rfl))) ?_
    exact zH_ret (zr_26 i327_429 zo_1) ⟨rfl, jLaw_u (by omega) w1⟩
set_option maxRecDepth 100000 in
theorem q327_430 {L : Nat} (x a b t p q : Int32) {S : zS} {n : Nat} (hn : n < 480) (w : jLaw n S) (ha : 0 ≤ a.toInt) (hb : 0 ≤ b.toInt) (ht : zn 39 t) (hT : ¬ S 5 0 = 0 → t.toInt < (S 5 0).toInt) (hp : zx 216 p) (hq : 0 ≤ q.toInt ∧ q.toInt < 4) : zH L 327 (430, [some (.inr (.inr 0)), some (.inr (.inr 13)), some (.inr (.inr 81)), some (.inl x), some (.inl a), some (.inl b), some (.inl t), some (.inl p), some (.inl q), none, none, none, none, none, none, none, none], [], S) (jQ (fun S' => jLaw (n + 6) S')) := by
  have h1 := jrem (x := b) (y := 100) hb (by decide)
  rw [jk_100] at h1
  have g2 : (1 + (zrem b 100)).toInt = 1 + (zrem b 100).toInt := jp1 h1 (by decide)
  refine zH_pre (zr_2_0 i327_430 (zr_0 i327_431 kc_1 (zr_1_5 i327_432 (zr_0 i327_433 kc_100 (zr_13_4 i327_434 nz_100 (zr_13_0 i327_435 (zt_rfl))))))) ?_
  have hP : jP182 (1 + (zrem b 100)) S := ⟨jI_n (by omega) w.1, (by simp only [zk_lt, zk_le, jk_65521b, jk_1000, zk_1, jk_0, jk_2, jk_3, jk_4, jk_5, jk_6, jk_7, jk_8, jk_10, jk_11, jk_13, jk_14, jk_15, jk_16, jk_18, jk_20, jk_24, jk_25, jk_36, jk_40, jk_50, jk_64, jk_72, jk_100, jk_120, jk_200, jk_201, jk_216, jk_255, jk_256, jk_257, jk_512, jk_1000, jk_2048, jk_9999, jk_10000, jk_65521, jk_65536, jk_104729, jk_2147483647, jk_m1, jk_m2, jk_m3, jk_m4, jk_m5, jk_m6, jk_m7, jk_m8, jk_m9, jk_m10, jk_m11, jk_m12, jk_m13, jk_m14]; omega)⟩
  refine zH_call (zs_21_1 i327_436 na_182 ob_0 rfl) (y182 (1 + (zrem b 100)) S hP) ?_
  have f := (show jLaw n (B182 (1 + (zrem b 100)) S) ∧ 0 ≤ ((A182 (1 + (zrem b 100)) S)).toInt ∧ ((B182 (1 + (zrem b 100)) S) 8 5).toInt - ((B182 (1 + (zrem b 100)) S) 8 6).toInt = ((A182 (1 + (zrem b 100)) S)).toInt from (fun z => ⟨⟨z.1, jCx_k rfl (p_B182 _ S) w.2.1, jE_k rfl rfl (p_B182 _ S) w.2.2⟩, z.2.1, z.2.2.2⟩) (jq182 (by omega) w.1 (a := 1 + (zrem b 100)) (by omega)))
  generalize (B182 (1 + (zrem b 100)) S) = S1 at f ⊢
  generalize (A182 (1 + (zrem b 100)) S) = r at f ⊢
  obtain ⟨w1, r1, r2⟩ := f
  refine zH_pre (zr_3_14 i327_437 (zr_1_14 i327_438 (zt_rfl))) ?_
  have hc : ¬ (r < 0) := by rw [zk_lt, jk_0]; omega
  refine zH_pre (zt_cast (zr_18_2 i327_439 (fun _ => zt_rfl) (fun _ => zt_rfl)) (if_neg hc)) ?_
  clear hc
  refine zH_pre (zr_1_14 i327_440 (zt_rfl)) ?_
  by_cases hr : (r = 0)
  · refine zH_pre (zt_cast (zr_18_0 i327_441 (fun _ => zt_rfl) (fun _ => zt_rfl)) (if_pos hr)) ?_
    refine zH_pre (zr_0 i327_449 kc_1 (zr_17 i327_450 (zt_rfl))) ?_
    exact zH_ret (zr_26 i327_452 zo_1) ⟨rfl, jLaw_u (by omega) w1⟩
  · refine zH_pre (zt_cast (zr_18_0 i327_441 (fun _ => zt_rfl) (fun _ => zt_rfl)) (if_neg hr)) ?_
    have hr0 : ¬ r.toInt = 0 := fun e => hr (zk_eq.mpr (by rw [e, jk_0]))
    have e1 : (r - 1).toInt = r.toInt - 1 := by rw [zk_tsub (by rw [zk_1]; omega) (by rw [zk_1]; have := Int32.toInt_lt r; omega), zk_1]
    refine zH_pre (zr_2_0 i327_442 (zr_0 i327_443 kc_1 (zt_rfl))) ?_
    have hP : jP182 1 S1 := ⟨jI_n (by omega) w1.1, (by simp only [zk_lt, zk_le, zk_1, jk_0, jk_2, jk_3, jk_4, jk_5, jk_6, jk_7, jk_8, jk_10, jk_11, jk_13, jk_14, jk_15, jk_16, jk_18, jk_20, jk_24, jk_25, jk_36, jk_40, jk_50, jk_64, jk_72, jk_100, jk_120, jk_200, jk_201, jk_216, jk_255, jk_256, jk_257, jk_512, jk_1000, jk_2048, jk_9999, jk_10000, jk_65521, jk_65536, jk_104729, jk_2147483647, jk_m1, jk_m2, jk_m3, jk_m4, jk_m5, jk_m6, jk_m7, jk_m8, jk_m9, jk_m10, jk_m11, jk_m12, jk_m13, jk_m14]; omega)⟩
    refine zH_call (zs_21_1 i327_444 na_182 ob_0 rfl) (y182 1 S1 hP) ?_
    have f := (show jLaw n (B182 1 S1) ∧ (A182 1 S1) = r - 1 from (fun z => ⟨⟨z.1, jCx_k rfl (p_B182 _ S1) w1.2.1, jE_k rfl rfl (p_B182 _ S1) w1.2.2⟩, zk_eq.mpr (by rw [e1, z.2.2.1, r2, if_pos (by rw [zk_1]; omega), zk_1])⟩) (jq182 (by omega) w1.1 (a := 1) (by decide)))
    generalize (B182 1 S1) = S2 at f ⊢
    generalize (A182 1 S1) = r3 at f ⊢
    obtain ⟨w2, r4⟩ := f
    refine zH_pre (zr_1_14 i327_445 (zr_0 i327_446 kc_1 (zr_13_1 i327_447 (zt_rfl)))) ?_
    have hc : (r3 = (r - 1)) := r4
    refine zH_pre (zt_cast (zr_19_1 i327_448 (fun _ => zt_rfl) (fun _ => zt_rfl)) (if_pos hc)) ?_
    clear hc
    refine zH_pre (zr_0 i327_449 kc_1 (zr_17 i327_450 (zt_rfl))) ?_
    exact zH_ret (zr_26 i327_452 zo_1) ⟨rfl, jLaw_u (by omega) w2⟩
set_option maxRecDepth 100000 in
theorem q327_453 {L : Nat} (x a b t p q : Int32) {S : zS} {n : Nat} (hn : n < 480) (w : jLaw n S) (ha : 0 ≤ a.toInt) (hb : 0 ≤ b.toInt) (ht : zn 39 t) (hT : ¬ S 5 0 = 0 → t.toInt < (S 5 0).toInt) (hp : zx 216 p) (hq : 0 ≤ q.toInt ∧ q.toInt < 4) : zH L 327 (453, [some (.inr (.inr 0)), some (.inr (.inr 13)), some (.inr (.inr 81)), some (.inl x), some (.inl a), some (.inl b), some (.inl t), some (.inl p), some (.inl q), none, none, none, none, none, none, none, none], [], S) (jQ (fun S' => jLaw (n + 6) S')) := by
  have h3 := jrem (x := a) (y := 3) ha (by decide)
  rw [jk_3] at h3
  have hnf := zk_nat h3.1
  have hb8 := jdv (x := b) (y := 8) hb (by decide)
  have h1k := jrem (x := b / 8) (y := 1000) hb8.1 (by decide)
  rw [jk_1000] at h1k
  have g1 : (1 + (zrem (b / 8) 1000)).toInt = 1 + (zrem (b / 8) 1000).toInt := jp1 h1k (by decide)
  have hz : zn 1000 (1 + (zrem (b / 8) 1000)) := by unfold zn; omega
  refine zH_pre (zr_1_4 i327_453 (zr_0 i327_454 kc_3 (zr_13_4 i327_455 nz_3 (zr_3_15 i327_456 (zr_2_0 i327_457 (zr_1_15 i327_458 (zr_1_5 i327_459 (zr_0 i327_460 kc_2 (zr_13_4 i327_461 nz_2 (zt_rfl)))))))))) ?_
  by_cases p1 : ((zrem b 2) = 0)
  · refine zH_pre (zt_cast (zr_18_1 i327_462 (fun _ => zt_rfl) (fun _ => zt_rfl)) (if_pos p1)) ?_
    refine zH_pre (zr_0 i327_463 kc_1 (zr_17 i327_464 (zr_1_5 i327_466 (zr_0 i327_467 kc_2 (zr_13_3 i327_468 nz_2 (zr_0 i327_469 kc_4 (zr_13_4 i327_470 nz_4 (zt_rfl)))))))) ?_
    by_cases p2 : ((zrem (b / 2) 4) = 0)
    · refine zH_pre (zt_cast (zr_18_1 i327_471 (fun _ => zt_rfl) (fun _ => zt_rfl)) (if_pos p2)) ?_
      refine zH_pre (zr_0 i327_472 kc_1 (zr_17 i327_473 (zr_0 i327_475 kc_1 (zr_1_5 i327_476 (zr_0 i327_477 kc_8 (zr_13_3 i327_478 nz_8 (zr_0 i327_479 kc_1000 (zr_13_4 i327_480 nz_1000 (zr_13_0 i327_481 (zt_rfl)))))))))) ?_
      have hP : jP180 (zrem a 3) 1 1 (1 + (zrem (b / 8) 1000)) S := ⟨jI_n (by omega) w.1, (Or.inr rfl), (Or.inr rfl), (by simp only [zk_lt, zk_le, jk_65521b, jk_1000, zk_1, jk_0, jk_2, jk_3, jk_4, jk_5, jk_6, jk_7, jk_8, jk_10, jk_11, jk_13, jk_14, jk_15, jk_16, jk_18, jk_20, jk_24, jk_25, jk_36, jk_40, jk_50, jk_64, jk_72, jk_100, jk_120, jk_200, jk_201, jk_216, jk_255, jk_256, jk_257, jk_512, jk_1000, jk_2048, jk_9999, jk_10000, jk_65521, jk_65536, jk_104729, jk_2147483647, jk_m1, jk_m2, jk_m3, jk_m4, jk_m5, jk_m6, jk_m7, jk_m8, jk_m9, jk_m10, jk_m11, jk_m12, jk_m13, jk_m14]; omega)⟩
      refine zH_call (zs_21_4 i327_482 na_180 ob_0 rfl) (y180 (zrem a 3) 1 1 (1 + (zrem (b / 8) 1000)) S hP) ?_
      have f := (show jLaw n (B180 (zrem a 3) 1 1 (1 + (zrem (b / 8) 1000)) S) from ⟨jq180 w.1 _ (Or.inr rfl) (Or.inr rfl) hz, jCx_k rfl (p_B180 _ _ _ _ S) w.2.1, jE_k rfl rfl (p_B180 _ _ _ _ S) w.2.2⟩)
      generalize (B180 (zrem a 3) 1 1 (1 + (zrem (b / 8) 1000)) S) = S1 at f ⊢
      generalize (A180 (zrem a 3) 1 1 (1 + (zrem (b / 8) 1000)) S) = r at f ⊢
      have w1 := f
      have h80 := zx_iff.mp ((jI_Sin w1.1).2.2.2 (zrem a 3).toNatClampNeg (by omega))
      by_cases hr : (r = 0)
      · refine zH_pre (zt_cast (zr_18_0 i327_483 (fun _ => zt_rfl) (fun _ => zt_rfl)) (if_pos hr)) ?_
        refine zH_pre (zr_0 i327_493 kc_1 (zr_17 i327_494 (zt_rfl))) ?_
        exact zH_ret (zr_26 i327_496 zo_1) ⟨rfl, jLaw_u (by omega) w1⟩
      · refine zH_pre (zt_cast (zr_18_0 i327_483 (fun _ => zt_rfl) (fun _ => zt_rfl)) (if_neg hr)) ?_
        refine zH_pre (zr_2_0 i327_484 (zr_1_15 i327_485 (zt_rfl))) ?_
        have hP : jP181 (zrem a 3) S1 := ⟨jI_n (by omega) w1.1, (by simp only [zk_lt, zk_le, zk_1, jk_0, jk_2, jk_3, jk_4, jk_5, jk_6, jk_7, jk_8, jk_10, jk_11, jk_13, jk_14, jk_15, jk_16, jk_18, jk_20, jk_24, jk_25, jk_36, jk_40, jk_50, jk_64, jk_72, jk_100, jk_120, jk_200, jk_201, jk_216, jk_255, jk_256, jk_257, jk_512, jk_1000, jk_2048, jk_9999, jk_10000, jk_65521, jk_65536, jk_104729, jk_2147483647, jk_m1, jk_m2, jk_m3, jk_m4, jk_m5, jk_m6, jk_m7, jk_m8, jk_m9, jk_m10, jk_m11, jk_m12, jk_m13, jk_m14]; omega)⟩
        refine zH_call (zs_21_1 i327_486 na_181 ob_0 rfl) (y181 (zrem a 3) S1 hP) ?_
        have f := (show (A181 (zrem a 3) S1) = S1 80 (zrem a 3).toNatClampNeg from rfl)
        generalize (A181 (zrem a 3) S1) = r2 at f ⊢
        have hc : ¬ (r2 < 0) := by rw [f, zk_lt, jk_0]; omega
        refine zH_pre (zt_cast (zr_18_2 i327_487 (fun _ => zt_rfl) (fun _ => zt_rfl)) (if_neg hc)) ?_
        clear hc
        refine zH_pre (zr_2_0 i327_488 (zr_1_15 i327_489 (zt_rfl))) ?_
        have hP : jP181 (zrem a 3) S1 := ⟨jI_n (by omega) w1.1, (by simp only [zk_lt, zk_le, zk_1, jk_0, jk_2, jk_3, jk_4, jk_5, jk_6, jk_7, jk_8, jk_10, jk_11, jk_13, jk_14, jk_15, jk_16, jk_18, jk_20, jk_24, jk_25, jk_36, jk_40, jk_50, jk_64, jk_72, jk_100, jk_120, jk_200, jk_201, jk_216, jk_255, jk_256, jk_257, jk_512, jk_1000, jk_2048, jk_9999, jk_10000, jk_65521, jk_65536, jk_104729, jk_2147483647, jk_m1, jk_m2, jk_m3, jk_m4, jk_m5, jk_m6, jk_m7, jk_m8, jk_m9, jk_m10, jk_m11, jk_m12, jk_m13, jk_m14]; omega)⟩
        refine zH_call (zs_21_1 i327_490 na_181 ob_0 rfl) (y181 (zrem a 3) S1 hP) ?_
        have f := (show (A181 (zrem a 3) S1) = S1 80 (zrem a 3).toNatClampNeg from rfl)
        generalize (A181 (zrem a 3) S1) = r3 at f ⊢
        refine zH_pre (zr_0 i327_491 kc_65521 (zt_rfl)) ?_
        have hc : ¬ (65521 ≤ r3) := by rw [f, zk_le, jk_65521b]; omega
        refine zH_pre (zt_cast (zr_19_3 i327_492 (fun _ => zt_rfl) (fun _ => zt_rfl)) (if_neg hc)) ?_
        clear hc
        refine zH_pre (zr_0 i327_493 kc_1 (zr_17 i327_494 (zt_rfl))) ?_
        exact zH_ret (zr_26 i327_496 zo_1) ⟨rfl, jLaw_u (by omega) w1⟩
    · refine zH_pre (zt_cast (zr_18_1 i327_471 (fun _ => zt_rfl) (fun _ => zt_rfl)) (if_neg p2)) ?_
      refine zH_pre (zr_0 i327_474 kc_0 (zr_0 i327_475 kc_1 (zr_1_5 i327_476 (zr_0 i327_477 kc_8 (zr_13_3 i327_478 nz_8 (zr_0 i327_479 kc_1000 (zr_13_4 i327_480 nz_1000 (zr_13_0 i327_481 (zt_rfl))))))))) ?_
      have hP : jP180 (zrem a 3) 1 0 (1 + (zrem (b / 8) 1000)) S := ⟨jI_n (by omega) w.1, (Or.inr rfl), (Or.inl rfl), (by simp only [zk_lt, zk_le, jk_65521b, jk_1000, zk_1, jk_0, jk_2, jk_3, jk_4, jk_5, jk_6, jk_7, jk_8, jk_10, jk_11, jk_13, jk_14, jk_15, jk_16, jk_18, jk_20, jk_24, jk_25, jk_36, jk_40, jk_50, jk_64, jk_72, jk_100, jk_120, jk_200, jk_201, jk_216, jk_255, jk_256, jk_257, jk_512, jk_1000, jk_2048, jk_9999, jk_10000, jk_65521, jk_65536, jk_104729, jk_2147483647, jk_m1, jk_m2, jk_m3, jk_m4, jk_m5, jk_m6, jk_m7, jk_m8, jk_m9, jk_m10, jk_m11, jk_m12, jk_m13, jk_m14]; omega)⟩
      refine zH_call (zs_21_4 i327_482 na_180 ob_0 rfl) (y180 (zrem a 3) 1 0 (1 + (zrem (b / 8) 1000)) S hP) ?_
      have f := (show jLaw n (B180 (zrem a 3) 1 0 (1 + (zrem (b / 8) 1000)) S) from ⟨jq180 w.1 _ (Or.inr rfl) (Or.inl rfl) hz, jCx_k rfl (p_B180 _ _ _ _ S) w.2.1, jE_k rfl rfl (p_B180 _ _ _ _ S) w.2.2⟩)
      generalize (B180 (zrem a 3) 1 0 (1 + (zrem (b / 8) 1000)) S) = S1 at f ⊢
      generalize (A180 (zrem a 3) 1 0 (1 + (zrem (b / 8) 1000)) S) = r at f ⊢
      have w1 := f
      have h80 := zx_iff.mp ((jI_Sin w1.1).2.2.2 (zrem a 3).toNatClampNeg (by omega))
      by_cases hr : (r = 0)
      · refine zH_pre (zt_cast (zr_18_0 i327_483 (fun _ => zt_rfl) (fun _ => zt_rfl)) (if_pos hr)) ?_
        refine zH_pre (zr_0 i327_493 kc_1 (zr_17 i327_494 (zt_rfl))) ?_
        exact zH_ret (zr_26 i327_496 zo_1) ⟨rfl, jLaw_u (by omega) w1⟩
      · refine zH_pre (zt_cast (zr_18_0 i327_483 (fun _ => zt_rfl) (fun _ => zt_rfl)) (if_neg hr)) ?_
        refine zH_pre (zr_2_0 i327_484 (zr_1_15 i327_485 (zt_rfl))) ?_
        have hP : jP181 (zrem a 3) S1 := ⟨jI_n (by omega) w1.1, (by simp only [zk_lt, zk_le, zk_1, jk_0, jk_2, jk_3, jk_4, jk_5, jk_6, jk_7, jk_8, jk_10, jk_11, jk_13, jk_14, jk_15, jk_16, jk_18, jk_20, jk_24, jk_25, jk_36, jk_40, jk_50, jk_64, jk_72, jk_100, jk_120, jk_200, jk_201, jk_216, jk_255, jk_256, jk_257, jk_512, jk_1000, jk_2048, jk_9999, jk_10000, jk_65521, jk_65536, jk_104729, jk_2147483647, jk_m1, jk_m2, jk_m3, jk_m4, jk_m5, jk_m6, jk_m7, jk_m8, jk_m9, jk_m10, jk_m11, jk_m12, jk_m13, jk_m14]; omega)⟩
        refine zH_call (zs_21_1 i327_486 na_181 ob_0 rfl) (y181 (zrem a 3) S1 hP) ?_
        have f := (show (A181 (zrem a 3) S1) = S1 80 (zrem a 3).toNatClampNeg from rfl)
        generalize (A181 (zrem a 3) S1) = r2 at f ⊢
        have hc : ¬ (r2 < 0) := by rw [f, zk_lt, jk_0]; omega
        refine zH_pre (zt_cast (zr_18_2 i327_487 (fun _ => zt_rfl) (fun _ => zt_rfl)) (if_neg hc)) ?_
        clear hc
        refine zH_pre (zr_2_0 i327_488 (zr_1_15 i327_489 (zt_rfl))) ?_
        have hP : jP181 (zrem a 3) S1 := ⟨jI_n (by omega) w1.1, (by simp only [zk_lt, zk_le, zk_1, jk_0, jk_2, jk_3, jk_4, jk_5, jk_6, jk_7, jk_8, jk_10, jk_11, jk_13, jk_14, jk_15, jk_16, jk_18, jk_20, jk_24, jk_25, jk_36, jk_40, jk_50, jk_64, jk_72, jk_100, jk_120, jk_200, jk_201, jk_216, jk_255, jk_256, jk_257, jk_512, jk_1000, jk_2048, jk_9999, jk_10000, jk_65521, jk_65536, jk_104729, jk_2147483647, jk_m1, jk_m2, jk_m3, jk_m4, jk_m5, jk_m6, jk_m7, jk_m8, jk_m9, jk_m10, jk_m11, jk_m12, jk_m13, jk_m14]; omega)⟩
        refine zH_call (zs_21_1 i327_490 na_181 ob_0 rfl) (y181 (zrem a 3) S1 hP) ?_
        have f := (show (A181 (zrem a 3) S1) = S1 80 (zrem a 3).toNatClampNeg from rfl)
        generalize (A181 (zrem a 3) S1) = r3 at f ⊢
        refine zH_pre (zr_0 i327_491 kc_65521 (zt_rfl)) ?_
        have hc : ¬ (65521 ≤ r3) := by rw [f, zk_le, jk_65521b]; omega
        refine zH_pre (zt_cast (zr_19_3 i327_492 (fun _ => zt_rfl) (fun _ => zt_rfl)) (if_neg hc)) ?_
        clear hc
        refine zH_pre (zr_0 i327_493 kc_1 (zr_17 i327_494 (zt_rfl))) ?_
        exact zH_ret (zr_26 i327_496 zo_1) ⟨rfl, jLaw_u (by omega) w1⟩
  · refine zH_pre (zt_cast (zr_18_1 i327_462 (fun _ => zt_rfl) (fun _ => zt_rfl)) (if_neg p1)) ?_
    refine zH_pre (zr_0 i327_465 kc_0 (zr_1_5 i327_466 (zr_0 i327_467 kc_2 (zr_13_3 i327_468 nz_2 (zr_0 i327_469 kc_4 (zr_13_4 i327_470 nz_4 (zt_rfl))))))) ?_
    by_cases p2 : ((zrem (b / 2) 4) = 0)
    · refine zH_pre (zt_cast (zr_18_1 i327_471 (fun _ => zt_rfl) (fun _ => zt_rfl)) (if_pos p2)) ?_
      refine zH_pre (zr_0 i327_472 kc_1 (zr_17 i327_473 (zr_0 i327_475 kc_1 (zr_1_5 i327_476 (zr_0 i327_477 kc_8 (zr_13_3 i327_478 nz_8 (zr_0 i327_479 kc_1000 (zr_13_4 i327_480 nz_1000 (zr_13_0 i327_481 (zt_rfl)))))))))) ?_
      have hP : jP180 (zrem a 3) 0 1 (1 + (zrem (b / 8) 1000)) S := ⟨jI_n (by omega) w.1, (Or.inl rfl), (Or.inr rfl), (by simp only [zk_lt, zk_le, jk_65521b, jk_1000, zk_1, jk_0, jk_2, jk_3, jk_4, jk_5, jk_6, jk_7, jk_8, jk_10, jk_11, jk_13, jk_14, jk_15, jk_16, jk_18, jk_20, jk_24, jk_25, jk_36, jk_40, jk_50, jk_64, jk_72, jk_100, jk_120, jk_200, jk_201, jk_216, jk_255, jk_256, jk_257, jk_512, jk_1000, jk_2048, jk_9999, jk_10000, jk_65521, jk_65536, jk_104729, jk_2147483647, jk_m1, jk_m2, jk_m3, jk_m4, jk_m5, jk_m6, jk_m7, jk_m8, jk_m9, jk_m10, jk_m11, jk_m12, jk_m13, jk_m14]; omega)⟩
      refine zH_call (zs_21_4 i327_482 na_180 ob_0 rfl) (y180 (zrem a 3) 0 1 (1 + (zrem (b / 8) 1000)) S hP) ?_
      have f := (show jLaw n (B180 (zrem a 3) 0 1 (1 + (zrem (b / 8) 1000)) S) from ⟨jq180 w.1 _ (Or.inl rfl) (Or.inr rfl) hz, jCx_k rfl (p_B180 _ _ _ _ S) w.2.1, jE_k rfl rfl (p_B180 _ _ _ _ S) w.2.2⟩)
      generalize (B180 (zrem a 3) 0 1 (1 + (zrem (b / 8) 1000)) S) = S1 at f ⊢
      generalize (A180 (zrem a 3) 0 1 (1 + (zrem (b / 8) 1000)) S) = r at f ⊢
      have w1 := f
      have h80 := zx_iff.mp ((jI_Sin w1.1).2.2.2 (zrem a 3).toNatClampNeg (by omega))
      by_cases hr : (r = 0)
      · refine zH_pre (zt_cast (zr_18_0 i327_483 (fun _ => zt_rfl) (fun _ => zt_rfl)) (if_pos hr)) ?_
        refine zH_pre (zr_0 i327_493 kc_1 (zr_17 i327_494 (zt_rfl))) ?_
        exact zH_ret (zr_26 i327_496 zo_1) ⟨rfl, jLaw_u (by omega) w1⟩
      · refine zH_pre (zt_cast (zr_18_0 i327_483 (fun _ => zt_rfl) (fun _ => zt_rfl)) (if_neg hr)) ?_
        refine zH_pre (zr_2_0 i327_484 (zr_1_15 i327_485 (zt_rfl))) ?_
        have hP : jP181 (zrem a 3) S1 := ⟨jI_n (by omega) w1.1, (by simp only [zk_lt, zk_le, zk_1, jk_0, jk_2, jk_3, jk_4, jk_5, jk_6, jk_7, jk_8, jk_10, jk_11, jk_13, jk_14, jk_15, jk_16, jk_18, jk_20, jk_24, jk_25, jk_36, jk_40, jk_50, jk_64, jk_72, jk_100, jk_120, jk_200, jk_201, jk_216, jk_255, jk_256, jk_257, jk_512, jk_1000, jk_2048, jk_9999, jk_10000, jk_65521, jk_65536, jk_104729, jk_2147483647, jk_m1, jk_m2, jk_m3, jk_m4, jk_m5, jk_m6, jk_m7, jk_m8, jk_m9, jk_m10, jk_m11, jk_m12, jk_m13, jk_m14]; omega)⟩
        refine zH_call (zs_21_1 i327_486 na_181 ob_0 rfl) (y181 (zrem a 3) S1 hP) ?_
        have f := (show (A181 (zrem a 3) S1) = S1 80 (zrem a 3).toNatClampNeg from rfl)
        generalize (A181 (zrem a 3) S1) = r2 at f ⊢
        have hc : ¬ (r2 < 0) := by rw [f, zk_lt, jk_0]; omega
        refine zH_pre (zt_cast (zr_18_2 i327_487 (fun _ => zt_rfl) (fun _ => zt_rfl)) (if_neg hc)) ?_
        clear hc
        refine zH_pre (zr_2_0 i327_488 (zr_1_15 i327_489 (zt_rfl))) ?_
        have hP : jP181 (zrem a 3) S1 := ⟨jI_n (by omega) w1.1, (by simp only [zk_lt, zk_le, zk_1, jk_0, jk_2, jk_3, jk_4, jk_5, jk_6, jk_7, jk_8, jk_10, jk_11, jk_13, jk_14, jk_15, jk_16, jk_18, jk_20, jk_24, jk_25, jk_36, jk_40, jk_50, jk_64, jk_72, jk_100, jk_120, jk_200, jk_201, jk_216, jk_255, jk_256, jk_257, jk_512, jk_1000, jk_2048, jk_9999, jk_10000, jk_65521, jk_65536, jk_104729, jk_2147483647, jk_m1, jk_m2, jk_m3, jk_m4, jk_m5, jk_m6, jk_m7, jk_m8, jk_m9, jk_m10, jk_m11, jk_m12, jk_m13, jk_m14]; omega)⟩
        refine zH_call (zs_21_1 i327_490 na_181 ob_0 rfl) (y181 (zrem a 3) S1 hP) ?_
        have f := (show (A181 (zrem a 3) S1) = S1 80 (zrem a 3).toNatClampNeg from rfl)
        generalize (A181 (zrem a 3) S1) = r3 at f ⊢
        refine zH_pre (zr_0 i327_491 kc_65521 (zt_rfl)) ?_
        have hc : ¬ (65521 ≤ r3) := by rw [f, zk_le, jk_65521b]; omega
        refine zH_pre (zt_cast (zr_19_3 i327_492 (fun _ => zt_rfl) (fun _ => zt_rfl)) (if_neg hc)) ?_
        clear hc
        refine zH_pre (zr_0 i327_493 kc_1 (zr_17 i327_494 (zt_rfl))) ?_
        exact zH_ret (zr_26 i327_496 zo_1) ⟨rfl, jLaw_u (by omega) w1⟩
    · refine zH_pre (zt_cast (zr_18_1 i327_471 (fun _ => zt_rfl) (fun _ => zt_rfl)) (if_neg p2)) ?_
      refine zH_pre (zr_0 i327_474 kc_0 (zr_0 i327_475 kc_1 (zr_1_5 i327_476 (zr_0 i327_477 kc_8 (zr_13_3 i327_478 nz_8 (zr_0 i327_479 kc_1000 (zr_13_4 i327_480 nz_1000 (zr_13_0 i327_481 (zt_rfl))))))))) ?_
      have hP : jP180 (zrem a 3) 0 0 (1 + (zrem (b / 8) 1000)) S := ⟨jI_n (by omega) w.1, (Or.inl rfl), (Or.inl rfl), (by simp only [zk_lt, zk_le, jk_65521b, jk_1000, zk_1, jk_0, jk_2, jk_3, jk_4, jk_5, jk_6, jk_7, jk_8, jk_10, jk_11, jk_13, jk_14, jk_15, jk_16, jk_18, jk_20, jk_24, jk_25, jk_36, jk_40, jk_50, jk_64, jk_72, jk_100, jk_120, jk_200, jk_201, jk_216, jk_255, jk_256, jk_257, jk_512, jk_1000, jk_2048, jk_9999, jk_10000, jk_65521, jk_65536, jk_104729, jk_2147483647, jk_m1, jk_m2, jk_m3, jk_m4, jk_m5, jk_m6, jk_m7, jk_m8, jk_m9, jk_m10, jk_m11, jk_m12, jk_m13, jk_m14]; omega)⟩
      refine zH_call (zs_21_4 i327_482 na_180 ob_0 rfl) (y180 (zrem a 3) 0 0 (1 + (zrem (b / 8) 1000)) S hP) ?_
      have f := (show jLaw n (B180 (zrem a 3) 0 0 (1 + (zrem (b / 8) 1000)) S) from ⟨jq180 w.1 _ (Or.inl rfl) (Or.inl rfl) hz, jCx_k rfl (p_B180 _ _ _ _ S) w.2.1, jE_k rfl rfl (p_B180 _ _ _ _ S) w.2.2⟩)
      generalize (B180 (zrem a 3) 0 0 (1 + (zrem (b / 8) 1000)) S) = S1 at f ⊢
      generalize (A180 (zrem a 3) 0 0 (1 + (zrem (b / 8) 1000)) S) = r at f ⊢
      have w1 := f
      have h80 := zx_iff.mp ((jI_Sin w1.1).2.2.2 (zrem a 3).toNatClampNeg (by omega))
      by_cases hr : (r = 0)
      · refine zH_pre (zt_cast (zr_18_0 i327_483 (fun _ => zt_rfl) (fun _ => zt_rfl)) (if_pos hr)) ?_
        refine zH_pre (zr_0 i327_493 kc_1 (zr_17 i327_494 (zt_rfl))) ?_
        exact zH_ret (zr_26 i327_496 zo_1) ⟨rfl, jLaw_u (by omega) w1⟩
      · refine zH_pre (zt_cast (zr_18_0 i327_483 (fun _ => zt_rfl) (fun _ => zt_rfl)) (if_neg hr)) ?_
        refine zH_pre (zr_2_0 i327_484 (zr_1_15 i327_485 (zt_rfl))) ?_
        have hP : jP181 (zrem a 3) S1 := ⟨jI_n (by omega) w1.1, (by simp only [zk_lt, zk_le, zk_1, jk_0, jk_2, jk_3, jk_4, jk_5, jk_6, jk_7, jk_8, jk_10, jk_11, jk_13, jk_14, jk_15, jk_16, jk_18, jk_20, jk_24, jk_25, jk_36, jk_40, jk_50, jk_64, jk_72, jk_100, jk_120, jk_200, jk_201, jk_216, jk_255, jk_256, jk_257, jk_512, jk_1000, jk_2048, jk_9999, jk_10000, jk_65521, jk_65536, jk_104729, jk_2147483647, jk_m1, jk_m2, jk_m3, jk_m4, jk_m5, jk_m6, jk_m7, jk_m8, jk_m9, jk_m10, jk_m11, jk_m12, jk_m13, jk_m14]; omega)⟩
        refine zH_call (zs_21_1 i327_486 na_181 ob_0 rfl) (y181 (zrem a 3) S1 hP) ?_
        have f := (show (A181 (zrem a 3) S1) = S1 80 (zrem a 3).toNatClampNeg from rfl)
        generalize (A181 (zrem a 3) S1) = r2 at f ⊢
        have hc : ¬ (r2 < 0) := by rw [f, zk_lt, jk_0]; omega
        refine zH_pre (zt_cast (zr_18_2 i327_487 (fun _ => zt_rfl) (fun _ => zt_rfl)) (if_neg hc)) ?_
        clear hc
        refine zH_pre (zr_2_0 i327_488 (zr_1_15 i327_489 (zt_rfl))) ?_
        have hP : jP181 (zrem a 3) S1 := ⟨jI_n (by omega) w1.1, (by simp only [zk_lt, zk_le, zk_1, jk_0, jk_2, jk_3, jk_4, jk_5, jk_6, jk_7, jk_8, jk_10, jk_11, jk_13, jk_14, jk_15, jk_16, jk_18, jk_20, jk_24, jk_25, jk_36, jk_40, jk_50, jk_64, jk_72, jk_100, jk_120, jk_200, jk_201, jk_216, jk_255, jk_256, jk_257, jk_512, jk_1000, jk_2048, jk_9999, jk_10000, jk_65521, jk_65536, jk_104729, jk_2147483647, jk_m1, jk_m2, jk_m3, jk_m4, jk_m5, jk_m6, jk_m7, jk_m8, jk_m9, jk_m10, jk_m11, jk_m12, jk_m13, jk_m14]; omega)⟩
        refine zH_call (zs_21_1 i327_490 na_181 ob_0 rfl) (y181 (zrem a 3) S1 hP) ?_
        have f := (show (A181 (zrem a 3) S1) = S1 80 (zrem a 3).toNatClampNeg from rfl)
        generalize (A181 (zrem a 3) S1) = r3 at f ⊢
        refine zH_pre (zr_0 i327_491 kc_65521 (zt_rfl)) ?_
        have hc : ¬ (65521 ≤ r3) := by rw [f, zk_le, jk_65521b]; omega
        refine zH_pre (zt_cast (zr_19_3 i327_492 (fun _ => zt_rfl) (fun _ => zt_rfl)) (if_neg hc)) ?_
        clear hc
        refine zH_pre (zr_0 i327_493 kc_1 (zr_17 i327_494 (zt_rfl))) ?_
        exact zH_ret (zr_26 i327_496 zo_1) ⟨rfl, jLaw_u (by omega) w1⟩
