/-! the law's loop -/
theorem gq_o1 : gq0 (2, 1, 0) (2, 1) := (gq_2 rfl).mpr ⟨rfl, by decide, by decide, by decide⟩
theorem gx_xl {T : List Kd} {k dep : Nat} {Qs : List Q} {lo hi : Int} {W : List Nat} {n g : Bool} {args L0 : List AV} {m : Mm} (h : ConX T (k, Qs, (1, lo, hi), W, dep) n g) (ha : F2 gq0 Qs args) (hm : Gam m) (he : Ext m) (hf : n = true → FS m) (hL : layp args (mL k) = L0) : GX T dep k 0 L0 [] m (RL (fun x m' => lo ≤ x ∧ x ≤ hi ∧ Gam m' ∧ Ext m' ∧ Fr W m m' ∧ (g = true → FS m'))) := by
  subst hL
  refine gx_imp (gx_x h ha hm he hf) (fun v m' ⟨h1, h2, h3⟩ => ?_)
  obtain ⟨x, e, p1, p2⟩ := gR_l0 h1
  exact ⟨x, e, p1, p2, h2, h3⟩
theorem gx_td {T : List Kd} {d j pc nx b c w : Nat} {L S : List AV} {m : Mm} {Q : AV → Mm → Prop} {df lo hi a x : Int} {offs : Array Int} (hx : row j pc = some (.tableswitch df lo hi offs, nx, a, b, c, w)) (hd : x < lo ∨ hi < x) (h0 : 0 ≤ (pc : Int) + df) (h : GX T d j ((pc : Int) + df).toNat L S m Q) : GX T d j pc L ((0, x) :: S) m Q := by
  refine gx_st hx rfl rfl ?_ h
  show (if x < lo ∨ hi < x then (if 0 ≤ (pc : Int) + df then some (((pc : Int) + df).toNat, L, S, T, m) else none) else _) = _
  rw [if_pos hd, if_pos h0]
theorem r_316_328 : row 316 328 = some (.aload_n 1, 329, 0, 0, 0, 0) := rfl
theorem r_316_329 : row 316 329 = some (.aload_n 0, 330, 0, 0, 0, 0) := rfl
theorem r_316_330 : row 316 330 = some (.iload_n 3, 331, 0, 0, 0, 0) := rfl
theorem r_316_331 : row 316 331 = some (.iconst 1, 332, 1, 0, 0, 0) := rfl
theorem r_316_332 : row 316 332 = some (.iadd, 333, 0, 0, 0, 0) := rfl
theorem r_316_333 : row 316 333 = some (.iaload, 334, 0, 0, 0, 0) := rfl
theorem r_316_334 : row 316 334 = some (.aload_n 0, 335, 0, 0, 0, 0) := rfl
theorem r_316_335 : row 316 335 = some (.iload_n 3, 336, 0, 0, 0, 0) := rfl
theorem r_316_336 : row 316 336 = some (.iconst 2, 337, 2, 0, 0, 0) := rfl
theorem r_316_337 : row 316 337 = some (.iadd, 338, 0, 0, 0, 0) := rfl
theorem r_316_338 : row 316 338 = some (.iaload, 339, 0, 0, 0, 0) := rfl
theorem r_316_339 : row 316 339 = some (.aload_n 0, 340, 0, 0, 0, 0) := rfl
theorem r_316_340 : row 316 340 = some (.iload_n 3, 341, 0, 0, 0, 0) := rfl
theorem r_316_341 : row 316 341 = some (.iconst 3, 342, 3, 0, 0, 0) := rfl
theorem r_316_342 : row 316 342 = some (.iadd, 343, 0, 0, 0, 0) := rfl
theorem r_316_343 : row 316 343 = some (.iaload, 344, 0, 0, 0, 0) := rfl
theorem r_316_344 : row 316 344 = some (.aload_n 0, 345, 0, 0, 0, 0) := rfl
theorem r_316_345 : row 316 345 = some (.iload_n 3, 346, 0, 0, 0, 0) := rfl
theorem r_316_346 : row 316 346 = some (.iconst 4, 347, 4, 0, 0, 0) := rfl
theorem r_316_347 : row 316 347 = some (.iadd, 348, 0, 0, 0, 0) := rfl
theorem r_316_348 : row 316 348 = some (.iaload, 349, 0, 0, 0, 0) := rfl
theorem r_316_349 : row 316 349 = some (.aload_n 0, 350, 0, 0, 0, 0) := rfl
theorem r_316_350 : row 316 350 = some (.iload_n 3, 351, 0, 0, 0, 0) := rfl
theorem r_316_351 : row 316 351 = some (.iconst 5, 352, 5, 0, 0, 0) := rfl
theorem r_316_352 : row 316 352 = some (.iadd, 353, 0, 0, 0, 0) := rfl
theorem r_316_353 : row 316 353 = some (.iaload, 354, 0, 0, 0, 0) := rfl
theorem r_316_354 : row 316 354 = some (.invokevirtual 13, 357, 1, 5, 0, 2207) := rfl
theorem r_316_357 : row 316 357 = some (.pop, 358, 0, 0, 0, 0) := rfl
theorem r_316_358 : row 316 358 = some (.aload_n 2, 359, 0, 0, 0, 0) := rfl
theorem r_316_359 : row 316 359 = some (.aload_n 0, 360, 0, 0, 0, 0) := rfl
theorem r_316_360 : row 316 360 = some (.iload_n 3, 361, 0, 0, 0, 0) := rfl
theorem r_316_361 : row 316 361 = some (.iconst 1, 362, 1, 0, 0, 0) := rfl
theorem r_316_362 : row 316 362 = some (.iadd, 363, 0, 0, 0, 0) := rfl
theorem r_316_363 : row 316 363 = some (.iaload, 364, 0, 0, 0, 0) := rfl
theorem r_316_364 : row 316 364 = some (.aload_n 0, 365, 0, 0, 0, 0) := rfl
theorem r_316_365 : row 316 365 = some (.iload_n 3, 366, 0, 0, 0, 0) := rfl
theorem r_316_366 : row 316 366 = some (.iconst 2, 367, 2, 0, 0, 0) := rfl
theorem r_316_367 : row 316 367 = some (.iadd, 368, 0, 0, 0, 0) := rfl
theorem r_316_368 : row 316 368 = some (.iaload, 369, 0, 0, 0, 0) := rfl
theorem r_316_369 : row 316 369 = some (.aload_n 0, 370, 0, 0, 0, 0) := rfl
theorem r_316_370 : row 316 370 = some (.iload_n 3, 371, 0, 0, 0, 0) := rfl
theorem r_316_371 : row 316 371 = some (.iconst 3, 372, 3, 0, 0, 0) := rfl
theorem r_316_372 : row 316 372 = some (.iadd, 373, 0, 0, 0, 0) := rfl
theorem r_316_373 : row 316 373 = some (.iaload, 374, 0, 0, 0, 0) := rfl
theorem r_316_374 : row 316 374 = some (.aload_n 0, 375, 0, 0, 0, 0) := rfl
theorem r_316_375 : row 316 375 = some (.iload_n 3, 376, 0, 0, 0, 0) := rfl
theorem r_316_376 : row 316 376 = some (.iconst 4, 377, 4, 0, 0, 0) := rfl
theorem r_316_377 : row 316 377 = some (.iadd, 378, 0, 0, 0, 0) := rfl
theorem r_316_378 : row 316 378 = some (.iaload, 379, 0, 0, 0, 0) := rfl
theorem r_316_379 : row 316 379 = some (.aload_n 0, 380, 0, 0, 0, 0) := rfl
theorem r_316_380 : row 316 380 = some (.iload_n 3, 381, 0, 0, 0, 0) := rfl
theorem r_316_381 : row 316 381 = some (.iconst 5, 382, 5, 0, 0, 0) := rfl
theorem r_316_382 : row 316 382 = some (.iadd, 383, 0, 0, 0, 0) := rfl
theorem r_316_383 : row 316 383 = some (.iaload, 384, 0, 0, 0, 0) := rfl
theorem r_316_384 : row 316 384 = some (.invokevirtual 17, 387, 100, 5, 0, 6138) := rfl
theorem r_316_387 : row 316 387 = some (.pop, 388, 0, 0, 0, 0) := rfl
theorem r_316_388 : row 316 388 = some (.goto 1710, 391, 2098, 0, 0, 0) := rfl
theorem r_316_391 : row 316 391 = some (.aload_n 1, 392, 0, 0, 0, 0) := rfl
theorem r_316_392 : row 316 392 = some (.aload_n 0, 393, 0, 0, 0, 0) := rfl
theorem r_316_393 : row 316 393 = some (.iload_n 3, 394, 0, 0, 0, 0) := rfl
theorem r_316_394 : row 316 394 = some (.iconst 1, 395, 1, 0, 0, 0) := rfl
theorem r_316_395 : row 316 395 = some (.iadd, 396, 0, 0, 0, 0) := rfl
theorem r_316_396 : row 316 396 = some (.iaload, 397, 0, 0, 0, 0) := rfl
theorem r_316_397 : row 316 397 = some (.invokevirtual 18, 400, 2, 1, 0, 2218) := rfl
theorem r_316_400 : row 316 400 = some (.pop, 401, 0, 0, 0, 0) := rfl
theorem r_316_401 : row 316 401 = some (.aload_n 2, 402, 0, 0, 0, 0) := rfl
theorem r_316_402 : row 316 402 = some (.aload_n 0, 403, 0, 0, 0, 0) := rfl
theorem r_316_403 : row 316 403 = some (.iload_n 3, 404, 0, 0, 0, 0) := rfl
theorem r_316_404 : row 316 404 = some (.iconst 1, 405, 1, 0, 0, 0) := rfl
theorem r_316_405 : row 316 405 = some (.iadd, 406, 0, 0, 0, 0) := rfl
theorem r_316_406 : row 316 406 = some (.iaload, 407, 0, 0, 0, 0) := rfl
theorem r_316_407 : row 316 407 = some (.invokevirtual 22, 410, 101, 1, 0, 6142) := rfl
theorem r_316_410 : row 316 410 = some (.pop, 411, 0, 0, 0, 0) := rfl
theorem r_316_411 : row 316 411 = some (.goto 1687, 414, 2098, 0, 0, 0) := rfl
theorem r_316_414 : row 316 414 = some (.aload_n 1, 415, 0, 0, 0, 0) := rfl
theorem r_316_415 : row 316 415 = some (.invokevirtual 23, 418, 3, 0, 0, 2222) := rfl
theorem r_316_418 : row 316 418 = some (.pop, 419, 0, 0, 0, 0) := rfl
theorem r_316_419 : row 316 419 = some (.aload_n 2, 420, 0, 0, 0, 0) := rfl
theorem r_316_420 : row 316 420 = some (.invokevirtual 27, 423, 118, 0, 0, 6150) := rfl
theorem r_316_423 : row 316 423 = some (.pop, 424, 0, 0, 0, 0) := rfl
theorem r_316_424 : row 316 424 = some (.goto 1674, 427, 2098, 0, 0, 0) := rfl
theorem r_316_427 : row 316 427 = some (.aload_n 1, 428, 0, 0, 0, 0) := rfl
theorem r_316_428 : row 316 428 = some (.aload_n 0, 429, 0, 0, 0, 0) := rfl
theorem r_316_429 : row 316 429 = some (.iload_n 3, 430, 0, 0, 0, 0) := rfl
theorem r_316_430 : row 316 430 = some (.iconst 1, 431, 1, 0, 0, 0) := rfl
theorem r_316_431 : row 316 431 = some (.iadd, 432, 0, 0, 0, 0) := rfl
theorem r_316_432 : row 316 432 = some (.iaload, 433, 0, 0, 0, 0) := rfl
theorem r_316_433 : row 316 433 = some (.invokevirtual 28, 436, 4, 1, 0, 4012) := rfl
theorem r_316_436 : row 316 436 = some (.pop, 437, 0, 0, 0, 0) := rfl
theorem r_316_437 : row 316 437 = some (.aload_n 2, 438, 0, 0, 0, 0) := rfl
theorem r_316_438 : row 316 438 = some (.aload_n 0, 439, 0, 0, 0, 0) := rfl
theorem r_316_439 : row 316 439 = some (.iload_n 3, 440, 0, 0, 0, 0) := rfl
theorem r_316_440 : row 316 440 = some (.iconst 1, 441, 1, 0, 0, 0) := rfl
theorem r_316_441 : row 316 441 = some (.iadd, 442, 0, 0, 0, 0) := rfl
theorem r_316_442 : row 316 442 = some (.iaload, 443, 0, 0, 0, 0) := rfl
theorem r_316_443 : row 316 443 = some (.invokevirtual 31, 446, 111, 1, 0, 6146) := rfl
theorem r_316_446 : row 316 446 = some (.pop, 447, 0, 0, 0, 0) := rfl
theorem r_316_447 : row 316 447 = some (.goto 1651, 450, 2098, 0, 0, 0) := rfl
theorem r_316_450 : row 316 450 = some (.aload_n 1, 451, 0, 0, 0, 0) := rfl
theorem r_316_451 : row 316 451 = some (.aload_n 0, 452, 0, 0, 0, 0) := rfl
theorem r_316_452 : row 316 452 = some (.iload_n 3, 453, 0, 0, 0, 0) := rfl
theorem r_316_453 : row 316 453 = some (.iconst 1, 454, 1, 0, 0, 0) := rfl
theorem r_316_454 : row 316 454 = some (.iadd, 455, 0, 0, 0, 0) := rfl
theorem r_316_455 : row 316 455 = some (.iaload, 456, 0, 0, 0, 0) := rfl
theorem r_316_456 : row 316 456 = some (.aload_n 0, 457, 0, 0, 0, 0) := rfl
theorem r_316_457 : row 316 457 = some (.iload_n 3, 458, 0, 0, 0, 0) := rfl
theorem r_316_458 : row 316 458 = some (.iconst 2, 459, 2, 0, 0, 0) := rfl
theorem r_316_459 : row 316 459 = some (.iadd, 460, 0, 0, 0, 0) := rfl
theorem r_316_460 : row 316 460 = some (.iaload, 461, 0, 0, 0, 0) := rfl
theorem r_316_461 : row 316 461 = some (.invokevirtual 32, 464, 5, 2, 0, 4016) := rfl
theorem r_316_464 : row 316 464 = some (.pop, 465, 0, 0, 0, 0) := rfl
theorem r_316_465 : row 316 465 = some (.aload_n 2, 466, 0, 0, 0, 0) := rfl
theorem r_316_466 : row 316 466 = some (.aload_n 0, 467, 0, 0, 0, 0) := rfl
theorem r_316_467 : row 316 467 = some (.iload_n 3, 468, 0, 0, 0, 0) := rfl
theorem r_316_468 : row 316 468 = some (.iconst 1, 469, 1, 0, 0, 0) := rfl
theorem r_316_469 : row 316 469 = some (.iadd, 470, 0, 0, 0, 0) := rfl
theorem r_316_470 : row 316 470 = some (.iaload, 471, 0, 0, 0, 0) := rfl
theorem r_316_471 : row 316 471 = some (.aload_n 0, 472, 0, 0, 0, 0) := rfl
theorem r_316_472 : row 316 472 = some (.iload_n 3, 473, 0, 0, 0, 0) := rfl
theorem r_316_473 : row 316 473 = some (.iconst 2, 474, 2, 0, 0, 0) := rfl
theorem r_316_474 : row 316 474 = some (.iadd, 475, 0, 0, 0, 0) := rfl
theorem r_316_475 : row 316 475 = some (.iaload, 476, 0, 0, 0, 0) := rfl
theorem r_316_476 : row 316 476 = some (.invokevirtual 36, 479, 119, 2, 0, 6237) := rfl
theorem r_316_479 : row 316 479 = some (.pop, 480, 0, 0, 0, 0) := rfl
theorem r_316_480 : row 316 480 = some (.goto 1618, 483, 2098, 0, 0, 0) := rfl
theorem r_316_483 : row 316 483 = some (.aload_n 1, 484, 0, 0, 0, 0) := rfl
theorem r_316_484 : row 316 484 = some (.aload_n 0, 485, 0, 0, 0, 0) := rfl
theorem r_316_485 : row 316 485 = some (.iload_n 3, 486, 0, 0, 0, 0) := rfl
theorem r_316_486 : row 316 486 = some (.iconst 1, 487, 1, 0, 0, 0) := rfl
theorem r_316_487 : row 316 487 = some (.iadd, 488, 0, 0, 0, 0) := rfl
theorem r_316_488 : row 316 488 = some (.iaload, 489, 0, 0, 0, 0) := rfl
theorem r_316_489 : row 316 489 = some (.aload_n 0, 490, 0, 0, 0, 0) := rfl
theorem r_316_490 : row 316 490 = some (.iload_n 3, 491, 0, 0, 0, 0) := rfl
theorem r_316_491 : row 316 491 = some (.iconst 2, 492, 2, 0, 0, 0) := rfl
theorem r_316_492 : row 316 492 = some (.iadd, 493, 0, 0, 0, 0) := rfl
theorem r_316_493 : row 316 493 = some (.iaload, 494, 0, 0, 0, 0) := rfl
theorem r_316_494 : row 316 494 = some (.invokevirtual 37, 497, 6, 2, 0, 4024) := rfl
theorem r_316_497 : row 316 497 = some (.pop, 498, 0, 0, 0, 0) := rfl
theorem r_316_498 : row 316 498 = some (.aload_n 2, 499, 0, 0, 0, 0) := rfl
theorem r_316_499 : row 316 499 = some (.aload_n 0, 500, 0, 0, 0, 0) := rfl
theorem r_316_500 : row 316 500 = some (.iload_n 3, 501, 0, 0, 0, 0) := rfl
theorem r_316_501 : row 316 501 = some (.iconst 1, 502, 1, 0, 0, 0) := rfl
theorem r_316_502 : row 316 502 = some (.iadd, 503, 0, 0, 0, 0) := rfl
theorem r_316_503 : row 316 503 = some (.iaload, 504, 0, 0, 0, 0) := rfl
theorem r_316_504 : row 316 504 = some (.aload_n 0, 505, 0, 0, 0, 0) := rfl
theorem r_316_505 : row 316 505 = some (.iload_n 3, 506, 0, 0, 0, 0) := rfl
theorem r_316_506 : row 316 506 = some (.iconst 2, 507, 2, 0, 0, 0) := rfl
theorem r_316_507 : row 316 507 = some (.iadd, 508, 0, 0, 0, 0) := rfl
theorem r_316_508 : row 316 508 = some (.iaload, 509, 0, 0, 0, 0) := rfl
theorem r_316_509 : row 316 509 = some (.invokevirtual 40, 512, 120, 2, 0, 7005) := rfl
theorem r_316_512 : row 316 512 = some (.pop, 513, 0, 0, 0, 0) := rfl
theorem r_316_513 : row 316 513 = some (.goto 1585, 516, 2098, 0, 0, 0) := rfl
theorem r_316_516 : row 316 516 = some (.aload_n 1, 517, 0, 0, 0, 0) := rfl
theorem r_316_517 : row 316 517 = some (.aload_n 0, 518, 0, 0, 0, 0) := rfl
theorem r_316_518 : row 316 518 = some (.iload_n 3, 519, 0, 0, 0, 0) := rfl
theorem r_316_519 : row 316 519 = some (.iconst 1, 520, 1, 0, 0, 0) := rfl
theorem r_316_520 : row 316 520 = some (.iadd, 521, 0, 0, 0, 0) := rfl
theorem r_316_521 : row 316 521 = some (.iaload, 522, 0, 0, 0, 0) := rfl
theorem r_316_522 : row 316 522 = some (.aload_n 0, 523, 0, 0, 0, 0) := rfl
theorem r_316_523 : row 316 523 = some (.iload_n 3, 524, 0, 0, 0, 0) := rfl
theorem r_316_524 : row 316 524 = some (.iconst 2, 525, 2, 0, 0, 0) := rfl
theorem r_316_525 : row 316 525 = some (.iadd, 526, 0, 0, 0, 0) := rfl
theorem r_316_526 : row 316 526 = some (.iaload, 527, 0, 0, 0, 0) := rfl
theorem r_316_527 : row 316 527 = some (.invokevirtual 41, 530, 7, 2, 0, 4028) := rfl
theorem r_316_530 : row 316 530 = some (.pop, 531, 0, 0, 0, 0) := rfl
theorem r_316_531 : row 316 531 = some (.aload_n 2, 532, 0, 0, 0, 0) := rfl
theorem r_316_532 : row 316 532 = some (.aload_n 0, 533, 0, 0, 0, 0) := rfl
theorem r_316_533 : row 316 533 = some (.iload_n 3, 534, 0, 0, 0, 0) := rfl
theorem r_316_534 : row 316 534 = some (.iconst 1, 535, 1, 0, 0, 0) := rfl
theorem r_316_535 : row 316 535 = some (.iadd, 536, 0, 0, 0, 0) := rfl
theorem r_316_536 : row 316 536 = some (.iaload, 537, 0, 0, 0, 0) := rfl
theorem r_316_537 : row 316 537 = some (.aload_n 0, 538, 0, 0, 0, 0) := rfl
theorem r_316_538 : row 316 538 = some (.iload_n 3, 539, 0, 0, 0, 0) := rfl
theorem r_316_539 : row 316 539 = some (.iconst 2, 540, 2, 0, 0, 0) := rfl
theorem r_316_540 : row 316 540 = some (.iadd, 541, 0, 0, 0, 0) := rfl
theorem r_316_541 : row 316 541 = some (.iaload, 542, 0, 0, 0, 0) := rfl
theorem r_316_542 : row 316 542 = some (.invokevirtual 44, 545, 121, 2, 0, 7013) := rfl
theorem r_316_545 : row 316 545 = some (.pop, 546, 0, 0, 0, 0) := rfl
theorem r_316_546 : row 316 546 = some (.goto 1552, 549, 2098, 0, 0, 0) := rfl
theorem r_316_549 : row 316 549 = some (.aload_n 1, 550, 0, 0, 0, 0) := rfl
theorem r_316_550 : row 316 550 = some (.invokevirtual 45, 553, 8, 0, 0, 4032) := rfl
theorem r_316_553 : row 316 553 = some (.pop, 554, 0, 0, 0, 0) := rfl
theorem r_316_554 : row 316 554 = some (.aload_n 2, 555, 0, 0, 0, 0) := rfl
theorem r_316_555 : row 316 555 = some (.invokevirtual 48, 558, 122, 0, 0, 7021) := rfl
theorem r_316_558 : row 316 558 = some (.pop, 559, 0, 0, 0, 0) := rfl
theorem r_316_559 : row 316 559 = some (.goto 1539, 562, 2098, 0, 0, 0) := rfl
theorem r_316_562 : row 316 562 = some (.aload_n 1, 563, 0, 0, 0, 0) := rfl
theorem r_316_563 : row 316 563 = some (.aload_n 0, 564, 0, 0, 0, 0) := rfl
theorem r_316_564 : row 316 564 = some (.iload_n 3, 565, 0, 0, 0, 0) := rfl
theorem r_316_565 : row 316 565 = some (.iconst 1, 566, 1, 0, 0, 0) := rfl
theorem r_316_566 : row 316 566 = some (.iadd, 567, 0, 0, 0, 0) := rfl
theorem r_316_567 : row 316 567 = some (.iaload, 568, 0, 0, 0, 0) := rfl
theorem r_316_568 : row 316 568 = some (.aload_n 0, 569, 0, 0, 0, 0) := rfl
theorem r_316_569 : row 316 569 = some (.iload_n 3, 570, 0, 0, 0, 0) := rfl
theorem r_316_570 : row 316 570 = some (.iconst 2, 571, 2, 0, 0, 0) := rfl
theorem r_316_571 : row 316 571 = some (.iadd, 572, 0, 0, 0, 0) := rfl
theorem r_316_572 : row 316 572 = some (.iaload, 573, 0, 0, 0, 0) := rfl
theorem r_316_573 : row 316 573 = some (.invokevirtual 49, 576, 9, 2, 0, 4040) := rfl
theorem r_316_576 : row 316 576 = some (.pop, 577, 0, 0, 0, 0) := rfl
theorem r_316_577 : row 316 577 = some (.aload_n 2, 578, 0, 0, 0, 0) := rfl
theorem r_316_578 : row 316 578 = some (.aload_n 0, 579, 0, 0, 0, 0) := rfl
theorem r_316_579 : row 316 579 = some (.iload_n 3, 580, 0, 0, 0, 0) := rfl
theorem r_316_580 : row 316 580 = some (.iconst 1, 581, 1, 0, 0, 0) := rfl
theorem r_316_581 : row 316 581 = some (.iadd, 582, 0, 0, 0, 0) := rfl
theorem r_316_582 : row 316 582 = some (.iaload, 583, 0, 0, 0, 0) := rfl
theorem r_316_583 : row 316 583 = some (.aload_n 0, 584, 0, 0, 0, 0) := rfl
theorem r_316_584 : row 316 584 = some (.iload_n 3, 585, 0, 0, 0, 0) := rfl
theorem r_316_585 : row 316 585 = some (.iconst 2, 586, 2, 0, 0, 0) := rfl
theorem r_316_586 : row 316 586 = some (.iadd, 587, 0, 0, 0, 0) := rfl
theorem r_316_587 : row 316 587 = some (.iaload, 588, 0, 0, 0, 0) := rfl
theorem r_316_588 : row 316 588 = some (.invokevirtual 52, 591, 126, 2, 0, 7029) := rfl
theorem r_316_591 : row 316 591 = some (.pop, 592, 0, 0, 0, 0) := rfl
theorem r_316_592 : row 316 592 = some (.goto 1506, 595, 2098, 0, 0, 0) := rfl
theorem r_316_595 : row 316 595 = some (.aload_n 1, 596, 0, 0, 0, 0) := rfl
theorem r_316_596 : row 316 596 = some (.aload_n 0, 597, 0, 0, 0, 0) := rfl
theorem r_316_597 : row 316 597 = some (.iload_n 3, 598, 0, 0, 0, 0) := rfl
theorem r_316_598 : row 316 598 = some (.iconst 1, 599, 1, 0, 0, 0) := rfl
theorem r_316_599 : row 316 599 = some (.iadd, 600, 0, 0, 0, 0) := rfl
theorem r_316_600 : row 316 600 = some (.iaload, 601, 0, 0, 0, 0) := rfl
theorem r_316_601 : row 316 601 = some (.invokevirtual 53, 604, 10, 1, 0, 4049) := rfl
theorem r_316_604 : row 316 604 = some (.pop, 605, 0, 0, 0, 0) := rfl
theorem r_316_605 : row 316 605 = some (.aload_n 2, 606, 0, 0, 0, 0) := rfl
theorem r_316_606 : row 316 606 = some (.aload_n 0, 607, 0, 0, 0, 0) := rfl
theorem r_316_607 : row 316 607 = some (.iload_n 3, 608, 0, 0, 0, 0) := rfl
theorem r_316_608 : row 316 608 = some (.iconst 1, 609, 1, 0, 0, 0) := rfl
theorem r_316_609 : row 316 609 = some (.iadd, 610, 0, 0, 0, 0) := rfl
theorem r_316_610 : row 316 610 = some (.iaload, 611, 0, 0, 0, 0) := rfl
theorem r_316_611 : row 316 611 = some (.invokevirtual 56, 614, 128, 1, 0, 7050) := rfl
theorem r_316_614 : row 316 614 = some (.pop, 615, 0, 0, 0, 0) := rfl
theorem r_316_615 : row 316 615 = some (.goto 1483, 618, 2098, 0, 0, 0) := rfl
theorem r_316_618 : row 316 618 = some (.aload_n 1, 619, 0, 0, 0, 0) := rfl
theorem r_316_619 : row 316 619 = some (.aload_n 0, 620, 0, 0, 0, 0) := rfl
theorem r_316_620 : row 316 620 = some (.iload_n 3, 621, 0, 0, 0, 0) := rfl
theorem r_316_621 : row 316 621 = some (.iconst 1, 622, 1, 0, 0, 0) := rfl
theorem r_316_622 : row 316 622 = some (.iadd, 623, 0, 0, 0, 0) := rfl
theorem r_316_623 : row 316 623 = some (.iaload, 624, 0, 0, 0, 0) := rfl
theorem r_316_624 : row 316 624 = some (.invokevirtual 57, 627, 11, 1, 0, 4053) := rfl
theorem r_316_627 : row 316 627 = some (.pop, 628, 0, 0, 0, 0) := rfl
theorem r_316_628 : row 316 628 = some (.aload_n 2, 629, 0, 0, 0, 0) := rfl
theorem r_316_629 : row 316 629 = some (.aload_n 0, 630, 0, 0, 0, 0) := rfl
theorem r_316_630 : row 316 630 = some (.iload_n 3, 631, 0, 0, 0, 0) := rfl
theorem r_316_631 : row 316 631 = some (.iconst 1, 632, 1, 0, 0, 0) := rfl
theorem r_316_632 : row 316 632 = some (.iadd, 633, 0, 0, 0, 0) := rfl
theorem r_316_633 : row 316 633 = some (.iaload, 634, 0, 0, 0, 0) := rfl
theorem r_316_634 : row 316 634 = some (.invokevirtual 60, 637, 148, 1, 0, 7074) := rfl
theorem r_316_637 : row 316 637 = some (.pop, 638, 0, 0, 0, 0) := rfl
theorem r_316_638 : row 316 638 = some (.goto 1460, 641, 2098, 0, 0, 0) := rfl
theorem r_316_641 : row 316 641 = some (.aload_n 1, 642, 0, 0, 0, 0) := rfl
theorem r_316_642 : row 316 642 = some (.aload_n 0, 643, 0, 0, 0, 0) := rfl
theorem r_316_643 : row 316 643 = some (.iload_n 3, 644, 0, 0, 0, 0) := rfl
theorem r_316_644 : row 316 644 = some (.iconst 1, 645, 1, 0, 0, 0) := rfl
theorem r_316_645 : row 316 645 = some (.iadd, 646, 0, 0, 0, 0) := rfl
theorem r_316_646 : row 316 646 = some (.iaload, 647, 0, 0, 0, 0) := rfl
theorem r_316_647 : row 316 647 = some (.invokevirtual 61, 650, 14, 1, 0, 4071) := rfl
theorem r_316_650 : row 316 650 = some (.pop, 651, 0, 0, 0, 0) := rfl
theorem r_316_651 : row 316 651 = some (.aload_n 2, 652, 0, 0, 0, 0) := rfl
theorem r_316_652 : row 316 652 = some (.aload_n 0, 653, 0, 0, 0, 0) := rfl
theorem r_316_653 : row 316 653 = some (.iload_n 3, 654, 0, 0, 0, 0) := rfl
theorem r_316_654 : row 316 654 = some (.iconst 1, 655, 1, 0, 0, 0) := rfl
theorem r_316_655 : row 316 655 = some (.iadd, 656, 0, 0, 0, 0) := rfl
theorem r_316_656 : row 316 656 = some (.iaload, 657, 0, 0, 0, 0) := rfl
theorem r_316_657 : row 316 657 = some (.invokevirtual 64, 660, 149, 1, 0, 7150) := rfl
theorem r_316_660 : row 316 660 = some (.pop, 661, 0, 0, 0, 0) := rfl
theorem r_316_661 : row 316 661 = some (.goto 1437, 664, 2098, 0, 0, 0) := rfl
theorem r_316_664 : row 316 664 = some (.aload_n 1, 665, 0, 0, 0, 0) := rfl
theorem r_316_665 : row 316 665 = some (.aload_n 0, 666, 0, 0, 0, 0) := rfl
theorem r_316_666 : row 316 666 = some (.iload_n 3, 667, 0, 0, 0, 0) := rfl
theorem r_316_667 : row 316 667 = some (.iconst 1, 668, 1, 0, 0, 0) := rfl
theorem r_316_668 : row 316 668 = some (.iadd, 669, 0, 0, 0, 0) := rfl
theorem r_316_669 : row 316 669 = some (.iaload, 670, 0, 0, 0, 0) := rfl
theorem r_316_670 : row 316 670 = some (.invokevirtual 65, 673, 15, 1, 0, 4079) := rfl
theorem r_316_673 : row 316 673 = some (.pop, 674, 0, 0, 0, 0) := rfl
theorem r_316_674 : row 316 674 = some (.aload_n 2, 675, 0, 0, 0, 0) := rfl
theorem r_316_675 : row 316 675 = some (.aload_n 0, 676, 0, 0, 0, 0) := rfl
theorem r_316_676 : row 316 676 = some (.iload_n 3, 677, 0, 0, 0, 0) := rfl
theorem r_316_677 : row 316 677 = some (.iconst 1, 678, 1, 0, 0, 0) := rfl
theorem r_316_678 : row 316 678 = some (.iadd, 679, 0, 0, 0, 0) := rfl
theorem r_316_679 : row 316 679 = some (.iaload, 680, 0, 0, 0, 0) := rfl
theorem r_316_680 : row 316 680 = some (.invokevirtual 68, 683, 150, 1, 0, 7162) := rfl
theorem r_316_683 : row 316 683 = some (.pop, 684, 0, 0, 0, 0) := rfl
theorem r_316_684 : row 316 684 = some (.goto 1414, 687, 2098, 0, 0, 0) := rfl
theorem r_316_687 : row 316 687 = some (.aload_n 1, 688, 0, 0, 0, 0) := rfl
theorem r_316_688 : row 316 688 = some (.aload_n 0, 689, 0, 0, 0, 0) := rfl
theorem r_316_689 : row 316 689 = some (.iload_n 3, 690, 0, 0, 0, 0) := rfl
theorem r_316_690 : row 316 690 = some (.iconst 1, 691, 1, 0, 0, 0) := rfl
theorem r_316_691 : row 316 691 = some (.iadd, 692, 0, 0, 0, 0) := rfl
theorem r_316_692 : row 316 692 = some (.iaload, 693, 0, 0, 0, 0) := rfl
theorem r_316_693 : row 316 693 = some (.invokevirtual 69, 696, 16, 1, 0, 4083) := rfl
theorem r_316_696 : row 316 696 = some (.pop, 697, 0, 0, 0, 0) := rfl
theorem r_316_697 : row 316 697 = some (.aload_n 2, 698, 0, 0, 0, 0) := rfl
theorem r_316_698 : row 316 698 = some (.aload_n 0, 699, 0, 0, 0, 0) := rfl
theorem r_316_699 : row 316 699 = some (.iload_n 3, 700, 0, 0, 0, 0) := rfl
theorem r_316_700 : row 316 700 = some (.iconst 1, 701, 1, 0, 0, 0) := rfl
theorem r_316_701 : row 316 701 = some (.iadd, 702, 0, 0, 0, 0) := rfl
theorem r_316_702 : row 316 702 = some (.iaload, 703, 0, 0, 0, 0) := rfl
theorem r_316_703 : row 316 703 = some (.invokevirtual 72, 706, 151, 1, 0, 7166) := rfl
theorem r_316_706 : row 316 706 = some (.pop, 707, 0, 0, 0, 0) := rfl
theorem r_316_707 : row 316 707 = some (.goto 1391, 710, 2098, 0, 0, 0) := rfl
theorem r_316_710 : row 316 710 = some (.aload_n 1, 711, 0, 0, 0, 0) := rfl
theorem r_316_711 : row 316 711 = some (.aload_n 0, 712, 0, 0, 0, 0) := rfl
theorem r_316_712 : row 316 712 = some (.iload_n 3, 713, 0, 0, 0, 0) := rfl
theorem r_316_713 : row 316 713 = some (.iconst 1, 714, 1, 0, 0, 0) := rfl
theorem r_316_714 : row 316 714 = some (.iadd, 715, 0, 0, 0, 0) := rfl
theorem r_316_715 : row 316 715 = some (.iaload, 716, 0, 0, 0, 0) := rfl
theorem r_316_716 : row 316 716 = some (.aload_n 0, 717, 0, 0, 0, 0) := rfl
theorem r_316_717 : row 316 717 = some (.iload_n 3, 718, 0, 0, 0, 0) := rfl
theorem r_316_718 : row 316 718 = some (.iconst 2, 719, 2, 0, 0, 0) := rfl
theorem r_316_719 : row 316 719 = some (.iadd, 720, 0, 0, 0, 0) := rfl
theorem r_316_720 : row 316 720 = some (.iaload, 721, 0, 0, 0, 0) := rfl
theorem r_316_721 : row 316 721 = some (.invokevirtual 73, 724, 17, 2, 0, 4087) := rfl
theorem r_316_724 : row 316 724 = some (.pop, 725, 0, 0, 0, 0) := rfl
theorem r_316_725 : row 316 725 = some (.aload_n 2, 726, 0, 0, 0, 0) := rfl
theorem r_316_726 : row 316 726 = some (.aload_n 0, 727, 0, 0, 0, 0) := rfl
theorem r_316_727 : row 316 727 = some (.iload_n 3, 728, 0, 0, 0, 0) := rfl
theorem r_316_728 : row 316 728 = some (.iconst 1, 729, 1, 0, 0, 0) := rfl
theorem r_316_729 : row 316 729 = some (.iadd, 730, 0, 0, 0, 0) := rfl
theorem r_316_730 : row 316 730 = some (.iaload, 731, 0, 0, 0, 0) := rfl
theorem r_316_731 : row 316 731 = some (.aload_n 0, 732, 0, 0, 0, 0) := rfl
theorem r_316_732 : row 316 732 = some (.iload_n 3, 733, 0, 0, 0, 0) := rfl
theorem r_316_733 : row 316 733 = some (.iconst 2, 734, 2, 0, 0, 0) := rfl
theorem r_316_734 : row 316 734 = some (.iadd, 735, 0, 0, 0, 0) := rfl
theorem r_316_735 : row 316 735 = some (.iaload, 736, 0, 0, 0, 0) := rfl
theorem r_316_736 : row 316 736 = some (.invokevirtual 76, 739, 152, 2, 0, 7170) := rfl
theorem r_316_739 : row 316 739 = some (.pop, 740, 0, 0, 0, 0) := rfl
theorem r_316_740 : row 316 740 = some (.goto 1358, 743, 2098, 0, 0, 0) := rfl
theorem r_316_743 : row 316 743 = some (.aload_n 1, 744, 0, 0, 0, 0) := rfl
theorem r_316_744 : row 316 744 = some (.aload_n 0, 745, 0, 0, 0, 0) := rfl
theorem r_316_745 : row 316 745 = some (.iload_n 3, 746, 0, 0, 0, 0) := rfl
theorem r_316_746 : row 316 746 = some (.iconst 1, 747, 1, 0, 0, 0) := rfl
theorem r_316_747 : row 316 747 = some (.iadd, 748, 0, 0, 0, 0) := rfl
theorem r_316_748 : row 316 748 = some (.iaload, 749, 0, 0, 0, 0) := rfl
theorem r_316_749 : row 316 749 = some (.aload_n 0, 750, 0, 0, 0, 0) := rfl
theorem r_316_750 : row 316 750 = some (.iload_n 3, 751, 0, 0, 0, 0) := rfl
theorem r_316_751 : row 316 751 = some (.iconst 2, 752, 2, 0, 0, 0) := rfl
theorem r_316_752 : row 316 752 = some (.iadd, 753, 0, 0, 0, 0) := rfl
theorem r_316_753 : row 316 753 = some (.iaload, 754, 0, 0, 0, 0) := rfl
theorem r_316_754 : row 316 754 = some (.invokevirtual 77, 757, 18, 2, 0, 4095) := rfl
theorem r_316_757 : row 316 757 = some (.pop, 758, 0, 0, 0, 0) := rfl
theorem r_316_758 : row 316 758 = some (.aload_n 2, 759, 0, 0, 0, 0) := rfl
theorem r_316_759 : row 316 759 = some (.aload_n 0, 760, 0, 0, 0, 0) := rfl
theorem r_316_760 : row 316 760 = some (.iload_n 3, 761, 0, 0, 0, 0) := rfl
theorem r_316_761 : row 316 761 = some (.iconst 1, 762, 1, 0, 0, 0) := rfl
theorem r_316_762 : row 316 762 = some (.iadd, 763, 0, 0, 0, 0) := rfl
theorem r_316_763 : row 316 763 = some (.iaload, 764, 0, 0, 0, 0) := rfl
theorem r_316_764 : row 316 764 = some (.aload_n 0, 765, 0, 0, 0, 0) := rfl
theorem r_316_765 : row 316 765 = some (.iload_n 3, 766, 0, 0, 0, 0) := rfl
theorem r_316_766 : row 316 766 = some (.iconst 2, 767, 2, 0, 0, 0) := rfl
theorem r_316_767 : row 316 767 = some (.iadd, 768, 0, 0, 0, 0) := rfl
theorem r_316_768 : row 316 768 = some (.iaload, 769, 0, 0, 0, 0) := rfl
theorem r_316_769 : row 316 769 = some (.invokevirtual 80, 772, 153, 2, 0, 7174) := rfl
theorem r_316_772 : row 316 772 = some (.pop, 773, 0, 0, 0, 0) := rfl
theorem r_316_773 : row 316 773 = some (.goto 1325, 776, 2098, 0, 0, 0) := rfl
theorem r_316_776 : row 316 776 = some (.aload_n 1, 777, 0, 0, 0, 0) := rfl
theorem r_316_777 : row 316 777 = some (.aload_n 0, 778, 0, 0, 0, 0) := rfl
theorem r_316_778 : row 316 778 = some (.iload_n 3, 779, 0, 0, 0, 0) := rfl
theorem r_316_779 : row 316 779 = some (.iconst 1, 780, 1, 0, 0, 0) := rfl
theorem r_316_780 : row 316 780 = some (.iadd, 781, 0, 0, 0, 0) := rfl
theorem r_316_781 : row 316 781 = some (.iaload, 782, 0, 0, 0, 0) := rfl
theorem r_316_782 : row 316 782 = some (.invokevirtual 81, 785, 19, 1, 0, 4103) := rfl
theorem r_316_785 : row 316 785 = some (.pop, 786, 0, 0, 0, 0) := rfl
theorem r_316_786 : row 316 786 = some (.aload_n 2, 787, 0, 0, 0, 0) := rfl
theorem r_316_787 : row 316 787 = some (.aload_n 0, 788, 0, 0, 0, 0) := rfl
theorem r_316_788 : row 316 788 = some (.iload_n 3, 789, 0, 0, 0, 0) := rfl
theorem r_316_789 : row 316 789 = some (.iconst 1, 790, 1, 0, 0, 0) := rfl
theorem r_316_790 : row 316 790 = some (.iadd, 791, 0, 0, 0, 0) := rfl
theorem r_316_791 : row 316 791 = some (.iaload, 792, 0, 0, 0, 0) := rfl
theorem r_316_792 : row 316 792 = some (.invokevirtual 84, 795, 154, 1, 0, 7178) := rfl
theorem r_316_795 : row 316 795 = some (.pop, 796, 0, 0, 0, 0) := rfl
theorem r_316_796 : row 316 796 = some (.goto 1302, 799, 2098, 0, 0, 0) := rfl
theorem r_316_799 : row 316 799 = some (.aload_n 1, 800, 0, 0, 0, 0) := rfl
theorem r_316_800 : row 316 800 = some (.aload_n 0, 801, 0, 0, 0, 0) := rfl
theorem r_316_801 : row 316 801 = some (.iload_n 3, 802, 0, 0, 0, 0) := rfl
theorem r_316_802 : row 316 802 = some (.iconst 1, 803, 1, 0, 0, 0) := rfl
theorem r_316_803 : row 316 803 = some (.iadd, 804, 0, 0, 0, 0) := rfl
theorem r_316_804 : row 316 804 = some (.iaload, 805, 0, 0, 0, 0) := rfl
theorem r_316_805 : row 316 805 = some (.invokevirtual 85, 808, 20, 1, 0, 4111) := rfl
theorem r_316_808 : row 316 808 = some (.pop, 809, 0, 0, 0, 0) := rfl
theorem r_316_809 : row 316 809 = some (.aload_n 2, 810, 0, 0, 0, 0) := rfl
theorem r_316_810 : row 316 810 = some (.aload_n 0, 811, 0, 0, 0, 0) := rfl
theorem r_316_811 : row 316 811 = some (.iload_n 3, 812, 0, 0, 0, 0) := rfl
theorem r_316_812 : row 316 812 = some (.iconst 1, 813, 1, 0, 0, 0) := rfl
theorem r_316_813 : row 316 813 = some (.iadd, 814, 0, 0, 0, 0) := rfl
theorem r_316_814 : row 316 814 = some (.iaload, 815, 0, 0, 0, 0) := rfl
theorem r_316_815 : row 316 815 = some (.invokevirtual 88, 818, 155, 1, 0, 7186) := rfl
theorem r_316_818 : row 316 818 = some (.pop, 819, 0, 0, 0, 0) := rfl
theorem r_316_819 : row 316 819 = some (.goto 1279, 822, 2098, 0, 0, 0) := rfl
theorem r_316_822 : row 316 822 = some (.aload_n 1, 823, 0, 0, 0, 0) := rfl
theorem r_316_823 : row 316 823 = some (.invokevirtual 89, 826, 21, 0, 0, 4115) := rfl
theorem r_316_826 : row 316 826 = some (.pop, 827, 0, 0, 0, 0) := rfl
theorem r_316_827 : row 316 827 = some (.aload_n 2, 828, 0, 0, 0, 0) := rfl
theorem r_316_828 : row 316 828 = some (.invokevirtual 92, 831, 156, 0, 0, 7190) := rfl
theorem r_316_831 : row 316 831 = some (.pop, 832, 0, 0, 0, 0) := rfl
theorem r_316_832 : row 316 832 = some (.goto 1266, 835, 2098, 0, 0, 0) := rfl
theorem r_316_835 : row 316 835 = some (.aload_n 1, 836, 0, 0, 0, 0) := rfl
theorem r_316_836 : row 316 836 = some (.invokevirtual 93, 839, 22, 0, 0, 4119) := rfl
theorem r_316_839 : row 316 839 = some (.pop, 840, 0, 0, 0, 0) := rfl
theorem r_316_840 : row 316 840 = some (.aload_n 2, 841, 0, 0, 0, 0) := rfl
theorem r_316_841 : row 316 841 = some (.invokevirtual 96, 844, 157, 0, 0, 7194) := rfl
theorem r_316_844 : row 316 844 = some (.pop, 845, 0, 0, 0, 0) := rfl
theorem r_316_845 : row 316 845 = some (.goto 1253, 848, 2098, 0, 0, 0) := rfl
theorem r_316_848 : row 316 848 = some (.aload_n 1, 849, 0, 0, 0, 0) := rfl
theorem r_316_849 : row 316 849 = some (.invokevirtual 97, 852, 23, 0, 0, 4123) := rfl
theorem r_316_852 : row 316 852 = some (.pop, 853, 0, 0, 0, 0) := rfl
theorem r_316_853 : row 316 853 = some (.aload_n 2, 854, 0, 0, 0, 0) := rfl
theorem r_316_854 : row 316 854 = some (.invokevirtual 100, 857, 159, 0, 0, 7198) := rfl
theorem r_316_857 : row 316 857 = some (.pop, 858, 0, 0, 0, 0) := rfl
theorem r_316_858 : row 316 858 = some (.goto 1240, 861, 2098, 0, 0, 0) := rfl
theorem r_316_861 : row 316 861 = some (.aload_n 1, 862, 0, 0, 0, 0) := rfl
theorem r_316_862 : row 316 862 = some (.aload_n 0, 863, 0, 0, 0, 0) := rfl
theorem r_316_863 : row 316 863 = some (.iload_n 3, 864, 0, 0, 0, 0) := rfl
theorem r_316_864 : row 316 864 = some (.iconst 1, 865, 1, 0, 0, 0) := rfl
theorem r_316_865 : row 316 865 = some (.iadd, 866, 0, 0, 0, 0) := rfl
theorem r_316_866 : row 316 866 = some (.iaload, 867, 0, 0, 0, 0) := rfl
theorem r_316_867 : row 316 867 = some (.invokevirtual 101, 870, 24, 1, 0, 4127) := rfl
theorem r_316_870 : row 316 870 = some (.pop, 871, 0, 0, 0, 0) := rfl
theorem r_316_871 : row 316 871 = some (.aload_n 2, 872, 0, 0, 0, 0) := rfl
theorem r_316_872 : row 316 872 = some (.aload_n 0, 873, 0, 0, 0, 0) := rfl
theorem r_316_873 : row 316 873 = some (.iload_n 3, 874, 0, 0, 0, 0) := rfl
theorem r_316_874 : row 316 874 = some (.iconst 1, 875, 1, 0, 0, 0) := rfl
theorem r_316_875 : row 316 875 = some (.iadd, 876, 0, 0, 0, 0) := rfl
theorem r_316_876 : row 316 876 = some (.iaload, 877, 0, 0, 0, 0) := rfl
theorem r_316_877 : row 316 877 = some (.invokevirtual 104, 880, 160, 1, 0, 7206) := rfl
theorem r_316_880 : row 316 880 = some (.pop, 881, 0, 0, 0, 0) := rfl
theorem r_316_881 : row 316 881 = some (.goto 1217, 884, 2098, 0, 0, 0) := rfl
theorem r_316_884 : row 316 884 = some (.aload_n 1, 885, 0, 0, 0, 0) := rfl
theorem r_316_885 : row 316 885 = some (.invokevirtual 105, 888, 25, 0, 0, 4131) := rfl
theorem r_316_888 : row 316 888 = some (.pop, 889, 0, 0, 0, 0) := rfl
theorem r_316_889 : row 316 889 = some (.aload_n 2, 890, 0, 0, 0, 0) := rfl
theorem r_316_890 : row 316 890 = some (.invokevirtual 108, 893, 161, 0, 0, 7210) := rfl
theorem r_316_893 : row 316 893 = some (.pop, 894, 0, 0, 0, 0) := rfl
theorem r_316_894 : row 316 894 = some (.goto 1204, 897, 2098, 0, 0, 0) := rfl
theorem r_316_897 : row 316 897 = some (.aload_n 1, 898, 0, 0, 0, 0) := rfl
theorem r_316_898 : row 316 898 = some (.invokevirtual 109, 901, 26, 0, 0, 4135) := rfl
theorem r_316_901 : row 316 901 = some (.pop, 902, 0, 0, 0, 0) := rfl
theorem r_316_902 : row 316 902 = some (.aload_n 2, 903, 0, 0, 0, 0) := rfl
theorem r_316_903 : row 316 903 = some (.invokevirtual 112, 906, 162, 0, 0, 7214) := rfl
theorem r_316_906 : row 316 906 = some (.pop, 907, 0, 0, 0, 0) := rfl
theorem r_316_907 : row 316 907 = some (.goto 1191, 910, 2098, 0, 0, 0) := rfl
/-- what the law's loop keeps -/
def RelR (m : Mm) : Prop := PinR m ∧ TBr m ∧ WX m ∧ PlanX m ∧ ZX m
def zL : List (Nat × Nat × Int) := [(2, 1, 0), (192, 5, 0), (4, 0, 0), (4, 1, 0), (4, 2, 0), (4, 3, 0), (4, 4, 0), (4, 5, 0), (4, 6, 0), (4, 7, 0), (4, 8, 0), (4, 9, 0), (11, 0, 0), (11, 1, 0), (11, 2, 0), (11, 3, 0), (11, 4, 0), (11, 5, 0), (11, 6, 0), (193, 0, 0), (193, 1, 0), (193, 2, 0), (193, 3, 0), (193, 4, 0), (193, 5, 0), (193, 6, 0), (193, 7, 0), (193, 8, 0), (193, 9, 0), (193, 10, 0), (22, 2, 0), (23, 0, 0), (23, 1, 0), (23, 2, 0), (23, 3, 0), (23, 4, 0), (23, 5, 0), (23, 6, 0), (23, 7, 0), (23, 8, 0), (23, 9, 0), (23, 10, 0), (23, 11, 0), (1, 14, 0), (195, 0, 0), (195, 1, 0), (195, 2, 0), (1, 15, 0)]
theorem zl_4 : ∀ i : Nat, i < 10 → zL.contains (4, i, 0) = true := by decide
theorem zl_11 : ∀ i : Nat, i < 7 → zL.contains (11, i, 0) = true := by decide
theorem zl_193 : ∀ i : Nat, i < 11 → zL.contains (193, i, 0) = true := by decide
theorem zl_23 : ∀ i : Nat, i < 12 → zL.contains (23, i, 0) = true := by decide
theorem zl_195 : ∀ i : Nat, i < 3 → zL.contains (195, i, 0) = true := by decide
theorem Rel_fr {W : List Nat} {m m' : Mm} (h : Fr W m m') (hw : pinC.all (fun c => !W.contains c) = true) (h1 : W.contains 2001 = false) (h2 : W.contains 90005 = false) (h3 : W.contains 3999 = false) (h4 : W.contains 94999 = false) (h5 : nX_ W = true) (h6 : nP_ W = true) (h7 : (!W.contains 91999 && !W.contains 92999) = true) (r : RelR m) : RelR m' := ⟨PinR_fr h hw r.1, TBr_fr h h1 h2 h3 h4 r.2.1, WX_fr h h5 r.2.2.1, planx_fr h h6 r.2.2.2.1, ZX_fr h h7 r.2.2.2.2⟩
def LI (xs : Nat → Int32) (m : Mm) : Prop := Gam m ∧ Ext m ∧ (∀ i, m 0 i = (xs i).toInt) ∧ RelR m
theorem sc_fr {W : List Nat} {m m' : Mm} {xs : Nat → Int32} (h : Fr W m m') (hw : W.contains 999 = false) (hs : ∀ i, m 0 i = (xs i).toInt) : ∀ i, m' 0 i = (xs i).toInt := fun i => (h 0 i hw).trans (hs i)
section LAW
variable {T : List Kd} {xs : Nat → Int32} {L i : Nat} {m : Mm}
theorem pk_1 (hT : TT T) : ConH T cn_1 := fun args m => ((all_con hT 162).1 (by decide)) cn_1 cx_1 args m
theorem pk_100 (hT : TT T) : ConH T cn_100 := fun args m => ((all_con hT 618).1 (by decide)) cn_100 cx_100 args m
theorem case_0 (hT : TT T) (h0 : T[0]? = some (100, L)) (hL : L ≤ 3072) (hi : i + 6 ≤ L) (hl : LI xs m) (hnext : ∀ m, LI xs m → GX T 1000 316 2098 [(2, 0), (2, 1), (2, 192), (0, (i : Int))] [] m (fun v _ => v = (0, 1))) : GX T 1000 316 328 [(2, 0), (2, 1), (2, 192), (0, (i : Int))] [] m (fun v _ => v = (0, 1)) := by
  obtain ⟨s1, e_s1⟩ : ∃ z, z = (xs (i + 1)).toInt := ⟨_, rfl⟩
  have b_s1 := i32_in (xs (i + 1))
  rw [← e_s1] at b_s1
  unfold in32 at b_s1
  obtain ⟨s2, e_s2⟩ : ∃ z, z = (xs (i + 2)).toInt := ⟨_, rfl⟩
  have b_s2 := i32_in (xs (i + 2))
  rw [← e_s2] at b_s2
  unfold in32 at b_s2
  obtain ⟨s3, e_s3⟩ : ∃ z, z = (xs (i + 3)).toInt := ⟨_, rfl⟩
  have b_s3 := i32_in (xs (i + 3))
  rw [← e_s3] at b_s3
  unfold in32 at b_s3
  obtain ⟨s4, e_s4⟩ : ∃ z, z = (xs (i + 4)).toInt := ⟨_, rfl⟩
  have b_s4 := i32_in (xs (i + 4))
  rw [← e_s4] at b_s4
  unfold in32 at b_s4
  obtain ⟨s5, e_s5⟩ : ∃ z, z = (xs (i + 5)).toInt := ⟨_, rfl⟩
  have b_s5 := i32_in (xs (i + 5))
  rw [← e_s5] at b_s5
  unfold in32 at b_s5
  refine gx_st (L' := [(2, 0), (2, 1), (2, 192), (0, (i : Int))]) (S' := [(2, 1)]) r_316_328 rfl rfl rfl ?_
  refine gx_st (L' := [(2, 0), (2, 1), (2, 192), (0, (i : Int))]) (S' := [(2, 0), (2, 1)]) r_316_329 rfl rfl rfl ?_
  refine gx_st (L' := [(2, 0), (2, 1), (2, 192), (0, (i : Int))]) (S' := [(0, (i : Int)), (2, 0), (2, 1)]) r_316_330 rfl rfl rfl ?_
  refine gx_st (L' := [(2, 0), (2, 1), (2, 192), (0, (i : Int))]) (S' := [(0, 1), (0, (i : Int)), (2, 0), (2, 1)]) r_316_331 rfl rfl rfl ?_
  refine gx_ar (L' := [(2, 0), (2, 1), (2, 192), (0, (i : Int))]) (S' := [(2, 0), (2, 1)]) (t := 0) (e := w32 ((i : Int) + 1)) (z := (i : Int) + 1) r_316_332 rfl rfl rfl (w32_eq (by omega) (by omega) (by omega)) ?_
  refine gx_ia (n := i + 1) (x := s1) r_316_333 rfl h0 (by omega) ⟨rfl, by show i + 1 < L; omega⟩ ((hl.2.2.1 (i + 1)).trans e_s1.symm) ?_
  show GX T 1000 316 334 [(2, 0), (2, 1), (2, 192), (0, (i : Int))] [(0, s1), (2, 1)] m (fun v _ => v = (0, 1))
  refine gx_st (L' := [(2, 0), (2, 1), (2, 192), (0, (i : Int))]) (S' := [(2, 0), (0, s1), (2, 1)]) r_316_334 rfl rfl rfl ?_
  refine gx_st (L' := [(2, 0), (2, 1), (2, 192), (0, (i : Int))]) (S' := [(0, (i : Int)), (2, 0), (0, s1), (2, 1)]) r_316_335 rfl rfl rfl ?_
  refine gx_st (L' := [(2, 0), (2, 1), (2, 192), (0, (i : Int))]) (S' := [(0, 2), (0, (i : Int)), (2, 0), (0, s1), (2, 1)]) r_316_336 rfl rfl rfl ?_
  refine gx_ar (L' := [(2, 0), (2, 1), (2, 192), (0, (i : Int))]) (S' := [(2, 0), (0, s1), (2, 1)]) (t := 0) (e := w32 ((i : Int) + 2)) (z := (i : Int) + 2) r_316_337 rfl rfl rfl (w32_eq (by omega) (by omega) (by omega)) ?_
  refine gx_ia (n := i + 2) (x := s2) r_316_338 rfl h0 (by omega) ⟨rfl, by show i + 2 < L; omega⟩ ((hl.2.2.1 (i + 2)).trans e_s2.symm) ?_
  show GX T 1000 316 339 [(2, 0), (2, 1), (2, 192), (0, (i : Int))] [(0, s2), (0, s1), (2, 1)] m (fun v _ => v = (0, 1))
  refine gx_st (L' := [(2, 0), (2, 1), (2, 192), (0, (i : Int))]) (S' := [(2, 0), (0, s2), (0, s1), (2, 1)]) r_316_339 rfl rfl rfl ?_
  refine gx_st (L' := [(2, 0), (2, 1), (2, 192), (0, (i : Int))]) (S' := [(0, (i : Int)), (2, 0), (0, s2), (0, s1), (2, 1)]) r_316_340 rfl rfl rfl ?_
  refine gx_st (L' := [(2, 0), (2, 1), (2, 192), (0, (i : Int))]) (S' := [(0, 3), (0, (i : Int)), (2, 0), (0, s2), (0, s1), (2, 1)]) r_316_341 rfl rfl rfl ?_
  refine gx_ar (L' := [(2, 0), (2, 1), (2, 192), (0, (i : Int))]) (S' := [(2, 0), (0, s2), (0, s1), (2, 1)]) (t := 0) (e := w32 ((i : Int) + 3)) (z := (i : Int) + 3) r_316_342 rfl rfl rfl (w32_eq (by omega) (by omega) (by omega)) ?_
  refine gx_ia (n := i + 3) (x := s3) r_316_343 rfl h0 (by omega) ⟨rfl, by show i + 3 < L; omega⟩ ((hl.2.2.1 (i + 3)).trans e_s3.symm) ?_
  show GX T 1000 316 344 [(2, 0), (2, 1), (2, 192), (0, (i : Int))] [(0, s3), (0, s2), (0, s1), (2, 1)] m (fun v _ => v = (0, 1))
  refine gx_st (L' := [(2, 0), (2, 1), (2, 192), (0, (i : Int))]) (S' := [(2, 0), (0, s3), (0, s2), (0, s1), (2, 1)]) r_316_344 rfl rfl rfl ?_
  refine gx_st (L' := [(2, 0), (2, 1), (2, 192), (0, (i : Int))]) (S' := [(0, (i : Int)), (2, 0), (0, s3), (0, s2), (0, s1), (2, 1)]) r_316_345 rfl rfl rfl ?_
  refine gx_st (L' := [(2, 0), (2, 1), (2, 192), (0, (i : Int))]) (S' := [(0, 4), (0, (i : Int)), (2, 0), (0, s3), (0, s2), (0, s1), (2, 1)]) r_316_346 rfl rfl rfl ?_
  refine gx_ar (L' := [(2, 0), (2, 1), (2, 192), (0, (i : Int))]) (S' := [(2, 0), (0, s3), (0, s2), (0, s1), (2, 1)]) (t := 0) (e := w32 ((i : Int) + 4)) (z := (i : Int) + 4) r_316_347 rfl rfl rfl (w32_eq (by omega) (by omega) (by omega)) ?_
  refine gx_ia (n := i + 4) (x := s4) r_316_348 rfl h0 (by omega) ⟨rfl, by show i + 4 < L; omega⟩ ((hl.2.2.1 (i + 4)).trans e_s4.symm) ?_
  show GX T 1000 316 349 [(2, 0), (2, 1), (2, 192), (0, (i : Int))] [(0, s4), (0, s3), (0, s2), (0, s1), (2, 1)] m (fun v _ => v = (0, 1))
  refine gx_st (L' := [(2, 0), (2, 1), (2, 192), (0, (i : Int))]) (S' := [(2, 0), (0, s4), (0, s3), (0, s2), (0, s1), (2, 1)]) r_316_349 rfl rfl rfl ?_
  refine gx_st (L' := [(2, 0), (2, 1), (2, 192), (0, (i : Int))]) (S' := [(0, (i : Int)), (2, 0), (0, s4), (0, s3), (0, s2), (0, s1), (2, 1)]) r_316_350 rfl rfl rfl ?_
  refine gx_st (L' := [(2, 0), (2, 1), (2, 192), (0, (i : Int))]) (S' := [(0, 5), (0, (i : Int)), (2, 0), (0, s4), (0, s3), (0, s2), (0, s1), (2, 1)]) r_316_351 rfl rfl rfl ?_
  refine gx_ar (L' := [(2, 0), (2, 1), (2, 192), (0, (i : Int))]) (S' := [(2, 0), (0, s4), (0, s3), (0, s2), (0, s1), (2, 1)]) (t := 0) (e := w32 ((i : Int) + 5)) (z := (i : Int) + 5) r_316_352 rfl rfl rfl (w32_eq (by omega) (by omega) (by omega)) ?_
  refine gx_ia (n := i + 5) (x := s5) r_316_353 rfl h0 (by omega) ⟨rfl, by show i + 5 < L; omega⟩ ((hl.2.2.1 (i + 5)).trans e_s5.symm) ?_
  show GX T 1000 316 354 [(2, 0), (2, 1), (2, 192), (0, (i : Int))] [(0, s5), (0, s4), (0, s3), (0, s2), (0, s1), (2, 1)] m (fun v _ => v = (0, 1))
  obtain ⟨c, hc8, k1, k2, k3⟩ := hl.2.2.2.2.1
  refine gx_ci (nx := 357) (S2 := []) (gx_ai (y_1 hT hl.2.2.2.1 k1 hc8 s1 s2 s3 s4 s5) (gx_hi (args := [(2, 1), (0, s1), (0, s2), (0, s3), (0, s4), (0, s5)]) (pk_1 hT) ⟨gq_o1, gq_any (by omega) (by omega), gq_any (by omega) (by omega), gq_any (by omega) (by omega), gq_any (by omega) (by omega), gq_any (by omega) (by omega), trivial⟩ hl.1 rfl)) r_316_354 rfl rfl rfl rfl rfl (rcv_v rfl (tk_1 hT) (by decide) rfl (by decide)) rfl (by decide) rfl (fun x354 n354 q354 => ?_)
  show GX T 1000 316 357 [(2, 0), (2, 1), (2, 192), (0, (i : Int))] [(0, x354)] n354 (fun v _ => v = (0, 1))
  have ex_n354 : Ext n354 := Ext_fr q354.2.2.2.2 (by decide) hl.2.1
  have sc_n354 := sc_fr q354.2.2.2.2 (by decide) hl.2.2.1
  have pn_n354 : PinR n354 := PinR_fr q354.2.2.2.2 (by decide) hl.2.2.2.1
  refine gx_st (L' := [(2, 0), (2, 1), (2, 192), (0, (i : Int))]) (S' := []) r_316_357 rfl rfl rfl ?_
  refine gx_st (L' := [(2, 0), (2, 1), (2, 192), (0, (i : Int))]) (S' := [(2, 192)]) r_316_358 rfl rfl rfl ?_
  refine gx_st (L' := [(2, 0), (2, 1), (2, 192), (0, (i : Int))]) (S' := [(2, 0), (2, 192)]) r_316_359 rfl rfl rfl ?_
  refine gx_st (L' := [(2, 0), (2, 1), (2, 192), (0, (i : Int))]) (S' := [(0, (i : Int)), (2, 0), (2, 192)]) r_316_360 rfl rfl rfl ?_
  refine gx_st (L' := [(2, 0), (2, 1), (2, 192), (0, (i : Int))]) (S' := [(0, 1), (0, (i : Int)), (2, 0), (2, 192)]) r_316_361 rfl rfl rfl ?_
  refine gx_ar (L' := [(2, 0), (2, 1), (2, 192), (0, (i : Int))]) (S' := [(2, 0), (2, 192)]) (t := 0) (e := w32 ((i : Int) + 1)) (z := (i : Int) + 1) r_316_362 rfl rfl rfl (w32_eq (by omega) (by omega) (by omega)) ?_
  refine gx_ia (n := i + 1) (x := s1) r_316_363 rfl h0 (by omega) ⟨rfl, by show i + 1 < L; omega⟩ ((sc_n354 (i + 1)).trans e_s1.symm) ?_
  show GX T 1000 316 364 [(2, 0), (2, 1), (2, 192), (0, (i : Int))] [(0, s1), (2, 192)] n354 (fun v _ => v = (0, 1))
  refine gx_st (L' := [(2, 0), (2, 1), (2, 192), (0, (i : Int))]) (S' := [(2, 0), (0, s1), (2, 192)]) r_316_364 rfl rfl rfl ?_
  refine gx_st (L' := [(2, 0), (2, 1), (2, 192), (0, (i : Int))]) (S' := [(0, (i : Int)), (2, 0), (0, s1), (2, 192)]) r_316_365 rfl rfl rfl ?_
  refine gx_st (L' := [(2, 0), (2, 1), (2, 192), (0, (i : Int))]) (S' := [(0, 2), (0, (i : Int)), (2, 0), (0, s1), (2, 192)]) r_316_366 rfl rfl rfl ?_
  refine gx_ar (L' := [(2, 0), (2, 1), (2, 192), (0, (i : Int))]) (S' := [(2, 0), (0, s1), (2, 192)]) (t := 0) (e := w32 ((i : Int) + 2)) (z := (i : Int) + 2) r_316_367 rfl rfl rfl (w32_eq (by omega) (by omega) (by omega)) ?_
  refine gx_ia (n := i + 2) (x := s2) r_316_368 rfl h0 (by omega) ⟨rfl, by show i + 2 < L; omega⟩ ((sc_n354 (i + 2)).trans e_s2.symm) ?_
  show GX T 1000 316 369 [(2, 0), (2, 1), (2, 192), (0, (i : Int))] [(0, s2), (0, s1), (2, 192)] n354 (fun v _ => v = (0, 1))
  refine gx_st (L' := [(2, 0), (2, 1), (2, 192), (0, (i : Int))]) (S' := [(2, 0), (0, s2), (0, s1), (2, 192)]) r_316_369 rfl rfl rfl ?_
  refine gx_st (L' := [(2, 0), (2, 1), (2, 192), (0, (i : Int))]) (S' := [(0, (i : Int)), (2, 0), (0, s2), (0, s1), (2, 192)]) r_316_370 rfl rfl rfl ?_
  refine gx_st (L' := [(2, 0), (2, 1), (2, 192), (0, (i : Int))]) (S' := [(0, 3), (0, (i : Int)), (2, 0), (0, s2), (0, s1), (2, 192)]) r_316_371 rfl rfl rfl ?_
  refine gx_ar (L' := [(2, 0), (2, 1), (2, 192), (0, (i : Int))]) (S' := [(2, 0), (0, s2), (0, s1), (2, 192)]) (t := 0) (e := w32 ((i : Int) + 3)) (z := (i : Int) + 3) r_316_372 rfl rfl rfl (w32_eq (by omega) (by omega) (by omega)) ?_
  refine gx_ia (n := i + 3) (x := s3) r_316_373 rfl h0 (by omega) ⟨rfl, by show i + 3 < L; omega⟩ ((sc_n354 (i + 3)).trans e_s3.symm) ?_
  show GX T 1000 316 374 [(2, 0), (2, 1), (2, 192), (0, (i : Int))] [(0, s3), (0, s2), (0, s1), (2, 192)] n354 (fun v _ => v = (0, 1))
  refine gx_st (L' := [(2, 0), (2, 1), (2, 192), (0, (i : Int))]) (S' := [(2, 0), (0, s3), (0, s2), (0, s1), (2, 192)]) r_316_374 rfl rfl rfl ?_
  refine gx_st (L' := [(2, 0), (2, 1), (2, 192), (0, (i : Int))]) (S' := [(0, (i : Int)), (2, 0), (0, s3), (0, s2), (0, s1), (2, 192)]) r_316_375 rfl rfl rfl ?_
  refine gx_st (L' := [(2, 0), (2, 1), (2, 192), (0, (i : Int))]) (S' := [(0, 4), (0, (i : Int)), (2, 0), (0, s3), (0, s2), (0, s1), (2, 192)]) r_316_376 rfl rfl rfl ?_
  refine gx_ar (L' := [(2, 0), (2, 1), (2, 192), (0, (i : Int))]) (S' := [(2, 0), (0, s3), (0, s2), (0, s1), (2, 192)]) (t := 0) (e := w32 ((i : Int) + 4)) (z := (i : Int) + 4) r_316_377 rfl rfl rfl (w32_eq (by omega) (by omega) (by omega)) ?_
  refine gx_ia (n := i + 4) (x := s4) r_316_378 rfl h0 (by omega) ⟨rfl, by show i + 4 < L; omega⟩ ((sc_n354 (i + 4)).trans e_s4.symm) ?_
  show GX T 1000 316 379 [(2, 0), (2, 1), (2, 192), (0, (i : Int))] [(0, s4), (0, s3), (0, s2), (0, s1), (2, 192)] n354 (fun v _ => v = (0, 1))
  refine gx_st (L' := [(2, 0), (2, 1), (2, 192), (0, (i : Int))]) (S' := [(2, 0), (0, s4), (0, s3), (0, s2), (0, s1), (2, 192)]) r_316_379 rfl rfl rfl ?_
  refine gx_st (L' := [(2, 0), (2, 1), (2, 192), (0, (i : Int))]) (S' := [(0, (i : Int)), (2, 0), (0, s4), (0, s3), (0, s2), (0, s1), (2, 192)]) r_316_380 rfl rfl rfl ?_
  refine gx_st (L' := [(2, 0), (2, 1), (2, 192), (0, (i : Int))]) (S' := [(0, 5), (0, (i : Int)), (2, 0), (0, s4), (0, s3), (0, s2), (0, s1), (2, 192)]) r_316_381 rfl rfl rfl ?_
  refine gx_ar (L' := [(2, 0), (2, 1), (2, 192), (0, (i : Int))]) (S' := [(2, 0), (0, s4), (0, s3), (0, s2), (0, s1), (2, 192)]) (t := 0) (e := w32 ((i : Int) + 5)) (z := (i : Int) + 5) r_316_382 rfl rfl rfl (w32_eq (by omega) (by omega) (by omega)) ?_
  refine gx_ia (n := i + 5) (x := s5) r_316_383 rfl h0 (by omega) ⟨rfl, by show i + 5 < L; omega⟩ ((sc_n354 (i + 5)).trans e_s5.symm) ?_
  show GX T 1000 316 384 [(2, 0), (2, 1), (2, 192), (0, (i : Int))] [(0, s5), (0, s4), (0, s3), (0, s2), (0, s1), (2, 192)] n354 (fun v _ => v = (0, 1))
  refine gx_ci (nx := 387) (S2 := []) (gx_ai (y_100 hT pn_n354 (c := c) ((q354.2.2.2.2 192 5 rfl).trans k2) hc8 s1 s2 s3 s4 s5) (gx_hi (args := [(2, 192), (0, s1), (0, s2), (0, s3), (0, s4), (0, s5)]) (pk_100 hT) ⟨gq_o192, gq_any (by omega) (by omega), gq_any (by omega) (by omega), gq_any (by omega) (by omega), gq_any (by omega) (by omega), gq_any (by omega) (by omega), trivial⟩ q354.2.2.2.1 rfl)) r_316_384 rfl rfl rfl rfl rfl (rcv_v rfl (tk_192 hT) (by decide) rfl (by decide)) rfl (by decide) rfl (fun x384 n384 q384 => ?_)
  show GX T 1000 316 387 [(2, 0), (2, 1), (2, 192), (0, (i : Int))] [(0, x384)] n384 (fun v _ => v = (0, 1))
  have ex_n384 : Ext n384 := Ext_fr q384.2.2.2.2 (by decide) ex_n354
  have sc_n384 := sc_fr q384.2.2.2.2 (by decide) sc_n354
  have rl_n384 : RelR n384 := ⟨PinR_fr q384.2.2.2.2 (by decide) (PinR_fr q354.2.2.2.2 (by decide) hl.2.2.2.1), (tp_feed hc8 k1 k2 k3 q354.1 q354.2.2.2.2 rfl rfl q384.1).2, WX_fr q384.2.2.2.2 (by decide) (WX_fr q354.2.2.2.2 (by decide) hl.2.2.2.2.2.1), planx_fr q384.2.2.2.2 (by decide) (planx_fr q354.2.2.2.2 (by decide) hl.2.2.2.2.2.2.1), ZX_fr q384.2.2.2.2 (by decide) (ZX_fr q354.2.2.2.2 (by decide) hl.2.2.2.2.2.2.2)⟩
  refine gx_st (L' := [(2, 0), (2, 1), (2, 192), (0, (i : Int))]) (S' := []) r_316_387 rfl rfl rfl ?_
  refine gx_st (L' := [(2, 0), (2, 1), (2, 192), (0, (i : Int))]) (S' := []) r_316_388 rfl rfl rfl ?_
  exact hnext n384 ⟨q384.2.2.2.1, ex_n384, sc_n384, rl_n384⟩
theorem pk_2 (hT : TT T) : ConH T cn_2 := fun args m => ((all_con hT 163).1 (by decide)) cn_2 cx_2 args m
theorem pk_101 (hT : TT T) : ConH T cn_101 := fun args m => ((all_con hT 625).1 (by decide)) cn_101 cx_101 args m
theorem case_1 (hT : TT T) (h0 : T[0]? = some (100, L)) (hL : L ≤ 3072) (hi : i + 6 ≤ L) (hl : LI xs m) (hnext : ∀ m, LI xs m → GX T 1000 316 2098 [(2, 0), (2, 1), (2, 192), (0, (i : Int))] [] m (fun v _ => v = (0, 1))) : GX T 1000 316 391 [(2, 0), (2, 1), (2, 192), (0, (i : Int))] [] m (fun v _ => v = (0, 1)) := by
  obtain ⟨s1, e_s1⟩ : ∃ z, z = (xs (i + 1)).toInt := ⟨_, rfl⟩
  have b_s1 := i32_in (xs (i + 1))
  rw [← e_s1] at b_s1
  unfold in32 at b_s1
  obtain ⟨s2, e_s2⟩ : ∃ z, z = (xs (i + 2)).toInt := ⟨_, rfl⟩
  have b_s2 := i32_in (xs (i + 2))
  rw [← e_s2] at b_s2
  unfold in32 at b_s2
  obtain ⟨s3, e_s3⟩ : ∃ z, z = (xs (i + 3)).toInt := ⟨_, rfl⟩
  have b_s3 := i32_in (xs (i + 3))
  rw [← e_s3] at b_s3
  unfold in32 at b_s3
  obtain ⟨s4, e_s4⟩ : ∃ z, z = (xs (i + 4)).toInt := ⟨_, rfl⟩
  have b_s4 := i32_in (xs (i + 4))
  rw [← e_s4] at b_s4
  unfold in32 at b_s4
  obtain ⟨s5, e_s5⟩ : ∃ z, z = (xs (i + 5)).toInt := ⟨_, rfl⟩
  have b_s5 := i32_in (xs (i + 5))
  rw [← e_s5] at b_s5
  unfold in32 at b_s5
  refine gx_st (L' := [(2, 0), (2, 1), (2, 192), (0, (i : Int))]) (S' := [(2, 1)]) r_316_391 rfl rfl rfl ?_
  refine gx_st (L' := [(2, 0), (2, 1), (2, 192), (0, (i : Int))]) (S' := [(2, 0), (2, 1)]) r_316_392 rfl rfl rfl ?_
  refine gx_st (L' := [(2, 0), (2, 1), (2, 192), (0, (i : Int))]) (S' := [(0, (i : Int)), (2, 0), (2, 1)]) r_316_393 rfl rfl rfl ?_
  refine gx_st (L' := [(2, 0), (2, 1), (2, 192), (0, (i : Int))]) (S' := [(0, 1), (0, (i : Int)), (2, 0), (2, 1)]) r_316_394 rfl rfl rfl ?_
  refine gx_ar (L' := [(2, 0), (2, 1), (2, 192), (0, (i : Int))]) (S' := [(2, 0), (2, 1)]) (t := 0) (e := w32 ((i : Int) + 1)) (z := (i : Int) + 1) r_316_395 rfl rfl rfl (w32_eq (by omega) (by omega) (by omega)) ?_
  refine gx_ia (n := i + 1) (x := s1) r_316_396 rfl h0 (by omega) ⟨rfl, by show i + 1 < L; omega⟩ ((hl.2.2.1 (i + 1)).trans e_s1.symm) ?_
  show GX T 1000 316 397 [(2, 0), (2, 1), (2, 192), (0, (i : Int))] [(0, s1), (2, 1)] m (fun v _ => v = (0, 1))
  obtain ⟨c, hc8, k1, k2, k3⟩ := hl.2.2.2.2.1
  refine gx_ci (nx := 400) (S2 := []) (gx_ai (y_2 hT hl.2.2.2.1 k1 hc8 s1) (gx_hi (args := [(2, 1), (0, s1)]) (pk_2 hT) ⟨gq_o1, gq_any (by omega) (by omega), trivial⟩ hl.1 rfl)) r_316_397 rfl rfl rfl rfl rfl (rcv_v rfl (tk_1 hT) (by decide) rfl (by decide)) rfl (by decide) rfl (fun x397 n397 q397 => ?_)
  show GX T 1000 316 400 [(2, 0), (2, 1), (2, 192), (0, (i : Int))] [(0, x397)] n397 (fun v _ => v = (0, 1))
  have ex_n397 : Ext n397 := Ext_fr q397.2.2.2.2 (by decide) hl.2.1
  have sc_n397 := sc_fr q397.2.2.2.2 (by decide) hl.2.2.1
  have pn_n397 : PinR n397 := PinR_fr q397.2.2.2.2 (by decide) hl.2.2.2.1
  refine gx_st (L' := [(2, 0), (2, 1), (2, 192), (0, (i : Int))]) (S' := []) r_316_400 rfl rfl rfl ?_
  refine gx_st (L' := [(2, 0), (2, 1), (2, 192), (0, (i : Int))]) (S' := [(2, 192)]) r_316_401 rfl rfl rfl ?_
  refine gx_st (L' := [(2, 0), (2, 1), (2, 192), (0, (i : Int))]) (S' := [(2, 0), (2, 192)]) r_316_402 rfl rfl rfl ?_
  refine gx_st (L' := [(2, 0), (2, 1), (2, 192), (0, (i : Int))]) (S' := [(0, (i : Int)), (2, 0), (2, 192)]) r_316_403 rfl rfl rfl ?_
  refine gx_st (L' := [(2, 0), (2, 1), (2, 192), (0, (i : Int))]) (S' := [(0, 1), (0, (i : Int)), (2, 0), (2, 192)]) r_316_404 rfl rfl rfl ?_
  refine gx_ar (L' := [(2, 0), (2, 1), (2, 192), (0, (i : Int))]) (S' := [(2, 0), (2, 192)]) (t := 0) (e := w32 ((i : Int) + 1)) (z := (i : Int) + 1) r_316_405 rfl rfl rfl (w32_eq (by omega) (by omega) (by omega)) ?_
  refine gx_ia (n := i + 1) (x := s1) r_316_406 rfl h0 (by omega) ⟨rfl, by show i + 1 < L; omega⟩ ((sc_n397 (i + 1)).trans e_s1.symm) ?_
  show GX T 1000 316 407 [(2, 0), (2, 1), (2, 192), (0, (i : Int))] [(0, s1), (2, 192)] n397 (fun v _ => v = (0, 1))
  refine gx_ci (nx := 410) (S2 := []) (gx_ai (y_101 hT pn_n397 (c := c) ((q397.2.2.2.2 192 5 rfl).trans k2) hc8 s1) (gx_hi (args := [(2, 192), (0, s1)]) (pk_101 hT) ⟨gq_o192, gq_any (by omega) (by omega), trivial⟩ q397.2.2.2.1 rfl)) r_316_407 rfl rfl rfl rfl rfl (rcv_v rfl (tk_192 hT) (by decide) rfl (by decide)) rfl (by decide) rfl (fun x407 n407 q407 => ?_)
  show GX T 1000 316 410 [(2, 0), (2, 1), (2, 192), (0, (i : Int))] [(0, x407)] n407 (fun v _ => v = (0, 1))
  have ex_n407 : Ext n407 := Ext_fr q407.2.2.2.2 (by decide) ex_n397
  have sc_n407 := sc_fr q407.2.2.2.2 (by decide) sc_n397
  have rl_n407 : RelR n407 := ⟨PinR_fr q407.2.2.2.2 (by decide) (PinR_fr q397.2.2.2.2 (by decide) hl.2.2.2.1), (tp_end hc8 k1 k2 k3 q397.1 q407.1).2, WX_fr q407.2.2.2.2 (by decide) (WX_fr q397.2.2.2.2 (by decide) hl.2.2.2.2.2.1), planx_fr q407.2.2.2.2 (by decide) (planx_fr q397.2.2.2.2 (by decide) hl.2.2.2.2.2.2.1), ZX_fr q407.2.2.2.2 (by decide) (ZX_fr q397.2.2.2.2 (by decide) hl.2.2.2.2.2.2.2)⟩
  refine gx_st (L' := [(2, 0), (2, 1), (2, 192), (0, (i : Int))]) (S' := []) r_316_410 rfl rfl rfl ?_
  refine gx_st (L' := [(2, 0), (2, 1), (2, 192), (0, (i : Int))]) (S' := []) r_316_411 rfl rfl rfl ?_
  exact hnext n407 ⟨q407.2.2.2.1, ex_n407, sc_n407, rl_n407⟩
theorem pk_3 (hT : TT T) : ConH T cn_3 := fun args m => ((all_con hT 278).1 (by decide)) cn_3 cx_3 args m
theorem pk_118 (hT : TT T) : ConX T cn_118 false false := by
  have z := ((all_con hT 626).2 (by decide)) cn_118 cx_118
  rw [show (Fl 626).2 = (false, false) by decide] at z
  exact z
theorem case_2 (hT : TT T) (h0 : T[0]? = some (100, L)) (hL : L ≤ 3072) (hi : i + 6 ≤ L) (hl : LI xs m) (hnext : ∀ m, LI xs m → GX T 1000 316 2098 [(2, 0), (2, 1), (2, 192), (0, (i : Int))] [] m (fun v _ => v = (0, 1))) : GX T 1000 316 414 [(2, 0), (2, 1), (2, 192), (0, (i : Int))] [] m (fun v _ => v = (0, 1)) := by
  obtain ⟨s1, e_s1⟩ : ∃ z, z = (xs (i + 1)).toInt := ⟨_, rfl⟩
  have b_s1 := i32_in (xs (i + 1))
  rw [← e_s1] at b_s1
  unfold in32 at b_s1
  obtain ⟨s2, e_s2⟩ : ∃ z, z = (xs (i + 2)).toInt := ⟨_, rfl⟩
  have b_s2 := i32_in (xs (i + 2))
  rw [← e_s2] at b_s2
  unfold in32 at b_s2
  obtain ⟨s3, e_s3⟩ : ∃ z, z = (xs (i + 3)).toInt := ⟨_, rfl⟩
  have b_s3 := i32_in (xs (i + 3))
  rw [← e_s3] at b_s3
  unfold in32 at b_s3
  obtain ⟨s4, e_s4⟩ : ∃ z, z = (xs (i + 4)).toInt := ⟨_, rfl⟩
  have b_s4 := i32_in (xs (i + 4))
  rw [← e_s4] at b_s4
  unfold in32 at b_s4
  obtain ⟨s5, e_s5⟩ : ∃ z, z = (xs (i + 5)).toInt := ⟨_, rfl⟩
  have b_s5 := i32_in (xs (i + 5))
  rw [← e_s5] at b_s5
  unfold in32 at b_s5
  refine gx_st (L' := [(2, 0), (2, 1), (2, 192), (0, (i : Int))]) (S' := [(2, 1)]) r_316_414 rfl rfl rfl ?_
  refine gx_ci (nx := 418) (S2 := []) (gx_ai (gx_ai (y_3 (X := txR m) hT hl.1 hl.2.2.2.1 (TBr_cx hl.2.2.2.2.1) (txR_ok hl.1)) (h_3 hT hl.1 hl.2.2.2.1)) (gx_hi (args := [(2, 1)]) (pk_3 hT) ⟨gq_o1, trivial⟩ hl.1 rfl)) r_316_415 rfl rfl rfl rfl rfl (rcv_v rfl (tk_1 hT) (by decide) rfl (by decide)) rfl (by decide) rfl (fun x415 n415 q415 => ?_)
  show GX T 1000 316 418 [(2, 0), (2, 1), (2, 192), (0, (i : Int))] [(0, x415)] n415 (fun v _ => v = (0, 1))
  have ex_n415 : Ext n415 := Ext_fr q415.2.2.2.2 (by decide) hl.2.1
  have sc_n415 := sc_fr q415.2.2.2.2 (by decide) hl.2.2.1
  have pn_n415 : PinR n415 := PinR_fr q415.2.2.2.2 (by decide) hl.2.2.2.1
  refine gx_st (L' := [(2, 0), (2, 1), (2, 192), (0, (i : Int))]) (S' := []) r_316_418 rfl rfl rfl ?_
  refine gx_st (L' := [(2, 0), (2, 1), (2, 192), (0, (i : Int))]) (S' := [(2, 192)]) r_316_419 rfl rfl rfl ?_
  refine gx_ci (nx := 423) (S2 := []) (gx_ai (gx_ai (IslR_of hT q415.2.2.2.1 (txR_fr q415.2.2.2.2 rfl rfl) (txR_ok hl.1)) (x_118 hT q415.2.2.2.1 ex_n415)) (gx_xi (args := [(2, 192)]) (pk_118 hT) ⟨gq_o192, trivial⟩ q415.2.2.2.1 ex_n415 (fun z => absurd z (by decide)) rfl)) r_316_420 rfl rfl rfl rfl rfl (rcv_v rfl (tk_192 hT) (by decide) rfl (by decide)) rfl (by decide) rfl (fun x420 n420 q420 => ?_)
  show GX T 1000 316 423 [(2, 0), (2, 1), (2, 192), (0, (i : Int))] [(0, x420)] n420 (fun v _ => v = (0, 1))
  have sc_n420 := sc_fr q420.2.2.2.2.2.1 (by decide) sc_n415
  have rl_n420 : RelR n420 := ⟨PinR_fr q420.2.2.2.2.2.1 (by decide) (PinR_fr q415.2.2.2.2 (by decide) hl.2.2.2.1), (tp_isle hl.2.2.2.2.1 q415.1.1.2.2.1 q415.1.1.2.2.2 q420.1.1 q420.1.2.2.2.2.2.2 q415.2.2.2.2 rfl rfl q420.2.2.2.2.2.1 rfl rfl rfl rfl rfl).2.1, wx_isle hl.2.2.2.2.2.1 q415.1.1.2.2.2 q420.1.1 q415.2.2.2.2 (by decide) q420.2.2.2.2.2.1 (by decide), planx_fr q420.2.2.2.2.2.1 (by decide) (q415.1.2 hl.2.2.2.2.2.2.1), zx_isle hl.2.2.2.2.2.2.2 q415.2.2.2.2 (by decide) q420.2.2.2.2.2.1 rfl q420.1.1⟩
  refine gx_st (L' := [(2, 0), (2, 1), (2, 192), (0, (i : Int))]) (S' := []) r_316_423 rfl rfl rfl ?_
  refine gx_st (L' := [(2, 0), (2, 1), (2, 192), (0, (i : Int))]) (S' := []) r_316_424 rfl rfl rfl ?_
  exact hnext n420 ⟨q420.2.2.2.1, q420.2.2.2.2.1, sc_n420, rl_n420⟩
theorem pk_4 (hT : TT T) : ConH T cn_4 := fun args m => ((all_con hT 279).1 (by decide)) cn_4 cx_4 args m
theorem pk_111 (hT : TT T) : ConH T cn_111 := fun args m => ((all_con hT 627).1 (by decide)) cn_111 cx_111 args m
theorem case_3 (hT : TT T) (h0 : T[0]? = some (100, L)) (hL : L ≤ 3072) (hi : i + 6 ≤ L) (hl : LI xs m) (hnext : ∀ m, LI xs m → GX T 1000 316 2098 [(2, 0), (2, 1), (2, 192), (0, (i : Int))] [] m (fun v _ => v = (0, 1))) : GX T 1000 316 427 [(2, 0), (2, 1), (2, 192), (0, (i : Int))] [] m (fun v _ => v = (0, 1)) := by
  obtain ⟨s1, e_s1⟩ : ∃ z, z = (xs (i + 1)).toInt := ⟨_, rfl⟩
  have b_s1 := i32_in (xs (i + 1))
  rw [← e_s1] at b_s1
  unfold in32 at b_s1
  obtain ⟨s2, e_s2⟩ : ∃ z, z = (xs (i + 2)).toInt := ⟨_, rfl⟩
  have b_s2 := i32_in (xs (i + 2))
  rw [← e_s2] at b_s2
  unfold in32 at b_s2
  obtain ⟨s3, e_s3⟩ : ∃ z, z = (xs (i + 3)).toInt := ⟨_, rfl⟩
  have b_s3 := i32_in (xs (i + 3))
  rw [← e_s3] at b_s3
  unfold in32 at b_s3
  obtain ⟨s4, e_s4⟩ : ∃ z, z = (xs (i + 4)).toInt := ⟨_, rfl⟩
  have b_s4 := i32_in (xs (i + 4))
  rw [← e_s4] at b_s4
  unfold in32 at b_s4
  obtain ⟨s5, e_s5⟩ : ∃ z, z = (xs (i + 5)).toInt := ⟨_, rfl⟩
  have b_s5 := i32_in (xs (i + 5))
  rw [← e_s5] at b_s5
  unfold in32 at b_s5
  refine gx_st (L' := [(2, 0), (2, 1), (2, 192), (0, (i : Int))]) (S' := [(2, 1)]) r_316_427 rfl rfl rfl ?_
  refine gx_st (L' := [(2, 0), (2, 1), (2, 192), (0, (i : Int))]) (S' := [(2, 0), (2, 1)]) r_316_428 rfl rfl rfl ?_
  refine gx_st (L' := [(2, 0), (2, 1), (2, 192), (0, (i : Int))]) (S' := [(0, (i : Int)), (2, 0), (2, 1)]) r_316_429 rfl rfl rfl ?_
  refine gx_st (L' := [(2, 0), (2, 1), (2, 192), (0, (i : Int))]) (S' := [(0, 1), (0, (i : Int)), (2, 0), (2, 1)]) r_316_430 rfl rfl rfl ?_
  refine gx_ar (L' := [(2, 0), (2, 1), (2, 192), (0, (i : Int))]) (S' := [(2, 0), (2, 1)]) (t := 0) (e := w32 ((i : Int) + 1)) (z := (i : Int) + 1) r_316_431 rfl rfl rfl (w32_eq (by omega) (by omega) (by omega)) ?_
  refine gx_ia (n := i + 1) (x := s1) r_316_432 rfl h0 (by omega) ⟨rfl, by show i + 1 < L; omega⟩ ((hl.2.2.1 (i + 1)).trans e_s1.symm) ?_
  show GX T 1000 316 433 [(2, 0), (2, 1), (2, 192), (0, (i : Int))] [(0, s1), (2, 1)] m (fun v _ => v = (0, 1))
  refine gx_ci (nx := 436) (S2 := []) (gx_hi (args := [(2, 1), (0, s1)]) (pk_4 hT) ⟨gq_o1, gq_any (by omega) (by omega), trivial⟩ hl.1 rfl) r_316_433 rfl rfl rfl rfl rfl (rcv_v rfl (tk_1 hT) (by decide) rfl (by decide)) rfl (by decide) rfl (fun x433 n433 q433 => ?_)
  show GX T 1000 316 436 [(2, 0), (2, 1), (2, 192), (0, (i : Int))] [(0, x433)] n433 (fun v _ => v = (0, 1))
  have ex_n433 : Ext n433 := Ext_fr q433.2.2.2 (by decide) hl.2.1
  have sc_n433 := sc_fr q433.2.2.2 (by decide) hl.2.2.1
  have rl_n433 : RelR n433 := Rel_fr q433.2.2.2 (by decide) (by decide) (by decide) (by decide) (by decide) (by decide) (by decide) (by decide) hl.2.2.2
  refine gx_st (L' := [(2, 0), (2, 1), (2, 192), (0, (i : Int))]) (S' := []) r_316_436 rfl rfl rfl ?_
  refine gx_st (L' := [(2, 0), (2, 1), (2, 192), (0, (i : Int))]) (S' := [(2, 192)]) r_316_437 rfl rfl rfl ?_
  refine gx_st (L' := [(2, 0), (2, 1), (2, 192), (0, (i : Int))]) (S' := [(2, 0), (2, 192)]) r_316_438 rfl rfl rfl ?_
  refine gx_st (L' := [(2, 0), (2, 1), (2, 192), (0, (i : Int))]) (S' := [(0, (i : Int)), (2, 0), (2, 192)]) r_316_439 rfl rfl rfl ?_
  refine gx_st (L' := [(2, 0), (2, 1), (2, 192), (0, (i : Int))]) (S' := [(0, 1), (0, (i : Int)), (2, 0), (2, 192)]) r_316_440 rfl rfl rfl ?_
  refine gx_ar (L' := [(2, 0), (2, 1), (2, 192), (0, (i : Int))]) (S' := [(2, 0), (2, 192)]) (t := 0) (e := w32 ((i : Int) + 1)) (z := (i : Int) + 1) r_316_441 rfl rfl rfl (w32_eq (by omega) (by omega) (by omega)) ?_
  refine gx_ia (n := i + 1) (x := s1) r_316_442 rfl h0 (by omega) ⟨rfl, by show i + 1 < L; omega⟩ ((sc_n433 (i + 1)).trans e_s1.symm) ?_
  show GX T 1000 316 443 [(2, 0), (2, 1), (2, 192), (0, (i : Int))] [(0, s1), (2, 192)] n433 (fun v _ => v = (0, 1))
  refine gx_ci (nx := 446) (S2 := []) (gx_hi (args := [(2, 192), (0, s1)]) (pk_111 hT) ⟨gq_o192, gq_any (by omega) (by omega), trivial⟩ q433.2.2.1 rfl) r_316_443 rfl rfl rfl rfl rfl (rcv_v rfl (tk_192 hT) (by decide) rfl (by decide)) rfl (by decide) rfl (fun x443 n443 q443 => ?_)
  show GX T 1000 316 446 [(2, 0), (2, 1), (2, 192), (0, (i : Int))] [(0, x443)] n443 (fun v _ => v = (0, 1))
  have ex_n443 : Ext n443 := Ext_fr q443.2.2.2 (by decide) ex_n433
  have sc_n443 := sc_fr q443.2.2.2 (by decide) sc_n433
  have rl_n443 : RelR n443 := Rel_fr q443.2.2.2 (by decide) (by decide) (by decide) (by decide) (by decide) (by decide) (by decide) (by decide) rl_n433
  refine gx_st (L' := [(2, 0), (2, 1), (2, 192), (0, (i : Int))]) (S' := []) r_316_446 rfl rfl rfl ?_
  refine gx_st (L' := [(2, 0), (2, 1), (2, 192), (0, (i : Int))]) (S' := []) r_316_447 rfl rfl rfl ?_
  exact hnext n443 ⟨q443.2.2.1, ex_n443, sc_n443, rl_n443⟩
theorem pk_5 (hT : TT T) : ConH T cn_5 := fun args m => ((all_con hT 283).1 (by decide)) cn_5 cx_5 args m
theorem pk_119 (hT : TT T) : ConH T cn_119 := fun args m => ((all_con hT 649).1 (by decide)) cn_119 cx_119 args m
theorem case_4 (hT : TT T) (h0 : T[0]? = some (100, L)) (hL : L ≤ 3072) (hi : i + 6 ≤ L) (hl : LI xs m) (hnext : ∀ m, LI xs m → GX T 1000 316 2098 [(2, 0), (2, 1), (2, 192), (0, (i : Int))] [] m (fun v _ => v = (0, 1))) : GX T 1000 316 450 [(2, 0), (2, 1), (2, 192), (0, (i : Int))] [] m (fun v _ => v = (0, 1)) := by
  obtain ⟨s1, e_s1⟩ : ∃ z, z = (xs (i + 1)).toInt := ⟨_, rfl⟩
  have b_s1 := i32_in (xs (i + 1))
  rw [← e_s1] at b_s1
  unfold in32 at b_s1
  obtain ⟨s2, e_s2⟩ : ∃ z, z = (xs (i + 2)).toInt := ⟨_, rfl⟩
  have b_s2 := i32_in (xs (i + 2))
  rw [← e_s2] at b_s2
  unfold in32 at b_s2
  obtain ⟨s3, e_s3⟩ : ∃ z, z = (xs (i + 3)).toInt := ⟨_, rfl⟩
  have b_s3 := i32_in (xs (i + 3))
  rw [← e_s3] at b_s3
  unfold in32 at b_s3
  obtain ⟨s4, e_s4⟩ : ∃ z, z = (xs (i + 4)).toInt := ⟨_, rfl⟩
  have b_s4 := i32_in (xs (i + 4))
  rw [← e_s4] at b_s4
  unfold in32 at b_s4
  obtain ⟨s5, e_s5⟩ : ∃ z, z = (xs (i + 5)).toInt := ⟨_, rfl⟩
  have b_s5 := i32_in (xs (i + 5))
  rw [← e_s5] at b_s5
  unfold in32 at b_s5
  refine gx_st (L' := [(2, 0), (2, 1), (2, 192), (0, (i : Int))]) (S' := [(2, 1)]) r_316_450 rfl rfl rfl ?_
  refine gx_st (L' := [(2, 0), (2, 1), (2, 192), (0, (i : Int))]) (S' := [(2, 0), (2, 1)]) r_316_451 rfl rfl rfl ?_
  refine gx_st (L' := [(2, 0), (2, 1), (2, 192), (0, (i : Int))]) (S' := [(0, (i : Int)), (2, 0), (2, 1)]) r_316_452 rfl rfl rfl ?_
  refine gx_st (L' := [(2, 0), (2, 1), (2, 192), (0, (i : Int))]) (S' := [(0, 1), (0, (i : Int)), (2, 0), (2, 1)]) r_316_453 rfl rfl rfl ?_
  refine gx_ar (L' := [(2, 0), (2, 1), (2, 192), (0, (i : Int))]) (S' := [(2, 0), (2, 1)]) (t := 0) (e := w32 ((i : Int) + 1)) (z := (i : Int) + 1) r_316_454 rfl rfl rfl (w32_eq (by omega) (by omega) (by omega)) ?_
  refine gx_ia (n := i + 1) (x := s1) r_316_455 rfl h0 (by omega) ⟨rfl, by show i + 1 < L; omega⟩ ((hl.2.2.1 (i + 1)).trans e_s1.symm) ?_
  show GX T 1000 316 456 [(2, 0), (2, 1), (2, 192), (0, (i : Int))] [(0, s1), (2, 1)] m (fun v _ => v = (0, 1))
  refine gx_st (L' := [(2, 0), (2, 1), (2, 192), (0, (i : Int))]) (S' := [(2, 0), (0, s1), (2, 1)]) r_316_456 rfl rfl rfl ?_
  refine gx_st (L' := [(2, 0), (2, 1), (2, 192), (0, (i : Int))]) (S' := [(0, (i : Int)), (2, 0), (0, s1), (2, 1)]) r_316_457 rfl rfl rfl ?_
  refine gx_st (L' := [(2, 0), (2, 1), (2, 192), (0, (i : Int))]) (S' := [(0, 2), (0, (i : Int)), (2, 0), (0, s1), (2, 1)]) r_316_458 rfl rfl rfl ?_
  refine gx_ar (L' := [(2, 0), (2, 1), (2, 192), (0, (i : Int))]) (S' := [(2, 0), (0, s1), (2, 1)]) (t := 0) (e := w32 ((i : Int) + 2)) (z := (i : Int) + 2) r_316_459 rfl rfl rfl (w32_eq (by omega) (by omega) (by omega)) ?_
  refine gx_ia (n := i + 2) (x := s2) r_316_460 rfl h0 (by omega) ⟨rfl, by show i + 2 < L; omega⟩ ((hl.2.2.1 (i + 2)).trans e_s2.symm) ?_
  show GX T 1000 316 461 [(2, 0), (2, 1), (2, 192), (0, (i : Int))] [(0, s2), (0, s1), (2, 1)] m (fun v _ => v = (0, 1))
  refine gx_ci (nx := 464) (S2 := []) (gx_hi (args := [(2, 1), (0, s1), (0, s2)]) (pk_5 hT) ⟨gq_o1, gq_any (by omega) (by omega), gq_any (by omega) (by omega), trivial⟩ hl.1 rfl) r_316_461 rfl rfl rfl rfl rfl (rcv_v rfl (tk_1 hT) (by decide) rfl (by decide)) rfl (by decide) rfl (fun x461 n461 q461 => ?_)
  show GX T 1000 316 464 [(2, 0), (2, 1), (2, 192), (0, (i : Int))] [(0, x461)] n461 (fun v _ => v = (0, 1))
  have ex_n461 : Ext n461 := Ext_fr q461.2.2.2 (by decide) hl.2.1
  have sc_n461 := sc_fr q461.2.2.2 (by decide) hl.2.2.1
  have rl_n461 : RelR n461 := Rel_fr q461.2.2.2 (by decide) (by decide) (by decide) (by decide) (by decide) (by decide) (by decide) (by decide) hl.2.2.2
  refine gx_st (L' := [(2, 0), (2, 1), (2, 192), (0, (i : Int))]) (S' := []) r_316_464 rfl rfl rfl ?_
  refine gx_st (L' := [(2, 0), (2, 1), (2, 192), (0, (i : Int))]) (S' := [(2, 192)]) r_316_465 rfl rfl rfl ?_
  refine gx_st (L' := [(2, 0), (2, 1), (2, 192), (0, (i : Int))]) (S' := [(2, 0), (2, 192)]) r_316_466 rfl rfl rfl ?_
  refine gx_st (L' := [(2, 0), (2, 1), (2, 192), (0, (i : Int))]) (S' := [(0, (i : Int)), (2, 0), (2, 192)]) r_316_467 rfl rfl rfl ?_
  refine gx_st (L' := [(2, 0), (2, 1), (2, 192), (0, (i : Int))]) (S' := [(0, 1), (0, (i : Int)), (2, 0), (2, 192)]) r_316_468 rfl rfl rfl ?_
  refine gx_ar (L' := [(2, 0), (2, 1), (2, 192), (0, (i : Int))]) (S' := [(2, 0), (2, 192)]) (t := 0) (e := w32 ((i : Int) + 1)) (z := (i : Int) + 1) r_316_469 rfl rfl rfl (w32_eq (by omega) (by omega) (by omega)) ?_
  refine gx_ia (n := i + 1) (x := s1) r_316_470 rfl h0 (by omega) ⟨rfl, by show i + 1 < L; omega⟩ ((sc_n461 (i + 1)).trans e_s1.symm) ?_
  show GX T 1000 316 471 [(2, 0), (2, 1), (2, 192), (0, (i : Int))] [(0, s1), (2, 192)] n461 (fun v _ => v = (0, 1))
  refine gx_st (L' := [(2, 0), (2, 1), (2, 192), (0, (i : Int))]) (S' := [(2, 0), (0, s1), (2, 192)]) r_316_471 rfl rfl rfl ?_
  refine gx_st (L' := [(2, 0), (2, 1), (2, 192), (0, (i : Int))]) (S' := [(0, (i : Int)), (2, 0), (0, s1), (2, 192)]) r_316_472 rfl rfl rfl ?_
  refine gx_st (L' := [(2, 0), (2, 1), (2, 192), (0, (i : Int))]) (S' := [(0, 2), (0, (i : Int)), (2, 0), (0, s1), (2, 192)]) r_316_473 rfl rfl rfl ?_
  refine gx_ar (L' := [(2, 0), (2, 1), (2, 192), (0, (i : Int))]) (S' := [(2, 0), (0, s1), (2, 192)]) (t := 0) (e := w32 ((i : Int) + 2)) (z := (i : Int) + 2) r_316_474 rfl rfl rfl (w32_eq (by omega) (by omega) (by omega)) ?_
  refine gx_ia (n := i + 2) (x := s2) r_316_475 rfl h0 (by omega) ⟨rfl, by show i + 2 < L; omega⟩ ((sc_n461 (i + 2)).trans e_s2.symm) ?_
  show GX T 1000 316 476 [(2, 0), (2, 1), (2, 192), (0, (i : Int))] [(0, s2), (0, s1), (2, 192)] n461 (fun v _ => v = (0, 1))
  refine gx_ci (nx := 479) (S2 := []) (gx_hi (args := [(2, 192), (0, s1), (0, s2)]) (pk_119 hT) ⟨gq_o192, gq_any (by omega) (by omega), gq_any (by omega) (by omega), trivial⟩ q461.2.2.1 rfl) r_316_476 rfl rfl rfl rfl rfl (rcv_v rfl (tk_192 hT) (by decide) rfl (by decide)) rfl (by decide) rfl (fun x476 n476 q476 => ?_)
  show GX T 1000 316 479 [(2, 0), (2, 1), (2, 192), (0, (i : Int))] [(0, x476)] n476 (fun v _ => v = (0, 1))
  have ex_n476 : Ext n476 := Ext_fr q476.2.2.2 (by decide) ex_n461
  have sc_n476 := sc_fr q476.2.2.2 (by decide) sc_n461
  have rl_n476 : RelR n476 := Rel_fr q476.2.2.2 (by decide) (by decide) (by decide) (by decide) (by decide) (by decide) (by decide) (by decide) rl_n461
  refine gx_st (L' := [(2, 0), (2, 1), (2, 192), (0, (i : Int))]) (S' := []) r_316_479 rfl rfl rfl ?_
  refine gx_st (L' := [(2, 0), (2, 1), (2, 192), (0, (i : Int))]) (S' := []) r_316_480 rfl rfl rfl ?_
  exact hnext n476 ⟨q476.2.2.1, ex_n476, sc_n476, rl_n476⟩
theorem pk_6 (hT : TT T) : ConH T cn_6 := fun args m => ((all_con hT 284).1 (by decide)) cn_6 cx_6 args m
theorem pk_120 (hT : TT T) : ConH T cn_120 := fun args m => ((all_con hT 668).1 (by decide)) cn_120 cx_120 args m
theorem case_5 (hT : TT T) (h0 : T[0]? = some (100, L)) (hL : L ≤ 3072) (hi : i + 6 ≤ L) (hl : LI xs m) (hnext : ∀ m, LI xs m → GX T 1000 316 2098 [(2, 0), (2, 1), (2, 192), (0, (i : Int))] [] m (fun v _ => v = (0, 1))) : GX T 1000 316 483 [(2, 0), (2, 1), (2, 192), (0, (i : Int))] [] m (fun v _ => v = (0, 1)) := by
  obtain ⟨s1, e_s1⟩ : ∃ z, z = (xs (i + 1)).toInt := ⟨_, rfl⟩
  have b_s1 := i32_in (xs (i + 1))
  rw [← e_s1] at b_s1
  unfold in32 at b_s1
  obtain ⟨s2, e_s2⟩ : ∃ z, z = (xs (i + 2)).toInt := ⟨_, rfl⟩
  have b_s2 := i32_in (xs (i + 2))
  rw [← e_s2] at b_s2
  unfold in32 at b_s2
  obtain ⟨s3, e_s3⟩ : ∃ z, z = (xs (i + 3)).toInt := ⟨_, rfl⟩
  have b_s3 := i32_in (xs (i + 3))
  rw [← e_s3] at b_s3
  unfold in32 at b_s3
  obtain ⟨s4, e_s4⟩ : ∃ z, z = (xs (i + 4)).toInt := ⟨_, rfl⟩
  have b_s4 := i32_in (xs (i + 4))
  rw [← e_s4] at b_s4
  unfold in32 at b_s4
  obtain ⟨s5, e_s5⟩ : ∃ z, z = (xs (i + 5)).toInt := ⟨_, rfl⟩
  have b_s5 := i32_in (xs (i + 5))
  rw [← e_s5] at b_s5
  unfold in32 at b_s5
  refine gx_st (L' := [(2, 0), (2, 1), (2, 192), (0, (i : Int))]) (S' := [(2, 1)]) r_316_483 rfl rfl rfl ?_
  refine gx_st (L' := [(2, 0), (2, 1), (2, 192), (0, (i : Int))]) (S' := [(2, 0), (2, 1)]) r_316_484 rfl rfl rfl ?_
  refine gx_st (L' := [(2, 0), (2, 1), (2, 192), (0, (i : Int))]) (S' := [(0, (i : Int)), (2, 0), (2, 1)]) r_316_485 rfl rfl rfl ?_
  refine gx_st (L' := [(2, 0), (2, 1), (2, 192), (0, (i : Int))]) (S' := [(0, 1), (0, (i : Int)), (2, 0), (2, 1)]) r_316_486 rfl rfl rfl ?_
  refine gx_ar (L' := [(2, 0), (2, 1), (2, 192), (0, (i : Int))]) (S' := [(2, 0), (2, 1)]) (t := 0) (e := w32 ((i : Int) + 1)) (z := (i : Int) + 1) r_316_487 rfl rfl rfl (w32_eq (by omega) (by omega) (by omega)) ?_
  refine gx_ia (n := i + 1) (x := s1) r_316_488 rfl h0 (by omega) ⟨rfl, by show i + 1 < L; omega⟩ ((hl.2.2.1 (i + 1)).trans e_s1.symm) ?_
  show GX T 1000 316 489 [(2, 0), (2, 1), (2, 192), (0, (i : Int))] [(0, s1), (2, 1)] m (fun v _ => v = (0, 1))
  refine gx_st (L' := [(2, 0), (2, 1), (2, 192), (0, (i : Int))]) (S' := [(2, 0), (0, s1), (2, 1)]) r_316_489 rfl rfl rfl ?_
  refine gx_st (L' := [(2, 0), (2, 1), (2, 192), (0, (i : Int))]) (S' := [(0, (i : Int)), (2, 0), (0, s1), (2, 1)]) r_316_490 rfl rfl rfl ?_
  refine gx_st (L' := [(2, 0), (2, 1), (2, 192), (0, (i : Int))]) (S' := [(0, 2), (0, (i : Int)), (2, 0), (0, s1), (2, 1)]) r_316_491 rfl rfl rfl ?_
  refine gx_ar (L' := [(2, 0), (2, 1), (2, 192), (0, (i : Int))]) (S' := [(2, 0), (0, s1), (2, 1)]) (t := 0) (e := w32 ((i : Int) + 2)) (z := (i : Int) + 2) r_316_492 rfl rfl rfl (w32_eq (by omega) (by omega) (by omega)) ?_
  refine gx_ia (n := i + 2) (x := s2) r_316_493 rfl h0 (by omega) ⟨rfl, by show i + 2 < L; omega⟩ ((hl.2.2.1 (i + 2)).trans e_s2.symm) ?_
  show GX T 1000 316 494 [(2, 0), (2, 1), (2, 192), (0, (i : Int))] [(0, s2), (0, s1), (2, 1)] m (fun v _ => v = (0, 1))
  refine gx_ci (nx := 497) (S2 := []) (gx_hi (args := [(2, 1), (0, s1), (0, s2)]) (pk_6 hT) ⟨gq_o1, gq_any (by omega) (by omega), gq_any (by omega) (by omega), trivial⟩ hl.1 rfl) r_316_494 rfl rfl rfl rfl rfl (rcv_v rfl (tk_1 hT) (by decide) rfl (by decide)) rfl (by decide) rfl (fun x494 n494 q494 => ?_)
  show GX T 1000 316 497 [(2, 0), (2, 1), (2, 192), (0, (i : Int))] [(0, x494)] n494 (fun v _ => v = (0, 1))
  have ex_n494 : Ext n494 := Ext_fr q494.2.2.2 (by decide) hl.2.1
  have sc_n494 := sc_fr q494.2.2.2 (by decide) hl.2.2.1
  have rl_n494 : RelR n494 := Rel_fr q494.2.2.2 (by decide) (by decide) (by decide) (by decide) (by decide) (by decide) (by decide) (by decide) hl.2.2.2
  refine gx_st (L' := [(2, 0), (2, 1), (2, 192), (0, (i : Int))]) (S' := []) r_316_497 rfl rfl rfl ?_
  refine gx_st (L' := [(2, 0), (2, 1), (2, 192), (0, (i : Int))]) (S' := [(2, 192)]) r_316_498 rfl rfl rfl ?_
  refine gx_st (L' := [(2, 0), (2, 1), (2, 192), (0, (i : Int))]) (S' := [(2, 0), (2, 192)]) r_316_499 rfl rfl rfl ?_
  refine gx_st (L' := [(2, 0), (2, 1), (2, 192), (0, (i : Int))]) (S' := [(0, (i : Int)), (2, 0), (2, 192)]) r_316_500 rfl rfl rfl ?_
  refine gx_st (L' := [(2, 0), (2, 1), (2, 192), (0, (i : Int))]) (S' := [(0, 1), (0, (i : Int)), (2, 0), (2, 192)]) r_316_501 rfl rfl rfl ?_
  refine gx_ar (L' := [(2, 0), (2, 1), (2, 192), (0, (i : Int))]) (S' := [(2, 0), (2, 192)]) (t := 0) (e := w32 ((i : Int) + 1)) (z := (i : Int) + 1) r_316_502 rfl rfl rfl (w32_eq (by omega) (by omega) (by omega)) ?_
  refine gx_ia (n := i + 1) (x := s1) r_316_503 rfl h0 (by omega) ⟨rfl, by show i + 1 < L; omega⟩ ((sc_n494 (i + 1)).trans e_s1.symm) ?_
  show GX T 1000 316 504 [(2, 0), (2, 1), (2, 192), (0, (i : Int))] [(0, s1), (2, 192)] n494 (fun v _ => v = (0, 1))
  refine gx_st (L' := [(2, 0), (2, 1), (2, 192), (0, (i : Int))]) (S' := [(2, 0), (0, s1), (2, 192)]) r_316_504 rfl rfl rfl ?_
  refine gx_st (L' := [(2, 0), (2, 1), (2, 192), (0, (i : Int))]) (S' := [(0, (i : Int)), (2, 0), (0, s1), (2, 192)]) r_316_505 rfl rfl rfl ?_
  refine gx_st (L' := [(2, 0), (2, 1), (2, 192), (0, (i : Int))]) (S' := [(0, 2), (0, (i : Int)), (2, 0), (0, s1), (2, 192)]) r_316_506 rfl rfl rfl ?_
  refine gx_ar (L' := [(2, 0), (2, 1), (2, 192), (0, (i : Int))]) (S' := [(2, 0), (0, s1), (2, 192)]) (t := 0) (e := w32 ((i : Int) + 2)) (z := (i : Int) + 2) r_316_507 rfl rfl rfl (w32_eq (by omega) (by omega) (by omega)) ?_
  refine gx_ia (n := i + 2) (x := s2) r_316_508 rfl h0 (by omega) ⟨rfl, by show i + 2 < L; omega⟩ ((sc_n494 (i + 2)).trans e_s2.symm) ?_
  show GX T 1000 316 509 [(2, 0), (2, 1), (2, 192), (0, (i : Int))] [(0, s2), (0, s1), (2, 192)] n494 (fun v _ => v = (0, 1))
  refine gx_ci (nx := 512) (S2 := []) (gx_hi (args := [(2, 192), (0, s1), (0, s2)]) (pk_120 hT) ⟨gq_o192, gq_any (by omega) (by omega), gq_any (by omega) (by omega), trivial⟩ q494.2.2.1 rfl) r_316_509 rfl rfl rfl rfl rfl (rcv_v rfl (tk_192 hT) (by decide) rfl (by decide)) rfl (by decide) rfl (fun x509 n509 q509 => ?_)
  show GX T 1000 316 512 [(2, 0), (2, 1), (2, 192), (0, (i : Int))] [(0, x509)] n509 (fun v _ => v = (0, 1))
  have ex_n509 : Ext n509 := Ext_fr q509.2.2.2 (by decide) ex_n494
  have sc_n509 := sc_fr q509.2.2.2 (by decide) sc_n494
  have rl_n509 : RelR n509 := Rel_fr q509.2.2.2 (by decide) (by decide) (by decide) (by decide) (by decide) (by decide) (by decide) (by decide) rl_n494
  refine gx_st (L' := [(2, 0), (2, 1), (2, 192), (0, (i : Int))]) (S' := []) r_316_512 rfl rfl rfl ?_
  refine gx_st (L' := [(2, 0), (2, 1), (2, 192), (0, (i : Int))]) (S' := []) r_316_513 rfl rfl rfl ?_
  exact hnext n509 ⟨q509.2.2.1, ex_n509, sc_n509, rl_n509⟩
theorem pk_7 (hT : TT T) : ConH T cn_7 := fun args m => ((all_con hT 285).1 (by decide)) cn_7 cx_7 args m
theorem pk_121 (hT : TT T) : ConH T cn_121 := fun args m => ((all_con hT 684).1 (by decide)) cn_121 cx_121 args m
theorem case_6 (hT : TT T) (h0 : T[0]? = some (100, L)) (hL : L ≤ 3072) (hi : i + 6 ≤ L) (hl : LI xs m) (hnext : ∀ m, LI xs m → GX T 1000 316 2098 [(2, 0), (2, 1), (2, 192), (0, (i : Int))] [] m (fun v _ => v = (0, 1))) : GX T 1000 316 516 [(2, 0), (2, 1), (2, 192), (0, (i : Int))] [] m (fun v _ => v = (0, 1)) := by
  obtain ⟨s1, e_s1⟩ : ∃ z, z = (xs (i + 1)).toInt := ⟨_, rfl⟩
  have b_s1 := i32_in (xs (i + 1))
  rw [← e_s1] at b_s1
  unfold in32 at b_s1
  obtain ⟨s2, e_s2⟩ : ∃ z, z = (xs (i + 2)).toInt := ⟨_, rfl⟩
  have b_s2 := i32_in (xs (i + 2))
  rw [← e_s2] at b_s2
  unfold in32 at b_s2
  obtain ⟨s3, e_s3⟩ : ∃ z, z = (xs (i + 3)).toInt := ⟨_, rfl⟩
  have b_s3 := i32_in (xs (i + 3))
  rw [← e_s3] at b_s3
  unfold in32 at b_s3
  obtain ⟨s4, e_s4⟩ : ∃ z, z = (xs (i + 4)).toInt := ⟨_, rfl⟩
  have b_s4 := i32_in (xs (i + 4))
  rw [← e_s4] at b_s4
  unfold in32 at b_s4
  obtain ⟨s5, e_s5⟩ : ∃ z, z = (xs (i + 5)).toInt := ⟨_, rfl⟩
  have b_s5 := i32_in (xs (i + 5))
  rw [← e_s5] at b_s5
  unfold in32 at b_s5
  refine gx_st (L' := [(2, 0), (2, 1), (2, 192), (0, (i : Int))]) (S' := [(2, 1)]) r_316_516 rfl rfl rfl ?_
  refine gx_st (L' := [(2, 0), (2, 1), (2, 192), (0, (i : Int))]) (S' := [(2, 0), (2, 1)]) r_316_517 rfl rfl rfl ?_
  refine gx_st (L' := [(2, 0), (2, 1), (2, 192), (0, (i : Int))]) (S' := [(0, (i : Int)), (2, 0), (2, 1)]) r_316_518 rfl rfl rfl ?_
  refine gx_st (L' := [(2, 0), (2, 1), (2, 192), (0, (i : Int))]) (S' := [(0, 1), (0, (i : Int)), (2, 0), (2, 1)]) r_316_519 rfl rfl rfl ?_
  refine gx_ar (L' := [(2, 0), (2, 1), (2, 192), (0, (i : Int))]) (S' := [(2, 0), (2, 1)]) (t := 0) (e := w32 ((i : Int) + 1)) (z := (i : Int) + 1) r_316_520 rfl rfl rfl (w32_eq (by omega) (by omega) (by omega)) ?_
  refine gx_ia (n := i + 1) (x := s1) r_316_521 rfl h0 (by omega) ⟨rfl, by show i + 1 < L; omega⟩ ((hl.2.2.1 (i + 1)).trans e_s1.symm) ?_
  show GX T 1000 316 522 [(2, 0), (2, 1), (2, 192), (0, (i : Int))] [(0, s1), (2, 1)] m (fun v _ => v = (0, 1))
  refine gx_st (L' := [(2, 0), (2, 1), (2, 192), (0, (i : Int))]) (S' := [(2, 0), (0, s1), (2, 1)]) r_316_522 rfl rfl rfl ?_
  refine gx_st (L' := [(2, 0), (2, 1), (2, 192), (0, (i : Int))]) (S' := [(0, (i : Int)), (2, 0), (0, s1), (2, 1)]) r_316_523 rfl rfl rfl ?_
  refine gx_st (L' := [(2, 0), (2, 1), (2, 192), (0, (i : Int))]) (S' := [(0, 2), (0, (i : Int)), (2, 0), (0, s1), (2, 1)]) r_316_524 rfl rfl rfl ?_
  refine gx_ar (L' := [(2, 0), (2, 1), (2, 192), (0, (i : Int))]) (S' := [(2, 0), (0, s1), (2, 1)]) (t := 0) (e := w32 ((i : Int) + 2)) (z := (i : Int) + 2) r_316_525 rfl rfl rfl (w32_eq (by omega) (by omega) (by omega)) ?_
  refine gx_ia (n := i + 2) (x := s2) r_316_526 rfl h0 (by omega) ⟨rfl, by show i + 2 < L; omega⟩ ((hl.2.2.1 (i + 2)).trans e_s2.symm) ?_
  show GX T 1000 316 527 [(2, 0), (2, 1), (2, 192), (0, (i : Int))] [(0, s2), (0, s1), (2, 1)] m (fun v _ => v = (0, 1))
  refine gx_ci (nx := 530) (S2 := []) (gx_hi (args := [(2, 1), (0, s1), (0, s2)]) (pk_7 hT) ⟨gq_o1, gq_any (by omega) (by omega), gq_any (by omega) (by omega), trivial⟩ hl.1 rfl) r_316_527 rfl rfl rfl rfl rfl (rcv_v rfl (tk_1 hT) (by decide) rfl (by decide)) rfl (by decide) rfl (fun x527 n527 q527 => ?_)
  show GX T 1000 316 530 [(2, 0), (2, 1), (2, 192), (0, (i : Int))] [(0, x527)] n527 (fun v _ => v = (0, 1))
  have ex_n527 : Ext n527 := Ext_fr q527.2.2.2 (by decide) hl.2.1
  have sc_n527 := sc_fr q527.2.2.2 (by decide) hl.2.2.1
  have rl_n527 : RelR n527 := Rel_fr q527.2.2.2 (by decide) (by decide) (by decide) (by decide) (by decide) (by decide) (by decide) (by decide) hl.2.2.2
  refine gx_st (L' := [(2, 0), (2, 1), (2, 192), (0, (i : Int))]) (S' := []) r_316_530 rfl rfl rfl ?_
  refine gx_st (L' := [(2, 0), (2, 1), (2, 192), (0, (i : Int))]) (S' := [(2, 192)]) r_316_531 rfl rfl rfl ?_
  refine gx_st (L' := [(2, 0), (2, 1), (2, 192), (0, (i : Int))]) (S' := [(2, 0), (2, 192)]) r_316_532 rfl rfl rfl ?_
  refine gx_st (L' := [(2, 0), (2, 1), (2, 192), (0, (i : Int))]) (S' := [(0, (i : Int)), (2, 0), (2, 192)]) r_316_533 rfl rfl rfl ?_
  refine gx_st (L' := [(2, 0), (2, 1), (2, 192), (0, (i : Int))]) (S' := [(0, 1), (0, (i : Int)), (2, 0), (2, 192)]) r_316_534 rfl rfl rfl ?_
  refine gx_ar (L' := [(2, 0), (2, 1), (2, 192), (0, (i : Int))]) (S' := [(2, 0), (2, 192)]) (t := 0) (e := w32 ((i : Int) + 1)) (z := (i : Int) + 1) r_316_535 rfl rfl rfl (w32_eq (by omega) (by omega) (by omega)) ?_
  refine gx_ia (n := i + 1) (x := s1) r_316_536 rfl h0 (by omega) ⟨rfl, by show i + 1 < L; omega⟩ ((sc_n527 (i + 1)).trans e_s1.symm) ?_
  show GX T 1000 316 537 [(2, 0), (2, 1), (2, 192), (0, (i : Int))] [(0, s1), (2, 192)] n527 (fun v _ => v = (0, 1))
  refine gx_st (L' := [(2, 0), (2, 1), (2, 192), (0, (i : Int))]) (S' := [(2, 0), (0, s1), (2, 192)]) r_316_537 rfl rfl rfl ?_
  refine gx_st (L' := [(2, 0), (2, 1), (2, 192), (0, (i : Int))]) (S' := [(0, (i : Int)), (2, 0), (0, s1), (2, 192)]) r_316_538 rfl rfl rfl ?_
  refine gx_st (L' := [(2, 0), (2, 1), (2, 192), (0, (i : Int))]) (S' := [(0, 2), (0, (i : Int)), (2, 0), (0, s1), (2, 192)]) r_316_539 rfl rfl rfl ?_
  refine gx_ar (L' := [(2, 0), (2, 1), (2, 192), (0, (i : Int))]) (S' := [(2, 0), (0, s1), (2, 192)]) (t := 0) (e := w32 ((i : Int) + 2)) (z := (i : Int) + 2) r_316_540 rfl rfl rfl (w32_eq (by omega) (by omega) (by omega)) ?_
  refine gx_ia (n := i + 2) (x := s2) r_316_541 rfl h0 (by omega) ⟨rfl, by show i + 2 < L; omega⟩ ((sc_n527 (i + 2)).trans e_s2.symm) ?_
  show GX T 1000 316 542 [(2, 0), (2, 1), (2, 192), (0, (i : Int))] [(0, s2), (0, s1), (2, 192)] n527 (fun v _ => v = (0, 1))
  refine gx_ci (nx := 545) (S2 := []) (gx_hi (args := [(2, 192), (0, s1), (0, s2)]) (pk_121 hT) ⟨gq_o192, gq_any (by omega) (by omega), gq_any (by omega) (by omega), trivial⟩ q527.2.2.1 rfl) r_316_542 rfl rfl rfl rfl rfl (rcv_v rfl (tk_192 hT) (by decide) rfl (by decide)) rfl (by decide) rfl (fun x542 n542 q542 => ?_)
  show GX T 1000 316 545 [(2, 0), (2, 1), (2, 192), (0, (i : Int))] [(0, x542)] n542 (fun v _ => v = (0, 1))
  have ex_n542 : Ext n542 := Ext_fr q542.2.2.2 (by decide) ex_n527
  have sc_n542 := sc_fr q542.2.2.2 (by decide) sc_n527
  have rl_n542 : RelR n542 := Rel_fr q542.2.2.2 (by decide) (by decide) (by decide) (by decide) (by decide) (by decide) (by decide) (by decide) rl_n527
  refine gx_st (L' := [(2, 0), (2, 1), (2, 192), (0, (i : Int))]) (S' := []) r_316_545 rfl rfl rfl ?_
  refine gx_st (L' := [(2, 0), (2, 1), (2, 192), (0, (i : Int))]) (S' := []) r_316_546 rfl rfl rfl ?_
  exact hnext n542 ⟨q542.2.2.1, ex_n542, sc_n542, rl_n542⟩
theorem pk_8 (hT : TT T) : ConH T cn_8 := fun args m => ((all_con hT 287).1 (by decide)) cn_8 cx_8 args m
theorem pk_122 (hT : TT T) : ConH T cn_122 := fun args m => ((all_con hT 685).1 (by decide)) cn_122 cx_122 args m
theorem case_7 (hT : TT T) (h0 : T[0]? = some (100, L)) (hL : L ≤ 3072) (hi : i + 6 ≤ L) (hl : LI xs m) (hnext : ∀ m, LI xs m → GX T 1000 316 2098 [(2, 0), (2, 1), (2, 192), (0, (i : Int))] [] m (fun v _ => v = (0, 1))) : GX T 1000 316 549 [(2, 0), (2, 1), (2, 192), (0, (i : Int))] [] m (fun v _ => v = (0, 1)) := by
  obtain ⟨s1, e_s1⟩ : ∃ z, z = (xs (i + 1)).toInt := ⟨_, rfl⟩
  have b_s1 := i32_in (xs (i + 1))
  rw [← e_s1] at b_s1
  unfold in32 at b_s1
  obtain ⟨s2, e_s2⟩ : ∃ z, z = (xs (i + 2)).toInt := ⟨_, rfl⟩
  have b_s2 := i32_in (xs (i + 2))
  rw [← e_s2] at b_s2
  unfold in32 at b_s2
  obtain ⟨s3, e_s3⟩ : ∃ z, z = (xs (i + 3)).toInt := ⟨_, rfl⟩
  have b_s3 := i32_in (xs (i + 3))
  rw [← e_s3] at b_s3
  unfold in32 at b_s3
  obtain ⟨s4, e_s4⟩ : ∃ z, z = (xs (i + 4)).toInt := ⟨_, rfl⟩
  have b_s4 := i32_in (xs (i + 4))
  rw [← e_s4] at b_s4
  unfold in32 at b_s4
  obtain ⟨s5, e_s5⟩ : ∃ z, z = (xs (i + 5)).toInt := ⟨_, rfl⟩
  have b_s5 := i32_in (xs (i + 5))
  rw [← e_s5] at b_s5
  unfold in32 at b_s5
  refine gx_st (L' := [(2, 0), (2, 1), (2, 192), (0, (i : Int))]) (S' := [(2, 1)]) r_316_549 rfl rfl rfl ?_
  refine gx_ci (nx := 553) (S2 := []) (gx_hi (args := [(2, 1)]) (pk_8 hT) ⟨gq_o1, trivial⟩ hl.1 rfl) r_316_550 rfl rfl rfl rfl rfl (rcv_v rfl (tk_1 hT) (by decide) rfl (by decide)) rfl (by decide) rfl (fun x550 n550 q550 => ?_)
  show GX T 1000 316 553 [(2, 0), (2, 1), (2, 192), (0, (i : Int))] [(0, x550)] n550 (fun v _ => v = (0, 1))
  have ex_n550 : Ext n550 := Ext_fr q550.2.2.2 (by decide) hl.2.1
  have sc_n550 := sc_fr q550.2.2.2 (by decide) hl.2.2.1
  have rl_n550 : RelR n550 := Rel_fr q550.2.2.2 (by decide) (by decide) (by decide) (by decide) (by decide) (by decide) (by decide) (by decide) hl.2.2.2
  refine gx_st (L' := [(2, 0), (2, 1), (2, 192), (0, (i : Int))]) (S' := []) r_316_553 rfl rfl rfl ?_
  refine gx_st (L' := [(2, 0), (2, 1), (2, 192), (0, (i : Int))]) (S' := [(2, 192)]) r_316_554 rfl rfl rfl ?_
  refine gx_ci (nx := 558) (S2 := []) (gx_hi (args := [(2, 192)]) (pk_122 hT) ⟨gq_o192, trivial⟩ q550.2.2.1 rfl) r_316_555 rfl rfl rfl rfl rfl (rcv_v rfl (tk_192 hT) (by decide) rfl (by decide)) rfl (by decide) rfl (fun x555 n555 q555 => ?_)
  show GX T 1000 316 558 [(2, 0), (2, 1), (2, 192), (0, (i : Int))] [(0, x555)] n555 (fun v _ => v = (0, 1))
  have ex_n555 : Ext n555 := Ext_fr q555.2.2.2 (by decide) ex_n550
  have sc_n555 := sc_fr q555.2.2.2 (by decide) sc_n550
  have rl_n555 : RelR n555 := Rel_fr q555.2.2.2 (by decide) (by decide) (by decide) (by decide) (by decide) (by decide) (by decide) (by decide) rl_n550
  refine gx_st (L' := [(2, 0), (2, 1), (2, 192), (0, (i : Int))]) (S' := []) r_316_558 rfl rfl rfl ?_
  refine gx_st (L' := [(2, 0), (2, 1), (2, 192), (0, (i : Int))]) (S' := []) r_316_559 rfl rfl rfl ?_
  exact hnext n555 ⟨q555.2.2.1, ex_n555, sc_n555, rl_n555⟩
theorem pk_9 (hT : TT T) : ConH T cn_9 := fun args m => ((all_con hT 290).1 (by decide)) cn_9 cx_9 args m
theorem pk_126 (hT : TT T) : ConX T cn_126 false false := by
  have z := ((all_con hT 707).2 (by decide)) cn_126 cx_126
  rw [show (Fl 707).2 = (false, false) by decide] at z
  exact z
theorem case_8 (hT : TT T) (h0 : T[0]? = some (100, L)) (hL : L ≤ 3072) (hi : i + 6 ≤ L) (hl : LI xs m) (hnext : ∀ m, LI xs m → GX T 1000 316 2098 [(2, 0), (2, 1), (2, 192), (0, (i : Int))] [] m (fun v _ => v = (0, 1))) : GX T 1000 316 562 [(2, 0), (2, 1), (2, 192), (0, (i : Int))] [] m (fun v _ => v = (0, 1)) := by
  obtain ⟨s1, e_s1⟩ : ∃ z, z = (xs (i + 1)).toInt := ⟨_, rfl⟩
  have b_s1 := i32_in (xs (i + 1))
  rw [← e_s1] at b_s1
  unfold in32 at b_s1
  obtain ⟨s2, e_s2⟩ : ∃ z, z = (xs (i + 2)).toInt := ⟨_, rfl⟩
  have b_s2 := i32_in (xs (i + 2))
  rw [← e_s2] at b_s2
  unfold in32 at b_s2
  obtain ⟨s3, e_s3⟩ : ∃ z, z = (xs (i + 3)).toInt := ⟨_, rfl⟩
  have b_s3 := i32_in (xs (i + 3))
  rw [← e_s3] at b_s3
  unfold in32 at b_s3
  obtain ⟨s4, e_s4⟩ : ∃ z, z = (xs (i + 4)).toInt := ⟨_, rfl⟩
  have b_s4 := i32_in (xs (i + 4))
  rw [← e_s4] at b_s4
  unfold in32 at b_s4
  obtain ⟨s5, e_s5⟩ : ∃ z, z = (xs (i + 5)).toInt := ⟨_, rfl⟩
  have b_s5 := i32_in (xs (i + 5))
  rw [← e_s5] at b_s5
  unfold in32 at b_s5
  refine gx_st (L' := [(2, 0), (2, 1), (2, 192), (0, (i : Int))]) (S' := [(2, 1)]) r_316_562 rfl rfl rfl ?_
  refine gx_st (L' := [(2, 0), (2, 1), (2, 192), (0, (i : Int))]) (S' := [(2, 0), (2, 1)]) r_316_563 rfl rfl rfl ?_
  refine gx_st (L' := [(2, 0), (2, 1), (2, 192), (0, (i : Int))]) (S' := [(0, (i : Int)), (2, 0), (2, 1)]) r_316_564 rfl rfl rfl ?_
  refine gx_st (L' := [(2, 0), (2, 1), (2, 192), (0, (i : Int))]) (S' := [(0, 1), (0, (i : Int)), (2, 0), (2, 1)]) r_316_565 rfl rfl rfl ?_
  refine gx_ar (L' := [(2, 0), (2, 1), (2, 192), (0, (i : Int))]) (S' := [(2, 0), (2, 1)]) (t := 0) (e := w32 ((i : Int) + 1)) (z := (i : Int) + 1) r_316_566 rfl rfl rfl (w32_eq (by omega) (by omega) (by omega)) ?_
  refine gx_ia (n := i + 1) (x := s1) r_316_567 rfl h0 (by omega) ⟨rfl, by show i + 1 < L; omega⟩ ((hl.2.2.1 (i + 1)).trans e_s1.symm) ?_
  show GX T 1000 316 568 [(2, 0), (2, 1), (2, 192), (0, (i : Int))] [(0, s1), (2, 1)] m (fun v _ => v = (0, 1))
  refine gx_st (L' := [(2, 0), (2, 1), (2, 192), (0, (i : Int))]) (S' := [(2, 0), (0, s1), (2, 1)]) r_316_568 rfl rfl rfl ?_
  refine gx_st (L' := [(2, 0), (2, 1), (2, 192), (0, (i : Int))]) (S' := [(0, (i : Int)), (2, 0), (0, s1), (2, 1)]) r_316_569 rfl rfl rfl ?_
  refine gx_st (L' := [(2, 0), (2, 1), (2, 192), (0, (i : Int))]) (S' := [(0, 2), (0, (i : Int)), (2, 0), (0, s1), (2, 1)]) r_316_570 rfl rfl rfl ?_
  refine gx_ar (L' := [(2, 0), (2, 1), (2, 192), (0, (i : Int))]) (S' := [(2, 0), (0, s1), (2, 1)]) (t := 0) (e := w32 ((i : Int) + 2)) (z := (i : Int) + 2) r_316_571 rfl rfl rfl (w32_eq (by omega) (by omega) (by omega)) ?_
  refine gx_ia (n := i + 2) (x := s2) r_316_572 rfl h0 (by omega) ⟨rfl, by show i + 2 < L; omega⟩ ((hl.2.2.1 (i + 2)).trans e_s2.symm) ?_
  show GX T 1000 316 573 [(2, 0), (2, 1), (2, 192), (0, (i : Int))] [(0, s2), (0, s1), (2, 1)] m (fun v _ => v = (0, 1))
  refine gx_ci (nx := 576) (S2 := []) (gx_hi (args := [(2, 1), (0, s1), (0, s2)]) (pk_9 hT) ⟨gq_o1, gq_any (by omega) (by omega), gq_any (by omega) (by omega), trivial⟩ hl.1 rfl) r_316_573 rfl rfl rfl rfl rfl (rcv_v rfl (tk_1 hT) (by decide) rfl (by decide)) rfl (by decide) rfl (fun x573 n573 q573 => ?_)
  show GX T 1000 316 576 [(2, 0), (2, 1), (2, 192), (0, (i : Int))] [(0, x573)] n573 (fun v _ => v = (0, 1))
  have ex_n573 : Ext n573 := Ext_fr q573.2.2.2 (by decide) hl.2.1
  have sc_n573 := sc_fr q573.2.2.2 (by decide) hl.2.2.1
  have rl_n573 : RelR n573 := Rel_fr q573.2.2.2 (by decide) (by decide) (by decide) (by decide) (by decide) (by decide) (by decide) (by decide) hl.2.2.2
  refine gx_st (L' := [(2, 0), (2, 1), (2, 192), (0, (i : Int))]) (S' := []) r_316_576 rfl rfl rfl ?_
  refine gx_st (L' := [(2, 0), (2, 1), (2, 192), (0, (i : Int))]) (S' := [(2, 192)]) r_316_577 rfl rfl rfl ?_
  refine gx_st (L' := [(2, 0), (2, 1), (2, 192), (0, (i : Int))]) (S' := [(2, 0), (2, 192)]) r_316_578 rfl rfl rfl ?_
  refine gx_st (L' := [(2, 0), (2, 1), (2, 192), (0, (i : Int))]) (S' := [(0, (i : Int)), (2, 0), (2, 192)]) r_316_579 rfl rfl rfl ?_
  refine gx_st (L' := [(2, 0), (2, 1), (2, 192), (0, (i : Int))]) (S' := [(0, 1), (0, (i : Int)), (2, 0), (2, 192)]) r_316_580 rfl rfl rfl ?_
  refine gx_ar (L' := [(2, 0), (2, 1), (2, 192), (0, (i : Int))]) (S' := [(2, 0), (2, 192)]) (t := 0) (e := w32 ((i : Int) + 1)) (z := (i : Int) + 1) r_316_581 rfl rfl rfl (w32_eq (by omega) (by omega) (by omega)) ?_
  refine gx_ia (n := i + 1) (x := s1) r_316_582 rfl h0 (by omega) ⟨rfl, by show i + 1 < L; omega⟩ ((sc_n573 (i + 1)).trans e_s1.symm) ?_
  show GX T 1000 316 583 [(2, 0), (2, 1), (2, 192), (0, (i : Int))] [(0, s1), (2, 192)] n573 (fun v _ => v = (0, 1))
  refine gx_st (L' := [(2, 0), (2, 1), (2, 192), (0, (i : Int))]) (S' := [(2, 0), (0, s1), (2, 192)]) r_316_583 rfl rfl rfl ?_
  refine gx_st (L' := [(2, 0), (2, 1), (2, 192), (0, (i : Int))]) (S' := [(0, (i : Int)), (2, 0), (0, s1), (2, 192)]) r_316_584 rfl rfl rfl ?_
  refine gx_st (L' := [(2, 0), (2, 1), (2, 192), (0, (i : Int))]) (S' := [(0, 2), (0, (i : Int)), (2, 0), (0, s1), (2, 192)]) r_316_585 rfl rfl rfl ?_
  refine gx_ar (L' := [(2, 0), (2, 1), (2, 192), (0, (i : Int))]) (S' := [(2, 0), (0, s1), (2, 192)]) (t := 0) (e := w32 ((i : Int) + 2)) (z := (i : Int) + 2) r_316_586 rfl rfl rfl (w32_eq (by omega) (by omega) (by omega)) ?_
  refine gx_ia (n := i + 2) (x := s2) r_316_587 rfl h0 (by omega) ⟨rfl, by show i + 2 < L; omega⟩ ((sc_n573 (i + 2)).trans e_s2.symm) ?_
  show GX T 1000 316 588 [(2, 0), (2, 1), (2, 192), (0, (i : Int))] [(0, s2), (0, s1), (2, 192)] n573 (fun v _ => v = (0, 1))
  refine gx_ci (nx := 591) (S2 := []) (gx_xi (args := [(2, 192), (0, s1), (0, s2)]) (pk_126 hT) ⟨gq_o192, gq_any (by omega) (by omega), gq_any (by omega) (by omega), trivial⟩ q573.2.2.1 ex_n573 (fun z => absurd z (by decide)) rfl) r_316_588 rfl rfl rfl rfl rfl (rcv_v rfl (tk_192 hT) (by decide) rfl (by decide)) rfl (by decide) rfl (fun x588 n588 q588 => ?_)
  show GX T 1000 316 591 [(2, 0), (2, 1), (2, 192), (0, (i : Int))] [(0, x588)] n588 (fun v _ => v = (0, 1))
  have sc_n588 := sc_fr q588.2.2.2.2.1 (by decide) sc_n573
  have rl_n588 : RelR n588 := Rel_fr q588.2.2.2.2.1 (by decide) (by decide) (by decide) (by decide) (by decide) (by decide) (by decide) (by decide) rl_n573
  refine gx_st (L' := [(2, 0), (2, 1), (2, 192), (0, (i : Int))]) (S' := []) r_316_591 rfl rfl rfl ?_
  refine gx_st (L' := [(2, 0), (2, 1), (2, 192), (0, (i : Int))]) (S' := []) r_316_592 rfl rfl rfl ?_
  exact hnext n588 ⟨q588.2.2.1, q588.2.2.2.1, sc_n588, rl_n588⟩
theorem pk_10 (hT : TT T) : ConH T cn_10 := fun args m => ((all_con hT 291).1 (by decide)) cn_10 cx_10 args m
theorem pk_128 (hT : TT T) : ConX T cn_128 false false := by
  have z := ((all_con hT 713).2 (by decide)) cn_128 cx_128
  rw [show (Fl 713).2 = (false, false) by decide] at z
  exact z
theorem case_9 (hT : TT T) (h0 : T[0]? = some (100, L)) (hL : L ≤ 3072) (hi : i + 6 ≤ L) (hl : LI xs m) (hnext : ∀ m, LI xs m → GX T 1000 316 2098 [(2, 0), (2, 1), (2, 192), (0, (i : Int))] [] m (fun v _ => v = (0, 1))) : GX T 1000 316 595 [(2, 0), (2, 1), (2, 192), (0, (i : Int))] [] m (fun v _ => v = (0, 1)) := by
  obtain ⟨s1, e_s1⟩ : ∃ z, z = (xs (i + 1)).toInt := ⟨_, rfl⟩
  have b_s1 := i32_in (xs (i + 1))
  rw [← e_s1] at b_s1
  unfold in32 at b_s1
  obtain ⟨s2, e_s2⟩ : ∃ z, z = (xs (i + 2)).toInt := ⟨_, rfl⟩
  have b_s2 := i32_in (xs (i + 2))
  rw [← e_s2] at b_s2
  unfold in32 at b_s2
  obtain ⟨s3, e_s3⟩ : ∃ z, z = (xs (i + 3)).toInt := ⟨_, rfl⟩
  have b_s3 := i32_in (xs (i + 3))
  rw [← e_s3] at b_s3
  unfold in32 at b_s3
  obtain ⟨s4, e_s4⟩ : ∃ z, z = (xs (i + 4)).toInt := ⟨_, rfl⟩
  have b_s4 := i32_in (xs (i + 4))
  rw [← e_s4] at b_s4
  unfold in32 at b_s4
  obtain ⟨s5, e_s5⟩ : ∃ z, z = (xs (i + 5)).toInt := ⟨_, rfl⟩
  have b_s5 := i32_in (xs (i + 5))
  rw [← e_s5] at b_s5
  unfold in32 at b_s5
  refine gx_st (L' := [(2, 0), (2, 1), (2, 192), (0, (i : Int))]) (S' := [(2, 1)]) r_316_595 rfl rfl rfl ?_
  refine gx_st (L' := [(2, 0), (2, 1), (2, 192), (0, (i : Int))]) (S' := [(2, 0), (2, 1)]) r_316_596 rfl rfl rfl ?_
  refine gx_st (L' := [(2, 0), (2, 1), (2, 192), (0, (i : Int))]) (S' := [(0, (i : Int)), (2, 0), (2, 1)]) r_316_597 rfl rfl rfl ?_
  refine gx_st (L' := [(2, 0), (2, 1), (2, 192), (0, (i : Int))]) (S' := [(0, 1), (0, (i : Int)), (2, 0), (2, 1)]) r_316_598 rfl rfl rfl ?_
  refine gx_ar (L' := [(2, 0), (2, 1), (2, 192), (0, (i : Int))]) (S' := [(2, 0), (2, 1)]) (t := 0) (e := w32 ((i : Int) + 1)) (z := (i : Int) + 1) r_316_599 rfl rfl rfl (w32_eq (by omega) (by omega) (by omega)) ?_
  refine gx_ia (n := i + 1) (x := s1) r_316_600 rfl h0 (by omega) ⟨rfl, by show i + 1 < L; omega⟩ ((hl.2.2.1 (i + 1)).trans e_s1.symm) ?_
  show GX T 1000 316 601 [(2, 0), (2, 1), (2, 192), (0, (i : Int))] [(0, s1), (2, 1)] m (fun v _ => v = (0, 1))
  refine gx_ci (nx := 604) (S2 := []) (gx_hi (args := [(2, 1), (0, s1)]) (pk_10 hT) ⟨gq_o1, gq_any (by omega) (by omega), trivial⟩ hl.1 rfl) r_316_601 rfl rfl rfl rfl rfl (rcv_v rfl (tk_1 hT) (by decide) rfl (by decide)) rfl (by decide) rfl (fun x601 n601 q601 => ?_)
  show GX T 1000 316 604 [(2, 0), (2, 1), (2, 192), (0, (i : Int))] [(0, x601)] n601 (fun v _ => v = (0, 1))
  have ex_n601 : Ext n601 := Ext_fr q601.2.2.2 (by decide) hl.2.1
  have sc_n601 := sc_fr q601.2.2.2 (by decide) hl.2.2.1
  have rl_n601 : RelR n601 := Rel_fr q601.2.2.2 (by decide) (by decide) (by decide) (by decide) (by decide) (by decide) (by decide) (by decide) hl.2.2.2
  refine gx_st (L' := [(2, 0), (2, 1), (2, 192), (0, (i : Int))]) (S' := []) r_316_604 rfl rfl rfl ?_
  refine gx_st (L' := [(2, 0), (2, 1), (2, 192), (0, (i : Int))]) (S' := [(2, 192)]) r_316_605 rfl rfl rfl ?_
  refine gx_st (L' := [(2, 0), (2, 1), (2, 192), (0, (i : Int))]) (S' := [(2, 0), (2, 192)]) r_316_606 rfl rfl rfl ?_
  refine gx_st (L' := [(2, 0), (2, 1), (2, 192), (0, (i : Int))]) (S' := [(0, (i : Int)), (2, 0), (2, 192)]) r_316_607 rfl rfl rfl ?_
  refine gx_st (L' := [(2, 0), (2, 1), (2, 192), (0, (i : Int))]) (S' := [(0, 1), (0, (i : Int)), (2, 0), (2, 192)]) r_316_608 rfl rfl rfl ?_
  refine gx_ar (L' := [(2, 0), (2, 1), (2, 192), (0, (i : Int))]) (S' := [(2, 0), (2, 192)]) (t := 0) (e := w32 ((i : Int) + 1)) (z := (i : Int) + 1) r_316_609 rfl rfl rfl (w32_eq (by omega) (by omega) (by omega)) ?_
  refine gx_ia (n := i + 1) (x := s1) r_316_610 rfl h0 (by omega) ⟨rfl, by show i + 1 < L; omega⟩ ((sc_n601 (i + 1)).trans e_s1.symm) ?_
  show GX T 1000 316 611 [(2, 0), (2, 1), (2, 192), (0, (i : Int))] [(0, s1), (2, 192)] n601 (fun v _ => v = (0, 1))
  refine gx_ci (nx := 614) (S2 := []) (gx_xi (args := [(2, 192), (0, s1)]) (pk_128 hT) ⟨gq_o192, gq_any (by omega) (by omega), trivial⟩ q601.2.2.1 ex_n601 (fun z => absurd z (by decide)) rfl) r_316_611 rfl rfl rfl rfl rfl (rcv_v rfl (tk_192 hT) (by decide) rfl (by decide)) rfl (by decide) rfl (fun x611 n611 q611 => ?_)
  show GX T 1000 316 614 [(2, 0), (2, 1), (2, 192), (0, (i : Int))] [(0, x611)] n611 (fun v _ => v = (0, 1))
  have sc_n611 := sc_fr q611.2.2.2.2.1 (by decide) sc_n601
  have rl_n611 : RelR n611 := Rel_fr q611.2.2.2.2.1 (by decide) (by decide) (by decide) (by decide) (by decide) (by decide) (by decide) (by decide) rl_n601
  refine gx_st (L' := [(2, 0), (2, 1), (2, 192), (0, (i : Int))]) (S' := []) r_316_614 rfl rfl rfl ?_
  refine gx_st (L' := [(2, 0), (2, 1), (2, 192), (0, (i : Int))]) (S' := []) r_316_615 rfl rfl rfl ?_
  exact hnext n611 ⟨q611.2.2.1, q611.2.2.2.1, sc_n611, rl_n611⟩
theorem pk_11 (hT : TT T) : ConH T cn_11 := fun args m => ((all_con hT 293).1 (by decide)) cn_11 cx_11 args m
theorem pk_148 (hT : TT T) : ConX T cn_148 false false := by
  have z := ((all_con hT 719).2 (by decide)) cn_148 cx_148
  rw [show (Fl 719).2 = (false, false) by decide] at z
  exact z
theorem case_10 (hT : TT T) (h0 : T[0]? = some (100, L)) (hL : L ≤ 3072) (hi : i + 6 ≤ L) (hl : LI xs m) (hnext : ∀ m, LI xs m → GX T 1000 316 2098 [(2, 0), (2, 1), (2, 192), (0, (i : Int))] [] m (fun v _ => v = (0, 1))) : GX T 1000 316 618 [(2, 0), (2, 1), (2, 192), (0, (i : Int))] [] m (fun v _ => v = (0, 1)) := by
  obtain ⟨s1, e_s1⟩ : ∃ z, z = (xs (i + 1)).toInt := ⟨_, rfl⟩
  have b_s1 := i32_in (xs (i + 1))
  rw [← e_s1] at b_s1
  unfold in32 at b_s1
  obtain ⟨s2, e_s2⟩ : ∃ z, z = (xs (i + 2)).toInt := ⟨_, rfl⟩
  have b_s2 := i32_in (xs (i + 2))
  rw [← e_s2] at b_s2
  unfold in32 at b_s2
  obtain ⟨s3, e_s3⟩ : ∃ z, z = (xs (i + 3)).toInt := ⟨_, rfl⟩
  have b_s3 := i32_in (xs (i + 3))
  rw [← e_s3] at b_s3
  unfold in32 at b_s3
  obtain ⟨s4, e_s4⟩ : ∃ z, z = (xs (i + 4)).toInt := ⟨_, rfl⟩
  have b_s4 := i32_in (xs (i + 4))
  rw [← e_s4] at b_s4
  unfold in32 at b_s4
  obtain ⟨s5, e_s5⟩ : ∃ z, z = (xs (i + 5)).toInt := ⟨_, rfl⟩
  have b_s5 := i32_in (xs (i + 5))
  rw [← e_s5] at b_s5
  unfold in32 at b_s5
  refine gx_st (L' := [(2, 0), (2, 1), (2, 192), (0, (i : Int))]) (S' := [(2, 1)]) r_316_618 rfl rfl rfl ?_
  refine gx_st (L' := [(2, 0), (2, 1), (2, 192), (0, (i : Int))]) (S' := [(2, 0), (2, 1)]) r_316_619 rfl rfl rfl ?_
  refine gx_st (L' := [(2, 0), (2, 1), (2, 192), (0, (i : Int))]) (S' := [(0, (i : Int)), (2, 0), (2, 1)]) r_316_620 rfl rfl rfl ?_
  refine gx_st (L' := [(2, 0), (2, 1), (2, 192), (0, (i : Int))]) (S' := [(0, 1), (0, (i : Int)), (2, 0), (2, 1)]) r_316_621 rfl rfl rfl ?_
  refine gx_ar (L' := [(2, 0), (2, 1), (2, 192), (0, (i : Int))]) (S' := [(2, 0), (2, 1)]) (t := 0) (e := w32 ((i : Int) + 1)) (z := (i : Int) + 1) r_316_622 rfl rfl rfl (w32_eq (by omega) (by omega) (by omega)) ?_
  refine gx_ia (n := i + 1) (x := s1) r_316_623 rfl h0 (by omega) ⟨rfl, by show i + 1 < L; omega⟩ ((hl.2.2.1 (i + 1)).trans e_s1.symm) ?_
  show GX T 1000 316 624 [(2, 0), (2, 1), (2, 192), (0, (i : Int))] [(0, s1), (2, 1)] m (fun v _ => v = (0, 1))
  refine gx_ci (nx := 627) (S2 := []) (gx_hi (args := [(2, 1), (0, s1)]) (pk_11 hT) ⟨gq_o1, gq_any (by omega) (by omega), trivial⟩ hl.1 rfl) r_316_624 rfl rfl rfl rfl rfl (rcv_v rfl (tk_1 hT) (by decide) rfl (by decide)) rfl (by decide) rfl (fun x624 n624 q624 => ?_)
  show GX T 1000 316 627 [(2, 0), (2, 1), (2, 192), (0, (i : Int))] [(0, x624)] n624 (fun v _ => v = (0, 1))
  have ex_n624 : Ext n624 := Ext_fr q624.2.2.2 (by decide) hl.2.1
  have sc_n624 := sc_fr q624.2.2.2 (by decide) hl.2.2.1
  have rl_n624 : RelR n624 := Rel_fr q624.2.2.2 (by decide) (by decide) (by decide) (by decide) (by decide) (by decide) (by decide) (by decide) hl.2.2.2
  refine gx_st (L' := [(2, 0), (2, 1), (2, 192), (0, (i : Int))]) (S' := []) r_316_627 rfl rfl rfl ?_
  refine gx_st (L' := [(2, 0), (2, 1), (2, 192), (0, (i : Int))]) (S' := [(2, 192)]) r_316_628 rfl rfl rfl ?_
  refine gx_st (L' := [(2, 0), (2, 1), (2, 192), (0, (i : Int))]) (S' := [(2, 0), (2, 192)]) r_316_629 rfl rfl rfl ?_
  refine gx_st (L' := [(2, 0), (2, 1), (2, 192), (0, (i : Int))]) (S' := [(0, (i : Int)), (2, 0), (2, 192)]) r_316_630 rfl rfl rfl ?_
  refine gx_st (L' := [(2, 0), (2, 1), (2, 192), (0, (i : Int))]) (S' := [(0, 1), (0, (i : Int)), (2, 0), (2, 192)]) r_316_631 rfl rfl rfl ?_
  refine gx_ar (L' := [(2, 0), (2, 1), (2, 192), (0, (i : Int))]) (S' := [(2, 0), (2, 192)]) (t := 0) (e := w32 ((i : Int) + 1)) (z := (i : Int) + 1) r_316_632 rfl rfl rfl (w32_eq (by omega) (by omega) (by omega)) ?_
  refine gx_ia (n := i + 1) (x := s1) r_316_633 rfl h0 (by omega) ⟨rfl, by show i + 1 < L; omega⟩ ((sc_n624 (i + 1)).trans e_s1.symm) ?_
  show GX T 1000 316 634 [(2, 0), (2, 1), (2, 192), (0, (i : Int))] [(0, s1), (2, 192)] n624 (fun v _ => v = (0, 1))
  refine gx_ci (nx := 637) (S2 := []) (gx_xi (args := [(2, 192), (0, s1)]) (pk_148 hT) ⟨gq_o192, gq_any (by omega) (by omega), trivial⟩ q624.2.2.1 ex_n624 (fun z => absurd z (by decide)) rfl) r_316_634 rfl rfl rfl rfl rfl (rcv_v rfl (tk_192 hT) (by decide) rfl (by decide)) rfl (by decide) rfl (fun x634 n634 q634 => ?_)
  show GX T 1000 316 637 [(2, 0), (2, 1), (2, 192), (0, (i : Int))] [(0, x634)] n634 (fun v _ => v = (0, 1))
  have sc_n634 := sc_fr q634.2.2.2.2.1 (by decide) sc_n624
  have rl_n634 : RelR n634 := Rel_fr q634.2.2.2.2.1 (by decide) (by decide) (by decide) (by decide) (by decide) (by decide) (by decide) (by decide) rl_n624
  refine gx_st (L' := [(2, 0), (2, 1), (2, 192), (0, (i : Int))]) (S' := []) r_316_637 rfl rfl rfl ?_
  refine gx_st (L' := [(2, 0), (2, 1), (2, 192), (0, (i : Int))]) (S' := []) r_316_638 rfl rfl rfl ?_
  exact hnext n634 ⟨q634.2.2.1, q634.2.2.2.1, sc_n634, rl_n634⟩
theorem pk_14 (hT : TT T) : ConH T cn_14 := fun args m => ((all_con hT 299).1 (by decide)) cn_14 cx_14 args m
theorem pk_149 (hT : TT T) : ConX T cn_149 false false := by
  have z := ((all_con hT 739).2 (by decide)) cn_149 cx_149
  rw [show (Fl 739).2 = (false, false) by decide] at z
  exact z
theorem case_11 (hT : TT T) (h0 : T[0]? = some (100, L)) (hL : L ≤ 3072) (hi : i + 6 ≤ L) (hl : LI xs m) (hnext : ∀ m, LI xs m → GX T 1000 316 2098 [(2, 0), (2, 1), (2, 192), (0, (i : Int))] [] m (fun v _ => v = (0, 1))) : GX T 1000 316 641 [(2, 0), (2, 1), (2, 192), (0, (i : Int))] [] m (fun v _ => v = (0, 1)) := by
  obtain ⟨s1, e_s1⟩ : ∃ z, z = (xs (i + 1)).toInt := ⟨_, rfl⟩
  have b_s1 := i32_in (xs (i + 1))
  rw [← e_s1] at b_s1
  unfold in32 at b_s1
  obtain ⟨s2, e_s2⟩ : ∃ z, z = (xs (i + 2)).toInt := ⟨_, rfl⟩
  have b_s2 := i32_in (xs (i + 2))
  rw [← e_s2] at b_s2
  unfold in32 at b_s2
  obtain ⟨s3, e_s3⟩ : ∃ z, z = (xs (i + 3)).toInt := ⟨_, rfl⟩
  have b_s3 := i32_in (xs (i + 3))
  rw [← e_s3] at b_s3
  unfold in32 at b_s3
  obtain ⟨s4, e_s4⟩ : ∃ z, z = (xs (i + 4)).toInt := ⟨_, rfl⟩
  have b_s4 := i32_in (xs (i + 4))
  rw [← e_s4] at b_s4
  unfold in32 at b_s4
  obtain ⟨s5, e_s5⟩ : ∃ z, z = (xs (i + 5)).toInt := ⟨_, rfl⟩
  have b_s5 := i32_in (xs (i + 5))
  rw [← e_s5] at b_s5
  unfold in32 at b_s5
  refine gx_st (L' := [(2, 0), (2, 1), (2, 192), (0, (i : Int))]) (S' := [(2, 1)]) r_316_641 rfl rfl rfl ?_
  refine gx_st (L' := [(2, 0), (2, 1), (2, 192), (0, (i : Int))]) (S' := [(2, 0), (2, 1)]) r_316_642 rfl rfl rfl ?_
  refine gx_st (L' := [(2, 0), (2, 1), (2, 192), (0, (i : Int))]) (S' := [(0, (i : Int)), (2, 0), (2, 1)]) r_316_643 rfl rfl rfl ?_
  refine gx_st (L' := [(2, 0), (2, 1), (2, 192), (0, (i : Int))]) (S' := [(0, 1), (0, (i : Int)), (2, 0), (2, 1)]) r_316_644 rfl rfl rfl ?_
  refine gx_ar (L' := [(2, 0), (2, 1), (2, 192), (0, (i : Int))]) (S' := [(2, 0), (2, 1)]) (t := 0) (e := w32 ((i : Int) + 1)) (z := (i : Int) + 1) r_316_645 rfl rfl rfl (w32_eq (by omega) (by omega) (by omega)) ?_
  refine gx_ia (n := i + 1) (x := s1) r_316_646 rfl h0 (by omega) ⟨rfl, by show i + 1 < L; omega⟩ ((hl.2.2.1 (i + 1)).trans e_s1.symm) ?_
  show GX T 1000 316 647 [(2, 0), (2, 1), (2, 192), (0, (i : Int))] [(0, s1), (2, 1)] m (fun v _ => v = (0, 1))
  refine gx_ci (nx := 650) (S2 := []) (gx_hi (args := [(2, 1), (0, s1)]) (pk_14 hT) ⟨gq_o1, gq_any (by omega) (by omega), trivial⟩ hl.1 rfl) r_316_647 rfl rfl rfl rfl rfl (rcv_v rfl (tk_1 hT) (by decide) rfl (by decide)) rfl (by decide) rfl (fun x647 n647 q647 => ?_)
  show GX T 1000 316 650 [(2, 0), (2, 1), (2, 192), (0, (i : Int))] [(0, x647)] n647 (fun v _ => v = (0, 1))
  have ex_n647 : Ext n647 := Ext_fr q647.2.2.2 (by decide) hl.2.1
  have sc_n647 := sc_fr q647.2.2.2 (by decide) hl.2.2.1
  have rl_n647 : RelR n647 := Rel_fr q647.2.2.2 (by decide) (by decide) (by decide) (by decide) (by decide) (by decide) (by decide) (by decide) hl.2.2.2
  refine gx_st (L' := [(2, 0), (2, 1), (2, 192), (0, (i : Int))]) (S' := []) r_316_650 rfl rfl rfl ?_
  refine gx_st (L' := [(2, 0), (2, 1), (2, 192), (0, (i : Int))]) (S' := [(2, 192)]) r_316_651 rfl rfl rfl ?_
  refine gx_st (L' := [(2, 0), (2, 1), (2, 192), (0, (i : Int))]) (S' := [(2, 0), (2, 192)]) r_316_652 rfl rfl rfl ?_
  refine gx_st (L' := [(2, 0), (2, 1), (2, 192), (0, (i : Int))]) (S' := [(0, (i : Int)), (2, 0), (2, 192)]) r_316_653 rfl rfl rfl ?_
  refine gx_st (L' := [(2, 0), (2, 1), (2, 192), (0, (i : Int))]) (S' := [(0, 1), (0, (i : Int)), (2, 0), (2, 192)]) r_316_654 rfl rfl rfl ?_
  refine gx_ar (L' := [(2, 0), (2, 1), (2, 192), (0, (i : Int))]) (S' := [(2, 0), (2, 192)]) (t := 0) (e := w32 ((i : Int) + 1)) (z := (i : Int) + 1) r_316_655 rfl rfl rfl (w32_eq (by omega) (by omega) (by omega)) ?_
  refine gx_ia (n := i + 1) (x := s1) r_316_656 rfl h0 (by omega) ⟨rfl, by show i + 1 < L; omega⟩ ((sc_n647 (i + 1)).trans e_s1.symm) ?_
  show GX T 1000 316 657 [(2, 0), (2, 1), (2, 192), (0, (i : Int))] [(0, s1), (2, 192)] n647 (fun v _ => v = (0, 1))
  refine gx_ci (nx := 660) (S2 := []) (gx_xi (args := [(2, 192), (0, s1)]) (pk_149 hT) ⟨gq_o192, gq_any (by omega) (by omega), trivial⟩ q647.2.2.1 ex_n647 (fun z => absurd z (by decide)) rfl) r_316_657 rfl rfl rfl rfl rfl (rcv_v rfl (tk_192 hT) (by decide) rfl (by decide)) rfl (by decide) rfl (fun x657 n657 q657 => ?_)
  show GX T 1000 316 660 [(2, 0), (2, 1), (2, 192), (0, (i : Int))] [(0, x657)] n657 (fun v _ => v = (0, 1))
  have sc_n657 := sc_fr q657.2.2.2.2.1 (by decide) sc_n647
  have rl_n657 : RelR n657 := Rel_fr q657.2.2.2.2.1 (by decide) (by decide) (by decide) (by decide) (by decide) (by decide) (by decide) (by decide) rl_n647
  refine gx_st (L' := [(2, 0), (2, 1), (2, 192), (0, (i : Int))]) (S' := []) r_316_660 rfl rfl rfl ?_
  refine gx_st (L' := [(2, 0), (2, 1), (2, 192), (0, (i : Int))]) (S' := []) r_316_661 rfl rfl rfl ?_
  exact hnext n657 ⟨q657.2.2.1, q657.2.2.2.1, sc_n657, rl_n657⟩
theorem pk_15 (hT : TT T) : ConH T cn_15 := fun args m => ((all_con hT 301).1 (by decide)) cn_15 cx_15 args m
theorem pk_150 (hT : TT T) : ConX T cn_150 false false := by
  have z := ((all_con hT 757).2 (by decide)) cn_150 cx_150
  rw [show (Fl 757).2 = (false, false) by decide] at z
  exact z
theorem case_12 (hT : TT T) (h0 : T[0]? = some (100, L)) (hL : L ≤ 3072) (hi : i + 6 ≤ L) (hl : LI xs m) (hnext : ∀ m, LI xs m → GX T 1000 316 2098 [(2, 0), (2, 1), (2, 192), (0, (i : Int))] [] m (fun v _ => v = (0, 1))) : GX T 1000 316 664 [(2, 0), (2, 1), (2, 192), (0, (i : Int))] [] m (fun v _ => v = (0, 1)) := by
  obtain ⟨s1, e_s1⟩ : ∃ z, z = (xs (i + 1)).toInt := ⟨_, rfl⟩
  have b_s1 := i32_in (xs (i + 1))
  rw [← e_s1] at b_s1
  unfold in32 at b_s1
  obtain ⟨s2, e_s2⟩ : ∃ z, z = (xs (i + 2)).toInt := ⟨_, rfl⟩
  have b_s2 := i32_in (xs (i + 2))
  rw [← e_s2] at b_s2
  unfold in32 at b_s2
  obtain ⟨s3, e_s3⟩ : ∃ z, z = (xs (i + 3)).toInt := ⟨_, rfl⟩
  have b_s3 := i32_in (xs (i + 3))
  rw [← e_s3] at b_s3
  unfold in32 at b_s3
  obtain ⟨s4, e_s4⟩ : ∃ z, z = (xs (i + 4)).toInt := ⟨_, rfl⟩
  have b_s4 := i32_in (xs (i + 4))
  rw [← e_s4] at b_s4
  unfold in32 at b_s4
  obtain ⟨s5, e_s5⟩ : ∃ z, z = (xs (i + 5)).toInt := ⟨_, rfl⟩
  have b_s5 := i32_in (xs (i + 5))
  rw [← e_s5] at b_s5
  unfold in32 at b_s5
  refine gx_st (L' := [(2, 0), (2, 1), (2, 192), (0, (i : Int))]) (S' := [(2, 1)]) r_316_664 rfl rfl rfl ?_
  refine gx_st (L' := [(2, 0), (2, 1), (2, 192), (0, (i : Int))]) (S' := [(2, 0), (2, 1)]) r_316_665 rfl rfl rfl ?_
  refine gx_st (L' := [(2, 0), (2, 1), (2, 192), (0, (i : Int))]) (S' := [(0, (i : Int)), (2, 0), (2, 1)]) r_316_666 rfl rfl rfl ?_
  refine gx_st (L' := [(2, 0), (2, 1), (2, 192), (0, (i : Int))]) (S' := [(0, 1), (0, (i : Int)), (2, 0), (2, 1)]) r_316_667 rfl rfl rfl ?_
  refine gx_ar (L' := [(2, 0), (2, 1), (2, 192), (0, (i : Int))]) (S' := [(2, 0), (2, 1)]) (t := 0) (e := w32 ((i : Int) + 1)) (z := (i : Int) + 1) r_316_668 rfl rfl rfl (w32_eq (by omega) (by omega) (by omega)) ?_
  refine gx_ia (n := i + 1) (x := s1) r_316_669 rfl h0 (by omega) ⟨rfl, by show i + 1 < L; omega⟩ ((hl.2.2.1 (i + 1)).trans e_s1.symm) ?_
  show GX T 1000 316 670 [(2, 0), (2, 1), (2, 192), (0, (i : Int))] [(0, s1), (2, 1)] m (fun v _ => v = (0, 1))
  refine gx_ci (nx := 673) (S2 := []) (gx_hi (args := [(2, 1), (0, s1)]) (pk_15 hT) ⟨gq_o1, gq_any (by omega) (by omega), trivial⟩ hl.1 rfl) r_316_670 rfl rfl rfl rfl rfl (rcv_v rfl (tk_1 hT) (by decide) rfl (by decide)) rfl (by decide) rfl (fun x670 n670 q670 => ?_)
  show GX T 1000 316 673 [(2, 0), (2, 1), (2, 192), (0, (i : Int))] [(0, x670)] n670 (fun v _ => v = (0, 1))
  have ex_n670 : Ext n670 := Ext_fr q670.2.2.2 (by decide) hl.2.1
  have sc_n670 := sc_fr q670.2.2.2 (by decide) hl.2.2.1
  have rl_n670 : RelR n670 := Rel_fr q670.2.2.2 (by decide) (by decide) (by decide) (by decide) (by decide) (by decide) (by decide) (by decide) hl.2.2.2
  refine gx_st (L' := [(2, 0), (2, 1), (2, 192), (0, (i : Int))]) (S' := []) r_316_673 rfl rfl rfl ?_
  refine gx_st (L' := [(2, 0), (2, 1), (2, 192), (0, (i : Int))]) (S' := [(2, 192)]) r_316_674 rfl rfl rfl ?_
  refine gx_st (L' := [(2, 0), (2, 1), (2, 192), (0, (i : Int))]) (S' := [(2, 0), (2, 192)]) r_316_675 rfl rfl rfl ?_
  refine gx_st (L' := [(2, 0), (2, 1), (2, 192), (0, (i : Int))]) (S' := [(0, (i : Int)), (2, 0), (2, 192)]) r_316_676 rfl rfl rfl ?_
  refine gx_st (L' := [(2, 0), (2, 1), (2, 192), (0, (i : Int))]) (S' := [(0, 1), (0, (i : Int)), (2, 0), (2, 192)]) r_316_677 rfl rfl rfl ?_
  refine gx_ar (L' := [(2, 0), (2, 1), (2, 192), (0, (i : Int))]) (S' := [(2, 0), (2, 192)]) (t := 0) (e := w32 ((i : Int) + 1)) (z := (i : Int) + 1) r_316_678 rfl rfl rfl (w32_eq (by omega) (by omega) (by omega)) ?_
  refine gx_ia (n := i + 1) (x := s1) r_316_679 rfl h0 (by omega) ⟨rfl, by show i + 1 < L; omega⟩ ((sc_n670 (i + 1)).trans e_s1.symm) ?_
  show GX T 1000 316 680 [(2, 0), (2, 1), (2, 192), (0, (i : Int))] [(0, s1), (2, 192)] n670 (fun v _ => v = (0, 1))
  refine gx_ci (nx := 683) (S2 := []) (gx_xi (args := [(2, 192), (0, s1)]) (pk_150 hT) ⟨gq_o192, gq_any (by omega) (by omega), trivial⟩ q670.2.2.1 ex_n670 (fun z => absurd z (by decide)) rfl) r_316_680 rfl rfl rfl rfl rfl (rcv_v rfl (tk_192 hT) (by decide) rfl (by decide)) rfl (by decide) rfl (fun x680 n680 q680 => ?_)
  show GX T 1000 316 683 [(2, 0), (2, 1), (2, 192), (0, (i : Int))] [(0, x680)] n680 (fun v _ => v = (0, 1))
  have sc_n680 := sc_fr q680.2.2.2.2.1 (by decide) sc_n670
  have rl_n680 : RelR n680 := Rel_fr q680.2.2.2.2.1 (by decide) (by decide) (by decide) (by decide) (by decide) (by decide) (by decide) (by decide) rl_n670
  refine gx_st (L' := [(2, 0), (2, 1), (2, 192), (0, (i : Int))]) (S' := []) r_316_683 rfl rfl rfl ?_
  refine gx_st (L' := [(2, 0), (2, 1), (2, 192), (0, (i : Int))]) (S' := []) r_316_684 rfl rfl rfl ?_
  exact hnext n680 ⟨q680.2.2.1, q680.2.2.2.1, sc_n680, rl_n680⟩
theorem pk_16 (hT : TT T) : ConH T cn_16 := fun args m => ((all_con hT 303).1 (by decide)) cn_16 cx_16 args m
theorem pk_151 (hT : TT T) : ConX T cn_151 false false := by
  have z := ((all_con hT 775).2 (by decide)) cn_151 cx_151
  rw [show (Fl 775).2 = (false, false) by decide] at z
  exact z
theorem case_13 (hT : TT T) (h0 : T[0]? = some (100, L)) (hL : L ≤ 3072) (hi : i + 6 ≤ L) (hl : LI xs m) (hnext : ∀ m, LI xs m → GX T 1000 316 2098 [(2, 0), (2, 1), (2, 192), (0, (i : Int))] [] m (fun v _ => v = (0, 1))) : GX T 1000 316 687 [(2, 0), (2, 1), (2, 192), (0, (i : Int))] [] m (fun v _ => v = (0, 1)) := by
  obtain ⟨s1, e_s1⟩ : ∃ z, z = (xs (i + 1)).toInt := ⟨_, rfl⟩
  have b_s1 := i32_in (xs (i + 1))
  rw [← e_s1] at b_s1
  unfold in32 at b_s1
  obtain ⟨s2, e_s2⟩ : ∃ z, z = (xs (i + 2)).toInt := ⟨_, rfl⟩
  have b_s2 := i32_in (xs (i + 2))
  rw [← e_s2] at b_s2
  unfold in32 at b_s2
  obtain ⟨s3, e_s3⟩ : ∃ z, z = (xs (i + 3)).toInt := ⟨_, rfl⟩
  have b_s3 := i32_in (xs (i + 3))
  rw [← e_s3] at b_s3
  unfold in32 at b_s3
  obtain ⟨s4, e_s4⟩ : ∃ z, z = (xs (i + 4)).toInt := ⟨_, rfl⟩
  have b_s4 := i32_in (xs (i + 4))
  rw [← e_s4] at b_s4
  unfold in32 at b_s4
  obtain ⟨s5, e_s5⟩ : ∃ z, z = (xs (i + 5)).toInt := ⟨_, rfl⟩
  have b_s5 := i32_in (xs (i + 5))
  rw [← e_s5] at b_s5
  unfold in32 at b_s5
  refine gx_st (L' := [(2, 0), (2, 1), (2, 192), (0, (i : Int))]) (S' := [(2, 1)]) r_316_687 rfl rfl rfl ?_
  refine gx_st (L' := [(2, 0), (2, 1), (2, 192), (0, (i : Int))]) (S' := [(2, 0), (2, 1)]) r_316_688 rfl rfl rfl ?_
  refine gx_st (L' := [(2, 0), (2, 1), (2, 192), (0, (i : Int))]) (S' := [(0, (i : Int)), (2, 0), (2, 1)]) r_316_689 rfl rfl rfl ?_
  refine gx_st (L' := [(2, 0), (2, 1), (2, 192), (0, (i : Int))]) (S' := [(0, 1), (0, (i : Int)), (2, 0), (2, 1)]) r_316_690 rfl rfl rfl ?_
  refine gx_ar (L' := [(2, 0), (2, 1), (2, 192), (0, (i : Int))]) (S' := [(2, 0), (2, 1)]) (t := 0) (e := w32 ((i : Int) + 1)) (z := (i : Int) + 1) r_316_691 rfl rfl rfl (w32_eq (by omega) (by omega) (by omega)) ?_
  refine gx_ia (n := i + 1) (x := s1) r_316_692 rfl h0 (by omega) ⟨rfl, by show i + 1 < L; omega⟩ ((hl.2.2.1 (i + 1)).trans e_s1.symm) ?_
  show GX T 1000 316 693 [(2, 0), (2, 1), (2, 192), (0, (i : Int))] [(0, s1), (2, 1)] m (fun v _ => v = (0, 1))
  refine gx_ci (nx := 696) (S2 := []) (gx_hi (args := [(2, 1), (0, s1)]) (pk_16 hT) ⟨gq_o1, gq_any (by omega) (by omega), trivial⟩ hl.1 rfl) r_316_693 rfl rfl rfl rfl rfl (rcv_v rfl (tk_1 hT) (by decide) rfl (by decide)) rfl (by decide) rfl (fun x693 n693 q693 => ?_)
  show GX T 1000 316 696 [(2, 0), (2, 1), (2, 192), (0, (i : Int))] [(0, x693)] n693 (fun v _ => v = (0, 1))
  have ex_n693 : Ext n693 := Ext_fr q693.2.2.2 (by decide) hl.2.1
  have sc_n693 := sc_fr q693.2.2.2 (by decide) hl.2.2.1
  have rl_n693 : RelR n693 := Rel_fr q693.2.2.2 (by decide) (by decide) (by decide) (by decide) (by decide) (by decide) (by decide) (by decide) hl.2.2.2
  refine gx_st (L' := [(2, 0), (2, 1), (2, 192), (0, (i : Int))]) (S' := []) r_316_696 rfl rfl rfl ?_
  refine gx_st (L' := [(2, 0), (2, 1), (2, 192), (0, (i : Int))]) (S' := [(2, 192)]) r_316_697 rfl rfl rfl ?_
  refine gx_st (L' := [(2, 0), (2, 1), (2, 192), (0, (i : Int))]) (S' := [(2, 0), (2, 192)]) r_316_698 rfl rfl rfl ?_
  refine gx_st (L' := [(2, 0), (2, 1), (2, 192), (0, (i : Int))]) (S' := [(0, (i : Int)), (2, 0), (2, 192)]) r_316_699 rfl rfl rfl ?_
  refine gx_st (L' := [(2, 0), (2, 1), (2, 192), (0, (i : Int))]) (S' := [(0, 1), (0, (i : Int)), (2, 0), (2, 192)]) r_316_700 rfl rfl rfl ?_
  refine gx_ar (L' := [(2, 0), (2, 1), (2, 192), (0, (i : Int))]) (S' := [(2, 0), (2, 192)]) (t := 0) (e := w32 ((i : Int) + 1)) (z := (i : Int) + 1) r_316_701 rfl rfl rfl (w32_eq (by omega) (by omega) (by omega)) ?_
  refine gx_ia (n := i + 1) (x := s1) r_316_702 rfl h0 (by omega) ⟨rfl, by show i + 1 < L; omega⟩ ((sc_n693 (i + 1)).trans e_s1.symm) ?_
  show GX T 1000 316 703 [(2, 0), (2, 1), (2, 192), (0, (i : Int))] [(0, s1), (2, 192)] n693 (fun v _ => v = (0, 1))
  refine gx_ci (nx := 706) (S2 := []) (gx_xi (args := [(2, 192), (0, s1)]) (pk_151 hT) ⟨gq_o192, gq_any (by omega) (by omega), trivial⟩ q693.2.2.1 ex_n693 (fun z => absurd z (by decide)) rfl) r_316_703 rfl rfl rfl rfl rfl (rcv_v rfl (tk_192 hT) (by decide) rfl (by decide)) rfl (by decide) rfl (fun x703 n703 q703 => ?_)
  show GX T 1000 316 706 [(2, 0), (2, 1), (2, 192), (0, (i : Int))] [(0, x703)] n703 (fun v _ => v = (0, 1))
  have sc_n703 := sc_fr q703.2.2.2.2.1 (by decide) sc_n693
  have rl_n703 : RelR n703 := Rel_fr q703.2.2.2.2.1 (by decide) (by decide) (by decide) (by decide) (by decide) (by decide) (by decide) (by decide) rl_n693
  refine gx_st (L' := [(2, 0), (2, 1), (2, 192), (0, (i : Int))]) (S' := []) r_316_706 rfl rfl rfl ?_
  refine gx_st (L' := [(2, 0), (2, 1), (2, 192), (0, (i : Int))]) (S' := []) r_316_707 rfl rfl rfl ?_
  exact hnext n703 ⟨q703.2.2.1, q703.2.2.2.1, sc_n703, rl_n703⟩
theorem pk_17 (hT : TT T) : ConH T cn_17 := fun args m => ((all_con hT 306).1 (by decide)) cn_17 cx_17 args m
theorem pk_152 (hT : TT T) : ConX T cn_152 false false := by
  have z := ((all_con hT 802).2 (by decide)) cn_152 cx_152
  rw [show (Fl 802).2 = (false, false) by decide] at z
  exact z
theorem case_14 (hT : TT T) (h0 : T[0]? = some (100, L)) (hL : L ≤ 3072) (hi : i + 6 ≤ L) (hl : LI xs m) (hnext : ∀ m, LI xs m → GX T 1000 316 2098 [(2, 0), (2, 1), (2, 192), (0, (i : Int))] [] m (fun v _ => v = (0, 1))) : GX T 1000 316 710 [(2, 0), (2, 1), (2, 192), (0, (i : Int))] [] m (fun v _ => v = (0, 1)) := by
  obtain ⟨s1, e_s1⟩ : ∃ z, z = (xs (i + 1)).toInt := ⟨_, rfl⟩
  have b_s1 := i32_in (xs (i + 1))
  rw [← e_s1] at b_s1
  unfold in32 at b_s1
  obtain ⟨s2, e_s2⟩ : ∃ z, z = (xs (i + 2)).toInt := ⟨_, rfl⟩
  have b_s2 := i32_in (xs (i + 2))
  rw [← e_s2] at b_s2
  unfold in32 at b_s2
  obtain ⟨s3, e_s3⟩ : ∃ z, z = (xs (i + 3)).toInt := ⟨_, rfl⟩
  have b_s3 := i32_in (xs (i + 3))
  rw [← e_s3] at b_s3
  unfold in32 at b_s3
  obtain ⟨s4, e_s4⟩ : ∃ z, z = (xs (i + 4)).toInt := ⟨_, rfl⟩
  have b_s4 := i32_in (xs (i + 4))
  rw [← e_s4] at b_s4
  unfold in32 at b_s4
  obtain ⟨s5, e_s5⟩ : ∃ z, z = (xs (i + 5)).toInt := ⟨_, rfl⟩
  have b_s5 := i32_in (xs (i + 5))
  rw [← e_s5] at b_s5
  unfold in32 at b_s5
  refine gx_st (L' := [(2, 0), (2, 1), (2, 192), (0, (i : Int))]) (S' := [(2, 1)]) r_316_710 rfl rfl rfl ?_
  refine gx_st (L' := [(2, 0), (2, 1), (2, 192), (0, (i : Int))]) (S' := [(2, 0), (2, 1)]) r_316_711 rfl rfl rfl ?_
  refine gx_st (L' := [(2, 0), (2, 1), (2, 192), (0, (i : Int))]) (S' := [(0, (i : Int)), (2, 0), (2, 1)]) r_316_712 rfl rfl rfl ?_
  refine gx_st (L' := [(2, 0), (2, 1), (2, 192), (0, (i : Int))]) (S' := [(0, 1), (0, (i : Int)), (2, 0), (2, 1)]) r_316_713 rfl rfl rfl ?_
  refine gx_ar (L' := [(2, 0), (2, 1), (2, 192), (0, (i : Int))]) (S' := [(2, 0), (2, 1)]) (t := 0) (e := w32 ((i : Int) + 1)) (z := (i : Int) + 1) r_316_714 rfl rfl rfl (w32_eq (by omega) (by omega) (by omega)) ?_
  refine gx_ia (n := i + 1) (x := s1) r_316_715 rfl h0 (by omega) ⟨rfl, by show i + 1 < L; omega⟩ ((hl.2.2.1 (i + 1)).trans e_s1.symm) ?_
  show GX T 1000 316 716 [(2, 0), (2, 1), (2, 192), (0, (i : Int))] [(0, s1), (2, 1)] m (fun v _ => v = (0, 1))
  refine gx_st (L' := [(2, 0), (2, 1), (2, 192), (0, (i : Int))]) (S' := [(2, 0), (0, s1), (2, 1)]) r_316_716 rfl rfl rfl ?_
  refine gx_st (L' := [(2, 0), (2, 1), (2, 192), (0, (i : Int))]) (S' := [(0, (i : Int)), (2, 0), (0, s1), (2, 1)]) r_316_717 rfl rfl rfl ?_
  refine gx_st (L' := [(2, 0), (2, 1), (2, 192), (0, (i : Int))]) (S' := [(0, 2), (0, (i : Int)), (2, 0), (0, s1), (2, 1)]) r_316_718 rfl rfl rfl ?_
  refine gx_ar (L' := [(2, 0), (2, 1), (2, 192), (0, (i : Int))]) (S' := [(2, 0), (0, s1), (2, 1)]) (t := 0) (e := w32 ((i : Int) + 2)) (z := (i : Int) + 2) r_316_719 rfl rfl rfl (w32_eq (by omega) (by omega) (by omega)) ?_
  refine gx_ia (n := i + 2) (x := s2) r_316_720 rfl h0 (by omega) ⟨rfl, by show i + 2 < L; omega⟩ ((hl.2.2.1 (i + 2)).trans e_s2.symm) ?_
  show GX T 1000 316 721 [(2, 0), (2, 1), (2, 192), (0, (i : Int))] [(0, s2), (0, s1), (2, 1)] m (fun v _ => v = (0, 1))
  refine gx_ci (nx := 724) (S2 := []) (gx_hi (args := [(2, 1), (0, s1), (0, s2)]) (pk_17 hT) ⟨gq_o1, gq_any (by omega) (by omega), gq_any (by omega) (by omega), trivial⟩ hl.1 rfl) r_316_721 rfl rfl rfl rfl rfl (rcv_v rfl (tk_1 hT) (by decide) rfl (by decide)) rfl (by decide) rfl (fun x721 n721 q721 => ?_)
  show GX T 1000 316 724 [(2, 0), (2, 1), (2, 192), (0, (i : Int))] [(0, x721)] n721 (fun v _ => v = (0, 1))
  have ex_n721 : Ext n721 := Ext_fr q721.2.2.2 (by decide) hl.2.1
  have sc_n721 := sc_fr q721.2.2.2 (by decide) hl.2.2.1
  have rl_n721 : RelR n721 := Rel_fr q721.2.2.2 (by decide) (by decide) (by decide) (by decide) (by decide) (by decide) (by decide) (by decide) hl.2.2.2
  refine gx_st (L' := [(2, 0), (2, 1), (2, 192), (0, (i : Int))]) (S' := []) r_316_724 rfl rfl rfl ?_
  refine gx_st (L' := [(2, 0), (2, 1), (2, 192), (0, (i : Int))]) (S' := [(2, 192)]) r_316_725 rfl rfl rfl ?_
  refine gx_st (L' := [(2, 0), (2, 1), (2, 192), (0, (i : Int))]) (S' := [(2, 0), (2, 192)]) r_316_726 rfl rfl rfl ?_
  refine gx_st (L' := [(2, 0), (2, 1), (2, 192), (0, (i : Int))]) (S' := [(0, (i : Int)), (2, 0), (2, 192)]) r_316_727 rfl rfl rfl ?_
  refine gx_st (L' := [(2, 0), (2, 1), (2, 192), (0, (i : Int))]) (S' := [(0, 1), (0, (i : Int)), (2, 0), (2, 192)]) r_316_728 rfl rfl rfl ?_
  refine gx_ar (L' := [(2, 0), (2, 1), (2, 192), (0, (i : Int))]) (S' := [(2, 0), (2, 192)]) (t := 0) (e := w32 ((i : Int) + 1)) (z := (i : Int) + 1) r_316_729 rfl rfl rfl (w32_eq (by omega) (by omega) (by omega)) ?_
  refine gx_ia (n := i + 1) (x := s1) r_316_730 rfl h0 (by omega) ⟨rfl, by show i + 1 < L; omega⟩ ((sc_n721 (i + 1)).trans e_s1.symm) ?_
  show GX T 1000 316 731 [(2, 0), (2, 1), (2, 192), (0, (i : Int))] [(0, s1), (2, 192)] n721 (fun v _ => v = (0, 1))
  refine gx_st (L' := [(2, 0), (2, 1), (2, 192), (0, (i : Int))]) (S' := [(2, 0), (0, s1), (2, 192)]) r_316_731 rfl rfl rfl ?_
  refine gx_st (L' := [(2, 0), (2, 1), (2, 192), (0, (i : Int))]) (S' := [(0, (i : Int)), (2, 0), (0, s1), (2, 192)]) r_316_732 rfl rfl rfl ?_
  refine gx_st (L' := [(2, 0), (2, 1), (2, 192), (0, (i : Int))]) (S' := [(0, 2), (0, (i : Int)), (2, 0), (0, s1), (2, 192)]) r_316_733 rfl rfl rfl ?_
  refine gx_ar (L' := [(2, 0), (2, 1), (2, 192), (0, (i : Int))]) (S' := [(2, 0), (0, s1), (2, 192)]) (t := 0) (e := w32 ((i : Int) + 2)) (z := (i : Int) + 2) r_316_734 rfl rfl rfl (w32_eq (by omega) (by omega) (by omega)) ?_
  refine gx_ia (n := i + 2) (x := s2) r_316_735 rfl h0 (by omega) ⟨rfl, by show i + 2 < L; omega⟩ ((sc_n721 (i + 2)).trans e_s2.symm) ?_
  show GX T 1000 316 736 [(2, 0), (2, 1), (2, 192), (0, (i : Int))] [(0, s2), (0, s1), (2, 192)] n721 (fun v _ => v = (0, 1))
  refine gx_ci (nx := 739) (S2 := []) (gx_xi (args := [(2, 192), (0, s1), (0, s2)]) (pk_152 hT) ⟨gq_o192, gq_any (by omega) (by omega), gq_any (by omega) (by omega), trivial⟩ q721.2.2.1 ex_n721 (fun z => absurd z (by decide)) rfl) r_316_736 rfl rfl rfl rfl rfl (rcv_v rfl (tk_192 hT) (by decide) rfl (by decide)) rfl (by decide) rfl (fun x736 n736 q736 => ?_)
  show GX T 1000 316 739 [(2, 0), (2, 1), (2, 192), (0, (i : Int))] [(0, x736)] n736 (fun v _ => v = (0, 1))
  have sc_n736 := sc_fr q736.2.2.2.2.1 (by decide) sc_n721
  have rl_n736 : RelR n736 := Rel_fr q736.2.2.2.2.1 (by decide) (by decide) (by decide) (by decide) (by decide) (by decide) (by decide) (by decide) rl_n721
  refine gx_st (L' := [(2, 0), (2, 1), (2, 192), (0, (i : Int))]) (S' := []) r_316_739 rfl rfl rfl ?_
  refine gx_st (L' := [(2, 0), (2, 1), (2, 192), (0, (i : Int))]) (S' := []) r_316_740 rfl rfl rfl ?_
  exact hnext n736 ⟨q736.2.2.1, q736.2.2.2.1, sc_n736, rl_n736⟩
theorem pk_18 (hT : TT T) : ConH T cn_18 := fun args m => ((all_con hT 309).1 (by decide)) cn_18 cx_18 args m
theorem pk_153 (hT : TT T) : ConX T cn_153 false false := by
  have z := ((all_con hT 815).2 (by decide)) cn_153 cx_153
  rw [show (Fl 815).2 = (false, false) by decide] at z
  exact z
theorem case_15 (hT : TT T) (h0 : T[0]? = some (100, L)) (hL : L ≤ 3072) (hi : i + 6 ≤ L) (hl : LI xs m) (hnext : ∀ m, LI xs m → GX T 1000 316 2098 [(2, 0), (2, 1), (2, 192), (0, (i : Int))] [] m (fun v _ => v = (0, 1))) : GX T 1000 316 743 [(2, 0), (2, 1), (2, 192), (0, (i : Int))] [] m (fun v _ => v = (0, 1)) := by
  obtain ⟨s1, e_s1⟩ : ∃ z, z = (xs (i + 1)).toInt := ⟨_, rfl⟩
  have b_s1 := i32_in (xs (i + 1))
  rw [← e_s1] at b_s1
  unfold in32 at b_s1
  obtain ⟨s2, e_s2⟩ : ∃ z, z = (xs (i + 2)).toInt := ⟨_, rfl⟩
  have b_s2 := i32_in (xs (i + 2))
  rw [← e_s2] at b_s2
  unfold in32 at b_s2
  obtain ⟨s3, e_s3⟩ : ∃ z, z = (xs (i + 3)).toInt := ⟨_, rfl⟩
  have b_s3 := i32_in (xs (i + 3))
  rw [← e_s3] at b_s3
  unfold in32 at b_s3
  obtain ⟨s4, e_s4⟩ : ∃ z, z = (xs (i + 4)).toInt := ⟨_, rfl⟩
  have b_s4 := i32_in (xs (i + 4))
  rw [← e_s4] at b_s4
  unfold in32 at b_s4
  obtain ⟨s5, e_s5⟩ : ∃ z, z = (xs (i + 5)).toInt := ⟨_, rfl⟩
  have b_s5 := i32_in (xs (i + 5))
  rw [← e_s5] at b_s5
  unfold in32 at b_s5
  refine gx_st (L' := [(2, 0), (2, 1), (2, 192), (0, (i : Int))]) (S' := [(2, 1)]) r_316_743 rfl rfl rfl ?_
  refine gx_st (L' := [(2, 0), (2, 1), (2, 192), (0, (i : Int))]) (S' := [(2, 0), (2, 1)]) r_316_744 rfl rfl rfl ?_
  refine gx_st (L' := [(2, 0), (2, 1), (2, 192), (0, (i : Int))]) (S' := [(0, (i : Int)), (2, 0), (2, 1)]) r_316_745 rfl rfl rfl ?_
  refine gx_st (L' := [(2, 0), (2, 1), (2, 192), (0, (i : Int))]) (S' := [(0, 1), (0, (i : Int)), (2, 0), (2, 1)]) r_316_746 rfl rfl rfl ?_
  refine gx_ar (L' := [(2, 0), (2, 1), (2, 192), (0, (i : Int))]) (S' := [(2, 0), (2, 1)]) (t := 0) (e := w32 ((i : Int) + 1)) (z := (i : Int) + 1) r_316_747 rfl rfl rfl (w32_eq (by omega) (by omega) (by omega)) ?_
  refine gx_ia (n := i + 1) (x := s1) r_316_748 rfl h0 (by omega) ⟨rfl, by show i + 1 < L; omega⟩ ((hl.2.2.1 (i + 1)).trans e_s1.symm) ?_
  show GX T 1000 316 749 [(2, 0), (2, 1), (2, 192), (0, (i : Int))] [(0, s1), (2, 1)] m (fun v _ => v = (0, 1))
  refine gx_st (L' := [(2, 0), (2, 1), (2, 192), (0, (i : Int))]) (S' := [(2, 0), (0, s1), (2, 1)]) r_316_749 rfl rfl rfl ?_
  refine gx_st (L' := [(2, 0), (2, 1), (2, 192), (0, (i : Int))]) (S' := [(0, (i : Int)), (2, 0), (0, s1), (2, 1)]) r_316_750 rfl rfl rfl ?_
  refine gx_st (L' := [(2, 0), (2, 1), (2, 192), (0, (i : Int))]) (S' := [(0, 2), (0, (i : Int)), (2, 0), (0, s1), (2, 1)]) r_316_751 rfl rfl rfl ?_
  refine gx_ar (L' := [(2, 0), (2, 1), (2, 192), (0, (i : Int))]) (S' := [(2, 0), (0, s1), (2, 1)]) (t := 0) (e := w32 ((i : Int) + 2)) (z := (i : Int) + 2) r_316_752 rfl rfl rfl (w32_eq (by omega) (by omega) (by omega)) ?_
  refine gx_ia (n := i + 2) (x := s2) r_316_753 rfl h0 (by omega) ⟨rfl, by show i + 2 < L; omega⟩ ((hl.2.2.1 (i + 2)).trans e_s2.symm) ?_
  show GX T 1000 316 754 [(2, 0), (2, 1), (2, 192), (0, (i : Int))] [(0, s2), (0, s1), (2, 1)] m (fun v _ => v = (0, 1))
  refine gx_ci (nx := 757) (S2 := []) (gx_hi (args := [(2, 1), (0, s1), (0, s2)]) (pk_18 hT) ⟨gq_o1, gq_any (by omega) (by omega), gq_any (by omega) (by omega), trivial⟩ hl.1 rfl) r_316_754 rfl rfl rfl rfl rfl (rcv_v rfl (tk_1 hT) (by decide) rfl (by decide)) rfl (by decide) rfl (fun x754 n754 q754 => ?_)
  show GX T 1000 316 757 [(2, 0), (2, 1), (2, 192), (0, (i : Int))] [(0, x754)] n754 (fun v _ => v = (0, 1))
  have ex_n754 : Ext n754 := Ext_fr q754.2.2.2 (by decide) hl.2.1
  have sc_n754 := sc_fr q754.2.2.2 (by decide) hl.2.2.1
  have rl_n754 : RelR n754 := Rel_fr q754.2.2.2 (by decide) (by decide) (by decide) (by decide) (by decide) (by decide) (by decide) (by decide) hl.2.2.2
  refine gx_st (L' := [(2, 0), (2, 1), (2, 192), (0, (i : Int))]) (S' := []) r_316_757 rfl rfl rfl ?_
  refine gx_st (L' := [(2, 0), (2, 1), (2, 192), (0, (i : Int))]) (S' := [(2, 192)]) r_316_758 rfl rfl rfl ?_
  refine gx_st (L' := [(2, 0), (2, 1), (2, 192), (0, (i : Int))]) (S' := [(2, 0), (2, 192)]) r_316_759 rfl rfl rfl ?_
  refine gx_st (L' := [(2, 0), (2, 1), (2, 192), (0, (i : Int))]) (S' := [(0, (i : Int)), (2, 0), (2, 192)]) r_316_760 rfl rfl rfl ?_
  refine gx_st (L' := [(2, 0), (2, 1), (2, 192), (0, (i : Int))]) (S' := [(0, 1), (0, (i : Int)), (2, 0), (2, 192)]) r_316_761 rfl rfl rfl ?_
  refine gx_ar (L' := [(2, 0), (2, 1), (2, 192), (0, (i : Int))]) (S' := [(2, 0), (2, 192)]) (t := 0) (e := w32 ((i : Int) + 1)) (z := (i : Int) + 1) r_316_762 rfl rfl rfl (w32_eq (by omega) (by omega) (by omega)) ?_
  refine gx_ia (n := i + 1) (x := s1) r_316_763 rfl h0 (by omega) ⟨rfl, by show i + 1 < L; omega⟩ ((sc_n754 (i + 1)).trans e_s1.symm) ?_
  show GX T 1000 316 764 [(2, 0), (2, 1), (2, 192), (0, (i : Int))] [(0, s1), (2, 192)] n754 (fun v _ => v = (0, 1))
  refine gx_st (L' := [(2, 0), (2, 1), (2, 192), (0, (i : Int))]) (S' := [(2, 0), (0, s1), (2, 192)]) r_316_764 rfl rfl rfl ?_
  refine gx_st (L' := [(2, 0), (2, 1), (2, 192), (0, (i : Int))]) (S' := [(0, (i : Int)), (2, 0), (0, s1), (2, 192)]) r_316_765 rfl rfl rfl ?_
  refine gx_st (L' := [(2, 0), (2, 1), (2, 192), (0, (i : Int))]) (S' := [(0, 2), (0, (i : Int)), (2, 0), (0, s1), (2, 192)]) r_316_766 rfl rfl rfl ?_
  refine gx_ar (L' := [(2, 0), (2, 1), (2, 192), (0, (i : Int))]) (S' := [(2, 0), (0, s1), (2, 192)]) (t := 0) (e := w32 ((i : Int) + 2)) (z := (i : Int) + 2) r_316_767 rfl rfl rfl (w32_eq (by omega) (by omega) (by omega)) ?_
  refine gx_ia (n := i + 2) (x := s2) r_316_768 rfl h0 (by omega) ⟨rfl, by show i + 2 < L; omega⟩ ((sc_n754 (i + 2)).trans e_s2.symm) ?_
  show GX T 1000 316 769 [(2, 0), (2, 1), (2, 192), (0, (i : Int))] [(0, s2), (0, s1), (2, 192)] n754 (fun v _ => v = (0, 1))
  refine gx_ci (nx := 772) (S2 := []) (gx_xi (args := [(2, 192), (0, s1), (0, s2)]) (pk_153 hT) ⟨gq_o192, gq_any (by omega) (by omega), gq_any (by omega) (by omega), trivial⟩ q754.2.2.1 ex_n754 (fun z => absurd z (by decide)) rfl) r_316_769 rfl rfl rfl rfl rfl (rcv_v rfl (tk_192 hT) (by decide) rfl (by decide)) rfl (by decide) rfl (fun x769 n769 q769 => ?_)
  show GX T 1000 316 772 [(2, 0), (2, 1), (2, 192), (0, (i : Int))] [(0, x769)] n769 (fun v _ => v = (0, 1))
  have sc_n769 := sc_fr q769.2.2.2.2.1 (by decide) sc_n754
  have rl_n769 : RelR n769 := Rel_fr q769.2.2.2.2.1 (by decide) (by decide) (by decide) (by decide) (by decide) (by decide) (by decide) (by decide) rl_n754
  refine gx_st (L' := [(2, 0), (2, 1), (2, 192), (0, (i : Int))]) (S' := []) r_316_772 rfl rfl rfl ?_
  refine gx_st (L' := [(2, 0), (2, 1), (2, 192), (0, (i : Int))]) (S' := []) r_316_773 rfl rfl rfl ?_
  exact hnext n769 ⟨q769.2.2.1, q769.2.2.2.1, sc_n769, rl_n769⟩
theorem pk_19 (hT : TT T) : ConH T cn_19 := fun args m => ((all_con hT 313).1 (by decide)) cn_19 cx_19 args m
theorem pk_154 (hT : TT T) : ConX T cn_154 false false := by
  have z := ((all_con hT 825).2 (by decide)) cn_154 cx_154
  rw [show (Fl 825).2 = (false, false) by decide] at z
  exact z
theorem case_16 (hT : TT T) (h0 : T[0]? = some (100, L)) (hL : L ≤ 3072) (hi : i + 6 ≤ L) (hl : LI xs m) (hnext : ∀ m, LI xs m → GX T 1000 316 2098 [(2, 0), (2, 1), (2, 192), (0, (i : Int))] [] m (fun v _ => v = (0, 1))) : GX T 1000 316 776 [(2, 0), (2, 1), (2, 192), (0, (i : Int))] [] m (fun v _ => v = (0, 1)) := by
  obtain ⟨s1, e_s1⟩ : ∃ z, z = (xs (i + 1)).toInt := ⟨_, rfl⟩
  have b_s1 := i32_in (xs (i + 1))
  rw [← e_s1] at b_s1
  unfold in32 at b_s1
  obtain ⟨s2, e_s2⟩ : ∃ z, z = (xs (i + 2)).toInt := ⟨_, rfl⟩
  have b_s2 := i32_in (xs (i + 2))
  rw [← e_s2] at b_s2
  unfold in32 at b_s2
  obtain ⟨s3, e_s3⟩ : ∃ z, z = (xs (i + 3)).toInt := ⟨_, rfl⟩
  have b_s3 := i32_in (xs (i + 3))
  rw [← e_s3] at b_s3
  unfold in32 at b_s3
  obtain ⟨s4, e_s4⟩ : ∃ z, z = (xs (i + 4)).toInt := ⟨_, rfl⟩
  have b_s4 := i32_in (xs (i + 4))
  rw [← e_s4] at b_s4
  unfold in32 at b_s4
  obtain ⟨s5, e_s5⟩ : ∃ z, z = (xs (i + 5)).toInt := ⟨_, rfl⟩
  have b_s5 := i32_in (xs (i + 5))
  rw [← e_s5] at b_s5
  unfold in32 at b_s5
  refine gx_st (L' := [(2, 0), (2, 1), (2, 192), (0, (i : Int))]) (S' := [(2, 1)]) r_316_776 rfl rfl rfl ?_
  refine gx_st (L' := [(2, 0), (2, 1), (2, 192), (0, (i : Int))]) (S' := [(2, 0), (2, 1)]) r_316_777 rfl rfl rfl ?_
  refine gx_st (L' := [(2, 0), (2, 1), (2, 192), (0, (i : Int))]) (S' := [(0, (i : Int)), (2, 0), (2, 1)]) r_316_778 rfl rfl rfl ?_
  refine gx_st (L' := [(2, 0), (2, 1), (2, 192), (0, (i : Int))]) (S' := [(0, 1), (0, (i : Int)), (2, 0), (2, 1)]) r_316_779 rfl rfl rfl ?_
  refine gx_ar (L' := [(2, 0), (2, 1), (2, 192), (0, (i : Int))]) (S' := [(2, 0), (2, 1)]) (t := 0) (e := w32 ((i : Int) + 1)) (z := (i : Int) + 1) r_316_780 rfl rfl rfl (w32_eq (by omega) (by omega) (by omega)) ?_
  refine gx_ia (n := i + 1) (x := s1) r_316_781 rfl h0 (by omega) ⟨rfl, by show i + 1 < L; omega⟩ ((hl.2.2.1 (i + 1)).trans e_s1.symm) ?_
  show GX T 1000 316 782 [(2, 0), (2, 1), (2, 192), (0, (i : Int))] [(0, s1), (2, 1)] m (fun v _ => v = (0, 1))
  refine gx_ci (nx := 785) (S2 := []) (gx_hi (args := [(2, 1), (0, s1)]) (pk_19 hT) ⟨gq_o1, gq_any (by omega) (by omega), trivial⟩ hl.1 rfl) r_316_782 rfl rfl rfl rfl rfl (rcv_v rfl (tk_1 hT) (by decide) rfl (by decide)) rfl (by decide) rfl (fun x782 n782 q782 => ?_)
  show GX T 1000 316 785 [(2, 0), (2, 1), (2, 192), (0, (i : Int))] [(0, x782)] n782 (fun v _ => v = (0, 1))
  have ex_n782 : Ext n782 := Ext_fr q782.2.2.2 (by decide) hl.2.1
  have sc_n782 := sc_fr q782.2.2.2 (by decide) hl.2.2.1
  have rl_n782 : RelR n782 := Rel_fr q782.2.2.2 (by decide) (by decide) (by decide) (by decide) (by decide) (by decide) (by decide) (by decide) hl.2.2.2
  refine gx_st (L' := [(2, 0), (2, 1), (2, 192), (0, (i : Int))]) (S' := []) r_316_785 rfl rfl rfl ?_
  refine gx_st (L' := [(2, 0), (2, 1), (2, 192), (0, (i : Int))]) (S' := [(2, 192)]) r_316_786 rfl rfl rfl ?_
  refine gx_st (L' := [(2, 0), (2, 1), (2, 192), (0, (i : Int))]) (S' := [(2, 0), (2, 192)]) r_316_787 rfl rfl rfl ?_
  refine gx_st (L' := [(2, 0), (2, 1), (2, 192), (0, (i : Int))]) (S' := [(0, (i : Int)), (2, 0), (2, 192)]) r_316_788 rfl rfl rfl ?_
  refine gx_st (L' := [(2, 0), (2, 1), (2, 192), (0, (i : Int))]) (S' := [(0, 1), (0, (i : Int)), (2, 0), (2, 192)]) r_316_789 rfl rfl rfl ?_
  refine gx_ar (L' := [(2, 0), (2, 1), (2, 192), (0, (i : Int))]) (S' := [(2, 0), (2, 192)]) (t := 0) (e := w32 ((i : Int) + 1)) (z := (i : Int) + 1) r_316_790 rfl rfl rfl (w32_eq (by omega) (by omega) (by omega)) ?_
  refine gx_ia (n := i + 1) (x := s1) r_316_791 rfl h0 (by omega) ⟨rfl, by show i + 1 < L; omega⟩ ((sc_n782 (i + 1)).trans e_s1.symm) ?_
  show GX T 1000 316 792 [(2, 0), (2, 1), (2, 192), (0, (i : Int))] [(0, s1), (2, 192)] n782 (fun v _ => v = (0, 1))
  refine gx_ci (nx := 795) (S2 := []) (gx_xi (args := [(2, 192), (0, s1)]) (pk_154 hT) ⟨gq_o192, gq_any (by omega) (by omega), trivial⟩ q782.2.2.1 ex_n782 (fun z => absurd z (by decide)) rfl) r_316_792 rfl rfl rfl rfl rfl (rcv_v rfl (tk_192 hT) (by decide) rfl (by decide)) rfl (by decide) rfl (fun x792 n792 q792 => ?_)
  show GX T 1000 316 795 [(2, 0), (2, 1), (2, 192), (0, (i : Int))] [(0, x792)] n792 (fun v _ => v = (0, 1))
  have sc_n792 := sc_fr q792.2.2.2.2.1 (by decide) sc_n782
  have rl_n792 : RelR n792 := Rel_fr q792.2.2.2.2.1 (by decide) (by decide) (by decide) (by decide) (by decide) (by decide) (by decide) (by decide) rl_n782
  refine gx_st (L' := [(2, 0), (2, 1), (2, 192), (0, (i : Int))]) (S' := []) r_316_795 rfl rfl rfl ?_
  refine gx_st (L' := [(2, 0), (2, 1), (2, 192), (0, (i : Int))]) (S' := []) r_316_796 rfl rfl rfl ?_
  exact hnext n792 ⟨q792.2.2.1, q792.2.2.2.1, sc_n792, rl_n792⟩
theorem pk_20 (hT : TT T) : ConH T cn_20 := fun args m => ((all_con hT 315).1 (by decide)) cn_20 cx_20 args m
theorem pk_155 (hT : TT T) : ConX T cn_155 false false := by
  have z := ((all_con hT 829).2 (by decide)) cn_155 cx_155
  rw [show (Fl 829).2 = (false, false) by decide] at z
  exact z
theorem case_17 (hT : TT T) (h0 : T[0]? = some (100, L)) (hL : L ≤ 3072) (hi : i + 6 ≤ L) (hl : LI xs m) (hnext : ∀ m, LI xs m → GX T 1000 316 2098 [(2, 0), (2, 1), (2, 192), (0, (i : Int))] [] m (fun v _ => v = (0, 1))) : GX T 1000 316 799 [(2, 0), (2, 1), (2, 192), (0, (i : Int))] [] m (fun v _ => v = (0, 1)) := by
  obtain ⟨s1, e_s1⟩ : ∃ z, z = (xs (i + 1)).toInt := ⟨_, rfl⟩
  have b_s1 := i32_in (xs (i + 1))
  rw [← e_s1] at b_s1
  unfold in32 at b_s1
  obtain ⟨s2, e_s2⟩ : ∃ z, z = (xs (i + 2)).toInt := ⟨_, rfl⟩
  have b_s2 := i32_in (xs (i + 2))
  rw [← e_s2] at b_s2
  unfold in32 at b_s2
  obtain ⟨s3, e_s3⟩ : ∃ z, z = (xs (i + 3)).toInt := ⟨_, rfl⟩
  have b_s3 := i32_in (xs (i + 3))
  rw [← e_s3] at b_s3
  unfold in32 at b_s3
  obtain ⟨s4, e_s4⟩ : ∃ z, z = (xs (i + 4)).toInt := ⟨_, rfl⟩
  have b_s4 := i32_in (xs (i + 4))
  rw [← e_s4] at b_s4
  unfold in32 at b_s4
  obtain ⟨s5, e_s5⟩ : ∃ z, z = (xs (i + 5)).toInt := ⟨_, rfl⟩
  have b_s5 := i32_in (xs (i + 5))
  rw [← e_s5] at b_s5
  unfold in32 at b_s5
  refine gx_st (L' := [(2, 0), (2, 1), (2, 192), (0, (i : Int))]) (S' := [(2, 1)]) r_316_799 rfl rfl rfl ?_
  refine gx_st (L' := [(2, 0), (2, 1), (2, 192), (0, (i : Int))]) (S' := [(2, 0), (2, 1)]) r_316_800 rfl rfl rfl ?_
  refine gx_st (L' := [(2, 0), (2, 1), (2, 192), (0, (i : Int))]) (S' := [(0, (i : Int)), (2, 0), (2, 1)]) r_316_801 rfl rfl rfl ?_
  refine gx_st (L' := [(2, 0), (2, 1), (2, 192), (0, (i : Int))]) (S' := [(0, 1), (0, (i : Int)), (2, 0), (2, 1)]) r_316_802 rfl rfl rfl ?_
  refine gx_ar (L' := [(2, 0), (2, 1), (2, 192), (0, (i : Int))]) (S' := [(2, 0), (2, 1)]) (t := 0) (e := w32 ((i : Int) + 1)) (z := (i : Int) + 1) r_316_803 rfl rfl rfl (w32_eq (by omega) (by omega) (by omega)) ?_
  refine gx_ia (n := i + 1) (x := s1) r_316_804 rfl h0 (by omega) ⟨rfl, by show i + 1 < L; omega⟩ ((hl.2.2.1 (i + 1)).trans e_s1.symm) ?_
  show GX T 1000 316 805 [(2, 0), (2, 1), (2, 192), (0, (i : Int))] [(0, s1), (2, 1)] m (fun v _ => v = (0, 1))
  refine gx_ci (nx := 808) (S2 := []) (gx_hi (args := [(2, 1), (0, s1)]) (pk_20 hT) ⟨gq_o1, gq_any (by omega) (by omega), trivial⟩ hl.1 rfl) r_316_805 rfl rfl rfl rfl rfl (rcv_v rfl (tk_1 hT) (by decide) rfl (by decide)) rfl (by decide) rfl (fun x805 n805 q805 => ?_)
  show GX T 1000 316 808 [(2, 0), (2, 1), (2, 192), (0, (i : Int))] [(0, x805)] n805 (fun v _ => v = (0, 1))
  have ex_n805 : Ext n805 := Ext_fr q805.2.2.2 (by decide) hl.2.1
  have sc_n805 := sc_fr q805.2.2.2 (by decide) hl.2.2.1
  have rl_n805 : RelR n805 := Rel_fr q805.2.2.2 (by decide) (by decide) (by decide) (by decide) (by decide) (by decide) (by decide) (by decide) hl.2.2.2
  refine gx_st (L' := [(2, 0), (2, 1), (2, 192), (0, (i : Int))]) (S' := []) r_316_808 rfl rfl rfl ?_
  refine gx_st (L' := [(2, 0), (2, 1), (2, 192), (0, (i : Int))]) (S' := [(2, 192)]) r_316_809 rfl rfl rfl ?_
  refine gx_st (L' := [(2, 0), (2, 1), (2, 192), (0, (i : Int))]) (S' := [(2, 0), (2, 192)]) r_316_810 rfl rfl rfl ?_
  refine gx_st (L' := [(2, 0), (2, 1), (2, 192), (0, (i : Int))]) (S' := [(0, (i : Int)), (2, 0), (2, 192)]) r_316_811 rfl rfl rfl ?_
  refine gx_st (L' := [(2, 0), (2, 1), (2, 192), (0, (i : Int))]) (S' := [(0, 1), (0, (i : Int)), (2, 0), (2, 192)]) r_316_812 rfl rfl rfl ?_
  refine gx_ar (L' := [(2, 0), (2, 1), (2, 192), (0, (i : Int))]) (S' := [(2, 0), (2, 192)]) (t := 0) (e := w32 ((i : Int) + 1)) (z := (i : Int) + 1) r_316_813 rfl rfl rfl (w32_eq (by omega) (by omega) (by omega)) ?_
  refine gx_ia (n := i + 1) (x := s1) r_316_814 rfl h0 (by omega) ⟨rfl, by show i + 1 < L; omega⟩ ((sc_n805 (i + 1)).trans e_s1.symm) ?_
  show GX T 1000 316 815 [(2, 0), (2, 1), (2, 192), (0, (i : Int))] [(0, s1), (2, 192)] n805 (fun v _ => v = (0, 1))
  refine gx_ci (nx := 818) (S2 := []) (gx_xi (args := [(2, 192), (0, s1)]) (pk_155 hT) ⟨gq_o192, gq_any (by omega) (by omega), trivial⟩ q805.2.2.1 ex_n805 (fun z => absurd z (by decide)) rfl) r_316_815 rfl rfl rfl rfl rfl (rcv_v rfl (tk_192 hT) (by decide) rfl (by decide)) rfl (by decide) rfl (fun x815 n815 q815 => ?_)
  show GX T 1000 316 818 [(2, 0), (2, 1), (2, 192), (0, (i : Int))] [(0, x815)] n815 (fun v _ => v = (0, 1))
  have sc_n815 := sc_fr q815.2.2.2.2.1 (by decide) sc_n805
  have rl_n815 : RelR n815 := Rel_fr q815.2.2.2.2.1 (by decide) (by decide) (by decide) (by decide) (by decide) (by decide) (by decide) (by decide) rl_n805
  refine gx_st (L' := [(2, 0), (2, 1), (2, 192), (0, (i : Int))]) (S' := []) r_316_818 rfl rfl rfl ?_
  refine gx_st (L' := [(2, 0), (2, 1), (2, 192), (0, (i : Int))]) (S' := []) r_316_819 rfl rfl rfl ?_
  exact hnext n815 ⟨q815.2.2.1, q815.2.2.2.1, sc_n815, rl_n815⟩
theorem pk_21 (hT : TT T) : ConH T cn_21 := fun args m => ((all_con hT 316).1 (by decide)) cn_21 cx_21 args m
theorem pk_156 (hT : TT T) : ConX T cn_156 false true := by
  have z := ((all_con hT 830).2 (by decide)) cn_156 cx_156
  rw [show (Fl 830).2 = (false, true) by decide] at z
  exact z
theorem case_18 (hT : TT T) (h0 : T[0]? = some (100, L)) (hL : L ≤ 3072) (hi : i + 6 ≤ L) (hl : LI xs m) (hnext : ∀ m, LI xs m → GX T 1000 316 2098 [(2, 0), (2, 1), (2, 192), (0, (i : Int))] [] m (fun v _ => v = (0, 1))) : GX T 1000 316 822 [(2, 0), (2, 1), (2, 192), (0, (i : Int))] [] m (fun v _ => v = (0, 1)) := by
  obtain ⟨s1, e_s1⟩ : ∃ z, z = (xs (i + 1)).toInt := ⟨_, rfl⟩
  have b_s1 := i32_in (xs (i + 1))
  rw [← e_s1] at b_s1
  unfold in32 at b_s1
  obtain ⟨s2, e_s2⟩ : ∃ z, z = (xs (i + 2)).toInt := ⟨_, rfl⟩
  have b_s2 := i32_in (xs (i + 2))
  rw [← e_s2] at b_s2
  unfold in32 at b_s2
  obtain ⟨s3, e_s3⟩ : ∃ z, z = (xs (i + 3)).toInt := ⟨_, rfl⟩
  have b_s3 := i32_in (xs (i + 3))
  rw [← e_s3] at b_s3
  unfold in32 at b_s3
  obtain ⟨s4, e_s4⟩ : ∃ z, z = (xs (i + 4)).toInt := ⟨_, rfl⟩
  have b_s4 := i32_in (xs (i + 4))
  rw [← e_s4] at b_s4
  unfold in32 at b_s4
  obtain ⟨s5, e_s5⟩ : ∃ z, z = (xs (i + 5)).toInt := ⟨_, rfl⟩
  have b_s5 := i32_in (xs (i + 5))
  rw [← e_s5] at b_s5
  unfold in32 at b_s5
  refine gx_st (L' := [(2, 0), (2, 1), (2, 192), (0, (i : Int))]) (S' := [(2, 1)]) r_316_822 rfl rfl rfl ?_
  refine gx_ci (nx := 826) (S2 := []) (gx_hi (args := [(2, 1)]) (pk_21 hT) ⟨gq_o1, trivial⟩ hl.1 rfl) r_316_823 rfl rfl rfl rfl rfl (rcv_v rfl (tk_1 hT) (by decide) rfl (by decide)) rfl (by decide) rfl (fun x823 n823 q823 => ?_)
  show GX T 1000 316 826 [(2, 0), (2, 1), (2, 192), (0, (i : Int))] [(0, x823)] n823 (fun v _ => v = (0, 1))
  have ex_n823 : Ext n823 := Ext_fr q823.2.2.2 (by decide) hl.2.1
  have sc_n823 := sc_fr q823.2.2.2 (by decide) hl.2.2.1
  have rl_n823 : RelR n823 := Rel_fr q823.2.2.2 (by decide) (by decide) (by decide) (by decide) (by decide) (by decide) (by decide) (by decide) hl.2.2.2
  refine gx_st (L' := [(2, 0), (2, 1), (2, 192), (0, (i : Int))]) (S' := []) r_316_826 rfl rfl rfl ?_
  refine gx_st (L' := [(2, 0), (2, 1), (2, 192), (0, (i : Int))]) (S' := [(2, 192)]) r_316_827 rfl rfl rfl ?_
  refine gx_ci (nx := 831) (S2 := []) (gx_xi (args := [(2, 192)]) (pk_156 hT) ⟨gq_o192, trivial⟩ q823.2.2.1 ex_n823 (fun z => absurd z (by decide)) rfl) r_316_828 rfl rfl rfl rfl rfl (rcv_v rfl (tk_192 hT) (by decide) rfl (by decide)) rfl (by decide) rfl (fun x828 n828 q828 => ?_)
  show GX T 1000 316 831 [(2, 0), (2, 1), (2, 192), (0, (i : Int))] [(0, x828)] n828 (fun v _ => v = (0, 1))
  have sc_n828 := sc_fr q828.2.2.2.2.1 (by decide) sc_n823
  have rl_n828 : RelR n828 := Rel_fr q828.2.2.2.2.1 (by decide) (by decide) (by decide) (by decide) (by decide) (by decide) (by decide) (by decide) rl_n823
  refine gx_st (L' := [(2, 0), (2, 1), (2, 192), (0, (i : Int))]) (S' := []) r_316_831 rfl rfl rfl ?_
  refine gx_st (L' := [(2, 0), (2, 1), (2, 192), (0, (i : Int))]) (S' := []) r_316_832 rfl rfl rfl ?_
  exact hnext n828 ⟨q828.2.2.1, q828.2.2.2.1, sc_n828, rl_n828⟩
theorem pk_22 (hT : TT T) : ConH T cn_22 := fun args m => ((all_con hT 317).1 (by decide)) cn_22 cx_22 args m
theorem pk_157 (hT : TT T) : ConX T cn_157 false true := by
  have z := ((all_con hT 831).2 (by decide)) cn_157 cx_157
  rw [show (Fl 831).2 = (false, true) by decide] at z
  exact z
theorem case_19 (hT : TT T) (h0 : T[0]? = some (100, L)) (hL : L ≤ 3072) (hi : i + 6 ≤ L) (hl : LI xs m) (hnext : ∀ m, LI xs m → GX T 1000 316 2098 [(2, 0), (2, 1), (2, 192), (0, (i : Int))] [] m (fun v _ => v = (0, 1))) : GX T 1000 316 835 [(2, 0), (2, 1), (2, 192), (0, (i : Int))] [] m (fun v _ => v = (0, 1)) := by
  obtain ⟨s1, e_s1⟩ : ∃ z, z = (xs (i + 1)).toInt := ⟨_, rfl⟩
  have b_s1 := i32_in (xs (i + 1))
  rw [← e_s1] at b_s1
  unfold in32 at b_s1
  obtain ⟨s2, e_s2⟩ : ∃ z, z = (xs (i + 2)).toInt := ⟨_, rfl⟩
  have b_s2 := i32_in (xs (i + 2))
  rw [← e_s2] at b_s2
  unfold in32 at b_s2
  obtain ⟨s3, e_s3⟩ : ∃ z, z = (xs (i + 3)).toInt := ⟨_, rfl⟩
  have b_s3 := i32_in (xs (i + 3))
  rw [← e_s3] at b_s3
  unfold in32 at b_s3
  obtain ⟨s4, e_s4⟩ : ∃ z, z = (xs (i + 4)).toInt := ⟨_, rfl⟩
  have b_s4 := i32_in (xs (i + 4))
  rw [← e_s4] at b_s4
  unfold in32 at b_s4
  obtain ⟨s5, e_s5⟩ : ∃ z, z = (xs (i + 5)).toInt := ⟨_, rfl⟩
  have b_s5 := i32_in (xs (i + 5))
  rw [← e_s5] at b_s5
  unfold in32 at b_s5
  refine gx_st (L' := [(2, 0), (2, 1), (2, 192), (0, (i : Int))]) (S' := [(2, 1)]) r_316_835 rfl rfl rfl ?_
  refine gx_ci (nx := 839) (S2 := []) (gx_hi (args := [(2, 1)]) (pk_22 hT) ⟨gq_o1, trivial⟩ hl.1 rfl) r_316_836 rfl rfl rfl rfl rfl (rcv_v rfl (tk_1 hT) (by decide) rfl (by decide)) rfl (by decide) rfl (fun x836 n836 q836 => ?_)
  show GX T 1000 316 839 [(2, 0), (2, 1), (2, 192), (0, (i : Int))] [(0, x836)] n836 (fun v _ => v = (0, 1))
  have ex_n836 : Ext n836 := Ext_fr q836.2.2.2 (by decide) hl.2.1
  have sc_n836 := sc_fr q836.2.2.2 (by decide) hl.2.2.1
  have rl_n836 : RelR n836 := Rel_fr q836.2.2.2 (by decide) (by decide) (by decide) (by decide) (by decide) (by decide) (by decide) (by decide) hl.2.2.2
  refine gx_st (L' := [(2, 0), (2, 1), (2, 192), (0, (i : Int))]) (S' := []) r_316_839 rfl rfl rfl ?_
  refine gx_st (L' := [(2, 0), (2, 1), (2, 192), (0, (i : Int))]) (S' := [(2, 192)]) r_316_840 rfl rfl rfl ?_
  refine gx_ci (nx := 844) (S2 := []) (gx_xi (args := [(2, 192)]) (pk_157 hT) ⟨gq_o192, trivial⟩ q836.2.2.1 ex_n836 (fun z => absurd z (by decide)) rfl) r_316_841 rfl rfl rfl rfl rfl (rcv_v rfl (tk_192 hT) (by decide) rfl (by decide)) rfl (by decide) rfl (fun x841 n841 q841 => ?_)
  show GX T 1000 316 844 [(2, 0), (2, 1), (2, 192), (0, (i : Int))] [(0, x841)] n841 (fun v _ => v = (0, 1))
  have sc_n841 := sc_fr q841.2.2.2.2.1 (by decide) sc_n836
  have rl_n841 : RelR n841 := Rel_fr q841.2.2.2.2.1 (by decide) (by decide) (by decide) (by decide) (by decide) (by decide) (by decide) (by decide) rl_n836
  refine gx_st (L' := [(2, 0), (2, 1), (2, 192), (0, (i : Int))]) (S' := []) r_316_844 rfl rfl rfl ?_
  refine gx_st (L' := [(2, 0), (2, 1), (2, 192), (0, (i : Int))]) (S' := []) r_316_845 rfl rfl rfl ?_
  exact hnext n841 ⟨q841.2.2.1, q841.2.2.2.1, sc_n841, rl_n841⟩
theorem pk_23 (hT : TT T) : ConH T cn_23 := fun args m => ((all_con hT 318).1 (by decide)) cn_23 cx_23 args m
theorem pk_159 (hT : TT T) : ConX T cn_159 false true := by
  have z := ((all_con hT 832).2 (by decide)) cn_159 cx_159
  rw [show (Fl 832).2 = (false, true) by decide] at z
  exact z
theorem case_20 (hT : TT T) (h0 : T[0]? = some (100, L)) (hL : L ≤ 3072) (hi : i + 6 ≤ L) (hl : LI xs m) (hnext : ∀ m, LI xs m → GX T 1000 316 2098 [(2, 0), (2, 1), (2, 192), (0, (i : Int))] [] m (fun v _ => v = (0, 1))) : GX T 1000 316 848 [(2, 0), (2, 1), (2, 192), (0, (i : Int))] [] m (fun v _ => v = (0, 1)) := by
  obtain ⟨s1, e_s1⟩ : ∃ z, z = (xs (i + 1)).toInt := ⟨_, rfl⟩
  have b_s1 := i32_in (xs (i + 1))
  rw [← e_s1] at b_s1
  unfold in32 at b_s1
  obtain ⟨s2, e_s2⟩ : ∃ z, z = (xs (i + 2)).toInt := ⟨_, rfl⟩
  have b_s2 := i32_in (xs (i + 2))
  rw [← e_s2] at b_s2
  unfold in32 at b_s2
  obtain ⟨s3, e_s3⟩ : ∃ z, z = (xs (i + 3)).toInt := ⟨_, rfl⟩
  have b_s3 := i32_in (xs (i + 3))
  rw [← e_s3] at b_s3
  unfold in32 at b_s3
  obtain ⟨s4, e_s4⟩ : ∃ z, z = (xs (i + 4)).toInt := ⟨_, rfl⟩
  have b_s4 := i32_in (xs (i + 4))
  rw [← e_s4] at b_s4
  unfold in32 at b_s4
  obtain ⟨s5, e_s5⟩ : ∃ z, z = (xs (i + 5)).toInt := ⟨_, rfl⟩
  have b_s5 := i32_in (xs (i + 5))
  rw [← e_s5] at b_s5
  unfold in32 at b_s5
  refine gx_st (L' := [(2, 0), (2, 1), (2, 192), (0, (i : Int))]) (S' := [(2, 1)]) r_316_848 rfl rfl rfl ?_
  refine gx_ci (nx := 852) (S2 := []) (gx_hi (args := [(2, 1)]) (pk_23 hT) ⟨gq_o1, trivial⟩ hl.1 rfl) r_316_849 rfl rfl rfl rfl rfl (rcv_v rfl (tk_1 hT) (by decide) rfl (by decide)) rfl (by decide) rfl (fun x849 n849 q849 => ?_)
  show GX T 1000 316 852 [(2, 0), (2, 1), (2, 192), (0, (i : Int))] [(0, x849)] n849 (fun v _ => v = (0, 1))
  have ex_n849 : Ext n849 := Ext_fr q849.2.2.2 (by decide) hl.2.1
  have sc_n849 := sc_fr q849.2.2.2 (by decide) hl.2.2.1
  have rl_n849 : RelR n849 := Rel_fr q849.2.2.2 (by decide) (by decide) (by decide) (by decide) (by decide) (by decide) (by decide) (by decide) hl.2.2.2
  refine gx_st (L' := [(2, 0), (2, 1), (2, 192), (0, (i : Int))]) (S' := []) r_316_852 rfl rfl rfl ?_
  refine gx_st (L' := [(2, 0), (2, 1), (2, 192), (0, (i : Int))]) (S' := [(2, 192)]) r_316_853 rfl rfl rfl ?_
  refine gx_ci (nx := 857) (S2 := []) (gx_xi (args := [(2, 192)]) (pk_159 hT) ⟨gq_o192, trivial⟩ q849.2.2.1 ex_n849 (fun z => absurd z (by decide)) rfl) r_316_854 rfl rfl rfl rfl rfl (rcv_v rfl (tk_192 hT) (by decide) rfl (by decide)) rfl (by decide) rfl (fun x854 n854 q854 => ?_)
  show GX T 1000 316 857 [(2, 0), (2, 1), (2, 192), (0, (i : Int))] [(0, x854)] n854 (fun v _ => v = (0, 1))
  have sc_n854 := sc_fr q854.2.2.2.2.1 (by decide) sc_n849
  have rl_n854 : RelR n854 := Rel_fr q854.2.2.2.2.1 (by decide) (by decide) (by decide) (by decide) (by decide) (by decide) (by decide) (by decide) rl_n849
  refine gx_st (L' := [(2, 0), (2, 1), (2, 192), (0, (i : Int))]) (S' := []) r_316_857 rfl rfl rfl ?_
  refine gx_st (L' := [(2, 0), (2, 1), (2, 192), (0, (i : Int))]) (S' := []) r_316_858 rfl rfl rfl ?_
  exact hnext n854 ⟨q854.2.2.1, q854.2.2.2.1, sc_n854, rl_n854⟩
theorem pk_24 (hT : TT T) : ConH T cn_24 := fun args m => ((all_con hT 320).1 (by decide)) cn_24 cx_24 args m
theorem pk_160 (hT : TT T) : ConX T cn_160 false false := by
  have z := ((all_con hT 836).2 (by decide)) cn_160 cx_160
  rw [show (Fl 836).2 = (false, false) by decide] at z
  exact z
theorem case_21 (hT : TT T) (h0 : T[0]? = some (100, L)) (hL : L ≤ 3072) (hi : i + 6 ≤ L) (hl : LI xs m) (hnext : ∀ m, LI xs m → GX T 1000 316 2098 [(2, 0), (2, 1), (2, 192), (0, (i : Int))] [] m (fun v _ => v = (0, 1))) : GX T 1000 316 861 [(2, 0), (2, 1), (2, 192), (0, (i : Int))] [] m (fun v _ => v = (0, 1)) := by
  obtain ⟨s1, e_s1⟩ : ∃ z, z = (xs (i + 1)).toInt := ⟨_, rfl⟩
  have b_s1 := i32_in (xs (i + 1))
  rw [← e_s1] at b_s1
  unfold in32 at b_s1
  obtain ⟨s2, e_s2⟩ : ∃ z, z = (xs (i + 2)).toInt := ⟨_, rfl⟩
  have b_s2 := i32_in (xs (i + 2))
  rw [← e_s2] at b_s2
  unfold in32 at b_s2
  obtain ⟨s3, e_s3⟩ : ∃ z, z = (xs (i + 3)).toInt := ⟨_, rfl⟩
  have b_s3 := i32_in (xs (i + 3))
  rw [← e_s3] at b_s3
  unfold in32 at b_s3
  obtain ⟨s4, e_s4⟩ : ∃ z, z = (xs (i + 4)).toInt := ⟨_, rfl⟩
  have b_s4 := i32_in (xs (i + 4))
  rw [← e_s4] at b_s4
  unfold in32 at b_s4
  obtain ⟨s5, e_s5⟩ : ∃ z, z = (xs (i + 5)).toInt := ⟨_, rfl⟩
  have b_s5 := i32_in (xs (i + 5))
  rw [← e_s5] at b_s5
  unfold in32 at b_s5
  refine gx_st (L' := [(2, 0), (2, 1), (2, 192), (0, (i : Int))]) (S' := [(2, 1)]) r_316_861 rfl rfl rfl ?_
  refine gx_st (L' := [(2, 0), (2, 1), (2, 192), (0, (i : Int))]) (S' := [(2, 0), (2, 1)]) r_316_862 rfl rfl rfl ?_
  refine gx_st (L' := [(2, 0), (2, 1), (2, 192), (0, (i : Int))]) (S' := [(0, (i : Int)), (2, 0), (2, 1)]) r_316_863 rfl rfl rfl ?_
  refine gx_st (L' := [(2, 0), (2, 1), (2, 192), (0, (i : Int))]) (S' := [(0, 1), (0, (i : Int)), (2, 0), (2, 1)]) r_316_864 rfl rfl rfl ?_
  refine gx_ar (L' := [(2, 0), (2, 1), (2, 192), (0, (i : Int))]) (S' := [(2, 0), (2, 1)]) (t := 0) (e := w32 ((i : Int) + 1)) (z := (i : Int) + 1) r_316_865 rfl rfl rfl (w32_eq (by omega) (by omega) (by omega)) ?_
  refine gx_ia (n := i + 1) (x := s1) r_316_866 rfl h0 (by omega) ⟨rfl, by show i + 1 < L; omega⟩ ((hl.2.2.1 (i + 1)).trans e_s1.symm) ?_
  show GX T 1000 316 867 [(2, 0), (2, 1), (2, 192), (0, (i : Int))] [(0, s1), (2, 1)] m (fun v _ => v = (0, 1))
  refine gx_ci (nx := 870) (S2 := []) (gx_hi (args := [(2, 1), (0, s1)]) (pk_24 hT) ⟨gq_o1, gq_any (by omega) (by omega), trivial⟩ hl.1 rfl) r_316_867 rfl rfl rfl rfl rfl (rcv_v rfl (tk_1 hT) (by decide) rfl (by decide)) rfl (by decide) rfl (fun x867 n867 q867 => ?_)
  show GX T 1000 316 870 [(2, 0), (2, 1), (2, 192), (0, (i : Int))] [(0, x867)] n867 (fun v _ => v = (0, 1))
  have ex_n867 : Ext n867 := Ext_fr q867.2.2.2 (by decide) hl.2.1
  have sc_n867 := sc_fr q867.2.2.2 (by decide) hl.2.2.1
  have rl_n867 : RelR n867 := Rel_fr q867.2.2.2 (by decide) (by decide) (by decide) (by decide) (by decide) (by decide) (by decide) (by decide) hl.2.2.2
  refine gx_st (L' := [(2, 0), (2, 1), (2, 192), (0, (i : Int))]) (S' := []) r_316_870 rfl rfl rfl ?_
  refine gx_st (L' := [(2, 0), (2, 1), (2, 192), (0, (i : Int))]) (S' := [(2, 192)]) r_316_871 rfl rfl rfl ?_
  refine gx_st (L' := [(2, 0), (2, 1), (2, 192), (0, (i : Int))]) (S' := [(2, 0), (2, 192)]) r_316_872 rfl rfl rfl ?_
  refine gx_st (L' := [(2, 0), (2, 1), (2, 192), (0, (i : Int))]) (S' := [(0, (i : Int)), (2, 0), (2, 192)]) r_316_873 rfl rfl rfl ?_
  refine gx_st (L' := [(2, 0), (2, 1), (2, 192), (0, (i : Int))]) (S' := [(0, 1), (0, (i : Int)), (2, 0), (2, 192)]) r_316_874 rfl rfl rfl ?_
  refine gx_ar (L' := [(2, 0), (2, 1), (2, 192), (0, (i : Int))]) (S' := [(2, 0), (2, 192)]) (t := 0) (e := w32 ((i : Int) + 1)) (z := (i : Int) + 1) r_316_875 rfl rfl rfl (w32_eq (by omega) (by omega) (by omega)) ?_
  refine gx_ia (n := i + 1) (x := s1) r_316_876 rfl h0 (by omega) ⟨rfl, by show i + 1 < L; omega⟩ ((sc_n867 (i + 1)).trans e_s1.symm) ?_
  show GX T 1000 316 877 [(2, 0), (2, 1), (2, 192), (0, (i : Int))] [(0, s1), (2, 192)] n867 (fun v _ => v = (0, 1))
  refine gx_ci (nx := 880) (S2 := []) (gx_xi (args := [(2, 192), (0, s1)]) (pk_160 hT) ⟨gq_o192, gq_any (by omega) (by omega), trivial⟩ q867.2.2.1 ex_n867 (fun z => absurd z (by decide)) rfl) r_316_877 rfl rfl rfl rfl rfl (rcv_v rfl (tk_192 hT) (by decide) rfl (by decide)) rfl (by decide) rfl (fun x877 n877 q877 => ?_)
  show GX T 1000 316 880 [(2, 0), (2, 1), (2, 192), (0, (i : Int))] [(0, x877)] n877 (fun v _ => v = (0, 1))
  have sc_n877 := sc_fr q877.2.2.2.2.1 (by decide) sc_n867
  have rl_n877 : RelR n877 := Rel_fr q877.2.2.2.2.1 (by decide) (by decide) (by decide) (by decide) (by decide) (by decide) (by decide) (by decide) rl_n867
  refine gx_st (L' := [(2, 0), (2, 1), (2, 192), (0, (i : Int))]) (S' := []) r_316_880 rfl rfl rfl ?_
  refine gx_st (L' := [(2, 0), (2, 1), (2, 192), (0, (i : Int))]) (S' := []) r_316_881 rfl rfl rfl ?_
  exact hnext n877 ⟨q877.2.2.1, q877.2.2.2.1, sc_n877, rl_n877⟩
theorem pk_25 (hT : TT T) : ConH T cn_25 := fun args m => ((all_con hT 321).1 (by decide)) cn_25 cx_25 args m
theorem pk_161 (hT : TT T) : ConX T cn_161 false true := by
  have z := ((all_con hT 851).2 (by decide)) cn_161 cx_161
  rw [show (Fl 851).2 = (false, true) by decide] at z
  exact z
theorem case_22 (hT : TT T) (h0 : T[0]? = some (100, L)) (hL : L ≤ 3072) (hi : i + 6 ≤ L) (hl : LI xs m) (hnext : ∀ m, LI xs m → GX T 1000 316 2098 [(2, 0), (2, 1), (2, 192), (0, (i : Int))] [] m (fun v _ => v = (0, 1))) : GX T 1000 316 884 [(2, 0), (2, 1), (2, 192), (0, (i : Int))] [] m (fun v _ => v = (0, 1)) := by
  obtain ⟨s1, e_s1⟩ : ∃ z, z = (xs (i + 1)).toInt := ⟨_, rfl⟩
  have b_s1 := i32_in (xs (i + 1))
  rw [← e_s1] at b_s1
  unfold in32 at b_s1
  obtain ⟨s2, e_s2⟩ : ∃ z, z = (xs (i + 2)).toInt := ⟨_, rfl⟩
  have b_s2 := i32_in (xs (i + 2))
  rw [← e_s2] at b_s2
  unfold in32 at b_s2
  obtain ⟨s3, e_s3⟩ : ∃ z, z = (xs (i + 3)).toInt := ⟨_, rfl⟩
  have b_s3 := i32_in (xs (i + 3))
  rw [← e_s3] at b_s3
  unfold in32 at b_s3
  obtain ⟨s4, e_s4⟩ : ∃ z, z = (xs (i + 4)).toInt := ⟨_, rfl⟩
  have b_s4 := i32_in (xs (i + 4))
  rw [← e_s4] at b_s4
  unfold in32 at b_s4
  obtain ⟨s5, e_s5⟩ : ∃ z, z = (xs (i + 5)).toInt := ⟨_, rfl⟩
  have b_s5 := i32_in (xs (i + 5))
  rw [← e_s5] at b_s5
  unfold in32 at b_s5
  refine gx_st (L' := [(2, 0), (2, 1), (2, 192), (0, (i : Int))]) (S' := [(2, 1)]) r_316_884 rfl rfl rfl ?_
  refine gx_ci (nx := 888) (S2 := []) (gx_hi (args := [(2, 1)]) (pk_25 hT) ⟨gq_o1, trivial⟩ hl.1 rfl) r_316_885 rfl rfl rfl rfl rfl (rcv_v rfl (tk_1 hT) (by decide) rfl (by decide)) rfl (by decide) rfl (fun x885 n885 q885 => ?_)
  show GX T 1000 316 888 [(2, 0), (2, 1), (2, 192), (0, (i : Int))] [(0, x885)] n885 (fun v _ => v = (0, 1))
  have ex_n885 : Ext n885 := Ext_fr q885.2.2.2 (by decide) hl.2.1
  have sc_n885 := sc_fr q885.2.2.2 (by decide) hl.2.2.1
  have rl_n885 : RelR n885 := Rel_fr q885.2.2.2 (by decide) (by decide) (by decide) (by decide) (by decide) (by decide) (by decide) (by decide) hl.2.2.2
  refine gx_st (L' := [(2, 0), (2, 1), (2, 192), (0, (i : Int))]) (S' := []) r_316_888 rfl rfl rfl ?_
  refine gx_st (L' := [(2, 0), (2, 1), (2, 192), (0, (i : Int))]) (S' := [(2, 192)]) r_316_889 rfl rfl rfl ?_
  refine gx_ci (nx := 893) (S2 := []) (gx_xi (args := [(2, 192)]) (pk_161 hT) ⟨gq_o192, trivial⟩ q885.2.2.1 ex_n885 (fun z => absurd z (by decide)) rfl) r_316_890 rfl rfl rfl rfl rfl (rcv_v rfl (tk_192 hT) (by decide) rfl (by decide)) rfl (by decide) rfl (fun x890 n890 q890 => ?_)
  show GX T 1000 316 893 [(2, 0), (2, 1), (2, 192), (0, (i : Int))] [(0, x890)] n890 (fun v _ => v = (0, 1))
  have sc_n890 := sc_fr q890.2.2.2.2.1 (by decide) sc_n885
  have rl_n890 : RelR n890 := Rel_fr q890.2.2.2.2.1 (by decide) (by decide) (by decide) (by decide) (by decide) (by decide) (by decide) (by decide) rl_n885
  refine gx_st (L' := [(2, 0), (2, 1), (2, 192), (0, (i : Int))]) (S' := []) r_316_893 rfl rfl rfl ?_
  refine gx_st (L' := [(2, 0), (2, 1), (2, 192), (0, (i : Int))]) (S' := []) r_316_894 rfl rfl rfl ?_
  exact hnext n890 ⟨q890.2.2.1, q890.2.2.2.1, sc_n890, rl_n890⟩
theorem pk_26 (hT : TT T) : ConH T cn_26 := fun args m => ((all_con hT 322).1 (by decide)) cn_26 cx_26 args m
theorem pk_162 (hT : TT T) : ConX T cn_162 false true := by
  have z := ((all_con hT 852).2 (by decide)) cn_162 cx_162
  rw [show (Fl 852).2 = (false, true) by decide] at z
  exact z
theorem case_23 (hT : TT T) (h0 : T[0]? = some (100, L)) (hL : L ≤ 3072) (hi : i + 6 ≤ L) (hl : LI xs m) (hnext : ∀ m, LI xs m → GX T 1000 316 2098 [(2, 0), (2, 1), (2, 192), (0, (i : Int))] [] m (fun v _ => v = (0, 1))) : GX T 1000 316 897 [(2, 0), (2, 1), (2, 192), (0, (i : Int))] [] m (fun v _ => v = (0, 1)) := by
  obtain ⟨s1, e_s1⟩ : ∃ z, z = (xs (i + 1)).toInt := ⟨_, rfl⟩
  have b_s1 := i32_in (xs (i + 1))
  rw [← e_s1] at b_s1
  unfold in32 at b_s1
  obtain ⟨s2, e_s2⟩ : ∃ z, z = (xs (i + 2)).toInt := ⟨_, rfl⟩
  have b_s2 := i32_in (xs (i + 2))
  rw [← e_s2] at b_s2
  unfold in32 at b_s2
  obtain ⟨s3, e_s3⟩ : ∃ z, z = (xs (i + 3)).toInt := ⟨_, rfl⟩
  have b_s3 := i32_in (xs (i + 3))
  rw [← e_s3] at b_s3
  unfold in32 at b_s3
  obtain ⟨s4, e_s4⟩ : ∃ z, z = (xs (i + 4)).toInt := ⟨_, rfl⟩
  have b_s4 := i32_in (xs (i + 4))
  rw [← e_s4] at b_s4
  unfold in32 at b_s4
  obtain ⟨s5, e_s5⟩ : ∃ z, z = (xs (i + 5)).toInt := ⟨_, rfl⟩
  have b_s5 := i32_in (xs (i + 5))
  rw [← e_s5] at b_s5
  unfold in32 at b_s5
  refine gx_st (L' := [(2, 0), (2, 1), (2, 192), (0, (i : Int))]) (S' := [(2, 1)]) r_316_897 rfl rfl rfl ?_
  refine gx_ci (nx := 901) (S2 := []) (gx_hi (args := [(2, 1)]) (pk_26 hT) ⟨gq_o1, trivial⟩ hl.1 rfl) r_316_898 rfl rfl rfl rfl rfl (rcv_v rfl (tk_1 hT) (by decide) rfl (by decide)) rfl (by decide) rfl (fun x898 n898 q898 => ?_)
  show GX T 1000 316 901 [(2, 0), (2, 1), (2, 192), (0, (i : Int))] [(0, x898)] n898 (fun v _ => v = (0, 1))
  have ex_n898 : Ext n898 := Ext_fr q898.2.2.2 (by decide) hl.2.1
  have sc_n898 := sc_fr q898.2.2.2 (by decide) hl.2.2.1
  have rl_n898 : RelR n898 := Rel_fr q898.2.2.2 (by decide) (by decide) (by decide) (by decide) (by decide) (by decide) (by decide) (by decide) hl.2.2.2
  refine gx_st (L' := [(2, 0), (2, 1), (2, 192), (0, (i : Int))]) (S' := []) r_316_901 rfl rfl rfl ?_
  refine gx_st (L' := [(2, 0), (2, 1), (2, 192), (0, (i : Int))]) (S' := [(2, 192)]) r_316_902 rfl rfl rfl ?_
  refine gx_ci (nx := 906) (S2 := []) (gx_xi (args := [(2, 192)]) (pk_162 hT) ⟨gq_o192, trivial⟩ q898.2.2.1 ex_n898 (fun z => absurd z (by decide)) rfl) r_316_903 rfl rfl rfl rfl rfl (rcv_v rfl (tk_192 hT) (by decide) rfl (by decide)) rfl (by decide) rfl (fun x903 n903 q903 => ?_)
  show GX T 1000 316 906 [(2, 0), (2, 1), (2, 192), (0, (i : Int))] [(0, x903)] n903 (fun v _ => v = (0, 1))
  have sc_n903 := sc_fr q903.2.2.2.2.1 (by decide) sc_n898
  have rl_n903 : RelR n903 := Rel_fr q903.2.2.2.2.1 (by decide) (by decide) (by decide) (by decide) (by decide) (by decide) (by decide) (by decide) rl_n898
  refine gx_st (L' := [(2, 0), (2, 1), (2, 192), (0, (i : Int))]) (S' := []) r_316_906 rfl rfl rfl ?_
  refine gx_st (L' := [(2, 0), (2, 1), (2, 192), (0, (i : Int))]) (S' := []) r_316_907 rfl rfl rfl ?_
  exact hnext n903 ⟨q903.2.2.1, q903.2.2.2.1, sc_n903, rl_n903⟩
end LAW
