theorem d_L_law_355 : decode code 355 = .ok (.aload_n 1, 1) := by decide +kernel
theorem d_L_law_356 : decode code 356 = .ok (.aload_n 0, 1) := by decide +kernel
theorem d_L_law_357 : decode code 357 = .ok (.iload_n 3, 1) := by decide +kernel
theorem d_L_law_358 : decode code 358 = .ok (.iconst 1, 1) := by decide +kernel
theorem d_L_law_359 : decode code 359 = .ok (.iadd, 1) := by decide +kernel
theorem d_L_law_360 : decode code 360 = .ok (.iaload, 1) := by decide +kernel
theorem d_L_law_361 : decode code 361 = .ok (.aload_n 0, 1) := by decide +kernel
theorem d_L_law_362 : decode code 362 = .ok (.iload_n 3, 1) := by decide +kernel
theorem d_L_law_363 : decode code 363 = .ok (.iconst 2, 1) := by decide +kernel
theorem d_L_law_364 : decode code 364 = .ok (.iadd, 1) := by decide +kernel
theorem d_L_law_365 : decode code 365 = .ok (.iaload, 1) := by decide +kernel
theorem d_L_law_366 : decode code 366 = .ok (.invokevirtual 35, 3) := by decide +kernel
theorem d_L_law_369 : decode code 369 = .ok (.aload_n 2, 1) := by decide +kernel
theorem d_L_law_370 : decode code 370 = .ok (.aload_n 0, 1) := by decide +kernel
theorem d_L_law_371 : decode code 371 = .ok (.iload_n 3, 1) := by decide +kernel
theorem d_L_law_372 : decode code 372 = .ok (.iconst 1, 1) := by decide +kernel
theorem d_L_law_373 : decode code 373 = .ok (.iadd, 1) := by decide +kernel
theorem d_L_law_374 : decode code 374 = .ok (.iaload, 1) := by decide +kernel
theorem d_L_law_375 : decode code 375 = .ok (.aload_n 0, 1) := by decide +kernel
theorem d_L_law_376 : decode code 376 = .ok (.iload_n 3, 1) := by decide +kernel
theorem d_L_law_377 : decode code 377 = .ok (.iconst 2, 1) := by decide +kernel
theorem d_L_law_378 : decode code 378 = .ok (.iadd, 1) := by decide +kernel
theorem d_L_law_379 : decode code 379 = .ok (.iaload, 1) := by decide +kernel
theorem d_L_law_380 : decode code 380 = .ok (.invokevirtual 38, 3) := by decide +kernel
theorem d_L_law_383 : decode code 383 = .ok (.if_icmp .eq 561, 3) := by decide +kernel
theorem d_L_law_386 : decode code 386 = .ok (.iconst 0, 1) := by decide +kernel
theorem d_L_law_387 : decode code 387 = .ok (.ireturn, 1) := by decide +kernel
theorem d_L_law_388 : decode code 388 = .ok (.aload_n 1, 1) := by decide +kernel
theorem d_L_law_389 : decode code 389 = .ok (.aload_n 0, 1) := by decide +kernel
theorem d_L_law_390 : decode code 390 = .ok (.iload_n 3, 1) := by decide +kernel
theorem d_L_law_391 : decode code 391 = .ok (.iconst 1, 1) := by decide +kernel
theorem d_L_law_392 : decode code 392 = .ok (.iadd, 1) := by decide +kernel
theorem d_L_law_393 : decode code 393 = .ok (.iaload, 1) := by decide +kernel
theorem d_L_law_394 : decode code 394 = .ok (.aload_n 0, 1) := by decide +kernel
theorem d_L_law_395 : decode code 395 = .ok (.iload_n 3, 1) := by decide +kernel
theorem d_L_law_396 : decode code 396 = .ok (.iconst 2, 1) := by decide +kernel
theorem d_L_law_397 : decode code 397 = .ok (.iadd, 1) := by decide +kernel
theorem d_L_law_398 : decode code 398 = .ok (.iaload, 1) := by decide +kernel
theorem d_L_law_399 : decode code 399 = .ok (.invokevirtual 39, 3) := by decide +kernel
theorem d_L_law_402 : decode code 402 = .ok (.aload_n 2, 1) := by decide +kernel
theorem d_L_law_403 : decode code 403 = .ok (.aload_n 0, 1) := by decide +kernel
theorem d_L_law_404 : decode code 404 = .ok (.iload_n 3, 1) := by decide +kernel
theorem d_L_law_405 : decode code 405 = .ok (.iconst 1, 1) := by decide +kernel
theorem d_L_law_406 : decode code 406 = .ok (.iadd, 1) := by decide +kernel
theorem d_L_law_407 : decode code 407 = .ok (.iaload, 1) := by decide +kernel
theorem d_L_law_408 : decode code 408 = .ok (.aload_n 0, 1) := by decide +kernel
theorem d_L_law_409 : decode code 409 = .ok (.iload_n 3, 1) := by decide +kernel
theorem d_L_law_410 : decode code 410 = .ok (.iconst 2, 1) := by decide +kernel
theorem d_L_law_411 : decode code 411 = .ok (.iadd, 1) := by decide +kernel
theorem d_L_law_412 : decode code 412 = .ok (.iaload, 1) := by decide +kernel
theorem d_L_law_413 : decode code 413 = .ok (.invokevirtual 42, 3) := by decide +kernel
theorem d_L_law_416 : decode code 416 = .ok (.if_icmp .eq 528, 3) := by decide +kernel
theorem d_L_law_419 : decode code 419 = .ok (.iconst 0, 1) := by decide +kernel
theorem d_L_law_420 : decode code 420 = .ok (.ireturn, 1) := by decide +kernel
theorem d_L_law_421 : decode code 421 = .ok (.aload_n 1, 1) := by decide +kernel
theorem d_L_law_422 : decode code 422 = .ok (.aload_n 0, 1) := by decide +kernel
theorem d_L_law_423 : decode code 423 = .ok (.iload_n 3, 1) := by decide +kernel
theorem d_L_law_424 : decode code 424 = .ok (.iconst 1, 1) := by decide +kernel
theorem d_L_law_425 : decode code 425 = .ok (.iadd, 1) := by decide +kernel
theorem d_L_law_426 : decode code 426 = .ok (.iaload, 1) := by decide +kernel
theorem d_L_law_427 : decode code 427 = .ok (.aload_n 0, 1) := by decide +kernel
theorem d_L_law_428 : decode code 428 = .ok (.iload_n 3, 1) := by decide +kernel
theorem d_L_law_429 : decode code 429 = .ok (.iconst 2, 1) := by decide +kernel
theorem d_L_law_430 : decode code 430 = .ok (.iadd, 1) := by decide +kernel
theorem d_L_law_431 : decode code 431 = .ok (.iaload, 1) := by decide +kernel
theorem d_L_law_432 : decode code 432 = .ok (.invokevirtual 43, 3) := by decide +kernel
theorem d_L_law_435 : decode code 435 = .ok (.aload_n 2, 1) := by decide +kernel
theorem d_L_law_436 : decode code 436 = .ok (.aload_n 0, 1) := by decide +kernel
theorem d_L_law_437 : decode code 437 = .ok (.iload_n 3, 1) := by decide +kernel
theorem d_L_law_438 : decode code 438 = .ok (.iconst 1, 1) := by decide +kernel
theorem d_L_law_439 : decode code 439 = .ok (.iadd, 1) := by decide +kernel
theorem d_L_law_440 : decode code 440 = .ok (.iaload, 1) := by decide +kernel
theorem d_L_law_441 : decode code 441 = .ok (.aload_n 0, 1) := by decide +kernel
theorem d_L_law_442 : decode code 442 = .ok (.iload_n 3, 1) := by decide +kernel
theorem d_L_law_443 : decode code 443 = .ok (.iconst 2, 1) := by decide +kernel
theorem d_L_law_444 : decode code 444 = .ok (.iadd, 1) := by decide +kernel
theorem d_L_law_445 : decode code 445 = .ok (.iaload, 1) := by decide +kernel
theorem d_L_law_446 : decode code 446 = .ok (.invokevirtual 46, 3) := by decide +kernel
theorem d_L_law_449 : decode code 449 = .ok (.if_icmp .eq 495, 3) := by decide +kernel
theorem d_L_law_452 : decode code 452 = .ok (.iconst 0, 1) := by decide +kernel
theorem d_L_law_453 : decode code 453 = .ok (.ireturn, 1) := by decide +kernel
theorem d_L_law_454 : decode code 454 = .ok (.aload_n 1, 1) := by decide +kernel
theorem d_L_law_455 : decode code 455 = .ok (.aload_n 0, 1) := by decide +kernel
theorem d_L_law_456 : decode code 456 = .ok (.iload_n 3, 1) := by decide +kernel
theorem d_L_law_457 : decode code 457 = .ok (.iconst 1, 1) := by decide +kernel
theorem d_L_law_458 : decode code 458 = .ok (.iadd, 1) := by decide +kernel
theorem d_L_law_459 : decode code 459 = .ok (.iaload, 1) := by decide +kernel
theorem d_L_law_460 : decode code 460 = .ok (.aload_n 0, 1) := by decide +kernel
theorem d_L_law_461 : decode code 461 = .ok (.iload_n 3, 1) := by decide +kernel
theorem d_L_law_462 : decode code 462 = .ok (.iconst 2, 1) := by decide +kernel
theorem d_L_law_463 : decode code 463 = .ok (.iadd, 1) := by decide +kernel
theorem d_L_law_464 : decode code 464 = .ok (.iaload, 1) := by decide +kernel
theorem d_L_law_465 : decode code 465 = .ok (.aload_n 0, 1) := by decide +kernel
theorem d_L_law_466 : decode code 466 = .ok (.iload_n 3, 1) := by decide +kernel
theorem d_L_law_467 : decode code 467 = .ok (.iconst 3, 1) := by decide +kernel
theorem d_L_law_468 : decode code 468 = .ok (.iadd, 1) := by decide +kernel
theorem d_L_law_469 : decode code 469 = .ok (.iaload, 1) := by decide +kernel
theorem d_L_law_470 : decode code 470 = .ok (.invokevirtual 47, 3) := by decide +kernel
theorem d_L_law_473 : decode code 473 = .ok (.aload_n 2, 1) := by decide +kernel
theorem d_L_law_474 : decode code 474 = .ok (.aload_n 0, 1) := by decide +kernel
theorem d_L_law_475 : decode code 475 = .ok (.iload_n 3, 1) := by decide +kernel
theorem d_L_law_476 : decode code 476 = .ok (.iconst 1, 1) := by decide +kernel
theorem d_L_law_477 : decode code 477 = .ok (.iadd, 1) := by decide +kernel
theorem d_L_law_478 : decode code 478 = .ok (.iaload, 1) := by decide +kernel
theorem d_L_law_479 : decode code 479 = .ok (.aload_n 0, 1) := by decide +kernel
theorem d_L_law_480 : decode code 480 = .ok (.iload_n 3, 1) := by decide +kernel
theorem d_L_law_481 : decode code 481 = .ok (.iconst 2, 1) := by decide +kernel
theorem d_L_law_482 : decode code 482 = .ok (.iadd, 1) := by decide +kernel
theorem d_L_law_483 : decode code 483 = .ok (.iaload, 1) := by decide +kernel
theorem d_L_law_484 : decode code 484 = .ok (.aload_n 0, 1) := by decide +kernel
theorem d_L_law_485 : decode code 485 = .ok (.iload_n 3, 1) := by decide +kernel
theorem d_L_law_486 : decode code 486 = .ok (.iconst 3, 1) := by decide +kernel
theorem d_L_law_487 : decode code 487 = .ok (.iadd, 1) := by decide +kernel
theorem d_L_law_488 : decode code 488 = .ok (.iaload, 1) := by decide +kernel
theorem d_L_law_489 : decode code 489 = .ok (.invokevirtual 50, 3) := by decide +kernel
theorem d_L_law_492 : decode code 492 = .ok (.if_icmp .eq 452, 3) := by decide +kernel
theorem d_L_law_495 : decode code 495 = .ok (.iconst 0, 1) := by decide +kernel
theorem d_L_law_496 : decode code 496 = .ok (.ireturn, 1) := by decide +kernel
set_option maxHeartbeats 2000000 in
theorem law_kill {X : Ev} {k n : Nat} (C : Cx code "DeadRunsLaw" 4 X) {cI cO cZ : ClassId} (hT : TY (Xtys X) cI cO cZ) {b o q0 L : Nat} {xi : Int → Int} (hX : XScr X b L xi) (hxr : xrg xi) (hR : (8 ≤ (XR X).frames ∧ 280 ≤ (XR X).locals) ∧ k ≤ (XR X).cells ∧ n ≤ (XR X).slots) {A : AS} {w1 w2 : va_W} (hA : CW cI cO cZ o A w1) (hM : MW cI q0 A w2) {i : Int} (hi : 0 ≤ i ∧ i + 4 ≤ L ∧ L ≤ 2048) {H : Heap} {locs : List Loc} {ls : Array Slot} (w : Wd X (w1 ++ w2) H locs) (hl : lv_has ls 4 [(3, .int (iI i)), (2, .ref q0), (1, .ref o), (0, .ref b)])
    (kk : ∀ (A' : AS) (w1' w2' : va_W) (H : Heap) (locs : List Loc), CW cI cO cZ o A' w1' → MW cI q0 A' w2' → Wd X (w1' ++ w2') H locs → GG X k n H locs 944 ls []) : GG X k n H locs 355 ls [] := by
  obtain ⟨f1, hr1⟩ := hA.recv
  obtain ⟨f2, hr2⟩ := hM.recv
  refine r_aload_n (pc := 355) C d_L_law_355 rfl (lv_at hl 2 rfl) ?_
  refine r_ld (pc := 356) C w hX hl (by omega) d_L_law_356 d_L_law_357 d_L_law_358 d_L_law_359 d_L_law_360 ?_
  refine r_ld (pc := 361) C w hX hl (by omega) d_L_law_361 d_L_law_362 d_L_law_363 d_L_law_364 d_L_law_365 ?_
  refine r_callVI (pc := 366) (As := [.int (iI (xi (i + 1))), .int (iI (xi (i + 2)))]) (rest := []) (wr := w2) C w (c_D_kill hT o A w1 hA (xi (i + 1)) (xi (i + 2)) ⟨hxr _, hxr _⟩) ml_L_35 im_D_kill se_D_kill ini_D cd_D_kill hd_D_kill rfl ⟨⟨Nat.le_trans (Nat.le_of_ble_eq_true rfl) hR.1.1, Nat.le_trans (Nat.le_of_ble_eq_true rfl) hR.1.2⟩, hR.2⟩ hl.1 _ _ (cut_app w1 w2) 0 rfl hr1 rfl (Nat.le_of_ble_eq_true rfl) d_L_law_366 (fun z u1 H locs hz w => ?_)
  obtain ⟨A', hA', hS⟩ := hz
  refine r_aload_n (pc := 369) C d_L_law_369 rfl (lv_at hl 1 rfl) ?_
  refine r_ld (pc := 370) C w hX hl (by omega) d_L_law_370 d_L_law_371 d_L_law_372 d_L_law_373 d_L_law_374 ?_
  refine r_ld (pc := 375) C w hX hl (by omega) d_L_law_375 d_L_law_376 d_L_law_377 d_L_law_378 d_L_law_379 ?_
  refine r_callVI (pc := 380) (As := [.int (iI (xi (i + 1))), .int (iI (xi (i + 2)))]) (rest := [.int (iI z)]) (wr := u1) C w (c_M_kill hT q0 A A' z w2 hM (xi (i + 1)) (xi (i + 2)) ⟨hxr _, hxr _⟩ hS) ml_L_38 im_M_kill se_M_kill ini_M cd_M_kill hd_M_kill rfl ⟨⟨Nat.le_trans (Nat.le_of_ble_eq_true rfl) hR.1.1, Nat.le_trans (Nat.le_of_ble_eq_true rfl) hR.1.2⟩, hR.2⟩ hl.1 _ _ (cut_app w2 u1) 0 rfl hr2 rfl (Nat.le_of_ble_eq_true rfl) d_L_law_380 (fun z2 u2 H locs hz2 w => ?_)
  obtain ⟨e2, hM'⟩ := hz2
  subst e2
  refine r_icmp_same (pc := 383) (tgt := 944) C d_L_law_383 (by decide) ?_
  exact kk A' u1 u2 H locs hA' hM' w
set_option maxHeartbeats 2000000 in
theorem law_revive {X : Ev} {k n : Nat} (C : Cx code "DeadRunsLaw" 4 X) {cI cO cZ : ClassId} (hT : TY (Xtys X) cI cO cZ) {b o q0 L : Nat} {xi : Int → Int} (hX : XScr X b L xi) (hxr : xrg xi) (hR : (8 ≤ (XR X).frames ∧ 280 ≤ (XR X).locals) ∧ k ≤ (XR X).cells ∧ n ≤ (XR X).slots) {A : AS} {w1 w2 : va_W} (hA : CW cI cO cZ o A w1) (hM : MW cI q0 A w2) {i : Int} (hi : 0 ≤ i ∧ i + 4 ≤ L ∧ L ≤ 2048) {H : Heap} {locs : List Loc} {ls : Array Slot} (w : Wd X (w1 ++ w2) H locs) (hl : lv_has ls 4 [(3, .int (iI i)), (2, .ref q0), (1, .ref o), (0, .ref b)])
    (kk : ∀ (A' : AS) (w1' w2' : va_W) (H : Heap) (locs : List Loc), CW cI cO cZ o A' w1' → MW cI q0 A' w2' → Wd X (w1' ++ w2') H locs → GG X k n H locs 944 ls []) : GG X k n H locs 388 ls [] := by
  obtain ⟨f1, hr1⟩ := hA.recv
  obtain ⟨f2, hr2⟩ := hM.recv
  refine r_aload_n (pc := 388) C d_L_law_388 rfl (lv_at hl 2 rfl) ?_
  refine r_ld (pc := 389) C w hX hl (by omega) d_L_law_389 d_L_law_390 d_L_law_391 d_L_law_392 d_L_law_393 ?_
  refine r_ld (pc := 394) C w hX hl (by omega) d_L_law_394 d_L_law_395 d_L_law_396 d_L_law_397 d_L_law_398 ?_
  refine r_callVI (pc := 399) (As := [.int (iI (xi (i + 1))), .int (iI (xi (i + 2)))]) (rest := []) (wr := w2) C w (c_D_revive hT o A w1 hA (xi (i + 1)) (xi (i + 2)) ⟨hxr _, hxr _⟩) ml_L_39 im_D_revive se_D_revive ini_D cd_D_revive hd_D_revive rfl ⟨⟨Nat.le_trans (Nat.le_of_ble_eq_true rfl) hR.1.1, Nat.le_trans (Nat.le_of_ble_eq_true rfl) hR.1.2⟩, hR.2⟩ hl.1 _ _ (cut_app w1 w2) 0 rfl hr1 rfl (Nat.le_of_ble_eq_true rfl) d_L_law_399 (fun z u1 H locs hz w => ?_)
  obtain ⟨A', hA', hS⟩ := hz
  refine r_aload_n (pc := 402) C d_L_law_402 rfl (lv_at hl 1 rfl) ?_
  refine r_ld (pc := 403) C w hX hl (by omega) d_L_law_403 d_L_law_404 d_L_law_405 d_L_law_406 d_L_law_407 ?_
  refine r_ld (pc := 408) C w hX hl (by omega) d_L_law_408 d_L_law_409 d_L_law_410 d_L_law_411 d_L_law_412 ?_
  refine r_callVI (pc := 413) (As := [.int (iI (xi (i + 1))), .int (iI (xi (i + 2)))]) (rest := [.int (iI z)]) (wr := u1) C w (c_M_revive hT q0 A A' z w2 hM (xi (i + 1)) (xi (i + 2)) ⟨hxr _, hxr _⟩ hS) ml_L_42 im_M_revive se_M_revive ini_M cd_M_revive hd_M_revive rfl ⟨⟨Nat.le_trans (Nat.le_of_ble_eq_true rfl) hR.1.1, Nat.le_trans (Nat.le_of_ble_eq_true rfl) hR.1.2⟩, hR.2⟩ hl.1 _ _ (cut_app w2 u1) 0 rfl hr2 rfl (Nat.le_of_ble_eq_true rfl) d_L_law_413 (fun z2 u2 H locs hz2 w => ?_)
  obtain ⟨e2, hM'⟩ := hz2
  subst e2
  refine r_icmp_same (pc := 416) (tgt := 944) C d_L_law_416 (by decide) ?_
  exact kk A' u1 u2 H locs hA' hM' w
set_option maxHeartbeats 2000000 in
theorem law_turn {X : Ev} {k n : Nat} (C : Cx code "DeadRunsLaw" 4 X) {cI cO cZ : ClassId} (hT : TY (Xtys X) cI cO cZ) {b o q0 L : Nat} {xi : Int → Int} (hX : XScr X b L xi) (hxr : xrg xi) (hR : (8 ≤ (XR X).frames ∧ 280 ≤ (XR X).locals) ∧ k ≤ (XR X).cells ∧ n ≤ (XR X).slots) {A : AS} {w1 w2 : va_W} (hA : CW cI cO cZ o A w1) (hM : MW cI q0 A w2) {i : Int} (hi : 0 ≤ i ∧ i + 4 ≤ L ∧ L ≤ 2048) {H : Heap} {locs : List Loc} {ls : Array Slot} (w : Wd X (w1 ++ w2) H locs) (hl : lv_has ls 4 [(3, .int (iI i)), (2, .ref q0), (1, .ref o), (0, .ref b)])
    (kk : ∀ (A' : AS) (w1' w2' : va_W) (H : Heap) (locs : List Loc), CW cI cO cZ o A' w1' → MW cI q0 A' w2' → Wd X (w1' ++ w2') H locs → GG X k n H locs 944 ls []) : GG X k n H locs 421 ls [] := by
  obtain ⟨f1, hr1⟩ := hA.recv
  obtain ⟨f2, hr2⟩ := hM.recv
  refine r_aload_n (pc := 421) C d_L_law_421 rfl (lv_at hl 2 rfl) ?_
  refine r_ld (pc := 422) C w hX hl (by omega) d_L_law_422 d_L_law_423 d_L_law_424 d_L_law_425 d_L_law_426 ?_
  refine r_ld (pc := 427) C w hX hl (by omega) d_L_law_427 d_L_law_428 d_L_law_429 d_L_law_430 d_L_law_431 ?_
  refine r_callVI (pc := 432) (As := [.int (iI (xi (i + 1))), .int (iI (xi (i + 2)))]) (rest := []) (wr := w2) C w (c_D_turn hT o A w1 hA (xi (i + 1)) (xi (i + 2)) ⟨hxr _, hxr _⟩) ml_L_43 im_D_turn se_D_turn ini_D cd_D_turn hd_D_turn rfl ⟨⟨Nat.le_trans (Nat.le_of_ble_eq_true rfl) hR.1.1, Nat.le_trans (Nat.le_of_ble_eq_true rfl) hR.1.2⟩, hR.2⟩ hl.1 _ _ (cut_app w1 w2) 0 rfl hr1 rfl (Nat.le_of_ble_eq_true rfl) d_L_law_432 (fun z u1 H locs hz w => ?_)
  obtain ⟨A', hA', hS⟩ := hz
  refine r_aload_n (pc := 435) C d_L_law_435 rfl (lv_at hl 1 rfl) ?_
  refine r_ld (pc := 436) C w hX hl (by omega) d_L_law_436 d_L_law_437 d_L_law_438 d_L_law_439 d_L_law_440 ?_
  refine r_ld (pc := 441) C w hX hl (by omega) d_L_law_441 d_L_law_442 d_L_law_443 d_L_law_444 d_L_law_445 ?_
  refine r_callVI (pc := 446) (As := [.int (iI (xi (i + 1))), .int (iI (xi (i + 2)))]) (rest := [.int (iI z)]) (wr := u1) C w (c_M_turn hT q0 A A' z w2 hM (xi (i + 1)) (xi (i + 2)) ⟨hxr _, hxr _⟩ hS) ml_L_46 im_M_turn se_M_turn ini_M cd_M_turn hd_M_turn rfl ⟨⟨Nat.le_trans (Nat.le_of_ble_eq_true rfl) hR.1.1, Nat.le_trans (Nat.le_of_ble_eq_true rfl) hR.1.2⟩, hR.2⟩ hl.1 _ _ (cut_app w2 u1) 0 rfl hr2 rfl (Nat.le_of_ble_eq_true rfl) d_L_law_446 (fun z2 u2 H locs hz2 w => ?_)
  obtain ⟨e2, hM'⟩ := hz2
  subst e2
  refine r_icmp_same (pc := 449) (tgt := 944) C d_L_law_449 (by decide) ?_
  exact kk A' u1 u2 H locs hA' hM' w
set_option maxHeartbeats 2000000 in
theorem law_move {X : Ev} {k n : Nat} (C : Cx code "DeadRunsLaw" 4 X) {cI cO cZ : ClassId} (hT : TY (Xtys X) cI cO cZ) {b o q0 L : Nat} {xi : Int → Int} (hX : XScr X b L xi) (hxr : xrg xi) (hR : (8 ≤ (XR X).frames ∧ 280 ≤ (XR X).locals) ∧ k ≤ (XR X).cells ∧ n ≤ (XR X).slots) {A : AS} {w1 w2 : va_W} (hA : CW cI cO cZ o A w1) (hM : MW cI q0 A w2) {i : Int} (hi : 0 ≤ i ∧ i + 4 ≤ L ∧ L ≤ 2048) {H : Heap} {locs : List Loc} {ls : Array Slot} (w : Wd X (w1 ++ w2) H locs) (hl : lv_has ls 4 [(3, .int (iI i)), (2, .ref q0), (1, .ref o), (0, .ref b)])
    (kk : ∀ (A' : AS) (w1' w2' : va_W) (H : Heap) (locs : List Loc), CW cI cO cZ o A' w1' → MW cI q0 A' w2' → Wd X (w1' ++ w2') H locs → GG X k n H locs 944 ls []) : GG X k n H locs 454 ls [] := by
  obtain ⟨f1, hr1⟩ := hA.recv
  obtain ⟨f2, hr2⟩ := hM.recv
  refine r_aload_n (pc := 454) C d_L_law_454 rfl (lv_at hl 2 rfl) ?_
  refine r_ld (pc := 455) C w hX hl (by omega) d_L_law_455 d_L_law_456 d_L_law_457 d_L_law_458 d_L_law_459 ?_
  refine r_ld (pc := 460) C w hX hl (by omega) d_L_law_460 d_L_law_461 d_L_law_462 d_L_law_463 d_L_law_464 ?_
  refine r_ld (pc := 465) C w hX hl (by omega) d_L_law_465 d_L_law_466 d_L_law_467 d_L_law_468 d_L_law_469 ?_
  refine r_callVI (pc := 470) (As := [.int (iI (xi (i + 1))), .int (iI (xi (i + 2))), .int (iI (xi (i + 3)))]) (rest := []) (wr := w2) C w (c_D_move hT o A w1 hA (xi (i + 1)) (xi (i + 2)) (xi (i + 3)) ⟨hxr _, hxr _, hxr _⟩) ml_L_47 im_D_move se_D_move ini_D cd_D_move hd_D_move rfl ⟨⟨Nat.le_trans (Nat.le_of_ble_eq_true rfl) hR.1.1, Nat.le_trans (Nat.le_of_ble_eq_true rfl) hR.1.2⟩, hR.2⟩ hl.1 _ _ (cut_app w1 w2) 0 rfl hr1 rfl (Nat.le_of_ble_eq_true rfl) d_L_law_470 (fun z u1 H locs hz w => ?_)
  obtain ⟨A', hA', hS⟩ := hz
  refine r_aload_n (pc := 473) C d_L_law_473 rfl (lv_at hl 1 rfl) ?_
  refine r_ld (pc := 474) C w hX hl (by omega) d_L_law_474 d_L_law_475 d_L_law_476 d_L_law_477 d_L_law_478 ?_
  refine r_ld (pc := 479) C w hX hl (by omega) d_L_law_479 d_L_law_480 d_L_law_481 d_L_law_482 d_L_law_483 ?_
  refine r_ld (pc := 484) C w hX hl (by omega) d_L_law_484 d_L_law_485 d_L_law_486 d_L_law_487 d_L_law_488 ?_
  refine r_callVI (pc := 489) (As := [.int (iI (xi (i + 1))), .int (iI (xi (i + 2))), .int (iI (xi (i + 3)))]) (rest := [.int (iI z)]) (wr := u1) C w (c_M_move hT q0 A A' z w2 hM (xi (i + 1)) (xi (i + 2)) (xi (i + 3)) ⟨hxr _, hxr _, hxr _⟩ hS) ml_L_50 im_M_move se_M_move ini_M cd_M_move hd_M_move rfl ⟨⟨Nat.le_trans (Nat.le_of_ble_eq_true rfl) hR.1.1, Nat.le_trans (Nat.le_of_ble_eq_true rfl) hR.1.2⟩, hR.2⟩ hl.1 _ _ (cut_app w2 u1) 0 rfl hr2 rfl (Nat.le_of_ble_eq_true rfl) d_L_law_489 (fun z2 u2 H locs hz2 w => ?_)
  obtain ⟨e2, hM'⟩ := hz2
  subst e2
  refine r_icmp_same (pc := 492) (tgt := 944) C d_L_law_492 (by decide) ?_
  exact kk A' u1 u2 H locs hA' hM' w
