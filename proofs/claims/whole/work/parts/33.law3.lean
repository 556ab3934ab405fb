theorem d_L_law_497 : decode code 497 = .ok (.aload_n 1, 1) := by decide +kernel
theorem d_L_law_498 : decode code 498 = .ok (.aload_n 0, 1) := by decide +kernel
theorem d_L_law_499 : decode code 499 = .ok (.iload_n 3, 1) := by decide +kernel
theorem d_L_law_500 : decode code 500 = .ok (.iconst 1, 1) := by decide +kernel
theorem d_L_law_501 : decode code 501 = .ok (.iadd, 1) := by decide +kernel
theorem d_L_law_502 : decode code 502 = .ok (.iaload, 1) := by decide +kernel
theorem d_L_law_503 : decode code 503 = .ok (.invokevirtual 51, 3) := by decide +kernel
theorem d_L_law_506 : decode code 506 = .ok (.aload_n 2, 1) := by decide +kernel
theorem d_L_law_507 : decode code 507 = .ok (.aload_n 0, 1) := by decide +kernel
theorem d_L_law_508 : decode code 508 = .ok (.iload_n 3, 1) := by decide +kernel
theorem d_L_law_509 : decode code 509 = .ok (.iconst 1, 1) := by decide +kernel
theorem d_L_law_510 : decode code 510 = .ok (.iadd, 1) := by decide +kernel
theorem d_L_law_511 : decode code 511 = .ok (.iaload, 1) := by decide +kernel
theorem d_L_law_512 : decode code 512 = .ok (.invokevirtual 55, 3) := by decide +kernel
theorem d_L_law_515 : decode code 515 = .ok (.if_icmp .eq 429, 3) := by decide +kernel
theorem d_L_law_518 : decode code 518 = .ok (.iconst 0, 1) := by decide +kernel
theorem d_L_law_519 : decode code 519 = .ok (.ireturn, 1) := by decide +kernel
theorem d_L_law_520 : decode code 520 = .ok (.aload_n 1, 1) := by decide +kernel
theorem d_L_law_521 : decode code 521 = .ok (.aload_n 0, 1) := by decide +kernel
theorem d_L_law_522 : decode code 522 = .ok (.iload_n 3, 1) := by decide +kernel
theorem d_L_law_523 : decode code 523 = .ok (.iconst 1, 1) := by decide +kernel
theorem d_L_law_524 : decode code 524 = .ok (.iadd, 1) := by decide +kernel
theorem d_L_law_525 : decode code 525 = .ok (.iaload, 1) := by decide +kernel
theorem d_L_law_526 : decode code 526 = .ok (.aload_n 0, 1) := by decide +kernel
theorem d_L_law_527 : decode code 527 = .ok (.iload_n 3, 1) := by decide +kernel
theorem d_L_law_528 : decode code 528 = .ok (.iconst 2, 1) := by decide +kernel
theorem d_L_law_529 : decode code 529 = .ok (.iadd, 1) := by decide +kernel
theorem d_L_law_530 : decode code 530 = .ok (.iaload, 1) := by decide +kernel
theorem d_L_law_531 : decode code 531 = .ok (.invokevirtual 56, 3) := by decide +kernel
theorem d_L_law_534 : decode code 534 = .ok (.aload_n 2, 1) := by decide +kernel
theorem d_L_law_535 : decode code 535 = .ok (.aload_n 0, 1) := by decide +kernel
theorem d_L_law_536 : decode code 536 = .ok (.iload_n 3, 1) := by decide +kernel
theorem d_L_law_537 : decode code 537 = .ok (.iconst 1, 1) := by decide +kernel
theorem d_L_law_538 : decode code 538 = .ok (.iadd, 1) := by decide +kernel
theorem d_L_law_539 : decode code 539 = .ok (.iaload, 1) := by decide +kernel
theorem d_L_law_540 : decode code 540 = .ok (.aload_n 0, 1) := by decide +kernel
theorem d_L_law_541 : decode code 541 = .ok (.iload_n 3, 1) := by decide +kernel
theorem d_L_law_542 : decode code 542 = .ok (.iconst 2, 1) := by decide +kernel
theorem d_L_law_543 : decode code 543 = .ok (.iadd, 1) := by decide +kernel
theorem d_L_law_544 : decode code 544 = .ok (.iaload, 1) := by decide +kernel
theorem d_L_law_545 : decode code 545 = .ok (.invokevirtual 59, 3) := by decide +kernel
theorem d_L_law_548 : decode code 548 = .ok (.if_icmp .eq 396, 3) := by decide +kernel
theorem d_L_law_551 : decode code 551 = .ok (.iconst 0, 1) := by decide +kernel
theorem d_L_law_552 : decode code 552 = .ok (.ireturn, 1) := by decide +kernel
theorem d_L_law_553 : decode code 553 = .ok (.aload_n 1, 1) := by decide +kernel
theorem d_L_law_554 : decode code 554 = .ok (.aload_n 0, 1) := by decide +kernel
theorem d_L_law_555 : decode code 555 = .ok (.iload_n 3, 1) := by decide +kernel
theorem d_L_law_556 : decode code 556 = .ok (.iconst 1, 1) := by decide +kernel
theorem d_L_law_557 : decode code 557 = .ok (.iadd, 1) := by decide +kernel
theorem d_L_law_558 : decode code 558 = .ok (.iaload, 1) := by decide +kernel
theorem d_L_law_559 : decode code 559 = .ok (.invokevirtual 60, 3) := by decide +kernel
theorem d_L_law_562 : decode code 562 = .ok (.aload_n 2, 1) := by decide +kernel
theorem d_L_law_563 : decode code 563 = .ok (.aload_n 0, 1) := by decide +kernel
theorem d_L_law_564 : decode code 564 = .ok (.iload_n 3, 1) := by decide +kernel
theorem d_L_law_565 : decode code 565 = .ok (.iconst 1, 1) := by decide +kernel
theorem d_L_law_566 : decode code 566 = .ok (.iadd, 1) := by decide +kernel
theorem d_L_law_567 : decode code 567 = .ok (.iaload, 1) := by decide +kernel
theorem d_L_law_568 : decode code 568 = .ok (.invokevirtual 63, 3) := by decide +kernel
theorem d_L_law_571 : decode code 571 = .ok (.if_icmp .eq 373, 3) := by decide +kernel
theorem d_L_law_574 : decode code 574 = .ok (.iconst 0, 1) := by decide +kernel
theorem d_L_law_575 : decode code 575 = .ok (.ireturn, 1) := by decide +kernel
theorem d_L_law_576 : decode code 576 = .ok (.aload_n 1, 1) := by decide +kernel
theorem d_L_law_577 : decode code 577 = .ok (.aload_n 0, 1) := by decide +kernel
theorem d_L_law_578 : decode code 578 = .ok (.iload_n 3, 1) := by decide +kernel
theorem d_L_law_579 : decode code 579 = .ok (.iconst 1, 1) := by decide +kernel
theorem d_L_law_580 : decode code 580 = .ok (.iadd, 1) := by decide +kernel
theorem d_L_law_581 : decode code 581 = .ok (.iaload, 1) := by decide +kernel
theorem d_L_law_582 : decode code 582 = .ok (.aload_n 0, 1) := by decide +kernel
theorem d_L_law_583 : decode code 583 = .ok (.iload_n 3, 1) := by decide +kernel
theorem d_L_law_584 : decode code 584 = .ok (.iconst 2, 1) := by decide +kernel
theorem d_L_law_585 : decode code 585 = .ok (.iadd, 1) := by decide +kernel
theorem d_L_law_586 : decode code 586 = .ok (.iaload, 1) := by decide +kernel
theorem d_L_law_587 : decode code 587 = .ok (.aload_n 0, 1) := by decide +kernel
theorem d_L_law_588 : decode code 588 = .ok (.iload_n 3, 1) := by decide +kernel
theorem d_L_law_589 : decode code 589 = .ok (.iconst 3, 1) := by decide +kernel
theorem d_L_law_590 : decode code 590 = .ok (.iadd, 1) := by decide +kernel
theorem d_L_law_591 : decode code 591 = .ok (.iaload, 1) := by decide +kernel
theorem d_L_law_592 : decode code 592 = .ok (.invokevirtual 64, 3) := by decide +kernel
theorem d_L_law_595 : decode code 595 = .ok (.aload_n 2, 1) := by decide +kernel
theorem d_L_law_596 : decode code 596 = .ok (.aload_n 0, 1) := by decide +kernel
theorem d_L_law_597 : decode code 597 = .ok (.iload_n 3, 1) := by decide +kernel
theorem d_L_law_598 : decode code 598 = .ok (.iconst 1, 1) := by decide +kernel
theorem d_L_law_599 : decode code 599 = .ok (.iadd, 1) := by decide +kernel
theorem d_L_law_600 : decode code 600 = .ok (.iaload, 1) := by decide +kernel
theorem d_L_law_601 : decode code 601 = .ok (.aload_n 0, 1) := by decide +kernel
theorem d_L_law_602 : decode code 602 = .ok (.iload_n 3, 1) := by decide +kernel
theorem d_L_law_603 : decode code 603 = .ok (.iconst 2, 1) := by decide +kernel
theorem d_L_law_604 : decode code 604 = .ok (.iadd, 1) := by decide +kernel
theorem d_L_law_605 : decode code 605 = .ok (.iaload, 1) := by decide +kernel
theorem d_L_law_606 : decode code 606 = .ok (.aload_n 0, 1) := by decide +kernel
theorem d_L_law_607 : decode code 607 = .ok (.iload_n 3, 1) := by decide +kernel
theorem d_L_law_608 : decode code 608 = .ok (.iconst 3, 1) := by decide +kernel
theorem d_L_law_609 : decode code 609 = .ok (.iadd, 1) := by decide +kernel
theorem d_L_law_610 : decode code 610 = .ok (.iaload, 1) := by decide +kernel
theorem d_L_law_611 : decode code 611 = .ok (.invokevirtual 67, 3) := by decide +kernel
theorem d_L_law_614 : decode code 614 = .ok (.if_icmp .eq 330, 3) := by decide +kernel
theorem d_L_law_617 : decode code 617 = .ok (.iconst 0, 1) := by decide +kernel
theorem d_L_law_618 : decode code 618 = .ok (.ireturn, 1) := by decide +kernel
theorem d_L_law_619 : decode code 619 = .ok (.aload_n 1, 1) := by decide +kernel
theorem d_L_law_620 : decode code 620 = .ok (.aload_n 0, 1) := by decide +kernel
theorem d_L_law_621 : decode code 621 = .ok (.iload_n 3, 1) := by decide +kernel
theorem d_L_law_622 : decode code 622 = .ok (.iconst 1, 1) := by decide +kernel
theorem d_L_law_623 : decode code 623 = .ok (.iadd, 1) := by decide +kernel
theorem d_L_law_624 : decode code 624 = .ok (.iaload, 1) := by decide +kernel
theorem d_L_law_625 : decode code 625 = .ok (.invokevirtual 68, 3) := by decide +kernel
theorem d_L_law_628 : decode code 628 = .ok (.aload_n 2, 1) := by decide +kernel
theorem d_L_law_629 : decode code 629 = .ok (.aload_n 0, 1) := by decide +kernel
theorem d_L_law_630 : decode code 630 = .ok (.iload_n 3, 1) := by decide +kernel
theorem d_L_law_631 : decode code 631 = .ok (.iconst 1, 1) := by decide +kernel
theorem d_L_law_632 : decode code 632 = .ok (.iadd, 1) := by decide +kernel
theorem d_L_law_633 : decode code 633 = .ok (.iaload, 1) := by decide +kernel
theorem d_L_law_634 : decode code 634 = .ok (.invokevirtual 71, 3) := by decide +kernel
theorem d_L_law_637 : decode code 637 = .ok (.if_icmp .eq 307, 3) := by decide +kernel
theorem d_L_law_640 : decode code 640 = .ok (.iconst 0, 1) := by decide +kernel
theorem d_L_law_641 : decode code 641 = .ok (.ireturn, 1) := by decide +kernel
set_option maxHeartbeats 2000000 in
theorem law_sign {X : Ev} {k n : Nat} (C : Cx code "DeadRunsLaw" 4 X) {cI cO cZ : ClassId} (hT : TY (Xtys X) cI cO cZ) {b o q0 L : Nat} {xi : Int → Int} (hX : XScr X b L xi) (hxr : xrg xi) (hR : (8 ≤ (XR X).frames ∧ 280 ≤ (XR X).locals) ∧ k ≤ (XR X).cells ∧ n ≤ (XR X).slots) {A : AS} {w1 w2 : va_W} (hA : CW cI cO cZ o A w1) (hM : MW cI q0 A w2) {i : Int} (hi : 0 ≤ i ∧ i + 4 ≤ L ∧ L ≤ 2048) {H : Heap} {locs : List Loc} {ls : Array Slot} (w : Wd X (w1 ++ w2) H locs) (hl : lv_has ls 4 [(3, .int (iI i)), (2, .ref q0), (1, .ref o), (0, .ref b)])
    (kk : ∀ (A' : AS) (w1' w2' : va_W) (H : Heap) (locs : List Loc), CW cI cO cZ o A' w1' → MW cI q0 A' w2' → Wd X (w1' ++ w2') H locs → GG X k n H locs 944 ls []) : GG X k n H locs 497 ls [] := by
  obtain ⟨f1, hr1⟩ := hA.recv
  obtain ⟨f2, hr2⟩ := hM.recv
  refine r_aload_n (pc := 497) C d_L_law_497 rfl (lv_at hl 2 rfl) ?_
  refine r_ld (pc := 498) C w hX hl (by omega) d_L_law_498 d_L_law_499 d_L_law_500 d_L_law_501 d_L_law_502 ?_
  refine r_callVI (pc := 503) (As := [.int (iI (xi (i + 1)))]) (rest := []) (wr := w2) C w (c_D_sign hT o A w1 hA (xi (i + 1)) (hxr _)) ml_L_51 im_D_sign se_D_sign ini_D cd_D_sign hd_D_sign rfl ⟨⟨Nat.le_trans (Nat.le_of_ble_eq_true rfl) hR.1.1, Nat.le_trans (Nat.le_of_ble_eq_true rfl) hR.1.2⟩, hR.2⟩ hl.1 _ _ (cut_app w1 w2) 0 rfl hr1 rfl (Nat.le_of_ble_eq_true rfl) d_L_law_503 (fun z u1 H locs hz w => ?_)
  obtain ⟨A', hA', hS⟩ := hz
  refine r_aload_n (pc := 506) C d_L_law_506 rfl (lv_at hl 1 rfl) ?_
  refine r_ld (pc := 507) C w hX hl (by omega) d_L_law_507 d_L_law_508 d_L_law_509 d_L_law_510 d_L_law_511 ?_
  refine r_callVI (pc := 512) (As := [.int (iI (xi (i + 1)))]) (rest := [.int (iI z)]) (wr := u1) C w (c_M_sign hT q0 A A' z w2 hM (xi (i + 1)) (hxr _) hS) ml_L_55 im_M_sign se_M_sign ini_M cd_M_sign hd_M_sign rfl ⟨⟨Nat.le_trans (Nat.le_of_ble_eq_true rfl) hR.1.1, Nat.le_trans (Nat.le_of_ble_eq_true rfl) hR.1.2⟩, hR.2⟩ hl.1 _ _ (cut_app w2 u1) 0 rfl hr2 rfl (Nat.le_of_ble_eq_true rfl) d_L_law_512 (fun z2 u2 H locs hz2 w => ?_)
  obtain ⟨e2, hM'⟩ := hz2
  subst e2
  refine r_icmp_same (pc := 515) (tgt := 944) C d_L_law_515 (by decide) ?_
  exact kk A' u1 u2 H locs hA' hM' w
set_option maxHeartbeats 2000000 in
theorem law_ofRun {X : Ev} {k n : Nat} (C : Cx code "DeadRunsLaw" 4 X) {cI cO cZ : ClassId} (hT : TY (Xtys X) cI cO cZ) {b o q0 L : Nat} {xi : Int → Int} (hX : XScr X b L xi) (hxr : xrg xi) (hR : (8 ≤ (XR X).frames ∧ 280 ≤ (XR X).locals) ∧ k ≤ (XR X).cells ∧ n ≤ (XR X).slots) {A : AS} {w1 w2 : va_W} (hA : CW cI cO cZ o A w1) (hM : MW cI q0 A w2) {i : Int} (hi : 0 ≤ i ∧ i + 4 ≤ L ∧ L ≤ 2048) {H : Heap} {locs : List Loc} {ls : Array Slot} (w : Wd X (w1 ++ w2) H locs) (hl : lv_has ls 4 [(3, .int (iI i)), (2, .ref q0), (1, .ref o), (0, .ref b)])
    (kk : ∀ (A' : AS) (w1' w2' : va_W) (H : Heap) (locs : List Loc), CW cI cO cZ o A' w1' → MW cI q0 A' w2' → Wd X (w1' ++ w2') H locs → GG X k n H locs 944 ls []) : GG X k n H locs 520 ls [] := by
  obtain ⟨f1, hr1⟩ := hA.recv
  obtain ⟨f2, hr2⟩ := hM.recv
  refine r_aload_n (pc := 520) C d_L_law_520 rfl (lv_at hl 2 rfl) ?_
  refine r_ld (pc := 521) C w hX hl (by omega) d_L_law_521 d_L_law_522 d_L_law_523 d_L_law_524 d_L_law_525 ?_
  refine r_ld (pc := 526) C w hX hl (by omega) d_L_law_526 d_L_law_527 d_L_law_528 d_L_law_529 d_L_law_530 ?_
  refine r_callVI (pc := 531) (As := [.int (iI (xi (i + 1))), .int (iI (xi (i + 2)))]) (rest := []) (wr := w2) C w (c_D_ofRun hT o A w1 hA (xi (i + 1)) (xi (i + 2)) ⟨hxr _, hxr _⟩) ml_L_56 im_D_ofRun se_D_ofRun ini_D cd_D_ofRun hd_D_ofRun rfl ⟨⟨Nat.le_trans (Nat.le_of_ble_eq_true rfl) hR.1.1, Nat.le_trans (Nat.le_of_ble_eq_true rfl) hR.1.2⟩, hR.2⟩ hl.1 _ _ (cut_app w1 w2) 0 rfl hr1 rfl (Nat.le_of_ble_eq_true rfl) d_L_law_531 (fun z u1 H locs hz w => ?_)
  obtain ⟨A', hA', hS⟩ := hz
  refine r_aload_n (pc := 534) C d_L_law_534 rfl (lv_at hl 1 rfl) ?_
  refine r_ld (pc := 535) C w hX hl (by omega) d_L_law_535 d_L_law_536 d_L_law_537 d_L_law_538 d_L_law_539 ?_
  refine r_ld (pc := 540) C w hX hl (by omega) d_L_law_540 d_L_law_541 d_L_law_542 d_L_law_543 d_L_law_544 ?_
  refine r_callVI (pc := 545) (As := [.int (iI (xi (i + 1))), .int (iI (xi (i + 2)))]) (rest := [.int (iI z)]) (wr := u1) C w (c_M_ofRun hT q0 A A' z w2 hM (xi (i + 1)) (xi (i + 2)) ⟨hxr _, hxr _⟩ hS) ml_L_59 im_M_ofRun se_M_ofRun ini_M cd_M_ofRun hd_M_ofRun rfl ⟨⟨Nat.le_trans (Nat.le_of_ble_eq_true rfl) hR.1.1, Nat.le_trans (Nat.le_of_ble_eq_true rfl) hR.1.2⟩, hR.2⟩ hl.1 _ _ (cut_app w2 u1) 0 rfl hr2 rfl (Nat.le_of_ble_eq_true rfl) d_L_law_545 (fun z2 u2 H locs hz2 w => ?_)
  obtain ⟨e2, hM'⟩ := hz2
  subst e2
  refine r_icmp_same (pc := 548) (tgt := 944) C d_L_law_548 (by decide) ?_
  exact kk A' u1 u2 H locs hA' hM' w
set_option maxHeartbeats 2000000 in
theorem law_count {X : Ev} {k n : Nat} (C : Cx code "DeadRunsLaw" 4 X) {cI cO cZ : ClassId} (hT : TY (Xtys X) cI cO cZ) {b o q0 L : Nat} {xi : Int → Int} (hX : XScr X b L xi) (hxr : xrg xi) (hR : (8 ≤ (XR X).frames ∧ 280 ≤ (XR X).locals) ∧ k ≤ (XR X).cells ∧ n ≤ (XR X).slots) {A : AS} {w1 w2 : va_W} (hA : CW cI cO cZ o A w1) (hM : MW cI q0 A w2) {i : Int} (hi : 0 ≤ i ∧ i + 4 ≤ L ∧ L ≤ 2048) {H : Heap} {locs : List Loc} {ls : Array Slot} (w : Wd X (w1 ++ w2) H locs) (hl : lv_has ls 4 [(3, .int (iI i)), (2, .ref q0), (1, .ref o), (0, .ref b)])
    (kk : ∀ (A' : AS) (w1' w2' : va_W) (H : Heap) (locs : List Loc), CW cI cO cZ o A' w1' → MW cI q0 A' w2' → Wd X (w1' ++ w2') H locs → GG X k n H locs 944 ls []) : GG X k n H locs 553 ls [] := by
  obtain ⟨f1, hr1⟩ := hA.recv
  obtain ⟨f2, hr2⟩ := hM.recv
  refine r_aload_n (pc := 553) C d_L_law_553 rfl (lv_at hl 2 rfl) ?_
  refine r_ld (pc := 554) C w hX hl (by omega) d_L_law_554 d_L_law_555 d_L_law_556 d_L_law_557 d_L_law_558 ?_
  refine r_callVI (pc := 559) (As := [.int (iI (xi (i + 1)))]) (rest := []) (wr := w2) C w (c_D_count hT o A w1 hA (xi (i + 1)) (hxr _)) ml_L_60 im_D_count se_D_count ini_D cd_D_count hd_D_count rfl ⟨⟨Nat.le_trans (Nat.le_of_ble_eq_true rfl) hR.1.1, Nat.le_trans (Nat.le_of_ble_eq_true rfl) hR.1.2⟩, hR.2⟩ hl.1 _ _ (cut_app w1 w2) 0 rfl hr1 rfl (Nat.le_of_ble_eq_true rfl) d_L_law_559 (fun z u1 H locs hz w => ?_)
  obtain ⟨A', hA', hS⟩ := hz
  refine r_aload_n (pc := 562) C d_L_law_562 rfl (lv_at hl 1 rfl) ?_
  refine r_ld (pc := 563) C w hX hl (by omega) d_L_law_563 d_L_law_564 d_L_law_565 d_L_law_566 d_L_law_567 ?_
  refine r_callVI (pc := 568) (As := [.int (iI (xi (i + 1)))]) (rest := [.int (iI z)]) (wr := u1) C w (c_M_count hT q0 A A' z w2 hM (xi (i + 1)) (hxr _) hS) ml_L_63 im_M_count se_M_count ini_M cd_M_count hd_M_count rfl ⟨⟨Nat.le_trans (Nat.le_of_ble_eq_true rfl) hR.1.1, Nat.le_trans (Nat.le_of_ble_eq_true rfl) hR.1.2⟩, hR.2⟩ hl.1 _ _ (cut_app w2 u1) 0 rfl hr2 rfl (Nat.le_of_ble_eq_true rfl) d_L_law_568 (fun z2 u2 H locs hz2 w => ?_)
  obtain ⟨e2, hM'⟩ := hz2
  subst e2
  refine r_icmp_same (pc := 571) (tgt := 944) C d_L_law_571 (by decide) ?_
  exact kk A' u1 u2 H locs hA' hM' w
set_option maxHeartbeats 2000000 in
theorem law_howMany {X : Ev} {k n : Nat} (C : Cx code "DeadRunsLaw" 4 X) {cI cO cZ : ClassId} (hT : TY (Xtys X) cI cO cZ) {b o q0 L : Nat} {xi : Int → Int} (hX : XScr X b L xi) (hxr : xrg xi) (hR : (8 ≤ (XR X).frames ∧ 280 ≤ (XR X).locals) ∧ k ≤ (XR X).cells ∧ n ≤ (XR X).slots) {A : AS} {w1 w2 : va_W} (hA : CW cI cO cZ o A w1) (hM : MW cI q0 A w2) {i : Int} (hi : 0 ≤ i ∧ i + 4 ≤ L ∧ L ≤ 2048) {H : Heap} {locs : List Loc} {ls : Array Slot} (w : Wd X (w1 ++ w2) H locs) (hl : lv_has ls 4 [(3, .int (iI i)), (2, .ref q0), (1, .ref o), (0, .ref b)])
    (kk : ∀ (A' : AS) (w1' w2' : va_W) (H : Heap) (locs : List Loc), CW cI cO cZ o A' w1' → MW cI q0 A' w2' → Wd X (w1' ++ w2') H locs → GG X k n H locs 944 ls []) : GG X k n H locs 576 ls [] := by
  obtain ⟨f1, hr1⟩ := hA.recv
  obtain ⟨f2, hr2⟩ := hM.recv
  refine r_aload_n (pc := 576) C d_L_law_576 rfl (lv_at hl 2 rfl) ?_
  refine r_ld (pc := 577) C w hX hl (by omega) d_L_law_577 d_L_law_578 d_L_law_579 d_L_law_580 d_L_law_581 ?_
  refine r_ld (pc := 582) C w hX hl (by omega) d_L_law_582 d_L_law_583 d_L_law_584 d_L_law_585 d_L_law_586 ?_
  refine r_ld (pc := 587) C w hX hl (by omega) d_L_law_587 d_L_law_588 d_L_law_589 d_L_law_590 d_L_law_591 ?_
  refine r_callVI (pc := 592) (As := [.int (iI (xi (i + 1))), .int (iI (xi (i + 2))), .int (iI (xi (i + 3)))]) (rest := []) (wr := w2) C w (c_D_howMany hT o A w1 hA (xi (i + 1)) (xi (i + 2)) (xi (i + 3)) ⟨hxr _, hxr _, hxr _⟩) ml_L_64 im_D_howMany se_D_howMany ini_D cd_D_howMany hd_D_howMany rfl ⟨⟨Nat.le_trans (Nat.le_of_ble_eq_true rfl) hR.1.1, Nat.le_trans (Nat.le_of_ble_eq_true rfl) hR.1.2⟩, hR.2⟩ hl.1 _ _ (cut_app w1 w2) 0 rfl hr1 rfl (Nat.le_of_ble_eq_true rfl) d_L_law_592 (fun z u1 H locs hz w => ?_)
  obtain ⟨A', hA', hS⟩ := hz
  refine r_aload_n (pc := 595) C d_L_law_595 rfl (lv_at hl 1 rfl) ?_
  refine r_ld (pc := 596) C w hX hl (by omega) d_L_law_596 d_L_law_597 d_L_law_598 d_L_law_599 d_L_law_600 ?_
  refine r_ld (pc := 601) C w hX hl (by omega) d_L_law_601 d_L_law_602 d_L_law_603 d_L_law_604 d_L_law_605 ?_
  refine r_ld (pc := 606) C w hX hl (by omega) d_L_law_606 d_L_law_607 d_L_law_608 d_L_law_609 d_L_law_610 ?_
  refine r_callVI (pc := 611) (As := [.int (iI (xi (i + 1))), .int (iI (xi (i + 2))), .int (iI (xi (i + 3)))]) (rest := [.int (iI z)]) (wr := u1) C w (c_M_howMany hT q0 A A' z w2 hM (xi (i + 1)) (xi (i + 2)) (xi (i + 3)) ⟨hxr _, hxr _, hxr _⟩ hS) ml_L_67 im_M_howMany se_M_howMany ini_M cd_M_howMany hd_M_howMany rfl ⟨⟨Nat.le_trans (Nat.le_of_ble_eq_true rfl) hR.1.1, Nat.le_trans (Nat.le_of_ble_eq_true rfl) hR.1.2⟩, hR.2⟩ hl.1 _ _ (cut_app w2 u1) 0 rfl hr2 rfl (Nat.le_of_ble_eq_true rfl) d_L_law_611 (fun z2 u2 H locs hz2 w => ?_)
  obtain ⟨e2, hM'⟩ := hz2
  subst e2
  refine r_icmp_same (pc := 614) (tgt := 944) C d_L_law_614 (by decide) ?_
  exact kk A' u1 u2 H locs hA' hM' w
set_option maxHeartbeats 2000000 in
theorem law_bit {X : Ev} {k n : Nat} (C : Cx code "DeadRunsLaw" 4 X) {cI cO cZ : ClassId} (hT : TY (Xtys X) cI cO cZ) {b o q0 L : Nat} {xi : Int → Int} (hX : XScr X b L xi) (hxr : xrg xi) (hR : (8 ≤ (XR X).frames ∧ 280 ≤ (XR X).locals) ∧ k ≤ (XR X).cells ∧ n ≤ (XR X).slots) {A : AS} {w1 w2 : va_W} (hA : CW cI cO cZ o A w1) (hM : MW cI q0 A w2) {i : Int} (hi : 0 ≤ i ∧ i + 4 ≤ L ∧ L ≤ 2048) {H : Heap} {locs : List Loc} {ls : Array Slot} (w : Wd X (w1 ++ w2) H locs) (hl : lv_has ls 4 [(3, .int (iI i)), (2, .ref q0), (1, .ref o), (0, .ref b)])
    (kk : ∀ (A' : AS) (w1' w2' : va_W) (H : Heap) (locs : List Loc), CW cI cO cZ o A' w1' → MW cI q0 A' w2' → Wd X (w1' ++ w2') H locs → GG X k n H locs 944 ls []) : GG X k n H locs 619 ls [] := by
  obtain ⟨f1, hr1⟩ := hA.recv
  obtain ⟨f2, hr2⟩ := hM.recv
  refine r_aload_n (pc := 619) C d_L_law_619 rfl (lv_at hl 2 rfl) ?_
  refine r_ld (pc := 620) C w hX hl (by omega) d_L_law_620 d_L_law_621 d_L_law_622 d_L_law_623 d_L_law_624 ?_
  refine r_callVI (pc := 625) (As := [.int (iI (xi (i + 1)))]) (rest := []) (wr := w2) C w (c_D_bit hT o A w1 hA (xi (i + 1)) (hxr _)) ml_L_68 im_D_bit se_D_bit ini_D cd_D_bit hd_D_bit rfl ⟨⟨Nat.le_trans (Nat.le_of_ble_eq_true rfl) hR.1.1, Nat.le_trans (Nat.le_of_ble_eq_true rfl) hR.1.2⟩, hR.2⟩ hl.1 _ _ (cut_app w1 w2) 0 rfl hr1 rfl (Nat.le_of_ble_eq_true rfl) d_L_law_625 (fun z u1 H locs hz w => ?_)
  obtain ⟨A', hA', hS⟩ := hz
  refine r_aload_n (pc := 628) C d_L_law_628 rfl (lv_at hl 1 rfl) ?_
  refine r_ld (pc := 629) C w hX hl (by omega) d_L_law_629 d_L_law_630 d_L_law_631 d_L_law_632 d_L_law_633 ?_
  refine r_callVI (pc := 634) (As := [.int (iI (xi (i + 1)))]) (rest := [.int (iI z)]) (wr := u1) C w (c_M_bit hT q0 A A' z w2 hM (xi (i + 1)) (hxr _) hS) ml_L_71 im_M_bit se_M_bit ini_M cd_M_bit hd_M_bit rfl ⟨⟨Nat.le_trans (Nat.le_of_ble_eq_true rfl) hR.1.1, Nat.le_trans (Nat.le_of_ble_eq_true rfl) hR.1.2⟩, hR.2⟩ hl.1 _ _ (cut_app w2 u1) 0 rfl hr2 rfl (Nat.le_of_ble_eq_true rfl) d_L_law_634 (fun z2 u2 H locs hz2 w => ?_)
  obtain ⟨e2, hM'⟩ := hz2
  subst e2
  refine r_icmp_same (pc := 637) (tgt := 944) C d_L_law_637 (by decide) ?_
  exact kk A' u1 u2 H locs hA' hM' w
