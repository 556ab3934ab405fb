theorem d_L_law_642 : decode code 642 = .ok (.aload_n 1, 1) := by decide +kernel
theorem d_L_law_643 : decode code 643 = .ok (.aload_n 0, 1) := by decide +kernel
theorem d_L_law_644 : decode code 644 = .ok (.iload_n 3, 1) := by decide +kernel
theorem d_L_law_645 : decode code 645 = .ok (.iconst 1, 1) := by decide +kernel
theorem d_L_law_646 : decode code 646 = .ok (.iadd, 1) := by decide +kernel
theorem d_L_law_647 : decode code 647 = .ok (.iaload, 1) := by decide +kernel
theorem d_L_law_648 : decode code 648 = .ok (.invokevirtual 72, 3) := by decide +kernel
theorem d_L_law_651 : decode code 651 = .ok (.aload_n 2, 1) := by decide +kernel
theorem d_L_law_652 : decode code 652 = .ok (.aload_n 0, 1) := by decide +kernel
theorem d_L_law_653 : decode code 653 = .ok (.iload_n 3, 1) := by decide +kernel
theorem d_L_law_654 : decode code 654 = .ok (.iconst 1, 1) := by decide +kernel
theorem d_L_law_655 : decode code 655 = .ok (.iadd, 1) := by decide +kernel
theorem d_L_law_656 : decode code 656 = .ok (.iaload, 1) := by decide +kernel
theorem d_L_law_657 : decode code 657 = .ok (.invokevirtual 75, 3) := by decide +kernel
theorem d_L_law_660 : decode code 660 = .ok (.if_icmp .eq 284, 3) := by decide +kernel
theorem d_L_law_663 : decode code 663 = .ok (.iconst 0, 1) := by decide +kernel
theorem d_L_law_664 : decode code 664 = .ok (.ireturn, 1) := by decide +kernel
theorem d_L_law_665 : decode code 665 = .ok (.aload_n 1, 1) := by decide +kernel
theorem d_L_law_666 : decode code 666 = .ok (.aload_n 0, 1) := by decide +kernel
theorem d_L_law_667 : decode code 667 = .ok (.iload_n 3, 1) := by decide +kernel
theorem d_L_law_668 : decode code 668 = .ok (.iconst 1, 1) := by decide +kernel
theorem d_L_law_669 : decode code 669 = .ok (.iadd, 1) := by decide +kernel
theorem d_L_law_670 : decode code 670 = .ok (.iaload, 1) := by decide +kernel
theorem d_L_law_671 : decode code 671 = .ok (.invokevirtual 76, 3) := by decide +kernel
theorem d_L_law_674 : decode code 674 = .ok (.aload_n 2, 1) := by decide +kernel
theorem d_L_law_675 : decode code 675 = .ok (.aload_n 0, 1) := by decide +kernel
theorem d_L_law_676 : decode code 676 = .ok (.iload_n 3, 1) := by decide +kernel
theorem d_L_law_677 : decode code 677 = .ok (.iconst 1, 1) := by decide +kernel
theorem d_L_law_678 : decode code 678 = .ok (.iadd, 1) := by decide +kernel
theorem d_L_law_679 : decode code 679 = .ok (.iaload, 1) := by decide +kernel
theorem d_L_law_680 : decode code 680 = .ok (.invokevirtual 79, 3) := by decide +kernel
theorem d_L_law_683 : decode code 683 = .ok (.if_icmp .eq 261, 3) := by decide +kernel
theorem d_L_law_686 : decode code 686 = .ok (.iconst 0, 1) := by decide +kernel
theorem d_L_law_687 : decode code 687 = .ok (.ireturn, 1) := by decide +kernel
theorem d_L_law_688 : decode code 688 = .ok (.aload_n 1, 1) := by decide +kernel
theorem d_L_law_689 : decode code 689 = .ok (.invokevirtual 80, 3) := by decide +kernel
theorem d_L_law_692 : decode code 692 = .ok (.aload_n 2, 1) := by decide +kernel
theorem d_L_law_693 : decode code 693 = .ok (.invokevirtual 84, 3) := by decide +kernel
theorem d_L_law_696 : decode code 696 = .ok (.if_icmp .eq 248, 3) := by decide +kernel
theorem d_L_law_699 : decode code 699 = .ok (.iconst 0, 1) := by decide +kernel
theorem d_L_law_700 : decode code 700 = .ok (.ireturn, 1) := by decide +kernel
theorem d_L_law_701 : decode code 701 = .ok (.aload_n 1, 1) := by decide +kernel
theorem d_L_law_702 : decode code 702 = .ok (.aload_n 0, 1) := by decide +kernel
theorem d_L_law_703 : decode code 703 = .ok (.iload_n 3, 1) := by decide +kernel
theorem d_L_law_704 : decode code 704 = .ok (.iconst 1, 1) := by decide +kernel
theorem d_L_law_705 : decode code 705 = .ok (.iadd, 1) := by decide +kernel
theorem d_L_law_706 : decode code 706 = .ok (.iaload, 1) := by decide +kernel
theorem d_L_law_707 : decode code 707 = .ok (.invokevirtual 85, 3) := by decide +kernel
theorem d_L_law_710 : decode code 710 = .ok (.aload_n 2, 1) := by decide +kernel
theorem d_L_law_711 : decode code 711 = .ok (.aload_n 0, 1) := by decide +kernel
theorem d_L_law_712 : decode code 712 = .ok (.iload_n 3, 1) := by decide +kernel
theorem d_L_law_713 : decode code 713 = .ok (.iconst 1, 1) := by decide +kernel
theorem d_L_law_714 : decode code 714 = .ok (.iadd, 1) := by decide +kernel
theorem d_L_law_715 : decode code 715 = .ok (.iaload, 1) := by decide +kernel
theorem d_L_law_716 : decode code 716 = .ok (.invokevirtual 88, 3) := by decide +kernel
theorem d_L_law_719 : decode code 719 = .ok (.if_icmp .eq 225, 3) := by decide +kernel
theorem d_L_law_722 : decode code 722 = .ok (.iconst 0, 1) := by decide +kernel
theorem d_L_law_723 : decode code 723 = .ok (.ireturn, 1) := by decide +kernel
theorem d_L_law_724 : decode code 724 = .ok (.aload_n 1, 1) := by decide +kernel
theorem d_L_law_725 : decode code 725 = .ok (.aload_n 0, 1) := by decide +kernel
theorem d_L_law_726 : decode code 726 = .ok (.iload_n 3, 1) := by decide +kernel
theorem d_L_law_727 : decode code 727 = .ok (.iconst 1, 1) := by decide +kernel
theorem d_L_law_728 : decode code 728 = .ok (.iadd, 1) := by decide +kernel
theorem d_L_law_729 : decode code 729 = .ok (.iaload, 1) := by decide +kernel
theorem d_L_law_730 : decode code 730 = .ok (.aload_n 0, 1) := by decide +kernel
theorem d_L_law_731 : decode code 731 = .ok (.iload_n 3, 1) := by decide +kernel
theorem d_L_law_732 : decode code 732 = .ok (.iconst 2, 1) := by decide +kernel
theorem d_L_law_733 : decode code 733 = .ok (.iadd, 1) := by decide +kernel
theorem d_L_law_734 : decode code 734 = .ok (.iaload, 1) := by decide +kernel
theorem d_L_law_735 : decode code 735 = .ok (.invokevirtual 89, 3) := by decide +kernel
theorem d_L_law_738 : decode code 738 = .ok (.aload_n 2, 1) := by decide +kernel
theorem d_L_law_739 : decode code 739 = .ok (.aload_n 0, 1) := by decide +kernel
theorem d_L_law_740 : decode code 740 = .ok (.iload_n 3, 1) := by decide +kernel
theorem d_L_law_741 : decode code 741 = .ok (.iconst 1, 1) := by decide +kernel
theorem d_L_law_742 : decode code 742 = .ok (.iadd, 1) := by decide +kernel
theorem d_L_law_743 : decode code 743 = .ok (.iaload, 1) := by decide +kernel
theorem d_L_law_744 : decode code 744 = .ok (.aload_n 0, 1) := by decide +kernel
theorem d_L_law_745 : decode code 745 = .ok (.iload_n 3, 1) := by decide +kernel
theorem d_L_law_746 : decode code 746 = .ok (.iconst 2, 1) := by decide +kernel
theorem d_L_law_747 : decode code 747 = .ok (.iadd, 1) := by decide +kernel
theorem d_L_law_748 : decode code 748 = .ok (.iaload, 1) := by decide +kernel
theorem d_L_law_749 : decode code 749 = .ok (.invokevirtual 92, 3) := by decide +kernel
theorem d_L_law_752 : decode code 752 = .ok (.if_icmp .eq 192, 3) := by decide +kernel
theorem d_L_law_755 : decode code 755 = .ok (.iconst 0, 1) := by decide +kernel
theorem d_L_law_756 : decode code 756 = .ok (.ireturn, 1) := by decide +kernel
theorem d_L_law_757 : decode code 757 = .ok (.aload_n 1, 1) := by decide +kernel
theorem d_L_law_758 : decode code 758 = .ok (.aload_n 0, 1) := by decide +kernel
theorem d_L_law_759 : decode code 759 = .ok (.iload_n 3, 1) := by decide +kernel
theorem d_L_law_760 : decode code 760 = .ok (.iconst 1, 1) := by decide +kernel
theorem d_L_law_761 : decode code 761 = .ok (.iadd, 1) := by decide +kernel
theorem d_L_law_762 : decode code 762 = .ok (.iaload, 1) := by decide +kernel
theorem d_L_law_763 : decode code 763 = .ok (.invokevirtual 93, 3) := by decide +kernel
theorem d_L_law_766 : decode code 766 = .ok (.aload_n 2, 1) := by decide +kernel
theorem d_L_law_767 : decode code 767 = .ok (.aload_n 0, 1) := by decide +kernel
theorem d_L_law_768 : decode code 768 = .ok (.iload_n 3, 1) := by decide +kernel
theorem d_L_law_769 : decode code 769 = .ok (.iconst 1, 1) := by decide +kernel
theorem d_L_law_770 : decode code 770 = .ok (.iadd, 1) := by decide +kernel
theorem d_L_law_771 : decode code 771 = .ok (.iaload, 1) := by decide +kernel
theorem d_L_law_772 : decode code 772 = .ok (.invokevirtual 96, 3) := by decide +kernel
theorem d_L_law_775 : decode code 775 = .ok (.if_icmp .eq 169, 3) := by decide +kernel
theorem d_L_law_778 : decode code 778 = .ok (.iconst 0, 1) := by decide +kernel
theorem d_L_law_779 : decode code 779 = .ok (.ireturn, 1) := by decide +kernel
set_option maxHeartbeats 2000000 in
theorem law_character {X : Ev} {k n : Nat} (C : Cx code "DeadRunsLaw" 4 X) {cI cO cZ : ClassId} (hT : TY (Xtys X) cI cO cZ) {b o q0 L : Nat} {xi : Int → Int} (hX : XScr X b L xi) (hxr : xrg xi) (hR : (8 ≤ (XR X).frames ∧ 280 ≤ (XR X).locals) ∧ k ≤ (XR X).cells ∧ n ≤ (XR X).slots) {A : AS} {w1 w2 : va_W} (hA : CW cI cO cZ o A w1) (hM : MW cI q0 A w2) {i : Int} (hi : 0 ≤ i ∧ i + 4 ≤ L ∧ L ≤ 2048) {H : Heap} {locs : List Loc} {ls : Array Slot} (w : Wd X (w1 ++ w2) H locs) (hl : lv_has ls 4 [(3, .int (iI i)), (2, .ref q0), (1, .ref o), (0, .ref b)])
    (kk : ∀ (A' : AS) (w1' w2' : va_W) (H : Heap) (locs : List Loc), CW cI cO cZ o A' w1' → MW cI q0 A' w2' → Wd X (w1' ++ w2') H locs → GG X k n H locs 944 ls []) : GG X k n H locs 642 ls [] := by
  obtain ⟨f1, hr1⟩ := hA.recv
  obtain ⟨f2, hr2⟩ := hM.recv
  refine r_aload_n (pc := 642) C d_L_law_642 rfl (lv_at hl 2 rfl) ?_
  refine r_ld (pc := 643) C w hX hl (by omega) d_L_law_643 d_L_law_644 d_L_law_645 d_L_law_646 d_L_law_647 ?_
  refine r_callVI (pc := 648) (As := [.int (iI (xi (i + 1)))]) (rest := []) (wr := w2) C w (c_D_character hT o A w1 hA (xi (i + 1)) (hxr _)) ml_L_72 im_D_character se_D_character ini_D cd_D_character hd_D_character rfl ⟨⟨Nat.le_trans (Nat.le_of_ble_eq_true rfl) hR.1.1, Nat.le_trans (Nat.le_of_ble_eq_true rfl) hR.1.2⟩, hR.2⟩ hl.1 _ _ (cut_app w1 w2) 0 rfl hr1 rfl (Nat.le_of_ble_eq_true rfl) d_L_law_648 (fun z u1 H locs hz w => ?_)
  obtain ⟨A', hA', hS⟩ := hz
  refine r_aload_n (pc := 651) C d_L_law_651 rfl (lv_at hl 1 rfl) ?_
  refine r_ld (pc := 652) C w hX hl (by omega) d_L_law_652 d_L_law_653 d_L_law_654 d_L_law_655 d_L_law_656 ?_
  refine r_callVI (pc := 657) (As := [.int (iI (xi (i + 1)))]) (rest := [.int (iI z)]) (wr := u1) C w (c_M_character hT q0 A A' z w2 hM (xi (i + 1)) (hxr _) hS) ml_L_75 im_M_character se_M_character ini_M cd_M_character hd_M_character rfl ⟨⟨Nat.le_trans (Nat.le_of_ble_eq_true rfl) hR.1.1, Nat.le_trans (Nat.le_of_ble_eq_true rfl) hR.1.2⟩, hR.2⟩ hl.1 _ _ (cut_app w2 u1) 0 rfl hr2 rfl (Nat.le_of_ble_eq_true rfl) d_L_law_657 (fun z2 u2 H locs hz2 w => ?_)
  obtain ⟨e2, hM'⟩ := hz2
  subst e2
  refine r_icmp_same (pc := 660) (tgt := 944) C d_L_law_660 (by decide) ?_
  exact kk A' u1 u2 H locs hA' hM' w
set_option maxHeartbeats 2000000 in
theorem law_size {X : Ev} {k n : Nat} (C : Cx code "DeadRunsLaw" 4 X) {cI cO cZ : ClassId} (hT : TY (Xtys X) cI cO cZ) {b o q0 L : Nat} {xi : Int → Int} (hX : XScr X b L xi) (hxr : xrg xi) (hR : (8 ≤ (XR X).frames ∧ 280 ≤ (XR X).locals) ∧ k ≤ (XR X).cells ∧ n ≤ (XR X).slots) {A : AS} {w1 w2 : va_W} (hA : CW cI cO cZ o A w1) (hM : MW cI q0 A w2) {i : Int} (hi : 0 ≤ i ∧ i + 4 ≤ L ∧ L ≤ 2048) {H : Heap} {locs : List Loc} {ls : Array Slot} (w : Wd X (w1 ++ w2) H locs) (hl : lv_has ls 4 [(3, .int (iI i)), (2, .ref q0), (1, .ref o), (0, .ref b)])
    (kk : ∀ (A' : AS) (w1' w2' : va_W) (H : Heap) (locs : List Loc), CW cI cO cZ o A' w1' → MW cI q0 A' w2' → Wd X (w1' ++ w2') H locs → GG X k n H locs 944 ls []) : GG X k n H locs 665 ls [] := by
  obtain ⟨f1, hr1⟩ := hA.recv
  obtain ⟨f2, hr2⟩ := hM.recv
  refine r_aload_n (pc := 665) C d_L_law_665 rfl (lv_at hl 2 rfl) ?_
  refine r_ld (pc := 666) C w hX hl (by omega) d_L_law_666 d_L_law_667 d_L_law_668 d_L_law_669 d_L_law_670 ?_
  refine r_callVI (pc := 671) (As := [.int (iI (xi (i + 1)))]) (rest := []) (wr := w2) C w (c_D_size hT o A w1 hA (xi (i + 1)) (hxr _)) ml_L_76 im_D_size se_D_size ini_D cd_D_size hd_D_size rfl ⟨⟨Nat.le_trans (Nat.le_of_ble_eq_true rfl) hR.1.1, Nat.le_trans (Nat.le_of_ble_eq_true rfl) hR.1.2⟩, hR.2⟩ hl.1 _ _ (cut_app w1 w2) 0 rfl hr1 rfl (Nat.le_of_ble_eq_true rfl) d_L_law_671 (fun z u1 H locs hz w => ?_)
  obtain ⟨A', hA', hS⟩ := hz
  refine r_aload_n (pc := 674) C d_L_law_674 rfl (lv_at hl 1 rfl) ?_
  refine r_ld (pc := 675) C w hX hl (by omega) d_L_law_675 d_L_law_676 d_L_law_677 d_L_law_678 d_L_law_679 ?_
  refine r_callVI (pc := 680) (As := [.int (iI (xi (i + 1)))]) (rest := [.int (iI z)]) (wr := u1) C w (c_M_size hT q0 A A' z w2 hM (xi (i + 1)) (hxr _) hS) ml_L_79 im_M_size se_M_size ini_M cd_M_size hd_M_size rfl ⟨⟨Nat.le_trans (Nat.le_of_ble_eq_true rfl) hR.1.1, Nat.le_trans (Nat.le_of_ble_eq_true rfl) hR.1.2⟩, hR.2⟩ hl.1 _ _ (cut_app w2 u1) 0 rfl hr2 rfl (Nat.le_of_ble_eq_true rfl) d_L_law_680 (fun z2 u2 H locs hz2 w => ?_)
  obtain ⟨e2, hM'⟩ := hz2
  subst e2
  refine r_icmp_same (pc := 683) (tgt := 944) C d_L_law_683 (by decide) ?_
  exact kk A' u1 u2 H locs hA' hM' w
set_option maxHeartbeats 2000000 in
theorem law_bestCode {X : Ev} {k n : Nat} (C : Cx code "DeadRunsLaw" 4 X) {cI cO cZ : ClassId} (hT : TY (Xtys X) cI cO cZ) {b o q0 L : Nat} {xi : Int → Int} (hX : XScr X b L xi) (hxr : xrg xi) (hR : (8 ≤ (XR X).frames ∧ 280 ≤ (XR X).locals) ∧ k ≤ (XR X).cells ∧ n ≤ (XR X).slots) {A : AS} {w1 w2 : va_W} (hA : CW cI cO cZ o A w1) (hM : MW cI q0 A w2) {i : Int} (hi : 0 ≤ i ∧ i + 4 ≤ L ∧ L ≤ 2048) {H : Heap} {locs : List Loc} {ls : Array Slot} (w : Wd X (w1 ++ w2) H locs) (hl : lv_has ls 4 [(3, .int (iI i)), (2, .ref q0), (1, .ref o), (0, .ref b)])
    (kk : ∀ (A' : AS) (w1' w2' : va_W) (H : Heap) (locs : List Loc), CW cI cO cZ o A' w1' → MW cI q0 A' w2' → Wd X (w1' ++ w2') H locs → GG X k n H locs 944 ls []) : GG X k n H locs 688 ls [] := by
  obtain ⟨f1, hr1⟩ := hA.recv
  obtain ⟨f2, hr2⟩ := hM.recv
  refine r_aload_n (pc := 688) C d_L_law_688 rfl (lv_at hl 2 rfl) ?_
  refine r_callVI (pc := 689) (As := []) (rest := []) (wr := w2) C w (c_D_bestCode hT o A w1 hA) ml_L_80 im_D_bestCode se_D_bestCode ini_D cd_D_bestCode hd_D_bestCode rfl ⟨⟨Nat.le_trans (Nat.le_of_ble_eq_true rfl) hR.1.1, Nat.le_trans (Nat.le_of_ble_eq_true rfl) hR.1.2⟩, hR.2⟩ hl.1 _ _ (cut_app w1 w2) 0 rfl hr1 rfl (Nat.le_of_ble_eq_true rfl) d_L_law_689 (fun z u1 H locs hz w => ?_)
  obtain ⟨A', hA', hS⟩ := hz
  refine r_aload_n (pc := 692) C d_L_law_692 rfl (lv_at hl 1 rfl) ?_
  refine r_callVI (pc := 693) (As := []) (rest := [.int (iI z)]) (wr := u1) C w (c_M_bestCode hT q0 A A' z w2 hM hS) ml_L_84 im_M_bestCode se_M_bestCode ini_M cd_M_bestCode hd_M_bestCode rfl ⟨⟨Nat.le_trans (Nat.le_of_ble_eq_true rfl) hR.1.1, Nat.le_trans (Nat.le_of_ble_eq_true rfl) hR.1.2⟩, hR.2⟩ hl.1 _ _ (cut_app w2 u1) 0 rfl hr2 rfl (Nat.le_of_ble_eq_true rfl) d_L_law_693 (fun z2 u2 H locs hz2 w => ?_)
  obtain ⟨e2, hM'⟩ := hz2
  subst e2
  refine r_icmp_same (pc := 696) (tgt := 944) C d_L_law_696 (by decide) ?_
  exact kk A' u1 u2 H locs hA' hM' w
set_option maxHeartbeats 2000000 in
theorem law_longestLive {X : Ev} {k n : Nat} (C : Cx code "DeadRunsLaw" 4 X) {cI cO cZ : ClassId} (hT : TY (Xtys X) cI cO cZ) {b o q0 L : Nat} {xi : Int → Int} (hX : XScr X b L xi) (hxr : xrg xi) (hR : (8 ≤ (XR X).frames ∧ 280 ≤ (XR X).locals) ∧ k ≤ (XR X).cells ∧ n ≤ (XR X).slots) {A : AS} {w1 w2 : va_W} (hA : CW cI cO cZ o A w1) (hM : MW cI q0 A w2) {i : Int} (hi : 0 ≤ i ∧ i + 4 ≤ L ∧ L ≤ 2048) {H : Heap} {locs : List Loc} {ls : Array Slot} (w : Wd X (w1 ++ w2) H locs) (hl : lv_has ls 4 [(3, .int (iI i)), (2, .ref q0), (1, .ref o), (0, .ref b)])
    (kk : ∀ (A' : AS) (w1' w2' : va_W) (H : Heap) (locs : List Loc), CW cI cO cZ o A' w1' → MW cI q0 A' w2' → Wd X (w1' ++ w2') H locs → GG X k n H locs 944 ls []) : GG X k n H locs 701 ls [] := by
  obtain ⟨f1, hr1⟩ := hA.recv
  obtain ⟨f2, hr2⟩ := hM.recv
  refine r_aload_n (pc := 701) C d_L_law_701 rfl (lv_at hl 2 rfl) ?_
  refine r_ld (pc := 702) C w hX hl (by omega) d_L_law_702 d_L_law_703 d_L_law_704 d_L_law_705 d_L_law_706 ?_
  refine r_callVI (pc := 707) (As := [.int (iI (xi (i + 1)))]) (rest := []) (wr := w2) C w (c_D_longestLive hT o A w1 hA (xi (i + 1)) (hxr _)) ml_L_85 im_D_longestLive se_D_longestLive ini_D cd_D_longestLive hd_D_longestLive rfl ⟨⟨Nat.le_trans (Nat.le_of_ble_eq_true rfl) hR.1.1, Nat.le_trans (Nat.le_of_ble_eq_true rfl) hR.1.2⟩, hR.2⟩ hl.1 _ _ (cut_app w1 w2) 0 rfl hr1 rfl (Nat.le_of_ble_eq_true rfl) d_L_law_707 (fun z u1 H locs hz w => ?_)
  obtain ⟨A', hA', hS⟩ := hz
  refine r_aload_n (pc := 710) C d_L_law_710 rfl (lv_at hl 1 rfl) ?_
  refine r_ld (pc := 711) C w hX hl (by omega) d_L_law_711 d_L_law_712 d_L_law_713 d_L_law_714 d_L_law_715 ?_
  refine r_callVI (pc := 716) (As := [.int (iI (xi (i + 1)))]) (rest := [.int (iI z)]) (wr := u1) C w (c_M_longestLive hT q0 A A' z w2 hM (xi (i + 1)) (hxr _) hS) ml_L_88 im_M_longestLive se_M_longestLive ini_M cd_M_longestLive hd_M_longestLive rfl ⟨⟨Nat.le_trans (Nat.le_of_ble_eq_true rfl) hR.1.1, Nat.le_trans (Nat.le_of_ble_eq_true rfl) hR.1.2⟩, hR.2⟩ hl.1 _ _ (cut_app w2 u1) 0 rfl hr2 rfl (Nat.le_of_ble_eq_true rfl) d_L_law_716 (fun z2 u2 H locs hz2 w => ?_)
  obtain ⟨e2, hM'⟩ := hz2
  subst e2
  refine r_icmp_same (pc := 719) (tgt := 944) C d_L_law_719 (by decide) ?_
  exact kk A' u1 u2 H locs hA' hM' w
set_option maxHeartbeats 2000000 in
theorem law_find {X : Ev} {k n : Nat} (C : Cx code "DeadRunsLaw" 4 X) {cI cO cZ : ClassId} (hT : TY (Xtys X) cI cO cZ) {b o q0 L : Nat} {xi : Int → Int} (hX : XScr X b L xi) (hxr : xrg xi) (hR : (8 ≤ (XR X).frames ∧ 280 ≤ (XR X).locals) ∧ k ≤ (XR X).cells ∧ n ≤ (XR X).slots) {A : AS} {w1 w2 : va_W} (hA : CW cI cO cZ o A w1) (hM : MW cI q0 A w2) {i : Int} (hi : 0 ≤ i ∧ i + 4 ≤ L ∧ L ≤ 2048) {H : Heap} {locs : List Loc} {ls : Array Slot} (w : Wd X (w1 ++ w2) H locs) (hl : lv_has ls 4 [(3, .int (iI i)), (2, .ref q0), (1, .ref o), (0, .ref b)])
    (kk : ∀ (A' : AS) (w1' w2' : va_W) (H : Heap) (locs : List Loc), CW cI cO cZ o A' w1' → MW cI q0 A' w2' → Wd X (w1' ++ w2') H locs → GG X k n H locs 944 ls []) : GG X k n H locs 724 ls [] := by
  obtain ⟨f1, hr1⟩ := hA.recv
  obtain ⟨f2, hr2⟩ := hM.recv
  refine r_aload_n (pc := 724) C d_L_law_724 rfl (lv_at hl 2 rfl) ?_
  refine r_ld (pc := 725) C w hX hl (by omega) d_L_law_725 d_L_law_726 d_L_law_727 d_L_law_728 d_L_law_729 ?_
  refine r_ld (pc := 730) C w hX hl (by omega) d_L_law_730 d_L_law_731 d_L_law_732 d_L_law_733 d_L_law_734 ?_
  refine r_callVI (pc := 735) (As := [.int (iI (xi (i + 1))), .int (iI (xi (i + 2)))]) (rest := []) (wr := w2) C w (c_D_find hT o A w1 hA (xi (i + 1)) (xi (i + 2)) ⟨hxr _, hxr _⟩) ml_L_89 im_D_find se_D_find ini_D cd_D_find hd_D_find rfl ⟨⟨Nat.le_trans (Nat.le_of_ble_eq_true rfl) hR.1.1, Nat.le_trans (Nat.le_of_ble_eq_true rfl) hR.1.2⟩, hR.2⟩ hl.1 _ _ (cut_app w1 w2) 0 rfl hr1 rfl (Nat.le_of_ble_eq_true rfl) d_L_law_735 (fun z u1 H locs hz w => ?_)
  obtain ⟨A', hA', hS⟩ := hz
  refine r_aload_n (pc := 738) C d_L_law_738 rfl (lv_at hl 1 rfl) ?_
  refine r_ld (pc := 739) C w hX hl (by omega) d_L_law_739 d_L_law_740 d_L_law_741 d_L_law_742 d_L_law_743 ?_
  refine r_ld (pc := 744) C w hX hl (by omega) d_L_law_744 d_L_law_745 d_L_law_746 d_L_law_747 d_L_law_748 ?_
  refine r_callVI (pc := 749) (As := [.int (iI (xi (i + 1))), .int (iI (xi (i + 2)))]) (rest := [.int (iI z)]) (wr := u1) C w (c_M_find hT q0 A A' z w2 hM (xi (i + 1)) (xi (i + 2)) ⟨hxr _, hxr _⟩ hS) ml_L_92 im_M_find se_M_find ini_M cd_M_find hd_M_find rfl ⟨⟨Nat.le_trans (Nat.le_of_ble_eq_true rfl) hR.1.1, Nat.le_trans (Nat.le_of_ble_eq_true rfl) hR.1.2⟩, hR.2⟩ hl.1 _ _ (cut_app w2 u1) 0 rfl hr2 rfl (Nat.le_of_ble_eq_true rfl) d_L_law_749 (fun z2 u2 H locs hz2 w => ?_)
  obtain ⟨e2, hM'⟩ := hz2
  subst e2
  refine r_icmp_same (pc := 752) (tgt := 944) C d_L_law_752 (by decide) ?_
  exact kk A' u1 u2 H locs hA' hM' w
set_option maxHeartbeats 2000000 in
theorem law_bestWrite {X : Ev} {k n : Nat} (C : Cx code "DeadRunsLaw" 4 X) {cI cO cZ : ClassId} (hT : TY (Xtys X) cI cO cZ) {b o q0 L : Nat} {xi : Int → Int} (hX : XScr X b L xi) (hxr : xrg xi) (hR : (8 ≤ (XR X).frames ∧ 280 ≤ (XR X).locals) ∧ k ≤ (XR X).cells ∧ n ≤ (XR X).slots) {A : AS} {w1 w2 : va_W} (hA : CW cI cO cZ o A w1) (hM : MW cI q0 A w2) {i : Int} (hi : 0 ≤ i ∧ i + 4 ≤ L ∧ L ≤ 2048) {H : Heap} {locs : List Loc} {ls : Array Slot} (w : Wd X (w1 ++ w2) H locs) (hl : lv_has ls 4 [(3, .int (iI i)), (2, .ref q0), (1, .ref o), (0, .ref b)])
    (kk : ∀ (A' : AS) (w1' w2' : va_W) (H : Heap) (locs : List Loc), CW cI cO cZ o A' w1' → MW cI q0 A' w2' → Wd X (w1' ++ w2') H locs → GG X k n H locs 944 ls []) : GG X k n H locs 757 ls [] := by
  obtain ⟨f1, hr1⟩ := hA.recv
  obtain ⟨f2, hr2⟩ := hM.recv
  refine r_aload_n (pc := 757) C d_L_law_757 rfl (lv_at hl 2 rfl) ?_
  refine r_ld (pc := 758) C w hX hl (by omega) d_L_law_758 d_L_law_759 d_L_law_760 d_L_law_761 d_L_law_762 ?_
  refine r_callVI (pc := 763) (As := [.int (iI (xi (i + 1)))]) (rest := []) (wr := w2) C w (c_D_bestWrite hT o A w1 hA (xi (i + 1)) (hxr _)) ml_L_93 im_D_bestWrite se_D_bestWrite ini_D cd_D_bestWrite hd_D_bestWrite rfl ⟨⟨Nat.le_trans (Nat.le_of_ble_eq_true rfl) hR.1.1, Nat.le_trans (Nat.le_of_ble_eq_true rfl) hR.1.2⟩, hR.2⟩ hl.1 _ _ (cut_app w1 w2) 0 rfl hr1 rfl (Nat.le_of_ble_eq_true rfl) d_L_law_763 (fun z u1 H locs hz w => ?_)
  obtain ⟨A', hA', hS⟩ := hz
  refine r_aload_n (pc := 766) C d_L_law_766 rfl (lv_at hl 1 rfl) ?_
  refine r_ld (pc := 767) C w hX hl (by omega) d_L_law_767 d_L_law_768 d_L_law_769 d_L_law_770 d_L_law_771 ?_
  refine r_callVI (pc := 772) (As := [.int (iI (xi (i + 1)))]) (rest := [.int (iI z)]) (wr := u1) C w (c_M_bestWrite hT q0 A A' z w2 hM (xi (i + 1)) (hxr _) hS) ml_L_96 im_M_bestWrite se_M_bestWrite ini_M cd_M_bestWrite hd_M_bestWrite rfl ⟨⟨Nat.le_trans (Nat.le_of_ble_eq_true rfl) hR.1.1, Nat.le_trans (Nat.le_of_ble_eq_true rfl) hR.1.2⟩, hR.2⟩ hl.1 _ _ (cut_app w2 u1) 0 rfl hr2 rfl (Nat.le_of_ble_eq_true rfl) d_L_law_772 (fun z2 u2 H locs hz2 w => ?_)
  obtain ⟨e2, hM'⟩ := hz2
  subst e2
  refine r_icmp_same (pc := 775) (tgt := 944) C d_L_law_775 (by decide) ?_
  exact kk A' u1 u2 H locs hA' hM' w
