theorem d_L_law_780 : decode code 780 = .ok (.aload_n 1, 1) := by decide +kernel
theorem d_L_law_781 : decode code 781 = .ok (.invokevirtual 97, 3) := by decide +kernel
theorem d_L_law_784 : decode code 784 = .ok (.aload_n 2, 1) := by decide +kernel
theorem d_L_law_785 : decode code 785 = .ok (.invokevirtual 100, 3) := by decide +kernel
theorem d_L_law_788 : decode code 788 = .ok (.if_icmp .eq 156, 3) := by decide +kernel
theorem d_L_law_791 : decode code 791 = .ok (.iconst 0, 1) := by decide +kernel
theorem d_L_law_792 : decode code 792 = .ok (.ireturn, 1) := by decide +kernel
theorem d_L_law_793 : decode code 793 = .ok (.aload_n 1, 1) := by decide +kernel
theorem d_L_law_794 : decode code 794 = .ok (.aload_n 0, 1) := by decide +kernel
theorem d_L_law_795 : decode code 795 = .ok (.iload_n 3, 1) := by decide +kernel
theorem d_L_law_796 : decode code 796 = .ok (.iconst 1, 1) := by decide +kernel
theorem d_L_law_797 : decode code 797 = .ok (.iadd, 1) := by decide +kernel
theorem d_L_law_798 : decode code 798 = .ok (.iaload, 1) := by decide +kernel
theorem d_L_law_799 : decode code 799 = .ok (.i2l, 1) := by decide +kernel
theorem d_L_law_800 : decode code 800 = .ok (.bipush 32, 2) := by decide +kernel
theorem d_L_law_802 : decode code 802 = .ok (.lshl, 1) := by decide +kernel
theorem d_L_law_803 : decode code 803 = .ok (.aload_n 0, 1) := by decide +kernel
theorem d_L_law_804 : decode code 804 = .ok (.iload_n 3, 1) := by decide +kernel
theorem d_L_law_805 : decode code 805 = .ok (.iconst 2, 1) := by decide +kernel
theorem d_L_law_806 : decode code 806 = .ok (.iadd, 1) := by decide +kernel
theorem d_L_law_807 : decode code 807 = .ok (.iaload, 1) := by decide +kernel
theorem d_L_law_808 : decode code 808 = .ok (.i2l, 1) := by decide +kernel
theorem d_L_law_809 : decode code 809 = .ok (.ldc2_w 101, 3) := by decide +kernel
theorem d_L_law_812 : decode code 812 = .ok (.land, 1) := by decide +kernel
theorem d_L_law_813 : decode code 813 = .ok (.lor, 1) := by decide +kernel
theorem d_L_law_814 : decode code 814 = .ok (.invokevirtual 103, 3) := by decide +kernel
theorem d_L_law_817 : decode code 817 = .ok (.aload_n 2, 1) := by decide +kernel
theorem d_L_law_818 : decode code 818 = .ok (.aload_n 0, 1) := by decide +kernel
theorem d_L_law_819 : decode code 819 = .ok (.iload_n 3, 1) := by decide +kernel
theorem d_L_law_820 : decode code 820 = .ok (.iconst 1, 1) := by decide +kernel
theorem d_L_law_821 : decode code 821 = .ok (.iadd, 1) := by decide +kernel
theorem d_L_law_822 : decode code 822 = .ok (.iaload, 1) := by decide +kernel
theorem d_L_law_823 : decode code 823 = .ok (.i2l, 1) := by decide +kernel
theorem d_L_law_824 : decode code 824 = .ok (.bipush 32, 2) := by decide +kernel
theorem d_L_law_826 : decode code 826 = .ok (.lshl, 1) := by decide +kernel
theorem d_L_law_827 : decode code 827 = .ok (.aload_n 0, 1) := by decide +kernel
theorem d_L_law_828 : decode code 828 = .ok (.iload_n 3, 1) := by decide +kernel
theorem d_L_law_829 : decode code 829 = .ok (.iconst 2, 1) := by decide +kernel
theorem d_L_law_830 : decode code 830 = .ok (.iadd, 1) := by decide +kernel
theorem d_L_law_831 : decode code 831 = .ok (.iaload, 1) := by decide +kernel
theorem d_L_law_832 : decode code 832 = .ok (.i2l, 1) := by decide +kernel
theorem d_L_law_833 : decode code 833 = .ok (.ldc2_w 101, 3) := by decide +kernel
theorem d_L_law_836 : decode code 836 = .ok (.land, 1) := by decide +kernel
theorem d_L_law_837 : decode code 837 = .ok (.lor, 1) := by decide +kernel
theorem d_L_law_838 : decode code 838 = .ok (.invokevirtual 107, 3) := by decide +kernel
theorem d_L_law_841 : decode code 841 = .ok (.if_icmp .eq 103, 3) := by decide +kernel
theorem d_L_law_844 : decode code 844 = .ok (.iconst 0, 1) := by decide +kernel
theorem d_L_law_845 : decode code 845 = .ok (.ireturn, 1) := by decide +kernel
theorem d_L_law_846 : decode code 846 = .ok (.aload_n 1, 1) := by decide +kernel
theorem d_L_law_847 : decode code 847 = .ok (.invokevirtual 108, 3) := by decide +kernel
theorem d_L_law_850 : decode code 850 = .ok (.aload_n 2, 1) := by decide +kernel
theorem d_L_law_851 : decode code 851 = .ok (.invokevirtual 111, 3) := by decide +kernel
theorem d_L_law_854 : decode code 854 = .ok (.if_icmp .eq 90, 3) := by decide +kernel
theorem d_L_law_857 : decode code 857 = .ok (.iconst 0, 1) := by decide +kernel
theorem d_L_law_858 : decode code 858 = .ok (.ireturn, 1) := by decide +kernel
theorem d_L_law_859 : decode code 859 = .ok (.aload_n 1, 1) := by decide +kernel
theorem d_L_law_860 : decode code 860 = .ok (.invokevirtual 112, 3) := by decide +kernel
theorem d_L_law_863 : decode code 863 = .ok (.aload_n 2, 1) := by decide +kernel
theorem d_L_law_864 : decode code 864 = .ok (.invokevirtual 115, 3) := by decide +kernel
theorem d_L_law_867 : decode code 867 = .ok (.if_icmp .eq 77, 3) := by decide +kernel
theorem d_L_law_870 : decode code 870 = .ok (.iconst 0, 1) := by decide +kernel
theorem d_L_law_871 : decode code 871 = .ok (.ireturn, 1) := by decide +kernel
theorem d_L_law_872 : decode code 872 = .ok (.aload_n 1, 1) := by decide +kernel
theorem d_L_law_873 : decode code 873 = .ok (.invokevirtual 116, 3) := by decide +kernel
theorem d_L_law_876 : decode code 876 = .ok (.aload_n 2, 1) := by decide +kernel
theorem d_L_law_877 : decode code 877 = .ok (.invokevirtual 119, 3) := by decide +kernel
theorem d_L_law_880 : decode code 880 = .ok (.if_icmp .eq 64, 3) := by decide +kernel
theorem d_L_law_883 : decode code 883 = .ok (.iconst 0, 1) := by decide +kernel
theorem d_L_law_884 : decode code 884 = .ok (.ireturn, 1) := by decide +kernel
theorem d_L_law_885 : decode code 885 = .ok (.aload_n 1, 1) := by decide +kernel
theorem d_L_law_886 : decode code 886 = .ok (.invokevirtual 120, 3) := by decide +kernel
theorem d_L_law_889 : decode code 889 = .ok (.aload_n 2, 1) := by decide +kernel
theorem d_L_law_890 : decode code 890 = .ok (.invokevirtual 123, 3) := by decide +kernel
theorem d_L_law_893 : decode code 893 = .ok (.if_icmp .eq 51, 3) := by decide +kernel
theorem d_L_law_896 : decode code 896 = .ok (.iconst 0, 1) := by decide +kernel
theorem d_L_law_897 : decode code 897 = .ok (.ireturn, 1) := by decide +kernel
theorem d_L_law_898 : decode code 898 = .ok (.aload_n 1, 1) := by decide +kernel
theorem d_L_law_899 : decode code 899 = .ok (.aload_n 0, 1) := by decide +kernel
theorem d_L_law_900 : decode code 900 = .ok (.iload_n 3, 1) := by decide +kernel
theorem d_L_law_901 : decode code 901 = .ok (.iconst 1, 1) := by decide +kernel
theorem d_L_law_902 : decode code 902 = .ok (.iadd, 1) := by decide +kernel
theorem d_L_law_903 : decode code 903 = .ok (.iaload, 1) := by decide +kernel
theorem d_L_law_904 : decode code 904 = .ok (.invokevirtual 124, 3) := by decide +kernel
theorem d_L_law_907 : decode code 907 = .ok (.aload_n 2, 1) := by decide +kernel
theorem d_L_law_908 : decode code 908 = .ok (.aload_n 0, 1) := by decide +kernel
theorem d_L_law_909 : decode code 909 = .ok (.iload_n 3, 1) := by decide +kernel
theorem d_L_law_910 : decode code 910 = .ok (.iconst 1, 1) := by decide +kernel
theorem d_L_law_911 : decode code 911 = .ok (.iadd, 1) := by decide +kernel
theorem d_L_law_912 : decode code 912 = .ok (.iaload, 1) := by decide +kernel
theorem d_L_law_913 : decode code 913 = .ok (.invokevirtual 127, 3) := by decide +kernel
theorem d_L_law_916 : decode code 916 = .ok (.if_icmp .eq 28, 3) := by decide +kernel
theorem d_L_law_919 : decode code 919 = .ok (.iconst 0, 1) := by decide +kernel
theorem d_L_law_920 : decode code 920 = .ok (.ireturn, 1) := by decide +kernel
theorem d_L_law_921 : decode code 921 = .ok (.aload_n 1, 1) := by decide +kernel
theorem d_L_law_922 : decode code 922 = .ok (.aload_n 0, 1) := by decide +kernel
theorem d_L_law_923 : decode code 923 = .ok (.iload_n 3, 1) := by decide +kernel
theorem d_L_law_924 : decode code 924 = .ok (.iconst 1, 1) := by decide +kernel
theorem d_L_law_925 : decode code 925 = .ok (.iadd, 1) := by decide +kernel
theorem d_L_law_926 : decode code 926 = .ok (.iaload, 1) := by decide +kernel
theorem d_L_law_927 : decode code 927 = .ok (.invokevirtual 128, 3) := by decide +kernel
theorem d_L_law_930 : decode code 930 = .ok (.aload_n 2, 1) := by decide +kernel
theorem d_L_law_931 : decode code 931 = .ok (.aload_n 0, 1) := by decide +kernel
theorem d_L_law_932 : decode code 932 = .ok (.iload_n 3, 1) := by decide +kernel
theorem d_L_law_933 : decode code 933 = .ok (.iconst 1, 1) := by decide +kernel
theorem d_L_law_934 : decode code 934 = .ok (.iadd, 1) := by decide +kernel
theorem d_L_law_935 : decode code 935 = .ok (.iaload, 1) := by decide +kernel
theorem d_L_law_936 : decode code 936 = .ok (.invokevirtual 131, 3) := by decide +kernel
theorem d_L_law_939 : decode code 939 = .ok (.if_icmp .eq 5, 3) := by decide +kernel
theorem d_L_law_942 : decode code 942 = .ok (.iconst 0, 1) := by decide +kernel
theorem d_L_law_943 : decode code 943 = .ok (.ireturn, 1) := by decide +kernel
set_option maxHeartbeats 2000000 in
theorem law_unlikeMirror {X : Ev} {k n : Nat} (C : Cx code "DeadRunsLaw" 4 X) {cI cO cZ : ClassId} (hT : TY (Xtys X) cI cO cZ) {b o q0 L : Nat} {xi : Int → Int} (hX : XScr X b L xi) (hxr : xrg xi) (hR : (8 ≤ (XR X).frames ∧ 280 ≤ (XR X).locals) ∧ k ≤ (XR X).cells ∧ n ≤ (XR X).slots) {A : AS} {w1 w2 : va_W} (hA : CW cI cO cZ o A w1) (hM : MW cI q0 A w2) {i : Int} (hi : 0 ≤ i ∧ i + 4 ≤ L ∧ L ≤ 2048) {H : Heap} {locs : List Loc} {ls : Array Slot} (w : Wd X (w1 ++ w2) H locs) (hl : lv_has ls 4 [(3, .int (iI i)), (2, .ref q0), (1, .ref o), (0, .ref b)])
    (kk : ∀ (A' : AS) (w1' w2' : va_W) (H : Heap) (locs : List Loc), CW cI cO cZ o A' w1' → MW cI q0 A' w2' → Wd X (w1' ++ w2') H locs → GG X k n H locs 944 ls []) : GG X k n H locs 780 ls [] := by
  obtain ⟨f1, hr1⟩ := hA.recv
  obtain ⟨f2, hr2⟩ := hM.recv
  refine r_aload_n (pc := 780) C d_L_law_780 rfl (lv_at hl 2 rfl) ?_
  refine r_callVI (pc := 781) (As := []) (rest := []) (wr := w2) C w (c_D_unlikeMirror hT o A w1 hA) ml_L_97 im_D_unlikeMirror se_D_unlikeMirror ini_D cd_D_unlikeMirror hd_D_unlikeMirror rfl ⟨⟨Nat.le_trans (Nat.le_of_ble_eq_true rfl) hR.1.1, Nat.le_trans (Nat.le_of_ble_eq_true rfl) hR.1.2⟩, hR.2⟩ hl.1 _ _ (cut_app w1 w2) 0 rfl hr1 rfl (Nat.le_of_ble_eq_true rfl) d_L_law_781 (fun z u1 H locs hz w => ?_)
  obtain ⟨A', hA', hS⟩ := hz
  refine r_aload_n (pc := 784) C d_L_law_784 rfl (lv_at hl 1 rfl) ?_
  refine r_callVI (pc := 785) (As := []) (rest := [.int (iI z)]) (wr := u1) C w (c_M_unlikeMirror hT q0 A A' z w2 hM hS) ml_L_100 im_M_unlikeMirror se_M_unlikeMirror ini_M cd_M_unlikeMirror hd_M_unlikeMirror rfl ⟨⟨Nat.le_trans (Nat.le_of_ble_eq_true rfl) hR.1.1, Nat.le_trans (Nat.le_of_ble_eq_true rfl) hR.1.2⟩, hR.2⟩ hl.1 _ _ (cut_app w2 u1) 0 rfl hr2 rfl (Nat.le_of_ble_eq_true rfl) d_L_law_785 (fun z2 u2 H locs hz2 w => ?_)
  obtain ⟨e2, hM'⟩ := hz2
  subst e2
  refine r_icmp_same (pc := 788) (tgt := 944) C d_L_law_788 (by decide) ?_
  exact kk A' u1 u2 H locs hA' hM' w
set_option maxHeartbeats 2000000 in
theorem law_put {X : Ev} {k n : Nat} (C : Cx code "DeadRunsLaw" 4 X) {cI cO cZ : ClassId} (hT : TY (Xtys X) cI cO cZ) {b o q0 L : Nat} {xi : Int → Int} (hX : XScr X b L xi) (hxr : xrg xi) (hR : (8 ≤ (XR X).frames ∧ 280 ≤ (XR X).locals) ∧ k ≤ (XR X).cells ∧ n ≤ (XR X).slots) {A : AS} {w1 w2 : va_W} (hA : CW cI cO cZ o A w1) (hM : MW cI q0 A w2) {i : Int} (hi : 0 ≤ i ∧ i + 4 ≤ L ∧ L ≤ 2048) {H : Heap} {locs : List Loc} {ls : Array Slot} (w : Wd X (w1 ++ w2) H locs) (hl : lv_has ls 4 [(3, .int (iI i)), (2, .ref q0), (1, .ref o), (0, .ref b)])
    (kk : ∀ (A' : AS) (w1' w2' : va_W) (H : Heap) (locs : List Loc), CW cI cO cZ o A' w1' → MW cI q0 A' w2' → Wd X (w1' ++ w2') H locs → GG X k n H locs 944 ls []) : GG X k n H locs 793 ls [] := by
  obtain ⟨f1, hr1⟩ := hA.recv
  obtain ⟨f2, hr2⟩ := hM.recv
  obtain ⟨pk, hpk, epk⟩ := iL_of (((iI (xi (i + 1))).toInt64 <<< ((iI 32).toInt64 &&& 63)) ||| ((iI (xi (i + 2))).toInt64 &&& iL 4294967295))
  refine r_aload_n (pc := 793) C d_L_law_793 rfl (lv_at hl 2 rfl) ?_
  refine r_ld (pc := 794) C w hX hl (by omega) d_L_law_794 d_L_law_795 d_L_law_796 d_L_law_797 d_L_law_798 ?_
  refine r_i2lx (pc := 799) C d_L_law_799 ?_
  refine r_bipush (pc := 800) C d_L_law_800 (by decide) ?_
  refine r_lshlx (pc := 802) C d_L_law_802 ?_
  refine r_ld (pc := 803) C w hX hl (by omega) d_L_law_803 d_L_law_804 d_L_law_805 d_L_law_806 d_L_law_807 ?_
  refine r_i2lx (pc := 808) C d_L_law_808 ?_
  refine r_ldc2 (pc := 809) (z := 4294967295) C kc_L_101 (by decide +kernel) d_L_law_809 ?_
  refine r_landx (pc := 812) C d_L_law_812 ?_
  refine r_lor (pc := 813) (z := pk) C epk d_L_law_813 ?_
  refine r_callVI (pc := 814) (As := [.long (iL pk)]) (rest := []) (wr := w2) C w (c_D_put hT o A w1 hA pk hpk) ml_L_103 im_D_put se_D_put ini_D cd_D_put hd_D_put rfl ⟨⟨Nat.le_trans (Nat.le_of_ble_eq_true rfl) hR.1.1, Nat.le_trans (Nat.le_of_ble_eq_true rfl) hR.1.2⟩, hR.2⟩ hl.1 _ _ (cut_app w1 w2) 0 rfl hr1 rfl (Nat.le_of_ble_eq_true rfl) d_L_law_814 (fun z u1 H locs hz w => ?_)
  obtain ⟨A', hA', hS⟩ := hz
  refine r_aload_n (pc := 817) C d_L_law_817 rfl (lv_at hl 1 rfl) ?_
  refine r_ld (pc := 818) C w hX hl (by omega) d_L_law_818 d_L_law_819 d_L_law_820 d_L_law_821 d_L_law_822 ?_
  refine r_i2lx (pc := 823) C d_L_law_823 ?_
  refine r_bipush (pc := 824) C d_L_law_824 (by decide) ?_
  refine r_lshlx (pc := 826) C d_L_law_826 ?_
  refine r_ld (pc := 827) C w hX hl (by omega) d_L_law_827 d_L_law_828 d_L_law_829 d_L_law_830 d_L_law_831 ?_
  refine r_i2lx (pc := 832) C d_L_law_832 ?_
  refine r_ldc2 (pc := 833) (z := 4294967295) C kc_L_101 (by decide +kernel) d_L_law_833 ?_
  refine r_landx (pc := 836) C d_L_law_836 ?_
  refine r_lor (pc := 837) (z := pk) C epk d_L_law_837 ?_
  refine r_callVI (pc := 838) (As := [.long (iL pk)]) (rest := [.int (iI z)]) (wr := u1) C w (c_M_put hT q0 A A' z w2 hM pk hpk hS) ml_L_107 im_M_put se_M_put ini_M cd_M_put hd_M_put rfl ⟨⟨Nat.le_trans (Nat.le_of_ble_eq_true rfl) hR.1.1, Nat.le_trans (Nat.le_of_ble_eq_true rfl) hR.1.2⟩, hR.2⟩ hl.1 _ _ (cut_app w2 u1) 0 rfl hr2 rfl (Nat.le_of_ble_eq_true rfl) d_L_law_838 (fun z2 u2 H locs hz2 w => ?_)
  obtain ⟨e2, hM'⟩ := hz2
  subst e2
  refine r_icmp_same (pc := 841) (tgt := 944) C d_L_law_841 (by decide) ?_
  exact kk A' u1 u2 H locs hA' hM' w
set_option maxHeartbeats 2000000 in
theorem law_wipe {X : Ev} {k n : Nat} (C : Cx code "DeadRunsLaw" 4 X) {cI cO cZ : ClassId} (hT : TY (Xtys X) cI cO cZ) {b o q0 L : Nat} {xi : Int → Int} (hX : XScr X b L xi) (hxr : xrg xi) (hR : (8 ≤ (XR X).frames ∧ 280 ≤ (XR X).locals) ∧ k ≤ (XR X).cells ∧ n ≤ (XR X).slots) {A : AS} {w1 w2 : va_W} (hA : CW cI cO cZ o A w1) (hM : MW cI q0 A w2) {i : Int} (hi : 0 ≤ i ∧ i + 4 ≤ L ∧ L ≤ 2048) {H : Heap} {locs : List Loc} {ls : Array Slot} (w : Wd X (w1 ++ w2) H locs) (hl : lv_has ls 4 [(3, .int (iI i)), (2, .ref q0), (1, .ref o), (0, .ref b)])
    (kk : ∀ (A' : AS) (w1' w2' : va_W) (H : Heap) (locs : List Loc), CW cI cO cZ o A' w1' → MW cI q0 A' w2' → Wd X (w1' ++ w2') H locs → GG X k n H locs 944 ls []) : GG X k n H locs 846 ls [] := by
  obtain ⟨f1, hr1⟩ := hA.recv
  obtain ⟨f2, hr2⟩ := hM.recv
  refine r_aload_n (pc := 846) C d_L_law_846 rfl (lv_at hl 2 rfl) ?_
  refine r_callVI (pc := 847) (As := []) (rest := []) (wr := w2) C w (c_D_wipe hT o A w1 hA) ml_L_108 im_D_wipe se_D_wipe ini_D cd_D_wipe hd_D_wipe rfl ⟨⟨Nat.le_trans (Nat.le_of_ble_eq_true rfl) hR.1.1, Nat.le_trans (Nat.le_of_ble_eq_true rfl) hR.1.2⟩, hR.2⟩ hl.1 _ _ (cut_app w1 w2) 0 rfl hr1 rfl (Nat.le_of_ble_eq_true rfl) d_L_law_847 (fun z u1 H locs hz w => ?_)
  obtain ⟨A', hA', hS⟩ := hz
  refine r_aload_n (pc := 850) C d_L_law_850 rfl (lv_at hl 1 rfl) ?_
  refine r_callVI (pc := 851) (As := []) (rest := [.int (iI z)]) (wr := u1) C w (c_M_wipe hT q0 A A' z w2 hM hS) ml_L_111 im_M_wipe se_M_wipe ini_M cd_M_wipe hd_M_wipe rfl ⟨⟨Nat.le_trans (Nat.le_of_ble_eq_true rfl) hR.1.1, Nat.le_trans (Nat.le_of_ble_eq_true rfl) hR.1.2⟩, hR.2⟩ hl.1 _ _ (cut_app w2 u1) 0 rfl hr2 rfl (Nat.le_of_ble_eq_true rfl) d_L_law_851 (fun z2 u2 H locs hz2 w => ?_)
  obtain ⟨e2, hM'⟩ := hz2
  subst e2
  refine r_icmp_same (pc := 854) (tgt := 944) C d_L_law_854 (by decide) ?_
  exact kk A' u1 u2 H locs hA' hM' w
set_option maxHeartbeats 2000000 in
theorem law_fault {X : Ev} {k n : Nat} (C : Cx code "DeadRunsLaw" 4 X) {cI cO cZ : ClassId} (hT : TY (Xtys X) cI cO cZ) {b o q0 L : Nat} {xi : Int → Int} (hX : XScr X b L xi) (hxr : xrg xi) (hR : (8 ≤ (XR X).frames ∧ 280 ≤ (XR X).locals) ∧ k ≤ (XR X).cells ∧ n ≤ (XR X).slots) {A : AS} {w1 w2 : va_W} (hA : CW cI cO cZ o A w1) (hM : MW cI q0 A w2) {i : Int} (hi : 0 ≤ i ∧ i + 4 ≤ L ∧ L ≤ 2048) {H : Heap} {locs : List Loc} {ls : Array Slot} (w : Wd X (w1 ++ w2) H locs) (hl : lv_has ls 4 [(3, .int (iI i)), (2, .ref q0), (1, .ref o), (0, .ref b)])
    (kk : ∀ (A' : AS) (w1' w2' : va_W) (H : Heap) (locs : List Loc), CW cI cO cZ o A' w1' → MW cI q0 A' w2' → Wd X (w1' ++ w2') H locs → GG X k n H locs 944 ls []) : GG X k n H locs 859 ls [] := by
  obtain ⟨f1, hr1⟩ := hA.recv
  obtain ⟨f2, hr2⟩ := hM.recv
  refine r_aload_n (pc := 859) C d_L_law_859 rfl (lv_at hl 2 rfl) ?_
  refine r_callVI (pc := 860) (As := []) (rest := []) (wr := w2) C w (c_D_fault hT o A w1 hA) ml_L_112 im_D_fault se_D_fault ini_D cd_D_fault hd_D_fault rfl ⟨⟨Nat.le_trans (Nat.le_of_ble_eq_true rfl) hR.1.1, Nat.le_trans (Nat.le_of_ble_eq_true rfl) hR.1.2⟩, hR.2⟩ hl.1 _ _ (cut_app w1 w2) 0 rfl hr1 rfl (Nat.le_of_ble_eq_true rfl) d_L_law_860 (fun z u1 H locs hz w => ?_)
  obtain ⟨A', hA', hS⟩ := hz
  refine r_aload_n (pc := 863) C d_L_law_863 rfl (lv_at hl 1 rfl) ?_
  refine r_callVI (pc := 864) (As := []) (rest := [.int (iI z)]) (wr := u1) C w (c_M_fault hT q0 A A' z w2 hM hS) ml_L_115 im_M_fault se_M_fault ini_M cd_M_fault hd_M_fault rfl ⟨⟨Nat.le_trans (Nat.le_of_ble_eq_true rfl) hR.1.1, Nat.le_trans (Nat.le_of_ble_eq_true rfl) hR.1.2⟩, hR.2⟩ hl.1 _ _ (cut_app w2 u1) 0 rfl hr2 rfl (Nat.le_of_ble_eq_true rfl) d_L_law_864 (fun z2 u2 H locs hz2 w => ?_)
  obtain ⟨e2, hM'⟩ := hz2
  subst e2
  refine r_icmp_same (pc := 867) (tgt := 944) C d_L_law_867 (by decide) ?_
  exact kk A' u1 u2 H locs hA' hM' w
set_option maxHeartbeats 2000000 in
theorem law_load {X : Ev} {k n : Nat} (C : Cx code "DeadRunsLaw" 4 X) {cI cO cZ : ClassId} (hT : TY (Xtys X) cI cO cZ) {b o q0 L : Nat} {xi : Int → Int} (hX : XScr X b L xi) (hxr : xrg xi) (hR : (8 ≤ (XR X).frames ∧ 280 ≤ (XR X).locals) ∧ k ≤ (XR X).cells ∧ n ≤ (XR X).slots) {A : AS} {w1 w2 : va_W} (hA : CW cI cO cZ o A w1) (hM : MW cI q0 A w2) {i : Int} (hi : 0 ≤ i ∧ i + 4 ≤ L ∧ L ≤ 2048) {H : Heap} {locs : List Loc} {ls : Array Slot} (w : Wd X (w1 ++ w2) H locs) (hl : lv_has ls 4 [(3, .int (iI i)), (2, .ref q0), (1, .ref o), (0, .ref b)])
    (kk : ∀ (A' : AS) (w1' w2' : va_W) (H : Heap) (locs : List Loc), CW cI cO cZ o A' w1' → MW cI q0 A' w2' → Wd X (w1' ++ w2') H locs → GG X k n H locs 944 ls []) : GG X k n H locs 872 ls [] := by
  obtain ⟨f1, hr1⟩ := hA.recv
  obtain ⟨f2, hr2⟩ := hM.recv
  refine r_aload_n (pc := 872) C d_L_law_872 rfl (lv_at hl 2 rfl) ?_
  refine r_callVI (pc := 873) (As := []) (rest := []) (wr := w2) C w (c_D_load hT o A w1 hA) ml_L_116 im_D_load se_D_load ini_D cd_D_load hd_D_load rfl ⟨⟨Nat.le_trans (Nat.le_of_ble_eq_true rfl) hR.1.1, Nat.le_trans (Nat.le_of_ble_eq_true rfl) hR.1.2⟩, hR.2⟩ hl.1 _ _ (cut_app w1 w2) 0 rfl hr1 rfl (Nat.le_of_ble_eq_true rfl) d_L_law_873 (fun z u1 H locs hz w => ?_)
  obtain ⟨A', hA', hS⟩ := hz
  refine r_aload_n (pc := 876) C d_L_law_876 rfl (lv_at hl 1 rfl) ?_
  refine r_callVI (pc := 877) (As := []) (rest := [.int (iI z)]) (wr := u1) C w (c_M_load hT q0 A A' z w2 hM hS) ml_L_119 im_M_load se_M_load ini_M cd_M_load hd_M_load rfl ⟨⟨Nat.le_trans (Nat.le_of_ble_eq_true rfl) hR.1.1, Nat.le_trans (Nat.le_of_ble_eq_true rfl) hR.1.2⟩, hR.2⟩ hl.1 _ _ (cut_app w2 u1) 0 rfl hr2 rfl (Nat.le_of_ble_eq_true rfl) d_L_law_877 (fun z2 u2 H locs hz2 w => ?_)
  obtain ⟨e2, hM'⟩ := hz2
  subst e2
  refine r_icmp_same (pc := 880) (tgt := 944) C d_L_law_880 (by decide) ?_
  exact kk A' u1 u2 H locs hA' hM' w
set_option maxHeartbeats 2000000 in
theorem law_undo {X : Ev} {k n : Nat} (C : Cx code "DeadRunsLaw" 4 X) {cI cO cZ : ClassId} (hT : TY (Xtys X) cI cO cZ) {b o q0 L : Nat} {xi : Int → Int} (hX : XScr X b L xi) (hxr : xrg xi) (hR : (8 ≤ (XR X).frames ∧ 280 ≤ (XR X).locals) ∧ k ≤ (XR X).cells ∧ n ≤ (XR X).slots) {A : AS} {w1 w2 : va_W} (hA : CW cI cO cZ o A w1) (hM : MW cI q0 A w2) {i : Int} (hi : 0 ≤ i ∧ i + 4 ≤ L ∧ L ≤ 2048) {H : Heap} {locs : List Loc} {ls : Array Slot} (w : Wd X (w1 ++ w2) H locs) (hl : lv_has ls 4 [(3, .int (iI i)), (2, .ref q0), (1, .ref o), (0, .ref b)])
    (kk : ∀ (A' : AS) (w1' w2' : va_W) (H : Heap) (locs : List Loc), CW cI cO cZ o A' w1' → MW cI q0 A' w2' → Wd X (w1' ++ w2') H locs → GG X k n H locs 944 ls []) : GG X k n H locs 885 ls [] := by
  obtain ⟨f1, hr1⟩ := hA.recv
  obtain ⟨f2, hr2⟩ := hM.recv
  refine r_aload_n (pc := 885) C d_L_law_885 rfl (lv_at hl 2 rfl) ?_
  refine r_callVI (pc := 886) (As := []) (rest := []) (wr := w2) C w (c_D_undo hT o A w1 hA) ml_L_120 im_D_undo se_D_undo ini_D cd_D_undo hd_D_undo rfl ⟨⟨Nat.le_trans (Nat.le_of_ble_eq_true rfl) hR.1.1, Nat.le_trans (Nat.le_of_ble_eq_true rfl) hR.1.2⟩, hR.2⟩ hl.1 _ _ (cut_app w1 w2) 0 rfl hr1 rfl (Nat.le_of_ble_eq_true rfl) d_L_law_886 (fun z u1 H locs hz w => ?_)
  obtain ⟨A', hA', hS⟩ := hz
  refine r_aload_n (pc := 889) C d_L_law_889 rfl (lv_at hl 1 rfl) ?_
  refine r_callVI (pc := 890) (As := []) (rest := [.int (iI z)]) (wr := u1) C w (c_M_undo hT q0 A A' z w2 hM hS) ml_L_123 im_M_undo se_M_undo ini_M cd_M_undo hd_M_undo rfl ⟨⟨Nat.le_trans (Nat.le_of_ble_eq_true rfl) hR.1.1, Nat.le_trans (Nat.le_of_ble_eq_true rfl) hR.1.2⟩, hR.2⟩ hl.1 _ _ (cut_app w2 u1) 0 rfl hr2 rfl (Nat.le_of_ble_eq_true rfl) d_L_law_890 (fun z2 u2 H locs hz2 w => ?_)
  obtain ⟨e2, hM'⟩ := hz2
  subst e2
  refine r_icmp_same (pc := 893) (tgt := 944) C d_L_law_893 (by decide) ?_
  exact kk A' u1 u2 H locs hA' hM' w
set_option maxHeartbeats 2000000 in
theorem law_save {X : Ev} {k n : Nat} (C : Cx code "DeadRunsLaw" 4 X) {cI cO cZ : ClassId} (hT : TY (Xtys X) cI cO cZ) {b o q0 L : Nat} {xi : Int → Int} (hX : XScr X b L xi) (hxr : xrg xi) (hR : (8 ≤ (XR X).frames ∧ 280 ≤ (XR X).locals) ∧ k ≤ (XR X).cells ∧ n ≤ (XR X).slots) {A : AS} {w1 w2 : va_W} (hA : CW cI cO cZ o A w1) (hM : MW cI q0 A w2) {i : Int} (hi : 0 ≤ i ∧ i + 4 ≤ L ∧ L ≤ 2048) {H : Heap} {locs : List Loc} {ls : Array Slot} (w : Wd X (w1 ++ w2) H locs) (hl : lv_has ls 4 [(3, .int (iI i)), (2, .ref q0), (1, .ref o), (0, .ref b)])
    (kk : ∀ (A' : AS) (w1' w2' : va_W) (H : Heap) (locs : List Loc), CW cI cO cZ o A' w1' → MW cI q0 A' w2' → Wd X (w1' ++ w2') H locs → GG X k n H locs 944 ls []) : GG X k n H locs 898 ls [] := by
  obtain ⟨f1, hr1⟩ := hA.recv
  obtain ⟨f2, hr2⟩ := hM.recv
  refine r_aload_n (pc := 898) C d_L_law_898 rfl (lv_at hl 2 rfl) ?_
  refine r_ld (pc := 899) C w hX hl (by omega) d_L_law_899 d_L_law_900 d_L_law_901 d_L_law_902 d_L_law_903 ?_
  refine r_callVI (pc := 904) (As := [.int (iI (xi (i + 1)))]) (rest := []) (wr := w2) C w (c_D_save hT o A w1 hA (xi (i + 1)) (hxr _)) ml_L_124 im_D_save se_D_save ini_D cd_D_save hd_D_save rfl ⟨⟨Nat.le_trans (Nat.le_of_ble_eq_true rfl) hR.1.1, Nat.le_trans (Nat.le_of_ble_eq_true rfl) hR.1.2⟩, hR.2⟩ hl.1 _ _ (cut_app w1 w2) 0 rfl hr1 rfl (Nat.le_of_ble_eq_true rfl) d_L_law_904 (fun z u1 H locs hz w => ?_)
  obtain ⟨A', hA', hS⟩ := hz
  refine r_aload_n (pc := 907) C d_L_law_907 rfl (lv_at hl 1 rfl) ?_
  refine r_ld (pc := 908) C w hX hl (by omega) d_L_law_908 d_L_law_909 d_L_law_910 d_L_law_911 d_L_law_912 ?_
  refine r_callVI (pc := 913) (As := [.int (iI (xi (i + 1)))]) (rest := [.int (iI z)]) (wr := u1) C w (c_M_save hT q0 A A' z w2 hM (xi (i + 1)) (hxr _) hS) ml_L_127 im_M_save se_M_save ini_M cd_M_save hd_M_save rfl ⟨⟨Nat.le_trans (Nat.le_of_ble_eq_true rfl) hR.1.1, Nat.le_trans (Nat.le_of_ble_eq_true rfl) hR.1.2⟩, hR.2⟩ hl.1 _ _ (cut_app w2 u1) 0 rfl hr2 rfl (Nat.le_of_ble_eq_true rfl) d_L_law_913 (fun z2 u2 H locs hz2 w => ?_)
  obtain ⟨e2, hM'⟩ := hz2
  subst e2
  refine r_icmp_same (pc := 916) (tgt := 944) C d_L_law_916 (by decide) ?_
  exact kk A' u1 u2 H locs hA' hM' w
set_option maxHeartbeats 2000000 in
theorem law_restore {X : Ev} {k n : Nat} (C : Cx code "DeadRunsLaw" 4 X) {cI cO cZ : ClassId} (hT : TY (Xtys X) cI cO cZ) {b o q0 L : Nat} {xi : Int → Int} (hX : XScr X b L xi) (hxr : xrg xi) (hR : (8 ≤ (XR X).frames ∧ 280 ≤ (XR X).locals) ∧ k ≤ (XR X).cells ∧ n ≤ (XR X).slots) {A : AS} {w1 w2 : va_W} (hA : CW cI cO cZ o A w1) (hM : MW cI q0 A w2) {i : Int} (hi : 0 ≤ i ∧ i + 4 ≤ L ∧ L ≤ 2048) {H : Heap} {locs : List Loc} {ls : Array Slot} (w : Wd X (w1 ++ w2) H locs) (hl : lv_has ls 4 [(3, .int (iI i)), (2, .ref q0), (1, .ref o), (0, .ref b)])
    (kk : ∀ (A' : AS) (w1' w2' : va_W) (H : Heap) (locs : List Loc), CW cI cO cZ o A' w1' → MW cI q0 A' w2' → Wd X (w1' ++ w2') H locs → GG X k n H locs 944 ls []) : GG X k n H locs 921 ls [] := by
  obtain ⟨f1, hr1⟩ := hA.recv
  obtain ⟨f2, hr2⟩ := hM.recv
  refine r_aload_n (pc := 921) C d_L_law_921 rfl (lv_at hl 2 rfl) ?_
  refine r_ld (pc := 922) C w hX hl (by omega) d_L_law_922 d_L_law_923 d_L_law_924 d_L_law_925 d_L_law_926 ?_
  refine r_callVI (pc := 927) (As := [.int (iI (xi (i + 1)))]) (rest := []) (wr := w2) C w (c_D_restore hT o A w1 hA (xi (i + 1)) (hxr _)) ml_L_128 im_D_restore se_D_restore ini_D cd_D_restore hd_D_restore rfl ⟨⟨Nat.le_trans (Nat.le_of_ble_eq_true rfl) hR.1.1, Nat.le_trans (Nat.le_of_ble_eq_true rfl) hR.1.2⟩, hR.2⟩ hl.1 _ _ (cut_app w1 w2) 0 rfl hr1 rfl (Nat.le_of_ble_eq_true rfl) d_L_law_927 (fun z u1 H locs hz w => ?_)
  obtain ⟨A', hA', hS⟩ := hz
  refine r_aload_n (pc := 930) C d_L_law_930 rfl (lv_at hl 1 rfl) ?_
  refine r_ld (pc := 931) C w hX hl (by omega) d_L_law_931 d_L_law_932 d_L_law_933 d_L_law_934 d_L_law_935 ?_
  refine r_callVI (pc := 936) (As := [.int (iI (xi (i + 1)))]) (rest := [.int (iI z)]) (wr := u1) C w (c_M_restore hT q0 A A' z w2 hM (xi (i + 1)) (hxr _) hS) ml_L_131 im_M_restore se_M_restore ini_M cd_M_restore hd_M_restore rfl ⟨⟨Nat.le_trans (Nat.le_of_ble_eq_true rfl) hR.1.1, Nat.le_trans (Nat.le_of_ble_eq_true rfl) hR.1.2⟩, hR.2⟩ hl.1 _ _ (cut_app w2 u1) 0 rfl hr2 rfl (Nat.le_of_ble_eq_true rfl) d_L_law_936 (fun z2 u2 H locs hz2 w => ?_)
  obtain ⟨e2, hM'⟩ := hz2
  subst e2
  refine r_icmp_same (pc := 939) (tgt := 944) C d_L_law_939 (by decide) ?_
  exact kk A' u1 u2 H locs hA' hM' w
