theorem d_L_law_0 : decode code 0 = .ok (.new 7, 3) := by decide +kernel
theorem d_L_law_3 : decode code 3 = .ok (.dup, 1) := by decide +kernel
theorem d_L_law_4 : decode code 4 = .ok (.invokespecial 9, 3) := by decide +kernel
theorem d_L_law_7 : decode code 7 = .ok (.astore_n 1, 1) := by decide +kernel
theorem d_L_law_8 : decode code 8 = .ok (.new 10, 3) := by decide +kernel
theorem d_L_law_11 : decode code 11 = .ok (.dup, 1) := by decide +kernel
theorem d_L_law_12 : decode code 12 = .ok (.invokespecial 12, 3) := by decide +kernel
theorem d_L_law_15 : decode code 15 = .ok (.astore_n 2, 1) := by decide +kernel
theorem d_L_law_16 : decode code 16 = .ok (.iconst 0, 1) := by decide +kernel
theorem d_L_law_17 : decode code 17 = .ok (.istore_n 3, 1) := by decide +kernel
theorem d_L_law_18 : decode code 18 = .ok (.iload_n 3, 1) := by decide +kernel
theorem d_L_law_19 : decode code 19 = .ok (.aload_n 0, 1) := by decide +kernel
theorem d_L_law_20 : decode code 20 = .ok (.arraylength, 1) := by decide +kernel
theorem d_L_law_21 : decode code 21 = .ok (.iconst 4, 1) := by decide +kernel
theorem d_L_law_22 : decode code 22 = .ok (.isub, 1) := by decide +kernel
theorem d_L_law_23 : decode code 23 = .ok (.if_icmp .gt 927, 3) := by decide +kernel
theorem d_L_law_26 : decode code 26 = .ok (.aload_n 0, 1) := by decide +kernel
theorem d_L_law_27 : decode code 27 = .ok (.iload_n 3, 1) := by decide +kernel
theorem d_L_law_28 : decode code 28 = .ok (.iaload, 1) := by decide +kernel
theorem d_L_law_29 : decode code 29 = .ok (.bipush 31, 2) := by decide +kernel
theorem d_L_law_31 : decode code 31 = .ok (.iand, 1) := by decide +kernel
theorem d_L_law_32 : decode code 32 = .ok (.tableswitch 912 0 27 #[128, 161, 204, 237, 280, 323, 356, 389, 422, 465, 488, 521, 544, 587, 610, 633, 656, 669, 692, 725, 748, 761, 814, 827, 840, 853, 866, 889], 128) := by decide +kernel
theorem d_L_law_944 : decode code 944 = .ok (.iinc 3 4, 3) := by decide +kernel
theorem d_L_law_947 : decode code 947 = .ok (.goto (-929), 3) := by decide +kernel
theorem d_L_law_950 : decode code 950 = .ok (.iconst 1, 1) := by decide +kernel
theorem d_L_law_951 : decode code 951 = .ok (.ireturn, 1) := by decide +kernel
set_option maxHeartbeats 4000000 in
/-- what the switch does: one of the calls, or none -/
theorem law_switch {X : Ev} {k n : Nat} (C : Cx code "DeadRunsLaw" 4 X) {cI cO cZ : ClassId} (hT : TY (Xtys X) cI cO cZ) {b o q0 L : Nat} {xi : Int → Int} (hX : XScr X b L xi) (hxr : xrg xi) (hR : (8 ≤ (XR X).frames ∧ 280 ≤ (XR X).locals) ∧ k ≤ (XR X).cells ∧ n ≤ (XR X).slots) {A : AS} {w1 w2 : va_W} (hA : CW cI cO cZ o A w1) (hM : MW cI q0 A w2) {i : Int} (hi : 0 ≤ i ∧ i + 4 ≤ L ∧ L ≤ 2048) {H : Heap} {locs : List Loc} {ls : Array Slot} (w : Wd X (w1 ++ w2) H locs) (hl : lv_has ls 4 [(3, .int (iI i)), (2, .ref q0), (1, .ref o), (0, .ref b)]) {a : Int} (g0 : 0 ≤ a) (g31 : a ≤ 31)
    (kk : ∀ (A' : AS) (w1' w2' : va_W) (H : Heap) (locs : List Loc), CW cI cO cZ o A' w1' → MW cI q0 A' w2' → Wd X (w1' ++ w2') H locs → GG X k n H locs 944 ls []) : GG X k n H locs 32 ls [.int (iI a)] := by
  by_cases e0 : a = 0
  · subst e0
    refine r_switchIn (pc := 32) (tgt := 160) C (by decide) (by decide) (off := 128) rfl (by decide) d_L_law_32 ?_
    exact law_set C hT hX hxr hR hA hM hi w hl kk
  have g1 : 1 ≤ a := by omega
  clear e0 g0
  by_cases e1 : a = 1
  · subst e1
    refine r_switchIn (pc := 32) (tgt := 193) C (by decide) (by decide) (off := 161) rfl (by decide) d_L_law_32 ?_
    exact law_insert C hT hX hxr hR hA hM hi w hl kk
  have g2 : 2 ≤ a := by omega
  clear e1 g1
  by_cases e2 : a = 2
  · subst e2
    refine r_switchIn (pc := 32) (tgt := 236) C (by decide) (by decide) (off := 204) rfl (by decide) d_L_law_32 ?_
    exact law_erase C hT hX hxr hR hA hM hi w hl kk
  have g3 : 3 ≤ a := by omega
  clear e2 g2
  by_cases e3 : a = 3
  · subst e3
    refine r_switchIn (pc := 32) (tgt := 269) C (by decide) (by decide) (off := 237) rfl (by decide) d_L_law_32 ?_
    exact law_write C hT hX hxr hR hA hM hi w hl kk
  have g4 : 4 ≤ a := by omega
  clear e3 g3
  by_cases e4 : a = 4
  · subst e4
    refine r_switchIn (pc := 32) (tgt := 312) C (by decide) (by decide) (off := 280) rfl (by decide) d_L_law_32 ?_
    exact law_add C hT hX hxr hR hA hM hi w hl kk
  have g5 : 5 ≤ a := by omega
  clear e4 g4
  by_cases e5 : a = 5
  · subst e5
    refine r_switchIn (pc := 32) (tgt := 355) C (by decide) (by decide) (off := 323) rfl (by decide) d_L_law_32 ?_
    exact law_kill C hT hX hxr hR hA hM hi w hl kk
  have g6 : 6 ≤ a := by omega
  clear e5 g5
  by_cases e6 : a = 6
  · subst e6
    refine r_switchIn (pc := 32) (tgt := 388) C (by decide) (by decide) (off := 356) rfl (by decide) d_L_law_32 ?_
    exact law_revive C hT hX hxr hR hA hM hi w hl kk
  have g7 : 7 ≤ a := by omega
  clear e6 g6
  by_cases e7 : a = 7
  · subst e7
    refine r_switchIn (pc := 32) (tgt := 421) C (by decide) (by decide) (off := 389) rfl (by decide) d_L_law_32 ?_
    exact law_turn C hT hX hxr hR hA hM hi w hl kk
  have g8 : 8 ≤ a := by omega
  clear e7 g7
  by_cases e8 : a = 8
  · subst e8
    refine r_switchIn (pc := 32) (tgt := 454) C (by decide) (by decide) (off := 422) rfl (by decide) d_L_law_32 ?_
    exact law_move C hT hX hxr hR hA hM hi w hl kk
  have g9 : 9 ≤ a := by omega
  clear e8 g8
  by_cases e9 : a = 9
  · subst e9
    refine r_switchIn (pc := 32) (tgt := 497) C (by decide) (by decide) (off := 465) rfl (by decide) d_L_law_32 ?_
    exact law_sign C hT hX hxr hR hA hM hi w hl kk
  have g10 : 10 ≤ a := by omega
  clear e9 g9
  by_cases e10 : a = 10
  · subst e10
    refine r_switchIn (pc := 32) (tgt := 520) C (by decide) (by decide) (off := 488) rfl (by decide) d_L_law_32 ?_
    exact law_ofRun C hT hX hxr hR hA hM hi w hl kk
  have g11 : 11 ≤ a := by omega
  clear e10 g10
  by_cases e11 : a = 11
  · subst e11
    refine r_switchIn (pc := 32) (tgt := 553) C (by decide) (by decide) (off := 521) rfl (by decide) d_L_law_32 ?_
    exact law_count C hT hX hxr hR hA hM hi w hl kk
  have g12 : 12 ≤ a := by omega
  clear e11 g11
  by_cases e12 : a = 12
  · subst e12
    refine r_switchIn (pc := 32) (tgt := 576) C (by decide) (by decide) (off := 544) rfl (by decide) d_L_law_32 ?_
    exact law_howMany C hT hX hxr hR hA hM hi w hl kk
  have g13 : 13 ≤ a := by omega
  clear e12 g12
  by_cases e13 : a = 13
  · subst e13
    refine r_switchIn (pc := 32) (tgt := 619) C (by decide) (by decide) (off := 587) rfl (by decide) d_L_law_32 ?_
    exact law_bit C hT hX hxr hR hA hM hi w hl kk
  have g14 : 14 ≤ a := by omega
  clear e13 g13
  by_cases e14 : a = 14
  · subst e14
    refine r_switchIn (pc := 32) (tgt := 642) C (by decide) (by decide) (off := 610) rfl (by decide) d_L_law_32 ?_
    exact law_character C hT hX hxr hR hA hM hi w hl kk
  have g15 : 15 ≤ a := by omega
  clear e14 g14
  by_cases e15 : a = 15
  · subst e15
    refine r_switchIn (pc := 32) (tgt := 665) C (by decide) (by decide) (off := 633) rfl (by decide) d_L_law_32 ?_
    exact law_size C hT hX hxr hR hA hM hi w hl kk
  have g16 : 16 ≤ a := by omega
  clear e15 g15
  by_cases e16 : a = 16
  · subst e16
    refine r_switchIn (pc := 32) (tgt := 688) C (by decide) (by decide) (off := 656) rfl (by decide) d_L_law_32 ?_
    exact law_bestCode C hT hX hxr hR hA hM hi w hl kk
  have g17 : 17 ≤ a := by omega
  clear e16 g16
  by_cases e17 : a = 17
  · subst e17
    refine r_switchIn (pc := 32) (tgt := 701) C (by decide) (by decide) (off := 669) rfl (by decide) d_L_law_32 ?_
    exact law_longestLive C hT hX hxr hR hA hM hi w hl kk
  have g18 : 18 ≤ a := by omega
  clear e17 g17
  by_cases e18 : a = 18
  · subst e18
    refine r_switchIn (pc := 32) (tgt := 724) C (by decide) (by decide) (off := 692) rfl (by decide) d_L_law_32 ?_
    exact law_find C hT hX hxr hR hA hM hi w hl kk
  have g19 : 19 ≤ a := by omega
  clear e18 g18
  by_cases e19 : a = 19
  · subst e19
    refine r_switchIn (pc := 32) (tgt := 757) C (by decide) (by decide) (off := 725) rfl (by decide) d_L_law_32 ?_
    exact law_bestWrite C hT hX hxr hR hA hM hi w hl kk
  have g20 : 20 ≤ a := by omega
  clear e19 g19
  by_cases e20 : a = 20
  · subst e20
    refine r_switchIn (pc := 32) (tgt := 780) C (by decide) (by decide) (off := 748) rfl (by decide) d_L_law_32 ?_
    exact law_unlikeMirror C hT hX hxr hR hA hM hi w hl kk
  have g21 : 21 ≤ a := by omega
  clear e20 g20
  by_cases e21 : a = 21
  · subst e21
    refine r_switchIn (pc := 32) (tgt := 793) C (by decide) (by decide) (off := 761) rfl (by decide) d_L_law_32 ?_
    exact law_put C hT hX hxr hR hA hM hi w hl kk
  have g22 : 22 ≤ a := by omega
  clear e21 g21
  by_cases e22 : a = 22
  · subst e22
    refine r_switchIn (pc := 32) (tgt := 846) C (by decide) (by decide) (off := 814) rfl (by decide) d_L_law_32 ?_
    exact law_wipe C hT hX hxr hR hA hM hi w hl kk
  have g23 : 23 ≤ a := by omega
  clear e22 g22
  by_cases e23 : a = 23
  · subst e23
    refine r_switchIn (pc := 32) (tgt := 859) C (by decide) (by decide) (off := 827) rfl (by decide) d_L_law_32 ?_
    exact law_fault C hT hX hxr hR hA hM hi w hl kk
  have g24 : 24 ≤ a := by omega
  clear e23 g23
  by_cases e24 : a = 24
  · subst e24
    refine r_switchIn (pc := 32) (tgt := 872) C (by decide) (by decide) (off := 840) rfl (by decide) d_L_law_32 ?_
    exact law_load C hT hX hxr hR hA hM hi w hl kk
  have g25 : 25 ≤ a := by omega
  clear e24 g24
  by_cases e25 : a = 25
  · subst e25
    refine r_switchIn (pc := 32) (tgt := 885) C (by decide) (by decide) (off := 853) rfl (by decide) d_L_law_32 ?_
    exact law_undo C hT hX hxr hR hA hM hi w hl kk
  have g26 : 26 ≤ a := by omega
  clear e25 g25
  by_cases e26 : a = 26
  · subst e26
    refine r_switchIn (pc := 32) (tgt := 898) C (by decide) (by decide) (off := 866) rfl (by decide) d_L_law_32 ?_
    exact law_save C hT hX hxr hR hA hM hi w hl kk
  have g27 : 27 ≤ a := by omega
  clear e26 g26
  by_cases e27 : a = 27
  · subst e27
    refine r_switchIn (pc := 32) (tgt := 921) C (by decide) (by decide) (off := 889) rfl (by decide) d_L_law_32 ?_
    exact law_restore C hT hX hxr hR hA hM hi w hl kk
  have g28 : 28 ≤ a := by omega
  clear e27 g27
  refine r_switchOut (pc := 32) (tgt := 944) C (by omega) (Or.inr (by omega)) (by decide) d_L_law_32 ?_
  exact kk A w1 w2 H locs hA hM w
set_option maxHeartbeats 4000000 in
theorem law_loop {X : Ev} {k n : Nat} (C : Cx code "DeadRunsLaw" 4 X) {cI cO cZ : ClassId} (hT : TY (Xtys X) cI cO cZ) {b o q0 L : Nat} {xi : Int → Int} (hX : XScr X b L xi) (hxr : xrg xi) (hR : (8 ≤ (XR X).frames ∧ 280 ≤ (XR X).locals) ∧ k ≤ (XR X).cells ∧ n ≤ (XR X).slots) (hL : L ≤ 2048) (hend : ∀ (ws : va_W) (H : Heap) (locs : List Loc) (ls : Array Slot), Wd X ws H locs → GG X k n H locs 950 ls []) : ∀ (fuel : Nat) (i : Int), 0 ≤ i → i ≤ 2052 → (L : Int) - i < (fuel : Int) → ∀ (A : AS) (w1 w2 : va_W) (H : Heap) (locs : List Loc) (ls : Array Slot), CW cI cO cZ o A w1 → MW cI q0 A w2 → Wd X (w1 ++ w2) H locs → lv_has ls 4 [(3, .int (iI i)), (2, .ref q0), (1, .ref o), (0, .ref b)] → GG X k n H locs 18 ls [] := by
  have hpre : ∀ (i : Int), 0 ≤ i → i ≤ 2052 → ∀ (ws : va_W) (H : Heap) (locs : List Loc) (ls : Array Slot), Wd X ws H locs → lv_has ls 4 [(3, .int (iI i)), (2, .ref q0), (1, .ref o), (0, .ref b)] → (i + 4 ≤ L → GG X k n H locs 26 ls []) → GG X k n H locs 18 ls [] := by
    intro i h0 hb ws H locs ls w hl kn
    refine r_iload_n (pc := 18) C d_L_law_18 rfl (lv_at hl 0 rfl) ?_
    refine r_aload_n (pc := 19) C d_L_law_19 rfl (lv_at hl 3 rfl) ?_
    refine r_slen (pc := 20) C w hX hL d_L_law_20 ?_
    refine r_iconst (pc := 21) C d_L_law_21 ?_
    refine r_isub (pc := 22) C d_L_law_22 ?_
    refine r_icmp_gt (pc := 23) (tgt := 950) C (by omega) d_L_law_23 (by decide) (fun c9 => ?_) (fun c9 => ?_)
    · exact hend ws H locs ls w
    · exact kn (by omega)
  intro fuel
  induction fuel with
  | zero =>
    intro i h0 hb hf A w1 w2 H locs ls hA hM w hl
    exact hpre i h0 hb _ H locs ls w hl (fun h => absurd h (by omega))
  | succ fuel ih =>
    intro i h0 hb hf A w1 w2 H locs ls hA hM w hl
    refine hpre i h0 hb _ H locs ls w hl (fun h => ?_)
    refine r_aload_n (pc := 26) C d_L_law_26 rfl (lv_at hl 3 rfl) ?_
    refine r_iload_n (pc := 27) C d_L_law_27 rfl (lv_at hl 0 rfl) ?_
    refine r_sld (pc := 28) C w hX (by omega) d_L_law_28 ?_
    refine r_bipush (pc := 29) C d_L_law_29 (by decide) ?_
    refine r_iand (pc := 31) C d_L_law_31 ?_
    obtain ⟨a, ha, ea⟩ := and31 (iI (xi i))
    refine r_top ea ?_
    refine law_switch C hT hX hxr hR hA hM ⟨h0, h, hL⟩ w hl ha.1 ha.2 (fun A' w1' w2' H locs hA' hM' w' => ?_)
    refine r_iinc (pc := 944) (a := i) (lv' := [(3, .int (iI (i + 4))), (2, .ref q0), (1, .ref o), (0, .ref b)]) C d_L_law_944 hl (j := 0) rfl (by decide) rfl (fun ls hl => ?_)
    refine r_goto (pc := 947) (tgt := 18) C d_L_law_947 (by decide) ?_
    exact ih (i + 4) (by omega) (by omega) (by omega) A' w1' w2' H locs ls hA' hM' w' hl
