/-! the law's small functions -/
theorem hd_L_cell : okD y_L_cell "DeadRunsLaw" 2 := by unfold okD; decide +kernel
theorem hd_L_up : okD y_L_up "DeadRunsLaw" 2 := by unfold okD; decide +kernel
theorem hd_L_mark : okD y_L_mark "DeadRunsLaw" 1 := by unfold okD; decide +kernel
theorem hd_L_fails : okD y_L_fails "DeadRunsLaw" 1 := by unfold okD; decide +kernel
theorem hd_L_bitsOf : okD y_L_bitsOf "DeadRunsLaw" 1 := by unfold okD; decide +kernel
theorem hd_L_bits : okD y_L_bits "DeadRunsLaw" 3 := by unfold okD; decide +kernel
theorem hd_L_runs : okD y_L_runs "DeadRunsLaw" 1 := by unfold okD; decide +kernel
theorem hd_L_number : okD y_L_number "DeadRunsLaw" 3 := by unfold okD; decide +kernel
theorem hd_L_zeros : okD y_L_zeros "DeadRunsLaw" 2 := by unfold okD; decide +kernel
theorem hd_L_stream : okD y_L_stream "DeadRunsLaw" 1 := by unfold okD; decide +kernel
theorem hd_L_text : okD y_L_text "DeadRunsLaw" 1 := by unfold okD; decide +kernel
theorem hd_L_looks : okD y_L_looks "DeadRunsLaw" 2 := by unfold okD; decide +kernel
theorem hd_L_saves : okD y_L_saves "DeadRunsLaw" 2 := by unfold okD; decide +kernel
theorem hd_L_sound : okD y_L_sound "DeadRunsLaw" 2 := by unfold okD; decide +kernel
theorem hd_L_act : okD y_L_act "DeadRunsLaw" 3 := by unfold okD; decide +kernel
theorem d_L_cell_0 : decode b_L_cell 0 = .ok (.iload_n 1, 1) := by decide +kernel
theorem d_L_cell_1 : decode b_L_cell 1 = .ok (.aload_n 0, 1) := by decide +kernel
theorem d_L_cell_2 : decode b_L_cell 2 = .ok (.arraylength, 1) := by decide +kernel
theorem d_L_cell_3 : decode b_L_cell 3 = .ok (.if_icmp .ge 9, 3) := by decide +kernel
theorem d_L_cell_6 : decode b_L_cell 6 = .ok (.aload_n 0, 1) := by decide +kernel
theorem d_L_cell_7 : decode b_L_cell 7 = .ok (.iload_n 1, 1) := by decide +kernel
theorem d_L_cell_8 : decode b_L_cell 8 = .ok (.iaload, 1) := by decide +kernel
theorem d_L_cell_9 : decode b_L_cell 9 = .ok (.goto 9, 3) := by decide +kernel
theorem d_L_cell_12 : decode b_L_cell 12 = .ok (.ldc 7, 2) := by decide +kernel
theorem d_L_cell_14 : decode b_L_cell 14 = .ok (.iload_n 1, 1) := by decide +kernel
theorem d_L_cell_15 : decode b_L_cell 15 = .ok (.iconst 3, 1) := by decide +kernel
theorem d_L_cell_16 : decode b_L_cell 16 = .ok (.iadd, 1) := by decide +kernel
theorem d_L_cell_17 : decode b_L_cell 17 = .ok (.imul, 1) := by decide +kernel
theorem d_L_cell_18 : decode b_L_cell 18 = .ok (.ireturn, 1) := by decide +kernel
theorem c_L_cell {l : Launch} {G : va_G} {tys : List (ClassId × FieldType)} (sb L : Nat) (hL : L ≤ 2048) (xi : Int → Int) (hxr : ∀ j, -2147483648 ≤ xi j ∧ xi j < 2147483648) (i : Int) (hi : 0 ≤ i ∧ i ≤ 100) : CTX l G tys y_L_cell b_L_cell 2 0 0 [.ref sb, .int (iI i)] sb L xi (fun z => -2147483648 ≤ z ∧ z < 2147483648) := by
  refine mkX (by decide) (Nat.le_of_ble_eq_true rfl) ?_
  rintro X rfl rfl rfl hRm C kret hX H ls w hl
  have hl : lv_has ls 2 [(0, .ref sb), (1, .int (iI i))] := hl
  generalize ([] : List Loc) = locs at w ⊢
  refine r_iload_n (pc := 0) C d_L_cell_0 rfl (lv_at hl 1 rfl) ?_
  refine r_aload_n (pc := 1) C d_L_cell_1 rfl (lv_at hl 0 rfl) ?_
  refine r_slen (pc := 2) C w hX hL d_L_cell_2 ?_
  refine r_icmp_ge (pc := 3) (tgt := 12) C (by omega) d_L_cell_3 (by decide) (fun c => ?_) (fun c => ?_)
  · refine r_ldc (pc := 12) (z := 763049417) C kc_L_7 (by decide) d_L_cell_12 ?_
    refine r_iload_n (pc := 14) C d_L_cell_14 rfl (lv_at hl 1 rfl) ?_
    refine r_iconst (pc := 15) C d_L_cell_15 ?_
    refine r_iadd (pc := 16) C d_L_cell_16 ?_
    refine r_imul (pc := 17) C d_L_cell_17 ?_
    refine r_top (iI_of _).symm ?_
    exact kret _ _ _ _ _ d_L_cell_18 w (iI_rg _)
  · refine r_aload_n (pc := 6) C d_L_cell_6 rfl (lv_at hl 0 rfl) ?_
    refine r_iload_n (pc := 7) C d_L_cell_7 rfl (lv_at hl 1 rfl) ?_
    refine r_sld (pc := 8) C w hX (by omega) d_L_cell_8 ?_
    refine r_goto (pc := 9) (tgt := 18) C d_L_cell_9 (by decide) ?_
    exact kret _ _ _ _ _ d_L_cell_18 w (hxr i)
theorem and_pos (x : Int32) : ∃ a : Int, (0 ≤ a ∧ a < 2147483648) ∧ x &&& iI 2147483647 = iI a := by
  have h4 : (x &&& iI 2147483647).toBitVec.toNat ≤ 2147483647 := by
    rw [Int32.toBitVec_and, BitVec.toNat_and]
    exact Nat.le_trans Nat.and_le_right (by decide +kernel)
  have h5 : (x &&& iI 2147483647).toInt = ((x &&& iI 2147483647).toBitVec.toNat : Int) := by
    show (x &&& iI 2147483647).toBitVec.toInt = _
    rw [BitVec.toInt_eq_toNat_of_lt (by omega)]
  exact ⟨(x &&& iI 2147483647).toInt, by omega, (iI_of _).symm⟩
theorem d_L_up_0 : decode b_L_up 0 = .ok (.iload_n 0, 1) := by decide +kernel
theorem d_L_up_1 : decode b_L_up 1 = .ok (.ldc 8, 2) := by decide +kernel
theorem d_L_up_3 : decode b_L_up 3 = .ok (.iand, 1) := by decide +kernel
theorem d_L_up_4 : decode b_L_up 4 = .ok (.iload_n 1, 1) := by decide +kernel
theorem d_L_up_5 : decode b_L_up 5 = .ok (.irem, 1) := by decide +kernel
theorem d_L_up_6 : decode b_L_up 6 = .ok (.ireturn, 1) := by decide +kernel
set_option maxHeartbeats 4000000 in
set_option maxRecDepth 20000 in
theorem c_L_up {l : Launch} {G : va_G} {tys : List (ClassId × FieldType)} (x most : Int) (h : 1 ≤ most ∧ most < 2147483648) : CTP l G tys y_L_up b_L_up 2 .int 0 0 [.int (iI x), .int (iI most)] (fun z => 0 ≤ z ∧ z < most) := by
  unfold CTP
  refine mkI (by decide) (Nat.le_of_ble_eq_true rfl) ?_
  rintro X rfl rfl rfl hRm C kret H ls w hl
  have hl : lv_has ls 2 [(0, .int (iI x)), (1, .int (iI most))] := hl
  have w : Wd X ([]) H [] := w
  generalize ([] : List Loc) = locs at w ⊢
  obtain ⟨a, ha, ea⟩ := and_pos (iI x)
  refine r_iload_n (pc := 0) C d_L_up_0 rfl (lv_at hl 0 rfl) ?_
  refine r_ldc (pc := 1) (z := 2147483647) C kc_L_8 (by decide) d_L_up_1 ?_
  refine r_iand (pc := 3) C d_L_up_3 ?_
  refine r_top (y := iI a) (ea) ?_
  refine r_iload_n (pc := 4) C d_L_up_4 rfl (lv_at hl 1 rfl) ?_
  refine r_irem (pc := 5) C d_L_up_5 (by omega) ?_
  exact kret _ _ _ _ (a % most) _ d_L_up_6 w (⟨rfl, Int.emod_nonneg _ (by omega), Int.emod_lt_of_pos _ (by omega)⟩)
theorem d_L_bitsOf_0 : decode b_L_bitsOf 0 = .ok (.iconst 0, 1) := by decide +kernel
theorem d_L_bitsOf_1 : decode b_L_bitsOf 1 = .ok (.istore_n 1, 1) := by decide +kernel
theorem d_L_bitsOf_2 : decode b_L_bitsOf 2 = .ok (.iload_n 0, 1) := by decide +kernel
theorem d_L_bitsOf_3 : decode b_L_bitsOf 3 = .ok (.iload_n 1, 1) := by decide +kernel
theorem d_L_bitsOf_4 : decode b_L_bitsOf 4 = .ok (.ishr, 1) := by decide +kernel
theorem d_L_bitsOf_5 : decode b_L_bitsOf 5 = .ok (.ifCond .le 9, 3) := by decide +kernel
theorem d_L_bitsOf_8 : decode b_L_bitsOf 8 = .ok (.iinc 1 1, 3) := by decide +kernel
theorem d_L_bitsOf_11 : decode b_L_bitsOf 11 = .ok (.goto (-9), 3) := by decide +kernel
theorem d_L_bitsOf_14 : decode b_L_bitsOf 14 = .ok (.iload_n 1, 1) := by decide +kernel
theorem d_L_bitsOf_15 : decode b_L_bitsOf 15 = .ok (.ireturn, 1) := by decide +kernel
set_option maxHeartbeats 4000000 in
set_option maxRecDepth 20000 in
theorem c_L_bitsOf {l : Launch} {G : va_G} {tys : List (ClassId × FieldType)} (n : Int) (h : 1 ≤ n ∧ n < 2147483648) : CTP l G tys y_L_bitsOf b_L_bitsOf 2 .int 0 0 [.int (iI n)] (fun z => z = bl n) := by
  unfold CTP
  refine mkI (by decide) (Nat.le_of_ble_eq_true rfl) ?_
  rintro X rfl rfl rfl hRm C kret H ls w hl
  have hl : lv_has ls 2 [(0, .int (iI n))] := hl
  have w : Wd X ([]) H [] := w
  generalize ([] : List Loc) = locs at w ⊢
  have hb := bl_rg h
  refine r_iconst (pc := 0) C d_L_bitsOf_0 ?_
  refine r_istore_n (pc := 1) (lv' := [(1, .int (iI 0)), (0, .int (iI n))]) C d_L_bitsOf_1 rfl hl (by decide) rfl (fun ls hl => ?_)
  have L2 : ∀ (fuel : Nat), ∀ (k : Int), 0 ≤ k ∧ k ≤ 31 → k + bl (n / 2 ^ k.toNat) = bl n → (31 - k) < (fuel : Int) → ∀ (H : Heap) (locs : List Loc) (ls : Array Slot), Wd X ([]) H locs → lv_has ls 2 [(0, .int (iI n)), (1, .int (iI k))] → GG X 0 0 H locs 2 ls [] := by
    intro fuel
    induction fuel with
    | zero =>
      intro k h0 hb1 hfuel
      exact absurd hfuel (by omega)
    | succ fuel ih2 =>
      intro k h0 hb1 hfuel H locs ls w hl
      have hrg : 0 ≤ n / 2 ^ k.toNat ∧ n / 2 ^ k.toNat ≤ n := ⟨Int.ediv_nonneg (by omega) (Int.le_of_lt (Int.pow_pos (by omega))), Int.ediv_le_self _ (by omega)⟩
      refine r_iload_n (pc := 2) C d_L_bitsOf_2 rfl (lv_at hl 0 rfl) ?_
      refine r_iload_n (pc := 3) C d_L_bitsOf_3 rfl (lv_at hl 1 rfl) ?_
      refine r_ishr (pc := 4) C d_L_bitsOf_4 ?_
      refine r_top (y := iI (n / 2 ^ k.toNat)) (shr_iI (by omega) (by omega)) ?_
      refine r_if_le (pc := 5) (tgt := 14) C (by omega) d_L_bitsOf_5 (by decide) (fun c_5 => ?_) (fun c_5 => ?_)
      · skip
        rw [bl_0 (by omega)] at hb1
        refine r_iload_n (pc := 14) C d_L_bitsOf_14 rfl (lv_at hl 1 rfl) ?_
        exact kret _ _ _ _ k _ d_L_bitsOf_15 w (⟨rfl, by omega⟩)
      · skip
        have hst := bl_step (n := n / 2 ^ k.toNat) (by omega)
        have hst2 : 0 ≤ bl (n / 2 ^ k.toNat / 2) := by { unfold bl; split <;> omega }
        refine r_iinc (pc := 8) (j := 1) (lv' := [(1, .int (iI (k + 1))), (0, .int (iI n))]) C d_L_bitsOf_8 hl rfl (by decide) rfl (fun ls hl => ?_)
        refine r_goto (pc := 11) (tgt := 2) C d_L_bitsOf_11 (by decide) ?_
        exact ih2 (k + 1) (by omega) ((by rw [div_pow_succ (by omega)]; omega)) (by omega) _ _ _ w (lv_sub hl [1, 0] rfl)
  exact L2 ((31 - 0) + 1 : Int).toNat 0 (by first | omega | rfl) ((by rw [show n / 2 ^ (0 : Int).toNat = n by simp]; omega)) (by omega) _ _ _ w (lv_sub hl [1, 0] rfl)
theorem d_L_bits_0 : decode b_L_bits 0 = .ok (.iload_n 1, 1) := by decide +kernel
theorem d_L_bits_1 : decode b_L_bits 1 = .ok (.invokestatic 92, 3) := by decide +kernel
theorem d_L_bits_4 : decode b_L_bits 4 = .ok (.istore_n 3, 1) := by decide +kernel
theorem d_L_bits_5 : decode b_L_bits 5 = .ok (.iload_n 2, 1) := by decide +kernel
theorem d_L_bits_6 : decode b_L_bits 6 = .ok (.ifCond .ne 8, 3) := by decide +kernel
theorem d_L_bits_9 : decode b_L_bits 9 = .ok (.bipush 12, 2) := by decide +kernel
theorem d_L_bits_11 : decode b_L_bits 11 = .ok (.goto 29, 3) := by decide +kernel
theorem d_L_bits_14 : decode b_L_bits 14 = .ok (.iload_n 2, 1) := by decide +kernel
theorem d_L_bits_15 : decode b_L_bits 15 = .ok (.iconst 1, 1) := by decide +kernel
theorem d_L_bits_16 : decode b_L_bits 16 = .ok (.if_icmp .ne 11, 3) := by decide +kernel
theorem d_L_bits_19 : decode b_L_bits 19 = .ok (.iload_n 3, 1) := by decide +kernel
theorem d_L_bits_20 : decode b_L_bits 20 = .ok (.iload_n 3, 1) := by decide +kernel
theorem d_L_bits_21 : decode b_L_bits 21 = .ok (.iadd, 1) := by decide +kernel
theorem d_L_bits_22 : decode b_L_bits 22 = .ok (.iconst 1, 1) := by decide +kernel
theorem d_L_bits_23 : decode b_L_bits 23 = .ok (.isub, 1) := by decide +kernel
theorem d_L_bits_24 : decode b_L_bits 24 = .ok (.goto 16, 3) := by decide +kernel
theorem d_L_bits_27 : decode b_L_bits 27 = .ok (.iload_n 3, 1) := by decide +kernel
theorem d_L_bits_28 : decode b_L_bits 28 = .ok (.invokestatic 92, 3) := by decide +kernel
theorem d_L_bits_31 : decode b_L_bits 31 = .ok (.iload_n 3, 1) := by decide +kernel
theorem d_L_bits_32 : decode b_L_bits 32 = .ok (.invokestatic 92, 3) := by decide +kernel
theorem d_L_bits_35 : decode b_L_bits 35 = .ok (.iadd, 1) := by decide +kernel
theorem d_L_bits_36 : decode b_L_bits 36 = .ok (.iload_n 3, 1) := by decide +kernel
theorem d_L_bits_37 : decode b_L_bits 37 = .ok (.iadd, 1) := by decide +kernel
theorem d_L_bits_38 : decode b_L_bits 38 = .ok (.iconst 2, 1) := by decide +kernel
theorem d_L_bits_39 : decode b_L_bits 39 = .ok (.isub, 1) := by decide +kernel
theorem d_L_bits_40 : decode b_L_bits 40 = .ok (.istore 4, 2) := by decide +kernel
theorem d_L_bits_42 : decode b_L_bits 42 = .ok (.iload 4, 2) := by decide +kernel
theorem d_L_bits_44 : decode b_L_bits 44 = .ok (.iload_n 0, 1) := by decide +kernel
theorem d_L_bits_45 : decode b_L_bits 45 = .ok (.bipush 10, 2) := by decide +kernel
theorem d_L_bits_47 : decode b_L_bits 47 = .ok (.if_icmp .ne 7, 3) := by decide +kernel
theorem d_L_bits_50 : decode b_L_bits 50 = .ok (.iconst 1, 1) := by decide +kernel
theorem d_L_bits_51 : decode b_L_bits 51 = .ok (.goto 4, 3) := by decide +kernel
theorem d_L_bits_54 : decode b_L_bits 54 = .ok (.iconst 5, 1) := by decide +kernel
theorem d_L_bits_55 : decode b_L_bits 55 = .ok (.iadd, 1) := by decide +kernel
theorem d_L_bits_56 : decode b_L_bits 56 = .ok (.ireturn, 1) := by decide +kernel
set_option maxHeartbeats 4000000 in
set_option maxRecDepth 20000 in
theorem c_L_bits {l : Launch} {G : va_G} {tys : List (ClassId × FieldType)} (s n code : Int) (h : 1 ≤ n ∧ n < 2147483648) (hc : 0 ≤ code ∧ code ≤ 2) (hs : 0 ≤ s ∧ s ≤ 10) : CTP l G tys y_L_bits b_L_bits 5 .int 1 21 [.int (iI s), .int (iI n), .int (iI code)] (fun z => z = rb code s n) := by
  unfold CTP
  refine mkI (by decide) (Nat.le_of_ble_eq_true rfl) ?_
  rintro X rfl rfl rfl hRm C kret H ls w hl
  have hl : lv_has ls 5 [(0, .int (iI s)), (1, .int (iI n)), (2, .int (iI code))] := hl
  have w : Wd X ([]) H [] := w
  generalize ([] : List Loc) = locs at w ⊢
  have hsb := sb_cases s
  have hlb := lb_cases code n
  refine r_iload_n (pc := 0) C d_L_bits_0 rfl (lv_at hl 1 rfl) ?_
  refine r_callP (pc := 1) (As := [.int (iI n)]) (rest := []) C w (c_L_bitsOf n (by omega)) ml_L_92 st_L_bitsOf ini_L cd_L_bitsOf hd_L_bitsOf rfl (by rw [hRm]; exact ⟨⟨Nat.le_of_ble_eq_true rfl, Nat.le_of_ble_eq_true rfl⟩, Nat.le_of_ble_eq_true rfl, Nat.le_of_ble_eq_true rfl⟩) hl.1 rfl (Nat.le_of_ble_eq_true rfl) d_L_bits_1 (fun z_1 H locs hz_1 w => ?_)
  subst hz_1
  have hbl_n := bl_rg (n := n) (by omega)
  refine r_istore_n (pc := 4) (lv' := [(3, .int (iI (bl n))), (0, .int (iI s)), (1, .int (iI n)), (2, .int (iI code))]) C d_L_bits_4 rfl hl (by decide) rfl (fun ls hl => ?_)
  refine r_iload_n (pc := 5) C d_L_bits_5 rfl (lv_at hl 3 rfl) ?_
  refine r_if_ne (pc := 6) (tgt := 14) C (by omega) d_L_bits_6 (by decide) (fun c_6 => ?_) (fun c_6 => ?_)
  · skip
    refine r_iload_n (pc := 14) C d_L_bits_14 rfl (lv_at hl 3 rfl) ?_
    refine r_iconst (pc := 15) C d_L_bits_15 ?_
    refine r_icmp_ne (pc := 16) (tgt := 27) C (by omega) d_L_bits_16 (by decide) (fun c_16 => ?_) (fun c_16 => ?_)
    · skip
      refine r_iload_n (pc := 27) C d_L_bits_27 rfl (lv_at hl 0 rfl) ?_
      refine r_callP (pc := 28) (As := [.int (iI (bl n))]) (rest := []) C w (c_L_bitsOf (bl n) (by omega)) ml_L_92 st_L_bitsOf ini_L cd_L_bitsOf hd_L_bitsOf rfl (by rw [hRm]; exact ⟨⟨Nat.le_of_ble_eq_true rfl, Nat.le_of_ble_eq_true rfl⟩, Nat.le_of_ble_eq_true rfl, Nat.le_of_ble_eq_true rfl⟩) hl.1 rfl (Nat.le_of_ble_eq_true rfl) d_L_bits_28 (fun z_28 H locs hz_28 w => ?_)
      subst hz_28
      have hbl_bln := bl_rg (n := (bl n)) (by omega)
      refine r_iload_n (pc := 31) C d_L_bits_31 rfl (lv_at hl 0 rfl) ?_
      refine r_callP (pc := 32) (As := [.int (iI (bl n))]) (rest := [.int (iI (bl (bl n)))]) C w (c_L_bitsOf (bl n) (by omega)) ml_L_92 st_L_bitsOf ini_L cd_L_bitsOf hd_L_bitsOf rfl (by rw [hRm]; exact ⟨⟨Nat.le_of_ble_eq_true rfl, Nat.le_of_ble_eq_true rfl⟩, Nat.le_of_ble_eq_true rfl, Nat.le_of_ble_eq_true rfl⟩) hl.1 rfl (Nat.le_of_ble_eq_true rfl) d_L_bits_32 (fun z_32 H locs hz_32 w => ?_)
      subst hz_32
      have hbl_bln := bl_rg (n := (bl n)) (by omega)
      refine r_iadd (pc := 35) C d_L_bits_35 ?_
      refine r_iload_n (pc := 36) C d_L_bits_36 rfl (lv_at hl 0 rfl) ?_
      refine r_iadd (pc := 37) C d_L_bits_37 ?_
      refine r_iconst (pc := 38) C d_L_bits_38 ?_
      refine r_isub (pc := 39) C d_L_bits_39 ?_
      refine r_istore (pc := 40) (lv' := [(4, .int (iI ((((bl (bl n)) + (bl (bl n))) + (bl n)) - 2))), (3, .int (iI (bl n))), (0, .int (iI s)), (1, .int (iI n)), (2, .int (iI code))]) C d_L_bits_40 hl (by decide) rfl (fun ls hl => ?_)
      refine r_iload (pc := 42) C d_L_bits_42 (lv_at hl 0 rfl) ?_
      refine r_iload_n (pc := 44) C d_L_bits_44 rfl (lv_at hl 2 rfl) ?_
      refine r_bipush (pc := 45) C d_L_bits_45 (by decide) ?_
      refine r_icmp_ne (pc := 47) (tgt := 54) C (by omega) d_L_bits_47 (by decide) (fun c_47 => ?_) (fun c_47 => ?_)
      · skip
        refine r_iconst (pc := 54) C d_L_bits_54 ?_
        refine r_iadd (pc := 55) C d_L_bits_55 ?_
        exact kret _ _ _ _ (((((bl (bl n)) + (bl (bl n))) + (bl n)) - 2) + 5) _ d_L_bits_56 w (⟨rfl, by unfold rb; omega⟩)
      · skip
        refine r_iconst (pc := 50) C d_L_bits_50 ?_
        refine r_goto (pc := 51) (tgt := 55) C d_L_bits_51 (by decide) ?_
        refine r_iadd (pc := 55) C d_L_bits_55 ?_
        exact kret _ _ _ _ (((((bl (bl n)) + (bl (bl n))) + (bl n)) - 2) + 1) _ d_L_bits_56 w (⟨rfl, by unfold rb; omega⟩)
    · skip
      refine r_iload_n (pc := 19) C d_L_bits_19 rfl (lv_at hl 0 rfl) ?_
      refine r_iload_n (pc := 20) C d_L_bits_20 rfl (lv_at hl 0 rfl) ?_
      refine r_iadd (pc := 21) C d_L_bits_21 ?_
      refine r_iconst (pc := 22) C d_L_bits_22 ?_
      refine r_isub (pc := 23) C d_L_bits_23 ?_
      refine r_goto (pc := 24) (tgt := 40) C d_L_bits_24 (by decide) ?_
      refine r_istore (pc := 40) (lv' := [(4, .int (iI (((bl n) + (bl n)) - 1))), (3, .int (iI (bl n))), (0, .int (iI s)), (1, .int (iI n)), (2, .int (iI code))]) C d_L_bits_40 hl (by decide) rfl (fun ls hl => ?_)
      refine r_iload (pc := 42) C d_L_bits_42 (lv_at hl 0 rfl) ?_
      refine r_iload_n (pc := 44) C d_L_bits_44 rfl (lv_at hl 2 rfl) ?_
      refine r_bipush (pc := 45) C d_L_bits_45 (by decide) ?_
      refine r_icmp_ne (pc := 47) (tgt := 54) C (by omega) d_L_bits_47 (by decide) (fun c_47 => ?_) (fun c_47 => ?_)
      · skip
        refine r_iconst (pc := 54) C d_L_bits_54 ?_
        refine r_iadd (pc := 55) C d_L_bits_55 ?_
        exact kret _ _ _ _ ((((bl n) + (bl n)) - 1) + 5) _ d_L_bits_56 w (⟨rfl, by unfold rb; omega⟩)
      · skip
        refine r_iconst (pc := 50) C d_L_bits_50 ?_
        refine r_goto (pc := 51) (tgt := 55) C d_L_bits_51 (by decide) ?_
        refine r_iadd (pc := 55) C d_L_bits_55 ?_
        exact kret _ _ _ _ ((((bl n) + (bl n)) - 1) + 1) _ d_L_bits_56 w (⟨rfl, by unfold rb; omega⟩)
  · skip
    refine r_bipush (pc := 9) C d_L_bits_9 (by decide) ?_
    refine r_goto (pc := 11) (tgt := 40) C d_L_bits_11 (by decide) ?_
    refine r_istore (pc := 40) (lv' := [(4, .int (iI 12)), (3, .int (iI (bl n))), (0, .int (iI s)), (1, .int (iI n)), (2, .int (iI code))]) C d_L_bits_40 hl (by decide) rfl (fun ls hl => ?_)
    refine r_iload (pc := 42) C d_L_bits_42 (lv_at hl 0 rfl) ?_
    refine r_iload_n (pc := 44) C d_L_bits_44 rfl (lv_at hl 2 rfl) ?_
    refine r_bipush (pc := 45) C d_L_bits_45 (by decide) ?_
    refine r_icmp_ne (pc := 47) (tgt := 54) C (by omega) d_L_bits_47 (by decide) (fun c_47 => ?_) (fun c_47 => ?_)
    · skip
      refine r_iconst (pc := 54) C d_L_bits_54 ?_
      refine r_iadd (pc := 55) C d_L_bits_55 ?_
      exact kret _ _ _ _ (12 + 5) _ d_L_bits_56 w (⟨rfl, by unfold rb; omega⟩)
    · skip
      refine r_iconst (pc := 50) C d_L_bits_50 ?_
      refine r_goto (pc := 51) (tgt := 55) C d_L_bits_51 (by decide) ?_
      refine r_iadd (pc := 55) C d_L_bits_55 ?_
      exact kret _ _ _ _ (12 + 1) _ d_L_bits_56 w (⟨rfl, by unfold rb; omega⟩)
theorem d_L_number_0 : decode b_L_number 0 = .ok (.iconst 0, 1) := by decide +kernel
theorem d_L_number_1 : decode b_L_number 1 = .ok (.istore_n 3, 1) := by decide +kernel
theorem d_L_number_2 : decode b_L_number 2 = .ok (.iconst 0, 1) := by decide +kernel
theorem d_L_number_3 : decode b_L_number 3 = .ok (.istore 4, 2) := by decide +kernel
theorem d_L_number_5 : decode b_L_number 5 = .ok (.iload 4, 2) := by decide +kernel
theorem d_L_number_7 : decode b_L_number 7 = .ok (.iload_n 2, 1) := by decide +kernel
theorem d_L_number_8 : decode b_L_number 8 = .ok (.if_icmp .ge 22, 3) := by decide +kernel
theorem d_L_number_11 : decode b_L_number 11 = .ok (.iconst 2, 1) := by decide +kernel
theorem d_L_number_12 : decode b_L_number 12 = .ok (.iload_n 3, 1) := by decide +kernel
theorem d_L_number_13 : decode b_L_number 13 = .ok (.imul, 1) := by decide +kernel
theorem d_L_number_14 : decode b_L_number 14 = .ok (.aload_n 0, 1) := by decide +kernel
theorem d_L_number_15 : decode b_L_number 15 = .ok (.iload_n 1, 1) := by decide +kernel
theorem d_L_number_16 : decode b_L_number 16 = .ok (.iload 4, 2) := by decide +kernel
theorem d_L_number_18 : decode b_L_number 18 = .ok (.iadd, 1) := by decide +kernel
theorem d_L_number_19 : decode b_L_number 19 = .ok (.invokevirtual 61, 3) := by decide +kernel
theorem d_L_number_22 : decode b_L_number 22 = .ok (.iadd, 1) := by decide +kernel
theorem d_L_number_23 : decode b_L_number 23 = .ok (.istore_n 3, 1) := by decide +kernel
theorem d_L_number_24 : decode b_L_number 24 = .ok (.iinc 4 1, 3) := by decide +kernel
theorem d_L_number_27 : decode b_L_number 27 = .ok (.goto (-22), 3) := by decide +kernel
theorem d_L_number_30 : decode b_L_number 30 = .ok (.iload_n 3, 1) := by decide +kernel
theorem d_L_number_31 : decode b_L_number 31 = .ok (.ireturn, 1) := by decide +kernel
set_option maxHeartbeats 4000000 in
set_option maxRecDepth 20000 in
theorem c_L_number {l : Launch} {G : va_G} {tys : List (ClassId × FieldType)} {cI cO cZ : ClassId} (hT : TY tys cI cO cZ) (o : Nat) (lc sd r : Int) (sg ln : Int → Int) (N : Int) (v : Int → Int) (hist : Int → Rw) (rcd : Int) (slot : Int → Rw) (uf T : Int → Int) (m : Int) (at_ many x : Int) (hat : 0 ≤ at_ ∧ at_ ≤ 100000) (hmn : 0 ≤ many ∧ many ≤ 31) (hx : 0 ≤ x ∧ x < 2 ^ many.toNat) (hb : ∀ j z, 0 ≤ j → j < many → BitAt lc r sg ln (at_ + j) z → z = x / 2 ^ (many - 1 - j).toNat % 2) : CTA l G tys cI cO cZ y_L_number b_L_number 5 .int 5 116 o [.ref o, .int (iI at_), .int (iI many)] ((lc, sd, r, sg, ln, N, v), hist, rcd, slot, uf, T, m) (fun z A' => A' = ((lc, sd, r, sg, ln, N, v), hist, rcd, slot, uf, T, m) ∧ z = x) := by
  refine mkAI (by decide) (Nat.le_of_ble_eq_true rfl) ?_
  rintro X rfl rfl rfl hRm C kret H ls w hl
  have hl : lv_has ls 5 [(0, .ref o), (1, .int (iI at_)), (2, .int (iI many))] := hl
  generalize ([] : List Loc) = locs at w ⊢
  have hK := w.ok
  have hR : RwOk lc sd r sg ln N v := hK.1
  obtain ⟨hO, hr50, hN3, hlc, hsd⟩ := hR
  refine r_iconst (pc := 0) C d_L_number_0 ?_
  refine r_istore_n (pc := 1) (lv' := [(3, .int (iI 0)), (0, .ref o), (1, .int (iI at_)), (2, .int (iI many))]) C d_L_number_1 rfl hl (by decide) rfl (fun ls hl => ?_)
  refine r_iconst (pc := 2) C d_L_number_2 ?_
  refine r_istore (pc := 3) (lv' := [(4, .int (iI 0)), (3, .int (iI 0)), (0, .ref o), (1, .int (iI at_)), (2, .int (iI many))]) C d_L_number_3 hl (by decide) rfl (fun ls hl => ?_)
  have L5 : ∀ (fuel : Nat), ∀ (k : Int) (vv : Int), 0 ≤ k ∧ k ≤ many → vv = x / 2 ^ (many - k).toNat → (many - k) < (fuel : Int) → ∀ (H : Heap) (locs : List Loc) (ls : Array Slot), LW X cI cO cZ o ((lc, sd, r, sg, ln, N, v), hist, rcd, slot, uf, T, m) H locs → lv_has ls 5 [(4, .int (iI k)), (3, .int (iI vv)), (2, .int (iI many)), (1, .int (iI at_)), (0, .ref o)] → GG X 0 0 H locs 5 ls [] := by
    intro fuel
    induction fuel with
    | zero =>
      intro k vv hk hv hfuel
      exact absurd hfuel (by omega)
    | succ fuel ih5 =>
      intro k vv hk hv hfuel H locs ls w hl
      refine r_iload (pc := 5) C d_L_number_5 (lv_at hl 0 rfl) ?_
      refine r_iload_n (pc := 7) C d_L_number_7 rfl (lv_at hl 2 rfl) ?_
      refine r_icmp_ge (pc := 8) (tgt := 30) C (by omega) d_L_number_8 (by decide) (fun c_8 => ?_) (fun c_8 => ?_)
      · skip
        refine r_iload_n (pc := 30) C d_L_number_30 rfl (lv_at hl 1 rfl) ?_
        exact kret _ _ _ _ vv _ d_L_number_31 w (⟨rfl, by rw [hv, show many - k = 0 by omega]; simp⟩)
      · skip
        refine r_iconst (pc := 11) C d_L_number_11 ?_
        refine r_iload_n (pc := 12) C d_L_number_12 rfl (lv_at hl 1 rfl) ?_
        refine r_imul (pc := 13) C d_L_number_13 ?_
        refine r_aload_n (pc := 14) C d_L_number_14 rfl (lv_at hl 4 rfl) ?_
        refine r_iload_n (pc := 15) C d_L_number_15 rfl (lv_at hl 3 rfl) ?_
        refine r_iload (pc := 16) C d_L_number_16 (lv_at hl 0 rfl) ?_
        refine r_iadd (pc := 18) C d_L_number_18 ?_
        refine l_callQ (pc := 19) (As := [.int (iI (at_ + k))]) (rest := [.int (iI (2 * vv))]) (P := fun z => z = x / 2 ^ (many - 1 - k).toNat % 2) (fun _ _ h => ⟨h.1, hb k _ (by omega) (by omega) h.2⟩) C w (fun ws hA => c_D_bit hT o _ ws hA (at_ + k) (by omega)) ml_L_61 im_D_bit se_D_bit cd_D_bit hd_D_bit rfl (by rw [hRm]; exact ⟨⟨Nat.le_of_ble_eq_true rfl, Nat.le_of_ble_eq_true rfl⟩, Nat.le_of_ble_eq_true rfl, Nat.le_of_ble_eq_true rfl⟩) hl.1 rfl (Nat.le_of_ble_eq_true rfl) d_L_number_19 (fun z_19 H locs hz_19 w => ?_)
        refine r_iadd (pc := 22) C d_L_number_22 ?_
        refine r_istore_n (pc := 23) (lv' := [(3, .int (iI ((2 * vv) + z_19))), (4, .int (iI k)), (2, .int (iI many)), (1, .int (iI at_)), (0, .ref o)]) C d_L_number_23 rfl hl (by decide) rfl (fun ls hl => ?_)
        refine r_iinc (pc := 24) (j := 1) (lv' := [(4, .int (iI (k + 1))), (3, .int (iI ((2 * vv) + z_19))), (2, .int (iI many)), (1, .int (iI at_)), (0, .ref o)]) C d_L_number_24 hl rfl (by decide) rfl (fun ls hl => ?_)
        refine r_goto (pc := 27) (tgt := 5) C d_L_number_27 (by decide) ?_
        exact ih5 (k + 1) ((2 * vv) + z_19) (by omega) ((by rw [hz_19, hv, show many - k = (many - 1 - k) + 1 by omega, div_pow_succ (by omega), show many - (k + 1) = many - 1 - k by omega]; omega)) (by omega) _ _ _ w (lv_sub hl [0, 1, 2, 3, 4] rfl)
  exact L5 ((many - 0) + 1 : Int).toNat 0 0 (by first | omega | rfl) ((by rw [Int.sub_zero, Int.ediv_eq_zero_of_lt hx.1 hx.2])) (by omega) _ _ _ w (lv_sub hl [0, 1, 4, 3, 2] rfl)
theorem d_L_zeros_0 : decode b_L_zeros 0 = .ok (.iconst 0, 1) := by decide +kernel
theorem d_L_zeros_1 : decode b_L_zeros 1 = .ok (.istore_n 2, 1) := by decide +kernel
theorem d_L_zeros_2 : decode b_L_zeros 2 = .ok (.aload_n 0, 1) := by decide +kernel
theorem d_L_zeros_3 : decode b_L_zeros 3 = .ok (.iload_n 1, 1) := by decide +kernel
theorem d_L_zeros_4 : decode b_L_zeros 4 = .ok (.iload_n 2, 1) := by decide +kernel
theorem d_L_zeros_5 : decode b_L_zeros 5 = .ok (.iadd, 1) := by decide +kernel
theorem d_L_zeros_6 : decode b_L_zeros 6 = .ok (.invokevirtual 61, 3) := by decide +kernel
theorem d_L_zeros_9 : decode b_L_zeros 9 = .ok (.ifCond .ne 9, 3) := by decide +kernel
theorem d_L_zeros_12 : decode b_L_zeros 12 = .ok (.iinc 2 1, 3) := by decide +kernel
theorem d_L_zeros_15 : decode b_L_zeros 15 = .ok (.goto (-13), 3) := by decide +kernel
theorem d_L_zeros_18 : decode b_L_zeros 18 = .ok (.iload_n 2, 1) := by decide +kernel
theorem d_L_zeros_19 : decode b_L_zeros 19 = .ok (.ireturn, 1) := by decide +kernel
set_option maxHeartbeats 4000000 in
set_option maxRecDepth 20000 in
theorem c_L_zeros {l : Launch} {G : va_G} {tys : List (ClassId × FieldType)} {cI cO cZ : ClassId} (hT : TY tys cI cO cZ) (o : Nat) (lc sd r : Int) (sg ln : Int → Int) (N : Int) (v : Int → Int) (hist : Int → Rw) (rcd : Int) (slot : Int → Rw) (uf T : Int → Int) (m : Int) (at_ cz : Int) (hat : 0 ≤ at_ ∧ at_ ≤ 100000) (hcz : 0 ≤ cz ∧ cz ≤ 31) (h0 : ∀ j z, 0 ≤ j → j < cz → BitAt lc r sg ln (at_ + j) z → z = 0) (h1 : ∀ z, BitAt lc r sg ln (at_ + cz) z → z = 1) : CTA l G tys cI cO cZ y_L_zeros b_L_zeros 3 .int 5 116 o [.ref o, .int (iI at_)] ((lc, sd, r, sg, ln, N, v), hist, rcd, slot, uf, T, m) (fun z A' => A' = ((lc, sd, r, sg, ln, N, v), hist, rcd, slot, uf, T, m) ∧ z = cz) := by
  refine mkAI (by decide) (Nat.le_of_ble_eq_true rfl) ?_
  rintro X rfl rfl rfl hRm C kret H ls w hl
  have hl : lv_has ls 3 [(0, .ref o), (1, .int (iI at_))] := hl
  generalize ([] : List Loc) = locs at w ⊢
  have hK := w.ok
  have hR : RwOk lc sd r sg ln N v := hK.1
  obtain ⟨hO, hr50, hN3, hlc, hsd⟩ := hR
  refine r_iconst (pc := 0) C d_L_zeros_0 ?_
  refine r_istore_n (pc := 1) (lv' := [(2, .int (iI 0)), (0, .ref o), (1, .int (iI at_))]) C d_L_zeros_1 rfl hl (by decide) rfl (fun ls hl => ?_)
  have L2 : ∀ (fuel : Nat), ∀ (k : Int), 0 ≤ k ∧ k ≤ cz → (cz - k) < (fuel : Int) → ∀ (H : Heap) (locs : List Loc) (ls : Array Slot), LW X cI cO cZ o ((lc, sd, r, sg, ln, N, v), hist, rcd, slot, uf, T, m) H locs → lv_has ls 3 [(2, .int (iI k)), (1, .int (iI at_)), (0, .ref o)] → GG X 0 0 H locs 2 ls [] := by
    intro fuel
    induction fuel with
    | zero =>
      intro k hk hfuel
      exact absurd hfuel (by omega)
    | succ fuel ih2 =>
      intro k hk hfuel H locs ls w hl
      refine r_aload_n (pc := 2) C d_L_zeros_2 rfl (lv_at hl 2 rfl) ?_
      refine r_iload_n (pc := 3) C d_L_zeros_3 rfl (lv_at hl 1 rfl) ?_
      refine r_iload_n (pc := 4) C d_L_zeros_4 rfl (lv_at hl 0 rfl) ?_
      refine r_iadd (pc := 5) C d_L_zeros_5 ?_
      refine l_callQ (pc := 6) (As := [.int (iI (at_ + k))]) (rest := []) (P := fun z => (k < cz → z = 0) ∧ (k = cz → z = 1)) (fun _ _ h => ⟨h.1, fun q => h0 k _ (by omega) q h.2, fun q => h1 _ (by rw [← q]; exact h.2)⟩) C w (fun ws hA => c_D_bit hT o _ ws hA (at_ + k) (by omega)) ml_L_61 im_D_bit se_D_bit cd_D_bit hd_D_bit rfl (by rw [hRm]; exact ⟨⟨Nat.le_of_ble_eq_true rfl, Nat.le_of_ble_eq_true rfl⟩, Nat.le_of_ble_eq_true rfl, Nat.le_of_ble_eq_true rfl⟩) hl.1 rfl (Nat.le_of_ble_eq_true rfl) d_L_zeros_6 (fun z_6 H locs hz_6 w => ?_)
      refine r_if_ne (pc := 9) (tgt := 18) C (by omega) d_L_zeros_9 (by decide) (fun c_9 => ?_) (fun c_9 => ?_)
      · skip
        refine r_iload_n (pc := 18) C d_L_zeros_18 rfl (lv_at hl 0 rfl) ?_
        exact kret _ _ _ _ k _ d_L_zeros_19 w (⟨rfl, by omega⟩)
      · skip
        refine r_iinc (pc := 12) (j := 0) (lv' := [(2, .int (iI (k + 1))), (1, .int (iI at_)), (0, .ref o)]) C d_L_zeros_12 hl rfl (by decide) rfl (fun ls hl => ?_)
        refine r_goto (pc := 15) (tgt := 2) C d_L_zeros_15 (by decide) ?_
        exact ih2 (k + 1) (by omega) (by omega) _ _ _ w (lv_sub hl [0, 1, 2] rfl)
  exact L2 ((cz - 0) + 1 : Int).toNat 0 (by first | omega | rfl) (by omega) _ _ _ w (lv_sub hl [0, 2, 1] rfl)
