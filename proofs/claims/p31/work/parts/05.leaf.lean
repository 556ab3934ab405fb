theorem d_D_isWithin_0 : decode b_D_isWithin 0 = .ok (.iload_n 0, 1) := by decide +kernel
theorem d_D_isWithin_1 : decode b_D_isWithin 1 = .ok (.iload_n 1, 1) := by decide +kernel
theorem d_D_isWithin_2 : decode b_D_isWithin 2 = .ok (.if_icmp .lt 12, 3) := by decide +kernel
theorem d_D_isWithin_5 : decode b_D_isWithin 5 = .ok (.iload_n 0, 1) := by decide +kernel
theorem d_D_isWithin_6 : decode b_D_isWithin 6 = .ok (.iload_n 2, 1) := by decide +kernel
theorem d_D_isWithin_7 : decode b_D_isWithin 7 = .ok (.if_icmp .gt 7, 3) := by decide +kernel
theorem d_D_isWithin_10 : decode b_D_isWithin 10 = .ok (.iconst 1, 1) := by decide +kernel
theorem d_D_isWithin_11 : decode b_D_isWithin 11 = .ok (.goto 4, 3) := by decide +kernel
theorem d_D_isWithin_14 : decode b_D_isWithin 14 = .ok (.iconst 0, 1) := by decide +kernel
theorem d_D_isWithin_15 : decode b_D_isWithin 15 = .ok (.ireturn, 1) := by decide +kernel
set_option maxHeartbeats 4000000 in
set_option maxRecDepth 20000 in
theorem c_D_isWithin {l : Launch} {G : va_G} {tys : List (ClassId × FieldType)} (a b c : Int) (h : (-2147483648 ≤ a ∧ a < 2147483648) ∧ (-2147483648 ≤ b ∧ b < 2147483648) ∧ (-2147483648 ≤ c ∧ c < 2147483648)) : CTP l G tys y_D_isWithin b_D_isWithin 3 .boolean 0 0 [.int (iI a), .int (iI b), .int (iI c)] (fun z => (z = 1 ∧ b ≤ a ∧ a ≤ c) ∨ (z = 0 ∧ ¬ (b ≤ a ∧ a ≤ c))) := by
  unfold CTP
  refine mkZ (by decide) (Nat.le_of_ble_eq_true rfl) ?_
  rintro X rfl rfl rfl hRm C kret H ls w hl
  have hl : lv_has ls 3 [(0, .int (iI a)), (1, .int (iI b)), (2, .int (iI c))] := hl
  have w : Wd X ([]) H [] := w
  generalize ([] : List Loc) = locs at w ⊢
  refine r_iload_n (pc := 0) C d_D_isWithin_0 rfl (lv_at hl 0 rfl) ?_
  refine r_iload_n (pc := 1) C d_D_isWithin_1 rfl (lv_at hl 1 rfl) ?_
  refine r_icmp_lt (pc := 2) (tgt := 14) C (by omega) d_D_isWithin_2 (by decide) (fun c_2 => ?_) (fun c_2 => ?_)
  · skip
    refine r_iconst (pc := 14) C d_D_isWithin_14 ?_
    exact kret _ _ _ _ 0 _ d_D_isWithin_15 w (by omega) (⟨rfl, by omega⟩)
  · skip
    refine r_iload_n (pc := 5) C d_D_isWithin_5 rfl (lv_at hl 0 rfl) ?_
    refine r_iload_n (pc := 6) C d_D_isWithin_6 rfl (lv_at hl 2 rfl) ?_
    refine r_icmp_gt (pc := 7) (tgt := 14) C (by omega) d_D_isWithin_7 (by decide) (fun c_7 => ?_) (fun c_7 => ?_)
    · skip
      refine r_iconst (pc := 14) C d_D_isWithin_14 ?_
      exact kret _ _ _ _ 0 _ d_D_isWithin_15 w (by omega) (⟨rfl, by omega⟩)
    · skip
      refine r_iconst (pc := 10) C d_D_isWithin_10 ?_
      refine r_goto (pc := 11) (tgt := 15) C d_D_isWithin_11 (by decide) ?_
      exact kret _ _ _ _ 1 _ d_D_isWithin_15 w (by omega) (⟨rfl, by omega⟩)
theorem d_S_shared_0 : decode b_S_shared 0 = .ok (.iconst 0, 1) := by decide +kernel
theorem d_S_shared_1 : decode b_S_shared 1 = .ok (.iload_n 1, 1) := by decide +kernel
theorem d_S_shared_2 : decode b_S_shared 2 = .ok (.iload_n 3, 1) := by decide +kernel
theorem d_S_shared_3 : decode b_S_shared 3 = .ok (.invokestatic 55, 3) := by decide +kernel
theorem d_S_shared_6 : decode b_S_shared 6 = .ok (.iload_n 0, 1) := by decide +kernel
theorem d_S_shared_7 : decode b_S_shared 7 = .ok (.iload_n 2, 1) := by decide +kernel
theorem d_S_shared_8 : decode b_S_shared 8 = .ok (.invokestatic 61, 3) := by decide +kernel
theorem d_S_shared_11 : decode b_S_shared 11 = .ok (.isub, 1) := by decide +kernel
theorem d_S_shared_12 : decode b_S_shared 12 = .ok (.invokestatic 61, 3) := by decide +kernel
theorem d_S_shared_15 : decode b_S_shared 15 = .ok (.ireturn, 1) := by decide +kernel
set_option maxHeartbeats 4000000 in
set_option maxRecDepth 20000 in
theorem c_S_shared {l : Launch} {G : va_G} {tys : List (ClassId × FieldType)} (a b c d : Int) (h : ((0 ≤ a ∧ a ≤ 100000000) ∧ (0 ≤ b ∧ b ≤ 100000000)) ∧ (0 ≤ c ∧ c ≤ 100000000) ∧ (0 ≤ d ∧ d ≤ 100000000)) : CTP l G tys y_S_shared b_S_shared 4 .int 1 19 [.int (iI a), .int (iI b), .int (iI c), .int (iI d)] (fun z => z = max 0 (min b d - max a c)) := by
  unfold CTP
  refine mkI (by decide) (Nat.le_of_ble_eq_true rfl) ?_
  rintro X rfl rfl rfl hRm C kret H ls w hl
  have hl : lv_has ls 4 [(0, .int (iI a)), (1, .int (iI b)), (2, .int (iI c)), (3, .int (iI d))] := hl
  have w : Wd X ([]) H [] := w
  generalize ([] : List Loc) = locs at w ⊢
  refine r_iconst (pc := 0) C d_S_shared_0 ?_
  refine r_iload_n (pc := 1) C d_S_shared_1 rfl (lv_at hl 1 rfl) ?_
  refine r_iload_n (pc := 2) C d_S_shared_2 rfl (lv_at hl 3 rfl) ?_
  refine r_min (pc := 3) C ml_S_55 (by omega) (by rw [hRm]; exact ⟨⟨Nat.le_of_ble_eq_true rfl, Nat.le_of_ble_eq_true rfl⟩, Nat.le_of_ble_eq_true rfl, Nat.le_of_ble_eq_true rfl⟩) hl.1 d_S_shared_3 ?_
  refine r_iload_n (pc := 6) C d_S_shared_6 rfl (lv_at hl 0 rfl) ?_
  refine r_iload_n (pc := 7) C d_S_shared_7 rfl (lv_at hl 2 rfl) ?_
  refine r_max (pc := 8) C ml_S_61 (by omega) (by rw [hRm]; exact ⟨⟨Nat.le_of_ble_eq_true rfl, Nat.le_of_ble_eq_true rfl⟩, Nat.le_of_ble_eq_true rfl, Nat.le_of_ble_eq_true rfl⟩) hl.1 d_S_shared_8 ?_
  refine r_isub (pc := 11) C d_S_shared_11 ?_
  refine r_max (pc := 12) C ml_S_61 (by omega) (by rw [hRm]; exact ⟨⟨Nat.le_of_ble_eq_true rfl, Nat.le_of_ble_eq_true rfl⟩, Nat.le_of_ble_eq_true rfl, Nat.le_of_ble_eq_true rfl⟩) hl.1 d_S_shared_12 ?_
  exact kret _ _ _ _ (max 0 ((min b d) - (max a c))) _ d_S_shared_15 w (⟨rfl, rfl⟩)
theorem d_S_append_0 : decode b_S_append 0 = .ok (.iload_n 2, 1) := by decide +kernel
theorem d_S_append_1 : decode b_S_append 1 = .ok (.iconst 1, 1) := by decide +kernel
theorem d_S_append_2 : decode b_S_append 2 = .ok (.if_icmp .lt 10, 3) := by decide +kernel
theorem d_S_append_5 : decode b_S_append 5 = .ok (.aload_n 0, 1) := by decide +kernel
theorem d_S_append_6 : decode b_S_append 6 = .ok (.getfield 25, 3) := by decide +kernel
theorem d_S_append_9 : decode b_S_append 9 = .ok (.ifCond .eq 4, 3) := by decide +kernel
theorem d_S_append_12 : decode b_S_append 12 = .ok (.return_, 1) := by decide +kernel
theorem d_S_append_13 : decode b_S_append 13 = .ok (.aload_n 0, 1) := by decide +kernel
theorem d_S_append_14 : decode b_S_append 14 = .ok (.getfield 18, 3) := by decide +kernel
theorem d_S_append_17 : decode b_S_append 17 = .ok (.ifCond .le 22, 3) := by decide +kernel
theorem d_S_append_20 : decode b_S_append 20 = .ok (.aload_n 0, 1) := by decide +kernel
theorem d_S_append_21 : decode b_S_append 21 = .ok (.getfield 9, 3) := by decide +kernel
theorem d_S_append_24 : decode b_S_append 24 = .ok (.aload_n 0, 1) := by decide +kernel
theorem d_S_append_25 : decode b_S_append 25 = .ok (.getfield 18, 3) := by decide +kernel
theorem d_S_append_28 : decode b_S_append 28 = .ok (.iconst 1, 1) := by decide +kernel
theorem d_S_append_29 : decode b_S_append 29 = .ok (.isub, 1) := by decide +kernel
theorem d_S_append_30 : decode b_S_append 30 = .ok (.iaload, 1) := by decide +kernel
theorem d_S_append_31 : decode b_S_append 31 = .ok (.iload_n 1, 1) := by decide +kernel
theorem d_S_append_32 : decode b_S_append 32 = .ok (.if_icmp .ne 7, 3) := by decide +kernel
theorem d_S_append_35 : decode b_S_append 35 = .ok (.iconst 1, 1) := by decide +kernel
theorem d_S_append_36 : decode b_S_append 36 = .ok (.goto 4, 3) := by decide +kernel
theorem d_S_append_39 : decode b_S_append 39 = .ok (.iconst 0, 1) := by decide +kernel
theorem d_S_append_40 : decode b_S_append 40 = .ok (.istore_n 3, 1) := by decide +kernel
theorem d_S_append_41 : decode b_S_append 41 = .ok (.iload_n 2, 1) := by decide +kernel
theorem d_S_append_42 : decode b_S_append 42 = .ok (.sipush 3000, 3) := by decide +kernel
theorem d_S_append_45 : decode b_S_append 45 = .ok (.aload_n 0, 1) := by decide +kernel
theorem d_S_append_46 : decode b_S_append 46 = .ok (.getfield 22, 3) := by decide +kernel
theorem d_S_append_49 : decode b_S_append 49 = .ok (.isub, 1) := by decide +kernel
theorem d_S_append_50 : decode b_S_append 50 = .ok (.if_icmp .gt 16, 3) := by decide +kernel
theorem d_S_append_53 : decode b_S_append 53 = .ok (.iload_n 3, 1) := by decide +kernel
theorem d_S_append_54 : decode b_S_append 54 = .ok (.ifCond .ne 18, 3) := by decide +kernel
theorem d_S_append_57 : decode b_S_append 57 = .ok (.aload_n 0, 1) := by decide +kernel
theorem d_S_append_58 : decode b_S_append 58 = .ok (.getfield 18, 3) := by decide +kernel
theorem d_S_append_61 : decode b_S_append 61 = .ok (.bipush 50, 2) := by decide +kernel
theorem d_S_append_63 : decode b_S_append 63 = .ok (.if_icmp .lt 9, 3) := by decide +kernel
theorem d_S_append_66 : decode b_S_append 66 = .ok (.aload_n 0, 1) := by decide +kernel
theorem d_S_append_67 : decode b_S_append 67 = .ok (.iconst 1, 1) := by decide +kernel
theorem d_S_append_68 : decode b_S_append 68 = .ok (.putfield 25, 3) := by decide +kernel
theorem d_S_append_71 : decode b_S_append 71 = .ok (.return_, 1) := by decide +kernel
theorem d_S_append_72 : decode b_S_append 72 = .ok (.iload_n 3, 1) := by decide +kernel
theorem d_S_append_73 : decode b_S_append 73 = .ok (.ifCond .eq 21, 3) := by decide +kernel
theorem d_S_append_76 : decode b_S_append 76 = .ok (.aload_n 0, 1) := by decide +kernel
theorem d_S_append_77 : decode b_S_append 77 = .ok (.getfield 15, 3) := by decide +kernel
theorem d_S_append_80 : decode b_S_append 80 = .ok (.aload_n 0, 1) := by decide +kernel
theorem d_S_append_81 : decode b_S_append 81 = .ok (.getfield 18, 3) := by decide +kernel
theorem d_S_append_84 : decode b_S_append 84 = .ok (.iconst 1, 1) := by decide +kernel
theorem d_S_append_85 : decode b_S_append 85 = .ok (.isub, 1) := by decide +kernel
theorem d_S_append_86 : decode b_S_append 86 = .ok (.dup2, 1) := by decide +kernel
theorem d_S_append_87 : decode b_S_append 87 = .ok (.iaload, 1) := by decide +kernel
theorem d_S_append_88 : decode b_S_append 88 = .ok (.iload_n 2, 1) := by decide +kernel
theorem d_S_append_89 : decode b_S_append 89 = .ok (.iadd, 1) := by decide +kernel
theorem d_S_append_90 : decode b_S_append 90 = .ok (.iastore, 1) := by decide +kernel
theorem d_S_append_91 : decode b_S_append 91 = .ok (.goto 33, 3) := by decide +kernel
theorem d_S_append_94 : decode b_S_append 94 = .ok (.aload_n 0, 1) := by decide +kernel
theorem d_S_append_95 : decode b_S_append 95 = .ok (.getfield 9, 3) := by decide +kernel
theorem d_S_append_98 : decode b_S_append 98 = .ok (.aload_n 0, 1) := by decide +kernel
theorem d_S_append_99 : decode b_S_append 99 = .ok (.getfield 18, 3) := by decide +kernel
theorem d_S_append_102 : decode b_S_append 102 = .ok (.iload_n 1, 1) := by decide +kernel
theorem d_S_append_103 : decode b_S_append 103 = .ok (.iastore, 1) := by decide +kernel
theorem d_S_append_104 : decode b_S_append 104 = .ok (.aload_n 0, 1) := by decide +kernel
theorem d_S_append_105 : decode b_S_append 105 = .ok (.getfield 15, 3) := by decide +kernel
theorem d_S_append_108 : decode b_S_append 108 = .ok (.aload_n 0, 1) := by decide +kernel
theorem d_S_append_109 : decode b_S_append 109 = .ok (.getfield 18, 3) := by decide +kernel
theorem d_S_append_112 : decode b_S_append 112 = .ok (.iload_n 2, 1) := by decide +kernel
theorem d_S_append_113 : decode b_S_append 113 = .ok (.iastore, 1) := by decide +kernel
theorem d_S_append_114 : decode b_S_append 114 = .ok (.aload_n 0, 1) := by decide +kernel
theorem d_S_append_115 : decode b_S_append 115 = .ok (.dup, 1) := by decide +kernel
theorem d_S_append_116 : decode b_S_append 116 = .ok (.getfield 18, 3) := by decide +kernel
theorem d_S_append_119 : decode b_S_append 119 = .ok (.iconst 1, 1) := by decide +kernel
theorem d_S_append_120 : decode b_S_append 120 = .ok (.iadd, 1) := by decide +kernel
theorem d_S_append_121 : decode b_S_append 121 = .ok (.putfield 18, 3) := by decide +kernel
theorem d_S_append_124 : decode b_S_append 124 = .ok (.aload_n 0, 1) := by decide +kernel
theorem d_S_append_125 : decode b_S_append 125 = .ok (.dup, 1) := by decide +kernel
theorem d_S_append_126 : decode b_S_append 126 = .ok (.getfield 22, 3) := by decide +kernel
theorem d_S_append_129 : decode b_S_append 129 = .ok (.iload_n 2, 1) := by decide +kernel
theorem d_S_append_130 : decode b_S_append 130 = .ok (.iadd, 1) := by decide +kernel
theorem d_S_append_131 : decode b_S_append 131 = .ok (.putfield 22, 3) := by decide +kernel
theorem d_S_append_134 : decode b_S_append 134 = .ok (.return_, 1) := by decide +kernel
set_option maxHeartbeats 4000000 in
set_option maxRecDepth 20000 in
theorem c_S_append {l : Launch} {G : va_G} {tys : List (ClassId × FieldType)} {cI cO cZ : ClassId} (hT : TY tys cI cO cZ) (q a b : Nat) (sg ln : Int → Int) (r pl ov lc sd s m n : Int) (v : Int → Int) (hV : RV r pl ov sg ln n v) (hs : 0 ≤ s ∧ s ≤ 10) (hm : -2147483648 ≤ m ∧ m < 2147483648) : CTV l G tys y_S_append b_S_append 4 0 0 [.ref q, .int (iI s), .int (iI m)] (sw cI q a b sg ln r pl ov lc sd) (fun u => ∃ (sg' ln' : Int → Int) (r' pl' ov' : Int), u = sw cI q a b sg' ln' r' pl' ov' lc sd ∧ RV r' pl' ov' sg' ln' (n + max 0 m) (app v n s)) := by
  refine mkV (by decide) (Nat.le_of_ble_eq_true rfl) ?_
  rintro X rfl rfl rfl hRm C kret H ls w hl
  have hl : lv_has ls 4 [(0, .ref q), (1, .int (iI s)), (2, .int (iI m))] := hl
  have w : Wd X (sw cI q a b sg ln r pl ov lc sd) H [] := w
  generalize ([] : List Loc) = locs at w ⊢
  have hov := hV.ov01
  refine r_iload_n (pc := 0) C d_S_append_0 rfl (lv_at hl 2 rfl) ?_
  refine r_iconst (pc := 1) C d_S_append_1 ?_
  refine r_icmp_lt (pc := 2) (tgt := 12) C (by omega) d_S_append_2 (by decide) (fun c_2 => ?_) (fun c_2 => ?_)
  · skip
    exact kret _ _ _ _ _ d_S_append_12 w (⟨sg, ln, r, pl, ov, rfl, hV.noop (by omega)⟩)
  · skip
    refine r_aload_n (pc := 5) C d_S_append_5 rfl (lv_at hl 0 rfl) ?_
    refine r_get (pc := 6) (v := .int (iI ov)) C w i_S rfl 0 rfl 4 (by decide) fl_S_25 rfl rfl d_S_append_6 ?_
    refine r_if_eq (pc := 9) (tgt := 13) C (by omega) d_S_append_9 (by decide) (fun c_9 => ?_) (fun c_9 => ?_)
    · skip
      have hx : pl = n ∧ Ok r sg ln n v ∧ n ≤ 3000 ∧ r ≤ 50 ∧ 0 ≤ n := by
        rcases hov with ⟨h1, h2, h3, h4, h5⟩ | ⟨h1, h2⟩
        · exact ⟨h2, h3, h4, h5, hV.1⟩
        · omega
      obtain ⟨hpl, hO, hn3, hr5, hn0⟩ := hx
      have hr0 := hO.1
      clear hov
      refine r_aload_n (pc := 13) C d_S_append_13 rfl (lv_at hl 0 rfl) ?_
      refine r_get (pc := 14) (v := .int (iI r)) C w i_S rfl 0 rfl 2 (by decide) fl_S_18 rfl rfl d_S_append_14 ?_
      refine r_if_le (pc := 17) (tgt := 39) C (by omega) d_S_append_17 (by decide) (fun c_17 => ?_) (fun c_17 => ?_)
      · skip
        refine r_iconst (pc := 39) C d_S_append_39 ?_
        refine r_istore_n (pc := 40) (lv' := [(3, .int (iI 0)), (0, .ref q), (1, .int (iI s)), (2, .int (iI m))]) C d_S_append_40 rfl hl (by decide) rfl (fun ls hl => ?_)
        refine r_iload_n (pc := 41) C d_S_append_41 rfl (lv_at hl 3 rfl) ?_
        refine r_sipush (pc := 42) C d_S_append_42 (by decide) ?_
        refine r_aload_n (pc := 45) C d_S_append_45 rfl (lv_at hl 1 rfl) ?_
        refine r_get (pc := 46) (v := .int (iI pl)) C w i_S rfl 0 rfl 3 (by decide) fl_S_22 rfl rfl d_S_append_46 ?_
        refine r_isub (pc := 49) C d_S_append_49 ?_
        refine r_icmp_gt (pc := 50) (tgt := 66) C (by omega) d_S_append_50 (by decide) (fun c_50 => ?_) (fun c_50 => ?_)
        · skip
          refine r_aload_n (pc := 66) C d_S_append_66 rfl (lv_at hl 1 rfl) ?_
          refine r_iconst (pc := 67) C d_S_append_67 ?_
          refine r_put (pc := 68) (ws' := sw cI q a b sg ln r pl 1 lc sd) C w i_S t_S t_S_ok n_S rfl 0 rfl 4 (by decide) fl_S_25 rfl rfl (by decide) (by decide) (Nat.le_of_ble_eq_true rfl) rfl d_S_append_68 (fun H locs w => ?_)
          exact kret _ _ _ _ _ d_S_append_71 w (⟨_, _, _, _, _, rfl, hV.over (by omega) (by omega) (by omega)⟩)
        · skip
          refine r_iload_n (pc := 53) C d_S_append_53 rfl (lv_at hl 0 rfl) ?_
          refine r_if_ne (pc := 54) (tgt := 72) C (by omega) d_S_append_54 (by decide) (fun c_54 => absurd c_54 (by omega)) (fun c_54 => ?_)
          refine r_aload_n (pc := 57) C d_S_append_57 rfl (lv_at hl 1 rfl) ?_
          refine r_get (pc := 58) (v := .int (iI r)) C w i_S rfl 0 rfl 2 (by decide) fl_S_18 rfl rfl d_S_append_58 ?_
          refine r_bipush (pc := 61) C d_S_append_61 (by decide) ?_
          refine r_icmp_lt (pc := 63) (tgt := 72) C (by omega) d_S_append_63 (by decide) (fun c_63 => ?_) (fun c_63 => ?_)
          · skip
            refine r_iload_n (pc := 72) C d_S_append_72 rfl (lv_at hl 0 rfl) ?_
            refine r_if_eq (pc := 73) (tgt := 94) C (by omega) d_S_append_73 (by decide) (fun c_73 => ?_) (fun c_73 => absurd c_73 (by omega))
            refine r_aload_n (pc := 94) C d_S_append_94 rfl (lv_at hl 1 rfl) ?_
            refine r_get (pc := 95) (v := .ref a) C w i_S rfl 0 rfl 0 (by decide) fl_S_9 rfl rfl d_S_append_95 ?_
            refine r_aload_n (pc := 98) C d_S_append_98 rfl (lv_at hl 1 rfl) ?_
            refine r_get (pc := 99) (v := .int (iI r)) C w i_S rfl 0 rfl 2 (by decide) fl_S_18 rfl rfl d_S_append_99 ?_
            refine r_iload_n (pc := 102) C d_S_append_102 rfl (lv_at hl 2 rfl) ?_
            refine r_iast (pc := 103) (f := sg) (i := r) (v := s) (ws' := sw cI q a b (up sg r s) ln r pl ov lc sd) C w 0 1 rfl hT.1 (by omega) rfl d_S_append_103 (fun H locs w => ?_)
            refine r_aload_n (pc := 104) C d_S_append_104 rfl (lv_at hl 1 rfl) ?_
            refine r_get (pc := 105) (v := .ref b) C w i_S rfl 0 rfl 1 (by decide) fl_S_15 rfl rfl d_S_append_105 ?_
            refine r_aload_n (pc := 108) C d_S_append_108 rfl (lv_at hl 1 rfl) ?_
            refine r_get (pc := 109) (v := .int (iI r)) C w i_S rfl 0 rfl 2 (by decide) fl_S_18 rfl rfl d_S_append_109 ?_
            refine r_iload_n (pc := 112) C d_S_append_112 rfl (lv_at hl 3 rfl) ?_
            refine r_iast (pc := 113) (f := ln) (i := r) (v := m) (ws' := sw cI q a b (up sg r s) (up ln r m) r pl ov lc sd) C w 0 2 rfl hT.1 (by omega) rfl d_S_append_113 (fun H locs w => ?_)
            refine r_aload_n (pc := 114) C d_S_append_114 rfl (lv_at hl 1 rfl) ?_
            refine r_dup (pc := 115) C d_S_append_115 rfl ?_
            refine r_get (pc := 116) (v := .int (iI r)) C w i_S rfl 0 rfl 2 (by decide) fl_S_18 rfl rfl d_S_append_116 ?_
            refine r_iconst (pc := 119) C d_S_append_119 ?_
            refine r_iadd (pc := 120) C d_S_append_120 ?_
            refine r_put (pc := 121) (ws' := sw cI q a b (up sg r s) (up ln r m) (r + 1) pl ov lc sd) C w i_S t_S t_S_ok n_S rfl 0 rfl 2 (by decide) fl_S_18 rfl rfl rfl rfl (Nat.le_of_ble_eq_true rfl) rfl d_S_append_121 (fun H locs w => ?_)
            refine r_aload_n (pc := 124) C d_S_append_124 rfl (lv_at hl 1 rfl) ?_
            refine r_dup (pc := 125) C d_S_append_125 rfl ?_
            refine r_get (pc := 126) (v := .int (iI pl)) C w i_S rfl 0 rfl 3 (by decide) fl_S_22 rfl rfl d_S_append_126 ?_
            refine r_iload_n (pc := 129) C d_S_append_129 rfl (lv_at hl 3 rfl) ?_
            refine r_iadd (pc := 130) C d_S_append_130 ?_
            refine r_put (pc := 131) (ws' := sw cI q a b (up sg r s) (up ln r m) (r + 1) (pl + m) ov lc sd) C w i_S t_S t_S_ok n_S rfl 0 rfl 3 (by decide) fl_S_22 rfl rfl rfl rfl (Nat.le_of_ble_eq_true rfl) rfl d_S_append_131 (fun H locs w => ?_)
            exact kret _ _ _ _ _ d_S_append_134 w (⟨_, _, _, _, _, rfl, by first | exact hV.join (by omega) (by omega) (by omega) (by omega) (by omega) | exact hV.push (by omega) (by omega) (by omega) (by omega) (by omega) hs⟩)
          · skip
            refine r_aload_n (pc := 66) C d_S_append_66 rfl (lv_at hl 1 rfl) ?_
            refine r_iconst (pc := 67) C d_S_append_67 ?_
            refine r_put (pc := 68) (ws' := sw cI q a b sg ln r pl 1 lc sd) C w i_S t_S t_S_ok n_S rfl 0 rfl 4 (by decide) fl_S_25 rfl rfl (by decide) (by decide) (Nat.le_of_ble_eq_true rfl) rfl d_S_append_68 (fun H locs w => ?_)
            exact kret _ _ _ _ _ d_S_append_71 w (⟨_, _, _, _, _, rfl, hV.over (by omega) (by omega) (by omega)⟩)
      · skip
        refine r_aload_n (pc := 20) C d_S_append_20 rfl (lv_at hl 0 rfl) ?_
        refine r_get (pc := 21) (v := .ref a) C w i_S rfl 0 rfl 0 (by decide) fl_S_9 rfl rfl d_S_append_21 ?_
        refine r_aload_n (pc := 24) C d_S_append_24 rfl (lv_at hl 0 rfl) ?_
        refine r_get (pc := 25) (v := .int (iI r)) C w i_S rfl 0 rfl 2 (by decide) fl_S_18 rfl rfl d_S_append_25 ?_
        refine r_iconst (pc := 28) C d_S_append_28 ?_
        refine r_isub (pc := 29) C d_S_append_29 ?_
        refine r_iald (pc := 30) (f := sg) (i := (r - 1)) C w 0 1 rfl hT.1 (by omega) d_S_append_30 ?_
        refine r_iload_n (pc := 31) C d_S_append_31 rfl (lv_at hl 1 rfl) ?_
        have hsr := hO.sg (k := r - 1) (by omega) (by omega)
        refine r_icmp_ne (pc := 32) (tgt := 39) C (by omega) d_S_append_32 (by decide) (fun c_32 => ?_) (fun c_32 => ?_)
        · skip
          refine r_iconst (pc := 39) C d_S_append_39 ?_
          refine r_istore_n (pc := 40) (lv' := [(3, .int (iI 0)), (0, .ref q), (1, .int (iI s)), (2, .int (iI m))]) C d_S_append_40 rfl hl (by decide) rfl (fun ls hl => ?_)
          refine r_iload_n (pc := 41) C d_S_append_41 rfl (lv_at hl 3 rfl) ?_
          refine r_sipush (pc := 42) C d_S_append_42 (by decide) ?_
          refine r_aload_n (pc := 45) C d_S_append_45 rfl (lv_at hl 1 rfl) ?_
          refine r_get (pc := 46) (v := .int (iI pl)) C w i_S rfl 0 rfl 3 (by decide) fl_S_22 rfl rfl d_S_append_46 ?_
          refine r_isub (pc := 49) C d_S_append_49 ?_
          refine r_icmp_gt (pc := 50) (tgt := 66) C (by omega) d_S_append_50 (by decide) (fun c_50 => ?_) (fun c_50 => ?_)
          · skip
            refine r_aload_n (pc := 66) C d_S_append_66 rfl (lv_at hl 1 rfl) ?_
            refine r_iconst (pc := 67) C d_S_append_67 ?_
            refine r_put (pc := 68) (ws' := sw cI q a b sg ln r pl 1 lc sd) C w i_S t_S t_S_ok n_S rfl 0 rfl 4 (by decide) fl_S_25 rfl rfl (by decide) (by decide) (Nat.le_of_ble_eq_true rfl) rfl d_S_append_68 (fun H locs w => ?_)
            exact kret _ _ _ _ _ d_S_append_71 w (⟨_, _, _, _, _, rfl, hV.over (by omega) (by omega) (by omega)⟩)
          · skip
            refine r_iload_n (pc := 53) C d_S_append_53 rfl (lv_at hl 0 rfl) ?_
            refine r_if_ne (pc := 54) (tgt := 72) C (by omega) d_S_append_54 (by decide) (fun c_54 => absurd c_54 (by omega)) (fun c_54 => ?_)
            refine r_aload_n (pc := 57) C d_S_append_57 rfl (lv_at hl 1 rfl) ?_
            refine r_get (pc := 58) (v := .int (iI r)) C w i_S rfl 0 rfl 2 (by decide) fl_S_18 rfl rfl d_S_append_58 ?_
            refine r_bipush (pc := 61) C d_S_append_61 (by decide) ?_
            refine r_icmp_lt (pc := 63) (tgt := 72) C (by omega) d_S_append_63 (by decide) (fun c_63 => ?_) (fun c_63 => ?_)
            · skip
              refine r_iload_n (pc := 72) C d_S_append_72 rfl (lv_at hl 0 rfl) ?_
              refine r_if_eq (pc := 73) (tgt := 94) C (by omega) d_S_append_73 (by decide) (fun c_73 => ?_) (fun c_73 => absurd c_73 (by omega))
              refine r_aload_n (pc := 94) C d_S_append_94 rfl (lv_at hl 1 rfl) ?_
              refine r_get (pc := 95) (v := .ref a) C w i_S rfl 0 rfl 0 (by decide) fl_S_9 rfl rfl d_S_append_95 ?_
              refine r_aload_n (pc := 98) C d_S_append_98 rfl (lv_at hl 1 rfl) ?_
              refine r_get (pc := 99) (v := .int (iI r)) C w i_S rfl 0 rfl 2 (by decide) fl_S_18 rfl rfl d_S_append_99 ?_
              refine r_iload_n (pc := 102) C d_S_append_102 rfl (lv_at hl 2 rfl) ?_
              refine r_iast (pc := 103) (f := sg) (i := r) (v := s) (ws' := sw cI q a b (up sg r s) ln r pl ov lc sd) C w 0 1 rfl hT.1 (by omega) rfl d_S_append_103 (fun H locs w => ?_)
              refine r_aload_n (pc := 104) C d_S_append_104 rfl (lv_at hl 1 rfl) ?_
              refine r_get (pc := 105) (v := .ref b) C w i_S rfl 0 rfl 1 (by decide) fl_S_15 rfl rfl d_S_append_105 ?_
              refine r_aload_n (pc := 108) C d_S_append_108 rfl (lv_at hl 1 rfl) ?_
              refine r_get (pc := 109) (v := .int (iI r)) C w i_S rfl 0 rfl 2 (by decide) fl_S_18 rfl rfl d_S_append_109 ?_
              refine r_iload_n (pc := 112) C d_S_append_112 rfl (lv_at hl 3 rfl) ?_
              refine r_iast (pc := 113) (f := ln) (i := r) (v := m) (ws' := sw cI q a b (up sg r s) (up ln r m) r pl ov lc sd) C w 0 2 rfl hT.1 (by omega) rfl d_S_append_113 (fun H locs w => ?_)
              refine r_aload_n (pc := 114) C d_S_append_114 rfl (lv_at hl 1 rfl) ?_
              refine r_dup (pc := 115) C d_S_append_115 rfl ?_
              refine r_get (pc := 116) (v := .int (iI r)) C w i_S rfl 0 rfl 2 (by decide) fl_S_18 rfl rfl d_S_append_116 ?_
              refine r_iconst (pc := 119) C d_S_append_119 ?_
              refine r_iadd (pc := 120) C d_S_append_120 ?_
              refine r_put (pc := 121) (ws' := sw cI q a b (up sg r s) (up ln r m) (r + 1) pl ov lc sd) C w i_S t_S t_S_ok n_S rfl 0 rfl 2 (by decide) fl_S_18 rfl rfl rfl rfl (Nat.le_of_ble_eq_true rfl) rfl d_S_append_121 (fun H locs w => ?_)
              refine r_aload_n (pc := 124) C d_S_append_124 rfl (lv_at hl 1 rfl) ?_
              refine r_dup (pc := 125) C d_S_append_125 rfl ?_
              refine r_get (pc := 126) (v := .int (iI pl)) C w i_S rfl 0 rfl 3 (by decide) fl_S_22 rfl rfl d_S_append_126 ?_
              refine r_iload_n (pc := 129) C d_S_append_129 rfl (lv_at hl 3 rfl) ?_
              refine r_iadd (pc := 130) C d_S_append_130 ?_
              refine r_put (pc := 131) (ws' := sw cI q a b (up sg r s) (up ln r m) (r + 1) (pl + m) ov lc sd) C w i_S t_S t_S_ok n_S rfl 0 rfl 3 (by decide) fl_S_22 rfl rfl rfl rfl (Nat.le_of_ble_eq_true rfl) rfl d_S_append_131 (fun H locs w => ?_)
              exact kret _ _ _ _ _ d_S_append_134 w (⟨_, _, _, _, _, rfl, by first | exact hV.join (by omega) (by omega) (by omega) (by omega) (by omega) | exact hV.push (by omega) (by omega) (by omega) (by omega) (by omega) hs⟩)
            · skip
              refine r_aload_n (pc := 66) C d_S_append_66 rfl (lv_at hl 1 rfl) ?_
              refine r_iconst (pc := 67) C d_S_append_67 ?_
              refine r_put (pc := 68) (ws' := sw cI q a b sg ln r pl 1 lc sd) C w i_S t_S t_S_ok n_S rfl 0 rfl 4 (by decide) fl_S_25 rfl rfl (by decide) (by decide) (Nat.le_of_ble_eq_true rfl) rfl d_S_append_68 (fun H locs w => ?_)
              exact kret _ _ _ _ _ d_S_append_71 w (⟨_, _, _, _, _, rfl, hV.over (by omega) (by omega) (by omega)⟩)
        · skip
          refine r_iconst (pc := 35) C d_S_append_35 ?_
          refine r_goto (pc := 36) (tgt := 40) C d_S_append_36 (by decide) ?_
          refine r_istore_n (pc := 40) (lv' := [(3, .int (iI 1)), (0, .ref q), (1, .int (iI s)), (2, .int (iI m))]) C d_S_append_40 rfl hl (by decide) rfl (fun ls hl => ?_)
          refine r_iload_n (pc := 41) C d_S_append_41 rfl (lv_at hl 3 rfl) ?_
          refine r_sipush (pc := 42) C d_S_append_42 (by decide) ?_
          refine r_aload_n (pc := 45) C d_S_append_45 rfl (lv_at hl 1 rfl) ?_
          refine r_get (pc := 46) (v := .int (iI pl)) C w i_S rfl 0 rfl 3 (by decide) fl_S_22 rfl rfl d_S_append_46 ?_
          refine r_isub (pc := 49) C d_S_append_49 ?_
          refine r_icmp_gt (pc := 50) (tgt := 66) C (by omega) d_S_append_50 (by decide) (fun c_50 => ?_) (fun c_50 => ?_)
          · skip
            refine r_aload_n (pc := 66) C d_S_append_66 rfl (lv_at hl 1 rfl) ?_
            refine r_iconst (pc := 67) C d_S_append_67 ?_
            refine r_put (pc := 68) (ws' := sw cI q a b sg ln r pl 1 lc sd) C w i_S t_S t_S_ok n_S rfl 0 rfl 4 (by decide) fl_S_25 rfl rfl (by decide) (by decide) (Nat.le_of_ble_eq_true rfl) rfl d_S_append_68 (fun H locs w => ?_)
            exact kret _ _ _ _ _ d_S_append_71 w (⟨_, _, _, _, _, rfl, hV.over (by omega) (by omega) (by omega)⟩)
          · skip
            refine r_iload_n (pc := 53) C d_S_append_53 rfl (lv_at hl 0 rfl) ?_
            refine r_if_ne (pc := 54) (tgt := 72) C (by omega) d_S_append_54 (by decide) (fun c_54 => ?_) (fun c_54 => absurd c_54 (by omega))
            refine r_iload_n (pc := 72) C d_S_append_72 rfl (lv_at hl 0 rfl) ?_
            refine r_if_eq (pc := 73) (tgt := 94) C (by omega) d_S_append_73 (by decide) (fun c_73 => absurd c_73 (by omega)) (fun c_73 => ?_)
            refine r_aload_n (pc := 76) C d_S_append_76 rfl (lv_at hl 1 rfl) ?_
            refine r_get (pc := 77) (v := .ref b) C w i_S rfl 0 rfl 1 (by decide) fl_S_15 rfl rfl d_S_append_77 ?_
            refine r_aload_n (pc := 80) C d_S_append_80 rfl (lv_at hl 1 rfl) ?_
            refine r_get (pc := 81) (v := .int (iI r)) C w i_S rfl 0 rfl 2 (by decide) fl_S_18 rfl rfl d_S_append_81 ?_
            refine r_iconst (pc := 84) C d_S_append_84 ?_
            refine r_isub (pc := 85) C d_S_append_85 ?_
            have hlr := (hO.run (k := r - 1) (by omega) (by omega)).1
            refine r_dup2 (pc := 86) C d_S_append_86 rfl rfl ?_
            refine r_iald (pc := 87) (f := ln) (i := (r - 1)) C w 0 2 rfl hT.1 (by omega) d_S_append_87 ?_
            refine r_iload_n (pc := 88) C d_S_append_88 rfl (lv_at hl 3 rfl) ?_
            refine r_iadd (pc := 89) C d_S_append_89 ?_
            refine r_iast (pc := 90) (f := ln) (i := (r - 1)) (v := ((ln (r - 1)) + m)) (ws' := sw cI q a b sg (up ln (r - 1) ((ln (r - 1)) + m)) r pl ov lc sd) C w 0 2 rfl hT.1 (by omega) rfl d_S_append_90 (fun H locs w => ?_)
            refine r_goto (pc := 91) (tgt := 124) C d_S_append_91 (by decide) ?_
            refine r_aload_n (pc := 124) C d_S_append_124 rfl (lv_at hl 1 rfl) ?_
            refine r_dup (pc := 125) C d_S_append_125 rfl ?_
            refine r_get (pc := 126) (v := .int (iI pl)) C w i_S rfl 0 rfl 3 (by decide) fl_S_22 rfl rfl d_S_append_126 ?_
            refine r_iload_n (pc := 129) C d_S_append_129 rfl (lv_at hl 3 rfl) ?_
            refine r_iadd (pc := 130) C d_S_append_130 ?_
            refine r_put (pc := 131) (ws' := sw cI q a b sg (up ln (r - 1) ((ln (r - 1)) + m)) r (pl + m) ov lc sd) C w i_S t_S t_S_ok n_S rfl 0 rfl 3 (by decide) fl_S_22 rfl rfl rfl rfl (Nat.le_of_ble_eq_true rfl) rfl d_S_append_131 (fun H locs w => ?_)
            exact kret _ _ _ _ _ d_S_append_134 w (⟨_, _, _, _, _, rfl, by first | exact hV.join (by omega) (by omega) (by omega) (by omega) (by omega) | exact hV.push (by omega) (by omega) (by omega) (by omega) (by omega) hs⟩)
    · skip
      exact kret _ _ _ _ _ d_S_append_12 w (⟨sg, ln, r, pl, ov, rfl, hV.noop (by omega)⟩)
