/-! fault and load of the class -/
theorem d_D_fault_0 : decode b_D_fault 0 = .ok (.aload_n 0, 1) := by decide +kernel
theorem d_D_fault_1 : decode b_D_fault 1 = .ok (.getfield 16, 3) := by decide +kernel
theorem d_D_fault_4 : decode b_D_fault 4 = .ok (.aload_n 0, 1) := by decide +kernel
theorem d_D_fault_5 : decode b_D_fault 5 = .ok (.getfield 10, 3) := by decide +kernel
theorem d_D_fault_8 : decode b_D_fault 8 = .ok (.invokevirtual 65, 3) := by decide +kernel
theorem d_D_fault_11 : decode b_D_fault 11 = .ok (.aload_n 0, 1) := by decide +kernel
theorem d_D_fault_12 : decode b_D_fault 12 = .ok (.getfield 40, 3) := by decide +kernel
theorem d_D_fault_15 : decode b_D_fault 15 = .ok (.aload_n 0, 1) := by decide +kernel
theorem d_D_fault_16 : decode b_D_fault 16 = .ok (.getfield 16, 3) := by decide +kernel
theorem d_D_fault_19 : decode b_D_fault 19 = .ok (.invokevirtual 162, 3) := by decide +kernel
theorem d_D_fault_22 : decode b_D_fault 22 = .ok (.ireturn, 1) := by decide +kernel
set_option maxHeartbeats 4000000 in
set_option maxRecDepth 20000 in
theorem c_D_fault {l : Launch} {G : va_G} {tys : List (ClassId × FieldType)} {cI cO cZ : ClassId} (hT : TY tys cI cO cZ) (o : Nat) (A : AS) (ws : va_W) (hA : CW cI cO cZ o A ws) : CTI l G tys y_D_fault b_D_fault 1 .int 3 69 [.ref o] ws (fun z u => ∃ A' : AS, CW cI cO cZ o A' u ∧ Sp_fault A z A') := by
  obtain ⟨⟨lc, sd, r, sg, ln, N, v⟩, hist, rcd, slot, uf, T, m⟩ := A
  obtain ⟨hR, h, sl, us, pd, co, hf, sf, q, a, b, ov, q2, a2, b2, sg2, ln2, r2, pl2, ov2, lc2, sd2, q3, a3, b3, sg3, ln3, r3, pl3, ov3, lc3, sd3, st, rfl, hC⟩ := hA
  have hO := hR.1
  have hr5 := hR.2.1
  have hN3 := hR.2.2.1
  have hN0 := hO.n0
  have hr0 := hO.1
  have hlcd := hR.2.2.2
  have hm80 := hC.2.2.2.2.2.1
  have hrcd6 := hC.2.2.1
  refine mkI (by decide) (Nat.le_of_ble_eq_true rfl) ?_
  rintro X rfl rfl rfl hRm C kret H ls w hl
  have hl : lv_has ls 1 [(0, .ref o)] := hl
  have w : Wd X (dcore cI cO cZ o h sl us pd co q q2 q3 hf rcd sf uf T m ++ sw cI q a b sg ln r N ov lc sd ++ sw cI q2 a2 b2 sg2 ln2 r2 pl2 ov2 lc2 sd2 ++ sw cI q3 a3 b3 sg3 ln3 r3 pl3 ov3 lc3 sd3 ++ hst cI st) H [] := w
  generalize ([] : List Loc) = locs at w ⊢
  refine r_aload_n (pc := 0) C d_D_fault_0 rfl (lv_at hl 0 rfl) ?_
  refine r_get (pc := 1) (v := .ref q2) C w i_D rfl 0 rfl 1 (by decide) fl_D_16 rfl rfl d_D_fault_1 ?_
  refine r_aload_n (pc := 4) C d_D_fault_4 rfl (lv_at hl 0 rfl) ?_
  refine r_get (pc := 5) (v := .ref q) C w i_D rfl 0 rfl 0 (by decide) fl_D_10 rfl rfl d_D_fault_5 ?_
  refine r_callVV (pc := 8) (As := [.ref q]) (rest := []) (wr := (dcore cI cO cZ o h sl us pd co q q2 q3 hf rcd sf uf T m ++ sw cI q3 a3 b3 sg3 ln3 r3 pl3 ov3 lc3 sd3 ++ hst cI st)) C w (c_S_startLike hT q2 a2 b2 sg2 ln2 r2 pl2 ov2 lc2 sd2 q a b sg ln r N ov lc sd) ml_D_65 im_S_startLike se_S_startLike ini_S cd_S_startLike hd_S_startLike rfl (by rw [hRm]; exact ⟨⟨Nat.le_of_ble_eq_true rfl, Nat.le_of_ble_eq_true rfl⟩, Nat.le_of_ble_eq_true rfl, Nat.le_of_ble_eq_true rfl⟩) hl.1 [9, 10, 11, 6, 7, 8] [0, 1, 2, 3, 4, 5, 12, 13, 14, 15, 16, 17, 18, 19, 20, 21, 22, 23, 24, 25, 26, 27, 28, 29, 30, 31, 32, 33, 34, 35, 36, 37, 38] ⟨rfl, rfl, by decide, by decide, by decide⟩ 0 rfl rfl rfl (Nat.le_of_ble_eq_true rfl) d_D_fault_8 (fun u_8 H locs hz_8 w => ?_)
  subst hz_8
  have w : Wd X (dcore cI cO cZ o h sl us pd co q q2 q3 hf rcd sf uf T m ++ sw cI q a b sg ln r N ov lc sd ++ sw cI q2 a2 b2 sg2 ln2 0 0 0 lc sd ++ sw cI q3 a3 b3 sg3 ln3 r3 pl3 ov3 lc3 sd3 ++ hst cI st) H locs := w.sub [0, 1, 2, 3, 4, 5, 36, 37, 38, 33, 34, 35, 6, 7, 8, 9, 10, 11, 12, 13, 14, 15, 16, 17, 18, 19, 20, 21, 22, 23, 24, 25, 26, 27, 28, 29, 30, 31, 32] rfl (by decide)
  refine r_aload_n (pc := 11) C d_D_fault_11 rfl (lv_at hl 0 rfl) ?_
  refine r_get (pc := 12) (v := .ref pd) C w i_D rfl 0 rfl 7 (by decide) fl_D_40 rfl rfl d_D_fault_12 ?_
  refine r_aload_n (pc := 15) C d_D_fault_15 rfl (lv_at hl 0 rfl) ?_
  refine r_get (pc := 16) (v := .ref q2) C w i_D rfl 0 rfl 1 (by decide) fl_D_16 rfl rfl d_D_fault_16 ?_
  refine r_callVI (pc := 19) (As := [.ref q2]) (rest := []) (wr := (([(o, .inr (0, [.ref q, .ref q2, .ref q3, .ref h, .int (iI rcd), .ref sl, .ref us, .ref pd])), (h, aR cO 6 hf), (sl, aR cO 2 sf), (us, aI cZ 2 uf)] : va_W) ++ sw cI q a b sg ln r N ov lc sd ++ sw cI q3 a3 b3 sg3 ln3 r3 pl3 ov3 lc3 sd3 ++ hst cI st)) C w (c_P_readInto hT pd co m T q2 a2 b2 sg2 ln2 0 0 0 lc sd _ (RV.empty _ _ v) (by omega) hC.2.2.2.2.2.2) ml_D_162 im_P_readInto se_P_readInto ini_P cd_P_readInto hd_P_readInto rfl (by rw [hRm]; exact ⟨⟨Nat.le_of_ble_eq_true rfl, Nat.le_of_ble_eq_true rfl⟩, Nat.le_of_ble_eq_true rfl, Nat.le_of_ble_eq_true rfl⟩) hl.1 [4, 5, 9, 10, 11] [0, 1, 2, 3, 6, 7, 8, 12, 13, 14, 15, 16, 17, 18, 19, 20, 21, 22, 23, 24, 25, 26, 27, 28, 29, 30, 31, 32, 33, 34, 35, 36, 37, 38] ⟨rfl, rfl, by decide, by decide, by decide⟩ 0 rfl rfl rfl (Nat.le_of_ble_eq_true rfl) d_D_fault_19 (fun z_19 u_19 H locs hz_19 w => ?_)
  obtain ⟨hF_19, sg_19, ln_19, r_19, pl_19, ov_19, rfl, hV_19⟩ := hz_19
  have w : Wd X (dcore cI cO cZ o h sl us pd co q q2 q3 hf rcd sf uf T m ++ sw cI q a b sg ln r N ov lc sd ++ sw cI q2 a2 b2 sg_19 ln_19 r_19 pl_19 ov_19 lc sd ++ sw cI q3 a3 b3 sg3 ln3 r3 pl3 ov3 lc3 sd3 ++ hst cI st) H locs := w.sub [0, 1, 2, 3, 34, 35, 4, 5, 6, 36, 37, 38, 7, 8, 9, 10, 11, 12, 13, 14, 15, 16, 17, 18, 19, 20, 21, 22, 23, 24, 25, 26, 27, 28, 29, 30, 31, 32, 33] rfl (by decide)
  exact kret _ _ _ _ z_19 _ d_D_fault_22 w (⟨_, cw_mk hR hC, ⟨rfl, hF_19⟩⟩)
theorem d_D_load_0 : decode b_D_load 0 = .ok (.aload_n 0, 1) := by decide +kernel
theorem d_D_load_1 : decode b_D_load 1 = .ok (.getfield 16, 3) := by decide +kernel
theorem d_D_load_4 : decode b_D_load 4 = .ok (.aload_n 0, 1) := by decide +kernel
theorem d_D_load_5 : decode b_D_load 5 = .ok (.getfield 10, 3) := by decide +kernel
theorem d_D_load_8 : decode b_D_load 8 = .ok (.invokevirtual 65, 3) := by decide +kernel
theorem d_D_load_11 : decode b_D_load 11 = .ok (.aload_n 0, 1) := by decide +kernel
theorem d_D_load_12 : decode b_D_load 12 = .ok (.getfield 40, 3) := by decide +kernel
theorem d_D_load_15 : decode b_D_load 15 = .ok (.aload_n 0, 1) := by decide +kernel
theorem d_D_load_16 : decode b_D_load 16 = .ok (.getfield 16, 3) := by decide +kernel
theorem d_D_load_19 : decode b_D_load 19 = .ok (.invokevirtual 162, 3) := by decide +kernel
theorem d_D_load_22 : decode b_D_load 22 = .ok (.bipush (-6), 2) := by decide +kernel
theorem d_D_load_24 : decode b_D_load 24 = .ok (.if_icmp .eq 6, 3) := by decide +kernel
theorem d_D_load_27 : decode b_D_load 27 = .ok (.bipush (-3), 2) := by decide +kernel
theorem d_D_load_29 : decode b_D_load 29 = .ok (.ireturn, 1) := by decide +kernel
theorem d_D_load_30 : decode b_D_load 30 = .ok (.aload_n 0, 1) := by decide +kernel
theorem d_D_load_31 : decode b_D_load 31 = .ok (.aload_n 0, 1) := by decide +kernel
theorem d_D_load_32 : decode b_D_load 32 = .ok (.getfield 16, 3) := by decide +kernel
theorem d_D_load_35 : decode b_D_load 35 = .ok (.getfield 99, 3) := by decide +kernel
theorem d_D_load_38 : decode b_D_load 38 = .ok (.invokevirtual 55, 3) := by decide +kernel
theorem d_D_load_41 : decode b_D_load 41 = .ok (.istore_n 1, 1) := by decide +kernel
theorem d_D_load_42 : decode b_D_load 42 = .ok (.iload_n 1, 1) := by decide +kernel
theorem d_D_load_43 : decode b_D_load 43 = .ok (.bipush (-4), 2) := by decide +kernel
theorem d_D_load_45 : decode b_D_load 45 = .ok (.if_icmp .eq 11, 3) := by decide +kernel
theorem d_D_load_48 : decode b_D_load 48 = .ok (.aload_n 0, 1) := by decide +kernel
theorem d_D_load_49 : decode b_D_load 49 = .ok (.getfield 40, 3) := by decide +kernel
theorem d_D_load_52 : decode b_D_load 52 = .ok (.iconst 0, 1) := by decide +kernel
theorem d_D_load_53 : decode b_D_load 53 = .ok (.putfield 131, 3) := by decide +kernel
theorem d_D_load_56 : decode b_D_load 56 = .ok (.iload_n 1, 1) := by decide +kernel
theorem d_D_load_57 : decode b_D_load 57 = .ok (.ireturn, 1) := by decide +kernel
set_option maxHeartbeats 4000000 in
set_option maxRecDepth 20000 in
theorem c_D_load {l : Launch} {G : va_G} {tys : List (ClassId × FieldType)} {cI cO cZ : ClassId} (hT : TY tys cI cO cZ) (o : Nat) (A : AS) (ws : va_W) (hA : CW cI cO cZ o A ws) : CTI l G tys y_D_load b_D_load 2 .int 3 69 [.ref o] ws (fun z u => ∃ A' : AS, CW cI cO cZ o A' u ∧ Sp_load A z A') := by
  obtain ⟨⟨lc, sd, r, sg, ln, N, v⟩, hist, rcd, slot, uf, T, m⟩ := A
  obtain ⟨hR, h, sl, us, pd, co, hf, sf, q, a, b, ov, q2, a2, b2, sg2, ln2, r2, pl2, ov2, lc2, sd2, q3, a3, b3, sg3, ln3, r3, pl3, ov3, lc3, sd3, st, rfl, hC⟩ := hA
  have hO := hR.1
  have hr5 := hR.2.1
  have hN3 := hR.2.2.1
  have hN0 := hO.n0
  have hr0 := hO.1
  have hlcd := hR.2.2.2
  have hm80 := hC.2.2.2.2.2.1
  have hrcd6 := hC.2.2.1
  refine mkI (by decide) (Nat.le_of_ble_eq_true rfl) ?_
  rintro X rfl rfl rfl hRm C kret H ls w hl
  have hl : lv_has ls 2 [(0, .ref o)] := hl
  have w : Wd X (dcore cI cO cZ o h sl us pd co q q2 q3 hf rcd sf uf T m ++ sw cI q a b sg ln r N ov lc sd ++ sw cI q2 a2 b2 sg2 ln2 r2 pl2 ov2 lc2 sd2 ++ sw cI q3 a3 b3 sg3 ln3 r3 pl3 ov3 lc3 sd3 ++ hst cI st) H [] := w
  generalize ([] : List Loc) = locs at w ⊢
  refine r_aload_n (pc := 0) C d_D_load_0 rfl (lv_at hl 0 rfl) ?_
  refine r_get (pc := 1) (v := .ref q2) C w i_D rfl 0 rfl 1 (by decide) fl_D_16 rfl rfl d_D_load_1 ?_
  refine r_aload_n (pc := 4) C d_D_load_4 rfl (lv_at hl 0 rfl) ?_
  refine r_get (pc := 5) (v := .ref q) C w i_D rfl 0 rfl 0 (by decide) fl_D_10 rfl rfl d_D_load_5 ?_
  refine r_callVV (pc := 8) (As := [.ref q]) (rest := []) (wr := (dcore cI cO cZ o h sl us pd co q q2 q3 hf rcd sf uf T m ++ sw cI q3 a3 b3 sg3 ln3 r3 pl3 ov3 lc3 sd3 ++ hst cI st)) C w (c_S_startLike hT q2 a2 b2 sg2 ln2 r2 pl2 ov2 lc2 sd2 q a b sg ln r N ov lc sd) ml_D_65 im_S_startLike se_S_startLike ini_S cd_S_startLike hd_S_startLike rfl (by rw [hRm]; exact ⟨⟨Nat.le_of_ble_eq_true rfl, Nat.le_of_ble_eq_true rfl⟩, Nat.le_of_ble_eq_true rfl, Nat.le_of_ble_eq_true rfl⟩) hl.1 [9, 10, 11, 6, 7, 8] [0, 1, 2, 3, 4, 5, 12, 13, 14, 15, 16, 17, 18, 19, 20, 21, 22, 23, 24, 25, 26, 27, 28, 29, 30, 31, 32, 33, 34, 35, 36, 37, 38] ⟨rfl, rfl, by decide, by decide, by decide⟩ 0 rfl rfl rfl (Nat.le_of_ble_eq_true rfl) d_D_load_8 (fun u_8 H locs hz_8 w => ?_)
  subst hz_8
  have w : Wd X (dcore cI cO cZ o h sl us pd co q q2 q3 hf rcd sf uf T m ++ sw cI q a b sg ln r N ov lc sd ++ sw cI q2 a2 b2 sg2 ln2 0 0 0 lc sd ++ sw cI q3 a3 b3 sg3 ln3 r3 pl3 ov3 lc3 sd3 ++ hst cI st) H locs := w.sub [0, 1, 2, 3, 4, 5, 36, 37, 38, 33, 34, 35, 6, 7, 8, 9, 10, 11, 12, 13, 14, 15, 16, 17, 18, 19, 20, 21, 22, 23, 24, 25, 26, 27, 28, 29, 30, 31, 32] rfl (by decide)
  refine r_aload_n (pc := 11) C d_D_load_11 rfl (lv_at hl 0 rfl) ?_
  refine r_get (pc := 12) (v := .ref pd) C w i_D rfl 0 rfl 7 (by decide) fl_D_40 rfl rfl d_D_load_12 ?_
  refine r_aload_n (pc := 15) C d_D_load_15 rfl (lv_at hl 0 rfl) ?_
  refine r_get (pc := 16) (v := .ref q2) C w i_D rfl 0 rfl 1 (by decide) fl_D_16 rfl rfl d_D_load_16 ?_
  refine r_callVI (pc := 19) (As := [.ref q2]) (rest := []) (wr := (([(o, .inr (0, [.ref q, .ref q2, .ref q3, .ref h, .int (iI rcd), .ref sl, .ref us, .ref pd])), (h, aR cO 6 hf), (sl, aR cO 2 sf), (us, aI cZ 2 uf)] : va_W) ++ sw cI q a b sg ln r N ov lc sd ++ sw cI q3 a3 b3 sg3 ln3 r3 pl3 ov3 lc3 sd3 ++ hst cI st)) C w (c_P_readInto hT pd co m T q2 a2 b2 sg2 ln2 0 0 0 lc sd _ (RV.empty _ _ v) (by omega) hC.2.2.2.2.2.2) ml_D_162 im_P_readInto se_P_readInto ini_P cd_P_readInto hd_P_readInto rfl (by rw [hRm]; exact ⟨⟨Nat.le_of_ble_eq_true rfl, Nat.le_of_ble_eq_true rfl⟩, Nat.le_of_ble_eq_true rfl, Nat.le_of_ble_eq_true rfl⟩) hl.1 [4, 5, 9, 10, 11] [0, 1, 2, 3, 6, 7, 8, 12, 13, 14, 15, 16, 17, 18, 19, 20, 21, 22, 23, 24, 25, 26, 27, 28, 29, 30, 31, 32, 33, 34, 35, 36, 37, 38] ⟨rfl, rfl, by decide, by decide, by decide⟩ 0 rfl rfl rfl (Nat.le_of_ble_eq_true rfl) d_D_load_19 (fun z_19 u_19 H locs hz_19 w => ?_)
  obtain ⟨hF_19, sg_19, ln_19, r_19, pl_19, ov_19, rfl, hV_19⟩ := hz_19
  have w : Wd X (dcore cI cO cZ o h sl us pd co q q2 q3 hf rcd sf uf T m ++ sw cI q a b sg ln r N ov lc sd ++ sw cI q2 a2 b2 sg_19 ln_19 r_19 pl_19 ov_19 lc sd ++ sw cI q3 a3 b3 sg3 ln3 r3 pl3 ov3 lc3 sd3 ++ hst cI st) H locs := w.sub [0, 1, 2, 3, 34, 35, 4, 5, 6, 36, 37, 38, 7, 8, 9, 10, 11, 12, 13, 14, 15, 16, 17, 18, 19, 20, 21, 22, 23, 24, 25, 26, 27, 28, 29, 30, 31, 32, 33] rfl (by decide)
  have hzr := hF_19.rg (by omega)
  refine r_bipush (pc := 22) C d_D_load_22 (by decide) ?_
  refine r_icmp_eq (pc := 24) (tgt := 30) C (by omega) d_D_load_24 (by decide) (fun c_24 => ?_) (fun c_24 => ?_)
  · skip
    have hF := hF_19
    rw [show z_19 = -6 by omega] at hF
    have hV8 := hV_19 (by omega)
    refine r_aload_n (pc := 30) C d_D_load_30 rfl (lv_at hl 0 rfl) ?_
    refine r_aload_n (pc := 31) C d_D_load_31 rfl (lv_at hl 0 rfl) ?_
    refine r_get (pc := 32) (v := .ref q2) C w i_D rfl 0 rfl 1 (by decide) fl_D_16 rfl rfl d_D_load_32 ?_
    refine r_get (pc := 35) (v := .int (iI r_19)) C w i_S rfl 9 rfl 2 (by decide) fl_D_99 rfl rfl d_D_load_35 ?_
    refine r_callVI (pc := 38) (As := [.int (iI r_19)]) (rest := []) (wr := []) C w (c_D_accepted hT o h sl us pd co hf sf rcd m uf T q a b sg ln r N ov lc sd q2 a2 b2 sg_19 ln_19 r_19 pl_19 ov_19 lc sd q3 a3 b3 sg3 ln3 r3 pl3 ov3 lc3 sd3 st r_19 _ v _ hist slot hR hC hV8 (by omega)) ml_D_55 im_D_accepted se_D_accepted ini_D cd_D_accepted hd_D_accepted rfl (by rw [hRm]; exact ⟨⟨Nat.le_of_ble_eq_true rfl, Nat.le_of_ble_eq_true rfl⟩, Nat.le_of_ble_eq_true rfl, Nat.le_of_ble_eq_true rfl⟩) hl.1 [0, 1, 2, 3, 4, 5, 6, 7, 8, 9, 10, 11, 12, 13, 14, 15, 16, 17, 18, 19, 20, 21, 22, 23, 24, 25, 26, 27, 28, 29, 30, 31, 32, 33, 34, 35, 36, 37, 38] [] ⟨rfl, rfl, by decide, by decide, by decide⟩ 0 rfl rfl rfl (Nat.le_of_ble_eq_true rfl) d_D_load_38 (fun z_38 u_38 H locs hz_38 w => ?_)
    rcases hz_38 with ⟨f1, f2, rfl⟩ | ⟨f1, f2, A2, f3, f4⟩
    · subst f2
      have w : Wd X (dcore cI cO cZ o h sl us pd co q q2 q3 hf rcd sf uf T m ++ sw cI q a b sg ln r N ov lc sd ++ sw cI q2 a2 b2 sg_19 ln_19 r_19 pl_19 ov_19 lc sd ++ sw cI q3 a3 b3 sg3 ln3 r3 pl3 ov3 lc3 sd3 ++ hst cI st) H locs := w
      refine r_istore_n (pc := 41) (lv' := [(1, .int (iI (-4))), (0, .ref o)]) C d_D_load_41 rfl hl (by decide) rfl (fun ls hl => ?_)
      refine r_iload_n (pc := 42) C d_D_load_42 rfl (lv_at hl 0 rfl) ?_
      refine r_bipush (pc := 43) C d_D_load_43 (by decide) ?_
      refine r_icmp_eq (pc := 45) (tgt := 56) C (by omega) d_D_load_45 (by decide) (fun c_45 => ?_) (fun c_45 => absurd c_45 (by omega))
      refine r_iload_n (pc := 56) C d_D_load_56 rfl (lv_at hl 0 rfl) ?_
      exact kret _ _ _ _ (-4) _ d_D_load_57 w (⟨_, cw_mk hR hC, Or.inr (Or.inl ⟨hF, f1, rfl, rfl⟩)⟩)
    · skip
      obtain ⟨⟨lc', sd', r', sg', ln', N', v'⟩, hist', rcd', slot', uf', T', m'⟩ := A2
      have hPu := f4
      obtain ⟨p1, p2, p3, p4, p5, p6, p7, p8, p9, p10⟩ := f4
      subst p6 p7 p8 p9
      obtain ⟨hR', h', sl', us', pd', co', hf', sf', q', a', b', ov', q2', a2', b2', sg2', ln2', r2', pl2', ov2', lc2', sd2', q3', a3', b3', sg3', ln3', r3', pl3', ov3', lc3', sd3', st', rfl, hC'⟩ := f3
      have w : Wd X (dcore cI cO cZ o h' sl' us' pd' co' q' q2' q3' hf' rcd' sf' uf' T' m' ++ sw cI q' a' b' sg' ln' r' N' ov' lc' sd' ++ sw cI q2' a2' b2' sg2' ln2' r2' pl2' ov2' lc2' sd2' ++ sw cI q3' a3' b3' sg3' ln3' r3' pl3' ov3' lc3' sd3' ++ hst cI st') H locs := w
      have hrr := (hV8.2.1 f1).2.2
      have hr09 := hrr.1
      have hr10 : r_19 ≤ 50 := by have := hrr.rcE; have := f1.2; omega
      refine r_istore_n (pc := 41) (lv' := [(1, .int (iI z_38)), (0, .ref o)]) C d_D_load_41 rfl hl (by decide) rfl (fun ls hl => ?_)
      refine r_iload_n (pc := 42) C d_D_load_42 rfl (lv_at hl 0 rfl) ?_
      refine r_bipush (pc := 43) C d_D_load_43 (by decide) ?_
      refine r_icmp_eq (pc := 45) (tgt := 56) C (by omega) d_D_load_45 (by decide) (fun c_45 => ?_) (fun c_45 => ?_)
      · skip
        exact absurd c_45 (by omega)
      · skip
        refine r_aload_n (pc := 48) C d_D_load_48 rfl (lv_at hl 1 rfl) ?_
        refine r_get (pc := 49) (v := .ref pd') C w i_D rfl 0 rfl 7 (by decide) fl_D_40 rfl rfl d_D_load_49 ?_
        refine r_iconst (pc := 52) C d_D_load_52 ?_
        refine r_put (pc := 53) (ws' := dcore cI cO cZ o h' sl' us' pd' co' q' q2' q3' hf' rcd' sf' uf' T' 0 ++ sw cI q' a' b' sg' ln' r' N' ov' lc' sd' ++ sw cI q2' a2' b2' sg2' ln2' r2' pl2' ov2' lc2' sd2' ++ sw cI q3' a3' b3' sg3' ln3' r3' pl3' ov3' lc3' sd3' ++ hst cI st') C w i_P t_P t_P_ok n_P rfl 4 rfl 1 (by decide) fl_D_131 rfl rfl rfl rfl (Nat.le_of_ble_eq_true rfl) rfl d_D_load_53 (fun H locs w => ?_)
        refine r_iload_n (pc := 56) C d_D_load_56 rfl (lv_at hl 0 rfl) ?_
        exact kret _ _ _ _ z_38 _ d_D_load_57 w (⟨((lc', sd', r', sg', ln', N', v'), hist', rcd', _, _, _, 0), cw_mk hR' ⟨hC'.1, hC'.2.1, hC'.2.2.1, hC'.2.2.2.1, hC'.2.2.2.2.1, by omega, fun x h1 h2 => by omega⟩, Or.inr (Or.inr ⟨hF, f1, f2.trans hrr.rcE.symm, (lc', sd', r', sg', ln', N', v'), hist', rcd', hPu, rfl⟩)⟩)
  · skip
    refine r_bipush (pc := 27) C d_D_load_27 (by decide) ?_
    exact kret _ _ _ _ (-3) _ d_D_load_29 w (⟨_, cw_mk hR hC, Or.inl ⟨z_19, hF_19, by omega, rfl, rfl⟩⟩)
