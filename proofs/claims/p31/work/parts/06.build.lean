/-! how a State's row is built out of another's -/
theorem RV.to {r pl ov n n' : Int} {sg ln v u : Int → Int} (h : RV r pl ov sg ln n v) (hn : n = n') (hv : ∀ x, 0 ≤ x → x < n → v x = u x) : RV r pl ov sg ln n' u := by
  subst hn
  exact h.ext hv
/-- v, then u from place f on -/
def cat (v : Int → Int) (n : Int) (u : Int → Int) (f : Int) : Int → Int := fun x => if x < n then v x else u (x - n + f)
theorem cat_lt {v u : Int → Int} {n f x : Int} (h : x < n) : cat v n u f x = v x := by simp [cat, h]
theorem cat_ge {v u : Int → Int} {n f x : Int} (h : n ≤ x) : cat v n u f x = u (x - n + f) := by simp [cat]; omega
theorem piece_step {r pl ov n N e f z S k r2 : Int} {sg ln v u sg2 ln2 : Int → Int} (hO : Ok r2 sg2 ln2 N u) (h1 : 0 ≤ k) (h2 : k < r2) (hf : 0 ≤ f) (hS : S = ps ln2 k) (h : RV r pl ov sg ln (n + max 0 (min S e - f) + max 0 z) (app (cat v n u f) (n + max 0 (min S e - f)) (sg2 k))) (hz : z = max 0 (min (S + ln2 k) e - max S f)) : RV r pl ov sg ln (n + max 0 (min (S + ln2 k) e - f)) (cat v n u f) := by
  obtain ⟨g1, g2, g3, g4, g5, g6⟩ := hO.run h1 h2
  refine h.to (by omega) (fun x q1 q2 => ?_)
  by_cases hx : x < n + max 0 (min S e - f)
  · rw [app_lt hx]
  · rw [app_ge (by omega), cat_ge (by omega)]
    exact (hO.2.2.2.2 k h1 h2 _ (by omega) (by omega)).symm
theorem d_S_startLike_0 : decode b_S_startLike 0 = .ok (.aload_n 0, 1) := by decide +kernel
theorem d_S_startLike_1 : decode b_S_startLike 1 = .ok (.iconst 0, 1) := by decide +kernel
theorem d_S_startLike_2 : decode b_S_startLike 2 = .ok (.putfield 18, 3) := by decide +kernel
theorem d_S_startLike_5 : decode b_S_startLike 5 = .ok (.aload_n 0, 1) := by decide +kernel
theorem d_S_startLike_6 : decode b_S_startLike 6 = .ok (.iconst 0, 1) := by decide +kernel
theorem d_S_startLike_7 : decode b_S_startLike 7 = .ok (.putfield 22, 3) := by decide +kernel
theorem d_S_startLike_10 : decode b_S_startLike 10 = .ok (.aload_n 0, 1) := by decide +kernel
theorem d_S_startLike_11 : decode b_S_startLike 11 = .ok (.iconst 0, 1) := by decide +kernel
theorem d_S_startLike_12 : decode b_S_startLike 12 = .ok (.putfield 25, 3) := by decide +kernel
theorem d_S_startLike_15 : decode b_S_startLike 15 = .ok (.aload_n 0, 1) := by decide +kernel
theorem d_S_startLike_16 : decode b_S_startLike 16 = .ok (.aload_n 1, 1) := by decide +kernel
theorem d_S_startLike_17 : decode b_S_startLike 17 = .ok (.getfield 29, 3) := by decide +kernel
theorem d_S_startLike_20 : decode b_S_startLike 20 = .ok (.putfield 29, 3) := by decide +kernel
theorem d_S_startLike_23 : decode b_S_startLike 23 = .ok (.aload_n 0, 1) := by decide +kernel
theorem d_S_startLike_24 : decode b_S_startLike 24 = .ok (.aload_n 1, 1) := by decide +kernel
theorem d_S_startLike_25 : decode b_S_startLike 25 = .ok (.getfield 32, 3) := by decide +kernel
theorem d_S_startLike_28 : decode b_S_startLike 28 = .ok (.putfield 32, 3) := by decide +kernel
theorem d_S_startLike_31 : decode b_S_startLike 31 = .ok (.return_, 1) := by decide +kernel
set_option maxHeartbeats 4000000 in
set_option maxRecDepth 20000 in
theorem c_S_startLike {l : Launch} {G : va_G} {tys : List (ClassId × FieldType)} {cI cO cZ : ClassId} (hT : TY tys cI cO cZ) (q a b : Nat) (sg ln : Int → Int) (r pl ov lc sd : Int) (q2 a2 b2 : Nat) (sg2 ln2 : Int → Int) (r2 pl2 ov2 lc2 sd2 : Int) : CTV l G tys y_S_startLike b_S_startLike 2 0 0 [.ref q, .ref q2] (sw cI q a b sg ln r pl ov lc sd ++ sw cI q2 a2 b2 sg2 ln2 r2 pl2 ov2 lc2 sd2) (fun u => u = sw cI q a b sg ln 0 0 0 lc2 sd2 ++ sw cI q2 a2 b2 sg2 ln2 r2 pl2 ov2 lc2 sd2) := by
  refine mkV (by decide) (Nat.le_of_ble_eq_true rfl) ?_
  rintro X rfl rfl rfl hRm C kret H ls w hl
  have hl : lv_has ls 2 [(0, .ref q), (1, .ref q2)] := hl
  have w : Wd X (sw cI q a b sg ln r pl ov lc sd ++ sw cI q2 a2 b2 sg2 ln2 r2 pl2 ov2 lc2 sd2) H [] := w
  generalize ([] : List Loc) = locs at w ⊢
  refine r_aload_n (pc := 0) C d_S_startLike_0 rfl (lv_at hl 0 rfl) ?_
  refine r_iconst (pc := 1) C d_S_startLike_1 ?_
  refine r_put (pc := 2) (ws' := sw cI q a b sg ln 0 pl ov lc sd ++ sw cI q2 a2 b2 sg2 ln2 r2 pl2 ov2 lc2 sd2) C w i_S t_S t_S_ok n_S rfl 0 rfl 2 (by decide) fl_S_18 rfl rfl rfl rfl (Nat.le_of_ble_eq_true rfl) rfl d_S_startLike_2 (fun H locs w => ?_)
  refine r_aload_n (pc := 5) C d_S_startLike_5 rfl (lv_at hl 0 rfl) ?_
  refine r_iconst (pc := 6) C d_S_startLike_6 ?_
  refine r_put (pc := 7) (ws' := sw cI q a b sg ln 0 0 ov lc sd ++ sw cI q2 a2 b2 sg2 ln2 r2 pl2 ov2 lc2 sd2) C w i_S t_S t_S_ok n_S rfl 0 rfl 3 (by decide) fl_S_22 rfl rfl rfl rfl (Nat.le_of_ble_eq_true rfl) rfl d_S_startLike_7 (fun H locs w => ?_)
  refine r_aload_n (pc := 10) C d_S_startLike_10 rfl (lv_at hl 0 rfl) ?_
  refine r_iconst (pc := 11) C d_S_startLike_11 ?_
  refine r_put (pc := 12) (ws' := sw cI q a b sg ln 0 0 0 lc sd ++ sw cI q2 a2 b2 sg2 ln2 r2 pl2 ov2 lc2 sd2) C w i_S t_S t_S_ok n_S rfl 0 rfl 4 (by decide) fl_S_25 rfl rfl (by decide) (by decide) (Nat.le_of_ble_eq_true rfl) rfl d_S_startLike_12 (fun H locs w => ?_)
  refine r_aload_n (pc := 15) C d_S_startLike_15 rfl (lv_at hl 0 rfl) ?_
  refine r_aload_n (pc := 16) C d_S_startLike_16 rfl (lv_at hl 1 rfl) ?_
  refine r_get (pc := 17) (v := .int (iI lc2)) C w i_S rfl 3 rfl 5 (by decide) fl_S_29 rfl rfl d_S_startLike_17 ?_
  refine r_put (pc := 20) (ws' := sw cI q a b sg ln 0 0 0 lc2 sd ++ sw cI q2 a2 b2 sg2 ln2 r2 pl2 ov2 lc2 sd2) C w i_S t_S t_S_ok n_S rfl 0 rfl 5 (by decide) fl_S_29 rfl rfl rfl rfl (Nat.le_of_ble_eq_true rfl) rfl d_S_startLike_20 (fun H locs w => ?_)
  refine r_aload_n (pc := 23) C d_S_startLike_23 rfl (lv_at hl 0 rfl) ?_
  refine r_aload_n (pc := 24) C d_S_startLike_24 rfl (lv_at hl 1 rfl) ?_
  refine r_get (pc := 25) (v := .int (iI sd2)) C w i_S rfl 3 rfl 6 (by decide) fl_S_32 rfl rfl d_S_startLike_25 ?_
  refine r_put (pc := 28) (ws' := sw cI q a b sg ln 0 0 0 lc2 sd2 ++ sw cI q2 a2 b2 sg2 ln2 r2 pl2 ov2 lc2 sd2) C w i_S t_S t_S_ok n_S rfl 0 rfl 6 (by decide) fl_S_32 rfl rfl rfl rfl (Nat.le_of_ble_eq_true rfl) rfl d_S_startLike_28 (fun H locs w => ?_)
  exact kret _ _ _ _ _ d_S_startLike_31 w (rfl)
theorem d_S_appendPiece_0 : decode b_S_appendPiece 0 = .ok (.iconst 0, 1) := by decide +kernel
theorem d_S_appendPiece_1 : decode b_S_appendPiece 1 = .ok (.istore 4, 2) := by decide +kernel
theorem d_S_appendPiece_3 : decode b_S_appendPiece 3 = .ok (.iconst 0, 1) := by decide +kernel
theorem d_S_appendPiece_4 : decode b_S_appendPiece 4 = .ok (.istore 5, 2) := by decide +kernel
theorem d_S_appendPiece_6 : decode b_S_appendPiece 6 = .ok (.iload 5, 2) := by decide +kernel
theorem d_S_appendPiece_8 : decode b_S_appendPiece 8 = .ok (.aload_n 1, 1) := by decide +kernel
theorem d_S_appendPiece_9 : decode b_S_appendPiece 9 = .ok (.getfield 18, 3) := by decide +kernel
theorem d_S_appendPiece_12 : decode b_S_appendPiece 12 = .ok (.if_icmp .ge 49, 3) := by decide +kernel
theorem d_S_appendPiece_15 : decode b_S_appendPiece 15 = .ok (.aload_n 0, 1) := by decide +kernel
theorem d_S_appendPiece_16 : decode b_S_appendPiece 16 = .ok (.aload_n 1, 1) := by decide +kernel
theorem d_S_appendPiece_17 : decode b_S_appendPiece 17 = .ok (.getfield 9, 3) := by decide +kernel
theorem d_S_appendPiece_20 : decode b_S_appendPiece 20 = .ok (.iload 5, 2) := by decide +kernel
theorem d_S_appendPiece_22 : decode b_S_appendPiece 22 = .ok (.iaload, 1) := by decide +kernel
theorem d_S_appendPiece_23 : decode b_S_appendPiece 23 = .ok (.iload 4, 2) := by decide +kernel
theorem d_S_appendPiece_25 : decode b_S_appendPiece 25 = .ok (.iload 4, 2) := by decide +kernel
theorem d_S_appendPiece_27 : decode b_S_appendPiece 27 = .ok (.aload_n 1, 1) := by decide +kernel
theorem d_S_appendPiece_28 : decode b_S_appendPiece 28 = .ok (.getfield 15, 3) := by decide +kernel
theorem d_S_appendPiece_31 : decode b_S_appendPiece 31 = .ok (.iload 5, 2) := by decide +kernel
theorem d_S_appendPiece_33 : decode b_S_appendPiece 33 = .ok (.iaload, 1) := by decide +kernel
theorem d_S_appendPiece_34 : decode b_S_appendPiece 34 = .ok (.iadd, 1) := by decide +kernel
theorem d_S_appendPiece_35 : decode b_S_appendPiece 35 = .ok (.iload_n 2, 1) := by decide +kernel
theorem d_S_appendPiece_36 : decode b_S_appendPiece 36 = .ok (.iload_n 3, 1) := by decide +kernel
theorem d_S_appendPiece_37 : decode b_S_appendPiece 37 = .ok (.invokestatic 43, 3) := by decide +kernel
theorem d_S_appendPiece_40 : decode b_S_appendPiece 40 = .ok (.invokevirtual 47, 3) := by decide +kernel
theorem d_S_appendPiece_43 : decode b_S_appendPiece 43 = .ok (.iload 4, 2) := by decide +kernel
theorem d_S_appendPiece_45 : decode b_S_appendPiece 45 = .ok (.aload_n 1, 1) := by decide +kernel
theorem d_S_appendPiece_46 : decode b_S_appendPiece 46 = .ok (.getfield 15, 3) := by decide +kernel
theorem d_S_appendPiece_49 : decode b_S_appendPiece 49 = .ok (.iload 5, 2) := by decide +kernel
theorem d_S_appendPiece_51 : decode b_S_appendPiece 51 = .ok (.iaload, 1) := by decide +kernel
theorem d_S_appendPiece_52 : decode b_S_appendPiece 52 = .ok (.iadd, 1) := by decide +kernel
theorem d_S_appendPiece_53 : decode b_S_appendPiece 53 = .ok (.istore 4, 2) := by decide +kernel
theorem d_S_appendPiece_55 : decode b_S_appendPiece 55 = .ok (.iinc 5 1, 3) := by decide +kernel
theorem d_S_appendPiece_58 : decode b_S_appendPiece 58 = .ok (.goto (-52), 3) := by decide +kernel
theorem d_S_appendPiece_61 : decode b_S_appendPiece 61 = .ok (.return_, 1) := by decide +kernel
set_option maxHeartbeats 4000000 in
set_option maxRecDepth 20000 in
theorem c_S_appendPiece {l : Launch} {G : va_G} {tys : List (ClassId × FieldType)} {cI cO cZ : ClassId} (hT : TY tys cI cO cZ) (q a b : Nat) (sg ln : Int → Int) (r pl ov lc sd : Int) (q2 a2 b2 : Nat) (sg2 ln2 : Int → Int) (r2 pl2 ov2 lc2 sd2 : Int) (n N e f : Int) (v u : Int → Int) (hV : RV r pl ov sg ln n v) (hO : Ok r2 sg2 ln2 N u) (hr : r2 ≤ 50) (hN : N ≤ 3000) (hf : 0 ≤ f ∧ f ≤ 100000000) (he : 0 ≤ e ∧ e ≤ 100000000) : CTV l G tys y_S_appendPiece b_S_appendPiece 6 2 42 [.ref q, .ref q2, .int (iI f), .int (iI e)] (sw cI q a b sg ln r pl ov lc sd ++ sw cI q2 a2 b2 sg2 ln2 r2 pl2 ov2 lc2 sd2) (fun w => ∃ (sg' ln' : Int → Int) (r' pl' ov' : Int), w = sw cI q a b sg' ln' r' pl' ov' lc sd ++ sw cI q2 a2 b2 sg2 ln2 r2 pl2 ov2 lc2 sd2 ∧ RV r' pl' ov' sg' ln' (n + max 0 (min N e - f)) (cat v n u f)) := by
  refine mkV (by decide) (Nat.le_of_ble_eq_true rfl) ?_
  rintro X rfl rfl rfl hRm C kret H ls w hl
  have hl : lv_has ls 6 [(0, .ref q), (1, .ref q2), (2, .int (iI f)), (3, .int (iI e))] := hl
  have w : Wd X (sw cI q a b sg ln r pl ov lc sd ++ sw cI q2 a2 b2 sg2 ln2 r2 pl2 ov2 lc2 sd2) H [] := w
  generalize ([] : List Loc) = locs at w ⊢
  have hr0 := hO.1
  have hN0 := hO.n0
  have hps := ps_zero ln2
  refine r_iconst (pc := 0) C d_S_appendPiece_0 ?_
  refine r_istore (pc := 1) (lv' := [(4, .int (iI 0)), (0, .ref q), (1, .ref q2), (2, .int (iI f)), (3, .int (iI e))]) C d_S_appendPiece_1 hl (by decide) rfl (fun ls hl => ?_)
  refine r_iconst (pc := 3) C d_S_appendPiece_3 ?_
  refine r_istore (pc := 4) (lv' := [(5, .int (iI 0)), (4, .int (iI 0)), (0, .ref q), (1, .ref q2), (2, .int (iI f)), (3, .int (iI e))]) C d_S_appendPiece_4 hl (by decide) rfl (fun ls hl => ?_)
  have L6 : ∀ (fuel : Nat), ∀ (run : Int) (start : Int) (sg1 : Int → Int) (ln1 : Int → Int) (r1 : Int) (pl1 : Int) (ov1 : Int), 0 ≤ run ∧ run ≤ r2 → start = ps ln2 run → RV r1 pl1 ov1 sg1 ln1 (n + max 0 (min start e - f)) (cat v n u f) → (r2 - run) < (fuel : Int) → ∀ (H : Heap) (locs : List Loc) (ls : Array Slot), Wd X (sw cI q a b sg1 ln1 r1 pl1 ov1 lc sd ++ sw cI q2 a2 b2 sg2 ln2 r2 pl2 ov2 lc2 sd2) H locs → lv_has ls 6 [(0, .ref q), (1, .ref q2), (2, .int (iI f)), (3, .int (iI e)), (4, .int (iI start)), (5, .int (iI run))] → GG X 0 0 H locs 6 ls [] := by
    intro fuel
    induction fuel with
    | zero =>
      intro run start sg1 ln1 r1 pl1 ov1 h0 hst hV1 hfuel
      exact absurd hfuel (by omega)
    | succ fuel ih6 =>
      intro run start sg1 ln1 r1 pl1 ov1 h0 hst hV1 hfuel H locs ls w hl
      refine r_iload (pc := 6) C d_S_appendPiece_6 (lv_at hl 5 rfl) ?_
      refine r_aload_n (pc := 8) C d_S_appendPiece_8 rfl (lv_at hl 1 rfl) ?_
      refine r_get (pc := 9) (v := .int (iI r2)) C w i_S rfl 3 rfl 2 (by decide) fl_S_18 rfl rfl d_S_appendPiece_9 ?_
      refine r_icmp_ge (pc := 12) (tgt := 61) C (by omega) d_S_appendPiece_12 (by decide) (fun c_12 => ?_) (fun c_12 => ?_)
      · skip
        exact kret _ _ _ _ _ d_S_appendPiece_61 w (⟨_, _, _, _, _, rfl, hV1.to (by rw [show start = N by rw [hst, show run = r2 by omega]; exact hO.2.2.2.1]) (fun _ _ _ => rfl)⟩)
      · skip
        have hk := hO.run (k := run) (by omega) (by omega)
        refine r_aload_n (pc := 15) C d_S_appendPiece_15 rfl (lv_at hl 0 rfl) ?_
        refine r_aload_n (pc := 16) C d_S_appendPiece_16 rfl (lv_at hl 1 rfl) ?_
        refine r_get (pc := 17) (v := .ref a2) C w i_S rfl 3 rfl 0 (by decide) fl_S_9 rfl rfl d_S_appendPiece_17 ?_
        refine r_iload (pc := 20) C d_S_appendPiece_20 (lv_at hl 5 rfl) ?_
        refine r_iald (pc := 22) (f := sg2) (i := run) C w 0 4 rfl hT.1 (by omega) d_S_appendPiece_22 ?_
        refine r_iload (pc := 23) C d_S_appendPiece_23 (lv_at hl 4 rfl) ?_
        refine r_iload (pc := 25) C d_S_appendPiece_25 (lv_at hl 4 rfl) ?_
        refine r_aload_n (pc := 27) C d_S_appendPiece_27 rfl (lv_at hl 1 rfl) ?_
        refine r_get (pc := 28) (v := .ref b2) C w i_S rfl 3 rfl 1 (by decide) fl_S_15 rfl rfl d_S_appendPiece_28 ?_
        refine r_iload (pc := 31) C d_S_appendPiece_31 (lv_at hl 5 rfl) ?_
        refine r_iald (pc := 33) (f := ln2) (i := run) C w 0 5 rfl hT.1 (by omega) d_S_appendPiece_33 ?_
        refine r_iadd (pc := 34) C d_S_appendPiece_34 ?_
        refine r_iload_n (pc := 35) C d_S_appendPiece_35 rfl (lv_at hl 2 rfl) ?_
        refine r_iload_n (pc := 36) C d_S_appendPiece_36 rfl (lv_at hl 3 rfl) ?_
        refine r_callP (pc := 37) (As := [.int (iI start), .int (iI (start + (ln2 run))), .int (iI f), .int (iI e)]) (rest := [.int (iI (sg2 run)), .ref q]) C w (c_S_shared start (start + (ln2 run)) f e (by omega)) ml_S_43 st_S_shared ini_S cd_S_shared hd_S_shared rfl (by rw [hRm]; exact ⟨⟨Nat.le_of_ble_eq_true rfl, Nat.le_of_ble_eq_true rfl⟩, Nat.le_of_ble_eq_true rfl, Nat.le_of_ble_eq_true rfl⟩) hl.1 rfl (Nat.le_of_ble_eq_true rfl) d_S_appendPiece_37 (fun z_37 H locs hz_37 w => ?_)
        refine r_callVV (pc := 40) (As := [.int (iI (sg2 run)), .int (iI z_37)]) (rest := []) (wr := (sw cI q2 a2 b2 sg2 ln2 r2 pl2 ov2 lc2 sd2)) C w (c_S_append hT q a b sg1 ln1 r1 pl1 ov1 lc sd (sg2 run) z_37 _ _ hV1 (by omega) (by omega)) ml_S_47 im_S_append se_S_append ini_S cd_S_append hd_S_append rfl (by rw [hRm]; exact ⟨⟨Nat.le_of_ble_eq_true rfl, Nat.le_of_ble_eq_true rfl⟩, Nat.le_of_ble_eq_true rfl, Nat.le_of_ble_eq_true rfl⟩) hl.1 [0, 1, 2] [3, 4, 5] ⟨rfl, rfl, by decide, by decide, by decide⟩ 0 rfl rfl rfl (Nat.le_of_ble_eq_true rfl) d_S_appendPiece_40 (fun u_40 H locs hz_40 w => ?_)
        obtain ⟨sg_40, ln_40, r_40, pl_40, ov_40, rfl, hV_40⟩ := hz_40
        have w : Wd X (sw cI q a b sg_40 ln_40 r_40 pl_40 ov_40 lc sd ++ sw cI q2 a2 b2 sg2 ln2 r2 pl2 ov2 lc2 sd2) H locs := w.sub [3, 4, 5, 0, 1, 2] rfl (by decide)
        refine r_iload (pc := 43) C d_S_appendPiece_43 (lv_at hl 4 rfl) ?_
        refine r_aload_n (pc := 45) C d_S_appendPiece_45 rfl (lv_at hl 1 rfl) ?_
        refine r_get (pc := 46) (v := .ref b2) C w i_S rfl 3 rfl 1 (by decide) fl_S_15 rfl rfl d_S_appendPiece_46 ?_
        refine r_iload (pc := 49) C d_S_appendPiece_49 (lv_at hl 5 rfl) ?_
        refine r_iald (pc := 51) (f := ln2) (i := run) C w 0 5 rfl hT.1 (by omega) d_S_appendPiece_51 ?_
        refine r_iadd (pc := 52) C d_S_appendPiece_52 ?_
        refine r_istore (pc := 53) (lv' := [(4, .int (iI (start + (ln2 run)))), (0, .ref q), (1, .ref q2), (2, .int (iI f)), (3, .int (iI e)), (5, .int (iI run))]) C d_S_appendPiece_53 hl (by decide) rfl (fun ls hl => ?_)
        refine r_iinc (pc := 55) (j := 5) (lv' := [(5, .int (iI (run + 1))), (4, .int (iI (start + (ln2 run)))), (0, .ref q), (1, .ref q2), (2, .int (iI f)), (3, .int (iI e))]) C d_S_appendPiece_55 hl rfl (by decide) rfl (fun ls hl => ?_)
        refine r_goto (pc := 58) (tgt := 6) C d_S_appendPiece_58 (by decide) ?_
        exact ih6 (run + 1) (start + (ln2 run)) sg_40 ln_40 r_40 pl_40 ov_40 (by omega) (by omega) (piece_step hO (by omega) (by omega) (by omega) hst hV_40 hz_37) (by omega) _ _ _ w (lv_sub hl [2, 3, 4, 5, 1, 0] rfl)
  exact L6 ((r2 - 0) + 1 : Int).toNat 0 0 sg ln r pl ov (by first | omega | rfl) (by first | omega | rfl) (hV.to (by omega) (fun x _ hx => (cat_lt hx).symm)) (by omega) _ _ _ w (lv_sub hl [2, 3, 4, 5, 1, 0] rfl)
theorem d_S_becomeCopyOf_0 : decode b_S_becomeCopyOf 0 = .ok (.aload_n 0, 1) := by decide +kernel
theorem d_S_becomeCopyOf_1 : decode b_S_becomeCopyOf 1 = .ok (.aload_n 1, 1) := by decide +kernel
theorem d_S_becomeCopyOf_2 : decode b_S_becomeCopyOf 2 = .ok (.invokevirtual 35, 3) := by decide +kernel
theorem d_S_becomeCopyOf_5 : decode b_S_becomeCopyOf 5 = .ok (.aload_n 0, 1) := by decide +kernel
theorem d_S_becomeCopyOf_6 : decode b_S_becomeCopyOf 6 = .ok (.aload_n 1, 1) := by decide +kernel
theorem d_S_becomeCopyOf_7 : decode b_S_becomeCopyOf 7 = .ok (.iconst 0, 1) := by decide +kernel
theorem d_S_becomeCopyOf_8 : decode b_S_becomeCopyOf 8 = .ok (.aload_n 1, 1) := by decide +kernel
theorem d_S_becomeCopyOf_9 : decode b_S_becomeCopyOf 9 = .ok (.getfield 22, 3) := by decide +kernel
theorem d_S_becomeCopyOf_12 : decode b_S_becomeCopyOf 12 = .ok (.invokevirtual 39, 3) := by decide +kernel
theorem d_S_becomeCopyOf_15 : decode b_S_becomeCopyOf 15 = .ok (.return_, 1) := by decide +kernel
set_option maxHeartbeats 4000000 in
set_option maxRecDepth 20000 in
theorem c_S_becomeCopyOf {l : Launch} {G : va_G} {tys : List (ClassId × FieldType)} {cI cO cZ : ClassId} (hT : TY tys cI cO cZ) (q a b : Nat) (sg ln : Int → Int) (r pl ov lc sd : Int) (q2 a2 b2 : Nat) (sg2 ln2 : Int → Int) (r2 pl2 ov2 lc2 sd2 : Int) (N : Int) (u : Int → Int) (hO : Ok r2 sg2 ln2 N u) (hr : r2 ≤ 50) (hN : N ≤ 3000) (hp : pl2 = N) : CTV l G tys y_S_becomeCopyOf b_S_becomeCopyOf 2 3 67 [.ref q, .ref q2] (sw cI q a b sg ln r pl ov lc sd ++ sw cI q2 a2 b2 sg2 ln2 r2 pl2 ov2 lc2 sd2) (fun w => ∃ (sg' ln' : Int → Int), w = sw cI q a b sg' ln' r2 N 0 lc2 sd2 ++ sw cI q2 a2 b2 sg2 ln2 r2 pl2 ov2 lc2 sd2 ∧ Ok r2 sg' ln' N u) := by
  refine mkV (by decide) (Nat.le_of_ble_eq_true rfl) ?_
  rintro X rfl rfl rfl hRm C kret H ls w hl
  have hl : lv_has ls 2 [(0, .ref q), (1, .ref q2)] := hl
  have w : Wd X (sw cI q a b sg ln r pl ov lc sd ++ sw cI q2 a2 b2 sg2 ln2 r2 pl2 ov2 lc2 sd2) H [] := w
  generalize ([] : List Loc) = locs at w ⊢
  have hr0 := hO.1
  have hN0 := hO.n0
  subst hp
  refine r_aload_n (pc := 0) C d_S_becomeCopyOf_0 rfl (lv_at hl 0 rfl) ?_
  refine r_aload_n (pc := 1) C d_S_becomeCopyOf_1 rfl (lv_at hl 1 rfl) ?_
  refine r_callVV (pc := 2) (As := [.ref q2]) (rest := []) (wr := ([])) C w (c_S_startLike hT q a b sg ln r pl ov lc sd q2 a2 b2 sg2 ln2 r2 pl2 ov2 lc2 sd2) ml_S_35 im_S_startLike se_S_startLike ini_S cd_S_startLike hd_S_startLike rfl (by rw [hRm]; exact ⟨⟨Nat.le_of_ble_eq_true rfl, Nat.le_of_ble_eq_true rfl⟩, Nat.le_of_ble_eq_true rfl, Nat.le_of_ble_eq_true rfl⟩) hl.1 [0, 1, 2, 3, 4, 5] [] ⟨rfl, rfl, by decide, by decide, by decide⟩ 0 rfl rfl rfl (Nat.le_of_ble_eq_true rfl) d_S_becomeCopyOf_2 (fun u_2 H locs hz_2 w => ?_)
  subst hz_2
  have w : Wd X (sw cI q a b sg ln 0 0 0 lc2 sd2 ++ sw cI q2 a2 b2 sg2 ln2 r2 pl2 ov2 lc2 sd2) H locs := w.sub [0, 1, 2, 3, 4, 5] rfl (by decide)
  refine r_aload_n (pc := 5) C d_S_becomeCopyOf_5 rfl (lv_at hl 0 rfl) ?_
  refine r_aload_n (pc := 6) C d_S_becomeCopyOf_6 rfl (lv_at hl 1 rfl) ?_
  refine r_iconst (pc := 7) C d_S_becomeCopyOf_7 ?_
  refine r_aload_n (pc := 8) C d_S_becomeCopyOf_8 rfl (lv_at hl 1 rfl) ?_
  refine r_get (pc := 9) (v := .int (iI pl2)) C w i_S rfl 3 rfl 3 (by decide) fl_S_22 rfl rfl d_S_becomeCopyOf_9 ?_
  refine r_callVV (pc := 12) (As := [.ref q2, .int (iI 0), .int (iI pl2)]) (rest := []) (wr := ([])) C w (c_S_appendPiece hT q a b sg ln 0 0 0 lc2 sd2 q2 a2 b2 sg2 ln2 r2 pl2 ov2 lc2 sd2 _ _ pl2 0 _ _ (RV.empty sg ln u) hO (by omega) (by omega) (by omega) (by omega)) ml_S_39 im_S_appendPiece se_S_appendPiece ini_S cd_S_appendPiece hd_S_appendPiece rfl (by rw [hRm]; exact ⟨⟨Nat.le_of_ble_eq_true rfl, Nat.le_of_ble_eq_true rfl⟩, Nat.le_of_ble_eq_true rfl, Nat.le_of_ble_eq_true rfl⟩) hl.1 [0, 1, 2, 3, 4, 5] [] ⟨rfl, rfl, by decide, by decide, by decide⟩ 0 rfl rfl rfl (Nat.le_of_ble_eq_true rfl) d_S_becomeCopyOf_12 (fun u_12 H locs hz_12 w => ?_)
  obtain ⟨sg_12, ln_12, r_12, pl_12, ov_12, rfl, hV_12⟩ := hz_12
  have w : Wd X (sw cI q a b sg_12 ln_12 r_12 pl_12 ov_12 lc2 sd2 ++ sw cI q2 a2 b2 sg2 ln2 r2 pl2 ov2 lc2 sd2) H locs := w.sub [0, 1, 2, 3, 4, 5] rfl (by decide)
  have hV2 := hV_12.to (u := u) (by omega : _ = pl2) (fun x h1 _ => by rw [cat_ge (by omega)]; congr 1; omega)
  rcases hV2.ov01 with ⟨e1, e2, e3, e4, e5⟩ | ⟨e1, e2⟩
  case inr => exact absurd (show fits_ pl2 u from ⟨hN, by rw [hO.rcE]; exact hr⟩) e2
  have e6 := (e3.uniq hO).1
  subst e6 e1 e2
  exact kret _ _ _ _ _ d_S_becomeCopyOf_15 w (⟨_, _, rfl, e3⟩)
theorem d_S_appendAllBut_0 : decode b_S_appendAllBut 0 = .ok (.aload_n 0, 1) := by decide +kernel
theorem d_S_appendAllBut_1 : decode b_S_appendAllBut 1 = .ok (.aload_n 1, 1) := by decide +kernel
theorem d_S_appendAllBut_2 : decode b_S_appendAllBut 2 = .ok (.iconst 0, 1) := by decide +kernel
theorem d_S_appendAllBut_3 : decode b_S_appendAllBut 3 = .ok (.iload_n 2, 1) := by decide +kernel
theorem d_S_appendAllBut_4 : decode b_S_appendAllBut 4 = .ok (.invokevirtual 39, 3) := by decide +kernel
theorem d_S_appendAllBut_7 : decode b_S_appendAllBut 7 = .ok (.aload_n 0, 1) := by decide +kernel
theorem d_S_appendAllBut_8 : decode b_S_appendAllBut 8 = .ok (.aload_n 1, 1) := by decide +kernel
theorem d_S_appendAllBut_9 : decode b_S_appendAllBut 9 = .ok (.iload_n 3, 1) := by decide +kernel
theorem d_S_appendAllBut_10 : decode b_S_appendAllBut 10 = .ok (.aload_n 1, 1) := by decide +kernel
theorem d_S_appendAllBut_11 : decode b_S_appendAllBut 11 = .ok (.getfield 22, 3) := by decide +kernel
theorem d_S_appendAllBut_14 : decode b_S_appendAllBut 14 = .ok (.invokevirtual 39, 3) := by decide +kernel
theorem d_S_appendAllBut_17 : decode b_S_appendAllBut 17 = .ok (.return_, 1) := by decide +kernel
set_option maxHeartbeats 4000000 in
set_option maxRecDepth 20000 in
theorem c_S_appendAllBut {l : Launch} {G : va_G} {tys : List (ClassId × FieldType)} {cI cO cZ : ClassId} (hT : TY tys cI cO cZ) (q a b : Nat) (sg ln : Int → Int) (r pl ov lc sd : Int) (q2 a2 b2 : Nat) (sg2 ln2 : Int → Int) (r2 pl2 ov2 lc2 sd2 : Int) (n N e f : Int) (v u : Int → Int) (hV : RV r pl ov sg ln n v) (hO : Ok r2 sg2 ln2 N u) (hr : r2 ≤ 50) (hN : N ≤ 3000) (hf : 0 ≤ f ∧ f ≤ N) (he : 0 ≤ e ∧ e ≤ N) (hp : pl2 = N) : CTV l G tys y_S_appendAllBut b_S_appendAllBut 4 3 67 [.ref q, .ref q2, .int (iI f), .int (iI e)] (sw cI q a b sg ln r pl ov lc sd ++ sw cI q2 a2 b2 sg2 ln2 r2 pl2 ov2 lc2 sd2) (fun w => ∃ (sg' ln' : Int → Int) (r' pl' ov' : Int), w = sw cI q a b sg' ln' r' pl' ov' lc sd ++ sw cI q2 a2 b2 sg2 ln2 r2 pl2 ov2 lc2 sd2 ∧ RV r' pl' ov' sg' ln' (n + f + (N - e)) (cat (cat v n u 0) (n + f) u e)) := by
  refine mkV (by decide) (Nat.le_of_ble_eq_true rfl) ?_
  rintro X rfl rfl rfl hRm C kret H ls w hl
  have hl : lv_has ls 4 [(0, .ref q), (1, .ref q2), (2, .int (iI f)), (3, .int (iI e))] := hl
  have w : Wd X (sw cI q a b sg ln r pl ov lc sd ++ sw cI q2 a2 b2 sg2 ln2 r2 pl2 ov2 lc2 sd2) H [] := w
  generalize ([] : List Loc) = locs at w ⊢
  have hr0 := hO.1
  have hN0 := hO.n0
  subst hp
  refine r_aload_n (pc := 0) C d_S_appendAllBut_0 rfl (lv_at hl 0 rfl) ?_
  refine r_aload_n (pc := 1) C d_S_appendAllBut_1 rfl (lv_at hl 1 rfl) ?_
  refine r_iconst (pc := 2) C d_S_appendAllBut_2 ?_
  refine r_iload_n (pc := 3) C d_S_appendAllBut_3 rfl (lv_at hl 2 rfl) ?_
  refine r_callVV (pc := 4) (As := [.ref q2, .int (iI 0), .int (iI f)]) (rest := []) (wr := ([])) C w (c_S_appendPiece hT q a b sg ln r pl ov lc sd q2 a2 b2 sg2 ln2 r2 pl2 ov2 lc2 sd2 _ _ f 0 _ _ hV hO (by omega) (by omega) (by omega) (by omega)) ml_S_39 im_S_appendPiece se_S_appendPiece ini_S cd_S_appendPiece hd_S_appendPiece rfl (by rw [hRm]; exact ⟨⟨Nat.le_of_ble_eq_true rfl, Nat.le_of_ble_eq_true rfl⟩, Nat.le_of_ble_eq_true rfl, Nat.le_of_ble_eq_true rfl⟩) hl.1 [0, 1, 2, 3, 4, 5] [] ⟨rfl, rfl, by decide, by decide, by decide⟩ 0 rfl rfl rfl (Nat.le_of_ble_eq_true rfl) d_S_appendAllBut_4 (fun u_4 H locs hz_4 w => ?_)
  obtain ⟨sg_4, ln_4, r_4, pl_4, ov_4, rfl, hV_4⟩ := hz_4
  have w : Wd X (sw cI q a b sg_4 ln_4 r_4 pl_4 ov_4 lc sd ++ sw cI q2 a2 b2 sg2 ln2 r2 pl2 ov2 lc2 sd2) H locs := w.sub [0, 1, 2, 3, 4, 5] rfl (by decide)
  have hV2 := hV_4.to (n' := n + f) (by omega) (fun _ _ _ => rfl)
  refine r_aload_n (pc := 7) C d_S_appendAllBut_7 rfl (lv_at hl 0 rfl) ?_
  refine r_aload_n (pc := 8) C d_S_appendAllBut_8 rfl (lv_at hl 1 rfl) ?_
  refine r_iload_n (pc := 9) C d_S_appendAllBut_9 rfl (lv_at hl 3 rfl) ?_
  refine r_aload_n (pc := 10) C d_S_appendAllBut_10 rfl (lv_at hl 1 rfl) ?_
  refine r_get (pc := 11) (v := .int (iI pl2)) C w i_S rfl 3 rfl 3 (by decide) fl_S_22 rfl rfl d_S_appendAllBut_11 ?_
  refine r_callVV (pc := 14) (As := [.ref q2, .int (iI e), .int (iI pl2)]) (rest := []) (wr := ([])) C w (c_S_appendPiece hT q a b sg_4 ln_4 r_4 pl_4 ov_4 lc sd q2 a2 b2 sg2 ln2 r2 pl2 ov2 lc2 sd2 _ _ pl2 e _ _ hV2 hO (by omega) (by omega) (by omega) (by omega)) ml_S_39 im_S_appendPiece se_S_appendPiece ini_S cd_S_appendPiece hd_S_appendPiece rfl (by rw [hRm]; exact ⟨⟨Nat.le_of_ble_eq_true rfl, Nat.le_of_ble_eq_true rfl⟩, Nat.le_of_ble_eq_true rfl, Nat.le_of_ble_eq_true rfl⟩) hl.1 [0, 1, 2, 3, 4, 5] [] ⟨rfl, rfl, by decide, by decide, by decide⟩ 0 rfl rfl rfl (Nat.le_of_ble_eq_true rfl) d_S_appendAllBut_14 (fun u_14 H locs hz_14 w => ?_)
  obtain ⟨sg_14, ln_14, r_14, pl_14, ov_14, rfl, hV_14⟩ := hz_14
  have w : Wd X (sw cI q a b sg_14 ln_14 r_14 pl_14 ov_14 lc sd ++ sw cI q2 a2 b2 sg2 ln2 r2 pl2 ov2 lc2 sd2) H locs := w.sub [0, 1, 2, 3, 4, 5] rfl (by decide)
  exact kret _ _ _ _ _ d_S_appendAllBut_17 w (⟨_, _, _, _, _, rfl, hV_14.to (by omega) (fun _ _ _ => rfl)⟩)
