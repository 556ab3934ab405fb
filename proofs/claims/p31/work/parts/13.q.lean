/-! what the class tells -/
def bestC (a b c : Int) : Int := if b < a then (if c < b then 2 else 1) else (if c < a then 2 else 0)
/-- the best write so far: run, value, bits -/
def bwV (f : Int → Int) (k : Int) (s : Int × Int × Int) : Nat → Int × Int × Int
  | 0 => s
  | j + 1 => if (bwV f k s j).2.2 < f (j : Int) then (k, (j : Int), f (j : Int)) else bwV f k s j
def bwN (code r : Int) (sg ln : Int → Int) : Nat → Int × Int × Int
  | 0 => (-6, -6, 0)
  | k + 1 => bwV (svd code r sg ln (k : Int)) (k : Int) (bwN code r sg ln k) 10
def bwv (f : Int → Int) (k : Int) (s : Int × Int × Int) (j : Int) : Int × Int × Int := bwV f k s j.toNat
def bw (code r : Int) (sg ln : Int → Int) (k : Int) : Int × Int × Int := bwN code r sg ln k.toNat
theorem bwv_zero (f : Int → Int) (k : Int) (s : Int × Int × Int) : bwv f k s 0 = s := rfl
theorem bwv_succ (f : Int → Int) (k : Int) (s : Int × Int × Int) {j : Int} (h : 0 ≤ j) : bwv f k s (j + 1) = if (bwv f k s j).2.2 < f j then (k, j, f j) else bwv f k s j := by
  unfold bwv
  rw [toNat_succ h]
  show (if (bwV f k s j.toNat).2.2 < f ((j.toNat : Nat) : Int) then (k, ((j.toNat : Nat) : Int), f ((j.toNat : Nat) : Int)) else bwV f k s j.toNat) = _
  rw [Int.toNat_of_nonneg h]
theorem bw_zero (code r : Int) (sg ln : Int → Int) : bw code r sg ln 0 = (-6, -6, 0) := rfl
theorem bw_succ (code r : Int) (sg ln : Int → Int) {k : Int} (h : 0 ≤ k) : bw code r sg ln (k + 1) = bwv (svd code r sg ln k) k (bw code r sg ln k) 10 := by
  unfold bw bwv
  rw [toNat_succ h]
  show bwV (svd code r sg ln ((k.toNat : Nat) : Int)) ((k.toNat : Nat) : Int) (bwN code r sg ln k.toNat) 10 = bwV _ _ _ 10
  rw [Int.toNat_of_nonneg h]
theorem svd_rg {code r N : Int} {sg ln v : Int → Int} (hO : Ok r sg ln N v) (hN : N ≤ 3000) {k val : Int} (h0 : 0 ≤ k) (h1 : k < r) : -66 ≤ svd code r sg ln k val ∧ svd code r sg ln k val ≤ 198 := by
  have g := hO.run h0 h1
  have a1 := rb_rg (code := code) (s := sg k) (n := ln k) (by omega)
  unfold svd
  split
  · omega
  · by_cases c1 : 0 < k ∧ sg (k - 1) = val <;> by_cases c2 : k < r - 1 ∧ sg (k + 1) = val
    · have g2 := hO.run (k := k - 1) (by omega) (by omega)
      have g3 := hO.run (k := k + 1) (by omega) (by omega)
      have a2 := rb_rg (code := code) (s := sg (k - 1)) (n := ln (k - 1)) (by omega)
      have a3 := rb_rg (code := code) (s := sg (k + 1)) (n := ln (k + 1)) (by omega)
      rw [if_pos c1, if_pos c1, if_pos c2, if_pos c2]
      have a4 := rb_rg (code := code) (s := val) (n := ln k + ln (k - 1) + ln (k + 1)) (by omega)
      omega
    · have g2 := hO.run (k := k - 1) (by omega) (by omega)
      have a2 := rb_rg (code := code) (s := sg (k - 1)) (n := ln (k - 1)) (by omega)
      rw [if_pos c1, if_pos c1, if_neg c2, if_neg c2]
      have a4 := rb_rg (code := code) (s := val) (n := ln k + ln (k - 1) + 0) (by omega)
      omega
    · have g3 := hO.run (k := k + 1) (by omega) (by omega)
      have a3 := rb_rg (code := code) (s := sg (k + 1)) (n := ln (k + 1)) (by omega)
      rw [if_neg c1, if_neg c1, if_pos c2, if_pos c2]
      have a4 := rb_rg (code := code) (s := val) (n := ln k + 0 + ln (k + 1)) (by omega)
      omega
    · rw [if_neg c1, if_neg c1, if_neg c2, if_neg c2]
      have a4 := rb_rg (code := code) (s := val) (n := ln k + 0 + 0) (by omega)
      omega
def Sp_sign (x : Int) (A : AS) (z : Int) (A' : AS) : Prop := match A with | ((lc, sd, r, sg, ln, N, v), hist, rcd, slot, uf, T, m) => A' = A ∧ (((0 ≤ x ∧ x < N) ∧ z = v x) ∨ (¬ (0 ≤ x ∧ x < N) ∧ z = -1))
theorem d_D_sign_0 : decode b_D_sign 0 = .ok (.aload_n 0, 1) := by decide +kernel
theorem d_D_sign_1 : decode b_D_sign 1 = .ok (.getfield 10, 3) := by decide +kernel
theorem d_D_sign_4 : decode b_D_sign 4 = .ok (.iload_n 1, 1) := by decide +kernel
theorem d_D_sign_5 : decode b_D_sign 5 = .ok (.invokevirtual 102, 3) := by decide +kernel
theorem d_D_sign_8 : decode b_D_sign 8 = .ok (.ireturn, 1) := by decide +kernel
set_option maxHeartbeats 4000000 in
set_option maxRecDepth 20000 in
theorem c_D_sign {l : Launch} {G : va_G} {tys : List (ClassId × FieldType)} {cI cO cZ : ClassId} (hT : TY tys cI cO cZ) (o : Nat) (A : AS) (ws : va_W) (hA : CW cI cO cZ o A ws) (x : Int) (hrg : (-2147483648 ≤ x ∧ x < 2147483648)) : CTI l G tys y_D_sign b_D_sign 2 .int 1 23 [.ref o, .int (iI x)] ws (fun z u => ∃ A' : AS, CW cI cO cZ o A' u ∧ Sp_sign x A z A') := by
  obtain ⟨⟨lc, sd, r, sg, ln, N, v⟩, hist, rcd, slot, uf, T, m⟩ := A
  obtain ⟨hR, h, sl, us, pd, co, hf, sf, q, a, b, ov, q2, a2, b2, sg2, ln2, r2, pl2, ov2, lc2, sd2, q3, a3, b3, sg3, ln3, r3, pl3, ov3, lc3, sd3, st, rfl, hC⟩ := hA
  have hO := hR.1
  have hr5 := hR.2.1
  have hN3 := hR.2.2.1
  have hN0 := hO.n0
  have hr0 := hO.1
  have hlcd := hR.2.2.2
  have hm80 := hC.2.2.2.2.2.1
  have hrcd6 := hC.2.2.1
  refine mkI (by decide) (Nat.le_of_ble_eq_true rfl) ?_
  rintro X rfl rfl rfl hRm C kret H ls w hl
  have hl : lv_has ls 2 [(0, .ref o), (1, .int (iI x))] := hl
  have w : Wd X (dcore cI cO cZ o h sl us pd co q q2 q3 hf rcd sf uf T m ++ sw cI q a b sg ln r N ov lc sd ++ sw cI q2 a2 b2 sg2 ln2 r2 pl2 ov2 lc2 sd2 ++ sw cI q3 a3 b3 sg3 ln3 r3 pl3 ov3 lc3 sd3 ++ hst cI st) H [] := w
  generalize ([] : List Loc) = locs at w ⊢
  refine r_aload_n (pc := 0) C d_D_sign_0 rfl (lv_at hl 0 rfl) ?_
  refine r_get (pc := 1) (v := .ref q) C w i_D rfl 0 rfl 0 (by decide) fl_D_10 rfl rfl d_D_sign_1 ?_
  refine r_iload_n (pc := 4) C d_D_sign_4 rfl (lv_at hl 1 rfl) ?_
  refine r_callVI (pc := 5) (As := [.int (iI x)]) (rest := []) (wr := (dcore cI cO cZ o h sl us pd co q q2 q3 hf rcd sf uf T m ++ sw cI q2 a2 b2 sg2 ln2 r2 pl2 ov2 lc2 sd2 ++ sw cI q3 a3 b3 sg3 ln3 r3 pl3 ov3 lc3 sd3 ++ hst cI st)) C w (c_S_signAt hT q a b sg ln r N ov lc sd _ _ hO (by omega) (by omega) x (by omega)) ml_D_102 im_S_signAt se_S_signAt ini_S cd_S_signAt hd_S_signAt rfl (by rw [hRm]; exact ⟨⟨Nat.le_of_ble_eq_true rfl, Nat.le_of_ble_eq_true rfl⟩, Nat.le_of_ble_eq_true rfl, Nat.le_of_ble_eq_true rfl⟩) hl.1 [6, 7, 8] [0, 1, 2, 3, 4, 5, 9, 10, 11, 12, 13, 14, 15, 16, 17, 18, 19, 20, 21, 22, 23, 24, 25, 26, 27, 28, 29, 30, 31, 32, 33, 34, 35, 36, 37, 38] ⟨rfl, rfl, by decide, by decide, by decide⟩ 0 rfl rfl rfl (Nat.le_of_ble_eq_true rfl) d_D_sign_5 (fun z_5 u_5 H locs hz_5 w => ?_)
  obtain ⟨rfl, hz_5⟩ := hz_5
  have w : Wd X (dcore cI cO cZ o h sl us pd co q q2 q3 hf rcd sf uf T m ++ sw cI q a b sg ln r N ov lc sd ++ sw cI q2 a2 b2 sg2 ln2 r2 pl2 ov2 lc2 sd2 ++ sw cI q3 a3 b3 sg3 ln3 r3 pl3 ov3 lc3 sd3 ++ hst cI st) H locs := w.sub [0, 1, 2, 3, 4, 5, 36, 37, 38, 6, 7, 8, 9, 10, 11, 12, 13, 14, 15, 16, 17, 18, 19, 20, 21, 22, 23, 24, 25, 26, 27, 28, 29, 30, 31, 32, 33, 34, 35] rfl (by decide)
  exact kret _ _ _ _ z_5 _ d_D_sign_8 w (⟨_, cw_mk hR hC, ⟨rfl, by omega⟩⟩)
def Sp_ofRun (k wh : Int) (A : AS) (z : Int) (A' : AS) : Prop := match A with | ((lc, sd, r, sg, ln, N, v), hist, rcd, slot, uf, T, m) => A' = A ∧ ((¬ (0 ≤ k ∧ k < r) ∧ z = -1) ∨ ((0 ≤ k ∧ k < r) ∧ ((wh = 0 ∧ z = sg k) ∨ (wh = 1 ∧ z = ps ln k) ∨ (wh = 2 ∧ z = ln k) ∨ (wh = 3 ∧ z = rb lc (sg k) (ln k)) ∨ ((wh < 0 ∨ 3 < wh) ∧ z = -2))))
theorem d_D_ofRun_0 : decode b_D_ofRun 0 = .ok (.iload_n 1, 1) := by decide +kernel
theorem d_D_ofRun_1 : decode b_D_ofRun 1 = .ok (.iconst 0, 1) := by decide +kernel
theorem d_D_ofRun_2 : decode b_D_ofRun 2 = .ok (.aload_n 0, 1) := by decide +kernel
theorem d_D_ofRun_3 : decode b_D_ofRun 3 = .ok (.getfield 10, 3) := by decide +kernel
theorem d_D_ofRun_6 : decode b_D_ofRun 6 = .ok (.getfield 99, 3) := by decide +kernel
theorem d_D_ofRun_9 : decode b_D_ofRun 9 = .ok (.iconst 1, 1) := by decide +kernel
theorem d_D_ofRun_10 : decode b_D_ofRun 10 = .ok (.isub, 1) := by decide +kernel
theorem d_D_ofRun_11 : decode b_D_ofRun 11 = .ok (.invokestatic 44, 3) := by decide +kernel
theorem d_D_ofRun_14 : decode b_D_ofRun 14 = .ok (.ifCond .ne 5, 3) := by decide +kernel
theorem d_D_ofRun_17 : decode b_D_ofRun 17 = .ok (.iconst (-1), 1) := by decide +kernel
theorem d_D_ofRun_18 : decode b_D_ofRun 18 = .ok (.ireturn, 1) := by decide +kernel
theorem d_D_ofRun_19 : decode b_D_ofRun 19 = .ok (.iload_n 2, 1) := by decide +kernel
theorem d_D_ofRun_20 : decode b_D_ofRun 20 = .ok (.tableswitch 75 0 3 #[32, 41, 50, 59], 32) := by decide +kernel
theorem d_D_ofRun_52 : decode b_D_ofRun 52 = .ok (.aload_n 0, 1) := by decide +kernel
theorem d_D_ofRun_53 : decode b_D_ofRun 53 = .ok (.getfield 10, 3) := by decide +kernel
theorem d_D_ofRun_56 : decode b_D_ofRun 56 = .ok (.iload_n 1, 1) := by decide +kernel
theorem d_D_ofRun_57 : decode b_D_ofRun 57 = .ok (.invokevirtual 105, 3) := by decide +kernel
theorem d_D_ofRun_60 : decode b_D_ofRun 60 = .ok (.ireturn, 1) := by decide +kernel
theorem d_D_ofRun_61 : decode b_D_ofRun 61 = .ok (.aload_n 0, 1) := by decide +kernel
theorem d_D_ofRun_62 : decode b_D_ofRun 62 = .ok (.getfield 10, 3) := by decide +kernel
theorem d_D_ofRun_65 : decode b_D_ofRun 65 = .ok (.iload_n 1, 1) := by decide +kernel
theorem d_D_ofRun_66 : decode b_D_ofRun 66 = .ok (.invokevirtual 108, 3) := by decide +kernel
theorem d_D_ofRun_69 : decode b_D_ofRun 69 = .ok (.ireturn, 1) := by decide +kernel
theorem d_D_ofRun_70 : decode b_D_ofRun 70 = .ok (.aload_n 0, 1) := by decide +kernel
theorem d_D_ofRun_71 : decode b_D_ofRun 71 = .ok (.getfield 10, 3) := by decide +kernel
theorem d_D_ofRun_74 : decode b_D_ofRun 74 = .ok (.iload_n 1, 1) := by decide +kernel
theorem d_D_ofRun_75 : decode b_D_ofRun 75 = .ok (.invokevirtual 111, 3) := by decide +kernel
theorem d_D_ofRun_78 : decode b_D_ofRun 78 = .ok (.ireturn, 1) := by decide +kernel
theorem d_D_ofRun_79 : decode b_D_ofRun 79 = .ok (.aload_n 0, 1) := by decide +kernel
theorem d_D_ofRun_80 : decode b_D_ofRun 80 = .ok (.getfield 10, 3) := by decide +kernel
theorem d_D_ofRun_83 : decode b_D_ofRun 83 = .ok (.iload_n 1, 1) := by decide +kernel
theorem d_D_ofRun_84 : decode b_D_ofRun 84 = .ok (.aload_n 0, 1) := by decide +kernel
theorem d_D_ofRun_85 : decode b_D_ofRun 85 = .ok (.getfield 10, 3) := by decide +kernel
theorem d_D_ofRun_88 : decode b_D_ofRun 88 = .ok (.getfield 52, 3) := by decide +kernel
theorem d_D_ofRun_91 : decode b_D_ofRun 91 = .ok (.invokevirtual 114, 3) := by decide +kernel
theorem d_D_ofRun_94 : decode b_D_ofRun 94 = .ok (.ireturn, 1) := by decide +kernel
theorem d_D_ofRun_95 : decode b_D_ofRun 95 = .ok (.bipush (-2), 2) := by decide +kernel
theorem d_D_ofRun_97 : decode b_D_ofRun 97 = .ok (.ireturn, 1) := by decide +kernel
set_option maxHeartbeats 4000000 in
set_option maxRecDepth 20000 in
theorem c_D_ofRun {l : Launch} {G : va_G} {tys : List (ClassId × FieldType)} {cI cO cZ : ClassId} (hT : TY tys cI cO cZ) (o : Nat) (A : AS) (ws : va_W) (hA : CW cI cO cZ o A ws) (k wh : Int) (hrg : (-2147483648 ≤ k ∧ k < 2147483648) ∧ (-2147483648 ≤ wh ∧ wh < 2147483648)) : CTI l G tys y_D_ofRun b_D_ofRun 3 .int 4 89 [.ref o, .int (iI k), .int (iI wh)] ws (fun z u => ∃ A' : AS, CW cI cO cZ o A' u ∧ Sp_ofRun k wh A z A') := by
  obtain ⟨⟨lc, sd, r, sg, ln, N, v⟩, hist, rcd, slot, uf, T, m⟩ := A
  obtain ⟨hR, h, sl, us, pd, co, hf, sf, q, a, b, ov, q2, a2, b2, sg2, ln2, r2, pl2, ov2, lc2, sd2, q3, a3, b3, sg3, ln3, r3, pl3, ov3, lc3, sd3, st, rfl, hC⟩ := hA
  have hO := hR.1
  have hr5 := hR.2.1
  have hN3 := hR.2.2.1
  have hN0 := hO.n0
  have hr0 := hO.1
  have hlcd := hR.2.2.2
  have hm80 := hC.2.2.2.2.2.1
  have hrcd6 := hC.2.2.1
  refine mkI (by decide) (Nat.le_of_ble_eq_true rfl) ?_
  rintro X rfl rfl rfl hRm C kret H ls w hl
  have hl : lv_has ls 3 [(0, .ref o), (1, .int (iI k)), (2, .int (iI wh))] := hl
  have w : Wd X (dcore cI cO cZ o h sl us pd co q q2 q3 hf rcd sf uf T m ++ sw cI q a b sg ln r N ov lc sd ++ sw cI q2 a2 b2 sg2 ln2 r2 pl2 ov2 lc2 sd2 ++ sw cI q3 a3 b3 sg3 ln3 r3 pl3 ov3 lc3 sd3 ++ hst cI st) H [] := w
  generalize ([] : List Loc) = locs at w ⊢
  refine r_iload_n (pc := 0) C d_D_ofRun_0 rfl (lv_at hl 1 rfl) ?_
  refine r_iconst (pc := 1) C d_D_ofRun_1 ?_
  refine r_aload_n (pc := 2) C d_D_ofRun_2 rfl (lv_at hl 0 rfl) ?_
  refine r_get (pc := 3) (v := .ref q) C w i_D rfl 0 rfl 0 (by decide) fl_D_10 rfl rfl d_D_ofRun_3 ?_
  refine r_get (pc := 6) (v := .int (iI r)) C w i_S rfl 6 rfl 2 (by decide) fl_D_99 rfl rfl d_D_ofRun_6 ?_
  refine r_iconst (pc := 9) C d_D_ofRun_9 ?_
  refine r_isub (pc := 10) C d_D_ofRun_10 ?_
  refine r_callP (pc := 11) (As := [.int (iI k), .int (iI 0), .int (iI (r - 1))]) (rest := []) C w (c_D_isWithin k 0 (r - 1) (by omega)) ml_D_44 st_D_isWithin ini_D cd_D_isWithin hd_D_isWithin rfl (by rw [hRm]; exact ⟨⟨Nat.le_of_ble_eq_true rfl, Nat.le_of_ble_eq_true rfl⟩, Nat.le_of_ble_eq_true rfl, Nat.le_of_ble_eq_true rfl⟩) hl.1 rfl (Nat.le_of_ble_eq_true rfl) d_D_ofRun_11 (fun z_11 H locs hz_11 w => ?_)
  refine r_if_ne (pc := 14) (tgt := 19) C (by omega) d_D_ofRun_14 (by decide) (fun c_14 => ?_) (fun c_14 => ?_)
  · skip
    have hb_14 : 0 ≤ k ∧ k ≤ (r - 1) := by omega
    clear hz_11 c_14
    refine r_iload_n (pc := 19) C d_D_ofRun_19 rfl (lv_at hl 2 rfl) ?_
    have hsw : wh = 0 ∨ wh = 1 ∨ wh = 2 ∨ wh = 3 ∨ (wh < 0 ∨ 3 < wh) := by omega
    rcases hsw with hsw | hsw | hsw | hsw | hsw
    · skip
      refine r_switchIn (pc := 20) (off := 32) (tgt := 52) C (by omega) (by omega) (by rw [hsw]; rfl) (by decide) d_D_ofRun_20 ?_
      refine r_aload_n (pc := 52) C d_D_ofRun_52 rfl (lv_at hl 0 rfl) ?_
      refine r_get (pc := 53) (v := .ref q) C w i_D rfl 0 rfl 0 (by decide) fl_D_10 rfl rfl d_D_ofRun_53 ?_
      refine r_iload_n (pc := 56) C d_D_ofRun_56 rfl (lv_at hl 1 rfl) ?_
      refine r_callVI (pc := 57) (As := [.int (iI k)]) (rest := []) (wr := (dcore cI cO cZ o h sl us pd co q q2 q3 hf rcd sf uf T m ++ sw cI q2 a2 b2 sg2 ln2 r2 pl2 ov2 lc2 sd2 ++ sw cI q3 a3 b3 sg3 ln3 r3 pl3 ov3 lc3 sd3 ++ hst cI st)) C w (c_S_signOf hT q a b sg ln r N ov lc sd _ _ hO (by omega) (by omega) k (by omega)) ml_D_105 im_S_signOf se_S_signOf ini_S cd_S_signOf hd_S_signOf rfl (by rw [hRm]; exact ⟨⟨Nat.le_of_ble_eq_true rfl, Nat.le_of_ble_eq_true rfl⟩, Nat.le_of_ble_eq_true rfl, Nat.le_of_ble_eq_true rfl⟩) hl.1 [6, 7, 8] [0, 1, 2, 3, 4, 5, 9, 10, 11, 12, 13, 14, 15, 16, 17, 18, 19, 20, 21, 22, 23, 24, 25, 26, 27, 28, 29, 30, 31, 32, 33, 34, 35, 36, 37, 38] ⟨rfl, rfl, by decide, by decide, by decide⟩ 0 rfl rfl rfl (Nat.le_of_ble_eq_true rfl) d_D_ofRun_57 (fun z_57 u_57 H locs hz_57 w => ?_)
      obtain ⟨rfl, hz_57⟩ := hz_57
      have w : Wd X (dcore cI cO cZ o h sl us pd co q q2 q3 hf rcd sf uf T m ++ sw cI q a b sg ln r N ov lc sd ++ sw cI q2 a2 b2 sg2 ln2 r2 pl2 ov2 lc2 sd2 ++ sw cI q3 a3 b3 sg3 ln3 r3 pl3 ov3 lc3 sd3 ++ hst cI st) H locs := w.sub [0, 1, 2, 3, 4, 5, 36, 37, 38, 6, 7, 8, 9, 10, 11, 12, 13, 14, 15, 16, 17, 18, 19, 20, 21, 22, 23, 24, 25, 26, 27, 28, 29, 30, 31, 32, 33, 34, 35] rfl (by decide)
      subst hz_57
      exact kret _ _ _ _ (sg k) _ d_D_ofRun_60 w (⟨_, cw_mk hR hC, ⟨rfl, Or.inr ⟨by omega, Or.inl ⟨hsw, rfl⟩⟩⟩⟩)
    · skip
      refine r_switchIn (pc := 20) (off := 41) (tgt := 61) C (by omega) (by omega) (by rw [hsw]; rfl) (by decide) d_D_ofRun_20 ?_
      refine r_aload_n (pc := 61) C d_D_ofRun_61 rfl (lv_at hl 0 rfl) ?_
      refine r_get (pc := 62) (v := .ref q) C w i_D rfl 0 rfl 0 (by decide) fl_D_10 rfl rfl d_D_ofRun_62 ?_
      refine r_iload_n (pc := 65) C d_D_ofRun_65 rfl (lv_at hl 1 rfl) ?_
      refine r_callVI (pc := 66) (As := [.int (iI k)]) (rest := []) (wr := (dcore cI cO cZ o h sl us pd co q q2 q3 hf rcd sf uf T m ++ sw cI q2 a2 b2 sg2 ln2 r2 pl2 ov2 lc2 sd2 ++ sw cI q3 a3 b3 sg3 ln3 r3 pl3 ov3 lc3 sd3 ++ hst cI st)) C w (c_S_firstOf hT q a b sg ln r N ov lc sd _ _ hO (by omega) (by omega) k (by omega)) ml_D_108 im_S_firstOf se_S_firstOf ini_S cd_S_firstOf hd_S_firstOf rfl (by rw [hRm]; exact ⟨⟨Nat.le_of_ble_eq_true rfl, Nat.le_of_ble_eq_true rfl⟩, Nat.le_of_ble_eq_true rfl, Nat.le_of_ble_eq_true rfl⟩) hl.1 [6, 7, 8] [0, 1, 2, 3, 4, 5, 9, 10, 11, 12, 13, 14, 15, 16, 17, 18, 19, 20, 21, 22, 23, 24, 25, 26, 27, 28, 29, 30, 31, 32, 33, 34, 35, 36, 37, 38] ⟨rfl, rfl, by decide, by decide, by decide⟩ 0 rfl rfl rfl (Nat.le_of_ble_eq_true rfl) d_D_ofRun_66 (fun z_66 u_66 H locs hz_66 w => ?_)
      obtain ⟨rfl, hz_66⟩ := hz_66
      have w : Wd X (dcore cI cO cZ o h sl us pd co q q2 q3 hf rcd sf uf T m ++ sw cI q a b sg ln r N ov lc sd ++ sw cI q2 a2 b2 sg2 ln2 r2 pl2 ov2 lc2 sd2 ++ sw cI q3 a3 b3 sg3 ln3 r3 pl3 ov3 lc3 sd3 ++ hst cI st) H locs := w.sub [0, 1, 2, 3, 4, 5, 36, 37, 38, 6, 7, 8, 9, 10, 11, 12, 13, 14, 15, 16, 17, 18, 19, 20, 21, 22, 23, 24, 25, 26, 27, 28, 29, 30, 31, 32, 33, 34, 35] rfl (by decide)
      subst hz_66
      exact kret _ _ _ _ (ps ln k) _ d_D_ofRun_69 w (⟨_, cw_mk hR hC, ⟨rfl, Or.inr ⟨by omega, Or.inr (Or.inl ⟨hsw, rfl⟩)⟩⟩⟩)
    · skip
      refine r_switchIn (pc := 20) (off := 50) (tgt := 70) C (by omega) (by omega) (by rw [hsw]; rfl) (by decide) d_D_ofRun_20 ?_
      refine r_aload_n (pc := 70) C d_D_ofRun_70 rfl (lv_at hl 0 rfl) ?_
      refine r_get (pc := 71) (v := .ref q) C w i_D rfl 0 rfl 0 (by decide) fl_D_10 rfl rfl d_D_ofRun_71 ?_
      refine r_iload_n (pc := 74) C d_D_ofRun_74 rfl (lv_at hl 1 rfl) ?_
      refine r_callVI (pc := 75) (As := [.int (iI k)]) (rest := []) (wr := (dcore cI cO cZ o h sl us pd co q q2 q3 hf rcd sf uf T m ++ sw cI q2 a2 b2 sg2 ln2 r2 pl2 ov2 lc2 sd2 ++ sw cI q3 a3 b3 sg3 ln3 r3 pl3 ov3 lc3 sd3 ++ hst cI st)) C w (c_S_lengthOf hT q a b sg ln r N ov lc sd _ _ hO (by omega) (by omega) k (by omega)) ml_D_111 im_S_lengthOf se_S_lengthOf ini_S cd_S_lengthOf hd_S_lengthOf rfl (by rw [hRm]; exact ⟨⟨Nat.le_of_ble_eq_true rfl, Nat.le_of_ble_eq_true rfl⟩, Nat.le_of_ble_eq_true rfl, Nat.le_of_ble_eq_true rfl⟩) hl.1 [6, 7, 8] [0, 1, 2, 3, 4, 5, 9, 10, 11, 12, 13, 14, 15, 16, 17, 18, 19, 20, 21, 22, 23, 24, 25, 26, 27, 28, 29, 30, 31, 32, 33, 34, 35, 36, 37, 38] ⟨rfl, rfl, by decide, by decide, by decide⟩ 0 rfl rfl rfl (Nat.le_of_ble_eq_true rfl) d_D_ofRun_75 (fun z_75 u_75 H locs hz_75 w => ?_)
      obtain ⟨rfl, hz_75⟩ := hz_75
      have w : Wd X (dcore cI cO cZ o h sl us pd co q q2 q3 hf rcd sf uf T m ++ sw cI q a b sg ln r N ov lc sd ++ sw cI q2 a2 b2 sg2 ln2 r2 pl2 ov2 lc2 sd2 ++ sw cI q3 a3 b3 sg3 ln3 r3 pl3 ov3 lc3 sd3 ++ hst cI st) H locs := w.sub [0, 1, 2, 3, 4, 5, 36, 37, 38, 6, 7, 8, 9, 10, 11, 12, 13, 14, 15, 16, 17, 18, 19, 20, 21, 22, 23, 24, 25, 26, 27, 28, 29, 30, 31, 32, 33, 34, 35] rfl (by decide)
      subst hz_75
      exact kret _ _ _ _ (ln k) _ d_D_ofRun_78 w (⟨_, cw_mk hR hC, ⟨rfl, Or.inr ⟨by omega, Or.inr (Or.inr (Or.inl ⟨hsw, rfl⟩))⟩⟩⟩)
    · skip
      refine r_switchIn (pc := 20) (off := 59) (tgt := 79) C (by omega) (by omega) (by rw [hsw]; rfl) (by decide) d_D_ofRun_20 ?_
      have hk2 := hO.run (k := k) (by omega) (by omega)
      refine r_aload_n (pc := 79) C d_D_ofRun_79 rfl (lv_at hl 0 rfl) ?_
      refine r_get (pc := 80) (v := .ref q) C w i_D rfl 0 rfl 0 (by decide) fl_D_10 rfl rfl d_D_ofRun_80 ?_
      refine r_iload_n (pc := 83) C d_D_ofRun_83 rfl (lv_at hl 1 rfl) ?_
      refine r_aload_n (pc := 84) C d_D_ofRun_84 rfl (lv_at hl 0 rfl) ?_
      refine r_get (pc := 85) (v := .ref q) C w i_D rfl 0 rfl 0 (by decide) fl_D_10 rfl rfl d_D_ofRun_85 ?_
      refine r_get (pc := 88) (v := .int (iI lc)) C w i_S rfl 6 rfl 5 (by decide) fl_D_52 rfl rfl d_D_ofRun_88 ?_
      refine r_callVI (pc := 91) (As := [.int (iI k), .int (iI lc)]) (rest := []) (wr := (dcore cI cO cZ o h sl us pd co q q2 q3 hf rcd sf uf T m ++ sw cI q2 a2 b2 sg2 ln2 r2 pl2 ov2 lc2 sd2 ++ sw cI q3 a3 b3 sg3 ln3 r3 pl3 ov3 lc3 sd3 ++ hst cI st)) C w (c_S_bitsOf hT q a b sg ln r N ov lc sd _ _ hO (by omega) (by omega) k lc (by omega) (by omega)) ml_D_114 im_S_bitsOf se_S_bitsOf ini_S cd_S_bitsOf hd_S_bitsOf rfl (by rw [hRm]; exact ⟨⟨Nat.le_of_ble_eq_true rfl, Nat.le_of_ble_eq_true rfl⟩, Nat.le_of_ble_eq_true rfl, Nat.le_of_ble_eq_true rfl⟩) hl.1 [6, 7, 8] [0, 1, 2, 3, 4, 5, 9, 10, 11, 12, 13, 14, 15, 16, 17, 18, 19, 20, 21, 22, 23, 24, 25, 26, 27, 28, 29, 30, 31, 32, 33, 34, 35, 36, 37, 38] ⟨rfl, rfl, by decide, by decide, by decide⟩ 0 rfl rfl rfl (Nat.le_of_ble_eq_true rfl) d_D_ofRun_91 (fun z_91 u_91 H locs hz_91 w => ?_)
      obtain ⟨rfl, hz_91⟩ := hz_91
      have w : Wd X (dcore cI cO cZ o h sl us pd co q q2 q3 hf rcd sf uf T m ++ sw cI q a b sg ln r N ov lc sd ++ sw cI q2 a2 b2 sg2 ln2 r2 pl2 ov2 lc2 sd2 ++ sw cI q3 a3 b3 sg3 ln3 r3 pl3 ov3 lc3 sd3 ++ hst cI st) H locs := w.sub [0, 1, 2, 3, 4, 5, 36, 37, 38, 6, 7, 8, 9, 10, 11, 12, 13, 14, 15, 16, 17, 18, 19, 20, 21, 22, 23, 24, 25, 26, 27, 28, 29, 30, 31, 32, 33, 34, 35] rfl (by decide)
      subst hz_91
      have hrb := rb_rg (code := lc) (s := sg k) (n := ln k) (by omega)
      exact kret _ _ _ _ (rb lc (sg k) (ln k)) _ d_D_ofRun_94 w (⟨_, cw_mk hR hC, ⟨rfl, Or.inr ⟨by omega, Or.inr (Or.inr (Or.inr (Or.inl ⟨hsw, rfl⟩)))⟩⟩⟩)
    · skip
      refine r_switchOut (pc := 20) (tgt := 95) C (by omega) hsw (by decide) d_D_ofRun_20 ?_
      refine r_bipush (pc := 95) C d_D_ofRun_95 (by decide) ?_
      exact kret _ _ _ _ (-2) _ d_D_ofRun_97 w (⟨_, cw_mk hR hC, ⟨rfl, Or.inr ⟨by omega, Or.inr (Or.inr (Or.inr (Or.inr (⟨hsw, rfl⟩))))⟩⟩⟩)
  · skip
    have hb_14 : ¬ (0 ≤ k ∧ k ≤ (r - 1)) := by omega
    clear hz_11 c_14
    refine r_iconst (pc := 17) C d_D_ofRun_17 ?_
    exact kret _ _ _ _ (-1) _ d_D_ofRun_18 w (⟨_, cw_mk hR hC, ⟨rfl, Or.inl ⟨by omega, rfl⟩⟩⟩)
def Sp_count (wh : Int) (A : AS) (z : Int) (A' : AS) : Prop := match A with | ((lc, sd, r, sg, ln, N, v), hist, rcd, slot, uf, T, m) => A' = A ∧ ((wh = 0 ∧ z = N) ∨ (wh = 1 ∧ z = r) ∨ (wh = 2 ∧ z = cn v 10 0 N) ∨ (wh = 3 ∧ z = ps (rbf lc sg ln) r) ∨ (wh = 4 ∧ z = max 0 (r - 1) + ps (crf ln) r) ∨ (wh = 5 ∧ z = ps (smf sg ln) r) ∨ (wh = 6 ∧ z = mx ln r) ∨ (wh = 7 ∧ z = m) ∨ (wh = 8 ∧ z = rcd) ∨ (wh = 9 ∧ z = lc) ∨ (wh = 10 ∧ z = sd) ∨ ((wh < 0 ∨ 10 < wh) ∧ z = -2))
theorem d_D_count_0 : decode b_D_count 0 = .ok (.iload_n 1, 1) := by decide +kernel
theorem d_D_count_1 : decode b_D_count 1 = .ok (.tableswitch 161 0 10 #[59, 67, 75, 93, 108, 116, 124, 132, 140, 145, 153], 59) := by decide +kernel
theorem d_D_count_60 : decode b_D_count 60 = .ok (.aload_n 0, 1) := by decide +kernel
theorem d_D_count_61 : decode b_D_count 61 = .ok (.getfield 10, 3) := by decide +kernel
theorem d_D_count_64 : decode b_D_count 64 = .ok (.getfield 62, 3) := by decide +kernel
theorem d_D_count_67 : decode b_D_count 67 = .ok (.ireturn, 1) := by decide +kernel
theorem d_D_count_68 : decode b_D_count 68 = .ok (.aload_n 0, 1) := by decide +kernel
theorem d_D_count_69 : decode b_D_count 69 = .ok (.getfield 10, 3) := by decide +kernel
theorem d_D_count_72 : decode b_D_count 72 = .ok (.getfield 99, 3) := by decide +kernel
theorem d_D_count_75 : decode b_D_count 75 = .ok (.ireturn, 1) := by decide +kernel
theorem d_D_count_76 : decode b_D_count 76 = .ok (.aload_n 0, 1) := by decide +kernel
theorem d_D_count_77 : decode b_D_count 77 = .ok (.getfield 10, 3) := by decide +kernel
theorem d_D_count_80 : decode b_D_count 80 = .ok (.iconst 0, 1) := by decide +kernel
theorem d_D_count_81 : decode b_D_count 81 = .ok (.aload_n 0, 1) := by decide +kernel
theorem d_D_count_82 : decode b_D_count 82 = .ok (.getfield 10, 3) := by decide +kernel
theorem d_D_count_85 : decode b_D_count 85 = .ok (.getfield 62, 3) := by decide +kernel
theorem d_D_count_88 : decode b_D_count 88 = .ok (.bipush 10, 2) := by decide +kernel
theorem d_D_count_90 : decode b_D_count 90 = .ok (.invokevirtual 80, 3) := by decide +kernel
theorem d_D_count_93 : decode b_D_count 93 = .ok (.ireturn, 1) := by decide +kernel
theorem d_D_count_94 : decode b_D_count 94 = .ok (.aload_n 0, 1) := by decide +kernel
theorem d_D_count_95 : decode b_D_count 95 = .ok (.getfield 10, 3) := by decide +kernel
theorem d_D_count_98 : decode b_D_count 98 = .ok (.aload_n 0, 1) := by decide +kernel
theorem d_D_count_99 : decode b_D_count 99 = .ok (.getfield 10, 3) := by decide +kernel
theorem d_D_count_102 : decode b_D_count 102 = .ok (.getfield 52, 3) := by decide +kernel
theorem d_D_count_105 : decode b_D_count 105 = .ok (.invokevirtual 118, 3) := by decide +kernel
theorem d_D_count_108 : decode b_D_count 108 = .ok (.ireturn, 1) := by decide +kernel
theorem d_D_count_109 : decode b_D_count 109 = .ok (.aload_n 0, 1) := by decide +kernel
theorem d_D_count_110 : decode b_D_count 110 = .ok (.getfield 10, 3) := by decide +kernel
theorem d_D_count_113 : decode b_D_count 113 = .ok (.invokevirtual 121, 3) := by decide +kernel
theorem d_D_count_116 : decode b_D_count 116 = .ok (.ireturn, 1) := by decide +kernel
theorem d_D_count_117 : decode b_D_count 117 = .ok (.aload_n 0, 1) := by decide +kernel
theorem d_D_count_118 : decode b_D_count 118 = .ok (.getfield 10, 3) := by decide +kernel
theorem d_D_count_121 : decode b_D_count 121 = .ok (.invokevirtual 125, 3) := by decide +kernel
theorem d_D_count_124 : decode b_D_count 124 = .ok (.ireturn, 1) := by decide +kernel
theorem d_D_count_125 : decode b_D_count 125 = .ok (.aload_n 0, 1) := by decide +kernel
theorem d_D_count_126 : decode b_D_count 126 = .ok (.getfield 10, 3) := by decide +kernel
theorem d_D_count_129 : decode b_D_count 129 = .ok (.invokevirtual 128, 3) := by decide +kernel
theorem d_D_count_132 : decode b_D_count 132 = .ok (.ireturn, 1) := by decide +kernel
theorem d_D_count_133 : decode b_D_count 133 = .ok (.aload_n 0, 1) := by decide +kernel
theorem d_D_count_134 : decode b_D_count 134 = .ok (.getfield 40, 3) := by decide +kernel
theorem d_D_count_137 : decode b_D_count 137 = .ok (.getfield 131, 3) := by decide +kernel
theorem d_D_count_140 : decode b_D_count 140 = .ok (.ireturn, 1) := by decide +kernel
theorem d_D_count_141 : decode b_D_count 141 = .ok (.aload_n 0, 1) := by decide +kernel
theorem d_D_count_142 : decode b_D_count 142 = .ok (.getfield 26, 3) := by decide +kernel
theorem d_D_count_145 : decode b_D_count 145 = .ok (.ireturn, 1) := by decide +kernel
theorem d_D_count_146 : decode b_D_count 146 = .ok (.aload_n 0, 1) := by decide +kernel
theorem d_D_count_147 : decode b_D_count 147 = .ok (.getfield 10, 3) := by decide +kernel
theorem d_D_count_150 : decode b_D_count 150 = .ok (.getfield 52, 3) := by decide +kernel
theorem d_D_count_153 : decode b_D_count 153 = .ok (.ireturn, 1) := by decide +kernel
theorem d_D_count_154 : decode b_D_count 154 = .ok (.aload_n 0, 1) := by decide +kernel
theorem d_D_count_155 : decode b_D_count 155 = .ok (.getfield 10, 3) := by decide +kernel
theorem d_D_count_158 : decode b_D_count 158 = .ok (.getfield 59, 3) := by decide +kernel
theorem d_D_count_161 : decode b_D_count 161 = .ok (.ireturn, 1) := by decide +kernel
theorem d_D_count_162 : decode b_D_count 162 = .ok (.bipush (-2), 2) := by decide +kernel
theorem d_D_count_164 : decode b_D_count 164 = .ok (.ireturn, 1) := by decide +kernel
set_option maxHeartbeats 4000000 in
set_option maxRecDepth 20000 in
theorem c_D_count {l : Launch} {G : va_G} {tys : List (ClassId × FieldType)} {cI cO cZ : ClassId} (hT : TY tys cI cO cZ) (o : Nat) (A : AS) (ws : va_W) (hA : CW cI cO cZ o A ws) (wh : Int) (hrg : (-2147483648 ≤ wh ∧ wh < 2147483648)) : CTI l G tys y_D_count b_D_count 2 .int 4 90 [.ref o, .int (iI wh)] ws (fun z u => ∃ A' : AS, CW cI cO cZ o A' u ∧ Sp_count wh A z A') := by
  obtain ⟨⟨lc, sd, r, sg, ln, N, v⟩, hist, rcd, slot, uf, T, m⟩ := A
  obtain ⟨hR, h, sl, us, pd, co, hf, sf, q, a, b, ov, q2, a2, b2, sg2, ln2, r2, pl2, ov2, lc2, sd2, q3, a3, b3, sg3, ln3, r3, pl3, ov3, lc3, sd3, st, rfl, hC⟩ := hA
  have hO := hR.1
  have hr5 := hR.2.1
  have hN3 := hR.2.2.1
  have hN0 := hO.n0
  have hr0 := hO.1
  have hlcd := hR.2.2.2
  have hm80 := hC.2.2.2.2.2.1
  have hrcd6 := hC.2.2.1
  refine mkI (by decide) (Nat.le_of_ble_eq_true rfl) ?_
  rintro X rfl rfl rfl hRm C kret H ls w hl
  have hl : lv_has ls 2 [(0, .ref o), (1, .int (iI wh))] := hl
  have w : Wd X (dcore cI cO cZ o h sl us pd co q q2 q3 hf rcd sf uf T m ++ sw cI q a b sg ln r N ov lc sd ++ sw cI q2 a2 b2 sg2 ln2 r2 pl2 ov2 lc2 sd2 ++ sw cI q3 a3 b3 sg3 ln3 r3 pl3 ov3 lc3 sd3 ++ hst cI st) H [] := w
  generalize ([] : List Loc) = locs at w ⊢
  refine r_iload_n (pc := 0) C d_D_count_0 rfl (lv_at hl 1 rfl) ?_
  have hsw : wh = 0 ∨ wh = 1 ∨ wh = 2 ∨ wh = 3 ∨ wh = 4 ∨ wh = 5 ∨ wh = 6 ∨ wh = 7 ∨ wh = 8 ∨ wh = 9 ∨ wh = 10 ∨ (wh < 0 ∨ 10 < wh) := by omega
  rcases hsw with hsw | hsw | hsw | hsw | hsw | hsw | hsw | hsw | hsw | hsw | hsw | hsw
  · skip
    refine r_switchIn (pc := 1) (off := 59) (tgt := 60) C (by omega) (by omega) (by rw [hsw]; rfl) (by decide) d_D_count_1 ?_
    refine r_aload_n (pc := 60) C d_D_count_60 rfl (lv_at hl 0 rfl) ?_
    refine r_get (pc := 61) (v := .ref q) C w i_D rfl 0 rfl 0 (by decide) fl_D_10 rfl rfl d_D_count_61 ?_
    refine r_get (pc := 64) (v := .int (iI N)) C w i_S rfl 6 rfl 3 (by decide) fl_D_62 rfl rfl d_D_count_64 ?_
    exact kret _ _ _ _ N _ d_D_count_67 w (⟨_, cw_mk hR hC, ⟨rfl, Or.inl ⟨hsw, rfl⟩⟩⟩)
  · skip
    refine r_switchIn (pc := 1) (off := 67) (tgt := 68) C (by omega) (by omega) (by rw [hsw]; rfl) (by decide) d_D_count_1 ?_
    refine r_aload_n (pc := 68) C d_D_count_68 rfl (lv_at hl 0 rfl) ?_
    refine r_get (pc := 69) (v := .ref q) C w i_D rfl 0 rfl 0 (by decide) fl_D_10 rfl rfl d_D_count_69 ?_
    refine r_get (pc := 72) (v := .int (iI r)) C w i_S rfl 6 rfl 2 (by decide) fl_D_99 rfl rfl d_D_count_72 ?_
    exact kret _ _ _ _ r _ d_D_count_75 w (⟨_, cw_mk hR hC, ⟨rfl, Or.inr (Or.inl ⟨hsw, rfl⟩)⟩⟩)
  · skip
    refine r_switchIn (pc := 1) (off := 75) (tgt := 76) C (by omega) (by omega) (by rw [hsw]; rfl) (by decide) d_D_count_1 ?_
    refine r_aload_n (pc := 76) C d_D_count_76 rfl (lv_at hl 0 rfl) ?_
    refine r_get (pc := 77) (v := .ref q) C w i_D rfl 0 rfl 0 (by decide) fl_D_10 rfl rfl d_D_count_77 ?_
    refine r_iconst (pc := 80) C d_D_count_80 ?_
    refine r_aload_n (pc := 81) C d_D_count_81 rfl (lv_at hl 0 rfl) ?_
    refine r_get (pc := 82) (v := .ref q) C w i_D rfl 0 rfl 0 (by decide) fl_D_10 rfl rfl d_D_count_82 ?_
    refine r_get (pc := 85) (v := .int (iI N)) C w i_S rfl 6 rfl 3 (by decide) fl_D_62 rfl rfl d_D_count_85 ?_
    refine r_bipush (pc := 88) C d_D_count_88 (by decide) ?_
    refine r_callVI (pc := 90) (As := [.int (iI 0), .int (iI N), .int (iI 10)]) (rest := []) (wr := (dcore cI cO cZ o h sl us pd co q q2 q3 hf rcd sf uf T m ++ sw cI q2 a2 b2 sg2 ln2 r2 pl2 ov2 lc2 sd2 ++ sw cI q3 a3 b3 sg3 ln3 r3 pl3 ov3 lc3 sd3 ++ hst cI st)) C w (c_S_alikeIn hT q a b sg ln r N ov lc sd _ _ hO (by omega) (by omega) 0 N 10 (by omega) (by omega)) ml_D_80 im_S_alikeIn se_S_alikeIn ini_S cd_S_alikeIn hd_S_alikeIn rfl (by rw [hRm]; exact ⟨⟨Nat.le_of_ble_eq_true rfl, Nat.le_of_ble_eq_true rfl⟩, Nat.le_of_ble_eq_true rfl, Nat.le_of_ble_eq_true rfl⟩) hl.1 [6, 7, 8] [0, 1, 2, 3, 4, 5, 9, 10, 11, 12, 13, 14, 15, 16, 17, 18, 19, 20, 21, 22, 23, 24, 25, 26, 27, 28, 29, 30, 31, 32, 33, 34, 35, 36, 37, 38] ⟨rfl, rfl, by decide, by decide, by decide⟩ 0 rfl rfl rfl (Nat.le_of_ble_eq_true rfl) d_D_count_90 (fun z_90 u_90 H locs hz_90 w => ?_)
    obtain ⟨rfl, hz_90⟩ := hz_90
    have w : Wd X (dcore cI cO cZ o h sl us pd co q q2 q3 hf rcd sf uf T m ++ sw cI q a b sg ln r N ov lc sd ++ sw cI q2 a2 b2 sg2 ln2 r2 pl2 ov2 lc2 sd2 ++ sw cI q3 a3 b3 sg3 ln3 r3 pl3 ov3 lc3 sd3 ++ hst cI st) H locs := w.sub [0, 1, 2, 3, 4, 5, 36, 37, 38, 6, 7, 8, 9, 10, 11, 12, 13, 14, 15, 16, 17, 18, 19, 20, 21, 22, 23, 24, 25, 26, 27, 28, 29, 30, 31, 32, 33, 34, 35] rfl (by decide)
    exact kret _ _ _ _ z_90 _ d_D_count_93 w (⟨_, cw_mk hR hC, ⟨rfl, Or.inr (Or.inr (Or.inl ⟨hsw, hz_90⟩))⟩⟩)
  · skip
    refine r_switchIn (pc := 1) (off := 93) (tgt := 94) C (by omega) (by omega) (by rw [hsw]; rfl) (by decide) d_D_count_1 ?_
    refine r_aload_n (pc := 94) C d_D_count_94 rfl (lv_at hl 0 rfl) ?_
    refine r_get (pc := 95) (v := .ref q) C w i_D rfl 0 rfl 0 (by decide) fl_D_10 rfl rfl d_D_count_95 ?_
    refine r_aload_n (pc := 98) C d_D_count_98 rfl (lv_at hl 0 rfl) ?_
    refine r_get (pc := 99) (v := .ref q) C w i_D rfl 0 rfl 0 (by decide) fl_D_10 rfl rfl d_D_count_99 ?_
    refine r_get (pc := 102) (v := .int (iI lc)) C w i_S rfl 6 rfl 5 (by decide) fl_D_52 rfl rfl d_D_count_102 ?_
    refine r_callVI (pc := 105) (As := [.int (iI lc)]) (rest := []) (wr := (dcore cI cO cZ o h sl us pd co q q2 q3 hf rcd sf uf T m ++ sw cI q2 a2 b2 sg2 ln2 r2 pl2 ov2 lc2 sd2 ++ sw cI q3 a3 b3 sg3 ln3 r3 pl3 ov3 lc3 sd3 ++ hst cI st)) C w (c_S_allBits hT q a b sg ln r N ov lc sd _ _ hO (by omega) (by omega) lc (by omega)) ml_D_118 im_S_allBits se_S_allBits ini_S cd_S_allBits hd_S_allBits rfl (by rw [hRm]; exact ⟨⟨Nat.le_of_ble_eq_true rfl, Nat.le_of_ble_eq_true rfl⟩, Nat.le_of_ble_eq_true rfl, Nat.le_of_ble_eq_true rfl⟩) hl.1 [6, 7, 8] [0, 1, 2, 3, 4, 5, 9, 10, 11, 12, 13, 14, 15, 16, 17, 18, 19, 20, 21, 22, 23, 24, 25, 26, 27, 28, 29, 30, 31, 32, 33, 34, 35, 36, 37, 38] ⟨rfl, rfl, by decide, by decide, by decide⟩ 0 rfl rfl rfl (Nat.le_of_ble_eq_true rfl) d_D_count_105 (fun z_105 u_105 H locs hz_105 w => ?_)
    obtain ⟨rfl, hz_105⟩ := hz_105
    have w : Wd X (dcore cI cO cZ o h sl us pd co q q2 q3 hf rcd sf uf T m ++ sw cI q a b sg ln r N ov lc sd ++ sw cI q2 a2 b2 sg2 ln2 r2 pl2 ov2 lc2 sd2 ++ sw cI q3 a3 b3 sg3 ln3 r3 pl3 ov3 lc3 sd3 ++ hst cI st) H locs := w.sub [0, 1, 2, 3, 4, 5, 36, 37, 38, 6, 7, 8, 9, 10, 11, 12, 13, 14, 15, 16, 17, 18, 19, 20, 21, 22, 23, 24, 25, 26, 27, 28, 29, 30, 31, 32, 33, 34, 35] rfl (by decide)
    subst hz_105
    have hab := allBits_rg (code := lc) hO (by omega) (k := r) (by omega) (by omega)
    exact kret _ _ _ _ (ps (rbf lc sg ln) r) _ d_D_count_108 w (⟨_, cw_mk hR hC, ⟨rfl, Or.inr (Or.inr (Or.inr (Or.inl ⟨hsw, rfl⟩)))⟩⟩)
  · skip
    refine r_switchIn (pc := 1) (off := 108) (tgt := 109) C (by omega) (by omega) (by rw [hsw]; rfl) (by decide) d_D_count_1 ?_
    refine r_aload_n (pc := 109) C d_D_count_109 rfl (lv_at hl 0 rfl) ?_
    refine r_get (pc := 110) (v := .ref q) C w i_D rfl 0 rfl 0 (by decide) fl_D_10 rfl rfl d_D_count_110 ?_
    refine r_callVI (pc := 113) (As := []) (rest := []) (wr := (dcore cI cO cZ o h sl us pd co q q2 q3 hf rcd sf uf T m ++ sw cI q2 a2 b2 sg2 ln2 r2 pl2 ov2 lc2 sd2 ++ sw cI q3 a3 b3 sg3 ln3 r3 pl3 ov3 lc3 sd3 ++ hst cI st)) C w (c_S_allCharacters hT q a b sg ln r N ov lc sd _ _ hO (by omega) (by omega)  ) ml_D_121 im_S_allCharacters se_S_allCharacters ini_S cd_S_allCharacters hd_S_allCharacters rfl (by rw [hRm]; exact ⟨⟨Nat.le_of_ble_eq_true rfl, Nat.le_of_ble_eq_true rfl⟩, Nat.le_of_ble_eq_true rfl, Nat.le_of_ble_eq_true rfl⟩) hl.1 [6, 7, 8] [0, 1, 2, 3, 4, 5, 9, 10, 11, 12, 13, 14, 15, 16, 17, 18, 19, 20, 21, 22, 23, 24, 25, 26, 27, 28, 29, 30, 31, 32, 33, 34, 35, 36, 37, 38] ⟨rfl, rfl, by decide, by decide, by decide⟩ 0 rfl rfl rfl (Nat.le_of_ble_eq_true rfl) d_D_count_113 (fun z_113 u_113 H locs hz_113 w => ?_)
    obtain ⟨rfl, hz_113⟩ := hz_113
    have w : Wd X (dcore cI cO cZ o h sl us pd co q q2 q3 hf rcd sf uf T m ++ sw cI q a b sg ln r N ov lc sd ++ sw cI q2 a2 b2 sg2 ln2 r2 pl2 ov2 lc2 sd2 ++ sw cI q3 a3 b3 sg3 ln3 r3 pl3 ov3 lc3 sd3 ++ hst cI st) H locs := w.sub [0, 1, 2, 3, 4, 5, 36, 37, 38, 6, 7, 8, 9, 10, 11, 12, 13, 14, 15, 16, 17, 18, 19, 20, 21, 22, 23, 24, 25, 26, 27, 28, 29, 30, 31, 32, 33, 34, 35] rfl (by decide)
    subst hz_113
    exact kret _ _ _ _ (max 0 (r - 1) + ps (crf ln) r) _ d_D_count_116 w (⟨_, cw_mk hR hC, ⟨rfl, Or.inr (Or.inr (Or.inr (Or.inr (Or.inl ⟨hsw, rfl⟩))))⟩⟩)
  · skip
    refine r_switchIn (pc := 1) (off := 116) (tgt := 117) C (by omega) (by omega) (by rw [hsw]; rfl) (by decide) d_D_count_1 ?_
    refine r_aload_n (pc := 117) C d_D_count_117 rfl (lv_at hl 0 rfl) ?_
    refine r_get (pc := 118) (v := .ref q) C w i_D rfl 0 rfl 0 (by decide) fl_D_10 rfl rfl d_D_count_118 ?_
    refine r_callVI (pc := 121) (As := []) (rest := []) (wr := (dcore cI cO cZ o h sl us pd co q q2 q3 hf rcd sf uf T m ++ sw cI q2 a2 b2 sg2 ln2 r2 pl2 ov2 lc2 sd2 ++ sw cI q3 a3 b3 sg3 ln3 r3 pl3 ov3 lc3 sd3 ++ hst cI st)) C w (c_S_sumOfValues hT q a b sg ln r N ov lc sd _ _ hO (by omega) (by omega)  ) ml_D_125 im_S_sumOfValues se_S_sumOfValues ini_S cd_S_sumOfValues hd_S_sumOfValues rfl (by rw [hRm]; exact ⟨⟨Nat.le_of_ble_eq_true rfl, Nat.le_of_ble_eq_true rfl⟩, Nat.le_of_ble_eq_true rfl, Nat.le_of_ble_eq_true rfl⟩) hl.1 [6, 7, 8] [0, 1, 2, 3, 4, 5, 9, 10, 11, 12, 13, 14, 15, 16, 17, 18, 19, 20, 21, 22, 23, 24, 25, 26, 27, 28, 29, 30, 31, 32, 33, 34, 35, 36, 37, 38] ⟨rfl, rfl, by decide, by decide, by decide⟩ 0 rfl rfl rfl (Nat.le_of_ble_eq_true rfl) d_D_count_121 (fun z_121 u_121 H locs hz_121 w => ?_)
    obtain ⟨rfl, hz_121⟩ := hz_121
    have w : Wd X (dcore cI cO cZ o h sl us pd co q q2 q3 hf rcd sf uf T m ++ sw cI q a b sg ln r N ov lc sd ++ sw cI q2 a2 b2 sg2 ln2 r2 pl2 ov2 lc2 sd2 ++ sw cI q3 a3 b3 sg3 ln3 r3 pl3 ov3 lc3 sd3 ++ hst cI st) H locs := w.sub [0, 1, 2, 3, 4, 5, 36, 37, 38, 6, 7, 8, 9, 10, 11, 12, 13, 14, 15, 16, 17, 18, 19, 20, 21, 22, 23, 24, 25, 26, 27, 28, 29, 30, 31, 32, 33, 34, 35] rfl (by decide)
    subst hz_121
    exact kret _ _ _ _ (ps (smf sg ln) r) _ d_D_count_124 w (⟨_, cw_mk hR hC, ⟨rfl, Or.inr (Or.inr (Or.inr (Or.inr (Or.inr (Or.inl ⟨hsw, rfl⟩)))))⟩⟩)
  · skip
    refine r_switchIn (pc := 1) (off := 124) (tgt := 125) C (by omega) (by omega) (by rw [hsw]; rfl) (by decide) d_D_count_1 ?_
    refine r_aload_n (pc := 125) C d_D_count_125 rfl (lv_at hl 0 rfl) ?_
    refine r_get (pc := 126) (v := .ref q) C w i_D rfl 0 rfl 0 (by decide) fl_D_10 rfl rfl d_D_count_126 ?_
    refine r_callVI (pc := 129) (As := []) (rest := []) (wr := (dcore cI cO cZ o h sl us pd co q q2 q3 hf rcd sf uf T m ++ sw cI q2 a2 b2 sg2 ln2 r2 pl2 ov2 lc2 sd2 ++ sw cI q3 a3 b3 sg3 ln3 r3 pl3 ov3 lc3 sd3 ++ hst cI st)) C w (c_S_longestRun hT q a b sg ln r N ov lc sd _ _ hO (by omega) (by omega)  ) ml_D_128 im_S_longestRun se_S_longestRun ini_S cd_S_longestRun hd_S_longestRun rfl (by rw [hRm]; exact ⟨⟨Nat.le_of_ble_eq_true rfl, Nat.le_of_ble_eq_true rfl⟩, Nat.le_of_ble_eq_true rfl, Nat.le_of_ble_eq_true rfl⟩) hl.1 [6, 7, 8] [0, 1, 2, 3, 4, 5, 9, 10, 11, 12, 13, 14, 15, 16, 17, 18, 19, 20, 21, 22, 23, 24, 25, 26, 27, 28, 29, 30, 31, 32, 33, 34, 35, 36, 37, 38] ⟨rfl, rfl, by decide, by decide, by decide⟩ 0 rfl rfl rfl (Nat.le_of_ble_eq_true rfl) d_D_count_129 (fun z_129 u_129 H locs hz_129 w => ?_)
    obtain ⟨rfl, hz_129⟩ := hz_129
    have w : Wd X (dcore cI cO cZ o h sl us pd co q q2 q3 hf rcd sf uf T m ++ sw cI q a b sg ln r N ov lc sd ++ sw cI q2 a2 b2 sg2 ln2 r2 pl2 ov2 lc2 sd2 ++ sw cI q3 a3 b3 sg3 ln3 r3 pl3 ov3 lc3 sd3 ++ hst cI st) H locs := w.sub [0, 1, 2, 3, 4, 5, 36, 37, 38, 6, 7, 8, 9, 10, 11, 12, 13, 14, 15, 16, 17, 18, 19, 20, 21, 22, 23, 24, 25, 26, 27, 28, 29, 30, 31, 32, 33, 34, 35] rfl (by decide)
    subst hz_129
    exact kret _ _ _ _ (mx ln r) _ d_D_count_132 w (⟨_, cw_mk hR hC, ⟨rfl, Or.inr (Or.inr (Or.inr (Or.inr (Or.inr (Or.inr (Or.inl ⟨hsw, rfl⟩))))))⟩⟩)
  · skip
    refine r_switchIn (pc := 1) (off := 132) (tgt := 133) C (by omega) (by omega) (by rw [hsw]; rfl) (by decide) d_D_count_1 ?_
    refine r_aload_n (pc := 133) C d_D_count_133 rfl (lv_at hl 0 rfl) ?_
    refine r_get (pc := 134) (v := .ref pd) C w i_D rfl 0 rfl 7 (by decide) fl_D_40 rfl rfl d_D_count_134 ?_
    refine r_get (pc := 137) (v := .int (iI m)) C w i_P rfl 4 rfl 1 (by decide) fl_D_131 rfl rfl d_D_count_137 ?_
    exact kret _ _ _ _ m _ d_D_count_140 w (⟨_, cw_mk hR hC, ⟨rfl, Or.inr (Or.inr (Or.inr (Or.inr (Or.inr (Or.inr (Or.inr (Or.inl ⟨hsw, rfl⟩)))))))⟩⟩)
  · skip
    refine r_switchIn (pc := 1) (off := 140) (tgt := 141) C (by omega) (by omega) (by rw [hsw]; rfl) (by decide) d_D_count_1 ?_
    refine r_aload_n (pc := 141) C d_D_count_141 rfl (lv_at hl 0 rfl) ?_
    refine r_get (pc := 142) (v := .int (iI rcd)) C w i_D rfl 0 rfl 4 (by decide) fl_D_26 rfl rfl d_D_count_142 ?_
    exact kret _ _ _ _ rcd _ d_D_count_145 w (⟨_, cw_mk hR hC, ⟨rfl, Or.inr (Or.inr (Or.inr (Or.inr (Or.inr (Or.inr (Or.inr (Or.inr (Or.inl ⟨hsw, rfl⟩))))))))⟩⟩)
  · skip
    refine r_switchIn (pc := 1) (off := 145) (tgt := 146) C (by omega) (by omega) (by rw [hsw]; rfl) (by decide) d_D_count_1 ?_
    refine r_aload_n (pc := 146) C d_D_count_146 rfl (lv_at hl 0 rfl) ?_
    refine r_get (pc := 147) (v := .ref q) C w i_D rfl 0 rfl 0 (by decide) fl_D_10 rfl rfl d_D_count_147 ?_
    refine r_get (pc := 150) (v := .int (iI lc)) C w i_S rfl 6 rfl 5 (by decide) fl_D_52 rfl rfl d_D_count_150 ?_
    exact kret _ _ _ _ lc _ d_D_count_153 w (⟨_, cw_mk hR hC, ⟨rfl, Or.inr (Or.inr (Or.inr (Or.inr (Or.inr (Or.inr (Or.inr (Or.inr (Or.inr (Or.inl ⟨hsw, rfl⟩)))))))))⟩⟩)
  · skip
    refine r_switchIn (pc := 1) (off := 153) (tgt := 154) C (by omega) (by omega) (by rw [hsw]; rfl) (by decide) d_D_count_1 ?_
    refine r_aload_n (pc := 154) C d_D_count_154 rfl (lv_at hl 0 rfl) ?_
    refine r_get (pc := 155) (v := .ref q) C w i_D rfl 0 rfl 0 (by decide) fl_D_10 rfl rfl d_D_count_155 ?_
    refine r_get (pc := 158) (v := .int (iI sd)) C w i_S rfl 6 rfl 6 (by decide) fl_D_59 rfl rfl d_D_count_158 ?_
    exact kret _ _ _ _ sd _ d_D_count_161 w (⟨_, cw_mk hR hC, ⟨rfl, Or.inr (Or.inr (Or.inr (Or.inr (Or.inr (Or.inr (Or.inr (Or.inr (Or.inr (Or.inr (Or.inl ⟨hsw, rfl⟩))))))))))⟩⟩)
  · skip
    refine r_switchOut (pc := 1) (tgt := 162) C (by omega) hsw (by decide) d_D_count_1 ?_
    refine r_bipush (pc := 162) C d_D_count_162 (by decide) ?_
    exact kret _ _ _ _ (-2) _ d_D_count_164 w (⟨_, cw_mk hR hC, ⟨rfl, Or.inr (Or.inr (Or.inr (Or.inr (Or.inr (Or.inr (Or.inr (Or.inr (Or.inr (Or.inr (Or.inr (⟨hsw, rfl⟩)))))))))))⟩⟩)
def Sp_howMany (f k s : Int) (A : AS) (z : Int) (A' : AS) : Prop := match A with | ((lc, sd, r, sg, ln, N, v), hist, rcd, slot, uf, T, m) => A' = A ∧ ((¬ (0 ≤ f ∧ 1 ≤ k ∧ k ≤ N - f) ∧ z = -1) ∨ ((0 ≤ f ∧ 1 ≤ k ∧ k ≤ N - f) ∧ ((¬ (0 ≤ s ∧ s ≤ 10) ∧ z = -2) ∨ ((0 ≤ s ∧ s ≤ 10) ∧ z = cn v s f (f + k)))))
theorem d_D_howMany_0 : decode b_D_howMany 0 = .ok (.aload_n 0, 1) := by decide +kernel
theorem d_D_howMany_1 : decode b_D_howMany 1 = .ok (.iload_n 1, 1) := by decide +kernel
theorem d_D_howMany_2 : decode b_D_howMany 2 = .ok (.iload_n 2, 1) := by decide +kernel
theorem d_D_howMany_3 : decode b_D_howMany 3 = .ok (.invokevirtual 76, 3) := by decide +kernel
theorem d_D_howMany_6 : decode b_D_howMany 6 = .ok (.ifCond .ne 5, 3) := by decide +kernel
theorem d_D_howMany_9 : decode b_D_howMany 9 = .ok (.iconst (-1), 1) := by decide +kernel
theorem d_D_howMany_10 : decode b_D_howMany 10 = .ok (.ireturn, 1) := by decide +kernel
theorem d_D_howMany_11 : decode b_D_howMany 11 = .ok (.iload_n 3, 1) := by decide +kernel
theorem d_D_howMany_12 : decode b_D_howMany 12 = .ok (.iconst 0, 1) := by decide +kernel
theorem d_D_howMany_13 : decode b_D_howMany 13 = .ok (.bipush 10, 2) := by decide +kernel
theorem d_D_howMany_15 : decode b_D_howMany 15 = .ok (.invokestatic 44, 3) := by decide +kernel
theorem d_D_howMany_18 : decode b_D_howMany 18 = .ok (.ifCond .eq 18, 3) := by decide +kernel
theorem d_D_howMany_21 : decode b_D_howMany 21 = .ok (.aload_n 0, 1) := by decide +kernel
theorem d_D_howMany_22 : decode b_D_howMany 22 = .ok (.getfield 10, 3) := by decide +kernel
theorem d_D_howMany_25 : decode b_D_howMany 25 = .ok (.iload_n 1, 1) := by decide +kernel
theorem d_D_howMany_26 : decode b_D_howMany 26 = .ok (.iload_n 1, 1) := by decide +kernel
theorem d_D_howMany_27 : decode b_D_howMany 27 = .ok (.iload_n 2, 1) := by decide +kernel
theorem d_D_howMany_28 : decode b_D_howMany 28 = .ok (.iadd, 1) := by decide +kernel
theorem d_D_howMany_29 : decode b_D_howMany 29 = .ok (.iload_n 3, 1) := by decide +kernel
theorem d_D_howMany_30 : decode b_D_howMany 30 = .ok (.invokevirtual 80, 3) := by decide +kernel
theorem d_D_howMany_33 : decode b_D_howMany 33 = .ok (.goto 5, 3) := by decide +kernel
theorem d_D_howMany_36 : decode b_D_howMany 36 = .ok (.bipush (-2), 2) := by decide +kernel
theorem d_D_howMany_38 : decode b_D_howMany 38 = .ok (.ireturn, 1) := by decide +kernel
set_option maxHeartbeats 4000000 in
set_option maxRecDepth 20000 in
theorem c_D_howMany {l : Launch} {G : va_G} {tys : List (ClassId × FieldType)} {cI cO cZ : ClassId} (hT : TY tys cI cO cZ) (o : Nat) (A : AS) (ws : va_W) (hA : CW cI cO cZ o A ws) (f k s : Int) (hrg : (-2147483648 ≤ f ∧ f < 2147483648) ∧ (-2147483648 ≤ k ∧ k < 2147483648) ∧ (-2147483648 ≤ s ∧ s < 2147483648)) : CTI l G tys y_D_howMany b_D_howMany 4 .int 3 68 [.ref o, .int (iI f), .int (iI k), .int (iI s)] ws (fun z u => ∃ A' : AS, CW cI cO cZ o A' u ∧ Sp_howMany f k s A z A') := by
  obtain ⟨⟨lc, sd, r, sg, ln, N, v⟩, hist, rcd, slot, uf, T, m⟩ := A
  obtain ⟨hR, h, sl, us, pd, co, hf, sf, q, a, b, ov, q2, a2, b2, sg2, ln2, r2, pl2, ov2, lc2, sd2, q3, a3, b3, sg3, ln3, r3, pl3, ov3, lc3, sd3, st, rfl, hC⟩ := hA
  have hO := hR.1
  have hr5 := hR.2.1
  have hN3 := hR.2.2.1
  have hN0 := hO.n0
  have hr0 := hO.1
  have hlcd := hR.2.2.2
  have hm80 := hC.2.2.2.2.2.1
  have hrcd6 := hC.2.2.1
  refine mkI (by decide) (Nat.le_of_ble_eq_true rfl) ?_
  rintro X rfl rfl rfl hRm C kret H ls w hl
  have hl : lv_has ls 4 [(0, .ref o), (1, .int (iI f)), (2, .int (iI k)), (3, .int (iI s))] := hl
  have w : Wd X (dcore cI cO cZ o h sl us pd co q q2 q3 hf rcd sf uf T m ++ sw cI q a b sg ln r N ov lc sd ++ sw cI q2 a2 b2 sg2 ln2 r2 pl2 ov2 lc2 sd2 ++ sw cI q3 a3 b3 sg3 ln3 r3 pl3 ov3 lc3 sd3 ++ hst cI st) H [] := w
  generalize ([] : List Loc) = locs at w ⊢
  refine r_aload_n (pc := 0) C d_D_howMany_0 rfl (lv_at hl 0 rfl) ?_
  refine r_iload_n (pc := 1) C d_D_howMany_1 rfl (lv_at hl 1 rfl) ?_
  refine r_iload_n (pc := 2) C d_D_howMany_2 rfl (lv_at hl 2 rfl) ?_
  refine r_callVI (pc := 3) (As := [.int (iI f), .int (iI k)]) (rest := []) (wr := []) C w (c_D_isPiece hT o h sl us pd co hf sf rcd m uf T q a b sg ln r N ov lc sd q2 a2 b2 sg2 ln2 r2 pl2 ov2 lc2 sd2 q3 a3 b3 sg3 ln3 r3 pl3 ov3 lc3 sd3 st f k (by omega) (by omega)) ml_D_76 im_D_isPiece se_D_isPiece ini_D cd_D_isPiece hd_D_isPiece rfl (by rw [hRm]; exact ⟨⟨Nat.le_of_ble_eq_true rfl, Nat.le_of_ble_eq_true rfl⟩, Nat.le_of_ble_eq_true rfl, Nat.le_of_ble_eq_true rfl⟩) hl.1 [0, 1, 2, 3, 4, 5, 6, 7, 8, 9, 10, 11, 12, 13, 14, 15, 16, 17, 18, 19, 20, 21, 22, 23, 24, 25, 26, 27, 28, 29, 30, 31, 32, 33, 34, 35, 36, 37, 38] [] ⟨rfl, rfl, by decide, by decide, by decide⟩ 0 rfl rfl rfl (Nat.le_of_ble_eq_true rfl) d_D_howMany_3 (fun z_3 u_3 H locs hz_3 w => ?_)
  obtain ⟨rfl, hz_3⟩ := hz_3
  have w : Wd X (dcore cI cO cZ o h sl us pd co q q2 q3 hf rcd sf uf T m ++ sw cI q a b sg ln r N ov lc sd ++ sw cI q2 a2 b2 sg2 ln2 r2 pl2 ov2 lc2 sd2 ++ sw cI q3 a3 b3 sg3 ln3 r3 pl3 ov3 lc3 sd3 ++ hst cI st) H locs := w
  refine r_if_ne (pc := 6) (tgt := 11) C (by omega) d_D_howMany_6 (by decide) (fun c_6 => ?_) (fun c_6 => ?_)
  · skip
    have hb_6 : 0 ≤ f ∧ 1 ≤ k ∧ k ≤ N - f := by omega
    clear hz_3 c_6
    refine r_iload_n (pc := 11) C d_D_howMany_11 rfl (lv_at hl 3 rfl) ?_
    refine r_iconst (pc := 12) C d_D_howMany_12 ?_
    refine r_bipush (pc := 13) C d_D_howMany_13 (by decide) ?_
    refine r_callP (pc := 15) (As := [.int (iI s), .int (iI 0), .int (iI 10)]) (rest := []) C w (c_D_isWithin s 0 10 (by omega)) ml_D_44 st_D_isWithin ini_D cd_D_isWithin hd_D_isWithin rfl (by rw [hRm]; exact ⟨⟨Nat.le_of_ble_eq_true rfl, Nat.le_of_ble_eq_true rfl⟩, Nat.le_of_ble_eq_true rfl, Nat.le_of_ble_eq_true rfl⟩) hl.1 rfl (Nat.le_of_ble_eq_true rfl) d_D_howMany_15 (fun z_15 H locs hz_15 w => ?_)
    refine r_if_eq (pc := 18) (tgt := 36) C (by omega) d_D_howMany_18 (by decide) (fun c_18 => ?_) (fun c_18 => ?_)
    · skip
      have hb_18 : ¬ (0 ≤ s ∧ s ≤ 10) := by omega
      clear hz_15 c_18
      refine r_bipush (pc := 36) C d_D_howMany_36 (by decide) ?_
      exact kret _ _ _ _ (-2) _ d_D_howMany_38 w (⟨_, cw_mk hR hC, ⟨rfl, by omega⟩⟩)
    · skip
      have hb_18 : 0 ≤ s ∧ s ≤ 10 := by omega
      clear hz_15 c_18
      refine r_aload_n (pc := 21) C d_D_howMany_21 rfl (lv_at hl 0 rfl) ?_
      refine r_get (pc := 22) (v := .ref q) C w i_D rfl 0 rfl 0 (by decide) fl_D_10 rfl rfl d_D_howMany_22 ?_
      refine r_iload_n (pc := 25) C d_D_howMany_25 rfl (lv_at hl 1 rfl) ?_
      refine r_iload_n (pc := 26) C d_D_howMany_26 rfl (lv_at hl 1 rfl) ?_
      refine r_iload_n (pc := 27) C d_D_howMany_27 rfl (lv_at hl 2 rfl) ?_
      refine r_iadd (pc := 28) C d_D_howMany_28 ?_
      refine r_iload_n (pc := 29) C d_D_howMany_29 rfl (lv_at hl 3 rfl) ?_
      refine r_callVI (pc := 30) (As := [.int (iI f), .int (iI (f + k)), .int (iI s)]) (rest := []) (wr := (dcore cI cO cZ o h sl us pd co q q2 q3 hf rcd sf uf T m ++ sw cI q2 a2 b2 sg2 ln2 r2 pl2 ov2 lc2 sd2 ++ sw cI q3 a3 b3 sg3 ln3 r3 pl3 ov3 lc3 sd3 ++ hst cI st)) C w (c_S_alikeIn hT q a b sg ln r N ov lc sd _ _ hO (by omega) (by omega) f (f + k) s (by omega) (by omega)) ml_D_80 im_S_alikeIn se_S_alikeIn ini_S cd_S_alikeIn hd_S_alikeIn rfl (by rw [hRm]; exact ⟨⟨Nat.le_of_ble_eq_true rfl, Nat.le_of_ble_eq_true rfl⟩, Nat.le_of_ble_eq_true rfl, Nat.le_of_ble_eq_true rfl⟩) hl.1 [6, 7, 8] [0, 1, 2, 3, 4, 5, 9, 10, 11, 12, 13, 14, 15, 16, 17, 18, 19, 20, 21, 22, 23, 24, 25, 26, 27, 28, 29, 30, 31, 32, 33, 34, 35, 36, 37, 38] ⟨rfl, rfl, by decide, by decide, by decide⟩ 0 rfl rfl rfl (Nat.le_of_ble_eq_true rfl) d_D_howMany_30 (fun z_30 u_30 H locs hz_30 w => ?_)
      obtain ⟨rfl, hz_30⟩ := hz_30
      have w : Wd X (dcore cI cO cZ o h sl us pd co q q2 q3 hf rcd sf uf T m ++ sw cI q a b sg ln r N ov lc sd ++ sw cI q2 a2 b2 sg2 ln2 r2 pl2 ov2 lc2 sd2 ++ sw cI q3 a3 b3 sg3 ln3 r3 pl3 ov3 lc3 sd3 ++ hst cI st) H locs := w.sub [0, 1, 2, 3, 4, 5, 36, 37, 38, 6, 7, 8, 9, 10, 11, 12, 13, 14, 15, 16, 17, 18, 19, 20, 21, 22, 23, 24, 25, 26, 27, 28, 29, 30, 31, 32, 33, 34, 35] rfl (by decide)
      refine r_goto (pc := 33) (tgt := 38) C d_D_howMany_33 (by decide) ?_
      exact kret _ _ _ _ z_30 _ d_D_howMany_38 w (⟨_, cw_mk hR hC, ⟨rfl, by omega⟩⟩)
  · skip
    have hb_6 : ¬ (0 ≤ f ∧ 1 ≤ k ∧ k ≤ N - f) := by omega
    clear hz_3 c_6
    refine r_iconst (pc := 9) C d_D_howMany_9 ?_
    exact kret _ _ _ _ (-1) _ d_D_howMany_10 w (⟨_, cw_mk hR hC, ⟨rfl, by omega⟩⟩)
def Sp_bit (x : Int) (A : AS) (z : Int) (A' : AS) : Prop := match A with | ((lc, sd, r, sg, ln, N, v), hist, rcd, slot, uf, T, m) => A' = A ∧ (BitAt lc r sg ln x z)
theorem d_D_bit_0 : decode b_D_bit 0 = .ok (.aload_n 0, 1) := by decide +kernel
theorem d_D_bit_1 : decode b_D_bit 1 = .ok (.getfield 10, 3) := by decide +kernel
theorem d_D_bit_4 : decode b_D_bit 4 = .ok (.iload_n 1, 1) := by decide +kernel
theorem d_D_bit_5 : decode b_D_bit 5 = .ok (.invokevirtual 134, 3) := by decide +kernel
theorem d_D_bit_8 : decode b_D_bit 8 = .ok (.ireturn, 1) := by decide +kernel
set_option maxHeartbeats 4000000 in
set_option maxRecDepth 20000 in
theorem c_D_bit {l : Launch} {G : va_G} {tys : List (ClassId × FieldType)} {cI cO cZ : ClassId} (hT : TY tys cI cO cZ) (o : Nat) (A : AS) (ws : va_W) (hA : CW cI cO cZ o A ws) (x : Int) (hrg : (-2147483648 ≤ x ∧ x < 2147483648)) : CTI l G tys y_D_bit b_D_bit 2 .int 4 95 [.ref o, .int (iI x)] ws (fun z u => ∃ A' : AS, CW cI cO cZ o A' u ∧ Sp_bit x A z A') := by
  obtain ⟨⟨lc, sd, r, sg, ln, N, v⟩, hist, rcd, slot, uf, T, m⟩ := A
  obtain ⟨hR, h, sl, us, pd, co, hf, sf, q, a, b, ov, q2, a2, b2, sg2, ln2, r2, pl2, ov2, lc2, sd2, q3, a3, b3, sg3, ln3, r3, pl3, ov3, lc3, sd3, st, rfl, hC⟩ := hA
  have hO := hR.1
  have hr5 := hR.2.1
  have hN3 := hR.2.2.1
  have hN0 := hO.n0
  have hr0 := hO.1
  have hlcd := hR.2.2.2
  have hm80 := hC.2.2.2.2.2.1
  have hrcd6 := hC.2.2.1
  refine mkI (by decide) (Nat.le_of_ble_eq_true rfl) ?_
  rintro X rfl rfl rfl hRm C kret H ls w hl
  have hl : lv_has ls 2 [(0, .ref o), (1, .int (iI x))] := hl
  have w : Wd X (dcore cI cO cZ o h sl us pd co q q2 q3 hf rcd sf uf T m ++ sw cI q a b sg ln r N ov lc sd ++ sw cI q2 a2 b2 sg2 ln2 r2 pl2 ov2 lc2 sd2 ++ sw cI q3 a3 b3 sg3 ln3 r3 pl3 ov3 lc3 sd3 ++ hst cI st) H [] := w
  generalize ([] : List Loc) = locs at w ⊢
  refine r_aload_n (pc := 0) C d_D_bit_0 rfl (lv_at hl 0 rfl) ?_
  refine r_get (pc := 1) (v := .ref q) C w i_D rfl 0 rfl 0 (by decide) fl_D_10 rfl rfl d_D_bit_1 ?_
  refine r_iload_n (pc := 4) C d_D_bit_4 rfl (lv_at hl 1 rfl) ?_
  refine r_callVI (pc := 5) (As := [.int (iI x)]) (rest := []) (wr := (dcore cI cO cZ o h sl us pd co q q2 q3 hf rcd sf uf T m ++ sw cI q2 a2 b2 sg2 ln2 r2 pl2 ov2 lc2 sd2 ++ sw cI q3 a3 b3 sg3 ln3 r3 pl3 ov3 lc3 sd3 ++ hst cI st)) C w (c_S_bitAt hT q a b sg ln r N ov lc sd _ _ hO (by omega) (by omega) x (by omega) (by omega)) ml_D_134 im_S_bitAt se_S_bitAt ini_S cd_S_bitAt hd_S_bitAt rfl (by rw [hRm]; exact ⟨⟨Nat.le_of_ble_eq_true rfl, Nat.le_of_ble_eq_true rfl⟩, Nat.le_of_ble_eq_true rfl, Nat.le_of_ble_eq_true rfl⟩) hl.1 [6, 7, 8] [0, 1, 2, 3, 4, 5, 9, 10, 11, 12, 13, 14, 15, 16, 17, 18, 19, 20, 21, 22, 23, 24, 25, 26, 27, 28, 29, 30, 31, 32, 33, 34, 35, 36, 37, 38] ⟨rfl, rfl, by decide, by decide, by decide⟩ 0 rfl rfl rfl (Nat.le_of_ble_eq_true rfl) d_D_bit_5 (fun z_5 u_5 H locs hz_5 w => ?_)
  obtain ⟨rfl, hz_5⟩ := hz_5
  have w : Wd X (dcore cI cO cZ o h sl us pd co q q2 q3 hf rcd sf uf T m ++ sw cI q a b sg ln r N ov lc sd ++ sw cI q2 a2 b2 sg2 ln2 r2 pl2 ov2 lc2 sd2 ++ sw cI q3 a3 b3 sg3 ln3 r3 pl3 ov3 lc3 sd3 ++ hst cI st) H locs := w.sub [0, 1, 2, 3, 4, 5, 36, 37, 38, 6, 7, 8, 9, 10, 11, 12, 13, 14, 15, 16, 17, 18, 19, 20, 21, 22, 23, 24, 25, 26, 27, 28, 29, 30, 31, 32, 33, 34, 35] rfl (by decide)
  exact kret _ _ _ _ z_5 _ d_D_bit_8 w (⟨_, cw_mk hR hC, ⟨rfl, hz_5⟩⟩)
def Sp_character (x : Int) (A : AS) (z : Int) (A' : AS) : Prop := match A with | ((lc, sd, r, sg, ln, N, v), hist, rcd, slot, uf, T, m) => A' = A ∧ (∀ (Wt : Int → Int) (m : Int), Txt Wt r sg ln m → ((0 ≤ x ∧ x < m) ∧ z = Wt x) ∨ (¬ (0 ≤ x ∧ x < m) ∧ z = -1))
theorem d_D_character_0 : decode b_D_character 0 = .ok (.aload_n 0, 1) := by decide +kernel
theorem d_D_character_1 : decode b_D_character 1 = .ok (.getfield 10, 3) := by decide +kernel
theorem d_D_character_4 : decode b_D_character 4 = .ok (.iload_n 1, 1) := by decide +kernel
theorem d_D_character_5 : decode b_D_character 5 = .ok (.invokevirtual 137, 3) := by decide +kernel
theorem d_D_character_8 : decode b_D_character 8 = .ok (.ireturn, 1) := by decide +kernel
set_option maxHeartbeats 4000000 in
set_option maxRecDepth 20000 in
theorem c_D_character {l : Launch} {G : va_G} {tys : List (ClassId × FieldType)} {cI cO cZ : ClassId} (hT : TY tys cI cO cZ) (o : Nat) (A : AS) (ws : va_W) (hA : CW cI cO cZ o A ws) (x : Int) (hrg : (-2147483648 ≤ x ∧ x < 2147483648)) : CTI l G tys y_D_character b_D_character 2 .int 3 71 [.ref o, .int (iI x)] ws (fun z u => ∃ A' : AS, CW cI cO cZ o A' u ∧ Sp_character x A z A') := by
  obtain ⟨⟨lc, sd, r, sg, ln, N, v⟩, hist, rcd, slot, uf, T, m⟩ := A
  obtain ⟨hR, h, sl, us, pd, co, hf, sf, q, a, b, ov, q2, a2, b2, sg2, ln2, r2, pl2, ov2, lc2, sd2, q3, a3, b3, sg3, ln3, r3, pl3, ov3, lc3, sd3, st, rfl, hC⟩ := hA
  have hO := hR.1
  have hr5 := hR.2.1
  have hN3 := hR.2.2.1
  have hN0 := hO.n0
  have hr0 := hO.1
  have hlcd := hR.2.2.2
  have hm80 := hC.2.2.2.2.2.1
  have hrcd6 := hC.2.2.1
  refine mkI (by decide) (Nat.le_of_ble_eq_true rfl) ?_
  rintro X rfl rfl rfl hRm C kret H ls w hl
  have hl : lv_has ls 2 [(0, .ref o), (1, .int (iI x))] := hl
  have w : Wd X (dcore cI cO cZ o h sl us pd co q q2 q3 hf rcd sf uf T m ++ sw cI q a b sg ln r N ov lc sd ++ sw cI q2 a2 b2 sg2 ln2 r2 pl2 ov2 lc2 sd2 ++ sw cI q3 a3 b3 sg3 ln3 r3 pl3 ov3 lc3 sd3 ++ hst cI st) H [] := w
  generalize ([] : List Loc) = locs at w ⊢
  refine r_aload_n (pc := 0) C d_D_character_0 rfl (lv_at hl 0 rfl) ?_
  refine r_get (pc := 1) (v := .ref q) C w i_D rfl 0 rfl 0 (by decide) fl_D_10 rfl rfl d_D_character_1 ?_
  refine r_iload_n (pc := 4) C d_D_character_4 rfl (lv_at hl 1 rfl) ?_
  refine r_callVI (pc := 5) (As := [.int (iI x)]) (rest := []) (wr := (dcore cI cO cZ o h sl us pd co q q2 q3 hf rcd sf uf T m ++ sw cI q2 a2 b2 sg2 ln2 r2 pl2 ov2 lc2 sd2 ++ sw cI q3 a3 b3 sg3 ln3 r3 pl3 ov3 lc3 sd3 ++ hst cI st)) C w (c_S_characterAt hT q a b sg ln r N ov lc sd _ _ hO (by omega) (by omega) x (by omega)) ml_D_137 im_S_characterAt se_S_characterAt ini_S cd_S_characterAt hd_S_characterAt rfl (by rw [hRm]; exact ⟨⟨Nat.le_of_ble_eq_true rfl, Nat.le_of_ble_eq_true rfl⟩, Nat.le_of_ble_eq_true rfl, Nat.le_of_ble_eq_true rfl⟩) hl.1 [6, 7, 8] [0, 1, 2, 3, 4, 5, 9, 10, 11, 12, 13, 14, 15, 16, 17, 18, 19, 20, 21, 22, 23, 24, 25, 26, 27, 28, 29, 30, 31, 32, 33, 34, 35, 36, 37, 38] ⟨rfl, rfl, by decide, by decide, by decide⟩ 0 rfl rfl rfl (Nat.le_of_ble_eq_true rfl) d_D_character_5 (fun z_5 u_5 H locs hz_5 w => ?_)
  obtain ⟨rfl, hz_5⟩ := hz_5
  have w : Wd X (dcore cI cO cZ o h sl us pd co q q2 q3 hf rcd sf uf T m ++ sw cI q a b sg ln r N ov lc sd ++ sw cI q2 a2 b2 sg2 ln2 r2 pl2 ov2 lc2 sd2 ++ sw cI q3 a3 b3 sg3 ln3 r3 pl3 ov3 lc3 sd3 ++ hst cI st) H locs := w.sub [0, 1, 2, 3, 4, 5, 36, 37, 38, 6, 7, 8, 9, 10, 11, 12, 13, 14, 15, 16, 17, 18, 19, 20, 21, 22, 23, 24, 25, 26, 27, 28, 29, 30, 31, 32, 33, 34, 35] rfl (by decide)
  exact kret _ _ _ _ z_5 _ d_D_character_8 w (⟨_, cw_mk hR hC, ⟨rfl, hz_5⟩⟩)
def Sp_size (c : Int) (A : AS) (z : Int) (A' : AS) : Prop := match A with | ((lc, sd, r, sg, ln, N, v), hist, rcd, slot, uf, T, m) => A' = A ∧ ((¬ (0 ≤ c ∧ c ≤ 2) ∧ z = -2) ∨ ((0 ≤ c ∧ c ≤ 2) ∧ z = ps (rbf c sg ln) r))
theorem d_D_size_0 : decode b_D_size 0 = .ok (.iload_n 1, 1) := by decide +kernel
theorem d_D_size_1 : decode b_D_size 1 = .ok (.iconst 0, 1) := by decide +kernel
theorem d_D_size_2 : decode b_D_size 2 = .ok (.iconst 2, 1) := by decide +kernel
theorem d_D_size_3 : decode b_D_size 3 = .ok (.invokestatic 44, 3) := by decide +kernel
theorem d_D_size_6 : decode b_D_size 6 = .ok (.ifCond .eq 14, 3) := by decide +kernel
theorem d_D_size_9 : decode b_D_size 9 = .ok (.aload_n 0, 1) := by decide +kernel
theorem d_D_size_10 : decode b_D_size 10 = .ok (.getfield 10, 3) := by decide +kernel
theorem d_D_size_13 : decode b_D_size 13 = .ok (.iload_n 1, 1) := by decide +kernel
theorem d_D_size_14 : decode b_D_size 14 = .ok (.invokevirtual 118, 3) := by decide +kernel
theorem d_D_size_17 : decode b_D_size 17 = .ok (.goto 5, 3) := by decide +kernel
theorem d_D_size_20 : decode b_D_size 20 = .ok (.bipush (-2), 2) := by decide +kernel
theorem d_D_size_22 : decode b_D_size 22 = .ok (.ireturn, 1) := by decide +kernel
set_option maxHeartbeats 4000000 in
set_option maxRecDepth 20000 in
theorem c_D_size {l : Launch} {G : va_G} {tys : List (ClassId × FieldType)} {cI cO cZ : ClassId} (hT : TY tys cI cO cZ) (o : Nat) (A : AS) (ws : va_W) (hA : CW cI cO cZ o A ws) (c : Int) (hrg : (-2147483648 ≤ c ∧ c < 2147483648)) : CTI l G tys y_D_size b_D_size 2 .int 4 90 [.ref o, .int (iI c)] ws (fun z u => ∃ A' : AS, CW cI cO cZ o A' u ∧ Sp_size c A z A') := by
  obtain ⟨⟨lc, sd, r, sg, ln, N, v⟩, hist, rcd, slot, uf, T, m⟩ := A
  obtain ⟨hR, h, sl, us, pd, co, hf, sf, q, a, b, ov, q2, a2, b2, sg2, ln2, r2, pl2, ov2, lc2, sd2, q3, a3, b3, sg3, ln3, r3, pl3, ov3, lc3, sd3, st, rfl, hC⟩ := hA
  have hO := hR.1
  have hr5 := hR.2.1
  have hN3 := hR.2.2.1
  have hN0 := hO.n0
  have hr0 := hO.1
  have hlcd := hR.2.2.2
  have hm80 := hC.2.2.2.2.2.1
  have hrcd6 := hC.2.2.1
  refine mkI (by decide) (Nat.le_of_ble_eq_true rfl) ?_
  rintro X rfl rfl rfl hRm C kret H ls w hl
  have hl : lv_has ls 2 [(0, .ref o), (1, .int (iI c))] := hl
  have w : Wd X (dcore cI cO cZ o h sl us pd co q q2 q3 hf rcd sf uf T m ++ sw cI q a b sg ln r N ov lc sd ++ sw cI q2 a2 b2 sg2 ln2 r2 pl2 ov2 lc2 sd2 ++ sw cI q3 a3 b3 sg3 ln3 r3 pl3 ov3 lc3 sd3 ++ hst cI st) H [] := w
  generalize ([] : List Loc) = locs at w ⊢
  refine r_iload_n (pc := 0) C d_D_size_0 rfl (lv_at hl 1 rfl) ?_
  refine r_iconst (pc := 1) C d_D_size_1 ?_
  refine r_iconst (pc := 2) C d_D_size_2 ?_
  refine r_callP (pc := 3) (As := [.int (iI c), .int (iI 0), .int (iI 2)]) (rest := []) C w (c_D_isWithin c 0 2 (by omega)) ml_D_44 st_D_isWithin ini_D cd_D_isWithin hd_D_isWithin rfl (by rw [hRm]; exact ⟨⟨Nat.le_of_ble_eq_true rfl, Nat.le_of_ble_eq_true rfl⟩, Nat.le_of_ble_eq_true rfl, Nat.le_of_ble_eq_true rfl⟩) hl.1 rfl (Nat.le_of_ble_eq_true rfl) d_D_size_3 (fun z_3 H locs hz_3 w => ?_)
  refine r_if_eq (pc := 6) (tgt := 20) C (by omega) d_D_size_6 (by decide) (fun c_6 => ?_) (fun c_6 => ?_)
  · skip
    have hb_6 : ¬ (0 ≤ c ∧ c ≤ 2) := by omega
    clear hz_3 c_6
    refine r_bipush (pc := 20) C d_D_size_20 (by decide) ?_
    exact kret _ _ _ _ (-2) _ d_D_size_22 w (⟨_, cw_mk hR hC, ⟨rfl, by omega⟩⟩)
  · skip
    have hb_6 : 0 ≤ c ∧ c ≤ 2 := by omega
    clear hz_3 c_6
    refine r_aload_n (pc := 9) C d_D_size_9 rfl (lv_at hl 0 rfl) ?_
    refine r_get (pc := 10) (v := .ref q) C w i_D rfl 0 rfl 0 (by decide) fl_D_10 rfl rfl d_D_size_10 ?_
    refine r_iload_n (pc := 13) C d_D_size_13 rfl (lv_at hl 1 rfl) ?_
    refine r_callVI (pc := 14) (As := [.int (iI c)]) (rest := []) (wr := (dcore cI cO cZ o h sl us pd co q q2 q3 hf rcd sf uf T m ++ sw cI q2 a2 b2 sg2 ln2 r2 pl2 ov2 lc2 sd2 ++ sw cI q3 a3 b3 sg3 ln3 r3 pl3 ov3 lc3 sd3 ++ hst cI st)) C w (c_S_allBits hT q a b sg ln r N ov lc sd _ _ hO (by omega) (by omega) c (by omega)) ml_D_118 im_S_allBits se_S_allBits ini_S cd_S_allBits hd_S_allBits rfl (by rw [hRm]; exact ⟨⟨Nat.le_of_ble_eq_true rfl, Nat.le_of_ble_eq_true rfl⟩, Nat.le_of_ble_eq_true rfl, Nat.le_of_ble_eq_true rfl⟩) hl.1 [6, 7, 8] [0, 1, 2, 3, 4, 5, 9, 10, 11, 12, 13, 14, 15, 16, 17, 18, 19, 20, 21, 22, 23, 24, 25, 26, 27, 28, 29, 30, 31, 32, 33, 34, 35, 36, 37, 38] ⟨rfl, rfl, by decide, by decide, by decide⟩ 0 rfl rfl rfl (Nat.le_of_ble_eq_true rfl) d_D_size_14 (fun z_14 u_14 H locs hz_14 w => ?_)
    obtain ⟨rfl, hz_14⟩ := hz_14
    have w : Wd X (dcore cI cO cZ o h sl us pd co q q2 q3 hf rcd sf uf T m ++ sw cI q a b sg ln r N ov lc sd ++ sw cI q2 a2 b2 sg2 ln2 r2 pl2 ov2 lc2 sd2 ++ sw cI q3 a3 b3 sg3 ln3 r3 pl3 ov3 lc3 sd3 ++ hst cI st) H locs := w.sub [0, 1, 2, 3, 4, 5, 36, 37, 38, 6, 7, 8, 9, 10, 11, 12, 13, 14, 15, 16, 17, 18, 19, 20, 21, 22, 23, 24, 25, 26, 27, 28, 29, 30, 31, 32, 33, 34, 35] rfl (by decide)
    subst hz_14
    have hab := allBits_rg (code := c) hO (by omega) (k := r) (by omega) (by omega)
    refine r_goto (pc := 17) (tgt := 22) C d_D_size_17 (by decide) ?_
    exact kret _ _ _ _ (ps (rbf c sg ln) r) _ d_D_size_22 w (⟨_, cw_mk hR hC, ⟨rfl, by omega⟩⟩)
def Sp_bestCode (A : AS) (z : Int) (A' : AS) : Prop := match A with | ((lc, sd, r, sg, ln, N, v), hist, rcd, slot, uf, T, m) => A' = A ∧ (z = bestC (ps (rbf 0 sg ln) r) (ps (rbf 1 sg ln) r) (ps (rbf 2 sg ln) r))
theorem d_D_bestCode_0 : decode b_D_bestCode 0 = .ok (.iconst 0, 1) := by decide +kernel
theorem d_D_bestCode_1 : decode b_D_bestCode 1 = .ok (.istore_n 1, 1) := by decide +kernel
theorem d_D_bestCode_2 : decode b_D_bestCode 2 = .ok (.iconst 1, 1) := by decide +kernel
theorem d_D_bestCode_3 : decode b_D_bestCode 3 = .ok (.istore_n 2, 1) := by decide +kernel
theorem d_D_bestCode_4 : decode b_D_bestCode 4 = .ok (.iload_n 2, 1) := by decide +kernel
theorem d_D_bestCode_5 : decode b_D_bestCode 5 = .ok (.iconst 2, 1) := by decide +kernel
theorem d_D_bestCode_6 : decode b_D_bestCode 6 = .ok (.if_icmp .gt 30, 3) := by decide +kernel
theorem d_D_bestCode_9 : decode b_D_bestCode 9 = .ok (.aload_n 0, 1) := by decide +kernel
theorem d_D_bestCode_10 : decode b_D_bestCode 10 = .ok (.getfield 10, 3) := by decide +kernel
theorem d_D_bestCode_13 : decode b_D_bestCode 13 = .ok (.iload_n 2, 1) := by decide +kernel
theorem d_D_bestCode_14 : decode b_D_bestCode 14 = .ok (.invokevirtual 118, 3) := by decide +kernel
theorem d_D_bestCode_17 : decode b_D_bestCode 17 = .ok (.aload_n 0, 1) := by decide +kernel
theorem d_D_bestCode_18 : decode b_D_bestCode 18 = .ok (.getfield 10, 3) := by decide +kernel
theorem d_D_bestCode_21 : decode b_D_bestCode 21 = .ok (.iload_n 1, 1) := by decide +kernel
theorem d_D_bestCode_22 : decode b_D_bestCode 22 = .ok (.invokevirtual 118, 3) := by decide +kernel
theorem d_D_bestCode_25 : decode b_D_bestCode 25 = .ok (.if_icmp .ge 5, 3) := by decide +kernel
theorem d_D_bestCode_28 : decode b_D_bestCode 28 = .ok (.iload_n 2, 1) := by decide +kernel
theorem d_D_bestCode_29 : decode b_D_bestCode 29 = .ok (.istore_n 1, 1) := by decide +kernel
theorem d_D_bestCode_30 : decode b_D_bestCode 30 = .ok (.iinc 2 1, 3) := by decide +kernel
theorem d_D_bestCode_33 : decode b_D_bestCode 33 = .ok (.goto (-29), 3) := by decide +kernel
theorem d_D_bestCode_36 : decode b_D_bestCode 36 = .ok (.iload_n 1, 1) := by decide +kernel
theorem d_D_bestCode_37 : decode b_D_bestCode 37 = .ok (.ireturn, 1) := by decide +kernel
set_option maxHeartbeats 4000000 in
set_option maxRecDepth 20000 in
theorem c_D_bestCode {l : Launch} {G : va_G} {tys : List (ClassId × FieldType)} {cI cO cZ : ClassId} (hT : TY tys cI cO cZ) (o : Nat) (A : AS) (ws : va_W) (hA : CW cI cO cZ o A ws) : CTI l G tys y_D_bestCode b_D_bestCode 3 .int 4 90 [.ref o] ws (fun z u => ∃ A' : AS, CW cI cO cZ o A' u ∧ Sp_bestCode  A z A') := by
  obtain ⟨⟨lc, sd, r, sg, ln, N, v⟩, hist, rcd, slot, uf, T, m⟩ := A
  obtain ⟨hR, h, sl, us, pd, co, hf, sf, q, a, b, ov, q2, a2, b2, sg2, ln2, r2, pl2, ov2, lc2, sd2, q3, a3, b3, sg3, ln3, r3, pl3, ov3, lc3, sd3, st, rfl, hC⟩ := hA
  have hO := hR.1
  have hr5 := hR.2.1
  have hN3 := hR.2.2.1
  have hN0 := hO.n0
  have hr0 := hO.1
  have hlcd := hR.2.2.2
  have hm80 := hC.2.2.2.2.2.1
  have hrcd6 := hC.2.2.1
  refine mkI (by decide) (Nat.le_of_ble_eq_true rfl) ?_
  rintro X rfl rfl rfl hRm C kret H ls w hl
  have hl : lv_has ls 3 [(0, .ref o)] := hl
  have w : Wd X (dcore cI cO cZ o h sl us pd co q q2 q3 hf rcd sf uf T m ++ sw cI q a b sg ln r N ov lc sd ++ sw cI q2 a2 b2 sg2 ln2 r2 pl2 ov2 lc2 sd2 ++ sw cI q3 a3 b3 sg3 ln3 r3 pl3 ov3 lc3 sd3 ++ hst cI st) H [] := w
  generalize ([] : List Loc) = locs at w ⊢
  refine r_iconst (pc := 0) C d_D_bestCode_0 ?_
  refine r_istore_n (pc := 1) (lv' := [(1, .int (iI 0)), (0, .ref o)]) C d_D_bestCode_1 rfl hl (by decide) rfl (fun ls hl => ?_)
  refine r_iconst (pc := 2) C d_D_bestCode_2 ?_
  refine r_istore_n (pc := 3) (lv' := [(2, .int (iI 1)), (1, .int (iI 0)), (0, .ref o)]) C d_D_bestCode_3 rfl hl (by decide) rfl (fun ls hl => ?_)
  refine r_iload_n (pc := 4) C d_D_bestCode_4 rfl (lv_at hl 0 rfl) ?_
  refine r_iconst (pc := 5) C d_D_bestCode_5 ?_
  refine r_icmp_gt (pc := 6) (tgt := 36) C (by omega) d_D_bestCode_6 (by decide) (fun c_6 => absurd c_6 (by omega)) (fun c_6 => ?_)
  refine r_aload_n (pc := 9) C d_D_bestCode_9 rfl (lv_at hl 2 rfl) ?_
  refine r_get (pc := 10) (v := .ref q) C w i_D rfl 0 rfl 0 (by decide) fl_D_10 rfl rfl d_D_bestCode_10 ?_
  refine r_iload_n (pc := 13) C d_D_bestCode_13 rfl (lv_at hl 0 rfl) ?_
  refine r_callVI (pc := 14) (As := [.int (iI 1)]) (rest := []) (wr := (dcore cI cO cZ o h sl us pd co q q2 q3 hf rcd sf uf T m ++ sw cI q2 a2 b2 sg2 ln2 r2 pl2 ov2 lc2 sd2 ++ sw cI q3 a3 b3 sg3 ln3 r3 pl3 ov3 lc3 sd3 ++ hst cI st)) C w (c_S_allBits hT q a b sg ln r N ov lc sd _ _ hO (by omega) (by omega) 1 (by omega)) ml_D_118 im_S_allBits se_S_allBits ini_S cd_S_allBits hd_S_allBits rfl (by rw [hRm]; exact ⟨⟨Nat.le_of_ble_eq_true rfl, Nat.le_of_ble_eq_true rfl⟩, Nat.le_of_ble_eq_true rfl, Nat.le_of_ble_eq_true rfl⟩) hl.1 [6, 7, 8] [0, 1, 2, 3, 4, 5, 9, 10, 11, 12, 13, 14, 15, 16, 17, 18, 19, 20, 21, 22, 23, 24, 25, 26, 27, 28, 29, 30, 31, 32, 33, 34, 35, 36, 37, 38] ⟨rfl, rfl, by decide, by decide, by decide⟩ 0 rfl rfl rfl (Nat.le_of_ble_eq_true rfl) d_D_bestCode_14 (fun z_14 u_14 H locs hz_14 w => ?_)
  obtain ⟨rfl, hz_14⟩ := hz_14
  have w : Wd X (dcore cI cO cZ o h sl us pd co q q2 q3 hf rcd sf uf T m ++ sw cI q a b sg ln r N ov lc sd ++ sw cI q2 a2 b2 sg2 ln2 r2 pl2 ov2 lc2 sd2 ++ sw cI q3 a3 b3 sg3 ln3 r3 pl3 ov3 lc3 sd3 ++ hst cI st) H locs := w.sub [0, 1, 2, 3, 4, 5, 36, 37, 38, 6, 7, 8, 9, 10, 11, 12, 13, 14, 15, 16, 17, 18, 19, 20, 21, 22, 23, 24, 25, 26, 27, 28, 29, 30, 31, 32, 33, 34, 35] rfl (by decide)
  subst hz_14
  have hab := allBits_rg (code := 1) hO (by omega) (k := r) (by omega) (by omega)
  refine r_aload_n (pc := 17) C d_D_bestCode_17 rfl (lv_at hl 2 rfl) ?_
  refine r_get (pc := 18) (v := .ref q) C w i_D rfl 0 rfl 0 (by decide) fl_D_10 rfl rfl d_D_bestCode_18 ?_
  refine r_iload_n (pc := 21) C d_D_bestCode_21 rfl (lv_at hl 1 rfl) ?_
  refine r_callVI (pc := 22) (As := [.int (iI 0)]) (rest := [.int (iI (ps (rbf 1 sg ln) r))]) (wr := (dcore cI cO cZ o h sl us pd co q q2 q3 hf rcd sf uf T m ++ sw cI q2 a2 b2 sg2 ln2 r2 pl2 ov2 lc2 sd2 ++ sw cI q3 a3 b3 sg3 ln3 r3 pl3 ov3 lc3 sd3 ++ hst cI st)) C w (c_S_allBits hT q a b sg ln r N ov lc sd _ _ hO (by omega) (by omega) 0 (by omega)) ml_D_118 im_S_allBits se_S_allBits ini_S cd_S_allBits hd_S_allBits rfl (by rw [hRm]; exact ⟨⟨Nat.le_of_ble_eq_true rfl, Nat.le_of_ble_eq_true rfl⟩, Nat.le_of_ble_eq_true rfl, Nat.le_of_ble_eq_true rfl⟩) hl.1 [6, 7, 8] [0, 1, 2, 3, 4, 5, 9, 10, 11, 12, 13, 14, 15, 16, 17, 18, 19, 20, 21, 22, 23, 24, 25, 26, 27, 28, 29, 30, 31, 32, 33, 34, 35, 36, 37, 38] ⟨rfl, rfl, by decide, by decide, by decide⟩ 0 rfl rfl rfl (Nat.le_of_ble_eq_true rfl) d_D_bestCode_22 (fun z_22 u_22 H locs hz_22 w => ?_)
  obtain ⟨rfl, hz_22⟩ := hz_22
  have w : Wd X (dcore cI cO cZ o h sl us pd co q q2 q3 hf rcd sf uf T m ++ sw cI q a b sg ln r N ov lc sd ++ sw cI q2 a2 b2 sg2 ln2 r2 pl2 ov2 lc2 sd2 ++ sw cI q3 a3 b3 sg3 ln3 r3 pl3 ov3 lc3 sd3 ++ hst cI st) H locs := w.sub [0, 1, 2, 3, 4, 5, 36, 37, 38, 6, 7, 8, 9, 10, 11, 12, 13, 14, 15, 16, 17, 18, 19, 20, 21, 22, 23, 24, 25, 26, 27, 28, 29, 30, 31, 32, 33, 34, 35] rfl (by decide)
  subst hz_22
  have hab := allBits_rg (code := 0) hO (by omega) (k := r) (by omega) (by omega)
  refine r_icmp_ge (pc := 25) (tgt := 30) C (by omega) d_D_bestCode_25 (by decide) (fun c_25 => ?_) (fun c_25 => ?_)
  · skip
    refine r_iinc (pc := 30) (j := 0) (lv' := [(2, .int (iI 2)), (1, .int (iI 0)), (0, .ref o)]) C d_D_bestCode_30 hl rfl (by decide) rfl (fun ls hl => ?_)
    refine r_goto (pc := 33) (tgt := 4) C d_D_bestCode_33 (by decide) ?_
    refine r_iload_n (pc := 4) C d_D_bestCode_4 rfl (lv_at hl 0 rfl) ?_
    refine r_iconst (pc := 5) C d_D_bestCode_5 ?_
    refine r_icmp_gt (pc := 6) (tgt := 36) C (by omega) d_D_bestCode_6 (by decide) (fun c_6 => absurd c_6 (by omega)) (fun c_6 => ?_)
    refine r_aload_n (pc := 9) C d_D_bestCode_9 rfl (lv_at hl 2 rfl) ?_
    refine r_get (pc := 10) (v := .ref q) C w i_D rfl 0 rfl 0 (by decide) fl_D_10 rfl rfl d_D_bestCode_10 ?_
    refine r_iload_n (pc := 13) C d_D_bestCode_13 rfl (lv_at hl 0 rfl) ?_
    refine r_callVI (pc := 14) (As := [.int (iI 2)]) (rest := []) (wr := (dcore cI cO cZ o h sl us pd co q q2 q3 hf rcd sf uf T m ++ sw cI q2 a2 b2 sg2 ln2 r2 pl2 ov2 lc2 sd2 ++ sw cI q3 a3 b3 sg3 ln3 r3 pl3 ov3 lc3 sd3 ++ hst cI st)) C w (c_S_allBits hT q a b sg ln r N ov lc sd _ _ hO (by omega) (by omega) 2 (by omega)) ml_D_118 im_S_allBits se_S_allBits ini_S cd_S_allBits hd_S_allBits rfl (by rw [hRm]; exact ⟨⟨Nat.le_of_ble_eq_true rfl, Nat.le_of_ble_eq_true rfl⟩, Nat.le_of_ble_eq_true rfl, Nat.le_of_ble_eq_true rfl⟩) hl.1 [6, 7, 8] [0, 1, 2, 3, 4, 5, 9, 10, 11, 12, 13, 14, 15, 16, 17, 18, 19, 20, 21, 22, 23, 24, 25, 26, 27, 28, 29, 30, 31, 32, 33, 34, 35, 36, 37, 38] ⟨rfl, rfl, by decide, by decide, by decide⟩ 0 rfl rfl rfl (Nat.le_of_ble_eq_true rfl) d_D_bestCode_14 (fun z_14 u_14 H locs hz_14 w => ?_)
    obtain ⟨rfl, hz_14⟩ := hz_14
    have w : Wd X (dcore cI cO cZ o h sl us pd co q q2 q3 hf rcd sf uf T m ++ sw cI q a b sg ln r N ov lc sd ++ sw cI q2 a2 b2 sg2 ln2 r2 pl2 ov2 lc2 sd2 ++ sw cI q3 a3 b3 sg3 ln3 r3 pl3 ov3 lc3 sd3 ++ hst cI st) H locs := w.sub [0, 1, 2, 3, 4, 5, 36, 37, 38, 6, 7, 8, 9, 10, 11, 12, 13, 14, 15, 16, 17, 18, 19, 20, 21, 22, 23, 24, 25, 26, 27, 28, 29, 30, 31, 32, 33, 34, 35] rfl (by decide)
    subst hz_14
    have hab := allBits_rg (code := 2) hO (by omega) (k := r) (by omega) (by omega)
    refine r_aload_n (pc := 17) C d_D_bestCode_17 rfl (lv_at hl 2 rfl) ?_
    refine r_get (pc := 18) (v := .ref q) C w i_D rfl 0 rfl 0 (by decide) fl_D_10 rfl rfl d_D_bestCode_18 ?_
    refine r_iload_n (pc := 21) C d_D_bestCode_21 rfl (lv_at hl 1 rfl) ?_
    refine r_callVI (pc := 22) (As := [.int (iI 0)]) (rest := [.int (iI (ps (rbf 2 sg ln) r))]) (wr := (dcore cI cO cZ o h sl us pd co q q2 q3 hf rcd sf uf T m ++ sw cI q2 a2 b2 sg2 ln2 r2 pl2 ov2 lc2 sd2 ++ sw cI q3 a3 b3 sg3 ln3 r3 pl3 ov3 lc3 sd3 ++ hst cI st)) C w (c_S_allBits hT q a b sg ln r N ov lc sd _ _ hO (by omega) (by omega) 0 (by omega)) ml_D_118 im_S_allBits se_S_allBits ini_S cd_S_allBits hd_S_allBits rfl (by rw [hRm]; exact ⟨⟨Nat.le_of_ble_eq_true rfl, Nat.le_of_ble_eq_true rfl⟩, Nat.le_of_ble_eq_true rfl, Nat.le_of_ble_eq_true rfl⟩) hl.1 [6, 7, 8] [0, 1, 2, 3, 4, 5, 9, 10, 11, 12, 13, 14, 15, 16, 17, 18, 19, 20, 21, 22, 23, 24, 25, 26, 27, 28, 29, 30, 31, 32, 33, 34, 35, 36, 37, 38] ⟨rfl, rfl, by decide, by decide, by decide⟩ 0 rfl rfl rfl (Nat.le_of_ble_eq_true rfl) d_D_bestCode_22 (fun z_22 u_22 H locs hz_22 w => ?_)
    obtain ⟨rfl, hz_22⟩ := hz_22
    have w : Wd X (dcore cI cO cZ o h sl us pd co q q2 q3 hf rcd sf uf T m ++ sw cI q a b sg ln r N ov lc sd ++ sw cI q2 a2 b2 sg2 ln2 r2 pl2 ov2 lc2 sd2 ++ sw cI q3 a3 b3 sg3 ln3 r3 pl3 ov3 lc3 sd3 ++ hst cI st) H locs := w.sub [0, 1, 2, 3, 4, 5, 36, 37, 38, 6, 7, 8, 9, 10, 11, 12, 13, 14, 15, 16, 17, 18, 19, 20, 21, 22, 23, 24, 25, 26, 27, 28, 29, 30, 31, 32, 33, 34, 35] rfl (by decide)
    subst hz_22
    have hab := allBits_rg (code := 0) hO (by omega) (k := r) (by omega) (by omega)
    refine r_icmp_ge (pc := 25) (tgt := 30) C (by omega) d_D_bestCode_25 (by decide) (fun c_25 => ?_) (fun c_25 => ?_)
    · skip
      refine r_iinc (pc := 30) (j := 0) (lv' := [(2, .int (iI 3)), (1, .int (iI 0)), (0, .ref o)]) C d_D_bestCode_30 hl rfl (by decide) rfl (fun ls hl => ?_)
      refine r_goto (pc := 33) (tgt := 4) C d_D_bestCode_33 (by decide) ?_
      refine r_iload_n (pc := 4) C d_D_bestCode_4 rfl (lv_at hl 0 rfl) ?_
      refine r_iconst (pc := 5) C d_D_bestCode_5 ?_
      refine r_icmp_gt (pc := 6) (tgt := 36) C (by omega) d_D_bestCode_6 (by decide) (fun c_6 => ?_) (fun c_6 => absurd c_6 (by omega))
      refine r_iload_n (pc := 36) C d_D_bestCode_36 rfl (lv_at hl 1 rfl) ?_
      exact kret _ _ _ _ 0 _ d_D_bestCode_37 w (⟨_, cw_mk hR hC, ⟨rfl, by unfold bestC; (repeat' split) <;> omega⟩⟩)
    · skip
      refine r_iload_n (pc := 28) C d_D_bestCode_28 rfl (lv_at hl 0 rfl) ?_
      refine r_istore_n (pc := 29) (lv' := [(1, .int (iI 2)), (2, .int (iI 2)), (0, .ref o)]) C d_D_bestCode_29 rfl hl (by decide) rfl (fun ls hl => ?_)
      refine r_iinc (pc := 30) (j := 1) (lv' := [(2, .int (iI 3)), (1, .int (iI 2)), (0, .ref o)]) C d_D_bestCode_30 hl rfl (by decide) rfl (fun ls hl => ?_)
      refine r_goto (pc := 33) (tgt := 4) C d_D_bestCode_33 (by decide) ?_
      refine r_iload_n (pc := 4) C d_D_bestCode_4 rfl (lv_at hl 0 rfl) ?_
      refine r_iconst (pc := 5) C d_D_bestCode_5 ?_
      refine r_icmp_gt (pc := 6) (tgt := 36) C (by omega) d_D_bestCode_6 (by decide) (fun c_6 => ?_) (fun c_6 => absurd c_6 (by omega))
      refine r_iload_n (pc := 36) C d_D_bestCode_36 rfl (lv_at hl 1 rfl) ?_
      exact kret _ _ _ _ 2 _ d_D_bestCode_37 w (⟨_, cw_mk hR hC, ⟨rfl, by unfold bestC; (repeat' split) <;> omega⟩⟩)
  · skip
    refine r_iload_n (pc := 28) C d_D_bestCode_28 rfl (lv_at hl 0 rfl) ?_
    refine r_istore_n (pc := 29) (lv' := [(1, .int (iI 1)), (2, .int (iI 1)), (0, .ref o)]) C d_D_bestCode_29 rfl hl (by decide) rfl (fun ls hl => ?_)
    refine r_iinc (pc := 30) (j := 1) (lv' := [(2, .int (iI 2)), (1, .int (iI 1)), (0, .ref o)]) C d_D_bestCode_30 hl rfl (by decide) rfl (fun ls hl => ?_)
    refine r_goto (pc := 33) (tgt := 4) C d_D_bestCode_33 (by decide) ?_
    refine r_iload_n (pc := 4) C d_D_bestCode_4 rfl (lv_at hl 0 rfl) ?_
    refine r_iconst (pc := 5) C d_D_bestCode_5 ?_
    refine r_icmp_gt (pc := 6) (tgt := 36) C (by omega) d_D_bestCode_6 (by decide) (fun c_6 => absurd c_6 (by omega)) (fun c_6 => ?_)
    refine r_aload_n (pc := 9) C d_D_bestCode_9 rfl (lv_at hl 2 rfl) ?_
    refine r_get (pc := 10) (v := .ref q) C w i_D rfl 0 rfl 0 (by decide) fl_D_10 rfl rfl d_D_bestCode_10 ?_
    refine r_iload_n (pc := 13) C d_D_bestCode_13 rfl (lv_at hl 0 rfl) ?_
    refine r_callVI (pc := 14) (As := [.int (iI 2)]) (rest := []) (wr := (dcore cI cO cZ o h sl us pd co q q2 q3 hf rcd sf uf T m ++ sw cI q2 a2 b2 sg2 ln2 r2 pl2 ov2 lc2 sd2 ++ sw cI q3 a3 b3 sg3 ln3 r3 pl3 ov3 lc3 sd3 ++ hst cI st)) C w (c_S_allBits hT q a b sg ln r N ov lc sd _ _ hO (by omega) (by omega) 2 (by omega)) ml_D_118 im_S_allBits se_S_allBits ini_S cd_S_allBits hd_S_allBits rfl (by rw [hRm]; exact ⟨⟨Nat.le_of_ble_eq_true rfl, Nat.le_of_ble_eq_true rfl⟩, Nat.le_of_ble_eq_true rfl, Nat.le_of_ble_eq_true rfl⟩) hl.1 [6, 7, 8] [0, 1, 2, 3, 4, 5, 9, 10, 11, 12, 13, 14, 15, 16, 17, 18, 19, 20, 21, 22, 23, 24, 25, 26, 27, 28, 29, 30, 31, 32, 33, 34, 35, 36, 37, 38] ⟨rfl, rfl, by decide, by decide, by decide⟩ 0 rfl rfl rfl (Nat.le_of_ble_eq_true rfl) d_D_bestCode_14 (fun z_14 u_14 H locs hz_14 w => ?_)
    obtain ⟨rfl, hz_14⟩ := hz_14
    have w : Wd X (dcore cI cO cZ o h sl us pd co q q2 q3 hf rcd sf uf T m ++ sw cI q a b sg ln r N ov lc sd ++ sw cI q2 a2 b2 sg2 ln2 r2 pl2 ov2 lc2 sd2 ++ sw cI q3 a3 b3 sg3 ln3 r3 pl3 ov3 lc3 sd3 ++ hst cI st) H locs := w.sub [0, 1, 2, 3, 4, 5, 36, 37, 38, 6, 7, 8, 9, 10, 11, 12, 13, 14, 15, 16, 17, 18, 19, 20, 21, 22, 23, 24, 25, 26, 27, 28, 29, 30, 31, 32, 33, 34, 35] rfl (by decide)
    subst hz_14
    have hab := allBits_rg (code := 2) hO (by omega) (k := r) (by omega) (by omega)
    refine r_aload_n (pc := 17) C d_D_bestCode_17 rfl (lv_at hl 2 rfl) ?_
    refine r_get (pc := 18) (v := .ref q) C w i_D rfl 0 rfl 0 (by decide) fl_D_10 rfl rfl d_D_bestCode_18 ?_
    refine r_iload_n (pc := 21) C d_D_bestCode_21 rfl (lv_at hl 1 rfl) ?_
    refine r_callVI (pc := 22) (As := [.int (iI 1)]) (rest := [.int (iI (ps (rbf 2 sg ln) r))]) (wr := (dcore cI cO cZ o h sl us pd co q q2 q3 hf rcd sf uf T m ++ sw cI q2 a2 b2 sg2 ln2 r2 pl2 ov2 lc2 sd2 ++ sw cI q3 a3 b3 sg3 ln3 r3 pl3 ov3 lc3 sd3 ++ hst cI st)) C w (c_S_allBits hT q a b sg ln r N ov lc sd _ _ hO (by omega) (by omega) 1 (by omega)) ml_D_118 im_S_allBits se_S_allBits ini_S cd_S_allBits hd_S_allBits rfl (by rw [hRm]; exact ⟨⟨Nat.le_of_ble_eq_true rfl, Nat.le_of_ble_eq_true rfl⟩, Nat.le_of_ble_eq_true rfl, Nat.le_of_ble_eq_true rfl⟩) hl.1 [6, 7, 8] [0, 1, 2, 3, 4, 5, 9, 10, 11, 12, 13, 14, 15, 16, 17, 18, 19, 20, 21, 22, 23, 24, 25, 26, 27, 28, 29, 30, 31, 32, 33, 34, 35, 36, 37, 38] ⟨rfl, rfl, by decide, by decide, by decide⟩ 0 rfl rfl rfl (Nat.le_of_ble_eq_true rfl) d_D_bestCode_22 (fun z_22 u_22 H locs hz_22 w => ?_)
    obtain ⟨rfl, hz_22⟩ := hz_22
    have w : Wd X (dcore cI cO cZ o h sl us pd co q q2 q3 hf rcd sf uf T m ++ sw cI q a b sg ln r N ov lc sd ++ sw cI q2 a2 b2 sg2 ln2 r2 pl2 ov2 lc2 sd2 ++ sw cI q3 a3 b3 sg3 ln3 r3 pl3 ov3 lc3 sd3 ++ hst cI st) H locs := w.sub [0, 1, 2, 3, 4, 5, 36, 37, 38, 6, 7, 8, 9, 10, 11, 12, 13, 14, 15, 16, 17, 18, 19, 20, 21, 22, 23, 24, 25, 26, 27, 28, 29, 30, 31, 32, 33, 34, 35] rfl (by decide)
    subst hz_22
    have hab := allBits_rg (code := 1) hO (by omega) (k := r) (by omega) (by omega)
    refine r_icmp_ge (pc := 25) (tgt := 30) C (by omega) d_D_bestCode_25 (by decide) (fun c_25 => ?_) (fun c_25 => ?_)
    · skip
      refine r_iinc (pc := 30) (j := 0) (lv' := [(2, .int (iI 3)), (1, .int (iI 1)), (0, .ref o)]) C d_D_bestCode_30 hl rfl (by decide) rfl (fun ls hl => ?_)
      refine r_goto (pc := 33) (tgt := 4) C d_D_bestCode_33 (by decide) ?_
      refine r_iload_n (pc := 4) C d_D_bestCode_4 rfl (lv_at hl 0 rfl) ?_
      refine r_iconst (pc := 5) C d_D_bestCode_5 ?_
      refine r_icmp_gt (pc := 6) (tgt := 36) C (by omega) d_D_bestCode_6 (by decide) (fun c_6 => ?_) (fun c_6 => absurd c_6 (by omega))
      refine r_iload_n (pc := 36) C d_D_bestCode_36 rfl (lv_at hl 1 rfl) ?_
      exact kret _ _ _ _ 1 _ d_D_bestCode_37 w (⟨_, cw_mk hR hC, ⟨rfl, by unfold bestC; (repeat' split) <;> omega⟩⟩)
    · skip
      refine r_iload_n (pc := 28) C d_D_bestCode_28 rfl (lv_at hl 0 rfl) ?_
      refine r_istore_n (pc := 29) (lv' := [(1, .int (iI 2)), (2, .int (iI 2)), (0, .ref o)]) C d_D_bestCode_29 rfl hl (by decide) rfl (fun ls hl => ?_)
      refine r_iinc (pc := 30) (j := 1) (lv' := [(2, .int (iI 3)), (1, .int (iI 2)), (0, .ref o)]) C d_D_bestCode_30 hl rfl (by decide) rfl (fun ls hl => ?_)
      refine r_goto (pc := 33) (tgt := 4) C d_D_bestCode_33 (by decide) ?_
      refine r_iload_n (pc := 4) C d_D_bestCode_4 rfl (lv_at hl 0 rfl) ?_
      refine r_iconst (pc := 5) C d_D_bestCode_5 ?_
      refine r_icmp_gt (pc := 6) (tgt := 36) C (by omega) d_D_bestCode_6 (by decide) (fun c_6 => ?_) (fun c_6 => absurd c_6 (by omega))
      refine r_iload_n (pc := 36) C d_D_bestCode_36 rfl (lv_at hl 1 rfl) ?_
      exact kret _ _ _ _ 2 _ d_D_bestCode_37 w (⟨_, cw_mk hR hC, ⟨rfl, by unfold bestC; (repeat' split) <;> omega⟩⟩)
def Sp_longestLive (wh : Int) (A : AS) (z : Int) (A' : AS) : Prop := match A with | ((lc, sd, r, sg, ln, N, v), hist, rcd, slot, uf, T, m) => A' = A ∧ ((¬ (0 ≤ wh ∧ wh ≤ 1) ∧ z = -2) ∨ ((0 ≤ wh ∧ wh ≤ 1) ∧ z = if (ll v N).2.1 = 0 then -6 else if wh = 1 then (ll v N).2.1 else (ll v N).2.2))
theorem d_D_longestLive_0 : decode b_D_longestLive 0 = .ok (.iload_n 1, 1) := by decide +kernel
theorem d_D_longestLive_1 : decode b_D_longestLive 1 = .ok (.iconst 0, 1) := by decide +kernel
theorem d_D_longestLive_2 : decode b_D_longestLive 2 = .ok (.iconst 1, 1) := by decide +kernel
theorem d_D_longestLive_3 : decode b_D_longestLive 3 = .ok (.invokestatic 44, 3) := by decide +kernel
theorem d_D_longestLive_6 : decode b_D_longestLive 6 = .ok (.ifCond .eq 23, 3) := by decide +kernel
theorem d_D_longestLive_9 : decode b_D_longestLive 9 = .ok (.aload_n 0, 1) := by decide +kernel
theorem d_D_longestLive_10 : decode b_D_longestLive 10 = .ok (.getfield 10, 3) := by decide +kernel
theorem d_D_longestLive_13 : decode b_D_longestLive 13 = .ok (.iload_n 1, 1) := by decide +kernel
theorem d_D_longestLive_14 : decode b_D_longestLive 14 = .ok (.iconst 1, 1) := by decide +kernel
theorem d_D_longestLive_15 : decode b_D_longestLive 15 = .ok (.if_icmp .ne 7, 3) := by decide +kernel
theorem d_D_longestLive_18 : decode b_D_longestLive 18 = .ok (.iconst 1, 1) := by decide +kernel
theorem d_D_longestLive_19 : decode b_D_longestLive 19 = .ok (.goto 4, 3) := by decide +kernel
theorem d_D_longestLive_22 : decode b_D_longestLive 22 = .ok (.iconst 0, 1) := by decide +kernel
theorem d_D_longestLive_23 : decode b_D_longestLive 23 = .ok (.invokevirtual 140, 3) := by decide +kernel
theorem d_D_longestLive_26 : decode b_D_longestLive 26 = .ok (.goto 5, 3) := by decide +kernel
theorem d_D_longestLive_29 : decode b_D_longestLive 29 = .ok (.bipush (-2), 2) := by decide +kernel
theorem d_D_longestLive_31 : decode b_D_longestLive 31 = .ok (.ireturn, 1) := by decide +kernel
set_option maxHeartbeats 4000000 in
set_option maxRecDepth 20000 in
theorem c_D_longestLive {l : Launch} {G : va_G} {tys : List (ClassId × FieldType)} {cI cO cZ : ClassId} (hT : TY tys cI cO cZ) (o : Nat) (A : AS) (ws : va_W) (hA : CW cI cO cZ o A ws) (wh : Int) (hrg : (-2147483648 ≤ wh ∧ wh < 2147483648)) : CTI l G tys y_D_longestLive b_D_longestLive 2 .int 1 26 [.ref o, .int (iI wh)] ws (fun z u => ∃ A' : AS, CW cI cO cZ o A' u ∧ Sp_longestLive wh A z A') := by
  obtain ⟨⟨lc, sd, r, sg, ln, N, v⟩, hist, rcd, slot, uf, T, m⟩ := A
  obtain ⟨hR, h, sl, us, pd, co, hf, sf, q, a, b, ov, q2, a2, b2, sg2, ln2, r2, pl2, ov2, lc2, sd2, q3, a3, b3, sg3, ln3, r3, pl3, ov3, lc3, sd3, st, rfl, hC⟩ := hA
  have hO := hR.1
  have hr5 := hR.2.1
  have hN3 := hR.2.2.1
  have hN0 := hO.n0
  have hr0 := hO.1
  have hlcd := hR.2.2.2
  have hm80 := hC.2.2.2.2.2.1
  have hrcd6 := hC.2.2.1
  refine mkI (by decide) (Nat.le_of_ble_eq_true rfl) ?_
  rintro X rfl rfl rfl hRm C kret H ls w hl
  have hl : lv_has ls 2 [(0, .ref o), (1, .int (iI wh))] := hl
  have w : Wd X (dcore cI cO cZ o h sl us pd co q q2 q3 hf rcd sf uf T m ++ sw cI q a b sg ln r N ov lc sd ++ sw cI q2 a2 b2 sg2 ln2 r2 pl2 ov2 lc2 sd2 ++ sw cI q3 a3 b3 sg3 ln3 r3 pl3 ov3 lc3 sd3 ++ hst cI st) H [] := w
  generalize ([] : List Loc) = locs at w ⊢
  refine r_iload_n (pc := 0) C d_D_longestLive_0 rfl (lv_at hl 1 rfl) ?_
  refine r_iconst (pc := 1) C d_D_longestLive_1 ?_
  refine r_iconst (pc := 2) C d_D_longestLive_2 ?_
  refine r_callP (pc := 3) (As := [.int (iI wh), .int (iI 0), .int (iI 1)]) (rest := []) C w (c_D_isWithin wh 0 1 (by omega)) ml_D_44 st_D_isWithin ini_D cd_D_isWithin hd_D_isWithin rfl (by rw [hRm]; exact ⟨⟨Nat.le_of_ble_eq_true rfl, Nat.le_of_ble_eq_true rfl⟩, Nat.le_of_ble_eq_true rfl, Nat.le_of_ble_eq_true rfl⟩) hl.1 rfl (Nat.le_of_ble_eq_true rfl) d_D_longestLive_3 (fun z_3 H locs hz_3 w => ?_)
  refine r_if_eq (pc := 6) (tgt := 29) C (by omega) d_D_longestLive_6 (by decide) (fun c_6 => ?_) (fun c_6 => ?_)
  · skip
    have hb_6 : ¬ (0 ≤ wh ∧ wh ≤ 1) := by omega
    clear hz_3 c_6
    refine r_bipush (pc := 29) C d_D_longestLive_29 (by decide) ?_
    exact kret _ _ _ _ (-2) _ d_D_longestLive_31 w (⟨_, cw_mk hR hC, ⟨rfl, by first | exact Or.inl ⟨by omega, rfl⟩ | exact Or.inr ⟨by omega, by rw [hz_23]; first | rw [if_pos (by omega : wh = 1), if_pos (rfl : (1 : Int) = 1)] | rw [if_neg (by omega : ¬ wh = 1), if_neg (by omega : ¬ (0 : Int) = 1)]⟩⟩⟩)
  · skip
    have hb_6 : 0 ≤ wh ∧ wh ≤ 1 := by omega
    clear hz_3 c_6
    refine r_aload_n (pc := 9) C d_D_longestLive_9 rfl (lv_at hl 0 rfl) ?_
    refine r_get (pc := 10) (v := .ref q) C w i_D rfl 0 rfl 0 (by decide) fl_D_10 rfl rfl d_D_longestLive_10 ?_
    refine r_iload_n (pc := 13) C d_D_longestLive_13 rfl (lv_at hl 1 rfl) ?_
    refine r_iconst (pc := 14) C d_D_longestLive_14 ?_
    refine r_icmp_ne (pc := 15) (tgt := 22) C (by omega) d_D_longestLive_15 (by decide) (fun c_15 => ?_) (fun c_15 => ?_)
    · skip
      refine r_iconst (pc := 22) C d_D_longestLive_22 ?_
      refine r_callVI (pc := 23) (As := [.int (iI 0)]) (rest := []) (wr := (dcore cI cO cZ o h sl us pd co q q2 q3 hf rcd sf uf T m ++ sw cI q2 a2 b2 sg2 ln2 r2 pl2 ov2 lc2 sd2 ++ sw cI q3 a3 b3 sg3 ln3 r3 pl3 ov3 lc3 sd3 ++ hst cI st)) C w (c_S_longestLiveStretch hT q a b sg ln r N ov lc sd _ _ hO (by omega) (by omega) 0 (by omega)) ml_D_140 im_S_longestLiveStretch se_S_longestLiveStretch ini_S cd_S_longestLiveStretch hd_S_longestLiveStretch rfl (by rw [hRm]; exact ⟨⟨Nat.le_of_ble_eq_true rfl, Nat.le_of_ble_eq_true rfl⟩, Nat.le_of_ble_eq_true rfl, Nat.le_of_ble_eq_true rfl⟩) hl.1 [6, 7, 8] [0, 1, 2, 3, 4, 5, 9, 10, 11, 12, 13, 14, 15, 16, 17, 18, 19, 20, 21, 22, 23, 24, 25, 26, 27, 28, 29, 30, 31, 32, 33, 34, 35, 36, 37, 38] ⟨rfl, rfl, by decide, by decide, by decide⟩ 0 rfl rfl rfl (Nat.le_of_ble_eq_true rfl) d_D_longestLive_23 (fun z_23 u_23 H locs hz_23 w => ?_)
      obtain ⟨rfl, hz_23⟩ := hz_23
      have w : Wd X (dcore cI cO cZ o h sl us pd co q q2 q3 hf rcd sf uf T m ++ sw cI q a b sg ln r N ov lc sd ++ sw cI q2 a2 b2 sg2 ln2 r2 pl2 ov2 lc2 sd2 ++ sw cI q3 a3 b3 sg3 ln3 r3 pl3 ov3 lc3 sd3 ++ hst cI st) H locs := w.sub [0, 1, 2, 3, 4, 5, 36, 37, 38, 6, 7, 8, 9, 10, 11, 12, 13, 14, 15, 16, 17, 18, 19, 20, 21, 22, 23, 24, 25, 26, 27, 28, 29, 30, 31, 32, 33, 34, 35] rfl (by decide)
      refine r_goto (pc := 26) (tgt := 31) C d_D_longestLive_26 (by decide) ?_
      exact kret _ _ _ _ z_23 _ d_D_longestLive_31 w (⟨_, cw_mk hR hC, ⟨rfl, by first | exact Or.inl ⟨by omega, rfl⟩ | exact Or.inr ⟨by omega, by rw [hz_23]; first | rw [if_pos (by omega : wh = 1), if_pos (rfl : (1 : Int) = 1)] | rw [if_neg (by omega : ¬ wh = 1), if_neg (by omega : ¬ (0 : Int) = 1)]⟩⟩⟩)
    · skip
      refine r_iconst (pc := 18) C d_D_longestLive_18 ?_
      refine r_goto (pc := 19) (tgt := 23) C d_D_longestLive_19 (by decide) ?_
      refine r_callVI (pc := 23) (As := [.int (iI 1)]) (rest := []) (wr := (dcore cI cO cZ o h sl us pd co q q2 q3 hf rcd sf uf T m ++ sw cI q2 a2 b2 sg2 ln2 r2 pl2 ov2 lc2 sd2 ++ sw cI q3 a3 b3 sg3 ln3 r3 pl3 ov3 lc3 sd3 ++ hst cI st)) C w (c_S_longestLiveStretch hT q a b sg ln r N ov lc sd _ _ hO (by omega) (by omega) 1 (by omega)) ml_D_140 im_S_longestLiveStretch se_S_longestLiveStretch ini_S cd_S_longestLiveStretch hd_S_longestLiveStretch rfl (by rw [hRm]; exact ⟨⟨Nat.le_of_ble_eq_true rfl, Nat.le_of_ble_eq_true rfl⟩, Nat.le_of_ble_eq_true rfl, Nat.le_of_ble_eq_true rfl⟩) hl.1 [6, 7, 8] [0, 1, 2, 3, 4, 5, 9, 10, 11, 12, 13, 14, 15, 16, 17, 18, 19, 20, 21, 22, 23, 24, 25, 26, 27, 28, 29, 30, 31, 32, 33, 34, 35, 36, 37, 38] ⟨rfl, rfl, by decide, by decide, by decide⟩ 0 rfl rfl rfl (Nat.le_of_ble_eq_true rfl) d_D_longestLive_23 (fun z_23 u_23 H locs hz_23 w => ?_)
      obtain ⟨rfl, hz_23⟩ := hz_23
      have w : Wd X (dcore cI cO cZ o h sl us pd co q q2 q3 hf rcd sf uf T m ++ sw cI q a b sg ln r N ov lc sd ++ sw cI q2 a2 b2 sg2 ln2 r2 pl2 ov2 lc2 sd2 ++ sw cI q3 a3 b3 sg3 ln3 r3 pl3 ov3 lc3 sd3 ++ hst cI st) H locs := w.sub [0, 1, 2, 3, 4, 5, 36, 37, 38, 6, 7, 8, 9, 10, 11, 12, 13, 14, 15, 16, 17, 18, 19, 20, 21, 22, 23, 24, 25, 26, 27, 28, 29, 30, 31, 32, 33, 34, 35] rfl (by decide)
      refine r_goto (pc := 26) (tgt := 31) C d_D_longestLive_26 (by decide) ?_
      exact kret _ _ _ _ z_23 _ d_D_longestLive_31 w (⟨_, cw_mk hR hC, ⟨rfl, by first | exact Or.inl ⟨by omega, rfl⟩ | exact Or.inr ⟨by omega, by rw [hz_23]; first | rw [if_pos (by omega : wh = 1), if_pos (rfl : (1 : Int) = 1)] | rw [if_neg (by omega : ¬ wh = 1), if_neg (by omega : ¬ (0 : Int) = 1)]⟩⟩⟩)
def Sp_unlikeMirror (A : AS) (z : Int) (A' : AS) : Prop := match A with | ((lc, sd, r, sg, ln, N, v), hist, rcd, slot, uf, T, m) => A' = A ∧ (z = ps (umf v N) N)
theorem d_D_unlikeMirror_0 : decode b_D_unlikeMirror 0 = .ok (.aload_n 0, 1) := by decide +kernel
theorem d_D_unlikeMirror_1 : decode b_D_unlikeMirror 1 = .ok (.getfield 10, 3) := by decide +kernel
theorem d_D_unlikeMirror_4 : decode b_D_unlikeMirror 4 = .ok (.invokevirtual 151, 3) := by decide +kernel
theorem d_D_unlikeMirror_7 : decode b_D_unlikeMirror 7 = .ok (.ireturn, 1) := by decide +kernel
set_option maxHeartbeats 4000000 in
set_option maxRecDepth 20000 in
theorem c_D_unlikeMirror {l : Launch} {G : va_G} {tys : List (ClassId × FieldType)} {cI cO cZ : ClassId} (hT : TY tys cI cO cZ) (o : Nat) (A : AS) (ws : va_W) (hA : CW cI cO cZ o A ws) : CTI l G tys y_D_unlikeMirror b_D_unlikeMirror 1 .int 4 92 [.ref o] ws (fun z u => ∃ A' : AS, CW cI cO cZ o A' u ∧ Sp_unlikeMirror  A z A') := by
  obtain ⟨⟨lc, sd, r, sg, ln, N, v⟩, hist, rcd, slot, uf, T, m⟩ := A
  obtain ⟨hR, h, sl, us, pd, co, hf, sf, q, a, b, ov, q2, a2, b2, sg2, ln2, r2, pl2, ov2, lc2, sd2, q3, a3, b3, sg3, ln3, r3, pl3, ov3, lc3, sd3, st, rfl, hC⟩ := hA
  have hO := hR.1
  have hr5 := hR.2.1
  have hN3 := hR.2.2.1
  have hN0 := hO.n0
  have hr0 := hO.1
  have hlcd := hR.2.2.2
  have hm80 := hC.2.2.2.2.2.1
  have hrcd6 := hC.2.2.1
  refine mkI (by decide) (Nat.le_of_ble_eq_true rfl) ?_
  rintro X rfl rfl rfl hRm C kret H ls w hl
  have hl : lv_has ls 1 [(0, .ref o)] := hl
  have w : Wd X (dcore cI cO cZ o h sl us pd co q q2 q3 hf rcd sf uf T m ++ sw cI q a b sg ln r N ov lc sd ++ sw cI q2 a2 b2 sg2 ln2 r2 pl2 ov2 lc2 sd2 ++ sw cI q3 a3 b3 sg3 ln3 r3 pl3 ov3 lc3 sd3 ++ hst cI st) H [] := w
  generalize ([] : List Loc) = locs at w ⊢
  refine r_aload_n (pc := 0) C d_D_unlikeMirror_0 rfl (lv_at hl 0 rfl) ?_
  refine r_get (pc := 1) (v := .ref q) C w i_D rfl 0 rfl 0 (by decide) fl_D_10 rfl rfl d_D_unlikeMirror_1 ?_
  refine r_callVI (pc := 4) (As := []) (rest := []) (wr := (dcore cI cO cZ o h sl us pd co q q2 q3 hf rcd sf uf T m ++ sw cI q2 a2 b2 sg2 ln2 r2 pl2 ov2 lc2 sd2 ++ sw cI q3 a3 b3 sg3 ln3 r3 pl3 ov3 lc3 sd3 ++ hst cI st)) C w (c_S_unlikeTurned hT q a b sg ln r N ov lc sd _ _ hO (by omega) (by omega)  (by omega)) ml_D_151 im_S_unlikeTurned se_S_unlikeTurned ini_S cd_S_unlikeTurned hd_S_unlikeTurned rfl (by rw [hRm]; exact ⟨⟨Nat.le_of_ble_eq_true rfl, Nat.le_of_ble_eq_true rfl⟩, Nat.le_of_ble_eq_true rfl, Nat.le_of_ble_eq_true rfl⟩) hl.1 [6, 7, 8] [0, 1, 2, 3, 4, 5, 9, 10, 11, 12, 13, 14, 15, 16, 17, 18, 19, 20, 21, 22, 23, 24, 25, 26, 27, 28, 29, 30, 31, 32, 33, 34, 35, 36, 37, 38] ⟨rfl, rfl, by decide, by decide, by decide⟩ 0 rfl rfl rfl (Nat.le_of_ble_eq_true rfl) d_D_unlikeMirror_4 (fun z_4 u_4 H locs hz_4 w => ?_)
  obtain ⟨rfl, hz_4⟩ := hz_4
  have w : Wd X (dcore cI cO cZ o h sl us pd co q q2 q3 hf rcd sf uf T m ++ sw cI q a b sg ln r N ov lc sd ++ sw cI q2 a2 b2 sg2 ln2 r2 pl2 ov2 lc2 sd2 ++ sw cI q3 a3 b3 sg3 ln3 r3 pl3 ov3 lc3 sd3 ++ hst cI st) H locs := w.sub [0, 1, 2, 3, 4, 5, 36, 37, 38, 6, 7, 8, 9, 10, 11, 12, 13, 14, 15, 16, 17, 18, 19, 20, 21, 22, 23, 24, 25, 26, 27, 28, 29, 30, 31, 32, 33, 34, 35] rfl (by decide)
  exact kret _ _ _ _ z_4 _ d_D_unlikeMirror_7 w (⟨_, cw_mk hR hC, ⟨rfl, hz_4⟩⟩)
def Sp_bestWrite (wh : Int) (A : AS) (z : Int) (A' : AS) : Prop := match A with | ((lc, sd, r, sg, ln, N, v), hist, rcd, slot, uf, T, m) => A' = A ∧ ((¬ (0 ≤ wh ∧ wh ≤ 2) ∧ z = -2) ∨ ((0 ≤ wh ∧ wh ≤ 2) ∧ z = if (bw lc r sg ln r).2.2 = 0 then -6 else if wh = 0 then (bw lc r sg ln r).1 else if wh = 1 then (bw lc r sg ln r).2.1 else (bw lc r sg ln r).2.2))
theorem d_D_bestWrite_0 : decode b_D_bestWrite 0 = .ok (.iload_n 1, 1) := by decide +kernel
theorem d_D_bestWrite_1 : decode b_D_bestWrite 1 = .ok (.iconst 0, 1) := by decide +kernel
theorem d_D_bestWrite_2 : decode b_D_bestWrite 2 = .ok (.iconst 2, 1) := by decide +kernel
theorem d_D_bestWrite_3 : decode b_D_bestWrite 3 = .ok (.invokestatic 44, 3) := by decide +kernel
theorem d_D_bestWrite_6 : decode b_D_bestWrite 6 = .ok (.ifCond .ne 6, 3) := by decide +kernel
theorem d_D_bestWrite_9 : decode b_D_bestWrite 9 = .ok (.bipush (-2), 2) := by decide +kernel
theorem d_D_bestWrite_11 : decode b_D_bestWrite 11 = .ok (.ireturn, 1) := by decide +kernel
theorem d_D_bestWrite_12 : decode b_D_bestWrite 12 = .ok (.bipush (-6), 2) := by decide +kernel
theorem d_D_bestWrite_14 : decode b_D_bestWrite 14 = .ok (.istore_n 2, 1) := by decide +kernel
theorem d_D_bestWrite_15 : decode b_D_bestWrite 15 = .ok (.bipush (-6), 2) := by decide +kernel
theorem d_D_bestWrite_17 : decode b_D_bestWrite 17 = .ok (.istore_n 3, 1) := by decide +kernel
theorem d_D_bestWrite_18 : decode b_D_bestWrite 18 = .ok (.iconst 0, 1) := by decide +kernel
theorem d_D_bestWrite_19 : decode b_D_bestWrite 19 = .ok (.istore 4, 2) := by decide +kernel
theorem d_D_bestWrite_21 : decode b_D_bestWrite 21 = .ok (.iconst 0, 1) := by decide +kernel
theorem d_D_bestWrite_22 : decode b_D_bestWrite 22 = .ok (.istore 5, 2) := by decide +kernel
theorem d_D_bestWrite_24 : decode b_D_bestWrite 24 = .ok (.iload 5, 2) := by decide +kernel
theorem d_D_bestWrite_26 : decode b_D_bestWrite 26 = .ok (.aload_n 0, 1) := by decide +kernel
theorem d_D_bestWrite_27 : decode b_D_bestWrite 27 = .ok (.getfield 10, 3) := by decide +kernel
theorem d_D_bestWrite_30 : decode b_D_bestWrite 30 = .ok (.getfield 99, 3) := by decide +kernel
theorem d_D_bestWrite_33 : decode b_D_bestWrite 33 = .ok (.if_icmp .ge 55, 3) := by decide +kernel
theorem d_D_bestWrite_36 : decode b_D_bestWrite 36 = .ok (.iconst 0, 1) := by decide +kernel
theorem d_D_bestWrite_37 : decode b_D_bestWrite 37 = .ok (.istore 6, 2) := by decide +kernel
theorem d_D_bestWrite_39 : decode b_D_bestWrite 39 = .ok (.iload 6, 2) := by decide +kernel
theorem d_D_bestWrite_41 : decode b_D_bestWrite 41 = .ok (.bipush 9, 2) := by decide +kernel
theorem d_D_bestWrite_43 : decode b_D_bestWrite 43 = .ok (.if_icmp .gt 39, 3) := by decide +kernel
theorem d_D_bestWrite_46 : decode b_D_bestWrite 46 = .ok (.aload_n 0, 1) := by decide +kernel
theorem d_D_bestWrite_47 : decode b_D_bestWrite 47 = .ok (.getfield 10, 3) := by decide +kernel
theorem d_D_bestWrite_50 : decode b_D_bestWrite 50 = .ok (.iload 5, 2) := by decide +kernel
theorem d_D_bestWrite_52 : decode b_D_bestWrite 52 = .ok (.iload 6, 2) := by decide +kernel
theorem d_D_bestWrite_54 : decode b_D_bestWrite 54 = .ok (.invokevirtual 148, 3) := by decide +kernel
theorem d_D_bestWrite_57 : decode b_D_bestWrite 57 = .ok (.istore 7, 2) := by decide +kernel
theorem d_D_bestWrite_59 : decode b_D_bestWrite 59 = .ok (.iload 7, 2) := by decide +kernel
theorem d_D_bestWrite_61 : decode b_D_bestWrite 61 = .ok (.iload 4, 2) := by decide +kernel
theorem d_D_bestWrite_63 : decode b_D_bestWrite 63 = .ok (.if_icmp .le 13, 3) := by decide +kernel
theorem d_D_bestWrite_66 : decode b_D_bestWrite 66 = .ok (.iload 5, 2) := by decide +kernel
theorem d_D_bestWrite_68 : decode b_D_bestWrite 68 = .ok (.istore_n 2, 1) := by decide +kernel
theorem d_D_bestWrite_69 : decode b_D_bestWrite 69 = .ok (.iload 6, 2) := by decide +kernel
theorem d_D_bestWrite_71 : decode b_D_bestWrite 71 = .ok (.istore_n 3, 1) := by decide +kernel
theorem d_D_bestWrite_72 : decode b_D_bestWrite 72 = .ok (.iload 7, 2) := by decide +kernel
theorem d_D_bestWrite_74 : decode b_D_bestWrite 74 = .ok (.istore 4, 2) := by decide +kernel
theorem d_D_bestWrite_76 : decode b_D_bestWrite 76 = .ok (.iinc 6 1, 3) := by decide +kernel
theorem d_D_bestWrite_79 : decode b_D_bestWrite 79 = .ok (.goto (-40), 3) := by decide +kernel
theorem d_D_bestWrite_82 : decode b_D_bestWrite 82 = .ok (.iinc 5 1, 3) := by decide +kernel
theorem d_D_bestWrite_85 : decode b_D_bestWrite 85 = .ok (.goto (-61), 3) := by decide +kernel
theorem d_D_bestWrite_88 : decode b_D_bestWrite 88 = .ok (.iload 4, 2) := by decide +kernel
theorem d_D_bestWrite_90 : decode b_D_bestWrite 90 = .ok (.ifCond .ne 6, 3) := by decide +kernel
theorem d_D_bestWrite_93 : decode b_D_bestWrite 93 = .ok (.bipush (-6), 2) := by decide +kernel
theorem d_D_bestWrite_95 : decode b_D_bestWrite 95 = .ok (.ireturn, 1) := by decide +kernel
theorem d_D_bestWrite_96 : decode b_D_bestWrite 96 = .ok (.iload_n 1, 1) := by decide +kernel
theorem d_D_bestWrite_97 : decode b_D_bestWrite 97 = .ok (.ifCond .ne 7, 3) := by decide +kernel
theorem d_D_bestWrite_100 : decode b_D_bestWrite 100 = .ok (.iload_n 2, 1) := by decide +kernel
theorem d_D_bestWrite_101 : decode b_D_bestWrite 101 = .ok (.goto 14, 3) := by decide +kernel
theorem d_D_bestWrite_104 : decode b_D_bestWrite 104 = .ok (.iload_n 1, 1) := by decide +kernel
theorem d_D_bestWrite_105 : decode b_D_bestWrite 105 = .ok (.iconst 1, 1) := by decide +kernel
theorem d_D_bestWrite_106 : decode b_D_bestWrite 106 = .ok (.if_icmp .ne 7, 3) := by decide +kernel
theorem d_D_bestWrite_109 : decode b_D_bestWrite 109 = .ok (.iload_n 3, 1) := by decide +kernel
theorem d_D_bestWrite_110 : decode b_D_bestWrite 110 = .ok (.goto 5, 3) := by decide +kernel
theorem d_D_bestWrite_113 : decode b_D_bestWrite 113 = .ok (.iload 4, 2) := by decide +kernel
theorem d_D_bestWrite_115 : decode b_D_bestWrite 115 = .ok (.ireturn, 1) := by decide +kernel
set_option maxHeartbeats 4000000 in
set_option maxRecDepth 20000 in
theorem c_D_bestWrite {l : Launch} {G : va_G} {tys : List (ClassId × FieldType)} {cI cO cZ : ClassId} (hT : TY tys cI cO cZ) (o : Nat) (A : AS) (ws : va_W) (hA : CW cI cO cZ o A ws) (wh : Int) (hrg : (-2147483648 ≤ wh ∧ wh < 2147483648)) : CTI l G tys y_D_bestWrite b_D_bestWrite 8 .int 5 113 [.ref o, .int (iI wh)] ws (fun z u => ∃ A' : AS, CW cI cO cZ o A' u ∧ Sp_bestWrite wh A z A') := by
  obtain ⟨⟨lc, sd, r, sg, ln, N, v⟩, hist, rcd, slot, uf, T, m⟩ := A
  obtain ⟨hR, h, sl, us, pd, co, hf, sf, q, a, b, ov, q2, a2, b2, sg2, ln2, r2, pl2, ov2, lc2, sd2, q3, a3, b3, sg3, ln3, r3, pl3, ov3, lc3, sd3, st, rfl, hC⟩ := hA
  have hO := hR.1
  have hr5 := hR.2.1
  have hN3 := hR.2.2.1
  have hN0 := hO.n0
  have hr0 := hO.1
  have hlcd := hR.2.2.2
  have hm80 := hC.2.2.2.2.2.1
  have hrcd6 := hC.2.2.1
  refine mkI (by decide) (Nat.le_of_ble_eq_true rfl) ?_
  rintro X rfl rfl rfl hRm C kret H ls w hl
  have hl : lv_has ls 8 [(0, .ref o), (1, .int (iI wh))] := hl
  have w : Wd X (dcore cI cO cZ o h sl us pd co q q2 q3 hf rcd sf uf T m ++ sw cI q a b sg ln r N ov lc sd ++ sw cI q2 a2 b2 sg2 ln2 r2 pl2 ov2 lc2 sd2 ++ sw cI q3 a3 b3 sg3 ln3 r3 pl3 ov3 lc3 sd3 ++ hst cI st) H [] := w
  generalize ([] : List Loc) = locs at w ⊢
  refine r_iload_n (pc := 0) C d_D_bestWrite_0 rfl (lv_at hl 1 rfl) ?_
  refine r_iconst (pc := 1) C d_D_bestWrite_1 ?_
  refine r_iconst (pc := 2) C d_D_bestWrite_2 ?_
  refine r_callP (pc := 3) (As := [.int (iI wh), .int (iI 0), .int (iI 2)]) (rest := []) C w (c_D_isWithin wh 0 2 (by omega)) ml_D_44 st_D_isWithin ini_D cd_D_isWithin hd_D_isWithin rfl (by rw [hRm]; exact ⟨⟨Nat.le_of_ble_eq_true rfl, Nat.le_of_ble_eq_true rfl⟩, Nat.le_of_ble_eq_true rfl, Nat.le_of_ble_eq_true rfl⟩) hl.1 rfl (Nat.le_of_ble_eq_true rfl) d_D_bestWrite_3 (fun z_3 H locs hz_3 w => ?_)
  refine r_if_ne (pc := 6) (tgt := 12) C (by omega) d_D_bestWrite_6 (by decide) (fun c_6 => ?_) (fun c_6 => ?_)
  · skip
    have hb_6 : 0 ≤ wh ∧ wh ≤ 2 := by omega
    clear hz_3 c_6
    refine r_bipush (pc := 12) C d_D_bestWrite_12 (by decide) ?_
    refine r_istore_n (pc := 14) (lv' := [(2, .int (iI (-6))), (0, .ref o), (1, .int (iI wh))]) C d_D_bestWrite_14 rfl hl (by decide) rfl (fun ls hl => ?_)
    refine r_bipush (pc := 15) C d_D_bestWrite_15 (by decide) ?_
    refine r_istore_n (pc := 17) (lv' := [(3, .int (iI (-6))), (2, .int (iI (-6))), (0, .ref o), (1, .int (iI wh))]) C d_D_bestWrite_17 rfl hl (by decide) rfl (fun ls hl => ?_)
    refine r_iconst (pc := 18) C d_D_bestWrite_18 ?_
    refine r_istore (pc := 19) (lv' := [(4, .int (iI 0)), (3, .int (iI (-6))), (2, .int (iI (-6))), (0, .ref o), (1, .int (iI wh))]) C d_D_bestWrite_19 hl (by decide) rfl (fun ls hl => ?_)
    refine r_iconst (pc := 21) C d_D_bestWrite_21 ?_
    refine r_istore (pc := 22) (lv' := [(5, .int (iI 0)), (4, .int (iI 0)), (3, .int (iI (-6))), (2, .int (iI (-6))), (0, .ref o), (1, .int (iI wh))]) C d_D_bestWrite_22 hl (by decide) rfl (fun ls hl => ?_)
    have L24 : ∀ (fuel : Nat), ∀ (run : Int) (br : Int) (bv : Int) (mo : Int), 0 ≤ run ∧ run ≤ r → (br, bv, mo) = bw lc r sg ln run → 0 ≤ mo ∧ mo ≤ 198 → (r - run) < (fuel : Int) → ∀ (H : Heap) (locs : List Loc) (ls : Array Slot), Wd X (dcore cI cO cZ o h sl us pd co q q2 q3 hf rcd sf uf T m ++ sw cI q a b sg ln r N ov lc sd ++ sw cI q2 a2 b2 sg2 ln2 r2 pl2 ov2 lc2 sd2 ++ sw cI q3 a3 b3 sg3 ln3 r3 pl3 ov3 lc3 sd3 ++ hst cI st) H locs → lv_has ls 8 [(0, .ref o), (1, .int (iI wh)), (2, .int (iI br)), (3, .int (iI bv)), (4, .int (iI mo)), (5, .int (iI run))] → GG X 0 0 H locs 24 ls [] := by
      intro fuel
      induction fuel with
      | zero =>
        intro run br bv mo h0 hb hm hfuel
        exact absurd hfuel (by omega)
      | succ fuel ih24 =>
        intro run br bv mo h0 hb hm hfuel H locs ls w hl
        refine r_iload (pc := 24) C d_D_bestWrite_24 (lv_at hl 5 rfl) ?_
        refine r_aload_n (pc := 26) C d_D_bestWrite_26 rfl (lv_at hl 0 rfl) ?_
        refine r_get (pc := 27) (v := .ref q) C w i_D rfl 0 rfl 0 (by decide) fl_D_10 rfl rfl d_D_bestWrite_27 ?_
        refine r_get (pc := 30) (v := .int (iI r)) C w i_S rfl 6 rfl 2 (by decide) fl_D_99 rfl rfl d_D_bestWrite_30 ?_
        refine r_icmp_ge (pc := 33) (tgt := 88) C (by omega) d_D_bestWrite_33 (by decide) (fun c_33 => ?_) (fun c_33 => ?_)
        · skip
          have hb9 := hb
          rw [show run = r by omega] at hb9
          refine r_iload (pc := 88) C d_D_bestWrite_88 (lv_at hl 4 rfl) ?_
          refine r_if_ne (pc := 90) (tgt := 96) C (by omega) d_D_bestWrite_90 (by decide) (fun c_90 => ?_) (fun c_90 => ?_)
          · skip
            refine r_iload_n (pc := 96) C d_D_bestWrite_96 rfl (lv_at hl 1 rfl) ?_
            refine r_if_ne (pc := 97) (tgt := 104) C (by omega) d_D_bestWrite_97 (by decide) (fun c_97 => ?_) (fun c_97 => ?_)
            · skip
              refine r_iload_n (pc := 104) C d_D_bestWrite_104 rfl (lv_at hl 1 rfl) ?_
              refine r_iconst (pc := 105) C d_D_bestWrite_105 ?_
              refine r_icmp_ne (pc := 106) (tgt := 113) C (by omega) d_D_bestWrite_106 (by decide) (fun c_106 => ?_) (fun c_106 => ?_)
              · skip
                refine r_iload (pc := 113) C d_D_bestWrite_113 (lv_at hl 4 rfl) ?_
                exact kret _ _ _ _ mo _ d_D_bestWrite_115 w (⟨_, cw_mk hR hC, ⟨rfl, Or.inr ⟨by omega, by rw [← hb9]; show _ = if mo = 0 then -6 else if wh = 0 then br else if wh = 1 then bv else mo; (repeat' split) <;> omega⟩⟩⟩)
              · skip
                refine r_iload_n (pc := 109) C d_D_bestWrite_109 rfl (lv_at hl 3 rfl) ?_
                refine r_goto (pc := 110) (tgt := 115) C d_D_bestWrite_110 (by decide) ?_
                exact kret _ _ _ _ bv _ d_D_bestWrite_115 w (⟨_, cw_mk hR hC, ⟨rfl, Or.inr ⟨by omega, by rw [← hb9]; show _ = if mo = 0 then -6 else if wh = 0 then br else if wh = 1 then bv else mo; (repeat' split) <;> omega⟩⟩⟩)
            · skip
              refine r_iload_n (pc := 100) C d_D_bestWrite_100 rfl (lv_at hl 2 rfl) ?_
              refine r_goto (pc := 101) (tgt := 115) C d_D_bestWrite_101 (by decide) ?_
              exact kret _ _ _ _ br _ d_D_bestWrite_115 w (⟨_, cw_mk hR hC, ⟨rfl, Or.inr ⟨by omega, by rw [← hb9]; show _ = if mo = 0 then -6 else if wh = 0 then br else if wh = 1 then bv else mo; (repeat' split) <;> omega⟩⟩⟩)
          · skip
            refine r_bipush (pc := 93) C d_D_bestWrite_93 (by decide) ?_
            exact kret _ _ _ _ (-6) _ d_D_bestWrite_95 w (⟨_, cw_mk hR hC, ⟨rfl, Or.inr ⟨by omega, by rw [← hb9]; show (-6 : Int) = if mo = 0 then -6 else _; rw [if_pos (by omega)]⟩⟩⟩)
        · skip
          refine r_iconst (pc := 36) C d_D_bestWrite_36 ?_
          refine r_istore (pc := 37) (lv' := [(6, .int (iI 0)), (0, .ref o), (1, .int (iI wh)), (2, .int (iI br)), (3, .int (iI bv)), (4, .int (iI mo)), (5, .int (iI run))]) C d_D_bestWrite_37 hl (by decide) rfl (fun ls hl => ?_)
          have L39 : ∀ (fuel : Nat), ∀ (val : Int) (br : Int) (bv : Int) (mo : Int), 0 ≤ val ∧ val ≤ 10 → (br, bv, mo) = bwv (svd lc r sg ln run) run (bw lc r sg ln run) val → 0 ≤ mo ∧ mo ≤ 198 → (10 - val) < (fuel : Int) → ∀ (H : Heap) (locs : List Loc) (ls : Array Slot), Wd X (dcore cI cO cZ o h sl us pd co q q2 q3 hf rcd sf uf T m ++ sw cI q a b sg ln r N ov lc sd ++ sw cI q2 a2 b2 sg2 ln2 r2 pl2 ov2 lc2 sd2 ++ sw cI q3 a3 b3 sg3 ln3 r3 pl3 ov3 lc3 sd3 ++ hst cI st) H locs → lv_has ls 8 [(0, .ref o), (1, .int (iI wh)), (2, .int (iI br)), (3, .int (iI bv)), (4, .int (iI mo)), (5, .int (iI run)), (6, .int (iI val))] → GG X 0 0 H locs 39 ls [] := by
            intro fuel
            induction fuel with
            | zero =>
              intro val br bv mo h1 hb2 hm2 hfuel
              exact absurd hfuel (by omega)
            | succ fuel ih39 =>
              intro val br bv mo h1 hb2 hm2 hfuel H locs ls w hl
              refine r_iload (pc := 39) C d_D_bestWrite_39 (lv_at hl 6 rfl) ?_
              refine r_bipush (pc := 41) C d_D_bestWrite_41 (by decide) ?_
              refine r_icmp_gt (pc := 43) (tgt := 82) C (by omega) d_D_bestWrite_43 (by decide) (fun c_43 => ?_) (fun c_43 => ?_)
              · skip
                refine r_iinc (pc := 82) (j := 5) (lv' := [(5, .int (iI (run + 1))), (0, .ref o), (1, .int (iI wh)), (2, .int (iI br)), (3, .int (iI bv)), (4, .int (iI mo)), (6, .int (iI val))]) C d_D_bestWrite_82 hl rfl (by decide) rfl (fun ls hl => ?_)
                refine r_goto (pc := 85) (tgt := 24) C d_D_bestWrite_85 (by decide) ?_
                exact ih24 (run + 1) br bv mo (by omega) ((by rw [bw_succ _ _ _ _ (by omega), show (10 : Int) = val by omega]; exact hb2)) (by omega) (by omega) _ _ _ w (lv_sub hl [1, 2, 3, 4, 5, 0] rfl)
              · skip
                refine r_aload_n (pc := 46) C d_D_bestWrite_46 rfl (lv_at hl 0 rfl) ?_
                refine r_get (pc := 47) (v := .ref q) C w i_D rfl 0 rfl 0 (by decide) fl_D_10 rfl rfl d_D_bestWrite_47 ?_
                refine r_iload (pc := 50) C d_D_bestWrite_50 (lv_at hl 5 rfl) ?_
                refine r_iload (pc := 52) C d_D_bestWrite_52 (lv_at hl 6 rfl) ?_
                refine r_callVI (pc := 54) (As := [.int (iI run), .int (iI val)]) (rest := []) (wr := (dcore cI cO cZ o h sl us pd co q q2 q3 hf rcd sf uf T m ++ sw cI q2 a2 b2 sg2 ln2 r2 pl2 ov2 lc2 sd2 ++ sw cI q3 a3 b3 sg3 ln3 r3 pl3 ov3 lc3 sd3 ++ hst cI st)) C w (c_S_savedByWriting hT q a b sg ln r N ov lc sd _ _ hO (by omega) (by omega) run val (by omega) (by omega) (by omega)) ml_D_148 im_S_savedByWriting se_S_savedByWriting ini_S cd_S_savedByWriting hd_S_savedByWriting rfl (by rw [hRm]; exact ⟨⟨Nat.le_of_ble_eq_true rfl, Nat.le_of_ble_eq_true rfl⟩, Nat.le_of_ble_eq_true rfl, Nat.le_of_ble_eq_true rfl⟩) hl.1 [6, 7, 8] [0, 1, 2, 3, 4, 5, 9, 10, 11, 12, 13, 14, 15, 16, 17, 18, 19, 20, 21, 22, 23, 24, 25, 26, 27, 28, 29, 30, 31, 32, 33, 34, 35, 36, 37, 38] ⟨rfl, rfl, by decide, by decide, by decide⟩ 0 rfl rfl rfl (Nat.le_of_ble_eq_true rfl) d_D_bestWrite_54 (fun z_54 u_54 H locs hz_54 w => ?_)
                obtain ⟨rfl, hz_54⟩ := hz_54
                have w : Wd X (dcore cI cO cZ o h sl us pd co q q2 q3 hf rcd sf uf T m ++ sw cI q a b sg ln r N ov lc sd ++ sw cI q2 a2 b2 sg2 ln2 r2 pl2 ov2 lc2 sd2 ++ sw cI q3 a3 b3 sg3 ln3 r3 pl3 ov3 lc3 sd3 ++ hst cI st) H locs := w.sub [0, 1, 2, 3, 4, 5, 36, 37, 38, 6, 7, 8, 9, 10, 11, 12, 13, 14, 15, 16, 17, 18, 19, 20, 21, 22, 23, 24, 25, 26, 27, 28, 29, 30, 31, 32, 33, 34, 35] rfl (by decide)
                have hsr := svd_rg (code := lc) hO hN3 (k := run) (val := val) (by omega) (by omega)
                refine r_istore (pc := 57) (lv' := [(7, .int (iI z_54)), (0, .ref o), (1, .int (iI wh)), (2, .int (iI br)), (3, .int (iI bv)), (4, .int (iI mo)), (5, .int (iI run)), (6, .int (iI val))]) C d_D_bestWrite_57 hl (by decide) rfl (fun ls hl => ?_)
                refine r_iload (pc := 59) C d_D_bestWrite_59 (lv_at hl 0 rfl) ?_
                refine r_iload (pc := 61) C d_D_bestWrite_61 (lv_at hl 5 rfl) ?_
                refine r_icmp_le (pc := 63) (tgt := 76) C (by omega) d_D_bestWrite_63 (by decide) (fun c_63 => ?_) (fun c_63 => ?_)
                · skip
                  refine r_iinc (pc := 76) (j := 7) (lv' := [(6, .int (iI (val + 1))), (7, .int (iI z_54)), (0, .ref o), (1, .int (iI wh)), (2, .int (iI br)), (3, .int (iI bv)), (4, .int (iI mo)), (5, .int (iI run))]) C d_D_bestWrite_76 hl rfl (by decide) rfl (fun ls hl => ?_)
                  refine r_goto (pc := 79) (tgt := 39) C d_D_bestWrite_79 (by decide) ?_
                  exact ih39 (val + 1) br bv mo (by omega) ((by rw [bwv_succ _ _ _ (by omega), ← hb2]; first | rw [if_pos (by show mo < svd lc r sg ln run val; omega), hz_54] | rw [if_neg (by show ¬ mo < svd lc r sg ln run val; omega)])) (by omega) (by omega) _ _ _ w (lv_sub hl [2, 3, 4, 5, 6, 7, 0] rfl)
                · skip
                  refine r_iload (pc := 66) C d_D_bestWrite_66 (lv_at hl 6 rfl) ?_
                  refine r_istore_n (pc := 68) (lv' := [(2, .int (iI run)), (7, .int (iI z_54)), (0, .ref o), (1, .int (iI wh)), (3, .int (iI bv)), (4, .int (iI mo)), (5, .int (iI run)), (6, .int (iI val))]) C d_D_bestWrite_68 rfl hl (by decide) rfl (fun ls hl => ?_)
                  refine r_iload (pc := 69) C d_D_bestWrite_69 (lv_at hl 7 rfl) ?_
                  refine r_istore_n (pc := 71) (lv' := [(3, .int (iI val)), (2, .int (iI run)), (7, .int (iI z_54)), (0, .ref o), (1, .int (iI wh)), (4, .int (iI mo)), (5, .int (iI run)), (6, .int (iI val))]) C d_D_bestWrite_71 rfl hl (by decide) rfl (fun ls hl => ?_)
                  refine r_iload (pc := 72) C d_D_bestWrite_72 (lv_at hl 2 rfl) ?_
                  refine r_istore (pc := 74) (lv' := [(4, .int (iI z_54)), (3, .int (iI val)), (2, .int (iI run)), (7, .int (iI z_54)), (0, .ref o), (1, .int (iI wh)), (5, .int (iI run)), (6, .int (iI val))]) C d_D_bestWrite_74 hl (by decide) rfl (fun ls hl => ?_)
                  refine r_iinc (pc := 76) (j := 7) (lv' := [(6, .int (iI (val + 1))), (4, .int (iI z_54)), (3, .int (iI val)), (2, .int (iI run)), (7, .int (iI z_54)), (0, .ref o), (1, .int (iI wh)), (5, .int (iI run))]) C d_D_bestWrite_76 hl rfl (by decide) rfl (fun ls hl => ?_)
                  refine r_goto (pc := 79) (tgt := 39) C d_D_bestWrite_79 (by decide) ?_
                  exact ih39 (val + 1) run val z_54 (by omega) ((by rw [bwv_succ _ _ _ (by omega), ← hb2]; first | rw [if_pos (by show mo < svd lc r sg ln run val; omega), hz_54] | rw [if_neg (by show ¬ mo < svd lc r sg ln run val; omega)])) (by omega) (by omega) _ _ _ w (lv_sub hl [5, 6, 3, 2, 1, 7, 0] rfl)
          exact L39 ((10 - 0) + 1 : Int).toNat 0 br bv mo (by first | omega | rfl) (hb) (by first | omega | rfl) (by omega) _ _ _ w (lv_sub hl [1, 2, 3, 4, 5, 6, 0] rfl)
    exact L24 ((r - 0) + 1 : Int).toNat 0 (-6) (-6) 0 (by first | omega | rfl) (rfl) (by first | omega | rfl) (by omega) _ _ _ w (lv_sub hl [4, 5, 3, 2, 1, 0] rfl)
  · skip
    have hb_6 : ¬ (0 ≤ wh ∧ wh ≤ 2) := by omega
    clear hz_3 c_6
    refine r_bipush (pc := 9) C d_D_bestWrite_9 (by decide) ?_
    exact kret _ _ _ _ (-2) _ d_D_bestWrite_11 w (⟨_, cw_mk hR hC, ⟨rfl, Or.inl ⟨by omega, rfl⟩⟩⟩)
def Sp_wipe (A : AS) (z : Int) (A' : AS) : Prop := match A with | ((lc, sd, r, sg, ln, N, v), hist, rcd, slot, uf, T, m) => z = m ∧ A' = ((lc, sd, r, sg, ln, N, v), hist, rcd, slot, uf, T, 0)
theorem d_D_wipe_0 : decode b_D_wipe 0 = .ok (.aload_n 0, 1) := by decide +kernel
theorem d_D_wipe_1 : decode b_D_wipe 1 = .ok (.getfield 40, 3) := by decide +kernel
theorem d_D_wipe_4 : decode b_D_wipe 4 = .ok (.getfield 131, 3) := by decide +kernel
theorem d_D_wipe_7 : decode b_D_wipe 7 = .ok (.istore_n 1, 1) := by decide +kernel
theorem d_D_wipe_8 : decode b_D_wipe 8 = .ok (.aload_n 0, 1) := by decide +kernel
theorem d_D_wipe_9 : decode b_D_wipe 9 = .ok (.getfield 40, 3) := by decide +kernel
theorem d_D_wipe_12 : decode b_D_wipe 12 = .ok (.iconst 0, 1) := by decide +kernel
theorem d_D_wipe_13 : decode b_D_wipe 13 = .ok (.putfield 131, 3) := by decide +kernel
theorem d_D_wipe_16 : decode b_D_wipe 16 = .ok (.iload_n 1, 1) := by decide +kernel
theorem d_D_wipe_17 : decode b_D_wipe 17 = .ok (.ireturn, 1) := by decide +kernel
set_option maxHeartbeats 4000000 in
set_option maxRecDepth 20000 in
theorem c_D_wipe {l : Launch} {G : va_G} {tys : List (ClassId × FieldType)} {cI cO cZ : ClassId} (hT : TY tys cI cO cZ) (o : Nat) (A : AS) (ws : va_W) (hA : CW cI cO cZ o A ws) : CTI l G tys y_D_wipe b_D_wipe 2 .int 0 0 [.ref o] ws (fun z u => ∃ A' : AS, CW cI cO cZ o A' u ∧ Sp_wipe  A z A') := by
  obtain ⟨⟨lc, sd, r, sg, ln, N, v⟩, hist, rcd, slot, uf, T, m⟩ := A
  obtain ⟨hR, h, sl, us, pd, co, hf, sf, q, a, b, ov, q2, a2, b2, sg2, ln2, r2, pl2, ov2, lc2, sd2, q3, a3, b3, sg3, ln3, r3, pl3, ov3, lc3, sd3, st, rfl, hC⟩ := hA
  have hO := hR.1
  have hr5 := hR.2.1
  have hN3 := hR.2.2.1
  have hN0 := hO.n0
  have hr0 := hO.1
  have hlcd := hR.2.2.2
  have hm80 := hC.2.2.2.2.2.1
  have hrcd6 := hC.2.2.1
  refine mkI (by decide) (Nat.le_of_ble_eq_true rfl) ?_
  rintro X rfl rfl rfl hRm C kret H ls w hl
  have hl : lv_has ls 2 [(0, .ref o)] := hl
  have w : Wd X (dcore cI cO cZ o h sl us pd co q q2 q3 hf rcd sf uf T m ++ sw cI q a b sg ln r N ov lc sd ++ sw cI q2 a2 b2 sg2 ln2 r2 pl2 ov2 lc2 sd2 ++ sw cI q3 a3 b3 sg3 ln3 r3 pl3 ov3 lc3 sd3 ++ hst cI st) H [] := w
  generalize ([] : List Loc) = locs at w ⊢
  refine r_aload_n (pc := 0) C d_D_wipe_0 rfl (lv_at hl 0 rfl) ?_
  refine r_get (pc := 1) (v := .ref pd) C w i_D rfl 0 rfl 7 (by decide) fl_D_40 rfl rfl d_D_wipe_1 ?_
  refine r_get (pc := 4) (v := .int (iI m)) C w i_P rfl 4 rfl 1 (by decide) fl_D_131 rfl rfl d_D_wipe_4 ?_
  refine r_istore_n (pc := 7) (lv' := [(1, .int (iI m)), (0, .ref o)]) C d_D_wipe_7 rfl hl (by decide) rfl (fun ls hl => ?_)
  refine r_aload_n (pc := 8) C d_D_wipe_8 rfl (lv_at hl 1 rfl) ?_
  refine r_get (pc := 9) (v := .ref pd) C w i_D rfl 0 rfl 7 (by decide) fl_D_40 rfl rfl d_D_wipe_9 ?_
  refine r_iconst (pc := 12) C d_D_wipe_12 ?_
  refine r_put (pc := 13) (ws' := dcore cI cO cZ o h sl us pd co q q2 q3 hf rcd sf uf T 0 ++ sw cI q a b sg ln r N ov lc sd ++ sw cI q2 a2 b2 sg2 ln2 r2 pl2 ov2 lc2 sd2 ++ sw cI q3 a3 b3 sg3 ln3 r3 pl3 ov3 lc3 sd3 ++ hst cI st) C w i_P t_P t_P_ok n_P rfl 4 rfl 1 (by decide) fl_D_131 rfl rfl rfl rfl (Nat.le_of_ble_eq_true rfl) rfl d_D_wipe_13 (fun H locs w => ?_)
  refine r_iload_n (pc := 16) C d_D_wipe_16 rfl (lv_at hl 0 rfl) ?_
  exact kret _ _ _ _ m _ d_D_wipe_17 w (⟨_, cw_mk hR ⟨hC.1, hC.2.1, hC.2.2.1, hC.2.2.2.1, hC.2.2.2.2.1, by omega, fun x h1 h2 => by omega⟩, rfl, rfl⟩)
