theorem d_M_character_0 : decode b_M_character 0 = .ok (.aload_n 0, 1) := by decide +kernel
theorem d_M_character_1 : decode b_M_character 1 = .ok (.invokevirtual 107, 3) := by decide +kernel
theorem d_M_character_4 : decode b_M_character 4 = .ok (.iload_n 1, 1) := by decide +kernel
theorem d_M_character_5 : decode b_M_character 5 = .ok (.iconst 0, 1) := by decide +kernel
theorem d_M_character_6 : decode b_M_character 6 = .ok (.aload_n 0, 1) := by decide +kernel
theorem d_M_character_7 : decode b_M_character 7 = .ok (.getfield 100, 3) := by decide +kernel
theorem d_M_character_10 : decode b_M_character 10 = .ok (.iconst 1, 1) := by decide +kernel
theorem d_M_character_11 : decode b_M_character 11 = .ok (.isub, 1) := by decide +kernel
theorem d_M_character_12 : decode b_M_character 12 = .ok (.invokestatic 75, 3) := by decide +kernel
theorem d_M_character_15 : decode b_M_character 15 = .ok (.ifCond .eq 12, 3) := by decide +kernel
theorem d_M_character_18 : decode b_M_character 18 = .ok (.aload_n 0, 1) := by decide +kernel
theorem d_M_character_19 : decode b_M_character 19 = .ok (.getfield 28, 3) := by decide +kernel
theorem d_M_character_22 : decode b_M_character 22 = .ok (.iload_n 1, 1) := by decide +kernel
theorem d_M_character_23 : decode b_M_character 23 = .ok (.iaload, 1) := by decide +kernel
theorem d_M_character_24 : decode b_M_character 24 = .ok (.goto 4, 3) := by decide +kernel
theorem d_M_character_27 : decode b_M_character 27 = .ok (.iconst (-1), 1) := by decide +kernel
theorem d_M_character_28 : decode b_M_character 28 = .ok (.ireturn, 1) := by decide +kernel
set_option maxHeartbeats 4000000 in
set_option maxRecDepth 20000 in
theorem c_M_character {l : Launch} {G : va_G} {tys : List (ClassId × FieldType)} {cI cO cZ : ClassId} (hT : TY tys cI cO cZ) (q0 : Nat) (A A' : AS) (z : Int) (ws : va_W) (hA : MW cI q0 A ws) (x : Int) (hrg : (-2147483648 ≤ x ∧ x < 2147483648)) (hS : Sp_character x A z A') : CTI l G tys y_M_character b_M_character 2 .int 2 44 [.ref q0, .int (iI x)] ws (fun z' u => z' = z ∧ MW cI q0 A' u) := by
  obtain ⟨⟨lc, sd, r, sg, ln, N, v⟩, hist, rcd, slot, uf, T, m⟩ := A
  obtain ⟨hR, q1, q2, q3, q4, q5, q6, q7, q8, q9, nw, pt, sl, sv, li, ot, len, pd, wr, wm, ss, lz, rm, rfl, hM, hC⟩ := hA
  have hO := hR.1
  have hr5 := hR.2.1
  have hN3 := hR.2.2.1
  have hN0 := hO.n0
  have hr0 := hO.1
  have hlcd := hR.2.2.2
  have hm80 := hC.2.2.2.2.1
  have hrcd6 := hC.1
  have hvr := hO.v_rg
  have hm0 : nw 0 = lc := hM.1
  have hm1 : nw 1 = sd := hM.2.1
  have hm2 : nw 2 = r := hM.2.2.1
  have hM9 := hM
  obtain ⟨-, -, -, hm3⟩ := hM9
  have hm4 : ∀ k, 0 ≤ k → k < r → nw (3 + 2 * k) = sg k ∧ nw (4 + 2 * k) = ln k := fun k h1 h2 => by have := hm3 k h1 h2; rw [show (0 : Int) + 3 = 3 from rfl, show (0 : Int) + 4 = 4 from rfl] at this; exact this
  refine mkI (by decide) (Nat.le_of_ble_eq_true rfl) ?_
  rintro X rfl rfl rfl hRm C kret H ls w hl
  have hl : lv_has ls 2 [(0, .ref q0), (1, .int (iI x))] := hl
  have w : Wd X (mw cI q0 q1 q2 q3 q4 q5 q6 q7 q8 q9 nw pt rcd sl sv li ot len pd m wr wm ss lz rm) H [] := w
  generalize ([] : List Loc) = locs at w ⊢
  refine r_aload_n (pc := 0) C d_M_character_0 rfl (lv_at hl 0 rfl) ?_
  refine r_callVV (pc := 1) (As := []) (rest := []) (wr := []) C w (c_M_writesAll hT q0 q1 q2 q3 q4 q5 q6 q7 q8 q9 nw pt rcd sl sv li ot len pd m wr wm ss lz rm  _ _ _ _ _ _ _ hR hM) ml_M_107 im_M_writesAll se_M_writesAll ini_M cd_M_writesAll hd_M_writesAll rfl (by rw [hRm]; exact ⟨⟨Nat.le_of_ble_eq_true rfl, Nat.le_of_ble_eq_true rfl⟩, Nat.le_of_ble_eq_true rfl, Nat.le_of_ble_eq_true rfl⟩) hl.1 [0, 1, 2, 3, 4, 5, 6, 7, 8, 9] [] ⟨rfl, rfl, by decide, by decide, by decide⟩ 0 rfl rfl rfl (Nat.le_of_ble_eq_true rfl) d_M_character_1 (fun u_1 H locs hz_1 w => ?_)
  obtain ⟨wr_1, wm_1, rfl, hTx_1, hwm_1⟩ := hz_1
  have w : Wd X (mw cI q0 q1 q2 q3 q4 q5 q6 q7 q8 q9 nw pt rcd sl sv li ot len pd m wr_1 wm_1 ss lz rm) H locs := w
  have hCH := hS.2 _ _ hTx_1
  refine r_iload_n (pc := 4) C d_M_character_4 rfl (lv_at hl 1 rfl) ?_
  refine r_iconst (pc := 5) C d_M_character_5 ?_
  refine r_aload_n (pc := 6) C d_M_character_6 rfl (lv_at hl 0 rfl) ?_
  refine r_get (pc := 7) (v := .int (iI wm_1)) C w i_M rfl 0 rfl 11 (by decide) fl_M_100 rfl rfl d_M_character_7 ?_
  refine r_iconst (pc := 10) C d_M_character_10 ?_
  refine r_isub (pc := 11) C d_M_character_11 ?_
  refine r_callP (pc := 12) (As := [.int (iI x), .int (iI 0), .int (iI (wm_1 - 1))]) (rest := []) C w (c_M_in x 0 (wm_1 - 1) (by omega)) ml_M_75 st_M_in ini_M cd_M_in hd_M_in rfl (by rw [hRm]; exact ⟨⟨Nat.le_of_ble_eq_true rfl, Nat.le_of_ble_eq_true rfl⟩, Nat.le_of_ble_eq_true rfl, Nat.le_of_ble_eq_true rfl⟩) hl.1 rfl (Nat.le_of_ble_eq_true rfl) d_M_character_12 (fun z_12 H locs hz_12 w => ?_)
  refine r_if_eq (pc := 15) (tgt := 27) C (by omega) d_M_character_15 (by decide) (fun c_15 => ?_) (fun c_15 => ?_)
  · skip
    have hb_15 : ¬ (0 ≤ x ∧ x ≤ (wm_1 - 1)) := by omega
    clear hz_12 c_15
    refine r_iconst (pc := 27) C d_M_character_27 ?_
    exact kret _ _ _ _ (-1) _ d_M_character_28 w (by obtain ⟨rfl, -⟩ := hS; exact ⟨by omega, ⟨hR, q1, q2, q3, q4, q5, q6, q7, q8, q9, nw, pt, sl, sv, _, _, _, pd, _, _, ss, lz, rm, rfl, hM, hC⟩⟩)
  · skip
    have hb_15 : 0 ≤ x ∧ x ≤ (wm_1 - 1) := by omega
    clear hz_12 c_15
    refine r_aload_n (pc := 18) C d_M_character_18 rfl (lv_at hl 0 rfl) ?_
    refine r_get (pc := 19) (v := .ref q7) C w i_M rfl 0 rfl 10 (by decide) fl_M_28 rfl rfl d_M_character_19 ?_
    refine r_iload_n (pc := 22) C d_M_character_22 rfl (lv_at hl 1 rfl) ?_
    refine r_iald (pc := 23) (f := wr_1) (i := x) C w 0 7 rfl hT.1 (by omega) d_M_character_23 ?_
    refine r_goto (pc := 24) (tgt := 28) C d_M_character_24 (by decide) ?_
    exact kret _ _ _ _ (wr_1 x) _ d_M_character_28 w (by obtain ⟨rfl, -⟩ := hS; exact ⟨by omega, ⟨hR, q1, q2, q3, q4, q5, q6, q7, q8, q9, nw, pt, sl, sv, _, _, _, pd, _, _, ss, lz, rm, rfl, hM, hC⟩⟩)
theorem count_cases {wh z a0 a1 a2 a3 a4 a5 a6 a7 a8 a9 a10 : Int} (h : (wh = 0 ∧ z = a0) ∨ (wh = 1 ∧ z = a1) ∨ (wh = 2 ∧ z = a2) ∨ (wh = 3 ∧ z = a3) ∨ (wh = 4 ∧ z = a4) ∨ (wh = 5 ∧ z = a5) ∨ (wh = 6 ∧ z = a6) ∨ (wh = 7 ∧ z = a7) ∨ (wh = 8 ∧ z = a8) ∨ (wh = 9 ∧ z = a9) ∨ (wh = 10 ∧ z = a10) ∨ ((wh < 0 ∨ 10 < wh) ∧ z = -2)) : (wh = 0 → z = a0) ∧ (wh = 1 → z = a1) ∧ (wh = 2 → z = a2) ∧ (wh = 3 → z = a3) ∧ (wh = 4 → z = a4) ∧ (wh = 5 → z = a5) ∧ (wh = 6 → z = a6) ∧ (wh = 7 → z = a7) ∧ (wh = 8 → z = a8) ∧ (wh = 9 → z = a9) ∧ (wh = 10 → z = a10) ∧ ((wh < 0 ∨ 10 < wh) → z = -2) := by
  rcases h with ⟨h1, h2⟩ | ⟨h1, h2⟩ | ⟨h1, h2⟩ | ⟨h1, h2⟩ | ⟨h1, h2⟩ | ⟨h1, h2⟩ | ⟨h1, h2⟩ | ⟨h1, h2⟩ | ⟨h1, h2⟩ | ⟨h1, h2⟩ | ⟨h1, h2⟩ | ⟨h1, h2⟩ <;> (subst h2; refine ⟨?_, ?_, ?_, ?_, ?_, ?_, ?_, ?_, ?_, ?_, ?_, ?_⟩ <;> (intro q; first | rfl | (exfalso; omega)))
theorem d_M_count_0 : decode b_M_count 0 = .ok (.aload_n 0, 1) := by decide +kernel
theorem d_M_count_1 : decode b_M_count 1 = .ok (.invokevirtual 72, 3) := by decide +kernel
theorem d_M_count_4 : decode b_M_count 4 = .ok (.aload_n 0, 1) := by decide +kernel
theorem d_M_count_5 : decode b_M_count 5 = .ok (.invokevirtual 107, 3) := by decide +kernel
theorem d_M_count_8 : decode b_M_count 8 = .ok (.iload_n 1, 1) := by decide +kernel
theorem d_M_count_9 : decode b_M_count 9 = .ok (.tableswitch 129 0 10 #[59, 64, 71, 83, 94, 99, 104, 109, 114, 119, 119], 59) := by decide +kernel
theorem d_M_count_68 : decode b_M_count 68 = .ok (.aload_n 0, 1) := by decide +kernel
theorem d_M_count_69 : decode b_M_count 69 = .ok (.getfield 52, 3) := by decide +kernel
theorem d_M_count_72 : decode b_M_count 72 = .ok (.ireturn, 1) := by decide +kernel
theorem d_M_count_73 : decode b_M_count 73 = .ok (.aload_n 0, 1) := by decide +kernel
theorem d_M_count_74 : decode b_M_count 74 = .ok (.getfield 7, 3) := by decide +kernel
theorem d_M_count_77 : decode b_M_count 77 = .ok (.iconst 2, 1) := by decide +kernel
theorem d_M_count_78 : decode b_M_count 78 = .ok (.iaload, 1) := by decide +kernel
theorem d_M_count_79 : decode b_M_count 79 = .ok (.ireturn, 1) := by decide +kernel
theorem d_M_count_80 : decode b_M_count 80 = .ok (.aload_n 0, 1) := by decide +kernel
theorem d_M_count_81 : decode b_M_count 81 = .ok (.iconst 0, 1) := by decide +kernel
theorem d_M_count_82 : decode b_M_count 82 = .ok (.aload_n 0, 1) := by decide +kernel
theorem d_M_count_83 : decode b_M_count 83 = .ok (.getfield 52, 3) := by decide +kernel
theorem d_M_count_86 : decode b_M_count 86 = .ok (.bipush 10, 2) := by decide +kernel
theorem d_M_count_88 : decode b_M_count 88 = .ok (.invokevirtual 86, 3) := by decide +kernel
theorem d_M_count_91 : decode b_M_count 91 = .ok (.ireturn, 1) := by decide +kernel
theorem d_M_count_92 : decode b_M_count 92 = .ok (.aload_n 0, 1) := by decide +kernel
theorem d_M_count_93 : decode b_M_count 93 = .ok (.aload_n 0, 1) := by decide +kernel
theorem d_M_count_94 : decode b_M_count 94 = .ok (.getfield 7, 3) := by decide +kernel
theorem d_M_count_97 : decode b_M_count 97 = .ok (.iconst 0, 1) := by decide +kernel
theorem d_M_count_98 : decode b_M_count 98 = .ok (.iaload, 1) := by decide +kernel
theorem d_M_count_99 : decode b_M_count 99 = .ok (.invokevirtual 110, 3) := by decide +kernel
theorem d_M_count_102 : decode b_M_count 102 = .ok (.ireturn, 1) := by decide +kernel
theorem d_M_count_103 : decode b_M_count 103 = .ok (.aload_n 0, 1) := by decide +kernel
theorem d_M_count_104 : decode b_M_count 104 = .ok (.getfield 100, 3) := by decide +kernel
theorem d_M_count_107 : decode b_M_count 107 = .ok (.ireturn, 1) := by decide +kernel
theorem d_M_count_108 : decode b_M_count 108 = .ok (.aload_n 0, 1) := by decide +kernel
theorem d_M_count_109 : decode b_M_count 109 = .ok (.invokevirtual 113, 3) := by decide +kernel
theorem d_M_count_112 : decode b_M_count 112 = .ok (.ireturn, 1) := by decide +kernel
theorem d_M_count_113 : decode b_M_count 113 = .ok (.aload_n 0, 1) := by decide +kernel
theorem d_M_count_114 : decode b_M_count 114 = .ok (.invokevirtual 116, 3) := by decide +kernel
theorem d_M_count_117 : decode b_M_count 117 = .ok (.ireturn, 1) := by decide +kernel
theorem d_M_count_118 : decode b_M_count 118 = .ok (.aload_n 0, 1) := by decide +kernel
theorem d_M_count_119 : decode b_M_count 119 = .ok (.getfield 119, 3) := by decide +kernel
theorem d_M_count_122 : decode b_M_count 122 = .ok (.ireturn, 1) := by decide +kernel
theorem d_M_count_123 : decode b_M_count 123 = .ok (.aload_n 0, 1) := by decide +kernel
theorem d_M_count_124 : decode b_M_count 124 = .ok (.getfield 37, 3) := by decide +kernel
theorem d_M_count_127 : decode b_M_count 127 = .ok (.ireturn, 1) := by decide +kernel
theorem d_M_count_128 : decode b_M_count 128 = .ok (.aload_n 0, 1) := by decide +kernel
theorem d_M_count_129 : decode b_M_count 129 = .ok (.getfield 7, 3) := by decide +kernel
theorem d_M_count_132 : decode b_M_count 132 = .ok (.iload_n 1, 1) := by decide +kernel
theorem d_M_count_133 : decode b_M_count 133 = .ok (.bipush 9, 2) := by decide +kernel
theorem d_M_count_135 : decode b_M_count 135 = .ok (.isub, 1) := by decide +kernel
theorem d_M_count_136 : decode b_M_count 136 = .ok (.iaload, 1) := by decide +kernel
theorem d_M_count_137 : decode b_M_count 137 = .ok (.ireturn, 1) := by decide +kernel
theorem d_M_count_138 : decode b_M_count 138 = .ok (.bipush (-2), 2) := by decide +kernel
theorem d_M_count_140 : decode b_M_count 140 = .ok (.ireturn, 1) := by decide +kernel
set_option maxHeartbeats 4000000 in
set_option maxRecDepth 20000 in
theorem c_M_count {l : Launch} {G : va_G} {tys : List (ClassId × FieldType)} {cI cO cZ : ClassId} (hT : TY tys cI cO cZ) (q0 : Nat) (A A' : AS) (z : Int) (ws : va_W) (hA : MW cI q0 A ws) (wh : Int) (hrg : (-2147483648 ≤ wh ∧ wh < 2147483648)) (hS : Sp_count wh A z A') : CTI l G tys y_M_count b_M_count 2 .int 4 89 [.ref q0, .int (iI wh)] ws (fun z' u => z' = z ∧ MW cI q0 A' u) := by
  obtain ⟨⟨lc, sd, r, sg, ln, N, v⟩, hist, rcd, slot, uf, T, m⟩ := A
  obtain ⟨hR, q1, q2, q3, q4, q5, q6, q7, q8, q9, nw, pt, sl, sv, li, ot, len, pd, wr, wm, ss, lz, rm, rfl, hM, hC⟩ := hA
  have hO := hR.1
  have hr5 := hR.2.1
  have hN3 := hR.2.2.1
  have hN0 := hO.n0
  have hr0 := hO.1
  have hlcd := hR.2.2.2
  have hm80 := hC.2.2.2.2.1
  have hrcd6 := hC.1
  have hvr := hO.v_rg
  have hm0 : nw 0 = lc := hM.1
  have hm1 : nw 1 = sd := hM.2.1
  have hm2 : nw 2 = r := hM.2.2.1
  have hM9 := hM
  obtain ⟨-, -, -, hm3⟩ := hM9
  have hm4 : ∀ k, 0 ≤ k → k < r → nw (3 + 2 * k) = sg k ∧ nw (4 + 2 * k) = ln k := fun k h1 h2 => by have := hm3 k h1 h2; rw [show (0 : Int) + 3 = 3 from rfl, show (0 : Int) + 4 = 4 from rfl] at this; exact this
  refine mkI (by decide) (Nat.le_of_ble_eq_true rfl) ?_
  rintro X rfl rfl rfl hRm C kret H ls w hl
  have hl : lv_has ls 2 [(0, .ref q0), (1, .int (iI wh))] := hl
  have w : Wd X (mw cI q0 q1 q2 q3 q4 q5 q6 q7 q8 q9 nw pt rcd sl sv li ot len pd m wr wm ss lz rm) H [] := w
  generalize ([] : List Loc) = locs at w ⊢
  refine r_aload_n (pc := 0) C d_M_count_0 rfl (lv_at hl 0 rfl) ?_
  refine r_callVV (pc := 1) (As := []) (rest := []) (wr := []) C w (c_M_laysOut hT q0 q1 q2 q3 q4 q5 q6 q7 q8 q9 nw pt rcd sl sv li ot len pd m wr wm ss lz rm  _ _ _ _ _ _ _ hR hM) ml_M_72 im_M_laysOut se_M_laysOut ini_M cd_M_laysOut hd_M_laysOut rfl (by rw [hRm]; exact ⟨⟨Nat.le_of_ble_eq_true rfl, Nat.le_of_ble_eq_true rfl⟩, Nat.le_of_ble_eq_true rfl, Nat.le_of_ble_eq_true rfl⟩) hl.1 [0, 1, 2, 3, 4, 5, 6, 7, 8, 9] [] ⟨rfl, rfl, by decide, by decide, by decide⟩ 0 rfl rfl rfl (Nat.le_of_ble_eq_true rfl) d_M_count_1 (fun u_1 H locs hz_1 w => ?_)
  obtain ⟨li_1, rfl, hli_1⟩ := hz_1
  have w : Wd X (mw cI q0 q1 q2 q3 q4 q5 q6 q7 q8 q9 nw pt rcd sl sv li_1 ot N pd m wr wm ss lz rm) H locs := w
  refine r_aload_n (pc := 4) C d_M_count_4 rfl (lv_at hl 0 rfl) ?_
  refine r_callVV (pc := 5) (As := []) (rest := []) (wr := []) C w (c_M_writesAll hT q0 q1 q2 q3 q4 q5 q6 q7 q8 q9 nw pt rcd sl sv li_1 ot N pd m wr wm ss lz rm  _ _ _ _ _ _ _ hR hM) ml_M_107 im_M_writesAll se_M_writesAll ini_M cd_M_writesAll hd_M_writesAll rfl (by rw [hRm]; exact ⟨⟨Nat.le_of_ble_eq_true rfl, Nat.le_of_ble_eq_true rfl⟩, Nat.le_of_ble_eq_true rfl, Nat.le_of_ble_eq_true rfl⟩) hl.1 [0, 1, 2, 3, 4, 5, 6, 7, 8, 9] [] ⟨rfl, rfl, by decide, by decide, by decide⟩ 0 rfl rfl rfl (Nat.le_of_ble_eq_true rfl) d_M_count_5 (fun u_5 H locs hz_5 w => ?_)
  obtain ⟨wr_5, wm_5, rfl, hTx_5, hwm_5⟩ := hz_5
  have w : Wd X (mw cI q0 q1 q2 q3 q4 q5 q6 q7 q8 q9 nw pt rcd sl sv li_1 ot N pd m wr_5 wm_5 ss lz rm) H locs := w
  refine r_iload_n (pc := 8) C d_M_count_8 rfl (lv_at hl 1 rfl) ?_
  have hsw : wh = 0 ∨ wh = 1 ∨ wh = 2 ∨ wh = 3 ∨ wh = 4 ∨ wh = 5 ∨ wh = 6 ∨ wh = 7 ∨ wh = 8 ∨ wh = 9 ∨ wh = 10 ∨ (wh < 0 ∨ 10 < wh) := by omega
  rcases hsw with hsw | hsw | hsw | hsw | hsw | hsw | hsw | hsw | hsw | hsw | hsw | hsw
  · skip
    refine r_switchIn (pc := 9) (off := 59) (tgt := 68) C (by omega) (by omega) (by rw [hsw]; rfl) (by decide) d_M_count_9 ?_
    refine r_aload_n (pc := 68) C d_M_count_68 rfl (lv_at hl 0 rfl) ?_
    refine r_get (pc := 69) (v := .int (iI N)) C w i_M rfl 0 rfl 7 (by decide) fl_M_52 rfl rfl d_M_count_69 ?_
    exact kret _ _ _ _ N _ d_M_count_72 w (by obtain ⟨rfl, hS9⟩ := hS; have hcc := count_cases hS9; exact ⟨by rw [hcc.1 hsw], ⟨hR, q1, q2, q3, q4, q5, q6, q7, q8, q9, nw, pt, sl, sv, _, _, _, pd, _, _, ss, lz, rm, rfl, hM, hC⟩⟩)
  · skip
    refine r_switchIn (pc := 9) (off := 64) (tgt := 73) C (by omega) (by omega) (by rw [hsw]; rfl) (by decide) d_M_count_9 ?_
    refine r_aload_n (pc := 73) C d_M_count_73 rfl (lv_at hl 0 rfl) ?_
    refine r_get (pc := 74) (v := .ref q1) C w i_M rfl 0 rfl 0 (by decide) fl_M_7 rfl rfl d_M_count_74 ?_
    refine r_iconst (pc := 77) C d_M_count_77 ?_
    refine r_iald (pc := 78) (f := nw) (i := 2) C w 0 1 rfl hT.1 (by omega) d_M_count_78 ?_
    exact kret _ _ _ _ (nw 2) _ d_M_count_79 w (by obtain ⟨rfl, hS9⟩ := hS; have hcc := count_cases hS9; exact ⟨by rw [hcc.2.1 hsw]; exact hm2, ⟨hR, q1, q2, q3, q4, q5, q6, q7, q8, q9, nw, pt, sl, sv, _, _, _, pd, _, _, ss, lz, rm, rfl, hM, hC⟩⟩)
  · skip
    refine r_switchIn (pc := 9) (off := 71) (tgt := 80) C (by omega) (by omega) (by rw [hsw]; rfl) (by decide) d_M_count_9 ?_
    have hcg := cn_congr (v := li_1) (u := v) (s := 10) (f := 0) (e := 0 + N) (by omega) (by omega) (fun x h1 h2 => hli_1 x h1 (by omega))
    refine r_aload_n (pc := 80) C d_M_count_80 rfl (lv_at hl 0 rfl) ?_
    refine r_iconst (pc := 81) C d_M_count_81 ?_
    refine r_aload_n (pc := 82) C d_M_count_82 rfl (lv_at hl 0 rfl) ?_
    refine r_get (pc := 83) (v := .int (iI N)) C w i_M rfl 0 rfl 7 (by decide) fl_M_52 rfl rfl d_M_count_83 ?_
    refine r_bipush (pc := 86) C d_M_count_86 (by decide) ?_
    refine r_callVI (pc := 88) (As := [.int (iI 0), .int (iI N), .int (iI 10)]) (rest := []) (wr := []) C w (c_M_countIn hT q0 q1 q2 q3 q4 q5 q6 q7 q8 q9 nw pt rcd sl sv li_1 ot N pd m wr_5 wm_5 ss lz rm 0 N 10 (by omega) (by omega) (fun x h1 h2 => by rw [hli_1 x (by omega) (by omega)]; exact hvr x (by omega) (by omega))) ml_M_86 im_M_countIn se_M_countIn ini_M cd_M_countIn hd_M_countIn rfl (by rw [hRm]; exact ⟨⟨Nat.le_of_ble_eq_true rfl, Nat.le_of_ble_eq_true rfl⟩, Nat.le_of_ble_eq_true rfl, Nat.le_of_ble_eq_true rfl⟩) hl.1 [0, 1, 2, 3, 4, 5, 6, 7, 8, 9] [] ⟨rfl, rfl, by decide, by decide, by decide⟩ 0 rfl rfl rfl (Nat.le_of_ble_eq_true rfl) d_M_count_88 (fun z_88 u_88 H locs hz_88 w => ?_)
    obtain ⟨rfl, rfl⟩ := hz_88
    have w : Wd X (mw cI q0 q1 q2 q3 q4 q5 q6 q7 q8 q9 nw pt rcd sl sv li_1 ot N pd m wr_5 wm_5 ss lz rm) H locs := w
    exact kret _ _ _ _ (cn li_1 10 0 (0 + N)) _ d_M_count_91 w (by obtain ⟨rfl, hS9⟩ := hS; have hcc := count_cases hS9; exact ⟨by rw [hcc.2.2.1 hsw, hcg, Int.zero_add], ⟨hR, q1, q2, q3, q4, q5, q6, q7, q8, q9, nw, pt, sl, sv, _, _, _, pd, _, _, ss, lz, rm, rfl, hM, hC⟩⟩)
  · skip
    refine r_switchIn (pc := 9) (off := 83) (tgt := 92) C (by omega) (by omega) (by rw [hsw]; rfl) (by decide) d_M_count_9 ?_
    refine r_aload_n (pc := 92) C d_M_count_92 rfl (lv_at hl 0 rfl) ?_
    refine r_aload_n (pc := 93) C d_M_count_93 rfl (lv_at hl 0 rfl) ?_
    refine r_get (pc := 94) (v := .ref q1) C w i_M rfl 0 rfl 0 (by decide) fl_M_7 rfl rfl d_M_count_94 ?_
    refine r_iconst (pc := 97) C d_M_count_97 ?_
    refine r_iald (pc := 98) (f := nw) (i := 0) C w 0 1 rfl hT.1 (by omega) d_M_count_98 ?_
    refine r_callVI (pc := 99) (As := [.int (iI (nw 0))]) (rest := []) (wr := []) C w (c_M_sizeBy hT q0 q1 q2 q3 q4 q5 q6 q7 q8 q9 nw pt rcd sl sv li_1 ot N pd m wr_5 wm_5 ss lz rm (nw 0) _ _ _ _ _ _ _ hR hM (by omega)) ml_M_110 im_M_sizeBy se_M_sizeBy ini_M cd_M_sizeBy hd_M_sizeBy rfl (by rw [hRm]; exact ⟨⟨Nat.le_of_ble_eq_true rfl, Nat.le_of_ble_eq_true rfl⟩, Nat.le_of_ble_eq_true rfl, Nat.le_of_ble_eq_true rfl⟩) hl.1 [0, 1, 2, 3, 4, 5, 6, 7, 8, 9] [] ⟨rfl, rfl, by decide, by decide, by decide⟩ 0 rfl rfl rfl (Nat.le_of_ble_eq_true rfl) d_M_count_99 (fun z_99 u_99 H locs hz_99 w => ?_)
    obtain ⟨rfl, rfl⟩ := hz_99
    have w : Wd X (mw cI q0 q1 q2 q3 q4 q5 q6 q7 q8 q9 nw pt rcd sl sv li_1 ot N pd m wr_5 wm_5 ss lz rm) H locs := w
    have hab_99 := allBits_rg (code := (nw 0)) hO (by omega) (k := r) (by omega) (by omega)
    exact kret _ _ _ _ (ps (rbf (nw 0) sg ln) r) _ d_M_count_102 w (by obtain ⟨rfl, hS9⟩ := hS; have hcc := count_cases hS9; exact ⟨by rw [hcc.2.2.2.1 hsw, hm0], ⟨hR, q1, q2, q3, q4, q5, q6, q7, q8, q9, nw, pt, sl, sv, _, _, _, pd, _, _, ss, lz, rm, rfl, hM, hC⟩⟩)
  · skip
    refine r_switchIn (pc := 9) (off := 94) (tgt := 103) C (by omega) (by omega) (by rw [hsw]; rfl) (by decide) d_M_count_9 ?_
    refine r_aload_n (pc := 103) C d_M_count_103 rfl (lv_at hl 0 rfl) ?_
    refine r_get (pc := 104) (v := .int (iI wm_5)) C w i_M rfl 0 rfl 11 (by decide) fl_M_100 rfl rfl d_M_count_104 ?_
    exact kret _ _ _ _ wm_5 _ d_M_count_107 w (by obtain ⟨rfl, hS9⟩ := hS; have hcc := count_cases hS9; exact ⟨by rw [hcc.2.2.2.2.1 hsw]; exact hTx_5.1, ⟨hR, q1, q2, q3, q4, q5, q6, q7, q8, q9, nw, pt, sl, sv, _, _, _, pd, _, _, ss, lz, rm, rfl, hM, hC⟩⟩)
  · skip
    refine r_switchIn (pc := 9) (off := 99) (tgt := 108) C (by omega) (by omega) (by rw [hsw]; rfl) (by decide) d_M_count_9 ?_
    refine r_aload_n (pc := 108) C d_M_count_108 rfl (lv_at hl 0 rfl) ?_
    refine r_callVI (pc := 109) (As := []) (rest := []) (wr := []) C w (c_M_sumLive hT q0 q1 q2 q3 q4 q5 q6 q7 q8 q9 nw pt rcd sl sv li_1 ot N pd m wr_5 wm_5 ss lz rm  _ _ _ _ _ _ _ hR hM) ml_M_113 im_M_sumLive se_M_sumLive ini_M cd_M_sumLive hd_M_sumLive rfl (by rw [hRm]; exact ⟨⟨Nat.le_of_ble_eq_true rfl, Nat.le_of_ble_eq_true rfl⟩, Nat.le_of_ble_eq_true rfl, Nat.le_of_ble_eq_true rfl⟩) hl.1 [0, 1, 2, 3, 4, 5, 6, 7, 8, 9] [] ⟨rfl, rfl, by decide, by decide, by decide⟩ 0 rfl rfl rfl (Nat.le_of_ble_eq_true rfl) d_M_count_109 (fun z_109 u_109 H locs hz_109 w => ?_)
    obtain ⟨rfl, rfl⟩ := hz_109
    have w : Wd X (mw cI q0 q1 q2 q3 q4 q5 q6 q7 q8 q9 nw pt rcd sl sv li_1 ot N pd m wr_5 wm_5 ss lz rm) H locs := w
    exact kret _ _ _ _ (ps (smf sg ln) r) _ d_M_count_112 w (by obtain ⟨rfl, hS9⟩ := hS; have hcc := count_cases hS9; exact ⟨by rw [hcc.2.2.2.2.2.1 hsw], ⟨hR, q1, q2, q3, q4, q5, q6, q7, q8, q9, nw, pt, sl, sv, _, _, _, pd, _, _, ss, lz, rm, rfl, hM, hC⟩⟩)
  · skip
    refine r_switchIn (pc := 9) (off := 104) (tgt := 113) C (by omega) (by omega) (by rw [hsw]; rfl) (by decide) d_M_count_9 ?_
    refine r_aload_n (pc := 113) C d_M_count_113 rfl (lv_at hl 0 rfl) ?_
    refine r_callVI (pc := 114) (As := []) (rest := []) (wr := []) C w (c_M_longest hT q0 q1 q2 q3 q4 q5 q6 q7 q8 q9 nw pt rcd sl sv li_1 ot N pd m wr_5 wm_5 ss lz rm  _ _ _ _ _ _ _ hR hM) ml_M_116 im_M_longest se_M_longest ini_M cd_M_longest hd_M_longest rfl (by rw [hRm]; exact ⟨⟨Nat.le_of_ble_eq_true rfl, Nat.le_of_ble_eq_true rfl⟩, Nat.le_of_ble_eq_true rfl, Nat.le_of_ble_eq_true rfl⟩) hl.1 [0, 1, 2, 3, 4, 5, 6, 7, 8, 9] [] ⟨rfl, rfl, by decide, by decide, by decide⟩ 0 rfl rfl rfl (Nat.le_of_ble_eq_true rfl) d_M_count_114 (fun z_114 u_114 H locs hz_114 w => ?_)
    obtain ⟨rfl, rfl⟩ := hz_114
    have w : Wd X (mw cI q0 q1 q2 q3 q4 q5 q6 q7 q8 q9 nw pt rcd sl sv li_1 ot N pd m wr_5 wm_5 ss lz rm) H locs := w
    exact kret _ _ _ _ (mx ln r) _ d_M_count_117 w (by obtain ⟨rfl, hS9⟩ := hS; have hcc := count_cases hS9; exact ⟨by rw [hcc.2.2.2.2.2.2.1 hsw], ⟨hR, q1, q2, q3, q4, q5, q6, q7, q8, q9, nw, pt, sl, sv, _, _, _, pd, _, _, ss, lz, rm, rfl, hM, hC⟩⟩)
  · skip
    refine r_switchIn (pc := 9) (off := 109) (tgt := 118) C (by omega) (by omega) (by rw [hsw]; rfl) (by decide) d_M_count_9 ?_
    refine r_aload_n (pc := 118) C d_M_count_118 rfl (lv_at hl 0 rfl) ?_
    refine r_get (pc := 119) (v := .int (iI m)) C w i_M rfl 0 rfl 9 (by decide) fl_M_119 rfl rfl d_M_count_119 ?_
    exact kret _ _ _ _ m _ d_M_count_122 w (by obtain ⟨rfl, hS9⟩ := hS; have hcc := count_cases hS9; exact ⟨by rw [hcc.2.2.2.2.2.2.2.1 hsw], ⟨hR, q1, q2, q3, q4, q5, q6, q7, q8, q9, nw, pt, sl, sv, _, _, _, pd, _, _, ss, lz, rm, rfl, hM, hC⟩⟩)
  · skip
    refine r_switchIn (pc := 9) (off := 114) (tgt := 123) C (by omega) (by omega) (by rw [hsw]; rfl) (by decide) d_M_count_9 ?_
    refine r_aload_n (pc := 123) C d_M_count_123 rfl (lv_at hl 0 rfl) ?_
    refine r_get (pc := 124) (v := .int (iI rcd)) C w i_M rfl 0 rfl 2 (by decide) fl_M_37 rfl rfl d_M_count_124 ?_
    exact kret _ _ _ _ rcd _ d_M_count_127 w (by obtain ⟨rfl, hS9⟩ := hS; have hcc := count_cases hS9; exact ⟨by rw [hcc.2.2.2.2.2.2.2.2.1 hsw], ⟨hR, q1, q2, q3, q4, q5, q6, q7, q8, q9, nw, pt, sl, sv, _, _, _, pd, _, _, ss, lz, rm, rfl, hM, hC⟩⟩)
  · skip
    refine r_switchIn (pc := 9) (off := 119) (tgt := 128) C (by omega) (by omega) (by rw [hsw]; rfl) (by decide) d_M_count_9 ?_
    refine r_aload_n (pc := 128) C d_M_count_128 rfl (lv_at hl 0 rfl) ?_
    refine r_get (pc := 129) (v := .ref q1) C w i_M rfl 0 rfl 0 (by decide) fl_M_7 rfl rfl d_M_count_129 ?_
    refine r_iload_n (pc := 132) C d_M_count_132 rfl (lv_at hl 1 rfl) ?_
    refine r_bipush (pc := 133) C d_M_count_133 (by decide) ?_
    refine r_isub (pc := 135) C d_M_count_135 ?_
    refine r_iald (pc := 136) (f := nw) (i := (wh - 9)) C w 0 1 rfl hT.1 (by omega) d_M_count_136 ?_
    exact kret _ _ _ _ (nw (wh - 9)) _ d_M_count_137 w (by obtain ⟨rfl, hS9⟩ := hS; have hcc := count_cases hS9; exact ⟨by subst hsw; first | exact (hm0.trans (hcc.2.2.2.2.2.2.2.2.2.1 rfl).symm) | exact (hm1.trans (hcc.2.2.2.2.2.2.2.2.2.2.1 rfl).symm), ⟨hR, q1, q2, q3, q4, q5, q6, q7, q8, q9, nw, pt, sl, sv, _, _, _, pd, _, _, ss, lz, rm, rfl, hM, hC⟩⟩)
  · skip
    refine r_switchIn (pc := 9) (off := 119) (tgt := 128) C (by omega) (by omega) (by rw [hsw]; rfl) (by decide) d_M_count_9 ?_
    refine r_aload_n (pc := 128) C d_M_count_128 rfl (lv_at hl 0 rfl) ?_
    refine r_get (pc := 129) (v := .ref q1) C w i_M rfl 0 rfl 0 (by decide) fl_M_7 rfl rfl d_M_count_129 ?_
    refine r_iload_n (pc := 132) C d_M_count_132 rfl (lv_at hl 1 rfl) ?_
    refine r_bipush (pc := 133) C d_M_count_133 (by decide) ?_
    refine r_isub (pc := 135) C d_M_count_135 ?_
    refine r_iald (pc := 136) (f := nw) (i := (wh - 9)) C w 0 1 rfl hT.1 (by omega) d_M_count_136 ?_
    exact kret _ _ _ _ (nw (wh - 9)) _ d_M_count_137 w (by obtain ⟨rfl, hS9⟩ := hS; have hcc := count_cases hS9; exact ⟨by subst hsw; first | exact (hm0.trans (hcc.2.2.2.2.2.2.2.2.2.1 rfl).symm) | exact (hm1.trans (hcc.2.2.2.2.2.2.2.2.2.2.1 rfl).symm), ⟨hR, q1, q2, q3, q4, q5, q6, q7, q8, q9, nw, pt, sl, sv, _, _, _, pd, _, _, ss, lz, rm, rfl, hM, hC⟩⟩)
  · skip
    refine r_switchOut (pc := 9) (tgt := 138) C (by omega) hsw (by decide) d_M_count_9 ?_
    refine r_bipush (pc := 138) C d_M_count_138 (by decide) ?_
    exact kret _ _ _ _ (-2) _ d_M_count_140 w (by obtain ⟨rfl, hS9⟩ := hS; have hcc := count_cases hS9; exact ⟨by rw [hcc.2.2.2.2.2.2.2.2.2.2.2 hsw], ⟨hR, q1, q2, q3, q4, q5, q6, q7, q8, q9, nw, pt, sl, sv, _, _, _, pd, _, _, ss, lz, rm, rfl, hM, hC⟩⟩)
