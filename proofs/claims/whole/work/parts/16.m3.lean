theorem d_M_add_0 : decode b_M_add 0 = .ok (.aload_n 0, 1) := by decide +kernel
theorem d_M_add_1 : decode b_M_add 1 = .ok (.iload_n 1, 1) := by decide +kernel
theorem d_M_add_2 : decode b_M_add 2 = .ok (.iload_n 2, 1) := by decide +kernel
theorem d_M_add_3 : decode b_M_add 3 = .ok (.invokevirtual 82, 3) := by decide +kernel
theorem d_M_add_6 : decode b_M_add 6 = .ok (.ifCond .ne 5, 3) := by decide +kernel
theorem d_M_add_9 : decode b_M_add 9 = .ok (.iconst (-1), 1) := by decide +kernel
theorem d_M_add_10 : decode b_M_add 10 = .ok (.ireturn, 1) := by decide +kernel
theorem d_M_add_11 : decode b_M_add 11 = .ok (.iload_n 3, 1) := by decide +kernel
theorem d_M_add_12 : decode b_M_add 12 = .ok (.iconst 1, 1) := by decide +kernel
theorem d_M_add_13 : decode b_M_add 13 = .ok (.bipush 9, 2) := by decide +kernel
theorem d_M_add_15 : decode b_M_add 15 = .ok (.invokestatic 75, 3) := by decide +kernel
theorem d_M_add_18 : decode b_M_add 18 = .ok (.ifCond .ne 6, 3) := by decide +kernel
theorem d_M_add_21 : decode b_M_add 21 = .ok (.bipush (-2), 2) := by decide +kernel
theorem d_M_add_23 : decode b_M_add 23 = .ok (.ireturn, 1) := by decide +kernel
theorem d_M_add_24 : decode b_M_add 24 = .ok (.aload_n 0, 1) := by decide +kernel
theorem d_M_add_25 : decode b_M_add 25 = .ok (.iload_n 1, 1) := by decide +kernel
theorem d_M_add_26 : decode b_M_add 26 = .ok (.iload_n 2, 1) := by decide +kernel
theorem d_M_add_27 : decode b_M_add 27 = .ok (.bipush 10, 2) := by decide +kernel
theorem d_M_add_29 : decode b_M_add 29 = .ok (.invokevirtual 86, 3) := by decide +kernel
theorem d_M_add_32 : decode b_M_add 32 = .ok (.istore 4, 2) := by decide +kernel
theorem d_M_add_34 : decode b_M_add 34 = .ok (.iload_n 1, 1) := by decide +kernel
theorem d_M_add_35 : decode b_M_add 35 = .ok (.istore 5, 2) := by decide +kernel
theorem d_M_add_37 : decode b_M_add 37 = .ok (.iload 5, 2) := by decide +kernel
theorem d_M_add_39 : decode b_M_add 39 = .ok (.iload_n 1, 1) := by decide +kernel
theorem d_M_add_40 : decode b_M_add 40 = .ok (.iload_n 2, 1) := by decide +kernel
theorem d_M_add_41 : decode b_M_add 41 = .ok (.iadd, 1) := by decide +kernel
theorem d_M_add_42 : decode b_M_add 42 = .ok (.if_icmp .ge 45, 3) := by decide +kernel
theorem d_M_add_45 : decode b_M_add 45 = .ok (.aload_n 0, 1) := by decide +kernel
theorem d_M_add_46 : decode b_M_add 46 = .ok (.getfield 19, 3) := by decide +kernel
theorem d_M_add_49 : decode b_M_add 49 = .ok (.iload 5, 2) := by decide +kernel
theorem d_M_add_51 : decode b_M_add 51 = .ok (.aload_n 0, 1) := by decide +kernel
theorem d_M_add_52 : decode b_M_add 52 = .ok (.getfield 19, 3) := by decide +kernel
theorem d_M_add_55 : decode b_M_add 55 = .ok (.iload 5, 2) := by decide +kernel
theorem d_M_add_57 : decode b_M_add 57 = .ok (.iaload, 1) := by decide +kernel
theorem d_M_add_58 : decode b_M_add 58 = .ok (.bipush 10, 2) := by decide +kernel
theorem d_M_add_60 : decode b_M_add 60 = .ok (.if_icmp .ne 8, 3) := by decide +kernel
theorem d_M_add_63 : decode b_M_add 63 = .ok (.bipush 10, 2) := by decide +kernel
theorem d_M_add_65 : decode b_M_add 65 = .ok (.goto 15, 3) := by decide +kernel
theorem d_M_add_68 : decode b_M_add 68 = .ok (.aload_n 0, 1) := by decide +kernel
theorem d_M_add_69 : decode b_M_add 69 = .ok (.getfield 19, 3) := by decide +kernel
theorem d_M_add_72 : decode b_M_add 72 = .ok (.iload 5, 2) := by decide +kernel
theorem d_M_add_74 : decode b_M_add 74 = .ok (.iaload, 1) := by decide +kernel
theorem d_M_add_75 : decode b_M_add 75 = .ok (.iload_n 3, 1) := by decide +kernel
theorem d_M_add_76 : decode b_M_add 76 = .ok (.iadd, 1) := by decide +kernel
theorem d_M_add_77 : decode b_M_add 77 = .ok (.bipush 10, 2) := by decide +kernel
theorem d_M_add_79 : decode b_M_add 79 = .ok (.irem, 1) := by decide +kernel
theorem d_M_add_80 : decode b_M_add 80 = .ok (.iastore, 1) := by decide +kernel
theorem d_M_add_81 : decode b_M_add 81 = .ok (.iinc 5 1, 3) := by decide +kernel
theorem d_M_add_84 : decode b_M_add 84 = .ok (.goto (-47), 3) := by decide +kernel
theorem d_M_add_87 : decode b_M_add 87 = .ok (.aload_n 0, 1) := by decide +kernel
theorem d_M_add_88 : decode b_M_add 88 = .ok (.iload_n 2, 1) := by decide +kernel
theorem d_M_add_89 : decode b_M_add 89 = .ok (.iload 4, 2) := by decide +kernel
theorem d_M_add_91 : decode b_M_add 91 = .ok (.isub, 1) := by decide +kernel
theorem d_M_add_92 : decode b_M_add 92 = .ok (.invokevirtual 79, 3) := by decide +kernel
theorem d_M_add_95 : decode b_M_add 95 = .ok (.ireturn, 1) := by decide +kernel
set_option maxHeartbeats 4000000 in
set_option maxRecDepth 20000 in
theorem c_M_add {l : Launch} {G : va_G} {tys : List (ClassId × FieldType)} {cI cO cZ : ClassId} (hT : TY tys cI cO cZ) (q0 : Nat) (A A' : AS) (z : Int) (ws : va_W) (hA : MW cI q0 A ws) (f k y : Int) (hrg : (-2147483648 ≤ f ∧ f < 2147483648) ∧ (-2147483648 ≤ k ∧ k < 2147483648) ∧ (-2147483648 ≤ y ∧ y < 2147483648)) (hS : Sp_add f k y A z A') : CTI l G tys y_M_add b_M_add 6 .int 4 88 [.ref q0, .int (iI f), .int (iI k), .int (iI y)] ws (fun z' u => z' = z ∧ MW cI q0 A' u) := by
  obtain ⟨⟨lc, sd, r, sg, ln, N, v⟩, hist, rcd, slot, uf, T, m⟩ := A
  obtain ⟨hR, q1, q2, q3, q4, q5, q6, q7, q8, q9, nw, pt, sl, sv, li, ot, len, pd, wr, wm, ss, lz, rm, rfl, hM, hC⟩ := hA
  have hO := hR.1
  have hr5 := hR.2.1
  have hN3 := hR.2.2.1
  have hN0 := hO.n0
  have hr0 := hO.1
  have hlcd := hR.2.2.2
  have hm80 := hC.2.2.2.2.1
  have hrcd6 := hC.1
  have hvr := hO.v_rg
  have hm0 : nw 0 = lc := hM.1
  have hm1 : nw 1 = sd := hM.2.1
  have hm2 : nw 2 = r := hM.2.2.1
  have hS : SpE ((lc, sd, r, sg, ln, N, v), hist, rcd, slot, uf, T, m) z A' (errWr N f k 1 y) (lc) (sd) (N) (edt f (f + k) 1 y v) (ps (edc f (f + k) 1 y v) N) := hS
  refine mkI (by decide) (Nat.le_of_ble_eq_true rfl) ?_
  rintro X rfl rfl rfl hRm C kret H ls w hl
  have hl : lv_has ls 6 [(0, .ref q0), (1, .int (iI f)), (2, .int (iI k)), (3, .int (iI y))] := hl
  have w : Wd X (mw cI q0 q1 q2 q3 q4 q5 q6 q7 q8 q9 nw pt rcd sl sv li ot len pd m wr wm ss lz rm) H [] := w
  generalize ([] : List Loc) = locs at w ⊢
  refine r_aload_n (pc := 0) C d_M_add_0 rfl (lv_at hl 0 rfl) ?_
  refine r_iload_n (pc := 1) C d_M_add_1 rfl (lv_at hl 1 rfl) ?_
  refine r_iload_n (pc := 2) C d_M_add_2 rfl (lv_at hl 2 rfl) ?_
  refine r_callVI (pc := 3) (As := [.int (iI f), .int (iI k)]) (rest := []) (wr := []) C w (c_M_hasPiece hT q0 q1 q2 q3 q4 q5 q6 q7 q8 q9 nw pt rcd sl sv li ot len pd m wr wm ss lz rm f k _ _ _ _ _ _ _ hR hM (by omega)) ml_M_82 im_M_hasPiece se_M_hasPiece ini_M cd_M_hasPiece hd_M_hasPiece rfl (by rw [hRm]; exact ⟨⟨Nat.le_of_ble_eq_true rfl, Nat.le_of_ble_eq_true rfl⟩, Nat.le_of_ble_eq_true rfl, Nat.le_of_ble_eq_true rfl⟩) hl.1 [0, 1, 2, 3, 4, 5, 6, 7, 8, 9] [] ⟨rfl, rfl, by decide, by decide, by decide⟩ 0 rfl rfl rfl (Nat.le_of_ble_eq_true rfl) d_M_add_3 (fun z_3 u_3 H locs hz_3 w => ?_)
  obtain ⟨li_3, rfl, hli_3, hz_3⟩ := hz_3
  have w : Wd X (mw cI q0 q1 q2 q3 q4 q5 q6 q7 q8 q9 nw pt rcd sl sv li_3 ot N pd m wr wm ss lz rm) H locs := w
  refine r_if_ne (pc := 6) (tgt := 11) C (by omega) d_M_add_6 (by decide) (fun c_6 => ?_) (fun c_6 => ?_)
  · skip
    have hb_6 : 0 ≤ f ∧ 1 ≤ k ∧ k ≤ N - f := by omega
    clear hz_3 c_6
    refine r_iload_n (pc := 11) C d_M_add_11 rfl (lv_at hl 3 rfl) ?_
    refine r_iconst (pc := 12) C d_M_add_12 ?_
    refine r_bipush (pc := 13) C d_M_add_13 (by decide) ?_
    refine r_callP (pc := 15) (As := [.int (iI y), .int (iI 1), .int (iI 9)]) (rest := []) C w (c_M_in y 1 9 (by omega)) ml_M_75 st_M_in ini_M cd_M_in hd_M_in rfl (by rw [hRm]; exact ⟨⟨Nat.le_of_ble_eq_true rfl, Nat.le_of_ble_eq_true rfl⟩, Nat.le_of_ble_eq_true rfl, Nat.le_of_ble_eq_true rfl⟩) hl.1 rfl (Nat.le_of_ble_eq_true rfl) d_M_add_15 (fun z_15 H locs hz_15 w => ?_)
    refine r_if_ne (pc := 18) (tgt := 24) C (by omega) d_M_add_18 (by decide) (fun c_18 => ?_) (fun c_18 => ?_)
    · skip
      have hb_18 : 1 ≤ y ∧ y ≤ 9 := by omega
      clear hz_15 c_18
      refine r_aload_n (pc := 24) C d_M_add_24 rfl (lv_at hl 0 rfl) ?_
      refine r_iload_n (pc := 25) C d_M_add_25 rfl (lv_at hl 1 rfl) ?_
      refine r_iload_n (pc := 26) C d_M_add_26 rfl (lv_at hl 2 rfl) ?_
      refine r_bipush (pc := 27) C d_M_add_27 (by decide) ?_
      refine r_callVI (pc := 29) (As := [.int (iI f), .int (iI k), .int (iI 10)]) (rest := []) (wr := []) C w (c_M_countIn hT q0 q1 q2 q3 q4 q5 q6 q7 q8 q9 nw pt rcd sl sv li_3 ot N pd m wr wm ss lz rm f k 10 (by omega) (by omega) (fun x h1 h2 => by rw [hli_3 x (by omega) (by omega)]; exact hvr x (by omega) (by omega))) ml_M_86 im_M_countIn se_M_countIn ini_M cd_M_countIn hd_M_countIn rfl (by rw [hRm]; exact ⟨⟨Nat.le_of_ble_eq_true rfl, Nat.le_of_ble_eq_true rfl⟩, Nat.le_of_ble_eq_true rfl, Nat.le_of_ble_eq_true rfl⟩) hl.1 [0, 1, 2, 3, 4, 5, 6, 7, 8, 9] [] ⟨rfl, rfl, by decide, by decide, by decide⟩ 0 rfl rfl rfl (Nat.le_of_ble_eq_true rfl) d_M_add_29 (fun z_29 u_29 H locs hz_29 w => ?_)
      obtain ⟨rfl, rfl⟩ := hz_29
      have w : Wd X (mw cI q0 q1 q2 q3 q4 q5 q6 q7 q8 q9 nw pt rcd sl sv li_3 ot N pd m wr wm ss lz rm) H locs := w
      refine r_istore (pc := 32) (lv' := [(4, .int (iI (cn li_3 10 f (f + k)))), (0, .ref q0), (1, .int (iI f)), (2, .int (iI k)), (3, .int (iI y))]) C d_M_add_32 hl (by decide) rfl (fun ls hl => ?_)
      have hcg := cn_congr (v := li_3) (u := v) (s := 10) (f := f) (e := f + k) (by omega) (by omega) (fun x h1 h2 => hli_3 x h1 (by omega))
      refine r_iload_n (pc := 34) C d_M_add_34 rfl (lv_at hl 2 rfl) ?_
      refine r_istore (pc := 35) (lv' := [(5, .int (iI f)), (4, .int (iI (cn li_3 10 f (f + k)))), (0, .ref q0), (1, .int (iI f)), (2, .int (iI k)), (3, .int (iI y))]) C d_M_add_35 hl (by decide) rfl (fun ls hl => ?_)
      have L37 : ∀ (fuel : Nat), ∀ (i : Int) (l1 : Int → Int), f ≤ i ∧ i ≤ f + k → (∀ x, 0 ≤ x → x < i → l1 x = edt f (f + k) 1 y v x) → (∀ x, i ≤ x → x < N → l1 x = v x) → (f + k - i) < (fuel : Int) → ∀ (H : Heap) (locs : List Loc) (ls : Array Slot), Wd X (mw cI q0 q1 q2 q3 q4 q5 q6 q7 q8 q9 nw pt rcd sl sv l1 ot N pd m wr wm ss lz rm) H locs → lv_has ls 6 [(0, .ref q0), (1, .int (iI f)), (2, .int (iI k)), (3, .int (iI y)), (4, .int (iI (cn li_3 10 f (f + k)))), (5, .int (iI i))] → GG X 0 0 H locs 37 ls [] := by
        intro fuel
        induction fuel with
        | zero =>
          intro i l1 h0 ha hb hfuel
          exact absurd hfuel (by omega)
        | succ fuel ih37 =>
          intro i l1 h0 ha hb hfuel H locs ls w hl
          refine r_iload (pc := 37) C d_M_add_37 (lv_at hl 5 rfl) ?_
          refine r_iload_n (pc := 39) C d_M_add_39 rfl (lv_at hl 1 rfl) ?_
          refine r_iload_n (pc := 40) C d_M_add_40 rfl (lv_at hl 2 rfl) ?_
          refine r_iadd (pc := 41) C d_M_add_41 ?_
          refine r_icmp_ge (pc := 42) (tgt := 87) C (by omega) d_M_add_42 (by decide) (fun c_42 => ?_) (fun c_42 => ?_)
          · skip
            have hag := edt_done (by omega : i = f + k) ha hb
            refine r_aload_n (pc := 87) C d_M_add_87 rfl (lv_at hl 0 rfl) ?_
            refine r_iload_n (pc := 88) C d_M_add_88 rfl (lv_at hl 2 rfl) ?_
            refine r_iload (pc := 89) C d_M_add_89 (lv_at hl 4 rfl) ?_
            refine r_isub (pc := 91) C d_M_add_91 ?_
            refine r_callVI (pc := 92) (As := [.int (iI (k - (cn li_3 10 f (f + k))))]) (rest := []) (wr := []) C w (c_M_ends hT q0 q1 q2 q3 q4 q5 q6 q7 q8 q9 nw pt rcd sl sv l1 ot N pd m wr wm ss lz rm (k - (cn li_3 10 f (f + k))) (by omega) (fun x h1 h2 => by rw [hag x h1 h2]; unfold edt; split; exact sa_range (hvr x h1 h2) (by omega); exact hvr x h1 h2) (by omega)) ml_M_79 im_M_ends se_M_ends ini_M cd_M_ends hd_M_ends rfl (by rw [hRm]; exact ⟨⟨Nat.le_of_ble_eq_true rfl, Nat.le_of_ble_eq_true rfl⟩, Nat.le_of_ble_eq_true rfl, Nat.le_of_ble_eq_true rfl⟩) hl.1 [0, 1, 2, 3, 4, 5, 6, 7, 8, 9] [] ⟨rfl, rfl, by decide, by decide, by decide⟩ 0 rfl rfl rfl (Nat.le_of_ble_eq_true rfl) d_M_add_92 (fun z_92 u_92 H locs hz_92 w => ?_)
            exact kret _ _ _ _ z_92 _ d_M_add_95 w (m_fin hS (by unfold errWr; (repeat' split) <;> omega) (by omega) (by omega) hag (by rw [edc_live (by omega) (by omega) (by omega) hvr (Or.inl ⟨rfl, by omega, by omega⟩), hcg]) hR hM hC hz_92)
          · skip
            have hli1 := hb i (by omega) (by omega)
            have hvi := hvr i (by omega) (by omega)
            have hsa := sa_cases 1 (v i) y
            refine r_aload_n (pc := 45) C d_M_add_45 rfl (lv_at hl 0 rfl) ?_
            refine r_get (pc := 46) (v := .ref q4) C w i_M rfl 0 rfl 5 (by decide) fl_M_19 rfl rfl d_M_add_46 ?_
            refine r_iload (pc := 49) C d_M_add_49 (lv_at hl 5 rfl) ?_
            refine r_aload_n (pc := 51) C d_M_add_51 rfl (lv_at hl 0 rfl) ?_
            refine r_get (pc := 52) (v := .ref q4) C w i_M rfl 0 rfl 5 (by decide) fl_M_19 rfl rfl d_M_add_52 ?_
            refine r_iload (pc := 55) C d_M_add_55 (lv_at hl 5 rfl) ?_
            refine r_iald (pc := 57) (f := l1) (i := i) C w 0 4 rfl hT.1 (by omega) d_M_add_57 ?_
            refine r_bipush (pc := 58) C d_M_add_58 (by decide) ?_
            refine r_icmp_ne (pc := 60) (tgt := 68) C (by omega) d_M_add_60 (by decide) (fun c_60 => ?_) (fun c_60 => ?_)
            · skip
              refine r_aload_n (pc := 68) C d_M_add_68 rfl (lv_at hl 0 rfl) ?_
              refine r_get (pc := 69) (v := .ref q4) C w i_M rfl 0 rfl 5 (by decide) fl_M_19 rfl rfl d_M_add_69 ?_
              refine r_iload (pc := 72) C d_M_add_72 (lv_at hl 5 rfl) ?_
              refine r_iald (pc := 74) (f := l1) (i := i) C w 0 4 rfl hT.1 (by omega) d_M_add_74 ?_
              refine r_iload_n (pc := 75) C d_M_add_75 rfl (lv_at hl 3 rfl) ?_
              refine r_iadd (pc := 76) C d_M_add_76 ?_
              refine r_bipush (pc := 77) C d_M_add_77 (by decide) ?_
              refine r_irem (pc := 79) C d_M_add_79 (by omega) ?_
              refine r_iast (pc := 80) (f := l1) (i := i) (v := (((l1 i) + y) % 10)) (ws' := mw cI q0 q1 q2 q3 q4 q5 q6 q7 q8 q9 nw pt rcd sl sv (up l1 i (((l1 i) + y) % 10)) ot N pd m wr wm ss lz rm) C w 0 4 rfl hT.1 (by omega) rfl d_M_add_80 (fun H locs w => ?_)
              refine r_iinc (pc := 81) (j := 5) (lv' := [(5, .int (iI (i + 1))), (0, .ref q0), (1, .int (iI f)), (2, .int (iI k)), (3, .int (iI y)), (4, .int (iI (cn li_3 10 f (f + k))))]) C d_M_add_81 hl rfl (by decide) rfl (fun ls hl => ?_)
              refine r_goto (pc := 84) (tgt := 37) C d_M_add_84 (by decide) ?_
              exact ih37 (i + 1) (up l1 i (((l1 i) + y) % 10)) (by omega) ((edt_step ⟨by omega, by omega⟩ ha hb (by omega)).1) ((edt_step ⟨by omega, by omega⟩ ha hb (by omega)).2) (by omega) _ _ _ w (lv_sub hl [1, 2, 3, 4, 5, 0] rfl)
            · skip
              refine r_bipush (pc := 63) C d_M_add_63 (by decide) ?_
              refine r_goto (pc := 65) (tgt := 80) C d_M_add_65 (by decide) ?_
              refine r_iast (pc := 80) (f := l1) (i := i) (v := 10) (ws' := mw cI q0 q1 q2 q3 q4 q5 q6 q7 q8 q9 nw pt rcd sl sv (up l1 i 10) ot N pd m wr wm ss lz rm) C w 0 4 rfl hT.1 (by omega) rfl d_M_add_80 (fun H locs w => ?_)
              refine r_iinc (pc := 81) (j := 5) (lv' := [(5, .int (iI (i + 1))), (0, .ref q0), (1, .int (iI f)), (2, .int (iI k)), (3, .int (iI y)), (4, .int (iI (cn li_3 10 f (f + k))))]) C d_M_add_81 hl rfl (by decide) rfl (fun ls hl => ?_)
              refine r_goto (pc := 84) (tgt := 37) C d_M_add_84 (by decide) ?_
              exact ih37 (i + 1) (up l1 i 10) (by omega) ((edt_step ⟨by omega, by omega⟩ ha hb (by omega)).1) ((edt_step ⟨by omega, by omega⟩ ha hb (by omega)).2) (by omega) _ _ _ w (lv_sub hl [1, 2, 3, 4, 5, 0] rfl)
      exact L37 ((f + k - f) + 1 : Int).toNat f li_3 (by first | omega | rfl) ((fun x h1 h2 => by rw [hli_3 x h1 (by omega)]; unfold edt; rw [if_neg (by omega)])) ((fun x h1 h2 => hli_3 x (by omega) h2)) (by omega) _ _ _ w (lv_sub hl [2, 3, 4, 5, 1, 0] rfl)
    · skip
      have hb_18 : ¬ (1 ≤ y ∧ y ≤ 9) := by omega
      clear hz_15 c_18
      refine r_bipush (pc := 21) C d_M_add_21 (by decide) ?_
      exact kret _ _ _ _ (-2) _ d_M_add_23 w (by obtain ⟨g1, rfl⟩ := SpE_err hS (-2) (by unfold errWr; (repeat' split) <;> omega) (by omega); exact ⟨g1, ⟨hR, q1, q2, q3, q4, q5, q6, q7, q8, q9, nw, pt, sl, sv, _, _, _, pd, wr, wm, ss, lz, rm, rfl, hM, hC⟩⟩)
  · skip
    have hb_6 : ¬ (0 ≤ f ∧ 1 ≤ k ∧ k ≤ N - f) := by omega
    clear hz_3 c_6
    refine r_iconst (pc := 9) C d_M_add_9 ?_
    exact kret _ _ _ _ (-1) _ d_M_add_10 w (by obtain ⟨g1, rfl⟩ := SpE_err hS (-1) (by unfold errWr; (repeat' split) <;> omega) (by omega); exact ⟨g1, ⟨hR, q1, q2, q3, q4, q5, q6, q7, q8, q9, nw, pt, sl, sv, _, _, _, pd, wr, wm, ss, lz, rm, rfl, hM, hC⟩⟩)
theorem d_M_kill_0 : decode b_M_kill 0 = .ok (.aload_n 0, 1) := by decide +kernel
theorem d_M_kill_1 : decode b_M_kill 1 = .ok (.iload_n 1, 1) := by decide +kernel
theorem d_M_kill_2 : decode b_M_kill 2 = .ok (.iload_n 2, 1) := by decide +kernel
theorem d_M_kill_3 : decode b_M_kill 3 = .ok (.invokevirtual 82, 3) := by decide +kernel
theorem d_M_kill_6 : decode b_M_kill 6 = .ok (.ifCond .ne 5, 3) := by decide +kernel
theorem d_M_kill_9 : decode b_M_kill 9 = .ok (.iconst (-1), 1) := by decide +kernel
theorem d_M_kill_10 : decode b_M_kill 10 = .ok (.ireturn, 1) := by decide +kernel
theorem d_M_kill_11 : decode b_M_kill 11 = .ok (.aload_n 0, 1) := by decide +kernel
theorem d_M_kill_12 : decode b_M_kill 12 = .ok (.iload_n 1, 1) := by decide +kernel
theorem d_M_kill_13 : decode b_M_kill 13 = .ok (.iload_n 2, 1) := by decide +kernel
theorem d_M_kill_14 : decode b_M_kill 14 = .ok (.bipush 10, 2) := by decide +kernel
theorem d_M_kill_16 : decode b_M_kill 16 = .ok (.invokevirtual 86, 3) := by decide +kernel
theorem d_M_kill_19 : decode b_M_kill 19 = .ok (.istore_n 3, 1) := by decide +kernel
theorem d_M_kill_20 : decode b_M_kill 20 = .ok (.iload_n 1, 1) := by decide +kernel
theorem d_M_kill_21 : decode b_M_kill 21 = .ok (.istore 4, 2) := by decide +kernel
theorem d_M_kill_23 : decode b_M_kill 23 = .ok (.iload 4, 2) := by decide +kernel
theorem d_M_kill_25 : decode b_M_kill 25 = .ok (.iload_n 1, 1) := by decide +kernel
theorem d_M_kill_26 : decode b_M_kill 26 = .ok (.iload_n 2, 1) := by decide +kernel
theorem d_M_kill_27 : decode b_M_kill 27 = .ok (.iadd, 1) := by decide +kernel
theorem d_M_kill_28 : decode b_M_kill 28 = .ok (.if_icmp .ge 18, 3) := by decide +kernel
theorem d_M_kill_31 : decode b_M_kill 31 = .ok (.aload_n 0, 1) := by decide +kernel
theorem d_M_kill_32 : decode b_M_kill 32 = .ok (.getfield 19, 3) := by decide +kernel
theorem d_M_kill_35 : decode b_M_kill 35 = .ok (.iload 4, 2) := by decide +kernel
theorem d_M_kill_37 : decode b_M_kill 37 = .ok (.bipush 10, 2) := by decide +kernel
theorem d_M_kill_39 : decode b_M_kill 39 = .ok (.iastore, 1) := by decide +kernel
theorem d_M_kill_40 : decode b_M_kill 40 = .ok (.iinc 4 1, 3) := by decide +kernel
theorem d_M_kill_43 : decode b_M_kill 43 = .ok (.goto (-20), 3) := by decide +kernel
theorem d_M_kill_46 : decode b_M_kill 46 = .ok (.aload_n 0, 1) := by decide +kernel
theorem d_M_kill_47 : decode b_M_kill 47 = .ok (.iload_n 2, 1) := by decide +kernel
theorem d_M_kill_48 : decode b_M_kill 48 = .ok (.iload_n 3, 1) := by decide +kernel
theorem d_M_kill_49 : decode b_M_kill 49 = .ok (.isub, 1) := by decide +kernel
theorem d_M_kill_50 : decode b_M_kill 50 = .ok (.invokevirtual 79, 3) := by decide +kernel
theorem d_M_kill_53 : decode b_M_kill 53 = .ok (.ireturn, 1) := by decide +kernel
set_option maxHeartbeats 4000000 in
set_option maxRecDepth 20000 in
theorem c_M_kill {l : Launch} {G : va_G} {tys : List (ClassId × FieldType)} {cI cO cZ : ClassId} (hT : TY tys cI cO cZ) (q0 : Nat) (A A' : AS) (z : Int) (ws : va_W) (hA : MW cI q0 A ws) (f k : Int) (hrg : (-2147483648 ≤ f ∧ f < 2147483648) ∧ (-2147483648 ≤ k ∧ k < 2147483648)) (hS : Sp_kill f k A z A') : CTI l G tys y_M_kill b_M_kill 5 .int 4 88 [.ref q0, .int (iI f), .int (iI k)] ws (fun z' u => z' = z ∧ MW cI q0 A' u) := by
  obtain ⟨⟨lc, sd, r, sg, ln, N, v⟩, hist, rcd, slot, uf, T, m⟩ := A
  obtain ⟨hR, q1, q2, q3, q4, q5, q6, q7, q8, q9, nw, pt, sl, sv, li, ot, len, pd, wr, wm, ss, lz, rm, rfl, hM, hC⟩ := hA
  have hO := hR.1
  have hr5 := hR.2.1
  have hN3 := hR.2.2.1
  have hN0 := hO.n0
  have hr0 := hO.1
  have hlcd := hR.2.2.2
  have hm80 := hC.2.2.2.2.1
  have hrcd6 := hC.1
  have hvr := hO.v_rg
  have hm0 : nw 0 = lc := hM.1
  have hm1 : nw 1 = sd := hM.2.1
  have hm2 : nw 2 = r := hM.2.2.1
  have hS : SpE ((lc, sd, r, sg, ln, N, v), hist, rcd, slot, uf, T, m) z A' (pieceE N f k) (lc) (sd) (N) (edt f (f + k) 2 10 v) (ps (edc f (f + k) 2 10 v) N) := hS
  refine mkI (by decide) (Nat.le_of_ble_eq_true rfl) ?_
  rintro X rfl rfl rfl hRm C kret H ls w hl
  have hl : lv_has ls 5 [(0, .ref q0), (1, .int (iI f)), (2, .int (iI k))] := hl
  have w : Wd X (mw cI q0 q1 q2 q3 q4 q5 q6 q7 q8 q9 nw pt rcd sl sv li ot len pd m wr wm ss lz rm) H [] := w
  generalize ([] : List Loc) = locs at w ⊢
  refine r_aload_n (pc := 0) C d_M_kill_0 rfl (lv_at hl 0 rfl) ?_
  refine r_iload_n (pc := 1) C d_M_kill_1 rfl (lv_at hl 1 rfl) ?_
  refine r_iload_n (pc := 2) C d_M_kill_2 rfl (lv_at hl 2 rfl) ?_
  refine r_callVI (pc := 3) (As := [.int (iI f), .int (iI k)]) (rest := []) (wr := []) C w (c_M_hasPiece hT q0 q1 q2 q3 q4 q5 q6 q7 q8 q9 nw pt rcd sl sv li ot len pd m wr wm ss lz rm f k _ _ _ _ _ _ _ hR hM (by omega)) ml_M_82 im_M_hasPiece se_M_hasPiece ini_M cd_M_hasPiece hd_M_hasPiece rfl (by rw [hRm]; exact ⟨⟨Nat.le_of_ble_eq_true rfl, Nat.le_of_ble_eq_true rfl⟩, Nat.le_of_ble_eq_true rfl, Nat.le_of_ble_eq_true rfl⟩) hl.1 [0, 1, 2, 3, 4, 5, 6, 7, 8, 9] [] ⟨rfl, rfl, by decide, by decide, by decide⟩ 0 rfl rfl rfl (Nat.le_of_ble_eq_true rfl) d_M_kill_3 (fun z_3 u_3 H locs hz_3 w => ?_)
  obtain ⟨li_3, rfl, hli_3, hz_3⟩ := hz_3
  have w : Wd X (mw cI q0 q1 q2 q3 q4 q5 q6 q7 q8 q9 nw pt rcd sl sv li_3 ot N pd m wr wm ss lz rm) H locs := w
  refine r_if_ne (pc := 6) (tgt := 11) C (by omega) d_M_kill_6 (by decide) (fun c_6 => ?_) (fun c_6 => ?_)
  · skip
    have hb_6 : 0 ≤ f ∧ 1 ≤ k ∧ k ≤ N - f := by omega
    clear hz_3 c_6
    refine r_aload_n (pc := 11) C d_M_kill_11 rfl (lv_at hl 0 rfl) ?_
    refine r_iload_n (pc := 12) C d_M_kill_12 rfl (lv_at hl 1 rfl) ?_
    refine r_iload_n (pc := 13) C d_M_kill_13 rfl (lv_at hl 2 rfl) ?_
    refine r_bipush (pc := 14) C d_M_kill_14 (by decide) ?_
    refine r_callVI (pc := 16) (As := [.int (iI f), .int (iI k), .int (iI 10)]) (rest := []) (wr := []) C w (c_M_countIn hT q0 q1 q2 q3 q4 q5 q6 q7 q8 q9 nw pt rcd sl sv li_3 ot N pd m wr wm ss lz rm f k 10 (by omega) (by omega) (fun x h1 h2 => by rw [hli_3 x (by omega) (by omega)]; exact hvr x (by omega) (by omega))) ml_M_86 im_M_countIn se_M_countIn ini_M cd_M_countIn hd_M_countIn rfl (by rw [hRm]; exact ⟨⟨Nat.le_of_ble_eq_true rfl, Nat.le_of_ble_eq_true rfl⟩, Nat.le_of_ble_eq_true rfl, Nat.le_of_ble_eq_true rfl⟩) hl.1 [0, 1, 2, 3, 4, 5, 6, 7, 8, 9] [] ⟨rfl, rfl, by decide, by decide, by decide⟩ 0 rfl rfl rfl (Nat.le_of_ble_eq_true rfl) d_M_kill_16 (fun z_16 u_16 H locs hz_16 w => ?_)
    obtain ⟨rfl, rfl⟩ := hz_16
    have w : Wd X (mw cI q0 q1 q2 q3 q4 q5 q6 q7 q8 q9 nw pt rcd sl sv li_3 ot N pd m wr wm ss lz rm) H locs := w
    refine r_istore_n (pc := 19) (lv' := [(3, .int (iI (cn li_3 10 f (f + k)))), (0, .ref q0), (1, .int (iI f)), (2, .int (iI k))]) C d_M_kill_19 rfl hl (by decide) rfl (fun ls hl => ?_)
    have hcg := cn_congr (v := li_3) (u := v) (s := 10) (f := f) (e := f + k) (by omega) (by omega) (fun x h1 h2 => hli_3 x h1 (by omega))
    refine r_iload_n (pc := 20) C d_M_kill_20 rfl (lv_at hl 2 rfl) ?_
    refine r_istore (pc := 21) (lv' := [(4, .int (iI f)), (3, .int (iI (cn li_3 10 f (f + k)))), (0, .ref q0), (1, .int (iI f)), (2, .int (iI k))]) C d_M_kill_21 hl (by decide) rfl (fun ls hl => ?_)
    have L23 : ∀ (fuel : Nat), ∀ (i : Int) (l1 : Int → Int), f ≤ i ∧ i ≤ f + k → (∀ x, 0 ≤ x → x < i → l1 x = edt f (f + k) 2 10 v x) → (∀ x, i ≤ x → x < N → l1 x = v x) → (f + k - i) < (fuel : Int) → ∀ (H : Heap) (locs : List Loc) (ls : Array Slot), Wd X (mw cI q0 q1 q2 q3 q4 q5 q6 q7 q8 q9 nw pt rcd sl sv l1 ot N pd m wr wm ss lz rm) H locs → lv_has ls 5 [(0, .ref q0), (1, .int (iI f)), (2, .int (iI k)), (3, .int (iI (cn li_3 10 f (f + k)))), (4, .int (iI i))] → GG X 0 0 H locs 23 ls [] := by
      intro fuel
      induction fuel with
      | zero =>
        intro i l1 h0 ha hb hfuel
        exact absurd hfuel (by omega)
      | succ fuel ih23 =>
        intro i l1 h0 ha hb hfuel H locs ls w hl
        refine r_iload (pc := 23) C d_M_kill_23 (lv_at hl 4 rfl) ?_
        refine r_iload_n (pc := 25) C d_M_kill_25 rfl (lv_at hl 1 rfl) ?_
        refine r_iload_n (pc := 26) C d_M_kill_26 rfl (lv_at hl 2 rfl) ?_
        refine r_iadd (pc := 27) C d_M_kill_27 ?_
        refine r_icmp_ge (pc := 28) (tgt := 46) C (by omega) d_M_kill_28 (by decide) (fun c_28 => ?_) (fun c_28 => ?_)
        · skip
          have hag := edt_done (by omega : i = f + k) ha hb
          refine r_aload_n (pc := 46) C d_M_kill_46 rfl (lv_at hl 0 rfl) ?_
          refine r_iload_n (pc := 47) C d_M_kill_47 rfl (lv_at hl 2 rfl) ?_
          refine r_iload_n (pc := 48) C d_M_kill_48 rfl (lv_at hl 3 rfl) ?_
          refine r_isub (pc := 49) C d_M_kill_49 ?_
          refine r_callVI (pc := 50) (As := [.int (iI (k - (cn li_3 10 f (f + k))))]) (rest := []) (wr := []) C w (c_M_ends hT q0 q1 q2 q3 q4 q5 q6 q7 q8 q9 nw pt rcd sl sv l1 ot N pd m wr wm ss lz rm (k - (cn li_3 10 f (f + k))) (by omega) (fun x h1 h2 => by rw [hag x h1 h2]; unfold edt; split; exact sa_range (hvr x h1 h2) (by omega); exact hvr x h1 h2) (by omega)) ml_M_79 im_M_ends se_M_ends ini_M cd_M_ends hd_M_ends rfl (by rw [hRm]; exact ⟨⟨Nat.le_of_ble_eq_true rfl, Nat.le_of_ble_eq_true rfl⟩, Nat.le_of_ble_eq_true rfl, Nat.le_of_ble_eq_true rfl⟩) hl.1 [0, 1, 2, 3, 4, 5, 6, 7, 8, 9] [] ⟨rfl, rfl, by decide, by decide, by decide⟩ 0 rfl rfl rfl (Nat.le_of_ble_eq_true rfl) d_M_kill_50 (fun z_50 u_50 H locs hz_50 w => ?_)
          exact kret _ _ _ _ z_50 _ d_M_kill_53 w (m_fin hS (by unfold pieceE; (repeat' split) <;> omega) (by omega) (by omega) hag (by rw [edc_live (by omega) (by omega) (by omega) hvr (Or.inr rfl), hcg]) hR hM hC hz_50)
        · skip
          have hli1 := hb i (by omega) (by omega)
          have hvi := hvr i (by omega) (by omega)
          have hsa := sa_cases 2 (v i) 10
          refine r_aload_n (pc := 31) C d_M_kill_31 rfl (lv_at hl 0 rfl) ?_
          refine r_get (pc := 32) (v := .ref q4) C w i_M rfl 0 rfl 5 (by decide) fl_M_19 rfl rfl d_M_kill_32 ?_
          refine r_iload (pc := 35) C d_M_kill_35 (lv_at hl 4 rfl) ?_
          refine r_bipush (pc := 37) C d_M_kill_37 (by decide) ?_
          refine r_iast (pc := 39) (f := l1) (i := i) (v := 10) (ws' := mw cI q0 q1 q2 q3 q4 q5 q6 q7 q8 q9 nw pt rcd sl sv (up l1 i 10) ot N pd m wr wm ss lz rm) C w 0 4 rfl hT.1 (by omega) rfl d_M_kill_39 (fun H locs w => ?_)
          refine r_iinc (pc := 40) (j := 4) (lv' := [(4, .int (iI (i + 1))), (0, .ref q0), (1, .int (iI f)), (2, .int (iI k)), (3, .int (iI (cn li_3 10 f (f + k))))]) C d_M_kill_40 hl rfl (by decide) rfl (fun ls hl => ?_)
          refine r_goto (pc := 43) (tgt := 23) C d_M_kill_43 (by decide) ?_
          exact ih23 (i + 1) (up l1 i 10) (by omega) ((edt_step ⟨by omega, by omega⟩ ha hb (by omega)).1) ((edt_step ⟨by omega, by omega⟩ ha hb (by omega)).2) (by omega) _ _ _ w (lv_sub hl [1, 2, 3, 4, 0] rfl)
    exact L23 ((f + k - f) + 1 : Int).toNat f li_3 (by first | omega | rfl) ((fun x h1 h2 => by rw [hli_3 x h1 (by omega)]; unfold edt; rw [if_neg (by omega)])) ((fun x h1 h2 => hli_3 x (by omega) h2)) (by omega) _ _ _ w (lv_sub hl [2, 3, 4, 1, 0] rfl)
  · skip
    have hb_6 : ¬ (0 ≤ f ∧ 1 ≤ k ∧ k ≤ N - f) := by omega
    clear hz_3 c_6
    refine r_iconst (pc := 9) C d_M_kill_9 ?_
    exact kret _ _ _ _ (-1) _ d_M_kill_10 w (by obtain ⟨g1, rfl⟩ := SpE_err hS (-1) (by unfold pieceE; (repeat' split) <;> omega) (by omega); exact ⟨g1, ⟨hR, q1, q2, q3, q4, q5, q6, q7, q8, q9, nw, pt, sl, sv, _, _, _, pd, wr, wm, ss, lz, rm, rfl, hM, hC⟩⟩)
theorem d_M_revive_0 : decode b_M_revive 0 = .ok (.aload_n 0, 1) := by decide +kernel
theorem d_M_revive_1 : decode b_M_revive 1 = .ok (.iload_n 1, 1) := by decide +kernel
theorem d_M_revive_2 : decode b_M_revive 2 = .ok (.iload_n 2, 1) := by decide +kernel
theorem d_M_revive_3 : decode b_M_revive 3 = .ok (.invokevirtual 82, 3) := by decide +kernel
theorem d_M_revive_6 : decode b_M_revive 6 = .ok (.ifCond .ne 5, 3) := by decide +kernel
theorem d_M_revive_9 : decode b_M_revive 9 = .ok (.iconst (-1), 1) := by decide +kernel
theorem d_M_revive_10 : decode b_M_revive 10 = .ok (.ireturn, 1) := by decide +kernel
theorem d_M_revive_11 : decode b_M_revive 11 = .ok (.aload_n 0, 1) := by decide +kernel
theorem d_M_revive_12 : decode b_M_revive 12 = .ok (.iload_n 1, 1) := by decide +kernel
theorem d_M_revive_13 : decode b_M_revive 13 = .ok (.iload_n 2, 1) := by decide +kernel
theorem d_M_revive_14 : decode b_M_revive 14 = .ok (.bipush 10, 2) := by decide +kernel
theorem d_M_revive_16 : decode b_M_revive 16 = .ok (.invokevirtual 86, 3) := by decide +kernel
theorem d_M_revive_19 : decode b_M_revive 19 = .ok (.istore_n 3, 1) := by decide +kernel
theorem d_M_revive_20 : decode b_M_revive 20 = .ok (.iload_n 1, 1) := by decide +kernel
theorem d_M_revive_21 : decode b_M_revive 21 = .ok (.istore 4, 2) := by decide +kernel
theorem d_M_revive_23 : decode b_M_revive 23 = .ok (.iload 4, 2) := by decide +kernel
theorem d_M_revive_25 : decode b_M_revive 25 = .ok (.iload_n 1, 1) := by decide +kernel
theorem d_M_revive_26 : decode b_M_revive 26 = .ok (.iload_n 2, 1) := by decide +kernel
theorem d_M_revive_27 : decode b_M_revive 27 = .ok (.iadd, 1) := by decide +kernel
theorem d_M_revive_28 : decode b_M_revive 28 = .ok (.if_icmp .ge 39, 3) := by decide +kernel
theorem d_M_revive_31 : decode b_M_revive 31 = .ok (.aload_n 0, 1) := by decide +kernel
theorem d_M_revive_32 : decode b_M_revive 32 = .ok (.getfield 19, 3) := by decide +kernel
theorem d_M_revive_35 : decode b_M_revive 35 = .ok (.iload 4, 2) := by decide +kernel
theorem d_M_revive_37 : decode b_M_revive 37 = .ok (.aload_n 0, 1) := by decide +kernel
theorem d_M_revive_38 : decode b_M_revive 38 = .ok (.getfield 19, 3) := by decide +kernel
theorem d_M_revive_41 : decode b_M_revive 41 = .ok (.iload 4, 2) := by decide +kernel
theorem d_M_revive_43 : decode b_M_revive 43 = .ok (.iaload, 1) := by decide +kernel
theorem d_M_revive_44 : decode b_M_revive 44 = .ok (.bipush 10, 2) := by decide +kernel
theorem d_M_revive_46 : decode b_M_revive 46 = .ok (.if_icmp .ne 7, 3) := by decide +kernel
theorem d_M_revive_49 : decode b_M_revive 49 = .ok (.iconst 0, 1) := by decide +kernel
theorem d_M_revive_50 : decode b_M_revive 50 = .ok (.goto 10, 3) := by decide +kernel
theorem d_M_revive_53 : decode b_M_revive 53 = .ok (.aload_n 0, 1) := by decide +kernel
theorem d_M_revive_54 : decode b_M_revive 54 = .ok (.getfield 19, 3) := by decide +kernel
theorem d_M_revive_57 : decode b_M_revive 57 = .ok (.iload 4, 2) := by decide +kernel
theorem d_M_revive_59 : decode b_M_revive 59 = .ok (.iaload, 1) := by decide +kernel
theorem d_M_revive_60 : decode b_M_revive 60 = .ok (.iastore, 1) := by decide +kernel
theorem d_M_revive_61 : decode b_M_revive 61 = .ok (.iinc 4 1, 3) := by decide +kernel
theorem d_M_revive_64 : decode b_M_revive 64 = .ok (.goto (-41), 3) := by decide +kernel
theorem d_M_revive_67 : decode b_M_revive 67 = .ok (.aload_n 0, 1) := by decide +kernel
theorem d_M_revive_68 : decode b_M_revive 68 = .ok (.iload_n 3, 1) := by decide +kernel
theorem d_M_revive_69 : decode b_M_revive 69 = .ok (.invokevirtual 79, 3) := by decide +kernel
theorem d_M_revive_72 : decode b_M_revive 72 = .ok (.ireturn, 1) := by decide +kernel
set_option maxHeartbeats 4000000 in
set_option maxRecDepth 20000 in
theorem c_M_revive {l : Launch} {G : va_G} {tys : List (ClassId × FieldType)} {cI cO cZ : ClassId} (hT : TY tys cI cO cZ) (q0 : Nat) (A A' : AS) (z : Int) (ws : va_W) (hA : MW cI q0 A ws) (f k : Int) (hrg : (-2147483648 ≤ f ∧ f < 2147483648) ∧ (-2147483648 ≤ k ∧ k < 2147483648)) (hS : Sp_revive f k A z A') : CTI l G tys y_M_revive b_M_revive 5 .int 4 88 [.ref q0, .int (iI f), .int (iI k)] ws (fun z' u => z' = z ∧ MW cI q0 A' u) := by
  obtain ⟨⟨lc, sd, r, sg, ln, N, v⟩, hist, rcd, slot, uf, T, m⟩ := A
  obtain ⟨hR, q1, q2, q3, q4, q5, q6, q7, q8, q9, nw, pt, sl, sv, li, ot, len, pd, wr, wm, ss, lz, rm, rfl, hM, hC⟩ := hA
  have hO := hR.1
  have hr5 := hR.2.1
  have hN3 := hR.2.2.1
  have hN0 := hO.n0
  have hr0 := hO.1
  have hlcd := hR.2.2.2
  have hm80 := hC.2.2.2.2.1
  have hrcd6 := hC.1
  have hvr := hO.v_rg
  have hm0 : nw 0 = lc := hM.1
  have hm1 : nw 1 = sd := hM.2.1
  have hm2 : nw 2 = r := hM.2.2.1
  have hS : SpE ((lc, sd, r, sg, ln, N, v), hist, rcd, slot, uf, T, m) z A' (pieceE N f k) (lc) (sd) (N) (edt f (f + k) 3 0 v) (ps (edc f (f + k) 3 0 v) N) := hS
  refine mkI (by decide) (Nat.le_of_ble_eq_true rfl) ?_
  rintro X rfl rfl rfl hRm C kret H ls w hl
  have hl : lv_has ls 5 [(0, .ref q0), (1, .int (iI f)), (2, .int (iI k))] := hl
  have w : Wd X (mw cI q0 q1 q2 q3 q4 q5 q6 q7 q8 q9 nw pt rcd sl sv li ot len pd m wr wm ss lz rm) H [] := w
  generalize ([] : List Loc) = locs at w ⊢
  refine r_aload_n (pc := 0) C d_M_revive_0 rfl (lv_at hl 0 rfl) ?_
  refine r_iload_n (pc := 1) C d_M_revive_1 rfl (lv_at hl 1 rfl) ?_
  refine r_iload_n (pc := 2) C d_M_revive_2 rfl (lv_at hl 2 rfl) ?_
  refine r_callVI (pc := 3) (As := [.int (iI f), .int (iI k)]) (rest := []) (wr := []) C w (c_M_hasPiece hT q0 q1 q2 q3 q4 q5 q6 q7 q8 q9 nw pt rcd sl sv li ot len pd m wr wm ss lz rm f k _ _ _ _ _ _ _ hR hM (by omega)) ml_M_82 im_M_hasPiece se_M_hasPiece ini_M cd_M_hasPiece hd_M_hasPiece rfl (by rw [hRm]; exact ⟨⟨Nat.le_of_ble_eq_true rfl, Nat.le_of_ble_eq_true rfl⟩, Nat.le_of_ble_eq_true rfl, Nat.le_of_ble_eq_true rfl⟩) hl.1 [0, 1, 2, 3, 4, 5, 6, 7, 8, 9] [] ⟨rfl, rfl, by decide, by decide, by decide⟩ 0 rfl rfl rfl (Nat.le_of_ble_eq_true rfl) d_M_revive_3 (fun z_3 u_3 H locs hz_3 w => ?_)
  obtain ⟨li_3, rfl, hli_3, hz_3⟩ := hz_3
  have w : Wd X (mw cI q0 q1 q2 q3 q4 q5 q6 q7 q8 q9 nw pt rcd sl sv li_3 ot N pd m wr wm ss lz rm) H locs := w
  refine r_if_ne (pc := 6) (tgt := 11) C (by omega) d_M_revive_6 (by decide) (fun c_6 => ?_) (fun c_6 => ?_)
  · skip
    have hb_6 : 0 ≤ f ∧ 1 ≤ k ∧ k ≤ N - f := by omega
    clear hz_3 c_6
    refine r_aload_n (pc := 11) C d_M_revive_11 rfl (lv_at hl 0 rfl) ?_
    refine r_iload_n (pc := 12) C d_M_revive_12 rfl (lv_at hl 1 rfl) ?_
    refine r_iload_n (pc := 13) C d_M_revive_13 rfl (lv_at hl 2 rfl) ?_
    refine r_bipush (pc := 14) C d_M_revive_14 (by decide) ?_
    refine r_callVI (pc := 16) (As := [.int (iI f), .int (iI k), .int (iI 10)]) (rest := []) (wr := []) C w (c_M_countIn hT q0 q1 q2 q3 q4 q5 q6 q7 q8 q9 nw pt rcd sl sv li_3 ot N pd m wr wm ss lz rm f k 10 (by omega) (by omega) (fun x h1 h2 => by rw [hli_3 x (by omega) (by omega)]; exact hvr x (by omega) (by omega))) ml_M_86 im_M_countIn se_M_countIn ini_M cd_M_countIn hd_M_countIn rfl (by rw [hRm]; exact ⟨⟨Nat.le_of_ble_eq_true rfl, Nat.le_of_ble_eq_true rfl⟩, Nat.le_of_ble_eq_true rfl, Nat.le_of_ble_eq_true rfl⟩) hl.1 [0, 1, 2, 3, 4, 5, 6, 7, 8, 9] [] ⟨rfl, rfl, by decide, by decide, by decide⟩ 0 rfl rfl rfl (Nat.le_of_ble_eq_true rfl) d_M_revive_16 (fun z_16 u_16 H locs hz_16 w => ?_)
    obtain ⟨rfl, rfl⟩ := hz_16
    have w : Wd X (mw cI q0 q1 q2 q3 q4 q5 q6 q7 q8 q9 nw pt rcd sl sv li_3 ot N pd m wr wm ss lz rm) H locs := w
    refine r_istore_n (pc := 19) (lv' := [(3, .int (iI (cn li_3 10 f (f + k)))), (0, .ref q0), (1, .int (iI f)), (2, .int (iI k))]) C d_M_revive_19 rfl hl (by decide) rfl (fun ls hl => ?_)
    have hcg := cn_congr (v := li_3) (u := v) (s := 10) (f := f) (e := f + k) (by omega) (by omega) (fun x h1 h2 => hli_3 x h1 (by omega))
    refine r_iload_n (pc := 20) C d_M_revive_20 rfl (lv_at hl 2 rfl) ?_
    refine r_istore (pc := 21) (lv' := [(4, .int (iI f)), (3, .int (iI (cn li_3 10 f (f + k)))), (0, .ref q0), (1, .int (iI f)), (2, .int (iI k))]) C d_M_revive_21 hl (by decide) rfl (fun ls hl => ?_)
    have L23 : ∀ (fuel : Nat), ∀ (i : Int) (l1 : Int → Int), f ≤ i ∧ i ≤ f + k → (∀ x, 0 ≤ x → x < i → l1 x = edt f (f + k) 3 0 v x) → (∀ x, i ≤ x → x < N → l1 x = v x) → (f + k - i) < (fuel : Int) → ∀ (H : Heap) (locs : List Loc) (ls : Array Slot), Wd X (mw cI q0 q1 q2 q3 q4 q5 q6 q7 q8 q9 nw pt rcd sl sv l1 ot N pd m wr wm ss lz rm) H locs → lv_has ls 5 [(0, .ref q0), (1, .int (iI f)), (2, .int (iI k)), (3, .int (iI (cn li_3 10 f (f + k)))), (4, .int (iI i))] → GG X 0 0 H locs 23 ls [] := by
      intro fuel
      induction fuel with
      | zero =>
        intro i l1 h0 ha hb hfuel
        exact absurd hfuel (by omega)
      | succ fuel ih23 =>
        intro i l1 h0 ha hb hfuel H locs ls w hl
        refine r_iload (pc := 23) C d_M_revive_23 (lv_at hl 4 rfl) ?_
        refine r_iload_n (pc := 25) C d_M_revive_25 rfl (lv_at hl 1 rfl) ?_
        refine r_iload_n (pc := 26) C d_M_revive_26 rfl (lv_at hl 2 rfl) ?_
        refine r_iadd (pc := 27) C d_M_revive_27 ?_
        refine r_icmp_ge (pc := 28) (tgt := 67) C (by omega) d_M_revive_28 (by decide) (fun c_28 => ?_) (fun c_28 => ?_)
        · skip
          have hag := edt_done (by omega : i = f + k) ha hb
          refine r_aload_n (pc := 67) C d_M_revive_67 rfl (lv_at hl 0 rfl) ?_
          refine r_iload_n (pc := 68) C d_M_revive_68 rfl (lv_at hl 3 rfl) ?_
          refine r_callVI (pc := 69) (As := [.int (iI (cn li_3 10 f (f + k)))]) (rest := []) (wr := []) C w (c_M_ends hT q0 q1 q2 q3 q4 q5 q6 q7 q8 q9 nw pt rcd sl sv l1 ot N pd m wr wm ss lz rm (cn li_3 10 f (f + k)) (by omega) (fun x h1 h2 => by rw [hag x h1 h2]; unfold edt; split; exact sa_range (hvr x h1 h2) (by omega); exact hvr x h1 h2) (by omega)) ml_M_79 im_M_ends se_M_ends ini_M cd_M_ends hd_M_ends rfl (by rw [hRm]; exact ⟨⟨Nat.le_of_ble_eq_true rfl, Nat.le_of_ble_eq_true rfl⟩, Nat.le_of_ble_eq_true rfl, Nat.le_of_ble_eq_true rfl⟩) hl.1 [0, 1, 2, 3, 4, 5, 6, 7, 8, 9] [] ⟨rfl, rfl, by decide, by decide, by decide⟩ 0 rfl rfl rfl (Nat.le_of_ble_eq_true rfl) d_M_revive_69 (fun z_69 u_69 H locs hz_69 w => ?_)
          exact kret _ _ _ _ z_69 _ d_M_revive_72 w (m_fin hS (by unfold pieceE; (repeat' split) <;> omega) (by omega) (by omega) hag (by rw [edc_dead (by omega) (by omega) (by omega) rfl, hcg]) hR hM hC hz_69)
        · skip
          have hli1 := hb i (by omega) (by omega)
          have hvi := hvr i (by omega) (by omega)
          have hsa := sa_cases 3 (v i) 0
          refine r_aload_n (pc := 31) C d_M_revive_31 rfl (lv_at hl 0 rfl) ?_
          refine r_get (pc := 32) (v := .ref q4) C w i_M rfl 0 rfl 5 (by decide) fl_M_19 rfl rfl d_M_revive_32 ?_
          refine r_iload (pc := 35) C d_M_revive_35 (lv_at hl 4 rfl) ?_
          refine r_aload_n (pc := 37) C d_M_revive_37 rfl (lv_at hl 0 rfl) ?_
          refine r_get (pc := 38) (v := .ref q4) C w i_M rfl 0 rfl 5 (by decide) fl_M_19 rfl rfl d_M_revive_38 ?_
          refine r_iload (pc := 41) C d_M_revive_41 (lv_at hl 4 rfl) ?_
          refine r_iald (pc := 43) (f := l1) (i := i) C w 0 4 rfl hT.1 (by omega) d_M_revive_43 ?_
          refine r_bipush (pc := 44) C d_M_revive_44 (by decide) ?_
          refine r_icmp_ne (pc := 46) (tgt := 53) C (by omega) d_M_revive_46 (by decide) (fun c_46 => ?_) (fun c_46 => ?_)
          · skip
            refine r_aload_n (pc := 53) C d_M_revive_53 rfl (lv_at hl 0 rfl) ?_
            refine r_get (pc := 54) (v := .ref q4) C w i_M rfl 0 rfl 5 (by decide) fl_M_19 rfl rfl d_M_revive_54 ?_
            refine r_iload (pc := 57) C d_M_revive_57 (lv_at hl 4 rfl) ?_
            refine r_iald (pc := 59) (f := l1) (i := i) C w 0 4 rfl hT.1 (by omega) d_M_revive_59 ?_
            refine r_iast (pc := 60) (f := l1) (i := i) (v := (l1 i)) (ws' := mw cI q0 q1 q2 q3 q4 q5 q6 q7 q8 q9 nw pt rcd sl sv (up l1 i (l1 i)) ot N pd m wr wm ss lz rm) C w 0 4 rfl hT.1 (by omega) rfl d_M_revive_60 (fun H locs w => ?_)
            refine r_iinc (pc := 61) (j := 4) (lv' := [(4, .int (iI (i + 1))), (0, .ref q0), (1, .int (iI f)), (2, .int (iI k)), (3, .int (iI (cn li_3 10 f (f + k))))]) C d_M_revive_61 hl rfl (by decide) rfl (fun ls hl => ?_)
            refine r_goto (pc := 64) (tgt := 23) C d_M_revive_64 (by decide) ?_
            exact ih23 (i + 1) (up l1 i (l1 i)) (by omega) ((edt_step ⟨by omega, by omega⟩ ha hb (by omega)).1) ((edt_step ⟨by omega, by omega⟩ ha hb (by omega)).2) (by omega) _ _ _ w (lv_sub hl [1, 2, 3, 4, 0] rfl)
          · skip
            refine r_iconst (pc := 49) C d_M_revive_49 ?_
            refine r_goto (pc := 50) (tgt := 60) C d_M_revive_50 (by decide) ?_
            refine r_iast (pc := 60) (f := l1) (i := i) (v := 0) (ws' := mw cI q0 q1 q2 q3 q4 q5 q6 q7 q8 q9 nw pt rcd sl sv (up l1 i 0) ot N pd m wr wm ss lz rm) C w 0 4 rfl hT.1 (by omega) rfl d_M_revive_60 (fun H locs w => ?_)
            refine r_iinc (pc := 61) (j := 4) (lv' := [(4, .int (iI (i + 1))), (0, .ref q0), (1, .int (iI f)), (2, .int (iI k)), (3, .int (iI (cn li_3 10 f (f + k))))]) C d_M_revive_61 hl rfl (by decide) rfl (fun ls hl => ?_)
            refine r_goto (pc := 64) (tgt := 23) C d_M_revive_64 (by decide) ?_
            exact ih23 (i + 1) (up l1 i 0) (by omega) ((edt_step ⟨by omega, by omega⟩ ha hb (by omega)).1) ((edt_step ⟨by omega, by omega⟩ ha hb (by omega)).2) (by omega) _ _ _ w (lv_sub hl [1, 2, 3, 4, 0] rfl)
    exact L23 ((f + k - f) + 1 : Int).toNat f li_3 (by first | omega | rfl) ((fun x h1 h2 => by rw [hli_3 x h1 (by omega)]; unfold edt; rw [if_neg (by omega)])) ((fun x h1 h2 => hli_3 x (by omega) h2)) (by omega) _ _ _ w (lv_sub hl [2, 3, 4, 1, 0] rfl)
  · skip
    have hb_6 : ¬ (0 ≤ f ∧ 1 ≤ k ∧ k ≤ N - f) := by omega
    clear hz_3 c_6
    refine r_iconst (pc := 9) C d_M_revive_9 ?_
    exact kret _ _ _ _ (-1) _ d_M_revive_10 w (by obtain ⟨g1, rfl⟩ := SpE_err hS (-1) (by unfold pieceE; (repeat' split) <;> omega) (by omega); exact ⟨g1, ⟨hR, q1, q2, q3, q4, q5, q6, q7, q8, q9, nw, pt, sl, sv, _, _, _, pd, wr, wm, ss, lz, rm, rfl, hM, hC⟩⟩)
theorem tv_rg {u v : Int → Int} {ol e n : Int} {B : Int} : ∀ d, 0 ≤ d → d ≤ e → (∀ x, 0 ≤ x → x < e → 0 ≤ u x ∧ u x ≤ B) → ∀ x, n ≤ x → x < tn ol u e n d → 0 ≤ tv ol u e n v d x ∧ tv ol u e n v d x ≤ B := by
  refine int_ind (fun _ _ x h1 h2 => by rw [tn_zero] at h2; omega) (fun d hd ih hde hu x h1 h2 => ?_)
  rw [tn_succ ol u e n hd] at h2
  rw [tv_succ ol u e n v hd]
  by_cases q : ol = 0 ∨ u (e - 1 - d) ≠ 10
  · rw [if_pos q] at h2 ⊢
    by_cases q2 : x < tn ol u e n d
    · rw [app_lt q2]; exact ih (by omega) hu x h1 q2
    · rw [app_ge (by omega)]; exact hu _ (by omega) (by omega)
  · rw [if_neg q] at h2 ⊢
    exact ih (by omega) hu x h1 (by omega)
theorem trn_rg {l2 v : Int → Int} {sd r N f e : Int} {sg ln : Int → Int} (hag : ∀ x, 0 ≤ x → x < N → l2 x = trn sd v f e x) (hO : Ok r sg ln N v) (hsd : sd = 0 ∨ sd = 1) (hf : 0 ≤ f ∧ f ≤ e ∧ e ≤ N) : ∀ x, 0 ≤ x → x < N → 0 ≤ l2 x ∧ l2 x ≤ 10 := by
  intro x h1 h2
  have hvr := hO.v_rg
  rw [hag x h1 h2]
  unfold trn
  by_cases q : f ≤ x ∧ x < e
  · rw [if_pos q]
    by_cases q1 : sd = 1
    · rw [if_pos q1]
      by_cases q2 : v x = 10
      · rw [if_pos q2]; omega
      · rw [if_neg q2]
        have hlp : ps (lv_ v) (x + 1) = ps (lv_ v) x + lv_ v x := ps_succ _ (by omega)
        have a3 : lv_ v x = 1 := by unfold lv_; rw [if_neg q2]
        have hle1 := lv_le (u := v) (a := f) (b := x) (by omega) (by omega)
        have hle2 := lv_le (u := v) (a := x + 1) (b := e) (by omega) (by omega)
        have htl := tn_live v e (e - f) (by omega) (by omega)
        rw [show e - (e - f) = f by omega] at htl
        exact tv_rg (e - f) (by omega) (by omega) (fun y y1 y2 => hvr y y1 (by omega)) _ (by omega) (by omega)
    · rw [if_neg q1]; exact hvr _ (by omega) (by omega)
  · rw [if_neg q]; exact hvr x h1 h2
theorem d_M_turn_0 : decode b_M_turn 0 = .ok (.aload_n 0, 1) := by decide +kernel
theorem d_M_turn_1 : decode b_M_turn 1 = .ok (.iload_n 1, 1) := by decide +kernel
theorem d_M_turn_2 : decode b_M_turn 2 = .ok (.iload_n 2, 1) := by decide +kernel
theorem d_M_turn_3 : decode b_M_turn 3 = .ok (.invokevirtual 82, 3) := by decide +kernel
theorem d_M_turn_6 : decode b_M_turn 6 = .ok (.ifCond .ne 5, 3) := by decide +kernel
theorem d_M_turn_9 : decode b_M_turn 9 = .ok (.iconst (-1), 1) := by decide +kernel
theorem d_M_turn_10 : decode b_M_turn 10 = .ok (.ireturn, 1) := by decide +kernel
theorem d_M_turn_11 : decode b_M_turn 11 = .ok (.iconst 0, 1) := by decide +kernel
theorem d_M_turn_12 : decode b_M_turn 12 = .ok (.istore_n 3, 1) := by decide +kernel
theorem d_M_turn_13 : decode b_M_turn 13 = .ok (.iload_n 1, 1) := by decide +kernel
theorem d_M_turn_14 : decode b_M_turn 14 = .ok (.iload_n 2, 1) := by decide +kernel
theorem d_M_turn_15 : decode b_M_turn 15 = .ok (.iadd, 1) := by decide +kernel
theorem d_M_turn_16 : decode b_M_turn 16 = .ok (.iconst 1, 1) := by decide +kernel
theorem d_M_turn_17 : decode b_M_turn 17 = .ok (.isub, 1) := by decide +kernel
theorem d_M_turn_18 : decode b_M_turn 18 = .ok (.istore 4, 2) := by decide +kernel
theorem d_M_turn_20 : decode b_M_turn 20 = .ok (.iload 4, 2) := by decide +kernel
theorem d_M_turn_22 : decode b_M_turn 22 = .ok (.iload_n 1, 1) := by decide +kernel
theorem d_M_turn_23 : decode b_M_turn 23 = .ok (.if_icmp .lt 46, 3) := by decide +kernel
theorem d_M_turn_26 : decode b_M_turn 26 = .ok (.aload_n 0, 1) := by decide +kernel
theorem d_M_turn_27 : decode b_M_turn 27 = .ok (.getfield 7, 3) := by decide +kernel
theorem d_M_turn_30 : decode b_M_turn 30 = .ok (.iconst 1, 1) := by decide +kernel
theorem d_M_turn_31 : decode b_M_turn 31 = .ok (.iaload, 1) := by decide +kernel
theorem d_M_turn_32 : decode b_M_turn 32 = .ok (.ifCond .eq 15, 3) := by decide +kernel
theorem d_M_turn_35 : decode b_M_turn 35 = .ok (.aload_n 0, 1) := by decide +kernel
theorem d_M_turn_36 : decode b_M_turn 36 = .ok (.getfield 19, 3) := by decide +kernel
theorem d_M_turn_39 : decode b_M_turn 39 = .ok (.iload 4, 2) := by decide +kernel
theorem d_M_turn_41 : decode b_M_turn 41 = .ok (.iaload, 1) := by decide +kernel
theorem d_M_turn_42 : decode b_M_turn 42 = .ok (.bipush 10, 2) := by decide +kernel
theorem d_M_turn_44 : decode b_M_turn 44 = .ok (.if_icmp .eq 19, 3) := by decide +kernel
theorem d_M_turn_47 : decode b_M_turn 47 = .ok (.aload_n 0, 1) := by decide +kernel
theorem d_M_turn_48 : decode b_M_turn 48 = .ok (.getfield 22, 3) := by decide +kernel
theorem d_M_turn_51 : decode b_M_turn 51 = .ok (.iload_n 3, 1) := by decide +kernel
theorem d_M_turn_52 : decode b_M_turn 52 = .ok (.aload_n 0, 1) := by decide +kernel
theorem d_M_turn_53 : decode b_M_turn 53 = .ok (.getfield 19, 3) := by decide +kernel
theorem d_M_turn_56 : decode b_M_turn 56 = .ok (.iload 4, 2) := by decide +kernel
theorem d_M_turn_58 : decode b_M_turn 58 = .ok (.iaload, 1) := by decide +kernel
theorem d_M_turn_59 : decode b_M_turn 59 = .ok (.iastore, 1) := by decide +kernel
theorem d_M_turn_60 : decode b_M_turn 60 = .ok (.iinc 3 1, 3) := by decide +kernel
theorem d_M_turn_63 : decode b_M_turn 63 = .ok (.iinc 4 (-1), 3) := by decide +kernel
theorem d_M_turn_66 : decode b_M_turn 66 = .ok (.goto (-46), 3) := by decide +kernel
theorem d_M_turn_69 : decode b_M_turn 69 = .ok (.iconst 0, 1) := by decide +kernel
theorem d_M_turn_70 : decode b_M_turn 70 = .ok (.istore_n 3, 1) := by decide +kernel
theorem d_M_turn_71 : decode b_M_turn 71 = .ok (.iload_n 1, 1) := by decide +kernel
theorem d_M_turn_72 : decode b_M_turn 72 = .ok (.istore 4, 2) := by decide +kernel
theorem d_M_turn_74 : decode b_M_turn 74 = .ok (.iload 4, 2) := by decide +kernel
theorem d_M_turn_76 : decode b_M_turn 76 = .ok (.iload_n 1, 1) := by decide +kernel
theorem d_M_turn_77 : decode b_M_turn 77 = .ok (.iload_n 2, 1) := by decide +kernel
theorem d_M_turn_78 : decode b_M_turn 78 = .ok (.iadd, 1) := by decide +kernel
theorem d_M_turn_79 : decode b_M_turn 79 = .ok (.if_icmp .ge 46, 3) := by decide +kernel
theorem d_M_turn_82 : decode b_M_turn 82 = .ok (.aload_n 0, 1) := by decide +kernel
theorem d_M_turn_83 : decode b_M_turn 83 = .ok (.getfield 7, 3) := by decide +kernel
theorem d_M_turn_86 : decode b_M_turn 86 = .ok (.iconst 1, 1) := by decide +kernel
theorem d_M_turn_87 : decode b_M_turn 87 = .ok (.iaload, 1) := by decide +kernel
theorem d_M_turn_88 : decode b_M_turn 88 = .ok (.ifCond .eq 15, 3) := by decide +kernel
theorem d_M_turn_91 : decode b_M_turn 91 = .ok (.aload_n 0, 1) := by decide +kernel
theorem d_M_turn_92 : decode b_M_turn 92 = .ok (.getfield 19, 3) := by decide +kernel
theorem d_M_turn_95 : decode b_M_turn 95 = .ok (.iload 4, 2) := by decide +kernel
theorem d_M_turn_97 : decode b_M_turn 97 = .ok (.iaload, 1) := by decide +kernel
theorem d_M_turn_98 : decode b_M_turn 98 = .ok (.bipush 10, 2) := by decide +kernel
theorem d_M_turn_100 : decode b_M_turn 100 = .ok (.if_icmp .eq 19, 3) := by decide +kernel
theorem d_M_turn_103 : decode b_M_turn 103 = .ok (.aload_n 0, 1) := by decide +kernel
theorem d_M_turn_104 : decode b_M_turn 104 = .ok (.getfield 19, 3) := by decide +kernel
theorem d_M_turn_107 : decode b_M_turn 107 = .ok (.iload 4, 2) := by decide +kernel
theorem d_M_turn_109 : decode b_M_turn 109 = .ok (.aload_n 0, 1) := by decide +kernel
theorem d_M_turn_110 : decode b_M_turn 110 = .ok (.getfield 22, 3) := by decide +kernel
theorem d_M_turn_113 : decode b_M_turn 113 = .ok (.iload_n 3, 1) := by decide +kernel
theorem d_M_turn_114 : decode b_M_turn 114 = .ok (.iaload, 1) := by decide +kernel
theorem d_M_turn_115 : decode b_M_turn 115 = .ok (.iastore, 1) := by decide +kernel
theorem d_M_turn_116 : decode b_M_turn 116 = .ok (.iinc 3 1, 3) := by decide +kernel
theorem d_M_turn_119 : decode b_M_turn 119 = .ok (.iinc 4 1, 3) := by decide +kernel
theorem d_M_turn_122 : decode b_M_turn 122 = .ok (.goto (-48), 3) := by decide +kernel
theorem d_M_turn_125 : decode b_M_turn 125 = .ok (.aload_n 0, 1) := by decide +kernel
theorem d_M_turn_126 : decode b_M_turn 126 = .ok (.aload_n 0, 1) := by decide +kernel
theorem d_M_turn_127 : decode b_M_turn 127 = .ok (.invokevirtual 58, 3) := by decide +kernel
theorem d_M_turn_130 : decode b_M_turn 130 = .ok (.invokevirtual 79, 3) := by decide +kernel
theorem d_M_turn_133 : decode b_M_turn 133 = .ok (.ireturn, 1) := by decide +kernel
set_option maxHeartbeats 4000000 in
set_option maxRecDepth 20000 in
theorem c_M_turn {l : Launch} {G : va_G} {tys : List (ClassId × FieldType)} {cI cO cZ : ClassId} (hT : TY tys cI cO cZ) (q0 : Nat) (A A' : AS) (z : Int) (ws : va_W) (hA : MW cI q0 A ws) (f k : Int) (hrg : (-2147483648 ≤ f ∧ f < 2147483648) ∧ (-2147483648 ≤ k ∧ k < 2147483648)) (hS : Sp_turn f k A z A') : CTI l G tys y_M_turn b_M_turn 5 .int 4 88 [.ref q0, .int (iI f), .int (iI k)] ws (fun z' u => z' = z ∧ MW cI q0 A' u) := by
  obtain ⟨⟨lc, sd, r, sg, ln, N, v⟩, hist, rcd, slot, uf, T, m⟩ := A
  obtain ⟨hR, q1, q2, q3, q4, q5, q6, q7, q8, q9, nw, pt, sl, sv, li, ot, len, pd, wr, wm, ss, lz, rm, rfl, hM, hC⟩ := hA
  have hO := hR.1
  have hr5 := hR.2.1
  have hN3 := hR.2.2.1
  have hN0 := hO.n0
  have hr0 := hO.1
  have hlcd := hR.2.2.2
  have hm80 := hC.2.2.2.2.1
  have hrcd6 := hC.1
  have hvr := hO.v_rg
  have hm0 : nw 0 = lc := hM.1
  have hm1 : nw 1 = sd := hM.2.1
  have hm2 : nw 2 = r := hM.2.2.1
  have hS : SpE ((lc, sd, r, sg, ln, N, v), hist, rcd, slot, uf, T, m) z A' (pieceE N f k) (lc) (sd) (N) (trn sd v f (f + k)) (rc (trn sd v f (f + k)) N) := hS
  refine mkI (by decide) (Nat.le_of_ble_eq_true rfl) ?_
  rintro X rfl rfl rfl hRm C kret H ls w hl
  have hl : lv_has ls 5 [(0, .ref q0), (1, .int (iI f)), (2, .int (iI k))] := hl
  have w : Wd X (mw cI q0 q1 q2 q3 q4 q5 q6 q7 q8 q9 nw pt rcd sl sv li ot len pd m wr wm ss lz rm) H [] := w
  generalize ([] : List Loc) = locs at w ⊢
  refine r_aload_n (pc := 0) C d_M_turn_0 rfl (lv_at hl 0 rfl) ?_
  refine r_iload_n (pc := 1) C d_M_turn_1 rfl (lv_at hl 1 rfl) ?_
  refine r_iload_n (pc := 2) C d_M_turn_2 rfl (lv_at hl 2 rfl) ?_
  refine r_callVI (pc := 3) (As := [.int (iI f), .int (iI k)]) (rest := []) (wr := []) C w (c_M_hasPiece hT q0 q1 q2 q3 q4 q5 q6 q7 q8 q9 nw pt rcd sl sv li ot len pd m wr wm ss lz rm f k _ _ _ _ _ _ _ hR hM (by omega)) ml_M_82 im_M_hasPiece se_M_hasPiece ini_M cd_M_hasPiece hd_M_hasPiece rfl (by rw [hRm]; exact ⟨⟨Nat.le_of_ble_eq_true rfl, Nat.le_of_ble_eq_true rfl⟩, Nat.le_of_ble_eq_true rfl, Nat.le_of_ble_eq_true rfl⟩) hl.1 [0, 1, 2, 3, 4, 5, 6, 7, 8, 9] [] ⟨rfl, rfl, by decide, by decide, by decide⟩ 0 rfl rfl rfl (Nat.le_of_ble_eq_true rfl) d_M_turn_3 (fun z_3 u_3 H locs hz_3 w => ?_)
  obtain ⟨li_3, rfl, hli_3, hz_3⟩ := hz_3
  have w : Wd X (mw cI q0 q1 q2 q3 q4 q5 q6 q7 q8 q9 nw pt rcd sl sv li_3 ot N pd m wr wm ss lz rm) H locs := w
  refine r_if_ne (pc := 6) (tgt := 11) C (by omega) d_M_turn_6 (by decide) (fun c_6 => ?_) (fun c_6 => ?_)
  · skip
    have hb_6 : 0 ≤ f ∧ 1 ≤ k ∧ k ≤ N - f := by omega
    clear hz_3 c_6
    refine r_iconst (pc := 11) C d_M_turn_11 ?_
    refine r_istore_n (pc := 12) (lv' := [(3, .int (iI 0)), (0, .ref q0), (1, .int (iI f)), (2, .int (iI k))]) C d_M_turn_12 rfl hl (by decide) rfl (fun ls hl => ?_)
    refine r_iload_n (pc := 13) C d_M_turn_13 rfl (lv_at hl 2 rfl) ?_
    refine r_iload_n (pc := 14) C d_M_turn_14 rfl (lv_at hl 3 rfl) ?_
    refine r_iadd (pc := 15) C d_M_turn_15 ?_
    refine r_iconst (pc := 16) C d_M_turn_16 ?_
    refine r_isub (pc := 17) C d_M_turn_17 ?_
    refine r_istore (pc := 18) (lv' := [(4, .int (iI ((f + k) - 1))), (3, .int (iI 0)), (0, .ref q0), (1, .int (iI f)), (2, .int (iI k))]) C d_M_turn_18 hl (by decide) rfl (fun ls hl => ?_)
    have L20 : ∀ (fuel : Nat), ∀ (i : Int) (n : Int) (o1 : Int → Int), f - 1 ≤ i ∧ i < f + k → n = tn sd v (f + k) 0 (f + k - 1 - i) → (∀ x, 0 ≤ x → x < n → o1 x = tv sd v (f + k) 0 v (f + k - 1 - i) x) → (i + 1 - f) < (fuel : Int) → ∀ (H : Heap) (locs : List Loc) (ls : Array Slot), Wd X (mw cI q0 q1 q2 q3 q4 q5 q6 q7 q8 q9 nw pt rcd sl sv li_3 o1 N pd m wr wm ss lz rm) H locs → lv_has ls 5 [(0, .ref q0), (1, .int (iI f)), (2, .int (iI k)), (3, .int (iI n)), (4, .int (iI i))] → GG X 0 0 H locs 20 ls [] := by
      intro fuel
      induction fuel with
      | zero =>
        intro i n o1 h0 hn ho hfuel
        exact absurd hfuel (by omega)
      | succ fuel ih20 =>
        intro i n o1 h0 hn ho hfuel H locs ls w hl
        refine r_iload (pc := 20) C d_M_turn_20 (lv_at hl 4 rfl) ?_
        refine r_iload_n (pc := 22) C d_M_turn_22 rfl (lv_at hl 1 rfl) ?_
        refine r_icmp_lt (pc := 23) (tgt := 69) C (by omega) d_M_turn_23 (by decide) (fun c_23 => ?_) (fun c_23 => ?_)
        · skip
          obtain ⟨NN_, hNN⟩ : ∃ q : Int, q = n := ⟨_, rfl⟩
          rw [show f + k - 1 - i = k by omega] at hn ho
          have hM0 : sd = 0 → NN_ = k := fun q => by rw [hNN, hn, q, (tv0_eq v v (f + k) 0 k (by omega)).1]; omega
          have hM1 : sd = 1 → NN_ = ps (lv_ v) (f + k) - ps (lv_ v) f := fun q => by rw [hNN, hn, q, tn_live v (f + k) k (by omega) (by omega), show f + k - k = f by omega]
          rw [← hNN] at ho
          clear hNN
          refine r_iconst (pc := 69) C d_M_turn_69 ?_
          refine r_istore_n (pc := 70) (lv' := [(3, .int (iI 0)), (0, .ref q0), (1, .int (iI f)), (2, .int (iI k)), (4, .int (iI i))]) C d_M_turn_70 rfl hl (by decide) rfl (fun ls hl => ?_)
          refine r_iload_n (pc := 71) C d_M_turn_71 rfl (lv_at hl 2 rfl) ?_
          refine r_istore (pc := 72) (lv' := [(4, .int (iI f)), (3, .int (iI 0)), (0, .ref q0), (1, .int (iI f)), (2, .int (iI k))]) C d_M_turn_72 hl (by decide) rfl (fun ls hl => ?_)
          have L74 : ∀ (fuel : Nat), ∀ (i : Int) (n : Int) (l2 : Int → Int), f ≤ i ∧ i ≤ f + k → (sd = 0 → n = i - f) → (sd = 1 → n = ps (lv_ v) i - ps (lv_ v) f) → (∀ x, 0 ≤ x → x < i → l2 x = trn sd v f (f + k) x) → (∀ x, i ≤ x → x < N → l2 x = v x) → (f + k - i) < (fuel : Int) → ∀ (H : Heap) (locs : List Loc) (ls : Array Slot), Wd X (mw cI q0 q1 q2 q3 q4 q5 q6 q7 q8 q9 nw pt rcd sl sv l2 o1 N pd m wr wm ss lz rm) H locs → lv_has ls 5 [(0, .ref q0), (1, .int (iI f)), (2, .int (iI k)), (3, .int (iI n)), (4, .int (iI i))] → GG X 0 0 H locs 74 ls [] := by
            intro fuel
            induction fuel with
            | zero =>
              intro i n l2 h2 hn0 hn1 ha hb hfuel
              exact absurd hfuel (by omega)
            | succ fuel ih74 =>
              intro i n l2 h2 hn0 hn1 ha hb hfuel H locs ls w hl
              refine r_iload (pc := 74) C d_M_turn_74 (lv_at hl 4 rfl) ?_
              refine r_iload_n (pc := 76) C d_M_turn_76 rfl (lv_at hl 1 rfl) ?_
              refine r_iload_n (pc := 77) C d_M_turn_77 rfl (lv_at hl 2 rfl) ?_
              refine r_iadd (pc := 78) C d_M_turn_78 ?_
              refine r_icmp_ge (pc := 79) (tgt := 125) C (by omega) d_M_turn_79 (by decide) (fun c_79 => ?_) (fun c_79 => ?_)
              · skip
                have hag : ∀ x, 0 ≤ x → x < N → l2 x = trn sd v f (f + k) x := fun x h1 h2 => by by_cases q : x < i; exact ha x h1 q; rw [hb x (by omega) h2]; unfold trn; rw [if_neg (by omega)]
                have hrcc := rc_congr (v := l2) (u := trn sd v f (f + k)) N (by omega) hag
                have hlr : ∀ x, 0 ≤ x → x < N → 0 ≤ l2 x ∧ l2 x ≤ 10 := trn_rg hag hO hlcd.2 ⟨by omega, by omega, by omega⟩
                refine r_aload_n (pc := 125) C d_M_turn_125 rfl (lv_at hl 0 rfl) ?_
                refine r_aload_n (pc := 126) C d_M_turn_126 rfl (lv_at hl 0 rfl) ?_
                refine r_callVI (pc := 127) (As := []) (rest := [.ref q0]) (wr := []) C w (c_M_runsOfLine hT q0 q1 q2 q3 q4 q5 q6 q7 q8 q9 nw pt rcd sl sv l2 o1 N pd m wr wm ss lz rm  (by omega) hlr) ml_M_58 im_M_runsOfLine se_M_runsOfLine ini_M cd_M_runsOfLine hd_M_runsOfLine rfl (by rw [hRm]; exact ⟨⟨Nat.le_of_ble_eq_true rfl, Nat.le_of_ble_eq_true rfl⟩, Nat.le_of_ble_eq_true rfl, Nat.le_of_ble_eq_true rfl⟩) hl.1 [0, 1, 2, 3, 4, 5, 6, 7, 8, 9] [] ⟨rfl, rfl, by decide, by decide, by decide⟩ 0 rfl rfl rfl (Nat.le_of_ble_eq_true rfl) d_M_turn_127 (fun z_127 u_127 H locs hz_127 w => ?_)
                obtain ⟨rfl, rfl⟩ := hz_127
                have w : Wd X (mw cI q0 q1 q2 q3 q4 q5 q6 q7 q8 q9 nw pt rcd sl sv l2 o1 N pd m wr wm ss lz rm) H locs := w
                have hrl_127 := rc_le l2 N (by omega)
                have hrn_127 := rc_nonneg l2 N (by omega)
                refine r_callVI (pc := 130) (As := [.int (iI (rc l2 N))]) (rest := []) (wr := []) C w (c_M_ends hT q0 q1 q2 q3 q4 q5 q6 q7 q8 q9 nw pt rcd sl sv l2 o1 N pd m wr wm ss lz rm (rc l2 N) (by omega) hlr (by omega)) ml_M_79 im_M_ends se_M_ends ini_M cd_M_ends hd_M_ends rfl (by rw [hRm]; exact ⟨⟨Nat.le_of_ble_eq_true rfl, Nat.le_of_ble_eq_true rfl⟩, Nat.le_of_ble_eq_true rfl, Nat.le_of_ble_eq_true rfl⟩) hl.1 [0, 1, 2, 3, 4, 5, 6, 7, 8, 9] [] ⟨rfl, rfl, by decide, by decide, by decide⟩ 0 rfl rfl rfl (Nat.le_of_ble_eq_true rfl) d_M_turn_130 (fun z_130 u_130 H locs hz_130 w => ?_)
                exact kret _ _ _ _ z_130 _ d_M_turn_133 w (m_fin hS (by unfold pieceE; (repeat' split) <;> omega) (by omega) (by omega) hag (hrcc) hR hM hC hz_130)
              · skip
                have hli1 := hb i (by omega) (by omega)
                have hvi := hvr i (by omega) (by omega)
                have hlp : ps (lv_ v) (i + 1) = ps (lv_ v) i + lv_ v i := ps_succ _ (by omega)
                have hlv : (v i = 10 ∧ lv_ v i = 0) ∨ (v i ≠ 10 ∧ lv_ v i = 1) := by { unfold lv_; by_cases q : v i = 10 <;> simp [q] }
                have hle1 := lv_le (u := v) (a := f) (b := i) (by omega) (by omega)
                have hle2 := lv_le (u := v) (a := i + 1) (b := f + k) (by omega) (by omega)
                refine r_aload_n (pc := 82) C d_M_turn_82 rfl (lv_at hl 0 rfl) ?_
                refine r_get (pc := 83) (v := .ref q1) C w i_M rfl 0 rfl 0 (by decide) fl_M_7 rfl rfl d_M_turn_83 ?_
                refine r_iconst (pc := 86) C d_M_turn_86 ?_
                refine r_iald (pc := 87) (f := nw) (i := 1) C w 0 1 rfl hT.1 (by omega) d_M_turn_87 ?_
                refine r_if_eq (pc := 88) (tgt := 103) C (by omega) d_M_turn_88 (by decide) (fun c_88 => ?_) (fun c_88 => ?_)
                · skip
                  have hnx : 0 ≤ n ∧ n < NN_ ∧ n < 3000 := by
                    rcases hlcd.2 with q | q
                    · have a1 := hn0 q
                      have a2 := hM0 q
                      omega
                    · have a1 := hn1 q
                      have a2 := hM1 q
                      have a3 : lv_ v i = 1 := by unfold lv_; rw [if_neg (by omega)]
                      omega
                  have hox : o1 n = trn sd v f (f + k) i := by
                    rw [ho n hnx.1 hnx.2.1]
                    unfold trn
                    rw [if_pos ⟨by omega, by omega⟩]
                    rcases hlcd.2 with q | q
                    · rw [if_neg (by omega), q, (tv0_eq v v (f + k) 0 k (by omega)).2 n (by have := hn0 q; omega), if_neg (by omega)]
                      congr 1
                      have := hn0 q
                      omega
                    · rw [if_pos q, if_neg (by omega), q, hn1 q, show f + k - f = k by omega]
                  refine r_aload_n (pc := 103) C d_M_turn_103 rfl (lv_at hl 0 rfl) ?_
                  refine r_get (pc := 104) (v := .ref q4) C w i_M rfl 0 rfl 5 (by decide) fl_M_19 rfl rfl d_M_turn_104 ?_
                  refine r_iload (pc := 107) C d_M_turn_107 (lv_at hl 4 rfl) ?_
                  refine r_aload_n (pc := 109) C d_M_turn_109 rfl (lv_at hl 0 rfl) ?_
                  refine r_get (pc := 110) (v := .ref q5) C w i_M rfl 0 rfl 6 (by decide) fl_M_22 rfl rfl d_M_turn_110 ?_
                  refine r_iload_n (pc := 113) C d_M_turn_113 rfl (lv_at hl 3 rfl) ?_
                  refine r_iald (pc := 114) (f := o1) (i := n) C w 0 5 rfl hT.1 (by omega) d_M_turn_114 ?_
                  refine r_iast (pc := 115) (f := l2) (i := i) (v := (o1 n)) (ws' := mw cI q0 q1 q2 q3 q4 q5 q6 q7 q8 q9 nw pt rcd sl sv (up l2 i (o1 n)) o1 N pd m wr wm ss lz rm) C w 0 4 rfl hT.1 (by omega) rfl d_M_turn_115 (fun H locs w => ?_)
                  refine r_iinc (pc := 116) (j := 3) (lv' := [(3, .int (iI (n + 1))), (0, .ref q0), (1, .int (iI f)), (2, .int (iI k)), (4, .int (iI i))]) C d_M_turn_116 hl rfl (by decide) rfl (fun ls hl => ?_)
                  refine r_iinc (pc := 119) (j := 4) (lv' := [(4, .int (iI (i + 1))), (3, .int (iI (n + 1))), (0, .ref q0), (1, .int (iI f)), (2, .int (iI k))]) C d_M_turn_119 hl rfl (by decide) rfl (fun ls hl => ?_)
                  refine r_goto (pc := 122) (tgt := 74) C d_M_turn_122 (by decide) ?_
                  exact ih74 (i + 1) (n + 1) (up l2 i (o1 n)) (by omega) ((fun q => by have := hn0 q; omega)) ((fun q => by have := hn1 q; omega)) ((fun x h1 h2 => if e : x = i then (by rw [e]; first | (rw [up_eq]; exact hox) | (rw [hli1]; unfold trn; rw [if_pos ⟨by omega, by omega⟩, if_pos (by omega), if_pos (by omega)]; omega)) else (by first | (rw [up_ne _ _ e]; exact ha x h1 (by omega)) | exact ha x h1 (by omega)))) ((fun x h1 h2 => by first | (rw [up_ne _ _ (by omega)]; exact hb x (by omega) h2) | exact hb x (by omega) h2)) (by omega) _ _ _ w (lv_sub hl [2, 3, 4, 1, 0] rfl)
                · skip
                  refine r_aload_n (pc := 91) C d_M_turn_91 rfl (lv_at hl 0 rfl) ?_
                  refine r_get (pc := 92) (v := .ref q4) C w i_M rfl 0 rfl 5 (by decide) fl_M_19 rfl rfl d_M_turn_92 ?_
                  refine r_iload (pc := 95) C d_M_turn_95 (lv_at hl 4 rfl) ?_
                  refine r_iald (pc := 97) (f := l2) (i := i) C w 0 4 rfl hT.1 (by omega) d_M_turn_97 ?_
                  refine r_bipush (pc := 98) C d_M_turn_98 (by decide) ?_
                  refine r_icmp_eq (pc := 100) (tgt := 119) C (by omega) d_M_turn_100 (by decide) (fun c_100 => ?_) (fun c_100 => ?_)
                  · skip
                    refine r_iinc (pc := 119) (j := 4) (lv' := [(4, .int (iI (i + 1))), (0, .ref q0), (1, .int (iI f)), (2, .int (iI k)), (3, .int (iI n))]) C d_M_turn_119 hl rfl (by decide) rfl (fun ls hl => ?_)
                    refine r_goto (pc := 122) (tgt := 74) C d_M_turn_122 (by decide) ?_
                    exact ih74 (i + 1) n l2 (by omega) ((fun q => by have := hn0 q; omega)) ((fun q => by have := hn1 q; omega)) ((fun x h1 h2 => if e : x = i then (by rw [e]; first | (rw [up_eq]; exact hox) | (rw [hli1]; unfold trn; rw [if_pos ⟨by omega, by omega⟩, if_pos (by omega), if_pos (by omega)]; omega)) else (by first | (rw [up_ne _ _ e]; exact ha x h1 (by omega)) | exact ha x h1 (by omega)))) ((fun x h1 h2 => by first | (rw [up_ne _ _ (by omega)]; exact hb x (by omega) h2) | exact hb x (by omega) h2)) (by omega) _ _ _ w (lv_sub hl [1, 2, 3, 4, 0] rfl)
                  · skip
                    have hnx : 0 ≤ n ∧ n < NN_ ∧ n < 3000 := by
                      rcases hlcd.2 with q | q
                      · have a1 := hn0 q
                        have a2 := hM0 q
                        omega
                      · have a1 := hn1 q
                        have a2 := hM1 q
                        have a3 : lv_ v i = 1 := by unfold lv_; rw [if_neg (by omega)]
                        omega
                    have hox : o1 n = trn sd v f (f + k) i := by
                      rw [ho n hnx.1 hnx.2.1]
                      unfold trn
                      rw [if_pos ⟨by omega, by omega⟩]
                      rcases hlcd.2 with q | q
                      · rw [if_neg (by omega), q, (tv0_eq v v (f + k) 0 k (by omega)).2 n (by have := hn0 q; omega), if_neg (by omega)]
                        congr 1
                        have := hn0 q
                        omega
                      · rw [if_pos q, if_neg (by omega), q, hn1 q, show f + k - f = k by omega]
                    refine r_aload_n (pc := 103) C d_M_turn_103 rfl (lv_at hl 0 rfl) ?_
                    refine r_get (pc := 104) (v := .ref q4) C w i_M rfl 0 rfl 5 (by decide) fl_M_19 rfl rfl d_M_turn_104 ?_
                    refine r_iload (pc := 107) C d_M_turn_107 (lv_at hl 4 rfl) ?_
                    refine r_aload_n (pc := 109) C d_M_turn_109 rfl (lv_at hl 0 rfl) ?_
                    refine r_get (pc := 110) (v := .ref q5) C w i_M rfl 0 rfl 6 (by decide) fl_M_22 rfl rfl d_M_turn_110 ?_
                    refine r_iload_n (pc := 113) C d_M_turn_113 rfl (lv_at hl 3 rfl) ?_
                    refine r_iald (pc := 114) (f := o1) (i := n) C w 0 5 rfl hT.1 (by omega) d_M_turn_114 ?_
                    refine r_iast (pc := 115) (f := l2) (i := i) (v := (o1 n)) (ws' := mw cI q0 q1 q2 q3 q4 q5 q6 q7 q8 q9 nw pt rcd sl sv (up l2 i (o1 n)) o1 N pd m wr wm ss lz rm) C w 0 4 rfl hT.1 (by omega) rfl d_M_turn_115 (fun H locs w => ?_)
                    refine r_iinc (pc := 116) (j := 3) (lv' := [(3, .int (iI (n + 1))), (0, .ref q0), (1, .int (iI f)), (2, .int (iI k)), (4, .int (iI i))]) C d_M_turn_116 hl rfl (by decide) rfl (fun ls hl => ?_)
                    refine r_iinc (pc := 119) (j := 4) (lv' := [(4, .int (iI (i + 1))), (3, .int (iI (n + 1))), (0, .ref q0), (1, .int (iI f)), (2, .int (iI k))]) C d_M_turn_119 hl rfl (by decide) rfl (fun ls hl => ?_)
                    refine r_goto (pc := 122) (tgt := 74) C d_M_turn_122 (by decide) ?_
                    exact ih74 (i + 1) (n + 1) (up l2 i (o1 n)) (by omega) ((fun q => by have := hn0 q; omega)) ((fun q => by have := hn1 q; omega)) ((fun x h1 h2 => if e : x = i then (by rw [e]; first | (rw [up_eq]; exact hox) | (rw [hli1]; unfold trn; rw [if_pos ⟨by omega, by omega⟩, if_pos (by omega), if_pos (by omega)]; omega)) else (by first | (rw [up_ne _ _ e]; exact ha x h1 (by omega)) | exact ha x h1 (by omega)))) ((fun x h1 h2 => by first | (rw [up_ne _ _ (by omega)]; exact hb x (by omega) h2) | exact hb x (by omega) h2)) (by omega) _ _ _ w (lv_sub hl [2, 3, 4, 1, 0] rfl)
          exact L74 ((f + k - f) + 1 : Int).toNat f 0 li_3 (by first | omega | rfl) ((fun _ => by omega)) ((fun _ => by omega)) ((fun x h1 h2 => by rw [hli_3 x h1 (by omega)]; unfold trn; rw [if_neg (by omega)])) ((fun x h1 h2 => hli_3 x (by omega) h2)) (by omega) _ _ _ w (lv_sub hl [2, 3, 4, 1, 0] rfl)
        · skip
          have hli1 := hli_3 i (by omega) (by omega)
          have hvi := hvr i (by omega) (by omega)
          have hd1 : f + k - 1 - (i + -1) = (f + k - 1 - i) + 1 := by omega
          have htn := tn_succ sd v (f + k) 0 (d := f + k - 1 - i) (by omega)
          have htv := tv_succ sd v (f + k) 0 v (d := f + k - 1 - i) (by omega)
          rw [show f + k - 1 - (f + k - 1 - i) = i by omega] at htn htv
          rw [← hn] at htn htv
          have htg := tn_ge sd v (f + k) 0 (f + k - 1 - i) (by omega)
          refine r_aload_n (pc := 26) C d_M_turn_26 rfl (lv_at hl 0 rfl) ?_
          refine r_get (pc := 27) (v := .ref q1) C w i_M rfl 0 rfl 0 (by decide) fl_M_7 rfl rfl d_M_turn_27 ?_
          refine r_iconst (pc := 30) C d_M_turn_30 ?_
          refine r_iald (pc := 31) (f := nw) (i := 1) C w 0 1 rfl hT.1 (by omega) d_M_turn_31 ?_
          refine r_if_eq (pc := 32) (tgt := 47) C (by omega) d_M_turn_32 (by decide) (fun c_32 => ?_) (fun c_32 => ?_)
          · skip
            refine r_aload_n (pc := 47) C d_M_turn_47 rfl (lv_at hl 0 rfl) ?_
            refine r_get (pc := 48) (v := .ref q5) C w i_M rfl 0 rfl 6 (by decide) fl_M_22 rfl rfl d_M_turn_48 ?_
            refine r_iload_n (pc := 51) C d_M_turn_51 rfl (lv_at hl 3 rfl) ?_
            refine r_aload_n (pc := 52) C d_M_turn_52 rfl (lv_at hl 0 rfl) ?_
            refine r_get (pc := 53) (v := .ref q4) C w i_M rfl 0 rfl 5 (by decide) fl_M_19 rfl rfl d_M_turn_53 ?_
            refine r_iload (pc := 56) C d_M_turn_56 (lv_at hl 4 rfl) ?_
            refine r_iald (pc := 58) (f := li_3) (i := i) C w 0 4 rfl hT.1 (by omega) d_M_turn_58 ?_
            refine r_iast (pc := 59) (f := o1) (i := n) (v := (li_3 i)) (ws' := mw cI q0 q1 q2 q3 q4 q5 q6 q7 q8 q9 nw pt rcd sl sv li_3 (up o1 n (li_3 i)) N pd m wr wm ss lz rm) C w 0 5 rfl hT.1 (by omega) rfl d_M_turn_59 (fun H locs w => ?_)
            refine r_iinc (pc := 60) (j := 3) (lv' := [(3, .int (iI (n + 1))), (0, .ref q0), (1, .int (iI f)), (2, .int (iI k)), (4, .int (iI i))]) C d_M_turn_60 hl rfl (by decide) rfl (fun ls hl => ?_)
            refine r_iinc (pc := 63) (j := 4) (lv' := [(4, .int (iI (i + (-1)))), (3, .int (iI (n + 1))), (0, .ref q0), (1, .int (iI f)), (2, .int (iI k))]) C d_M_turn_63 hl rfl (by decide) rfl (fun ls hl => ?_)
            refine r_goto (pc := 66) (tgt := 20) C d_M_turn_66 (by decide) ?_
            exact ih20 (i + (-1)) (n + 1) (up o1 n (li_3 i)) (by omega) ((by rw [hd1, htn]; first | (rw [if_pos (by omega)] <;> omega) | (rw [if_neg (by omega)] <;> omega))) ((fun x h1 h2 => by rw [hd1, htv]; first | (rw [if_pos (by omega)]; by_cases e : x = n; rw [e, up_eq, app_ge (by omega)]; exact hli1; rw [up_ne _ _ e, app_lt (by omega)]; exact ho x h1 (by omega)) | (rw [if_neg (by omega)]; exact ho x h1 h2))) (by omega) _ _ _ w (lv_sub hl [2, 3, 4, 1, 0] rfl)
          · skip
            refine r_aload_n (pc := 35) C d_M_turn_35 rfl (lv_at hl 0 rfl) ?_
            refine r_get (pc := 36) (v := .ref q4) C w i_M rfl 0 rfl 5 (by decide) fl_M_19 rfl rfl d_M_turn_36 ?_
            refine r_iload (pc := 39) C d_M_turn_39 (lv_at hl 4 rfl) ?_
            refine r_iald (pc := 41) (f := li_3) (i := i) C w 0 4 rfl hT.1 (by omega) d_M_turn_41 ?_
            refine r_bipush (pc := 42) C d_M_turn_42 (by decide) ?_
            refine r_icmp_eq (pc := 44) (tgt := 63) C (by omega) d_M_turn_44 (by decide) (fun c_44 => ?_) (fun c_44 => ?_)
            · skip
              refine r_iinc (pc := 63) (j := 4) (lv' := [(4, .int (iI (i + (-1)))), (0, .ref q0), (1, .int (iI f)), (2, .int (iI k)), (3, .int (iI n))]) C d_M_turn_63 hl rfl (by decide) rfl (fun ls hl => ?_)
              refine r_goto (pc := 66) (tgt := 20) C d_M_turn_66 (by decide) ?_
              exact ih20 (i + (-1)) n o1 (by omega) ((by rw [hd1, htn]; first | (rw [if_pos (by omega)] <;> omega) | (rw [if_neg (by omega)] <;> omega))) ((fun x h1 h2 => by rw [hd1, htv]; first | (rw [if_pos (by omega)]; by_cases e : x = n; rw [e, up_eq, app_ge (by omega)]; exact hli1; rw [up_ne _ _ e, app_lt (by omega)]; exact ho x h1 (by omega)) | (rw [if_neg (by omega)]; exact ho x h1 h2))) (by omega) _ _ _ w (lv_sub hl [1, 2, 3, 4, 0] rfl)
            · skip
              refine r_aload_n (pc := 47) C d_M_turn_47 rfl (lv_at hl 0 rfl) ?_
              refine r_get (pc := 48) (v := .ref q5) C w i_M rfl 0 rfl 6 (by decide) fl_M_22 rfl rfl d_M_turn_48 ?_
              refine r_iload_n (pc := 51) C d_M_turn_51 rfl (lv_at hl 3 rfl) ?_
              refine r_aload_n (pc := 52) C d_M_turn_52 rfl (lv_at hl 0 rfl) ?_
              refine r_get (pc := 53) (v := .ref q4) C w i_M rfl 0 rfl 5 (by decide) fl_M_19 rfl rfl d_M_turn_53 ?_
              refine r_iload (pc := 56) C d_M_turn_56 (lv_at hl 4 rfl) ?_
              refine r_iald (pc := 58) (f := li_3) (i := i) C w 0 4 rfl hT.1 (by omega) d_M_turn_58 ?_
              refine r_iast (pc := 59) (f := o1) (i := n) (v := (li_3 i)) (ws' := mw cI q0 q1 q2 q3 q4 q5 q6 q7 q8 q9 nw pt rcd sl sv li_3 (up o1 n (li_3 i)) N pd m wr wm ss lz rm) C w 0 5 rfl hT.1 (by omega) rfl d_M_turn_59 (fun H locs w => ?_)
              refine r_iinc (pc := 60) (j := 3) (lv' := [(3, .int (iI (n + 1))), (0, .ref q0), (1, .int (iI f)), (2, .int (iI k)), (4, .int (iI i))]) C d_M_turn_60 hl rfl (by decide) rfl (fun ls hl => ?_)
              refine r_iinc (pc := 63) (j := 4) (lv' := [(4, .int (iI (i + (-1)))), (3, .int (iI (n + 1))), (0, .ref q0), (1, .int (iI f)), (2, .int (iI k))]) C d_M_turn_63 hl rfl (by decide) rfl (fun ls hl => ?_)
              refine r_goto (pc := 66) (tgt := 20) C d_M_turn_66 (by decide) ?_
              exact ih20 (i + (-1)) (n + 1) (up o1 n (li_3 i)) (by omega) ((by rw [hd1, htn]; first | (rw [if_pos (by omega)] <;> omega) | (rw [if_neg (by omega)] <;> omega))) ((fun x h1 h2 => by rw [hd1, htv]; first | (rw [if_pos (by omega)]; by_cases e : x = n; rw [e, up_eq, app_ge (by omega)]; exact hli1; rw [up_ne _ _ e, app_lt (by omega)]; exact ho x h1 (by omega)) | (rw [if_neg (by omega)]; exact ho x h1 h2))) (by omega) _ _ _ w (lv_sub hl [2, 3, 4, 1, 0] rfl)
    exact L20 ((((f + k) - 1) + 1 - f) + 1 : Int).toNat ((f + k) - 1) 0 ot (by first | omega | rfl) ((by rw [show f + k - 1 - (f + k - 1) = 0 by omega]; rfl)) ((fun x h1 h2 => by omega)) (by omega) _ _ _ w (lv_sub hl [2, 3, 4, 1, 0] rfl)
  · skip
    have hb_6 : ¬ (0 ≤ f ∧ 1 ≤ k ∧ k ≤ N - f) := by omega
    clear hz_3 c_6
    refine r_iconst (pc := 9) C d_M_turn_9 ?_
    exact kret _ _ _ _ (-1) _ d_M_turn_10 w (by obtain ⟨g1, rfl⟩ := SpE_err hS (-1) (by unfold pieceE; (repeat' split) <;> omega) (by omega); exact ⟨g1, ⟨hR, q1, q2, q3, q4, q5, q6, q7, q8, q9, nw, pt, sl, sv, _, _, _, pd, wr, wm, ss, lz, rm, rfl, hM, hC⟩⟩)
theorem d_M_move_0 : decode b_M_move 0 = .ok (.aload_n 0, 1) := by decide +kernel
theorem d_M_move_1 : decode b_M_move 1 = .ok (.iload_n 1, 1) := by decide +kernel
theorem d_M_move_2 : decode b_M_move 2 = .ok (.iload_n 2, 1) := by decide +kernel
theorem d_M_move_3 : decode b_M_move 3 = .ok (.invokevirtual 82, 3) := by decide +kernel
theorem d_M_move_6 : decode b_M_move 6 = .ok (.ifCond .ne 5, 3) := by decide +kernel
theorem d_M_move_9 : decode b_M_move 9 = .ok (.iconst (-1), 1) := by decide +kernel
theorem d_M_move_10 : decode b_M_move 10 = .ok (.ireturn, 1) := by decide +kernel
theorem d_M_move_11 : decode b_M_move 11 = .ok (.iload_n 3, 1) := by decide +kernel
theorem d_M_move_12 : decode b_M_move 12 = .ok (.iconst 0, 1) := by decide +kernel
theorem d_M_move_13 : decode b_M_move 13 = .ok (.aload_n 0, 1) := by decide +kernel
theorem d_M_move_14 : decode b_M_move 14 = .ok (.getfield 52, 3) := by decide +kernel
theorem d_M_move_17 : decode b_M_move 17 = .ok (.iload_n 2, 1) := by decide +kernel
theorem d_M_move_18 : decode b_M_move 18 = .ok (.isub, 1) := by decide +kernel
theorem d_M_move_19 : decode b_M_move 19 = .ok (.invokestatic 75, 3) := by decide +kernel
theorem d_M_move_22 : decode b_M_move 22 = .ok (.ifCond .ne 6, 3) := by decide +kernel
theorem d_M_move_25 : decode b_M_move 25 = .ok (.bipush (-2), 2) := by decide +kernel
theorem d_M_move_27 : decode b_M_move 27 = .ok (.ireturn, 1) := by decide +kernel
theorem d_M_move_28 : decode b_M_move 28 = .ok (.iconst 0, 1) := by decide +kernel
theorem d_M_move_29 : decode b_M_move 29 = .ok (.istore 4, 2) := by decide +kernel
theorem d_M_move_31 : decode b_M_move 31 = .ok (.iconst 0, 1) := by decide +kernel
theorem d_M_move_32 : decode b_M_move 32 = .ok (.istore 5, 2) := by decide +kernel
theorem d_M_move_34 : decode b_M_move 34 = .ok (.iload 5, 2) := by decide +kernel
theorem d_M_move_36 : decode b_M_move 36 = .ok (.aload_n 0, 1) := by decide +kernel
theorem d_M_move_37 : decode b_M_move 37 = .ok (.getfield 52, 3) := by decide +kernel
theorem d_M_move_40 : decode b_M_move 40 = .ok (.if_icmp .ge 23, 3) := by decide +kernel
theorem d_M_move_43 : decode b_M_move 43 = .ok (.aload_n 0, 1) := by decide +kernel
theorem d_M_move_44 : decode b_M_move 44 = .ok (.getfield 22, 3) := by decide +kernel
theorem d_M_move_47 : decode b_M_move 47 = .ok (.iload 5, 2) := by decide +kernel
theorem d_M_move_49 : decode b_M_move 49 = .ok (.aload_n 0, 1) := by decide +kernel
theorem d_M_move_50 : decode b_M_move 50 = .ok (.getfield 19, 3) := by decide +kernel
theorem d_M_move_53 : decode b_M_move 53 = .ok (.iload 5, 2) := by decide +kernel
theorem d_M_move_55 : decode b_M_move 55 = .ok (.iaload, 1) := by decide +kernel
theorem d_M_move_56 : decode b_M_move 56 = .ok (.iastore, 1) := by decide +kernel
theorem d_M_move_57 : decode b_M_move 57 = .ok (.iinc 5 1, 3) := by decide +kernel
theorem d_M_move_60 : decode b_M_move 60 = .ok (.goto (-26), 3) := by decide +kernel
theorem d_M_move_63 : decode b_M_move 63 = .ok (.iconst 0, 1) := by decide +kernel
theorem d_M_move_64 : decode b_M_move 64 = .ok (.istore 5, 2) := by decide +kernel
theorem d_M_move_66 : decode b_M_move 66 = .ok (.iload 5, 2) := by decide +kernel
theorem d_M_move_68 : decode b_M_move 68 = .ok (.aload_n 0, 1) := by decide +kernel
theorem d_M_move_69 : decode b_M_move 69 = .ok (.getfield 52, 3) := by decide +kernel
theorem d_M_move_72 : decode b_M_move 72 = .ok (.if_icmp .ge 81, 3) := by decide +kernel
theorem d_M_move_75 : decode b_M_move 75 = .ok (.iload 5, 2) := by decide +kernel
theorem d_M_move_77 : decode b_M_move 77 = .ok (.iload_n 3, 1) := by decide +kernel
theorem d_M_move_78 : decode b_M_move 78 = .ok (.iload_n 3, 1) := by decide +kernel
theorem d_M_move_79 : decode b_M_move 79 = .ok (.iload_n 2, 1) := by decide +kernel
theorem d_M_move_80 : decode b_M_move 80 = .ok (.iadd, 1) := by decide +kernel
theorem d_M_move_81 : decode b_M_move 81 = .ok (.iconst 1, 1) := by decide +kernel
theorem d_M_move_82 : decode b_M_move 82 = .ok (.isub, 1) := by decide +kernel
theorem d_M_move_83 : decode b_M_move 83 = .ok (.invokestatic 75, 3) := by decide +kernel
theorem d_M_move_86 : decode b_M_move 86 = .ok (.istore 6, 2) := by decide +kernel
theorem d_M_move_88 : decode b_M_move 88 = .ok (.iload 6, 2) := by decide +kernel
theorem d_M_move_90 : decode b_M_move 90 = .ok (.ifCond .eq 24, 3) := by decide +kernel
theorem d_M_move_93 : decode b_M_move 93 = .ok (.aload_n 0, 1) := by decide +kernel
theorem d_M_move_94 : decode b_M_move 94 = .ok (.getfield 19, 3) := by decide +kernel
theorem d_M_move_97 : decode b_M_move 97 = .ok (.iload 5, 2) := by decide +kernel
theorem d_M_move_99 : decode b_M_move 99 = .ok (.aload_n 0, 1) := by decide +kernel
theorem d_M_move_100 : decode b_M_move 100 = .ok (.getfield 22, 3) := by decide +kernel
theorem d_M_move_103 : decode b_M_move 103 = .ok (.iload_n 1, 1) := by decide +kernel
theorem d_M_move_104 : decode b_M_move 104 = .ok (.iload 5, 2) := by decide +kernel
theorem d_M_move_106 : decode b_M_move 106 = .ok (.iadd, 1) := by decide +kernel
theorem d_M_move_107 : decode b_M_move 107 = .ok (.iload_n 3, 1) := by decide +kernel
theorem d_M_move_108 : decode b_M_move 108 = .ok (.isub, 1) := by decide +kernel
theorem d_M_move_109 : decode b_M_move 109 = .ok (.iaload, 1) := by decide +kernel
theorem d_M_move_110 : decode b_M_move 110 = .ok (.iastore, 1) := by decide +kernel
theorem d_M_move_111 : decode b_M_move 111 = .ok (.goto 36, 3) := by decide +kernel
theorem d_M_move_114 : decode b_M_move 114 = .ok (.iload 4, 2) := by decide +kernel
theorem d_M_move_116 : decode b_M_move 116 = .ok (.iload 4, 2) := by decide +kernel
theorem d_M_move_118 : decode b_M_move 118 = .ok (.iload_n 1, 1) := by decide +kernel
theorem d_M_move_119 : decode b_M_move 119 = .ok (.if_icmp .ne 7, 3) := by decide +kernel
theorem d_M_move_122 : decode b_M_move 122 = .ok (.iload_n 2, 1) := by decide +kernel
theorem d_M_move_123 : decode b_M_move 123 = .ok (.goto 4, 3) := by decide +kernel
theorem d_M_move_126 : decode b_M_move 126 = .ok (.iconst 0, 1) := by decide +kernel
theorem d_M_move_127 : decode b_M_move 127 = .ok (.iadd, 1) := by decide +kernel
theorem d_M_move_128 : decode b_M_move 128 = .ok (.istore 4, 2) := by decide +kernel
theorem d_M_move_130 : decode b_M_move 130 = .ok (.aload_n 0, 1) := by decide +kernel
theorem d_M_move_131 : decode b_M_move 131 = .ok (.getfield 19, 3) := by decide +kernel
theorem d_M_move_134 : decode b_M_move 134 = .ok (.iload 5, 2) := by decide +kernel
theorem d_M_move_136 : decode b_M_move 136 = .ok (.aload_n 0, 1) := by decide +kernel
theorem d_M_move_137 : decode b_M_move 137 = .ok (.getfield 22, 3) := by decide +kernel
theorem d_M_move_140 : decode b_M_move 140 = .ok (.iload 4, 2) := by decide +kernel
theorem d_M_move_142 : decode b_M_move 142 = .ok (.iaload, 1) := by decide +kernel
theorem d_M_move_143 : decode b_M_move 143 = .ok (.iastore, 1) := by decide +kernel
theorem d_M_move_144 : decode b_M_move 144 = .ok (.iinc 4 1, 3) := by decide +kernel
theorem d_M_move_147 : decode b_M_move 147 = .ok (.iinc 5 1, 3) := by decide +kernel
theorem d_M_move_150 : decode b_M_move 150 = .ok (.goto (-84), 3) := by decide +kernel
theorem d_M_move_153 : decode b_M_move 153 = .ok (.aload_n 0, 1) := by decide +kernel
theorem d_M_move_154 : decode b_M_move 154 = .ok (.aload_n 0, 1) := by decide +kernel
theorem d_M_move_155 : decode b_M_move 155 = .ok (.invokevirtual 58, 3) := by decide +kernel
theorem d_M_move_158 : decode b_M_move 158 = .ok (.invokevirtual 79, 3) := by decide +kernel
theorem d_M_move_161 : decode b_M_move 161 = .ok (.ireturn, 1) := by decide +kernel
set_option maxHeartbeats 4000000 in
set_option maxRecDepth 20000 in
theorem c_M_move {l : Launch} {G : va_G} {tys : List (ClassId × FieldType)} {cI cO cZ : ClassId} (hT : TY tys cI cO cZ) (q0 : Nat) (A A' : AS) (z : Int) (ws : va_W) (hA : MW cI q0 A ws) (f k to : Int) (hrg : (-2147483648 ≤ f ∧ f < 2147483648) ∧ (-2147483648 ≤ k ∧ k < 2147483648) ∧ (-2147483648 ≤ to ∧ to < 2147483648)) (hS : Sp_move f k to A z A') : CTI l G tys y_M_move b_M_move 7 .int 4 88 [.ref q0, .int (iI f), .int (iI k), .int (iI to)] ws (fun z' u => z' = z ∧ MW cI q0 A' u) := by
  obtain ⟨⟨lc, sd, r, sg, ln, N, v⟩, hist, rcd, slot, uf, T, m⟩ := A
  obtain ⟨hR, q1, q2, q3, q4, q5, q6, q7, q8, q9, nw, pt, sl, sv, li, ot, len, pd, wr, wm, ss, lz, rm, rfl, hM, hC⟩ := hA
  have hO := hR.1
  have hr5 := hR.2.1
  have hN3 := hR.2.2.1
  have hN0 := hO.n0
  have hr0 := hO.1
  have hlcd := hR.2.2.2
  have hm80 := hC.2.2.2.2.1
  have hrcd6 := hC.1
  have hvr := hO.v_rg
  have hm0 : nw 0 = lc := hM.1
  have hm1 : nw 1 = sd := hM.2.1
  have hm2 : nw 2 = r := hM.2.2.1
  have hS : SpE ((lc, sd, r, sg, ln, N, v), hist, rcd, slot, uf, T, m) z A' (errMv N f k to) (lc) (sd) (N) (mvd v f k to) (rc (mvd v f k to) N) := hS
  refine mkI (by decide) (Nat.le_of_ble_eq_true rfl) ?_
  rintro X rfl rfl rfl hRm C kret H ls w hl
  have hl : lv_has ls 7 [(0, .ref q0), (1, .int (iI f)), (2, .int (iI k)), (3, .int (iI to))] := hl
  have w : Wd X (mw cI q0 q1 q2 q3 q4 q5 q6 q7 q8 q9 nw pt rcd sl sv li ot len pd m wr wm ss lz rm) H [] := w
  generalize ([] : List Loc) = locs at w ⊢
  refine r_aload_n (pc := 0) C d_M_move_0 rfl (lv_at hl 0 rfl) ?_
  refine r_iload_n (pc := 1) C d_M_move_1 rfl (lv_at hl 1 rfl) ?_
  refine r_iload_n (pc := 2) C d_M_move_2 rfl (lv_at hl 2 rfl) ?_
  refine r_callVI (pc := 3) (As := [.int (iI f), .int (iI k)]) (rest := []) (wr := []) C w (c_M_hasPiece hT q0 q1 q2 q3 q4 q5 q6 q7 q8 q9 nw pt rcd sl sv li ot len pd m wr wm ss lz rm f k _ _ _ _ _ _ _ hR hM (by omega)) ml_M_82 im_M_hasPiece se_M_hasPiece ini_M cd_M_hasPiece hd_M_hasPiece rfl (by rw [hRm]; exact ⟨⟨Nat.le_of_ble_eq_true rfl, Nat.le_of_ble_eq_true rfl⟩, Nat.le_of_ble_eq_true rfl, Nat.le_of_ble_eq_true rfl⟩) hl.1 [0, 1, 2, 3, 4, 5, 6, 7, 8, 9] [] ⟨rfl, rfl, by decide, by decide, by decide⟩ 0 rfl rfl rfl (Nat.le_of_ble_eq_true rfl) d_M_move_3 (fun z_3 u_3 H locs hz_3 w => ?_)
  obtain ⟨li_3, rfl, hli_3, hz_3⟩ := hz_3
  have w : Wd X (mw cI q0 q1 q2 q3 q4 q5 q6 q7 q8 q9 nw pt rcd sl sv li_3 ot N pd m wr wm ss lz rm) H locs := w
  refine r_if_ne (pc := 6) (tgt := 11) C (by omega) d_M_move_6 (by decide) (fun c_6 => ?_) (fun c_6 => ?_)
  · skip
    have hb_6 : 0 ≤ f ∧ 1 ≤ k ∧ k ≤ N - f := by omega
    clear hz_3 c_6
    refine r_iload_n (pc := 11) C d_M_move_11 rfl (lv_at hl 3 rfl) ?_
    refine r_iconst (pc := 12) C d_M_move_12 ?_
    refine r_aload_n (pc := 13) C d_M_move_13 rfl (lv_at hl 0 rfl) ?_
    refine r_get (pc := 14) (v := .int (iI N)) C w i_M rfl 0 rfl 7 (by decide) fl_M_52 rfl rfl d_M_move_14 ?_
    refine r_iload_n (pc := 17) C d_M_move_17 rfl (lv_at hl 2 rfl) ?_
    refine r_isub (pc := 18) C d_M_move_18 ?_
    refine r_callP (pc := 19) (As := [.int (iI to), .int (iI 0), .int (iI (N - k))]) (rest := []) C w (c_M_in to 0 (N - k) (by omega)) ml_M_75 st_M_in ini_M cd_M_in hd_M_in rfl (by rw [hRm]; exact ⟨⟨Nat.le_of_ble_eq_true rfl, Nat.le_of_ble_eq_true rfl⟩, Nat.le_of_ble_eq_true rfl, Nat.le_of_ble_eq_true rfl⟩) hl.1 rfl (Nat.le_of_ble_eq_true rfl) d_M_move_19 (fun z_19 H locs hz_19 w => ?_)
    refine r_if_ne (pc := 22) (tgt := 28) C (by omega) d_M_move_22 (by decide) (fun c_22 => ?_) (fun c_22 => ?_)
    · skip
      have hb_22 : 0 ≤ to ∧ to ≤ (N - k) := by omega
      clear hz_19 c_22
      refine r_iconst (pc := 28) C d_M_move_28 ?_
      refine r_istore (pc := 29) (lv' := [(4, .int (iI 0)), (0, .ref q0), (1, .int (iI f)), (2, .int (iI k)), (3, .int (iI to))]) C d_M_move_29 hl (by decide) rfl (fun ls hl => ?_)
      refine r_iconst (pc := 31) C d_M_move_31 ?_
      refine r_istore (pc := 32) (lv' := [(5, .int (iI 0)), (4, .int (iI 0)), (0, .ref q0), (1, .int (iI f)), (2, .int (iI k)), (3, .int (iI to))]) C d_M_move_32 hl (by decide) rfl (fun ls hl => ?_)
      have L34 : ∀ (fuel : Nat), ∀ (i : Int) (o1 : Int → Int), 0 ≤ i ∧ i ≤ N → (∀ x, 0 ≤ x → x < i → o1 x = v x) → (N - i) < (fuel : Int) → ∀ (H : Heap) (locs : List Loc) (ls : Array Slot), Wd X (mw cI q0 q1 q2 q3 q4 q5 q6 q7 q8 q9 nw pt rcd sl sv li_3 o1 N pd m wr wm ss lz rm) H locs → lv_has ls 7 [(0, .ref q0), (1, .int (iI f)), (2, .int (iI k)), (3, .int (iI to)), (4, .int (iI 0)), (5, .int (iI i))] → GG X 0 0 H locs 34 ls [] := by
        intro fuel
        induction fuel with
        | zero =>
          intro i o1 h0 ho hfuel
          exact absurd hfuel (by omega)
        | succ fuel ih34 =>
          intro i o1 h0 ho hfuel H locs ls w hl
          refine r_iload (pc := 34) C d_M_move_34 (lv_at hl 5 rfl) ?_
          refine r_aload_n (pc := 36) C d_M_move_36 rfl (lv_at hl 0 rfl) ?_
          refine r_get (pc := 37) (v := .int (iI N)) C w i_M rfl 0 rfl 7 (by decide) fl_M_52 rfl rfl d_M_move_37 ?_
          refine r_icmp_ge (pc := 40) (tgt := 63) C (by omega) d_M_move_40 (by decide) (fun c_40 => ?_) (fun c_40 => ?_)
          · skip
            have hov : ∀ x, 0 ≤ x → x < N → o1 x = v x := fun x h1 h2 => ho x h1 (by omega)
            refine r_iconst (pc := 63) C d_M_move_63 ?_
            refine r_istore (pc := 64) (lv' := [(5, .int (iI 0)), (0, .ref q0), (1, .int (iI f)), (2, .int (iI k)), (3, .int (iI to)), (4, .int (iI 0))]) C d_M_move_64 hl (by decide) rfl (fun ls hl => ?_)
            have L66 : ∀ (fuel : Nat), ∀ (i : Int) (n : Int) (l2 : Int → Int) (j : Int), 0 ≤ i ∧ i ≤ N → (i ≤ to ∧ j = i) ∨ (to < i ∧ i ≤ to + k ∧ j = to) ∨ (to + k < i ∧ j = i - k) → (j ≤ f ∧ n = j) ∨ (f < j ∧ n = j + k) → (∀ x, 0 ≤ x → x < i → l2 x = mvd v f k to x) → (N - i) < (fuel : Int) → ∀ (H : Heap) (locs : List Loc) (ls : Array Slot), Wd X (mw cI q0 q1 q2 q3 q4 q5 q6 q7 q8 q9 nw pt rcd sl sv l2 o1 N pd m wr wm ss lz rm) H locs → lv_has ls 7 [(0, .ref q0), (1, .int (iI f)), (2, .int (iI k)), (3, .int (iI to)), (4, .int (iI n)), (5, .int (iI i))] → GG X 0 0 H locs 66 ls [] := by
              intro fuel
              induction fuel with
              | zero =>
                intro i n l2 j h2 hj hn ha hfuel
                exact absurd hfuel (by omega)
              | succ fuel ih66 =>
                intro i n l2 j h2 hj hn ha hfuel H locs ls w hl
                refine r_iload (pc := 66) C d_M_move_66 (lv_at hl 5 rfl) ?_
                refine r_aload_n (pc := 68) C d_M_move_68 rfl (lv_at hl 0 rfl) ?_
                refine r_get (pc := 69) (v := .int (iI N)) C w i_M rfl 0 rfl 7 (by decide) fl_M_52 rfl rfl d_M_move_69 ?_
                refine r_icmp_ge (pc := 72) (tgt := 153) C (by omega) d_M_move_72 (by decide) (fun c_72 => ?_) (fun c_72 => ?_)
                · skip
                  have hag : ∀ x, 0 ≤ x → x < N → l2 x = mvd v f k to x := fun x h1 h2 => ha x h1 (by omega)
                  have hrcc := rc_congr (v := l2) (u := mvd v f k to) N (by omega) hag
                  have hlr : ∀ x, 0 ≤ x → x < N → 0 ≤ l2 x ∧ l2 x ≤ 10 := fun x h1 h2 => by rw [hag x h1 h2]; unfold mvd del; (repeat' split) <;> exact hvr _ (by omega) (by omega)
                  refine r_aload_n (pc := 153) C d_M_move_153 rfl (lv_at hl 0 rfl) ?_
                  refine r_aload_n (pc := 154) C d_M_move_154 rfl (lv_at hl 0 rfl) ?_
                  refine r_callVI (pc := 155) (As := []) (rest := [.ref q0]) (wr := []) C w (c_M_runsOfLine hT q0 q1 q2 q3 q4 q5 q6 q7 q8 q9 nw pt rcd sl sv l2 o1 N pd m wr wm ss lz rm  (by omega) hlr) ml_M_58 im_M_runsOfLine se_M_runsOfLine ini_M cd_M_runsOfLine hd_M_runsOfLine rfl (by rw [hRm]; exact ⟨⟨Nat.le_of_ble_eq_true rfl, Nat.le_of_ble_eq_true rfl⟩, Nat.le_of_ble_eq_true rfl, Nat.le_of_ble_eq_true rfl⟩) hl.1 [0, 1, 2, 3, 4, 5, 6, 7, 8, 9] [] ⟨rfl, rfl, by decide, by decide, by decide⟩ 0 rfl rfl rfl (Nat.le_of_ble_eq_true rfl) d_M_move_155 (fun z_155 u_155 H locs hz_155 w => ?_)
                  obtain ⟨rfl, rfl⟩ := hz_155
                  have w : Wd X (mw cI q0 q1 q2 q3 q4 q5 q6 q7 q8 q9 nw pt rcd sl sv l2 o1 N pd m wr wm ss lz rm) H locs := w
                  have hrl_155 := rc_le l2 N (by omega)
                  have hrn_155 := rc_nonneg l2 N (by omega)
                  refine r_callVI (pc := 158) (As := [.int (iI (rc l2 N))]) (rest := []) (wr := []) C w (c_M_ends hT q0 q1 q2 q3 q4 q5 q6 q7 q8 q9 nw pt rcd sl sv l2 o1 N pd m wr wm ss lz rm (rc l2 N) (by omega) hlr (by omega)) ml_M_79 im_M_ends se_M_ends ini_M cd_M_ends hd_M_ends rfl (by rw [hRm]; exact ⟨⟨Nat.le_of_ble_eq_true rfl, Nat.le_of_ble_eq_true rfl⟩, Nat.le_of_ble_eq_true rfl, Nat.le_of_ble_eq_true rfl⟩) hl.1 [0, 1, 2, 3, 4, 5, 6, 7, 8, 9] [] ⟨rfl, rfl, by decide, by decide, by decide⟩ 0 rfl rfl rfl (Nat.le_of_ble_eq_true rfl) d_M_move_158 (fun z_158 u_158 H locs hz_158 w => ?_)
                  exact kret _ _ _ _ z_158 _ d_M_move_161 w (m_fin hS (by unfold errMv; (repeat' split) <;> omega) (by omega) (by omega) hag (hrcc) hR hM hC hz_158)
                · skip
                  refine r_iload (pc := 75) C d_M_move_75 (lv_at hl 5 rfl) ?_
                  refine r_iload_n (pc := 77) C d_M_move_77 rfl (lv_at hl 3 rfl) ?_
                  refine r_iload_n (pc := 78) C d_M_move_78 rfl (lv_at hl 3 rfl) ?_
                  refine r_iload_n (pc := 79) C d_M_move_79 rfl (lv_at hl 2 rfl) ?_
                  refine r_iadd (pc := 80) C d_M_move_80 ?_
                  refine r_iconst (pc := 81) C d_M_move_81 ?_
                  refine r_isub (pc := 82) C d_M_move_82 ?_
                  refine r_callP (pc := 83) (As := [.int (iI i), .int (iI to), .int (iI ((to + k) - 1))]) (rest := []) C w (c_M_in i to ((to + k) - 1) (by omega)) ml_M_75 st_M_in ini_M cd_M_in hd_M_in rfl (by rw [hRm]; exact ⟨⟨Nat.le_of_ble_eq_true rfl, Nat.le_of_ble_eq_true rfl⟩, Nat.le_of_ble_eq_true rfl, Nat.le_of_ble_eq_true rfl⟩) hl.1 rfl (Nat.le_of_ble_eq_true rfl) d_M_move_83 (fun z_83 H locs hz_83 w => ?_)
                  refine r_istore (pc := 86) (lv' := [(6, .int (iI z_83)), (0, .ref q0), (1, .int (iI f)), (2, .int (iI k)), (3, .int (iI to)), (4, .int (iI n)), (5, .int (iI i))]) C d_M_move_86 hl (by decide) rfl (fun ls hl => ?_)
                  refine r_iload (pc := 88) C d_M_move_88 (lv_at hl 0 rfl) ?_
                  refine r_if_eq (pc := 90) (tgt := 114) C (by omega) d_M_move_90 (by decide) (fun c_90 => ?_) (fun c_90 => ?_)
                  · skip
                    have hb_90 : ¬ (to ≤ i ∧ i ≤ ((to + k) - 1)) := by omega
                    clear hz_83 c_90
                    refine r_iload (pc := 114) C d_M_move_114 (lv_at hl 5 rfl) ?_
                    refine r_iload (pc := 116) C d_M_move_116 (lv_at hl 5 rfl) ?_
                    refine r_iload_n (pc := 118) C d_M_move_118 rfl (lv_at hl 2 rfl) ?_
                    refine r_icmp_ne (pc := 119) (tgt := 126) C (by omega) d_M_move_119 (by decide) (fun c_119 => ?_) (fun c_119 => ?_)
                    · skip
                      refine r_iconst (pc := 126) C d_M_move_126 ?_
                      refine r_iadd (pc := 127) C d_M_move_127 ?_
                      refine r_istore (pc := 128) (lv' := [(4, .int (iI (n + 0))), (6, .int (iI z_83)), (0, .ref q0), (1, .int (iI f)), (2, .int (iI k)), (3, .int (iI to)), (5, .int (iI i))]) C d_M_move_128 hl (by decide) rfl (fun ls hl => ?_)
                      have hmx : o1 (n + 0) = mvd v f k to i := by
                        rw [hov _ (by omega) (by omega)]
                        unfold mvd del
                        by_cases q1 : i < to
                        · rw [if_pos q1]
                          by_cases q2 : i < f
                          · rw [if_pos q2]; congr 1; omega
                          · rw [if_neg q2]; congr 1; omega
                        · rw [if_neg q1, if_neg (by omega)]
                          by_cases q2 : i - k < f
                          · rw [if_pos q2]; congr 1; omega
                          · rw [if_neg q2]; congr 1; omega
                      refine r_aload_n (pc := 130) C d_M_move_130 rfl (lv_at hl 2 rfl) ?_
                      refine r_get (pc := 131) (v := .ref q4) C w i_M rfl 0 rfl 5 (by decide) fl_M_19 rfl rfl d_M_move_131 ?_
                      refine r_iload (pc := 134) C d_M_move_134 (lv_at hl 6 rfl) ?_
                      refine r_aload_n (pc := 136) C d_M_move_136 rfl (lv_at hl 2 rfl) ?_
                      refine r_get (pc := 137) (v := .ref q5) C w i_M rfl 0 rfl 6 (by decide) fl_M_22 rfl rfl d_M_move_137 ?_
                      refine r_iload (pc := 140) C d_M_move_140 (lv_at hl 0 rfl) ?_
                      refine r_iald (pc := 142) (f := o1) (i := (n + 0)) C w 0 5 rfl hT.1 (by omega) d_M_move_142 ?_
                      refine r_iast (pc := 143) (f := l2) (i := i) (v := (o1 (n + 0))) (ws' := mw cI q0 q1 q2 q3 q4 q5 q6 q7 q8 q9 nw pt rcd sl sv (up l2 i (o1 (n + 0))) o1 N pd m wr wm ss lz rm) C w 0 4 rfl hT.1 (by omega) rfl d_M_move_143 (fun H locs w => ?_)
                      refine r_iinc (pc := 144) (j := 0) (lv' := [(4, .int (iI ((n + 0) + 1))), (6, .int (iI z_83)), (0, .ref q0), (1, .int (iI f)), (2, .int (iI k)), (3, .int (iI to)), (5, .int (iI i))]) C d_M_move_144 hl rfl (by decide) rfl (fun ls hl => ?_)
                      refine r_iinc (pc := 147) (j := 6) (lv' := [(5, .int (iI (i + 1))), (4, .int (iI ((n + 0) + 1))), (6, .int (iI z_83)), (0, .ref q0), (1, .int (iI f)), (2, .int (iI k)), (3, .int (iI to))]) C d_M_move_147 hl rfl (by decide) rfl (fun ls hl => ?_)
                      refine r_goto (pc := 150) (tgt := 66) C d_M_move_150 (by decide) ?_
                      exact ih66 (i + 1) ((n + 0) + 1) (up l2 i (o1 (n + 0))) (j + 1) (by omega) (by omega) (by omega) ((fun x h1 h2 => if e : x = i then (by rw [e, up_eq]; exact hmx) else (by rw [up_ne _ _ e]; exact ha x h1 (by omega)))) (by omega) _ _ _ w (lv_sub hl [3, 4, 5, 6, 1, 0] rfl)
                    · skip
                      refine r_iload_n (pc := 122) C d_M_move_122 rfl (lv_at hl 3 rfl) ?_
                      refine r_goto (pc := 123) (tgt := 127) C d_M_move_123 (by decide) ?_
                      refine r_iadd (pc := 127) C d_M_move_127 ?_
                      refine r_istore (pc := 128) (lv' := [(4, .int (iI (n + k))), (6, .int (iI z_83)), (0, .ref q0), (1, .int (iI f)), (2, .int (iI k)), (3, .int (iI to)), (5, .int (iI i))]) C d_M_move_128 hl (by decide) rfl (fun ls hl => ?_)
                      have hmx : o1 (n + k) = mvd v f k to i := by
                        rw [hov _ (by omega) (by omega)]
                        unfold mvd del
                        by_cases q1 : i < to
                        · rw [if_pos q1]
                          by_cases q2 : i < f
                          · rw [if_pos q2]; congr 1; omega
                          · rw [if_neg q2]; congr 1; omega
                        · rw [if_neg q1, if_neg (by omega)]
                          by_cases q2 : i - k < f
                          · rw [if_pos q2]; congr 1; omega
                          · rw [if_neg q2]; congr 1; omega
                      refine r_aload_n (pc := 130) C d_M_move_130 rfl (lv_at hl 2 rfl) ?_
                      refine r_get (pc := 131) (v := .ref q4) C w i_M rfl 0 rfl 5 (by decide) fl_M_19 rfl rfl d_M_move_131 ?_
                      refine r_iload (pc := 134) C d_M_move_134 (lv_at hl 6 rfl) ?_
                      refine r_aload_n (pc := 136) C d_M_move_136 rfl (lv_at hl 2 rfl) ?_
                      refine r_get (pc := 137) (v := .ref q5) C w i_M rfl 0 rfl 6 (by decide) fl_M_22 rfl rfl d_M_move_137 ?_
                      refine r_iload (pc := 140) C d_M_move_140 (lv_at hl 0 rfl) ?_
                      refine r_iald (pc := 142) (f := o1) (i := (n + k)) C w 0 5 rfl hT.1 (by omega) d_M_move_142 ?_
                      refine r_iast (pc := 143) (f := l2) (i := i) (v := (o1 (n + k))) (ws' := mw cI q0 q1 q2 q3 q4 q5 q6 q7 q8 q9 nw pt rcd sl sv (up l2 i (o1 (n + k))) o1 N pd m wr wm ss lz rm) C w 0 4 rfl hT.1 (by omega) rfl d_M_move_143 (fun H locs w => ?_)
                      refine r_iinc (pc := 144) (j := 0) (lv' := [(4, .int (iI ((n + k) + 1))), (6, .int (iI z_83)), (0, .ref q0), (1, .int (iI f)), (2, .int (iI k)), (3, .int (iI to)), (5, .int (iI i))]) C d_M_move_144 hl rfl (by decide) rfl (fun ls hl => ?_)
                      refine r_iinc (pc := 147) (j := 6) (lv' := [(5, .int (iI (i + 1))), (4, .int (iI ((n + k) + 1))), (6, .int (iI z_83)), (0, .ref q0), (1, .int (iI f)), (2, .int (iI k)), (3, .int (iI to))]) C d_M_move_147 hl rfl (by decide) rfl (fun ls hl => ?_)
                      refine r_goto (pc := 150) (tgt := 66) C d_M_move_150 (by decide) ?_
                      exact ih66 (i + 1) ((n + k) + 1) (up l2 i (o1 (n + k))) (j + 1) (by omega) (by omega) (by omega) ((fun x h1 h2 => if e : x = i then (by rw [e, up_eq]; exact hmx) else (by rw [up_ne _ _ e]; exact ha x h1 (by omega)))) (by omega) _ _ _ w (lv_sub hl [3, 4, 5, 6, 1, 0] rfl)
                  · skip
                    have hb_90 : to ≤ i ∧ i ≤ ((to + k) - 1) := by omega
                    clear hz_83 c_90
                    have hmx : o1 (f + i - to) = mvd v f k to i := by rw [hov _ (by omega) (by omega)]; unfold mvd; rw [if_neg (by omega), if_pos (by omega)]
                    refine r_aload_n (pc := 93) C d_M_move_93 rfl (lv_at hl 1 rfl) ?_
                    refine r_get (pc := 94) (v := .ref q4) C w i_M rfl 0 rfl 5 (by decide) fl_M_19 rfl rfl d_M_move_94 ?_
                    refine r_iload (pc := 97) C d_M_move_97 (lv_at hl 6 rfl) ?_
                    refine r_aload_n (pc := 99) C d_M_move_99 rfl (lv_at hl 1 rfl) ?_
                    refine r_get (pc := 100) (v := .ref q5) C w i_M rfl 0 rfl 6 (by decide) fl_M_22 rfl rfl d_M_move_100 ?_
                    refine r_iload_n (pc := 103) C d_M_move_103 rfl (lv_at hl 2 rfl) ?_
                    refine r_iload (pc := 104) C d_M_move_104 (lv_at hl 6 rfl) ?_
                    refine r_iadd (pc := 106) C d_M_move_106 ?_
                    refine r_iload_n (pc := 107) C d_M_move_107 rfl (lv_at hl 4 rfl) ?_
                    refine r_isub (pc := 108) C d_M_move_108 ?_
                    refine r_iald (pc := 109) (f := o1) (i := ((f + i) - to)) C w 0 5 rfl hT.1 (by omega) d_M_move_109 ?_
                    refine r_iast (pc := 110) (f := l2) (i := i) (v := (o1 ((f + i) - to))) (ws' := mw cI q0 q1 q2 q3 q4 q5 q6 q7 q8 q9 nw pt rcd sl sv (up l2 i (o1 ((f + i) - to))) o1 N pd m wr wm ss lz rm) C w 0 4 rfl hT.1 (by omega) rfl d_M_move_110 (fun H locs w => ?_)
                    refine r_goto (pc := 111) (tgt := 147) C d_M_move_111 (by decide) ?_
                    refine r_iinc (pc := 147) (j := 6) (lv' := [(5, .int (iI (i + 1))), (6, .int (iI z_83)), (0, .ref q0), (1, .int (iI f)), (2, .int (iI k)), (3, .int (iI to)), (4, .int (iI n))]) C d_M_move_147 hl rfl (by decide) rfl (fun ls hl => ?_)
                    refine r_goto (pc := 150) (tgt := 66) C d_M_move_150 (by decide) ?_
                    exact ih66 (i + 1) n (up l2 i (o1 ((f + i) - to))) j (by omega) (by omega) (by omega) ((fun x h1 h2 => if e : x = i then (by rw [e, up_eq]; exact hmx) else (by rw [up_ne _ _ e]; exact ha x h1 (by omega)))) (by omega) _ _ _ w (lv_sub hl [2, 3, 4, 5, 6, 0] rfl)
            exact L66 ((N - 0) + 1 : Int).toNat 0 0 li_3 0 (by first | omega | rfl) (by first | omega | rfl) (by first | omega | rfl) ((fun x h1 h2 => by omega)) (by omega) _ _ _ w (lv_sub hl [1, 2, 3, 4, 5, 0] rfl)
          · skip
            refine r_aload_n (pc := 43) C d_M_move_43 rfl (lv_at hl 0 rfl) ?_
            refine r_get (pc := 44) (v := .ref q5) C w i_M rfl 0 rfl 6 (by decide) fl_M_22 rfl rfl d_M_move_44 ?_
            refine r_iload (pc := 47) C d_M_move_47 (lv_at hl 5 rfl) ?_
            refine r_aload_n (pc := 49) C d_M_move_49 rfl (lv_at hl 0 rfl) ?_
            refine r_get (pc := 50) (v := .ref q4) C w i_M rfl 0 rfl 5 (by decide) fl_M_19 rfl rfl d_M_move_50 ?_
            refine r_iload (pc := 53) C d_M_move_53 (lv_at hl 5 rfl) ?_
            refine r_iald (pc := 55) (f := li_3) (i := i) C w 0 4 rfl hT.1 (by omega) d_M_move_55 ?_
            refine r_iast (pc := 56) (f := o1) (i := i) (v := (li_3 i)) (ws' := mw cI q0 q1 q2 q3 q4 q5 q6 q7 q8 q9 nw pt rcd sl sv li_3 (up o1 i (li_3 i)) N pd m wr wm ss lz rm) C w 0 5 rfl hT.1 (by omega) rfl d_M_move_56 (fun H locs w => ?_)
            refine r_iinc (pc := 57) (j := 5) (lv' := [(5, .int (iI (i + 1))), (0, .ref q0), (1, .int (iI f)), (2, .int (iI k)), (3, .int (iI to)), (4, .int (iI 0))]) C d_M_move_57 hl rfl (by decide) rfl (fun ls hl => ?_)
            refine r_goto (pc := 60) (tgt := 34) C d_M_move_60 (by decide) ?_
            exact ih34 (i + 1) (up o1 i (li_3 i)) (by omega) ((fun x h1 h2 => by by_cases e : x = i; rw [e, up_eq]; exact hli_3 i (by omega) (by omega); rw [up_ne _ _ e]; exact ho x h1 (by omega))) (by omega) _ _ _ w (lv_sub hl [1, 2, 3, 4, 5, 0] rfl)
      exact L34 ((N - 0) + 1 : Int).toNat 0 ot (by first | omega | rfl) ((fun x h1 h2 => by omega)) (by omega) _ _ _ w (lv_sub hl [2, 3, 4, 5, 1, 0] rfl)
    · skip
      have hb_22 : ¬ (0 ≤ to ∧ to ≤ (N - k)) := by omega
      clear hz_19 c_22
      refine r_bipush (pc := 25) C d_M_move_25 (by decide) ?_
      exact kret _ _ _ _ (-2) _ d_M_move_27 w (by obtain ⟨g1, rfl⟩ := SpE_err hS (-2) (by unfold errMv; (repeat' split) <;> omega) (by omega); exact ⟨g1, ⟨hR, q1, q2, q3, q4, q5, q6, q7, q8, q9, nw, pt, sl, sv, _, _, _, pd, wr, wm, ss, lz, rm, rfl, hM, hC⟩⟩)
  · skip
    have hb_6 : ¬ (0 ≤ f ∧ 1 ≤ k ∧ k ≤ N - f) := by omega
    clear hz_3 c_6
    refine r_iconst (pc := 9) C d_M_move_9 ?_
    exact kret _ _ _ _ (-1) _ d_M_move_10 w (by obtain ⟨g1, rfl⟩ := SpE_err hS (-1) (by unfold errMv; (repeat' split) <;> omega) (by omega); exact ⟨g1, ⟨hR, q1, q2, q3, q4, q5, q6, q7, q8, q9, nw, pt, sl, sv, _, _, _, pd, wr, wm, ss, lz, rm, rfl, hM, hC⟩⟩)
