/-! the reference: set, undo, save, restore -/
theorem or_slot0 {a b : Int} (ha : a = 0 ∨ a = 1) (hb : b = 0 ∨ b = 1) : iI (a + 2 * b) ||| (iI 1 <<< (iI 0 &&& 31)) = iI (1 + 2 * b) := by
  rcases ha with rfl | rfl <;> rcases hb with rfl | rfl <;> decide
theorem or_slot1 {a b : Int} (ha : a = 0 ∨ a = 1) (hb : b = 0 ∨ b = 1) : iI (a + 2 * b) ||| (iI 1 <<< (iI 1 &&& 31)) = iI (a + 2 * 1) := by
  rcases ha with rfl | rfl <;> rcases hb with rfl | rfl <;> decide
theorem sh_slot0 {a b : Int} (ha : a = 0 ∨ a = 1) (hb : b = 0 ∨ b = 1) : (iI (a + 2 * b) >>> (iI 0 &&& 31)) &&& iI 1 = iI a := by
  rcases ha with rfl | rfl <;> rcases hb with rfl | rfl <;> decide
theorem sh_slot1 {a b : Int} (ha : a = 0 ∨ a = 1) (hb : b = 0 ∨ b = 1) : (iI (a + 2 * b) >>> (iI 1 &&& 31)) &&& iI 1 = iI b := by
  rcases ha with rfl | rfl <;> rcases hb with rfl | rfl <;> decide
theorem fits_row {lc sd r N : Int} {sg ln v : Int → Int} (hR : RwOk lc sd r sg ln N v) : fits_ N v := ⟨hR.2.2.1, by rw [hR.1.rcE]; exact hR.2.1⟩
theorem undo_mw {cI : ClassId} {q0 q1 q2 q3 q4 q5 q6 q7 q8 q9 : Nat} {g pt : Int → Int} {sl : Int → Int} {sv : Int} {li ot : Int → Int} {len : Int} {pd : Int → Int} {wr : Int → Int} {wm : Int} {ss lz : Int → Int} {rm rcd m : Int} {uf T : Int → Int} {hist slot : Int → Rw} (hC : MC pt sl sv pd hist rcd slot uf T m) (h1 : 1 ≤ rcd) (hg : ∀ k, 0 ≤ k → k < 103 → g (0 + k) = pt ((rcd - 1) * 103 + k)) : MW cI q0 (hist (rcd - 1), hist, rcd - 1, slot, uf, T, m) (mw cI q0 q1 q2 q3 q4 q5 q6 q7 q8 q9 g pt (rcd - 1) sl sv li ot len pd m wr wm ss lz rm) := by
  obtain ⟨c1, c2, c3, c4, c5, c6⟩ := hC
  have hs := (c2 (rcd - 1) (by omega) (by omega)).moved (pt := g) (off' := 0) (fun k k1 k2 => by rw [hg k k1 k2, Int.mul_comm])
  generalize hist (rcd - 1) = w at hs ⊢
  obtain ⟨lc, sd, r, sg, ln, N, v⟩ := w
  exact ⟨hs.1, q1, q2, q3, q4, q5, q6, q7, q8, q9, g, pt, sl, sv, li, ot, len, pd, wr, wm, ss, lz, rm, rfl, hs.2, by omega, fun j j1 j2 => c2 j j1 (by omega), c3, c4, c5, c6⟩
theorem save_mw {cI : ClassId} {q0 q1 q2 q3 q4 q5 q6 q7 q8 q9 : Nat} {nw pt g : Int → Int} {sl : Int → Int} {sv sv' s : Int} {li ot : Int → Int} {len : Int} {pd : Int → Int} {wr : Int → Int} {wm : Int} {ss lz : Int → Int} {rm rcd m lc sd r N : Int} {sg ln v uf T sg' ln' : Int → Int} {hist slot : Int → Rw} (hR : RwOk lc sd r sg ln N v) (hR' : RwOk lc sd r sg' ln' N v) (hM : MR nw 0 lc sd r sg ln) (hC : MC pt sl sv pd hist rcd slot uf T m) (hs : s = 0 ∨ s = 1) (hsv : sv' = up uf s 1 0 + 2 * up uf s 1 1) (hga : ∀ k, 0 ≤ k → k < 103 → g (103 * s + k) = nw (0 + k)) (hgb : ∀ x, x < 103 * s ∨ 103 * s + 103 ≤ x → g x = sl x) : MW cI q0 ((lc, sd, r, sg, ln, N, v), hist, rcd, up slot s (lc, sd, r, sg', ln', N, v), up uf s 1, T, m) (mw cI q0 q1 q2 q3 q4 q5 q6 q7 q8 q9 nw pt rcd g sv' li ot len pd m wr wm ss lz rm) := by
  obtain ⟨c1, c2, c3, c4, c5, c6⟩ := hC
  refine ⟨hR, q1, q2, q3, q4, q5, q6, q7, q8, q9, nw, pt, g, sv', li, ot, len, pd, wr, wm, ss, lz, rm, rfl, hM, c1, c2, fun i i1 i2 => ?_, hsv, c5, c6⟩
  by_cases e : i = s
  · subst e
    rw [up_eq, up_eq]
    exact ⟨Or.inr rfl, fun _ => ⟨hR', (hM.moved ⟨hR.1.1, hR.2.1⟩ hga).uniq hR.1 hR'.1⟩⟩
  · rw [up_ne _ _ e, up_ne _ _ e]
    exact ⟨(c3 i i1 i2).1, fun q => ((c3 i i1 i2).2 q).moved (fun k k1 k2 => hgb _ (by omega))⟩

theorem d_M_set_0 : decode b_M_set 0 = .ok (.iload_n 1, 1) := by decide +kernel
theorem d_M_set_1 : decode b_M_set 1 = .ok (.iconst 0, 1) := by decide +kernel
theorem d_M_set_2 : decode b_M_set 2 = .ok (.iconst 1, 1) := by decide +kernel
theorem d_M_set_3 : decode b_M_set 3 = .ok (.invokestatic 75, 3) := by decide +kernel
theorem d_M_set_6 : decode b_M_set 6 = .ok (.ifCond .eq 20, 3) := by decide +kernel
theorem d_M_set_9 : decode b_M_set 9 = .ok (.iload_n 2, 1) := by decide +kernel
theorem d_M_set_10 : decode b_M_set 10 = .ok (.iconst 0, 1) := by decide +kernel
theorem d_M_set_11 : decode b_M_set 11 = .ok (.iload_n 1, 1) := by decide +kernel
theorem d_M_set_12 : decode b_M_set 12 = .ok (.ifCond .ne 7, 3) := by decide +kernel
theorem d_M_set_15 : decode b_M_set 15 = .ok (.iconst 2, 1) := by decide +kernel
theorem d_M_set_16 : decode b_M_set 16 = .ok (.goto 4, 3) := by decide +kernel
theorem d_M_set_19 : decode b_M_set 19 = .ok (.iconst 1, 1) := by decide +kernel
theorem d_M_set_20 : decode b_M_set 20 = .ok (.invokestatic 75, 3) := by decide +kernel
theorem d_M_set_23 : decode b_M_set 23 = .ok (.ifCond .ne 6, 3) := by decide +kernel
theorem d_M_set_26 : decode b_M_set 26 = .ok (.bipush (-2), 2) := by decide +kernel
theorem d_M_set_28 : decode b_M_set 28 = .ok (.ireturn, 1) := by decide +kernel
theorem d_M_set_29 : decode b_M_set 29 = .ok (.aload_n 0, 1) := by decide +kernel
theorem d_M_set_30 : decode b_M_set 30 = .ok (.invokevirtual 62, 3) := by decide +kernel
theorem d_M_set_33 : decode b_M_set 33 = .ok (.aload_n 0, 1) := by decide +kernel
theorem d_M_set_34 : decode b_M_set 34 = .ok (.getfield 7, 3) := by decide +kernel
theorem d_M_set_37 : decode b_M_set 37 = .ok (.iload_n 1, 1) := by decide +kernel
theorem d_M_set_38 : decode b_M_set 38 = .ok (.iaload, 1) := by decide +kernel
theorem d_M_set_39 : decode b_M_set 39 = .ok (.istore_n 3, 1) := by decide +kernel
theorem d_M_set_40 : decode b_M_set 40 = .ok (.aload_n 0, 1) := by decide +kernel
theorem d_M_set_41 : decode b_M_set 41 = .ok (.getfield 7, 3) := by decide +kernel
theorem d_M_set_44 : decode b_M_set 44 = .ok (.iload_n 1, 1) := by decide +kernel
theorem d_M_set_45 : decode b_M_set 45 = .ok (.iload_n 2, 1) := by decide +kernel
theorem d_M_set_46 : decode b_M_set 46 = .ok (.iastore, 1) := by decide +kernel
theorem d_M_set_47 : decode b_M_set 47 = .ok (.iload_n 3, 1) := by decide +kernel
theorem d_M_set_48 : decode b_M_set 48 = .ok (.ireturn, 1) := by decide +kernel
set_option maxHeartbeats 4000000 in
set_option maxRecDepth 20000 in
theorem c_M_set {l : Launch} {G : va_G} {tys : List (ClassId × FieldType)} {cI cO cZ : ClassId} (hT : TY tys cI cO cZ) (q0 : Nat) (A A' : AS) (z : Int) (ws : va_W) (hA : MW cI q0 A ws) (s x : Int) (hrg : (-2147483648 ≤ s ∧ s < 2147483648) ∧ (-2147483648 ≤ x ∧ x < 2147483648)) (hS : Sp_set s x A z A') : CTI l G tys y_M_set b_M_set 4 .int 2 45 [.ref q0, .int (iI s), .int (iI x)] ws (fun z' u => z' = z ∧ MW cI q0 A' u) := by
  obtain ⟨⟨lc, sd, r, sg, ln, N, v⟩, hist, rcd, slot, uf, T, m⟩ := A
  obtain ⟨hR, q1, q2, q3, q4, q5, q6, q7, q8, q9, nw, pt, sl, sv, li, ot, len, pd, wr, wm, ss, lz, rm, rfl, hM, hC⟩ := hA
  have hO := hR.1
  have hr5 := hR.2.1
  have hN3 := hR.2.2.1
  have hN0 := hO.n0
  have hr0 := hO.1
  have hlcd := hR.2.2.2
  have hm80 := hC.2.2.2.2.1
  have hrcd6 := hC.1
  have hvr := hO.v_rg
  have hm0 : nw 0 = lc := hM.1
  have hm1 : nw 1 = sd := hM.2.1
  have hm2 : nw 2 = r := hM.2.2.1
  have hS : SpE ((lc, sd, r, sg, ln, N, v), hist, rcd, slot, uf, T, m) z A' (errSet s x) (if s = 0 then x else lc) (if s = 0 then sd else x) (N) (v) (if s = 0 then lc else sd) := hS
  refine mkI (by decide) (Nat.le_of_ble_eq_true rfl) ?_
  rintro X rfl rfl rfl hRm C kret H ls w hl
  have hl : lv_has ls 4 [(0, .ref q0), (1, .int (iI s)), (2, .int (iI x))] := hl
  have w : Wd X (mw cI q0 q1 q2 q3 q4 q5 q6 q7 q8 q9 nw pt rcd sl sv li ot len pd m wr wm ss lz rm) H [] := w
  generalize ([] : List Loc) = locs at w ⊢
  refine r_iload_n (pc := 0) C d_M_set_0 rfl (lv_at hl 1 rfl) ?_
  refine r_iconst (pc := 1) C d_M_set_1 ?_
  refine r_iconst (pc := 2) C d_M_set_2 ?_
  refine r_callP (pc := 3) (As := [.int (iI s), .int (iI 0), .int (iI 1)]) (rest := []) C w (c_M_in s 0 1 (by omega)) ml_M_75 st_M_in ini_M cd_M_in hd_M_in rfl (by rw [hRm]; exact ⟨⟨Nat.le_of_ble_eq_true rfl, Nat.le_of_ble_eq_true rfl⟩, Nat.le_of_ble_eq_true rfl, Nat.le_of_ble_eq_true rfl⟩) hl.1 rfl (Nat.le_of_ble_eq_true rfl) d_M_set_3 (fun z_3 H locs hz_3 w => ?_)
  refine r_if_eq (pc := 6) (tgt := 26) C (by omega) d_M_set_6 (by decide) (fun c_6 => ?_) (fun c_6 => ?_)
  · skip
    have hb_6 : ¬ (0 ≤ s ∧ s ≤ 1) := by omega
    clear hz_3 c_6
    refine r_bipush (pc := 26) C d_M_set_26 (by decide) ?_
    exact kret _ _ _ _ (-2) _ d_M_set_28 w (by obtain ⟨g1, rfl⟩ := SpE_err hS (-2) (by unfold errSet; (repeat' split) <;> omega) (by omega); exact ⟨g1, ⟨hR, q1, q2, q3, q4, q5, q6, q7, q8, q9, nw, pt, sl, sv, _, _, _, pd, wr, wm, ss, lz, rm, rfl, hM, hC⟩⟩)
  · skip
    have hb_6 : 0 ≤ s ∧ s ≤ 1 := by omega
    clear hz_3 c_6
    refine r_iload_n (pc := 9) C d_M_set_9 rfl (lv_at hl 2 rfl) ?_
    refine r_iconst (pc := 10) C d_M_set_10 ?_
    refine r_iload_n (pc := 11) C d_M_set_11 rfl (lv_at hl 1 rfl) ?_
    refine r_if_ne (pc := 12) (tgt := 19) C (by omega) d_M_set_12 (by decide) (fun c_12 => ?_) (fun c_12 => ?_)
    · skip
      refine r_iconst (pc := 19) C d_M_set_19 ?_
      refine r_callP (pc := 20) (As := [.int (iI x), .int (iI 0), .int (iI 1)]) (rest := []) C w (c_M_in x 0 1 (by omega)) ml_M_75 st_M_in ini_M cd_M_in hd_M_in rfl (by rw [hRm]; exact ⟨⟨Nat.le_of_ble_eq_true rfl, Nat.le_of_ble_eq_true rfl⟩, Nat.le_of_ble_eq_true rfl, Nat.le_of_ble_eq_true rfl⟩) hl.1 rfl (Nat.le_of_ble_eq_true rfl) d_M_set_20 (fun z_20 H locs hz_20 w => ?_)
      refine r_if_ne (pc := 23) (tgt := 29) C (by omega) d_M_set_23 (by decide) (fun c_23 => ?_) (fun c_23 => ?_)
      · skip
        have hb_23 : 0 ≤ x ∧ x ≤ 1 := by omega
        clear hz_20 c_23
        try (have hb2 : s ≤ 1 := by omega)
        rcases (by omega : s = 0 ∨ s = 1) with hcs | hcs
        · subst hcs
          refine r_aload_n (pc := 29) C d_M_set_29 rfl (lv_at hl 0 rfl) ?_
          refine r_callVV (pc := 30) (As := []) (rest := []) (wr := []) C w (c_M_records hT q0 q1 q2 q3 q4 q5 q6 q7 q8 q9 nw pt rcd sl sv li ot len pd m wr wm ss lz rm  (by omega)) ml_M_62 im_M_records se_M_records ini_M cd_M_records hd_M_records rfl (by rw [hRm]; exact ⟨⟨Nat.le_of_ble_eq_true rfl, Nat.le_of_ble_eq_true rfl⟩, Nat.le_of_ble_eq_true rfl, Nat.le_of_ble_eq_true rfl⟩) hl.1 [0, 1, 2, 3, 4, 5, 6, 7, 8, 9] [] ⟨rfl, rfl, by decide, by decide, by decide⟩ 0 rfl rfl rfl (Nat.le_of_ble_eq_true rfl) d_M_set_30 (fun u_30 H locs hz_30 w => ?_)
          obtain ⟨pt_30, np_30, rfl, hrec_30⟩ := hz_30
          have w : Wd X (mw cI q0 q1 q2 q3 q4 q5 q6 q7 q8 q9 nw pt_30 np_30 sl sv li ot len pd m wr wm ss lz rm) H locs := w
          refine r_aload_n (pc := 33) C d_M_set_33 rfl (lv_at hl 0 rfl) ?_
          refine r_get (pc := 34) (v := .ref q1) C w i_M rfl 0 rfl 0 (by decide) fl_M_7 rfl rfl d_M_set_34 ?_
          refine r_iload_n (pc := 37) C d_M_set_37 rfl (lv_at hl 1 rfl) ?_
          refine r_iald (pc := 38) (f := nw) (i := 0) C w 0 1 rfl hT.1 (by omega) d_M_set_38 ?_
          refine r_istore_n (pc := 39) (lv' := [(3, .int (iI (nw 0))), (0, .ref q0), (1, .int (iI 0)), (2, .int (iI x))]) C d_M_set_39 rfl hl (by decide) rfl (fun ls hl => ?_)
          refine r_aload_n (pc := 40) C d_M_set_40 rfl (lv_at hl 1 rfl) ?_
          refine r_get (pc := 41) (v := .ref q1) C w i_M rfl 0 rfl 0 (by decide) fl_M_7 rfl rfl d_M_set_41 ?_
          refine r_iload_n (pc := 44) C d_M_set_44 rfl (lv_at hl 2 rfl) ?_
          refine r_iload_n (pc := 45) C d_M_set_45 rfl (lv_at hl 3 rfl) ?_
          refine r_iast (pc := 46) (f := nw) (i := 0) (v := x) (ws' := mw cI q0 q1 q2 q3 q4 q5 q6 q7 q8 q9 (up nw 0 x) pt_30 np_30 sl sv li ot len pd m wr wm ss lz rm) C w 0 1 rfl hT.1 (by omega) rfl d_M_set_46 (fun H locs w => ?_)
          refine r_iload_n (pc := 47) C d_M_set_47 rfl (lv_at hl 0 rfl) ?_
          exact kret _ _ _ _ (nw 0) _ d_M_set_48 w (by obtain ⟨g1, g2⟩ := SpE_ok hS (by unfold errSet; (repeat' split) <;> omega) (fits_row hR); have g2 : Pushed ((lc, sd, r, sg, ln, N, v), hist, rcd, slot, uf, T, m) A' x sd N v := (by simpa using g2); have g1 : lc = z := (by simpa using g1); exact ⟨hm0.trans g1, mw_push g2 hR hM hC hrec_30 ⟨up_eq _ _ _, by rw [show (0 : Int) + 1 = 1 from rfl, up_ne _ _ (by omega)]; exact hm1, by rw [show (0 : Int) + 2 = 2 from rfl, up_ne _ _ (by omega)]; exact hm2, fun k k1 k2 => by rw [up_ne _ _ (by omega), up_ne _ _ (by omega)]; exact hM.2.2.2 k k1 k2⟩ hO⟩)
        · subst hcs
          refine r_aload_n (pc := 29) C d_M_set_29 rfl (lv_at hl 0 rfl) ?_
          refine r_callVV (pc := 30) (As := []) (rest := []) (wr := []) C w (c_M_records hT q0 q1 q2 q3 q4 q5 q6 q7 q8 q9 nw pt rcd sl sv li ot len pd m wr wm ss lz rm  (by omega)) ml_M_62 im_M_records se_M_records ini_M cd_M_records hd_M_records rfl (by rw [hRm]; exact ⟨⟨Nat.le_of_ble_eq_true rfl, Nat.le_of_ble_eq_true rfl⟩, Nat.le_of_ble_eq_true rfl, Nat.le_of_ble_eq_true rfl⟩) hl.1 [0, 1, 2, 3, 4, 5, 6, 7, 8, 9] [] ⟨rfl, rfl, by decide, by decide, by decide⟩ 0 rfl rfl rfl (Nat.le_of_ble_eq_true rfl) d_M_set_30 (fun u_30 H locs hz_30 w => ?_)
          obtain ⟨pt_30, np_30, rfl, hrec_30⟩ := hz_30
          have w : Wd X (mw cI q0 q1 q2 q3 q4 q5 q6 q7 q8 q9 nw pt_30 np_30 sl sv li ot len pd m wr wm ss lz rm) H locs := w
          refine r_aload_n (pc := 33) C d_M_set_33 rfl (lv_at hl 0 rfl) ?_
          refine r_get (pc := 34) (v := .ref q1) C w i_M rfl 0 rfl 0 (by decide) fl_M_7 rfl rfl d_M_set_34 ?_
          refine r_iload_n (pc := 37) C d_M_set_37 rfl (lv_at hl 1 rfl) ?_
          refine r_iald (pc := 38) (f := nw) (i := 1) C w 0 1 rfl hT.1 (by omega) d_M_set_38 ?_
          refine r_istore_n (pc := 39) (lv' := [(3, .int (iI (nw 1))), (0, .ref q0), (1, .int (iI 1)), (2, .int (iI x))]) C d_M_set_39 rfl hl (by decide) rfl (fun ls hl => ?_)
          refine r_aload_n (pc := 40) C d_M_set_40 rfl (lv_at hl 1 rfl) ?_
          refine r_get (pc := 41) (v := .ref q1) C w i_M rfl 0 rfl 0 (by decide) fl_M_7 rfl rfl d_M_set_41 ?_
          refine r_iload_n (pc := 44) C d_M_set_44 rfl (lv_at hl 2 rfl) ?_
          refine r_iload_n (pc := 45) C d_M_set_45 rfl (lv_at hl 3 rfl) ?_
          refine r_iast (pc := 46) (f := nw) (i := 1) (v := x) (ws' := mw cI q0 q1 q2 q3 q4 q5 q6 q7 q8 q9 (up nw 1 x) pt_30 np_30 sl sv li ot len pd m wr wm ss lz rm) C w 0 1 rfl hT.1 (by omega) rfl d_M_set_46 (fun H locs w => ?_)
          refine r_iload_n (pc := 47) C d_M_set_47 rfl (lv_at hl 0 rfl) ?_
          exact kret _ _ _ _ (nw 1) _ d_M_set_48 w (by obtain ⟨g1, g2⟩ := SpE_ok hS (by unfold errSet; (repeat' split) <;> omega) (fits_row hR); have g2 : Pushed ((lc, sd, r, sg, ln, N, v), hist, rcd, slot, uf, T, m) A' lc x N v := (by simpa using g2); have g1 : sd = z := (by simpa using g1); exact ⟨hm1.trans g1, mw_push g2 hR hM hC hrec_30 ⟨by rw [up_ne _ _ (by omega)]; exact hm0, by rw [show (0 : Int) + 1 = 1 from rfl, up_eq], by rw [show (0 : Int) + 2 = 2 from rfl, up_ne _ _ (by omega)]; exact hm2, fun k k1 k2 => by rw [up_ne _ _ (by omega), up_ne _ _ (by omega)]; exact hM.2.2.2 k k1 k2⟩ hO⟩)
      · skip
        have hb_23 : ¬ (0 ≤ x ∧ x ≤ 1) := by omega
        clear hz_20 c_23
        refine r_bipush (pc := 26) C d_M_set_26 (by decide) ?_
        exact kret _ _ _ _ (-2) _ d_M_set_28 w (by obtain ⟨g1, rfl⟩ := SpE_err hS (-2) (by unfold errSet; (repeat' split) <;> omega) (by omega); exact ⟨g1, ⟨hR, q1, q2, q3, q4, q5, q6, q7, q8, q9, nw, pt, sl, sv, _, _, _, pd, wr, wm, ss, lz, rm, rfl, hM, hC⟩⟩)
    · skip
      refine r_iconst (pc := 15) C d_M_set_15 ?_
      refine r_goto (pc := 16) (tgt := 20) C d_M_set_16 (by decide) ?_
      refine r_callP (pc := 20) (As := [.int (iI x), .int (iI 0), .int (iI 2)]) (rest := []) C w (c_M_in x 0 2 (by omega)) ml_M_75 st_M_in ini_M cd_M_in hd_M_in rfl (by rw [hRm]; exact ⟨⟨Nat.le_of_ble_eq_true rfl, Nat.le_of_ble_eq_true rfl⟩, Nat.le_of_ble_eq_true rfl, Nat.le_of_ble_eq_true rfl⟩) hl.1 rfl (Nat.le_of_ble_eq_true rfl) d_M_set_20 (fun z_20 H locs hz_20 w => ?_)
      refine r_if_ne (pc := 23) (tgt := 29) C (by omega) d_M_set_23 (by decide) (fun c_23 => ?_) (fun c_23 => ?_)
      · skip
        have hb_23 : 0 ≤ x ∧ x ≤ 2 := by omega
        clear hz_20 c_23
        try (have hb2 : s ≤ 1 := by omega)
        rcases (by omega : s = 0 ∨ s = 1) with hcs | hcs
        · subst hcs
          refine r_aload_n (pc := 29) C d_M_set_29 rfl (lv_at hl 0 rfl) ?_
          refine r_callVV (pc := 30) (As := []) (rest := []) (wr := []) C w (c_M_records hT q0 q1 q2 q3 q4 q5 q6 q7 q8 q9 nw pt rcd sl sv li ot len pd m wr wm ss lz rm  (by omega)) ml_M_62 im_M_records se_M_records ini_M cd_M_records hd_M_records rfl (by rw [hRm]; exact ⟨⟨Nat.le_of_ble_eq_true rfl, Nat.le_of_ble_eq_true rfl⟩, Nat.le_of_ble_eq_true rfl, Nat.le_of_ble_eq_true rfl⟩) hl.1 [0, 1, 2, 3, 4, 5, 6, 7, 8, 9] [] ⟨rfl, rfl, by decide, by decide, by decide⟩ 0 rfl rfl rfl (Nat.le_of_ble_eq_true rfl) d_M_set_30 (fun u_30 H locs hz_30 w => ?_)
          obtain ⟨pt_30, np_30, rfl, hrec_30⟩ := hz_30
          have w : Wd X (mw cI q0 q1 q2 q3 q4 q5 q6 q7 q8 q9 nw pt_30 np_30 sl sv li ot len pd m wr wm ss lz rm) H locs := w
          refine r_aload_n (pc := 33) C d_M_set_33 rfl (lv_at hl 0 rfl) ?_
          refine r_get (pc := 34) (v := .ref q1) C w i_M rfl 0 rfl 0 (by decide) fl_M_7 rfl rfl d_M_set_34 ?_
          refine r_iload_n (pc := 37) C d_M_set_37 rfl (lv_at hl 1 rfl) ?_
          refine r_iald (pc := 38) (f := nw) (i := 0) C w 0 1 rfl hT.1 (by omega) d_M_set_38 ?_
          refine r_istore_n (pc := 39) (lv' := [(3, .int (iI (nw 0))), (0, .ref q0), (1, .int (iI 0)), (2, .int (iI x))]) C d_M_set_39 rfl hl (by decide) rfl (fun ls hl => ?_)
          refine r_aload_n (pc := 40) C d_M_set_40 rfl (lv_at hl 1 rfl) ?_
          refine r_get (pc := 41) (v := .ref q1) C w i_M rfl 0 rfl 0 (by decide) fl_M_7 rfl rfl d_M_set_41 ?_
          refine r_iload_n (pc := 44) C d_M_set_44 rfl (lv_at hl 2 rfl) ?_
          refine r_iload_n (pc := 45) C d_M_set_45 rfl (lv_at hl 3 rfl) ?_
          refine r_iast (pc := 46) (f := nw) (i := 0) (v := x) (ws' := mw cI q0 q1 q2 q3 q4 q5 q6 q7 q8 q9 (up nw 0 x) pt_30 np_30 sl sv li ot len pd m wr wm ss lz rm) C w 0 1 rfl hT.1 (by omega) rfl d_M_set_46 (fun H locs w => ?_)
          refine r_iload_n (pc := 47) C d_M_set_47 rfl (lv_at hl 0 rfl) ?_
          exact kret _ _ _ _ (nw 0) _ d_M_set_48 w (by obtain ⟨g1, g2⟩ := SpE_ok hS (by unfold errSet; (repeat' split) <;> omega) (fits_row hR); have g2 : Pushed ((lc, sd, r, sg, ln, N, v), hist, rcd, slot, uf, T, m) A' x sd N v := (by simpa using g2); have g1 : lc = z := (by simpa using g1); exact ⟨hm0.trans g1, mw_push g2 hR hM hC hrec_30 ⟨up_eq _ _ _, by rw [show (0 : Int) + 1 = 1 from rfl, up_ne _ _ (by omega)]; exact hm1, by rw [show (0 : Int) + 2 = 2 from rfl, up_ne _ _ (by omega)]; exact hm2, fun k k1 k2 => by rw [up_ne _ _ (by omega), up_ne _ _ (by omega)]; exact hM.2.2.2 k k1 k2⟩ hO⟩)
        · subst hcs
          refine r_aload_n (pc := 29) C d_M_set_29 rfl (lv_at hl 0 rfl) ?_
          refine r_callVV (pc := 30) (As := []) (rest := []) (wr := []) C w (c_M_records hT q0 q1 q2 q3 q4 q5 q6 q7 q8 q9 nw pt rcd sl sv li ot len pd m wr wm ss lz rm  (by omega)) ml_M_62 im_M_records se_M_records ini_M cd_M_records hd_M_records rfl (by rw [hRm]; exact ⟨⟨Nat.le_of_ble_eq_true rfl, Nat.le_of_ble_eq_true rfl⟩, Nat.le_of_ble_eq_true rfl, Nat.le_of_ble_eq_true rfl⟩) hl.1 [0, 1, 2, 3, 4, 5, 6, 7, 8, 9] [] ⟨rfl, rfl, by decide, by decide, by decide⟩ 0 rfl rfl rfl (Nat.le_of_ble_eq_true rfl) d_M_set_30 (fun u_30 H locs hz_30 w => ?_)
          obtain ⟨pt_30, np_30, rfl, hrec_30⟩ := hz_30
          have w : Wd X (mw cI q0 q1 q2 q3 q4 q5 q6 q7 q8 q9 nw pt_30 np_30 sl sv li ot len pd m wr wm ss lz rm) H locs := w
          refine r_aload_n (pc := 33) C d_M_set_33 rfl (lv_at hl 0 rfl) ?_
          refine r_get (pc := 34) (v := .ref q1) C w i_M rfl 0 rfl 0 (by decide) fl_M_7 rfl rfl d_M_set_34 ?_
          refine r_iload_n (pc := 37) C d_M_set_37 rfl (lv_at hl 1 rfl) ?_
          refine r_iald (pc := 38) (f := nw) (i := 1) C w 0 1 rfl hT.1 (by omega) d_M_set_38 ?_
          refine r_istore_n (pc := 39) (lv' := [(3, .int (iI (nw 1))), (0, .ref q0), (1, .int (iI 1)), (2, .int (iI x))]) C d_M_set_39 rfl hl (by decide) rfl (fun ls hl => ?_)
          refine r_aload_n (pc := 40) C d_M_set_40 rfl (lv_at hl 1 rfl) ?_
          refine r_get (pc := 41) (v := .ref q1) C w i_M rfl 0 rfl 0 (by decide) fl_M_7 rfl rfl d_M_set_41 ?_
          refine r_iload_n (pc := 44) C d_M_set_44 rfl (lv_at hl 2 rfl) ?_
          refine r_iload_n (pc := 45) C d_M_set_45 rfl (lv_at hl 3 rfl) ?_
          refine r_iast (pc := 46) (f := nw) (i := 1) (v := x) (ws' := mw cI q0 q1 q2 q3 q4 q5 q6 q7 q8 q9 (up nw 1 x) pt_30 np_30 sl sv li ot len pd m wr wm ss lz rm) C w 0 1 rfl hT.1 (by omega) rfl d_M_set_46 (fun H locs w => ?_)
          refine r_iload_n (pc := 47) C d_M_set_47 rfl (lv_at hl 0 rfl) ?_
          exact kret _ _ _ _ (nw 1) _ d_M_set_48 w (by obtain ⟨g1, g2⟩ := SpE_ok hS (by unfold errSet; (repeat' split) <;> omega) (fits_row hR); have g2 : Pushed ((lc, sd, r, sg, ln, N, v), hist, rcd, slot, uf, T, m) A' lc x N v := (by simpa using g2); have g1 : sd = z := (by simpa using g1); exact ⟨hm1.trans g1, mw_push g2 hR hM hC hrec_30 ⟨by rw [up_ne _ _ (by omega)]; exact hm0, by rw [show (0 : Int) + 1 = 1 from rfl, up_eq], by rw [show (0 : Int) + 2 = 2 from rfl, up_ne _ _ (by omega)]; exact hm2, fun k k1 k2 => by rw [up_ne _ _ (by omega), up_ne _ _ (by omega)]; exact hM.2.2.2 k k1 k2⟩ hO⟩)
      · skip
        have hb_23 : ¬ (0 ≤ x ∧ x ≤ 2) := by omega
        clear hz_20 c_23
        refine r_bipush (pc := 26) C d_M_set_26 (by decide) ?_
        exact kret _ _ _ _ (-2) _ d_M_set_28 w (by obtain ⟨g1, rfl⟩ := SpE_err hS (-2) (by unfold errSet; (repeat' split) <;> omega) (by omega); exact ⟨g1, ⟨hR, q1, q2, q3, q4, q5, q6, q7, q8, q9, nw, pt, sl, sv, _, _, _, pd, wr, wm, ss, lz, rm, rfl, hM, hC⟩⟩)
theorem d_M_undo_0 : decode b_M_undo 0 = .ok (.aload_n 0, 1) := by decide +kernel
theorem d_M_undo_1 : decode b_M_undo 1 = .ok (.getfield 37, 3) := by decide +kernel
theorem d_M_undo_4 : decode b_M_undo 4 = .ok (.ifCond .ne 6, 3) := by decide +kernel
theorem d_M_undo_7 : decode b_M_undo 7 = .ok (.bipush (-5), 2) := by decide +kernel
theorem d_M_undo_9 : decode b_M_undo 9 = .ok (.ireturn, 1) := by decide +kernel
theorem d_M_undo_10 : decode b_M_undo 10 = .ok (.aload_n 0, 1) := by decide +kernel
theorem d_M_undo_11 : decode b_M_undo 11 = .ok (.dup, 1) := by decide +kernel
theorem d_M_undo_12 : decode b_M_undo 12 = .ok (.getfield 37, 3) := by decide +kernel
theorem d_M_undo_15 : decode b_M_undo 15 = .ok (.iconst 1, 1) := by decide +kernel
theorem d_M_undo_16 : decode b_M_undo 16 = .ok (.isub, 1) := by decide +kernel
theorem d_M_undo_17 : decode b_M_undo 17 = .ok (.putfield 37, 3) := by decide +kernel
theorem d_M_undo_20 : decode b_M_undo 20 = .ok (.aload_n 0, 1) := by decide +kernel
theorem d_M_undo_21 : decode b_M_undo 21 = .ok (.getfield 13, 3) := by decide +kernel
theorem d_M_undo_24 : decode b_M_undo 24 = .ok (.aload_n 0, 1) := by decide +kernel
theorem d_M_undo_25 : decode b_M_undo 25 = .ok (.getfield 37, 3) := by decide +kernel
theorem d_M_undo_28 : decode b_M_undo 28 = .ok (.bipush 103, 2) := by decide +kernel
theorem d_M_undo_30 : decode b_M_undo 30 = .ok (.imul, 1) := by decide +kernel
theorem d_M_undo_31 : decode b_M_undo 31 = .ok (.aload_n 0, 1) := by decide +kernel
theorem d_M_undo_32 : decode b_M_undo 32 = .ok (.getfield 7, 3) := by decide +kernel
theorem d_M_undo_35 : decode b_M_undo 35 = .ok (.iconst 0, 1) := by decide +kernel
theorem d_M_undo_36 : decode b_M_undo 36 = .ok (.invokestatic 41, 3) := by decide +kernel
theorem d_M_undo_39 : decode b_M_undo 39 = .ok (.aload_n 0, 1) := by decide +kernel
theorem d_M_undo_40 : decode b_M_undo 40 = .ok (.getfield 37, 3) := by decide +kernel
theorem d_M_undo_43 : decode b_M_undo 43 = .ok (.ireturn, 1) := by decide +kernel
set_option maxHeartbeats 4000000 in
set_option maxRecDepth 20000 in
theorem c_M_undo {l : Launch} {G : va_G} {tys : List (ClassId × FieldType)} {cI cO cZ : ClassId} (hT : TY tys cI cO cZ) (q0 : Nat) (A A' : AS) (z : Int) (ws : va_W) (hA : MW cI q0 A ws) (hS : Sp_undo  A z A') : CTI l G tys y_M_undo b_M_undo 1 .int 1 24 [.ref q0] ws (fun z' u => z' = z ∧ MW cI q0 A' u) := by
  obtain ⟨⟨lc, sd, r, sg, ln, N, v⟩, hist, rcd, slot, uf, T, m⟩ := A
  obtain ⟨hR, q1, q2, q3, q4, q5, q6, q7, q8, q9, nw, pt, sl, sv, li, ot, len, pd, wr, wm, ss, lz, rm, rfl, hM, hC⟩ := hA
  have hO := hR.1
  have hr5 := hR.2.1
  have hN3 := hR.2.2.1
  have hN0 := hO.n0
  have hr0 := hO.1
  have hlcd := hR.2.2.2
  have hm80 := hC.2.2.2.2.1
  have hrcd6 := hC.1
  have hvr := hO.v_rg
  have hm0 : nw 0 = lc := hM.1
  have hm1 : nw 1 = sd := hM.2.1
  have hm2 : nw 2 = r := hM.2.2.1
  have hS : (rcd = 0 ∧ z = -5 ∧ A' = ((lc, sd, r, sg, ln, N, v), hist, rcd, slot, uf, T, m)) ∨ (1 ≤ rcd ∧ z = rcd - 1 ∧ A' = (hist (rcd - 1), hist, rcd - 1, slot, uf, T, m)) := hS
  refine mkI (by decide) (Nat.le_of_ble_eq_true rfl) ?_
  rintro X rfl rfl rfl hRm C kret H ls w hl
  have hl : lv_has ls 1 [(0, .ref q0)] := hl
  have w : Wd X (mw cI q0 q1 q2 q3 q4 q5 q6 q7 q8 q9 nw pt rcd sl sv li ot len pd m wr wm ss lz rm) H [] := w
  generalize ([] : List Loc) = locs at w ⊢
  refine r_aload_n (pc := 0) C d_M_undo_0 rfl (lv_at hl 0 rfl) ?_
  refine r_get (pc := 1) (v := .int (iI rcd)) C w i_M rfl 0 rfl 2 (by decide) fl_M_37 rfl rfl d_M_undo_1 ?_
  refine r_if_ne (pc := 4) (tgt := 10) C (by omega) d_M_undo_4 (by decide) (fun c_4 => ?_) (fun c_4 => ?_)
  · skip
    refine r_aload_n (pc := 10) C d_M_undo_10 rfl (lv_at hl 0 rfl) ?_
    refine r_dup (pc := 11) C d_M_undo_11 rfl ?_
    refine r_get (pc := 12) (v := .int (iI rcd)) C w i_M rfl 0 rfl 2 (by decide) fl_M_37 rfl rfl d_M_undo_12 ?_
    refine r_iconst (pc := 15) C d_M_undo_15 ?_
    refine r_isub (pc := 16) C d_M_undo_16 ?_
    refine r_put (pc := 17) (ws' := mw cI q0 q1 q2 q3 q4 q5 q6 q7 q8 q9 nw pt (rcd - 1) sl sv li ot len pd m wr wm ss lz rm) C w i_M t_M t_M_ok n_M rfl 0 rfl 2 (by decide) fl_M_37 rfl rfl rfl rfl (Nat.le_of_ble_eq_true rfl) rfl d_M_undo_17 (fun H locs w => ?_)
    refine r_aload_n (pc := 20) C d_M_undo_20 rfl (lv_at hl 0 rfl) ?_
    refine r_get (pc := 21) (v := .ref q2) C w i_M rfl 0 rfl 1 (by decide) fl_M_13 rfl rfl d_M_undo_21 ?_
    refine r_aload_n (pc := 24) C d_M_undo_24 rfl (lv_at hl 0 rfl) ?_
    refine r_get (pc := 25) (v := .int (iI (rcd - 1))) C w i_M rfl 0 rfl 2 (by decide) fl_M_37 rfl rfl d_M_undo_25 ?_
    refine r_bipush (pc := 28) C d_M_undo_28 (by decide) ?_
    refine r_imul (pc := 30) C d_M_undo_30 ?_
    refine r_aload_n (pc := 31) C d_M_undo_31 rfl (lv_at hl 0 rfl) ?_
    refine r_get (pc := 32) (v := .ref q1) C w i_M rfl 0 rfl 0 (by decide) fl_M_7 rfl rfl d_M_undo_32 ?_
    refine r_iconst (pc := 35) C d_M_undo_35 ?_
    refine r_callSV (pc := 36) (As := [.ref q2, .int (iI ((rcd - 1) * 103)), .ref q1, .int (iI 0)]) (rest := []) (wr := ([(q0, .inr (3, [.ref q1, .ref q2, .int (iI (rcd - 1)), .ref q3, .int (iI sv), .ref q4, .ref q5, .int (iI len), .ref q6, .int (iI m), .ref q7, .int (iI wm), .ref q8, .ref q9, .int (iI rm)])), (q3, aI cI 206 sl), (q4, aI cI 6000 li), (q5, aI cI 3000 ot), (q6, aI cI 80 pd), (q7, aI cI 400 wr), (q8, aI cI 80 ss), (q9, aI cI 80 lz)] : va_W)) C w (c_M_copies hT q2 q1 618 103 pt nw ((rcd - 1) * 103) 0 (by omega) (by omega)) ml_M_41 st_M_copies ini_M cd_M_copies hd_M_copies rfl (by rw [hRm]; exact ⟨⟨Nat.le_of_ble_eq_true rfl, Nat.le_of_ble_eq_true rfl⟩, Nat.le_of_ble_eq_true rfl, Nat.le_of_ble_eq_true rfl⟩) hl.1 [2, 1] [0, 3, 4, 5, 6, 7, 8, 9] ⟨rfl, rfl, by decide, by decide, by decide⟩ rfl (Nat.le_of_ble_eq_true rfl) d_M_undo_36 (fun u_36 H locs hz_36 w => ?_)
    obtain ⟨g_36, rfl, hga_36, hgb_36⟩ := hz_36
    have w : Wd X (mw cI q0 q1 q2 q3 q4 q5 q6 q7 q8 q9 g_36 pt (rcd - 1) sl sv li ot len pd m wr wm ss lz rm) H locs := w.sub [0, 9, 8, 1, 2, 3, 4, 5, 6, 7] rfl (by decide)
    refine r_aload_n (pc := 39) C d_M_undo_39 rfl (lv_at hl 0 rfl) ?_
    refine r_get (pc := 40) (v := .int (iI (rcd - 1))) C w i_M rfl 0 rfl 2 (by decide) fl_M_37 rfl rfl d_M_undo_40 ?_
    exact kret _ _ _ _ (rcd - 1) _ d_M_undo_43 w (by rcases hS with ⟨a1, -⟩ | ⟨a1, a2, rfl⟩; omega; exact ⟨a2.symm, undo_mw hC a1 hga_36⟩)
  · skip
    refine r_bipush (pc := 7) C d_M_undo_7 (by decide) ?_
    exact kret _ _ _ _ (-5) _ d_M_undo_9 w (by rcases hS with ⟨a1, a2, rfl⟩ | ⟨a1, -⟩; exact ⟨a2.symm, ⟨hR, q1, q2, q3, q4, q5, q6, q7, q8, q9, nw, pt, sl, sv, _, _, _, pd, wr, wm, ss, lz, rm, rfl, hM, hC⟩⟩; omega)
theorem d_M_save_0 : decode b_M_save 0 = .ok (.iload_n 1, 1) := by decide +kernel
theorem d_M_save_1 : decode b_M_save 1 = .ok (.iconst 0, 1) := by decide +kernel
theorem d_M_save_2 : decode b_M_save 2 = .ok (.iconst 1, 1) := by decide +kernel
theorem d_M_save_3 : decode b_M_save 3 = .ok (.invokestatic 75, 3) := by decide +kernel
theorem d_M_save_6 : decode b_M_save 6 = .ok (.ifCond .ne 6, 3) := by decide +kernel
theorem d_M_save_9 : decode b_M_save 9 = .ok (.bipush (-2), 2) := by decide +kernel
theorem d_M_save_11 : decode b_M_save 11 = .ok (.ireturn, 1) := by decide +kernel
theorem d_M_save_12 : decode b_M_save 12 = .ok (.aload_n 0, 1) := by decide +kernel
theorem d_M_save_13 : decode b_M_save 13 = .ok (.getfield 7, 3) := by decide +kernel
theorem d_M_save_16 : decode b_M_save 16 = .ok (.iconst 0, 1) := by decide +kernel
theorem d_M_save_17 : decode b_M_save 17 = .ok (.aload_n 0, 1) := by decide +kernel
theorem d_M_save_18 : decode b_M_save 18 = .ok (.getfield 16, 3) := by decide +kernel
theorem d_M_save_21 : decode b_M_save 21 = .ok (.bipush 103, 2) := by decide +kernel
theorem d_M_save_23 : decode b_M_save 23 = .ok (.iload_n 1, 1) := by decide +kernel
theorem d_M_save_24 : decode b_M_save 24 = .ok (.imul, 1) := by decide +kernel
theorem d_M_save_25 : decode b_M_save 25 = .ok (.invokestatic 41, 3) := by decide +kernel
theorem d_M_save_28 : decode b_M_save 28 = .ok (.aload_n 0, 1) := by decide +kernel
theorem d_M_save_29 : decode b_M_save 29 = .ok (.dup, 1) := by decide +kernel
theorem d_M_save_30 : decode b_M_save 30 = .ok (.getfield 143, 3) := by decide +kernel
theorem d_M_save_33 : decode b_M_save 33 = .ok (.iconst 1, 1) := by decide +kernel
theorem d_M_save_34 : decode b_M_save 34 = .ok (.iload_n 1, 1) := by decide +kernel
theorem d_M_save_35 : decode b_M_save 35 = .ok (.ishl, 1) := by decide +kernel
theorem d_M_save_36 : decode b_M_save 36 = .ok (.ior, 1) := by decide +kernel
theorem d_M_save_37 : decode b_M_save 37 = .ok (.putfield 143, 3) := by decide +kernel
theorem d_M_save_40 : decode b_M_save 40 = .ok (.aload_n 0, 1) := by decide +kernel
theorem d_M_save_41 : decode b_M_save 41 = .ok (.invokevirtual 146, 3) := by decide +kernel
theorem d_M_save_44 : decode b_M_save 44 = .ok (.ireturn, 1) := by decide +kernel
set_option maxHeartbeats 4000000 in
set_option maxRecDepth 20000 in
theorem c_M_save {l : Launch} {G : va_G} {tys : List (ClassId × FieldType)} {cI cO cZ : ClassId} (hT : TY tys cI cO cZ) (q0 : Nat) (A A' : AS) (z : Int) (ws : va_W) (hA : MW cI q0 A ws) (s : Int) (hrg : (-2147483648 ≤ s ∧ s < 2147483648)) (hS : Sp_save s A z A') : CTI l G tys y_M_save b_M_save 2 .int 3 64 [.ref q0, .int (iI s)] ws (fun z' u => z' = z ∧ MW cI q0 A' u) := by
  obtain ⟨⟨lc, sd, r, sg, ln, N, v⟩, hist, rcd, slot, uf, T, m⟩ := A
  obtain ⟨hR, q1, q2, q3, q4, q5, q6, q7, q8, q9, nw, pt, sl, sv, li, ot, len, pd, wr, wm, ss, lz, rm, rfl, hM, hC⟩ := hA
  have hO := hR.1
  have hr5 := hR.2.1
  have hN3 := hR.2.2.1
  have hN0 := hO.n0
  have hr0 := hO.1
  have hlcd := hR.2.2.2
  have hm80 := hC.2.2.2.2.1
  have hrcd6 := hC.1
  have hvr := hO.v_rg
  have hm0 : nw 0 = lc := hM.1
  have hm1 : nw 1 = sd := hM.2.1
  have hm2 : nw 2 = r := hM.2.2.1
  have hS : (¬ (0 ≤ s ∧ s ≤ 1) ∧ z = -2 ∧ A' = ((lc, sd, r, sg, ln, N, v), hist, rcd, slot, uf, T, m)) ∨ ((0 ≤ s ∧ s ≤ 1) ∧ z = N ∧ ∃ sg' ln' : Int → Int, RwOk lc sd r sg' ln' N v ∧ A' = ((lc, sd, r, sg, ln, N, v), hist, rcd, up slot s (lc, sd, r, sg', ln', N, v), up uf s 1, T, m)) := hS
  have hu0 := (hC.2.2.1 0 (by omega) (by omega)).1
  have hu1 := (hC.2.2.1 1 (by omega) (by omega)).1
  have hsv := hC.2.2.2.1
  refine mkI (by decide) (Nat.le_of_ble_eq_true rfl) ?_
  rintro X rfl rfl rfl hRm C kret H ls w hl
  have hl : lv_has ls 2 [(0, .ref q0), (1, .int (iI s))] := hl
  have w : Wd X (mw cI q0 q1 q2 q3 q4 q5 q6 q7 q8 q9 nw pt rcd sl sv li ot len pd m wr wm ss lz rm) H [] := w
  generalize ([] : List Loc) = locs at w ⊢
  refine r_iload_n (pc := 0) C d_M_save_0 rfl (lv_at hl 1 rfl) ?_
  refine r_iconst (pc := 1) C d_M_save_1 ?_
  refine r_iconst (pc := 2) C d_M_save_2 ?_
  refine r_callP (pc := 3) (As := [.int (iI s), .int (iI 0), .int (iI 1)]) (rest := []) C w (c_M_in s 0 1 (by omega)) ml_M_75 st_M_in ini_M cd_M_in hd_M_in rfl (by rw [hRm]; exact ⟨⟨Nat.le_of_ble_eq_true rfl, Nat.le_of_ble_eq_true rfl⟩, Nat.le_of_ble_eq_true rfl, Nat.le_of_ble_eq_true rfl⟩) hl.1 rfl (Nat.le_of_ble_eq_true rfl) d_M_save_3 (fun z_3 H locs hz_3 w => ?_)
  refine r_if_ne (pc := 6) (tgt := 12) C (by omega) d_M_save_6 (by decide) (fun c_6 => ?_) (fun c_6 => ?_)
  · skip
    have hb_6 : 0 ≤ s ∧ s ≤ 1 := by omega
    clear hz_3 c_6
    rcases (by omega : s = 0 ∨ s = 1) with hcs | hcs
    · subst hcs
      refine r_aload_n (pc := 12) C d_M_save_12 rfl (lv_at hl 0 rfl) ?_
      refine r_get (pc := 13) (v := .ref q1) C w i_M rfl 0 rfl 0 (by decide) fl_M_7 rfl rfl d_M_save_13 ?_
      refine r_iconst (pc := 16) C d_M_save_16 ?_
      refine r_aload_n (pc := 17) C d_M_save_17 rfl (lv_at hl 0 rfl) ?_
      refine r_get (pc := 18) (v := .ref q3) C w i_M rfl 0 rfl 3 (by decide) fl_M_16 rfl rfl d_M_save_18 ?_
      refine r_bipush (pc := 21) C d_M_save_21 (by decide) ?_
      refine r_iload_n (pc := 23) C d_M_save_23 rfl (lv_at hl 1 rfl) ?_
      refine r_imul (pc := 24) C d_M_save_24 ?_
      refine r_callSV (pc := 25) (As := [.ref q1, .int (iI 0), .ref q3, .int (iI (103 * 0))]) (rest := []) (wr := ([(q0, .inr (3, [.ref q1, .ref q2, .int (iI rcd), .ref q3, .int (iI sv), .ref q4, .ref q5, .int (iI len), .ref q6, .int (iI m), .ref q7, .int (iI wm), .ref q8, .ref q9, .int (iI rm)])), (q2, aI cI 618 pt), (q4, aI cI 6000 li), (q5, aI cI 3000 ot), (q6, aI cI 80 pd), (q7, aI cI 400 wr), (q8, aI cI 80 ss), (q9, aI cI 80 lz)] : va_W)) C w (c_M_copies hT q1 q3 103 206 nw sl 0 (103 * 0) (by omega) (by omega)) ml_M_41 st_M_copies ini_M cd_M_copies hd_M_copies rfl (by rw [hRm]; exact ⟨⟨Nat.le_of_ble_eq_true rfl, Nat.le_of_ble_eq_true rfl⟩, Nat.le_of_ble_eq_true rfl, Nat.le_of_ble_eq_true rfl⟩) hl.1 [1, 3] [0, 2, 4, 5, 6, 7, 8, 9] ⟨rfl, rfl, by decide, by decide, by decide⟩ rfl (Nat.le_of_ble_eq_true rfl) d_M_save_25 (fun u_25 H locs hz_25 w => ?_)
      obtain ⟨g_25, rfl, hga_25, hgb_25⟩ := hz_25
      have w : Wd X (mw cI q0 q1 q2 q3 q4 q5 q6 q7 q8 q9 nw pt rcd g_25 sv li ot len pd m wr wm ss lz rm) H locs := w.sub [0, 8, 1, 9, 2, 3, 4, 5, 6, 7] rfl (by decide)
      refine r_aload_n (pc := 28) C d_M_save_28 rfl (lv_at hl 0 rfl) ?_
      refine r_dup (pc := 29) C d_M_save_29 rfl ?_
      refine r_get (pc := 30) (v := .int (iI sv)) C w i_M rfl 0 rfl 4 (by decide) fl_M_143 rfl rfl d_M_save_30 ?_
      refine r_iconst (pc := 33) C d_M_save_33 ?_
      refine r_iload_n (pc := 34) C d_M_save_34 rfl (lv_at hl 1 rfl) ?_
      refine r_ishl (pc := 35) C d_M_save_35 ?_
      refine r_ior (pc := 36) C d_M_save_36 ?_
      refine r_top (y := iI (1 + 2 * uf 1)) (by rw [hsv]; exact or_slot0 hu0 hu1) ?_
      refine r_put (pc := 37) (ws' := mw cI q0 q1 q2 q3 q4 q5 q6 q7 q8 q9 nw pt rcd g_25 (1 + 2 * uf 1) li ot len pd m wr wm ss lz rm) C w i_M t_M t_M_ok n_M rfl 0 rfl 4 (by decide) fl_M_143 rfl rfl rfl rfl (Nat.le_of_ble_eq_true rfl) rfl d_M_save_37 (fun H locs w => ?_)
      refine r_aload_n (pc := 40) C d_M_save_40 rfl (lv_at hl 0 rfl) ?_
      refine r_callVI (pc := 41) (As := []) (rest := []) (wr := []) C w (c_M_lengthAll hT q0 q1 q2 q3 q4 q5 q6 q7 q8 q9 nw pt rcd g_25 (1 + 2 * uf 1) li ot len pd m wr wm ss lz rm  _ _ _ _ _ _ _ hR hM) ml_M_146 im_M_lengthAll se_M_lengthAll ini_M cd_M_lengthAll hd_M_lengthAll rfl (by rw [hRm]; exact ⟨⟨Nat.le_of_ble_eq_true rfl, Nat.le_of_ble_eq_true rfl⟩, Nat.le_of_ble_eq_true rfl, Nat.le_of_ble_eq_true rfl⟩) hl.1 [0, 1, 2, 3, 4, 5, 6, 7, 8, 9] [] ⟨rfl, rfl, by decide, by decide, by decide⟩ 0 rfl rfl rfl (Nat.le_of_ble_eq_true rfl) d_M_save_41 (fun z_41 u_41 H locs hz_41 w => ?_)
      obtain ⟨rfl, hz_41⟩ := hz_41
      have w : Wd X (mw cI q0 q1 q2 q3 q4 q5 q6 q7 q8 q9 nw pt rcd g_25 (1 + 2 * uf 1) li ot len pd m wr wm ss lz rm) H locs := w
      exact kret _ _ _ _ z_41 _ d_M_save_44 w (by rcases hS with ⟨a1, -⟩ | ⟨-, a2, sg', ln', a3, rfl⟩; omega; exact ⟨hz_41.trans a2.symm, save_mw hR a3 hM hC (by omega) (by rw [up_eq, up_ne _ _ (by omega)]) hga_25 hgb_25⟩)
    · subst hcs
      refine r_aload_n (pc := 12) C d_M_save_12 rfl (lv_at hl 0 rfl) ?_
      refine r_get (pc := 13) (v := .ref q1) C w i_M rfl 0 rfl 0 (by decide) fl_M_7 rfl rfl d_M_save_13 ?_
      refine r_iconst (pc := 16) C d_M_save_16 ?_
      refine r_aload_n (pc := 17) C d_M_save_17 rfl (lv_at hl 0 rfl) ?_
      refine r_get (pc := 18) (v := .ref q3) C w i_M rfl 0 rfl 3 (by decide) fl_M_16 rfl rfl d_M_save_18 ?_
      refine r_bipush (pc := 21) C d_M_save_21 (by decide) ?_
      refine r_iload_n (pc := 23) C d_M_save_23 rfl (lv_at hl 1 rfl) ?_
      refine r_imul (pc := 24) C d_M_save_24 ?_
      refine r_callSV (pc := 25) (As := [.ref q1, .int (iI 0), .ref q3, .int (iI (103 * 1))]) (rest := []) (wr := ([(q0, .inr (3, [.ref q1, .ref q2, .int (iI rcd), .ref q3, .int (iI sv), .ref q4, .ref q5, .int (iI len), .ref q6, .int (iI m), .ref q7, .int (iI wm), .ref q8, .ref q9, .int (iI rm)])), (q2, aI cI 618 pt), (q4, aI cI 6000 li), (q5, aI cI 3000 ot), (q6, aI cI 80 pd), (q7, aI cI 400 wr), (q8, aI cI 80 ss), (q9, aI cI 80 lz)] : va_W)) C w (c_M_copies hT q1 q3 103 206 nw sl 0 (103 * 1) (by omega) (by omega)) ml_M_41 st_M_copies ini_M cd_M_copies hd_M_copies rfl (by rw [hRm]; exact ⟨⟨Nat.le_of_ble_eq_true rfl, Nat.le_of_ble_eq_true rfl⟩, Nat.le_of_ble_eq_true rfl, Nat.le_of_ble_eq_true rfl⟩) hl.1 [1, 3] [0, 2, 4, 5, 6, 7, 8, 9] ⟨rfl, rfl, by decide, by decide, by decide⟩ rfl (Nat.le_of_ble_eq_true rfl) d_M_save_25 (fun u_25 H locs hz_25 w => ?_)
      obtain ⟨g_25, rfl, hga_25, hgb_25⟩ := hz_25
      have w : Wd X (mw cI q0 q1 q2 q3 q4 q5 q6 q7 q8 q9 nw pt rcd g_25 sv li ot len pd m wr wm ss lz rm) H locs := w.sub [0, 8, 1, 9, 2, 3, 4, 5, 6, 7] rfl (by decide)
      refine r_aload_n (pc := 28) C d_M_save_28 rfl (lv_at hl 0 rfl) ?_
      refine r_dup (pc := 29) C d_M_save_29 rfl ?_
      refine r_get (pc := 30) (v := .int (iI sv)) C w i_M rfl 0 rfl 4 (by decide) fl_M_143 rfl rfl d_M_save_30 ?_
      refine r_iconst (pc := 33) C d_M_save_33 ?_
      refine r_iload_n (pc := 34) C d_M_save_34 rfl (lv_at hl 1 rfl) ?_
      refine r_ishl (pc := 35) C d_M_save_35 ?_
      refine r_ior (pc := 36) C d_M_save_36 ?_
      refine r_top (y := iI (uf 0 + 2 * 1)) (by rw [hsv]; exact or_slot1 hu0 hu1) ?_
      refine r_put (pc := 37) (ws' := mw cI q0 q1 q2 q3 q4 q5 q6 q7 q8 q9 nw pt rcd g_25 (uf 0 + 2 * 1) li ot len pd m wr wm ss lz rm) C w i_M t_M t_M_ok n_M rfl 0 rfl 4 (by decide) fl_M_143 rfl rfl rfl rfl (Nat.le_of_ble_eq_true rfl) rfl d_M_save_37 (fun H locs w => ?_)
      refine r_aload_n (pc := 40) C d_M_save_40 rfl (lv_at hl 0 rfl) ?_
      refine r_callVI (pc := 41) (As := []) (rest := []) (wr := []) C w (c_M_lengthAll hT q0 q1 q2 q3 q4 q5 q6 q7 q8 q9 nw pt rcd g_25 (uf 0 + 2 * 1) li ot len pd m wr wm ss lz rm  _ _ _ _ _ _ _ hR hM) ml_M_146 im_M_lengthAll se_M_lengthAll ini_M cd_M_lengthAll hd_M_lengthAll rfl (by rw [hRm]; exact ⟨⟨Nat.le_of_ble_eq_true rfl, Nat.le_of_ble_eq_true rfl⟩, Nat.le_of_ble_eq_true rfl, Nat.le_of_ble_eq_true rfl⟩) hl.1 [0, 1, 2, 3, 4, 5, 6, 7, 8, 9] [] ⟨rfl, rfl, by decide, by decide, by decide⟩ 0 rfl rfl rfl (Nat.le_of_ble_eq_true rfl) d_M_save_41 (fun z_41 u_41 H locs hz_41 w => ?_)
      obtain ⟨rfl, hz_41⟩ := hz_41
      have w : Wd X (mw cI q0 q1 q2 q3 q4 q5 q6 q7 q8 q9 nw pt rcd g_25 (uf 0 + 2 * 1) li ot len pd m wr wm ss lz rm) H locs := w
      exact kret _ _ _ _ z_41 _ d_M_save_44 w (by rcases hS with ⟨a1, -⟩ | ⟨-, a2, sg', ln', a3, rfl⟩; omega; exact ⟨hz_41.trans a2.symm, save_mw hR a3 hM hC (by omega) (by rw [up_ne _ _ (by omega), up_eq]) hga_25 hgb_25⟩)
  · skip
    have hb_6 : ¬ (0 ≤ s ∧ s ≤ 1) := by omega
    clear hz_3 c_6
    refine r_bipush (pc := 9) C d_M_save_9 (by decide) ?_
    exact kret _ _ _ _ (-2) _ d_M_save_11 w (by rcases hS with ⟨a1, a2, rfl⟩ | ⟨a1, -⟩; exact ⟨a2.symm, ⟨hR, q1, q2, q3, q4, q5, q6, q7, q8, q9, nw, pt, sl, sv, _, _, _, pd, wr, wm, ss, lz, rm, rfl, hM, hC⟩⟩; omega)
theorem d_M_restore_0 : decode b_M_restore 0 = .ok (.iload_n 1, 1) := by decide +kernel
theorem d_M_restore_1 : decode b_M_restore 1 = .ok (.iconst 0, 1) := by decide +kernel
theorem d_M_restore_2 : decode b_M_restore 2 = .ok (.iconst 1, 1) := by decide +kernel
theorem d_M_restore_3 : decode b_M_restore 3 = .ok (.invokestatic 75, 3) := by decide +kernel
theorem d_M_restore_6 : decode b_M_restore 6 = .ok (.ifCond .ne 6, 3) := by decide +kernel
theorem d_M_restore_9 : decode b_M_restore 9 = .ok (.bipush (-2), 2) := by decide +kernel
theorem d_M_restore_11 : decode b_M_restore 11 = .ok (.ireturn, 1) := by decide +kernel
theorem d_M_restore_12 : decode b_M_restore 12 = .ok (.aload_n 0, 1) := by decide +kernel
theorem d_M_restore_13 : decode b_M_restore 13 = .ok (.getfield 143, 3) := by decide +kernel
theorem d_M_restore_16 : decode b_M_restore 16 = .ok (.iload_n 1, 1) := by decide +kernel
theorem d_M_restore_17 : decode b_M_restore 17 = .ok (.ishr, 1) := by decide +kernel
theorem d_M_restore_18 : decode b_M_restore 18 = .ok (.iconst 1, 1) := by decide +kernel
theorem d_M_restore_19 : decode b_M_restore 19 = .ok (.iand, 1) := by decide +kernel
theorem d_M_restore_20 : decode b_M_restore 20 = .ok (.ifCond .ne 6, 3) := by decide +kernel
theorem d_M_restore_23 : decode b_M_restore 23 = .ok (.bipush (-5), 2) := by decide +kernel
theorem d_M_restore_25 : decode b_M_restore 25 = .ok (.ireturn, 1) := by decide +kernel
theorem d_M_restore_26 : decode b_M_restore 26 = .ok (.aload_n 0, 1) := by decide +kernel
theorem d_M_restore_27 : decode b_M_restore 27 = .ok (.invokevirtual 62, 3) := by decide +kernel
theorem d_M_restore_30 : decode b_M_restore 30 = .ok (.aload_n 0, 1) := by decide +kernel
theorem d_M_restore_31 : decode b_M_restore 31 = .ok (.getfield 16, 3) := by decide +kernel
theorem d_M_restore_34 : decode b_M_restore 34 = .ok (.bipush 103, 2) := by decide +kernel
theorem d_M_restore_36 : decode b_M_restore 36 = .ok (.iload_n 1, 1) := by decide +kernel
theorem d_M_restore_37 : decode b_M_restore 37 = .ok (.imul, 1) := by decide +kernel
theorem d_M_restore_38 : decode b_M_restore 38 = .ok (.aload_n 0, 1) := by decide +kernel
theorem d_M_restore_39 : decode b_M_restore 39 = .ok (.getfield 7, 3) := by decide +kernel
theorem d_M_restore_42 : decode b_M_restore 42 = .ok (.iconst 0, 1) := by decide +kernel
theorem d_M_restore_43 : decode b_M_restore 43 = .ok (.invokestatic 41, 3) := by decide +kernel
theorem d_M_restore_46 : decode b_M_restore 46 = .ok (.aload_n 0, 1) := by decide +kernel
theorem d_M_restore_47 : decode b_M_restore 47 = .ok (.invokevirtual 146, 3) := by decide +kernel
theorem d_M_restore_50 : decode b_M_restore 50 = .ok (.ireturn, 1) := by decide +kernel
set_option maxHeartbeats 4000000 in
set_option maxRecDepth 20000 in
theorem c_M_restore {l : Launch} {G : va_G} {tys : List (ClassId × FieldType)} {cI cO cZ : ClassId} (hT : TY tys cI cO cZ) (q0 : Nat) (A A' : AS) (z : Int) (ws : va_W) (hA : MW cI q0 A ws) (s : Int) (hrg : (-2147483648 ≤ s ∧ s < 2147483648)) (hS : Sp_restore s A z A') : CTI l G tys y_M_restore b_M_restore 2 .int 3 64 [.ref q0, .int (iI s)] ws (fun z' u => z' = z ∧ MW cI q0 A' u) := by
  obtain ⟨⟨lc, sd, r, sg, ln, N, v⟩, hist, rcd, slot, uf, T, m⟩ := A
  obtain ⟨hR, q1, q2, q3, q4, q5, q6, q7, q8, q9, nw, pt, sl, sv, li, ot, len, pd, wr, wm, ss, lz, rm, rfl, hM, hC⟩ := hA
  have hO := hR.1
  have hr5 := hR.2.1
  have hN3 := hR.2.2.1
  have hN0 := hO.n0
  have hr0 := hO.1
  have hlcd := hR.2.2.2
  have hm80 := hC.2.2.2.2.1
  have hrcd6 := hC.1
  have hvr := hO.v_rg
  have hm0 : nw 0 = lc := hM.1
  have hm1 : nw 1 = sd := hM.2.1
  have hm2 : nw 2 = r := hM.2.2.1
  have hS : SpE ((lc, sd, r, sg, ln, N, v), hist, rcd, slot, uf, T, m) z A' (errRe s (uf s)) (slot s).1 (slot s).2.1 (slot s).2.2.2.2.2.1 (slot s).2.2.2.2.2.2 (slot s).2.2.2.2.2.1 := hS
  have hu0 := (hC.2.2.1 0 (by omega) (by omega)).1
  have hu1 := (hC.2.2.1 1 (by omega) (by omega)).1
  have hsv := hC.2.2.2.1
  refine mkI (by decide) (Nat.le_of_ble_eq_true rfl) ?_
  rintro X rfl rfl rfl hRm C kret H ls w hl
  have hl : lv_has ls 2 [(0, .ref q0), (1, .int (iI s))] := hl
  have w : Wd X (mw cI q0 q1 q2 q3 q4 q5 q6 q7 q8 q9 nw pt rcd sl sv li ot len pd m wr wm ss lz rm) H [] := w
  generalize ([] : List Loc) = locs at w ⊢
  refine r_iload_n (pc := 0) C d_M_restore_0 rfl (lv_at hl 1 rfl) ?_
  refine r_iconst (pc := 1) C d_M_restore_1 ?_
  refine r_iconst (pc := 2) C d_M_restore_2 ?_
  refine r_callP (pc := 3) (As := [.int (iI s), .int (iI 0), .int (iI 1)]) (rest := []) C w (c_M_in s 0 1 (by omega)) ml_M_75 st_M_in ini_M cd_M_in hd_M_in rfl (by rw [hRm]; exact ⟨⟨Nat.le_of_ble_eq_true rfl, Nat.le_of_ble_eq_true rfl⟩, Nat.le_of_ble_eq_true rfl, Nat.le_of_ble_eq_true rfl⟩) hl.1 rfl (Nat.le_of_ble_eq_true rfl) d_M_restore_3 (fun z_3 H locs hz_3 w => ?_)
  refine r_if_ne (pc := 6) (tgt := 12) C (by omega) d_M_restore_6 (by decide) (fun c_6 => ?_) (fun c_6 => ?_)
  · skip
    have hb_6 : 0 ≤ s ∧ s ≤ 1 := by omega
    clear hz_3 c_6
    rcases (by omega : s = 0 ∨ s = 1) with hcs | hcs
    · subst hcs
      refine r_aload_n (pc := 12) C d_M_restore_12 rfl (lv_at hl 0 rfl) ?_
      refine r_get (pc := 13) (v := .int (iI sv)) C w i_M rfl 0 rfl 4 (by decide) fl_M_143 rfl rfl d_M_restore_13 ?_
      refine r_iload_n (pc := 16) C d_M_restore_16 rfl (lv_at hl 1 rfl) ?_
      refine r_ishr (pc := 17) C d_M_restore_17 ?_
      refine r_iconst (pc := 18) C d_M_restore_18 ?_
      refine r_iand (pc := 19) C d_M_restore_19 ?_
      refine r_top (y := iI (uf 0)) (by rw [hsv]; exact sh_slot0 hu0 hu1) ?_
      refine r_if_ne (pc := 20) (tgt := 26) C (by omega) d_M_restore_20 (by decide) (fun c_20 => ?_) (fun c_20 => ?_)
      · skip
        refine r_aload_n (pc := 26) C d_M_restore_26 rfl (lv_at hl 0 rfl) ?_
        refine r_callVV (pc := 27) (As := []) (rest := []) (wr := []) C w (c_M_records hT q0 q1 q2 q3 q4 q5 q6 q7 q8 q9 nw pt rcd sl sv li ot len pd m wr wm ss lz rm  (by omega)) ml_M_62 im_M_records se_M_records ini_M cd_M_records hd_M_records rfl (by rw [hRm]; exact ⟨⟨Nat.le_of_ble_eq_true rfl, Nat.le_of_ble_eq_true rfl⟩, Nat.le_of_ble_eq_true rfl, Nat.le_of_ble_eq_true rfl⟩) hl.1 [0, 1, 2, 3, 4, 5, 6, 7, 8, 9] [] ⟨rfl, rfl, by decide, by decide, by decide⟩ 0 rfl rfl rfl (Nat.le_of_ble_eq_true rfl) d_M_restore_27 (fun u_27 H locs hz_27 w => ?_)
        obtain ⟨pt_27, np_27, rfl, hrec_27⟩ := hz_27
        have w : Wd X (mw cI q0 q1 q2 q3 q4 q5 q6 q7 q8 q9 nw pt_27 np_27 sl sv li ot len pd m wr wm ss lz rm) H locs := w
        refine r_aload_n (pc := 30) C d_M_restore_30 rfl (lv_at hl 0 rfl) ?_
        refine r_get (pc := 31) (v := .ref q3) C w i_M rfl 0 rfl 3 (by decide) fl_M_16 rfl rfl d_M_restore_31 ?_
        refine r_bipush (pc := 34) C d_M_restore_34 (by decide) ?_
        refine r_iload_n (pc := 36) C d_M_restore_36 rfl (lv_at hl 1 rfl) ?_
        refine r_imul (pc := 37) C d_M_restore_37 ?_
        refine r_aload_n (pc := 38) C d_M_restore_38 rfl (lv_at hl 0 rfl) ?_
        refine r_get (pc := 39) (v := .ref q1) C w i_M rfl 0 rfl 0 (by decide) fl_M_7 rfl rfl d_M_restore_39 ?_
        refine r_iconst (pc := 42) C d_M_restore_42 ?_
        refine r_callSV (pc := 43) (As := [.ref q3, .int (iI (103 * 0)), .ref q1, .int (iI 0)]) (rest := []) (wr := ([(q0, .inr (3, [.ref q1, .ref q2, .int (iI np_27), .ref q3, .int (iI sv), .ref q4, .ref q5, .int (iI len), .ref q6, .int (iI m), .ref q7, .int (iI wm), .ref q8, .ref q9, .int (iI rm)])), (q2, aI cI 618 pt_27), (q4, aI cI 6000 li), (q5, aI cI 3000 ot), (q6, aI cI 80 pd), (q7, aI cI 400 wr), (q8, aI cI 80 ss), (q9, aI cI 80 lz)] : va_W)) C w (c_M_copies hT q3 q1 206 103 sl nw (103 * 0) 0 (by omega) (by omega)) ml_M_41 st_M_copies ini_M cd_M_copies hd_M_copies rfl (by rw [hRm]; exact ⟨⟨Nat.le_of_ble_eq_true rfl, Nat.le_of_ble_eq_true rfl⟩, Nat.le_of_ble_eq_true rfl, Nat.le_of_ble_eq_true rfl⟩) hl.1 [3, 1] [0, 2, 4, 5, 6, 7, 8, 9] ⟨rfl, rfl, by decide, by decide, by decide⟩ rfl (Nat.le_of_ble_eq_true rfl) d_M_restore_43 (fun u_43 H locs hz_43 w => ?_)
        obtain ⟨g_43, rfl, hga_43, hgb_43⟩ := hz_43
        have w : Wd X (mw cI q0 q1 q2 q3 q4 q5 q6 q7 q8 q9 g_43 pt_27 np_27 sl sv li ot len pd m wr wm ss lz rm) H locs := w.sub [0, 9, 1, 8, 2, 3, 4, 5, 6, 7] rfl (by decide)
        have hsl := (hC.2.2.1 0 (by omega) (by omega)).2 (by omega)
        have hg := hsl.moved (pt := g_43) (off' := 0) hga_43
        obtain ⟨⟨lc1, sd1, r1, sg1, ln1, N1, v1⟩, hsd⟩ : ∃ w : Rw, w = slot 0 := ⟨_, rfl⟩
        rw [← hsd] at hg
        have hS := hS
        rw [← hsd] at hS
        have hR1 := hg.1
        have hM1 := hg.2
        refine r_aload_n (pc := 46) C d_M_restore_46 rfl (lv_at hl 0 rfl) ?_
        refine r_callVI (pc := 47) (As := []) (rest := []) (wr := []) C w (c_M_lengthAll hT q0 q1 q2 q3 q4 q5 q6 q7 q8 q9 g_43 pt_27 np_27 sl sv li ot len pd m wr wm ss lz rm  _ _ _ _ _ _ _ hR1 hM1) ml_M_146 im_M_lengthAll se_M_lengthAll ini_M cd_M_lengthAll hd_M_lengthAll rfl (by rw [hRm]; exact ⟨⟨Nat.le_of_ble_eq_true rfl, Nat.le_of_ble_eq_true rfl⟩, Nat.le_of_ble_eq_true rfl, Nat.le_of_ble_eq_true rfl⟩) hl.1 [0, 1, 2, 3, 4, 5, 6, 7, 8, 9] [] ⟨rfl, rfl, by decide, by decide, by decide⟩ 0 rfl rfl rfl (Nat.le_of_ble_eq_true rfl) d_M_restore_47 (fun z_47 u_47 H locs hz_47 w => ?_)
        obtain ⟨rfl, hz_47⟩ := hz_47
        have w : Wd X (mw cI q0 q1 q2 q3 q4 q5 q6 q7 q8 q9 g_43 pt_27 np_27 sl sv li ot len pd m wr wm ss lz rm) H locs := w
        exact kret _ _ _ _ z_47 _ d_M_restore_50 w (by obtain ⟨g1, g2⟩ := SpE_ok hS (by unfold errRe; rw [if_pos (by omega), if_pos (by omega)]) (fits_row hR1); exact ⟨hz_47.trans g1, mw_push g2 hR hM hC hrec_27 hM1 hR1.1⟩)
      · skip
        refine r_bipush (pc := 23) C d_M_restore_23 (by decide) ?_
        exact kret _ _ _ _ (-5) _ d_M_restore_25 w (by obtain ⟨g1, rfl⟩ := SpE_err hS (-5) (by unfold errRe; rw [if_pos (by omega), if_neg (by omega)]) (by omega); exact ⟨g1, ⟨hR, q1, q2, q3, q4, q5, q6, q7, q8, q9, nw, pt, sl, sv, _, _, _, pd, wr, wm, ss, lz, rm, rfl, hM, hC⟩⟩)
    · subst hcs
      refine r_aload_n (pc := 12) C d_M_restore_12 rfl (lv_at hl 0 rfl) ?_
      refine r_get (pc := 13) (v := .int (iI sv)) C w i_M rfl 0 rfl 4 (by decide) fl_M_143 rfl rfl d_M_restore_13 ?_
      refine r_iload_n (pc := 16) C d_M_restore_16 rfl (lv_at hl 1 rfl) ?_
      refine r_ishr (pc := 17) C d_M_restore_17 ?_
      refine r_iconst (pc := 18) C d_M_restore_18 ?_
      refine r_iand (pc := 19) C d_M_restore_19 ?_
      refine r_top (y := iI (uf 1)) (by rw [hsv]; exact sh_slot1 hu0 hu1) ?_
      refine r_if_ne (pc := 20) (tgt := 26) C (by omega) d_M_restore_20 (by decide) (fun c_20 => ?_) (fun c_20 => ?_)
      · skip
        refine r_aload_n (pc := 26) C d_M_restore_26 rfl (lv_at hl 0 rfl) ?_
        refine r_callVV (pc := 27) (As := []) (rest := []) (wr := []) C w (c_M_records hT q0 q1 q2 q3 q4 q5 q6 q7 q8 q9 nw pt rcd sl sv li ot len pd m wr wm ss lz rm  (by omega)) ml_M_62 im_M_records se_M_records ini_M cd_M_records hd_M_records rfl (by rw [hRm]; exact ⟨⟨Nat.le_of_ble_eq_true rfl, Nat.le_of_ble_eq_true rfl⟩, Nat.le_of_ble_eq_true rfl, Nat.le_of_ble_eq_true rfl⟩) hl.1 [0, 1, 2, 3, 4, 5, 6, 7, 8, 9] [] ⟨rfl, rfl, by decide, by decide, by decide⟩ 0 rfl rfl rfl (Nat.le_of_ble_eq_true rfl) d_M_restore_27 (fun u_27 H locs hz_27 w => ?_)
        obtain ⟨pt_27, np_27, rfl, hrec_27⟩ := hz_27
        have w : Wd X (mw cI q0 q1 q2 q3 q4 q5 q6 q7 q8 q9 nw pt_27 np_27 sl sv li ot len pd m wr wm ss lz rm) H locs := w
        refine r_aload_n (pc := 30) C d_M_restore_30 rfl (lv_at hl 0 rfl) ?_
        refine r_get (pc := 31) (v := .ref q3) C w i_M rfl 0 rfl 3 (by decide) fl_M_16 rfl rfl d_M_restore_31 ?_
        refine r_bipush (pc := 34) C d_M_restore_34 (by decide) ?_
        refine r_iload_n (pc := 36) C d_M_restore_36 rfl (lv_at hl 1 rfl) ?_
        refine r_imul (pc := 37) C d_M_restore_37 ?_
        refine r_aload_n (pc := 38) C d_M_restore_38 rfl (lv_at hl 0 rfl) ?_
        refine r_get (pc := 39) (v := .ref q1) C w i_M rfl 0 rfl 0 (by decide) fl_M_7 rfl rfl d_M_restore_39 ?_
        refine r_iconst (pc := 42) C d_M_restore_42 ?_
        refine r_callSV (pc := 43) (As := [.ref q3, .int (iI (103 * 1)), .ref q1, .int (iI 0)]) (rest := []) (wr := ([(q0, .inr (3, [.ref q1, .ref q2, .int (iI np_27), .ref q3, .int (iI sv), .ref q4, .ref q5, .int (iI len), .ref q6, .int (iI m), .ref q7, .int (iI wm), .ref q8, .ref q9, .int (iI rm)])), (q2, aI cI 618 pt_27), (q4, aI cI 6000 li), (q5, aI cI 3000 ot), (q6, aI cI 80 pd), (q7, aI cI 400 wr), (q8, aI cI 80 ss), (q9, aI cI 80 lz)] : va_W)) C w (c_M_copies hT q3 q1 206 103 sl nw (103 * 1) 0 (by omega) (by omega)) ml_M_41 st_M_copies ini_M cd_M_copies hd_M_copies rfl (by rw [hRm]; exact ⟨⟨Nat.le_of_ble_eq_true rfl, Nat.le_of_ble_eq_true rfl⟩, Nat.le_of_ble_eq_true rfl, Nat.le_of_ble_eq_true rfl⟩) hl.1 [3, 1] [0, 2, 4, 5, 6, 7, 8, 9] ⟨rfl, rfl, by decide, by decide, by decide⟩ rfl (Nat.le_of_ble_eq_true rfl) d_M_restore_43 (fun u_43 H locs hz_43 w => ?_)
        obtain ⟨g_43, rfl, hga_43, hgb_43⟩ := hz_43
        have w : Wd X (mw cI q0 q1 q2 q3 q4 q5 q6 q7 q8 q9 g_43 pt_27 np_27 sl sv li ot len pd m wr wm ss lz rm) H locs := w.sub [0, 9, 1, 8, 2, 3, 4, 5, 6, 7] rfl (by decide)
        have hsl := (hC.2.2.1 1 (by omega) (by omega)).2 (by omega)
        have hg := hsl.moved (pt := g_43) (off' := 0) hga_43
        obtain ⟨⟨lc1, sd1, r1, sg1, ln1, N1, v1⟩, hsd⟩ : ∃ w : Rw, w = slot 1 := ⟨_, rfl⟩
        rw [← hsd] at hg
        have hS := hS
        rw [← hsd] at hS
        have hR1 := hg.1
        have hM1 := hg.2
        refine r_aload_n (pc := 46) C d_M_restore_46 rfl (lv_at hl 0 rfl) ?_
        refine r_callVI (pc := 47) (As := []) (rest := []) (wr := []) C w (c_M_lengthAll hT q0 q1 q2 q3 q4 q5 q6 q7 q8 q9 g_43 pt_27 np_27 sl sv li ot len pd m wr wm ss lz rm  _ _ _ _ _ _ _ hR1 hM1) ml_M_146 im_M_lengthAll se_M_lengthAll ini_M cd_M_lengthAll hd_M_lengthAll rfl (by rw [hRm]; exact ⟨⟨Nat.le_of_ble_eq_true rfl, Nat.le_of_ble_eq_true rfl⟩, Nat.le_of_ble_eq_true rfl, Nat.le_of_ble_eq_true rfl⟩) hl.1 [0, 1, 2, 3, 4, 5, 6, 7, 8, 9] [] ⟨rfl, rfl, by decide, by decide, by decide⟩ 0 rfl rfl rfl (Nat.le_of_ble_eq_true rfl) d_M_restore_47 (fun z_47 u_47 H locs hz_47 w => ?_)
        obtain ⟨rfl, hz_47⟩ := hz_47
        have w : Wd X (mw cI q0 q1 q2 q3 q4 q5 q6 q7 q8 q9 g_43 pt_27 np_27 sl sv li ot len pd m wr wm ss lz rm) H locs := w
        exact kret _ _ _ _ z_47 _ d_M_restore_50 w (by obtain ⟨g1, g2⟩ := SpE_ok hS (by unfold errRe; rw [if_pos (by omega), if_pos (by omega)]) (fits_row hR1); exact ⟨hz_47.trans g1, mw_push g2 hR hM hC hrec_27 hM1 hR1.1⟩)
      · skip
        refine r_bipush (pc := 23) C d_M_restore_23 (by decide) ?_
        exact kret _ _ _ _ (-5) _ d_M_restore_25 w (by obtain ⟨g1, rfl⟩ := SpE_err hS (-5) (by unfold errRe; rw [if_pos (by omega), if_neg (by omega)]) (by omega); exact ⟨g1, ⟨hR, q1, q2, q3, q4, q5, q6, q7, q8, q9, nw, pt, sl, sv, _, _, _, pd, wr, wm, ss, lz, rm, rfl, hM, hC⟩⟩)
  · skip
    have hb_6 : ¬ (0 ≤ s ∧ s ≤ 1) := by omega
    clear hz_3 c_6
    refine r_bipush (pc := 9) C d_M_restore_9 (by decide) ?_
    exact kret _ _ _ _ (-2) _ d_M_restore_11 w (by obtain ⟨g1, rfl⟩ := SpE_err hS (-2) (by unfold errRe; rw [if_neg (by omega)]) (by omega); exact ⟨g1, ⟨hR, q1, q2, q3, q4, q5, q6, q7, q8, q9, nw, pt, sl, sv, _, _, _, pd, wr, wm, ss, lz, rm, rfl, hM, hC⟩⟩)
