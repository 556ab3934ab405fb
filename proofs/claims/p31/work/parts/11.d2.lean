/-! the edits of the class -/
theorem cw_mk {cI cO cZ : ClassId} {o h sl us pd co : Nat} {hf sf : Int → Nat} {rcd m : Int} {uf T : Int → Int} {q a b : Nat} {sg ln : Int → Int} {r N ov lc sd : Int} {q2 a2 b2 : Nat} {sg2 ln2 : Int → Int} {r2 pl2 ov2 lc2 sd2 : Int} {q3 a3 b3 : Nat} {sg3 ln3 : Int → Int} {r3 pl3 ov3 lc3 sd3 : Int} {st : Int → SD} {v : Int → Int} {hist slot : Int → Rw}
    (hR : RwOk lc sd r sg ln N v) (hC : DC hf sf st hist rcd slot uf T m) : CW cI cO cZ o ((lc, sd, r, sg, ln, N, v), hist, rcd, slot, uf, T, m) (dcore cI cO cZ o h sl us pd co q q2 q3 hf rcd sf uf T m ++ sw cI q a b sg ln r N ov lc sd ++ sw cI q2 a2 b2 sg2 ln2 r2 pl2 ov2 lc2 sd2 ++ sw cI q3 a3 b3 sg3 ln3 r3 pl3 ov3 lc3 sd3 ++ hst cI st) :=
  ⟨hR, h, sl, us, pd, co, hf, sf, q, a, b, ov, q2, a2, b2, sg2, ln2, r2, pl2, ov2, lc2, sd2, q3, a3, b3, sg3, ln3, r3, pl3, ov3, lc3, sd3, st, rfl, hC⟩
def pieceE (N f k : Int) : Int := if 0 ≤ f ∧ 1 ≤ k ∧ k ≤ N - f then 0 else -1
def errIns (N p s k : Int) : Int := if 0 ≤ p ∧ p ≤ N then (if (0 ≤ s ∧ s ≤ 10) ∧ (1 ≤ k ∧ k ≤ 3000) then 0 else -2) else -1
def errEr (N f k sd dead : Int) : Int := if 0 ≤ f ∧ 1 ≤ k ∧ k ≤ N - f then (if sd = 1 ∧ 0 < dead then -5 else 0) else -1
def errWr (N f k lo val : Int) : Int := if 0 ≤ f ∧ 1 ≤ k ∧ k ≤ N - f then (if lo ≤ val ∧ val ≤ 9 then 0 else -2) else -1
def errMv (N f k to : Int) : Int := if 0 ≤ f ∧ 1 ≤ k ∧ k ≤ N - f then (if 0 ≤ to ∧ to ≤ N - k then 0 else -2) else -1
def errSet (s x : Int) : Int := if (0 ≤ s ∧ s ≤ 1) ∧ (0 ≤ x ∧ x ≤ (if s = 0 then 2 else 1)) then 0 else -2
def ins (v : Int → Int) (p s k : Int) : Int → Int := fun x => if x < p then v x else if x < p + k then s else v (x - k)
def del (v : Int → Int) (f k : Int) : Int → Int := fun x => if x < f then v x else v (x + k)
def trn (sd : Int) (v : Int → Int) (f e : Int) : Int → Int := fun x => if f ≤ x ∧ x < e then (if sd = 1 then (if v x = 10 then 10 else tv 1 v e 0 v (e - f) (ps (lv_ v) x - ps (lv_ v) f)) else v (f + e - 1 - x)) else v x
def mvd (v : Int → Int) (f k to : Int) : Int → Int := fun x => if x < to then del v f k x else if x < to + k then v (f + x - to) else del v f k (x - k)
theorem tv0_eq (u v : Int → Int) (e n : Int) : ∀ d, 0 ≤ d → tn 0 u e n d = n + d ∧ ∀ x, x < n + d → tv 0 u e n v d x = if x < n then v x else u (e - 1 - (x - n)) := by
  refine int_ind ⟨by rw [tn_zero]; omega, fun x hx => by rw [tv_zero, if_pos (by omega)]⟩ (fun d hd ih => ?_)
  rw [tn_succ 0 u e n hd, tv_succ 0 u e n v hd, if_pos (Or.inl rfl), if_pos (Or.inl rfl), ih.1]
  refine ⟨by omega, fun x hx => ?_⟩
  by_cases q : x < n + d
  · rw [app_lt q]; exact ih.2 x q
  · rw [app_ge (by omega), if_neg (by omega)]
    congr 1
    omega
theorem tn_live (u : Int → Int) (e : Int) : ∀ d, 0 ≤ d → d ≤ e → tn 1 u e 0 d = ps (lv_ u) e - ps (lv_ u) (e - d) := by
  refine int_ind (fun _ => by rw [tn_zero, Int.sub_zero]; omega) (fun d hd ih h => ?_)
  have e1 := ps_succ (lv_ u) (k := e - (d + 1)) (by omega)
  rw [show e - (d + 1) + 1 = e - d by omega] at e1
  rw [tn_succ 1 u e 0 hd, ih (by omega), show e - 1 - d = e - (d + 1) by omega]
  have : (if (1 : Int) = 0 ∨ u (e - (d + 1)) ≠ 10 then (1 : Int) else 0) = lv_ u (e - (d + 1)) := by
    unfold lv_
    by_cases q : u (e - (d + 1)) = 10 <;> simp [q]
  omega
def Sp_set (s x : Int) (A : AS) (z : Int) (A' : AS) : Prop := match A with | ((lc, sd, r, sg, ln, N, v), hist, rcd, slot, uf, T, m) => SpE A z A' (errSet s x) (if s = 0 then x else lc) (if s = 0 then sd else x) (N) (v) (if s = 0 then lc else sd)
theorem d_D_set_0 : decode b_D_set 0 = .ok (.iload_n 1, 1) := by decide +kernel
theorem d_D_set_1 : decode b_D_set 1 = .ok (.iconst 0, 1) := by decide +kernel
theorem d_D_set_2 : decode b_D_set 2 = .ok (.iconst 1, 1) := by decide +kernel
theorem d_D_set_3 : decode b_D_set 3 = .ok (.invokestatic 44, 3) := by decide +kernel
theorem d_D_set_6 : decode b_D_set 6 = .ok (.ifCond .eq 20, 3) := by decide +kernel
theorem d_D_set_9 : decode b_D_set 9 = .ok (.iload_n 2, 1) := by decide +kernel
theorem d_D_set_10 : decode b_D_set 10 = .ok (.iconst 0, 1) := by decide +kernel
theorem d_D_set_11 : decode b_D_set 11 = .ok (.iload_n 1, 1) := by decide +kernel
theorem d_D_set_12 : decode b_D_set 12 = .ok (.ifCond .ne 7, 3) := by decide +kernel
theorem d_D_set_15 : decode b_D_set 15 = .ok (.iconst 2, 1) := by decide +kernel
theorem d_D_set_16 : decode b_D_set 16 = .ok (.goto 4, 3) := by decide +kernel
theorem d_D_set_19 : decode b_D_set 19 = .ok (.iconst 1, 1) := by decide +kernel
theorem d_D_set_20 : decode b_D_set 20 = .ok (.invokestatic 44, 3) := by decide +kernel
theorem d_D_set_23 : decode b_D_set 23 = .ok (.ifCond .ne 6, 3) := by decide +kernel
theorem d_D_set_26 : decode b_D_set 26 = .ok (.bipush (-2), 2) := by decide +kernel
theorem d_D_set_28 : decode b_D_set 28 = .ok (.ireturn, 1) := by decide +kernel
theorem d_D_set_29 : decode b_D_set 29 = .ok (.aload_n 0, 1) := by decide +kernel
theorem d_D_set_30 : decode b_D_set 30 = .ok (.getfield 16, 3) := by decide +kernel
theorem d_D_set_33 : decode b_D_set 33 = .ok (.aload_n 0, 1) := by decide +kernel
theorem d_D_set_34 : decode b_D_set 34 = .ok (.getfield 10, 3) := by decide +kernel
theorem d_D_set_37 : decode b_D_set 37 = .ok (.invokevirtual 48, 3) := by decide +kernel
theorem d_D_set_40 : decode b_D_set 40 = .ok (.iload_n 1, 1) := by decide +kernel
theorem d_D_set_41 : decode b_D_set 41 = .ok (.ifCond .ne 23, 3) := by decide +kernel
theorem d_D_set_44 : decode b_D_set 44 = .ok (.aload_n 0, 1) := by decide +kernel
theorem d_D_set_45 : decode b_D_set 45 = .ok (.getfield 16, 3) := by decide +kernel
theorem d_D_set_48 : decode b_D_set 48 = .ok (.iload_n 2, 1) := by decide +kernel
theorem d_D_set_49 : decode b_D_set 49 = .ok (.putfield 52, 3) := by decide +kernel
theorem d_D_set_52 : decode b_D_set 52 = .ok (.aload_n 0, 1) := by decide +kernel
theorem d_D_set_53 : decode b_D_set 53 = .ok (.aload_n 0, 1) := by decide +kernel
theorem d_D_set_54 : decode b_D_set 54 = .ok (.getfield 10, 3) := by decide +kernel
theorem d_D_set_57 : decode b_D_set 57 = .ok (.getfield 52, 3) := by decide +kernel
theorem d_D_set_60 : decode b_D_set 60 = .ok (.invokevirtual 55, 3) := by decide +kernel
theorem d_D_set_63 : decode b_D_set 63 = .ok (.ireturn, 1) := by decide +kernel
theorem d_D_set_64 : decode b_D_set 64 = .ok (.aload_n 0, 1) := by decide +kernel
theorem d_D_set_65 : decode b_D_set 65 = .ok (.getfield 16, 3) := by decide +kernel
theorem d_D_set_68 : decode b_D_set 68 = .ok (.iload_n 2, 1) := by decide +kernel
theorem d_D_set_69 : decode b_D_set 69 = .ok (.putfield 59, 3) := by decide +kernel
theorem d_D_set_72 : decode b_D_set 72 = .ok (.aload_n 0, 1) := by decide +kernel
theorem d_D_set_73 : decode b_D_set 73 = .ok (.aload_n 0, 1) := by decide +kernel
theorem d_D_set_74 : decode b_D_set 74 = .ok (.getfield 10, 3) := by decide +kernel
theorem d_D_set_77 : decode b_D_set 77 = .ok (.getfield 59, 3) := by decide +kernel
theorem d_D_set_80 : decode b_D_set 80 = .ok (.invokevirtual 55, 3) := by decide +kernel
theorem d_D_set_83 : decode b_D_set 83 = .ok (.ireturn, 1) := by decide +kernel
set_option maxHeartbeats 4000000 in
set_option maxRecDepth 20000 in
theorem c_D_set {l : Launch} {G : va_G} {tys : List (ClassId × FieldType)} {cI cO cZ : ClassId} (hT : TY tys cI cO cZ) (o : Nat) (A : AS) (ws : va_W) (hA : CW cI cO cZ o A ws) (s x : Int) (hrg : (-2147483648 ≤ s ∧ s < 2147483648) ∧ (-2147483648 ≤ x ∧ x < 2147483648)) : CTI l G tys y_D_set b_D_set 3 .int 4 88 [.ref o, .int (iI s), .int (iI x)] ws (fun z u => ∃ A' : AS, CW cI cO cZ o A' u ∧ Sp_set s x A z A') := by
  obtain ⟨⟨lc, sd, r, sg, ln, N, v⟩, hist, rcd, slot, uf, T, m⟩ := A
  obtain ⟨hR, h, sl, us, pd, co, hf, sf, q, a, b, ov, q2, a2, b2, sg2, ln2, r2, pl2, ov2, lc2, sd2, q3, a3, b3, sg3, ln3, r3, pl3, ov3, lc3, sd3, st, rfl, hC⟩ := hA
  have hO := hR.1
  have hr5 := hR.2.1
  have hN3 := hR.2.2.1
  have hN0 := hO.n0
  have hr0 := hO.1
  have hlcd := hR.2.2.2
  have hm80 := hC.2.2.2.2.2.1
  have hrcd6 := hC.2.2.1
  have hVc : ∀ sg' ln' : Int → Int, Ok r sg' ln' N v → RV r N 0 sg' ln' N v := fun sg' ln' h => ⟨hN0, fun _ => ⟨rfl, rfl, h⟩, fun z => absurd (show fits_ N v from ⟨hN3, by rw [h.rcE]; exact hr5⟩) z⟩
  refine mkI (by decide) (Nat.le_of_ble_eq_true rfl) ?_
  rintro X rfl rfl rfl hRm C kret H ls w hl
  have hl : lv_has ls 3 [(0, .ref o), (1, .int (iI s)), (2, .int (iI x))] := hl
  have w : Wd X (dcore cI cO cZ o h sl us pd co q q2 q3 hf rcd sf uf T m ++ sw cI q a b sg ln r N ov lc sd ++ sw cI q2 a2 b2 sg2 ln2 r2 pl2 ov2 lc2 sd2 ++ sw cI q3 a3 b3 sg3 ln3 r3 pl3 ov3 lc3 sd3 ++ hst cI st) H [] := w
  generalize ([] : List Loc) = locs at w ⊢
  refine r_iload_n (pc := 0) C d_D_set_0 rfl (lv_at hl 1 rfl) ?_
  refine r_iconst (pc := 1) C d_D_set_1 ?_
  refine r_iconst (pc := 2) C d_D_set_2 ?_
  refine r_callP (pc := 3) (As := [.int (iI s), .int (iI 0), .int (iI 1)]) (rest := []) C w (c_D_isWithin s 0 1 (by omega)) ml_D_44 st_D_isWithin ini_D cd_D_isWithin hd_D_isWithin rfl (by rw [hRm]; exact ⟨⟨Nat.le_of_ble_eq_true rfl, Nat.le_of_ble_eq_true rfl⟩, Nat.le_of_ble_eq_true rfl, Nat.le_of_ble_eq_true rfl⟩) hl.1 rfl (Nat.le_of_ble_eq_true rfl) d_D_set_3 (fun z_3 H locs hz_3 w => ?_)
  refine r_if_eq (pc := 6) (tgt := 26) C (by omega) d_D_set_6 (by decide) (fun c_6 => ?_) (fun c_6 => ?_)
  · skip
    have hb_6 : ¬ (0 ≤ s ∧ s ≤ 1) := by omega
    clear hz_3 c_6
    refine r_bipush (pc := 26) C d_D_set_26 (by decide) ?_
    exact kret _ _ _ _ (-2) _ d_D_set_28 w (⟨_, cw_mk hR hC, Or.inl ⟨by unfold errSet; (repeat' split) <;> omega, by unfold errSet; (repeat' split) <;> omega, rfl⟩⟩)
  · skip
    have hb_6 : 0 ≤ s ∧ s ≤ 1 := by omega
    clear hz_3 c_6
    refine r_iload_n (pc := 9) C d_D_set_9 rfl (lv_at hl 2 rfl) ?_
    refine r_iconst (pc := 10) C d_D_set_10 ?_
    refine r_iload_n (pc := 11) C d_D_set_11 rfl (lv_at hl 1 rfl) ?_
    refine r_if_ne (pc := 12) (tgt := 19) C (by omega) d_D_set_12 (by decide) (fun c_12 => ?_) (fun c_12 => ?_)
    · skip
      refine r_iconst (pc := 19) C d_D_set_19 ?_
      refine r_callP (pc := 20) (As := [.int (iI x), .int (iI 0), .int (iI 1)]) (rest := []) C w (c_D_isWithin x 0 1 (by omega)) ml_D_44 st_D_isWithin ini_D cd_D_isWithin hd_D_isWithin rfl (by rw [hRm]; exact ⟨⟨Nat.le_of_ble_eq_true rfl, Nat.le_of_ble_eq_true rfl⟩, Nat.le_of_ble_eq_true rfl, Nat.le_of_ble_eq_true rfl⟩) hl.1 rfl (Nat.le_of_ble_eq_true rfl) d_D_set_20 (fun z_20 H locs hz_20 w => ?_)
      refine r_if_ne (pc := 23) (tgt := 29) C (by omega) d_D_set_23 (by decide) (fun c_23 => ?_) (fun c_23 => ?_)
      · skip
        have hb_23 : 0 ≤ x ∧ x ≤ 1 := by omega
        clear hz_20 c_23
        try (have hb2 : s ≤ 1 := by omega)
        refine r_aload_n (pc := 29) C d_D_set_29 rfl (lv_at hl 0 rfl) ?_
        refine r_get (pc := 30) (v := .ref q2) C w i_D rfl 0 rfl 1 (by decide) fl_D_16 rfl rfl d_D_set_30 ?_
        refine r_aload_n (pc := 33) C d_D_set_33 rfl (lv_at hl 0 rfl) ?_
        refine r_get (pc := 34) (v := .ref q) C w i_D rfl 0 rfl 0 (by decide) fl_D_10 rfl rfl d_D_set_34 ?_
        refine r_callVV (pc := 37) (As := [.ref q]) (rest := []) (wr := (dcore cI cO cZ o h sl us pd co q q2 q3 hf rcd sf uf T m ++ sw cI q3 a3 b3 sg3 ln3 r3 pl3 ov3 lc3 sd3 ++ hst cI st)) C w (c_S_becomeCopyOf hT q2 a2 b2 sg2 ln2 r2 pl2 ov2 lc2 sd2 q a b sg ln r N ov lc sd _ _ hO (by omega) (by omega) (by omega)) ml_D_48 im_S_becomeCopyOf se_S_becomeCopyOf ini_S cd_S_becomeCopyOf hd_S_becomeCopyOf rfl (by rw [hRm]; exact ⟨⟨Nat.le_of_ble_eq_true rfl, Nat.le_of_ble_eq_true rfl⟩, Nat.le_of_ble_eq_true rfl, Nat.le_of_ble_eq_true rfl⟩) hl.1 [9, 10, 11, 6, 7, 8] [0, 1, 2, 3, 4, 5, 12, 13, 14, 15, 16, 17, 18, 19, 20, 21, 22, 23, 24, 25, 26, 27, 28, 29, 30, 31, 32, 33, 34, 35, 36, 37, 38] ⟨rfl, rfl, by decide, by decide, by decide⟩ 0 rfl rfl rfl (Nat.le_of_ble_eq_true rfl) d_D_set_37 (fun u_37 H locs hz_37 w => ?_)
        obtain ⟨sg_37, ln_37, rfl, hO_37⟩ := hz_37
        have w : Wd X (dcore cI cO cZ o h sl us pd co q q2 q3 hf rcd sf uf T m ++ sw cI q a b sg ln r N ov lc sd ++ sw cI q2 a2 b2 sg_37 ln_37 r N 0 lc sd ++ sw cI q3 a3 b3 sg3 ln3 r3 pl3 ov3 lc3 sd3 ++ hst cI st) H locs := w.sub [0, 1, 2, 3, 4, 5, 36, 37, 38, 33, 34, 35, 6, 7, 8, 9, 10, 11, 12, 13, 14, 15, 16, 17, 18, 19, 20, 21, 22, 23, 24, 25, 26, 27, 28, 29, 30, 31, 32] rfl (by decide)
        refine r_iload_n (pc := 40) C d_D_set_40 rfl (lv_at hl 1 rfl) ?_
        refine r_if_ne (pc := 41) (tgt := 64) C (by omega) d_D_set_41 (by decide) (fun c_41 => ?_) (fun c_41 => ?_)
        · skip
          have hs0 : s = 1 := by omega
          subst hs0
          refine r_aload_n (pc := 64) C d_D_set_64 rfl (lv_at hl 0 rfl) ?_
          refine r_get (pc := 65) (v := .ref q2) C w i_D rfl 0 rfl 1 (by decide) fl_D_16 rfl rfl d_D_set_65 ?_
          refine r_iload_n (pc := 68) C d_D_set_68 rfl (lv_at hl 2 rfl) ?_
          refine r_put (pc := 69) (ws' := dcore cI cO cZ o h sl us pd co q q2 q3 hf rcd sf uf T m ++ sw cI q a b sg ln r N ov lc sd ++ sw cI q2 a2 b2 sg_37 ln_37 r N 0 lc x ++ sw cI q3 a3 b3 sg3 ln3 r3 pl3 ov3 lc3 sd3 ++ hst cI st) C w i_S t_S t_S_ok n_S rfl 9 rfl 6 (by decide) fl_D_59 rfl rfl rfl rfl (Nat.le_of_ble_eq_true rfl) rfl d_D_set_69 (fun H locs w => ?_)
          refine r_aload_n (pc := 72) C d_D_set_72 rfl (lv_at hl 0 rfl) ?_
          refine r_aload_n (pc := 73) C d_D_set_73 rfl (lv_at hl 0 rfl) ?_
          refine r_get (pc := 74) (v := .ref q) C w i_D rfl 0 rfl 0 (by decide) fl_D_10 rfl rfl d_D_set_74 ?_
          refine r_get (pc := 77) (v := .int (iI sd)) C w i_S rfl 6 rfl 6 (by decide) fl_D_59 rfl rfl d_D_set_77 ?_
          refine r_callVI (pc := 80) (As := [.int (iI sd)]) (rest := []) (wr := []) C w (c_D_accepted hT o h sl us pd co hf sf rcd m uf T q a b sg ln r N ov lc sd q2 a2 b2 sg_37 ln_37 r N 0 lc x q3 a3 b3 sg3 ln3 r3 pl3 ov3 lc3 sd3 st sd _ v _ hist slot hR hC (hVc _ _ hO_37) (by omega)) ml_D_55 im_D_accepted se_D_accepted ini_D cd_D_accepted hd_D_accepted rfl (by rw [hRm]; exact ⟨⟨Nat.le_of_ble_eq_true rfl, Nat.le_of_ble_eq_true rfl⟩, Nat.le_of_ble_eq_true rfl, Nat.le_of_ble_eq_true rfl⟩) hl.1 [0, 1, 2, 3, 4, 5, 6, 7, 8, 9, 10, 11, 12, 13, 14, 15, 16, 17, 18, 19, 20, 21, 22, 23, 24, 25, 26, 27, 28, 29, 30, 31, 32, 33, 34, 35, 36, 37, 38] [] ⟨rfl, rfl, by decide, by decide, by decide⟩ 0 rfl rfl rfl (Nat.le_of_ble_eq_true rfl) d_D_set_80 (fun z_80 u_80 H locs hz_80 w => ?_)
          exact kret _ _ _ _ z_80 _ d_D_set_83 w (by rcases hz_80 with ⟨f1, f2, rfl⟩ | ⟨f1, f2, A, f3, f4⟩; exact ⟨_, cw_mk hR hC, Or.inr (Or.inl ⟨by unfold errSet; (repeat' split) <;> omega, f1, f2, rfl⟩)⟩; exact ⟨A, f3, Or.inr (Or.inr ⟨by unfold errSet; (repeat' split) <;> omega, f1, f2, f4⟩)⟩)
        · skip
          have hs0 : s = 0 := by omega
          subst hs0
          refine r_aload_n (pc := 44) C d_D_set_44 rfl (lv_at hl 0 rfl) ?_
          refine r_get (pc := 45) (v := .ref q2) C w i_D rfl 0 rfl 1 (by decide) fl_D_16 rfl rfl d_D_set_45 ?_
          refine r_iload_n (pc := 48) C d_D_set_48 rfl (lv_at hl 2 rfl) ?_
          refine r_put (pc := 49) (ws' := dcore cI cO cZ o h sl us pd co q q2 q3 hf rcd sf uf T m ++ sw cI q a b sg ln r N ov lc sd ++ sw cI q2 a2 b2 sg_37 ln_37 r N 0 x sd ++ sw cI q3 a3 b3 sg3 ln3 r3 pl3 ov3 lc3 sd3 ++ hst cI st) C w i_S t_S t_S_ok n_S rfl 9 rfl 5 (by decide) fl_D_52 rfl rfl rfl rfl (Nat.le_of_ble_eq_true rfl) rfl d_D_set_49 (fun H locs w => ?_)
          refine r_aload_n (pc := 52) C d_D_set_52 rfl (lv_at hl 0 rfl) ?_
          refine r_aload_n (pc := 53) C d_D_set_53 rfl (lv_at hl 0 rfl) ?_
          refine r_get (pc := 54) (v := .ref q) C w i_D rfl 0 rfl 0 (by decide) fl_D_10 rfl rfl d_D_set_54 ?_
          refine r_get (pc := 57) (v := .int (iI lc)) C w i_S rfl 6 rfl 5 (by decide) fl_D_52 rfl rfl d_D_set_57 ?_
          refine r_callVI (pc := 60) (As := [.int (iI lc)]) (rest := []) (wr := []) C w (c_D_accepted hT o h sl us pd co hf sf rcd m uf T q a b sg ln r N ov lc sd q2 a2 b2 sg_37 ln_37 r N 0 x sd q3 a3 b3 sg3 ln3 r3 pl3 ov3 lc3 sd3 st lc _ v _ hist slot hR hC (hVc _ _ hO_37) (by omega)) ml_D_55 im_D_accepted se_D_accepted ini_D cd_D_accepted hd_D_accepted rfl (by rw [hRm]; exact ⟨⟨Nat.le_of_ble_eq_true rfl, Nat.le_of_ble_eq_true rfl⟩, Nat.le_of_ble_eq_true rfl, Nat.le_of_ble_eq_true rfl⟩) hl.1 [0, 1, 2, 3, 4, 5, 6, 7, 8, 9, 10, 11, 12, 13, 14, 15, 16, 17, 18, 19, 20, 21, 22, 23, 24, 25, 26, 27, 28, 29, 30, 31, 32, 33, 34, 35, 36, 37, 38] [] ⟨rfl, rfl, by decide, by decide, by decide⟩ 0 rfl rfl rfl (Nat.le_of_ble_eq_true rfl) d_D_set_60 (fun z_60 u_60 H locs hz_60 w => ?_)
          exact kret _ _ _ _ z_60 _ d_D_set_63 w (by rcases hz_60 with ⟨f1, f2, rfl⟩ | ⟨f1, f2, A, f3, f4⟩; exact ⟨_, cw_mk hR hC, Or.inr (Or.inl ⟨by unfold errSet; (repeat' split) <;> omega, f1, f2, rfl⟩)⟩; exact ⟨A, f3, Or.inr (Or.inr ⟨by unfold errSet; (repeat' split) <;> omega, f1, f2, f4⟩)⟩)
      · skip
        have hb_23 : ¬ (0 ≤ x ∧ x ≤ 1) := by omega
        clear hz_20 c_23
        refine r_bipush (pc := 26) C d_D_set_26 (by decide) ?_
        exact kret _ _ _ _ (-2) _ d_D_set_28 w (⟨_, cw_mk hR hC, Or.inl ⟨by unfold errSet; (repeat' split) <;> omega, by unfold errSet; (repeat' split) <;> omega, rfl⟩⟩)
    · skip
      refine r_iconst (pc := 15) C d_D_set_15 ?_
      refine r_goto (pc := 16) (tgt := 20) C d_D_set_16 (by decide) ?_
      refine r_callP (pc := 20) (As := [.int (iI x), .int (iI 0), .int (iI 2)]) (rest := []) C w (c_D_isWithin x 0 2 (by omega)) ml_D_44 st_D_isWithin ini_D cd_D_isWithin hd_D_isWithin rfl (by rw [hRm]; exact ⟨⟨Nat.le_of_ble_eq_true rfl, Nat.le_of_ble_eq_true rfl⟩, Nat.le_of_ble_eq_true rfl, Nat.le_of_ble_eq_true rfl⟩) hl.1 rfl (Nat.le_of_ble_eq_true rfl) d_D_set_20 (fun z_20 H locs hz_20 w => ?_)
      refine r_if_ne (pc := 23) (tgt := 29) C (by omega) d_D_set_23 (by decide) (fun c_23 => ?_) (fun c_23 => ?_)
      · skip
        have hb_23 : 0 ≤ x ∧ x ≤ 2 := by omega
        clear hz_20 c_23
        try (have hb2 : s ≤ 1 := by omega)
        refine r_aload_n (pc := 29) C d_D_set_29 rfl (lv_at hl 0 rfl) ?_
        refine r_get (pc := 30) (v := .ref q2) C w i_D rfl 0 rfl 1 (by decide) fl_D_16 rfl rfl d_D_set_30 ?_
        refine r_aload_n (pc := 33) C d_D_set_33 rfl (lv_at hl 0 rfl) ?_
        refine r_get (pc := 34) (v := .ref q) C w i_D rfl 0 rfl 0 (by decide) fl_D_10 rfl rfl d_D_set_34 ?_
        refine r_callVV (pc := 37) (As := [.ref q]) (rest := []) (wr := (dcore cI cO cZ o h sl us pd co q q2 q3 hf rcd sf uf T m ++ sw cI q3 a3 b3 sg3 ln3 r3 pl3 ov3 lc3 sd3 ++ hst cI st)) C w (c_S_becomeCopyOf hT q2 a2 b2 sg2 ln2 r2 pl2 ov2 lc2 sd2 q a b sg ln r N ov lc sd _ _ hO (by omega) (by omega) (by omega)) ml_D_48 im_S_becomeCopyOf se_S_becomeCopyOf ini_S cd_S_becomeCopyOf hd_S_becomeCopyOf rfl (by rw [hRm]; exact ⟨⟨Nat.le_of_ble_eq_true rfl, Nat.le_of_ble_eq_true rfl⟩, Nat.le_of_ble_eq_true rfl, Nat.le_of_ble_eq_true rfl⟩) hl.1 [9, 10, 11, 6, 7, 8] [0, 1, 2, 3, 4, 5, 12, 13, 14, 15, 16, 17, 18, 19, 20, 21, 22, 23, 24, 25, 26, 27, 28, 29, 30, 31, 32, 33, 34, 35, 36, 37, 38] ⟨rfl, rfl, by decide, by decide, by decide⟩ 0 rfl rfl rfl (Nat.le_of_ble_eq_true rfl) d_D_set_37 (fun u_37 H locs hz_37 w => ?_)
        obtain ⟨sg_37, ln_37, rfl, hO_37⟩ := hz_37
        have w : Wd X (dcore cI cO cZ o h sl us pd co q q2 q3 hf rcd sf uf T m ++ sw cI q a b sg ln r N ov lc sd ++ sw cI q2 a2 b2 sg_37 ln_37 r N 0 lc sd ++ sw cI q3 a3 b3 sg3 ln3 r3 pl3 ov3 lc3 sd3 ++ hst cI st) H locs := w.sub [0, 1, 2, 3, 4, 5, 36, 37, 38, 33, 34, 35, 6, 7, 8, 9, 10, 11, 12, 13, 14, 15, 16, 17, 18, 19, 20, 21, 22, 23, 24, 25, 26, 27, 28, 29, 30, 31, 32] rfl (by decide)
        refine r_iload_n (pc := 40) C d_D_set_40 rfl (lv_at hl 1 rfl) ?_
        refine r_if_ne (pc := 41) (tgt := 64) C (by omega) d_D_set_41 (by decide) (fun c_41 => ?_) (fun c_41 => ?_)
        · skip
          have hs0 : s = 1 := by omega
          subst hs0
          refine r_aload_n (pc := 64) C d_D_set_64 rfl (lv_at hl 0 rfl) ?_
          refine r_get (pc := 65) (v := .ref q2) C w i_D rfl 0 rfl 1 (by decide) fl_D_16 rfl rfl d_D_set_65 ?_
          refine r_iload_n (pc := 68) C d_D_set_68 rfl (lv_at hl 2 rfl) ?_
          refine r_put (pc := 69) (ws' := dcore cI cO cZ o h sl us pd co q q2 q3 hf rcd sf uf T m ++ sw cI q a b sg ln r N ov lc sd ++ sw cI q2 a2 b2 sg_37 ln_37 r N 0 lc x ++ sw cI q3 a3 b3 sg3 ln3 r3 pl3 ov3 lc3 sd3 ++ hst cI st) C w i_S t_S t_S_ok n_S rfl 9 rfl 6 (by decide) fl_D_59 rfl rfl rfl rfl (Nat.le_of_ble_eq_true rfl) rfl d_D_set_69 (fun H locs w => ?_)
          refine r_aload_n (pc := 72) C d_D_set_72 rfl (lv_at hl 0 rfl) ?_
          refine r_aload_n (pc := 73) C d_D_set_73 rfl (lv_at hl 0 rfl) ?_
          refine r_get (pc := 74) (v := .ref q) C w i_D rfl 0 rfl 0 (by decide) fl_D_10 rfl rfl d_D_set_74 ?_
          refine r_get (pc := 77) (v := .int (iI sd)) C w i_S rfl 6 rfl 6 (by decide) fl_D_59 rfl rfl d_D_set_77 ?_
          refine r_callVI (pc := 80) (As := [.int (iI sd)]) (rest := []) (wr := []) C w (c_D_accepted hT o h sl us pd co hf sf rcd m uf T q a b sg ln r N ov lc sd q2 a2 b2 sg_37 ln_37 r N 0 lc x q3 a3 b3 sg3 ln3 r3 pl3 ov3 lc3 sd3 st sd _ v _ hist slot hR hC (hVc _ _ hO_37) (by omega)) ml_D_55 im_D_accepted se_D_accepted ini_D cd_D_accepted hd_D_accepted rfl (by rw [hRm]; exact ⟨⟨Nat.le_of_ble_eq_true rfl, Nat.le_of_ble_eq_true rfl⟩, Nat.le_of_ble_eq_true rfl, Nat.le_of_ble_eq_true rfl⟩) hl.1 [0, 1, 2, 3, 4, 5, 6, 7, 8, 9, 10, 11, 12, 13, 14, 15, 16, 17, 18, 19, 20, 21, 22, 23, 24, 25, 26, 27, 28, 29, 30, 31, 32, 33, 34, 35, 36, 37, 38] [] ⟨rfl, rfl, by decide, by decide, by decide⟩ 0 rfl rfl rfl (Nat.le_of_ble_eq_true rfl) d_D_set_80 (fun z_80 u_80 H locs hz_80 w => ?_)
          exact kret _ _ _ _ z_80 _ d_D_set_83 w (by rcases hz_80 with ⟨f1, f2, rfl⟩ | ⟨f1, f2, A, f3, f4⟩; exact ⟨_, cw_mk hR hC, Or.inr (Or.inl ⟨by unfold errSet; (repeat' split) <;> omega, f1, f2, rfl⟩)⟩; exact ⟨A, f3, Or.inr (Or.inr ⟨by unfold errSet; (repeat' split) <;> omega, f1, f2, f4⟩)⟩)
        · skip
          have hs0 : s = 0 := by omega
          subst hs0
          refine r_aload_n (pc := 44) C d_D_set_44 rfl (lv_at hl 0 rfl) ?_
          refine r_get (pc := 45) (v := .ref q2) C w i_D rfl 0 rfl 1 (by decide) fl_D_16 rfl rfl d_D_set_45 ?_
          refine r_iload_n (pc := 48) C d_D_set_48 rfl (lv_at hl 2 rfl) ?_
          refine r_put (pc := 49) (ws' := dcore cI cO cZ o h sl us pd co q q2 q3 hf rcd sf uf T m ++ sw cI q a b sg ln r N ov lc sd ++ sw cI q2 a2 b2 sg_37 ln_37 r N 0 x sd ++ sw cI q3 a3 b3 sg3 ln3 r3 pl3 ov3 lc3 sd3 ++ hst cI st) C w i_S t_S t_S_ok n_S rfl 9 rfl 5 (by decide) fl_D_52 rfl rfl rfl rfl (Nat.le_of_ble_eq_true rfl) rfl d_D_set_49 (fun H locs w => ?_)
          refine r_aload_n (pc := 52) C d_D_set_52 rfl (lv_at hl 0 rfl) ?_
          refine r_aload_n (pc := 53) C d_D_set_53 rfl (lv_at hl 0 rfl) ?_
          refine r_get (pc := 54) (v := .ref q) C w i_D rfl 0 rfl 0 (by decide) fl_D_10 rfl rfl d_D_set_54 ?_
          refine r_get (pc := 57) (v := .int (iI lc)) C w i_S rfl 6 rfl 5 (by decide) fl_D_52 rfl rfl d_D_set_57 ?_
          refine r_callVI (pc := 60) (As := [.int (iI lc)]) (rest := []) (wr := []) C w (c_D_accepted hT o h sl us pd co hf sf rcd m uf T q a b sg ln r N ov lc sd q2 a2 b2 sg_37 ln_37 r N 0 x sd q3 a3 b3 sg3 ln3 r3 pl3 ov3 lc3 sd3 st lc _ v _ hist slot hR hC (hVc _ _ hO_37) (by omega)) ml_D_55 im_D_accepted se_D_accepted ini_D cd_D_accepted hd_D_accepted rfl (by rw [hRm]; exact ⟨⟨Nat.le_of_ble_eq_true rfl, Nat.le_of_ble_eq_true rfl⟩, Nat.le_of_ble_eq_true rfl, Nat.le_of_ble_eq_true rfl⟩) hl.1 [0, 1, 2, 3, 4, 5, 6, 7, 8, 9, 10, 11, 12, 13, 14, 15, 16, 17, 18, 19, 20, 21, 22, 23, 24, 25, 26, 27, 28, 29, 30, 31, 32, 33, 34, 35, 36, 37, 38] [] ⟨rfl, rfl, by decide, by decide, by decide⟩ 0 rfl rfl rfl (Nat.le_of_ble_eq_true rfl) d_D_set_60 (fun z_60 u_60 H locs hz_60 w => ?_)
          exact kret _ _ _ _ z_60 _ d_D_set_63 w (by rcases hz_60 with ⟨f1, f2, rfl⟩ | ⟨f1, f2, A, f3, f4⟩; exact ⟨_, cw_mk hR hC, Or.inr (Or.inl ⟨by unfold errSet; (repeat' split) <;> omega, f1, f2, rfl⟩)⟩; exact ⟨A, f3, Or.inr (Or.inr ⟨by unfold errSet; (repeat' split) <;> omega, f1, f2, f4⟩)⟩)
      · skip
        have hb_23 : ¬ (0 ≤ x ∧ x ≤ 2) := by omega
        clear hz_20 c_23
        refine r_bipush (pc := 26) C d_D_set_26 (by decide) ?_
        exact kret _ _ _ _ (-2) _ d_D_set_28 w (⟨_, cw_mk hR hC, Or.inl ⟨by unfold errSet; (repeat' split) <;> omega, by unfold errSet; (repeat' split) <;> omega, rfl⟩⟩)
def Sp_insert (p s k : Int) (A : AS) (z : Int) (A' : AS) : Prop := match A with | ((lc, sd, r, sg, ln, N, v), hist, rcd, slot, uf, T, m) => SpE A z A' (errIns N p s k) (lc) (sd) (N + k) (ins v p s k) (N + k)
theorem d_D_insert_0 : decode b_D_insert 0 = .ok (.iload_n 1, 1) := by decide +kernel
theorem d_D_insert_1 : decode b_D_insert 1 = .ok (.iconst 0, 1) := by decide +kernel
theorem d_D_insert_2 : decode b_D_insert 2 = .ok (.aload_n 0, 1) := by decide +kernel
theorem d_D_insert_3 : decode b_D_insert 3 = .ok (.getfield 10, 3) := by decide +kernel
theorem d_D_insert_6 : decode b_D_insert 6 = .ok (.getfield 62, 3) := by decide +kernel
theorem d_D_insert_9 : decode b_D_insert 9 = .ok (.invokestatic 44, 3) := by decide +kernel
theorem d_D_insert_12 : decode b_D_insert 12 = .ok (.ifCond .ne 5, 3) := by decide +kernel
theorem d_D_insert_15 : decode b_D_insert 15 = .ok (.iconst (-1), 1) := by decide +kernel
theorem d_D_insert_16 : decode b_D_insert 16 = .ok (.ireturn, 1) := by decide +kernel
theorem d_D_insert_17 : decode b_D_insert 17 = .ok (.iload_n 2, 1) := by decide +kernel
theorem d_D_insert_18 : decode b_D_insert 18 = .ok (.iconst 0, 1) := by decide +kernel
theorem d_D_insert_19 : decode b_D_insert 19 = .ok (.bipush 10, 2) := by decide +kernel
theorem d_D_insert_21 : decode b_D_insert 21 = .ok (.invokestatic 44, 3) := by decide +kernel
theorem d_D_insert_24 : decode b_D_insert 24 = .ok (.ifCond .eq 14, 3) := by decide +kernel
theorem d_D_insert_27 : decode b_D_insert 27 = .ok (.iload_n 3, 1) := by decide +kernel
theorem d_D_insert_28 : decode b_D_insert 28 = .ok (.iconst 1, 1) := by decide +kernel
theorem d_D_insert_29 : decode b_D_insert 29 = .ok (.sipush 3000, 3) := by decide +kernel
theorem d_D_insert_32 : decode b_D_insert 32 = .ok (.invokestatic 44, 3) := by decide +kernel
theorem d_D_insert_35 : decode b_D_insert 35 = .ok (.ifCond .ne 6, 3) := by decide +kernel
theorem d_D_insert_38 : decode b_D_insert 38 = .ok (.bipush (-2), 2) := by decide +kernel
theorem d_D_insert_40 : decode b_D_insert 40 = .ok (.ireturn, 1) := by decide +kernel
theorem d_D_insert_41 : decode b_D_insert 41 = .ok (.aload_n 0, 1) := by decide +kernel
theorem d_D_insert_42 : decode b_D_insert 42 = .ok (.getfield 16, 3) := by decide +kernel
theorem d_D_insert_45 : decode b_D_insert 45 = .ok (.aload_n 0, 1) := by decide +kernel
theorem d_D_insert_46 : decode b_D_insert 46 = .ok (.getfield 10, 3) := by decide +kernel
theorem d_D_insert_49 : decode b_D_insert 49 = .ok (.invokevirtual 65, 3) := by decide +kernel
theorem d_D_insert_52 : decode b_D_insert 52 = .ok (.aload_n 0, 1) := by decide +kernel
theorem d_D_insert_53 : decode b_D_insert 53 = .ok (.getfield 16, 3) := by decide +kernel
theorem d_D_insert_56 : decode b_D_insert 56 = .ok (.aload_n 0, 1) := by decide +kernel
theorem d_D_insert_57 : decode b_D_insert 57 = .ok (.getfield 10, 3) := by decide +kernel
theorem d_D_insert_60 : decode b_D_insert 60 = .ok (.iconst 0, 1) := by decide +kernel
theorem d_D_insert_61 : decode b_D_insert 61 = .ok (.iload_n 1, 1) := by decide +kernel
theorem d_D_insert_62 : decode b_D_insert 62 = .ok (.invokevirtual 68, 3) := by decide +kernel
theorem d_D_insert_65 : decode b_D_insert 65 = .ok (.aload_n 0, 1) := by decide +kernel
theorem d_D_insert_66 : decode b_D_insert 66 = .ok (.getfield 16, 3) := by decide +kernel
theorem d_D_insert_69 : decode b_D_insert 69 = .ok (.iload_n 2, 1) := by decide +kernel
theorem d_D_insert_70 : decode b_D_insert 70 = .ok (.iload_n 3, 1) := by decide +kernel
theorem d_D_insert_71 : decode b_D_insert 71 = .ok (.invokevirtual 72, 3) := by decide +kernel
theorem d_D_insert_74 : decode b_D_insert 74 = .ok (.aload_n 0, 1) := by decide +kernel
theorem d_D_insert_75 : decode b_D_insert 75 = .ok (.getfield 16, 3) := by decide +kernel
theorem d_D_insert_78 : decode b_D_insert 78 = .ok (.aload_n 0, 1) := by decide +kernel
theorem d_D_insert_79 : decode b_D_insert 79 = .ok (.getfield 10, 3) := by decide +kernel
theorem d_D_insert_82 : decode b_D_insert 82 = .ok (.iload_n 1, 1) := by decide +kernel
theorem d_D_insert_83 : decode b_D_insert 83 = .ok (.aload_n 0, 1) := by decide +kernel
theorem d_D_insert_84 : decode b_D_insert 84 = .ok (.getfield 10, 3) := by decide +kernel
theorem d_D_insert_87 : decode b_D_insert 87 = .ok (.getfield 62, 3) := by decide +kernel
theorem d_D_insert_90 : decode b_D_insert 90 = .ok (.invokevirtual 68, 3) := by decide +kernel
theorem d_D_insert_93 : decode b_D_insert 93 = .ok (.aload_n 0, 1) := by decide +kernel
theorem d_D_insert_94 : decode b_D_insert 94 = .ok (.aload_n 0, 1) := by decide +kernel
theorem d_D_insert_95 : decode b_D_insert 95 = .ok (.getfield 16, 3) := by decide +kernel
theorem d_D_insert_98 : decode b_D_insert 98 = .ok (.getfield 62, 3) := by decide +kernel
theorem d_D_insert_101 : decode b_D_insert 101 = .ok (.invokevirtual 55, 3) := by decide +kernel
theorem d_D_insert_104 : decode b_D_insert 104 = .ok (.ireturn, 1) := by decide +kernel
set_option maxHeartbeats 4000000 in
set_option maxRecDepth 20000 in
theorem c_D_insert {l : Launch} {G : va_G} {tys : List (ClassId × FieldType)} {cI cO cZ : ClassId} (hT : TY tys cI cO cZ) (o : Nat) (A : AS) (ws : va_W) (hA : CW cI cO cZ o A ws) (p s k : Int) (hrg : (-2147483648 ≤ p ∧ p < 2147483648) ∧ (-2147483648 ≤ s ∧ s < 2147483648) ∧ (-2147483648 ≤ k ∧ k < 2147483648)) : CTI l G tys y_D_insert b_D_insert 4 .int 3 67 [.ref o, .int (iI p), .int (iI s), .int (iI k)] ws (fun z u => ∃ A' : AS, CW cI cO cZ o A' u ∧ Sp_insert p s k A z A') := by
  obtain ⟨⟨lc, sd, r, sg, ln, N, v⟩, hist, rcd, slot, uf, T, m⟩ := A
  obtain ⟨hR, h, sl, us, pd, co, hf, sf, q, a, b, ov, q2, a2, b2, sg2, ln2, r2, pl2, ov2, lc2, sd2, q3, a3, b3, sg3, ln3, r3, pl3, ov3, lc3, sd3, st, rfl, hC⟩ := hA
  have hO := hR.1
  have hr5 := hR.2.1
  have hN3 := hR.2.2.1
  have hN0 := hO.n0
  have hr0 := hO.1
  have hlcd := hR.2.2.2
  have hm80 := hC.2.2.2.2.2.1
  have hrcd6 := hC.2.2.1
  refine mkI (by decide) (Nat.le_of_ble_eq_true rfl) ?_
  rintro X rfl rfl rfl hRm C kret H ls w hl
  have hl : lv_has ls 4 [(0, .ref o), (1, .int (iI p)), (2, .int (iI s)), (3, .int (iI k))] := hl
  have w : Wd X (dcore cI cO cZ o h sl us pd co q q2 q3 hf rcd sf uf T m ++ sw cI q a b sg ln r N ov lc sd ++ sw cI q2 a2 b2 sg2 ln2 r2 pl2 ov2 lc2 sd2 ++ sw cI q3 a3 b3 sg3 ln3 r3 pl3 ov3 lc3 sd3 ++ hst cI st) H [] := w
  generalize ([] : List Loc) = locs at w ⊢
  refine r_iload_n (pc := 0) C d_D_insert_0 rfl (lv_at hl 1 rfl) ?_
  refine r_iconst (pc := 1) C d_D_insert_1 ?_
  refine r_aload_n (pc := 2) C d_D_insert_2 rfl (lv_at hl 0 rfl) ?_
  refine r_get (pc := 3) (v := .ref q) C w i_D rfl 0 rfl 0 (by decide) fl_D_10 rfl rfl d_D_insert_3 ?_
  refine r_get (pc := 6) (v := .int (iI N)) C w i_S rfl 6 rfl 3 (by decide) fl_D_62 rfl rfl d_D_insert_6 ?_
  refine r_callP (pc := 9) (As := [.int (iI p), .int (iI 0), .int (iI N)]) (rest := []) C w (c_D_isWithin p 0 N (by omega)) ml_D_44 st_D_isWithin ini_D cd_D_isWithin hd_D_isWithin rfl (by rw [hRm]; exact ⟨⟨Nat.le_of_ble_eq_true rfl, Nat.le_of_ble_eq_true rfl⟩, Nat.le_of_ble_eq_true rfl, Nat.le_of_ble_eq_true rfl⟩) hl.1 rfl (Nat.le_of_ble_eq_true rfl) d_D_insert_9 (fun z_9 H locs hz_9 w => ?_)
  refine r_if_ne (pc := 12) (tgt := 17) C (by omega) d_D_insert_12 (by decide) (fun c_12 => ?_) (fun c_12 => ?_)
  · skip
    have hb_12 : 0 ≤ p ∧ p ≤ N := by omega
    clear hz_9 c_12
    refine r_iload_n (pc := 17) C d_D_insert_17 rfl (lv_at hl 2 rfl) ?_
    refine r_iconst (pc := 18) C d_D_insert_18 ?_
    refine r_bipush (pc := 19) C d_D_insert_19 (by decide) ?_
    refine r_callP (pc := 21) (As := [.int (iI s), .int (iI 0), .int (iI 10)]) (rest := []) C w (c_D_isWithin s 0 10 (by omega)) ml_D_44 st_D_isWithin ini_D cd_D_isWithin hd_D_isWithin rfl (by rw [hRm]; exact ⟨⟨Nat.le_of_ble_eq_true rfl, Nat.le_of_ble_eq_true rfl⟩, Nat.le_of_ble_eq_true rfl, Nat.le_of_ble_eq_true rfl⟩) hl.1 rfl (Nat.le_of_ble_eq_true rfl) d_D_insert_21 (fun z_21 H locs hz_21 w => ?_)
    refine r_if_eq (pc := 24) (tgt := 38) C (by omega) d_D_insert_24 (by decide) (fun c_24 => ?_) (fun c_24 => ?_)
    · skip
      have hb_24 : ¬ (0 ≤ s ∧ s ≤ 10) := by omega
      clear hz_21 c_24
      refine r_bipush (pc := 38) C d_D_insert_38 (by decide) ?_
      exact kret _ _ _ _ (-2) _ d_D_insert_40 w (⟨_, cw_mk hR hC, Or.inl ⟨by unfold errIns; (repeat' split) <;> omega, by unfold errIns; (repeat' split) <;> omega, rfl⟩⟩)
    · skip
      have hb_24 : 0 ≤ s ∧ s ≤ 10 := by omega
      clear hz_21 c_24
      refine r_iload_n (pc := 27) C d_D_insert_27 rfl (lv_at hl 3 rfl) ?_
      refine r_iconst (pc := 28) C d_D_insert_28 ?_
      refine r_sipush (pc := 29) C d_D_insert_29 (by decide) ?_
      refine r_callP (pc := 32) (As := [.int (iI k), .int (iI 1), .int (iI 3000)]) (rest := []) C w (c_D_isWithin k 1 3000 (by omega)) ml_D_44 st_D_isWithin ini_D cd_D_isWithin hd_D_isWithin rfl (by rw [hRm]; exact ⟨⟨Nat.le_of_ble_eq_true rfl, Nat.le_of_ble_eq_true rfl⟩, Nat.le_of_ble_eq_true rfl, Nat.le_of_ble_eq_true rfl⟩) hl.1 rfl (Nat.le_of_ble_eq_true rfl) d_D_insert_32 (fun z_32 H locs hz_32 w => ?_)
      refine r_if_ne (pc := 35) (tgt := 41) C (by omega) d_D_insert_35 (by decide) (fun c_35 => ?_) (fun c_35 => ?_)
      · skip
        have hb_35 : 1 ≤ k ∧ k ≤ 3000 := by omega
        clear hz_32 c_35
        refine r_aload_n (pc := 41) C d_D_insert_41 rfl (lv_at hl 0 rfl) ?_
        refine r_get (pc := 42) (v := .ref q2) C w i_D rfl 0 rfl 1 (by decide) fl_D_16 rfl rfl d_D_insert_42 ?_
        refine r_aload_n (pc := 45) C d_D_insert_45 rfl (lv_at hl 0 rfl) ?_
        refine r_get (pc := 46) (v := .ref q) C w i_D rfl 0 rfl 0 (by decide) fl_D_10 rfl rfl d_D_insert_46 ?_
        refine r_callVV (pc := 49) (As := [.ref q]) (rest := []) (wr := (dcore cI cO cZ o h sl us pd co q q2 q3 hf rcd sf uf T m ++ sw cI q3 a3 b3 sg3 ln3 r3 pl3 ov3 lc3 sd3 ++ hst cI st)) C w (c_S_startLike hT q2 a2 b2 sg2 ln2 r2 pl2 ov2 lc2 sd2 q a b sg ln r N ov lc sd) ml_D_65 im_S_startLike se_S_startLike ini_S cd_S_startLike hd_S_startLike rfl (by rw [hRm]; exact ⟨⟨Nat.le_of_ble_eq_true rfl, Nat.le_of_ble_eq_true rfl⟩, Nat.le_of_ble_eq_true rfl, Nat.le_of_ble_eq_true rfl⟩) hl.1 [9, 10, 11, 6, 7, 8] [0, 1, 2, 3, 4, 5, 12, 13, 14, 15, 16, 17, 18, 19, 20, 21, 22, 23, 24, 25, 26, 27, 28, 29, 30, 31, 32, 33, 34, 35, 36, 37, 38] ⟨rfl, rfl, by decide, by decide, by decide⟩ 0 rfl rfl rfl (Nat.le_of_ble_eq_true rfl) d_D_insert_49 (fun u_49 H locs hz_49 w => ?_)
        subst hz_49
        have w : Wd X (dcore cI cO cZ o h sl us pd co q q2 q3 hf rcd sf uf T m ++ sw cI q a b sg ln r N ov lc sd ++ sw cI q2 a2 b2 sg2 ln2 0 0 0 lc sd ++ sw cI q3 a3 b3 sg3 ln3 r3 pl3 ov3 lc3 sd3 ++ hst cI st) H locs := w.sub [0, 1, 2, 3, 4, 5, 36, 37, 38, 33, 34, 35, 6, 7, 8, 9, 10, 11, 12, 13, 14, 15, 16, 17, 18, 19, 20, 21, 22, 23, 24, 25, 26, 27, 28, 29, 30, 31, 32] rfl (by decide)
        refine r_aload_n (pc := 52) C d_D_insert_52 rfl (lv_at hl 0 rfl) ?_
        refine r_get (pc := 53) (v := .ref q2) C w i_D rfl 0 rfl 1 (by decide) fl_D_16 rfl rfl d_D_insert_53 ?_
        refine r_aload_n (pc := 56) C d_D_insert_56 rfl (lv_at hl 0 rfl) ?_
        refine r_get (pc := 57) (v := .ref q) C w i_D rfl 0 rfl 0 (by decide) fl_D_10 rfl rfl d_D_insert_57 ?_
        refine r_iconst (pc := 60) C d_D_insert_60 ?_
        refine r_iload_n (pc := 61) C d_D_insert_61 rfl (lv_at hl 1 rfl) ?_
        refine r_callVV (pc := 62) (As := [.ref q, .int (iI 0), .int (iI p)]) (rest := []) (wr := (dcore cI cO cZ o h sl us pd co q q2 q3 hf rcd sf uf T m ++ sw cI q3 a3 b3 sg3 ln3 r3 pl3 ov3 lc3 sd3 ++ hst cI st)) C w (c_S_appendPiece hT q2 a2 b2 sg2 ln2 0 0 0 lc sd q a b sg ln r N ov lc sd _ _ p 0 _ _ (RV.empty _ _ v) hO (by omega) (by omega) (by omega) (by omega)) ml_D_68 im_S_appendPiece se_S_appendPiece ini_S cd_S_appendPiece hd_S_appendPiece rfl (by rw [hRm]; exact ⟨⟨Nat.le_of_ble_eq_true rfl, Nat.le_of_ble_eq_true rfl⟩, Nat.le_of_ble_eq_true rfl, Nat.le_of_ble_eq_true rfl⟩) hl.1 [9, 10, 11, 6, 7, 8] [0, 1, 2, 3, 4, 5, 12, 13, 14, 15, 16, 17, 18, 19, 20, 21, 22, 23, 24, 25, 26, 27, 28, 29, 30, 31, 32, 33, 34, 35, 36, 37, 38] ⟨rfl, rfl, by decide, by decide, by decide⟩ 0 rfl rfl rfl (Nat.le_of_ble_eq_true rfl) d_D_insert_62 (fun u_62 H locs hz_62 w => ?_)
        obtain ⟨sg_62, ln_62, r_62, pl_62, ov_62, rfl, hV_62⟩ := hz_62
        have w : Wd X (dcore cI cO cZ o h sl us pd co q q2 q3 hf rcd sf uf T m ++ sw cI q a b sg ln r N ov lc sd ++ sw cI q2 a2 b2 sg_62 ln_62 r_62 pl_62 ov_62 lc sd ++ sw cI q3 a3 b3 sg3 ln3 r3 pl3 ov3 lc3 sd3 ++ hst cI st) H locs := w.sub [0, 1, 2, 3, 4, 5, 36, 37, 38, 33, 34, 35, 6, 7, 8, 9, 10, 11, 12, 13, 14, 15, 16, 17, 18, 19, 20, 21, 22, 23, 24, 25, 26, 27, 28, 29, 30, 31, 32] rfl (by decide)
        have hV6 := hV_62.to (n' := p) (u := v) (by omega) (fun x h1 _ => by rw [cat_ge (by omega)]; congr 1; omega)
        refine r_aload_n (pc := 65) C d_D_insert_65 rfl (lv_at hl 0 rfl) ?_
        refine r_get (pc := 66) (v := .ref q2) C w i_D rfl 0 rfl 1 (by decide) fl_D_16 rfl rfl d_D_insert_66 ?_
        refine r_iload_n (pc := 69) C d_D_insert_69 rfl (lv_at hl 2 rfl) ?_
        refine r_iload_n (pc := 70) C d_D_insert_70 rfl (lv_at hl 3 rfl) ?_
        refine r_callVV (pc := 71) (As := [.int (iI s), .int (iI k)]) (rest := []) (wr := (dcore cI cO cZ o h sl us pd co q q2 q3 hf rcd sf uf T m ++ sw cI q a b sg ln r N ov lc sd ++ sw cI q3 a3 b3 sg3 ln3 r3 pl3 ov3 lc3 sd3 ++ hst cI st)) C w (c_S_append hT q2 a2 b2 sg_62 ln_62 r_62 pl_62 ov_62 lc sd s k _ _ hV6 (by omega) (by omega)) ml_D_72 im_S_append se_S_append ini_S cd_S_append hd_S_append rfl (by rw [hRm]; exact ⟨⟨Nat.le_of_ble_eq_true rfl, Nat.le_of_ble_eq_true rfl⟩, Nat.le_of_ble_eq_true rfl, Nat.le_of_ble_eq_true rfl⟩) hl.1 [9, 10, 11] [0, 1, 2, 3, 4, 5, 6, 7, 8, 12, 13, 14, 15, 16, 17, 18, 19, 20, 21, 22, 23, 24, 25, 26, 27, 28, 29, 30, 31, 32, 33, 34, 35, 36, 37, 38] ⟨rfl, rfl, by decide, by decide, by decide⟩ 0 rfl rfl rfl (Nat.le_of_ble_eq_true rfl) d_D_insert_71 (fun u_71 H locs hz_71 w => ?_)
        obtain ⟨sg_71, ln_71, r_71, pl_71, ov_71, rfl, hV_71⟩ := hz_71
        have w : Wd X (dcore cI cO cZ o h sl us pd co q q2 q3 hf rcd sf uf T m ++ sw cI q a b sg ln r N ov lc sd ++ sw cI q2 a2 b2 sg_71 ln_71 r_71 pl_71 ov_71 lc sd ++ sw cI q3 a3 b3 sg3 ln3 r3 pl3 ov3 lc3 sd3 ++ hst cI st) H locs := w.sub [0, 1, 2, 3, 4, 5, 6, 7, 8, 36, 37, 38, 9, 10, 11, 12, 13, 14, 15, 16, 17, 18, 19, 20, 21, 22, 23, 24, 25, 26, 27, 28, 29, 30, 31, 32, 33, 34, 35] rfl (by decide)
        have hV7 := hV_71.to (n' := p + k) (by omega) (fun _ _ _ => rfl)
        refine r_aload_n (pc := 74) C d_D_insert_74 rfl (lv_at hl 0 rfl) ?_
        refine r_get (pc := 75) (v := .ref q2) C w i_D rfl 0 rfl 1 (by decide) fl_D_16 rfl rfl d_D_insert_75 ?_
        refine r_aload_n (pc := 78) C d_D_insert_78 rfl (lv_at hl 0 rfl) ?_
        refine r_get (pc := 79) (v := .ref q) C w i_D rfl 0 rfl 0 (by decide) fl_D_10 rfl rfl d_D_insert_79 ?_
        refine r_iload_n (pc := 82) C d_D_insert_82 rfl (lv_at hl 1 rfl) ?_
        refine r_aload_n (pc := 83) C d_D_insert_83 rfl (lv_at hl 0 rfl) ?_
        refine r_get (pc := 84) (v := .ref q) C w i_D rfl 0 rfl 0 (by decide) fl_D_10 rfl rfl d_D_insert_84 ?_
        refine r_get (pc := 87) (v := .int (iI N)) C w i_S rfl 6 rfl 3 (by decide) fl_D_62 rfl rfl d_D_insert_87 ?_
        refine r_callVV (pc := 90) (As := [.ref q, .int (iI p), .int (iI N)]) (rest := []) (wr := (dcore cI cO cZ o h sl us pd co q q2 q3 hf rcd sf uf T m ++ sw cI q3 a3 b3 sg3 ln3 r3 pl3 ov3 lc3 sd3 ++ hst cI st)) C w (c_S_appendPiece hT q2 a2 b2 sg_71 ln_71 r_71 pl_71 ov_71 lc sd q a b sg ln r N ov lc sd _ _ N p _ _ hV7 hO (by omega) (by omega) (by omega) (by omega)) ml_D_68 im_S_appendPiece se_S_appendPiece ini_S cd_S_appendPiece hd_S_appendPiece rfl (by rw [hRm]; exact ⟨⟨Nat.le_of_ble_eq_true rfl, Nat.le_of_ble_eq_true rfl⟩, Nat.le_of_ble_eq_true rfl, Nat.le_of_ble_eq_true rfl⟩) hl.1 [9, 10, 11, 6, 7, 8] [0, 1, 2, 3, 4, 5, 12, 13, 14, 15, 16, 17, 18, 19, 20, 21, 22, 23, 24, 25, 26, 27, 28, 29, 30, 31, 32, 33, 34, 35, 36, 37, 38] ⟨rfl, rfl, by decide, by decide, by decide⟩ 0 rfl rfl rfl (Nat.le_of_ble_eq_true rfl) d_D_insert_90 (fun u_90 H locs hz_90 w => ?_)
        obtain ⟨sg_90, ln_90, r_90, pl_90, ov_90, rfl, hV_90⟩ := hz_90
        have w : Wd X (dcore cI cO cZ o h sl us pd co q q2 q3 hf rcd sf uf T m ++ sw cI q a b sg ln r N ov lc sd ++ sw cI q2 a2 b2 sg_90 ln_90 r_90 pl_90 ov_90 lc sd ++ sw cI q3 a3 b3 sg3 ln3 r3 pl3 ov3 lc3 sd3 ++ hst cI st) H locs := w.sub [0, 1, 2, 3, 4, 5, 36, 37, 38, 33, 34, 35, 6, 7, 8, 9, 10, 11, 12, 13, 14, 15, 16, 17, 18, 19, 20, 21, 22, 23, 24, 25, 26, 27, 28, 29, 30, 31, 32] rfl (by decide)
        have hV9 := hV_90.to (n' := N + k) (u := ins v p s k) (by omega) (fun x h1 h2 => by unfold ins cat app; (repeat' split) <;> first | rfl | (congr 1 <;> omega) | (exfalso; omega))
        refine r_aload_n (pc := 93) C d_D_insert_93 rfl (lv_at hl 0 rfl) ?_
        refine r_aload_n (pc := 94) C d_D_insert_94 rfl (lv_at hl 0 rfl) ?_
        refine r_get (pc := 95) (v := .ref q2) C w i_D rfl 0 rfl 1 (by decide) fl_D_16 rfl rfl d_D_insert_95 ?_
        refine r_get (pc := 98) (v := .int (iI pl_90)) C w i_S rfl 9 rfl 3 (by decide) fl_D_62 rfl rfl d_D_insert_98 ?_
        refine r_callVI (pc := 101) (As := [.int (iI pl_90)]) (rest := []) (wr := []) C w (c_D_accepted hT o h sl us pd co hf sf rcd m uf T q a b sg ln r N ov lc sd q2 a2 b2 sg_90 ln_90 r_90 pl_90 ov_90 lc sd q3 a3 b3 sg3 ln3 r3 pl3 ov3 lc3 sd3 st pl_90 _ v _ hist slot hR hC hV9 (by omega)) ml_D_55 im_D_accepted se_D_accepted ini_D cd_D_accepted hd_D_accepted rfl (by rw [hRm]; exact ⟨⟨Nat.le_of_ble_eq_true rfl, Nat.le_of_ble_eq_true rfl⟩, Nat.le_of_ble_eq_true rfl, Nat.le_of_ble_eq_true rfl⟩) hl.1 [0, 1, 2, 3, 4, 5, 6, 7, 8, 9, 10, 11, 12, 13, 14, 15, 16, 17, 18, 19, 20, 21, 22, 23, 24, 25, 26, 27, 28, 29, 30, 31, 32, 33, 34, 35, 36, 37, 38] [] ⟨rfl, rfl, by decide, by decide, by decide⟩ 0 rfl rfl rfl (Nat.le_of_ble_eq_true rfl) d_D_insert_101 (fun z_101 u_101 H locs hz_101 w => ?_)
        exact kret _ _ _ _ z_101 _ d_D_insert_104 w (by rcases hz_101 with ⟨f1, f2, rfl⟩ | ⟨f1, f2, A, f3, f4⟩; exact ⟨_, cw_mk hR hC, Or.inr (Or.inl ⟨by unfold errIns; (repeat' split) <;> omega, f1, f2, rfl⟩)⟩; exact ⟨A, f3, Or.inr (Or.inr ⟨by unfold errIns; (repeat' split) <;> omega, f1, f2.trans (hV9.2.1 f1).2.1, f4⟩)⟩)
      · skip
        have hb_35 : ¬ (1 ≤ k ∧ k ≤ 3000) := by omega
        clear hz_32 c_35
        refine r_bipush (pc := 38) C d_D_insert_38 (by decide) ?_
        exact kret _ _ _ _ (-2) _ d_D_insert_40 w (⟨_, cw_mk hR hC, Or.inl ⟨by unfold errIns; (repeat' split) <;> omega, by unfold errIns; (repeat' split) <;> omega, rfl⟩⟩)
  · skip
    have hb_12 : ¬ (0 ≤ p ∧ p ≤ N) := by omega
    clear hz_9 c_12
    refine r_iconst (pc := 15) C d_D_insert_15 ?_
    exact kret _ _ _ _ (-1) _ d_D_insert_16 w (⟨_, cw_mk hR hC, Or.inl ⟨by unfold errIns; (repeat' split) <;> omega, by unfold errIns; (repeat' split) <;> omega, rfl⟩⟩)
def Sp_erase (f k : Int) (A : AS) (z : Int) (A' : AS) : Prop := match A with | ((lc, sd, r, sg, ln, N, v), hist, rcd, slot, uf, T, m) => SpE A z A' (errEr N f k sd (cn v 10 f (f + k))) (lc) (sd) (N - k) (del v f k) (N - k)
theorem d_D_erase_0 : decode b_D_erase 0 = .ok (.aload_n 0, 1) := by decide +kernel
theorem d_D_erase_1 : decode b_D_erase 1 = .ok (.iload_n 1, 1) := by decide +kernel
theorem d_D_erase_2 : decode b_D_erase 2 = .ok (.iload_n 2, 1) := by decide +kernel
theorem d_D_erase_3 : decode b_D_erase 3 = .ok (.invokevirtual 76, 3) := by decide +kernel
theorem d_D_erase_6 : decode b_D_erase 6 = .ok (.ifCond .ne 5, 3) := by decide +kernel
theorem d_D_erase_9 : decode b_D_erase 9 = .ok (.iconst (-1), 1) := by decide +kernel
theorem d_D_erase_10 : decode b_D_erase 10 = .ok (.ireturn, 1) := by decide +kernel
theorem d_D_erase_11 : decode b_D_erase 11 = .ok (.aload_n 0, 1) := by decide +kernel
theorem d_D_erase_12 : decode b_D_erase 12 = .ok (.getfield 10, 3) := by decide +kernel
theorem d_D_erase_15 : decode b_D_erase 15 = .ok (.getfield 59, 3) := by decide +kernel
theorem d_D_erase_18 : decode b_D_erase 18 = .ok (.iconst 1, 1) := by decide +kernel
theorem d_D_erase_19 : decode b_D_erase 19 = .ok (.if_icmp .ne 22, 3) := by decide +kernel
theorem d_D_erase_22 : decode b_D_erase 22 = .ok (.aload_n 0, 1) := by decide +kernel
theorem d_D_erase_23 : decode b_D_erase 23 = .ok (.getfield 10, 3) := by decide +kernel
theorem d_D_erase_26 : decode b_D_erase 26 = .ok (.iload_n 1, 1) := by decide +kernel
theorem d_D_erase_27 : decode b_D_erase 27 = .ok (.iload_n 1, 1) := by decide +kernel
theorem d_D_erase_28 : decode b_D_erase 28 = .ok (.iload_n 2, 1) := by decide +kernel
theorem d_D_erase_29 : decode b_D_erase 29 = .ok (.iadd, 1) := by decide +kernel
theorem d_D_erase_30 : decode b_D_erase 30 = .ok (.bipush 10, 2) := by decide +kernel
theorem d_D_erase_32 : decode b_D_erase 32 = .ok (.invokevirtual 80, 3) := by decide +kernel
theorem d_D_erase_35 : decode b_D_erase 35 = .ok (.ifCond .le 6, 3) := by decide +kernel
theorem d_D_erase_38 : decode b_D_erase 38 = .ok (.bipush (-5), 2) := by decide +kernel
theorem d_D_erase_40 : decode b_D_erase 40 = .ok (.ireturn, 1) := by decide +kernel
theorem d_D_erase_41 : decode b_D_erase 41 = .ok (.aload_n 0, 1) := by decide +kernel
theorem d_D_erase_42 : decode b_D_erase 42 = .ok (.getfield 16, 3) := by decide +kernel
theorem d_D_erase_45 : decode b_D_erase 45 = .ok (.aload_n 0, 1) := by decide +kernel
theorem d_D_erase_46 : decode b_D_erase 46 = .ok (.getfield 10, 3) := by decide +kernel
theorem d_D_erase_49 : decode b_D_erase 49 = .ok (.invokevirtual 65, 3) := by decide +kernel
theorem d_D_erase_52 : decode b_D_erase 52 = .ok (.aload_n 0, 1) := by decide +kernel
theorem d_D_erase_53 : decode b_D_erase 53 = .ok (.getfield 16, 3) := by decide +kernel
theorem d_D_erase_56 : decode b_D_erase 56 = .ok (.aload_n 0, 1) := by decide +kernel
theorem d_D_erase_57 : decode b_D_erase 57 = .ok (.getfield 10, 3) := by decide +kernel
theorem d_D_erase_60 : decode b_D_erase 60 = .ok (.iload_n 1, 1) := by decide +kernel
theorem d_D_erase_61 : decode b_D_erase 61 = .ok (.iload_n 1, 1) := by decide +kernel
theorem d_D_erase_62 : decode b_D_erase 62 = .ok (.iload_n 2, 1) := by decide +kernel
theorem d_D_erase_63 : decode b_D_erase 63 = .ok (.iadd, 1) := by decide +kernel
theorem d_D_erase_64 : decode b_D_erase 64 = .ok (.invokevirtual 84, 3) := by decide +kernel
theorem d_D_erase_67 : decode b_D_erase 67 = .ok (.aload_n 0, 1) := by decide +kernel
theorem d_D_erase_68 : decode b_D_erase 68 = .ok (.aload_n 0, 1) := by decide +kernel
theorem d_D_erase_69 : decode b_D_erase 69 = .ok (.getfield 16, 3) := by decide +kernel
theorem d_D_erase_72 : decode b_D_erase 72 = .ok (.getfield 62, 3) := by decide +kernel
theorem d_D_erase_75 : decode b_D_erase 75 = .ok (.invokevirtual 55, 3) := by decide +kernel
theorem d_D_erase_78 : decode b_D_erase 78 = .ok (.ireturn, 1) := by decide +kernel
set_option maxHeartbeats 4000000 in
set_option maxRecDepth 20000 in
theorem c_D_erase {l : Launch} {G : va_G} {tys : List (ClassId × FieldType)} {cI cO cZ : ClassId} (hT : TY tys cI cO cZ) (o : Nat) (A : AS) (ws : va_W) (hA : CW cI cO cZ o A ws) (f k : Int) (hrg : (-2147483648 ≤ f ∧ f < 2147483648) ∧ (-2147483648 ≤ k ∧ k < 2147483648)) : CTI l G tys y_D_erase b_D_erase 3 .int 4 90 [.ref o, .int (iI f), .int (iI k)] ws (fun z u => ∃ A' : AS, CW cI cO cZ o A' u ∧ Sp_erase f k A z A') := by
  obtain ⟨⟨lc, sd, r, sg, ln, N, v⟩, hist, rcd, slot, uf, T, m⟩ := A
  obtain ⟨hR, h, sl, us, pd, co, hf, sf, q, a, b, ov, q2, a2, b2, sg2, ln2, r2, pl2, ov2, lc2, sd2, q3, a3, b3, sg3, ln3, r3, pl3, ov3, lc3, sd3, st, rfl, hC⟩ := hA
  have hO := hR.1
  have hr5 := hR.2.1
  have hN3 := hR.2.2.1
  have hN0 := hO.n0
  have hr0 := hO.1
  have hlcd := hR.2.2.2
  have hm80 := hC.2.2.2.2.2.1
  have hrcd6 := hC.2.2.1
  refine mkI (by decide) (Nat.le_of_ble_eq_true rfl) ?_
  rintro X rfl rfl rfl hRm C kret H ls w hl
  have hl : lv_has ls 3 [(0, .ref o), (1, .int (iI f)), (2, .int (iI k))] := hl
  have w : Wd X (dcore cI cO cZ o h sl us pd co q q2 q3 hf rcd sf uf T m ++ sw cI q a b sg ln r N ov lc sd ++ sw cI q2 a2 b2 sg2 ln2 r2 pl2 ov2 lc2 sd2 ++ sw cI q3 a3 b3 sg3 ln3 r3 pl3 ov3 lc3 sd3 ++ hst cI st) H [] := w
  generalize ([] : List Loc) = locs at w ⊢
  refine r_aload_n (pc := 0) C d_D_erase_0 rfl (lv_at hl 0 rfl) ?_
  refine r_iload_n (pc := 1) C d_D_erase_1 rfl (lv_at hl 1 rfl) ?_
  refine r_iload_n (pc := 2) C d_D_erase_2 rfl (lv_at hl 2 rfl) ?_
  refine r_callVI (pc := 3) (As := [.int (iI f), .int (iI k)]) (rest := []) (wr := []) C w (c_D_isPiece hT o h sl us pd co hf sf rcd m uf T q a b sg ln r N ov lc sd q2 a2 b2 sg2 ln2 r2 pl2 ov2 lc2 sd2 q3 a3 b3 sg3 ln3 r3 pl3 ov3 lc3 sd3 st f k (by omega) (by omega)) ml_D_76 im_D_isPiece se_D_isPiece ini_D cd_D_isPiece hd_D_isPiece rfl (by rw [hRm]; exact ⟨⟨Nat.le_of_ble_eq_true rfl, Nat.le_of_ble_eq_true rfl⟩, Nat.le_of_ble_eq_true rfl, Nat.le_of_ble_eq_true rfl⟩) hl.1 [0, 1, 2, 3, 4, 5, 6, 7, 8, 9, 10, 11, 12, 13, 14, 15, 16, 17, 18, 19, 20, 21, 22, 23, 24, 25, 26, 27, 28, 29, 30, 31, 32, 33, 34, 35, 36, 37, 38] [] ⟨rfl, rfl, by decide, by decide, by decide⟩ 0 rfl rfl rfl (Nat.le_of_ble_eq_true rfl) d_D_erase_3 (fun z_3 u_3 H locs hz_3 w => ?_)
  obtain ⟨rfl, hz_3⟩ := hz_3
  have w : Wd X (dcore cI cO cZ o h sl us pd co q q2 q3 hf rcd sf uf T m ++ sw cI q a b sg ln r N ov lc sd ++ sw cI q2 a2 b2 sg2 ln2 r2 pl2 ov2 lc2 sd2 ++ sw cI q3 a3 b3 sg3 ln3 r3 pl3 ov3 lc3 sd3 ++ hst cI st) H locs := w
  refine r_if_ne (pc := 6) (tgt := 11) C (by omega) d_D_erase_6 (by decide) (fun c_6 => ?_) (fun c_6 => ?_)
  · skip
    have hb_6 : 0 ≤ f ∧ 1 ≤ k ∧ k ≤ N - f := by omega
    clear hz_3 c_6
    refine r_aload_n (pc := 11) C d_D_erase_11 rfl (lv_at hl 0 rfl) ?_
    refine r_get (pc := 12) (v := .ref q) C w i_D rfl 0 rfl 0 (by decide) fl_D_10 rfl rfl d_D_erase_12 ?_
    refine r_get (pc := 15) (v := .int (iI sd)) C w i_S rfl 6 rfl 6 (by decide) fl_D_59 rfl rfl d_D_erase_15 ?_
    refine r_iconst (pc := 18) C d_D_erase_18 ?_
    refine r_icmp_ne (pc := 19) (tgt := 41) C (by omega) d_D_erase_19 (by decide) (fun c_19 => ?_) (fun c_19 => ?_)
    · skip
      refine r_aload_n (pc := 41) C d_D_erase_41 rfl (lv_at hl 0 rfl) ?_
      refine r_get (pc := 42) (v := .ref q2) C w i_D rfl 0 rfl 1 (by decide) fl_D_16 rfl rfl d_D_erase_42 ?_
      refine r_aload_n (pc := 45) C d_D_erase_45 rfl (lv_at hl 0 rfl) ?_
      refine r_get (pc := 46) (v := .ref q) C w i_D rfl 0 rfl 0 (by decide) fl_D_10 rfl rfl d_D_erase_46 ?_
      refine r_callVV (pc := 49) (As := [.ref q]) (rest := []) (wr := (dcore cI cO cZ o h sl us pd co q q2 q3 hf rcd sf uf T m ++ sw cI q3 a3 b3 sg3 ln3 r3 pl3 ov3 lc3 sd3 ++ hst cI st)) C w (c_S_startLike hT q2 a2 b2 sg2 ln2 r2 pl2 ov2 lc2 sd2 q a b sg ln r N ov lc sd) ml_D_65 im_S_startLike se_S_startLike ini_S cd_S_startLike hd_S_startLike rfl (by rw [hRm]; exact ⟨⟨Nat.le_of_ble_eq_true rfl, Nat.le_of_ble_eq_true rfl⟩, Nat.le_of_ble_eq_true rfl, Nat.le_of_ble_eq_true rfl⟩) hl.1 [9, 10, 11, 6, 7, 8] [0, 1, 2, 3, 4, 5, 12, 13, 14, 15, 16, 17, 18, 19, 20, 21, 22, 23, 24, 25, 26, 27, 28, 29, 30, 31, 32, 33, 34, 35, 36, 37, 38] ⟨rfl, rfl, by decide, by decide, by decide⟩ 0 rfl rfl rfl (Nat.le_of_ble_eq_true rfl) d_D_erase_49 (fun u_49 H locs hz_49 w => ?_)
      subst hz_49
      have w : Wd X (dcore cI cO cZ o h sl us pd co q q2 q3 hf rcd sf uf T m ++ sw cI q a b sg ln r N ov lc sd ++ sw cI q2 a2 b2 sg2 ln2 0 0 0 lc sd ++ sw cI q3 a3 b3 sg3 ln3 r3 pl3 ov3 lc3 sd3 ++ hst cI st) H locs := w.sub [0, 1, 2, 3, 4, 5, 36, 37, 38, 33, 34, 35, 6, 7, 8, 9, 10, 11, 12, 13, 14, 15, 16, 17, 18, 19, 20, 21, 22, 23, 24, 25, 26, 27, 28, 29, 30, 31, 32] rfl (by decide)
      refine r_aload_n (pc := 52) C d_D_erase_52 rfl (lv_at hl 0 rfl) ?_
      refine r_get (pc := 53) (v := .ref q2) C w i_D rfl 0 rfl 1 (by decide) fl_D_16 rfl rfl d_D_erase_53 ?_
      refine r_aload_n (pc := 56) C d_D_erase_56 rfl (lv_at hl 0 rfl) ?_
      refine r_get (pc := 57) (v := .ref q) C w i_D rfl 0 rfl 0 (by decide) fl_D_10 rfl rfl d_D_erase_57 ?_
      refine r_iload_n (pc := 60) C d_D_erase_60 rfl (lv_at hl 1 rfl) ?_
      refine r_iload_n (pc := 61) C d_D_erase_61 rfl (lv_at hl 1 rfl) ?_
      refine r_iload_n (pc := 62) C d_D_erase_62 rfl (lv_at hl 2 rfl) ?_
      refine r_iadd (pc := 63) C d_D_erase_63 ?_
      refine r_callVV (pc := 64) (As := [.ref q, .int (iI f), .int (iI (f + k))]) (rest := []) (wr := (dcore cI cO cZ o h sl us pd co q q2 q3 hf rcd sf uf T m ++ sw cI q3 a3 b3 sg3 ln3 r3 pl3 ov3 lc3 sd3 ++ hst cI st)) C w (c_S_appendAllBut hT q2 a2 b2 sg2 ln2 0 0 0 lc sd q a b sg ln r N ov lc sd _ _ (f + k) f _ _ (RV.empty _ _ v) hO (by omega) (by omega) (by omega) (by omega) (by omega)) ml_D_84 im_S_appendAllBut se_S_appendAllBut ini_S cd_S_appendAllBut hd_S_appendAllBut rfl (by rw [hRm]; exact ⟨⟨Nat.le_of_ble_eq_true rfl, Nat.le_of_ble_eq_true rfl⟩, Nat.le_of_ble_eq_true rfl, Nat.le_of_ble_eq_true rfl⟩) hl.1 [9, 10, 11, 6, 7, 8] [0, 1, 2, 3, 4, 5, 12, 13, 14, 15, 16, 17, 18, 19, 20, 21, 22, 23, 24, 25, 26, 27, 28, 29, 30, 31, 32, 33, 34, 35, 36, 37, 38] ⟨rfl, rfl, by decide, by decide, by decide⟩ 0 rfl rfl rfl (Nat.le_of_ble_eq_true rfl) d_D_erase_64 (fun u_64 H locs hz_64 w => ?_)
      obtain ⟨sg_64, ln_64, r_64, pl_64, ov_64, rfl, hV_64⟩ := hz_64
      have w : Wd X (dcore cI cO cZ o h sl us pd co q q2 q3 hf rcd sf uf T m ++ sw cI q a b sg ln r N ov lc sd ++ sw cI q2 a2 b2 sg_64 ln_64 r_64 pl_64 ov_64 lc sd ++ sw cI q3 a3 b3 sg3 ln3 r3 pl3 ov3 lc3 sd3 ++ hst cI st) H locs := w.sub [0, 1, 2, 3, 4, 5, 36, 37, 38, 33, 34, 35, 6, 7, 8, 9, 10, 11, 12, 13, 14, 15, 16, 17, 18, 19, 20, 21, 22, 23, 24, 25, 26, 27, 28, 29, 30, 31, 32] rfl (by decide)
      have hV9 := hV_64.to (n' := N - k) (u := del v f k) (by omega) (fun x h1 h2 => by unfold del cat; (repeat' split) <;> first | rfl | (congr 1 <;> omega) | (exfalso; omega))
      refine r_aload_n (pc := 67) C d_D_erase_67 rfl (lv_at hl 0 rfl) ?_
      refine r_aload_n (pc := 68) C d_D_erase_68 rfl (lv_at hl 0 rfl) ?_
      refine r_get (pc := 69) (v := .ref q2) C w i_D rfl 0 rfl 1 (by decide) fl_D_16 rfl rfl d_D_erase_69 ?_
      refine r_get (pc := 72) (v := .int (iI pl_64)) C w i_S rfl 9 rfl 3 (by decide) fl_D_62 rfl rfl d_D_erase_72 ?_
      refine r_callVI (pc := 75) (As := [.int (iI pl_64)]) (rest := []) (wr := []) C w (c_D_accepted hT o h sl us pd co hf sf rcd m uf T q a b sg ln r N ov lc sd q2 a2 b2 sg_64 ln_64 r_64 pl_64 ov_64 lc sd q3 a3 b3 sg3 ln3 r3 pl3 ov3 lc3 sd3 st pl_64 _ v _ hist slot hR hC hV9 (by omega)) ml_D_55 im_D_accepted se_D_accepted ini_D cd_D_accepted hd_D_accepted rfl (by rw [hRm]; exact ⟨⟨Nat.le_of_ble_eq_true rfl, Nat.le_of_ble_eq_true rfl⟩, Nat.le_of_ble_eq_true rfl, Nat.le_of_ble_eq_true rfl⟩) hl.1 [0, 1, 2, 3, 4, 5, 6, 7, 8, 9, 10, 11, 12, 13, 14, 15, 16, 17, 18, 19, 20, 21, 22, 23, 24, 25, 26, 27, 28, 29, 30, 31, 32, 33, 34, 35, 36, 37, 38] [] ⟨rfl, rfl, by decide, by decide, by decide⟩ 0 rfl rfl rfl (Nat.le_of_ble_eq_true rfl) d_D_erase_75 (fun z_75 u_75 H locs hz_75 w => ?_)
      exact kret _ _ _ _ z_75 _ d_D_erase_78 w (by rcases hz_75 with ⟨f1, f2, rfl⟩ | ⟨f1, f2, A, f3, f4⟩; exact ⟨_, cw_mk hR hC, Or.inr (Or.inl ⟨by unfold errEr; (repeat' split) <;> omega, f1, f2, rfl⟩)⟩; exact ⟨A, f3, Or.inr (Or.inr ⟨by unfold errEr; (repeat' split) <;> omega, f1, f2.trans (hV9.2.1 f1).2.1, f4⟩)⟩)
    · skip
      refine r_aload_n (pc := 22) C d_D_erase_22 rfl (lv_at hl 0 rfl) ?_
      refine r_get (pc := 23) (v := .ref q) C w i_D rfl 0 rfl 0 (by decide) fl_D_10 rfl rfl d_D_erase_23 ?_
      refine r_iload_n (pc := 26) C d_D_erase_26 rfl (lv_at hl 1 rfl) ?_
      refine r_iload_n (pc := 27) C d_D_erase_27 rfl (lv_at hl 1 rfl) ?_
      refine r_iload_n (pc := 28) C d_D_erase_28 rfl (lv_at hl 2 rfl) ?_
      refine r_iadd (pc := 29) C d_D_erase_29 ?_
      refine r_bipush (pc := 30) C d_D_erase_30 (by decide) ?_
      refine r_callVI (pc := 32) (As := [.int (iI f), .int (iI (f + k)), .int (iI 10)]) (rest := []) (wr := (dcore cI cO cZ o h sl us pd co q q2 q3 hf rcd sf uf T m ++ sw cI q2 a2 b2 sg2 ln2 r2 pl2 ov2 lc2 sd2 ++ sw cI q3 a3 b3 sg3 ln3 r3 pl3 ov3 lc3 sd3 ++ hst cI st)) C w (c_S_alikeIn hT q a b sg ln r N ov lc sd _ _ hO (by omega) (by omega) f (f + k) 10 (by omega) (by omega)) ml_D_80 im_S_alikeIn se_S_alikeIn ini_S cd_S_alikeIn hd_S_alikeIn rfl (by rw [hRm]; exact ⟨⟨Nat.le_of_ble_eq_true rfl, Nat.le_of_ble_eq_true rfl⟩, Nat.le_of_ble_eq_true rfl, Nat.le_of_ble_eq_true rfl⟩) hl.1 [6, 7, 8] [0, 1, 2, 3, 4, 5, 9, 10, 11, 12, 13, 14, 15, 16, 17, 18, 19, 20, 21, 22, 23, 24, 25, 26, 27, 28, 29, 30, 31, 32, 33, 34, 35, 36, 37, 38] ⟨rfl, rfl, by decide, by decide, by decide⟩ 0 rfl rfl rfl (Nat.le_of_ble_eq_true rfl) d_D_erase_32 (fun z_32 u_32 H locs hz_32 w => ?_)
      obtain ⟨rfl, hz_32⟩ := hz_32
      have w : Wd X (dcore cI cO cZ o h sl us pd co q q2 q3 hf rcd sf uf T m ++ sw cI q a b sg ln r N ov lc sd ++ sw cI q2 a2 b2 sg2 ln2 r2 pl2 ov2 lc2 sd2 ++ sw cI q3 a3 b3 sg3 ln3 r3 pl3 ov3 lc3 sd3 ++ hst cI st) H locs := w.sub [0, 1, 2, 3, 4, 5, 36, 37, 38, 6, 7, 8, 9, 10, 11, 12, 13, 14, 15, 16, 17, 18, 19, 20, 21, 22, 23, 24, 25, 26, 27, 28, 29, 30, 31, 32, 33, 34, 35] rfl (by decide)
      refine r_if_le (pc := 35) (tgt := 41) C (by have := cn_rg (v := v) (s := 10) (f := f) (e := f + k) (by omega) (by omega); omega) d_D_erase_35 (by decide) (fun c_35 => ?_) (fun c_35 => ?_)
      · skip
        refine r_aload_n (pc := 41) C d_D_erase_41 rfl (lv_at hl 0 rfl) ?_
        refine r_get (pc := 42) (v := .ref q2) C w i_D rfl 0 rfl 1 (by decide) fl_D_16 rfl rfl d_D_erase_42 ?_
        refine r_aload_n (pc := 45) C d_D_erase_45 rfl (lv_at hl 0 rfl) ?_
        refine r_get (pc := 46) (v := .ref q) C w i_D rfl 0 rfl 0 (by decide) fl_D_10 rfl rfl d_D_erase_46 ?_
        refine r_callVV (pc := 49) (As := [.ref q]) (rest := []) (wr := (dcore cI cO cZ o h sl us pd co q q2 q3 hf rcd sf uf T m ++ sw cI q3 a3 b3 sg3 ln3 r3 pl3 ov3 lc3 sd3 ++ hst cI st)) C w (c_S_startLike hT q2 a2 b2 sg2 ln2 r2 pl2 ov2 lc2 sd2 q a b sg ln r N ov lc sd) ml_D_65 im_S_startLike se_S_startLike ini_S cd_S_startLike hd_S_startLike rfl (by rw [hRm]; exact ⟨⟨Nat.le_of_ble_eq_true rfl, Nat.le_of_ble_eq_true rfl⟩, Nat.le_of_ble_eq_true rfl, Nat.le_of_ble_eq_true rfl⟩) hl.1 [9, 10, 11, 6, 7, 8] [0, 1, 2, 3, 4, 5, 12, 13, 14, 15, 16, 17, 18, 19, 20, 21, 22, 23, 24, 25, 26, 27, 28, 29, 30, 31, 32, 33, 34, 35, 36, 37, 38] ⟨rfl, rfl, by decide, by decide, by decide⟩ 0 rfl rfl rfl (Nat.le_of_ble_eq_true rfl) d_D_erase_49 (fun u_49 H locs hz_49 w => ?_)
        subst hz_49
        have w : Wd X (dcore cI cO cZ o h sl us pd co q q2 q3 hf rcd sf uf T m ++ sw cI q a b sg ln r N ov lc sd ++ sw cI q2 a2 b2 sg2 ln2 0 0 0 lc sd ++ sw cI q3 a3 b3 sg3 ln3 r3 pl3 ov3 lc3 sd3 ++ hst cI st) H locs := w.sub [0, 1, 2, 3, 4, 5, 36, 37, 38, 33, 34, 35, 6, 7, 8, 9, 10, 11, 12, 13, 14, 15, 16, 17, 18, 19, 20, 21, 22, 23, 24, 25, 26, 27, 28, 29, 30, 31, 32] rfl (by decide)
        refine r_aload_n (pc := 52) C d_D_erase_52 rfl (lv_at hl 0 rfl) ?_
        refine r_get (pc := 53) (v := .ref q2) C w i_D rfl 0 rfl 1 (by decide) fl_D_16 rfl rfl d_D_erase_53 ?_
        refine r_aload_n (pc := 56) C d_D_erase_56 rfl (lv_at hl 0 rfl) ?_
        refine r_get (pc := 57) (v := .ref q) C w i_D rfl 0 rfl 0 (by decide) fl_D_10 rfl rfl d_D_erase_57 ?_
        refine r_iload_n (pc := 60) C d_D_erase_60 rfl (lv_at hl 1 rfl) ?_
        refine r_iload_n (pc := 61) C d_D_erase_61 rfl (lv_at hl 1 rfl) ?_
        refine r_iload_n (pc := 62) C d_D_erase_62 rfl (lv_at hl 2 rfl) ?_
        refine r_iadd (pc := 63) C d_D_erase_63 ?_
        refine r_callVV (pc := 64) (As := [.ref q, .int (iI f), .int (iI (f + k))]) (rest := []) (wr := (dcore cI cO cZ o h sl us pd co q q2 q3 hf rcd sf uf T m ++ sw cI q3 a3 b3 sg3 ln3 r3 pl3 ov3 lc3 sd3 ++ hst cI st)) C w (c_S_appendAllBut hT q2 a2 b2 sg2 ln2 0 0 0 lc sd q a b sg ln r N ov lc sd _ _ (f + k) f _ _ (RV.empty _ _ v) hO (by omega) (by omega) (by omega) (by omega) (by omega)) ml_D_84 im_S_appendAllBut se_S_appendAllBut ini_S cd_S_appendAllBut hd_S_appendAllBut rfl (by rw [hRm]; exact ⟨⟨Nat.le_of_ble_eq_true rfl, Nat.le_of_ble_eq_true rfl⟩, Nat.le_of_ble_eq_true rfl, Nat.le_of_ble_eq_true rfl⟩) hl.1 [9, 10, 11, 6, 7, 8] [0, 1, 2, 3, 4, 5, 12, 13, 14, 15, 16, 17, 18, 19, 20, 21, 22, 23, 24, 25, 26, 27, 28, 29, 30, 31, 32, 33, 34, 35, 36, 37, 38] ⟨rfl, rfl, by decide, by decide, by decide⟩ 0 rfl rfl rfl (Nat.le_of_ble_eq_true rfl) d_D_erase_64 (fun u_64 H locs hz_64 w => ?_)
        obtain ⟨sg_64, ln_64, r_64, pl_64, ov_64, rfl, hV_64⟩ := hz_64
        have w : Wd X (dcore cI cO cZ o h sl us pd co q q2 q3 hf rcd sf uf T m ++ sw cI q a b sg ln r N ov lc sd ++ sw cI q2 a2 b2 sg_64 ln_64 r_64 pl_64 ov_64 lc sd ++ sw cI q3 a3 b3 sg3 ln3 r3 pl3 ov3 lc3 sd3 ++ hst cI st) H locs := w.sub [0, 1, 2, 3, 4, 5, 36, 37, 38, 33, 34, 35, 6, 7, 8, 9, 10, 11, 12, 13, 14, 15, 16, 17, 18, 19, 20, 21, 22, 23, 24, 25, 26, 27, 28, 29, 30, 31, 32] rfl (by decide)
        have hV9 := hV_64.to (n' := N - k) (u := del v f k) (by omega) (fun x h1 h2 => by unfold del cat; (repeat' split) <;> first | rfl | (congr 1 <;> omega) | (exfalso; omega))
        refine r_aload_n (pc := 67) C d_D_erase_67 rfl (lv_at hl 0 rfl) ?_
        refine r_aload_n (pc := 68) C d_D_erase_68 rfl (lv_at hl 0 rfl) ?_
        refine r_get (pc := 69) (v := .ref q2) C w i_D rfl 0 rfl 1 (by decide) fl_D_16 rfl rfl d_D_erase_69 ?_
        refine r_get (pc := 72) (v := .int (iI pl_64)) C w i_S rfl 9 rfl 3 (by decide) fl_D_62 rfl rfl d_D_erase_72 ?_
        refine r_callVI (pc := 75) (As := [.int (iI pl_64)]) (rest := []) (wr := []) C w (c_D_accepted hT o h sl us pd co hf sf rcd m uf T q a b sg ln r N ov lc sd q2 a2 b2 sg_64 ln_64 r_64 pl_64 ov_64 lc sd q3 a3 b3 sg3 ln3 r3 pl3 ov3 lc3 sd3 st pl_64 _ v _ hist slot hR hC hV9 (by omega)) ml_D_55 im_D_accepted se_D_accepted ini_D cd_D_accepted hd_D_accepted rfl (by rw [hRm]; exact ⟨⟨Nat.le_of_ble_eq_true rfl, Nat.le_of_ble_eq_true rfl⟩, Nat.le_of_ble_eq_true rfl, Nat.le_of_ble_eq_true rfl⟩) hl.1 [0, 1, 2, 3, 4, 5, 6, 7, 8, 9, 10, 11, 12, 13, 14, 15, 16, 17, 18, 19, 20, 21, 22, 23, 24, 25, 26, 27, 28, 29, 30, 31, 32, 33, 34, 35, 36, 37, 38] [] ⟨rfl, rfl, by decide, by decide, by decide⟩ 0 rfl rfl rfl (Nat.le_of_ble_eq_true rfl) d_D_erase_75 (fun z_75 u_75 H locs hz_75 w => ?_)
        exact kret _ _ _ _ z_75 _ d_D_erase_78 w (by rcases hz_75 with ⟨f1, f2, rfl⟩ | ⟨f1, f2, A, f3, f4⟩; exact ⟨_, cw_mk hR hC, Or.inr (Or.inl ⟨by unfold errEr; (repeat' split) <;> omega, f1, f2, rfl⟩)⟩; exact ⟨A, f3, Or.inr (Or.inr ⟨by unfold errEr; (repeat' split) <;> omega, f1, f2.trans (hV9.2.1 f1).2.1, f4⟩)⟩)
      · skip
        refine r_bipush (pc := 38) C d_D_erase_38 (by decide) ?_
        exact kret _ _ _ _ (-5) _ d_D_erase_40 w (⟨_, cw_mk hR hC, Or.inl ⟨by unfold errEr; (repeat' split) <;> omega, by unfold errEr; (repeat' split) <;> omega, rfl⟩⟩)
  · skip
    have hb_6 : ¬ (0 ≤ f ∧ 1 ≤ k ∧ k ≤ N - f) := by omega
    clear hz_3 c_6
    refine r_iconst (pc := 9) C d_D_erase_9 ?_
    exact kret _ _ _ _ (-1) _ d_D_erase_10 w (⟨_, cw_mk hR hC, Or.inl ⟨by unfold errEr; (repeat' split) <;> omega, by unfold errEr; (repeat' split) <;> omega, rfl⟩⟩)
theorem d_D_edited_0 : decode b_D_edited 0 = .ok (.aload_n 0, 1) := by decide +kernel
theorem d_D_edited_1 : decode b_D_edited 1 = .ok (.getfield 16, 3) := by decide +kernel
theorem d_D_edited_4 : decode b_D_edited 4 = .ok (.aload_n 0, 1) := by decide +kernel
theorem d_D_edited_5 : decode b_D_edited 5 = .ok (.getfield 10, 3) := by decide +kernel
theorem d_D_edited_8 : decode b_D_edited 8 = .ok (.invokevirtual 65, 3) := by decide +kernel
theorem d_D_edited_11 : decode b_D_edited 11 = .ok (.aload_n 0, 1) := by decide +kernel
theorem d_D_edited_12 : decode b_D_edited 12 = .ok (.getfield 16, 3) := by decide +kernel
theorem d_D_edited_15 : decode b_D_edited 15 = .ok (.aload_n 0, 1) := by decide +kernel
theorem d_D_edited_16 : decode b_D_edited 16 = .ok (.getfield 10, 3) := by decide +kernel
theorem d_D_edited_19 : decode b_D_edited 19 = .ok (.iload_n 1, 1) := by decide +kernel
theorem d_D_edited_20 : decode b_D_edited 20 = .ok (.iload_n 1, 1) := by decide +kernel
theorem d_D_edited_21 : decode b_D_edited 21 = .ok (.iload_n 2, 1) := by decide +kernel
theorem d_D_edited_22 : decode b_D_edited 22 = .ok (.iadd, 1) := by decide +kernel
theorem d_D_edited_23 : decode b_D_edited 23 = .ok (.iload_n 3, 1) := by decide +kernel
theorem d_D_edited_24 : decode b_D_edited 24 = .ok (.iload 4, 2) := by decide +kernel
theorem d_D_edited_26 : decode b_D_edited 26 = .ok (.invokevirtual 166, 3) := by decide +kernel
theorem d_D_edited_29 : decode b_D_edited 29 = .ok (.istore 5, 2) := by decide +kernel
theorem d_D_edited_31 : decode b_D_edited 31 = .ok (.aload_n 0, 1) := by decide +kernel
theorem d_D_edited_32 : decode b_D_edited 32 = .ok (.iload 5, 2) := by decide +kernel
theorem d_D_edited_34 : decode b_D_edited 34 = .ok (.invokevirtual 55, 3) := by decide +kernel
theorem d_D_edited_37 : decode b_D_edited 37 = .ok (.ireturn, 1) := by decide +kernel
set_option maxHeartbeats 4000000 in
set_option maxRecDepth 20000 in
theorem c_D_edited {l : Launch} {G : va_G} {tys : List (ClassId × FieldType)} {cI cO cZ : ClassId} (hT : TY tys cI cO cZ) (o h sl us pd co : Nat) (hf sf : Int → Nat) (rcd m : Int) (uf T : Int → Int) (q a b : Nat) (sg ln : Int → Int) (r N ov lc sd : Int) (q2 a2 b2 : Nat) (sg2 ln2 : Int → Int) (r2 pl2 ov2 lc2 sd2 : Int) (q3 a3 b3 : Nat) (sg3 ln3 : Int → Int) (r3 pl3 ov3 lc3 sd3 : Int) (st : Int → SD) (f k ed ge num : Int) (v : Int → Int) (hist slot : Int → Rw) (hR : RwOk lc sd r sg ln N v) (hC : DC hf sf st hist rcd slot uf T m) (hfk : 0 ≤ f ∧ 1 ≤ k ∧ k ≤ N - f) (hed : (ed = 0 ∧ ge = 0) ∨ (ed = 1 ∧ ge = 1) ∨ (ed = 2 ∧ ge = 3)) (hnum : 0 ≤ num ∧ num ≤ 10) : CTI l G tys y_D_edited b_D_edited 6 .int 3 74 [.ref o, .int (iI f), .int (iI k), .int (iI ed), .int (iI num)] (dcore cI cO cZ o h sl us pd co q q2 q3 hf rcd sf uf T m ++ sw cI q a b sg ln r N ov lc sd ++ sw cI q2 a2 b2 sg2 ln2 r2 pl2 ov2 lc2 sd2 ++ sw cI q3 a3 b3 sg3 ln3 r3 pl3 ov3 lc3 sd3 ++ hst cI st) (fun z u => ∃ A' : AS, CW cI cO cZ o A' u ∧ SpE ((lc, sd, r, sg, ln, N, v), hist, rcd, slot, uf, T, m) z A' 0 lc sd N (edt f (f + k) ge num v) (ps (edc f (f + k) ge num v) N)) := by
  refine mkI (by decide) (Nat.le_of_ble_eq_true rfl) ?_
  rintro X rfl rfl rfl hRm C kret H ls w hl
  have hl : lv_has ls 6 [(0, .ref o), (1, .int (iI f)), (2, .int (iI k)), (3, .int (iI ed)), (4, .int (iI num))] := hl
  have w : Wd X (dcore cI cO cZ o h sl us pd co q q2 q3 hf rcd sf uf T m ++ sw cI q a b sg ln r N ov lc sd ++ sw cI q2 a2 b2 sg2 ln2 r2 pl2 ov2 lc2 sd2 ++ sw cI q3 a3 b3 sg3 ln3 r3 pl3 ov3 lc3 sd3 ++ hst cI st) H [] := w
  generalize ([] : List Loc) = locs at w ⊢
  have hO := hR.1
  have hr5 := hR.2.1
  have hN3 := hR.2.2.1
  have hN0 := hO.n0
  have hr0 := hO.1
  have hlcd := hR.2.2.2
  refine r_aload_n (pc := 0) C d_D_edited_0 rfl (lv_at hl 0 rfl) ?_
  refine r_get (pc := 1) (v := .ref q2) C w i_D rfl 0 rfl 1 (by decide) fl_D_16 rfl rfl d_D_edited_1 ?_
  refine r_aload_n (pc := 4) C d_D_edited_4 rfl (lv_at hl 0 rfl) ?_
  refine r_get (pc := 5) (v := .ref q) C w i_D rfl 0 rfl 0 (by decide) fl_D_10 rfl rfl d_D_edited_5 ?_
  refine r_callVV (pc := 8) (As := [.ref q]) (rest := []) (wr := (dcore cI cO cZ o h sl us pd co q q2 q3 hf rcd sf uf T m ++ sw cI q3 a3 b3 sg3 ln3 r3 pl3 ov3 lc3 sd3 ++ hst cI st)) C w (c_S_startLike hT q2 a2 b2 sg2 ln2 r2 pl2 ov2 lc2 sd2 q a b sg ln r N ov lc sd) ml_D_65 im_S_startLike se_S_startLike ini_S cd_S_startLike hd_S_startLike rfl (by rw [hRm]; exact ⟨⟨Nat.le_of_ble_eq_true rfl, Nat.le_of_ble_eq_true rfl⟩, Nat.le_of_ble_eq_true rfl, Nat.le_of_ble_eq_true rfl⟩) hl.1 [9, 10, 11, 6, 7, 8] [0, 1, 2, 3, 4, 5, 12, 13, 14, 15, 16, 17, 18, 19, 20, 21, 22, 23, 24, 25, 26, 27, 28, 29, 30, 31, 32, 33, 34, 35, 36, 37, 38] ⟨rfl, rfl, by decide, by decide, by decide⟩ 0 rfl rfl rfl (Nat.le_of_ble_eq_true rfl) d_D_edited_8 (fun u_8 H locs hz_8 w => ?_)
  subst hz_8
  have w : Wd X (dcore cI cO cZ o h sl us pd co q q2 q3 hf rcd sf uf T m ++ sw cI q a b sg ln r N ov lc sd ++ sw cI q2 a2 b2 sg2 ln2 0 0 0 lc sd ++ sw cI q3 a3 b3 sg3 ln3 r3 pl3 ov3 lc3 sd3 ++ hst cI st) H locs := w.sub [0, 1, 2, 3, 4, 5, 36, 37, 38, 33, 34, 35, 6, 7, 8, 9, 10, 11, 12, 13, 14, 15, 16, 17, 18, 19, 20, 21, 22, 23, 24, 25, 26, 27, 28, 29, 30, 31, 32] rfl (by decide)
  refine r_aload_n (pc := 11) C d_D_edited_11 rfl (lv_at hl 0 rfl) ?_
  refine r_get (pc := 12) (v := .ref q2) C w i_D rfl 0 rfl 1 (by decide) fl_D_16 rfl rfl d_D_edited_12 ?_
  refine r_aload_n (pc := 15) C d_D_edited_15 rfl (lv_at hl 0 rfl) ?_
  refine r_get (pc := 16) (v := .ref q) C w i_D rfl 0 rfl 0 (by decide) fl_D_10 rfl rfl d_D_edited_16 ?_
  refine r_iload_n (pc := 19) C d_D_edited_19 rfl (lv_at hl 1 rfl) ?_
  refine r_iload_n (pc := 20) C d_D_edited_20 rfl (lv_at hl 1 rfl) ?_
  refine r_iload_n (pc := 21) C d_D_edited_21 rfl (lv_at hl 2 rfl) ?_
  refine r_iadd (pc := 22) C d_D_edited_22 ?_
  refine r_iload_n (pc := 23) C d_D_edited_23 rfl (lv_at hl 3 rfl) ?_
  refine r_iload (pc := 24) C d_D_edited_24 (lv_at hl 4 rfl) ?_
  refine r_callVI (pc := 26) (As := [.ref q, .int (iI f), .int (iI (f + k)), .int (iI ed), .int (iI num)]) (rest := []) (wr := (dcore cI cO cZ o h sl us pd co q q2 q3 hf rcd sf uf T m ++ sw cI q3 a3 b3 sg3 ln3 r3 pl3 ov3 lc3 sd3 ++ hst cI st)) C w (c_S_appendEdited hT q2 a2 b2 sg2 ln2 0 0 0 lc sd q a b sg ln r N ov lc sd _ (f + k) f ed ge num _ _ (RV.empty _ _ v) hO (by omega) (by omega) (by omega) (by omega) (by omega) (by omega)) ml_D_166 im_S_appendEdited se_S_appendEdited ini_S cd_S_appendEdited hd_S_appendEdited rfl (by rw [hRm]; exact ⟨⟨Nat.le_of_ble_eq_true rfl, Nat.le_of_ble_eq_true rfl⟩, Nat.le_of_ble_eq_true rfl, Nat.le_of_ble_eq_true rfl⟩) hl.1 [9, 10, 11, 6, 7, 8] [0, 1, 2, 3, 4, 5, 12, 13, 14, 15, 16, 17, 18, 19, 20, 21, 22, 23, 24, 25, 26, 27, 28, 29, 30, 31, 32, 33, 34, 35, 36, 37, 38] ⟨rfl, rfl, by decide, by decide, by decide⟩ 0 rfl rfl rfl (Nat.le_of_ble_eq_true rfl) d_D_edited_26 (fun z_26 u_26 H locs hz_26 w => ?_)
  obtain ⟨hzz_26, sg_26, ln_26, r_26, pl_26, ov_26, rfl, hV_26⟩ := hz_26
  have w : Wd X (dcore cI cO cZ o h sl us pd co q q2 q3 hf rcd sf uf T m ++ sw cI q a b sg ln r N ov lc sd ++ sw cI q2 a2 b2 sg_26 ln_26 r_26 pl_26 ov_26 lc sd ++ sw cI q3 a3 b3 sg3 ln3 r3 pl3 ov3 lc3 sd3 ++ hst cI st) H locs := w.sub [0, 1, 2, 3, 4, 5, 36, 37, 38, 33, 34, 35, 6, 7, 8, 9, 10, 11, 12, 13, 14, 15, 16, 17, 18, 19, 20, 21, 22, 23, 24, 25, 26, 27, 28, 29, 30, 31, 32] rfl (by decide)
  refine r_istore (pc := 29) (lv' := [(5, .int (iI z_26)), (0, .ref o), (1, .int (iI f)), (2, .int (iI k)), (3, .int (iI ed)), (4, .int (iI num))]) C d_D_edited_29 hl (by decide) rfl (fun ls hl => ?_)
  refine r_aload_n (pc := 31) C d_D_edited_31 rfl (lv_at hl 1 rfl) ?_
  refine r_iload (pc := 32) C d_D_edited_32 (lv_at hl 0 rfl) ?_
  refine r_callVI (pc := 34) (As := [.int (iI z_26)]) (rest := []) (wr := []) C w (c_D_accepted hT o h sl us pd co hf sf rcd m uf T q a b sg ln r N ov lc sd q2 a2 b2 sg_26 ln_26 r_26 pl_26 ov_26 lc sd q3 a3 b3 sg3 ln3 r3 pl3 ov3 lc3 sd3 st z_26 _ v _ hist slot hR hC hV_26 (by omega)) ml_D_55 im_D_accepted se_D_accepted ini_D cd_D_accepted hd_D_accepted rfl (by rw [hRm]; exact ⟨⟨Nat.le_of_ble_eq_true rfl, Nat.le_of_ble_eq_true rfl⟩, Nat.le_of_ble_eq_true rfl, Nat.le_of_ble_eq_true rfl⟩) hl.1 [0, 1, 2, 3, 4, 5, 6, 7, 8, 9, 10, 11, 12, 13, 14, 15, 16, 17, 18, 19, 20, 21, 22, 23, 24, 25, 26, 27, 28, 29, 30, 31, 32, 33, 34, 35, 36, 37, 38] [] ⟨rfl, rfl, by decide, by decide, by decide⟩ 0 rfl rfl rfl (Nat.le_of_ble_eq_true rfl) d_D_edited_34 (fun z_34 u_34 H locs hz_34 w => ?_)
  exact kret _ _ _ _ z_34 _ d_D_edited_37 w (by rcases hz_34 with ⟨f1, f2, rfl⟩ | ⟨f1, f2, A, f3, f4⟩; exact ⟨_, cw_mk hR hC, Or.inr (Or.inl ⟨rfl, f1, f2, rfl⟩)⟩; exact ⟨A, f3, Or.inr (Or.inr ⟨rfl, f1, f2.trans hzz_26, f4⟩)⟩)
def Sp_write (f k x : Int) (A : AS) (z : Int) (A' : AS) : Prop := match A with | ((lc, sd, r, sg, ln, N, v), hist, rcd, slot, uf, T, m) => SpE A z A' (errWr N f k 0 x) (lc) (sd) (N) (edt f (f + k) 0 x v) (ps (edc f (f + k) 0 x v) N)
theorem d_D_write_0 : decode b_D_write 0 = .ok (.aload_n 0, 1) := by decide +kernel
theorem d_D_write_1 : decode b_D_write 1 = .ok (.iload_n 1, 1) := by decide +kernel
theorem d_D_write_2 : decode b_D_write 2 = .ok (.iload_n 2, 1) := by decide +kernel
theorem d_D_write_3 : decode b_D_write 3 = .ok (.invokevirtual 76, 3) := by decide +kernel
theorem d_D_write_6 : decode b_D_write 6 = .ok (.ifCond .ne 5, 3) := by decide +kernel
theorem d_D_write_9 : decode b_D_write 9 = .ok (.iconst (-1), 1) := by decide +kernel
theorem d_D_write_10 : decode b_D_write 10 = .ok (.ireturn, 1) := by decide +kernel
theorem d_D_write_11 : decode b_D_write 11 = .ok (.iload_n 3, 1) := by decide +kernel
theorem d_D_write_12 : decode b_D_write 12 = .ok (.iconst 0, 1) := by decide +kernel
theorem d_D_write_13 : decode b_D_write 13 = .ok (.bipush 9, 2) := by decide +kernel
theorem d_D_write_15 : decode b_D_write 15 = .ok (.invokestatic 44, 3) := by decide +kernel
theorem d_D_write_18 : decode b_D_write 18 = .ok (.ifCond .ne 6, 3) := by decide +kernel
theorem d_D_write_21 : decode b_D_write 21 = .ok (.bipush (-2), 2) := by decide +kernel
theorem d_D_write_23 : decode b_D_write 23 = .ok (.ireturn, 1) := by decide +kernel
theorem d_D_write_24 : decode b_D_write 24 = .ok (.aload_n 0, 1) := by decide +kernel
theorem d_D_write_25 : decode b_D_write 25 = .ok (.iload_n 1, 1) := by decide +kernel
theorem d_D_write_26 : decode b_D_write 26 = .ok (.iload_n 2, 1) := by decide +kernel
theorem d_D_write_27 : decode b_D_write 27 = .ok (.iconst 0, 1) := by decide +kernel
theorem d_D_write_28 : decode b_D_write 28 = .ok (.iload_n 3, 1) := by decide +kernel
theorem d_D_write_29 : decode b_D_write 29 = .ok (.invokevirtual 87, 3) := by decide +kernel
theorem d_D_write_32 : decode b_D_write 32 = .ok (.ireturn, 1) := by decide +kernel
set_option maxHeartbeats 4000000 in
set_option maxRecDepth 20000 in
theorem c_D_write {l : Launch} {G : va_G} {tys : List (ClassId × FieldType)} {cI cO cZ : ClassId} (hT : TY tys cI cO cZ) (o : Nat) (A : AS) (ws : va_W) (hA : CW cI cO cZ o A ws) (f k x : Int) (hrg : (-2147483648 ≤ f ∧ f < 2147483648) ∧ (-2147483648 ≤ k ∧ k < 2147483648) ∧ (-2147483648 ≤ x ∧ x < 2147483648)) : CTI l G tys y_D_write b_D_write 4 .int 4 99 [.ref o, .int (iI f), .int (iI k), .int (iI x)] ws (fun z u => ∃ A' : AS, CW cI cO cZ o A' u ∧ Sp_write f k x A z A') := by
  obtain ⟨⟨lc, sd, r, sg, ln, N, v⟩, hist, rcd, slot, uf, T, m⟩ := A
  obtain ⟨hR, h, sl, us, pd, co, hf, sf, q, a, b, ov, q2, a2, b2, sg2, ln2, r2, pl2, ov2, lc2, sd2, q3, a3, b3, sg3, ln3, r3, pl3, ov3, lc3, sd3, st, rfl, hC⟩ := hA
  have hO := hR.1
  have hr5 := hR.2.1
  have hN3 := hR.2.2.1
  have hN0 := hO.n0
  have hr0 := hO.1
  have hlcd := hR.2.2.2
  have hm80 := hC.2.2.2.2.2.1
  have hrcd6 := hC.2.2.1
  refine mkI (by decide) (Nat.le_of_ble_eq_true rfl) ?_
  rintro X rfl rfl rfl hRm C kret H ls w hl
  have hl : lv_has ls 4 [(0, .ref o), (1, .int (iI f)), (2, .int (iI k)), (3, .int (iI x))] := hl
  have w : Wd X (dcore cI cO cZ o h sl us pd co q q2 q3 hf rcd sf uf T m ++ sw cI q a b sg ln r N ov lc sd ++ sw cI q2 a2 b2 sg2 ln2 r2 pl2 ov2 lc2 sd2 ++ sw cI q3 a3 b3 sg3 ln3 r3 pl3 ov3 lc3 sd3 ++ hst cI st) H [] := w
  generalize ([] : List Loc) = locs at w ⊢
  refine r_aload_n (pc := 0) C d_D_write_0 rfl (lv_at hl 0 rfl) ?_
  refine r_iload_n (pc := 1) C d_D_write_1 rfl (lv_at hl 1 rfl) ?_
  refine r_iload_n (pc := 2) C d_D_write_2 rfl (lv_at hl 2 rfl) ?_
  refine r_callVI (pc := 3) (As := [.int (iI f), .int (iI k)]) (rest := []) (wr := []) C w (c_D_isPiece hT o h sl us pd co hf sf rcd m uf T q a b sg ln r N ov lc sd q2 a2 b2 sg2 ln2 r2 pl2 ov2 lc2 sd2 q3 a3 b3 sg3 ln3 r3 pl3 ov3 lc3 sd3 st f k (by omega) (by omega)) ml_D_76 im_D_isPiece se_D_isPiece ini_D cd_D_isPiece hd_D_isPiece rfl (by rw [hRm]; exact ⟨⟨Nat.le_of_ble_eq_true rfl, Nat.le_of_ble_eq_true rfl⟩, Nat.le_of_ble_eq_true rfl, Nat.le_of_ble_eq_true rfl⟩) hl.1 [0, 1, 2, 3, 4, 5, 6, 7, 8, 9, 10, 11, 12, 13, 14, 15, 16, 17, 18, 19, 20, 21, 22, 23, 24, 25, 26, 27, 28, 29, 30, 31, 32, 33, 34, 35, 36, 37, 38] [] ⟨rfl, rfl, by decide, by decide, by decide⟩ 0 rfl rfl rfl (Nat.le_of_ble_eq_true rfl) d_D_write_3 (fun z_3 u_3 H locs hz_3 w => ?_)
  obtain ⟨rfl, hz_3⟩ := hz_3
  have w : Wd X (dcore cI cO cZ o h sl us pd co q q2 q3 hf rcd sf uf T m ++ sw cI q a b sg ln r N ov lc sd ++ sw cI q2 a2 b2 sg2 ln2 r2 pl2 ov2 lc2 sd2 ++ sw cI q3 a3 b3 sg3 ln3 r3 pl3 ov3 lc3 sd3 ++ hst cI st) H locs := w
  refine r_if_ne (pc := 6) (tgt := 11) C (by omega) d_D_write_6 (by decide) (fun c_6 => ?_) (fun c_6 => ?_)
  · skip
    have hb_6 : 0 ≤ f ∧ 1 ≤ k ∧ k ≤ N - f := by omega
    clear hz_3 c_6
    refine r_iload_n (pc := 11) C d_D_write_11 rfl (lv_at hl 3 rfl) ?_
    refine r_iconst (pc := 12) C d_D_write_12 ?_
    refine r_bipush (pc := 13) C d_D_write_13 (by decide) ?_
    refine r_callP (pc := 15) (As := [.int (iI x), .int (iI 0), .int (iI 9)]) (rest := []) C w (c_D_isWithin x 0 9 (by omega)) ml_D_44 st_D_isWithin ini_D cd_D_isWithin hd_D_isWithin rfl (by rw [hRm]; exact ⟨⟨Nat.le_of_ble_eq_true rfl, Nat.le_of_ble_eq_true rfl⟩, Nat.le_of_ble_eq_true rfl, Nat.le_of_ble_eq_true rfl⟩) hl.1 rfl (Nat.le_of_ble_eq_true rfl) d_D_write_15 (fun z_15 H locs hz_15 w => ?_)
    refine r_if_ne (pc := 18) (tgt := 24) C (by omega) d_D_write_18 (by decide) (fun c_18 => ?_) (fun c_18 => ?_)
    · skip
      have hb_18 : 0 ≤ x ∧ x ≤ 9 := by omega
      clear hz_15 c_18
      refine r_aload_n (pc := 24) C d_D_write_24 rfl (lv_at hl 0 rfl) ?_
      refine r_iload_n (pc := 25) C d_D_write_25 rfl (lv_at hl 1 rfl) ?_
      refine r_iload_n (pc := 26) C d_D_write_26 rfl (lv_at hl 2 rfl) ?_
      refine r_iconst (pc := 27) C d_D_write_27 ?_
      refine r_iload_n (pc := 28) C d_D_write_28 rfl (lv_at hl 3 rfl) ?_
      refine r_callVI (pc := 29) (As := [.int (iI f), .int (iI k), .int (iI 0), .int (iI x)]) (rest := []) (wr := []) C w (c_D_edited hT o h sl us pd co hf sf rcd m uf T q a b sg ln r N ov lc sd q2 a2 b2 sg2 ln2 r2 pl2 ov2 lc2 sd2 q3 a3 b3 sg3 ln3 r3 pl3 ov3 lc3 sd3 st f k 0 0 x v hist slot hR hC (by omega) (by omega) (by omega)) ml_D_87 im_D_edited se_D_edited ini_D cd_D_edited hd_D_edited rfl (by rw [hRm]; exact ⟨⟨Nat.le_of_ble_eq_true rfl, Nat.le_of_ble_eq_true rfl⟩, Nat.le_of_ble_eq_true rfl, Nat.le_of_ble_eq_true rfl⟩) hl.1 [0, 1, 2, 3, 4, 5, 6, 7, 8, 9, 10, 11, 12, 13, 14, 15, 16, 17, 18, 19, 20, 21, 22, 23, 24, 25, 26, 27, 28, 29, 30, 31, 32, 33, 34, 35, 36, 37, 38] [] ⟨rfl, rfl, by decide, by decide, by decide⟩ 0 rfl rfl rfl (Nat.le_of_ble_eq_true rfl) d_D_write_29 (fun z_29 u_29 H locs hz_29 w => ?_)
      exact kret _ _ _ _ z_29 _ d_D_write_32 w (by obtain ⟨A, f3, f4⟩ := hz_29; have he : errWr N f k 0 x = 0 := by { unfold errWr; (repeat' split) <;> omega }; exact ⟨A, f3, (by rw [he]; exact f4 : SpE ((lc, sd, r, sg, ln, N, v), hist, rcd, slot, uf, T, m) z_29 A (errWr N f k 0 x) lc sd N (edt f (f + k) 0 x v) (ps (edc f (f + k) 0 x v) N))⟩)
    · skip
      have hb_18 : ¬ (0 ≤ x ∧ x ≤ 9) := by omega
      clear hz_15 c_18
      refine r_bipush (pc := 21) C d_D_write_21 (by decide) ?_
      exact kret _ _ _ _ (-2) _ d_D_write_23 w (⟨_, cw_mk hR hC, Or.inl ⟨by unfold errWr; (repeat' split) <;> omega, by unfold errWr; (repeat' split) <;> omega, rfl⟩⟩)
  · skip
    have hb_6 : ¬ (0 ≤ f ∧ 1 ≤ k ∧ k ≤ N - f) := by omega
    clear hz_3 c_6
    refine r_iconst (pc := 9) C d_D_write_9 ?_
    exact kret _ _ _ _ (-1) _ d_D_write_10 w (⟨_, cw_mk hR hC, Or.inl ⟨by unfold errWr; (repeat' split) <;> omega, by unfold errWr; (repeat' split) <;> omega, rfl⟩⟩)
def Sp_add (f k x : Int) (A : AS) (z : Int) (A' : AS) : Prop := match A with | ((lc, sd, r, sg, ln, N, v), hist, rcd, slot, uf, T, m) => SpE A z A' (errWr N f k 1 x) (lc) (sd) (N) (edt f (f + k) 1 x v) (ps (edc f (f + k) 1 x v) N)
theorem d_D_add_0 : decode b_D_add 0 = .ok (.aload_n 0, 1) := by decide +kernel
theorem d_D_add_1 : decode b_D_add 1 = .ok (.iload_n 1, 1) := by decide +kernel
theorem d_D_add_2 : decode b_D_add 2 = .ok (.iload_n 2, 1) := by decide +kernel
theorem d_D_add_3 : decode b_D_add 3 = .ok (.invokevirtual 76, 3) := by decide +kernel
theorem d_D_add_6 : decode b_D_add 6 = .ok (.ifCond .ne 5, 3) := by decide +kernel
theorem d_D_add_9 : decode b_D_add 9 = .ok (.iconst (-1), 1) := by decide +kernel
theorem d_D_add_10 : decode b_D_add 10 = .ok (.ireturn, 1) := by decide +kernel
theorem d_D_add_11 : decode b_D_add 11 = .ok (.iload_n 3, 1) := by decide +kernel
theorem d_D_add_12 : decode b_D_add 12 = .ok (.iconst 1, 1) := by decide +kernel
theorem d_D_add_13 : decode b_D_add 13 = .ok (.bipush 9, 2) := by decide +kernel
theorem d_D_add_15 : decode b_D_add 15 = .ok (.invokestatic 44, 3) := by decide +kernel
theorem d_D_add_18 : decode b_D_add 18 = .ok (.ifCond .ne 6, 3) := by decide +kernel
theorem d_D_add_21 : decode b_D_add 21 = .ok (.bipush (-2), 2) := by decide +kernel
theorem d_D_add_23 : decode b_D_add 23 = .ok (.ireturn, 1) := by decide +kernel
theorem d_D_add_24 : decode b_D_add 24 = .ok (.aload_n 0, 1) := by decide +kernel
theorem d_D_add_25 : decode b_D_add 25 = .ok (.iload_n 1, 1) := by decide +kernel
theorem d_D_add_26 : decode b_D_add 26 = .ok (.iload_n 2, 1) := by decide +kernel
theorem d_D_add_27 : decode b_D_add 27 = .ok (.iconst 1, 1) := by decide +kernel
theorem d_D_add_28 : decode b_D_add 28 = .ok (.iload_n 3, 1) := by decide +kernel
theorem d_D_add_29 : decode b_D_add 29 = .ok (.invokevirtual 87, 3) := by decide +kernel
theorem d_D_add_32 : decode b_D_add 32 = .ok (.ireturn, 1) := by decide +kernel
set_option maxHeartbeats 4000000 in
set_option maxRecDepth 20000 in
theorem c_D_add {l : Launch} {G : va_G} {tys : List (ClassId × FieldType)} {cI cO cZ : ClassId} (hT : TY tys cI cO cZ) (o : Nat) (A : AS) (ws : va_W) (hA : CW cI cO cZ o A ws) (f k x : Int) (hrg : (-2147483648 ≤ f ∧ f < 2147483648) ∧ (-2147483648 ≤ k ∧ k < 2147483648) ∧ (-2147483648 ≤ x ∧ x < 2147483648)) : CTI l G tys y_D_add b_D_add 4 .int 4 99 [.ref o, .int (iI f), .int (iI k), .int (iI x)] ws (fun z u => ∃ A' : AS, CW cI cO cZ o A' u ∧ Sp_add f k x A z A') := by
  obtain ⟨⟨lc, sd, r, sg, ln, N, v⟩, hist, rcd, slot, uf, T, m⟩ := A
  obtain ⟨hR, h, sl, us, pd, co, hf, sf, q, a, b, ov, q2, a2, b2, sg2, ln2, r2, pl2, ov2, lc2, sd2, q3, a3, b3, sg3, ln3, r3, pl3, ov3, lc3, sd3, st, rfl, hC⟩ := hA
  have hO := hR.1
  have hr5 := hR.2.1
  have hN3 := hR.2.2.1
  have hN0 := hO.n0
  have hr0 := hO.1
  have hlcd := hR.2.2.2
  have hm80 := hC.2.2.2.2.2.1
  have hrcd6 := hC.2.2.1
  refine mkI (by decide) (Nat.le_of_ble_eq_true rfl) ?_
  rintro X rfl rfl rfl hRm C kret H ls w hl
  have hl : lv_has ls 4 [(0, .ref o), (1, .int (iI f)), (2, .int (iI k)), (3, .int (iI x))] := hl
  have w : Wd X (dcore cI cO cZ o h sl us pd co q q2 q3 hf rcd sf uf T m ++ sw cI q a b sg ln r N ov lc sd ++ sw cI q2 a2 b2 sg2 ln2 r2 pl2 ov2 lc2 sd2 ++ sw cI q3 a3 b3 sg3 ln3 r3 pl3 ov3 lc3 sd3 ++ hst cI st) H [] := w
  generalize ([] : List Loc) = locs at w ⊢
  refine r_aload_n (pc := 0) C d_D_add_0 rfl (lv_at hl 0 rfl) ?_
  refine r_iload_n (pc := 1) C d_D_add_1 rfl (lv_at hl 1 rfl) ?_
  refine r_iload_n (pc := 2) C d_D_add_2 rfl (lv_at hl 2 rfl) ?_
  refine r_callVI (pc := 3) (As := [.int (iI f), .int (iI k)]) (rest := []) (wr := []) C w (c_D_isPiece hT o h sl us pd co hf sf rcd m uf T q a b sg ln r N ov lc sd q2 a2 b2 sg2 ln2 r2 pl2 ov2 lc2 sd2 q3 a3 b3 sg3 ln3 r3 pl3 ov3 lc3 sd3 st f k (by omega) (by omega)) ml_D_76 im_D_isPiece se_D_isPiece ini_D cd_D_isPiece hd_D_isPiece rfl (by rw [hRm]; exact ⟨⟨Nat.le_of_ble_eq_true rfl, Nat.le_of_ble_eq_true rfl⟩, Nat.le_of_ble_eq_true rfl, Nat.le_of_ble_eq_true rfl⟩) hl.1 [0, 1, 2, 3, 4, 5, 6, 7, 8, 9, 10, 11, 12, 13, 14, 15, 16, 17, 18, 19, 20, 21, 22, 23, 24, 25, 26, 27, 28, 29, 30, 31, 32, 33, 34, 35, 36, 37, 38] [] ⟨rfl, rfl, by decide, by decide, by decide⟩ 0 rfl rfl rfl (Nat.le_of_ble_eq_true rfl) d_D_add_3 (fun z_3 u_3 H locs hz_3 w => ?_)
  obtain ⟨rfl, hz_3⟩ := hz_3
  have w : Wd X (dcore cI cO cZ o h sl us pd co q q2 q3 hf rcd sf uf T m ++ sw cI q a b sg ln r N ov lc sd ++ sw cI q2 a2 b2 sg2 ln2 r2 pl2 ov2 lc2 sd2 ++ sw cI q3 a3 b3 sg3 ln3 r3 pl3 ov3 lc3 sd3 ++ hst cI st) H locs := w
  refine r_if_ne (pc := 6) (tgt := 11) C (by omega) d_D_add_6 (by decide) (fun c_6 => ?_) (fun c_6 => ?_)
  · skip
    have hb_6 : 0 ≤ f ∧ 1 ≤ k ∧ k ≤ N - f := by omega
    clear hz_3 c_6
    refine r_iload_n (pc := 11) C d_D_add_11 rfl (lv_at hl 3 rfl) ?_
    refine r_iconst (pc := 12) C d_D_add_12 ?_
    refine r_bipush (pc := 13) C d_D_add_13 (by decide) ?_
    refine r_callP (pc := 15) (As := [.int (iI x), .int (iI 1), .int (iI 9)]) (rest := []) C w (c_D_isWithin x 1 9 (by omega)) ml_D_44 st_D_isWithin ini_D cd_D_isWithin hd_D_isWithin rfl (by rw [hRm]; exact ⟨⟨Nat.le_of_ble_eq_true rfl, Nat.le_of_ble_eq_true rfl⟩, Nat.le_of_ble_eq_true rfl, Nat.le_of_ble_eq_true rfl⟩) hl.1 rfl (Nat.le_of_ble_eq_true rfl) d_D_add_15 (fun z_15 H locs hz_15 w => ?_)
    refine r_if_ne (pc := 18) (tgt := 24) C (by omega) d_D_add_18 (by decide) (fun c_18 => ?_) (fun c_18 => ?_)
    · skip
      have hb_18 : 1 ≤ x ∧ x ≤ 9 := by omega
      clear hz_15 c_18
      refine r_aload_n (pc := 24) C d_D_add_24 rfl (lv_at hl 0 rfl) ?_
      refine r_iload_n (pc := 25) C d_D_add_25 rfl (lv_at hl 1 rfl) ?_
      refine r_iload_n (pc := 26) C d_D_add_26 rfl (lv_at hl 2 rfl) ?_
      refine r_iconst (pc := 27) C d_D_add_27 ?_
      refine r_iload_n (pc := 28) C d_D_add_28 rfl (lv_at hl 3 rfl) ?_
      refine r_callVI (pc := 29) (As := [.int (iI f), .int (iI k), .int (iI 1), .int (iI x)]) (rest := []) (wr := []) C w (c_D_edited hT o h sl us pd co hf sf rcd m uf T q a b sg ln r N ov lc sd q2 a2 b2 sg2 ln2 r2 pl2 ov2 lc2 sd2 q3 a3 b3 sg3 ln3 r3 pl3 ov3 lc3 sd3 st f k 1 1 x v hist slot hR hC (by omega) (by omega) (by omega)) ml_D_87 im_D_edited se_D_edited ini_D cd_D_edited hd_D_edited rfl (by rw [hRm]; exact ⟨⟨Nat.le_of_ble_eq_true rfl, Nat.le_of_ble_eq_true rfl⟩, Nat.le_of_ble_eq_true rfl, Nat.le_of_ble_eq_true rfl⟩) hl.1 [0, 1, 2, 3, 4, 5, 6, 7, 8, 9, 10, 11, 12, 13, 14, 15, 16, 17, 18, 19, 20, 21, 22, 23, 24, 25, 26, 27, 28, 29, 30, 31, 32, 33, 34, 35, 36, 37, 38] [] ⟨rfl, rfl, by decide, by decide, by decide⟩ 0 rfl rfl rfl (Nat.le_of_ble_eq_true rfl) d_D_add_29 (fun z_29 u_29 H locs hz_29 w => ?_)
      exact kret _ _ _ _ z_29 _ d_D_add_32 w (by obtain ⟨A, f3, f4⟩ := hz_29; have he : errWr N f k 1 x = 0 := by { unfold errWr; (repeat' split) <;> omega }; exact ⟨A, f3, (by rw [he]; exact f4 : SpE ((lc, sd, r, sg, ln, N, v), hist, rcd, slot, uf, T, m) z_29 A (errWr N f k 1 x) lc sd N (edt f (f + k) 1 x v) (ps (edc f (f + k) 1 x v) N))⟩)
    · skip
      have hb_18 : ¬ (1 ≤ x ∧ x ≤ 9) := by omega
      clear hz_15 c_18
      refine r_bipush (pc := 21) C d_D_add_21 (by decide) ?_
      exact kret _ _ _ _ (-2) _ d_D_add_23 w (⟨_, cw_mk hR hC, Or.inl ⟨by unfold errWr; (repeat' split) <;> omega, by unfold errWr; (repeat' split) <;> omega, rfl⟩⟩)
  · skip
    have hb_6 : ¬ (0 ≤ f ∧ 1 ≤ k ∧ k ≤ N - f) := by omega
    clear hz_3 c_6
    refine r_iconst (pc := 9) C d_D_add_9 ?_
    exact kret _ _ _ _ (-1) _ d_D_add_10 w (⟨_, cw_mk hR hC, Or.inl ⟨by unfold errWr; (repeat' split) <;> omega, by unfold errWr; (repeat' split) <;> omega, rfl⟩⟩)
def Sp_kill (f k : Int) (A : AS) (z : Int) (A' : AS) : Prop := match A with | ((lc, sd, r, sg, ln, N, v), hist, rcd, slot, uf, T, m) => SpE A z A' (pieceE N f k) (lc) (sd) (N) (edt f (f + k) 2 10 v) (ps (edc f (f + k) 2 10 v) N)
theorem d_D_kill_0 : decode b_D_kill 0 = .ok (.aload_n 0, 1) := by decide +kernel
theorem d_D_kill_1 : decode b_D_kill 1 = .ok (.iload_n 1, 1) := by decide +kernel
theorem d_D_kill_2 : decode b_D_kill 2 = .ok (.iload_n 2, 1) := by decide +kernel
theorem d_D_kill_3 : decode b_D_kill 3 = .ok (.invokevirtual 76, 3) := by decide +kernel
theorem d_D_kill_6 : decode b_D_kill 6 = .ok (.ifCond .eq 15, 3) := by decide +kernel
theorem d_D_kill_9 : decode b_D_kill 9 = .ok (.aload_n 0, 1) := by decide +kernel
theorem d_D_kill_10 : decode b_D_kill 10 = .ok (.iload_n 1, 1) := by decide +kernel
theorem d_D_kill_11 : decode b_D_kill 11 = .ok (.iload_n 2, 1) := by decide +kernel
theorem d_D_kill_12 : decode b_D_kill 12 = .ok (.iconst 0, 1) := by decide +kernel
theorem d_D_kill_13 : decode b_D_kill 13 = .ok (.bipush 10, 2) := by decide +kernel
theorem d_D_kill_15 : decode b_D_kill 15 = .ok (.invokevirtual 87, 3) := by decide +kernel
theorem d_D_kill_18 : decode b_D_kill 18 = .ok (.goto 4, 3) := by decide +kernel
theorem d_D_kill_21 : decode b_D_kill 21 = .ok (.iconst (-1), 1) := by decide +kernel
theorem d_D_kill_22 : decode b_D_kill 22 = .ok (.ireturn, 1) := by decide +kernel
set_option maxHeartbeats 4000000 in
set_option maxRecDepth 20000 in
theorem c_D_kill {l : Launch} {G : va_G} {tys : List (ClassId × FieldType)} {cI cO cZ : ClassId} (hT : TY tys cI cO cZ) (o : Nat) (A : AS) (ws : va_W) (hA : CW cI cO cZ o A ws) (f k : Int) (hrg : (-2147483648 ≤ f ∧ f < 2147483648) ∧ (-2147483648 ≤ k ∧ k < 2147483648)) : CTI l G tys y_D_kill b_D_kill 3 .int 4 99 [.ref o, .int (iI f), .int (iI k)] ws (fun z u => ∃ A' : AS, CW cI cO cZ o A' u ∧ Sp_kill f k A z A') := by
  obtain ⟨⟨lc, sd, r, sg, ln, N, v⟩, hist, rcd, slot, uf, T, m⟩ := A
  obtain ⟨hR, h, sl, us, pd, co, hf, sf, q, a, b, ov, q2, a2, b2, sg2, ln2, r2, pl2, ov2, lc2, sd2, q3, a3, b3, sg3, ln3, r3, pl3, ov3, lc3, sd3, st, rfl, hC⟩ := hA
  have hO := hR.1
  have hr5 := hR.2.1
  have hN3 := hR.2.2.1
  have hN0 := hO.n0
  have hr0 := hO.1
  have hlcd := hR.2.2.2
  have hm80 := hC.2.2.2.2.2.1
  have hrcd6 := hC.2.2.1
  refine mkI (by decide) (Nat.le_of_ble_eq_true rfl) ?_
  rintro X rfl rfl rfl hRm C kret H ls w hl
  have hl : lv_has ls 3 [(0, .ref o), (1, .int (iI f)), (2, .int (iI k))] := hl
  have w : Wd X (dcore cI cO cZ o h sl us pd co q q2 q3 hf rcd sf uf T m ++ sw cI q a b sg ln r N ov lc sd ++ sw cI q2 a2 b2 sg2 ln2 r2 pl2 ov2 lc2 sd2 ++ sw cI q3 a3 b3 sg3 ln3 r3 pl3 ov3 lc3 sd3 ++ hst cI st) H [] := w
  generalize ([] : List Loc) = locs at w ⊢
  refine r_aload_n (pc := 0) C d_D_kill_0 rfl (lv_at hl 0 rfl) ?_
  refine r_iload_n (pc := 1) C d_D_kill_1 rfl (lv_at hl 1 rfl) ?_
  refine r_iload_n (pc := 2) C d_D_kill_2 rfl (lv_at hl 2 rfl) ?_
  refine r_callVI (pc := 3) (As := [.int (iI f), .int (iI k)]) (rest := []) (wr := []) C w (c_D_isPiece hT o h sl us pd co hf sf rcd m uf T q a b sg ln r N ov lc sd q2 a2 b2 sg2 ln2 r2 pl2 ov2 lc2 sd2 q3 a3 b3 sg3 ln3 r3 pl3 ov3 lc3 sd3 st f k (by omega) (by omega)) ml_D_76 im_D_isPiece se_D_isPiece ini_D cd_D_isPiece hd_D_isPiece rfl (by rw [hRm]; exact ⟨⟨Nat.le_of_ble_eq_true rfl, Nat.le_of_ble_eq_true rfl⟩, Nat.le_of_ble_eq_true rfl, Nat.le_of_ble_eq_true rfl⟩) hl.1 [0, 1, 2, 3, 4, 5, 6, 7, 8, 9, 10, 11, 12, 13, 14, 15, 16, 17, 18, 19, 20, 21, 22, 23, 24, 25, 26, 27, 28, 29, 30, 31, 32, 33, 34, 35, 36, 37, 38] [] ⟨rfl, rfl, by decide, by decide, by decide⟩ 0 rfl rfl rfl (Nat.le_of_ble_eq_true rfl) d_D_kill_3 (fun z_3 u_3 H locs hz_3 w => ?_)
  obtain ⟨rfl, hz_3⟩ := hz_3
  have w : Wd X (dcore cI cO cZ o h sl us pd co q q2 q3 hf rcd sf uf T m ++ sw cI q a b sg ln r N ov lc sd ++ sw cI q2 a2 b2 sg2 ln2 r2 pl2 ov2 lc2 sd2 ++ sw cI q3 a3 b3 sg3 ln3 r3 pl3 ov3 lc3 sd3 ++ hst cI st) H locs := w
  refine r_if_eq (pc := 6) (tgt := 21) C (by omega) d_D_kill_6 (by decide) (fun c_6 => ?_) (fun c_6 => ?_)
  · skip
    have hb_6 : ¬ (0 ≤ f ∧ 1 ≤ k ∧ k ≤ N - f) := by omega
    clear hz_3 c_6
    refine r_iconst (pc := 21) C d_D_kill_21 ?_
    exact kret _ _ _ _ (-1) _ d_D_kill_22 w (⟨_, cw_mk hR hC, Or.inl ⟨by unfold pieceE; (repeat' split) <;> omega, by unfold pieceE; (repeat' split) <;> omega, rfl⟩⟩)
  · skip
    have hb_6 : 0 ≤ f ∧ 1 ≤ k ∧ k ≤ N - f := by omega
    clear hz_3 c_6
    refine r_aload_n (pc := 9) C d_D_kill_9 rfl (lv_at hl 0 rfl) ?_
    refine r_iload_n (pc := 10) C d_D_kill_10 rfl (lv_at hl 1 rfl) ?_
    refine r_iload_n (pc := 11) C d_D_kill_11 rfl (lv_at hl 2 rfl) ?_
    refine r_iconst (pc := 12) C d_D_kill_12 ?_
    refine r_bipush (pc := 13) C d_D_kill_13 (by decide) ?_
    refine r_callVI (pc := 15) (As := [.int (iI f), .int (iI k), .int (iI 0), .int (iI 10)]) (rest := []) (wr := []) C w (c_D_edited hT o h sl us pd co hf sf rcd m uf T q a b sg ln r N ov lc sd q2 a2 b2 sg2 ln2 r2 pl2 ov2 lc2 sd2 q3 a3 b3 sg3 ln3 r3 pl3 ov3 lc3 sd3 st f k 0 0 10 v hist slot hR hC (by omega) (by omega) (by omega)) ml_D_87 im_D_edited se_D_edited ini_D cd_D_edited hd_D_edited rfl (by rw [hRm]; exact ⟨⟨Nat.le_of_ble_eq_true rfl, Nat.le_of_ble_eq_true rfl⟩, Nat.le_of_ble_eq_true rfl, Nat.le_of_ble_eq_true rfl⟩) hl.1 [0, 1, 2, 3, 4, 5, 6, 7, 8, 9, 10, 11, 12, 13, 14, 15, 16, 17, 18, 19, 20, 21, 22, 23, 24, 25, 26, 27, 28, 29, 30, 31, 32, 33, 34, 35, 36, 37, 38] [] ⟨rfl, rfl, by decide, by decide, by decide⟩ 0 rfl rfl rfl (Nat.le_of_ble_eq_true rfl) d_D_kill_15 (fun z_15 u_15 H locs hz_15 w => ?_)
    refine r_goto (pc := 18) (tgt := 22) C d_D_kill_18 (by decide) ?_
    exact kret _ _ _ _ z_15 _ d_D_kill_22 w (by obtain ⟨A, f3, f4⟩ := hz_15; have he : pieceE N f k = 0 := by { unfold pieceE; (repeat' split) <;> omega }; exact ⟨A, f3, (by rw [he, ← edt_kill, ← edc_kill]; exact f4 : SpE ((lc, sd, r, sg, ln, N, v), hist, rcd, slot, uf, T, m) z_15 A (pieceE N f k) lc sd N (edt f (f + k) 2 10 v) (ps (edc f (f + k) 2 10 v) N))⟩)
def Sp_revive (f k : Int) (A : AS) (z : Int) (A' : AS) : Prop := match A with | ((lc, sd, r, sg, ln, N, v), hist, rcd, slot, uf, T, m) => SpE A z A' (pieceE N f k) (lc) (sd) (N) (edt f (f + k) 3 0 v) (ps (edc f (f + k) 3 0 v) N)
theorem d_D_revive_0 : decode b_D_revive 0 = .ok (.aload_n 0, 1) := by decide +kernel
theorem d_D_revive_1 : decode b_D_revive 1 = .ok (.iload_n 1, 1) := by decide +kernel
theorem d_D_revive_2 : decode b_D_revive 2 = .ok (.iload_n 2, 1) := by decide +kernel
theorem d_D_revive_3 : decode b_D_revive 3 = .ok (.invokevirtual 76, 3) := by decide +kernel
theorem d_D_revive_6 : decode b_D_revive 6 = .ok (.ifCond .eq 14, 3) := by decide +kernel
theorem d_D_revive_9 : decode b_D_revive 9 = .ok (.aload_n 0, 1) := by decide +kernel
theorem d_D_revive_10 : decode b_D_revive 10 = .ok (.iload_n 1, 1) := by decide +kernel
theorem d_D_revive_11 : decode b_D_revive 11 = .ok (.iload_n 2, 1) := by decide +kernel
theorem d_D_revive_12 : decode b_D_revive 12 = .ok (.iconst 2, 1) := by decide +kernel
theorem d_D_revive_13 : decode b_D_revive 13 = .ok (.iconst 0, 1) := by decide +kernel
theorem d_D_revive_14 : decode b_D_revive 14 = .ok (.invokevirtual 87, 3) := by decide +kernel
theorem d_D_revive_17 : decode b_D_revive 17 = .ok (.goto 4, 3) := by decide +kernel
theorem d_D_revive_20 : decode b_D_revive 20 = .ok (.iconst (-1), 1) := by decide +kernel
theorem d_D_revive_21 : decode b_D_revive 21 = .ok (.ireturn, 1) := by decide +kernel
set_option maxHeartbeats 4000000 in
set_option maxRecDepth 20000 in
theorem c_D_revive {l : Launch} {G : va_G} {tys : List (ClassId × FieldType)} {cI cO cZ : ClassId} (hT : TY tys cI cO cZ) (o : Nat) (A : AS) (ws : va_W) (hA : CW cI cO cZ o A ws) (f k : Int) (hrg : (-2147483648 ≤ f ∧ f < 2147483648) ∧ (-2147483648 ≤ k ∧ k < 2147483648)) : CTI l G tys y_D_revive b_D_revive 3 .int 4 99 [.ref o, .int (iI f), .int (iI k)] ws (fun z u => ∃ A' : AS, CW cI cO cZ o A' u ∧ Sp_revive f k A z A') := by
  obtain ⟨⟨lc, sd, r, sg, ln, N, v⟩, hist, rcd, slot, uf, T, m⟩ := A
  obtain ⟨hR, h, sl, us, pd, co, hf, sf, q, a, b, ov, q2, a2, b2, sg2, ln2, r2, pl2, ov2, lc2, sd2, q3, a3, b3, sg3, ln3, r3, pl3, ov3, lc3, sd3, st, rfl, hC⟩ := hA
  have hO := hR.1
  have hr5 := hR.2.1
  have hN3 := hR.2.2.1
  have hN0 := hO.n0
  have hr0 := hO.1
  have hlcd := hR.2.2.2
  have hm80 := hC.2.2.2.2.2.1
  have hrcd6 := hC.2.2.1
  refine mkI (by decide) (Nat.le_of_ble_eq_true rfl) ?_
  rintro X rfl rfl rfl hRm C kret H ls w hl
  have hl : lv_has ls 3 [(0, .ref o), (1, .int (iI f)), (2, .int (iI k))] := hl
  have w : Wd X (dcore cI cO cZ o h sl us pd co q q2 q3 hf rcd sf uf T m ++ sw cI q a b sg ln r N ov lc sd ++ sw cI q2 a2 b2 sg2 ln2 r2 pl2 ov2 lc2 sd2 ++ sw cI q3 a3 b3 sg3 ln3 r3 pl3 ov3 lc3 sd3 ++ hst cI st) H [] := w
  generalize ([] : List Loc) = locs at w ⊢
  refine r_aload_n (pc := 0) C d_D_revive_0 rfl (lv_at hl 0 rfl) ?_
  refine r_iload_n (pc := 1) C d_D_revive_1 rfl (lv_at hl 1 rfl) ?_
  refine r_iload_n (pc := 2) C d_D_revive_2 rfl (lv_at hl 2 rfl) ?_
  refine r_callVI (pc := 3) (As := [.int (iI f), .int (iI k)]) (rest := []) (wr := []) C w (c_D_isPiece hT o h sl us pd co hf sf rcd m uf T q a b sg ln r N ov lc sd q2 a2 b2 sg2 ln2 r2 pl2 ov2 lc2 sd2 q3 a3 b3 sg3 ln3 r3 pl3 ov3 lc3 sd3 st f k (by omega) (by omega)) ml_D_76 im_D_isPiece se_D_isPiece ini_D cd_D_isPiece hd_D_isPiece rfl (by rw [hRm]; exact ⟨⟨Nat.le_of_ble_eq_true rfl, Nat.le_of_ble_eq_true rfl⟩, Nat.le_of_ble_eq_true rfl, Nat.le_of_ble_eq_true rfl⟩) hl.1 [0, 1, 2, 3, 4, 5, 6, 7, 8, 9, 10, 11, 12, 13, 14, 15, 16, 17, 18, 19, 20, 21, 22, 23, 24, 25, 26, 27, 28, 29, 30, 31, 32, 33, 34, 35, 36, 37, 38] [] ⟨rfl, rfl, by decide, by decide, by decide⟩ 0 rfl rfl rfl (Nat.le_of_ble_eq_true rfl) d_D_revive_3 (fun z_3 u_3 H locs hz_3 w => ?_)
  obtain ⟨rfl, hz_3⟩ := hz_3
  have w : Wd X (dcore cI cO cZ o h sl us pd co q q2 q3 hf rcd sf uf T m ++ sw cI q a b sg ln r N ov lc sd ++ sw cI q2 a2 b2 sg2 ln2 r2 pl2 ov2 lc2 sd2 ++ sw cI q3 a3 b3 sg3 ln3 r3 pl3 ov3 lc3 sd3 ++ hst cI st) H locs := w
  refine r_if_eq (pc := 6) (tgt := 20) C (by omega) d_D_revive_6 (by decide) (fun c_6 => ?_) (fun c_6 => ?_)
  · skip
    have hb_6 : ¬ (0 ≤ f ∧ 1 ≤ k ∧ k ≤ N - f) := by omega
    clear hz_3 c_6
    refine r_iconst (pc := 20) C d_D_revive_20 ?_
    exact kret _ _ _ _ (-1) _ d_D_revive_21 w (⟨_, cw_mk hR hC, Or.inl ⟨by unfold pieceE; (repeat' split) <;> omega, by unfold pieceE; (repeat' split) <;> omega, rfl⟩⟩)
  · skip
    have hb_6 : 0 ≤ f ∧ 1 ≤ k ∧ k ≤ N - f := by omega
    clear hz_3 c_6
    refine r_aload_n (pc := 9) C d_D_revive_9 rfl (lv_at hl 0 rfl) ?_
    refine r_iload_n (pc := 10) C d_D_revive_10 rfl (lv_at hl 1 rfl) ?_
    refine r_iload_n (pc := 11) C d_D_revive_11 rfl (lv_at hl 2 rfl) ?_
    refine r_iconst (pc := 12) C d_D_revive_12 ?_
    refine r_iconst (pc := 13) C d_D_revive_13 ?_
    refine r_callVI (pc := 14) (As := [.int (iI f), .int (iI k), .int (iI 2), .int (iI 0)]) (rest := []) (wr := []) C w (c_D_edited hT o h sl us pd co hf sf rcd m uf T q a b sg ln r N ov lc sd q2 a2 b2 sg2 ln2 r2 pl2 ov2 lc2 sd2 q3 a3 b3 sg3 ln3 r3 pl3 ov3 lc3 sd3 st f k 2 3 0 v hist slot hR hC (by omega) (by omega) (by omega)) ml_D_87 im_D_edited se_D_edited ini_D cd_D_edited hd_D_edited rfl (by rw [hRm]; exact ⟨⟨Nat.le_of_ble_eq_true rfl, Nat.le_of_ble_eq_true rfl⟩, Nat.le_of_ble_eq_true rfl, Nat.le_of_ble_eq_true rfl⟩) hl.1 [0, 1, 2, 3, 4, 5, 6, 7, 8, 9, 10, 11, 12, 13, 14, 15, 16, 17, 18, 19, 20, 21, 22, 23, 24, 25, 26, 27, 28, 29, 30, 31, 32, 33, 34, 35, 36, 37, 38] [] ⟨rfl, rfl, by decide, by decide, by decide⟩ 0 rfl rfl rfl (Nat.le_of_ble_eq_true rfl) d_D_revive_14 (fun z_14 u_14 H locs hz_14 w => ?_)
    refine r_goto (pc := 17) (tgt := 21) C d_D_revive_17 (by decide) ?_
    exact kret _ _ _ _ z_14 _ d_D_revive_21 w (by obtain ⟨A, f3, f4⟩ := hz_14; have he : pieceE N f k = 0 := by { unfold pieceE; (repeat' split) <;> omega }; exact ⟨A, f3, (by rw [he]; exact f4 : SpE ((lc, sd, r, sg, ln, N, v), hist, rcd, slot, uf, T, m) z_14 A (pieceE N f k) lc sd N (edt f (f + k) 3 0 v) (ps (edc f (f + k) 3 0 v) N))⟩)
