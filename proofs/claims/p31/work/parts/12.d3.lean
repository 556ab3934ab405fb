/-! turn, move, undo, save, restore -/
theorem turned_rc {N f e r : Int} {v w0 sg ln : Int → Int} (hO : Ok r sg ln N v) (hf : 0 ≤ f ∧ f ≤ e ∧ e ≤ N) : ∀ j, 0 ≤ j → j ≤ r → rc (tv 1 v e 0 w0 (max 0 (e - max (ps ln (r - j)) f))) (tn 1 v e 0 (max 0 (e - max (ps ln (r - j)) f))) ≤ j := by
  refine int_ind (fun _ => ?_) (fun j hj ih h => ?_)
  · rw [show r - 0 = r by omega, hO.2.2.2.1, show max 0 (e - max N f) = 0 by omega, tn_zero, rc_zero]
    exact Int.le_refl 0
  · have ih := ih (by omega)
    have hk := hO.run (k := r - (j + 1)) (by omega) (by omega)
    rw [show r - (j + 1) + 1 = r - j by omega] at hk
    by_cases q : sg (r - (j + 1)) = 10
    · have h3 := turned_over (n := 0) (f := f) (e := e) (ol := 1) (S := ps ln (r - j)) (T := ps ln (r - (j + 1))) (v := w0) hO (k := r - (j + 1)) (by omega) (by omega) (by rw [show r - (j + 1) + 1 = r - j by omega]) (by omega) (by omega) hf
      rw [h3.1, h3.2]
      omega
    · obtain ⟨a1, a2⟩ := turned_keep (ol := 1) (e := e) (n := 0) (s := sg (r - (j + 1))) (u := v) (v := w0) (d := max 0 (e - max (ps ln (r - j)) f)) (by omega) (Or.inr q) (max 0 (e - max (ps ln (r - (j + 1))) f) - max 0 (e - max (ps ln (r - j)) f)) (by omega) (fun x q1 q2 => hO.2.2.2.2 (r - (j + 1)) (by omega) (by omega) x (by omega) (by rw [show r - (j + 1) + 1 = r - j by omega]; omega))
      rw [show max 0 (e - max (ps ln (r - j)) f) + (max 0 (e - max (ps ln (r - (j + 1))) f) - max 0 (e - max (ps ln (r - j)) f)) = max 0 (e - max (ps ln (r - (j + 1))) f) by omega] at a1 a2
      have hn := tn_ge 1 v e 0 (max 0 (e - max (ps ln (r - j)) f)) (by omega)
      rw [a1, rc_congr _ (by omega) (fun x h1 h2 => a2 x h2)]
      by_cases z : max 0 (e - max (ps ln (r - (j + 1))) f) - max 0 (e - max (ps ln (r - j)) f) = 0
      · rw [z, Int.add_zero, rc_congr (u := tv 1 v e 0 w0 (max 0 (e - max (ps ln (r - j)) f))) _ (by omega) (fun x h1 h2 => app_lt h2)]
        omega
      · rw [rc_app (by omega) (by omega)]
        split <;> omega
theorem rc_change {v : Int → Int} {a : Int} (ha : 1 ≤ a) : ∀ m, 0 ≤ m → v (a - 1 + m) ≠ v (a - 1) → rc v a + 1 ≤ rc v (a + m) := by
  refine int_ind (fun h => absurd (by rw [Int.add_zero]) h) (fun m hm ih h => ?_)
  have h1 := rc_succ v (k := a + m) (by omega)
  rw [Int.add_assoc] at h1
  have h2 := rc_mono v (a := a) (by omega) m hm
  by_cases q : v (a - 1 + m) = v (a - 1)
  · rw [if_pos (Or.inr (by rw [show a + m - 1 = a - 1 + m by omega, show a + m = a - 1 + (m + 1) by omega, q]; exact h))] at h1
    omega
  · have := ih q
    split at h1 <;> omega
theorem rc_del {v : Int → Int} {f k N : Int} (hf : 0 ≤ f) (hk : 0 ≤ k) (hN : f + k ≤ N) : rc (del v f k) (N - k) ≤ rc v N := by
  have e0 : rc (del v f k) f = rc v f := rc_congr f hf (fun x _ h => by unfold del; rw [if_pos h])
  have key : ∀ j, 0 ≤ j → rc (del v f k) (f + j) ≤ rc v (f + k + j) := by
    refine int_ind (by rw [Int.add_zero, Int.add_zero, e0]; exact rc_mono v hf k hk) (fun j hj ih => ?_)
    have h1 := rc_succ (del v f k) (k := f + j) (by omega)
    have h2 := rc_succ v (k := f + k + j) (by omega)
    rw [Int.add_assoc] at h1 h2
    rw [h1, h2]
    have d1 : del v f k (f + j) = v (f + k + j) := by unfold del; rw [if_neg (by omega)]; congr 1; omega
    by_cases hj0 : j = 0
    · subst hj0
      simp only [Int.add_zero] at *
      by_cases hf0 : f = 0
      · subst hf0
        rw [e0, rc_zero, if_pos (Or.inl rfl)]
        by_cases hk0 : k = 0
        · subst hk0; simp [rc_zero]
        · have h3 := rc_mono v (a := 1) (by omega) (k - 1) (by omega)
          have h4 := rc_succ v (k := 0) (by omega)
          rw [rc_zero, if_pos (Or.inl rfl)] at h4
          rw [show (1 : Int) + (k - 1) = 0 + k by omega] at h3
          have h4 : rc v 1 = 1 := h4
          split <;> omega
      · have d2 : del v f k (f - 1) = v (f - 1) := by unfold del; rw [if_pos (by omega)]
        rw [e0, d1, d2]
        have h3 := rc_mono v hf k hk
        by_cases q : v (f + k) = v (f - 1)
        · rw [if_neg (by rw [q]; intro z; rcases z with z | z; exact hf0 z; exact z rfl)]
          split <;> omega
        · have h4 := rc_change (v := v) (a := f) (by omega) (k + 1) (by omega) (by rw [show f - 1 + (k + 1) = f + k by omega]; exact q)
          have h5 := rc_succ v (k := f + k) (by omega)
          rw [show f + (k + 1) = f + k + 1 by omega, h5] at h4
          rw [if_pos (Or.inr q)]
          exact h4
    · have d2 : del v f k (f + j - 1) = v (f + k + j - 1) := by unfold del; rw [if_neg (by omega)]; congr 1; omega
      rw [d1, d2]
      have c1 : (f + j = 0 ∨ v (f + k + j) ≠ v (f + k + j - 1)) ↔ (f + k + j = 0 ∨ v (f + k + j) ≠ v (f + k + j - 1)) := by
        constructor <;> (intro z; rcases z with z | z; omega; exact Or.inr z)
      simp only [c1]
      omega
  have := key (N - k - f) (by omega)
  rw [show f + (N - k - f) = N - k by omega, show f + k + (N - k - f) = N by omega] at this
  exact this
def h6 (cI : ClassId) (st : Int → SD) : va_W := swd cI (st 0) ++ (swd cI (st 1) ++ (swd cI (st 2) ++ (swd cI (st 3) ++ (swd cI (st 4) ++ swd cI (st 5)))))
theorem hst_up6 {cI : ClassId} {st : Int → SD} {d : SD} : hst cI (up st 6 d) = h6 cI st ++ (swd cI d ++ swd cI (st 7)) := by
  unfold hst h6
  rw [up_eq, up_ne st d (by omega : (0 : Int) ≠ 6), up_ne st d (by omega : (1 : Int) ≠ 6), up_ne st d (by omega : (2 : Int) ≠ 6), up_ne st d (by omega : (3 : Int) ≠ 6), up_ne st d (by omega : (4 : Int) ≠ 6), up_ne st d (by omega : (5 : Int) ≠ 6), up_ne st d (by omega : (7 : Int) ≠ 6)]
  rfl
theorem hst_up7 {cI : ClassId} {st : Int → SD} {d : SD} : hst cI (up st 7 d) = h6 cI st ++ (swd cI (st 6) ++ swd cI d) := by
  unfold hst h6
  rw [up_eq, up_ne st d (by omega : (0 : Int) ≠ 7), up_ne st d (by omega : (1 : Int) ≠ 7), up_ne st d (by omega : (2 : Int) ≠ 7), up_ne st d (by omega : (3 : Int) ≠ 7), up_ne st d (by omega : (4 : Int) ≠ 7), up_ne st d (by omega : (5 : Int) ≠ 7), up_ne st d (by omega : (6 : Int) ≠ 7)]
  rfl
theorem SR_out {d : SD} {w : Rw} (h : SR d w) : d.2.2.2.1 = w.2.2.2.1 ∧ d.2.2.2.2.1 = w.2.2.2.2.1 ∧ d.2.2.2.2.2.1 = w.2.2.1 ∧ d.2.2.2.2.2.2.1 = w.2.2.2.2.2.1 ∧ d.2.2.2.2.2.2.2.2.1 = w.1 ∧ d.2.2.2.2.2.2.2.2.2 = w.2.1 ∧ RwOk w.1 w.2.1 w.2.2.1 w.2.2.2.1 w.2.2.2.2.1 w.2.2.2.2.2.1 w.2.2.2.2.2.2 := by
  obtain ⟨q, a, b, sg, ln, r, pl, ov, lc, sd⟩ := d
  obtain ⟨lc', sd', r', sg', ln', N', v'⟩ := w
  exact h
def Sp_turn (f k : Int) (A : AS) (z : Int) (A' : AS) : Prop := match A with | ((lc, sd, r, sg, ln, N, v), hist, rcd, slot, uf, T, m) => SpE A z A' (pieceE N f k) (lc) (sd) (N) (trn sd v f (f + k)) (rc (trn sd v f (f + k)) N)
theorem d_D_turn_0 : decode b_D_turn 0 = .ok (.aload_n 0, 1) := by decide +kernel
theorem d_D_turn_1 : decode b_D_turn 1 = .ok (.iload_n 1, 1) := by decide +kernel
theorem d_D_turn_2 : decode b_D_turn 2 = .ok (.iload_n 2, 1) := by decide +kernel
theorem d_D_turn_3 : decode b_D_turn 3 = .ok (.invokevirtual 76, 3) := by decide +kernel
theorem d_D_turn_6 : decode b_D_turn 6 = .ok (.ifCond .ne 5, 3) := by decide +kernel
theorem d_D_turn_9 : decode b_D_turn 9 = .ok (.iconst (-1), 1) := by decide +kernel
theorem d_D_turn_10 : decode b_D_turn 10 = .ok (.ireturn, 1) := by decide +kernel
theorem d_D_turn_11 : decode b_D_turn 11 = .ok (.iload_n 1, 1) := by decide +kernel
theorem d_D_turn_12 : decode b_D_turn 12 = .ok (.iload_n 2, 1) := by decide +kernel
theorem d_D_turn_13 : decode b_D_turn 13 = .ok (.iadd, 1) := by decide +kernel
theorem d_D_turn_14 : decode b_D_turn 14 = .ok (.istore_n 3, 1) := by decide +kernel
theorem d_D_turn_15 : decode b_D_turn 15 = .ok (.aload_n 0, 1) := by decide +kernel
theorem d_D_turn_16 : decode b_D_turn 16 = .ok (.getfield 16, 3) := by decide +kernel
theorem d_D_turn_19 : decode b_D_turn 19 = .ok (.aload_n 0, 1) := by decide +kernel
theorem d_D_turn_20 : decode b_D_turn 20 = .ok (.getfield 10, 3) := by decide +kernel
theorem d_D_turn_23 : decode b_D_turn 23 = .ok (.invokevirtual 65, 3) := by decide +kernel
theorem d_D_turn_26 : decode b_D_turn 26 = .ok (.aload_n 0, 1) := by decide +kernel
theorem d_D_turn_27 : decode b_D_turn 27 = .ok (.getfield 16, 3) := by decide +kernel
theorem d_D_turn_30 : decode b_D_turn 30 = .ok (.aload_n 0, 1) := by decide +kernel
theorem d_D_turn_31 : decode b_D_turn 31 = .ok (.getfield 10, 3) := by decide +kernel
theorem d_D_turn_34 : decode b_D_turn 34 = .ok (.iconst 0, 1) := by decide +kernel
theorem d_D_turn_35 : decode b_D_turn 35 = .ok (.iload_n 1, 1) := by decide +kernel
theorem d_D_turn_36 : decode b_D_turn 36 = .ok (.invokevirtual 68, 3) := by decide +kernel
theorem d_D_turn_39 : decode b_D_turn 39 = .ok (.aload_n 0, 1) := by decide +kernel
theorem d_D_turn_40 : decode b_D_turn 40 = .ok (.getfield 10, 3) := by decide +kernel
theorem d_D_turn_43 : decode b_D_turn 43 = .ok (.getfield 59, 3) := by decide +kernel
theorem d_D_turn_46 : decode b_D_turn 46 = .ok (.iconst 1, 1) := by decide +kernel
theorem d_D_turn_47 : decode b_D_turn 47 = .ok (.if_icmp .ne 48, 3) := by decide +kernel
theorem d_D_turn_50 : decode b_D_turn 50 = .ok (.aload_n 0, 1) := by decide +kernel
theorem d_D_turn_51 : decode b_D_turn 51 = .ok (.getfield 19, 3) := by decide +kernel
theorem d_D_turn_54 : decode b_D_turn 54 = .ok (.aload_n 0, 1) := by decide +kernel
theorem d_D_turn_55 : decode b_D_turn 55 = .ok (.getfield 10, 3) := by decide +kernel
theorem d_D_turn_58 : decode b_D_turn 58 = .ok (.invokevirtual 65, 3) := by decide +kernel
theorem d_D_turn_61 : decode b_D_turn 61 = .ok (.aload_n 0, 1) := by decide +kernel
theorem d_D_turn_62 : decode b_D_turn 62 = .ok (.getfield 19, 3) := by decide +kernel
theorem d_D_turn_65 : decode b_D_turn 65 = .ok (.aload_n 0, 1) := by decide +kernel
theorem d_D_turn_66 : decode b_D_turn 66 = .ok (.getfield 10, 3) := by decide +kernel
theorem d_D_turn_69 : decode b_D_turn 69 = .ok (.iload_n 1, 1) := by decide +kernel
theorem d_D_turn_70 : decode b_D_turn 70 = .ok (.iload_n 3, 1) := by decide +kernel
theorem d_D_turn_71 : decode b_D_turn 71 = .ok (.iconst 1, 1) := by decide +kernel
theorem d_D_turn_72 : decode b_D_turn 72 = .ok (.invokevirtual 91, 3) := by decide +kernel
theorem d_D_turn_75 : decode b_D_turn 75 = .ok (.aload_n 0, 1) := by decide +kernel
theorem d_D_turn_76 : decode b_D_turn 76 = .ok (.getfield 16, 3) := by decide +kernel
theorem d_D_turn_79 : decode b_D_turn 79 = .ok (.aload_n 0, 1) := by decide +kernel
theorem d_D_turn_80 : decode b_D_turn 80 = .ok (.getfield 19, 3) := by decide +kernel
theorem d_D_turn_83 : decode b_D_turn 83 = .ok (.aload_n 0, 1) := by decide +kernel
theorem d_D_turn_84 : decode b_D_turn 84 = .ok (.getfield 10, 3) := by decide +kernel
theorem d_D_turn_87 : decode b_D_turn 87 = .ok (.iload_n 1, 1) := by decide +kernel
theorem d_D_turn_88 : decode b_D_turn 88 = .ok (.iload_n 3, 1) := by decide +kernel
theorem d_D_turn_89 : decode b_D_turn 89 = .ok (.invokevirtual 95, 3) := by decide +kernel
theorem d_D_turn_92 : decode b_D_turn 92 = .ok (.goto 17, 3) := by decide +kernel
theorem d_D_turn_95 : decode b_D_turn 95 = .ok (.aload_n 0, 1) := by decide +kernel
theorem d_D_turn_96 : decode b_D_turn 96 = .ok (.getfield 16, 3) := by decide +kernel
theorem d_D_turn_99 : decode b_D_turn 99 = .ok (.aload_n 0, 1) := by decide +kernel
theorem d_D_turn_100 : decode b_D_turn 100 = .ok (.getfield 10, 3) := by decide +kernel
theorem d_D_turn_103 : decode b_D_turn 103 = .ok (.iload_n 1, 1) := by decide +kernel
theorem d_D_turn_104 : decode b_D_turn 104 = .ok (.iload_n 3, 1) := by decide +kernel
theorem d_D_turn_105 : decode b_D_turn 105 = .ok (.iconst 0, 1) := by decide +kernel
theorem d_D_turn_106 : decode b_D_turn 106 = .ok (.invokevirtual 91, 3) := by decide +kernel
theorem d_D_turn_109 : decode b_D_turn 109 = .ok (.aload_n 0, 1) := by decide +kernel
theorem d_D_turn_110 : decode b_D_turn 110 = .ok (.getfield 16, 3) := by decide +kernel
theorem d_D_turn_113 : decode b_D_turn 113 = .ok (.aload_n 0, 1) := by decide +kernel
theorem d_D_turn_114 : decode b_D_turn 114 = .ok (.getfield 10, 3) := by decide +kernel
theorem d_D_turn_117 : decode b_D_turn 117 = .ok (.iload_n 3, 1) := by decide +kernel
theorem d_D_turn_118 : decode b_D_turn 118 = .ok (.aload_n 0, 1) := by decide +kernel
theorem d_D_turn_119 : decode b_D_turn 119 = .ok (.getfield 10, 3) := by decide +kernel
theorem d_D_turn_122 : decode b_D_turn 122 = .ok (.getfield 62, 3) := by decide +kernel
theorem d_D_turn_125 : decode b_D_turn 125 = .ok (.invokevirtual 68, 3) := by decide +kernel
theorem d_D_turn_128 : decode b_D_turn 128 = .ok (.aload_n 0, 1) := by decide +kernel
theorem d_D_turn_129 : decode b_D_turn 129 = .ok (.aload_n 0, 1) := by decide +kernel
theorem d_D_turn_130 : decode b_D_turn 130 = .ok (.getfield 16, 3) := by decide +kernel
theorem d_D_turn_133 : decode b_D_turn 133 = .ok (.getfield 99, 3) := by decide +kernel
theorem d_D_turn_136 : decode b_D_turn 136 = .ok (.invokevirtual 55, 3) := by decide +kernel
theorem d_D_turn_139 : decode b_D_turn 139 = .ok (.ireturn, 1) := by decide +kernel
set_option maxHeartbeats 4000000 in
set_option maxRecDepth 20000 in
theorem c_D_turn {l : Launch} {G : va_G} {tys : List (ClassId × FieldType)} {cI cO cZ : ClassId} (hT : TY tys cI cO cZ) (o : Nat) (A : AS) (ws : va_W) (hA : CW cI cO cZ o A ws) (f k : Int) (hrg : (-2147483648 ≤ f ∧ f < 2147483648) ∧ (-2147483648 ≤ k ∧ k < 2147483648)) : CTI l G tys y_D_turn b_D_turn 4 .int 4 95 [.ref o, .int (iI f), .int (iI k)] ws (fun z u => ∃ A' : AS, CW cI cO cZ o A' u ∧ Sp_turn f k A z A') := by
  obtain ⟨⟨lc, sd, r, sg, ln, N, v⟩, hist, rcd, slot, uf, T, m⟩ := A
  obtain ⟨hR, h, sl, us, pd, co, hf, sf, q, a, b, ov, q2, a2, b2, sg2, ln2, r2, pl2, ov2, lc2, sd2, q3, a3, b3, sg3, ln3, r3, pl3, ov3, lc3, sd3, st, rfl, hC⟩ := hA
  have hO := hR.1
  have hr5 := hR.2.1
  have hN3 := hR.2.2.1
  have hN0 := hO.n0
  have hr0 := hO.1
  have hlcd := hR.2.2.2
  have hm80 := hC.2.2.2.2.2.1
  have hrcd6 := hC.2.2.1
  refine mkI (by decide) (Nat.le_of_ble_eq_true rfl) ?_
  rintro X rfl rfl rfl hRm C kret H ls w hl
  have hl : lv_has ls 4 [(0, .ref o), (1, .int (iI f)), (2, .int (iI k))] := hl
  have w : Wd X (dcore cI cO cZ o h sl us pd co q q2 q3 hf rcd sf uf T m ++ sw cI q a b sg ln r N ov lc sd ++ sw cI q2 a2 b2 sg2 ln2 r2 pl2 ov2 lc2 sd2 ++ sw cI q3 a3 b3 sg3 ln3 r3 pl3 ov3 lc3 sd3 ++ hst cI st) H [] := w
  generalize ([] : List Loc) = locs at w ⊢
  refine r_aload_n (pc := 0) C d_D_turn_0 rfl (lv_at hl 0 rfl) ?_
  refine r_iload_n (pc := 1) C d_D_turn_1 rfl (lv_at hl 1 rfl) ?_
  refine r_iload_n (pc := 2) C d_D_turn_2 rfl (lv_at hl 2 rfl) ?_
  refine r_callVI (pc := 3) (As := [.int (iI f), .int (iI k)]) (rest := []) (wr := []) C w (c_D_isPiece hT o h sl us pd co hf sf rcd m uf T q a b sg ln r N ov lc sd q2 a2 b2 sg2 ln2 r2 pl2 ov2 lc2 sd2 q3 a3 b3 sg3 ln3 r3 pl3 ov3 lc3 sd3 st f k (by omega) (by omega)) ml_D_76 im_D_isPiece se_D_isPiece ini_D cd_D_isPiece hd_D_isPiece rfl (by rw [hRm]; exact ⟨⟨Nat.le_of_ble_eq_true rfl, Nat.le_of_ble_eq_true rfl⟩, Nat.le_of_ble_eq_true rfl, Nat.le_of_ble_eq_true rfl⟩) hl.1 [0, 1, 2, 3, 4, 5, 6, 7, 8, 9, 10, 11, 12, 13, 14, 15, 16, 17, 18, 19, 20, 21, 22, 23, 24, 25, 26, 27, 28, 29, 30, 31, 32, 33, 34, 35, 36, 37, 38] [] ⟨rfl, rfl, by decide, by decide, by decide⟩ 0 rfl rfl rfl (Nat.le_of_ble_eq_true rfl) d_D_turn_3 (fun z_3 u_3 H locs hz_3 w => ?_)
  obtain ⟨rfl, hz_3⟩ := hz_3
  have w : Wd X (dcore cI cO cZ o h sl us pd co q q2 q3 hf rcd sf uf T m ++ sw cI q a b sg ln r N ov lc sd ++ sw cI q2 a2 b2 sg2 ln2 r2 pl2 ov2 lc2 sd2 ++ sw cI q3 a3 b3 sg3 ln3 r3 pl3 ov3 lc3 sd3 ++ hst cI st) H locs := w
  refine r_if_ne (pc := 6) (tgt := 11) C (by omega) d_D_turn_6 (by decide) (fun c_6 => ?_) (fun c_6 => ?_)
  · skip
    have hb_6 : 0 ≤ f ∧ 1 ≤ k ∧ k ≤ N - f := by omega
    clear hz_3 c_6
    refine r_iload_n (pc := 11) C d_D_turn_11 rfl (lv_at hl 1 rfl) ?_
    refine r_iload_n (pc := 12) C d_D_turn_12 rfl (lv_at hl 2 rfl) ?_
    refine r_iadd (pc := 13) C d_D_turn_13 ?_
    refine r_istore_n (pc := 14) (lv' := [(3, .int (iI (f + k))), (0, .ref o), (1, .int (iI f)), (2, .int (iI k))]) C d_D_turn_14 rfl hl (by decide) rfl (fun ls hl => ?_)
    refine r_aload_n (pc := 15) C d_D_turn_15 rfl (lv_at hl 1 rfl) ?_
    refine r_get (pc := 16) (v := .ref q2) C w i_D rfl 0 rfl 1 (by decide) fl_D_16 rfl rfl d_D_turn_16 ?_
    refine r_aload_n (pc := 19) C d_D_turn_19 rfl (lv_at hl 1 rfl) ?_
    refine r_get (pc := 20) (v := .ref q) C w i_D rfl 0 rfl 0 (by decide) fl_D_10 rfl rfl d_D_turn_20 ?_
    refine r_callVV (pc := 23) (As := [.ref q]) (rest := []) (wr := (dcore cI cO cZ o h sl us pd co q q2 q3 hf rcd sf uf T m ++ sw cI q3 a3 b3 sg3 ln3 r3 pl3 ov3 lc3 sd3 ++ hst cI st)) C w (c_S_startLike hT q2 a2 b2 sg2 ln2 r2 pl2 ov2 lc2 sd2 q a b sg ln r N ov lc sd) ml_D_65 im_S_startLike se_S_startLike ini_S cd_S_startLike hd_S_startLike rfl (by rw [hRm]; exact ⟨⟨Nat.le_of_ble_eq_true rfl, Nat.le_of_ble_eq_true rfl⟩, Nat.le_of_ble_eq_true rfl, Nat.le_of_ble_eq_true rfl⟩) hl.1 [9, 10, 11, 6, 7, 8] [0, 1, 2, 3, 4, 5, 12, 13, 14, 15, 16, 17, 18, 19, 20, 21, 22, 23, 24, 25, 26, 27, 28, 29, 30, 31, 32, 33, 34, 35, 36, 37, 38] ⟨rfl, rfl, by decide, by decide, by decide⟩ 0 rfl rfl rfl (Nat.le_of_ble_eq_true rfl) d_D_turn_23 (fun u_23 H locs hz_23 w => ?_)
    subst hz_23
    have w : Wd X (dcore cI cO cZ o h sl us pd co q q2 q3 hf rcd sf uf T m ++ sw cI q a b sg ln r N ov lc sd ++ sw cI q2 a2 b2 sg2 ln2 0 0 0 lc sd ++ sw cI q3 a3 b3 sg3 ln3 r3 pl3 ov3 lc3 sd3 ++ hst cI st) H locs := w.sub [0, 1, 2, 3, 4, 5, 36, 37, 38, 33, 34, 35, 6, 7, 8, 9, 10, 11, 12, 13, 14, 15, 16, 17, 18, 19, 20, 21, 22, 23, 24, 25, 26, 27, 28, 29, 30, 31, 32] rfl (by decide)
    refine r_aload_n (pc := 26) C d_D_turn_26 rfl (lv_at hl 1 rfl) ?_
    refine r_get (pc := 27) (v := .ref q2) C w i_D rfl 0 rfl 1 (by decide) fl_D_16 rfl rfl d_D_turn_27 ?_
    refine r_aload_n (pc := 30) C d_D_turn_30 rfl (lv_at hl 1 rfl) ?_
    refine r_get (pc := 31) (v := .ref q) C w i_D rfl 0 rfl 0 (by decide) fl_D_10 rfl rfl d_D_turn_31 ?_
    refine r_iconst (pc := 34) C d_D_turn_34 ?_
    refine r_iload_n (pc := 35) C d_D_turn_35 rfl (lv_at hl 2 rfl) ?_
    refine r_callVV (pc := 36) (As := [.ref q, .int (iI 0), .int (iI f)]) (rest := []) (wr := (dcore cI cO cZ o h sl us pd co q q2 q3 hf rcd sf uf T m ++ sw cI q3 a3 b3 sg3 ln3 r3 pl3 ov3 lc3 sd3 ++ hst cI st)) C w (c_S_appendPiece hT q2 a2 b2 sg2 ln2 0 0 0 lc sd q a b sg ln r N ov lc sd _ _ f 0 _ _ (RV.empty _ _ v) hO (by omega) (by omega) (by omega) (by omega)) ml_D_68 im_S_appendPiece se_S_appendPiece ini_S cd_S_appendPiece hd_S_appendPiece rfl (by rw [hRm]; exact ⟨⟨Nat.le_of_ble_eq_true rfl, Nat.le_of_ble_eq_true rfl⟩, Nat.le_of_ble_eq_true rfl, Nat.le_of_ble_eq_true rfl⟩) hl.1 [9, 10, 11, 6, 7, 8] [0, 1, 2, 3, 4, 5, 12, 13, 14, 15, 16, 17, 18, 19, 20, 21, 22, 23, 24, 25, 26, 27, 28, 29, 30, 31, 32, 33, 34, 35, 36, 37, 38] ⟨rfl, rfl, by decide, by decide, by decide⟩ 0 rfl rfl rfl (Nat.le_of_ble_eq_true rfl) d_D_turn_36 (fun u_36 H locs hz_36 w => ?_)
    obtain ⟨sg_36, ln_36, r_36, pl_36, ov_36, rfl, hV_36⟩ := hz_36
    have w : Wd X (dcore cI cO cZ o h sl us pd co q q2 q3 hf rcd sf uf T m ++ sw cI q a b sg ln r N ov lc sd ++ sw cI q2 a2 b2 sg_36 ln_36 r_36 pl_36 ov_36 lc sd ++ sw cI q3 a3 b3 sg3 ln3 r3 pl3 ov3 lc3 sd3 ++ hst cI st) H locs := w.sub [0, 1, 2, 3, 4, 5, 36, 37, 38, 33, 34, 35, 6, 7, 8, 9, 10, 11, 12, 13, 14, 15, 16, 17, 18, 19, 20, 21, 22, 23, 24, 25, 26, 27, 28, 29, 30, 31, 32] rfl (by decide)
    have hV6 := hV_36.to (n' := f) (u := v) (by omega) (fun x h1 _ => by rw [cat_ge (by omega)]; congr 1; omega)
    refine r_aload_n (pc := 39) C d_D_turn_39 rfl (lv_at hl 1 rfl) ?_
    refine r_get (pc := 40) (v := .ref q) C w i_D rfl 0 rfl 0 (by decide) fl_D_10 rfl rfl d_D_turn_40 ?_
    refine r_get (pc := 43) (v := .int (iI sd)) C w i_S rfl 6 rfl 6 (by decide) fl_D_59 rfl rfl d_D_turn_43 ?_
    refine r_iconst (pc := 46) C d_D_turn_46 ?_
    refine r_icmp_ne (pc := 47) (tgt := 95) C (by omega) d_D_turn_47 (by decide) (fun c_47 => ?_) (fun c_47 => ?_)
    · skip
      refine r_aload_n (pc := 95) C d_D_turn_95 rfl (lv_at hl 1 rfl) ?_
      refine r_get (pc := 96) (v := .ref q2) C w i_D rfl 0 rfl 1 (by decide) fl_D_16 rfl rfl d_D_turn_96 ?_
      refine r_aload_n (pc := 99) C d_D_turn_99 rfl (lv_at hl 1 rfl) ?_
      refine r_get (pc := 100) (v := .ref q) C w i_D rfl 0 rfl 0 (by decide) fl_D_10 rfl rfl d_D_turn_100 ?_
      refine r_iload_n (pc := 103) C d_D_turn_103 rfl (lv_at hl 2 rfl) ?_
      refine r_iload_n (pc := 104) C d_D_turn_104 rfl (lv_at hl 0 rfl) ?_
      refine r_iconst (pc := 105) C d_D_turn_105 ?_
      refine r_callVV (pc := 106) (As := [.ref q, .int (iI f), .int (iI (f + k)), .int (iI 0)]) (rest := []) (wr := (dcore cI cO cZ o h sl us pd co q q2 q3 hf rcd sf uf T m ++ sw cI q3 a3 b3 sg3 ln3 r3 pl3 ov3 lc3 sd3 ++ hst cI st)) C w (c_S_appendTurned hT q2 a2 b2 sg_36 ln_36 r_36 pl_36 ov_36 lc sd q a b sg ln r N ov lc sd _ _ (f + k) f 0 _ _ hV6 hO (by omega) (by omega) (by omega) (by omega) (by omega)) ml_D_91 im_S_appendTurned se_S_appendTurned ini_S cd_S_appendTurned hd_S_appendTurned rfl (by rw [hRm]; exact ⟨⟨Nat.le_of_ble_eq_true rfl, Nat.le_of_ble_eq_true rfl⟩, Nat.le_of_ble_eq_true rfl, Nat.le_of_ble_eq_true rfl⟩) hl.1 [9, 10, 11, 6, 7, 8] [0, 1, 2, 3, 4, 5, 12, 13, 14, 15, 16, 17, 18, 19, 20, 21, 22, 23, 24, 25, 26, 27, 28, 29, 30, 31, 32, 33, 34, 35, 36, 37, 38] ⟨rfl, rfl, by decide, by decide, by decide⟩ 0 rfl rfl rfl (Nat.le_of_ble_eq_true rfl) d_D_turn_106 (fun u_106 H locs hz_106 w => ?_)
      obtain ⟨sg_106, ln_106, r_106, pl_106, ov_106, rfl, hV_106⟩ := hz_106
      have w : Wd X (dcore cI cO cZ o h sl us pd co q q2 q3 hf rcd sf uf T m ++ sw cI q a b sg ln r N ov lc sd ++ sw cI q2 a2 b2 sg_106 ln_106 r_106 pl_106 ov_106 lc sd ++ sw cI q3 a3 b3 sg3 ln3 r3 pl3 ov3 lc3 sd3 ++ hst cI st) H locs := w.sub [0, 1, 2, 3, 4, 5, 36, 37, 38, 33, 34, 35, 6, 7, 8, 9, 10, 11, 12, 13, 14, 15, 16, 17, 18, 19, 20, 21, 22, 23, 24, 25, 26, 27, 28, 29, 30, 31, 32] rfl (by decide)
      have ht0 := tv0_eq v v (f + k) f (f + k - f) (by omega)
      have hV8 := hV_106.to (n' := f + k) (u := trn sd v f (f + k)) (by rw [ht0.1]; omega) (fun x h1 h2 => by rw [ht0.2 x (by rw [← ht0.1]; exact h2)]; unfold trn; by_cases q : x < f; rw [if_pos q, if_neg (by omega)]; rw [if_neg q, if_pos (by rw [ht0.1] at h2; omega), if_neg (by omega)]; congr 1; omega)
      refine r_aload_n (pc := 109) C d_D_turn_109 rfl (lv_at hl 1 rfl) ?_
      refine r_get (pc := 110) (v := .ref q2) C w i_D rfl 0 rfl 1 (by decide) fl_D_16 rfl rfl d_D_turn_110 ?_
      refine r_aload_n (pc := 113) C d_D_turn_113 rfl (lv_at hl 1 rfl) ?_
      refine r_get (pc := 114) (v := .ref q) C w i_D rfl 0 rfl 0 (by decide) fl_D_10 rfl rfl d_D_turn_114 ?_
      refine r_iload_n (pc := 117) C d_D_turn_117 rfl (lv_at hl 0 rfl) ?_
      refine r_aload_n (pc := 118) C d_D_turn_118 rfl (lv_at hl 1 rfl) ?_
      refine r_get (pc := 119) (v := .ref q) C w i_D rfl 0 rfl 0 (by decide) fl_D_10 rfl rfl d_D_turn_119 ?_
      refine r_get (pc := 122) (v := .int (iI N)) C w i_S rfl 6 rfl 3 (by decide) fl_D_62 rfl rfl d_D_turn_122 ?_
      refine r_callVV (pc := 125) (As := [.ref q, .int (iI (f + k)), .int (iI N)]) (rest := []) (wr := (dcore cI cO cZ o h sl us pd co q q2 q3 hf rcd sf uf T m ++ sw cI q3 a3 b3 sg3 ln3 r3 pl3 ov3 lc3 sd3 ++ hst cI st)) C w (c_S_appendPiece hT q2 a2 b2 sg_106 ln_106 r_106 pl_106 ov_106 lc sd q a b sg ln r N ov lc sd _ _ N (f + k) _ _ hV8 hO (by omega) (by omega) (by omega) (by omega)) ml_D_68 im_S_appendPiece se_S_appendPiece ini_S cd_S_appendPiece hd_S_appendPiece rfl (by rw [hRm]; exact ⟨⟨Nat.le_of_ble_eq_true rfl, Nat.le_of_ble_eq_true rfl⟩, Nat.le_of_ble_eq_true rfl, Nat.le_of_ble_eq_true rfl⟩) hl.1 [9, 10, 11, 6, 7, 8] [0, 1, 2, 3, 4, 5, 12, 13, 14, 15, 16, 17, 18, 19, 20, 21, 22, 23, 24, 25, 26, 27, 28, 29, 30, 31, 32, 33, 34, 35, 36, 37, 38] ⟨rfl, rfl, by decide, by decide, by decide⟩ 0 rfl rfl rfl (Nat.le_of_ble_eq_true rfl) d_D_turn_125 (fun u_125 H locs hz_125 w => ?_)
      obtain ⟨sg_125, ln_125, r_125, pl_125, ov_125, rfl, hV_125⟩ := hz_125
      have w : Wd X (dcore cI cO cZ o h sl us pd co q q2 q3 hf rcd sf uf T m ++ sw cI q a b sg ln r N ov lc sd ++ sw cI q2 a2 b2 sg_125 ln_125 r_125 pl_125 ov_125 lc sd ++ sw cI q3 a3 b3 sg3 ln3 r3 pl3 ov3 lc3 sd3 ++ hst cI st) H locs := w.sub [0, 1, 2, 3, 4, 5, 36, 37, 38, 33, 34, 35, 6, 7, 8, 9, 10, 11, 12, 13, 14, 15, 16, 17, 18, 19, 20, 21, 22, 23, 24, 25, 26, 27, 28, 29, 30, 31, 32] rfl (by decide)
      have hV9 := hV_125.to (n' := N) (u := trn sd v f (f + k)) (by omega) (fun x h1 h2 => by by_cases q : x < f + k; rw [cat_lt q]; rw [cat_ge (by omega)]; unfold trn; rw [if_neg (by omega)]; congr 1; omega)
      refine r_aload_n (pc := 128) C d_D_turn_128 rfl (lv_at hl 1 rfl) ?_
      refine r_aload_n (pc := 129) C d_D_turn_129 rfl (lv_at hl 1 rfl) ?_
      refine r_get (pc := 130) (v := .ref q2) C w i_D rfl 0 rfl 1 (by decide) fl_D_16 rfl rfl d_D_turn_130 ?_
      refine r_get (pc := 133) (v := .int (iI r_125)) C w i_S rfl 9 rfl 2 (by decide) fl_D_99 rfl rfl d_D_turn_133 ?_
      refine r_callVI (pc := 136) (As := [.int (iI r_125)]) (rest := []) (wr := []) C w (c_D_accepted hT o h sl us pd co hf sf rcd m uf T q a b sg ln r N ov lc sd q2 a2 b2 sg_125 ln_125 r_125 pl_125 ov_125 lc sd q3 a3 b3 sg3 ln3 r3 pl3 ov3 lc3 sd3 st r_125 _ v _ hist slot hR hC hV9 (by omega)) ml_D_55 im_D_accepted se_D_accepted ini_D cd_D_accepted hd_D_accepted rfl (by rw [hRm]; exact ⟨⟨Nat.le_of_ble_eq_true rfl, Nat.le_of_ble_eq_true rfl⟩, Nat.le_of_ble_eq_true rfl, Nat.le_of_ble_eq_true rfl⟩) hl.1 [0, 1, 2, 3, 4, 5, 6, 7, 8, 9, 10, 11, 12, 13, 14, 15, 16, 17, 18, 19, 20, 21, 22, 23, 24, 25, 26, 27, 28, 29, 30, 31, 32, 33, 34, 35, 36, 37, 38] [] ⟨rfl, rfl, by decide, by decide, by decide⟩ 0 rfl rfl rfl (Nat.le_of_ble_eq_true rfl) d_D_turn_136 (fun z_136 u_136 H locs hz_136 w => ?_)
      exact kret _ _ _ _ z_136 _ d_D_turn_139 w (by rcases hz_136 with ⟨f1, f2, rfl⟩ | ⟨f1, f2, A, f3, f4⟩; exact ⟨_, cw_mk hR hC, Or.inr (Or.inl ⟨by unfold pieceE; (repeat' split) <;> omega, f1, f2, rfl⟩)⟩; exact ⟨A, f3, Or.inr (Or.inr ⟨by unfold pieceE; (repeat' split) <;> omega, f1, f2.trans (hV9.2.1 f1).2.2.rcE.symm, f4⟩)⟩)
    · skip
      refine r_aload_n (pc := 50) C d_D_turn_50 rfl (lv_at hl 1 rfl) ?_
      refine r_get (pc := 51) (v := .ref q3) C w i_D rfl 0 rfl 2 (by decide) fl_D_19 rfl rfl d_D_turn_51 ?_
      refine r_aload_n (pc := 54) C d_D_turn_54 rfl (lv_at hl 1 rfl) ?_
      refine r_get (pc := 55) (v := .ref q) C w i_D rfl 0 rfl 0 (by decide) fl_D_10 rfl rfl d_D_turn_55 ?_
      refine r_callVV (pc := 58) (As := [.ref q]) (rest := []) (wr := (dcore cI cO cZ o h sl us pd co q q2 q3 hf rcd sf uf T m ++ sw cI q2 a2 b2 sg_36 ln_36 r_36 pl_36 ov_36 lc sd ++ hst cI st)) C w (c_S_startLike hT q3 a3 b3 sg3 ln3 r3 pl3 ov3 lc3 sd3 q a b sg ln r N ov lc sd) ml_D_65 im_S_startLike se_S_startLike ini_S cd_S_startLike hd_S_startLike rfl (by rw [hRm]; exact ⟨⟨Nat.le_of_ble_eq_true rfl, Nat.le_of_ble_eq_true rfl⟩, Nat.le_of_ble_eq_true rfl, Nat.le_of_ble_eq_true rfl⟩) hl.1 [12, 13, 14, 6, 7, 8] [0, 1, 2, 3, 4, 5, 9, 10, 11, 15, 16, 17, 18, 19, 20, 21, 22, 23, 24, 25, 26, 27, 28, 29, 30, 31, 32, 33, 34, 35, 36, 37, 38] ⟨rfl, rfl, by decide, by decide, by decide⟩ 0 rfl rfl rfl (Nat.le_of_ble_eq_true rfl) d_D_turn_58 (fun u_58 H locs hz_58 w => ?_)
      subst hz_58
      have w : Wd X (dcore cI cO cZ o h sl us pd co q q2 q3 hf rcd sf uf T m ++ sw cI q a b sg ln r N ov lc sd ++ sw cI q2 a2 b2 sg_36 ln_36 r_36 pl_36 ov_36 lc sd ++ sw cI q3 a3 b3 sg3 ln3 0 0 0 lc sd ++ hst cI st) H locs := w.sub [0, 1, 2, 3, 4, 5, 36, 37, 38, 6, 7, 8, 33, 34, 35, 9, 10, 11, 12, 13, 14, 15, 16, 17, 18, 19, 20, 21, 22, 23, 24, 25, 26, 27, 28, 29, 30, 31, 32] rfl (by decide)
      refine r_aload_n (pc := 61) C d_D_turn_61 rfl (lv_at hl 1 rfl) ?_
      refine r_get (pc := 62) (v := .ref q3) C w i_D rfl 0 rfl 2 (by decide) fl_D_19 rfl rfl d_D_turn_62 ?_
      refine r_aload_n (pc := 65) C d_D_turn_65 rfl (lv_at hl 1 rfl) ?_
      refine r_get (pc := 66) (v := .ref q) C w i_D rfl 0 rfl 0 (by decide) fl_D_10 rfl rfl d_D_turn_66 ?_
      refine r_iload_n (pc := 69) C d_D_turn_69 rfl (lv_at hl 2 rfl) ?_
      refine r_iload_n (pc := 70) C d_D_turn_70 rfl (lv_at hl 0 rfl) ?_
      refine r_iconst (pc := 71) C d_D_turn_71 ?_
      refine r_callVV (pc := 72) (As := [.ref q, .int (iI f), .int (iI (f + k)), .int (iI 1)]) (rest := []) (wr := (dcore cI cO cZ o h sl us pd co q q2 q3 hf rcd sf uf T m ++ sw cI q2 a2 b2 sg_36 ln_36 r_36 pl_36 ov_36 lc sd ++ hst cI st)) C w (c_S_appendTurned hT q3 a3 b3 sg3 ln3 0 0 0 lc sd q a b sg ln r N ov lc sd _ _ (f + k) f 1 _ _ (RV.empty _ _ v) hO (by omega) (by omega) (by omega) (by omega) (by omega)) ml_D_91 im_S_appendTurned se_S_appendTurned ini_S cd_S_appendTurned hd_S_appendTurned rfl (by rw [hRm]; exact ⟨⟨Nat.le_of_ble_eq_true rfl, Nat.le_of_ble_eq_true rfl⟩, Nat.le_of_ble_eq_true rfl, Nat.le_of_ble_eq_true rfl⟩) hl.1 [12, 13, 14, 6, 7, 8] [0, 1, 2, 3, 4, 5, 9, 10, 11, 15, 16, 17, 18, 19, 20, 21, 22, 23, 24, 25, 26, 27, 28, 29, 30, 31, 32, 33, 34, 35, 36, 37, 38] ⟨rfl, rfl, by decide, by decide, by decide⟩ 0 rfl rfl rfl (Nat.le_of_ble_eq_true rfl) d_D_turn_72 (fun u_72 H locs hz_72 w => ?_)
      obtain ⟨sg_72, ln_72, r_72, pl_72, ov_72, rfl, hV_72⟩ := hz_72
      have w : Wd X (dcore cI cO cZ o h sl us pd co q q2 q3 hf rcd sf uf T m ++ sw cI q a b sg ln r N ov lc sd ++ sw cI q2 a2 b2 sg_36 ln_36 r_36 pl_36 ov_36 lc sd ++ sw cI q3 a3 b3 sg_72 ln_72 r_72 pl_72 ov_72 lc sd ++ hst cI st) H locs := w.sub [0, 1, 2, 3, 4, 5, 36, 37, 38, 6, 7, 8, 33, 34, 35, 9, 10, 11, 12, 13, 14, 15, 16, 17, 18, 19, 20, 21, 22, 23, 24, 25, 26, 27, 28, 29, 30, 31, 32] rfl (by decide)
      have hmL := tn_live v (f + k) (f + k - f) (by omega) (by omega)
      rw [show f + k - (f + k - f) = f by omega] at hmL
      have hle := lv_le (u := v) (a := f) (b := f + k) (by omega) (by omega)
      have hrl := turned_rc (w0 := v) (f := f) (e := f + k) hO (by omega) r (by omega) (by omega)
      rw [show r - r = 0 by omega, ps_zero, show max 0 (f + k - max 0 f) = f + k - f by omega] at hrl
      have hfa : fits_ (tn 1 v (f + k) 0 (f + k - f)) (tv 1 v (f + k) 0 v (f + k - f)) := ⟨by omega, by omega⟩
      obtain ⟨-, hpa, hOa⟩ := hV_72.2.1 hfa
      have hra := hOa.rcE
      refine r_aload_n (pc := 75) C d_D_turn_75 rfl (lv_at hl 1 rfl) ?_
      refine r_get (pc := 76) (v := .ref q2) C w i_D rfl 0 rfl 1 (by decide) fl_D_16 rfl rfl d_D_turn_76 ?_
      refine r_aload_n (pc := 79) C d_D_turn_79 rfl (lv_at hl 1 rfl) ?_
      refine r_get (pc := 80) (v := .ref q3) C w i_D rfl 0 rfl 2 (by decide) fl_D_19 rfl rfl d_D_turn_80 ?_
      refine r_aload_n (pc := 83) C d_D_turn_83 rfl (lv_at hl 1 rfl) ?_
      refine r_get (pc := 84) (v := .ref q) C w i_D rfl 0 rfl 0 (by decide) fl_D_10 rfl rfl d_D_turn_84 ?_
      refine r_iload_n (pc := 87) C d_D_turn_87 rfl (lv_at hl 2 rfl) ?_
      refine r_iload_n (pc := 88) C d_D_turn_88 rfl (lv_at hl 0 rfl) ?_
      refine r_callVV (pc := 89) (As := [.ref q3, .ref q, .int (iI f), .int (iI (f + k))]) (rest := []) (wr := (dcore cI cO cZ o h sl us pd co q q2 q3 hf rcd sf uf T m ++ hst cI st)) C w (c_S_appendLiveFrom hT q2 a2 b2 sg_36 ln_36 r_36 pl_36 ov_36 lc sd q3 a3 b3 sg_72 ln_72 r_72 pl_72 ov_72 lc sd q a b sg ln r N ov lc sd _ _ (f + k) f _ _ _ _ hV6 hOa hO (by omega) (by omega) (by omega) (by omega) (by omega) (by omega)) ml_D_95 im_S_appendLiveFrom se_S_appendLiveFrom ini_S cd_S_appendLiveFrom hd_S_appendLiveFrom rfl (by rw [hRm]; exact ⟨⟨Nat.le_of_ble_eq_true rfl, Nat.le_of_ble_eq_true rfl⟩, Nat.le_of_ble_eq_true rfl, Nat.le_of_ble_eq_true rfl⟩) hl.1 [9, 10, 11, 12, 13, 14, 6, 7, 8] [0, 1, 2, 3, 4, 5, 15, 16, 17, 18, 19, 20, 21, 22, 23, 24, 25, 26, 27, 28, 29, 30, 31, 32, 33, 34, 35, 36, 37, 38] ⟨rfl, rfl, by decide, by decide, by decide⟩ 0 rfl rfl rfl (Nat.le_of_ble_eq_true rfl) d_D_turn_89 (fun u_89 H locs hz_89 w => ?_)
      obtain ⟨sg_89, ln_89, r_89, pl_89, ov_89, rfl, hV_89⟩ := hz_89
      have w : Wd X (dcore cI cO cZ o h sl us pd co q q2 q3 hf rcd sf uf T m ++ sw cI q a b sg ln r N ov lc sd ++ sw cI q2 a2 b2 sg_89 ln_89 r_89 pl_89 ov_89 lc sd ++ sw cI q3 a3 b3 sg_72 ln_72 r_72 pl_72 ov_72 lc sd ++ hst cI st) H locs := w.sub [0, 1, 2, 3, 4, 5, 36, 37, 38, 30, 31, 32, 33, 34, 35, 6, 7, 8, 9, 10, 11, 12, 13, 14, 15, 16, 17, 18, 19, 20, 21, 22, 23, 24, 25, 26, 27, 28, 29] rfl (by decide)
      refine r_goto (pc := 92) (tgt := 109) C d_D_turn_92 (by decide) ?_
      have hV8 := hV_89.to (n' := f + k) (u := trn sd v f (f + k)) (by omega) (fun x h1 h2 => by unfold lfm trn; by_cases q : x < f; rw [if_pos q, if_neg (by omega)]; rw [if_neg q, show x - f + f = x by omega, if_pos (⟨by omega, by omega⟩ : f ≤ x ∧ x < f + k), if_pos (by omega : sd = 1)])
      refine r_aload_n (pc := 109) C d_D_turn_109 rfl (lv_at hl 1 rfl) ?_
      refine r_get (pc := 110) (v := .ref q2) C w i_D rfl 0 rfl 1 (by decide) fl_D_16 rfl rfl d_D_turn_110 ?_
      refine r_aload_n (pc := 113) C d_D_turn_113 rfl (lv_at hl 1 rfl) ?_
      refine r_get (pc := 114) (v := .ref q) C w i_D rfl 0 rfl 0 (by decide) fl_D_10 rfl rfl d_D_turn_114 ?_
      refine r_iload_n (pc := 117) C d_D_turn_117 rfl (lv_at hl 0 rfl) ?_
      refine r_aload_n (pc := 118) C d_D_turn_118 rfl (lv_at hl 1 rfl) ?_
      refine r_get (pc := 119) (v := .ref q) C w i_D rfl 0 rfl 0 (by decide) fl_D_10 rfl rfl d_D_turn_119 ?_
      refine r_get (pc := 122) (v := .int (iI N)) C w i_S rfl 6 rfl 3 (by decide) fl_D_62 rfl rfl d_D_turn_122 ?_
      refine r_callVV (pc := 125) (As := [.ref q, .int (iI (f + k)), .int (iI N)]) (rest := []) (wr := (dcore cI cO cZ o h sl us pd co q q2 q3 hf rcd sf uf T m ++ sw cI q3 a3 b3 sg_72 ln_72 r_72 pl_72 ov_72 lc sd ++ hst cI st)) C w (c_S_appendPiece hT q2 a2 b2 sg_89 ln_89 r_89 pl_89 ov_89 lc sd q a b sg ln r N ov lc sd _ _ N (f + k) _ _ hV8 hO (by omega) (by omega) (by omega) (by omega)) ml_D_68 im_S_appendPiece se_S_appendPiece ini_S cd_S_appendPiece hd_S_appendPiece rfl (by rw [hRm]; exact ⟨⟨Nat.le_of_ble_eq_true rfl, Nat.le_of_ble_eq_true rfl⟩, Nat.le_of_ble_eq_true rfl, Nat.le_of_ble_eq_true rfl⟩) hl.1 [9, 10, 11, 6, 7, 8] [0, 1, 2, 3, 4, 5, 12, 13, 14, 15, 16, 17, 18, 19, 20, 21, 22, 23, 24, 25, 26, 27, 28, 29, 30, 31, 32, 33, 34, 35, 36, 37, 38] ⟨rfl, rfl, by decide, by decide, by decide⟩ 0 rfl rfl rfl (Nat.le_of_ble_eq_true rfl) d_D_turn_125 (fun u_125 H locs hz_125 w => ?_)
      obtain ⟨sg_125, ln_125, r_125, pl_125, ov_125, rfl, hV_125⟩ := hz_125
      have w : Wd X (dcore cI cO cZ o h sl us pd co q q2 q3 hf rcd sf uf T m ++ sw cI q a b sg ln r N ov lc sd ++ sw cI q2 a2 b2 sg_125 ln_125 r_125 pl_125 ov_125 lc sd ++ sw cI q3 a3 b3 sg_72 ln_72 r_72 pl_72 ov_72 lc sd ++ hst cI st) H locs := w.sub [0, 1, 2, 3, 4, 5, 36, 37, 38, 33, 34, 35, 6, 7, 8, 9, 10, 11, 12, 13, 14, 15, 16, 17, 18, 19, 20, 21, 22, 23, 24, 25, 26, 27, 28, 29, 30, 31, 32] rfl (by decide)
      have hV9 := hV_125.to (n' := N) (u := trn sd v f (f + k)) (by omega) (fun x h1 h2 => by by_cases q : x < f + k; rw [cat_lt q]; rw [cat_ge (by omega)]; unfold trn; rw [if_neg (by omega)]; congr 1; omega)
      refine r_aload_n (pc := 128) C d_D_turn_128 rfl (lv_at hl 1 rfl) ?_
      refine r_aload_n (pc := 129) C d_D_turn_129 rfl (lv_at hl 1 rfl) ?_
      refine r_get (pc := 130) (v := .ref q2) C w i_D rfl 0 rfl 1 (by decide) fl_D_16 rfl rfl d_D_turn_130 ?_
      refine r_get (pc := 133) (v := .int (iI r_125)) C w i_S rfl 9 rfl 2 (by decide) fl_D_99 rfl rfl d_D_turn_133 ?_
      refine r_callVI (pc := 136) (As := [.int (iI r_125)]) (rest := []) (wr := []) C w (c_D_accepted hT o h sl us pd co hf sf rcd m uf T q a b sg ln r N ov lc sd q2 a2 b2 sg_125 ln_125 r_125 pl_125 ov_125 lc sd q3 a3 b3 sg_72 ln_72 r_72 pl_72 ov_72 lc sd st r_125 _ v _ hist slot hR hC hV9 (by omega)) ml_D_55 im_D_accepted se_D_accepted ini_D cd_D_accepted hd_D_accepted rfl (by rw [hRm]; exact ⟨⟨Nat.le_of_ble_eq_true rfl, Nat.le_of_ble_eq_true rfl⟩, Nat.le_of_ble_eq_true rfl, Nat.le_of_ble_eq_true rfl⟩) hl.1 [0, 1, 2, 3, 4, 5, 6, 7, 8, 9, 10, 11, 12, 13, 14, 15, 16, 17, 18, 19, 20, 21, 22, 23, 24, 25, 26, 27, 28, 29, 30, 31, 32, 33, 34, 35, 36, 37, 38] [] ⟨rfl, rfl, by decide, by decide, by decide⟩ 0 rfl rfl rfl (Nat.le_of_ble_eq_true rfl) d_D_turn_136 (fun z_136 u_136 H locs hz_136 w => ?_)
      exact kret _ _ _ _ z_136 _ d_D_turn_139 w (by rcases hz_136 with ⟨f1, f2, rfl⟩ | ⟨f1, f2, A, f3, f4⟩; exact ⟨_, cw_mk hR hC, Or.inr (Or.inl ⟨by unfold pieceE; (repeat' split) <;> omega, f1, f2, rfl⟩)⟩; exact ⟨A, f3, Or.inr (Or.inr ⟨by unfold pieceE; (repeat' split) <;> omega, f1, f2.trans (hV9.2.1 f1).2.2.rcE.symm, f4⟩)⟩)
  · skip
    have hb_6 : ¬ (0 ≤ f ∧ 1 ≤ k ∧ k ≤ N - f) := by omega
    clear hz_3 c_6
    refine r_iconst (pc := 9) C d_D_turn_9 ?_
    exact kret _ _ _ _ (-1) _ d_D_turn_10 w (⟨_, cw_mk hR hC, Or.inl ⟨by unfold pieceE; (repeat' split) <;> omega, by unfold pieceE; (repeat' split) <;> omega, rfl⟩⟩)
def Sp_move (f k to : Int) (A : AS) (z : Int) (A' : AS) : Prop := match A with | ((lc, sd, r, sg, ln, N, v), hist, rcd, slot, uf, T, m) => SpE A z A' (errMv N f k to) (lc) (sd) (N) (mvd v f k to) (rc (mvd v f k to) N)
theorem d_D_move_0 : decode b_D_move 0 = .ok (.aload_n 0, 1) := by decide +kernel
theorem d_D_move_1 : decode b_D_move 1 = .ok (.iload_n 1, 1) := by decide +kernel
theorem d_D_move_2 : decode b_D_move 2 = .ok (.iload_n 2, 1) := by decide +kernel
theorem d_D_move_3 : decode b_D_move 3 = .ok (.invokevirtual 76, 3) := by decide +kernel
theorem d_D_move_6 : decode b_D_move 6 = .ok (.ifCond .ne 5, 3) := by decide +kernel
theorem d_D_move_9 : decode b_D_move 9 = .ok (.iconst (-1), 1) := by decide +kernel
theorem d_D_move_10 : decode b_D_move 10 = .ok (.ireturn, 1) := by decide +kernel
theorem d_D_move_11 : decode b_D_move 11 = .ok (.iload_n 3, 1) := by decide +kernel
theorem d_D_move_12 : decode b_D_move 12 = .ok (.iconst 0, 1) := by decide +kernel
theorem d_D_move_13 : decode b_D_move 13 = .ok (.aload_n 0, 1) := by decide +kernel
theorem d_D_move_14 : decode b_D_move 14 = .ok (.getfield 10, 3) := by decide +kernel
theorem d_D_move_17 : decode b_D_move 17 = .ok (.getfield 62, 3) := by decide +kernel
theorem d_D_move_20 : decode b_D_move 20 = .ok (.iload_n 2, 1) := by decide +kernel
theorem d_D_move_21 : decode b_D_move 21 = .ok (.isub, 1) := by decide +kernel
theorem d_D_move_22 : decode b_D_move 22 = .ok (.invokestatic 44, 3) := by decide +kernel
theorem d_D_move_25 : decode b_D_move 25 = .ok (.ifCond .ne 6, 3) := by decide +kernel
theorem d_D_move_28 : decode b_D_move 28 = .ok (.bipush (-2), 2) := by decide +kernel
theorem d_D_move_30 : decode b_D_move 30 = .ok (.ireturn, 1) := by decide +kernel
theorem d_D_move_31 : decode b_D_move 31 = .ok (.aload_n 0, 1) := by decide +kernel
theorem d_D_move_32 : decode b_D_move 32 = .ok (.getfield 19, 3) := by decide +kernel
theorem d_D_move_35 : decode b_D_move 35 = .ok (.aload_n 0, 1) := by decide +kernel
theorem d_D_move_36 : decode b_D_move 36 = .ok (.getfield 10, 3) := by decide +kernel
theorem d_D_move_39 : decode b_D_move 39 = .ok (.invokevirtual 65, 3) := by decide +kernel
theorem d_D_move_42 : decode b_D_move 42 = .ok (.aload_n 0, 1) := by decide +kernel
theorem d_D_move_43 : decode b_D_move 43 = .ok (.getfield 19, 3) := by decide +kernel
theorem d_D_move_46 : decode b_D_move 46 = .ok (.aload_n 0, 1) := by decide +kernel
theorem d_D_move_47 : decode b_D_move 47 = .ok (.getfield 10, 3) := by decide +kernel
theorem d_D_move_50 : decode b_D_move 50 = .ok (.iload_n 1, 1) := by decide +kernel
theorem d_D_move_51 : decode b_D_move 51 = .ok (.iload_n 1, 1) := by decide +kernel
theorem d_D_move_52 : decode b_D_move 52 = .ok (.iload_n 2, 1) := by decide +kernel
theorem d_D_move_53 : decode b_D_move 53 = .ok (.iadd, 1) := by decide +kernel
theorem d_D_move_54 : decode b_D_move 54 = .ok (.invokevirtual 84, 3) := by decide +kernel
theorem d_D_move_57 : decode b_D_move 57 = .ok (.aload_n 0, 1) := by decide +kernel
theorem d_D_move_58 : decode b_D_move 58 = .ok (.getfield 16, 3) := by decide +kernel
theorem d_D_move_61 : decode b_D_move 61 = .ok (.aload_n 0, 1) := by decide +kernel
theorem d_D_move_62 : decode b_D_move 62 = .ok (.getfield 10, 3) := by decide +kernel
theorem d_D_move_65 : decode b_D_move 65 = .ok (.invokevirtual 65, 3) := by decide +kernel
theorem d_D_move_68 : decode b_D_move 68 = .ok (.aload_n 0, 1) := by decide +kernel
theorem d_D_move_69 : decode b_D_move 69 = .ok (.getfield 16, 3) := by decide +kernel
theorem d_D_move_72 : decode b_D_move 72 = .ok (.aload_n 0, 1) := by decide +kernel
theorem d_D_move_73 : decode b_D_move 73 = .ok (.getfield 19, 3) := by decide +kernel
theorem d_D_move_76 : decode b_D_move 76 = .ok (.iconst 0, 1) := by decide +kernel
theorem d_D_move_77 : decode b_D_move 77 = .ok (.iload_n 3, 1) := by decide +kernel
theorem d_D_move_78 : decode b_D_move 78 = .ok (.invokevirtual 68, 3) := by decide +kernel
theorem d_D_move_81 : decode b_D_move 81 = .ok (.aload_n 0, 1) := by decide +kernel
theorem d_D_move_82 : decode b_D_move 82 = .ok (.getfield 16, 3) := by decide +kernel
theorem d_D_move_85 : decode b_D_move 85 = .ok (.aload_n 0, 1) := by decide +kernel
theorem d_D_move_86 : decode b_D_move 86 = .ok (.getfield 10, 3) := by decide +kernel
theorem d_D_move_89 : decode b_D_move 89 = .ok (.iload_n 1, 1) := by decide +kernel
theorem d_D_move_90 : decode b_D_move 90 = .ok (.iload_n 1, 1) := by decide +kernel
theorem d_D_move_91 : decode b_D_move 91 = .ok (.iload_n 2, 1) := by decide +kernel
theorem d_D_move_92 : decode b_D_move 92 = .ok (.iadd, 1) := by decide +kernel
theorem d_D_move_93 : decode b_D_move 93 = .ok (.invokevirtual 68, 3) := by decide +kernel
theorem d_D_move_96 : decode b_D_move 96 = .ok (.aload_n 0, 1) := by decide +kernel
theorem d_D_move_97 : decode b_D_move 97 = .ok (.getfield 16, 3) := by decide +kernel
theorem d_D_move_100 : decode b_D_move 100 = .ok (.aload_n 0, 1) := by decide +kernel
theorem d_D_move_101 : decode b_D_move 101 = .ok (.getfield 19, 3) := by decide +kernel
theorem d_D_move_104 : decode b_D_move 104 = .ok (.iload_n 3, 1) := by decide +kernel
theorem d_D_move_105 : decode b_D_move 105 = .ok (.aload_n 0, 1) := by decide +kernel
theorem d_D_move_106 : decode b_D_move 106 = .ok (.getfield 19, 3) := by decide +kernel
theorem d_D_move_109 : decode b_D_move 109 = .ok (.getfield 62, 3) := by decide +kernel
theorem d_D_move_112 : decode b_D_move 112 = .ok (.invokevirtual 68, 3) := by decide +kernel
theorem d_D_move_115 : decode b_D_move 115 = .ok (.aload_n 0, 1) := by decide +kernel
theorem d_D_move_116 : decode b_D_move 116 = .ok (.aload_n 0, 1) := by decide +kernel
theorem d_D_move_117 : decode b_D_move 117 = .ok (.getfield 16, 3) := by decide +kernel
theorem d_D_move_120 : decode b_D_move 120 = .ok (.getfield 99, 3) := by decide +kernel
theorem d_D_move_123 : decode b_D_move 123 = .ok (.invokevirtual 55, 3) := by decide +kernel
theorem d_D_move_126 : decode b_D_move 126 = .ok (.ireturn, 1) := by decide +kernel
set_option maxHeartbeats 4000000 in
set_option maxRecDepth 20000 in
theorem c_D_move {l : Launch} {G : va_G} {tys : List (ClassId × FieldType)} {cI cO cZ : ClassId} (hT : TY tys cI cO cZ) (o : Nat) (A : AS) (ws : va_W) (hA : CW cI cO cZ o A ws) (f k to : Int) (hrg : (-2147483648 ≤ f ∧ f < 2147483648) ∧ (-2147483648 ≤ k ∧ k < 2147483648) ∧ (-2147483648 ≤ to ∧ to < 2147483648)) : CTI l G tys y_D_move b_D_move 4 .int 4 90 [.ref o, .int (iI f), .int (iI k), .int (iI to)] ws (fun z u => ∃ A' : AS, CW cI cO cZ o A' u ∧ Sp_move f k to A z A') := by
  obtain ⟨⟨lc, sd, r, sg, ln, N, v⟩, hist, rcd, slot, uf, T, m⟩ := A
  obtain ⟨hR, h, sl, us, pd, co, hf, sf, q, a, b, ov, q2, a2, b2, sg2, ln2, r2, pl2, ov2, lc2, sd2, q3, a3, b3, sg3, ln3, r3, pl3, ov3, lc3, sd3, st, rfl, hC⟩ := hA
  have hO := hR.1
  have hr5 := hR.2.1
  have hN3 := hR.2.2.1
  have hN0 := hO.n0
  have hr0 := hO.1
  have hlcd := hR.2.2.2
  have hm80 := hC.2.2.2.2.2.1
  have hrcd6 := hC.2.2.1
  refine mkI (by decide) (Nat.le_of_ble_eq_true rfl) ?_
  rintro X rfl rfl rfl hRm C kret H ls w hl
  have hl : lv_has ls 4 [(0, .ref o), (1, .int (iI f)), (2, .int (iI k)), (3, .int (iI to))] := hl
  have w : Wd X (dcore cI cO cZ o h sl us pd co q q2 q3 hf rcd sf uf T m ++ sw cI q a b sg ln r N ov lc sd ++ sw cI q2 a2 b2 sg2 ln2 r2 pl2 ov2 lc2 sd2 ++ sw cI q3 a3 b3 sg3 ln3 r3 pl3 ov3 lc3 sd3 ++ hst cI st) H [] := w
  generalize ([] : List Loc) = locs at w ⊢
  refine r_aload_n (pc := 0) C d_D_move_0 rfl (lv_at hl 0 rfl) ?_
  refine r_iload_n (pc := 1) C d_D_move_1 rfl (lv_at hl 1 rfl) ?_
  refine r_iload_n (pc := 2) C d_D_move_2 rfl (lv_at hl 2 rfl) ?_
  refine r_callVI (pc := 3) (As := [.int (iI f), .int (iI k)]) (rest := []) (wr := []) C w (c_D_isPiece hT o h sl us pd co hf sf rcd m uf T q a b sg ln r N ov lc sd q2 a2 b2 sg2 ln2 r2 pl2 ov2 lc2 sd2 q3 a3 b3 sg3 ln3 r3 pl3 ov3 lc3 sd3 st f k (by omega) (by omega)) ml_D_76 im_D_isPiece se_D_isPiece ini_D cd_D_isPiece hd_D_isPiece rfl (by rw [hRm]; exact ⟨⟨Nat.le_of_ble_eq_true rfl, Nat.le_of_ble_eq_true rfl⟩, Nat.le_of_ble_eq_true rfl, Nat.le_of_ble_eq_true rfl⟩) hl.1 [0, 1, 2, 3, 4, 5, 6, 7, 8, 9, 10, 11, 12, 13, 14, 15, 16, 17, 18, 19, 20, 21, 22, 23, 24, 25, 26, 27, 28, 29, 30, 31, 32, 33, 34, 35, 36, 37, 38] [] ⟨rfl, rfl, by decide, by decide, by decide⟩ 0 rfl rfl rfl (Nat.le_of_ble_eq_true rfl) d_D_move_3 (fun z_3 u_3 H locs hz_3 w => ?_)
  obtain ⟨rfl, hz_3⟩ := hz_3
  have w : Wd X (dcore cI cO cZ o h sl us pd co q q2 q3 hf rcd sf uf T m ++ sw cI q a b sg ln r N ov lc sd ++ sw cI q2 a2 b2 sg2 ln2 r2 pl2 ov2 lc2 sd2 ++ sw cI q3 a3 b3 sg3 ln3 r3 pl3 ov3 lc3 sd3 ++ hst cI st) H locs := w
  refine r_if_ne (pc := 6) (tgt := 11) C (by omega) d_D_move_6 (by decide) (fun c_6 => ?_) (fun c_6 => ?_)
  · skip
    have hb_6 : 0 ≤ f ∧ 1 ≤ k ∧ k ≤ N - f := by omega
    clear hz_3 c_6
    refine r_iload_n (pc := 11) C d_D_move_11 rfl (lv_at hl 3 rfl) ?_
    refine r_iconst (pc := 12) C d_D_move_12 ?_
    refine r_aload_n (pc := 13) C d_D_move_13 rfl (lv_at hl 0 rfl) ?_
    refine r_get (pc := 14) (v := .ref q) C w i_D rfl 0 rfl 0 (by decide) fl_D_10 rfl rfl d_D_move_14 ?_
    refine r_get (pc := 17) (v := .int (iI N)) C w i_S rfl 6 rfl 3 (by decide) fl_D_62 rfl rfl d_D_move_17 ?_
    refine r_iload_n (pc := 20) C d_D_move_20 rfl (lv_at hl 2 rfl) ?_
    refine r_isub (pc := 21) C d_D_move_21 ?_
    refine r_callP (pc := 22) (As := [.int (iI to), .int (iI 0), .int (iI (N - k))]) (rest := []) C w (c_D_isWithin to 0 (N - k) (by omega)) ml_D_44 st_D_isWithin ini_D cd_D_isWithin hd_D_isWithin rfl (by rw [hRm]; exact ⟨⟨Nat.le_of_ble_eq_true rfl, Nat.le_of_ble_eq_true rfl⟩, Nat.le_of_ble_eq_true rfl, Nat.le_of_ble_eq_true rfl⟩) hl.1 rfl (Nat.le_of_ble_eq_true rfl) d_D_move_22 (fun z_22 H locs hz_22 w => ?_)
    refine r_if_ne (pc := 25) (tgt := 31) C (by omega) d_D_move_25 (by decide) (fun c_25 => ?_) (fun c_25 => ?_)
    · skip
      have hb_25 : 0 ≤ to ∧ to ≤ (N - k) := by omega
      clear hz_22 c_25
      refine r_aload_n (pc := 31) C d_D_move_31 rfl (lv_at hl 0 rfl) ?_
      refine r_get (pc := 32) (v := .ref q3) C w i_D rfl 0 rfl 2 (by decide) fl_D_19 rfl rfl d_D_move_32 ?_
      refine r_aload_n (pc := 35) C d_D_move_35 rfl (lv_at hl 0 rfl) ?_
      refine r_get (pc := 36) (v := .ref q) C w i_D rfl 0 rfl 0 (by decide) fl_D_10 rfl rfl d_D_move_36 ?_
      refine r_callVV (pc := 39) (As := [.ref q]) (rest := []) (wr := (dcore cI cO cZ o h sl us pd co q q2 q3 hf rcd sf uf T m ++ sw cI q2 a2 b2 sg2 ln2 r2 pl2 ov2 lc2 sd2 ++ hst cI st)) C w (c_S_startLike hT q3 a3 b3 sg3 ln3 r3 pl3 ov3 lc3 sd3 q a b sg ln r N ov lc sd) ml_D_65 im_S_startLike se_S_startLike ini_S cd_S_startLike hd_S_startLike rfl (by rw [hRm]; exact ⟨⟨Nat.le_of_ble_eq_true rfl, Nat.le_of_ble_eq_true rfl⟩, Nat.le_of_ble_eq_true rfl, Nat.le_of_ble_eq_true rfl⟩) hl.1 [12, 13, 14, 6, 7, 8] [0, 1, 2, 3, 4, 5, 9, 10, 11, 15, 16, 17, 18, 19, 20, 21, 22, 23, 24, 25, 26, 27, 28, 29, 30, 31, 32, 33, 34, 35, 36, 37, 38] ⟨rfl, rfl, by decide, by decide, by decide⟩ 0 rfl rfl rfl (Nat.le_of_ble_eq_true rfl) d_D_move_39 (fun u_39 H locs hz_39 w => ?_)
      subst hz_39
      have w : Wd X (dcore cI cO cZ o h sl us pd co q q2 q3 hf rcd sf uf T m ++ sw cI q a b sg ln r N ov lc sd ++ sw cI q2 a2 b2 sg2 ln2 r2 pl2 ov2 lc2 sd2 ++ sw cI q3 a3 b3 sg3 ln3 0 0 0 lc sd ++ hst cI st) H locs := w.sub [0, 1, 2, 3, 4, 5, 36, 37, 38, 6, 7, 8, 33, 34, 35, 9, 10, 11, 12, 13, 14, 15, 16, 17, 18, 19, 20, 21, 22, 23, 24, 25, 26, 27, 28, 29, 30, 31, 32] rfl (by decide)
      refine r_aload_n (pc := 42) C d_D_move_42 rfl (lv_at hl 0 rfl) ?_
      refine r_get (pc := 43) (v := .ref q3) C w i_D rfl 0 rfl 2 (by decide) fl_D_19 rfl rfl d_D_move_43 ?_
      refine r_aload_n (pc := 46) C d_D_move_46 rfl (lv_at hl 0 rfl) ?_
      refine r_get (pc := 47) (v := .ref q) C w i_D rfl 0 rfl 0 (by decide) fl_D_10 rfl rfl d_D_move_47 ?_
      refine r_iload_n (pc := 50) C d_D_move_50 rfl (lv_at hl 1 rfl) ?_
      refine r_iload_n (pc := 51) C d_D_move_51 rfl (lv_at hl 1 rfl) ?_
      refine r_iload_n (pc := 52) C d_D_move_52 rfl (lv_at hl 2 rfl) ?_
      refine r_iadd (pc := 53) C d_D_move_53 ?_
      refine r_callVV (pc := 54) (As := [.ref q, .int (iI f), .int (iI (f + k))]) (rest := []) (wr := (dcore cI cO cZ o h sl us pd co q q2 q3 hf rcd sf uf T m ++ sw cI q2 a2 b2 sg2 ln2 r2 pl2 ov2 lc2 sd2 ++ hst cI st)) C w (c_S_appendAllBut hT q3 a3 b3 sg3 ln3 0 0 0 lc sd q a b sg ln r N ov lc sd _ _ (f + k) f _ _ (RV.empty _ _ v) hO (by omega) (by omega) (by omega) (by omega) (by omega)) ml_D_84 im_S_appendAllBut se_S_appendAllBut ini_S cd_S_appendAllBut hd_S_appendAllBut rfl (by rw [hRm]; exact ⟨⟨Nat.le_of_ble_eq_true rfl, Nat.le_of_ble_eq_true rfl⟩, Nat.le_of_ble_eq_true rfl, Nat.le_of_ble_eq_true rfl⟩) hl.1 [12, 13, 14, 6, 7, 8] [0, 1, 2, 3, 4, 5, 9, 10, 11, 15, 16, 17, 18, 19, 20, 21, 22, 23, 24, 25, 26, 27, 28, 29, 30, 31, 32, 33, 34, 35, 36, 37, 38] ⟨rfl, rfl, by decide, by decide, by decide⟩ 0 rfl rfl rfl (Nat.le_of_ble_eq_true rfl) d_D_move_54 (fun u_54 H locs hz_54 w => ?_)
      obtain ⟨sg_54, ln_54, r_54, pl_54, ov_54, rfl, hV_54⟩ := hz_54
      have w : Wd X (dcore cI cO cZ o h sl us pd co q q2 q3 hf rcd sf uf T m ++ sw cI q a b sg ln r N ov lc sd ++ sw cI q2 a2 b2 sg2 ln2 r2 pl2 ov2 lc2 sd2 ++ sw cI q3 a3 b3 sg_54 ln_54 r_54 pl_54 ov_54 lc sd ++ hst cI st) H locs := w.sub [0, 1, 2, 3, 4, 5, 36, 37, 38, 6, 7, 8, 33, 34, 35, 9, 10, 11, 12, 13, 14, 15, 16, 17, 18, 19, 20, 21, 22, 23, 24, 25, 26, 27, 28, 29, 30, 31, 32] rfl (by decide)
      have hVa := hV_54.to (n' := N - k) (u := del v f k) (by omega) (fun x h1 h2 => by unfold del; by_cases q : x < f; rw [cat_lt (by omega), cat_ge (by omega), if_pos q]; congr 1; omega; rw [cat_ge (by omega), if_neg q]; congr 1; omega)
      have hrd := rc_del (v := v) (f := f) (k := k) (N := N) (by omega) (by omega) (by omega)
      have hrE := hO.rcE
      obtain ⟨-, hpa, hOa⟩ := hVa.2.1 ⟨by omega, by omega⟩
      have hra := hOa.rcE
      refine r_aload_n (pc := 57) C d_D_move_57 rfl (lv_at hl 0 rfl) ?_
      refine r_get (pc := 58) (v := .ref q2) C w i_D rfl 0 rfl 1 (by decide) fl_D_16 rfl rfl d_D_move_58 ?_
      refine r_aload_n (pc := 61) C d_D_move_61 rfl (lv_at hl 0 rfl) ?_
      refine r_get (pc := 62) (v := .ref q) C w i_D rfl 0 rfl 0 (by decide) fl_D_10 rfl rfl d_D_move_62 ?_
      refine r_callVV (pc := 65) (As := [.ref q]) (rest := []) (wr := (dcore cI cO cZ o h sl us pd co q q2 q3 hf rcd sf uf T m ++ sw cI q3 a3 b3 sg_54 ln_54 r_54 pl_54 ov_54 lc sd ++ hst cI st)) C w (c_S_startLike hT q2 a2 b2 sg2 ln2 r2 pl2 ov2 lc2 sd2 q a b sg ln r N ov lc sd) ml_D_65 im_S_startLike se_S_startLike ini_S cd_S_startLike hd_S_startLike rfl (by rw [hRm]; exact ⟨⟨Nat.le_of_ble_eq_true rfl, Nat.le_of_ble_eq_true rfl⟩, Nat.le_of_ble_eq_true rfl, Nat.le_of_ble_eq_true rfl⟩) hl.1 [9, 10, 11, 6, 7, 8] [0, 1, 2, 3, 4, 5, 12, 13, 14, 15, 16, 17, 18, 19, 20, 21, 22, 23, 24, 25, 26, 27, 28, 29, 30, 31, 32, 33, 34, 35, 36, 37, 38] ⟨rfl, rfl, by decide, by decide, by decide⟩ 0 rfl rfl rfl (Nat.le_of_ble_eq_true rfl) d_D_move_65 (fun u_65 H locs hz_65 w => ?_)
      subst hz_65
      have w : Wd X (dcore cI cO cZ o h sl us pd co q q2 q3 hf rcd sf uf T m ++ sw cI q a b sg ln r N ov lc sd ++ sw cI q2 a2 b2 sg2 ln2 0 0 0 lc sd ++ sw cI q3 a3 b3 sg_54 ln_54 r_54 pl_54 ov_54 lc sd ++ hst cI st) H locs := w.sub [0, 1, 2, 3, 4, 5, 36, 37, 38, 33, 34, 35, 6, 7, 8, 9, 10, 11, 12, 13, 14, 15, 16, 17, 18, 19, 20, 21, 22, 23, 24, 25, 26, 27, 28, 29, 30, 31, 32] rfl (by decide)
      refine r_aload_n (pc := 68) C d_D_move_68 rfl (lv_at hl 0 rfl) ?_
      refine r_get (pc := 69) (v := .ref q2) C w i_D rfl 0 rfl 1 (by decide) fl_D_16 rfl rfl d_D_move_69 ?_
      refine r_aload_n (pc := 72) C d_D_move_72 rfl (lv_at hl 0 rfl) ?_
      refine r_get (pc := 73) (v := .ref q3) C w i_D rfl 0 rfl 2 (by decide) fl_D_19 rfl rfl d_D_move_73 ?_
      refine r_iconst (pc := 76) C d_D_move_76 ?_
      refine r_iload_n (pc := 77) C d_D_move_77 rfl (lv_at hl 3 rfl) ?_
      refine r_callVV (pc := 78) (As := [.ref q3, .int (iI 0), .int (iI to)]) (rest := []) (wr := (dcore cI cO cZ o h sl us pd co q q2 q3 hf rcd sf uf T m ++ sw cI q a b sg ln r N ov lc sd ++ hst cI st)) C w (c_S_appendPiece hT q2 a2 b2 sg2 ln2 0 0 0 lc sd q3 a3 b3 sg_54 ln_54 r_54 pl_54 ov_54 lc sd _ _ to 0 _ _ (RV.empty _ _ v) hOa (by omega) (by omega) (by omega) (by omega)) ml_D_68 im_S_appendPiece se_S_appendPiece ini_S cd_S_appendPiece hd_S_appendPiece rfl (by rw [hRm]; exact ⟨⟨Nat.le_of_ble_eq_true rfl, Nat.le_of_ble_eq_true rfl⟩, Nat.le_of_ble_eq_true rfl, Nat.le_of_ble_eq_true rfl⟩) hl.1 [9, 10, 11, 12, 13, 14] [0, 1, 2, 3, 4, 5, 6, 7, 8, 15, 16, 17, 18, 19, 20, 21, 22, 23, 24, 25, 26, 27, 28, 29, 30, 31, 32, 33, 34, 35, 36, 37, 38] ⟨rfl, rfl, by decide, by decide, by decide⟩ 0 rfl rfl rfl (Nat.le_of_ble_eq_true rfl) d_D_move_78 (fun u_78 H locs hz_78 w => ?_)
      obtain ⟨sg_78, ln_78, r_78, pl_78, ov_78, rfl, hV_78⟩ := hz_78
      have w : Wd X (dcore cI cO cZ o h sl us pd co q q2 q3 hf rcd sf uf T m ++ sw cI q a b sg ln r N ov lc sd ++ sw cI q2 a2 b2 sg_78 ln_78 r_78 pl_78 ov_78 lc sd ++ sw cI q3 a3 b3 sg_54 ln_54 r_54 pl_54 ov_54 lc sd ++ hst cI st) H locs := w.sub [0, 1, 2, 3, 4, 5, 6, 7, 8, 33, 34, 35, 36, 37, 38, 9, 10, 11, 12, 13, 14, 15, 16, 17, 18, 19, 20, 21, 22, 23, 24, 25, 26, 27, 28, 29, 30, 31, 32] rfl (by decide)
      have hV7 := hV_78.to (n' := to) (u := del v f k) (by omega) (fun x h1 h2 => by rw [cat_ge (by omega)]; congr 1; omega)
      refine r_aload_n (pc := 81) C d_D_move_81 rfl (lv_at hl 0 rfl) ?_
      refine r_get (pc := 82) (v := .ref q2) C w i_D rfl 0 rfl 1 (by decide) fl_D_16 rfl rfl d_D_move_82 ?_
      refine r_aload_n (pc := 85) C d_D_move_85 rfl (lv_at hl 0 rfl) ?_
      refine r_get (pc := 86) (v := .ref q) C w i_D rfl 0 rfl 0 (by decide) fl_D_10 rfl rfl d_D_move_86 ?_
      refine r_iload_n (pc := 89) C d_D_move_89 rfl (lv_at hl 1 rfl) ?_
      refine r_iload_n (pc := 90) C d_D_move_90 rfl (lv_at hl 1 rfl) ?_
      refine r_iload_n (pc := 91) C d_D_move_91 rfl (lv_at hl 2 rfl) ?_
      refine r_iadd (pc := 92) C d_D_move_92 ?_
      refine r_callVV (pc := 93) (As := [.ref q, .int (iI f), .int (iI (f + k))]) (rest := []) (wr := (dcore cI cO cZ o h sl us pd co q q2 q3 hf rcd sf uf T m ++ sw cI q3 a3 b3 sg_54 ln_54 r_54 pl_54 ov_54 lc sd ++ hst cI st)) C w (c_S_appendPiece hT q2 a2 b2 sg_78 ln_78 r_78 pl_78 ov_78 lc sd q a b sg ln r N ov lc sd _ _ (f + k) f _ _ hV7 hO (by omega) (by omega) (by omega) (by omega)) ml_D_68 im_S_appendPiece se_S_appendPiece ini_S cd_S_appendPiece hd_S_appendPiece rfl (by rw [hRm]; exact ⟨⟨Nat.le_of_ble_eq_true rfl, Nat.le_of_ble_eq_true rfl⟩, Nat.le_of_ble_eq_true rfl, Nat.le_of_ble_eq_true rfl⟩) hl.1 [9, 10, 11, 6, 7, 8] [0, 1, 2, 3, 4, 5, 12, 13, 14, 15, 16, 17, 18, 19, 20, 21, 22, 23, 24, 25, 26, 27, 28, 29, 30, 31, 32, 33, 34, 35, 36, 37, 38] ⟨rfl, rfl, by decide, by decide, by decide⟩ 0 rfl rfl rfl (Nat.le_of_ble_eq_true rfl) d_D_move_93 (fun u_93 H locs hz_93 w => ?_)
      obtain ⟨sg_93, ln_93, r_93, pl_93, ov_93, rfl, hV_93⟩ := hz_93
      have w : Wd X (dcore cI cO cZ o h sl us pd co q q2 q3 hf rcd sf uf T m ++ sw cI q a b sg ln r N ov lc sd ++ sw cI q2 a2 b2 sg_93 ln_93 r_93 pl_93 ov_93 lc sd ++ sw cI q3 a3 b3 sg_54 ln_54 r_54 pl_54 ov_54 lc sd ++ hst cI st) H locs := w.sub [0, 1, 2, 3, 4, 5, 36, 37, 38, 33, 34, 35, 6, 7, 8, 9, 10, 11, 12, 13, 14, 15, 16, 17, 18, 19, 20, 21, 22, 23, 24, 25, 26, 27, 28, 29, 30, 31, 32] rfl (by decide)
      have hV8 := hV_93.to (n' := to + k) (by omega) (fun _ _ _ => rfl)
      refine r_aload_n (pc := 96) C d_D_move_96 rfl (lv_at hl 0 rfl) ?_
      refine r_get (pc := 97) (v := .ref q2) C w i_D rfl 0 rfl 1 (by decide) fl_D_16 rfl rfl d_D_move_97 ?_
      refine r_aload_n (pc := 100) C d_D_move_100 rfl (lv_at hl 0 rfl) ?_
      refine r_get (pc := 101) (v := .ref q3) C w i_D rfl 0 rfl 2 (by decide) fl_D_19 rfl rfl d_D_move_101 ?_
      refine r_iload_n (pc := 104) C d_D_move_104 rfl (lv_at hl 3 rfl) ?_
      refine r_aload_n (pc := 105) C d_D_move_105 rfl (lv_at hl 0 rfl) ?_
      refine r_get (pc := 106) (v := .ref q3) C w i_D rfl 0 rfl 2 (by decide) fl_D_19 rfl rfl d_D_move_106 ?_
      refine r_get (pc := 109) (v := .int (iI pl_54)) C w i_S rfl 12 rfl 3 (by decide) fl_D_62 rfl rfl d_D_move_109 ?_
      refine r_callVV (pc := 112) (As := [.ref q3, .int (iI to), .int (iI pl_54)]) (rest := []) (wr := (dcore cI cO cZ o h sl us pd co q q2 q3 hf rcd sf uf T m ++ sw cI q a b sg ln r N ov lc sd ++ hst cI st)) C w (c_S_appendPiece hT q2 a2 b2 sg_93 ln_93 r_93 pl_93 ov_93 lc sd q3 a3 b3 sg_54 ln_54 r_54 pl_54 ov_54 lc sd _ _ pl_54 to _ _ hV8 hOa (by omega) (by omega) (by omega) (by omega)) ml_D_68 im_S_appendPiece se_S_appendPiece ini_S cd_S_appendPiece hd_S_appendPiece rfl (by rw [hRm]; exact ⟨⟨Nat.le_of_ble_eq_true rfl, Nat.le_of_ble_eq_true rfl⟩, Nat.le_of_ble_eq_true rfl, Nat.le_of_ble_eq_true rfl⟩) hl.1 [9, 10, 11, 12, 13, 14] [0, 1, 2, 3, 4, 5, 6, 7, 8, 15, 16, 17, 18, 19, 20, 21, 22, 23, 24, 25, 26, 27, 28, 29, 30, 31, 32, 33, 34, 35, 36, 37, 38] ⟨rfl, rfl, by decide, by decide, by decide⟩ 0 rfl rfl rfl (Nat.le_of_ble_eq_true rfl) d_D_move_112 (fun u_112 H locs hz_112 w => ?_)
      obtain ⟨sg_112, ln_112, r_112, pl_112, ov_112, rfl, hV_112⟩ := hz_112
      have w : Wd X (dcore cI cO cZ o h sl us pd co q q2 q3 hf rcd sf uf T m ++ sw cI q a b sg ln r N ov lc sd ++ sw cI q2 a2 b2 sg_112 ln_112 r_112 pl_112 ov_112 lc sd ++ sw cI q3 a3 b3 sg_54 ln_54 r_54 pl_54 ov_54 lc sd ++ hst cI st) H locs := w.sub [0, 1, 2, 3, 4, 5, 6, 7, 8, 33, 34, 35, 36, 37, 38, 9, 10, 11, 12, 13, 14, 15, 16, 17, 18, 19, 20, 21, 22, 23, 24, 25, 26, 27, 28, 29, 30, 31, 32] rfl (by decide)
      have hV9 := hV_112.to (n' := N) (u := mvd v f k to) (by omega) (fun x h1 h2 => by unfold mvd; by_cases q : x < to; rw [cat_lt (by omega), cat_lt q, if_pos q]; rw [if_neg q]; by_cases q2 : x < to + k; rw [cat_lt q2, cat_ge (by omega), if_pos q2]; congr 1; omega; rw [cat_ge (by omega), if_neg q2]; congr 1; omega)
      refine r_aload_n (pc := 115) C d_D_move_115 rfl (lv_at hl 0 rfl) ?_
      refine r_aload_n (pc := 116) C d_D_move_116 rfl (lv_at hl 0 rfl) ?_
      refine r_get (pc := 117) (v := .ref q2) C w i_D rfl 0 rfl 1 (by decide) fl_D_16 rfl rfl d_D_move_117 ?_
      refine r_get (pc := 120) (v := .int (iI r_112)) C w i_S rfl 9 rfl 2 (by decide) fl_D_99 rfl rfl d_D_move_120 ?_
      refine r_callVI (pc := 123) (As := [.int (iI r_112)]) (rest := []) (wr := []) C w (c_D_accepted hT o h sl us pd co hf sf rcd m uf T q a b sg ln r N ov lc sd q2 a2 b2 sg_112 ln_112 r_112 pl_112 ov_112 lc sd q3 a3 b3 sg_54 ln_54 r_54 pl_54 ov_54 lc sd st r_112 _ v _ hist slot hR hC hV9 (by omega)) ml_D_55 im_D_accepted se_D_accepted ini_D cd_D_accepted hd_D_accepted rfl (by rw [hRm]; exact ⟨⟨Nat.le_of_ble_eq_true rfl, Nat.le_of_ble_eq_true rfl⟩, Nat.le_of_ble_eq_true rfl, Nat.le_of_ble_eq_true rfl⟩) hl.1 [0, 1, 2, 3, 4, 5, 6, 7, 8, 9, 10, 11, 12, 13, 14, 15, 16, 17, 18, 19, 20, 21, 22, 23, 24, 25, 26, 27, 28, 29, 30, 31, 32, 33, 34, 35, 36, 37, 38] [] ⟨rfl, rfl, by decide, by decide, by decide⟩ 0 rfl rfl rfl (Nat.le_of_ble_eq_true rfl) d_D_move_123 (fun z_123 u_123 H locs hz_123 w => ?_)
      exact kret _ _ _ _ z_123 _ d_D_move_126 w (by rcases hz_123 with ⟨f1, f2, rfl⟩ | ⟨f1, f2, A, f3, f4⟩; exact ⟨_, cw_mk hR hC, Or.inr (Or.inl ⟨by unfold errMv; (repeat' split) <;> omega, f1, f2, rfl⟩)⟩; exact ⟨A, f3, Or.inr (Or.inr ⟨by unfold errMv; (repeat' split) <;> omega, f1, f2.trans (hV9.2.1 f1).2.2.rcE.symm, f4⟩)⟩)
    · skip
      have hb_25 : ¬ (0 ≤ to ∧ to ≤ (N - k)) := by omega
      clear hz_22 c_25
      refine r_bipush (pc := 28) C d_D_move_28 (by decide) ?_
      exact kret _ _ _ _ (-2) _ d_D_move_30 w (⟨_, cw_mk hR hC, Or.inl ⟨by unfold errMv; (repeat' split) <;> omega, by unfold errMv; (repeat' split) <;> omega, rfl⟩⟩)
  · skip
    have hb_6 : ¬ (0 ≤ f ∧ 1 ≤ k ∧ k ≤ N - f) := by omega
    clear hz_3 c_6
    refine r_iconst (pc := 9) C d_D_move_9 ?_
    exact kret _ _ _ _ (-1) _ d_D_move_10 w (⟨_, cw_mk hR hC, Or.inl ⟨by unfold errMv; (repeat' split) <;> omega, by unfold errMv; (repeat' split) <;> omega, rfl⟩⟩)
theorem undo_cw {cI cO cZ : ClassId} {o h sl us pd co : Nat} {hf sf : Int → Nat} {rcd m : Int} {uf T : Int → Int} {q a b : Nat} {sg ln : Int → Int} {r N ov lc sd : Int} {q2 a2 b2 : Nat} {sg2 ln2 : Int → Int} {r2 pl2 ov2 lc2 sd2 : Int} {q3 a3 b3 : Nat} {sg3 ln3 : Int → Int} {r3 pl3 ov3 lc3 sd3 : Int} {st : Int → SD} {hist slot : Int → Rw} (hC : DC hf sf st hist rcd slot uf T m) (h1 : 1 ≤ rcd) :
    CW cI cO cZ o (hist (rcd - 1), hist, rcd - 1, slot, uf, T, m) (dcore cI cO cZ o h sl us pd co (st (rcd - 1)).1 q2 q3 (up hf (rcd - 1) q) (rcd - 1) sf uf T m ++ swd cI (st (rcd - 1)) ++ sw cI q2 a2 b2 sg2 ln2 r2 pl2 ov2 lc2 sd2 ++ sw cI q3 a3 b3 sg3 ln3 r3 pl3 ov3 lc3 sd3 ++ hst cI (up st (rcd - 1) (q, a, b, sg, ln, r, N, ov, lc, sd))) := by
  obtain ⟨d1, d2, d3, d4, d5, d6, d7⟩ := hC
  have hs := d4 (rcd - 1) (by omega) (by omega)
  have hDC : DC (up hf (rcd - 1) q) sf (up st (rcd - 1) (q, a, b, sg, ln, r, N, ov, lc, sd)) hist (rcd - 1) slot uf T m := by
    refine ⟨fun i i1 i2 => ?_, fun i i1 i2 => ?_, by omega, fun i i1 i2 => ?_, fun i i1 i2 => ?_, d6, d7⟩
    · by_cases e : i = rcd - 1
      · subst e; rw [up_eq, up_eq]
      · rw [up_ne _ _ e, up_ne _ _ e]; exact d1 i i1 i2
    · rw [up_ne _ _ (by omega)]; exact d2 i i1 i2
    · rw [up_ne _ _ (by omega)]; exact d4 i i1 (by omega)
    · rw [up_ne _ _ (by omega)]; exact d5 i i1 i2
  generalize hist (rcd - 1) = w at hs
  generalize st (rcd - 1) = d at hs
  obtain ⟨lc', sd', r', sg', ln', N', v'⟩ := w
  obtain ⟨q', a', b', sg'', ln'', r'', pl'', ov'', lc'', sd''⟩ := d
  obtain ⟨e1, e2, e3, e4, e5, e6, hR⟩ := hs
  subst e1 e2 e3 e4 e5 e6
  exact cw_mk hR hDC
def Sp_undo (A : AS) (z : Int) (A' : AS) : Prop := match A with | ((lc, sd, r, sg, ln, N, v), hist, rcd, slot, uf, T, m) => (rcd = 0 ∧ z = -5 ∧ A' = A) ∨ (1 ≤ rcd ∧ z = rcd - 1 ∧ A' = (hist (rcd - 1), hist, rcd - 1, slot, uf, T, m))
theorem d_D_undo_0 : decode b_D_undo 0 = .ok (.aload_n 0, 1) := by decide +kernel
theorem d_D_undo_1 : decode b_D_undo 1 = .ok (.getfield 26, 3) := by decide +kernel
theorem d_D_undo_4 : decode b_D_undo 4 = .ok (.iconst 1, 1) := by decide +kernel
theorem d_D_undo_5 : decode b_D_undo 5 = .ok (.bipush 6, 2) := by decide +kernel
theorem d_D_undo_7 : decode b_D_undo 7 = .ok (.invokestatic 44, 3) := by decide +kernel
theorem d_D_undo_10 : decode b_D_undo 10 = .ok (.ifCond .ne 6, 3) := by decide +kernel
theorem d_D_undo_13 : decode b_D_undo 13 = .ok (.bipush (-5), 2) := by decide +kernel
theorem d_D_undo_15 : decode b_D_undo 15 = .ok (.ireturn, 1) := by decide +kernel
theorem d_D_undo_16 : decode b_D_undo 16 = .ok (.aload_n 0, 1) := by decide +kernel
theorem d_D_undo_17 : decode b_D_undo 17 = .ok (.dup, 1) := by decide +kernel
theorem d_D_undo_18 : decode b_D_undo 18 = .ok (.getfield 26, 3) := by decide +kernel
theorem d_D_undo_21 : decode b_D_undo 21 = .ok (.iconst 1, 1) := by decide +kernel
theorem d_D_undo_22 : decode b_D_undo 22 = .ok (.isub, 1) := by decide +kernel
theorem d_D_undo_23 : decode b_D_undo 23 = .ok (.putfield 26, 3) := by decide +kernel
theorem d_D_undo_26 : decode b_D_undo 26 = .ok (.aload_n 0, 1) := by decide +kernel
theorem d_D_undo_27 : decode b_D_undo 27 = .ok (.getfield 10, 3) := by decide +kernel
theorem d_D_undo_30 : decode b_D_undo 30 = .ok (.astore_n 1, 1) := by decide +kernel
theorem d_D_undo_31 : decode b_D_undo 31 = .ok (.aload_n 0, 1) := by decide +kernel
theorem d_D_undo_32 : decode b_D_undo 32 = .ok (.aload_n 0, 1) := by decide +kernel
theorem d_D_undo_33 : decode b_D_undo 33 = .ok (.getfield 22, 3) := by decide +kernel
theorem d_D_undo_36 : decode b_D_undo 36 = .ok (.aload_n 0, 1) := by decide +kernel
theorem d_D_undo_37 : decode b_D_undo 37 = .ok (.getfield 26, 3) := by decide +kernel
theorem d_D_undo_40 : decode b_D_undo 40 = .ok (.aaload, 1) := by decide +kernel
theorem d_D_undo_41 : decode b_D_undo 41 = .ok (.putfield 10, 3) := by decide +kernel
theorem d_D_undo_44 : decode b_D_undo 44 = .ok (.aload_n 0, 1) := by decide +kernel
theorem d_D_undo_45 : decode b_D_undo 45 = .ok (.getfield 22, 3) := by decide +kernel
theorem d_D_undo_48 : decode b_D_undo 48 = .ok (.aload_n 0, 1) := by decide +kernel
theorem d_D_undo_49 : decode b_D_undo 49 = .ok (.getfield 26, 3) := by decide +kernel
theorem d_D_undo_52 : decode b_D_undo 52 = .ok (.aload_n 1, 1) := by decide +kernel
theorem d_D_undo_53 : decode b_D_undo 53 = .ok (.aastore, 1) := by decide +kernel
theorem d_D_undo_54 : decode b_D_undo 54 = .ok (.aload_n 0, 1) := by decide +kernel
theorem d_D_undo_55 : decode b_D_undo 55 = .ok (.getfield 26, 3) := by decide +kernel
theorem d_D_undo_58 : decode b_D_undo 58 = .ok (.ireturn, 1) := by decide +kernel
set_option maxHeartbeats 4000000 in
set_option maxRecDepth 20000 in
theorem c_D_undo {l : Launch} {G : va_G} {tys : List (ClassId × FieldType)} {cI cO cZ : ClassId} (hT : TY tys cI cO cZ) (o : Nat) (A : AS) (ws : va_W) (hA : CW cI cO cZ o A ws) : CTI l G tys y_D_undo b_D_undo 2 .int 1 22 [.ref o] ws (fun z u => ∃ A' : AS, CW cI cO cZ o A' u ∧ Sp_undo  A z A') := by
  obtain ⟨⟨lc, sd, r, sg, ln, N, v⟩, hist, rcd, slot, uf, T, m⟩ := A
  obtain ⟨hR, h, sl, us, pd, co, hf, sf, q, a, b, ov, q2, a2, b2, sg2, ln2, r2, pl2, ov2, lc2, sd2, q3, a3, b3, sg3, ln3, r3, pl3, ov3, lc3, sd3, st, rfl, hC⟩ := hA
  have hO := hR.1
  have hr5 := hR.2.1
  have hN3 := hR.2.2.1
  have hN0 := hO.n0
  have hr0 := hO.1
  have hlcd := hR.2.2.2
  have hm80 := hC.2.2.2.2.2.1
  have hrcd6 := hC.2.2.1
  refine mkI (by decide) (Nat.le_of_ble_eq_true rfl) ?_
  rintro X rfl rfl rfl hRm C kret H ls w hl
  have hl : lv_has ls 2 [(0, .ref o)] := hl
  have w : Wd X (dcore cI cO cZ o h sl us pd co q q2 q3 hf rcd sf uf T m ++ sw cI q a b sg ln r N ov lc sd ++ sw cI q2 a2 b2 sg2 ln2 r2 pl2 ov2 lc2 sd2 ++ sw cI q3 a3 b3 sg3 ln3 r3 pl3 ov3 lc3 sd3 ++ hst cI st) H [] := w
  generalize ([] : List Loc) = locs at w ⊢
  have hhf := hC.1
  refine r_aload_n (pc := 0) C d_D_undo_0 rfl (lv_at hl 0 rfl) ?_
  refine r_get (pc := 1) (v := .int (iI rcd)) C w i_D rfl 0 rfl 4 (by decide) fl_D_26 rfl rfl d_D_undo_1 ?_
  refine r_iconst (pc := 4) C d_D_undo_4 ?_
  refine r_bipush (pc := 5) C d_D_undo_5 (by decide) ?_
  refine r_callP (pc := 7) (As := [.int (iI rcd), .int (iI 1), .int (iI 6)]) (rest := []) C w (c_D_isWithin rcd 1 6 (by omega)) ml_D_44 st_D_isWithin ini_D cd_D_isWithin hd_D_isWithin rfl (by rw [hRm]; exact ⟨⟨Nat.le_of_ble_eq_true rfl, Nat.le_of_ble_eq_true rfl⟩, Nat.le_of_ble_eq_true rfl, Nat.le_of_ble_eq_true rfl⟩) hl.1 rfl (Nat.le_of_ble_eq_true rfl) d_D_undo_7 (fun z_7 H locs hz_7 w => ?_)
  refine r_if_ne (pc := 10) (tgt := 16) C (by omega) d_D_undo_10 (by decide) (fun c_10 => ?_) (fun c_10 => ?_)
  · skip
    have hb_10 : 1 ≤ rcd ∧ rcd ≤ 6 := by omega
    clear hz_7 c_10
    refine r_aload_n (pc := 16) C d_D_undo_16 rfl (lv_at hl 0 rfl) ?_
    refine r_dup (pc := 17) C d_D_undo_17 rfl ?_
    refine r_get (pc := 18) (v := .int (iI rcd)) C w i_D rfl 0 rfl 4 (by decide) fl_D_26 rfl rfl d_D_undo_18 ?_
    refine r_iconst (pc := 21) C d_D_undo_21 ?_
    refine r_isub (pc := 22) C d_D_undo_22 ?_
    refine r_put (pc := 23) (ws' := dcore cI cO cZ o h sl us pd co q q2 q3 hf (rcd - 1) sf uf T m ++ sw cI q a b sg ln r N ov lc sd ++ sw cI q2 a2 b2 sg2 ln2 r2 pl2 ov2 lc2 sd2 ++ sw cI q3 a3 b3 sg3 ln3 r3 pl3 ov3 lc3 sd3 ++ hst cI st) C w i_D t_D t_D_ok n_D rfl 0 rfl 4 (by decide) fl_D_26 rfl rfl rfl rfl (Nat.le_of_ble_eq_true rfl) rfl d_D_undo_23 (fun H locs w => ?_)
    refine r_aload_n (pc := 26) C d_D_undo_26 rfl (lv_at hl 0 rfl) ?_
    refine r_get (pc := 27) (v := .ref q) C w i_D rfl 0 rfl 0 (by decide) fl_D_10 rfl rfl d_D_undo_27 ?_
    refine r_astore_n (pc := 30) (lv' := [(1, .ref q), (0, .ref o)]) C d_D_undo_30 rfl hl (by decide) rfl (fun ls hl => ?_)
    refine r_aload_n (pc := 31) C d_D_undo_31 rfl (lv_at hl 1 rfl) ?_
    refine r_aload_n (pc := 32) C d_D_undo_32 rfl (lv_at hl 1 rfl) ?_
    refine r_get (pc := 33) (v := .ref h) C w i_D rfl 0 rfl 3 (by decide) fl_D_22 rfl rfl d_D_undo_33 ?_
    refine r_aload_n (pc := 36) C d_D_undo_36 rfl (lv_at hl 1 rfl) ?_
    refine r_get (pc := 37) (v := .int (iI (rcd - 1))) C w i_D rfl 0 rfl 4 (by decide) fl_D_26 rfl rfl d_D_undo_37 ?_
    refine r_aald (pc := 40) (f := hf) (i := (rcd - 1)) C w 1 1 rfl hT.2.1 (by omega) d_D_undo_40 ?_
    refine r_put (pc := 41) (ws' := dcore cI cO cZ o h sl us pd co (hf (rcd - 1)) q2 q3 hf (rcd - 1) sf uf T m ++ sw cI q a b sg ln r N ov lc sd ++ sw cI q2 a2 b2 sg2 ln2 r2 pl2 ov2 lc2 sd2 ++ sw cI q3 a3 b3 sg3 ln3 r3 pl3 ov3 lc3 sd3 ++ hst cI st) C w i_D t_D t_D_ok n_D rfl 0 rfl 0 (by decide) fl_D_10 rfl rfl rfl rfl (Nat.le_of_ble_eq_true rfl) rfl d_D_undo_41 (fun H locs w => ?_)
    refine r_aload_n (pc := 44) C d_D_undo_44 rfl (lv_at hl 1 rfl) ?_
    refine r_get (pc := 45) (v := .ref h) C w i_D rfl 0 rfl 3 (by decide) fl_D_22 rfl rfl d_D_undo_45 ?_
    refine r_aload_n (pc := 48) C d_D_undo_48 rfl (lv_at hl 1 rfl) ?_
    refine r_get (pc := 49) (v := .int (iI (rcd - 1))) C w i_D rfl 0 rfl 4 (by decide) fl_D_26 rfl rfl d_D_undo_49 ?_
    refine r_aload_n (pc := 52) C d_D_undo_52 rfl (lv_at hl 0 rfl) ?_
    obtain ⟨qk_53, vs_53, hv_53⟩ : ∃ (qk : Nat) (vs : List Value), (dcore cI cO cZ o h sl us pd co (hf (rcd - 1)) q2 q3 hf (rcd - 1) sf uf T m ++ sw cI q a b sg ln r N ov lc sd ++ sw cI q2 a2 b2 sg2 ln2 r2 pl2 ov2 lc2 sd2 ++ sw cI q3 a3 b3 sg3 ln3 r3 pl3 ov3 lc3 sd3 ++ hst cI st)[qk]? = some (q, .inr (1, vs)) := ⟨6, _, rfl⟩
    refine r_aast (pc := 53) (f := hf) (i := (rcd - 1)) (v := q) (r := (R_S, F_S, 7)) (ws' := dcore cI cO cZ o h sl us pd co (hf (rcd - 1)) q2 q3 (up hf (rcd - 1) q) (rcd - 1) sf uf T m ++ sw cI q a b sg ln r N ov lc sd ++ sw cI q2 a2 b2 sg2 ln2 r2 pl2 ov2 lc2 sd2 ++ sw cI q3 a3 b3 sg3 ln3 r3 pl3 ov3 lc3 sd3 ++ hst cI st) C w 1 1 qk_53 1 rfl hT.2.1 hv_53 rfl (by omega) rfl d_D_undo_53 (fun H locs w => ?_)
    have hsp := hhf (rcd - 1) (by omega) (by omega)
    refine r_aload_n (pc := 54) C d_D_undo_54 rfl (lv_at hl 1 rfl) ?_
    refine r_get (pc := 55) (v := .int (iI (rcd - 1))) C w i_D rfl 0 rfl 4 (by decide) fl_D_26 rfl rfl d_D_undo_55 ?_
    have hsw := hst_swap (cI := cI) (st := st) (c := dcore cI cO cZ o h sl us pd co (hf (rcd - 1)) q2 q3 (up hf (rcd - 1) q) (rcd - 1) sf uf T m) (a := sw cI q3 a3 b3 sg3 ln3 r3 pl3 ov3 lc3 sd3) (d1 := (q, a, b, sg, ln, r, N, ov, lc, sd)) (d2 := (q2, a2, b2, sg2, ln2, r2, pl2, ov2, lc2, sd2)) (j := rcd - 1) (by omega) ⟨_, _, _, _, _, _, rfl⟩ ⟨_, _, _, rfl⟩ w
    rw [hsp] at hsw
    have w2 : Wd X (dcore cI cO cZ o h sl us pd co (st (rcd - 1)).1 q2 q3 (up hf (rcd - 1) q) (rcd - 1) sf uf T m ++ swd cI (st (rcd - 1)) ++ sw cI q2 a2 b2 sg2 ln2 r2 pl2 ov2 lc2 sd2 ++ sw cI q3 a3 b3 sg3 ln3 r3 pl3 ov3 lc3 sd3 ++ hst cI (up st (rcd - 1) (q, a, b, sg, ln, r, N, ov, lc, sd))) H locs := hsw.sub [0, 1, 2, 3, 4, 5, 9, 10, 11, 6, 7, 8, 12, 13, 14, 15, 16, 17, 18, 19, 20, 21, 22, 23, 24, 25, 26, 27, 28, 29, 30, 31, 32, 33, 34, 35, 36, 37, 38] rfl (by decide)
    clear w hsw
    have w := w2
    exact kret _ _ _ _ (rcd - 1) _ d_D_undo_58 w (⟨_, undo_cw hC (by omega), Or.inr ⟨by omega, rfl, rfl⟩⟩)
  · skip
    have hb_10 : ¬ (1 ≤ rcd ∧ rcd ≤ 6) := by omega
    clear hz_7 c_10
    refine r_bipush (pc := 13) C d_D_undo_13 (by decide) ?_
    exact kret _ _ _ _ (-5) _ d_D_undo_15 w (⟨_, cw_mk hR hC, Or.inl ⟨by omega, rfl, rfl⟩⟩)
theorem save_cw {cI cO cZ : ClassId} {o h sl us pd co : Nat} {hf sf : Int → Nat} {rcd m : Int} {uf T : Int → Int} {q a b : Nat} {sg ln : Int → Int} {r N ov lc sd : Int} {q2 a2 b2 : Nat} {sg2 ln2 : Int → Int} {r2 pl2 ov2 lc2 sd2 : Int} {q3 a3 b3 : Nat} {sg3 ln3 : Int → Int} {r3 pl3 ov3 lc3 sd3 : Int} {st : Int → SD} {v : Int → Int} {hist slot : Int → Rw} {s : Int} {sg' ln' : Int → Int}
    (hR : RwOk lc sd r sg ln N v) (hC : DC hf sf st hist rcd slot uf T m) (hs : 0 ≤ s ∧ s ≤ 1) (hO : Ok r sg' ln' N v) : CW cI cO cZ o ((lc, sd, r, sg, ln, N, v), hist, rcd, up slot s (lc, sd, r, sg', ln', N, v), up uf s 1, T, m) (dcore cI cO cZ o h sl us pd co q q2 q3 hf rcd sf (up uf s 1) T m ++ sw cI q a b sg ln r N ov lc sd ++ sw cI q2 a2 b2 sg2 ln2 r2 pl2 ov2 lc2 sd2 ++ sw cI q3 a3 b3 sg3 ln3 r3 pl3 ov3 lc3 sd3 ++ hst cI (up st (6 + s) ((st (6 + s)).1, (st (6 + s)).2.1, (st (6 + s)).2.2.1, sg', ln', r, N, 0, lc, sd))) := by
  refine cw_mk hR ?_
  obtain ⟨d1, d2, d3, d4, d5, d6, d7⟩ := hC
  refine ⟨fun i i1 i2 => ?_, fun i i1 i2 => ?_, by omega, fun i i1 i2 => ?_, fun i i1 i2 => ?_, d6, d7⟩
  · rw [up_ne _ _ (by omega)]; exact d1 i i1 i2
  · by_cases e : i = s
    · subst e; rw [up_eq]; exact d2 i i1 i2
    · rw [up_ne _ _ (by omega)]; exact d2 i i1 i2
  · rw [up_ne _ _ (by omega)]; exact d4 i i1 (by omega)
  · by_cases e : i = s
    · subst e
      rw [up_eq, up_eq, up_eq]
      exact ⟨Or.inr rfl, fun _ => ⟨rfl, rfl, rfl, rfl, rfl, rfl, hO, hR.2⟩⟩
    · rw [up_ne _ _ e, up_ne _ _ e, up_ne _ _ (by omega)]; exact d5 i i1 i2
def Sp_save (s : Int) (A : AS) (z : Int) (A' : AS) : Prop := match A with | ((lc, sd, r, sg, ln, N, v), hist, rcd, slot, uf, T, m) => (¬ (0 ≤ s ∧ s ≤ 1) ∧ z = -2 ∧ A' = A) ∨ ((0 ≤ s ∧ s ≤ 1) ∧ z = N ∧ ∃ sg' ln' : Int → Int, RwOk lc sd r sg' ln' N v ∧ A' = ((lc, sd, r, sg, ln, N, v), hist, rcd, up slot s (lc, sd, r, sg', ln', N, v), up uf s 1, T, m))
theorem d_D_save_0 : decode b_D_save 0 = .ok (.iload_n 1, 1) := by decide +kernel
theorem d_D_save_1 : decode b_D_save 1 = .ok (.iconst 0, 1) := by decide +kernel
theorem d_D_save_2 : decode b_D_save 2 = .ok (.iconst 1, 1) := by decide +kernel
theorem d_D_save_3 : decode b_D_save 3 = .ok (.invokestatic 44, 3) := by decide +kernel
theorem d_D_save_6 : decode b_D_save 6 = .ok (.ifCond .ne 6, 3) := by decide +kernel
theorem d_D_save_9 : decode b_D_save 9 = .ok (.bipush (-2), 2) := by decide +kernel
theorem d_D_save_11 : decode b_D_save 11 = .ok (.ireturn, 1) := by decide +kernel
theorem d_D_save_12 : decode b_D_save 12 = .ok (.aload_n 0, 1) := by decide +kernel
theorem d_D_save_13 : decode b_D_save 13 = .ok (.getfield 30, 3) := by decide +kernel
theorem d_D_save_16 : decode b_D_save 16 = .ok (.iload_n 1, 1) := by decide +kernel
theorem d_D_save_17 : decode b_D_save 17 = .ok (.aaload, 1) := by decide +kernel
theorem d_D_save_18 : decode b_D_save 18 = .ok (.aload_n 0, 1) := by decide +kernel
theorem d_D_save_19 : decode b_D_save 19 = .ok (.getfield 10, 3) := by decide +kernel
theorem d_D_save_22 : decode b_D_save 22 = .ok (.invokevirtual 48, 3) := by decide +kernel
theorem d_D_save_25 : decode b_D_save 25 = .ok (.aload_n 0, 1) := by decide +kernel
theorem d_D_save_26 : decode b_D_save 26 = .ok (.getfield 33, 3) := by decide +kernel
theorem d_D_save_29 : decode b_D_save 29 = .ok (.iload_n 1, 1) := by decide +kernel
theorem d_D_save_30 : decode b_D_save 30 = .ok (.iconst 1, 1) := by decide +kernel
theorem d_D_save_31 : decode b_D_save 31 = .ok (.bastore, 1) := by decide +kernel
theorem d_D_save_32 : decode b_D_save 32 = .ok (.aload_n 0, 1) := by decide +kernel
theorem d_D_save_33 : decode b_D_save 33 = .ok (.getfield 10, 3) := by decide +kernel
theorem d_D_save_36 : decode b_D_save 36 = .ok (.getfield 62, 3) := by decide +kernel
theorem d_D_save_39 : decode b_D_save 39 = .ok (.ireturn, 1) := by decide +kernel
set_option maxHeartbeats 4000000 in
set_option maxRecDepth 20000 in
theorem c_D_save {l : Launch} {G : va_G} {tys : List (ClassId × FieldType)} {cI cO cZ : ClassId} (hT : TY tys cI cO cZ) (o : Nat) (A : AS) (ws : va_W) (hA : CW cI cO cZ o A ws) (s : Int) (hrg : (-2147483648 ≤ s ∧ s < 2147483648)) : CTI l G tys y_D_save b_D_save 2 .int 4 88 [.ref o, .int (iI s)] ws (fun z u => ∃ A' : AS, CW cI cO cZ o A' u ∧ Sp_save s A z A') := by
  obtain ⟨⟨lc, sd, r, sg, ln, N, v⟩, hist, rcd, slot, uf, T, m⟩ := A
  obtain ⟨hR, h, sl, us, pd, co, hf, sf, q, a, b, ov, q2, a2, b2, sg2, ln2, r2, pl2, ov2, lc2, sd2, q3, a3, b3, sg3, ln3, r3, pl3, ov3, lc3, sd3, st, rfl, hC⟩ := hA
  have hO := hR.1
  have hr5 := hR.2.1
  have hN3 := hR.2.2.1
  have hN0 := hO.n0
  have hr0 := hO.1
  have hlcd := hR.2.2.2
  have hm80 := hC.2.2.2.2.2.1
  have hrcd6 := hC.2.2.1
  refine mkI (by decide) (Nat.le_of_ble_eq_true rfl) ?_
  rintro X rfl rfl rfl hRm C kret H ls w hl
  have hl : lv_has ls 2 [(0, .ref o), (1, .int (iI s))] := hl
  have w : Wd X (dcore cI cO cZ o h sl us pd co q q2 q3 hf rcd sf uf T m ++ sw cI q a b sg ln r N ov lc sd ++ sw cI q2 a2 b2 sg2 ln2 r2 pl2 ov2 lc2 sd2 ++ sw cI q3 a3 b3 sg3 ln3 r3 pl3 ov3 lc3 sd3 ++ hst cI st) H [] := w
  generalize ([] : List Loc) = locs at w ⊢
  refine r_iload_n (pc := 0) C d_D_save_0 rfl (lv_at hl 1 rfl) ?_
  refine r_iconst (pc := 1) C d_D_save_1 ?_
  refine r_iconst (pc := 2) C d_D_save_2 ?_
  refine r_callP (pc := 3) (As := [.int (iI s), .int (iI 0), .int (iI 1)]) (rest := []) C w (c_D_isWithin s 0 1 (by omega)) ml_D_44 st_D_isWithin ini_D cd_D_isWithin hd_D_isWithin rfl (by rw [hRm]; exact ⟨⟨Nat.le_of_ble_eq_true rfl, Nat.le_of_ble_eq_true rfl⟩, Nat.le_of_ble_eq_true rfl, Nat.le_of_ble_eq_true rfl⟩) hl.1 rfl (Nat.le_of_ble_eq_true rfl) d_D_save_3 (fun z_3 H locs hz_3 w => ?_)
  refine r_if_ne (pc := 6) (tgt := 12) C (by omega) d_D_save_6 (by decide) (fun c_6 => ?_) (fun c_6 => ?_)
  · skip
    have hb_6 : 0 ≤ s ∧ s ≤ 1 := by omega
    clear hz_3 c_6
    rcases (by omega : s = 0 ∨ s = 1) with hcs | hcs
    · subst hcs
      refine r_aload_n (pc := 12) C d_D_save_12 rfl (lv_at hl 0 rfl) ?_
      refine r_get (pc := 13) (v := .ref sl) C w i_D rfl 0 rfl 5 (by decide) fl_D_30 rfl rfl d_D_save_13 ?_
      refine r_iload_n (pc := 16) C d_D_save_16 rfl (lv_at hl 1 rfl) ?_
      refine r_aald (pc := 17) (f := sf) (i := 0) C w 1 2 rfl hT.2.1 (by omega) d_D_save_17 ?_
      have hsf := hC.2.1 0 (by omega) (by omega)
      rw [hsf]
      have w : Wd X (dcore cI cO cZ o h sl us pd co q q2 q3 hf rcd sf uf T m ++ sw cI q a b sg ln r N ov lc sd ++ sw cI q2 a2 b2 sg2 ln2 r2 pl2 ov2 lc2 sd2 ++ sw cI q3 a3 b3 sg3 ln3 r3 pl3 ov3 lc3 sd3 ++ h6 cI st ++ sw cI ((st 6).1) ((st 6).2.1) ((st 6).2.2.1) ((st 6).2.2.2.1) ((st 6).2.2.2.2.1) ((st 6).2.2.2.2.2.1) ((st 6).2.2.2.2.2.2.1) ((st 6).2.2.2.2.2.2.2.1) ((st 6).2.2.2.2.2.2.2.2.1) ((st 6).2.2.2.2.2.2.2.2.2) ++ sw cI ((st 7).1) ((st 7).2.1) ((st 7).2.2.1) ((st 7).2.2.2.1) ((st 7).2.2.2.2.1) ((st 7).2.2.2.2.2.1) ((st 7).2.2.2.2.2.2.1) ((st 7).2.2.2.2.2.2.2.1) ((st 7).2.2.2.2.2.2.2.2.1) ((st 7).2.2.2.2.2.2.2.2.2)) H locs := w
      refine r_aload_n (pc := 18) C d_D_save_18 rfl (lv_at hl 0 rfl) ?_
      refine r_get (pc := 19) (v := .ref q) C w i_D rfl 0 rfl 0 (by decide) fl_D_10 rfl rfl d_D_save_19 ?_
      refine r_callVV (pc := 22) (As := [.ref q]) (rest := []) (wr := (dcore cI cO cZ o h sl us pd co q q2 q3 hf rcd sf uf T m ++ sw cI q2 a2 b2 sg2 ln2 r2 pl2 ov2 lc2 sd2 ++ sw cI q3 a3 b3 sg3 ln3 r3 pl3 ov3 lc3 sd3 ++ h6 cI st ++ sw cI ((st 7).1) ((st 7).2.1) ((st 7).2.2.1) ((st 7).2.2.2.1) ((st 7).2.2.2.2.1) ((st 7).2.2.2.2.2.1) ((st 7).2.2.2.2.2.2.1) ((st 7).2.2.2.2.2.2.2.1) ((st 7).2.2.2.2.2.2.2.2.1) ((st 7).2.2.2.2.2.2.2.2.2))) C w (c_S_becomeCopyOf hT ((st 6).1) ((st 6).2.1) ((st 6).2.2.1) ((st 6).2.2.2.1) ((st 6).2.2.2.2.1) ((st 6).2.2.2.2.2.1) ((st 6).2.2.2.2.2.2.1) ((st 6).2.2.2.2.2.2.2.1) ((st 6).2.2.2.2.2.2.2.2.1) ((st 6).2.2.2.2.2.2.2.2.2) q a b sg ln r N ov lc sd _ _ hO (by omega) (by omega) (by omega)) ml_D_48 im_S_becomeCopyOf se_S_becomeCopyOf ini_S cd_S_becomeCopyOf hd_S_becomeCopyOf rfl (by rw [hRm]; exact ⟨⟨Nat.le_of_ble_eq_true rfl, Nat.le_of_ble_eq_true rfl⟩, Nat.le_of_ble_eq_true rfl, Nat.le_of_ble_eq_true rfl⟩) hl.1 [33, 34, 35, 6, 7, 8] [0, 1, 2, 3, 4, 5, 9, 10, 11, 12, 13, 14, 15, 16, 17, 18, 19, 20, 21, 22, 23, 24, 25, 26, 27, 28, 29, 30, 31, 32, 36, 37, 38] ⟨rfl, rfl, by decide, by decide, by decide⟩ 0 rfl rfl rfl (Nat.le_of_ble_eq_true rfl) d_D_save_22 (fun u_22 H locs hz_22 w => ?_)
      obtain ⟨sg_22, ln_22, rfl, hO_22⟩ := hz_22
      have w : Wd X (dcore cI cO cZ o h sl us pd co q q2 q3 hf rcd sf uf T m ++ sw cI q a b sg ln r N ov lc sd ++ sw cI q2 a2 b2 sg2 ln2 r2 pl2 ov2 lc2 sd2 ++ sw cI q3 a3 b3 sg3 ln3 r3 pl3 ov3 lc3 sd3 ++ h6 cI st ++ sw cI ((st 6).1) ((st 6).2.1) ((st 6).2.2.1) sg_22 ln_22 r N 0 lc sd ++ sw cI ((st 7).1) ((st 7).2.1) ((st 7).2.2.1) ((st 7).2.2.2.1) ((st 7).2.2.2.2.1) ((st 7).2.2.2.2.2.1) ((st 7).2.2.2.2.2.2.1) ((st 7).2.2.2.2.2.2.2.1) ((st 7).2.2.2.2.2.2.2.2.1) ((st 7).2.2.2.2.2.2.2.2.2)) H locs := w.sub [0, 1, 2, 3, 4, 5, 36, 37, 38, 6, 7, 8, 9, 10, 11, 12, 13, 14, 15, 16, 17, 18, 19, 20, 21, 22, 23, 24, 25, 26, 27, 28, 29, 33, 34, 35, 30, 31, 32] rfl (by decide)
      refine r_aload_n (pc := 25) C d_D_save_25 rfl (lv_at hl 0 rfl) ?_
      refine r_get (pc := 26) (v := .ref us) C w i_D rfl 0 rfl 6 (by decide) fl_D_33 rfl rfl d_D_save_26 ?_
      refine r_iload_n (pc := 29) C d_D_save_29 rfl (lv_at hl 1 rfl) ?_
      refine r_iconst (pc := 30) C d_D_save_30 ?_
      refine r_zast (pc := 31) (f := uf) (i := 0) (ws' := dcore cI cO cZ o h sl us pd co q q2 q3 hf rcd sf (up uf 0 1) T m ++ sw cI q a b sg ln r N ov lc sd ++ sw cI q2 a2 b2 sg2 ln2 r2 pl2 ov2 lc2 sd2 ++ sw cI q3 a3 b3 sg3 ln3 r3 pl3 ov3 lc3 sd3 ++ h6 cI st ++ sw cI ((st 6).1) ((st 6).2.1) ((st 6).2.2.1) sg_22 ln_22 r N 0 lc sd ++ sw cI ((st 7).1) ((st 7).2.1) ((st 7).2.2.1) ((st 7).2.2.2.1) ((st 7).2.2.2.2.1) ((st 7).2.2.2.2.2.1) ((st 7).2.2.2.2.2.2.1) ((st 7).2.2.2.2.2.2.2.1) ((st 7).2.2.2.2.2.2.2.2.1) ((st 7).2.2.2.2.2.2.2.2.2)) C w 2 3 rfl hT.2.2 (by omega) rfl d_D_save_31 (fun H locs w => ?_)
      refine r_aload_n (pc := 32) C d_D_save_32 rfl (lv_at hl 0 rfl) ?_
      refine r_get (pc := 33) (v := .ref q) C w i_D rfl 0 rfl 0 (by decide) fl_D_10 rfl rfl d_D_save_33 ?_
      refine r_get (pc := 36) (v := .int (iI N)) C w i_S rfl 6 rfl 3 (by decide) fl_D_62 rfl rfl d_D_save_36 ?_
      have w : Wd X (dcore cI cO cZ o h sl us pd co q q2 q3 hf rcd sf (up uf 0 1) T m ++ sw cI q a b sg ln r N ov lc sd ++ sw cI q2 a2 b2 sg2 ln2 r2 pl2 ov2 lc2 sd2 ++ sw cI q3 a3 b3 sg3 ln3 r3 pl3 ov3 lc3 sd3 ++ hst cI (up st (6 + 0) ((st (6 + 0)).1, (st (6 + 0)).2.1, (st (6 + 0)).2.2.1, sg_22, ln_22, r, N, 0, lc, sd))) H locs := by
        rw [show (6 : Int) + 0 = 6 from rfl, hst_up6]
        exact w
      exact kret _ _ _ _ N _ d_D_save_39 w (⟨_, save_cw hR hC (by omega) hO_22, Or.inr ⟨by omega, rfl, sg_22, ln_22, ⟨hO_22, hR.2⟩, rfl⟩⟩)
    · subst hcs
      refine r_aload_n (pc := 12) C d_D_save_12 rfl (lv_at hl 0 rfl) ?_
      refine r_get (pc := 13) (v := .ref sl) C w i_D rfl 0 rfl 5 (by decide) fl_D_30 rfl rfl d_D_save_13 ?_
      refine r_iload_n (pc := 16) C d_D_save_16 rfl (lv_at hl 1 rfl) ?_
      refine r_aald (pc := 17) (f := sf) (i := 1) C w 1 2 rfl hT.2.1 (by omega) d_D_save_17 ?_
      have hsf := hC.2.1 1 (by omega) (by omega)
      rw [hsf]
      have w : Wd X (dcore cI cO cZ o h sl us pd co q q2 q3 hf rcd sf uf T m ++ sw cI q a b sg ln r N ov lc sd ++ sw cI q2 a2 b2 sg2 ln2 r2 pl2 ov2 lc2 sd2 ++ sw cI q3 a3 b3 sg3 ln3 r3 pl3 ov3 lc3 sd3 ++ h6 cI st ++ sw cI ((st 6).1) ((st 6).2.1) ((st 6).2.2.1) ((st 6).2.2.2.1) ((st 6).2.2.2.2.1) ((st 6).2.2.2.2.2.1) ((st 6).2.2.2.2.2.2.1) ((st 6).2.2.2.2.2.2.2.1) ((st 6).2.2.2.2.2.2.2.2.1) ((st 6).2.2.2.2.2.2.2.2.2) ++ sw cI ((st 7).1) ((st 7).2.1) ((st 7).2.2.1) ((st 7).2.2.2.1) ((st 7).2.2.2.2.1) ((st 7).2.2.2.2.2.1) ((st 7).2.2.2.2.2.2.1) ((st 7).2.2.2.2.2.2.2.1) ((st 7).2.2.2.2.2.2.2.2.1) ((st 7).2.2.2.2.2.2.2.2.2)) H locs := w
      refine r_aload_n (pc := 18) C d_D_save_18 rfl (lv_at hl 0 rfl) ?_
      refine r_get (pc := 19) (v := .ref q) C w i_D rfl 0 rfl 0 (by decide) fl_D_10 rfl rfl d_D_save_19 ?_
      refine r_callVV (pc := 22) (As := [.ref q]) (rest := []) (wr := (dcore cI cO cZ o h sl us pd co q q2 q3 hf rcd sf uf T m ++ sw cI q2 a2 b2 sg2 ln2 r2 pl2 ov2 lc2 sd2 ++ sw cI q3 a3 b3 sg3 ln3 r3 pl3 ov3 lc3 sd3 ++ h6 cI st ++ sw cI ((st 6).1) ((st 6).2.1) ((st 6).2.2.1) ((st 6).2.2.2.1) ((st 6).2.2.2.2.1) ((st 6).2.2.2.2.2.1) ((st 6).2.2.2.2.2.2.1) ((st 6).2.2.2.2.2.2.2.1) ((st 6).2.2.2.2.2.2.2.2.1) ((st 6).2.2.2.2.2.2.2.2.2))) C w (c_S_becomeCopyOf hT ((st 7).1) ((st 7).2.1) ((st 7).2.2.1) ((st 7).2.2.2.1) ((st 7).2.2.2.2.1) ((st 7).2.2.2.2.2.1) ((st 7).2.2.2.2.2.2.1) ((st 7).2.2.2.2.2.2.2.1) ((st 7).2.2.2.2.2.2.2.2.1) ((st 7).2.2.2.2.2.2.2.2.2) q a b sg ln r N ov lc sd _ _ hO (by omega) (by omega) (by omega)) ml_D_48 im_S_becomeCopyOf se_S_becomeCopyOf ini_S cd_S_becomeCopyOf hd_S_becomeCopyOf rfl (by rw [hRm]; exact ⟨⟨Nat.le_of_ble_eq_true rfl, Nat.le_of_ble_eq_true rfl⟩, Nat.le_of_ble_eq_true rfl, Nat.le_of_ble_eq_true rfl⟩) hl.1 [36, 37, 38, 6, 7, 8] [0, 1, 2, 3, 4, 5, 9, 10, 11, 12, 13, 14, 15, 16, 17, 18, 19, 20, 21, 22, 23, 24, 25, 26, 27, 28, 29, 30, 31, 32, 33, 34, 35] ⟨rfl, rfl, by decide, by decide, by decide⟩ 0 rfl rfl rfl (Nat.le_of_ble_eq_true rfl) d_D_save_22 (fun u_22 H locs hz_22 w => ?_)
      obtain ⟨sg_22, ln_22, rfl, hO_22⟩ := hz_22
      have w : Wd X (dcore cI cO cZ o h sl us pd co q q2 q3 hf rcd sf uf T m ++ sw cI q a b sg ln r N ov lc sd ++ sw cI q2 a2 b2 sg2 ln2 r2 pl2 ov2 lc2 sd2 ++ sw cI q3 a3 b3 sg3 ln3 r3 pl3 ov3 lc3 sd3 ++ h6 cI st ++ sw cI ((st 6).1) ((st 6).2.1) ((st 6).2.2.1) ((st 6).2.2.2.1) ((st 6).2.2.2.2.1) ((st 6).2.2.2.2.2.1) ((st 6).2.2.2.2.2.2.1) ((st 6).2.2.2.2.2.2.2.1) ((st 6).2.2.2.2.2.2.2.2.1) ((st 6).2.2.2.2.2.2.2.2.2) ++ sw cI ((st 7).1) ((st 7).2.1) ((st 7).2.2.1) sg_22 ln_22 r N 0 lc sd) H locs := w.sub [0, 1, 2, 3, 4, 5, 36, 37, 38, 6, 7, 8, 9, 10, 11, 12, 13, 14, 15, 16, 17, 18, 19, 20, 21, 22, 23, 24, 25, 26, 27, 28, 29, 30, 31, 32, 33, 34, 35] rfl (by decide)
      refine r_aload_n (pc := 25) C d_D_save_25 rfl (lv_at hl 0 rfl) ?_
      refine r_get (pc := 26) (v := .ref us) C w i_D rfl 0 rfl 6 (by decide) fl_D_33 rfl rfl d_D_save_26 ?_
      refine r_iload_n (pc := 29) C d_D_save_29 rfl (lv_at hl 1 rfl) ?_
      refine r_iconst (pc := 30) C d_D_save_30 ?_
      refine r_zast (pc := 31) (f := uf) (i := 1) (ws' := dcore cI cO cZ o h sl us pd co q q2 q3 hf rcd sf (up uf 1 1) T m ++ sw cI q a b sg ln r N ov lc sd ++ sw cI q2 a2 b2 sg2 ln2 r2 pl2 ov2 lc2 sd2 ++ sw cI q3 a3 b3 sg3 ln3 r3 pl3 ov3 lc3 sd3 ++ h6 cI st ++ sw cI ((st 6).1) ((st 6).2.1) ((st 6).2.2.1) ((st 6).2.2.2.1) ((st 6).2.2.2.2.1) ((st 6).2.2.2.2.2.1) ((st 6).2.2.2.2.2.2.1) ((st 6).2.2.2.2.2.2.2.1) ((st 6).2.2.2.2.2.2.2.2.1) ((st 6).2.2.2.2.2.2.2.2.2) ++ sw cI ((st 7).1) ((st 7).2.1) ((st 7).2.2.1) sg_22 ln_22 r N 0 lc sd) C w 2 3 rfl hT.2.2 (by omega) rfl d_D_save_31 (fun H locs w => ?_)
      refine r_aload_n (pc := 32) C d_D_save_32 rfl (lv_at hl 0 rfl) ?_
      refine r_get (pc := 33) (v := .ref q) C w i_D rfl 0 rfl 0 (by decide) fl_D_10 rfl rfl d_D_save_33 ?_
      refine r_get (pc := 36) (v := .int (iI N)) C w i_S rfl 6 rfl 3 (by decide) fl_D_62 rfl rfl d_D_save_36 ?_
      have w : Wd X (dcore cI cO cZ o h sl us pd co q q2 q3 hf rcd sf (up uf 1 1) T m ++ sw cI q a b sg ln r N ov lc sd ++ sw cI q2 a2 b2 sg2 ln2 r2 pl2 ov2 lc2 sd2 ++ sw cI q3 a3 b3 sg3 ln3 r3 pl3 ov3 lc3 sd3 ++ hst cI (up st (6 + 1) ((st (6 + 1)).1, (st (6 + 1)).2.1, (st (6 + 1)).2.2.1, sg_22, ln_22, r, N, 0, lc, sd))) H locs := by
        rw [show (6 : Int) + 1 = 7 from rfl, hst_up7]
        exact w
      exact kret _ _ _ _ N _ d_D_save_39 w (⟨_, save_cw hR hC (by omega) hO_22, Or.inr ⟨by omega, rfl, sg_22, ln_22, ⟨hO_22, hR.2⟩, rfl⟩⟩)
  · skip
    have hb_6 : ¬ (0 ≤ s ∧ s ≤ 1) := by omega
    clear hz_3 c_6
    refine r_bipush (pc := 9) C d_D_save_9 (by decide) ?_
    exact kret _ _ _ _ (-2) _ d_D_save_11 w (⟨_, cw_mk hR hC, Or.inl ⟨by omega, rfl, rfl⟩⟩)
def errRe (s used : Int) : Int := if 0 ≤ s ∧ s ≤ 1 then (if used = 1 then 0 else -5) else -2
def Sp_restore (s : Int) (A : AS) (z : Int) (A' : AS) : Prop := match A with | ((lc, sd, r, sg, ln, N, v), hist, rcd, slot, uf, T, m) => SpE A z A' (errRe s (uf s)) (slot s).1 (slot s).2.1 (slot s).2.2.2.2.2.1 (slot s).2.2.2.2.2.2 (slot s).2.2.2.2.2.1
theorem d_D_restore_0 : decode b_D_restore 0 = .ok (.iload_n 1, 1) := by decide +kernel
theorem d_D_restore_1 : decode b_D_restore 1 = .ok (.iconst 0, 1) := by decide +kernel
theorem d_D_restore_2 : decode b_D_restore 2 = .ok (.iconst 1, 1) := by decide +kernel
theorem d_D_restore_3 : decode b_D_restore 3 = .ok (.invokestatic 44, 3) := by decide +kernel
theorem d_D_restore_6 : decode b_D_restore 6 = .ok (.ifCond .ne 6, 3) := by decide +kernel
theorem d_D_restore_9 : decode b_D_restore 9 = .ok (.bipush (-2), 2) := by decide +kernel
theorem d_D_restore_11 : decode b_D_restore 11 = .ok (.ireturn, 1) := by decide +kernel
theorem d_D_restore_12 : decode b_D_restore 12 = .ok (.aload_n 0, 1) := by decide +kernel
theorem d_D_restore_13 : decode b_D_restore 13 = .ok (.getfield 33, 3) := by decide +kernel
theorem d_D_restore_16 : decode b_D_restore 16 = .ok (.iload_n 1, 1) := by decide +kernel
theorem d_D_restore_17 : decode b_D_restore 17 = .ok (.baload, 1) := by decide +kernel
theorem d_D_restore_18 : decode b_D_restore 18 = .ok (.ifCond .ne 6, 3) := by decide +kernel
theorem d_D_restore_21 : decode b_D_restore 21 = .ok (.bipush (-5), 2) := by decide +kernel
theorem d_D_restore_23 : decode b_D_restore 23 = .ok (.ireturn, 1) := by decide +kernel
theorem d_D_restore_24 : decode b_D_restore 24 = .ok (.aload_n 0, 1) := by decide +kernel
theorem d_D_restore_25 : decode b_D_restore 25 = .ok (.getfield 16, 3) := by decide +kernel
theorem d_D_restore_28 : decode b_D_restore 28 = .ok (.aload_n 0, 1) := by decide +kernel
theorem d_D_restore_29 : decode b_D_restore 29 = .ok (.getfield 30, 3) := by decide +kernel
theorem d_D_restore_32 : decode b_D_restore 32 = .ok (.iload_n 1, 1) := by decide +kernel
theorem d_D_restore_33 : decode b_D_restore 33 = .ok (.aaload, 1) := by decide +kernel
theorem d_D_restore_34 : decode b_D_restore 34 = .ok (.invokevirtual 48, 3) := by decide +kernel
theorem d_D_restore_37 : decode b_D_restore 37 = .ok (.aload_n 0, 1) := by decide +kernel
theorem d_D_restore_38 : decode b_D_restore 38 = .ok (.aload_n 0, 1) := by decide +kernel
theorem d_D_restore_39 : decode b_D_restore 39 = .ok (.getfield 16, 3) := by decide +kernel
theorem d_D_restore_42 : decode b_D_restore 42 = .ok (.getfield 62, 3) := by decide +kernel
theorem d_D_restore_45 : decode b_D_restore 45 = .ok (.invokevirtual 55, 3) := by decide +kernel
theorem d_D_restore_48 : decode b_D_restore 48 = .ok (.ireturn, 1) := by decide +kernel
set_option maxHeartbeats 4000000 in
set_option maxRecDepth 20000 in
theorem c_D_restore {l : Launch} {G : va_G} {tys : List (ClassId × FieldType)} {cI cO cZ : ClassId} (hT : TY tys cI cO cZ) (o : Nat) (A : AS) (ws : va_W) (hA : CW cI cO cZ o A ws) (s : Int) (hrg : (-2147483648 ≤ s ∧ s < 2147483648)) : CTI l G tys y_D_restore b_D_restore 2 .int 4 88 [.ref o, .int (iI s)] ws (fun z u => ∃ A' : AS, CW cI cO cZ o A' u ∧ Sp_restore s A z A') := by
  obtain ⟨⟨lc, sd, r, sg, ln, N, v⟩, hist, rcd, slot, uf, T, m⟩ := A
  obtain ⟨hR, h, sl, us, pd, co, hf, sf, q, a, b, ov, q2, a2, b2, sg2, ln2, r2, pl2, ov2, lc2, sd2, q3, a3, b3, sg3, ln3, r3, pl3, ov3, lc3, sd3, st, rfl, hC⟩ := hA
  have hO := hR.1
  have hr5 := hR.2.1
  have hN3 := hR.2.2.1
  have hN0 := hO.n0
  have hr0 := hO.1
  have hlcd := hR.2.2.2
  have hm80 := hC.2.2.2.2.2.1
  have hrcd6 := hC.2.2.1
  refine mkI (by decide) (Nat.le_of_ble_eq_true rfl) ?_
  rintro X rfl rfl rfl hRm C kret H ls w hl
  have hl : lv_has ls 2 [(0, .ref o), (1, .int (iI s))] := hl
  have w : Wd X (dcore cI cO cZ o h sl us pd co q q2 q3 hf rcd sf uf T m ++ sw cI q a b sg ln r N ov lc sd ++ sw cI q2 a2 b2 sg2 ln2 r2 pl2 ov2 lc2 sd2 ++ sw cI q3 a3 b3 sg3 ln3 r3 pl3 ov3 lc3 sd3 ++ hst cI st) H [] := w
  generalize ([] : List Loc) = locs at w ⊢
  refine r_iload_n (pc := 0) C d_D_restore_0 rfl (lv_at hl 1 rfl) ?_
  refine r_iconst (pc := 1) C d_D_restore_1 ?_
  refine r_iconst (pc := 2) C d_D_restore_2 ?_
  refine r_callP (pc := 3) (As := [.int (iI s), .int (iI 0), .int (iI 1)]) (rest := []) C w (c_D_isWithin s 0 1 (by omega)) ml_D_44 st_D_isWithin ini_D cd_D_isWithin hd_D_isWithin rfl (by rw [hRm]; exact ⟨⟨Nat.le_of_ble_eq_true rfl, Nat.le_of_ble_eq_true rfl⟩, Nat.le_of_ble_eq_true rfl, Nat.le_of_ble_eq_true rfl⟩) hl.1 rfl (Nat.le_of_ble_eq_true rfl) d_D_restore_3 (fun z_3 H locs hz_3 w => ?_)
  refine r_if_ne (pc := 6) (tgt := 12) C (by omega) d_D_restore_6 (by decide) (fun c_6 => ?_) (fun c_6 => ?_)
  · skip
    have hb_6 : 0 ≤ s ∧ s ≤ 1 := by omega
    clear hz_3 c_6
    rcases (by omega : s = 0 ∨ s = 1) with hcs | hcs
    · subst hcs
      refine r_aload_n (pc := 12) C d_D_restore_12 rfl (lv_at hl 0 rfl) ?_
      refine r_get (pc := 13) (v := .ref us) C w i_D rfl 0 rfl 6 (by decide) fl_D_33 rfl rfl d_D_restore_13 ?_
      refine r_iload_n (pc := 16) C d_D_restore_16 rfl (lv_at hl 1 rfl) ?_
      refine r_zald (pc := 17) (f := uf) (i := 0) C w 2 3 rfl hT.2.2 (by omega) d_D_restore_17 ?_
      refine r_if_ne (pc := 18) (tgt := 24) C (by have hu0 := hC.2.2.2.2.1 0 (by omega) (by omega); have hu1 := hC.2.2.2.2.1 1 (by omega) (by omega); omega) d_D_restore_18 (by decide) (fun c_18 => ?_) (fun c_18 => ?_)
      · skip
        have hu0 := (hC.2.2.2.2.1 0 (by omega) (by omega)).1
        have hu1 := (hC.2.2.2.2.1 1 (by omega) (by omega)).1
        refine r_aload_n (pc := 24) C d_D_restore_24 rfl (lv_at hl 0 rfl) ?_
        refine r_get (pc := 25) (v := .ref q2) C w i_D rfl 0 rfl 1 (by decide) fl_D_16 rfl rfl d_D_restore_25 ?_
        refine r_aload_n (pc := 28) C d_D_restore_28 rfl (lv_at hl 0 rfl) ?_
        refine r_get (pc := 29) (v := .ref sl) C w i_D rfl 0 rfl 5 (by decide) fl_D_30 rfl rfl d_D_restore_29 ?_
        refine r_iload_n (pc := 32) C d_D_restore_32 rfl (lv_at hl 1 rfl) ?_
        refine r_aald (pc := 33) (f := sf) (i := 0) C w 1 2 rfl hT.2.1 (by omega) d_D_restore_33 ?_
        have hus := hC.2.2.2.2.1 0 (by omega) (by omega)
        have hsf := hC.2.1 0 (by omega) (by omega)
        rw [hsf]
        have w : Wd X (dcore cI cO cZ o h sl us pd co q q2 q3 hf rcd sf uf T m ++ sw cI q a b sg ln r N ov lc sd ++ sw cI q2 a2 b2 sg2 ln2 r2 pl2 ov2 lc2 sd2 ++ sw cI q3 a3 b3 sg3 ln3 r3 pl3 ov3 lc3 sd3 ++ h6 cI st ++ sw cI ((st 6).1) ((st 6).2.1) ((st 6).2.2.1) ((st 6).2.2.2.1) ((st 6).2.2.2.2.1) ((st 6).2.2.2.2.2.1) ((st 6).2.2.2.2.2.2.1) ((st 6).2.2.2.2.2.2.2.1) ((st 6).2.2.2.2.2.2.2.2.1) ((st 6).2.2.2.2.2.2.2.2.2) ++ sw cI ((st 7).1) ((st 7).2.1) ((st 7).2.2.1) ((st 7).2.2.2.1) ((st 7).2.2.2.2.1) ((st 7).2.2.2.2.2.1) ((st 7).2.2.2.2.2.2.1) ((st 7).2.2.2.2.2.2.2.1) ((st 7).2.2.2.2.2.2.2.2.1) ((st 7).2.2.2.2.2.2.2.2.2)) H locs := w
        obtain ⟨u1, u2, u3, u4, u5, u6, u7⟩ := SR_out (hus.2 (by omega))
        rw [show (6 : Int) + 0 = 6 from rfl] at u1 u2 u3 u4 u5 u6
        have hOs := u7.1
        rw [← u1, ← u2, ← u3, ← u4] at hOs
        have hr5s := u7.2.1
        have hN3s := u7.2.2.1
        have hlds := u7.2.2.2
        refine r_callVV (pc := 34) (As := [.ref ((st 6).1)]) (rest := []) (wr := (dcore cI cO cZ o h sl us pd co q q2 q3 hf rcd sf uf T m ++ sw cI q a b sg ln r N ov lc sd ++ sw cI q3 a3 b3 sg3 ln3 r3 pl3 ov3 lc3 sd3 ++ h6 cI st ++ sw cI ((st 7).1) ((st 7).2.1) ((st 7).2.2.1) ((st 7).2.2.2.1) ((st 7).2.2.2.2.1) ((st 7).2.2.2.2.2.1) ((st 7).2.2.2.2.2.2.1) ((st 7).2.2.2.2.2.2.2.1) ((st 7).2.2.2.2.2.2.2.2.1) ((st 7).2.2.2.2.2.2.2.2.2))) C w (c_S_becomeCopyOf hT q2 a2 b2 sg2 ln2 r2 pl2 ov2 lc2 sd2 ((st 6).1) ((st 6).2.1) ((st 6).2.2.1) ((st 6).2.2.2.1) ((st 6).2.2.2.2.1) ((st 6).2.2.2.2.2.1) ((st 6).2.2.2.2.2.2.1) ((st 6).2.2.2.2.2.2.2.1) ((st 6).2.2.2.2.2.2.2.2.1) ((st 6).2.2.2.2.2.2.2.2.2) _ _ hOs (by omega) (by omega) (by omega)) ml_D_48 im_S_becomeCopyOf se_S_becomeCopyOf ini_S cd_S_becomeCopyOf hd_S_becomeCopyOf rfl (by rw [hRm]; exact ⟨⟨Nat.le_of_ble_eq_true rfl, Nat.le_of_ble_eq_true rfl⟩, Nat.le_of_ble_eq_true rfl, Nat.le_of_ble_eq_true rfl⟩) hl.1 [9, 10, 11, 33, 34, 35] [0, 1, 2, 3, 4, 5, 6, 7, 8, 12, 13, 14, 15, 16, 17, 18, 19, 20, 21, 22, 23, 24, 25, 26, 27, 28, 29, 30, 31, 32, 36, 37, 38] ⟨rfl, rfl, by decide, by decide, by decide⟩ 0 rfl rfl rfl (Nat.le_of_ble_eq_true rfl) d_D_restore_34 (fun u_34 H locs hz_34 w => ?_)
        obtain ⟨sg_34, ln_34, rfl, hO_34⟩ := hz_34
        have w : Wd X (dcore cI cO cZ o h sl us pd co q q2 q3 hf rcd sf uf T m ++ sw cI q a b sg ln r N ov lc sd ++ sw cI q2 a2 b2 sg_34 ln_34 ((st 6).2.2.2.2.2.1) ((st 6).2.2.2.2.2.2.1) 0 ((st 6).2.2.2.2.2.2.2.2.1) ((st 6).2.2.2.2.2.2.2.2.2) ++ sw cI q3 a3 b3 sg3 ln3 r3 pl3 ov3 lc3 sd3 ++ h6 cI st ++ sw cI ((st 6).1) ((st 6).2.1) ((st 6).2.2.1) ((st 6).2.2.2.1) ((st 6).2.2.2.2.1) ((st 6).2.2.2.2.2.1) ((st 6).2.2.2.2.2.2.1) ((st 6).2.2.2.2.2.2.2.1) ((st 6).2.2.2.2.2.2.2.2.1) ((st 6).2.2.2.2.2.2.2.2.2) ++ sw cI ((st 7).1) ((st 7).2.1) ((st 7).2.2.1) ((st 7).2.2.2.1) ((st 7).2.2.2.2.1) ((st 7).2.2.2.2.2.1) ((st 7).2.2.2.2.2.2.1) ((st 7).2.2.2.2.2.2.2.1) ((st 7).2.2.2.2.2.2.2.2.1) ((st 7).2.2.2.2.2.2.2.2.2)) H locs := w.sub [0, 1, 2, 3, 4, 5, 6, 7, 8, 33, 34, 35, 9, 10, 11, 12, 13, 14, 15, 16, 17, 18, 19, 20, 21, 22, 23, 24, 25, 26, 27, 28, 29, 36, 37, 38, 30, 31, 32] rfl (by decide)
        have w : Wd X (dcore cI cO cZ o h sl us pd co q q2 q3 hf rcd sf uf T m ++ sw cI q a b sg ln r N ov lc sd ++ sw cI q2 a2 b2 sg_34 ln_34 ((st 6).2.2.2.2.2.1) ((st 6).2.2.2.2.2.2.1) 0 ((st 6).2.2.2.2.2.2.2.2.1) ((st 6).2.2.2.2.2.2.2.2.2) ++ sw cI q3 a3 b3 sg3 ln3 r3 pl3 ov3 lc3 sd3 ++ hst cI st) H locs := w
        have hVs : RV (st 6).2.2.2.2.2.1 (st 6).2.2.2.2.2.2.1 0 sg_34 ln_34 (slot 0).2.2.2.2.2.1 (slot 0).2.2.2.2.2.2 := by
          have h9 := hO_34
          rw [u4] at h9 ⊢
          exact ⟨h9.n0, fun _ => ⟨rfl, rfl, h9⟩, fun z => absurd (show fits_ _ _ from ⟨hN3s, by rw [h9.rcE, u3]; exact hr5s⟩) z⟩
        refine r_aload_n (pc := 37) C d_D_restore_37 rfl (lv_at hl 0 rfl) ?_
        refine r_aload_n (pc := 38) C d_D_restore_38 rfl (lv_at hl 0 rfl) ?_
        refine r_get (pc := 39) (v := .ref q2) C w i_D rfl 0 rfl 1 (by decide) fl_D_16 rfl rfl d_D_restore_39 ?_
        refine r_get (pc := 42) (v := .int (iI ((st 6).2.2.2.2.2.2.1))) C w i_S rfl 9 rfl 3 (by decide) fl_D_62 rfl rfl d_D_restore_42 ?_
        refine r_callVI (pc := 45) (As := [.int (iI ((st 6).2.2.2.2.2.2.1))]) (rest := []) (wr := []) C w (c_D_accepted hT o h sl us pd co hf sf rcd m uf T q a b sg ln r N ov lc sd q2 a2 b2 sg_34 ln_34 ((st 6).2.2.2.2.2.1) ((st 6).2.2.2.2.2.2.1) 0 ((st 6).2.2.2.2.2.2.2.2.1) ((st 6).2.2.2.2.2.2.2.2.2) q3 a3 b3 sg3 ln3 r3 pl3 ov3 lc3 sd3 st ((st 6).2.2.2.2.2.2.1) _ v _ hist slot hR hC hVs (by omega)) ml_D_55 im_D_accepted se_D_accepted ini_D cd_D_accepted hd_D_accepted rfl (by rw [hRm]; exact ⟨⟨Nat.le_of_ble_eq_true rfl, Nat.le_of_ble_eq_true rfl⟩, Nat.le_of_ble_eq_true rfl, Nat.le_of_ble_eq_true rfl⟩) hl.1 [0, 1, 2, 3, 4, 5, 6, 7, 8, 9, 10, 11, 12, 13, 14, 15, 16, 17, 18, 19, 20, 21, 22, 23, 24, 25, 26, 27, 28, 29, 30, 31, 32, 33, 34, 35, 36, 37, 38] [] ⟨rfl, rfl, by decide, by decide, by decide⟩ 0 rfl rfl rfl (Nat.le_of_ble_eq_true rfl) d_D_restore_45 (fun z_45 u_45 H locs hz_45 w => ?_)
        exact kret _ _ _ _ z_45 _ d_D_restore_48 w (by rcases hz_45 with ⟨f1, f2, rfl⟩ | ⟨f1, f2, A, f3, f4⟩; exact ⟨_, cw_mk hR hC, Or.inr (Or.inl ⟨by unfold errRe; rw [if_pos (by omega), if_pos (by omega)], f1, f2, rfl⟩)⟩; exact ⟨A, f3, Or.inr (Or.inr ⟨by unfold errRe; rw [if_pos (by omega), if_pos (by omega)], f1, f2.trans u4, by rw [u5, u6] at f4; exact f4⟩)⟩)
      · skip
        have hu0 := (hC.2.2.2.2.1 0 (by omega) (by omega)).1
        have hu1 := (hC.2.2.2.2.1 1 (by omega) (by omega)).1
        refine r_bipush (pc := 21) C d_D_restore_21 (by decide) ?_
        exact kret _ _ _ _ (-5) _ d_D_restore_23 w (⟨_, cw_mk hR hC, Or.inl ⟨by unfold errRe; rw [if_pos (by omega), if_neg (by omega)]; omega, by unfold errRe; rw [if_pos (by omega), if_neg (by omega)], rfl⟩⟩)
    · subst hcs
      refine r_aload_n (pc := 12) C d_D_restore_12 rfl (lv_at hl 0 rfl) ?_
      refine r_get (pc := 13) (v := .ref us) C w i_D rfl 0 rfl 6 (by decide) fl_D_33 rfl rfl d_D_restore_13 ?_
      refine r_iload_n (pc := 16) C d_D_restore_16 rfl (lv_at hl 1 rfl) ?_
      refine r_zald (pc := 17) (f := uf) (i := 1) C w 2 3 rfl hT.2.2 (by omega) d_D_restore_17 ?_
      refine r_if_ne (pc := 18) (tgt := 24) C (by have hu0 := hC.2.2.2.2.1 0 (by omega) (by omega); have hu1 := hC.2.2.2.2.1 1 (by omega) (by omega); omega) d_D_restore_18 (by decide) (fun c_18 => ?_) (fun c_18 => ?_)
      · skip
        have hu0 := (hC.2.2.2.2.1 0 (by omega) (by omega)).1
        have hu1 := (hC.2.2.2.2.1 1 (by omega) (by omega)).1
        refine r_aload_n (pc := 24) C d_D_restore_24 rfl (lv_at hl 0 rfl) ?_
        refine r_get (pc := 25) (v := .ref q2) C w i_D rfl 0 rfl 1 (by decide) fl_D_16 rfl rfl d_D_restore_25 ?_
        refine r_aload_n (pc := 28) C d_D_restore_28 rfl (lv_at hl 0 rfl) ?_
        refine r_get (pc := 29) (v := .ref sl) C w i_D rfl 0 rfl 5 (by decide) fl_D_30 rfl rfl d_D_restore_29 ?_
        refine r_iload_n (pc := 32) C d_D_restore_32 rfl (lv_at hl 1 rfl) ?_
        refine r_aald (pc := 33) (f := sf) (i := 1) C w 1 2 rfl hT.2.1 (by omega) d_D_restore_33 ?_
        have hus := hC.2.2.2.2.1 1 (by omega) (by omega)
        have hsf := hC.2.1 1 (by omega) (by omega)
        rw [hsf]
        have w : Wd X (dcore cI cO cZ o h sl us pd co q q2 q3 hf rcd sf uf T m ++ sw cI q a b sg ln r N ov lc sd ++ sw cI q2 a2 b2 sg2 ln2 r2 pl2 ov2 lc2 sd2 ++ sw cI q3 a3 b3 sg3 ln3 r3 pl3 ov3 lc3 sd3 ++ h6 cI st ++ sw cI ((st 6).1) ((st 6).2.1) ((st 6).2.2.1) ((st 6).2.2.2.1) ((st 6).2.2.2.2.1) ((st 6).2.2.2.2.2.1) ((st 6).2.2.2.2.2.2.1) ((st 6).2.2.2.2.2.2.2.1) ((st 6).2.2.2.2.2.2.2.2.1) ((st 6).2.2.2.2.2.2.2.2.2) ++ sw cI ((st 7).1) ((st 7).2.1) ((st 7).2.2.1) ((st 7).2.2.2.1) ((st 7).2.2.2.2.1) ((st 7).2.2.2.2.2.1) ((st 7).2.2.2.2.2.2.1) ((st 7).2.2.2.2.2.2.2.1) ((st 7).2.2.2.2.2.2.2.2.1) ((st 7).2.2.2.2.2.2.2.2.2)) H locs := w
        obtain ⟨u1, u2, u3, u4, u5, u6, u7⟩ := SR_out (hus.2 (by omega))
        rw [show (6 : Int) + 1 = 7 from rfl] at u1 u2 u3 u4 u5 u6
        have hOs := u7.1
        rw [← u1, ← u2, ← u3, ← u4] at hOs
        have hr5s := u7.2.1
        have hN3s := u7.2.2.1
        have hlds := u7.2.2.2
        refine r_callVV (pc := 34) (As := [.ref ((st 7).1)]) (rest := []) (wr := (dcore cI cO cZ o h sl us pd co q q2 q3 hf rcd sf uf T m ++ sw cI q a b sg ln r N ov lc sd ++ sw cI q3 a3 b3 sg3 ln3 r3 pl3 ov3 lc3 sd3 ++ h6 cI st ++ sw cI ((st 6).1) ((st 6).2.1) ((st 6).2.2.1) ((st 6).2.2.2.1) ((st 6).2.2.2.2.1) ((st 6).2.2.2.2.2.1) ((st 6).2.2.2.2.2.2.1) ((st 6).2.2.2.2.2.2.2.1) ((st 6).2.2.2.2.2.2.2.2.1) ((st 6).2.2.2.2.2.2.2.2.2))) C w (c_S_becomeCopyOf hT q2 a2 b2 sg2 ln2 r2 pl2 ov2 lc2 sd2 ((st 7).1) ((st 7).2.1) ((st 7).2.2.1) ((st 7).2.2.2.1) ((st 7).2.2.2.2.1) ((st 7).2.2.2.2.2.1) ((st 7).2.2.2.2.2.2.1) ((st 7).2.2.2.2.2.2.2.1) ((st 7).2.2.2.2.2.2.2.2.1) ((st 7).2.2.2.2.2.2.2.2.2) _ _ hOs (by omega) (by omega) (by omega)) ml_D_48 im_S_becomeCopyOf se_S_becomeCopyOf ini_S cd_S_becomeCopyOf hd_S_becomeCopyOf rfl (by rw [hRm]; exact ⟨⟨Nat.le_of_ble_eq_true rfl, Nat.le_of_ble_eq_true rfl⟩, Nat.le_of_ble_eq_true rfl, Nat.le_of_ble_eq_true rfl⟩) hl.1 [9, 10, 11, 36, 37, 38] [0, 1, 2, 3, 4, 5, 6, 7, 8, 12, 13, 14, 15, 16, 17, 18, 19, 20, 21, 22, 23, 24, 25, 26, 27, 28, 29, 30, 31, 32, 33, 34, 35] ⟨rfl, rfl, by decide, by decide, by decide⟩ 0 rfl rfl rfl (Nat.le_of_ble_eq_true rfl) d_D_restore_34 (fun u_34 H locs hz_34 w => ?_)
        obtain ⟨sg_34, ln_34, rfl, hO_34⟩ := hz_34
        have w : Wd X (dcore cI cO cZ o h sl us pd co q q2 q3 hf rcd sf uf T m ++ sw cI q a b sg ln r N ov lc sd ++ sw cI q2 a2 b2 sg_34 ln_34 ((st 7).2.2.2.2.2.1) ((st 7).2.2.2.2.2.2.1) 0 ((st 7).2.2.2.2.2.2.2.2.1) ((st 7).2.2.2.2.2.2.2.2.2) ++ sw cI q3 a3 b3 sg3 ln3 r3 pl3 ov3 lc3 sd3 ++ h6 cI st ++ sw cI ((st 6).1) ((st 6).2.1) ((st 6).2.2.1) ((st 6).2.2.2.1) ((st 6).2.2.2.2.1) ((st 6).2.2.2.2.2.1) ((st 6).2.2.2.2.2.2.1) ((st 6).2.2.2.2.2.2.2.1) ((st 6).2.2.2.2.2.2.2.2.1) ((st 6).2.2.2.2.2.2.2.2.2) ++ sw cI ((st 7).1) ((st 7).2.1) ((st 7).2.2.1) ((st 7).2.2.2.1) ((st 7).2.2.2.2.1) ((st 7).2.2.2.2.2.1) ((st 7).2.2.2.2.2.2.1) ((st 7).2.2.2.2.2.2.2.1) ((st 7).2.2.2.2.2.2.2.2.1) ((st 7).2.2.2.2.2.2.2.2.2)) H locs := w.sub [0, 1, 2, 3, 4, 5, 6, 7, 8, 33, 34, 35, 9, 10, 11, 12, 13, 14, 15, 16, 17, 18, 19, 20, 21, 22, 23, 24, 25, 26, 27, 28, 29, 30, 31, 32, 36, 37, 38] rfl (by decide)
        have w : Wd X (dcore cI cO cZ o h sl us pd co q q2 q3 hf rcd sf uf T m ++ sw cI q a b sg ln r N ov lc sd ++ sw cI q2 a2 b2 sg_34 ln_34 ((st 7).2.2.2.2.2.1) ((st 7).2.2.2.2.2.2.1) 0 ((st 7).2.2.2.2.2.2.2.2.1) ((st 7).2.2.2.2.2.2.2.2.2) ++ sw cI q3 a3 b3 sg3 ln3 r3 pl3 ov3 lc3 sd3 ++ hst cI st) H locs := w
        have hVs : RV (st 7).2.2.2.2.2.1 (st 7).2.2.2.2.2.2.1 0 sg_34 ln_34 (slot 1).2.2.2.2.2.1 (slot 1).2.2.2.2.2.2 := by
          have h9 := hO_34
          rw [u4] at h9 ⊢
          exact ⟨h9.n0, fun _ => ⟨rfl, rfl, h9⟩, fun z => absurd (show fits_ _ _ from ⟨hN3s, by rw [h9.rcE, u3]; exact hr5s⟩) z⟩
        refine r_aload_n (pc := 37) C d_D_restore_37 rfl (lv_at hl 0 rfl) ?_
        refine r_aload_n (pc := 38) C d_D_restore_38 rfl (lv_at hl 0 rfl) ?_
        refine r_get (pc := 39) (v := .ref q2) C w i_D rfl 0 rfl 1 (by decide) fl_D_16 rfl rfl d_D_restore_39 ?_
        refine r_get (pc := 42) (v := .int (iI ((st 7).2.2.2.2.2.2.1))) C w i_S rfl 9 rfl 3 (by decide) fl_D_62 rfl rfl d_D_restore_42 ?_
        refine r_callVI (pc := 45) (As := [.int (iI ((st 7).2.2.2.2.2.2.1))]) (rest := []) (wr := []) C w (c_D_accepted hT o h sl us pd co hf sf rcd m uf T q a b sg ln r N ov lc sd q2 a2 b2 sg_34 ln_34 ((st 7).2.2.2.2.2.1) ((st 7).2.2.2.2.2.2.1) 0 ((st 7).2.2.2.2.2.2.2.2.1) ((st 7).2.2.2.2.2.2.2.2.2) q3 a3 b3 sg3 ln3 r3 pl3 ov3 lc3 sd3 st ((st 7).2.2.2.2.2.2.1) _ v _ hist slot hR hC hVs (by omega)) ml_D_55 im_D_accepted se_D_accepted ini_D cd_D_accepted hd_D_accepted rfl (by rw [hRm]; exact ⟨⟨Nat.le_of_ble_eq_true rfl, Nat.le_of_ble_eq_true rfl⟩, Nat.le_of_ble_eq_true rfl, Nat.le_of_ble_eq_true rfl⟩) hl.1 [0, 1, 2, 3, 4, 5, 6, 7, 8, 9, 10, 11, 12, 13, 14, 15, 16, 17, 18, 19, 20, 21, 22, 23, 24, 25, 26, 27, 28, 29, 30, 31, 32, 33, 34, 35, 36, 37, 38] [] ⟨rfl, rfl, by decide, by decide, by decide⟩ 0 rfl rfl rfl (Nat.le_of_ble_eq_true rfl) d_D_restore_45 (fun z_45 u_45 H locs hz_45 w => ?_)
        exact kret _ _ _ _ z_45 _ d_D_restore_48 w (by rcases hz_45 with ⟨f1, f2, rfl⟩ | ⟨f1, f2, A, f3, f4⟩; exact ⟨_, cw_mk hR hC, Or.inr (Or.inl ⟨by unfold errRe; rw [if_pos (by omega), if_pos (by omega)], f1, f2, rfl⟩)⟩; exact ⟨A, f3, Or.inr (Or.inr ⟨by unfold errRe; rw [if_pos (by omega), if_pos (by omega)], f1, f2.trans u4, by rw [u5, u6] at f4; exact f4⟩)⟩)
      · skip
        have hu0 := (hC.2.2.2.2.1 0 (by omega) (by omega)).1
        have hu1 := (hC.2.2.2.2.1 1 (by omega) (by omega)).1
        refine r_bipush (pc := 21) C d_D_restore_21 (by decide) ?_
        exact kret _ _ _ _ (-5) _ d_D_restore_23 w (⟨_, cw_mk hR hC, Or.inl ⟨by unfold errRe; rw [if_pos (by omega), if_neg (by omega)]; omega, by unfold errRe; rw [if_pos (by omega), if_neg (by omega)], rfl⟩⟩)
  · skip
    have hb_6 : ¬ (0 ≤ s ∧ s ≤ 1) := by omega
    clear hz_3 c_6
    refine r_bipush (pc := 9) C d_D_restore_9 (by decide) ?_
    exact kret _ _ _ _ (-2) _ d_D_restore_11 w (⟨_, cw_mk hR hC, Or.inl ⟨by unfold errRe; split <;> omega, by unfold errRe; split <;> omega, rfl⟩⟩)
