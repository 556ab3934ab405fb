/-! what the reference tells -/
theorem BitAt.out {code r x z : Int} {sg ln : Int → Int} (h : BitAt code r sg ln x z) (hx : x < 0 ∨ ps (rbf code sg ln) r ≤ x) (hm : ∀ k, 0 ≤ k → k < r → 0 ≤ ps (rbf code sg ln) k ∧ ps (rbf code sg ln) (k + 1) ≤ ps (rbf code sg ln) r) : z = -1 := by
  rcases h with ⟨-, h⟩ | ⟨k, h1, h2, h3, h4, -⟩
  · exact h
  · have := hm k h1 h2
    omega
theorem BitAt.in {code r x z i : Int} {sg ln : Int → Int} (h : BitAt code r sg ln x z) (hi : 0 ≤ i ∧ i < r) (h1 : ps (rbf code sg ln) i ≤ x) (h2 : x < ps (rbf code sg ln) (i + 1)) (hm : ∀ j k, 0 ≤ j → j ≤ k → k ≤ r → 0 ≤ ps (rbf code sg ln) j ∧ ps (rbf code sg ln) j ≤ ps (rbf code sg ln) k) : z = brun code (sg i) (ln i) (x - ps (rbf code sg ln) i) := by
  rcases h with ⟨h, -⟩ | ⟨k, k1, k2, k3, k4, k5⟩
  · have a1 := hm i (i + 1) (by omega) (by omega) (by omega)
    have a2 := hm (i + 1) r (by omega) (by omega) (by omega)
    omega
  · have e : k = i := by
      rcases Int.lt_trichotomy k i with q | q | q
      · have := hm (k + 1) i (by omega) (by omega) (by omega)
        omega
      · exact q
      · have := hm (i + 1) k (by omega) (by omega) (by omega)
        omega
    subst e
    exact k5
theorem rbf_mono {code r N : Int} {sg ln v : Int → Int} (hO : Ok r sg ln N v) (hN : N ≤ 3000) : ∀ j k, 0 ≤ j → j ≤ k → k ≤ r → 0 ≤ ps (rbf code sg ln) j ∧ ps (rbf code sg ln) j ≤ ps (rbf code sg ln) k := by
  intro j k h1 h2 h3
  have hp : ∀ i, 0 ≤ i → i < r → 0 ≤ rbf code sg ln i := fun i i1 i2 => by
    have g := hO.run i1 i2
    have := rb_rg (code := code) (s := sg i) (n := ln i) (by omega)
    unfold rbf
    omega
  refine ⟨(allBits_rg hO hN h1 (by omega)).1, ps_le h1 h2 (fun i i1 i2 => hp i i1 (by omega))⟩
theorem bwv_none {f : Int → Int} {k : Int} {s : Int × Int × Int} (hs : 0 ≤ s.2.2) : ∀ j, 0 ≤ j → (∀ i, 0 ≤ i → i < j → f i ≤ 0) → bwv f k s j = s := by
  refine int_ind (fun _ => rfl) (fun j hj ih h => ?_)
  rw [bwv_succ f k s hj, ih (fun i i1 i2 => h i i1 (by omega)), if_neg]
  have := h j hj (by omega)
  omega
theorem svd_dead {code r : Int} {sg ln : Int → Int} {k val : Int} (h : sg k = 10) : svd code r sg ln k val = 0 := by
  unfold svd
  rw [if_pos h]
theorem svd_self {code r N : Int} {sg ln v : Int → Int} {k : Int} (hO : Ok r sg ln N v) (h0 : 0 ≤ k) (h1 : k < r) : svd code r sg ln k (sg k) ≤ 0 := by
  unfold svd
  by_cases h : sg k = 10
  · rw [if_pos h]; omega
  · have c1 : ¬ (0 < k ∧ sg (k - 1) = sg k) := fun q => hO.2.2.1 k (by omega) h1 q.2.symm
    have c2 : ¬ (k < r - 1 ∧ sg (k + 1) = sg k) := fun q => hO.2.2.1 (k + 1) (by omega) (by omega) (by rw [show k + 1 - 1 = k by omega]; exact q.2)
    rw [if_neg h, if_neg c1, if_neg c2, if_neg c1, if_neg c2, Int.add_zero, Int.add_zero, Int.add_zero, Int.add_zero]
    omega

theorem d_M_sizeBy_0 : decode b_M_sizeBy 0 = .ok (.iconst 0, 1) := by decide +kernel
theorem d_M_sizeBy_1 : decode b_M_sizeBy 1 = .ok (.istore_n 2, 1) := by decide +kernel
theorem d_M_sizeBy_2 : decode b_M_sizeBy 2 = .ok (.iconst 0, 1) := by decide +kernel
theorem d_M_sizeBy_3 : decode b_M_sizeBy 3 = .ok (.istore_n 3, 1) := by decide +kernel
theorem d_M_sizeBy_4 : decode b_M_sizeBy 4 = .ok (.iload_n 3, 1) := by decide +kernel
theorem d_M_sizeBy_5 : decode b_M_sizeBy 5 = .ok (.aload_n 0, 1) := by decide +kernel
theorem d_M_sizeBy_6 : decode b_M_sizeBy 6 = .ok (.getfield 7, 3) := by decide +kernel
theorem d_M_sizeBy_9 : decode b_M_sizeBy 9 = .ok (.iconst 2, 1) := by decide +kernel
theorem d_M_sizeBy_10 : decode b_M_sizeBy 10 = .ok (.iaload, 1) := by decide +kernel
theorem d_M_sizeBy_11 : decode b_M_sizeBy 11 = .ok (.if_icmp .ge 26, 3) := by decide +kernel
theorem d_M_sizeBy_14 : decode b_M_sizeBy 14 = .ok (.iload_n 2, 1) := by decide +kernel
theorem d_M_sizeBy_15 : decode b_M_sizeBy 15 = .ok (.aload_n 0, 1) := by decide +kernel
theorem d_M_sizeBy_16 : decode b_M_sizeBy 16 = .ok (.iload_n 3, 1) := by decide +kernel
theorem d_M_sizeBy_17 : decode b_M_sizeBy 17 = .ok (.invokevirtual 55, 3) := by decide +kernel
theorem d_M_sizeBy_20 : decode b_M_sizeBy 20 = .ok (.aload_n 0, 1) := by decide +kernel
theorem d_M_sizeBy_21 : decode b_M_sizeBy 21 = .ok (.iload_n 3, 1) := by decide +kernel
theorem d_M_sizeBy_22 : decode b_M_sizeBy 22 = .ok (.invokevirtual 45, 3) := by decide +kernel
theorem d_M_sizeBy_25 : decode b_M_sizeBy 25 = .ok (.iload_n 1, 1) := by decide +kernel
theorem d_M_sizeBy_26 : decode b_M_sizeBy 26 = .ok (.invokestatic 97, 3) := by decide +kernel
theorem d_M_sizeBy_29 : decode b_M_sizeBy 29 = .ok (.iadd, 1) := by decide +kernel
theorem d_M_sizeBy_30 : decode b_M_sizeBy 30 = .ok (.istore_n 2, 1) := by decide +kernel
theorem d_M_sizeBy_31 : decode b_M_sizeBy 31 = .ok (.iinc 3 1, 3) := by decide +kernel
theorem d_M_sizeBy_34 : decode b_M_sizeBy 34 = .ok (.goto (-30), 3) := by decide +kernel
theorem d_M_sizeBy_37 : decode b_M_sizeBy 37 = .ok (.iload_n 2, 1) := by decide +kernel
theorem d_M_sizeBy_38 : decode b_M_sizeBy 38 = .ok (.ireturn, 1) := by decide +kernel
set_option maxHeartbeats 4000000 in
set_option maxRecDepth 20000 in
theorem c_M_sizeBy {l : Launch} {G : va_G} {tys : List (ClassId × FieldType)} {cI cO cZ : ClassId} (hT : TY tys cI cO cZ) (q0 q1 q2 q3 q4 q5 q6 q7 q8 q9 : Nat) (nw pt : Int → Int) (np : Int) (sl : Int → Int) (sv : Int) (li ot : Int → Int) (len : Int) (pd : Int → Int) (ty : Int) (wr : Int → Int) (wm : Int) (ss lz : Int → Int) (rm : Int) (code : Int) (lc sd r N : Int) (sg ln v : Int → Int) (hR : RwOk lc sd r sg ln N v) (hM : MR nw 0 lc sd r sg ln) (hc : 0 ≤ code ∧ code ≤ 2) : CTI l G tys y_M_sizeBy b_M_sizeBy 4 .int 3 66 [.ref q0, .int (iI code)] (mw cI q0 q1 q2 q3 q4 q5 q6 q7 q8 q9 nw pt np sl sv li ot len pd ty wr wm ss lz rm) (fun z u => u = mw cI q0 q1 q2 q3 q4 q5 q6 q7 q8 q9 nw pt np sl sv li ot len pd ty wr wm ss lz rm ∧ z = ps (rbf code sg ln) r) := by
  refine mkI (by decide) (Nat.le_of_ble_eq_true rfl) ?_
  rintro X rfl rfl rfl hRm C kret H ls w hl
  have hl : lv_has ls 4 [(0, .ref q0), (1, .int (iI code))] := hl
  have w : Wd X (mw cI q0 q1 q2 q3 q4 q5 q6 q7 q8 q9 nw pt np sl sv li ot len pd ty wr wm ss lz rm) H [] := w
  generalize ([] : List Loc) = locs at w ⊢
  have hO := hR.1
  have hr5 := hR.2.1
  have hN3 := hR.2.2.1
  have hN0 := hO.n0
  have hr0 := hO.1
  have hlcd := hR.2.2.2
  have hps := ps_zero ln
  have hpr := hO.2.2.2.1
  have hM9 := hM
  obtain ⟨hm0, hm1, hm2, hm3⟩ := hM
  rw [show (0 : Int) + 2 = 2 from rfl] at hm2
  rw [show (0 : Int) + 1 = 1 from rfl] at hm1
  have hm4 : ∀ k, 0 ≤ k → k < r → nw (3 + 2 * k) = sg k ∧ nw (4 + 2 * k) = ln k := fun k h1 h2 => by have := hm3 k h1 h2; rw [show (0 : Int) + 3 = 3 from rfl, show (0 : Int) + 4 = 4 from rfl] at this; exact this
  refine r_iconst (pc := 0) C d_M_sizeBy_0 ?_
  refine r_istore_n (pc := 1) (lv' := [(2, .int (iI 0)), (0, .ref q0), (1, .int (iI code))]) C d_M_sizeBy_1 rfl hl (by decide) rfl (fun ls hl => ?_)
  refine r_iconst (pc := 2) C d_M_sizeBy_2 ?_
  refine r_istore_n (pc := 3) (lv' := [(3, .int (iI 0)), (2, .int (iI 0)), (0, .ref q0), (1, .int (iI code))]) C d_M_sizeBy_3 rfl hl (by decide) rfl (fun ls hl => ?_)
  have L4 : ∀ (fuel : Nat), ∀ (i : Int) (s : Int), 0 ≤ i ∧ i ≤ r → s = ps (rbf code sg ln) i → (r - i) < (fuel : Int) → ∀ (H : Heap) (locs : List Loc) (ls : Array Slot), Wd X (mw cI q0 q1 q2 q3 q4 q5 q6 q7 q8 q9 nw pt np sl sv li ot len pd ty wr wm ss lz rm) H locs → lv_has ls 4 [(0, .ref q0), (1, .int (iI code)), (2, .int (iI s)), (3, .int (iI i))] → GG X 0 0 H locs 4 ls [] := by
    intro fuel
    induction fuel with
    | zero =>
      intro i s h0 hs hfuel
      exact absurd hfuel (by omega)
    | succ fuel ih4 =>
      intro i s h0 hs hfuel H locs ls w hl
      refine r_iload_n (pc := 4) C d_M_sizeBy_4 rfl (lv_at hl 3 rfl) ?_
      refine r_aload_n (pc := 5) C d_M_sizeBy_5 rfl (lv_at hl 0 rfl) ?_
      refine r_get (pc := 6) (v := .ref q1) C w i_M rfl 0 rfl 0 (by decide) fl_M_7 rfl rfl d_M_sizeBy_6 ?_
      refine r_iconst (pc := 9) C d_M_sizeBy_9 ?_
      refine r_iald (pc := 10) (f := nw) (i := 2) C w 0 1 rfl hT.1 (by omega) d_M_sizeBy_10 ?_
      refine r_icmp_ge (pc := 11) (tgt := 37) C (by omega) d_M_sizeBy_11 (by decide) (fun c_11 => ?_) (fun c_11 => ?_)
      · skip
        refine r_iload_n (pc := 37) C d_M_sizeBy_37 rfl (lv_at hl 2 rfl) ?_
        exact kret _ _ _ _ s _ d_M_sizeBy_38 w (⟨rfl, by rw [hs, show i = r by omega]⟩)
      · skip
        have hk2 := hO.run (k := i) (by omega) (by omega)
        have hk3 := hm4 i (by omega) (by omega)
        refine r_iload_n (pc := 14) C d_M_sizeBy_14 rfl (lv_at hl 2 rfl) ?_
        refine r_aload_n (pc := 15) C d_M_sizeBy_15 rfl (lv_at hl 0 rfl) ?_
        refine r_iload_n (pc := 16) C d_M_sizeBy_16 rfl (lv_at hl 3 rfl) ?_
        refine r_callVI (pc := 17) (As := [.int (iI i)]) (rest := [.int (iI s)]) (wr := []) C w (c_M_signOf hT q0 q1 q2 q3 q4 q5 q6 q7 q8 q9 nw pt np sl sv li ot len pd ty wr wm ss lz rm i (by omega)) ml_M_55 im_M_signOf se_M_signOf ini_M cd_M_signOf hd_M_signOf rfl (by rw [hRm]; exact ⟨⟨Nat.le_of_ble_eq_true rfl, Nat.le_of_ble_eq_true rfl⟩, Nat.le_of_ble_eq_true rfl, Nat.le_of_ble_eq_true rfl⟩) hl.1 [0, 1, 2, 3, 4, 5, 6, 7, 8, 9] [] ⟨rfl, rfl, by decide, by decide, by decide⟩ 0 rfl rfl rfl (Nat.le_of_ble_eq_true rfl) d_M_sizeBy_17 (fun z_17 u_17 H locs hz_17 w => ?_)
        obtain ⟨rfl, rfl⟩ := hz_17
        have w : Wd X (mw cI q0 q1 q2 q3 q4 q5 q6 q7 q8 q9 nw pt np sl sv li ot len pd ty wr wm ss lz rm) H locs := w
        refine r_aload_n (pc := 20) C d_M_sizeBy_20 rfl (lv_at hl 0 rfl) ?_
        refine r_iload_n (pc := 21) C d_M_sizeBy_21 rfl (lv_at hl 3 rfl) ?_
        refine r_callVI (pc := 22) (As := [.int (iI i)]) (rest := [.int (iI (nw (3 + 2 * i))), .int (iI s)]) (wr := []) C w (c_M_lengthOf hT q0 q1 q2 q3 q4 q5 q6 q7 q8 q9 nw pt np sl sv li ot len pd ty wr wm ss lz rm i (by omega)) ml_M_45 im_M_lengthOf se_M_lengthOf ini_M cd_M_lengthOf hd_M_lengthOf rfl (by rw [hRm]; exact ⟨⟨Nat.le_of_ble_eq_true rfl, Nat.le_of_ble_eq_true rfl⟩, Nat.le_of_ble_eq_true rfl, Nat.le_of_ble_eq_true rfl⟩) hl.1 [0, 1, 2, 3, 4, 5, 6, 7, 8, 9] [] ⟨rfl, rfl, by decide, by decide, by decide⟩ 0 rfl rfl rfl (Nat.le_of_ble_eq_true rfl) d_M_sizeBy_22 (fun z_22 u_22 H locs hz_22 w => ?_)
        obtain ⟨rfl, rfl⟩ := hz_22
        have w : Wd X (mw cI q0 q1 q2 q3 q4 q5 q6 q7 q8 q9 nw pt np sl sv li ot len pd ty wr wm ss lz rm) H locs := w
        refine r_iload_n (pc := 25) C d_M_sizeBy_25 rfl (lv_at hl 1 rfl) ?_
        refine r_callP (pc := 26) (As := [.int (iI (nw (3 + 2 * i))), .int (iI (nw (4 + 2 * i))), .int (iI code)]) (rest := [.int (iI s)]) C w (c_M_runBits (nw (3 + 2 * i)) (nw (4 + 2 * i)) code (by omega) (by omega) (by omega)) ml_M_97 st_M_runBits ini_M cd_M_runBits hd_M_runBits rfl (by rw [hRm]; exact ⟨⟨Nat.le_of_ble_eq_true rfl, Nat.le_of_ble_eq_true rfl⟩, Nat.le_of_ble_eq_true rfl, Nat.le_of_ble_eq_true rfl⟩) hl.1 rfl (Nat.le_of_ble_eq_true rfl) d_M_sizeBy_26 (fun z_26 H locs hz_26 w => ?_)
        subst hz_26
        have hrb := rb_rg (code := code) (s := (nw (3 + 2 * i))) (n := (nw (4 + 2 * i))) (by omega)
        refine r_iadd (pc := 29) C d_M_sizeBy_29 ?_
        refine r_istore_n (pc := 30) (lv' := [(2, .int (iI (s + (rb code (nw (3 + 2 * i)) (nw (4 + 2 * i)))))), (0, .ref q0), (1, .int (iI code)), (3, .int (iI i))]) C d_M_sizeBy_30 rfl hl (by decide) rfl (fun ls hl => ?_)
        refine r_iinc (pc := 31) (j := 3) (lv' := [(3, .int (iI (i + 1))), (2, .int (iI (s + (rb code (nw (3 + 2 * i)) (nw (4 + 2 * i)))))), (0, .ref q0), (1, .int (iI code))]) C d_M_sizeBy_31 hl rfl (by decide) rfl (fun ls hl => ?_)
        refine r_goto (pc := 34) (tgt := 4) C d_M_sizeBy_34 (by decide) ?_
        exact ih4 (i + 1) (s + (rb code (nw (3 + 2 * i)) (nw (4 + 2 * i)))) (by omega) ((by rw [ps_succ _ (by omega), hs]; unfold rbf; rw [hk3.1, hk3.2])) (by omega) _ _ _ w (lv_sub hl [2, 3, 1, 0] rfl)
  exact L4 ((r - 0) + 1 : Int).toNat 0 0 (by first | omega | rfl) (by first | omega | rfl) (by omega) _ _ _ w (lv_sub hl [2, 3, 1, 0] rfl)
theorem d_M_longest_0 : decode b_M_longest 0 = .ok (.iconst 0, 1) := by decide +kernel
theorem d_M_longest_1 : decode b_M_longest 1 = .ok (.istore_n 1, 1) := by decide +kernel
theorem d_M_longest_2 : decode b_M_longest 2 = .ok (.iconst 0, 1) := by decide +kernel
theorem d_M_longest_3 : decode b_M_longest 3 = .ok (.istore_n 2, 1) := by decide +kernel
theorem d_M_longest_4 : decode b_M_longest 4 = .ok (.iload_n 2, 1) := by decide +kernel
theorem d_M_longest_5 : decode b_M_longest 5 = .ok (.aload_n 0, 1) := by decide +kernel
theorem d_M_longest_6 : decode b_M_longest 6 = .ok (.getfield 7, 3) := by decide +kernel
theorem d_M_longest_9 : decode b_M_longest 9 = .ok (.iconst 2, 1) := by decide +kernel
theorem d_M_longest_10 : decode b_M_longest 10 = .ok (.iaload, 1) := by decide +kernel
theorem d_M_longest_11 : decode b_M_longest 11 = .ok (.if_icmp .ge 28, 3) := by decide +kernel
theorem d_M_longest_14 : decode b_M_longest 14 = .ok (.aload_n 0, 1) := by decide +kernel
theorem d_M_longest_15 : decode b_M_longest 15 = .ok (.iload_n 2, 1) := by decide +kernel
theorem d_M_longest_16 : decode b_M_longest 16 = .ok (.invokevirtual 45, 3) := by decide +kernel
theorem d_M_longest_19 : decode b_M_longest 19 = .ok (.iload_n 1, 1) := by decide +kernel
theorem d_M_longest_20 : decode b_M_longest 20 = .ok (.if_icmp .le 11, 3) := by decide +kernel
theorem d_M_longest_23 : decode b_M_longest 23 = .ok (.aload_n 0, 1) := by decide +kernel
theorem d_M_longest_24 : decode b_M_longest 24 = .ok (.iload_n 2, 1) := by decide +kernel
theorem d_M_longest_25 : decode b_M_longest 25 = .ok (.invokevirtual 45, 3) := by decide +kernel
theorem d_M_longest_28 : decode b_M_longest 28 = .ok (.goto 4, 3) := by decide +kernel
theorem d_M_longest_31 : decode b_M_longest 31 = .ok (.iload_n 1, 1) := by decide +kernel
theorem d_M_longest_32 : decode b_M_longest 32 = .ok (.istore_n 1, 1) := by decide +kernel
theorem d_M_longest_33 : decode b_M_longest 33 = .ok (.iinc 2 1, 3) := by decide +kernel
theorem d_M_longest_36 : decode b_M_longest 36 = .ok (.goto (-32), 3) := by decide +kernel
theorem d_M_longest_39 : decode b_M_longest 39 = .ok (.iload_n 1, 1) := by decide +kernel
theorem d_M_longest_40 : decode b_M_longest 40 = .ok (.ireturn, 1) := by decide +kernel
set_option maxHeartbeats 4000000 in
set_option maxRecDepth 20000 in
theorem c_M_longest {l : Launch} {G : va_G} {tys : List (ClassId × FieldType)} {cI cO cZ : ClassId} (hT : TY tys cI cO cZ) (q0 q1 q2 q3 q4 q5 q6 q7 q8 q9 : Nat) (nw pt : Int → Int) (np : Int) (sl : Int → Int) (sv : Int) (li ot : Int → Int) (len : Int) (pd : Int → Int) (ty : Int) (wr : Int → Int) (wm : Int) (ss lz : Int → Int) (rm : Int) (lc sd r N : Int) (sg ln v : Int → Int) (hR : RwOk lc sd r sg ln N v) (hM : MR nw 0 lc sd r sg ln) : CTI l G tys y_M_longest b_M_longest 3 .int 1 21 [.ref q0] (mw cI q0 q1 q2 q3 q4 q5 q6 q7 q8 q9 nw pt np sl sv li ot len pd ty wr wm ss lz rm) (fun z u => u = mw cI q0 q1 q2 q3 q4 q5 q6 q7 q8 q9 nw pt np sl sv li ot len pd ty wr wm ss lz rm ∧ z = mx ln r) := by
  refine mkI (by decide) (Nat.le_of_ble_eq_true rfl) ?_
  rintro X rfl rfl rfl hRm C kret H ls w hl
  have hl : lv_has ls 3 [(0, .ref q0)] := hl
  have w : Wd X (mw cI q0 q1 q2 q3 q4 q5 q6 q7 q8 q9 nw pt np sl sv li ot len pd ty wr wm ss lz rm) H [] := w
  generalize ([] : List Loc) = locs at w ⊢
  have hO := hR.1
  have hr5 := hR.2.1
  have hN3 := hR.2.2.1
  have hN0 := hO.n0
  have hr0 := hO.1
  have hlcd := hR.2.2.2
  have hps := ps_zero ln
  have hpr := hO.2.2.2.1
  have hM9 := hM
  obtain ⟨hm0, hm1, hm2, hm3⟩ := hM
  rw [show (0 : Int) + 2 = 2 from rfl] at hm2
  rw [show (0 : Int) + 1 = 1 from rfl] at hm1
  have hm4 : ∀ k, 0 ≤ k → k < r → nw (3 + 2 * k) = sg k ∧ nw (4 + 2 * k) = ln k := fun k h1 h2 => by have := hm3 k h1 h2; rw [show (0 : Int) + 3 = 3 from rfl, show (0 : Int) + 4 = 4 from rfl] at this; exact this
  refine r_iconst (pc := 0) C d_M_longest_0 ?_
  refine r_istore_n (pc := 1) (lv' := [(1, .int (iI 0)), (0, .ref q0)]) C d_M_longest_1 rfl hl (by decide) rfl (fun ls hl => ?_)
  refine r_iconst (pc := 2) C d_M_longest_2 ?_
  refine r_istore_n (pc := 3) (lv' := [(2, .int (iI 0)), (1, .int (iI 0)), (0, .ref q0)]) C d_M_longest_3 rfl hl (by decide) rfl (fun ls hl => ?_)
  have L4 : ∀ (fuel : Nat), ∀ (i : Int) (m1 : Int), 0 ≤ i ∧ i ≤ r → m1 = mx ln i → 0 ≤ m1 ∧ m1 ≤ 3000 → (r - i) < (fuel : Int) → ∀ (H : Heap) (locs : List Loc) (ls : Array Slot), Wd X (mw cI q0 q1 q2 q3 q4 q5 q6 q7 q8 q9 nw pt np sl sv li ot len pd ty wr wm ss lz rm) H locs → lv_has ls 3 [(0, .ref q0), (1, .int (iI m1)), (2, .int (iI i))] → GG X 0 0 H locs 4 ls [] := by
    intro fuel
    induction fuel with
    | zero =>
      intro i m1 h0 hs hmr hfuel
      exact absurd hfuel (by omega)
    | succ fuel ih4 =>
      intro i m1 h0 hs hmr hfuel H locs ls w hl
      refine r_iload_n (pc := 4) C d_M_longest_4 rfl (lv_at hl 2 rfl) ?_
      refine r_aload_n (pc := 5) C d_M_longest_5 rfl (lv_at hl 0 rfl) ?_
      refine r_get (pc := 6) (v := .ref q1) C w i_M rfl 0 rfl 0 (by decide) fl_M_7 rfl rfl d_M_longest_6 ?_
      refine r_iconst (pc := 9) C d_M_longest_9 ?_
      refine r_iald (pc := 10) (f := nw) (i := 2) C w 0 1 rfl hT.1 (by omega) d_M_longest_10 ?_
      refine r_icmp_ge (pc := 11) (tgt := 39) C (by omega) d_M_longest_11 (by decide) (fun c_11 => ?_) (fun c_11 => ?_)
      · skip
        refine r_iload_n (pc := 39) C d_M_longest_39 rfl (lv_at hl 1 rfl) ?_
        exact kret _ _ _ _ m1 _ d_M_longest_40 w (⟨rfl, by rw [hs, show i = r by omega]⟩)
      · skip
        have hk2 := hO.run (k := i) (by omega) (by omega)
        have hk3 := hm4 i (by omega) (by omega)
        refine r_aload_n (pc := 14) C d_M_longest_14 rfl (lv_at hl 0 rfl) ?_
        refine r_iload_n (pc := 15) C d_M_longest_15 rfl (lv_at hl 2 rfl) ?_
        refine r_callVI (pc := 16) (As := [.int (iI i)]) (rest := []) (wr := []) C w (c_M_lengthOf hT q0 q1 q2 q3 q4 q5 q6 q7 q8 q9 nw pt np sl sv li ot len pd ty wr wm ss lz rm i (by omega)) ml_M_45 im_M_lengthOf se_M_lengthOf ini_M cd_M_lengthOf hd_M_lengthOf rfl (by rw [hRm]; exact ⟨⟨Nat.le_of_ble_eq_true rfl, Nat.le_of_ble_eq_true rfl⟩, Nat.le_of_ble_eq_true rfl, Nat.le_of_ble_eq_true rfl⟩) hl.1 [0, 1, 2, 3, 4, 5, 6, 7, 8, 9] [] ⟨rfl, rfl, by decide, by decide, by decide⟩ 0 rfl rfl rfl (Nat.le_of_ble_eq_true rfl) d_M_longest_16 (fun z_16 u_16 H locs hz_16 w => ?_)
        obtain ⟨rfl, rfl⟩ := hz_16
        have w : Wd X (mw cI q0 q1 q2 q3 q4 q5 q6 q7 q8 q9 nw pt np sl sv li ot len pd ty wr wm ss lz rm) H locs := w
        refine r_iload_n (pc := 19) C d_M_longest_19 rfl (lv_at hl 1 rfl) ?_
        refine r_icmp_le (pc := 20) (tgt := 31) C (by omega) d_M_longest_20 (by decide) (fun c_20 => ?_) (fun c_20 => ?_)
        · skip
          refine r_iload_n (pc := 31) C d_M_longest_31 rfl (lv_at hl 1 rfl) ?_
          refine r_istore_n (pc := 32) (lv' := [(1, .int (iI m1)), (0, .ref q0), (2, .int (iI i))]) C d_M_longest_32 rfl hl (by decide) rfl (fun ls hl => ?_)
          refine r_iinc (pc := 33) (j := 2) (lv' := [(2, .int (iI (i + 1))), (1, .int (iI m1)), (0, .ref q0)]) C d_M_longest_33 hl rfl (by decide) rfl (fun ls hl => ?_)
          refine r_goto (pc := 36) (tgt := 4) C d_M_longest_36 (by decide) ?_
          exact ih4 (i + 1) m1 (by omega) ((by rw [mx_succ _ (by omega), ← hs]; omega)) (by omega) (by omega) _ _ _ w (lv_sub hl [2, 1, 0] rfl)
        · skip
          refine r_aload_n (pc := 23) C d_M_longest_23 rfl (lv_at hl 0 rfl) ?_
          refine r_iload_n (pc := 24) C d_M_longest_24 rfl (lv_at hl 2 rfl) ?_
          refine r_callVI (pc := 25) (As := [.int (iI i)]) (rest := []) (wr := []) C w (c_M_lengthOf hT q0 q1 q2 q3 q4 q5 q6 q7 q8 q9 nw pt np sl sv li ot len pd ty wr wm ss lz rm i (by omega)) ml_M_45 im_M_lengthOf se_M_lengthOf ini_M cd_M_lengthOf hd_M_lengthOf rfl (by rw [hRm]; exact ⟨⟨Nat.le_of_ble_eq_true rfl, Nat.le_of_ble_eq_true rfl⟩, Nat.le_of_ble_eq_true rfl, Nat.le_of_ble_eq_true rfl⟩) hl.1 [0, 1, 2, 3, 4, 5, 6, 7, 8, 9] [] ⟨rfl, rfl, by decide, by decide, by decide⟩ 0 rfl rfl rfl (Nat.le_of_ble_eq_true rfl) d_M_longest_25 (fun z_25 u_25 H locs hz_25 w => ?_)
          obtain ⟨rfl, rfl⟩ := hz_25
          have w : Wd X (mw cI q0 q1 q2 q3 q4 q5 q6 q7 q8 q9 nw pt np sl sv li ot len pd ty wr wm ss lz rm) H locs := w
          refine r_goto (pc := 28) (tgt := 32) C d_M_longest_28 (by decide) ?_
          refine r_istore_n (pc := 32) (lv' := [(1, .int (iI (nw (4 + 2 * i)))), (0, .ref q0), (2, .int (iI i))]) C d_M_longest_32 rfl hl (by decide) rfl (fun ls hl => ?_)
          refine r_iinc (pc := 33) (j := 2) (lv' := [(2, .int (iI (i + 1))), (1, .int (iI (nw (4 + 2 * i)))), (0, .ref q0)]) C d_M_longest_33 hl rfl (by decide) rfl (fun ls hl => ?_)
          refine r_goto (pc := 36) (tgt := 4) C d_M_longest_36 (by decide) ?_
          exact ih4 (i + 1) (nw (4 + 2 * i)) (by omega) ((by rw [mx_succ _ (by omega), ← hs]; omega)) (by omega) (by omega) _ _ _ w (lv_sub hl [2, 1, 0] rfl)
  exact L4 ((r - 0) + 1 : Int).toNat 0 0 (by first | omega | rfl) (by first | omega | rfl) (by first | omega | rfl) (by omega) _ _ _ w (lv_sub hl [2, 1, 0] rfl)
theorem d_M_sumLive_0 : decode b_M_sumLive 0 = .ok (.iconst 0, 1) := by decide +kernel
theorem d_M_sumLive_1 : decode b_M_sumLive 1 = .ok (.istore_n 1, 1) := by decide +kernel
theorem d_M_sumLive_2 : decode b_M_sumLive 2 = .ok (.iconst 0, 1) := by decide +kernel
theorem d_M_sumLive_3 : decode b_M_sumLive 3 = .ok (.istore_n 2, 1) := by decide +kernel
theorem d_M_sumLive_4 : decode b_M_sumLive 4 = .ok (.iload_n 2, 1) := by decide +kernel
theorem d_M_sumLive_5 : decode b_M_sumLive 5 = .ok (.aload_n 0, 1) := by decide +kernel
theorem d_M_sumLive_6 : decode b_M_sumLive 6 = .ok (.getfield 7, 3) := by decide +kernel
theorem d_M_sumLive_9 : decode b_M_sumLive 9 = .ok (.iconst 2, 1) := by decide +kernel
theorem d_M_sumLive_10 : decode b_M_sumLive 10 = .ok (.iaload, 1) := by decide +kernel
theorem d_M_sumLive_11 : decode b_M_sumLive 11 = .ok (.if_icmp .ge 37, 3) := by decide +kernel
theorem d_M_sumLive_14 : decode b_M_sumLive 14 = .ok (.iload_n 1, 1) := by decide +kernel
theorem d_M_sumLive_15 : decode b_M_sumLive 15 = .ok (.aload_n 0, 1) := by decide +kernel
theorem d_M_sumLive_16 : decode b_M_sumLive 16 = .ok (.iload_n 2, 1) := by decide +kernel
theorem d_M_sumLive_17 : decode b_M_sumLive 17 = .ok (.invokevirtual 55, 3) := by decide +kernel
theorem d_M_sumLive_20 : decode b_M_sumLive 20 = .ok (.bipush 10, 2) := by decide +kernel
theorem d_M_sumLive_22 : decode b_M_sumLive 22 = .ok (.if_icmp .ne 7, 3) := by decide +kernel
theorem d_M_sumLive_25 : decode b_M_sumLive 25 = .ok (.iconst 0, 1) := by decide +kernel
theorem d_M_sumLive_26 : decode b_M_sumLive 26 = .ok (.goto 14, 3) := by decide +kernel
theorem d_M_sumLive_29 : decode b_M_sumLive 29 = .ok (.aload_n 0, 1) := by decide +kernel
theorem d_M_sumLive_30 : decode b_M_sumLive 30 = .ok (.iload_n 2, 1) := by decide +kernel
theorem d_M_sumLive_31 : decode b_M_sumLive 31 = .ok (.invokevirtual 55, 3) := by decide +kernel
theorem d_M_sumLive_34 : decode b_M_sumLive 34 = .ok (.aload_n 0, 1) := by decide +kernel
theorem d_M_sumLive_35 : decode b_M_sumLive 35 = .ok (.iload_n 2, 1) := by decide +kernel
theorem d_M_sumLive_36 : decode b_M_sumLive 36 = .ok (.invokevirtual 45, 3) := by decide +kernel
theorem d_M_sumLive_39 : decode b_M_sumLive 39 = .ok (.imul, 1) := by decide +kernel
theorem d_M_sumLive_40 : decode b_M_sumLive 40 = .ok (.iadd, 1) := by decide +kernel
theorem d_M_sumLive_41 : decode b_M_sumLive 41 = .ok (.istore_n 1, 1) := by decide +kernel
theorem d_M_sumLive_42 : decode b_M_sumLive 42 = .ok (.iinc 2 1, 3) := by decide +kernel
theorem d_M_sumLive_45 : decode b_M_sumLive 45 = .ok (.goto (-41), 3) := by decide +kernel
theorem d_M_sumLive_48 : decode b_M_sumLive 48 = .ok (.iload_n 1, 1) := by decide +kernel
theorem d_M_sumLive_49 : decode b_M_sumLive 49 = .ok (.ireturn, 1) := by decide +kernel
set_option maxHeartbeats 4000000 in
set_option maxRecDepth 20000 in
theorem c_M_sumLive {l : Launch} {G : va_G} {tys : List (ClassId × FieldType)} {cI cO cZ : ClassId} (hT : TY tys cI cO cZ) (q0 q1 q2 q3 q4 q5 q6 q7 q8 q9 : Nat) (nw pt : Int → Int) (np : Int) (sl : Int → Int) (sv : Int) (li ot : Int → Int) (len : Int) (pd : Int → Int) (ty : Int) (wr : Int → Int) (wm : Int) (ss lz : Int → Int) (rm : Int) (lc sd r N : Int) (sg ln v : Int → Int) (hR : RwOk lc sd r sg ln N v) (hM : MR nw 0 lc sd r sg ln) : CTI l G tys y_M_sumLive b_M_sumLive 3 .int 1 21 [.ref q0] (mw cI q0 q1 q2 q3 q4 q5 q6 q7 q8 q9 nw pt np sl sv li ot len pd ty wr wm ss lz rm) (fun z u => u = mw cI q0 q1 q2 q3 q4 q5 q6 q7 q8 q9 nw pt np sl sv li ot len pd ty wr wm ss lz rm ∧ z = ps (smf sg ln) r) := by
  refine mkI (by decide) (Nat.le_of_ble_eq_true rfl) ?_
  rintro X rfl rfl rfl hRm C kret H ls w hl
  have hl : lv_has ls 3 [(0, .ref q0)] := hl
  have w : Wd X (mw cI q0 q1 q2 q3 q4 q5 q6 q7 q8 q9 nw pt np sl sv li ot len pd ty wr wm ss lz rm) H [] := w
  generalize ([] : List Loc) = locs at w ⊢
  have hO := hR.1
  have hr5 := hR.2.1
  have hN3 := hR.2.2.1
  have hN0 := hO.n0
  have hr0 := hO.1
  have hlcd := hR.2.2.2
  have hps := ps_zero ln
  have hpr := hO.2.2.2.1
  have hM9 := hM
  obtain ⟨hm0, hm1, hm2, hm3⟩ := hM
  rw [show (0 : Int) + 2 = 2 from rfl] at hm2
  rw [show (0 : Int) + 1 = 1 from rfl] at hm1
  have hm4 : ∀ k, 0 ≤ k → k < r → nw (3 + 2 * k) = sg k ∧ nw (4 + 2 * k) = ln k := fun k h1 h2 => by have := hm3 k h1 h2; rw [show (0 : Int) + 3 = 3 from rfl, show (0 : Int) + 4 = 4 from rfl] at this; exact this
  refine r_iconst (pc := 0) C d_M_sumLive_0 ?_
  refine r_istore_n (pc := 1) (lv' := [(1, .int (iI 0)), (0, .ref q0)]) C d_M_sumLive_1 rfl hl (by decide) rfl (fun ls hl => ?_)
  refine r_iconst (pc := 2) C d_M_sumLive_2 ?_
  refine r_istore_n (pc := 3) (lv' := [(2, .int (iI 0)), (1, .int (iI 0)), (0, .ref q0)]) C d_M_sumLive_3 rfl hl (by decide) rfl (fun ls hl => ?_)
  have L4 : ∀ (fuel : Nat), ∀ (i : Int) (s : Int), 0 ≤ i ∧ i ≤ r → s = ps (smf sg ln) i → (r - i) < (fuel : Int) → ∀ (H : Heap) (locs : List Loc) (ls : Array Slot), Wd X (mw cI q0 q1 q2 q3 q4 q5 q6 q7 q8 q9 nw pt np sl sv li ot len pd ty wr wm ss lz rm) H locs → lv_has ls 3 [(0, .ref q0), (1, .int (iI s)), (2, .int (iI i))] → GG X 0 0 H locs 4 ls [] := by
    intro fuel
    induction fuel with
    | zero =>
      intro i s h0 hs hfuel
      exact absurd hfuel (by omega)
    | succ fuel ih4 =>
      intro i s h0 hs hfuel H locs ls w hl
      refine r_iload_n (pc := 4) C d_M_sumLive_4 rfl (lv_at hl 2 rfl) ?_
      refine r_aload_n (pc := 5) C d_M_sumLive_5 rfl (lv_at hl 0 rfl) ?_
      refine r_get (pc := 6) (v := .ref q1) C w i_M rfl 0 rfl 0 (by decide) fl_M_7 rfl rfl d_M_sumLive_6 ?_
      refine r_iconst (pc := 9) C d_M_sumLive_9 ?_
      refine r_iald (pc := 10) (f := nw) (i := 2) C w 0 1 rfl hT.1 (by omega) d_M_sumLive_10 ?_
      refine r_icmp_ge (pc := 11) (tgt := 48) C (by omega) d_M_sumLive_11 (by decide) (fun c_11 => ?_) (fun c_11 => ?_)
      · skip
        refine r_iload_n (pc := 48) C d_M_sumLive_48 rfl (lv_at hl 1 rfl) ?_
        exact kret _ _ _ _ s _ d_M_sumLive_49 w (⟨rfl, by rw [hs, show i = r by omega]⟩)
      · skip
        have hk2 := hO.run (k := i) (by omega) (by omega)
        have hk3 := hm4 i (by omega) (by omega)
        refine r_iload_n (pc := 14) C d_M_sumLive_14 rfl (lv_at hl 1 rfl) ?_
        refine r_aload_n (pc := 15) C d_M_sumLive_15 rfl (lv_at hl 0 rfl) ?_
        refine r_iload_n (pc := 16) C d_M_sumLive_16 rfl (lv_at hl 2 rfl) ?_
        refine r_callVI (pc := 17) (As := [.int (iI i)]) (rest := [.int (iI s)]) (wr := []) C w (c_M_signOf hT q0 q1 q2 q3 q4 q5 q6 q7 q8 q9 nw pt np sl sv li ot len pd ty wr wm ss lz rm i (by omega)) ml_M_55 im_M_signOf se_M_signOf ini_M cd_M_signOf hd_M_signOf rfl (by rw [hRm]; exact ⟨⟨Nat.le_of_ble_eq_true rfl, Nat.le_of_ble_eq_true rfl⟩, Nat.le_of_ble_eq_true rfl, Nat.le_of_ble_eq_true rfl⟩) hl.1 [0, 1, 2, 3, 4, 5, 6, 7, 8, 9] [] ⟨rfl, rfl, by decide, by decide, by decide⟩ 0 rfl rfl rfl (Nat.le_of_ble_eq_true rfl) d_M_sumLive_17 (fun z_17 u_17 H locs hz_17 w => ?_)
        obtain ⟨rfl, rfl⟩ := hz_17
        have w : Wd X (mw cI q0 q1 q2 q3 q4 q5 q6 q7 q8 q9 nw pt np sl sv li ot len pd ty wr wm ss lz rm) H locs := w
        refine r_bipush (pc := 20) C d_M_sumLive_20 (by decide) ?_
        refine r_icmp_ne (pc := 22) (tgt := 29) C (by omega) d_M_sumLive_22 (by decide) (fun c_22 => ?_) (fun c_22 => ?_)
        · skip
          refine r_aload_n (pc := 29) C d_M_sumLive_29 rfl (lv_at hl 0 rfl) ?_
          refine r_iload_n (pc := 30) C d_M_sumLive_30 rfl (lv_at hl 2 rfl) ?_
          refine r_callVI (pc := 31) (As := [.int (iI i)]) (rest := [.int (iI s)]) (wr := []) C w (c_M_signOf hT q0 q1 q2 q3 q4 q5 q6 q7 q8 q9 nw pt np sl sv li ot len pd ty wr wm ss lz rm i (by omega)) ml_M_55 im_M_signOf se_M_signOf ini_M cd_M_signOf hd_M_signOf rfl (by rw [hRm]; exact ⟨⟨Nat.le_of_ble_eq_true rfl, Nat.le_of_ble_eq_true rfl⟩, Nat.le_of_ble_eq_true rfl, Nat.le_of_ble_eq_true rfl⟩) hl.1 [0, 1, 2, 3, 4, 5, 6, 7, 8, 9] [] ⟨rfl, rfl, by decide, by decide, by decide⟩ 0 rfl rfl rfl (Nat.le_of_ble_eq_true rfl) d_M_sumLive_31 (fun z_31 u_31 H locs hz_31 w => ?_)
          obtain ⟨rfl, rfl⟩ := hz_31
          have w : Wd X (mw cI q0 q1 q2 q3 q4 q5 q6 q7 q8 q9 nw pt np sl sv li ot len pd ty wr wm ss lz rm) H locs := w
          refine r_aload_n (pc := 34) C d_M_sumLive_34 rfl (lv_at hl 0 rfl) ?_
          refine r_iload_n (pc := 35) C d_M_sumLive_35 rfl (lv_at hl 2 rfl) ?_
          refine r_callVI (pc := 36) (As := [.int (iI i)]) (rest := [.int (iI (nw (3 + 2 * i))), .int (iI s)]) (wr := []) C w (c_M_lengthOf hT q0 q1 q2 q3 q4 q5 q6 q7 q8 q9 nw pt np sl sv li ot len pd ty wr wm ss lz rm i (by omega)) ml_M_45 im_M_lengthOf se_M_lengthOf ini_M cd_M_lengthOf hd_M_lengthOf rfl (by rw [hRm]; exact ⟨⟨Nat.le_of_ble_eq_true rfl, Nat.le_of_ble_eq_true rfl⟩, Nat.le_of_ble_eq_true rfl, Nat.le_of_ble_eq_true rfl⟩) hl.1 [0, 1, 2, 3, 4, 5, 6, 7, 8, 9] [] ⟨rfl, rfl, by decide, by decide, by decide⟩ 0 rfl rfl rfl (Nat.le_of_ble_eq_true rfl) d_M_sumLive_36 (fun z_36 u_36 H locs hz_36 w => ?_)
          obtain ⟨rfl, rfl⟩ := hz_36
          have w : Wd X (mw cI q0 q1 q2 q3 q4 q5 q6 q7 q8 q9 nw pt np sl sv li ot len pd ty wr wm ss lz rm) H locs := w
          refine r_imul (pc := 39) C d_M_sumLive_39 ?_
          refine r_iadd (pc := 40) C d_M_sumLive_40 ?_
          refine r_istore_n (pc := 41) (lv' := [(1, .int (iI (s + ((nw (3 + 2 * i)) * (nw (4 + 2 * i)))))), (0, .ref q0), (2, .int (iI i))]) C d_M_sumLive_41 rfl hl (by decide) rfl (fun ls hl => ?_)
          refine r_iinc (pc := 42) (j := 2) (lv' := [(2, .int (iI (i + 1))), (1, .int (iI (s + ((nw (3 + 2 * i)) * (nw (4 + 2 * i)))))), (0, .ref q0)]) C d_M_sumLive_42 hl rfl (by decide) rfl (fun ls hl => ?_)
          refine r_goto (pc := 45) (tgt := 4) C d_M_sumLive_45 (by decide) ?_
          exact ih4 (i + 1) (s + ((nw (3 + 2 * i)) * (nw (4 + 2 * i)))) (by omega) ((by rw [ps_succ _ (by omega), hs]; unfold smf; first | rw [if_pos (by omega)] | rw [if_neg (by omega), hk3.1, hk3.2])) (by omega) _ _ _ w (lv_sub hl [2, 1, 0] rfl)
        · skip
          refine r_iconst (pc := 25) C d_M_sumLive_25 ?_
          refine r_goto (pc := 26) (tgt := 40) C d_M_sumLive_26 (by decide) ?_
          refine r_iadd (pc := 40) C d_M_sumLive_40 ?_
          refine r_istore_n (pc := 41) (lv' := [(1, .int (iI (s + 0))), (0, .ref q0), (2, .int (iI i))]) C d_M_sumLive_41 rfl hl (by decide) rfl (fun ls hl => ?_)
          refine r_iinc (pc := 42) (j := 2) (lv' := [(2, .int (iI (i + 1))), (1, .int (iI (s + 0))), (0, .ref q0)]) C d_M_sumLive_42 hl rfl (by decide) rfl (fun ls hl => ?_)
          refine r_goto (pc := 45) (tgt := 4) C d_M_sumLive_45 (by decide) ?_
          exact ih4 (i + 1) (s + 0) (by omega) ((by rw [ps_succ _ (by omega), hs]; unfold smf; first | rw [if_pos (by omega)] | rw [if_neg (by omega), hk3.1, hk3.2])) (by omega) _ _ _ w (lv_sub hl [2, 1, 0] rfl)
  exact L4 ((r - 0) + 1 : Int).toNat 0 0 (by first | omega | rfl) (by first | omega | rfl) (by omega) _ _ _ w (lv_sub hl [2, 1, 0] rfl)
theorem d_M_lengthBit_0 : decode b_M_lengthBit 0 = .ok (.iload_n 1, 1) := by decide +kernel
theorem d_M_lengthBit_1 : decode b_M_lengthBit 1 = .ok (.invokestatic 90, 3) := by decide +kernel
theorem d_M_lengthBit_4 : decode b_M_lengthBit 4 = .ok (.istore_n 3, 1) := by decide +kernel
theorem d_M_lengthBit_5 : decode b_M_lengthBit 5 = .ok (.aload_n 0, 1) := by decide +kernel
theorem d_M_lengthBit_6 : decode b_M_lengthBit 6 = .ok (.getfield 7, 3) := by decide +kernel
theorem d_M_lengthBit_9 : decode b_M_lengthBit 9 = .ok (.iconst 0, 1) := by decide +kernel
theorem d_M_lengthBit_10 : decode b_M_lengthBit 10 = .ok (.iaload, 1) := by decide +kernel
theorem d_M_lengthBit_11 : decode b_M_lengthBit 11 = .ok (.ifCond .ne 11, 3) := by decide +kernel
theorem d_M_lengthBit_14 : decode b_M_lengthBit 14 = .ok (.iload_n 1, 1) := by decide +kernel
theorem d_M_lengthBit_15 : decode b_M_lengthBit 15 = .ok (.bipush 12, 2) := by decide +kernel
theorem d_M_lengthBit_17 : decode b_M_lengthBit 17 = .ok (.iload_n 2, 1) := by decide +kernel
theorem d_M_lengthBit_18 : decode b_M_lengthBit 18 = .ok (.invokestatic 122, 3) := by decide +kernel
theorem d_M_lengthBit_21 : decode b_M_lengthBit 21 = .ok (.ireturn, 1) := by decide +kernel
theorem d_M_lengthBit_22 : decode b_M_lengthBit 22 = .ok (.aload_n 0, 1) := by decide +kernel
theorem d_M_lengthBit_23 : decode b_M_lengthBit 23 = .ok (.getfield 7, 3) := by decide +kernel
theorem d_M_lengthBit_26 : decode b_M_lengthBit 26 = .ok (.iconst 0, 1) := by decide +kernel
theorem d_M_lengthBit_27 : decode b_M_lengthBit 27 = .ok (.iaload, 1) := by decide +kernel
theorem d_M_lengthBit_28 : decode b_M_lengthBit 28 = .ok (.iconst 1, 1) := by decide +kernel
theorem d_M_lengthBit_29 : decode b_M_lengthBit 29 = .ok (.if_icmp .ne 25, 3) := by decide +kernel
theorem d_M_lengthBit_32 : decode b_M_lengthBit 32 = .ok (.iload_n 2, 1) := by decide +kernel
theorem d_M_lengthBit_33 : decode b_M_lengthBit 33 = .ok (.iload_n 3, 1) := by decide +kernel
theorem d_M_lengthBit_34 : decode b_M_lengthBit 34 = .ok (.iconst 1, 1) := by decide +kernel
theorem d_M_lengthBit_35 : decode b_M_lengthBit 35 = .ok (.isub, 1) := by decide +kernel
theorem d_M_lengthBit_36 : decode b_M_lengthBit 36 = .ok (.if_icmp .ge 7, 3) := by decide +kernel
theorem d_M_lengthBit_39 : decode b_M_lengthBit 39 = .ok (.iconst 0, 1) := by decide +kernel
theorem d_M_lengthBit_40 : decode b_M_lengthBit 40 = .ok (.goto 13, 3) := by decide +kernel
theorem d_M_lengthBit_43 : decode b_M_lengthBit 43 = .ok (.iload_n 1, 1) := by decide +kernel
theorem d_M_lengthBit_44 : decode b_M_lengthBit 44 = .ok (.iload_n 3, 1) := by decide +kernel
theorem d_M_lengthBit_45 : decode b_M_lengthBit 45 = .ok (.iload_n 2, 1) := by decide +kernel
theorem d_M_lengthBit_46 : decode b_M_lengthBit 46 = .ok (.iload_n 3, 1) := by decide +kernel
theorem d_M_lengthBit_47 : decode b_M_lengthBit 47 = .ok (.isub, 1) := by decide +kernel
theorem d_M_lengthBit_48 : decode b_M_lengthBit 48 = .ok (.iconst 1, 1) := by decide +kernel
theorem d_M_lengthBit_49 : decode b_M_lengthBit 49 = .ok (.iadd, 1) := by decide +kernel
theorem d_M_lengthBit_50 : decode b_M_lengthBit 50 = .ok (.invokestatic 122, 3) := by decide +kernel
theorem d_M_lengthBit_53 : decode b_M_lengthBit 53 = .ok (.ireturn, 1) := by decide +kernel
theorem d_M_lengthBit_54 : decode b_M_lengthBit 54 = .ok (.iload_n 3, 1) := by decide +kernel
theorem d_M_lengthBit_55 : decode b_M_lengthBit 55 = .ok (.invokestatic 90, 3) := by decide +kernel
theorem d_M_lengthBit_58 : decode b_M_lengthBit 58 = .ok (.istore 4, 2) := by decide +kernel
theorem d_M_lengthBit_60 : decode b_M_lengthBit 60 = .ok (.iload_n 2, 1) := by decide +kernel
theorem d_M_lengthBit_61 : decode b_M_lengthBit 61 = .ok (.iload 4, 2) := by decide +kernel
theorem d_M_lengthBit_63 : decode b_M_lengthBit 63 = .ok (.iconst 1, 1) := by decide +kernel
theorem d_M_lengthBit_64 : decode b_M_lengthBit 64 = .ok (.isub, 1) := by decide +kernel
theorem d_M_lengthBit_65 : decode b_M_lengthBit 65 = .ok (.if_icmp .ge 7, 3) := by decide +kernel
theorem d_M_lengthBit_68 : decode b_M_lengthBit 68 = .ok (.iconst 0, 1) := by decide +kernel
theorem d_M_lengthBit_69 : decode b_M_lengthBit 69 = .ok (.goto 41, 3) := by decide +kernel
theorem d_M_lengthBit_72 : decode b_M_lengthBit 72 = .ok (.iload_n 2, 1) := by decide +kernel
theorem d_M_lengthBit_73 : decode b_M_lengthBit 73 = .ok (.iconst 2, 1) := by decide +kernel
theorem d_M_lengthBit_74 : decode b_M_lengthBit 74 = .ok (.iload 4, 2) := by decide +kernel
theorem d_M_lengthBit_76 : decode b_M_lengthBit 76 = .ok (.imul, 1) := by decide +kernel
theorem d_M_lengthBit_77 : decode b_M_lengthBit 77 = .ok (.iconst 1, 1) := by decide +kernel
theorem d_M_lengthBit_78 : decode b_M_lengthBit 78 = .ok (.isub, 1) := by decide +kernel
theorem d_M_lengthBit_79 : decode b_M_lengthBit 79 = .ok (.if_icmp .ge 18, 3) := by decide +kernel
theorem d_M_lengthBit_82 : decode b_M_lengthBit 82 = .ok (.iload_n 3, 1) := by decide +kernel
theorem d_M_lengthBit_83 : decode b_M_lengthBit 83 = .ok (.iload 4, 2) := by decide +kernel
theorem d_M_lengthBit_85 : decode b_M_lengthBit 85 = .ok (.iload_n 2, 1) := by decide +kernel
theorem d_M_lengthBit_86 : decode b_M_lengthBit 86 = .ok (.iload 4, 2) := by decide +kernel
theorem d_M_lengthBit_88 : decode b_M_lengthBit 88 = .ok (.isub, 1) := by decide +kernel
theorem d_M_lengthBit_89 : decode b_M_lengthBit 89 = .ok (.iconst 1, 1) := by decide +kernel
theorem d_M_lengthBit_90 : decode b_M_lengthBit 90 = .ok (.iadd, 1) := by decide +kernel
theorem d_M_lengthBit_91 : decode b_M_lengthBit 91 = .ok (.invokestatic 122, 3) := by decide +kernel
theorem d_M_lengthBit_94 : decode b_M_lengthBit 94 = .ok (.goto 16, 3) := by decide +kernel
theorem d_M_lengthBit_97 : decode b_M_lengthBit 97 = .ok (.iload_n 1, 1) := by decide +kernel
theorem d_M_lengthBit_98 : decode b_M_lengthBit 98 = .ok (.iload_n 3, 1) := by decide +kernel
theorem d_M_lengthBit_99 : decode b_M_lengthBit 99 = .ok (.iload_n 2, 1) := by decide +kernel
theorem d_M_lengthBit_100 : decode b_M_lengthBit 100 = .ok (.iconst 2, 1) := by decide +kernel
theorem d_M_lengthBit_101 : decode b_M_lengthBit 101 = .ok (.iload 4, 2) := by decide +kernel
theorem d_M_lengthBit_103 : decode b_M_lengthBit 103 = .ok (.imul, 1) := by decide +kernel
theorem d_M_lengthBit_104 : decode b_M_lengthBit 104 = .ok (.isub, 1) := by decide +kernel
theorem d_M_lengthBit_105 : decode b_M_lengthBit 105 = .ok (.iconst 2, 1) := by decide +kernel
theorem d_M_lengthBit_106 : decode b_M_lengthBit 106 = .ok (.iadd, 1) := by decide +kernel
theorem d_M_lengthBit_107 : decode b_M_lengthBit 107 = .ok (.invokestatic 122, 3) := by decide +kernel
theorem d_M_lengthBit_110 : decode b_M_lengthBit 110 = .ok (.ireturn, 1) := by decide +kernel
set_option maxHeartbeats 4000000 in
set_option maxRecDepth 20000 in
theorem c_M_lengthBit {l : Launch} {G : va_G} {tys : List (ClassId × FieldType)} {cI cO cZ : ClassId} (hT : TY tys cI cO cZ) (q0 q1 q2 q3 q4 q5 q6 q7 q8 q9 : Nat) (nw pt : Int → Int) (np : Int) (sl : Int → Int) (sv : Int) (li ot : Int → Int) (len : Int) (pd : Int → Int) (ty : Int) (wr : Int → Int) (wm : Int) (ss lz : Int → Int) (rm : Int) (n a : Int) (h : 1 ≤ n ∧ n < 2147483648) (hc : 0 ≤ nw 0 ∧ nw 0 ≤ 2) (ha : 0 ≤ a ∧ a < 1000) : CTI l G tys y_M_lengthBit b_M_lengthBit 5 .int 1 22 [.ref q0, .int (iI n), .int (iI a)] (mw cI q0 q1 q2 q3 q4 q5 q6 q7 q8 q9 nw pt np sl sv li ot len pd ty wr wm ss lz rm) (fun z u => u = mw cI q0 q1 q2 q3 q4 q5 q6 q7 q8 q9 nw pt np sl sv li ot len pd ty wr wm ss lz rm ∧ z = lbit (nw 0) n a) := by
  refine mkI (by decide) (Nat.le_of_ble_eq_true rfl) ?_
  rintro X rfl rfl rfl hRm C kret H ls w hl
  have hl : lv_has ls 5 [(0, .ref q0), (1, .int (iI n)), (2, .int (iI a))] := hl
  have w : Wd X (mw cI q0 q1 q2 q3 q4 q5 q6 q7 q8 q9 nw pt np sl sv li ot len pd ty wr wm ss lz rm) H [] := w
  generalize ([] : List Loc) = locs at w ⊢
  refine r_iload_n (pc := 0) C d_M_lengthBit_0 rfl (lv_at hl 1 rfl) ?_
  refine r_callP (pc := 1) (As := [.int (iI n)]) (rest := []) C w (c_M_bitsOf n (by omega)) ml_M_90 st_M_bitsOf ini_M cd_M_bitsOf hd_M_bitsOf rfl (by rw [hRm]; exact ⟨⟨Nat.le_of_ble_eq_true rfl, Nat.le_of_ble_eq_true rfl⟩, Nat.le_of_ble_eq_true rfl, Nat.le_of_ble_eq_true rfl⟩) hl.1 rfl (Nat.le_of_ble_eq_true rfl) d_M_lengthBit_1 (fun z_1 H locs hz_1 w => ?_)
  subst hz_1
  have hbl := bl_rg (n := n) (by omega)
  refine r_istore_n (pc := 4) (lv' := [(3, .int (iI (bl n))), (0, .ref q0), (1, .int (iI n)), (2, .int (iI a))]) C d_M_lengthBit_4 rfl hl (by decide) rfl (fun ls hl => ?_)
  refine r_aload_n (pc := 5) C d_M_lengthBit_5 rfl (lv_at hl 1 rfl) ?_
  refine r_get (pc := 6) (v := .ref q1) C w i_M rfl 0 rfl 0 (by decide) fl_M_7 rfl rfl d_M_lengthBit_6 ?_
  refine r_iconst (pc := 9) C d_M_lengthBit_9 ?_
  refine r_iald (pc := 10) (f := nw) (i := 0) C w 0 1 rfl hT.1 (by omega) d_M_lengthBit_10 ?_
  refine r_if_ne (pc := 11) (tgt := 22) C (by omega) d_M_lengthBit_11 (by decide) (fun c_11 => ?_) (fun c_11 => ?_)
  · skip
    refine r_aload_n (pc := 22) C d_M_lengthBit_22 rfl (lv_at hl 1 rfl) ?_
    refine r_get (pc := 23) (v := .ref q1) C w i_M rfl 0 rfl 0 (by decide) fl_M_7 rfl rfl d_M_lengthBit_23 ?_
    refine r_iconst (pc := 26) C d_M_lengthBit_26 ?_
    refine r_iald (pc := 27) (f := nw) (i := 0) C w 0 1 rfl hT.1 (by omega) d_M_lengthBit_27 ?_
    refine r_iconst (pc := 28) C d_M_lengthBit_28 ?_
    refine r_icmp_ne (pc := 29) (tgt := 54) C (by omega) d_M_lengthBit_29 (by decide) (fun c_29 => ?_) (fun c_29 => ?_)
    · skip
      refine r_iload_n (pc := 54) C d_M_lengthBit_54 rfl (lv_at hl 0 rfl) ?_
      refine r_callP (pc := 55) (As := [.int (iI (bl n))]) (rest := []) C w (c_M_bitsOf (bl n) (by omega)) ml_M_90 st_M_bitsOf ini_M cd_M_bitsOf hd_M_bitsOf rfl (by rw [hRm]; exact ⟨⟨Nat.le_of_ble_eq_true rfl, Nat.le_of_ble_eq_true rfl⟩, Nat.le_of_ble_eq_true rfl, Nat.le_of_ble_eq_true rfl⟩) hl.1 rfl (Nat.le_of_ble_eq_true rfl) d_M_lengthBit_55 (fun z_55 H locs hz_55 w => ?_)
      subst hz_55
      have hbl := bl_rg (n := (bl n)) (by omega)
      refine r_istore (pc := 58) (lv' := [(4, .int (iI (bl (bl n)))), (3, .int (iI (bl n))), (0, .ref q0), (1, .int (iI n)), (2, .int (iI a))]) C d_M_lengthBit_58 hl (by decide) rfl (fun ls hl => ?_)
      refine r_iload_n (pc := 60) C d_M_lengthBit_60 rfl (lv_at hl 4 rfl) ?_
      refine r_iload (pc := 61) C d_M_lengthBit_61 (lv_at hl 0 rfl) ?_
      refine r_iconst (pc := 63) C d_M_lengthBit_63 ?_
      refine r_isub (pc := 64) C d_M_lengthBit_64 ?_
      refine r_icmp_ge (pc := 65) (tgt := 72) C (by omega) d_M_lengthBit_65 (by decide) (fun c_65 => ?_) (fun c_65 => ?_)
      · skip
        refine r_iload_n (pc := 72) C d_M_lengthBit_72 rfl (lv_at hl 4 rfl) ?_
        refine r_iconst (pc := 73) C d_M_lengthBit_73 ?_
        refine r_iload (pc := 74) C d_M_lengthBit_74 (lv_at hl 0 rfl) ?_
        refine r_imul (pc := 76) C d_M_lengthBit_76 ?_
        refine r_iconst (pc := 77) C d_M_lengthBit_77 ?_
        refine r_isub (pc := 78) C d_M_lengthBit_78 ?_
        refine r_icmp_ge (pc := 79) (tgt := 97) C (by omega) d_M_lengthBit_79 (by decide) (fun c_79 => ?_) (fun c_79 => ?_)
        · skip
          refine r_iload_n (pc := 97) C d_M_lengthBit_97 rfl (lv_at hl 3 rfl) ?_
          refine r_iload_n (pc := 98) C d_M_lengthBit_98 rfl (lv_at hl 1 rfl) ?_
          refine r_iload_n (pc := 99) C d_M_lengthBit_99 rfl (lv_at hl 4 rfl) ?_
          refine r_iconst (pc := 100) C d_M_lengthBit_100 ?_
          refine r_iload (pc := 101) C d_M_lengthBit_101 (lv_at hl 0 rfl) ?_
          refine r_imul (pc := 103) C d_M_lengthBit_103 ?_
          refine r_isub (pc := 104) C d_M_lengthBit_104 ?_
          refine r_iconst (pc := 105) C d_M_lengthBit_105 ?_
          refine r_iadd (pc := 106) C d_M_lengthBit_106 ?_
          refine r_callP (pc := 107) (As := [.int (iI n), .int (iI (bl n)), .int (iI ((a - (2 * (bl (bl n)))) + 2))]) (rest := []) C w (c_M_bitAt n (bl n) ((a - (2 * (bl (bl n)))) + 2) ) ml_M_122 st_M_bitAt ini_M cd_M_bitAt hd_M_bitAt rfl (by rw [hRm]; exact ⟨⟨Nat.le_of_ble_eq_true rfl, Nat.le_of_ble_eq_true rfl⟩, Nat.le_of_ble_eq_true rfl, Nat.le_of_ble_eq_true rfl⟩) hl.1 rfl (Nat.le_of_ble_eq_true rfl) d_M_lengthBit_107 (fun z_107 H locs hz_107 w => ?_)
          subst hz_107
          exact kret _ _ _ _ (bnr n ((bl n) - 1 - ((a - (2 * (bl (bl n)))) + 2))) _ d_M_lengthBit_110 w (⟨rfl, by unfold lbit; (repeat' split) <;> first | omega | (congr 1 <;> omega) | (exfalso; omega)⟩)
        · skip
          refine r_iload_n (pc := 82) C d_M_lengthBit_82 rfl (lv_at hl 1 rfl) ?_
          refine r_iload (pc := 83) C d_M_lengthBit_83 (lv_at hl 0 rfl) ?_
          refine r_iload_n (pc := 85) C d_M_lengthBit_85 rfl (lv_at hl 4 rfl) ?_
          refine r_iload (pc := 86) C d_M_lengthBit_86 (lv_at hl 0 rfl) ?_
          refine r_isub (pc := 88) C d_M_lengthBit_88 ?_
          refine r_iconst (pc := 89) C d_M_lengthBit_89 ?_
          refine r_iadd (pc := 90) C d_M_lengthBit_90 ?_
          refine r_callP (pc := 91) (As := [.int (iI (bl n)), .int (iI (bl (bl n))), .int (iI ((a - (bl (bl n))) + 1))]) (rest := []) C w (c_M_bitAt (bl n) (bl (bl n)) ((a - (bl (bl n))) + 1) ) ml_M_122 st_M_bitAt ini_M cd_M_bitAt hd_M_bitAt rfl (by rw [hRm]; exact ⟨⟨Nat.le_of_ble_eq_true rfl, Nat.le_of_ble_eq_true rfl⟩, Nat.le_of_ble_eq_true rfl, Nat.le_of_ble_eq_true rfl⟩) hl.1 rfl (Nat.le_of_ble_eq_true rfl) d_M_lengthBit_91 (fun z_91 H locs hz_91 w => ?_)
          subst hz_91
          refine r_goto (pc := 94) (tgt := 110) C d_M_lengthBit_94 (by decide) ?_
          exact kret _ _ _ _ (bnr (bl n) ((bl (bl n)) - 1 - ((a - (bl (bl n))) + 1))) _ d_M_lengthBit_110 w (⟨rfl, by unfold lbit; (repeat' split) <;> first | omega | (congr 1 <;> omega) | (exfalso; omega)⟩)
      · skip
        refine r_iconst (pc := 68) C d_M_lengthBit_68 ?_
        refine r_goto (pc := 69) (tgt := 110) C d_M_lengthBit_69 (by decide) ?_
        exact kret _ _ _ _ 0 _ d_M_lengthBit_110 w (⟨rfl, by unfold lbit; (repeat' split) <;> first | omega | (congr 1 <;> omega) | (exfalso; omega)⟩)
    · skip
      refine r_iload_n (pc := 32) C d_M_lengthBit_32 rfl (lv_at hl 3 rfl) ?_
      refine r_iload_n (pc := 33) C d_M_lengthBit_33 rfl (lv_at hl 0 rfl) ?_
      refine r_iconst (pc := 34) C d_M_lengthBit_34 ?_
      refine r_isub (pc := 35) C d_M_lengthBit_35 ?_
      refine r_icmp_ge (pc := 36) (tgt := 43) C (by omega) d_M_lengthBit_36 (by decide) (fun c_36 => ?_) (fun c_36 => ?_)
      · skip
        refine r_iload_n (pc := 43) C d_M_lengthBit_43 rfl (lv_at hl 2 rfl) ?_
        refine r_iload_n (pc := 44) C d_M_lengthBit_44 rfl (lv_at hl 0 rfl) ?_
        refine r_iload_n (pc := 45) C d_M_lengthBit_45 rfl (lv_at hl 3 rfl) ?_
        refine r_iload_n (pc := 46) C d_M_lengthBit_46 rfl (lv_at hl 0 rfl) ?_
        refine r_isub (pc := 47) C d_M_lengthBit_47 ?_
        refine r_iconst (pc := 48) C d_M_lengthBit_48 ?_
        refine r_iadd (pc := 49) C d_M_lengthBit_49 ?_
        refine r_callP (pc := 50) (As := [.int (iI n), .int (iI (bl n)), .int (iI ((a - (bl n)) + 1))]) (rest := []) C w (c_M_bitAt n (bl n) ((a - (bl n)) + 1) ) ml_M_122 st_M_bitAt ini_M cd_M_bitAt hd_M_bitAt rfl (by rw [hRm]; exact ⟨⟨Nat.le_of_ble_eq_true rfl, Nat.le_of_ble_eq_true rfl⟩, Nat.le_of_ble_eq_true rfl, Nat.le_of_ble_eq_true rfl⟩) hl.1 rfl (Nat.le_of_ble_eq_true rfl) d_M_lengthBit_50 (fun z_50 H locs hz_50 w => ?_)
        subst hz_50
        exact kret _ _ _ _ (bnr n ((bl n) - 1 - ((a - (bl n)) + 1))) _ d_M_lengthBit_53 w (⟨rfl, by unfold lbit; (repeat' split) <;> first | omega | (congr 1 <;> omega) | (exfalso; omega)⟩)
      · skip
        refine r_iconst (pc := 39) C d_M_lengthBit_39 ?_
        refine r_goto (pc := 40) (tgt := 53) C d_M_lengthBit_40 (by decide) ?_
        exact kret _ _ _ _ 0 _ d_M_lengthBit_53 w (⟨rfl, by unfold lbit; (repeat' split) <;> first | omega | (congr 1 <;> omega) | (exfalso; omega)⟩)
  · skip
    refine r_iload_n (pc := 14) C d_M_lengthBit_14 rfl (lv_at hl 2 rfl) ?_
    refine r_bipush (pc := 15) C d_M_lengthBit_15 (by decide) ?_
    refine r_iload_n (pc := 17) C d_M_lengthBit_17 rfl (lv_at hl 3 rfl) ?_
    refine r_callP (pc := 18) (As := [.int (iI n), .int (iI 12), .int (iI a)]) (rest := []) C w (c_M_bitAt n 12 a ) ml_M_122 st_M_bitAt ini_M cd_M_bitAt hd_M_bitAt rfl (by rw [hRm]; exact ⟨⟨Nat.le_of_ble_eq_true rfl, Nat.le_of_ble_eq_true rfl⟩, Nat.le_of_ble_eq_true rfl, Nat.le_of_ble_eq_true rfl⟩) hl.1 rfl (Nat.le_of_ble_eq_true rfl) d_M_lengthBit_18 (fun z_18 H locs hz_18 w => ?_)
    subst hz_18
    exact kret _ _ _ _ (bnr n (12 - 1 - a)) _ d_M_lengthBit_21 w (⟨rfl, by unfold lbit; (repeat' split) <;> first | omega | (congr 1 <;> omega) | (exfalso; omega)⟩)
theorem d_M_sign_0 : decode b_M_sign 0 = .ok (.aload_n 0, 1) := by decide +kernel
theorem d_M_sign_1 : decode b_M_sign 1 = .ok (.invokevirtual 72, 3) := by decide +kernel
theorem d_M_sign_4 : decode b_M_sign 4 = .ok (.iload_n 1, 1) := by decide +kernel
theorem d_M_sign_5 : decode b_M_sign 5 = .ok (.iconst 0, 1) := by decide +kernel
theorem d_M_sign_6 : decode b_M_sign 6 = .ok (.aload_n 0, 1) := by decide +kernel
theorem d_M_sign_7 : decode b_M_sign 7 = .ok (.getfield 52, 3) := by decide +kernel
theorem d_M_sign_10 : decode b_M_sign 10 = .ok (.iconst 1, 1) := by decide +kernel
theorem d_M_sign_11 : decode b_M_sign 11 = .ok (.isub, 1) := by decide +kernel
theorem d_M_sign_12 : decode b_M_sign 12 = .ok (.invokestatic 75, 3) := by decide +kernel
theorem d_M_sign_15 : decode b_M_sign 15 = .ok (.ifCond .eq 12, 3) := by decide +kernel
theorem d_M_sign_18 : decode b_M_sign 18 = .ok (.aload_n 0, 1) := by decide +kernel
theorem d_M_sign_19 : decode b_M_sign 19 = .ok (.getfield 19, 3) := by decide +kernel
theorem d_M_sign_22 : decode b_M_sign 22 = .ok (.iload_n 1, 1) := by decide +kernel
theorem d_M_sign_23 : decode b_M_sign 23 = .ok (.iaload, 1) := by decide +kernel
theorem d_M_sign_24 : decode b_M_sign 24 = .ok (.goto 4, 3) := by decide +kernel
theorem d_M_sign_27 : decode b_M_sign 27 = .ok (.iconst (-1), 1) := by decide +kernel
theorem d_M_sign_28 : decode b_M_sign 28 = .ok (.ireturn, 1) := by decide +kernel
set_option maxHeartbeats 4000000 in
set_option maxRecDepth 20000 in
theorem c_M_sign {l : Launch} {G : va_G} {tys : List (ClassId × FieldType)} {cI cO cZ : ClassId} (hT : TY tys cI cO cZ) (q0 : Nat) (A A' : AS) (z : Int) (ws : va_W) (hA : MW cI q0 A ws) (x : Int) (hrg : (-2147483648 ≤ x ∧ x < 2147483648)) (hS : Sp_sign x A z A') : CTI l G tys y_M_sign b_M_sign 2 .int 2 43 [.ref q0, .int (iI x)] ws (fun z' u => z' = z ∧ MW cI q0 A' u) := by
  obtain ⟨⟨lc, sd, r, sg, ln, N, v⟩, hist, rcd, slot, uf, T, m⟩ := A
  obtain ⟨hR, q1, q2, q3, q4, q5, q6, q7, q8, q9, nw, pt, sl, sv, li, ot, len, pd, wr, wm, ss, lz, rm, rfl, hM, hC⟩ := hA
  have hO := hR.1
  have hr5 := hR.2.1
  have hN3 := hR.2.2.1
  have hN0 := hO.n0
  have hr0 := hO.1
  have hlcd := hR.2.2.2
  have hm80 := hC.2.2.2.2.1
  have hrcd6 := hC.1
  have hvr := hO.v_rg
  have hm0 : nw 0 = lc := hM.1
  have hm1 : nw 1 = sd := hM.2.1
  have hm2 : nw 2 = r := hM.2.2.1
  have hS : A' = ((lc, sd, r, sg, ln, N, v), hist, rcd, slot, uf, T, m) ∧ (((0 ≤ x ∧ x < N) ∧ z = v x) ∨ (¬ (0 ≤ x ∧ x < N) ∧ z = -1)) := hS
  have hM9 := hM
  obtain ⟨-, -, -, hm3⟩ := hM9
  have hm4 : ∀ k, 0 ≤ k → k < r → nw (3 + 2 * k) = sg k ∧ nw (4 + 2 * k) = ln k := fun k h1 h2 => by have := hm3 k h1 h2; rw [show (0 : Int) + 3 = 3 from rfl, show (0 : Int) + 4 = 4 from rfl] at this; exact this
  refine mkI (by decide) (Nat.le_of_ble_eq_true rfl) ?_
  rintro X rfl rfl rfl hRm C kret H ls w hl
  have hl : lv_has ls 2 [(0, .ref q0), (1, .int (iI x))] := hl
  have w : Wd X (mw cI q0 q1 q2 q3 q4 q5 q6 q7 q8 q9 nw pt rcd sl sv li ot len pd m wr wm ss lz rm) H [] := w
  generalize ([] : List Loc) = locs at w ⊢
  refine r_aload_n (pc := 0) C d_M_sign_0 rfl (lv_at hl 0 rfl) ?_
  refine r_callVV (pc := 1) (As := []) (rest := []) (wr := []) C w (c_M_laysOut hT q0 q1 q2 q3 q4 q5 q6 q7 q8 q9 nw pt rcd sl sv li ot len pd m wr wm ss lz rm  _ _ _ _ _ _ _ hR hM) ml_M_72 im_M_laysOut se_M_laysOut ini_M cd_M_laysOut hd_M_laysOut rfl (by rw [hRm]; exact ⟨⟨Nat.le_of_ble_eq_true rfl, Nat.le_of_ble_eq_true rfl⟩, Nat.le_of_ble_eq_true rfl, Nat.le_of_ble_eq_true rfl⟩) hl.1 [0, 1, 2, 3, 4, 5, 6, 7, 8, 9] [] ⟨rfl, rfl, by decide, by decide, by decide⟩ 0 rfl rfl rfl (Nat.le_of_ble_eq_true rfl) d_M_sign_1 (fun u_1 H locs hz_1 w => ?_)
  obtain ⟨li_1, rfl, hli_1⟩ := hz_1
  have w : Wd X (mw cI q0 q1 q2 q3 q4 q5 q6 q7 q8 q9 nw pt rcd sl sv li_1 ot N pd m wr wm ss lz rm) H locs := w
  refine r_iload_n (pc := 4) C d_M_sign_4 rfl (lv_at hl 1 rfl) ?_
  refine r_iconst (pc := 5) C d_M_sign_5 ?_
  refine r_aload_n (pc := 6) C d_M_sign_6 rfl (lv_at hl 0 rfl) ?_
  refine r_get (pc := 7) (v := .int (iI N)) C w i_M rfl 0 rfl 7 (by decide) fl_M_52 rfl rfl d_M_sign_7 ?_
  refine r_iconst (pc := 10) C d_M_sign_10 ?_
  refine r_isub (pc := 11) C d_M_sign_11 ?_
  refine r_callP (pc := 12) (As := [.int (iI x), .int (iI 0), .int (iI (N - 1))]) (rest := []) C w (c_M_in x 0 (N - 1) (by omega)) ml_M_75 st_M_in ini_M cd_M_in hd_M_in rfl (by rw [hRm]; exact ⟨⟨Nat.le_of_ble_eq_true rfl, Nat.le_of_ble_eq_true rfl⟩, Nat.le_of_ble_eq_true rfl, Nat.le_of_ble_eq_true rfl⟩) hl.1 rfl (Nat.le_of_ble_eq_true rfl) d_M_sign_12 (fun z_12 H locs hz_12 w => ?_)
  refine r_if_eq (pc := 15) (tgt := 27) C (by omega) d_M_sign_15 (by decide) (fun c_15 => ?_) (fun c_15 => ?_)
  · skip
    have hb_15 : ¬ (0 ≤ x ∧ x ≤ (N - 1)) := by omega
    clear hz_12 c_15
    refine r_iconst (pc := 27) C d_M_sign_27 ?_
    exact kret _ _ _ _ (-1) _ d_M_sign_28 w (by obtain ⟨rfl, hS9⟩ := hS; exact ⟨by omega, ⟨hR, q1, q2, q3, q4, q5, q6, q7, q8, q9, nw, pt, sl, sv, _, _, _, pd, _, _, ss, lz, rm, rfl, hM, hC⟩⟩)
  · skip
    have hb_15 : 0 ≤ x ∧ x ≤ (N - 1) := by omega
    clear hz_12 c_15
    have hlx := hli_1 x (by omega) (by omega)
    refine r_aload_n (pc := 18) C d_M_sign_18 rfl (lv_at hl 0 rfl) ?_
    refine r_get (pc := 19) (v := .ref q4) C w i_M rfl 0 rfl 5 (by decide) fl_M_19 rfl rfl d_M_sign_19 ?_
    refine r_iload_n (pc := 22) C d_M_sign_22 rfl (lv_at hl 1 rfl) ?_
    refine r_iald (pc := 23) (f := li_1) (i := x) C w 0 4 rfl hT.1 (by omega) d_M_sign_23 ?_
    refine r_goto (pc := 24) (tgt := 28) C d_M_sign_24 (by decide) ?_
    exact kret _ _ _ _ (li_1 x) _ d_M_sign_28 w (by obtain ⟨rfl, hS9⟩ := hS; exact ⟨by omega, ⟨hR, q1, q2, q3, q4, q5, q6, q7, q8, q9, nw, pt, sl, sv, _, _, _, pd, _, _, ss, lz, rm, rfl, hM, hC⟩⟩)
theorem d_M_size_0 : decode b_M_size 0 = .ok (.iload_n 1, 1) := by decide +kernel
theorem d_M_size_1 : decode b_M_size 1 = .ok (.iconst 0, 1) := by decide +kernel
theorem d_M_size_2 : decode b_M_size 2 = .ok (.iconst 2, 1) := by decide +kernel
theorem d_M_size_3 : decode b_M_size 3 = .ok (.invokestatic 75, 3) := by decide +kernel
theorem d_M_size_6 : decode b_M_size 6 = .ok (.ifCond .eq 11, 3) := by decide +kernel
theorem d_M_size_9 : decode b_M_size 9 = .ok (.aload_n 0, 1) := by decide +kernel
theorem d_M_size_10 : decode b_M_size 10 = .ok (.iload_n 1, 1) := by decide +kernel
theorem d_M_size_11 : decode b_M_size 11 = .ok (.invokevirtual 110, 3) := by decide +kernel
theorem d_M_size_14 : decode b_M_size 14 = .ok (.goto 5, 3) := by decide +kernel
theorem d_M_size_17 : decode b_M_size 17 = .ok (.bipush (-2), 2) := by decide +kernel
theorem d_M_size_19 : decode b_M_size 19 = .ok (.ireturn, 1) := by decide +kernel
set_option maxHeartbeats 4000000 in
set_option maxRecDepth 20000 in
theorem c_M_size {l : Launch} {G : va_G} {tys : List (ClassId × FieldType)} {cI cO cZ : ClassId} (hT : TY tys cI cO cZ) (q0 : Nat) (A A' : AS) (z : Int) (ws : va_W) (hA : MW cI q0 A ws) (c : Int) (hrg : (-2147483648 ≤ c ∧ c < 2147483648)) (hS : Sp_size c A z A') : CTI l G tys y_M_size b_M_size 2 .int 4 89 [.ref q0, .int (iI c)] ws (fun z' u => z' = z ∧ MW cI q0 A' u) := by
  obtain ⟨⟨lc, sd, r, sg, ln, N, v⟩, hist, rcd, slot, uf, T, m⟩ := A
  obtain ⟨hR, q1, q2, q3, q4, q5, q6, q7, q8, q9, nw, pt, sl, sv, li, ot, len, pd, wr, wm, ss, lz, rm, rfl, hM, hC⟩ := hA
  have hO := hR.1
  have hr5 := hR.2.1
  have hN3 := hR.2.2.1
  have hN0 := hO.n0
  have hr0 := hO.1
  have hlcd := hR.2.2.2
  have hm80 := hC.2.2.2.2.1
  have hrcd6 := hC.1
  have hvr := hO.v_rg
  have hm0 : nw 0 = lc := hM.1
  have hm1 : nw 1 = sd := hM.2.1
  have hm2 : nw 2 = r := hM.2.2.1
  have hS : A' = ((lc, sd, r, sg, ln, N, v), hist, rcd, slot, uf, T, m) ∧ ((¬ (0 ≤ c ∧ c ≤ 2) ∧ z = -2) ∨ ((0 ≤ c ∧ c ≤ 2) ∧ z = ps (rbf c sg ln) r)) := hS
  have hM9 := hM
  obtain ⟨-, -, -, hm3⟩ := hM9
  have hm4 : ∀ k, 0 ≤ k → k < r → nw (3 + 2 * k) = sg k ∧ nw (4 + 2 * k) = ln k := fun k h1 h2 => by have := hm3 k h1 h2; rw [show (0 : Int) + 3 = 3 from rfl, show (0 : Int) + 4 = 4 from rfl] at this; exact this
  refine mkI (by decide) (Nat.le_of_ble_eq_true rfl) ?_
  rintro X rfl rfl rfl hRm C kret H ls w hl
  have hl : lv_has ls 2 [(0, .ref q0), (1, .int (iI c))] := hl
  have w : Wd X (mw cI q0 q1 q2 q3 q4 q5 q6 q7 q8 q9 nw pt rcd sl sv li ot len pd m wr wm ss lz rm) H [] := w
  generalize ([] : List Loc) = locs at w ⊢
  refine r_iload_n (pc := 0) C d_M_size_0 rfl (lv_at hl 1 rfl) ?_
  refine r_iconst (pc := 1) C d_M_size_1 ?_
  refine r_iconst (pc := 2) C d_M_size_2 ?_
  refine r_callP (pc := 3) (As := [.int (iI c), .int (iI 0), .int (iI 2)]) (rest := []) C w (c_M_in c 0 2 (by omega)) ml_M_75 st_M_in ini_M cd_M_in hd_M_in rfl (by rw [hRm]; exact ⟨⟨Nat.le_of_ble_eq_true rfl, Nat.le_of_ble_eq_true rfl⟩, Nat.le_of_ble_eq_true rfl, Nat.le_of_ble_eq_true rfl⟩) hl.1 rfl (Nat.le_of_ble_eq_true rfl) d_M_size_3 (fun z_3 H locs hz_3 w => ?_)
  refine r_if_eq (pc := 6) (tgt := 17) C (by omega) d_M_size_6 (by decide) (fun c_6 => ?_) (fun c_6 => ?_)
  · skip
    have hb_6 : ¬ (0 ≤ c ∧ c ≤ 2) := by omega
    clear hz_3 c_6
    refine r_bipush (pc := 17) C d_M_size_17 (by decide) ?_
    exact kret _ _ _ _ (-2) _ d_M_size_19 w (by obtain ⟨rfl, hS9⟩ := hS; exact ⟨by omega, ⟨hR, q1, q2, q3, q4, q5, q6, q7, q8, q9, nw, pt, sl, sv, _, _, _, pd, _, _, ss, lz, rm, rfl, hM, hC⟩⟩)
  · skip
    have hb_6 : 0 ≤ c ∧ c ≤ 2 := by omega
    clear hz_3 c_6
    refine r_aload_n (pc := 9) C d_M_size_9 rfl (lv_at hl 0 rfl) ?_
    refine r_iload_n (pc := 10) C d_M_size_10 rfl (lv_at hl 1 rfl) ?_
    refine r_callVI (pc := 11) (As := [.int (iI c)]) (rest := []) (wr := []) C w (c_M_sizeBy hT q0 q1 q2 q3 q4 q5 q6 q7 q8 q9 nw pt rcd sl sv li ot len pd m wr wm ss lz rm c _ _ _ _ _ _ _ hR hM (by omega)) ml_M_110 im_M_sizeBy se_M_sizeBy ini_M cd_M_sizeBy hd_M_sizeBy rfl (by rw [hRm]; exact ⟨⟨Nat.le_of_ble_eq_true rfl, Nat.le_of_ble_eq_true rfl⟩, Nat.le_of_ble_eq_true rfl, Nat.le_of_ble_eq_true rfl⟩) hl.1 [0, 1, 2, 3, 4, 5, 6, 7, 8, 9] [] ⟨rfl, rfl, by decide, by decide, by decide⟩ 0 rfl rfl rfl (Nat.le_of_ble_eq_true rfl) d_M_size_11 (fun z_11 u_11 H locs hz_11 w => ?_)
    obtain ⟨rfl, rfl⟩ := hz_11
    have w : Wd X (mw cI q0 q1 q2 q3 q4 q5 q6 q7 q8 q9 nw pt rcd sl sv li ot len pd m wr wm ss lz rm) H locs := w
    have hab_11 := allBits_rg (code := c) hO (by omega) (k := r) (by omega) (by omega)
    refine r_goto (pc := 14) (tgt := 19) C d_M_size_14 (by decide) ?_
    exact kret _ _ _ _ (ps (rbf c sg ln) r) _ d_M_size_19 w (by obtain ⟨rfl, hS9⟩ := hS; exact ⟨by omega, ⟨hR, q1, q2, q3, q4, q5, q6, q7, q8, q9, nw, pt, sl, sv, _, _, _, pd, _, _, ss, lz, rm, rfl, hM, hC⟩⟩)
theorem d_M_bestCode_0 : decode b_M_bestCode 0 = .ok (.iconst 0, 1) := by decide +kernel
theorem d_M_bestCode_1 : decode b_M_bestCode 1 = .ok (.istore_n 1, 1) := by decide +kernel
theorem d_M_bestCode_2 : decode b_M_bestCode 2 = .ok (.iconst 1, 1) := by decide +kernel
theorem d_M_bestCode_3 : decode b_M_bestCode 3 = .ok (.istore_n 2, 1) := by decide +kernel
theorem d_M_bestCode_4 : decode b_M_bestCode 4 = .ok (.iload_n 2, 1) := by decide +kernel
theorem d_M_bestCode_5 : decode b_M_bestCode 5 = .ok (.iconst 3, 1) := by decide +kernel
theorem d_M_bestCode_6 : decode b_M_bestCode 6 = .ok (.if_icmp .ge 28, 3) := by decide +kernel
theorem d_M_bestCode_9 : decode b_M_bestCode 9 = .ok (.aload_n 0, 1) := by decide +kernel
theorem d_M_bestCode_10 : decode b_M_bestCode 10 = .ok (.iload_n 2, 1) := by decide +kernel
theorem d_M_bestCode_11 : decode b_M_bestCode 11 = .ok (.invokevirtual 110, 3) := by decide +kernel
theorem d_M_bestCode_14 : decode b_M_bestCode 14 = .ok (.aload_n 0, 1) := by decide +kernel
theorem d_M_bestCode_15 : decode b_M_bestCode 15 = .ok (.iload_n 1, 1) := by decide +kernel
theorem d_M_bestCode_16 : decode b_M_bestCode 16 = .ok (.invokevirtual 110, 3) := by decide +kernel
theorem d_M_bestCode_19 : decode b_M_bestCode 19 = .ok (.if_icmp .ge 7, 3) := by decide +kernel
theorem d_M_bestCode_22 : decode b_M_bestCode 22 = .ok (.iload_n 2, 1) := by decide +kernel
theorem d_M_bestCode_23 : decode b_M_bestCode 23 = .ok (.goto 4, 3) := by decide +kernel
theorem d_M_bestCode_26 : decode b_M_bestCode 26 = .ok (.iload_n 1, 1) := by decide +kernel
theorem d_M_bestCode_27 : decode b_M_bestCode 27 = .ok (.istore_n 1, 1) := by decide +kernel
theorem d_M_bestCode_28 : decode b_M_bestCode 28 = .ok (.iinc 2 1, 3) := by decide +kernel
theorem d_M_bestCode_31 : decode b_M_bestCode 31 = .ok (.goto (-27), 3) := by decide +kernel
theorem d_M_bestCode_34 : decode b_M_bestCode 34 = .ok (.iload_n 1, 1) := by decide +kernel
theorem d_M_bestCode_35 : decode b_M_bestCode 35 = .ok (.ireturn, 1) := by decide +kernel
set_option maxHeartbeats 4000000 in
set_option maxRecDepth 20000 in
theorem c_M_bestCode {l : Launch} {G : va_G} {tys : List (ClassId × FieldType)} {cI cO cZ : ClassId} (hT : TY tys cI cO cZ) (q0 : Nat) (A A' : AS) (z : Int) (ws : va_W) (hA : MW cI q0 A ws) (hS : Sp_bestCode  A z A') : CTI l G tys y_M_bestCode b_M_bestCode 3 .int 4 89 [.ref q0] ws (fun z' u => z' = z ∧ MW cI q0 A' u) := by
  obtain ⟨⟨lc, sd, r, sg, ln, N, v⟩, hist, rcd, slot, uf, T, m⟩ := A
  obtain ⟨hR, q1, q2, q3, q4, q5, q6, q7, q8, q9, nw, pt, sl, sv, li, ot, len, pd, wr, wm, ss, lz, rm, rfl, hM, hC⟩ := hA
  have hO := hR.1
  have hr5 := hR.2.1
  have hN3 := hR.2.2.1
  have hN0 := hO.n0
  have hr0 := hO.1
  have hlcd := hR.2.2.2
  have hm80 := hC.2.2.2.2.1
  have hrcd6 := hC.1
  have hvr := hO.v_rg
  have hm0 : nw 0 = lc := hM.1
  have hm1 : nw 1 = sd := hM.2.1
  have hm2 : nw 2 = r := hM.2.2.1
  have hS : A' = ((lc, sd, r, sg, ln, N, v), hist, rcd, slot, uf, T, m) ∧ (z = bestC (ps (rbf 0 sg ln) r) (ps (rbf 1 sg ln) r) (ps (rbf 2 sg ln) r)) := hS
  have hM9 := hM
  obtain ⟨-, -, -, hm3⟩ := hM9
  have hm4 : ∀ k, 0 ≤ k → k < r → nw (3 + 2 * k) = sg k ∧ nw (4 + 2 * k) = ln k := fun k h1 h2 => by have := hm3 k h1 h2; rw [show (0 : Int) + 3 = 3 from rfl, show (0 : Int) + 4 = 4 from rfl] at this; exact this
  refine mkI (by decide) (Nat.le_of_ble_eq_true rfl) ?_
  rintro X rfl rfl rfl hRm C kret H ls w hl
  have hl : lv_has ls 3 [(0, .ref q0)] := hl
  have w : Wd X (mw cI q0 q1 q2 q3 q4 q5 q6 q7 q8 q9 nw pt rcd sl sv li ot len pd m wr wm ss lz rm) H [] := w
  generalize ([] : List Loc) = locs at w ⊢
  refine r_iconst (pc := 0) C d_M_bestCode_0 ?_
  refine r_istore_n (pc := 1) (lv' := [(1, .int (iI 0)), (0, .ref q0)]) C d_M_bestCode_1 rfl hl (by decide) rfl (fun ls hl => ?_)
  refine r_iconst (pc := 2) C d_M_bestCode_2 ?_
  refine r_istore_n (pc := 3) (lv' := [(2, .int (iI 1)), (1, .int (iI 0)), (0, .ref q0)]) C d_M_bestCode_3 rfl hl (by decide) rfl (fun ls hl => ?_)
  refine r_iload_n (pc := 4) C d_M_bestCode_4 rfl (lv_at hl 0 rfl) ?_
  refine r_iconst (pc := 5) C d_M_bestCode_5 ?_
  refine r_icmp_ge (pc := 6) (tgt := 34) C (by omega) d_M_bestCode_6 (by decide) (fun c_6 => absurd c_6 (by omega)) (fun c_6 => ?_)
  refine r_aload_n (pc := 9) C d_M_bestCode_9 rfl (lv_at hl 2 rfl) ?_
  refine r_iload_n (pc := 10) C d_M_bestCode_10 rfl (lv_at hl 0 rfl) ?_
  refine r_callVI (pc := 11) (As := [.int (iI 1)]) (rest := []) (wr := []) C w (c_M_sizeBy hT q0 q1 q2 q3 q4 q5 q6 q7 q8 q9 nw pt rcd sl sv li ot len pd m wr wm ss lz rm 1 _ _ _ _ _ _ _ hR hM (by omega)) ml_M_110 im_M_sizeBy se_M_sizeBy ini_M cd_M_sizeBy hd_M_sizeBy rfl (by rw [hRm]; exact ⟨⟨Nat.le_of_ble_eq_true rfl, Nat.le_of_ble_eq_true rfl⟩, Nat.le_of_ble_eq_true rfl, Nat.le_of_ble_eq_true rfl⟩) hl.1 [0, 1, 2, 3, 4, 5, 6, 7, 8, 9] [] ⟨rfl, rfl, by decide, by decide, by decide⟩ 0 rfl rfl rfl (Nat.le_of_ble_eq_true rfl) d_M_bestCode_11 (fun z_11 u_11 H locs hz_11 w => ?_)
  obtain ⟨rfl, rfl⟩ := hz_11
  have w : Wd X (mw cI q0 q1 q2 q3 q4 q5 q6 q7 q8 q9 nw pt rcd sl sv li ot len pd m wr wm ss lz rm) H locs := w
  have hab_11 := allBits_rg (code := 1) hO (by omega) (k := r) (by omega) (by omega)
  refine r_aload_n (pc := 14) C d_M_bestCode_14 rfl (lv_at hl 2 rfl) ?_
  refine r_iload_n (pc := 15) C d_M_bestCode_15 rfl (lv_at hl 1 rfl) ?_
  refine r_callVI (pc := 16) (As := [.int (iI 0)]) (rest := [.int (iI (ps (rbf 1 sg ln) r))]) (wr := []) C w (c_M_sizeBy hT q0 q1 q2 q3 q4 q5 q6 q7 q8 q9 nw pt rcd sl sv li ot len pd m wr wm ss lz rm 0 _ _ _ _ _ _ _ hR hM (by omega)) ml_M_110 im_M_sizeBy se_M_sizeBy ini_M cd_M_sizeBy hd_M_sizeBy rfl (by rw [hRm]; exact ⟨⟨Nat.le_of_ble_eq_true rfl, Nat.le_of_ble_eq_true rfl⟩, Nat.le_of_ble_eq_true rfl, Nat.le_of_ble_eq_true rfl⟩) hl.1 [0, 1, 2, 3, 4, 5, 6, 7, 8, 9] [] ⟨rfl, rfl, by decide, by decide, by decide⟩ 0 rfl rfl rfl (Nat.le_of_ble_eq_true rfl) d_M_bestCode_16 (fun z_16 u_16 H locs hz_16 w => ?_)
  obtain ⟨rfl, rfl⟩ := hz_16
  have w : Wd X (mw cI q0 q1 q2 q3 q4 q5 q6 q7 q8 q9 nw pt rcd sl sv li ot len pd m wr wm ss lz rm) H locs := w
  have hab_16 := allBits_rg (code := 0) hO (by omega) (k := r) (by omega) (by omega)
  refine r_icmp_ge (pc := 19) (tgt := 26) C (by omega) d_M_bestCode_19 (by decide) (fun c_19 => ?_) (fun c_19 => ?_)
  · skip
    refine r_iload_n (pc := 26) C d_M_bestCode_26 rfl (lv_at hl 1 rfl) ?_
    refine r_istore_n (pc := 27) (lv' := [(1, .int (iI 0)), (2, .int (iI 1)), (0, .ref q0)]) C d_M_bestCode_27 rfl hl (by decide) rfl (fun ls hl => ?_)
    refine r_iinc (pc := 28) (j := 1) (lv' := [(2, .int (iI 2)), (1, .int (iI 0)), (0, .ref q0)]) C d_M_bestCode_28 hl rfl (by decide) rfl (fun ls hl => ?_)
    refine r_goto (pc := 31) (tgt := 4) C d_M_bestCode_31 (by decide) ?_
    refine r_iload_n (pc := 4) C d_M_bestCode_4 rfl (lv_at hl 0 rfl) ?_
    refine r_iconst (pc := 5) C d_M_bestCode_5 ?_
    refine r_icmp_ge (pc := 6) (tgt := 34) C (by omega) d_M_bestCode_6 (by decide) (fun c_6 => absurd c_6 (by omega)) (fun c_6 => ?_)
    refine r_aload_n (pc := 9) C d_M_bestCode_9 rfl (lv_at hl 2 rfl) ?_
    refine r_iload_n (pc := 10) C d_M_bestCode_10 rfl (lv_at hl 0 rfl) ?_
    refine r_callVI (pc := 11) (As := [.int (iI 2)]) (rest := []) (wr := []) C w (c_M_sizeBy hT q0 q1 q2 q3 q4 q5 q6 q7 q8 q9 nw pt rcd sl sv li ot len pd m wr wm ss lz rm 2 _ _ _ _ _ _ _ hR hM (by omega)) ml_M_110 im_M_sizeBy se_M_sizeBy ini_M cd_M_sizeBy hd_M_sizeBy rfl (by rw [hRm]; exact ⟨⟨Nat.le_of_ble_eq_true rfl, Nat.le_of_ble_eq_true rfl⟩, Nat.le_of_ble_eq_true rfl, Nat.le_of_ble_eq_true rfl⟩) hl.1 [0, 1, 2, 3, 4, 5, 6, 7, 8, 9] [] ⟨rfl, rfl, by decide, by decide, by decide⟩ 0 rfl rfl rfl (Nat.le_of_ble_eq_true rfl) d_M_bestCode_11 (fun z_11 u_11 H locs hz_11 w => ?_)
    obtain ⟨rfl, rfl⟩ := hz_11
    have w : Wd X (mw cI q0 q1 q2 q3 q4 q5 q6 q7 q8 q9 nw pt rcd sl sv li ot len pd m wr wm ss lz rm) H locs := w
    have hab_11 := allBits_rg (code := 2) hO (by omega) (k := r) (by omega) (by omega)
    refine r_aload_n (pc := 14) C d_M_bestCode_14 rfl (lv_at hl 2 rfl) ?_
    refine r_iload_n (pc := 15) C d_M_bestCode_15 rfl (lv_at hl 1 rfl) ?_
    refine r_callVI (pc := 16) (As := [.int (iI 0)]) (rest := [.int (iI (ps (rbf 2 sg ln) r))]) (wr := []) C w (c_M_sizeBy hT q0 q1 q2 q3 q4 q5 q6 q7 q8 q9 nw pt rcd sl sv li ot len pd m wr wm ss lz rm 0 _ _ _ _ _ _ _ hR hM (by omega)) ml_M_110 im_M_sizeBy se_M_sizeBy ini_M cd_M_sizeBy hd_M_sizeBy rfl (by rw [hRm]; exact ⟨⟨Nat.le_of_ble_eq_true rfl, Nat.le_of_ble_eq_true rfl⟩, Nat.le_of_ble_eq_true rfl, Nat.le_of_ble_eq_true rfl⟩) hl.1 [0, 1, 2, 3, 4, 5, 6, 7, 8, 9] [] ⟨rfl, rfl, by decide, by decide, by decide⟩ 0 rfl rfl rfl (Nat.le_of_ble_eq_true rfl) d_M_bestCode_16 (fun z_16 u_16 H locs hz_16 w => ?_)
    obtain ⟨rfl, rfl⟩ := hz_16
    have w : Wd X (mw cI q0 q1 q2 q3 q4 q5 q6 q7 q8 q9 nw pt rcd sl sv li ot len pd m wr wm ss lz rm) H locs := w
    have hab_16 := allBits_rg (code := 0) hO (by omega) (k := r) (by omega) (by omega)
    refine r_icmp_ge (pc := 19) (tgt := 26) C (by omega) d_M_bestCode_19 (by decide) (fun c_19 => ?_) (fun c_19 => ?_)
    · skip
      refine r_iload_n (pc := 26) C d_M_bestCode_26 rfl (lv_at hl 1 rfl) ?_
      refine r_istore_n (pc := 27) (lv' := [(1, .int (iI 0)), (2, .int (iI 2)), (0, .ref q0)]) C d_M_bestCode_27 rfl hl (by decide) rfl (fun ls hl => ?_)
      refine r_iinc (pc := 28) (j := 1) (lv' := [(2, .int (iI 3)), (1, .int (iI 0)), (0, .ref q0)]) C d_M_bestCode_28 hl rfl (by decide) rfl (fun ls hl => ?_)
      refine r_goto (pc := 31) (tgt := 4) C d_M_bestCode_31 (by decide) ?_
      refine r_iload_n (pc := 4) C d_M_bestCode_4 rfl (lv_at hl 0 rfl) ?_
      refine r_iconst (pc := 5) C d_M_bestCode_5 ?_
      refine r_icmp_ge (pc := 6) (tgt := 34) C (by omega) d_M_bestCode_6 (by decide) (fun c_6 => ?_) (fun c_6 => absurd c_6 (by omega))
      refine r_iload_n (pc := 34) C d_M_bestCode_34 rfl (lv_at hl 1 rfl) ?_
      exact kret _ _ _ _ 0 _ d_M_bestCode_35 w (by obtain ⟨rfl, hS9⟩ := hS; exact ⟨by (unfold bestC at hS9; (repeat' split at hS9) <;> omega), ⟨hR, q1, q2, q3, q4, q5, q6, q7, q8, q9, nw, pt, sl, sv, _, _, _, pd, _, _, ss, lz, rm, rfl, hM, hC⟩⟩)
    · skip
      refine r_iload_n (pc := 22) C d_M_bestCode_22 rfl (lv_at hl 0 rfl) ?_
      refine r_goto (pc := 23) (tgt := 27) C d_M_bestCode_23 (by decide) ?_
      refine r_istore_n (pc := 27) (lv' := [(1, .int (iI 2)), (2, .int (iI 2)), (0, .ref q0)]) C d_M_bestCode_27 rfl hl (by decide) rfl (fun ls hl => ?_)
      refine r_iinc (pc := 28) (j := 1) (lv' := [(2, .int (iI 3)), (1, .int (iI 2)), (0, .ref q0)]) C d_M_bestCode_28 hl rfl (by decide) rfl (fun ls hl => ?_)
      refine r_goto (pc := 31) (tgt := 4) C d_M_bestCode_31 (by decide) ?_
      refine r_iload_n (pc := 4) C d_M_bestCode_4 rfl (lv_at hl 0 rfl) ?_
      refine r_iconst (pc := 5) C d_M_bestCode_5 ?_
      refine r_icmp_ge (pc := 6) (tgt := 34) C (by omega) d_M_bestCode_6 (by decide) (fun c_6 => ?_) (fun c_6 => absurd c_6 (by omega))
      refine r_iload_n (pc := 34) C d_M_bestCode_34 rfl (lv_at hl 1 rfl) ?_
      exact kret _ _ _ _ 2 _ d_M_bestCode_35 w (by obtain ⟨rfl, hS9⟩ := hS; exact ⟨by (unfold bestC at hS9; (repeat' split at hS9) <;> omega), ⟨hR, q1, q2, q3, q4, q5, q6, q7, q8, q9, nw, pt, sl, sv, _, _, _, pd, _, _, ss, lz, rm, rfl, hM, hC⟩⟩)
  · skip
    refine r_iload_n (pc := 22) C d_M_bestCode_22 rfl (lv_at hl 0 rfl) ?_
    refine r_goto (pc := 23) (tgt := 27) C d_M_bestCode_23 (by decide) ?_
    refine r_istore_n (pc := 27) (lv' := [(1, .int (iI 1)), (2, .int (iI 1)), (0, .ref q0)]) C d_M_bestCode_27 rfl hl (by decide) rfl (fun ls hl => ?_)
    refine r_iinc (pc := 28) (j := 1) (lv' := [(2, .int (iI 2)), (1, .int (iI 1)), (0, .ref q0)]) C d_M_bestCode_28 hl rfl (by decide) rfl (fun ls hl => ?_)
    refine r_goto (pc := 31) (tgt := 4) C d_M_bestCode_31 (by decide) ?_
    refine r_iload_n (pc := 4) C d_M_bestCode_4 rfl (lv_at hl 0 rfl) ?_
    refine r_iconst (pc := 5) C d_M_bestCode_5 ?_
    refine r_icmp_ge (pc := 6) (tgt := 34) C (by omega) d_M_bestCode_6 (by decide) (fun c_6 => absurd c_6 (by omega)) (fun c_6 => ?_)
    refine r_aload_n (pc := 9) C d_M_bestCode_9 rfl (lv_at hl 2 rfl) ?_
    refine r_iload_n (pc := 10) C d_M_bestCode_10 rfl (lv_at hl 0 rfl) ?_
    refine r_callVI (pc := 11) (As := [.int (iI 2)]) (rest := []) (wr := []) C w (c_M_sizeBy hT q0 q1 q2 q3 q4 q5 q6 q7 q8 q9 nw pt rcd sl sv li ot len pd m wr wm ss lz rm 2 _ _ _ _ _ _ _ hR hM (by omega)) ml_M_110 im_M_sizeBy se_M_sizeBy ini_M cd_M_sizeBy hd_M_sizeBy rfl (by rw [hRm]; exact ⟨⟨Nat.le_of_ble_eq_true rfl, Nat.le_of_ble_eq_true rfl⟩, Nat.le_of_ble_eq_true rfl, Nat.le_of_ble_eq_true rfl⟩) hl.1 [0, 1, 2, 3, 4, 5, 6, 7, 8, 9] [] ⟨rfl, rfl, by decide, by decide, by decide⟩ 0 rfl rfl rfl (Nat.le_of_ble_eq_true rfl) d_M_bestCode_11 (fun z_11 u_11 H locs hz_11 w => ?_)
    obtain ⟨rfl, rfl⟩ := hz_11
    have w : Wd X (mw cI q0 q1 q2 q3 q4 q5 q6 q7 q8 q9 nw pt rcd sl sv li ot len pd m wr wm ss lz rm) H locs := w
    have hab_11 := allBits_rg (code := 2) hO (by omega) (k := r) (by omega) (by omega)
    refine r_aload_n (pc := 14) C d_M_bestCode_14 rfl (lv_at hl 2 rfl) ?_
    refine r_iload_n (pc := 15) C d_M_bestCode_15 rfl (lv_at hl 1 rfl) ?_
    refine r_callVI (pc := 16) (As := [.int (iI 1)]) (rest := [.int (iI (ps (rbf 2 sg ln) r))]) (wr := []) C w (c_M_sizeBy hT q0 q1 q2 q3 q4 q5 q6 q7 q8 q9 nw pt rcd sl sv li ot len pd m wr wm ss lz rm 1 _ _ _ _ _ _ _ hR hM (by omega)) ml_M_110 im_M_sizeBy se_M_sizeBy ini_M cd_M_sizeBy hd_M_sizeBy rfl (by rw [hRm]; exact ⟨⟨Nat.le_of_ble_eq_true rfl, Nat.le_of_ble_eq_true rfl⟩, Nat.le_of_ble_eq_true rfl, Nat.le_of_ble_eq_true rfl⟩) hl.1 [0, 1, 2, 3, 4, 5, 6, 7, 8, 9] [] ⟨rfl, rfl, by decide, by decide, by decide⟩ 0 rfl rfl rfl (Nat.le_of_ble_eq_true rfl) d_M_bestCode_16 (fun z_16 u_16 H locs hz_16 w => ?_)
    obtain ⟨rfl, rfl⟩ := hz_16
    have w : Wd X (mw cI q0 q1 q2 q3 q4 q5 q6 q7 q8 q9 nw pt rcd sl sv li ot len pd m wr wm ss lz rm) H locs := w
    have hab_16 := allBits_rg (code := 1) hO (by omega) (k := r) (by omega) (by omega)
    refine r_icmp_ge (pc := 19) (tgt := 26) C (by omega) d_M_bestCode_19 (by decide) (fun c_19 => ?_) (fun c_19 => ?_)
    · skip
      refine r_iload_n (pc := 26) C d_M_bestCode_26 rfl (lv_at hl 1 rfl) ?_
      refine r_istore_n (pc := 27) (lv' := [(1, .int (iI 1)), (2, .int (iI 2)), (0, .ref q0)]) C d_M_bestCode_27 rfl hl (by decide) rfl (fun ls hl => ?_)
      refine r_iinc (pc := 28) (j := 1) (lv' := [(2, .int (iI 3)), (1, .int (iI 1)), (0, .ref q0)]) C d_M_bestCode_28 hl rfl (by decide) rfl (fun ls hl => ?_)
      refine r_goto (pc := 31) (tgt := 4) C d_M_bestCode_31 (by decide) ?_
      refine r_iload_n (pc := 4) C d_M_bestCode_4 rfl (lv_at hl 0 rfl) ?_
      refine r_iconst (pc := 5) C d_M_bestCode_5 ?_
      refine r_icmp_ge (pc := 6) (tgt := 34) C (by omega) d_M_bestCode_6 (by decide) (fun c_6 => ?_) (fun c_6 => absurd c_6 (by omega))
      refine r_iload_n (pc := 34) C d_M_bestCode_34 rfl (lv_at hl 1 rfl) ?_
      exact kret _ _ _ _ 1 _ d_M_bestCode_35 w (by obtain ⟨rfl, hS9⟩ := hS; exact ⟨by (unfold bestC at hS9; (repeat' split at hS9) <;> omega), ⟨hR, q1, q2, q3, q4, q5, q6, q7, q8, q9, nw, pt, sl, sv, _, _, _, pd, _, _, ss, lz, rm, rfl, hM, hC⟩⟩)
    · skip
      refine r_iload_n (pc := 22) C d_M_bestCode_22 rfl (lv_at hl 0 rfl) ?_
      refine r_goto (pc := 23) (tgt := 27) C d_M_bestCode_23 (by decide) ?_
      refine r_istore_n (pc := 27) (lv' := [(1, .int (iI 2)), (2, .int (iI 2)), (0, .ref q0)]) C d_M_bestCode_27 rfl hl (by decide) rfl (fun ls hl => ?_)
      refine r_iinc (pc := 28) (j := 1) (lv' := [(2, .int (iI 3)), (1, .int (iI 2)), (0, .ref q0)]) C d_M_bestCode_28 hl rfl (by decide) rfl (fun ls hl => ?_)
      refine r_goto (pc := 31) (tgt := 4) C d_M_bestCode_31 (by decide) ?_
      refine r_iload_n (pc := 4) C d_M_bestCode_4 rfl (lv_at hl 0 rfl) ?_
      refine r_iconst (pc := 5) C d_M_bestCode_5 ?_
      refine r_icmp_ge (pc := 6) (tgt := 34) C (by omega) d_M_bestCode_6 (by decide) (fun c_6 => ?_) (fun c_6 => absurd c_6 (by omega))
      refine r_iload_n (pc := 34) C d_M_bestCode_34 rfl (lv_at hl 1 rfl) ?_
      exact kret _ _ _ _ 2 _ d_M_bestCode_35 w (by obtain ⟨rfl, hS9⟩ := hS; exact ⟨by (unfold bestC at hS9; (repeat' split at hS9) <;> omega), ⟨hR, q1, q2, q3, q4, q5, q6, q7, q8, q9, nw, pt, sl, sv, _, _, _, pd, _, _, ss, lz, rm, rfl, hM, hC⟩⟩)
theorem d_M_howMany_0 : decode b_M_howMany 0 = .ok (.aload_n 0, 1) := by decide +kernel
theorem d_M_howMany_1 : decode b_M_howMany 1 = .ok (.iload_n 1, 1) := by decide +kernel
theorem d_M_howMany_2 : decode b_M_howMany 2 = .ok (.iload_n 2, 1) := by decide +kernel
theorem d_M_howMany_3 : decode b_M_howMany 3 = .ok (.invokevirtual 82, 3) := by decide +kernel
theorem d_M_howMany_6 : decode b_M_howMany 6 = .ok (.ifCond .ne 5, 3) := by decide +kernel
theorem d_M_howMany_9 : decode b_M_howMany 9 = .ok (.iconst (-1), 1) := by decide +kernel
theorem d_M_howMany_10 : decode b_M_howMany 10 = .ok (.ireturn, 1) := by decide +kernel
theorem d_M_howMany_11 : decode b_M_howMany 11 = .ok (.iload_n 3, 1) := by decide +kernel
theorem d_M_howMany_12 : decode b_M_howMany 12 = .ok (.iconst 0, 1) := by decide +kernel
theorem d_M_howMany_13 : decode b_M_howMany 13 = .ok (.bipush 10, 2) := by decide +kernel
theorem d_M_howMany_15 : decode b_M_howMany 15 = .ok (.invokestatic 75, 3) := by decide +kernel
theorem d_M_howMany_18 : decode b_M_howMany 18 = .ok (.ifCond .eq 13, 3) := by decide +kernel
theorem d_M_howMany_21 : decode b_M_howMany 21 = .ok (.aload_n 0, 1) := by decide +kernel
theorem d_M_howMany_22 : decode b_M_howMany 22 = .ok (.iload_n 1, 1) := by decide +kernel
theorem d_M_howMany_23 : decode b_M_howMany 23 = .ok (.iload_n 2, 1) := by decide +kernel
theorem d_M_howMany_24 : decode b_M_howMany 24 = .ok (.iload_n 3, 1) := by decide +kernel
theorem d_M_howMany_25 : decode b_M_howMany 25 = .ok (.invokevirtual 86, 3) := by decide +kernel
theorem d_M_howMany_28 : decode b_M_howMany 28 = .ok (.goto 5, 3) := by decide +kernel
theorem d_M_howMany_31 : decode b_M_howMany 31 = .ok (.bipush (-2), 2) := by decide +kernel
theorem d_M_howMany_33 : decode b_M_howMany 33 = .ok (.ireturn, 1) := by decide +kernel
set_option maxHeartbeats 4000000 in
set_option maxRecDepth 20000 in
theorem c_M_howMany {l : Launch} {G : va_G} {tys : List (ClassId × FieldType)} {cI cO cZ : ClassId} (hT : TY tys cI cO cZ) (q0 : Nat) (A A' : AS) (z : Int) (ws : va_W) (hA : MW cI q0 A ws) (f k s : Int) (hrg : (-2147483648 ≤ f ∧ f < 2147483648) ∧ (-2147483648 ≤ k ∧ k < 2147483648) ∧ (-2147483648 ≤ s ∧ s < 2147483648)) (hS : Sp_howMany f k s A z A') : CTI l G tys y_M_howMany b_M_howMany 4 .int 3 65 [.ref q0, .int (iI f), .int (iI k), .int (iI s)] ws (fun z' u => z' = z ∧ MW cI q0 A' u) := by
  obtain ⟨⟨lc, sd, r, sg, ln, N, v⟩, hist, rcd, slot, uf, T, m⟩ := A
  obtain ⟨hR, q1, q2, q3, q4, q5, q6, q7, q8, q9, nw, pt, sl, sv, li, ot, len, pd, wr, wm, ss, lz, rm, rfl, hM, hC⟩ := hA
  have hO := hR.1
  have hr5 := hR.2.1
  have hN3 := hR.2.2.1
  have hN0 := hO.n0
  have hr0 := hO.1
  have hlcd := hR.2.2.2
  have hm80 := hC.2.2.2.2.1
  have hrcd6 := hC.1
  have hvr := hO.v_rg
  have hm0 : nw 0 = lc := hM.1
  have hm1 : nw 1 = sd := hM.2.1
  have hm2 : nw 2 = r := hM.2.2.1
  have hS : A' = ((lc, sd, r, sg, ln, N, v), hist, rcd, slot, uf, T, m) ∧ ((¬ (0 ≤ f ∧ 1 ≤ k ∧ k ≤ N - f) ∧ z = -1) ∨ ((0 ≤ f ∧ 1 ≤ k ∧ k ≤ N - f) ∧ ((¬ (0 ≤ s ∧ s ≤ 10) ∧ z = -2) ∨ ((0 ≤ s ∧ s ≤ 10) ∧ z = cn v s f (f + k))))) := hS
  have hM9 := hM
  obtain ⟨-, -, -, hm3⟩ := hM9
  have hm4 : ∀ k, 0 ≤ k → k < r → nw (3 + 2 * k) = sg k ∧ nw (4 + 2 * k) = ln k := fun k h1 h2 => by have := hm3 k h1 h2; rw [show (0 : Int) + 3 = 3 from rfl, show (0 : Int) + 4 = 4 from rfl] at this; exact this
  refine mkI (by decide) (Nat.le_of_ble_eq_true rfl) ?_
  rintro X rfl rfl rfl hRm C kret H ls w hl
  have hl : lv_has ls 4 [(0, .ref q0), (1, .int (iI f)), (2, .int (iI k)), (3, .int (iI s))] := hl
  have w : Wd X (mw cI q0 q1 q2 q3 q4 q5 q6 q7 q8 q9 nw pt rcd sl sv li ot len pd m wr wm ss lz rm) H [] := w
  generalize ([] : List Loc) = locs at w ⊢
  refine r_aload_n (pc := 0) C d_M_howMany_0 rfl (lv_at hl 0 rfl) ?_
  refine r_iload_n (pc := 1) C d_M_howMany_1 rfl (lv_at hl 1 rfl) ?_
  refine r_iload_n (pc := 2) C d_M_howMany_2 rfl (lv_at hl 2 rfl) ?_
  refine r_callVI (pc := 3) (As := [.int (iI f), .int (iI k)]) (rest := []) (wr := []) C w (c_M_hasPiece hT q0 q1 q2 q3 q4 q5 q6 q7 q8 q9 nw pt rcd sl sv li ot len pd m wr wm ss lz rm f k _ _ _ _ _ _ _ hR hM (by omega)) ml_M_82 im_M_hasPiece se_M_hasPiece ini_M cd_M_hasPiece hd_M_hasPiece rfl (by rw [hRm]; exact ⟨⟨Nat.le_of_ble_eq_true rfl, Nat.le_of_ble_eq_true rfl⟩, Nat.le_of_ble_eq_true rfl, Nat.le_of_ble_eq_true rfl⟩) hl.1 [0, 1, 2, 3, 4, 5, 6, 7, 8, 9] [] ⟨rfl, rfl, by decide, by decide, by decide⟩ 0 rfl rfl rfl (Nat.le_of_ble_eq_true rfl) d_M_howMany_3 (fun z_3 u_3 H locs hz_3 w => ?_)
  obtain ⟨li_3, rfl, hli_3, hz_3⟩ := hz_3
  have w : Wd X (mw cI q0 q1 q2 q3 q4 q5 q6 q7 q8 q9 nw pt rcd sl sv li_3 ot N pd m wr wm ss lz rm) H locs := w
  refine r_if_ne (pc := 6) (tgt := 11) C (by omega) d_M_howMany_6 (by decide) (fun c_6 => ?_) (fun c_6 => ?_)
  · skip
    have hb_6 : 0 ≤ f ∧ 1 ≤ k ∧ k ≤ N - f := by omega
    clear hz_3 c_6
    refine r_iload_n (pc := 11) C d_M_howMany_11 rfl (lv_at hl 3 rfl) ?_
    refine r_iconst (pc := 12) C d_M_howMany_12 ?_
    refine r_bipush (pc := 13) C d_M_howMany_13 (by decide) ?_
    refine r_callP (pc := 15) (As := [.int (iI s), .int (iI 0), .int (iI 10)]) (rest := []) C w (c_M_in s 0 10 (by omega)) ml_M_75 st_M_in ini_M cd_M_in hd_M_in rfl (by rw [hRm]; exact ⟨⟨Nat.le_of_ble_eq_true rfl, Nat.le_of_ble_eq_true rfl⟩, Nat.le_of_ble_eq_true rfl, Nat.le_of_ble_eq_true rfl⟩) hl.1 rfl (Nat.le_of_ble_eq_true rfl) d_M_howMany_15 (fun z_15 H locs hz_15 w => ?_)
    refine r_if_eq (pc := 18) (tgt := 31) C (by omega) d_M_howMany_18 (by decide) (fun c_18 => ?_) (fun c_18 => ?_)
    · skip
      have hb_18 : ¬ (0 ≤ s ∧ s ≤ 10) := by omega
      clear hz_15 c_18
      refine r_bipush (pc := 31) C d_M_howMany_31 (by decide) ?_
      exact kret _ _ _ _ (-2) _ d_M_howMany_33 w (by obtain ⟨rfl, hS9⟩ := hS; exact ⟨by omega, ⟨hR, q1, q2, q3, q4, q5, q6, q7, q8, q9, nw, pt, sl, sv, _, _, _, pd, _, _, ss, lz, rm, rfl, hM, hC⟩⟩)
    · skip
      have hb_18 : 0 ≤ s ∧ s ≤ 10 := by omega
      clear hz_15 c_18
      have hcg := cn_congr (v := li_3) (u := v) (s := s) (f := f) (e := f + k) (by omega) (by omega) (fun x h1 h2 => hli_3 x h1 (by omega))
      refine r_aload_n (pc := 21) C d_M_howMany_21 rfl (lv_at hl 0 rfl) ?_
      refine r_iload_n (pc := 22) C d_M_howMany_22 rfl (lv_at hl 1 rfl) ?_
      refine r_iload_n (pc := 23) C d_M_howMany_23 rfl (lv_at hl 2 rfl) ?_
      refine r_iload_n (pc := 24) C d_M_howMany_24 rfl (lv_at hl 3 rfl) ?_
      refine r_callVI (pc := 25) (As := [.int (iI f), .int (iI k), .int (iI s)]) (rest := []) (wr := []) C w (c_M_countIn hT q0 q1 q2 q3 q4 q5 q6 q7 q8 q9 nw pt rcd sl sv li_3 ot N pd m wr wm ss lz rm f k s (by omega) (by omega) (fun x h1 h2 => by rw [hli_3 x (by omega) (by omega)]; exact hvr x (by omega) (by omega))) ml_M_86 im_M_countIn se_M_countIn ini_M cd_M_countIn hd_M_countIn rfl (by rw [hRm]; exact ⟨⟨Nat.le_of_ble_eq_true rfl, Nat.le_of_ble_eq_true rfl⟩, Nat.le_of_ble_eq_true rfl, Nat.le_of_ble_eq_true rfl⟩) hl.1 [0, 1, 2, 3, 4, 5, 6, 7, 8, 9] [] ⟨rfl, rfl, by decide, by decide, by decide⟩ 0 rfl rfl rfl (Nat.le_of_ble_eq_true rfl) d_M_howMany_25 (fun z_25 u_25 H locs hz_25 w => ?_)
      obtain ⟨rfl, rfl⟩ := hz_25
      have w : Wd X (mw cI q0 q1 q2 q3 q4 q5 q6 q7 q8 q9 nw pt rcd sl sv li_3 ot N pd m wr wm ss lz rm) H locs := w
      refine r_goto (pc := 28) (tgt := 33) C d_M_howMany_28 (by decide) ?_
      exact kret _ _ _ _ (cn li_3 s f (f + k)) _ d_M_howMany_33 w (by obtain ⟨rfl, hS9⟩ := hS; exact ⟨by omega, ⟨hR, q1, q2, q3, q4, q5, q6, q7, q8, q9, nw, pt, sl, sv, _, _, _, pd, _, _, ss, lz, rm, rfl, hM, hC⟩⟩)
  · skip
    have hb_6 : ¬ (0 ≤ f ∧ 1 ≤ k ∧ k ≤ N - f) := by omega
    clear hz_3 c_6
    refine r_iconst (pc := 9) C d_M_howMany_9 ?_
    exact kret _ _ _ _ (-1) _ d_M_howMany_10 w (by obtain ⟨rfl, hS9⟩ := hS; exact ⟨by omega, ⟨hR, q1, q2, q3, q4, q5, q6, q7, q8, q9, nw, pt, sl, sv, _, _, _, pd, _, _, ss, lz, rm, rfl, hM, hC⟩⟩)
theorem d_M_ofRun_0 : decode b_M_ofRun 0 = .ok (.iload_n 1, 1) := by decide +kernel
theorem d_M_ofRun_1 : decode b_M_ofRun 1 = .ok (.iconst 0, 1) := by decide +kernel
theorem d_M_ofRun_2 : decode b_M_ofRun 2 = .ok (.aload_n 0, 1) := by decide +kernel
theorem d_M_ofRun_3 : decode b_M_ofRun 3 = .ok (.getfield 7, 3) := by decide +kernel
theorem d_M_ofRun_6 : decode b_M_ofRun 6 = .ok (.iconst 2, 1) := by decide +kernel
theorem d_M_ofRun_7 : decode b_M_ofRun 7 = .ok (.iaload, 1) := by decide +kernel
theorem d_M_ofRun_8 : decode b_M_ofRun 8 = .ok (.iconst 1, 1) := by decide +kernel
theorem d_M_ofRun_9 : decode b_M_ofRun 9 = .ok (.isub, 1) := by decide +kernel
theorem d_M_ofRun_10 : decode b_M_ofRun 10 = .ok (.invokestatic 75, 3) := by decide +kernel
theorem d_M_ofRun_13 : decode b_M_ofRun 13 = .ok (.ifCond .ne 5, 3) := by decide +kernel
theorem d_M_ofRun_16 : decode b_M_ofRun 16 = .ok (.iconst (-1), 1) := by decide +kernel
theorem d_M_ofRun_17 : decode b_M_ofRun 17 = .ok (.ireturn, 1) := by decide +kernel
theorem d_M_ofRun_18 : decode b_M_ofRun 18 = .ok (.iload_n 2, 1) := by decide +kernel
theorem d_M_ofRun_19 : decode b_M_ofRun 19 = .ok (.tableswitch 67 0 3 #[29, 35, 41, 47], 29) := by decide +kernel
theorem d_M_ofRun_48 : decode b_M_ofRun 48 = .ok (.aload_n 0, 1) := by decide +kernel
theorem d_M_ofRun_49 : decode b_M_ofRun 49 = .ok (.iload_n 1, 1) := by decide +kernel
theorem d_M_ofRun_50 : decode b_M_ofRun 50 = .ok (.invokevirtual 55, 3) := by decide +kernel
theorem d_M_ofRun_53 : decode b_M_ofRun 53 = .ok (.ireturn, 1) := by decide +kernel
theorem d_M_ofRun_54 : decode b_M_ofRun 54 = .ok (.aload_n 0, 1) := by decide +kernel
theorem d_M_ofRun_55 : decode b_M_ofRun 55 = .ok (.iload_n 1, 1) := by decide +kernel
theorem d_M_ofRun_56 : decode b_M_ofRun 56 = .ok (.invokevirtual 49, 3) := by decide +kernel
theorem d_M_ofRun_59 : decode b_M_ofRun 59 = .ok (.ireturn, 1) := by decide +kernel
theorem d_M_ofRun_60 : decode b_M_ofRun 60 = .ok (.aload_n 0, 1) := by decide +kernel
theorem d_M_ofRun_61 : decode b_M_ofRun 61 = .ok (.iload_n 1, 1) := by decide +kernel
theorem d_M_ofRun_62 : decode b_M_ofRun 62 = .ok (.invokevirtual 45, 3) := by decide +kernel
theorem d_M_ofRun_65 : decode b_M_ofRun 65 = .ok (.ireturn, 1) := by decide +kernel
theorem d_M_ofRun_66 : decode b_M_ofRun 66 = .ok (.aload_n 0, 1) := by decide +kernel
theorem d_M_ofRun_67 : decode b_M_ofRun 67 = .ok (.iload_n 1, 1) := by decide +kernel
theorem d_M_ofRun_68 : decode b_M_ofRun 68 = .ok (.invokevirtual 55, 3) := by decide +kernel
theorem d_M_ofRun_71 : decode b_M_ofRun 71 = .ok (.aload_n 0, 1) := by decide +kernel
theorem d_M_ofRun_72 : decode b_M_ofRun 72 = .ok (.iload_n 1, 1) := by decide +kernel
theorem d_M_ofRun_73 : decode b_M_ofRun 73 = .ok (.invokevirtual 45, 3) := by decide +kernel
theorem d_M_ofRun_76 : decode b_M_ofRun 76 = .ok (.aload_n 0, 1) := by decide +kernel
theorem d_M_ofRun_77 : decode b_M_ofRun 77 = .ok (.getfield 7, 3) := by decide +kernel
theorem d_M_ofRun_80 : decode b_M_ofRun 80 = .ok (.iconst 0, 1) := by decide +kernel
theorem d_M_ofRun_81 : decode b_M_ofRun 81 = .ok (.iaload, 1) := by decide +kernel
theorem d_M_ofRun_82 : decode b_M_ofRun 82 = .ok (.invokestatic 97, 3) := by decide +kernel
theorem d_M_ofRun_85 : decode b_M_ofRun 85 = .ok (.ireturn, 1) := by decide +kernel
theorem d_M_ofRun_86 : decode b_M_ofRun 86 = .ok (.bipush (-2), 2) := by decide +kernel
theorem d_M_ofRun_88 : decode b_M_ofRun 88 = .ok (.ireturn, 1) := by decide +kernel
set_option maxHeartbeats 4000000 in
set_option maxRecDepth 20000 in
theorem c_M_ofRun {l : Launch} {G : va_G} {tys : List (ClassId × FieldType)} {cI cO cZ : ClassId} (hT : TY tys cI cO cZ) (q0 : Nat) (A A' : AS) (z : Int) (ws : va_W) (hA : MW cI q0 A ws) (k wh : Int) (hrg : (-2147483648 ≤ k ∧ k < 2147483648) ∧ (-2147483648 ≤ wh ∧ wh < 2147483648)) (hS : Sp_ofRun k wh A z A') : CTI l G tys y_M_ofRun b_M_ofRun 3 .int 3 66 [.ref q0, .int (iI k), .int (iI wh)] ws (fun z' u => z' = z ∧ MW cI q0 A' u) := by
  obtain ⟨⟨lc, sd, r, sg, ln, N, v⟩, hist, rcd, slot, uf, T, m⟩ := A
  obtain ⟨hR, q1, q2, q3, q4, q5, q6, q7, q8, q9, nw, pt, sl, sv, li, ot, len, pd, wr, wm, ss, lz, rm, rfl, hM, hC⟩ := hA
  have hO := hR.1
  have hr5 := hR.2.1
  have hN3 := hR.2.2.1
  have hN0 := hO.n0
  have hr0 := hO.1
  have hlcd := hR.2.2.2
  have hm80 := hC.2.2.2.2.1
  have hrcd6 := hC.1
  have hvr := hO.v_rg
  have hm0 : nw 0 = lc := hM.1
  have hm1 : nw 1 = sd := hM.2.1
  have hm2 : nw 2 = r := hM.2.2.1
  have hS : A' = ((lc, sd, r, sg, ln, N, v), hist, rcd, slot, uf, T, m) ∧ ((¬ (0 ≤ k ∧ k < r) ∧ z = -1) ∨ ((0 ≤ k ∧ k < r) ∧ ((wh = 0 ∧ z = sg k) ∨ (wh = 1 ∧ z = ps ln k) ∨ (wh = 2 ∧ z = ln k) ∨ (wh = 3 ∧ z = rb lc (sg k) (ln k)) ∨ ((wh < 0 ∨ 3 < wh) ∧ z = -2)))) := hS
  have hM9 := hM
  obtain ⟨-, -, -, hm3⟩ := hM9
  have hm4 : ∀ k, 0 ≤ k → k < r → nw (3 + 2 * k) = sg k ∧ nw (4 + 2 * k) = ln k := fun k h1 h2 => by have := hm3 k h1 h2; rw [show (0 : Int) + 3 = 3 from rfl, show (0 : Int) + 4 = 4 from rfl] at this; exact this
  refine mkI (by decide) (Nat.le_of_ble_eq_true rfl) ?_
  rintro X rfl rfl rfl hRm C kret H ls w hl
  have hl : lv_has ls 3 [(0, .ref q0), (1, .int (iI k)), (2, .int (iI wh))] := hl
  have w : Wd X (mw cI q0 q1 q2 q3 q4 q5 q6 q7 q8 q9 nw pt rcd sl sv li ot len pd m wr wm ss lz rm) H [] := w
  generalize ([] : List Loc) = locs at w ⊢
  refine r_iload_n (pc := 0) C d_M_ofRun_0 rfl (lv_at hl 1 rfl) ?_
  refine r_iconst (pc := 1) C d_M_ofRun_1 ?_
  refine r_aload_n (pc := 2) C d_M_ofRun_2 rfl (lv_at hl 0 rfl) ?_
  refine r_get (pc := 3) (v := .ref q1) C w i_M rfl 0 rfl 0 (by decide) fl_M_7 rfl rfl d_M_ofRun_3 ?_
  refine r_iconst (pc := 6) C d_M_ofRun_6 ?_
  refine r_iald (pc := 7) (f := nw) (i := 2) C w 0 1 rfl hT.1 (by omega) d_M_ofRun_7 ?_
  refine r_iconst (pc := 8) C d_M_ofRun_8 ?_
  refine r_isub (pc := 9) C d_M_ofRun_9 ?_
  refine r_callP (pc := 10) (As := [.int (iI k), .int (iI 0), .int (iI ((nw 2) - 1))]) (rest := []) C w (c_M_in k 0 ((nw 2) - 1) (by omega)) ml_M_75 st_M_in ini_M cd_M_in hd_M_in rfl (by rw [hRm]; exact ⟨⟨Nat.le_of_ble_eq_true rfl, Nat.le_of_ble_eq_true rfl⟩, Nat.le_of_ble_eq_true rfl, Nat.le_of_ble_eq_true rfl⟩) hl.1 rfl (Nat.le_of_ble_eq_true rfl) d_M_ofRun_10 (fun z_10 H locs hz_10 w => ?_)
  refine r_if_ne (pc := 13) (tgt := 18) C (by omega) d_M_ofRun_13 (by decide) (fun c_13 => ?_) (fun c_13 => ?_)
  · skip
    have hb_13 : 0 ≤ k ∧ k ≤ ((nw 2) - 1) := by omega
    clear hz_10 c_13
    have hk2 := hO.run (k := k) (by omega) (by omega)
    have hk3 := hm4 k (by omega) (by omega)
    refine r_iload_n (pc := 18) C d_M_ofRun_18 rfl (lv_at hl 2 rfl) ?_
    have hsw : wh = 0 ∨ wh = 1 ∨ wh = 2 ∨ wh = 3 ∨ (wh < 0 ∨ 3 < wh) := by omega
    rcases hsw with hsw | hsw | hsw | hsw | hsw
    · skip
      refine r_switchIn (pc := 19) (off := 29) (tgt := 48) C (by omega) (by omega) (by rw [hsw]; rfl) (by decide) d_M_ofRun_19 ?_
      refine r_aload_n (pc := 48) C d_M_ofRun_48 rfl (lv_at hl 0 rfl) ?_
      refine r_iload_n (pc := 49) C d_M_ofRun_49 rfl (lv_at hl 1 rfl) ?_
      refine r_callVI (pc := 50) (As := [.int (iI k)]) (rest := []) (wr := []) C w (c_M_signOf hT q0 q1 q2 q3 q4 q5 q6 q7 q8 q9 nw pt rcd sl sv li ot len pd m wr wm ss lz rm k (by omega)) ml_M_55 im_M_signOf se_M_signOf ini_M cd_M_signOf hd_M_signOf rfl (by rw [hRm]; exact ⟨⟨Nat.le_of_ble_eq_true rfl, Nat.le_of_ble_eq_true rfl⟩, Nat.le_of_ble_eq_true rfl, Nat.le_of_ble_eq_true rfl⟩) hl.1 [0, 1, 2, 3, 4, 5, 6, 7, 8, 9] [] ⟨rfl, rfl, by decide, by decide, by decide⟩ 0 rfl rfl rfl (Nat.le_of_ble_eq_true rfl) d_M_ofRun_50 (fun z_50 u_50 H locs hz_50 w => ?_)
      obtain ⟨rfl, rfl⟩ := hz_50
      have w : Wd X (mw cI q0 q1 q2 q3 q4 q5 q6 q7 q8 q9 nw pt rcd sl sv li ot len pd m wr wm ss lz rm) H locs := w
      exact kret _ _ _ _ (nw (3 + 2 * k)) _ d_M_ofRun_53 w (by obtain ⟨rfl, hS9⟩ := hS; exact ⟨by omega, ⟨hR, q1, q2, q3, q4, q5, q6, q7, q8, q9, nw, pt, sl, sv, _, _, _, pd, _, _, ss, lz, rm, rfl, hM, hC⟩⟩)
    · skip
      refine r_switchIn (pc := 19) (off := 35) (tgt := 54) C (by omega) (by omega) (by rw [hsw]; rfl) (by decide) d_M_ofRun_19 ?_
      refine r_aload_n (pc := 54) C d_M_ofRun_54 rfl (lv_at hl 0 rfl) ?_
      refine r_iload_n (pc := 55) C d_M_ofRun_55 rfl (lv_at hl 1 rfl) ?_
      refine r_callVI (pc := 56) (As := [.int (iI k)]) (rest := []) (wr := []) C w (c_M_firstOf hT q0 q1 q2 q3 q4 q5 q6 q7 q8 q9 nw pt rcd sl sv li ot len pd m wr wm ss lz rm k _ _ _ _ _ _ _ hR hM (by omega)) ml_M_49 im_M_firstOf se_M_firstOf ini_M cd_M_firstOf hd_M_firstOf rfl (by rw [hRm]; exact ⟨⟨Nat.le_of_ble_eq_true rfl, Nat.le_of_ble_eq_true rfl⟩, Nat.le_of_ble_eq_true rfl, Nat.le_of_ble_eq_true rfl⟩) hl.1 [0, 1, 2, 3, 4, 5, 6, 7, 8, 9] [] ⟨rfl, rfl, by decide, by decide, by decide⟩ 0 rfl rfl rfl (Nat.le_of_ble_eq_true rfl) d_M_ofRun_56 (fun z_56 u_56 H locs hz_56 w => ?_)
      obtain ⟨rfl, rfl⟩ := hz_56
      have w : Wd X (mw cI q0 q1 q2 q3 q4 q5 q6 q7 q8 q9 nw pt rcd sl sv li ot len pd m wr wm ss lz rm) H locs := w
      exact kret _ _ _ _ (ps ln k) _ d_M_ofRun_59 w (by obtain ⟨rfl, hS9⟩ := hS; exact ⟨by omega, ⟨hR, q1, q2, q3, q4, q5, q6, q7, q8, q9, nw, pt, sl, sv, _, _, _, pd, _, _, ss, lz, rm, rfl, hM, hC⟩⟩)
    · skip
      refine r_switchIn (pc := 19) (off := 41) (tgt := 60) C (by omega) (by omega) (by rw [hsw]; rfl) (by decide) d_M_ofRun_19 ?_
      refine r_aload_n (pc := 60) C d_M_ofRun_60 rfl (lv_at hl 0 rfl) ?_
      refine r_iload_n (pc := 61) C d_M_ofRun_61 rfl (lv_at hl 1 rfl) ?_
      refine r_callVI (pc := 62) (As := [.int (iI k)]) (rest := []) (wr := []) C w (c_M_lengthOf hT q0 q1 q2 q3 q4 q5 q6 q7 q8 q9 nw pt rcd sl sv li ot len pd m wr wm ss lz rm k (by omega)) ml_M_45 im_M_lengthOf se_M_lengthOf ini_M cd_M_lengthOf hd_M_lengthOf rfl (by rw [hRm]; exact ⟨⟨Nat.le_of_ble_eq_true rfl, Nat.le_of_ble_eq_true rfl⟩, Nat.le_of_ble_eq_true rfl, Nat.le_of_ble_eq_true rfl⟩) hl.1 [0, 1, 2, 3, 4, 5, 6, 7, 8, 9] [] ⟨rfl, rfl, by decide, by decide, by decide⟩ 0 rfl rfl rfl (Nat.le_of_ble_eq_true rfl) d_M_ofRun_62 (fun z_62 u_62 H locs hz_62 w => ?_)
      obtain ⟨rfl, rfl⟩ := hz_62
      have w : Wd X (mw cI q0 q1 q2 q3 q4 q5 q6 q7 q8 q9 nw pt rcd sl sv li ot len pd m wr wm ss lz rm) H locs := w
      exact kret _ _ _ _ (nw (4 + 2 * k)) _ d_M_ofRun_65 w (by obtain ⟨rfl, hS9⟩ := hS; exact ⟨by omega, ⟨hR, q1, q2, q3, q4, q5, q6, q7, q8, q9, nw, pt, sl, sv, _, _, _, pd, _, _, ss, lz, rm, rfl, hM, hC⟩⟩)
    · skip
      refine r_switchIn (pc := 19) (off := 47) (tgt := 66) C (by omega) (by omega) (by rw [hsw]; rfl) (by decide) d_M_ofRun_19 ?_
      refine r_aload_n (pc := 66) C d_M_ofRun_66 rfl (lv_at hl 0 rfl) ?_
      refine r_iload_n (pc := 67) C d_M_ofRun_67 rfl (lv_at hl 1 rfl) ?_
      refine r_callVI (pc := 68) (As := [.int (iI k)]) (rest := []) (wr := []) C w (c_M_signOf hT q0 q1 q2 q3 q4 q5 q6 q7 q8 q9 nw pt rcd sl sv li ot len pd m wr wm ss lz rm k (by omega)) ml_M_55 im_M_signOf se_M_signOf ini_M cd_M_signOf hd_M_signOf rfl (by rw [hRm]; exact ⟨⟨Nat.le_of_ble_eq_true rfl, Nat.le_of_ble_eq_true rfl⟩, Nat.le_of_ble_eq_true rfl, Nat.le_of_ble_eq_true rfl⟩) hl.1 [0, 1, 2, 3, 4, 5, 6, 7, 8, 9] [] ⟨rfl, rfl, by decide, by decide, by decide⟩ 0 rfl rfl rfl (Nat.le_of_ble_eq_true rfl) d_M_ofRun_68 (fun z_68 u_68 H locs hz_68 w => ?_)
      obtain ⟨rfl, rfl⟩ := hz_68
      have w : Wd X (mw cI q0 q1 q2 q3 q4 q5 q6 q7 q8 q9 nw pt rcd sl sv li ot len pd m wr wm ss lz rm) H locs := w
      refine r_aload_n (pc := 71) C d_M_ofRun_71 rfl (lv_at hl 0 rfl) ?_
      refine r_iload_n (pc := 72) C d_M_ofRun_72 rfl (lv_at hl 1 rfl) ?_
      refine r_callVI (pc := 73) (As := [.int (iI k)]) (rest := [.int (iI (nw (3 + 2 * k)))]) (wr := []) C w (c_M_lengthOf hT q0 q1 q2 q3 q4 q5 q6 q7 q8 q9 nw pt rcd sl sv li ot len pd m wr wm ss lz rm k (by omega)) ml_M_45 im_M_lengthOf se_M_lengthOf ini_M cd_M_lengthOf hd_M_lengthOf rfl (by rw [hRm]; exact ⟨⟨Nat.le_of_ble_eq_true rfl, Nat.le_of_ble_eq_true rfl⟩, Nat.le_of_ble_eq_true rfl, Nat.le_of_ble_eq_true rfl⟩) hl.1 [0, 1, 2, 3, 4, 5, 6, 7, 8, 9] [] ⟨rfl, rfl, by decide, by decide, by decide⟩ 0 rfl rfl rfl (Nat.le_of_ble_eq_true rfl) d_M_ofRun_73 (fun z_73 u_73 H locs hz_73 w => ?_)
      obtain ⟨rfl, rfl⟩ := hz_73
      have w : Wd X (mw cI q0 q1 q2 q3 q4 q5 q6 q7 q8 q9 nw pt rcd sl sv li ot len pd m wr wm ss lz rm) H locs := w
      refine r_aload_n (pc := 76) C d_M_ofRun_76 rfl (lv_at hl 0 rfl) ?_
      refine r_get (pc := 77) (v := .ref q1) C w i_M rfl 0 rfl 0 (by decide) fl_M_7 rfl rfl d_M_ofRun_77 ?_
      refine r_iconst (pc := 80) C d_M_ofRun_80 ?_
      refine r_iald (pc := 81) (f := nw) (i := 0) C w 0 1 rfl hT.1 (by omega) d_M_ofRun_81 ?_
      refine r_callP (pc := 82) (As := [.int (iI (nw (3 + 2 * k))), .int (iI (nw (4 + 2 * k))), .int (iI (nw 0))]) (rest := []) C w (c_M_runBits (nw (3 + 2 * k)) (nw (4 + 2 * k)) (nw 0) (by omega) (by omega) (by omega)) ml_M_97 st_M_runBits ini_M cd_M_runBits hd_M_runBits rfl (by rw [hRm]; exact ⟨⟨Nat.le_of_ble_eq_true rfl, Nat.le_of_ble_eq_true rfl⟩, Nat.le_of_ble_eq_true rfl, Nat.le_of_ble_eq_true rfl⟩) hl.1 rfl (Nat.le_of_ble_eq_true rfl) d_M_ofRun_82 (fun z_82 H locs hz_82 w => ?_)
      subst hz_82
      have hrb := rb_rg (code := (nw 0)) (s := (nw (3 + 2 * k))) (n := (nw (4 + 2 * k))) (by omega)
      exact kret _ _ _ _ (rb (nw 0) (nw (3 + 2 * k)) (nw (4 + 2 * k))) _ d_M_ofRun_85 w (by obtain ⟨rfl, hS9⟩ := hS; exact ⟨by (rw [hk3.1, hk3.2, hm0]; omega), ⟨hR, q1, q2, q3, q4, q5, q6, q7, q8, q9, nw, pt, sl, sv, _, _, _, pd, _, _, ss, lz, rm, rfl, hM, hC⟩⟩)
    · skip
      refine r_switchOut (pc := 19) (tgt := 86) C (by omega) hsw (by decide) d_M_ofRun_19 ?_
      refine r_bipush (pc := 86) C d_M_ofRun_86 (by decide) ?_
      exact kret _ _ _ _ (-2) _ d_M_ofRun_88 w (by obtain ⟨rfl, hS9⟩ := hS; exact ⟨by omega, ⟨hR, q1, q2, q3, q4, q5, q6, q7, q8, q9, nw, pt, sl, sv, _, _, _, pd, _, _, ss, lz, rm, rfl, hM, hC⟩⟩)
  · skip
    have hb_13 : ¬ (0 ≤ k ∧ k ≤ ((nw 2) - 1)) := by omega
    clear hz_10 c_13
    refine r_iconst (pc := 16) C d_M_ofRun_16 ?_
    exact kret _ _ _ _ (-1) _ d_M_ofRun_17 w (by obtain ⟨rfl, hS9⟩ := hS; exact ⟨by omega, ⟨hR, q1, q2, q3, q4, q5, q6, q7, q8, q9, nw, pt, sl, sv, _, _, _, pd, _, _, ss, lz, rm, rfl, hM, hC⟩⟩)
theorem d_M_unlikeMirror_0 : decode b_M_unlikeMirror 0 = .ok (.aload_n 0, 1) := by decide +kernel
theorem d_M_unlikeMirror_1 : decode b_M_unlikeMirror 1 = .ok (.invokevirtual 72, 3) := by decide +kernel
theorem d_M_unlikeMirror_4 : decode b_M_unlikeMirror 4 = .ok (.iconst 0, 1) := by decide +kernel
theorem d_M_unlikeMirror_5 : decode b_M_unlikeMirror 5 = .ok (.istore_n 1, 1) := by decide +kernel
theorem d_M_unlikeMirror_6 : decode b_M_unlikeMirror 6 = .ok (.iconst 0, 1) := by decide +kernel
theorem d_M_unlikeMirror_7 : decode b_M_unlikeMirror 7 = .ok (.istore_n 2, 1) := by decide +kernel
theorem d_M_unlikeMirror_8 : decode b_M_unlikeMirror 8 = .ok (.iload_n 2, 1) := by decide +kernel
theorem d_M_unlikeMirror_9 : decode b_M_unlikeMirror 9 = .ok (.aload_n 0, 1) := by decide +kernel
theorem d_M_unlikeMirror_10 : decode b_M_unlikeMirror 10 = .ok (.getfield 52, 3) := by decide +kernel
theorem d_M_unlikeMirror_13 : decode b_M_unlikeMirror 13 = .ok (.if_icmp .ge 39, 3) := by decide +kernel
theorem d_M_unlikeMirror_16 : decode b_M_unlikeMirror 16 = .ok (.iload_n 1, 1) := by decide +kernel
theorem d_M_unlikeMirror_17 : decode b_M_unlikeMirror 17 = .ok (.aload_n 0, 1) := by decide +kernel
theorem d_M_unlikeMirror_18 : decode b_M_unlikeMirror 18 = .ok (.getfield 19, 3) := by decide +kernel
theorem d_M_unlikeMirror_21 : decode b_M_unlikeMirror 21 = .ok (.iload_n 2, 1) := by decide +kernel
theorem d_M_unlikeMirror_22 : decode b_M_unlikeMirror 22 = .ok (.iaload, 1) := by decide +kernel
theorem d_M_unlikeMirror_23 : decode b_M_unlikeMirror 23 = .ok (.aload_n 0, 1) := by decide +kernel
theorem d_M_unlikeMirror_24 : decode b_M_unlikeMirror 24 = .ok (.getfield 19, 3) := by decide +kernel
theorem d_M_unlikeMirror_27 : decode b_M_unlikeMirror 27 = .ok (.aload_n 0, 1) := by decide +kernel
theorem d_M_unlikeMirror_28 : decode b_M_unlikeMirror 28 = .ok (.getfield 52, 3) := by decide +kernel
theorem d_M_unlikeMirror_31 : decode b_M_unlikeMirror 31 = .ok (.iconst 1, 1) := by decide +kernel
theorem d_M_unlikeMirror_32 : decode b_M_unlikeMirror 32 = .ok (.isub, 1) := by decide +kernel
theorem d_M_unlikeMirror_33 : decode b_M_unlikeMirror 33 = .ok (.iload_n 2, 1) := by decide +kernel
theorem d_M_unlikeMirror_34 : decode b_M_unlikeMirror 34 = .ok (.isub, 1) := by decide +kernel
theorem d_M_unlikeMirror_35 : decode b_M_unlikeMirror 35 = .ok (.iaload, 1) := by decide +kernel
theorem d_M_unlikeMirror_36 : decode b_M_unlikeMirror 36 = .ok (.if_icmp .eq 7, 3) := by decide +kernel
theorem d_M_unlikeMirror_39 : decode b_M_unlikeMirror 39 = .ok (.iconst 1, 1) := by decide +kernel
theorem d_M_unlikeMirror_40 : decode b_M_unlikeMirror 40 = .ok (.goto 4, 3) := by decide +kernel
theorem d_M_unlikeMirror_43 : decode b_M_unlikeMirror 43 = .ok (.iconst 0, 1) := by decide +kernel
theorem d_M_unlikeMirror_44 : decode b_M_unlikeMirror 44 = .ok (.iadd, 1) := by decide +kernel
theorem d_M_unlikeMirror_45 : decode b_M_unlikeMirror 45 = .ok (.istore_n 1, 1) := by decide +kernel
theorem d_M_unlikeMirror_46 : decode b_M_unlikeMirror 46 = .ok (.iinc 2 1, 3) := by decide +kernel
theorem d_M_unlikeMirror_49 : decode b_M_unlikeMirror 49 = .ok (.goto (-41), 3) := by decide +kernel
theorem d_M_unlikeMirror_52 : decode b_M_unlikeMirror 52 = .ok (.iload_n 1, 1) := by decide +kernel
theorem d_M_unlikeMirror_53 : decode b_M_unlikeMirror 53 = .ok (.ireturn, 1) := by decide +kernel
set_option maxHeartbeats 4000000 in
set_option maxRecDepth 20000 in
theorem c_M_unlikeMirror {l : Launch} {G : va_G} {tys : List (ClassId × FieldType)} {cI cO cZ : ClassId} (hT : TY tys cI cO cZ) (q0 : Nat) (A A' : AS) (z : Int) (ws : va_W) (hA : MW cI q0 A ws) (hS : Sp_unlikeMirror  A z A') : CTI l G tys y_M_unlikeMirror b_M_unlikeMirror 3 .int 2 43 [.ref q0] ws (fun z' u => z' = z ∧ MW cI q0 A' u) := by
  obtain ⟨⟨lc, sd, r, sg, ln, N, v⟩, hist, rcd, slot, uf, T, m⟩ := A
  obtain ⟨hR, q1, q2, q3, q4, q5, q6, q7, q8, q9, nw, pt, sl, sv, li, ot, len, pd, wr, wm, ss, lz, rm, rfl, hM, hC⟩ := hA
  have hO := hR.1
  have hr5 := hR.2.1
  have hN3 := hR.2.2.1
  have hN0 := hO.n0
  have hr0 := hO.1
  have hlcd := hR.2.2.2
  have hm80 := hC.2.2.2.2.1
  have hrcd6 := hC.1
  have hvr := hO.v_rg
  have hm0 : nw 0 = lc := hM.1
  have hm1 : nw 1 = sd := hM.2.1
  have hm2 : nw 2 = r := hM.2.2.1
  have hS : A' = ((lc, sd, r, sg, ln, N, v), hist, rcd, slot, uf, T, m) ∧ (z = ps (umf v N) N) := hS
  have hM9 := hM
  obtain ⟨-, -, -, hm3⟩ := hM9
  have hm4 : ∀ k, 0 ≤ k → k < r → nw (3 + 2 * k) = sg k ∧ nw (4 + 2 * k) = ln k := fun k h1 h2 => by have := hm3 k h1 h2; rw [show (0 : Int) + 3 = 3 from rfl, show (0 : Int) + 4 = 4 from rfl] at this; exact this
  refine mkI (by decide) (Nat.le_of_ble_eq_true rfl) ?_
  rintro X rfl rfl rfl hRm C kret H ls w hl
  have hl : lv_has ls 3 [(0, .ref q0)] := hl
  have w : Wd X (mw cI q0 q1 q2 q3 q4 q5 q6 q7 q8 q9 nw pt rcd sl sv li ot len pd m wr wm ss lz rm) H [] := w
  generalize ([] : List Loc) = locs at w ⊢
  refine r_aload_n (pc := 0) C d_M_unlikeMirror_0 rfl (lv_at hl 0 rfl) ?_
  refine r_callVV (pc := 1) (As := []) (rest := []) (wr := []) C w (c_M_laysOut hT q0 q1 q2 q3 q4 q5 q6 q7 q8 q9 nw pt rcd sl sv li ot len pd m wr wm ss lz rm  _ _ _ _ _ _ _ hR hM) ml_M_72 im_M_laysOut se_M_laysOut ini_M cd_M_laysOut hd_M_laysOut rfl (by rw [hRm]; exact ⟨⟨Nat.le_of_ble_eq_true rfl, Nat.le_of_ble_eq_true rfl⟩, Nat.le_of_ble_eq_true rfl, Nat.le_of_ble_eq_true rfl⟩) hl.1 [0, 1, 2, 3, 4, 5, 6, 7, 8, 9] [] ⟨rfl, rfl, by decide, by decide, by decide⟩ 0 rfl rfl rfl (Nat.le_of_ble_eq_true rfl) d_M_unlikeMirror_1 (fun u_1 H locs hz_1 w => ?_)
  obtain ⟨li_1, rfl, hli_1⟩ := hz_1
  have w : Wd X (mw cI q0 q1 q2 q3 q4 q5 q6 q7 q8 q9 nw pt rcd sl sv li_1 ot N pd m wr wm ss lz rm) H locs := w
  refine r_iconst (pc := 4) C d_M_unlikeMirror_4 ?_
  refine r_istore_n (pc := 5) (lv' := [(1, .int (iI 0)), (0, .ref q0)]) C d_M_unlikeMirror_5 rfl hl (by decide) rfl (fun ls hl => ?_)
  refine r_iconst (pc := 6) C d_M_unlikeMirror_6 ?_
  refine r_istore_n (pc := 7) (lv' := [(2, .int (iI 0)), (1, .int (iI 0)), (0, .ref q0)]) C d_M_unlikeMirror_7 rfl hl (by decide) rfl (fun ls hl => ?_)
  have L8 : ∀ (fuel : Nat), ∀ (i : Int) (n : Int), 0 ≤ i ∧ i ≤ N → n = ps (umf v N) i → (N - i) < (fuel : Int) → ∀ (H : Heap) (locs : List Loc) (ls : Array Slot), Wd X (mw cI q0 q1 q2 q3 q4 q5 q6 q7 q8 q9 nw pt rcd sl sv li_1 ot N pd m wr wm ss lz rm) H locs → lv_has ls 3 [(0, .ref q0), (1, .int (iI n)), (2, .int (iI i))] → GG X 0 0 H locs 8 ls [] := by
    intro fuel
    induction fuel with
    | zero =>
      intro i n h0 hn hfuel
      exact absurd hfuel (by omega)
    | succ fuel ih8 =>
      intro i n h0 hn hfuel H locs ls w hl
      refine r_iload_n (pc := 8) C d_M_unlikeMirror_8 rfl (lv_at hl 2 rfl) ?_
      refine r_aload_n (pc := 9) C d_M_unlikeMirror_9 rfl (lv_at hl 0 rfl) ?_
      refine r_get (pc := 10) (v := .int (iI N)) C w i_M rfl 0 rfl 7 (by decide) fl_M_52 rfl rfl d_M_unlikeMirror_10 ?_
      refine r_icmp_ge (pc := 13) (tgt := 52) C (by omega) d_M_unlikeMirror_13 (by decide) (fun c_13 => ?_) (fun c_13 => ?_)
      · skip
        refine r_iload_n (pc := 52) C d_M_unlikeMirror_52 rfl (lv_at hl 1 rfl) ?_
        exact kret _ _ _ _ n _ d_M_unlikeMirror_53 w (by obtain ⟨rfl, hS9⟩ := hS; exact ⟨by (rw [hn, show i = N by omega]; exact hS9.symm), ⟨hR, q1, q2, q3, q4, q5, q6, q7, q8, q9, nw, pt, sl, sv, _, _, _, pd, _, _, ss, lz, rm, rfl, hM, hC⟩⟩)
      · skip
        have hl1 := hli_1 i (by omega) (by omega)
        have hl2 := hli_1 (N - 1 - i) (by omega) (by omega)
        have hv1 := hvr i (by omega) (by omega)
        have hv2 := hvr (N - 1 - i) (by omega) (by omega)
        refine r_iload_n (pc := 16) C d_M_unlikeMirror_16 rfl (lv_at hl 1 rfl) ?_
        refine r_aload_n (pc := 17) C d_M_unlikeMirror_17 rfl (lv_at hl 0 rfl) ?_
        refine r_get (pc := 18) (v := .ref q4) C w i_M rfl 0 rfl 5 (by decide) fl_M_19 rfl rfl d_M_unlikeMirror_18 ?_
        refine r_iload_n (pc := 21) C d_M_unlikeMirror_21 rfl (lv_at hl 2 rfl) ?_
        refine r_iald (pc := 22) (f := li_1) (i := i) C w 0 4 rfl hT.1 (by omega) d_M_unlikeMirror_22 ?_
        refine r_aload_n (pc := 23) C d_M_unlikeMirror_23 rfl (lv_at hl 0 rfl) ?_
        refine r_get (pc := 24) (v := .ref q4) C w i_M rfl 0 rfl 5 (by decide) fl_M_19 rfl rfl d_M_unlikeMirror_24 ?_
        refine r_aload_n (pc := 27) C d_M_unlikeMirror_27 rfl (lv_at hl 0 rfl) ?_
        refine r_get (pc := 28) (v := .int (iI N)) C w i_M rfl 0 rfl 7 (by decide) fl_M_52 rfl rfl d_M_unlikeMirror_28 ?_
        refine r_iconst (pc := 31) C d_M_unlikeMirror_31 ?_
        refine r_isub (pc := 32) C d_M_unlikeMirror_32 ?_
        refine r_iload_n (pc := 33) C d_M_unlikeMirror_33 rfl (lv_at hl 2 rfl) ?_
        refine r_isub (pc := 34) C d_M_unlikeMirror_34 ?_
        refine r_iald (pc := 35) (f := li_1) (i := ((N - 1) - i)) C w 0 4 rfl hT.1 (by omega) d_M_unlikeMirror_35 ?_
        refine r_icmp_eq (pc := 36) (tgt := 43) C (by omega) d_M_unlikeMirror_36 (by decide) (fun c_36 => ?_) (fun c_36 => ?_)
        · skip
          refine r_iconst (pc := 43) C d_M_unlikeMirror_43 ?_
          refine r_iadd (pc := 44) C d_M_unlikeMirror_44 ?_
          refine r_istore_n (pc := 45) (lv' := [(1, .int (iI (n + 0))), (0, .ref q0), (2, .int (iI i))]) C d_M_unlikeMirror_45 rfl hl (by decide) rfl (fun ls hl => ?_)
          refine r_iinc (pc := 46) (j := 2) (lv' := [(2, .int (iI (i + 1))), (1, .int (iI (n + 0))), (0, .ref q0)]) C d_M_unlikeMirror_46 hl rfl (by decide) rfl (fun ls hl => ?_)
          refine r_goto (pc := 49) (tgt := 8) C d_M_unlikeMirror_49 (by decide) ?_
          exact ih8 (i + 1) (n + 0) (by omega) ((by rw [ps_succ _ (by omega), hn]; unfold umf; first | rw [if_pos (by omega)] | rw [if_neg (by omega)])) (by omega) _ _ _ w (lv_sub hl [2, 1, 0] rfl)
        · skip
          refine r_iconst (pc := 39) C d_M_unlikeMirror_39 ?_
          refine r_goto (pc := 40) (tgt := 44) C d_M_unlikeMirror_40 (by decide) ?_
          refine r_iadd (pc := 44) C d_M_unlikeMirror_44 ?_
          refine r_istore_n (pc := 45) (lv' := [(1, .int (iI (n + 1))), (0, .ref q0), (2, .int (iI i))]) C d_M_unlikeMirror_45 rfl hl (by decide) rfl (fun ls hl => ?_)
          refine r_iinc (pc := 46) (j := 2) (lv' := [(2, .int (iI (i + 1))), (1, .int (iI (n + 1))), (0, .ref q0)]) C d_M_unlikeMirror_46 hl rfl (by decide) rfl (fun ls hl => ?_)
          refine r_goto (pc := 49) (tgt := 8) C d_M_unlikeMirror_49 (by decide) ?_
          exact ih8 (i + 1) (n + 1) (by omega) ((by rw [ps_succ _ (by omega), hn]; unfold umf; first | rw [if_pos (by omega)] | rw [if_neg (by omega)])) (by omega) _ _ _ w (lv_sub hl [2, 1, 0] rfl)
  exact L8 ((N - 0) + 1 : Int).toNat 0 0 (by first | omega | rfl) (by first | omega | rfl) (by omega) _ _ _ w (lv_sub hl [2, 1, 0] rfl)
theorem d_M_longestLive_0 : decode b_M_longestLive 0 = .ok (.iload_n 1, 1) := by decide +kernel
theorem d_M_longestLive_1 : decode b_M_longestLive 1 = .ok (.iconst 0, 1) := by decide +kernel
theorem d_M_longestLive_2 : decode b_M_longestLive 2 = .ok (.iconst 1, 1) := by decide +kernel
theorem d_M_longestLive_3 : decode b_M_longestLive 3 = .ok (.invokestatic 75, 3) := by decide +kernel
theorem d_M_longestLive_6 : decode b_M_longestLive 6 = .ok (.ifCond .ne 6, 3) := by decide +kernel
theorem d_M_longestLive_9 : decode b_M_longestLive 9 = .ok (.bipush (-2), 2) := by decide +kernel
theorem d_M_longestLive_11 : decode b_M_longestLive 11 = .ok (.ireturn, 1) := by decide +kernel
theorem d_M_longestLive_12 : decode b_M_longestLive 12 = .ok (.aload_n 0, 1) := by decide +kernel
theorem d_M_longestLive_13 : decode b_M_longestLive 13 = .ok (.invokevirtual 72, 3) := by decide +kernel
theorem d_M_longestLive_16 : decode b_M_longestLive 16 = .ok (.iconst 0, 1) := by decide +kernel
theorem d_M_longestLive_17 : decode b_M_longestLive 17 = .ok (.istore_n 2, 1) := by decide +kernel
theorem d_M_longestLive_18 : decode b_M_longestLive 18 = .ok (.bipush (-6), 2) := by decide +kernel
theorem d_M_longestLive_20 : decode b_M_longestLive 20 = .ok (.istore_n 3, 1) := by decide +kernel
theorem d_M_longestLive_21 : decode b_M_longestLive 21 = .ok (.iconst 0, 1) := by decide +kernel
theorem d_M_longestLive_22 : decode b_M_longestLive 22 = .ok (.istore 4, 2) := by decide +kernel
theorem d_M_longestLive_24 : decode b_M_longestLive 24 = .ok (.iconst 0, 1) := by decide +kernel
theorem d_M_longestLive_25 : decode b_M_longestLive 25 = .ok (.istore 5, 2) := by decide +kernel
theorem d_M_longestLive_27 : decode b_M_longestLive 27 = .ok (.iload 5, 2) := by decide +kernel
theorem d_M_longestLive_29 : decode b_M_longestLive 29 = .ok (.aload_n 0, 1) := by decide +kernel
theorem d_M_longestLive_30 : decode b_M_longestLive 30 = .ok (.getfield 52, 3) := by decide +kernel
theorem d_M_longestLive_33 : decode b_M_longestLive 33 = .ok (.if_icmp .ge 62, 3) := by decide +kernel
theorem d_M_longestLive_36 : decode b_M_longestLive 36 = .ok (.aload_n 0, 1) := by decide +kernel
theorem d_M_longestLive_37 : decode b_M_longestLive 37 = .ok (.getfield 19, 3) := by decide +kernel
theorem d_M_longestLive_40 : decode b_M_longestLive 40 = .ok (.iload 5, 2) := by decide +kernel
theorem d_M_longestLive_42 : decode b_M_longestLive 42 = .ok (.iaload, 1) := by decide +kernel
theorem d_M_longestLive_43 : decode b_M_longestLive 43 = .ok (.bipush 10, 2) := by decide +kernel
theorem d_M_longestLive_45 : decode b_M_longestLive 45 = .ok (.if_icmp .ne 7, 3) := by decide +kernel
theorem d_M_longestLive_48 : decode b_M_longestLive 48 = .ok (.iconst 0, 1) := by decide +kernel
theorem d_M_longestLive_49 : decode b_M_longestLive 49 = .ok (.goto 7, 3) := by decide +kernel
theorem d_M_longestLive_52 : decode b_M_longestLive 52 = .ok (.iload 4, 2) := by decide +kernel
theorem d_M_longestLive_54 : decode b_M_longestLive 54 = .ok (.iconst 1, 1) := by decide +kernel
theorem d_M_longestLive_55 : decode b_M_longestLive 55 = .ok (.iadd, 1) := by decide +kernel
theorem d_M_longestLive_56 : decode b_M_longestLive 56 = .ok (.istore 4, 2) := by decide +kernel
theorem d_M_longestLive_58 : decode b_M_longestLive 58 = .ok (.iload 4, 2) := by decide +kernel
theorem d_M_longestLive_60 : decode b_M_longestLive 60 = .ok (.iload_n 2, 1) := by decide +kernel
theorem d_M_longestLive_61 : decode b_M_longestLive 61 = .ok (.if_icmp .le 13, 3) := by decide +kernel
theorem d_M_longestLive_64 : decode b_M_longestLive 64 = .ok (.iload 5, 2) := by decide +kernel
theorem d_M_longestLive_66 : decode b_M_longestLive 66 = .ok (.iload 4, 2) := by decide +kernel
theorem d_M_longestLive_68 : decode b_M_longestLive 68 = .ok (.isub, 1) := by decide +kernel
theorem d_M_longestLive_69 : decode b_M_longestLive 69 = .ok (.iconst 1, 1) := by decide +kernel
theorem d_M_longestLive_70 : decode b_M_longestLive 70 = .ok (.iadd, 1) := by decide +kernel
theorem d_M_longestLive_71 : decode b_M_longestLive 71 = .ok (.goto 4, 3) := by decide +kernel
theorem d_M_longestLive_74 : decode b_M_longestLive 74 = .ok (.iload_n 3, 1) := by decide +kernel
theorem d_M_longestLive_75 : decode b_M_longestLive 75 = .ok (.istore_n 3, 1) := by decide +kernel
theorem d_M_longestLive_76 : decode b_M_longestLive 76 = .ok (.iload 4, 2) := by decide +kernel
theorem d_M_longestLive_78 : decode b_M_longestLive 78 = .ok (.iload_n 2, 1) := by decide +kernel
theorem d_M_longestLive_79 : decode b_M_longestLive 79 = .ok (.if_icmp .le 8, 3) := by decide +kernel
theorem d_M_longestLive_82 : decode b_M_longestLive 82 = .ok (.iload 4, 2) := by decide +kernel
theorem d_M_longestLive_84 : decode b_M_longestLive 84 = .ok (.goto 4, 3) := by decide +kernel
theorem d_M_longestLive_87 : decode b_M_longestLive 87 = .ok (.iload_n 2, 1) := by decide +kernel
theorem d_M_longestLive_88 : decode b_M_longestLive 88 = .ok (.istore_n 2, 1) := by decide +kernel
theorem d_M_longestLive_89 : decode b_M_longestLive 89 = .ok (.iinc 5 1, 3) := by decide +kernel
theorem d_M_longestLive_92 : decode b_M_longestLive 92 = .ok (.goto (-65), 3) := by decide +kernel
theorem d_M_longestLive_95 : decode b_M_longestLive 95 = .ok (.iload_n 2, 1) := by decide +kernel
theorem d_M_longestLive_96 : decode b_M_longestLive 96 = .ok (.ifCond .ne 8, 3) := by decide +kernel
theorem d_M_longestLive_99 : decode b_M_longestLive 99 = .ok (.bipush (-6), 2) := by decide +kernel
theorem d_M_longestLive_101 : decode b_M_longestLive 101 = .ok (.goto 12, 3) := by decide +kernel
theorem d_M_longestLive_104 : decode b_M_longestLive 104 = .ok (.iload_n 1, 1) := by decide +kernel
theorem d_M_longestLive_105 : decode b_M_longestLive 105 = .ok (.ifCond .ne 7, 3) := by decide +kernel
theorem d_M_longestLive_108 : decode b_M_longestLive 108 = .ok (.iload_n 3, 1) := by decide +kernel
theorem d_M_longestLive_109 : decode b_M_longestLive 109 = .ok (.goto 4, 3) := by decide +kernel
theorem d_M_longestLive_112 : decode b_M_longestLive 112 = .ok (.iload_n 2, 1) := by decide +kernel
theorem d_M_longestLive_113 : decode b_M_longestLive 113 = .ok (.ireturn, 1) := by decide +kernel
set_option maxHeartbeats 4000000 in
set_option maxRecDepth 20000 in
theorem c_M_longestLive {l : Launch} {G : va_G} {tys : List (ClassId × FieldType)} {cI cO cZ : ClassId} (hT : TY tys cI cO cZ) (q0 : Nat) (A A' : AS) (z : Int) (ws : va_W) (hA : MW cI q0 A ws) (wh : Int) (hrg : (-2147483648 ≤ wh ∧ wh < 2147483648)) (hS : Sp_longestLive wh A z A') : CTI l G tys y_M_longestLive b_M_longestLive 6 .int 2 43 [.ref q0, .int (iI wh)] ws (fun z' u => z' = z ∧ MW cI q0 A' u) := by
  obtain ⟨⟨lc, sd, r, sg, ln, N, v⟩, hist, rcd, slot, uf, T, m⟩ := A
  obtain ⟨hR, q1, q2, q3, q4, q5, q6, q7, q8, q9, nw, pt, sl, sv, li, ot, len, pd, wr, wm, ss, lz, rm, rfl, hM, hC⟩ := hA
  have hO := hR.1
  have hr5 := hR.2.1
  have hN3 := hR.2.2.1
  have hN0 := hO.n0
  have hr0 := hO.1
  have hlcd := hR.2.2.2
  have hm80 := hC.2.2.2.2.1
  have hrcd6 := hC.1
  have hvr := hO.v_rg
  have hm0 : nw 0 = lc := hM.1
  have hm1 : nw 1 = sd := hM.2.1
  have hm2 : nw 2 = r := hM.2.2.1
  have hS : A' = ((lc, sd, r, sg, ln, N, v), hist, rcd, slot, uf, T, m) ∧ ((¬ (0 ≤ wh ∧ wh ≤ 1) ∧ z = -2) ∨ ((0 ≤ wh ∧ wh ≤ 1) ∧ z = if (ll v N).2.1 = 0 then -6 else if wh = 1 then (ll v N).2.1 else (ll v N).2.2)) := hS
  have hM9 := hM
  obtain ⟨-, -, -, hm3⟩ := hM9
  have hm4 : ∀ k, 0 ≤ k → k < r → nw (3 + 2 * k) = sg k ∧ nw (4 + 2 * k) = ln k := fun k h1 h2 => by have := hm3 k h1 h2; rw [show (0 : Int) + 3 = 3 from rfl, show (0 : Int) + 4 = 4 from rfl] at this; exact this
  refine mkI (by decide) (Nat.le_of_ble_eq_true rfl) ?_
  rintro X rfl rfl rfl hRm C kret H ls w hl
  have hl : lv_has ls 6 [(0, .ref q0), (1, .int (iI wh))] := hl
  have w : Wd X (mw cI q0 q1 q2 q3 q4 q5 q6 q7 q8 q9 nw pt rcd sl sv li ot len pd m wr wm ss lz rm) H [] := w
  generalize ([] : List Loc) = locs at w ⊢
  refine r_iload_n (pc := 0) C d_M_longestLive_0 rfl (lv_at hl 1 rfl) ?_
  refine r_iconst (pc := 1) C d_M_longestLive_1 ?_
  refine r_iconst (pc := 2) C d_M_longestLive_2 ?_
  refine r_callP (pc := 3) (As := [.int (iI wh), .int (iI 0), .int (iI 1)]) (rest := []) C w (c_M_in wh 0 1 (by omega)) ml_M_75 st_M_in ini_M cd_M_in hd_M_in rfl (by rw [hRm]; exact ⟨⟨Nat.le_of_ble_eq_true rfl, Nat.le_of_ble_eq_true rfl⟩, Nat.le_of_ble_eq_true rfl, Nat.le_of_ble_eq_true rfl⟩) hl.1 rfl (Nat.le_of_ble_eq_true rfl) d_M_longestLive_3 (fun z_3 H locs hz_3 w => ?_)
  refine r_if_ne (pc := 6) (tgt := 12) C (by omega) d_M_longestLive_6 (by decide) (fun c_6 => ?_) (fun c_6 => ?_)
  · skip
    have hb_6 : 0 ≤ wh ∧ wh ≤ 1 := by omega
    clear hz_3 c_6
    refine r_aload_n (pc := 12) C d_M_longestLive_12 rfl (lv_at hl 0 rfl) ?_
    refine r_callVV (pc := 13) (As := []) (rest := []) (wr := []) C w (c_M_laysOut hT q0 q1 q2 q3 q4 q5 q6 q7 q8 q9 nw pt rcd sl sv li ot len pd m wr wm ss lz rm  _ _ _ _ _ _ _ hR hM) ml_M_72 im_M_laysOut se_M_laysOut ini_M cd_M_laysOut hd_M_laysOut rfl (by rw [hRm]; exact ⟨⟨Nat.le_of_ble_eq_true rfl, Nat.le_of_ble_eq_true rfl⟩, Nat.le_of_ble_eq_true rfl, Nat.le_of_ble_eq_true rfl⟩) hl.1 [0, 1, 2, 3, 4, 5, 6, 7, 8, 9] [] ⟨rfl, rfl, by decide, by decide, by decide⟩ 0 rfl rfl rfl (Nat.le_of_ble_eq_true rfl) d_M_longestLive_13 (fun u_13 H locs hz_13 w => ?_)
    obtain ⟨li_13, rfl, hli_13⟩ := hz_13
    have w : Wd X (mw cI q0 q1 q2 q3 q4 q5 q6 q7 q8 q9 nw pt rcd sl sv li_13 ot N pd m wr wm ss lz rm) H locs := w
    refine r_iconst (pc := 16) C d_M_longestLive_16 ?_
    refine r_istore_n (pc := 17) (lv' := [(2, .int (iI 0)), (0, .ref q0), (1, .int (iI wh))]) C d_M_longestLive_17 rfl hl (by decide) rfl (fun ls hl => ?_)
    refine r_bipush (pc := 18) C d_M_longestLive_18 (by decide) ?_
    refine r_istore_n (pc := 20) (lv' := [(3, .int (iI (-6))), (2, .int (iI 0)), (0, .ref q0), (1, .int (iI wh))]) C d_M_longestLive_20 rfl hl (by decide) rfl (fun ls hl => ?_)
    refine r_iconst (pc := 21) C d_M_longestLive_21 ?_
    refine r_istore (pc := 22) (lv' := [(4, .int (iI 0)), (3, .int (iI (-6))), (2, .int (iI 0)), (0, .ref q0), (1, .int (iI wh))]) C d_M_longestLive_22 hl (by decide) rfl (fun ls hl => ?_)
    refine r_iconst (pc := 24) C d_M_longestLive_24 ?_
    refine r_istore (pc := 25) (lv' := [(5, .int (iI 0)), (4, .int (iI 0)), (3, .int (iI (-6))), (2, .int (iI 0)), (0, .ref q0), (1, .int (iI wh))]) C d_M_longestLive_25 hl (by decide) rfl (fun ls hl => ?_)
    have L27 : ∀ (fuel : Nat), ∀ (i : Int) (mo : Int) (fi : Int) (n : Int), 0 ≤ i ∧ i ≤ N → (n, mo, fi) = ll v i → (N - i) < (fuel : Int) → ∀ (H : Heap) (locs : List Loc) (ls : Array Slot), Wd X (mw cI q0 q1 q2 q3 q4 q5 q6 q7 q8 q9 nw pt rcd sl sv li_13 ot N pd m wr wm ss lz rm) H locs → lv_has ls 6 [(0, .ref q0), (1, .int (iI wh)), (2, .int (iI mo)), (3, .int (iI fi)), (4, .int (iI n)), (5, .int (iI i))] → GG X 0 0 H locs 27 ls [] := by
      intro fuel
      induction fuel with
      | zero =>
        intro i mo fi n h0 hn hfuel
        exact absurd hfuel (by omega)
      | succ fuel ih27 =>
        intro i mo fi n h0 hn hfuel H locs ls w hl
        refine r_iload (pc := 27) C d_M_longestLive_27 (lv_at hl 5 rfl) ?_
        refine r_aload_n (pc := 29) C d_M_longestLive_29 rfl (lv_at hl 0 rfl) ?_
        refine r_get (pc := 30) (v := .int (iI N)) C w i_M rfl 0 rfl 7 (by decide) fl_M_52 rfl rfl d_M_longestLive_30 ?_
        refine r_icmp_ge (pc := 33) (tgt := 95) C (by omega) d_M_longestLive_33 (by decide) (fun c_33 => ?_) (fun c_33 => ?_)
        · skip
          have hlr := ll_rg v i (by omega)
          rw [← hn] at hlr
          have hlr : 0 ≤ n ∧ n ≤ mo ∧ mo ≤ i ∧ (mo = 0 → fi = -6) ∧ (mo ≠ 0 → 0 ≤ fi) ∧ n ≤ i := hlr
          rw [show i = N by omega] at hn
          have hSS := hS.2
          rw [← hn] at hSS
          have hSS : (¬ (0 ≤ wh ∧ wh ≤ 1) ∧ z = -2) ∨ ((0 ≤ wh ∧ wh ≤ 1) ∧ z = if mo = 0 then -6 else if wh = 1 then mo else fi) := hSS
          refine r_iload_n (pc := 95) C d_M_longestLive_95 rfl (lv_at hl 2 rfl) ?_
          refine r_if_ne (pc := 96) (tgt := 104) C (by omega) d_M_longestLive_96 (by decide) (fun c_96 => ?_) (fun c_96 => ?_)
          · skip
            refine r_iload_n (pc := 104) C d_M_longestLive_104 rfl (lv_at hl 1 rfl) ?_
            refine r_if_ne (pc := 105) (tgt := 112) C (by omega) d_M_longestLive_105 (by decide) (fun c_105 => ?_) (fun c_105 => ?_)
            · skip
              refine r_iload_n (pc := 112) C d_M_longestLive_112 rfl (lv_at hl 2 rfl) ?_
              exact kret _ _ _ _ mo _ d_M_longestLive_113 w (by obtain ⟨rfl, -⟩ := hS; exact ⟨by rcases hSS with ⟨e1, e2⟩ | ⟨e1, e2⟩; omega; rw [e2]; (repeat' split) <;> omega, ⟨hR, q1, q2, q3, q4, q5, q6, q7, q8, q9, nw, pt, sl, sv, _, _, _, pd, _, _, ss, lz, rm, rfl, hM, hC⟩⟩)
            · skip
              refine r_iload_n (pc := 108) C d_M_longestLive_108 rfl (lv_at hl 3 rfl) ?_
              refine r_goto (pc := 109) (tgt := 113) C d_M_longestLive_109 (by decide) ?_
              exact kret _ _ _ _ fi _ d_M_longestLive_113 w (by obtain ⟨rfl, -⟩ := hS; exact ⟨by rcases hSS with ⟨e1, e2⟩ | ⟨e1, e2⟩; omega; rw [e2]; (repeat' split) <;> omega, ⟨hR, q1, q2, q3, q4, q5, q6, q7, q8, q9, nw, pt, sl, sv, _, _, _, pd, _, _, ss, lz, rm, rfl, hM, hC⟩⟩)
          · skip
            refine r_bipush (pc := 99) C d_M_longestLive_99 (by decide) ?_
            refine r_goto (pc := 101) (tgt := 113) C d_M_longestLive_101 (by decide) ?_
            exact kret _ _ _ _ (-6) _ d_M_longestLive_113 w (by obtain ⟨rfl, -⟩ := hS; exact ⟨by rcases hSS with ⟨e1, e2⟩ | ⟨e1, e2⟩; omega; rw [e2]; (repeat' split) <;> omega, ⟨hR, q1, q2, q3, q4, q5, q6, q7, q8, q9, nw, pt, sl, sv, _, _, _, pd, _, _, ss, lz, rm, rfl, hM, hC⟩⟩)
        · skip
          have hl1 := hli_13 i (by omega) (by omega)
          have hv1 := hvr i (by omega) (by omega)
          have hlr := ll_rg v i (by omega)
          rw [← hn] at hlr
          have hlr : 0 ≤ n ∧ n ≤ mo ∧ mo ≤ i ∧ (mo = 0 → fi = -6) ∧ (mo ≠ 0 → 0 ≤ fi) ∧ n ≤ i := hlr
          refine r_aload_n (pc := 36) C d_M_longestLive_36 rfl (lv_at hl 0 rfl) ?_
          refine r_get (pc := 37) (v := .ref q4) C w i_M rfl 0 rfl 5 (by decide) fl_M_19 rfl rfl d_M_longestLive_37 ?_
          refine r_iload (pc := 40) C d_M_longestLive_40 (lv_at hl 5 rfl) ?_
          refine r_iald (pc := 42) (f := li_13) (i := i) C w 0 4 rfl hT.1 (by omega) d_M_longestLive_42 ?_
          refine r_bipush (pc := 43) C d_M_longestLive_43 (by decide) ?_
          refine r_icmp_ne (pc := 45) (tgt := 52) C (by omega) d_M_longestLive_45 (by decide) (fun c_45 => ?_) (fun c_45 => ?_)
          · skip
            refine r_iload (pc := 52) C d_M_longestLive_52 (lv_at hl 4 rfl) ?_
            refine r_iconst (pc := 54) C d_M_longestLive_54 ?_
            refine r_iadd (pc := 55) C d_M_longestLive_55 ?_
            refine r_istore (pc := 56) (lv' := [(4, .int (iI (n + 1))), (0, .ref q0), (1, .int (iI wh)), (2, .int (iI mo)), (3, .int (iI fi)), (5, .int (iI i))]) C d_M_longestLive_56 hl (by decide) rfl (fun ls hl => ?_)
            refine r_iload (pc := 58) C d_M_longestLive_58 (lv_at hl 0 rfl) ?_
            refine r_iload_n (pc := 60) C d_M_longestLive_60 rfl (lv_at hl 3 rfl) ?_
            refine r_icmp_le (pc := 61) (tgt := 74) C (by omega) d_M_longestLive_61 (by decide) (fun c_61 => ?_) (fun c_61 => ?_)
            · skip
              refine r_iload_n (pc := 74) C d_M_longestLive_74 rfl (lv_at hl 4 rfl) ?_
              refine r_istore_n (pc := 75) (lv' := [(3, .int (iI fi)), (4, .int (iI (n + 1))), (0, .ref q0), (1, .int (iI wh)), (2, .int (iI mo)), (5, .int (iI i))]) C d_M_longestLive_75 rfl hl (by decide) rfl (fun ls hl => ?_)
              refine r_iload (pc := 76) C d_M_longestLive_76 (lv_at hl 1 rfl) ?_
              refine r_iload_n (pc := 78) C d_M_longestLive_78 rfl (lv_at hl 4 rfl) ?_
              refine r_icmp_le (pc := 79) (tgt := 87) C (by omega) d_M_longestLive_79 (by decide) (fun c_79 => ?_) (fun c_79 => ?_)
              · skip
                refine r_iload_n (pc := 87) C d_M_longestLive_87 rfl (lv_at hl 4 rfl) ?_
                refine r_istore_n (pc := 88) (lv' := [(2, .int (iI mo)), (3, .int (iI fi)), (4, .int (iI (n + 1))), (0, .ref q0), (1, .int (iI wh)), (5, .int (iI i))]) C d_M_longestLive_88 rfl hl (by decide) rfl (fun ls hl => ?_)
                refine r_iinc (pc := 89) (j := 5) (lv' := [(5, .int (iI (i + 1))), (2, .int (iI mo)), (3, .int (iI fi)), (4, .int (iI (n + 1))), (0, .ref q0), (1, .int (iI wh))]) C d_M_longestLive_89 hl rfl (by decide) rfl (fun ls hl => ?_)
                refine r_goto (pc := 92) (tgt := 27) C d_M_longestLive_92 (by decide) ?_
                exact ih27 (i + 1) mo fi (n + 1) (by omega) ((by rw [ll_succ v (by omega), ← hn]; first | (exfalso; omega) | (rw [if_pos (by omega)]) | (rw [if_neg (by omega), if_pos (show mo < n + 1 by omega)]; show (_, _, _) = (n + 1, n + 1, i - n); congr 2; omega) | (rw [if_neg (by omega), if_neg (show ¬ mo < n + 1 by omega)]))) (by omega) _ _ _ w (lv_sub hl [4, 5, 1, 2, 3, 0] rfl)
              · skip
                refine r_iload (pc := 82) C d_M_longestLive_82 (lv_at hl 1 rfl) ?_
                refine r_goto (pc := 84) (tgt := 88) C d_M_longestLive_84 (by decide) ?_
                refine r_istore_n (pc := 88) (lv' := [(2, .int (iI (n + 1))), (3, .int (iI fi)), (4, .int (iI (n + 1))), (0, .ref q0), (1, .int (iI wh)), (5, .int (iI i))]) C d_M_longestLive_88 rfl hl (by decide) rfl (fun ls hl => ?_)
                refine r_iinc (pc := 89) (j := 5) (lv' := [(5, .int (iI (i + 1))), (2, .int (iI (n + 1))), (3, .int (iI fi)), (4, .int (iI (n + 1))), (0, .ref q0), (1, .int (iI wh))]) C d_M_longestLive_89 hl rfl (by decide) rfl (fun ls hl => ?_)
                refine r_goto (pc := 92) (tgt := 27) C d_M_longestLive_92 (by decide) ?_
                exact ih27 (i + 1) (n + 1) fi (n + 1) (by omega) ((by rw [ll_succ v (by omega), ← hn]; first | (exfalso; omega) | (rw [if_pos (by omega)]) | (rw [if_neg (by omega), if_pos (show mo < n + 1 by omega)]; show (_, _, _) = (n + 1, n + 1, i - n); congr 2; omega) | (rw [if_neg (by omega), if_neg (show ¬ mo < n + 1 by omega)]))) (by omega) _ _ _ w (lv_sub hl [4, 5, 1, 2, 3, 0] rfl)
            · skip
              refine r_iload (pc := 64) C d_M_longestLive_64 (lv_at hl 5 rfl) ?_
              refine r_iload (pc := 66) C d_M_longestLive_66 (lv_at hl 0 rfl) ?_
              refine r_isub (pc := 68) C d_M_longestLive_68 ?_
              refine r_iconst (pc := 69) C d_M_longestLive_69 ?_
              refine r_iadd (pc := 70) C d_M_longestLive_70 ?_
              refine r_goto (pc := 71) (tgt := 75) C d_M_longestLive_71 (by decide) ?_
              refine r_istore_n (pc := 75) (lv' := [(3, .int (iI ((i - (n + 1)) + 1))), (4, .int (iI (n + 1))), (0, .ref q0), (1, .int (iI wh)), (2, .int (iI mo)), (5, .int (iI i))]) C d_M_longestLive_75 rfl hl (by decide) rfl (fun ls hl => ?_)
              refine r_iload (pc := 76) C d_M_longestLive_76 (lv_at hl 1 rfl) ?_
              refine r_iload_n (pc := 78) C d_M_longestLive_78 rfl (lv_at hl 4 rfl) ?_
              refine r_icmp_le (pc := 79) (tgt := 87) C (by omega) d_M_longestLive_79 (by decide) (fun c_79 => ?_) (fun c_79 => ?_)
              · skip
                refine r_iload_n (pc := 87) C d_M_longestLive_87 rfl (lv_at hl 4 rfl) ?_
                refine r_istore_n (pc := 88) (lv' := [(2, .int (iI mo)), (3, .int (iI ((i - (n + 1)) + 1))), (4, .int (iI (n + 1))), (0, .ref q0), (1, .int (iI wh)), (5, .int (iI i))]) C d_M_longestLive_88 rfl hl (by decide) rfl (fun ls hl => ?_)
                refine r_iinc (pc := 89) (j := 5) (lv' := [(5, .int (iI (i + 1))), (2, .int (iI mo)), (3, .int (iI ((i - (n + 1)) + 1))), (4, .int (iI (n + 1))), (0, .ref q0), (1, .int (iI wh))]) C d_M_longestLive_89 hl rfl (by decide) rfl (fun ls hl => ?_)
                refine r_goto (pc := 92) (tgt := 27) C d_M_longestLive_92 (by decide) ?_
                exact ih27 (i + 1) mo ((i - (n + 1)) + 1) (n + 1) (by omega) ((by rw [ll_succ v (by omega), ← hn]; first | (exfalso; omega) | (rw [if_pos (by omega)]) | (rw [if_neg (by omega), if_pos (show mo < n + 1 by omega)]; show (_, _, _) = (n + 1, n + 1, i - n); congr 2; omega) | (rw [if_neg (by omega), if_neg (show ¬ mo < n + 1 by omega)]))) (by omega) _ _ _ w (lv_sub hl [4, 5, 1, 2, 3, 0] rfl)
              · skip
                refine r_iload (pc := 82) C d_M_longestLive_82 (lv_at hl 1 rfl) ?_
                refine r_goto (pc := 84) (tgt := 88) C d_M_longestLive_84 (by decide) ?_
                refine r_istore_n (pc := 88) (lv' := [(2, .int (iI (n + 1))), (3, .int (iI ((i - (n + 1)) + 1))), (4, .int (iI (n + 1))), (0, .ref q0), (1, .int (iI wh)), (5, .int (iI i))]) C d_M_longestLive_88 rfl hl (by decide) rfl (fun ls hl => ?_)
                refine r_iinc (pc := 89) (j := 5) (lv' := [(5, .int (iI (i + 1))), (2, .int (iI (n + 1))), (3, .int (iI ((i - (n + 1)) + 1))), (4, .int (iI (n + 1))), (0, .ref q0), (1, .int (iI wh))]) C d_M_longestLive_89 hl rfl (by decide) rfl (fun ls hl => ?_)
                refine r_goto (pc := 92) (tgt := 27) C d_M_longestLive_92 (by decide) ?_
                exact ih27 (i + 1) (n + 1) ((i - (n + 1)) + 1) (n + 1) (by omega) ((by rw [ll_succ v (by omega), ← hn]; first | (exfalso; omega) | (rw [if_pos (by omega)]) | (rw [if_neg (by omega), if_pos (show mo < n + 1 by omega)]; show (_, _, _) = (n + 1, n + 1, i - n); congr 2; omega) | (rw [if_neg (by omega), if_neg (show ¬ mo < n + 1 by omega)]))) (by omega) _ _ _ w (lv_sub hl [4, 5, 1, 2, 3, 0] rfl)
          · skip
            refine r_iconst (pc := 48) C d_M_longestLive_48 ?_
            refine r_goto (pc := 49) (tgt := 56) C d_M_longestLive_49 (by decide) ?_
            refine r_istore (pc := 56) (lv' := [(4, .int (iI 0)), (0, .ref q0), (1, .int (iI wh)), (2, .int (iI mo)), (3, .int (iI fi)), (5, .int (iI i))]) C d_M_longestLive_56 hl (by decide) rfl (fun ls hl => ?_)
            refine r_iload (pc := 58) C d_M_longestLive_58 (lv_at hl 0 rfl) ?_
            refine r_iload_n (pc := 60) C d_M_longestLive_60 rfl (lv_at hl 3 rfl) ?_
            refine r_icmp_le (pc := 61) (tgt := 74) C (by omega) d_M_longestLive_61 (by decide) (fun c_61 => ?_) (fun c_61 => ?_)
            · skip
              refine r_iload_n (pc := 74) C d_M_longestLive_74 rfl (lv_at hl 4 rfl) ?_
              refine r_istore_n (pc := 75) (lv' := [(3, .int (iI fi)), (4, .int (iI 0)), (0, .ref q0), (1, .int (iI wh)), (2, .int (iI mo)), (5, .int (iI i))]) C d_M_longestLive_75 rfl hl (by decide) rfl (fun ls hl => ?_)
              refine r_iload (pc := 76) C d_M_longestLive_76 (lv_at hl 1 rfl) ?_
              refine r_iload_n (pc := 78) C d_M_longestLive_78 rfl (lv_at hl 4 rfl) ?_
              refine r_icmp_le (pc := 79) (tgt := 87) C (by omega) d_M_longestLive_79 (by decide) (fun c_79 => ?_) (fun c_79 => ?_)
              · skip
                refine r_iload_n (pc := 87) C d_M_longestLive_87 rfl (lv_at hl 4 rfl) ?_
                refine r_istore_n (pc := 88) (lv' := [(2, .int (iI mo)), (3, .int (iI fi)), (4, .int (iI 0)), (0, .ref q0), (1, .int (iI wh)), (5, .int (iI i))]) C d_M_longestLive_88 rfl hl (by decide) rfl (fun ls hl => ?_)
                refine r_iinc (pc := 89) (j := 5) (lv' := [(5, .int (iI (i + 1))), (2, .int (iI mo)), (3, .int (iI fi)), (4, .int (iI 0)), (0, .ref q0), (1, .int (iI wh))]) C d_M_longestLive_89 hl rfl (by decide) rfl (fun ls hl => ?_)
                refine r_goto (pc := 92) (tgt := 27) C d_M_longestLive_92 (by decide) ?_
                exact ih27 (i + 1) mo fi 0 (by omega) ((by rw [ll_succ v (by omega), ← hn]; first | (exfalso; omega) | (rw [if_pos (by omega)]) | (rw [if_neg (by omega), if_pos (show mo < n + 1 by omega)]; show (_, _, _) = (n + 1, n + 1, i - n); congr 2; omega) | (rw [if_neg (by omega), if_neg (show ¬ mo < n + 1 by omega)]))) (by omega) _ _ _ w (lv_sub hl [4, 5, 1, 2, 3, 0] rfl)
              · skip
                refine r_iload (pc := 82) C d_M_longestLive_82 (lv_at hl 1 rfl) ?_
                refine r_goto (pc := 84) (tgt := 88) C d_M_longestLive_84 (by decide) ?_
                refine r_istore_n (pc := 88) (lv' := [(2, .int (iI 0)), (3, .int (iI fi)), (4, .int (iI 0)), (0, .ref q0), (1, .int (iI wh)), (5, .int (iI i))]) C d_M_longestLive_88 rfl hl (by decide) rfl (fun ls hl => ?_)
                refine r_iinc (pc := 89) (j := 5) (lv' := [(5, .int (iI (i + 1))), (2, .int (iI 0)), (3, .int (iI fi)), (4, .int (iI 0)), (0, .ref q0), (1, .int (iI wh))]) C d_M_longestLive_89 hl rfl (by decide) rfl (fun ls hl => ?_)
                refine r_goto (pc := 92) (tgt := 27) C d_M_longestLive_92 (by decide) ?_
                exact ih27 (i + 1) 0 fi 0 (by omega) ((by rw [ll_succ v (by omega), ← hn]; first | (exfalso; omega) | (rw [if_pos (by omega)]) | (rw [if_neg (by omega), if_pos (show mo < n + 1 by omega)]; show (_, _, _) = (n + 1, n + 1, i - n); congr 2; omega) | (rw [if_neg (by omega), if_neg (show ¬ mo < n + 1 by omega)]))) (by omega) _ _ _ w (lv_sub hl [4, 5, 1, 2, 3, 0] rfl)
            · skip
              refine r_iload (pc := 64) C d_M_longestLive_64 (lv_at hl 5 rfl) ?_
              refine r_iload (pc := 66) C d_M_longestLive_66 (lv_at hl 0 rfl) ?_
              refine r_isub (pc := 68) C d_M_longestLive_68 ?_
              refine r_iconst (pc := 69) C d_M_longestLive_69 ?_
              refine r_iadd (pc := 70) C d_M_longestLive_70 ?_
              refine r_goto (pc := 71) (tgt := 75) C d_M_longestLive_71 (by decide) ?_
              refine r_istore_n (pc := 75) (lv' := [(3, .int (iI ((i - 0) + 1))), (4, .int (iI 0)), (0, .ref q0), (1, .int (iI wh)), (2, .int (iI mo)), (5, .int (iI i))]) C d_M_longestLive_75 rfl hl (by decide) rfl (fun ls hl => ?_)
              refine r_iload (pc := 76) C d_M_longestLive_76 (lv_at hl 1 rfl) ?_
              refine r_iload_n (pc := 78) C d_M_longestLive_78 rfl (lv_at hl 4 rfl) ?_
              refine r_icmp_le (pc := 79) (tgt := 87) C (by omega) d_M_longestLive_79 (by decide) (fun c_79 => ?_) (fun c_79 => ?_)
              · skip
                refine r_iload_n (pc := 87) C d_M_longestLive_87 rfl (lv_at hl 4 rfl) ?_
                refine r_istore_n (pc := 88) (lv' := [(2, .int (iI mo)), (3, .int (iI ((i - 0) + 1))), (4, .int (iI 0)), (0, .ref q0), (1, .int (iI wh)), (5, .int (iI i))]) C d_M_longestLive_88 rfl hl (by decide) rfl (fun ls hl => ?_)
                refine r_iinc (pc := 89) (j := 5) (lv' := [(5, .int (iI (i + 1))), (2, .int (iI mo)), (3, .int (iI ((i - 0) + 1))), (4, .int (iI 0)), (0, .ref q0), (1, .int (iI wh))]) C d_M_longestLive_89 hl rfl (by decide) rfl (fun ls hl => ?_)
                refine r_goto (pc := 92) (tgt := 27) C d_M_longestLive_92 (by decide) ?_
                exact ih27 (i + 1) mo ((i - 0) + 1) 0 (by omega) ((by rw [ll_succ v (by omega), ← hn]; first | (exfalso; omega) | (rw [if_pos (by omega)]) | (rw [if_neg (by omega), if_pos (show mo < n + 1 by omega)]; show (_, _, _) = (n + 1, n + 1, i - n); congr 2; omega) | (rw [if_neg (by omega), if_neg (show ¬ mo < n + 1 by omega)]))) (by omega) _ _ _ w (lv_sub hl [4, 5, 1, 2, 3, 0] rfl)
              · skip
                refine r_iload (pc := 82) C d_M_longestLive_82 (lv_at hl 1 rfl) ?_
                refine r_goto (pc := 84) (tgt := 88) C d_M_longestLive_84 (by decide) ?_
                refine r_istore_n (pc := 88) (lv' := [(2, .int (iI 0)), (3, .int (iI ((i - 0) + 1))), (4, .int (iI 0)), (0, .ref q0), (1, .int (iI wh)), (5, .int (iI i))]) C d_M_longestLive_88 rfl hl (by decide) rfl (fun ls hl => ?_)
                refine r_iinc (pc := 89) (j := 5) (lv' := [(5, .int (iI (i + 1))), (2, .int (iI 0)), (3, .int (iI ((i - 0) + 1))), (4, .int (iI 0)), (0, .ref q0), (1, .int (iI wh))]) C d_M_longestLive_89 hl rfl (by decide) rfl (fun ls hl => ?_)
                refine r_goto (pc := 92) (tgt := 27) C d_M_longestLive_92 (by decide) ?_
                exact ih27 (i + 1) 0 ((i - 0) + 1) 0 (by omega) ((by rw [ll_succ v (by omega), ← hn]; first | (exfalso; omega) | (rw [if_pos (by omega)]) | (rw [if_neg (by omega), if_pos (show mo < n + 1 by omega)]; show (_, _, _) = (n + 1, n + 1, i - n); congr 2; omega) | (rw [if_neg (by omega), if_neg (show ¬ mo < n + 1 by omega)]))) (by omega) _ _ _ w (lv_sub hl [4, 5, 1, 2, 3, 0] rfl)
    exact L27 ((N - 0) + 1 : Int).toNat 0 0 (-6) 0 (by first | omega | rfl) (rfl) (by omega) _ _ _ w (lv_sub hl [4, 5, 3, 2, 1, 0] rfl)
  · skip
    have hb_6 : ¬ (0 ≤ wh ∧ wh ≤ 1) := by omega
    clear hz_3 c_6
    refine r_bipush (pc := 9) C d_M_longestLive_9 (by decide) ?_
    exact kret _ _ _ _ (-2) _ d_M_longestLive_11 w (by obtain ⟨rfl, hS9⟩ := hS; exact ⟨by omega, ⟨hR, q1, q2, q3, q4, q5, q6, q7, q8, q9, nw, pt, sl, sv, _, _, _, pd, _, _, ss, lz, rm, rfl, hM, hC⟩⟩)
theorem d_M_wipe_0 : decode b_M_wipe 0 = .ok (.aload_n 0, 1) := by decide +kernel
theorem d_M_wipe_1 : decode b_M_wipe 1 = .ok (.getfield 119, 3) := by decide +kernel
theorem d_M_wipe_4 : decode b_M_wipe 4 = .ok (.istore_n 1, 1) := by decide +kernel
theorem d_M_wipe_5 : decode b_M_wipe 5 = .ok (.aload_n 0, 1) := by decide +kernel
theorem d_M_wipe_6 : decode b_M_wipe 6 = .ok (.iconst 0, 1) := by decide +kernel
theorem d_M_wipe_7 : decode b_M_wipe 7 = .ok (.putfield 119, 3) := by decide +kernel
theorem d_M_wipe_10 : decode b_M_wipe 10 = .ok (.iload_n 1, 1) := by decide +kernel
theorem d_M_wipe_11 : decode b_M_wipe 11 = .ok (.ireturn, 1) := by decide +kernel
set_option maxHeartbeats 4000000 in
set_option maxRecDepth 20000 in
theorem c_M_wipe {l : Launch} {G : va_G} {tys : List (ClassId × FieldType)} {cI cO cZ : ClassId} (hT : TY tys cI cO cZ) (q0 : Nat) (A A' : AS) (z : Int) (ws : va_W) (hA : MW cI q0 A ws) (hS : Sp_wipe  A z A') : CTI l G tys y_M_wipe b_M_wipe 2 .int 0 0 [.ref q0] ws (fun z' u => z' = z ∧ MW cI q0 A' u) := by
  obtain ⟨⟨lc, sd, r, sg, ln, N, v⟩, hist, rcd, slot, uf, T, m⟩ := A
  obtain ⟨hR, q1, q2, q3, q4, q5, q6, q7, q8, q9, nw, pt, sl, sv, li, ot, len, pd, wr, wm, ss, lz, rm, rfl, hM, hC⟩ := hA
  have hO := hR.1
  have hr5 := hR.2.1
  have hN3 := hR.2.2.1
  have hN0 := hO.n0
  have hr0 := hO.1
  have hlcd := hR.2.2.2
  have hm80 := hC.2.2.2.2.1
  have hrcd6 := hC.1
  have hvr := hO.v_rg
  have hm0 : nw 0 = lc := hM.1
  have hm1 : nw 1 = sd := hM.2.1
  have hm2 : nw 2 = r := hM.2.2.1
  have hS : z = m ∧ A' = ((lc, sd, r, sg, ln, N, v), hist, rcd, slot, uf, T, 0) := hS
  refine mkI (by decide) (Nat.le_of_ble_eq_true rfl) ?_
  rintro X rfl rfl rfl hRm C kret H ls w hl
  have hl : lv_has ls 2 [(0, .ref q0)] := hl
  have w : Wd X (mw cI q0 q1 q2 q3 q4 q5 q6 q7 q8 q9 nw pt rcd sl sv li ot len pd m wr wm ss lz rm) H [] := w
  generalize ([] : List Loc) = locs at w ⊢
  refine r_aload_n (pc := 0) C d_M_wipe_0 rfl (lv_at hl 0 rfl) ?_
  refine r_get (pc := 1) (v := .int (iI m)) C w i_M rfl 0 rfl 9 (by decide) fl_M_119 rfl rfl d_M_wipe_1 ?_
  refine r_istore_n (pc := 4) (lv' := [(1, .int (iI m)), (0, .ref q0)]) C d_M_wipe_4 rfl hl (by decide) rfl (fun ls hl => ?_)
  refine r_aload_n (pc := 5) C d_M_wipe_5 rfl (lv_at hl 1 rfl) ?_
  refine r_iconst (pc := 6) C d_M_wipe_6 ?_
  refine r_put (pc := 7) (ws' := mw cI q0 q1 q2 q3 q4 q5 q6 q7 q8 q9 nw pt rcd sl sv li ot len pd 0 wr wm ss lz rm) C w i_M t_M t_M_ok n_M rfl 0 rfl 9 (by decide) fl_M_119 rfl rfl rfl rfl (Nat.le_of_ble_eq_true rfl) rfl d_M_wipe_7 (fun H locs w => ?_)
  refine r_iload_n (pc := 10) C d_M_wipe_10 rfl (lv_at hl 0 rfl) ?_
  exact kret _ _ _ _ m _ d_M_wipe_11 w (by obtain ⟨a1, rfl⟩ := hS; exact ⟨a1.symm, hR, q1, q2, q3, q4, q5, q6, q7, q8, q9, nw, pt, sl, sv, _, _, _, pd, _, _, ss, lz, rm, rfl, hM, hC.1, hC.2.1, hC.2.2.1, hC.2.2.2.1, by omega, fun x h1 h2 => by omega⟩)
theorem d_M_bit_0 : decode b_M_bit 0 = .ok (.iload_n 1, 1) := by decide +kernel
theorem d_M_bit_1 : decode b_M_bit 1 = .ok (.iconst 0, 1) := by decide +kernel
theorem d_M_bit_2 : decode b_M_bit 2 = .ok (.aload_n 0, 1) := by decide +kernel
theorem d_M_bit_3 : decode b_M_bit 3 = .ok (.aload_n 0, 1) := by decide +kernel
theorem d_M_bit_4 : decode b_M_bit 4 = .ok (.getfield 7, 3) := by decide +kernel
theorem d_M_bit_7 : decode b_M_bit 7 = .ok (.iconst 0, 1) := by decide +kernel
theorem d_M_bit_8 : decode b_M_bit 8 = .ok (.iaload, 1) := by decide +kernel
theorem d_M_bit_9 : decode b_M_bit 9 = .ok (.invokevirtual 110, 3) := by decide +kernel
theorem d_M_bit_12 : decode b_M_bit 12 = .ok (.iconst 1, 1) := by decide +kernel
theorem d_M_bit_13 : decode b_M_bit 13 = .ok (.isub, 1) := by decide +kernel
theorem d_M_bit_14 : decode b_M_bit 14 = .ok (.invokestatic 75, 3) := by decide +kernel
theorem d_M_bit_17 : decode b_M_bit 17 = .ok (.ifCond .ne 5, 3) := by decide +kernel
theorem d_M_bit_20 : decode b_M_bit 20 = .ok (.iconst (-1), 1) := by decide +kernel
theorem d_M_bit_21 : decode b_M_bit 21 = .ok (.ireturn, 1) := by decide +kernel
theorem d_M_bit_22 : decode b_M_bit 22 = .ok (.iload_n 1, 1) := by decide +kernel
theorem d_M_bit_23 : decode b_M_bit 23 = .ok (.istore_n 2, 1) := by decide +kernel
theorem d_M_bit_24 : decode b_M_bit 24 = .ok (.iconst 0, 1) := by decide +kernel
theorem d_M_bit_25 : decode b_M_bit 25 = .ok (.istore_n 3, 1) := by decide +kernel
theorem d_M_bit_26 : decode b_M_bit 26 = .ok (.iload_n 2, 1) := by decide +kernel
theorem d_M_bit_27 : decode b_M_bit 27 = .ok (.aload_n 0, 1) := by decide +kernel
theorem d_M_bit_28 : decode b_M_bit 28 = .ok (.iload_n 3, 1) := by decide +kernel
theorem d_M_bit_29 : decode b_M_bit 29 = .ok (.invokevirtual 55, 3) := by decide +kernel
theorem d_M_bit_32 : decode b_M_bit 32 = .ok (.aload_n 0, 1) := by decide +kernel
theorem d_M_bit_33 : decode b_M_bit 33 = .ok (.iload_n 3, 1) := by decide +kernel
theorem d_M_bit_34 : decode b_M_bit 34 = .ok (.invokevirtual 45, 3) := by decide +kernel
theorem d_M_bit_37 : decode b_M_bit 37 = .ok (.aload_n 0, 1) := by decide +kernel
theorem d_M_bit_38 : decode b_M_bit 38 = .ok (.getfield 7, 3) := by decide +kernel
theorem d_M_bit_41 : decode b_M_bit 41 = .ok (.iconst 0, 1) := by decide +kernel
theorem d_M_bit_42 : decode b_M_bit 42 = .ok (.iaload, 1) := by decide +kernel
theorem d_M_bit_43 : decode b_M_bit 43 = .ok (.invokestatic 97, 3) := by decide +kernel
theorem d_M_bit_46 : decode b_M_bit 46 = .ok (.if_icmp .lt 31, 3) := by decide +kernel
theorem d_M_bit_49 : decode b_M_bit 49 = .ok (.iload_n 2, 1) := by decide +kernel
theorem d_M_bit_50 : decode b_M_bit 50 = .ok (.aload_n 0, 1) := by decide +kernel
theorem d_M_bit_51 : decode b_M_bit 51 = .ok (.iload_n 3, 1) := by decide +kernel
theorem d_M_bit_52 : decode b_M_bit 52 = .ok (.invokevirtual 55, 3) := by decide +kernel
theorem d_M_bit_55 : decode b_M_bit 55 = .ok (.aload_n 0, 1) := by decide +kernel
theorem d_M_bit_56 : decode b_M_bit 56 = .ok (.iload_n 3, 1) := by decide +kernel
theorem d_M_bit_57 : decode b_M_bit 57 = .ok (.invokevirtual 45, 3) := by decide +kernel
theorem d_M_bit_60 : decode b_M_bit 60 = .ok (.aload_n 0, 1) := by decide +kernel
theorem d_M_bit_61 : decode b_M_bit 61 = .ok (.getfield 7, 3) := by decide +kernel
theorem d_M_bit_64 : decode b_M_bit 64 = .ok (.iconst 0, 1) := by decide +kernel
theorem d_M_bit_65 : decode b_M_bit 65 = .ok (.iaload, 1) := by decide +kernel
theorem d_M_bit_66 : decode b_M_bit 66 = .ok (.invokestatic 97, 3) := by decide +kernel
theorem d_M_bit_69 : decode b_M_bit 69 = .ok (.isub, 1) := by decide +kernel
theorem d_M_bit_70 : decode b_M_bit 70 = .ok (.istore_n 2, 1) := by decide +kernel
theorem d_M_bit_71 : decode b_M_bit 71 = .ok (.iinc 3 1, 3) := by decide +kernel
theorem d_M_bit_74 : decode b_M_bit 74 = .ok (.goto (-48), 3) := by decide +kernel
theorem d_M_bit_77 : decode b_M_bit 77 = .ok (.aload_n 0, 1) := by decide +kernel
theorem d_M_bit_78 : decode b_M_bit 78 = .ok (.iload_n 3, 1) := by decide +kernel
theorem d_M_bit_79 : decode b_M_bit 79 = .ok (.invokevirtual 55, 3) := by decide +kernel
theorem d_M_bit_82 : decode b_M_bit 82 = .ok (.istore 4, 2) := by decide +kernel
theorem d_M_bit_84 : decode b_M_bit 84 = .ok (.iload 4, 2) := by decide +kernel
theorem d_M_bit_86 : decode b_M_bit 86 = .ok (.bipush 10, 2) := by decide +kernel
theorem d_M_bit_88 : decode b_M_bit 88 = .ok (.if_icmp .ne 24, 3) := by decide +kernel
theorem d_M_bit_91 : decode b_M_bit 91 = .ok (.iload_n 2, 1) := by decide +kernel
theorem d_M_bit_92 : decode b_M_bit 92 = .ok (.ifCond .ne 7, 3) := by decide +kernel
theorem d_M_bit_95 : decode b_M_bit 95 = .ok (.iconst 1, 1) := by decide +kernel
theorem d_M_bit_96 : decode b_M_bit 96 = .ok (.goto 15, 3) := by decide +kernel
theorem d_M_bit_99 : decode b_M_bit 99 = .ok (.aload_n 0, 1) := by decide +kernel
theorem d_M_bit_100 : decode b_M_bit 100 = .ok (.aload_n 0, 1) := by decide +kernel
theorem d_M_bit_101 : decode b_M_bit 101 = .ok (.iload_n 3, 1) := by decide +kernel
theorem d_M_bit_102 : decode b_M_bit 102 = .ok (.invokevirtual 45, 3) := by decide +kernel
theorem d_M_bit_105 : decode b_M_bit 105 = .ok (.iload_n 2, 1) := by decide +kernel
theorem d_M_bit_106 : decode b_M_bit 106 = .ok (.iconst 1, 1) := by decide +kernel
theorem d_M_bit_107 : decode b_M_bit 107 = .ok (.isub, 1) := by decide +kernel
theorem d_M_bit_108 : decode b_M_bit 108 = .ok (.invokevirtual 125, 3) := by decide +kernel
theorem d_M_bit_111 : decode b_M_bit 111 = .ok (.ireturn, 1) := by decide +kernel
theorem d_M_bit_112 : decode b_M_bit 112 = .ok (.iload_n 2, 1) := by decide +kernel
theorem d_M_bit_113 : decode b_M_bit 113 = .ok (.iconst 5, 1) := by decide +kernel
theorem d_M_bit_114 : decode b_M_bit 114 = .ok (.if_icmp .ge 13, 3) := by decide +kernel
theorem d_M_bit_117 : decode b_M_bit 117 = .ok (.iload 4, 2) := by decide +kernel
theorem d_M_bit_119 : decode b_M_bit 119 = .ok (.iconst 5, 1) := by decide +kernel
theorem d_M_bit_120 : decode b_M_bit 120 = .ok (.iload_n 2, 1) := by decide +kernel
theorem d_M_bit_121 : decode b_M_bit 121 = .ok (.invokestatic 122, 3) := by decide +kernel
theorem d_M_bit_124 : decode b_M_bit 124 = .ok (.goto 15, 3) := by decide +kernel
theorem d_M_bit_127 : decode b_M_bit 127 = .ok (.aload_n 0, 1) := by decide +kernel
theorem d_M_bit_128 : decode b_M_bit 128 = .ok (.aload_n 0, 1) := by decide +kernel
theorem d_M_bit_129 : decode b_M_bit 129 = .ok (.iload_n 3, 1) := by decide +kernel
theorem d_M_bit_130 : decode b_M_bit 130 = .ok (.invokevirtual 45, 3) := by decide +kernel
theorem d_M_bit_133 : decode b_M_bit 133 = .ok (.iload_n 2, 1) := by decide +kernel
theorem d_M_bit_134 : decode b_M_bit 134 = .ok (.iconst 5, 1) := by decide +kernel
theorem d_M_bit_135 : decode b_M_bit 135 = .ok (.isub, 1) := by decide +kernel
theorem d_M_bit_136 : decode b_M_bit 136 = .ok (.invokevirtual 125, 3) := by decide +kernel
theorem d_M_bit_139 : decode b_M_bit 139 = .ok (.ireturn, 1) := by decide +kernel
set_option maxHeartbeats 4000000 in
set_option maxRecDepth 20000 in
theorem c_M_bit {l : Launch} {G : va_G} {tys : List (ClassId × FieldType)} {cI cO cZ : ClassId} (hT : TY tys cI cO cZ) (q0 : Nat) (A A' : AS) (z : Int) (ws : va_W) (hA : MW cI q0 A ws) (x : Int) (hrg : (-2147483648 ≤ x ∧ x < 2147483648)) (hS : Sp_bit x A z A') : CTI l G tys y_M_bit b_M_bit 5 .int 4 89 [.ref q0, .int (iI x)] ws (fun z' u => z' = z ∧ MW cI q0 A' u) := by
  obtain ⟨⟨lc, sd, r, sg, ln, N, v⟩, hist, rcd, slot, uf, T, m⟩ := A
  obtain ⟨hR, q1, q2, q3, q4, q5, q6, q7, q8, q9, nw, pt, sl, sv, li, ot, len, pd, wr, wm, ss, lz, rm, rfl, hM, hC⟩ := hA
  have hO := hR.1
  have hr5 := hR.2.1
  have hN3 := hR.2.2.1
  have hN0 := hO.n0
  have hr0 := hO.1
  have hlcd := hR.2.2.2
  have hm80 := hC.2.2.2.2.1
  have hrcd6 := hC.1
  have hvr := hO.v_rg
  have hm0 : nw 0 = lc := hM.1
  have hm1 : nw 1 = sd := hM.2.1
  have hm2 : nw 2 = r := hM.2.2.1
  have hS : A' = ((lc, sd, r, sg, ln, N, v), hist, rcd, slot, uf, T, m) ∧ (BitAt lc r sg ln x z) := hS
  have hM9 := hM
  obtain ⟨-, -, -, hm3⟩ := hM9
  have hm4 : ∀ k, 0 ≤ k → k < r → nw (3 + 2 * k) = sg k ∧ nw (4 + 2 * k) = ln k := fun k h1 h2 => by have := hm3 k h1 h2; rw [show (0 : Int) + 3 = 3 from rfl, show (0 : Int) + 4 = 4 from rfl] at this; exact this
  have hz0 : ps (rbf (nw 0) sg ln) r = ps (rbf lc sg ln) r := by rw [hm0]
  have hbm := rbf_mono (code := lc) hO hN3
  have hbz : r = 0 → ps (rbf lc sg ln) r = 0 := fun q => by rw [q, ps_zero]
  refine mkI (by decide) (Nat.le_of_ble_eq_true rfl) ?_
  rintro X rfl rfl rfl hRm C kret H ls w hl
  have hl : lv_has ls 5 [(0, .ref q0), (1, .int (iI x))] := hl
  have w : Wd X (mw cI q0 q1 q2 q3 q4 q5 q6 q7 q8 q9 nw pt rcd sl sv li ot len pd m wr wm ss lz rm) H [] := w
  generalize ([] : List Loc) = locs at w ⊢
  refine r_iload_n (pc := 0) C d_M_bit_0 rfl (lv_at hl 1 rfl) ?_
  refine r_iconst (pc := 1) C d_M_bit_1 ?_
  refine r_aload_n (pc := 2) C d_M_bit_2 rfl (lv_at hl 0 rfl) ?_
  refine r_aload_n (pc := 3) C d_M_bit_3 rfl (lv_at hl 0 rfl) ?_
  refine r_get (pc := 4) (v := .ref q1) C w i_M rfl 0 rfl 0 (by decide) fl_M_7 rfl rfl d_M_bit_4 ?_
  refine r_iconst (pc := 7) C d_M_bit_7 ?_
  refine r_iald (pc := 8) (f := nw) (i := 0) C w 0 1 rfl hT.1 (by omega) d_M_bit_8 ?_
  refine r_callVI (pc := 9) (As := [.int (iI (nw 0))]) (rest := [.int (iI 0), .int (iI x)]) (wr := []) C w (c_M_sizeBy hT q0 q1 q2 q3 q4 q5 q6 q7 q8 q9 nw pt rcd sl sv li ot len pd m wr wm ss lz rm (nw 0) _ _ _ _ _ _ _ hR hM (by omega)) ml_M_110 im_M_sizeBy se_M_sizeBy ini_M cd_M_sizeBy hd_M_sizeBy rfl (by rw [hRm]; exact ⟨⟨Nat.le_of_ble_eq_true rfl, Nat.le_of_ble_eq_true rfl⟩, Nat.le_of_ble_eq_true rfl, Nat.le_of_ble_eq_true rfl⟩) hl.1 [0, 1, 2, 3, 4, 5, 6, 7, 8, 9] [] ⟨rfl, rfl, by decide, by decide, by decide⟩ 0 rfl rfl rfl (Nat.le_of_ble_eq_true rfl) d_M_bit_9 (fun z_9 u_9 H locs hz_9 w => ?_)
  obtain ⟨rfl, rfl⟩ := hz_9
  have w : Wd X (mw cI q0 q1 q2 q3 q4 q5 q6 q7 q8 q9 nw pt rcd sl sv li ot len pd m wr wm ss lz rm) H locs := w
  have hab_9 := allBits_rg (code := (nw 0)) hO (by omega) (k := r) (by omega) (by omega)
  refine r_iconst (pc := 12) C d_M_bit_12 ?_
  refine r_isub (pc := 13) C d_M_bit_13 ?_
  refine r_callP (pc := 14) (As := [.int (iI x), .int (iI 0), .int (iI ((ps (rbf (nw 0) sg ln) r) - 1))]) (rest := []) C w (c_M_in x 0 ((ps (rbf (nw 0) sg ln) r) - 1) (by omega)) ml_M_75 st_M_in ini_M cd_M_in hd_M_in rfl (by rw [hRm]; exact ⟨⟨Nat.le_of_ble_eq_true rfl, Nat.le_of_ble_eq_true rfl⟩, Nat.le_of_ble_eq_true rfl, Nat.le_of_ble_eq_true rfl⟩) hl.1 rfl (Nat.le_of_ble_eq_true rfl) d_M_bit_14 (fun z_14 H locs hz_14 w => ?_)
  refine r_if_ne (pc := 17) (tgt := 22) C (by omega) d_M_bit_17 (by decide) (fun c_17 => ?_) (fun c_17 => ?_)
  · skip
    have hb_17 : 0 ≤ x ∧ x ≤ ((ps (rbf (nw 0) sg ln) r) - 1) := by omega
    clear hz_14 c_17
    refine r_iload_n (pc := 22) C d_M_bit_22 rfl (lv_at hl 1 rfl) ?_
    refine r_istore_n (pc := 23) (lv' := [(2, .int (iI x)), (0, .ref q0), (1, .int (iI x))]) C d_M_bit_23 rfl hl (by decide) rfl (fun ls hl => ?_)
    refine r_iconst (pc := 24) C d_M_bit_24 ?_
    refine r_istore_n (pc := 25) (lv' := [(3, .int (iI 0)), (2, .int (iI x)), (0, .ref q0), (1, .int (iI x))]) C d_M_bit_25 rfl hl (by decide) rfl (fun ls hl => ?_)
    have L26 : ∀ (fuel : Nat), ∀ (run : Int) (left : Int), 0 ≤ run ∧ run < r → left = x - ps (rbf lc sg ln) run ∧ 0 ≤ left → (r - run) < (fuel : Int) → ∀ (H : Heap) (locs : List Loc) (ls : Array Slot), Wd X (mw cI q0 q1 q2 q3 q4 q5 q6 q7 q8 q9 nw pt rcd sl sv li ot len pd m wr wm ss lz rm) H locs → lv_has ls 5 [(0, .ref q0), (1, .int (iI x)), (2, .int (iI left)), (3, .int (iI run))] → GG X 0 0 H locs 26 ls [] := by
      intro fuel
      induction fuel with
      | zero =>
        intro run left h0 hlf hfuel
        exact absurd hfuel (by omega)
      | succ fuel ih26 =>
        intro run left h0 hlf hfuel H locs ls w hl
        have hk2 := hO.run (k := run) (by omega) (by omega)
        have hk3 := hm4 run (by omega) (by omega)
        have hbs : ps (rbf lc sg ln) (run + 1) = ps (rbf lc sg ln) run + rb lc (sg run) (ln run) := ps_succ _ (by omega)
        have hre : rb (nw 0) (nw (3 + 2 * run)) (nw (4 + 2 * run)) = rb lc (sg run) (ln run) := by rw [hm0, hk3.1, hk3.2]
        have hrr := rb_rg (code := lc) (s := sg run) (n := ln run) (by omega)
        have hb0 := (hbm run run (by omega) (by omega) (by omega)).1
        have hmo1 : run + 1 = r → ps (rbf lc sg ln) (run + 1) = ps (rbf lc sg ln) r := fun q => by rw [q]
        refine r_iload_n (pc := 26) C d_M_bit_26 rfl (lv_at hl 2 rfl) ?_
        refine r_aload_n (pc := 27) C d_M_bit_27 rfl (lv_at hl 0 rfl) ?_
        refine r_iload_n (pc := 28) C d_M_bit_28 rfl (lv_at hl 3 rfl) ?_
        refine r_callVI (pc := 29) (As := [.int (iI run)]) (rest := [.int (iI left)]) (wr := []) C w (c_M_signOf hT q0 q1 q2 q3 q4 q5 q6 q7 q8 q9 nw pt rcd sl sv li ot len pd m wr wm ss lz rm run (by omega)) ml_M_55 im_M_signOf se_M_signOf ini_M cd_M_signOf hd_M_signOf rfl (by rw [hRm]; exact ⟨⟨Nat.le_of_ble_eq_true rfl, Nat.le_of_ble_eq_true rfl⟩, Nat.le_of_ble_eq_true rfl, Nat.le_of_ble_eq_true rfl⟩) hl.1 [0, 1, 2, 3, 4, 5, 6, 7, 8, 9] [] ⟨rfl, rfl, by decide, by decide, by decide⟩ 0 rfl rfl rfl (Nat.le_of_ble_eq_true rfl) d_M_bit_29 (fun z_29 u_29 H locs hz_29 w => ?_)
        obtain ⟨rfl, rfl⟩ := hz_29
        have w : Wd X (mw cI q0 q1 q2 q3 q4 q5 q6 q7 q8 q9 nw pt rcd sl sv li ot len pd m wr wm ss lz rm) H locs := w
        refine r_aload_n (pc := 32) C d_M_bit_32 rfl (lv_at hl 0 rfl) ?_
        refine r_iload_n (pc := 33) C d_M_bit_33 rfl (lv_at hl 3 rfl) ?_
        refine r_callVI (pc := 34) (As := [.int (iI run)]) (rest := [.int (iI (nw (3 + 2 * run))), .int (iI left)]) (wr := []) C w (c_M_lengthOf hT q0 q1 q2 q3 q4 q5 q6 q7 q8 q9 nw pt rcd sl sv li ot len pd m wr wm ss lz rm run (by omega)) ml_M_45 im_M_lengthOf se_M_lengthOf ini_M cd_M_lengthOf hd_M_lengthOf rfl (by rw [hRm]; exact ⟨⟨Nat.le_of_ble_eq_true rfl, Nat.le_of_ble_eq_true rfl⟩, Nat.le_of_ble_eq_true rfl, Nat.le_of_ble_eq_true rfl⟩) hl.1 [0, 1, 2, 3, 4, 5, 6, 7, 8, 9] [] ⟨rfl, rfl, by decide, by decide, by decide⟩ 0 rfl rfl rfl (Nat.le_of_ble_eq_true rfl) d_M_bit_34 (fun z_34 u_34 H locs hz_34 w => ?_)
        obtain ⟨rfl, rfl⟩ := hz_34
        have w : Wd X (mw cI q0 q1 q2 q3 q4 q5 q6 q7 q8 q9 nw pt rcd sl sv li ot len pd m wr wm ss lz rm) H locs := w
        refine r_aload_n (pc := 37) C d_M_bit_37 rfl (lv_at hl 0 rfl) ?_
        refine r_get (pc := 38) (v := .ref q1) C w i_M rfl 0 rfl 0 (by decide) fl_M_7 rfl rfl d_M_bit_38 ?_
        refine r_iconst (pc := 41) C d_M_bit_41 ?_
        refine r_iald (pc := 42) (f := nw) (i := 0) C w 0 1 rfl hT.1 (by omega) d_M_bit_42 ?_
        refine r_callP (pc := 43) (As := [.int (iI (nw (3 + 2 * run))), .int (iI (nw (4 + 2 * run))), .int (iI (nw 0))]) (rest := [.int (iI left)]) C w (c_M_runBits (nw (3 + 2 * run)) (nw (4 + 2 * run)) (nw 0) (by omega) (by omega) (by omega)) ml_M_97 st_M_runBits ini_M cd_M_runBits hd_M_runBits rfl (by rw [hRm]; exact ⟨⟨Nat.le_of_ble_eq_true rfl, Nat.le_of_ble_eq_true rfl⟩, Nat.le_of_ble_eq_true rfl, Nat.le_of_ble_eq_true rfl⟩) hl.1 rfl (Nat.le_of_ble_eq_true rfl) d_M_bit_43 (fun z_43 H locs hz_43 w => ?_)
        subst hz_43
        have hrb := rb_rg (code := (nw 0)) (s := (nw (3 + 2 * run))) (n := (nw (4 + 2 * run))) (by omega)
        refine r_icmp_lt (pc := 46) (tgt := 77) C (by omega) d_M_bit_46 (by decide) (fun c_46 => ?_) (fun c_46 => ?_)
        · skip
          have hBI := BitAt.in hS.2 (by omega : 0 ≤ run ∧ run < r) (by omega) (by omega) hbm
          have hlb1 := sb_cases (sg run)
          have hlb2 := lb_rg (code := lc) (n := ln run) (by omega)
          have hrd : rb lc (sg run) (ln run) = sb (sg run) + lb lc (ln run) := rfl
          rw [show x - ps (rbf lc sg ln) run = left by omega] at hBI
          refine r_aload_n (pc := 77) C d_M_bit_77 rfl (lv_at hl 0 rfl) ?_
          refine r_iload_n (pc := 78) C d_M_bit_78 rfl (lv_at hl 3 rfl) ?_
          refine r_callVI (pc := 79) (As := [.int (iI run)]) (rest := []) (wr := []) C w (c_M_signOf hT q0 q1 q2 q3 q4 q5 q6 q7 q8 q9 nw pt rcd sl sv li ot len pd m wr wm ss lz rm run (by omega)) ml_M_55 im_M_signOf se_M_signOf ini_M cd_M_signOf hd_M_signOf rfl (by rw [hRm]; exact ⟨⟨Nat.le_of_ble_eq_true rfl, Nat.le_of_ble_eq_true rfl⟩, Nat.le_of_ble_eq_true rfl, Nat.le_of_ble_eq_true rfl⟩) hl.1 [0, 1, 2, 3, 4, 5, 6, 7, 8, 9] [] ⟨rfl, rfl, by decide, by decide, by decide⟩ 0 rfl rfl rfl (Nat.le_of_ble_eq_true rfl) d_M_bit_79 (fun z_79 u_79 H locs hz_79 w => ?_)
          obtain ⟨rfl, rfl⟩ := hz_79
          have w : Wd X (mw cI q0 q1 q2 q3 q4 q5 q6 q7 q8 q9 nw pt rcd sl sv li ot len pd m wr wm ss lz rm) H locs := w
          refine r_istore (pc := 82) (lv' := [(4, .int (iI (nw (3 + 2 * run)))), (0, .ref q0), (1, .int (iI x)), (2, .int (iI left)), (3, .int (iI run))]) C d_M_bit_82 hl (by decide) rfl (fun ls hl => ?_)
          refine r_iload (pc := 84) C d_M_bit_84 (lv_at hl 0 rfl) ?_
          refine r_bipush (pc := 86) C d_M_bit_86 (by decide) ?_
          refine r_icmp_ne (pc := 88) (tgt := 112) C (by omega) d_M_bit_88 (by decide) (fun c_88 => ?_) (fun c_88 => ?_)
          · skip
            refine r_iload_n (pc := 112) C d_M_bit_112 rfl (lv_at hl 3 rfl) ?_
            refine r_iconst (pc := 113) C d_M_bit_113 ?_
            refine r_icmp_ge (pc := 114) (tgt := 127) C (by omega) d_M_bit_114 (by decide) (fun c_114 => ?_) (fun c_114 => ?_)
            · skip
              refine r_aload_n (pc := 127) C d_M_bit_127 rfl (lv_at hl 1 rfl) ?_
              refine r_aload_n (pc := 128) C d_M_bit_128 rfl (lv_at hl 1 rfl) ?_
              refine r_iload_n (pc := 129) C d_M_bit_129 rfl (lv_at hl 4 rfl) ?_
              refine r_callVI (pc := 130) (As := [.int (iI run)]) (rest := [.ref q0]) (wr := []) C w (c_M_lengthOf hT q0 q1 q2 q3 q4 q5 q6 q7 q8 q9 nw pt rcd sl sv li ot len pd m wr wm ss lz rm run (by omega)) ml_M_45 im_M_lengthOf se_M_lengthOf ini_M cd_M_lengthOf hd_M_lengthOf rfl (by rw [hRm]; exact ⟨⟨Nat.le_of_ble_eq_true rfl, Nat.le_of_ble_eq_true rfl⟩, Nat.le_of_ble_eq_true rfl, Nat.le_of_ble_eq_true rfl⟩) hl.1 [0, 1, 2, 3, 4, 5, 6, 7, 8, 9] [] ⟨rfl, rfl, by decide, by decide, by decide⟩ 0 rfl rfl rfl (Nat.le_of_ble_eq_true rfl) d_M_bit_130 (fun z_130 u_130 H locs hz_130 w => ?_)
              obtain ⟨rfl, rfl⟩ := hz_130
              have w : Wd X (mw cI q0 q1 q2 q3 q4 q5 q6 q7 q8 q9 nw pt rcd sl sv li ot len pd m wr wm ss lz rm) H locs := w
              refine r_iload_n (pc := 133) C d_M_bit_133 rfl (lv_at hl 3 rfl) ?_
              refine r_iconst (pc := 134) C d_M_bit_134 ?_
              refine r_isub (pc := 135) C d_M_bit_135 ?_
              refine r_callVI (pc := 136) (As := [.int (iI (nw (4 + 2 * run))), .int (iI (left - 5))]) (rest := []) (wr := []) C w (c_M_lengthBit hT q0 q1 q2 q3 q4 q5 q6 q7 q8 q9 nw pt rcd sl sv li ot len pd m wr wm ss lz rm (nw (4 + 2 * run)) (left - 5) (by omega) (by omega) (by omega)) ml_M_125 im_M_lengthBit se_M_lengthBit ini_M cd_M_lengthBit hd_M_lengthBit rfl (by rw [hRm]; exact ⟨⟨Nat.le_of_ble_eq_true rfl, Nat.le_of_ble_eq_true rfl⟩, Nat.le_of_ble_eq_true rfl, Nat.le_of_ble_eq_true rfl⟩) hl.1 [0, 1, 2, 3, 4, 5, 6, 7, 8, 9] [] ⟨rfl, rfl, by decide, by decide, by decide⟩ 0 rfl rfl rfl (Nat.le_of_ble_eq_true rfl) d_M_bit_136 (fun z_136 u_136 H locs hz_136 w => ?_)
              obtain ⟨rfl, rfl⟩ := hz_136
              have w : Wd X (mw cI q0 q1 q2 q3 q4 q5 q6 q7 q8 q9 nw pt rcd sl sv li ot len pd m wr wm ss lz rm) H locs := w
              exact kret _ _ _ _ (lbit (nw 0) (nw (4 + 2 * run)) (left - 5)) _ d_M_bit_139 w (by obtain ⟨rfl, -⟩ := hS; exact ⟨by rw [hBI]; unfold brun; first | (rw [if_pos (by omega), hm0, hk3.2, show sb (sg run) = 5 by omega]) | (rw [if_neg (by omega), if_neg (by omega), hk3.1]; congr 1 <;> omega), ⟨hR, q1, q2, q3, q4, q5, q6, q7, q8, q9, nw, pt, sl, sv, _, _, _, pd, _, _, ss, lz, rm, rfl, hM, hC⟩⟩)
            · skip
              refine r_iload (pc := 117) C d_M_bit_117 (lv_at hl 0 rfl) ?_
              refine r_iconst (pc := 119) C d_M_bit_119 ?_
              refine r_iload_n (pc := 120) C d_M_bit_120 rfl (lv_at hl 3 rfl) ?_
              refine r_callP (pc := 121) (As := [.int (iI (nw (3 + 2 * run))), .int (iI 5), .int (iI left)]) (rest := []) C w (c_M_bitAt (nw (3 + 2 * run)) 5 left ) ml_M_122 st_M_bitAt ini_M cd_M_bitAt hd_M_bitAt rfl (by rw [hRm]; exact ⟨⟨Nat.le_of_ble_eq_true rfl, Nat.le_of_ble_eq_true rfl⟩, Nat.le_of_ble_eq_true rfl, Nat.le_of_ble_eq_true rfl⟩) hl.1 rfl (Nat.le_of_ble_eq_true rfl) d_M_bit_121 (fun z_121 H locs hz_121 w => ?_)
              subst hz_121
              refine r_goto (pc := 124) (tgt := 139) C d_M_bit_124 (by decide) ?_
              exact kret _ _ _ _ (bnr (nw (3 + 2 * run)) (5 - 1 - left)) _ d_M_bit_139 w (by obtain ⟨rfl, -⟩ := hS; exact ⟨by rw [hBI]; unfold brun; first | (rw [if_pos (by omega), hm0, hk3.2, show sb (sg run) = 5 by omega]) | (rw [if_neg (by omega), if_neg (by omega), hk3.1]; congr 1 <;> omega), ⟨hR, q1, q2, q3, q4, q5, q6, q7, q8, q9, nw, pt, sl, sv, _, _, _, pd, _, _, ss, lz, rm, rfl, hM, hC⟩⟩)
          · skip
            refine r_iload_n (pc := 91) C d_M_bit_91 rfl (lv_at hl 3 rfl) ?_
            refine r_if_ne (pc := 92) (tgt := 99) C (by omega) d_M_bit_92 (by decide) (fun c_92 => ?_) (fun c_92 => ?_)
            · skip
              refine r_aload_n (pc := 99) C d_M_bit_99 rfl (lv_at hl 1 rfl) ?_
              refine r_aload_n (pc := 100) C d_M_bit_100 rfl (lv_at hl 1 rfl) ?_
              refine r_iload_n (pc := 101) C d_M_bit_101 rfl (lv_at hl 4 rfl) ?_
              refine r_callVI (pc := 102) (As := [.int (iI run)]) (rest := [.ref q0]) (wr := []) C w (c_M_lengthOf hT q0 q1 q2 q3 q4 q5 q6 q7 q8 q9 nw pt rcd sl sv li ot len pd m wr wm ss lz rm run (by omega)) ml_M_45 im_M_lengthOf se_M_lengthOf ini_M cd_M_lengthOf hd_M_lengthOf rfl (by rw [hRm]; exact ⟨⟨Nat.le_of_ble_eq_true rfl, Nat.le_of_ble_eq_true rfl⟩, Nat.le_of_ble_eq_true rfl, Nat.le_of_ble_eq_true rfl⟩) hl.1 [0, 1, 2, 3, 4, 5, 6, 7, 8, 9] [] ⟨rfl, rfl, by decide, by decide, by decide⟩ 0 rfl rfl rfl (Nat.le_of_ble_eq_true rfl) d_M_bit_102 (fun z_102 u_102 H locs hz_102 w => ?_)
              obtain ⟨rfl, rfl⟩ := hz_102
              have w : Wd X (mw cI q0 q1 q2 q3 q4 q5 q6 q7 q8 q9 nw pt rcd sl sv li ot len pd m wr wm ss lz rm) H locs := w
              refine r_iload_n (pc := 105) C d_M_bit_105 rfl (lv_at hl 3 rfl) ?_
              refine r_iconst (pc := 106) C d_M_bit_106 ?_
              refine r_isub (pc := 107) C d_M_bit_107 ?_
              refine r_callVI (pc := 108) (As := [.int (iI (nw (4 + 2 * run))), .int (iI (left - 1))]) (rest := []) (wr := []) C w (c_M_lengthBit hT q0 q1 q2 q3 q4 q5 q6 q7 q8 q9 nw pt rcd sl sv li ot len pd m wr wm ss lz rm (nw (4 + 2 * run)) (left - 1) (by omega) (by omega) (by omega)) ml_M_125 im_M_lengthBit se_M_lengthBit ini_M cd_M_lengthBit hd_M_lengthBit rfl (by rw [hRm]; exact ⟨⟨Nat.le_of_ble_eq_true rfl, Nat.le_of_ble_eq_true rfl⟩, Nat.le_of_ble_eq_true rfl, Nat.le_of_ble_eq_true rfl⟩) hl.1 [0, 1, 2, 3, 4, 5, 6, 7, 8, 9] [] ⟨rfl, rfl, by decide, by decide, by decide⟩ 0 rfl rfl rfl (Nat.le_of_ble_eq_true rfl) d_M_bit_108 (fun z_108 u_108 H locs hz_108 w => ?_)
              obtain ⟨rfl, rfl⟩ := hz_108
              have w : Wd X (mw cI q0 q1 q2 q3 q4 q5 q6 q7 q8 q9 nw pt rcd sl sv li ot len pd m wr wm ss lz rm) H locs := w
              exact kret _ _ _ _ (lbit (nw 0) (nw (4 + 2 * run)) (left - 1)) _ d_M_bit_111 w (by obtain ⟨rfl, -⟩ := hS; exact ⟨by rw [hBI]; unfold brun; first | (rw [if_neg (by omega), if_pos (by omega)]) | (rw [if_pos (by omega), hm0, hk3.2, show sb (sg run) = 1 by omega]), ⟨hR, q1, q2, q3, q4, q5, q6, q7, q8, q9, nw, pt, sl, sv, _, _, _, pd, _, _, ss, lz, rm, rfl, hM, hC⟩⟩)
            · skip
              refine r_iconst (pc := 95) C d_M_bit_95 ?_
              refine r_goto (pc := 96) (tgt := 111) C d_M_bit_96 (by decide) ?_
              exact kret _ _ _ _ 1 _ d_M_bit_111 w (by obtain ⟨rfl, -⟩ := hS; exact ⟨by rw [hBI]; unfold brun; first | (rw [if_neg (by omega), if_pos (by omega)]) | (rw [if_pos (by omega), hm0, hk3.2, show sb (sg run) = 1 by omega]), ⟨hR, q1, q2, q3, q4, q5, q6, q7, q8, q9, nw, pt, sl, sv, _, _, _, pd, _, _, ss, lz, rm, rfl, hM, hC⟩⟩)
        · skip
          refine r_iload_n (pc := 49) C d_M_bit_49 rfl (lv_at hl 2 rfl) ?_
          refine r_aload_n (pc := 50) C d_M_bit_50 rfl (lv_at hl 0 rfl) ?_
          refine r_iload_n (pc := 51) C d_M_bit_51 rfl (lv_at hl 3 rfl) ?_
          refine r_callVI (pc := 52) (As := [.int (iI run)]) (rest := [.int (iI left)]) (wr := []) C w (c_M_signOf hT q0 q1 q2 q3 q4 q5 q6 q7 q8 q9 nw pt rcd sl sv li ot len pd m wr wm ss lz rm run (by omega)) ml_M_55 im_M_signOf se_M_signOf ini_M cd_M_signOf hd_M_signOf rfl (by rw [hRm]; exact ⟨⟨Nat.le_of_ble_eq_true rfl, Nat.le_of_ble_eq_true rfl⟩, Nat.le_of_ble_eq_true rfl, Nat.le_of_ble_eq_true rfl⟩) hl.1 [0, 1, 2, 3, 4, 5, 6, 7, 8, 9] [] ⟨rfl, rfl, by decide, by decide, by decide⟩ 0 rfl rfl rfl (Nat.le_of_ble_eq_true rfl) d_M_bit_52 (fun z_52 u_52 H locs hz_52 w => ?_)
          obtain ⟨rfl, rfl⟩ := hz_52
          have w : Wd X (mw cI q0 q1 q2 q3 q4 q5 q6 q7 q8 q9 nw pt rcd sl sv li ot len pd m wr wm ss lz rm) H locs := w
          refine r_aload_n (pc := 55) C d_M_bit_55 rfl (lv_at hl 0 rfl) ?_
          refine r_iload_n (pc := 56) C d_M_bit_56 rfl (lv_at hl 3 rfl) ?_
          refine r_callVI (pc := 57) (As := [.int (iI run)]) (rest := [.int (iI (nw (3 + 2 * run))), .int (iI left)]) (wr := []) C w (c_M_lengthOf hT q0 q1 q2 q3 q4 q5 q6 q7 q8 q9 nw pt rcd sl sv li ot len pd m wr wm ss lz rm run (by omega)) ml_M_45 im_M_lengthOf se_M_lengthOf ini_M cd_M_lengthOf hd_M_lengthOf rfl (by rw [hRm]; exact ⟨⟨Nat.le_of_ble_eq_true rfl, Nat.le_of_ble_eq_true rfl⟩, Nat.le_of_ble_eq_true rfl, Nat.le_of_ble_eq_true rfl⟩) hl.1 [0, 1, 2, 3, 4, 5, 6, 7, 8, 9] [] ⟨rfl, rfl, by decide, by decide, by decide⟩ 0 rfl rfl rfl (Nat.le_of_ble_eq_true rfl) d_M_bit_57 (fun z_57 u_57 H locs hz_57 w => ?_)
          obtain ⟨rfl, rfl⟩ := hz_57
          have w : Wd X (mw cI q0 q1 q2 q3 q4 q5 q6 q7 q8 q9 nw pt rcd sl sv li ot len pd m wr wm ss lz rm) H locs := w
          refine r_aload_n (pc := 60) C d_M_bit_60 rfl (lv_at hl 0 rfl) ?_
          refine r_get (pc := 61) (v := .ref q1) C w i_M rfl 0 rfl 0 (by decide) fl_M_7 rfl rfl d_M_bit_61 ?_
          refine r_iconst (pc := 64) C d_M_bit_64 ?_
          refine r_iald (pc := 65) (f := nw) (i := 0) C w 0 1 rfl hT.1 (by omega) d_M_bit_65 ?_
          refine r_callP (pc := 66) (As := [.int (iI (nw (3 + 2 * run))), .int (iI (nw (4 + 2 * run))), .int (iI (nw 0))]) (rest := [.int (iI left)]) C w (c_M_runBits (nw (3 + 2 * run)) (nw (4 + 2 * run)) (nw 0) (by omega) (by omega) (by omega)) ml_M_97 st_M_runBits ini_M cd_M_runBits hd_M_runBits rfl (by rw [hRm]; exact ⟨⟨Nat.le_of_ble_eq_true rfl, Nat.le_of_ble_eq_true rfl⟩, Nat.le_of_ble_eq_true rfl, Nat.le_of_ble_eq_true rfl⟩) hl.1 rfl (Nat.le_of_ble_eq_true rfl) d_M_bit_66 (fun z_66 H locs hz_66 w => ?_)
          subst hz_66
          have hrb := rb_rg (code := (nw 0)) (s := (nw (3 + 2 * run))) (n := (nw (4 + 2 * run))) (by omega)
          refine r_isub (pc := 69) C d_M_bit_69 ?_
          refine r_istore_n (pc := 70) (lv' := [(2, .int (iI (left - (rb (nw 0) (nw (3 + 2 * run)) (nw (4 + 2 * run)))))), (0, .ref q0), (1, .int (iI x)), (3, .int (iI run))]) C d_M_bit_70 rfl hl (by decide) rfl (fun ls hl => ?_)
          refine r_iinc (pc := 71) (j := 3) (lv' := [(3, .int (iI (run + 1))), (2, .int (iI (left - (rb (nw 0) (nw (3 + 2 * run)) (nw (4 + 2 * run)))))), (0, .ref q0), (1, .int (iI x))]) C d_M_bit_71 hl rfl (by decide) rfl (fun ls hl => ?_)
          refine r_goto (pc := 74) (tgt := 26) C d_M_bit_74 (by decide) ?_
          exact ih26 (run + 1) (left - (rb (nw 0) (nw (3 + 2 * run)) (nw (4 + 2 * run)))) ((by have := hmo1; omega)) ((by omega)) (by omega) _ _ _ w (lv_sub hl [2, 3, 1, 0] rfl)
    exact L26 ((r - 0) + 1 : Int).toNat 0 x ((by have := hbz; omega)) ((by rw [ps_zero]; omega)) (by omega) _ _ _ w (lv_sub hl [2, 3, 1, 0] rfl)
  · skip
    have hb_17 : ¬ (0 ≤ x ∧ x ≤ ((ps (rbf (nw 0) sg ln) r) - 1)) := by omega
    clear hz_14 c_17
    refine r_iconst (pc := 20) C d_M_bit_20 ?_
    exact kret _ _ _ _ (-1) _ d_M_bit_21 w (by obtain ⟨rfl, hS9⟩ := hS; exact ⟨(BitAt.out hS9 (by omega) (fun k k1 k2 => ⟨(hbm k k (by omega) (by omega) (by omega)).1, (hbm (k + 1) r (by omega) (by omega) (by omega)).2⟩)).symm, ⟨hR, q1, q2, q3, q4, q5, q6, q7, q8, q9, nw, pt, sl, sv, _, _, _, pd, _, _, ss, lz, rm, rfl, hM, hC⟩⟩)
theorem d_M_savedBy_0 : decode b_M_savedBy 0 = .ok (.aload_n 0, 1) := by decide +kernel
theorem d_M_savedBy_1 : decode b_M_savedBy 1 = .ok (.iload_n 1, 1) := by decide +kernel
theorem d_M_savedBy_2 : decode b_M_savedBy 2 = .ok (.invokevirtual 45, 3) := by decide +kernel
theorem d_M_savedBy_5 : decode b_M_savedBy 5 = .ok (.istore_n 3, 1) := by decide +kernel
theorem d_M_savedBy_6 : decode b_M_savedBy 6 = .ok (.aload_n 0, 1) := by decide +kernel
theorem d_M_savedBy_7 : decode b_M_savedBy 7 = .ok (.iload_n 1, 1) := by decide +kernel
theorem d_M_savedBy_8 : decode b_M_savedBy 8 = .ok (.invokevirtual 55, 3) := by decide +kernel
theorem d_M_savedBy_11 : decode b_M_savedBy 11 = .ok (.iload_n 3, 1) := by decide +kernel
theorem d_M_savedBy_12 : decode b_M_savedBy 12 = .ok (.aload_n 0, 1) := by decide +kernel
theorem d_M_savedBy_13 : decode b_M_savedBy 13 = .ok (.getfield 7, 3) := by decide +kernel
theorem d_M_savedBy_16 : decode b_M_savedBy 16 = .ok (.iconst 0, 1) := by decide +kernel
theorem d_M_savedBy_17 : decode b_M_savedBy 17 = .ok (.iaload, 1) := by decide +kernel
theorem d_M_savedBy_18 : decode b_M_savedBy 18 = .ok (.invokestatic 97, 3) := by decide +kernel
theorem d_M_savedBy_21 : decode b_M_savedBy 21 = .ok (.istore 4, 2) := by decide +kernel
theorem d_M_savedBy_23 : decode b_M_savedBy 23 = .ok (.iload_n 1, 1) := by decide +kernel
theorem d_M_savedBy_24 : decode b_M_savedBy 24 = .ok (.ifCond .le 18, 3) := by decide +kernel
theorem d_M_savedBy_27 : decode b_M_savedBy 27 = .ok (.aload_n 0, 1) := by decide +kernel
theorem d_M_savedBy_28 : decode b_M_savedBy 28 = .ok (.iload_n 1, 1) := by decide +kernel
theorem d_M_savedBy_29 : decode b_M_savedBy 29 = .ok (.iconst 1, 1) := by decide +kernel
theorem d_M_savedBy_30 : decode b_M_savedBy 30 = .ok (.isub, 1) := by decide +kernel
theorem d_M_savedBy_31 : decode b_M_savedBy 31 = .ok (.invokevirtual 55, 3) := by decide +kernel
theorem d_M_savedBy_34 : decode b_M_savedBy 34 = .ok (.iload_n 2, 1) := by decide +kernel
theorem d_M_savedBy_35 : decode b_M_savedBy 35 = .ok (.if_icmp .ne 7, 3) := by decide +kernel
theorem d_M_savedBy_38 : decode b_M_savedBy 38 = .ok (.iconst 1, 1) := by decide +kernel
theorem d_M_savedBy_39 : decode b_M_savedBy 39 = .ok (.goto 4, 3) := by decide +kernel
theorem d_M_savedBy_42 : decode b_M_savedBy 42 = .ok (.iconst 0, 1) := by decide +kernel
theorem d_M_savedBy_43 : decode b_M_savedBy 43 = .ok (.istore 5, 2) := by decide +kernel
theorem d_M_savedBy_45 : decode b_M_savedBy 45 = .ok (.iload_n 1, 1) := by decide +kernel
theorem d_M_savedBy_46 : decode b_M_savedBy 46 = .ok (.iconst 1, 1) := by decide +kernel
theorem d_M_savedBy_47 : decode b_M_savedBy 47 = .ok (.iadd, 1) := by decide +kernel
theorem d_M_savedBy_48 : decode b_M_savedBy 48 = .ok (.aload_n 0, 1) := by decide +kernel
theorem d_M_savedBy_49 : decode b_M_savedBy 49 = .ok (.getfield 7, 3) := by decide +kernel
theorem d_M_savedBy_52 : decode b_M_savedBy 52 = .ok (.iconst 2, 1) := by decide +kernel
theorem d_M_savedBy_53 : decode b_M_savedBy 53 = .ok (.iaload, 1) := by decide +kernel
theorem d_M_savedBy_54 : decode b_M_savedBy 54 = .ok (.if_icmp .ge 18, 3) := by decide +kernel
theorem d_M_savedBy_57 : decode b_M_savedBy 57 = .ok (.aload_n 0, 1) := by decide +kernel
theorem d_M_savedBy_58 : decode b_M_savedBy 58 = .ok (.iload_n 1, 1) := by decide +kernel
theorem d_M_savedBy_59 : decode b_M_savedBy 59 = .ok (.iconst 1, 1) := by decide +kernel
theorem d_M_savedBy_60 : decode b_M_savedBy 60 = .ok (.iadd, 1) := by decide +kernel
theorem d_M_savedBy_61 : decode b_M_savedBy 61 = .ok (.invokevirtual 55, 3) := by decide +kernel
theorem d_M_savedBy_64 : decode b_M_savedBy 64 = .ok (.iload_n 2, 1) := by decide +kernel
theorem d_M_savedBy_65 : decode b_M_savedBy 65 = .ok (.if_icmp .ne 7, 3) := by decide +kernel
theorem d_M_savedBy_68 : decode b_M_savedBy 68 = .ok (.iconst 1, 1) := by decide +kernel
theorem d_M_savedBy_69 : decode b_M_savedBy 69 = .ok (.goto 4, 3) := by decide +kernel
theorem d_M_savedBy_72 : decode b_M_savedBy 72 = .ok (.iconst 0, 1) := by decide +kernel
theorem d_M_savedBy_73 : decode b_M_savedBy 73 = .ok (.istore 6, 2) := by decide +kernel
theorem d_M_savedBy_75 : decode b_M_savedBy 75 = .ok (.iload 5, 2) := by decide +kernel
theorem d_M_savedBy_77 : decode b_M_savedBy 77 = .ok (.ifCond .eq 35, 3) := by decide +kernel
theorem d_M_savedBy_80 : decode b_M_savedBy 80 = .ok (.iload 4, 2) := by decide +kernel
theorem d_M_savedBy_82 : decode b_M_savedBy 82 = .ok (.iload_n 2, 1) := by decide +kernel
theorem d_M_savedBy_83 : decode b_M_savedBy 83 = .ok (.aload_n 0, 1) := by decide +kernel
theorem d_M_savedBy_84 : decode b_M_savedBy 84 = .ok (.iload_n 1, 1) := by decide +kernel
theorem d_M_savedBy_85 : decode b_M_savedBy 85 = .ok (.iconst 1, 1) := by decide +kernel
theorem d_M_savedBy_86 : decode b_M_savedBy 86 = .ok (.isub, 1) := by decide +kernel
theorem d_M_savedBy_87 : decode b_M_savedBy 87 = .ok (.invokevirtual 45, 3) := by decide +kernel
theorem d_M_savedBy_90 : decode b_M_savedBy 90 = .ok (.aload_n 0, 1) := by decide +kernel
theorem d_M_savedBy_91 : decode b_M_savedBy 91 = .ok (.getfield 7, 3) := by decide +kernel
theorem d_M_savedBy_94 : decode b_M_savedBy 94 = .ok (.iconst 0, 1) := by decide +kernel
theorem d_M_savedBy_95 : decode b_M_savedBy 95 = .ok (.iaload, 1) := by decide +kernel
theorem d_M_savedBy_96 : decode b_M_savedBy 96 = .ok (.invokestatic 97, 3) := by decide +kernel
theorem d_M_savedBy_99 : decode b_M_savedBy 99 = .ok (.iadd, 1) := by decide +kernel
theorem d_M_savedBy_100 : decode b_M_savedBy 100 = .ok (.istore 4, 2) := by decide +kernel
theorem d_M_savedBy_102 : decode b_M_savedBy 102 = .ok (.iload_n 3, 1) := by decide +kernel
theorem d_M_savedBy_103 : decode b_M_savedBy 103 = .ok (.aload_n 0, 1) := by decide +kernel
theorem d_M_savedBy_104 : decode b_M_savedBy 104 = .ok (.iload_n 1, 1) := by decide +kernel
theorem d_M_savedBy_105 : decode b_M_savedBy 105 = .ok (.iconst 1, 1) := by decide +kernel
theorem d_M_savedBy_106 : decode b_M_savedBy 106 = .ok (.isub, 1) := by decide +kernel
theorem d_M_savedBy_107 : decode b_M_savedBy 107 = .ok (.invokevirtual 45, 3) := by decide +kernel
theorem d_M_savedBy_110 : decode b_M_savedBy 110 = .ok (.iadd, 1) := by decide +kernel
theorem d_M_savedBy_111 : decode b_M_savedBy 111 = .ok (.istore_n 3, 1) := by decide +kernel
theorem d_M_savedBy_112 : decode b_M_savedBy 112 = .ok (.iload 6, 2) := by decide +kernel
theorem d_M_savedBy_114 : decode b_M_savedBy 114 = .ok (.ifCond .eq 35, 3) := by decide +kernel
theorem d_M_savedBy_117 : decode b_M_savedBy 117 = .ok (.iload 4, 2) := by decide +kernel
theorem d_M_savedBy_119 : decode b_M_savedBy 119 = .ok (.iload_n 2, 1) := by decide +kernel
theorem d_M_savedBy_120 : decode b_M_savedBy 120 = .ok (.aload_n 0, 1) := by decide +kernel
theorem d_M_savedBy_121 : decode b_M_savedBy 121 = .ok (.iload_n 1, 1) := by decide +kernel
theorem d_M_savedBy_122 : decode b_M_savedBy 122 = .ok (.iconst 1, 1) := by decide +kernel
theorem d_M_savedBy_123 : decode b_M_savedBy 123 = .ok (.iadd, 1) := by decide +kernel
theorem d_M_savedBy_124 : decode b_M_savedBy 124 = .ok (.invokevirtual 45, 3) := by decide +kernel
theorem d_M_savedBy_127 : decode b_M_savedBy 127 = .ok (.aload_n 0, 1) := by decide +kernel
theorem d_M_savedBy_128 : decode b_M_savedBy 128 = .ok (.getfield 7, 3) := by decide +kernel
theorem d_M_savedBy_131 : decode b_M_savedBy 131 = .ok (.iconst 0, 1) := by decide +kernel
theorem d_M_savedBy_132 : decode b_M_savedBy 132 = .ok (.iaload, 1) := by decide +kernel
theorem d_M_savedBy_133 : decode b_M_savedBy 133 = .ok (.invokestatic 97, 3) := by decide +kernel
theorem d_M_savedBy_136 : decode b_M_savedBy 136 = .ok (.iadd, 1) := by decide +kernel
theorem d_M_savedBy_137 : decode b_M_savedBy 137 = .ok (.istore 4, 2) := by decide +kernel
theorem d_M_savedBy_139 : decode b_M_savedBy 139 = .ok (.iload_n 3, 1) := by decide +kernel
theorem d_M_savedBy_140 : decode b_M_savedBy 140 = .ok (.aload_n 0, 1) := by decide +kernel
theorem d_M_savedBy_141 : decode b_M_savedBy 141 = .ok (.iload_n 1, 1) := by decide +kernel
theorem d_M_savedBy_142 : decode b_M_savedBy 142 = .ok (.iconst 1, 1) := by decide +kernel
theorem d_M_savedBy_143 : decode b_M_savedBy 143 = .ok (.iadd, 1) := by decide +kernel
theorem d_M_savedBy_144 : decode b_M_savedBy 144 = .ok (.invokevirtual 45, 3) := by decide +kernel
theorem d_M_savedBy_147 : decode b_M_savedBy 147 = .ok (.iadd, 1) := by decide +kernel
theorem d_M_savedBy_148 : decode b_M_savedBy 148 = .ok (.istore_n 3, 1) := by decide +kernel
theorem d_M_savedBy_149 : decode b_M_savedBy 149 = .ok (.iload 4, 2) := by decide +kernel
theorem d_M_savedBy_151 : decode b_M_savedBy 151 = .ok (.iload_n 2, 1) := by decide +kernel
theorem d_M_savedBy_152 : decode b_M_savedBy 152 = .ok (.iload_n 3, 1) := by decide +kernel
theorem d_M_savedBy_153 : decode b_M_savedBy 153 = .ok (.aload_n 0, 1) := by decide +kernel
theorem d_M_savedBy_154 : decode b_M_savedBy 154 = .ok (.getfield 7, 3) := by decide +kernel
theorem d_M_savedBy_157 : decode b_M_savedBy 157 = .ok (.iconst 0, 1) := by decide +kernel
theorem d_M_savedBy_158 : decode b_M_savedBy 158 = .ok (.iaload, 1) := by decide +kernel
theorem d_M_savedBy_159 : decode b_M_savedBy 159 = .ok (.invokestatic 97, 3) := by decide +kernel
theorem d_M_savedBy_162 : decode b_M_savedBy 162 = .ok (.isub, 1) := by decide +kernel
theorem d_M_savedBy_163 : decode b_M_savedBy 163 = .ok (.ireturn, 1) := by decide +kernel
set_option maxHeartbeats 4000000 in
set_option maxRecDepth 20000 in
theorem c_M_savedBy {l : Launch} {G : va_G} {tys : List (ClassId × FieldType)} {cI cO cZ : ClassId} (hT : TY tys cI cO cZ) (q0 q1 q2 q3 q4 q5 q6 q7 q8 q9 : Nat) (nw pt : Int → Int) (np : Int) (sl : Int → Int) (sv : Int) (li ot : Int → Int) (len : Int) (pd : Int → Int) (ty : Int) (wr : Int → Int) (wm : Int) (ss lz : Int → Int) (rm : Int) (k val : Int) (lc sd r N : Int) (sg ln v : Int → Int) (hR : RwOk lc sd r sg ln N v) (hM : MR nw 0 lc sd r sg ln) (hk : 0 ≤ k ∧ k < r) (hlv : sg k ≠ 10) (hv : 0 ≤ val ∧ val ≤ 9) : CTI l G tys y_M_savedBy b_M_savedBy 7 .int 3 66 [.ref q0, .int (iI k), .int (iI val)] (mw cI q0 q1 q2 q3 q4 q5 q6 q7 q8 q9 nw pt np sl sv li ot len pd ty wr wm ss lz rm) (fun z u => u = mw cI q0 q1 q2 q3 q4 q5 q6 q7 q8 q9 nw pt np sl sv li ot len pd ty wr wm ss lz rm ∧ z = svd lc r sg ln k val) := by
  refine mkI (by decide) (Nat.le_of_ble_eq_true rfl) ?_
  rintro X rfl rfl rfl hRm C kret H ls w hl
  have hl : lv_has ls 7 [(0, .ref q0), (1, .int (iI k)), (2, .int (iI val))] := hl
  have w : Wd X (mw cI q0 q1 q2 q3 q4 q5 q6 q7 q8 q9 nw pt np sl sv li ot len pd ty wr wm ss lz rm) H [] := w
  generalize ([] : List Loc) = locs at w ⊢
  have hO := hR.1
  have hr5 := hR.2.1
  have hN3 := hR.2.2.1
  have hN0 := hO.n0
  have hr0 := hO.1
  have hlcd := hR.2.2.2
  have hps := ps_zero ln
  have hpr := hO.2.2.2.1
  have hM9 := hM
  obtain ⟨hm0, hm1, hm2, hm3⟩ := hM
  rw [show (0 : Int) + 2 = 2 from rfl] at hm2
  rw [show (0 : Int) + 1 = 1 from rfl] at hm1
  have hm4 : ∀ k, 0 ≤ k → k < r → nw (3 + 2 * k) = sg k ∧ nw (4 + 2 * k) = ln k := fun k h1 h2 => by have := hm3 k h1 h2; rw [show (0 : Int) + 3 = 3 from rfl, show (0 : Int) + 4 = 4 from rfl] at this; exact this
  have hk2 := hO.run (k := k) (by omega) (by omega)
  have hk3 := hm4 k (by omega) (by omega)
  have hk8 : 1 ≤ k → 1 ≤ ln (k - 1) ∧ nw (4 + 2 * (k - 1)) = ln (k - 1) ∧ nw (3 + 2 * (k - 1)) = sg (k - 1) ∧ 0 ≤ sg (k - 1) ∧ sg (k - 1) ≤ 10 ∧ ln (k - 1) ≤ 3000 := fun q => by { have a := hO.run (k := k - 1) (by omega) (by omega); have b := hm4 (k - 1) (by omega) (by omega); omega }
  have hk9 : k + 1 < r → 1 ≤ ln (k + 1) ∧ nw (4 + 2 * (k + 1)) = ln (k + 1) ∧ nw (3 + 2 * (k + 1)) = sg (k + 1) ∧ 0 ≤ sg (k + 1) ∧ sg (k + 1) ≤ 10 ∧ ln (k + 1) ≤ 3000 := fun q => by { have a := hO.run (k := k + 1) (by omega) (by omega); have b := hm4 (k + 1) (by omega) (by omega); omega }
  refine r_aload_n (pc := 0) C d_M_savedBy_0 rfl (lv_at hl 0 rfl) ?_
  refine r_iload_n (pc := 1) C d_M_savedBy_1 rfl (lv_at hl 1 rfl) ?_
  refine r_callVI (pc := 2) (As := [.int (iI k)]) (rest := []) (wr := []) C w (c_M_lengthOf hT q0 q1 q2 q3 q4 q5 q6 q7 q8 q9 nw pt np sl sv li ot len pd ty wr wm ss lz rm k (by omega)) ml_M_45 im_M_lengthOf se_M_lengthOf ini_M cd_M_lengthOf hd_M_lengthOf rfl (by rw [hRm]; exact ⟨⟨Nat.le_of_ble_eq_true rfl, Nat.le_of_ble_eq_true rfl⟩, Nat.le_of_ble_eq_true rfl, Nat.le_of_ble_eq_true rfl⟩) hl.1 [0, 1, 2, 3, 4, 5, 6, 7, 8, 9] [] ⟨rfl, rfl, by decide, by decide, by decide⟩ 0 rfl rfl rfl (Nat.le_of_ble_eq_true rfl) d_M_savedBy_2 (fun z_2 u_2 H locs hz_2 w => ?_)
  obtain ⟨rfl, rfl⟩ := hz_2
  have w : Wd X (mw cI q0 q1 q2 q3 q4 q5 q6 q7 q8 q9 nw pt np sl sv li ot len pd ty wr wm ss lz rm) H locs := w
  refine r_istore_n (pc := 5) (lv' := [(3, .int (iI (nw (4 + 2 * k)))), (0, .ref q0), (1, .int (iI k)), (2, .int (iI val))]) C d_M_savedBy_5 rfl hl (by decide) rfl (fun ls hl => ?_)
  refine r_aload_n (pc := 6) C d_M_savedBy_6 rfl (lv_at hl 1 rfl) ?_
  refine r_iload_n (pc := 7) C d_M_savedBy_7 rfl (lv_at hl 2 rfl) ?_
  refine r_callVI (pc := 8) (As := [.int (iI k)]) (rest := []) (wr := []) C w (c_M_signOf hT q0 q1 q2 q3 q4 q5 q6 q7 q8 q9 nw pt np sl sv li ot len pd ty wr wm ss lz rm k (by omega)) ml_M_55 im_M_signOf se_M_signOf ini_M cd_M_signOf hd_M_signOf rfl (by rw [hRm]; exact ⟨⟨Nat.le_of_ble_eq_true rfl, Nat.le_of_ble_eq_true rfl⟩, Nat.le_of_ble_eq_true rfl, Nat.le_of_ble_eq_true rfl⟩) hl.1 [0, 1, 2, 3, 4, 5, 6, 7, 8, 9] [] ⟨rfl, rfl, by decide, by decide, by decide⟩ 0 rfl rfl rfl (Nat.le_of_ble_eq_true rfl) d_M_savedBy_8 (fun z_8 u_8 H locs hz_8 w => ?_)
  obtain ⟨rfl, rfl⟩ := hz_8
  have w : Wd X (mw cI q0 q1 q2 q3 q4 q5 q6 q7 q8 q9 nw pt np sl sv li ot len pd ty wr wm ss lz rm) H locs := w
  refine r_iload_n (pc := 11) C d_M_savedBy_11 rfl (lv_at hl 0 rfl) ?_
  refine r_aload_n (pc := 12) C d_M_savedBy_12 rfl (lv_at hl 1 rfl) ?_
  refine r_get (pc := 13) (v := .ref q1) C w i_M rfl 0 rfl 0 (by decide) fl_M_7 rfl rfl d_M_savedBy_13 ?_
  refine r_iconst (pc := 16) C d_M_savedBy_16 ?_
  refine r_iald (pc := 17) (f := nw) (i := 0) C w 0 1 rfl hT.1 (by omega) d_M_savedBy_17 ?_
  refine r_callP (pc := 18) (As := [.int (iI (nw (3 + 2 * k))), .int (iI (nw (4 + 2 * k))), .int (iI (nw 0))]) (rest := []) C w (c_M_runBits (nw (3 + 2 * k)) (nw (4 + 2 * k)) (nw 0) (by omega) (by omega) (by omega)) ml_M_97 st_M_runBits ini_M cd_M_runBits hd_M_runBits rfl (by rw [hRm]; exact ⟨⟨Nat.le_of_ble_eq_true rfl, Nat.le_of_ble_eq_true rfl⟩, Nat.le_of_ble_eq_true rfl, Nat.le_of_ble_eq_true rfl⟩) hl.1 rfl (Nat.le_of_ble_eq_true rfl) d_M_savedBy_18 (fun z_18 H locs hz_18 w => ?_)
  subst hz_18
  have hrb := rb_rg (code := (nw 0)) (s := (nw (3 + 2 * k))) (n := (nw (4 + 2 * k))) (by omega)
  refine r_istore (pc := 21) (lv' := [(4, .int (iI (rb (nw 0) (nw (3 + 2 * k)) (nw (4 + 2 * k))))), (3, .int (iI (nw (4 + 2 * k)))), (0, .ref q0), (1, .int (iI k)), (2, .int (iI val))]) C d_M_savedBy_21 hl (by decide) rfl (fun ls hl => ?_)
  refine r_iload_n (pc := 23) C d_M_savedBy_23 rfl (lv_at hl 3 rfl) ?_
  refine r_if_le (pc := 24) (tgt := 42) C (by omega) d_M_savedBy_24 (by decide) (fun c_24 => ?_) (fun c_24 => ?_)
  · skip
    refine r_iconst (pc := 42) C d_M_savedBy_42 ?_
    refine r_istore (pc := 43) (lv' := [(5, .int (iI 0)), (4, .int (iI (rb (nw 0) (nw (3 + 2 * k)) (nw (4 + 2 * k))))), (3, .int (iI (nw (4 + 2 * k)))), (0, .ref q0), (1, .int (iI k)), (2, .int (iI val))]) C d_M_savedBy_43 hl (by decide) rfl (fun ls hl => ?_)
    refine r_iload_n (pc := 45) C d_M_savedBy_45 rfl (lv_at hl 4 rfl) ?_
    refine r_iconst (pc := 46) C d_M_savedBy_46 ?_
    refine r_iadd (pc := 47) C d_M_savedBy_47 ?_
    refine r_aload_n (pc := 48) C d_M_savedBy_48 rfl (lv_at hl 3 rfl) ?_
    refine r_get (pc := 49) (v := .ref q1) C w i_M rfl 0 rfl 0 (by decide) fl_M_7 rfl rfl d_M_savedBy_49 ?_
    refine r_iconst (pc := 52) C d_M_savedBy_52 ?_
    refine r_iald (pc := 53) (f := nw) (i := 2) C w 0 1 rfl hT.1 (by omega) d_M_savedBy_53 ?_
    refine r_icmp_ge (pc := 54) (tgt := 72) C (by omega) d_M_savedBy_54 (by decide) (fun c_54 => ?_) (fun c_54 => ?_)
    · skip
      refine r_iconst (pc := 72) C d_M_savedBy_72 ?_
      refine r_istore (pc := 73) (lv' := [(6, .int (iI 0)), (5, .int (iI 0)), (4, .int (iI (rb (nw 0) (nw (3 + 2 * k)) (nw (4 + 2 * k))))), (3, .int (iI (nw (4 + 2 * k)))), (0, .ref q0), (1, .int (iI k)), (2, .int (iI val))]) C d_M_savedBy_73 hl (by decide) rfl (fun ls hl => ?_)
      refine r_iload (pc := 75) C d_M_savedBy_75 (lv_at hl 1 rfl) ?_
      refine r_if_eq (pc := 77) (tgt := 112) C (by omega) d_M_savedBy_77 (by decide) (fun c_77 => ?_) (fun c_77 => absurd c_77 (by omega))
      refine r_iload (pc := 112) C d_M_savedBy_112 (lv_at hl 0 rfl) ?_
      refine r_if_eq (pc := 114) (tgt := 149) C (by omega) d_M_savedBy_114 (by decide) (fun c_114 => ?_) (fun c_114 => absurd c_114 (by omega))
      refine r_iload (pc := 149) C d_M_savedBy_149 (lv_at hl 2 rfl) ?_
      refine r_iload_n (pc := 151) C d_M_savedBy_151 rfl (lv_at hl 6 rfl) ?_
      refine r_iload_n (pc := 152) C d_M_savedBy_152 rfl (lv_at hl 3 rfl) ?_
      refine r_aload_n (pc := 153) C d_M_savedBy_153 rfl (lv_at hl 4 rfl) ?_
      refine r_get (pc := 154) (v := .ref q1) C w i_M rfl 0 rfl 0 (by decide) fl_M_7 rfl rfl d_M_savedBy_154 ?_
      refine r_iconst (pc := 157) C d_M_savedBy_157 ?_
      refine r_iald (pc := 158) (f := nw) (i := 0) C w 0 1 rfl hT.1 (by omega) d_M_savedBy_158 ?_
      refine r_callP (pc := 159) (As := [.int (iI val), .int (iI (nw (4 + 2 * k))), .int (iI (nw 0))]) (rest := [.int (iI (rb (nw 0) (nw (3 + 2 * k)) (nw (4 + 2 * k))))]) C w (c_M_runBits val (nw (4 + 2 * k)) (nw 0) (by omega) (by omega) (by omega)) ml_M_97 st_M_runBits ini_M cd_M_runBits hd_M_runBits rfl (by rw [hRm]; exact ⟨⟨Nat.le_of_ble_eq_true rfl, Nat.le_of_ble_eq_true rfl⟩, Nat.le_of_ble_eq_true rfl, Nat.le_of_ble_eq_true rfl⟩) hl.1 rfl (Nat.le_of_ble_eq_true rfl) d_M_savedBy_159 (fun z_159 H locs hz_159 w => ?_)
      subst hz_159
      have hrb := rb_rg (code := (nw 0)) (s := val) (n := (nw (4 + 2 * k))) (by omega)
      refine r_isub (pc := 162) C d_M_savedBy_162 ?_
      exact kret _ _ _ _ ((rb (nw 0) (nw (3 + 2 * k)) (nw (4 + 2 * k))) - (rb (nw 0) val (nw (4 + 2 * k)))) _ d_M_savedBy_163 w (⟨rfl, by unfold svd; rw [if_neg hlv, hm0, hk3.1, hk3.2]; first | (rw [if_pos (⟨by omega, by omega⟩ : 0 < k ∧ sg (k - 1) = val), if_pos (⟨by omega, by omega⟩ : k < r - 1 ∧ sg (k + 1) = val), if_pos (⟨by omega, by omega⟩ : 0 < k ∧ sg (k - 1) = val), if_pos (⟨by omega, by omega⟩ : k < r - 1 ∧ sg (k + 1) = val), hk4.2.1, hk5.2.1, show sg (k - 1) = val by omega, show sg (k + 1) = val by omega]) | (rw [if_pos (⟨by omega, by omega⟩ : 0 < k ∧ sg (k - 1) = val), if_neg (by omega : ¬ (k < r - 1 ∧ sg (k + 1) = val)), if_pos (⟨by omega, by omega⟩ : 0 < k ∧ sg (k - 1) = val), if_neg (by omega : ¬ (k < r - 1 ∧ sg (k + 1) = val)), hk4.2.1, show sg (k - 1) = val by omega, Int.add_zero, Int.add_zero]) | (rw [if_neg (by omega : ¬ (0 < k ∧ sg (k - 1) = val)), if_pos (⟨by omega, by omega⟩ : k < r - 1 ∧ sg (k + 1) = val), if_neg (by omega : ¬ (0 < k ∧ sg (k - 1) = val)), if_pos (⟨by omega, by omega⟩ : k < r - 1 ∧ sg (k + 1) = val), hk5.2.1, show sg (k + 1) = val by omega, Int.add_zero, Int.add_zero]) | (rw [if_neg (by omega : ¬ (0 < k ∧ sg (k - 1) = val)), if_neg (by omega : ¬ (k < r - 1 ∧ sg (k + 1) = val)), if_neg (by omega : ¬ (0 < k ∧ sg (k - 1) = val)), if_neg (by omega : ¬ (k < r - 1 ∧ sg (k + 1) = val)), Int.add_zero, Int.add_zero, Int.add_zero, Int.add_zero])⟩)
    · skip
      have hk5 := hk9 (by omega)
      refine r_aload_n (pc := 57) C d_M_savedBy_57 rfl (lv_at hl 3 rfl) ?_
      refine r_iload_n (pc := 58) C d_M_savedBy_58 rfl (lv_at hl 4 rfl) ?_
      refine r_iconst (pc := 59) C d_M_savedBy_59 ?_
      refine r_iadd (pc := 60) C d_M_savedBy_60 ?_
      refine r_callVI (pc := 61) (As := [.int (iI (k + 1))]) (rest := []) (wr := []) C w (c_M_signOf hT q0 q1 q2 q3 q4 q5 q6 q7 q8 q9 nw pt np sl sv li ot len pd ty wr wm ss lz rm (k + 1) (by omega)) ml_M_55 im_M_signOf se_M_signOf ini_M cd_M_signOf hd_M_signOf rfl (by rw [hRm]; exact ⟨⟨Nat.le_of_ble_eq_true rfl, Nat.le_of_ble_eq_true rfl⟩, Nat.le_of_ble_eq_true rfl, Nat.le_of_ble_eq_true rfl⟩) hl.1 [0, 1, 2, 3, 4, 5, 6, 7, 8, 9] [] ⟨rfl, rfl, by decide, by decide, by decide⟩ 0 rfl rfl rfl (Nat.le_of_ble_eq_true rfl) d_M_savedBy_61 (fun z_61 u_61 H locs hz_61 w => ?_)
      obtain ⟨rfl, rfl⟩ := hz_61
      have w : Wd X (mw cI q0 q1 q2 q3 q4 q5 q6 q7 q8 q9 nw pt np sl sv li ot len pd ty wr wm ss lz rm) H locs := w
      refine r_iload_n (pc := 64) C d_M_savedBy_64 rfl (lv_at hl 5 rfl) ?_
      refine r_icmp_ne (pc := 65) (tgt := 72) C (by omega) d_M_savedBy_65 (by decide) (fun c_65 => ?_) (fun c_65 => ?_)
      · skip
        refine r_iconst (pc := 72) C d_M_savedBy_72 ?_
        refine r_istore (pc := 73) (lv' := [(6, .int (iI 0)), (5, .int (iI 0)), (4, .int (iI (rb (nw 0) (nw (3 + 2 * k)) (nw (4 + 2 * k))))), (3, .int (iI (nw (4 + 2 * k)))), (0, .ref q0), (1, .int (iI k)), (2, .int (iI val))]) C d_M_savedBy_73 hl (by decide) rfl (fun ls hl => ?_)
        refine r_iload (pc := 75) C d_M_savedBy_75 (lv_at hl 1 rfl) ?_
        refine r_if_eq (pc := 77) (tgt := 112) C (by omega) d_M_savedBy_77 (by decide) (fun c_77 => ?_) (fun c_77 => absurd c_77 (by omega))
        refine r_iload (pc := 112) C d_M_savedBy_112 (lv_at hl 0 rfl) ?_
        refine r_if_eq (pc := 114) (tgt := 149) C (by omega) d_M_savedBy_114 (by decide) (fun c_114 => ?_) (fun c_114 => absurd c_114 (by omega))
        refine r_iload (pc := 149) C d_M_savedBy_149 (lv_at hl 2 rfl) ?_
        refine r_iload_n (pc := 151) C d_M_savedBy_151 rfl (lv_at hl 6 rfl) ?_
        refine r_iload_n (pc := 152) C d_M_savedBy_152 rfl (lv_at hl 3 rfl) ?_
        refine r_aload_n (pc := 153) C d_M_savedBy_153 rfl (lv_at hl 4 rfl) ?_
        refine r_get (pc := 154) (v := .ref q1) C w i_M rfl 0 rfl 0 (by decide) fl_M_7 rfl rfl d_M_savedBy_154 ?_
        refine r_iconst (pc := 157) C d_M_savedBy_157 ?_
        refine r_iald (pc := 158) (f := nw) (i := 0) C w 0 1 rfl hT.1 (by omega) d_M_savedBy_158 ?_
        refine r_callP (pc := 159) (As := [.int (iI val), .int (iI (nw (4 + 2 * k))), .int (iI (nw 0))]) (rest := [.int (iI (rb (nw 0) (nw (3 + 2 * k)) (nw (4 + 2 * k))))]) C w (c_M_runBits val (nw (4 + 2 * k)) (nw 0) (by omega) (by omega) (by omega)) ml_M_97 st_M_runBits ini_M cd_M_runBits hd_M_runBits rfl (by rw [hRm]; exact ⟨⟨Nat.le_of_ble_eq_true rfl, Nat.le_of_ble_eq_true rfl⟩, Nat.le_of_ble_eq_true rfl, Nat.le_of_ble_eq_true rfl⟩) hl.1 rfl (Nat.le_of_ble_eq_true rfl) d_M_savedBy_159 (fun z_159 H locs hz_159 w => ?_)
        subst hz_159
        have hrb := rb_rg (code := (nw 0)) (s := val) (n := (nw (4 + 2 * k))) (by omega)
        refine r_isub (pc := 162) C d_M_savedBy_162 ?_
        exact kret _ _ _ _ ((rb (nw 0) (nw (3 + 2 * k)) (nw (4 + 2 * k))) - (rb (nw 0) val (nw (4 + 2 * k)))) _ d_M_savedBy_163 w (⟨rfl, by unfold svd; rw [if_neg hlv, hm0, hk3.1, hk3.2]; first | (rw [if_pos (⟨by omega, by omega⟩ : 0 < k ∧ sg (k - 1) = val), if_pos (⟨by omega, by omega⟩ : k < r - 1 ∧ sg (k + 1) = val), if_pos (⟨by omega, by omega⟩ : 0 < k ∧ sg (k - 1) = val), if_pos (⟨by omega, by omega⟩ : k < r - 1 ∧ sg (k + 1) = val), hk4.2.1, hk5.2.1, show sg (k - 1) = val by omega, show sg (k + 1) = val by omega]) | (rw [if_pos (⟨by omega, by omega⟩ : 0 < k ∧ sg (k - 1) = val), if_neg (by omega : ¬ (k < r - 1 ∧ sg (k + 1) = val)), if_pos (⟨by omega, by omega⟩ : 0 < k ∧ sg (k - 1) = val), if_neg (by omega : ¬ (k < r - 1 ∧ sg (k + 1) = val)), hk4.2.1, show sg (k - 1) = val by omega, Int.add_zero, Int.add_zero]) | (rw [if_neg (by omega : ¬ (0 < k ∧ sg (k - 1) = val)), if_pos (⟨by omega, by omega⟩ : k < r - 1 ∧ sg (k + 1) = val), if_neg (by omega : ¬ (0 < k ∧ sg (k - 1) = val)), if_pos (⟨by omega, by omega⟩ : k < r - 1 ∧ sg (k + 1) = val), hk5.2.1, show sg (k + 1) = val by omega, Int.add_zero, Int.add_zero]) | (rw [if_neg (by omega : ¬ (0 < k ∧ sg (k - 1) = val)), if_neg (by omega : ¬ (k < r - 1 ∧ sg (k + 1) = val)), if_neg (by omega : ¬ (0 < k ∧ sg (k - 1) = val)), if_neg (by omega : ¬ (k < r - 1 ∧ sg (k + 1) = val)), Int.add_zero, Int.add_zero, Int.add_zero, Int.add_zero])⟩)
      · skip
        refine r_iconst (pc := 68) C d_M_savedBy_68 ?_
        refine r_goto (pc := 69) (tgt := 73) C d_M_savedBy_69 (by decide) ?_
        refine r_istore (pc := 73) (lv' := [(6, .int (iI 1)), (5, .int (iI 0)), (4, .int (iI (rb (nw 0) (nw (3 + 2 * k)) (nw (4 + 2 * k))))), (3, .int (iI (nw (4 + 2 * k)))), (0, .ref q0), (1, .int (iI k)), (2, .int (iI val))]) C d_M_savedBy_73 hl (by decide) rfl (fun ls hl => ?_)
        refine r_iload (pc := 75) C d_M_savedBy_75 (lv_at hl 1 rfl) ?_
        refine r_if_eq (pc := 77) (tgt := 112) C (by omega) d_M_savedBy_77 (by decide) (fun c_77 => ?_) (fun c_77 => absurd c_77 (by omega))
        refine r_iload (pc := 112) C d_M_savedBy_112 (lv_at hl 0 rfl) ?_
        refine r_if_eq (pc := 114) (tgt := 149) C (by omega) d_M_savedBy_114 (by decide) (fun c_114 => absurd c_114 (by omega)) (fun c_114 => ?_)
        refine r_iload (pc := 117) C d_M_savedBy_117 (lv_at hl 2 rfl) ?_
        refine r_iload_n (pc := 119) C d_M_savedBy_119 rfl (lv_at hl 6 rfl) ?_
        refine r_aload_n (pc := 120) C d_M_savedBy_120 rfl (lv_at hl 4 rfl) ?_
        refine r_iload_n (pc := 121) C d_M_savedBy_121 rfl (lv_at hl 5 rfl) ?_
        refine r_iconst (pc := 122) C d_M_savedBy_122 ?_
        refine r_iadd (pc := 123) C d_M_savedBy_123 ?_
        refine r_callVI (pc := 124) (As := [.int (iI (k + 1))]) (rest := [.int (iI val), .int (iI (rb (nw 0) (nw (3 + 2 * k)) (nw (4 + 2 * k))))]) (wr := []) C w (c_M_lengthOf hT q0 q1 q2 q3 q4 q5 q6 q7 q8 q9 nw pt np sl sv li ot len pd ty wr wm ss lz rm (k + 1) (by omega)) ml_M_45 im_M_lengthOf se_M_lengthOf ini_M cd_M_lengthOf hd_M_lengthOf rfl (by rw [hRm]; exact ⟨⟨Nat.le_of_ble_eq_true rfl, Nat.le_of_ble_eq_true rfl⟩, Nat.le_of_ble_eq_true rfl, Nat.le_of_ble_eq_true rfl⟩) hl.1 [0, 1, 2, 3, 4, 5, 6, 7, 8, 9] [] ⟨rfl, rfl, by decide, by decide, by decide⟩ 0 rfl rfl rfl (Nat.le_of_ble_eq_true rfl) d_M_savedBy_124 (fun z_124 u_124 H locs hz_124 w => ?_)
        obtain ⟨rfl, rfl⟩ := hz_124
        have w : Wd X (mw cI q0 q1 q2 q3 q4 q5 q6 q7 q8 q9 nw pt np sl sv li ot len pd ty wr wm ss lz rm) H locs := w
        refine r_aload_n (pc := 127) C d_M_savedBy_127 rfl (lv_at hl 4 rfl) ?_
        refine r_get (pc := 128) (v := .ref q1) C w i_M rfl 0 rfl 0 (by decide) fl_M_7 rfl rfl d_M_savedBy_128 ?_
        refine r_iconst (pc := 131) C d_M_savedBy_131 ?_
        refine r_iald (pc := 132) (f := nw) (i := 0) C w 0 1 rfl hT.1 (by omega) d_M_savedBy_132 ?_
        refine r_callP (pc := 133) (As := [.int (iI val), .int (iI (nw (4 + 2 * (k + 1)))), .int (iI (nw 0))]) (rest := [.int (iI (rb (nw 0) (nw (3 + 2 * k)) (nw (4 + 2 * k))))]) C w (c_M_runBits val (nw (4 + 2 * (k + 1))) (nw 0) (by omega) (by omega) (by omega)) ml_M_97 st_M_runBits ini_M cd_M_runBits hd_M_runBits rfl (by rw [hRm]; exact ⟨⟨Nat.le_of_ble_eq_true rfl, Nat.le_of_ble_eq_true rfl⟩, Nat.le_of_ble_eq_true rfl, Nat.le_of_ble_eq_true rfl⟩) hl.1 rfl (Nat.le_of_ble_eq_true rfl) d_M_savedBy_133 (fun z_133 H locs hz_133 w => ?_)
        subst hz_133
        have hrb := rb_rg (code := (nw 0)) (s := val) (n := (nw (4 + 2 * (k + 1)))) (by omega)
        refine r_iadd (pc := 136) C d_M_savedBy_136 ?_
        refine r_istore (pc := 137) (lv' := [(4, .int (iI ((rb (nw 0) (nw (3 + 2 * k)) (nw (4 + 2 * k))) + (rb (nw 0) val (nw (4 + 2 * (k + 1))))))), (6, .int (iI 1)), (5, .int (iI 0)), (3, .int (iI (nw (4 + 2 * k)))), (0, .ref q0), (1, .int (iI k)), (2, .int (iI val))]) C d_M_savedBy_137 hl (by decide) rfl (fun ls hl => ?_)
        refine r_iload_n (pc := 139) C d_M_savedBy_139 rfl (lv_at hl 3 rfl) ?_
        refine r_aload_n (pc := 140) C d_M_savedBy_140 rfl (lv_at hl 4 rfl) ?_
        refine r_iload_n (pc := 141) C d_M_savedBy_141 rfl (lv_at hl 5 rfl) ?_
        refine r_iconst (pc := 142) C d_M_savedBy_142 ?_
        refine r_iadd (pc := 143) C d_M_savedBy_143 ?_
        refine r_callVI (pc := 144) (As := [.int (iI (k + 1))]) (rest := [.int (iI (nw (4 + 2 * k)))]) (wr := []) C w (c_M_lengthOf hT q0 q1 q2 q3 q4 q5 q6 q7 q8 q9 nw pt np sl sv li ot len pd ty wr wm ss lz rm (k + 1) (by omega)) ml_M_45 im_M_lengthOf se_M_lengthOf ini_M cd_M_lengthOf hd_M_lengthOf rfl (by rw [hRm]; exact ⟨⟨Nat.le_of_ble_eq_true rfl, Nat.le_of_ble_eq_true rfl⟩, Nat.le_of_ble_eq_true rfl, Nat.le_of_ble_eq_true rfl⟩) hl.1 [0, 1, 2, 3, 4, 5, 6, 7, 8, 9] [] ⟨rfl, rfl, by decide, by decide, by decide⟩ 0 rfl rfl rfl (Nat.le_of_ble_eq_true rfl) d_M_savedBy_144 (fun z_144 u_144 H locs hz_144 w => ?_)
        obtain ⟨rfl, rfl⟩ := hz_144
        have w : Wd X (mw cI q0 q1 q2 q3 q4 q5 q6 q7 q8 q9 nw pt np sl sv li ot len pd ty wr wm ss lz rm) H locs := w
        refine r_iadd (pc := 147) C d_M_savedBy_147 ?_
        refine r_istore_n (pc := 148) (lv' := [(3, .int (iI ((nw (4 + 2 * k)) + (nw (4 + 2 * (k + 1)))))), (4, .int (iI ((rb (nw 0) (nw (3 + 2 * k)) (nw (4 + 2 * k))) + (rb (nw 0) val (nw (4 + 2 * (k + 1))))))), (6, .int (iI 1)), (5, .int (iI 0)), (0, .ref q0), (1, .int (iI k)), (2, .int (iI val))]) C d_M_savedBy_148 rfl hl (by decide) rfl (fun ls hl => ?_)
        refine r_iload (pc := 149) C d_M_savedBy_149 (lv_at hl 1 rfl) ?_
        refine r_iload_n (pc := 151) C d_M_savedBy_151 rfl (lv_at hl 6 rfl) ?_
        refine r_iload_n (pc := 152) C d_M_savedBy_152 rfl (lv_at hl 0 rfl) ?_
        refine r_aload_n (pc := 153) C d_M_savedBy_153 rfl (lv_at hl 4 rfl) ?_
        refine r_get (pc := 154) (v := .ref q1) C w i_M rfl 0 rfl 0 (by decide) fl_M_7 rfl rfl d_M_savedBy_154 ?_
        refine r_iconst (pc := 157) C d_M_savedBy_157 ?_
        refine r_iald (pc := 158) (f := nw) (i := 0) C w 0 1 rfl hT.1 (by omega) d_M_savedBy_158 ?_
        refine r_callP (pc := 159) (As := [.int (iI val), .int (iI ((nw (4 + 2 * k)) + (nw (4 + 2 * (k + 1))))), .int (iI (nw 0))]) (rest := [.int (iI ((rb (nw 0) (nw (3 + 2 * k)) (nw (4 + 2 * k))) + (rb (nw 0) val (nw (4 + 2 * (k + 1))))))]) C w (c_M_runBits val ((nw (4 + 2 * k)) + (nw (4 + 2 * (k + 1)))) (nw 0) (by omega) (by omega) (by omega)) ml_M_97 st_M_runBits ini_M cd_M_runBits hd_M_runBits rfl (by rw [hRm]; exact ⟨⟨Nat.le_of_ble_eq_true rfl, Nat.le_of_ble_eq_true rfl⟩, Nat.le_of_ble_eq_true rfl, Nat.le_of_ble_eq_true rfl⟩) hl.1 rfl (Nat.le_of_ble_eq_true rfl) d_M_savedBy_159 (fun z_159 H locs hz_159 w => ?_)
        subst hz_159
        have hrb := rb_rg (code := (nw 0)) (s := val) (n := ((nw (4 + 2 * k)) + (nw (4 + 2 * (k + 1))))) (by omega)
        refine r_isub (pc := 162) C d_M_savedBy_162 ?_
        exact kret _ _ _ _ (((rb (nw 0) (nw (3 + 2 * k)) (nw (4 + 2 * k))) + (rb (nw 0) val (nw (4 + 2 * (k + 1))))) - (rb (nw 0) val ((nw (4 + 2 * k)) + (nw (4 + 2 * (k + 1)))))) _ d_M_savedBy_163 w (⟨rfl, by unfold svd; rw [if_neg hlv, hm0, hk3.1, hk3.2]; first | (rw [if_pos (⟨by omega, by omega⟩ : 0 < k ∧ sg (k - 1) = val), if_pos (⟨by omega, by omega⟩ : k < r - 1 ∧ sg (k + 1) = val), if_pos (⟨by omega, by omega⟩ : 0 < k ∧ sg (k - 1) = val), if_pos (⟨by omega, by omega⟩ : k < r - 1 ∧ sg (k + 1) = val), hk4.2.1, hk5.2.1, show sg (k - 1) = val by omega, show sg (k + 1) = val by omega]) | (rw [if_pos (⟨by omega, by omega⟩ : 0 < k ∧ sg (k - 1) = val), if_neg (by omega : ¬ (k < r - 1 ∧ sg (k + 1) = val)), if_pos (⟨by omega, by omega⟩ : 0 < k ∧ sg (k - 1) = val), if_neg (by omega : ¬ (k < r - 1 ∧ sg (k + 1) = val)), hk4.2.1, show sg (k - 1) = val by omega, Int.add_zero, Int.add_zero]) | (rw [if_neg (by omega : ¬ (0 < k ∧ sg (k - 1) = val)), if_pos (⟨by omega, by omega⟩ : k < r - 1 ∧ sg (k + 1) = val), if_neg (by omega : ¬ (0 < k ∧ sg (k - 1) = val)), if_pos (⟨by omega, by omega⟩ : k < r - 1 ∧ sg (k + 1) = val), hk5.2.1, show sg (k + 1) = val by omega, Int.add_zero, Int.add_zero]) | (rw [if_neg (by omega : ¬ (0 < k ∧ sg (k - 1) = val)), if_neg (by omega : ¬ (k < r - 1 ∧ sg (k + 1) = val)), if_neg (by omega : ¬ (0 < k ∧ sg (k - 1) = val)), if_neg (by omega : ¬ (k < r - 1 ∧ sg (k + 1) = val)), Int.add_zero, Int.add_zero, Int.add_zero, Int.add_zero])⟩)
  · skip
    have hk4 := hk8 (by omega)
    refine r_aload_n (pc := 27) C d_M_savedBy_27 rfl (lv_at hl 2 rfl) ?_
    refine r_iload_n (pc := 28) C d_M_savedBy_28 rfl (lv_at hl 3 rfl) ?_
    refine r_iconst (pc := 29) C d_M_savedBy_29 ?_
    refine r_isub (pc := 30) C d_M_savedBy_30 ?_
    refine r_callVI (pc := 31) (As := [.int (iI (k - 1))]) (rest := []) (wr := []) C w (c_M_signOf hT q0 q1 q2 q3 q4 q5 q6 q7 q8 q9 nw pt np sl sv li ot len pd ty wr wm ss lz rm (k - 1) (by omega)) ml_M_55 im_M_signOf se_M_signOf ini_M cd_M_signOf hd_M_signOf rfl (by rw [hRm]; exact ⟨⟨Nat.le_of_ble_eq_true rfl, Nat.le_of_ble_eq_true rfl⟩, Nat.le_of_ble_eq_true rfl, Nat.le_of_ble_eq_true rfl⟩) hl.1 [0, 1, 2, 3, 4, 5, 6, 7, 8, 9] [] ⟨rfl, rfl, by decide, by decide, by decide⟩ 0 rfl rfl rfl (Nat.le_of_ble_eq_true rfl) d_M_savedBy_31 (fun z_31 u_31 H locs hz_31 w => ?_)
    obtain ⟨rfl, rfl⟩ := hz_31
    have w : Wd X (mw cI q0 q1 q2 q3 q4 q5 q6 q7 q8 q9 nw pt np sl sv li ot len pd ty wr wm ss lz rm) H locs := w
    refine r_iload_n (pc := 34) C d_M_savedBy_34 rfl (lv_at hl 4 rfl) ?_
    refine r_icmp_ne (pc := 35) (tgt := 42) C (by omega) d_M_savedBy_35 (by decide) (fun c_35 => ?_) (fun c_35 => ?_)
    · skip
      refine r_iconst (pc := 42) C d_M_savedBy_42 ?_
      refine r_istore (pc := 43) (lv' := [(5, .int (iI 0)), (4, .int (iI (rb (nw 0) (nw (3 + 2 * k)) (nw (4 + 2 * k))))), (3, .int (iI (nw (4 + 2 * k)))), (0, .ref q0), (1, .int (iI k)), (2, .int (iI val))]) C d_M_savedBy_43 hl (by decide) rfl (fun ls hl => ?_)
      refine r_iload_n (pc := 45) C d_M_savedBy_45 rfl (lv_at hl 4 rfl) ?_
      refine r_iconst (pc := 46) C d_M_savedBy_46 ?_
      refine r_iadd (pc := 47) C d_M_savedBy_47 ?_
      refine r_aload_n (pc := 48) C d_M_savedBy_48 rfl (lv_at hl 3 rfl) ?_
      refine r_get (pc := 49) (v := .ref q1) C w i_M rfl 0 rfl 0 (by decide) fl_M_7 rfl rfl d_M_savedBy_49 ?_
      refine r_iconst (pc := 52) C d_M_savedBy_52 ?_
      refine r_iald (pc := 53) (f := nw) (i := 2) C w 0 1 rfl hT.1 (by omega) d_M_savedBy_53 ?_
      refine r_icmp_ge (pc := 54) (tgt := 72) C (by omega) d_M_savedBy_54 (by decide) (fun c_54 => ?_) (fun c_54 => ?_)
      · skip
        refine r_iconst (pc := 72) C d_M_savedBy_72 ?_
        refine r_istore (pc := 73) (lv' := [(6, .int (iI 0)), (5, .int (iI 0)), (4, .int (iI (rb (nw 0) (nw (3 + 2 * k)) (nw (4 + 2 * k))))), (3, .int (iI (nw (4 + 2 * k)))), (0, .ref q0), (1, .int (iI k)), (2, .int (iI val))]) C d_M_savedBy_73 hl (by decide) rfl (fun ls hl => ?_)
        refine r_iload (pc := 75) C d_M_savedBy_75 (lv_at hl 1 rfl) ?_
        refine r_if_eq (pc := 77) (tgt := 112) C (by omega) d_M_savedBy_77 (by decide) (fun c_77 => ?_) (fun c_77 => absurd c_77 (by omega))
        refine r_iload (pc := 112) C d_M_savedBy_112 (lv_at hl 0 rfl) ?_
        refine r_if_eq (pc := 114) (tgt := 149) C (by omega) d_M_savedBy_114 (by decide) (fun c_114 => ?_) (fun c_114 => absurd c_114 (by omega))
        refine r_iload (pc := 149) C d_M_savedBy_149 (lv_at hl 2 rfl) ?_
        refine r_iload_n (pc := 151) C d_M_savedBy_151 rfl (lv_at hl 6 rfl) ?_
        refine r_iload_n (pc := 152) C d_M_savedBy_152 rfl (lv_at hl 3 rfl) ?_
        refine r_aload_n (pc := 153) C d_M_savedBy_153 rfl (lv_at hl 4 rfl) ?_
        refine r_get (pc := 154) (v := .ref q1) C w i_M rfl 0 rfl 0 (by decide) fl_M_7 rfl rfl d_M_savedBy_154 ?_
        refine r_iconst (pc := 157) C d_M_savedBy_157 ?_
        refine r_iald (pc := 158) (f := nw) (i := 0) C w 0 1 rfl hT.1 (by omega) d_M_savedBy_158 ?_
        refine r_callP (pc := 159) (As := [.int (iI val), .int (iI (nw (4 + 2 * k))), .int (iI (nw 0))]) (rest := [.int (iI (rb (nw 0) (nw (3 + 2 * k)) (nw (4 + 2 * k))))]) C w (c_M_runBits val (nw (4 + 2 * k)) (nw 0) (by omega) (by omega) (by omega)) ml_M_97 st_M_runBits ini_M cd_M_runBits hd_M_runBits rfl (by rw [hRm]; exact ⟨⟨Nat.le_of_ble_eq_true rfl, Nat.le_of_ble_eq_true rfl⟩, Nat.le_of_ble_eq_true rfl, Nat.le_of_ble_eq_true rfl⟩) hl.1 rfl (Nat.le_of_ble_eq_true rfl) d_M_savedBy_159 (fun z_159 H locs hz_159 w => ?_)
        subst hz_159
        have hrb := rb_rg (code := (nw 0)) (s := val) (n := (nw (4 + 2 * k))) (by omega)
        refine r_isub (pc := 162) C d_M_savedBy_162 ?_
        exact kret _ _ _ _ ((rb (nw 0) (nw (3 + 2 * k)) (nw (4 + 2 * k))) - (rb (nw 0) val (nw (4 + 2 * k)))) _ d_M_savedBy_163 w (⟨rfl, by unfold svd; rw [if_neg hlv, hm0, hk3.1, hk3.2]; first | (rw [if_pos (⟨by omega, by omega⟩ : 0 < k ∧ sg (k - 1) = val), if_pos (⟨by omega, by omega⟩ : k < r - 1 ∧ sg (k + 1) = val), if_pos (⟨by omega, by omega⟩ : 0 < k ∧ sg (k - 1) = val), if_pos (⟨by omega, by omega⟩ : k < r - 1 ∧ sg (k + 1) = val), hk4.2.1, hk5.2.1, show sg (k - 1) = val by omega, show sg (k + 1) = val by omega]) | (rw [if_pos (⟨by omega, by omega⟩ : 0 < k ∧ sg (k - 1) = val), if_neg (by omega : ¬ (k < r - 1 ∧ sg (k + 1) = val)), if_pos (⟨by omega, by omega⟩ : 0 < k ∧ sg (k - 1) = val), if_neg (by omega : ¬ (k < r - 1 ∧ sg (k + 1) = val)), hk4.2.1, show sg (k - 1) = val by omega, Int.add_zero, Int.add_zero]) | (rw [if_neg (by omega : ¬ (0 < k ∧ sg (k - 1) = val)), if_pos (⟨by omega, by omega⟩ : k < r - 1 ∧ sg (k + 1) = val), if_neg (by omega : ¬ (0 < k ∧ sg (k - 1) = val)), if_pos (⟨by omega, by omega⟩ : k < r - 1 ∧ sg (k + 1) = val), hk5.2.1, show sg (k + 1) = val by omega, Int.add_zero, Int.add_zero]) | (rw [if_neg (by omega : ¬ (0 < k ∧ sg (k - 1) = val)), if_neg (by omega : ¬ (k < r - 1 ∧ sg (k + 1) = val)), if_neg (by omega : ¬ (0 < k ∧ sg (k - 1) = val)), if_neg (by omega : ¬ (k < r - 1 ∧ sg (k + 1) = val)), Int.add_zero, Int.add_zero, Int.add_zero, Int.add_zero])⟩)
      · skip
        have hk5 := hk9 (by omega)
        refine r_aload_n (pc := 57) C d_M_savedBy_57 rfl (lv_at hl 3 rfl) ?_
        refine r_iload_n (pc := 58) C d_M_savedBy_58 rfl (lv_at hl 4 rfl) ?_
        refine r_iconst (pc := 59) C d_M_savedBy_59 ?_
        refine r_iadd (pc := 60) C d_M_savedBy_60 ?_
        refine r_callVI (pc := 61) (As := [.int (iI (k + 1))]) (rest := []) (wr := []) C w (c_M_signOf hT q0 q1 q2 q3 q4 q5 q6 q7 q8 q9 nw pt np sl sv li ot len pd ty wr wm ss lz rm (k + 1) (by omega)) ml_M_55 im_M_signOf se_M_signOf ini_M cd_M_signOf hd_M_signOf rfl (by rw [hRm]; exact ⟨⟨Nat.le_of_ble_eq_true rfl, Nat.le_of_ble_eq_true rfl⟩, Nat.le_of_ble_eq_true rfl, Nat.le_of_ble_eq_true rfl⟩) hl.1 [0, 1, 2, 3, 4, 5, 6, 7, 8, 9] [] ⟨rfl, rfl, by decide, by decide, by decide⟩ 0 rfl rfl rfl (Nat.le_of_ble_eq_true rfl) d_M_savedBy_61 (fun z_61 u_61 H locs hz_61 w => ?_)
        obtain ⟨rfl, rfl⟩ := hz_61
        have w : Wd X (mw cI q0 q1 q2 q3 q4 q5 q6 q7 q8 q9 nw pt np sl sv li ot len pd ty wr wm ss lz rm) H locs := w
        refine r_iload_n (pc := 64) C d_M_savedBy_64 rfl (lv_at hl 5 rfl) ?_
        refine r_icmp_ne (pc := 65) (tgt := 72) C (by omega) d_M_savedBy_65 (by decide) (fun c_65 => ?_) (fun c_65 => ?_)
        · skip
          refine r_iconst (pc := 72) C d_M_savedBy_72 ?_
          refine r_istore (pc := 73) (lv' := [(6, .int (iI 0)), (5, .int (iI 0)), (4, .int (iI (rb (nw 0) (nw (3 + 2 * k)) (nw (4 + 2 * k))))), (3, .int (iI (nw (4 + 2 * k)))), (0, .ref q0), (1, .int (iI k)), (2, .int (iI val))]) C d_M_savedBy_73 hl (by decide) rfl (fun ls hl => ?_)
          refine r_iload (pc := 75) C d_M_savedBy_75 (lv_at hl 1 rfl) ?_
          refine r_if_eq (pc := 77) (tgt := 112) C (by omega) d_M_savedBy_77 (by decide) (fun c_77 => ?_) (fun c_77 => absurd c_77 (by omega))
          refine r_iload (pc := 112) C d_M_savedBy_112 (lv_at hl 0 rfl) ?_
          refine r_if_eq (pc := 114) (tgt := 149) C (by omega) d_M_savedBy_114 (by decide) (fun c_114 => ?_) (fun c_114 => absurd c_114 (by omega))
          refine r_iload (pc := 149) C d_M_savedBy_149 (lv_at hl 2 rfl) ?_
          refine r_iload_n (pc := 151) C d_M_savedBy_151 rfl (lv_at hl 6 rfl) ?_
          refine r_iload_n (pc := 152) C d_M_savedBy_152 rfl (lv_at hl 3 rfl) ?_
          refine r_aload_n (pc := 153) C d_M_savedBy_153 rfl (lv_at hl 4 rfl) ?_
          refine r_get (pc := 154) (v := .ref q1) C w i_M rfl 0 rfl 0 (by decide) fl_M_7 rfl rfl d_M_savedBy_154 ?_
          refine r_iconst (pc := 157) C d_M_savedBy_157 ?_
          refine r_iald (pc := 158) (f := nw) (i := 0) C w 0 1 rfl hT.1 (by omega) d_M_savedBy_158 ?_
          refine r_callP (pc := 159) (As := [.int (iI val), .int (iI (nw (4 + 2 * k))), .int (iI (nw 0))]) (rest := [.int (iI (rb (nw 0) (nw (3 + 2 * k)) (nw (4 + 2 * k))))]) C w (c_M_runBits val (nw (4 + 2 * k)) (nw 0) (by omega) (by omega) (by omega)) ml_M_97 st_M_runBits ini_M cd_M_runBits hd_M_runBits rfl (by rw [hRm]; exact ⟨⟨Nat.le_of_ble_eq_true rfl, Nat.le_of_ble_eq_true rfl⟩, Nat.le_of_ble_eq_true rfl, Nat.le_of_ble_eq_true rfl⟩) hl.1 rfl (Nat.le_of_ble_eq_true rfl) d_M_savedBy_159 (fun z_159 H locs hz_159 w => ?_)
          subst hz_159
          have hrb := rb_rg (code := (nw 0)) (s := val) (n := (nw (4 + 2 * k))) (by omega)
          refine r_isub (pc := 162) C d_M_savedBy_162 ?_
          exact kret _ _ _ _ ((rb (nw 0) (nw (3 + 2 * k)) (nw (4 + 2 * k))) - (rb (nw 0) val (nw (4 + 2 * k)))) _ d_M_savedBy_163 w (⟨rfl, by unfold svd; rw [if_neg hlv, hm0, hk3.1, hk3.2]; first | (rw [if_pos (⟨by omega, by omega⟩ : 0 < k ∧ sg (k - 1) = val), if_pos (⟨by omega, by omega⟩ : k < r - 1 ∧ sg (k + 1) = val), if_pos (⟨by omega, by omega⟩ : 0 < k ∧ sg (k - 1) = val), if_pos (⟨by omega, by omega⟩ : k < r - 1 ∧ sg (k + 1) = val), hk4.2.1, hk5.2.1, show sg (k - 1) = val by omega, show sg (k + 1) = val by omega]) | (rw [if_pos (⟨by omega, by omega⟩ : 0 < k ∧ sg (k - 1) = val), if_neg (by omega : ¬ (k < r - 1 ∧ sg (k + 1) = val)), if_pos (⟨by omega, by omega⟩ : 0 < k ∧ sg (k - 1) = val), if_neg (by omega : ¬ (k < r - 1 ∧ sg (k + 1) = val)), hk4.2.1, show sg (k - 1) = val by omega, Int.add_zero, Int.add_zero]) | (rw [if_neg (by omega : ¬ (0 < k ∧ sg (k - 1) = val)), if_pos (⟨by omega, by omega⟩ : k < r - 1 ∧ sg (k + 1) = val), if_neg (by omega : ¬ (0 < k ∧ sg (k - 1) = val)), if_pos (⟨by omega, by omega⟩ : k < r - 1 ∧ sg (k + 1) = val), hk5.2.1, show sg (k + 1) = val by omega, Int.add_zero, Int.add_zero]) | (rw [if_neg (by omega : ¬ (0 < k ∧ sg (k - 1) = val)), if_neg (by omega : ¬ (k < r - 1 ∧ sg (k + 1) = val)), if_neg (by omega : ¬ (0 < k ∧ sg (k - 1) = val)), if_neg (by omega : ¬ (k < r - 1 ∧ sg (k + 1) = val)), Int.add_zero, Int.add_zero, Int.add_zero, Int.add_zero])⟩)
        · skip
          refine r_iconst (pc := 68) C d_M_savedBy_68 ?_
          refine r_goto (pc := 69) (tgt := 73) C d_M_savedBy_69 (by decide) ?_
          refine r_istore (pc := 73) (lv' := [(6, .int (iI 1)), (5, .int (iI 0)), (4, .int (iI (rb (nw 0) (nw (3 + 2 * k)) (nw (4 + 2 * k))))), (3, .int (iI (nw (4 + 2 * k)))), (0, .ref q0), (1, .int (iI k)), (2, .int (iI val))]) C d_M_savedBy_73 hl (by decide) rfl (fun ls hl => ?_)
          refine r_iload (pc := 75) C d_M_savedBy_75 (lv_at hl 1 rfl) ?_
          refine r_if_eq (pc := 77) (tgt := 112) C (by omega) d_M_savedBy_77 (by decide) (fun c_77 => ?_) (fun c_77 => absurd c_77 (by omega))
          refine r_iload (pc := 112) C d_M_savedBy_112 (lv_at hl 0 rfl) ?_
          refine r_if_eq (pc := 114) (tgt := 149) C (by omega) d_M_savedBy_114 (by decide) (fun c_114 => absurd c_114 (by omega)) (fun c_114 => ?_)
          refine r_iload (pc := 117) C d_M_savedBy_117 (lv_at hl 2 rfl) ?_
          refine r_iload_n (pc := 119) C d_M_savedBy_119 rfl (lv_at hl 6 rfl) ?_
          refine r_aload_n (pc := 120) C d_M_savedBy_120 rfl (lv_at hl 4 rfl) ?_
          refine r_iload_n (pc := 121) C d_M_savedBy_121 rfl (lv_at hl 5 rfl) ?_
          refine r_iconst (pc := 122) C d_M_savedBy_122 ?_
          refine r_iadd (pc := 123) C d_M_savedBy_123 ?_
          refine r_callVI (pc := 124) (As := [.int (iI (k + 1))]) (rest := [.int (iI val), .int (iI (rb (nw 0) (nw (3 + 2 * k)) (nw (4 + 2 * k))))]) (wr := []) C w (c_M_lengthOf hT q0 q1 q2 q3 q4 q5 q6 q7 q8 q9 nw pt np sl sv li ot len pd ty wr wm ss lz rm (k + 1) (by omega)) ml_M_45 im_M_lengthOf se_M_lengthOf ini_M cd_M_lengthOf hd_M_lengthOf rfl (by rw [hRm]; exact ⟨⟨Nat.le_of_ble_eq_true rfl, Nat.le_of_ble_eq_true rfl⟩, Nat.le_of_ble_eq_true rfl, Nat.le_of_ble_eq_true rfl⟩) hl.1 [0, 1, 2, 3, 4, 5, 6, 7, 8, 9] [] ⟨rfl, rfl, by decide, by decide, by decide⟩ 0 rfl rfl rfl (Nat.le_of_ble_eq_true rfl) d_M_savedBy_124 (fun z_124 u_124 H locs hz_124 w => ?_)
          obtain ⟨rfl, rfl⟩ := hz_124
          have w : Wd X (mw cI q0 q1 q2 q3 q4 q5 q6 q7 q8 q9 nw pt np sl sv li ot len pd ty wr wm ss lz rm) H locs := w
          refine r_aload_n (pc := 127) C d_M_savedBy_127 rfl (lv_at hl 4 rfl) ?_
          refine r_get (pc := 128) (v := .ref q1) C w i_M rfl 0 rfl 0 (by decide) fl_M_7 rfl rfl d_M_savedBy_128 ?_
          refine r_iconst (pc := 131) C d_M_savedBy_131 ?_
          refine r_iald (pc := 132) (f := nw) (i := 0) C w 0 1 rfl hT.1 (by omega) d_M_savedBy_132 ?_
          refine r_callP (pc := 133) (As := [.int (iI val), .int (iI (nw (4 + 2 * (k + 1)))), .int (iI (nw 0))]) (rest := [.int (iI (rb (nw 0) (nw (3 + 2 * k)) (nw (4 + 2 * k))))]) C w (c_M_runBits val (nw (4 + 2 * (k + 1))) (nw 0) (by omega) (by omega) (by omega)) ml_M_97 st_M_runBits ini_M cd_M_runBits hd_M_runBits rfl (by rw [hRm]; exact ⟨⟨Nat.le_of_ble_eq_true rfl, Nat.le_of_ble_eq_true rfl⟩, Nat.le_of_ble_eq_true rfl, Nat.le_of_ble_eq_true rfl⟩) hl.1 rfl (Nat.le_of_ble_eq_true rfl) d_M_savedBy_133 (fun z_133 H locs hz_133 w => ?_)
          subst hz_133
          have hrb := rb_rg (code := (nw 0)) (s := val) (n := (nw (4 + 2 * (k + 1)))) (by omega)
          refine r_iadd (pc := 136) C d_M_savedBy_136 ?_
          refine r_istore (pc := 137) (lv' := [(4, .int (iI ((rb (nw 0) (nw (3 + 2 * k)) (nw (4 + 2 * k))) + (rb (nw 0) val (nw (4 + 2 * (k + 1))))))), (6, .int (iI 1)), (5, .int (iI 0)), (3, .int (iI (nw (4 + 2 * k)))), (0, .ref q0), (1, .int (iI k)), (2, .int (iI val))]) C d_M_savedBy_137 hl (by decide) rfl (fun ls hl => ?_)
          refine r_iload_n (pc := 139) C d_M_savedBy_139 rfl (lv_at hl 3 rfl) ?_
          refine r_aload_n (pc := 140) C d_M_savedBy_140 rfl (lv_at hl 4 rfl) ?_
          refine r_iload_n (pc := 141) C d_M_savedBy_141 rfl (lv_at hl 5 rfl) ?_
          refine r_iconst (pc := 142) C d_M_savedBy_142 ?_
          refine r_iadd (pc := 143) C d_M_savedBy_143 ?_
          refine r_callVI (pc := 144) (As := [.int (iI (k + 1))]) (rest := [.int (iI (nw (4 + 2 * k)))]) (wr := []) C w (c_M_lengthOf hT q0 q1 q2 q3 q4 q5 q6 q7 q8 q9 nw pt np sl sv li ot len pd ty wr wm ss lz rm (k + 1) (by omega)) ml_M_45 im_M_lengthOf se_M_lengthOf ini_M cd_M_lengthOf hd_M_lengthOf rfl (by rw [hRm]; exact ⟨⟨Nat.le_of_ble_eq_true rfl, Nat.le_of_ble_eq_true rfl⟩, Nat.le_of_ble_eq_true rfl, Nat.le_of_ble_eq_true rfl⟩) hl.1 [0, 1, 2, 3, 4, 5, 6, 7, 8, 9] [] ⟨rfl, rfl, by decide, by decide, by decide⟩ 0 rfl rfl rfl (Nat.le_of_ble_eq_true rfl) d_M_savedBy_144 (fun z_144 u_144 H locs hz_144 w => ?_)
          obtain ⟨rfl, rfl⟩ := hz_144
          have w : Wd X (mw cI q0 q1 q2 q3 q4 q5 q6 q7 q8 q9 nw pt np sl sv li ot len pd ty wr wm ss lz rm) H locs := w
          refine r_iadd (pc := 147) C d_M_savedBy_147 ?_
          refine r_istore_n (pc := 148) (lv' := [(3, .int (iI ((nw (4 + 2 * k)) + (nw (4 + 2 * (k + 1)))))), (4, .int (iI ((rb (nw 0) (nw (3 + 2 * k)) (nw (4 + 2 * k))) + (rb (nw 0) val (nw (4 + 2 * (k + 1))))))), (6, .int (iI 1)), (5, .int (iI 0)), (0, .ref q0), (1, .int (iI k)), (2, .int (iI val))]) C d_M_savedBy_148 rfl hl (by decide) rfl (fun ls hl => ?_)
          refine r_iload (pc := 149) C d_M_savedBy_149 (lv_at hl 1 rfl) ?_
          refine r_iload_n (pc := 151) C d_M_savedBy_151 rfl (lv_at hl 6 rfl) ?_
          refine r_iload_n (pc := 152) C d_M_savedBy_152 rfl (lv_at hl 0 rfl) ?_
          refine r_aload_n (pc := 153) C d_M_savedBy_153 rfl (lv_at hl 4 rfl) ?_
          refine r_get (pc := 154) (v := .ref q1) C w i_M rfl 0 rfl 0 (by decide) fl_M_7 rfl rfl d_M_savedBy_154 ?_
          refine r_iconst (pc := 157) C d_M_savedBy_157 ?_
          refine r_iald (pc := 158) (f := nw) (i := 0) C w 0 1 rfl hT.1 (by omega) d_M_savedBy_158 ?_
          refine r_callP (pc := 159) (As := [.int (iI val), .int (iI ((nw (4 + 2 * k)) + (nw (4 + 2 * (k + 1))))), .int (iI (nw 0))]) (rest := [.int (iI ((rb (nw 0) (nw (3 + 2 * k)) (nw (4 + 2 * k))) + (rb (nw 0) val (nw (4 + 2 * (k + 1))))))]) C w (c_M_runBits val ((nw (4 + 2 * k)) + (nw (4 + 2 * (k + 1)))) (nw 0) (by omega) (by omega) (by omega)) ml_M_97 st_M_runBits ini_M cd_M_runBits hd_M_runBits rfl (by rw [hRm]; exact ⟨⟨Nat.le_of_ble_eq_true rfl, Nat.le_of_ble_eq_true rfl⟩, Nat.le_of_ble_eq_true rfl, Nat.le_of_ble_eq_true rfl⟩) hl.1 rfl (Nat.le_of_ble_eq_true rfl) d_M_savedBy_159 (fun z_159 H locs hz_159 w => ?_)
          subst hz_159
          have hrb := rb_rg (code := (nw 0)) (s := val) (n := ((nw (4 + 2 * k)) + (nw (4 + 2 * (k + 1))))) (by omega)
          refine r_isub (pc := 162) C d_M_savedBy_162 ?_
          exact kret _ _ _ _ (((rb (nw 0) (nw (3 + 2 * k)) (nw (4 + 2 * k))) + (rb (nw 0) val (nw (4 + 2 * (k + 1))))) - (rb (nw 0) val ((nw (4 + 2 * k)) + (nw (4 + 2 * (k + 1)))))) _ d_M_savedBy_163 w (⟨rfl, by unfold svd; rw [if_neg hlv, hm0, hk3.1, hk3.2]; first | (rw [if_pos (⟨by omega, by omega⟩ : 0 < k ∧ sg (k - 1) = val), if_pos (⟨by omega, by omega⟩ : k < r - 1 ∧ sg (k + 1) = val), if_pos (⟨by omega, by omega⟩ : 0 < k ∧ sg (k - 1) = val), if_pos (⟨by omega, by omega⟩ : k < r - 1 ∧ sg (k + 1) = val), hk4.2.1, hk5.2.1, show sg (k - 1) = val by omega, show sg (k + 1) = val by omega]) | (rw [if_pos (⟨by omega, by omega⟩ : 0 < k ∧ sg (k - 1) = val), if_neg (by omega : ¬ (k < r - 1 ∧ sg (k + 1) = val)), if_pos (⟨by omega, by omega⟩ : 0 < k ∧ sg (k - 1) = val), if_neg (by omega : ¬ (k < r - 1 ∧ sg (k + 1) = val)), hk4.2.1, show sg (k - 1) = val by omega, Int.add_zero, Int.add_zero]) | (rw [if_neg (by omega : ¬ (0 < k ∧ sg (k - 1) = val)), if_pos (⟨by omega, by omega⟩ : k < r - 1 ∧ sg (k + 1) = val), if_neg (by omega : ¬ (0 < k ∧ sg (k - 1) = val)), if_pos (⟨by omega, by omega⟩ : k < r - 1 ∧ sg (k + 1) = val), hk5.2.1, show sg (k + 1) = val by omega, Int.add_zero, Int.add_zero]) | (rw [if_neg (by omega : ¬ (0 < k ∧ sg (k - 1) = val)), if_neg (by omega : ¬ (k < r - 1 ∧ sg (k + 1) = val)), if_neg (by omega : ¬ (0 < k ∧ sg (k - 1) = val)), if_neg (by omega : ¬ (k < r - 1 ∧ sg (k + 1) = val)), Int.add_zero, Int.add_zero, Int.add_zero, Int.add_zero])⟩)
    · skip
      refine r_iconst (pc := 38) C d_M_savedBy_38 ?_
      refine r_goto (pc := 39) (tgt := 43) C d_M_savedBy_39 (by decide) ?_
      refine r_istore (pc := 43) (lv' := [(5, .int (iI 1)), (4, .int (iI (rb (nw 0) (nw (3 + 2 * k)) (nw (4 + 2 * k))))), (3, .int (iI (nw (4 + 2 * k)))), (0, .ref q0), (1, .int (iI k)), (2, .int (iI val))]) C d_M_savedBy_43 hl (by decide) rfl (fun ls hl => ?_)
      refine r_iload_n (pc := 45) C d_M_savedBy_45 rfl (lv_at hl 4 rfl) ?_
      refine r_iconst (pc := 46) C d_M_savedBy_46 ?_
      refine r_iadd (pc := 47) C d_M_savedBy_47 ?_
      refine r_aload_n (pc := 48) C d_M_savedBy_48 rfl (lv_at hl 3 rfl) ?_
      refine r_get (pc := 49) (v := .ref q1) C w i_M rfl 0 rfl 0 (by decide) fl_M_7 rfl rfl d_M_savedBy_49 ?_
      refine r_iconst (pc := 52) C d_M_savedBy_52 ?_
      refine r_iald (pc := 53) (f := nw) (i := 2) C w 0 1 rfl hT.1 (by omega) d_M_savedBy_53 ?_
      refine r_icmp_ge (pc := 54) (tgt := 72) C (by omega) d_M_savedBy_54 (by decide) (fun c_54 => ?_) (fun c_54 => ?_)
      · skip
        refine r_iconst (pc := 72) C d_M_savedBy_72 ?_
        refine r_istore (pc := 73) (lv' := [(6, .int (iI 0)), (5, .int (iI 1)), (4, .int (iI (rb (nw 0) (nw (3 + 2 * k)) (nw (4 + 2 * k))))), (3, .int (iI (nw (4 + 2 * k)))), (0, .ref q0), (1, .int (iI k)), (2, .int (iI val))]) C d_M_savedBy_73 hl (by decide) rfl (fun ls hl => ?_)
        refine r_iload (pc := 75) C d_M_savedBy_75 (lv_at hl 1 rfl) ?_
        refine r_if_eq (pc := 77) (tgt := 112) C (by omega) d_M_savedBy_77 (by decide) (fun c_77 => absurd c_77 (by omega)) (fun c_77 => ?_)
        refine r_iload (pc := 80) C d_M_savedBy_80 (lv_at hl 2 rfl) ?_
        refine r_iload_n (pc := 82) C d_M_savedBy_82 rfl (lv_at hl 6 rfl) ?_
        refine r_aload_n (pc := 83) C d_M_savedBy_83 rfl (lv_at hl 4 rfl) ?_
        refine r_iload_n (pc := 84) C d_M_savedBy_84 rfl (lv_at hl 5 rfl) ?_
        refine r_iconst (pc := 85) C d_M_savedBy_85 ?_
        refine r_isub (pc := 86) C d_M_savedBy_86 ?_
        refine r_callVI (pc := 87) (As := [.int (iI (k - 1))]) (rest := [.int (iI val), .int (iI (rb (nw 0) (nw (3 + 2 * k)) (nw (4 + 2 * k))))]) (wr := []) C w (c_M_lengthOf hT q0 q1 q2 q3 q4 q5 q6 q7 q8 q9 nw pt np sl sv li ot len pd ty wr wm ss lz rm (k - 1) (by omega)) ml_M_45 im_M_lengthOf se_M_lengthOf ini_M cd_M_lengthOf hd_M_lengthOf rfl (by rw [hRm]; exact ⟨⟨Nat.le_of_ble_eq_true rfl, Nat.le_of_ble_eq_true rfl⟩, Nat.le_of_ble_eq_true rfl, Nat.le_of_ble_eq_true rfl⟩) hl.1 [0, 1, 2, 3, 4, 5, 6, 7, 8, 9] [] ⟨rfl, rfl, by decide, by decide, by decide⟩ 0 rfl rfl rfl (Nat.le_of_ble_eq_true rfl) d_M_savedBy_87 (fun z_87 u_87 H locs hz_87 w => ?_)
        obtain ⟨rfl, rfl⟩ := hz_87
        have w : Wd X (mw cI q0 q1 q2 q3 q4 q5 q6 q7 q8 q9 nw pt np sl sv li ot len pd ty wr wm ss lz rm) H locs := w
        refine r_aload_n (pc := 90) C d_M_savedBy_90 rfl (lv_at hl 4 rfl) ?_
        refine r_get (pc := 91) (v := .ref q1) C w i_M rfl 0 rfl 0 (by decide) fl_M_7 rfl rfl d_M_savedBy_91 ?_
        refine r_iconst (pc := 94) C d_M_savedBy_94 ?_
        refine r_iald (pc := 95) (f := nw) (i := 0) C w 0 1 rfl hT.1 (by omega) d_M_savedBy_95 ?_
        refine r_callP (pc := 96) (As := [.int (iI val), .int (iI (nw (4 + 2 * (k - 1)))), .int (iI (nw 0))]) (rest := [.int (iI (rb (nw 0) (nw (3 + 2 * k)) (nw (4 + 2 * k))))]) C w (c_M_runBits val (nw (4 + 2 * (k - 1))) (nw 0) (by omega) (by omega) (by omega)) ml_M_97 st_M_runBits ini_M cd_M_runBits hd_M_runBits rfl (by rw [hRm]; exact ⟨⟨Nat.le_of_ble_eq_true rfl, Nat.le_of_ble_eq_true rfl⟩, Nat.le_of_ble_eq_true rfl, Nat.le_of_ble_eq_true rfl⟩) hl.1 rfl (Nat.le_of_ble_eq_true rfl) d_M_savedBy_96 (fun z_96 H locs hz_96 w => ?_)
        subst hz_96
        have hrb := rb_rg (code := (nw 0)) (s := val) (n := (nw (4 + 2 * (k - 1)))) (by omega)
        refine r_iadd (pc := 99) C d_M_savedBy_99 ?_
        refine r_istore (pc := 100) (lv' := [(4, .int (iI ((rb (nw 0) (nw (3 + 2 * k)) (nw (4 + 2 * k))) + (rb (nw 0) val (nw (4 + 2 * (k - 1))))))), (6, .int (iI 0)), (5, .int (iI 1)), (3, .int (iI (nw (4 + 2 * k)))), (0, .ref q0), (1, .int (iI k)), (2, .int (iI val))]) C d_M_savedBy_100 hl (by decide) rfl (fun ls hl => ?_)
        refine r_iload_n (pc := 102) C d_M_savedBy_102 rfl (lv_at hl 3 rfl) ?_
        refine r_aload_n (pc := 103) C d_M_savedBy_103 rfl (lv_at hl 4 rfl) ?_
        refine r_iload_n (pc := 104) C d_M_savedBy_104 rfl (lv_at hl 5 rfl) ?_
        refine r_iconst (pc := 105) C d_M_savedBy_105 ?_
        refine r_isub (pc := 106) C d_M_savedBy_106 ?_
        refine r_callVI (pc := 107) (As := [.int (iI (k - 1))]) (rest := [.int (iI (nw (4 + 2 * k)))]) (wr := []) C w (c_M_lengthOf hT q0 q1 q2 q3 q4 q5 q6 q7 q8 q9 nw pt np sl sv li ot len pd ty wr wm ss lz rm (k - 1) (by omega)) ml_M_45 im_M_lengthOf se_M_lengthOf ini_M cd_M_lengthOf hd_M_lengthOf rfl (by rw [hRm]; exact ⟨⟨Nat.le_of_ble_eq_true rfl, Nat.le_of_ble_eq_true rfl⟩, Nat.le_of_ble_eq_true rfl, Nat.le_of_ble_eq_true rfl⟩) hl.1 [0, 1, 2, 3, 4, 5, 6, 7, 8, 9] [] ⟨rfl, rfl, by decide, by decide, by decide⟩ 0 rfl rfl rfl (Nat.le_of_ble_eq_true rfl) d_M_savedBy_107 (fun z_107 u_107 H locs hz_107 w => ?_)
        obtain ⟨rfl, rfl⟩ := hz_107
        have w : Wd X (mw cI q0 q1 q2 q3 q4 q5 q6 q7 q8 q9 nw pt np sl sv li ot len pd ty wr wm ss lz rm) H locs := w
        refine r_iadd (pc := 110) C d_M_savedBy_110 ?_
        refine r_istore_n (pc := 111) (lv' := [(3, .int (iI ((nw (4 + 2 * k)) + (nw (4 + 2 * (k - 1)))))), (4, .int (iI ((rb (nw 0) (nw (3 + 2 * k)) (nw (4 + 2 * k))) + (rb (nw 0) val (nw (4 + 2 * (k - 1))))))), (6, .int (iI 0)), (5, .int (iI 1)), (0, .ref q0), (1, .int (iI k)), (2, .int (iI val))]) C d_M_savedBy_111 rfl hl (by decide) rfl (fun ls hl => ?_)
        refine r_iload (pc := 112) C d_M_savedBy_112 (lv_at hl 2 rfl) ?_
        refine r_if_eq (pc := 114) (tgt := 149) C (by omega) d_M_savedBy_114 (by decide) (fun c_114 => ?_) (fun c_114 => absurd c_114 (by omega))
        refine r_iload (pc := 149) C d_M_savedBy_149 (lv_at hl 1 rfl) ?_
        refine r_iload_n (pc := 151) C d_M_savedBy_151 rfl (lv_at hl 6 rfl) ?_
        refine r_iload_n (pc := 152) C d_M_savedBy_152 rfl (lv_at hl 0 rfl) ?_
        refine r_aload_n (pc := 153) C d_M_savedBy_153 rfl (lv_at hl 4 rfl) ?_
        refine r_get (pc := 154) (v := .ref q1) C w i_M rfl 0 rfl 0 (by decide) fl_M_7 rfl rfl d_M_savedBy_154 ?_
        refine r_iconst (pc := 157) C d_M_savedBy_157 ?_
        refine r_iald (pc := 158) (f := nw) (i := 0) C w 0 1 rfl hT.1 (by omega) d_M_savedBy_158 ?_
        refine r_callP (pc := 159) (As := [.int (iI val), .int (iI ((nw (4 + 2 * k)) + (nw (4 + 2 * (k - 1))))), .int (iI (nw 0))]) (rest := [.int (iI ((rb (nw 0) (nw (3 + 2 * k)) (nw (4 + 2 * k))) + (rb (nw 0) val (nw (4 + 2 * (k - 1))))))]) C w (c_M_runBits val ((nw (4 + 2 * k)) + (nw (4 + 2 * (k - 1)))) (nw 0) (by omega) (by omega) (by omega)) ml_M_97 st_M_runBits ini_M cd_M_runBits hd_M_runBits rfl (by rw [hRm]; exact ⟨⟨Nat.le_of_ble_eq_true rfl, Nat.le_of_ble_eq_true rfl⟩, Nat.le_of_ble_eq_true rfl, Nat.le_of_ble_eq_true rfl⟩) hl.1 rfl (Nat.le_of_ble_eq_true rfl) d_M_savedBy_159 (fun z_159 H locs hz_159 w => ?_)
        subst hz_159
        have hrb := rb_rg (code := (nw 0)) (s := val) (n := ((nw (4 + 2 * k)) + (nw (4 + 2 * (k - 1))))) (by omega)
        refine r_isub (pc := 162) C d_M_savedBy_162 ?_
        exact kret _ _ _ _ (((rb (nw 0) (nw (3 + 2 * k)) (nw (4 + 2 * k))) + (rb (nw 0) val (nw (4 + 2 * (k - 1))))) - (rb (nw 0) val ((nw (4 + 2 * k)) + (nw (4 + 2 * (k - 1)))))) _ d_M_savedBy_163 w (⟨rfl, by unfold svd; rw [if_neg hlv, hm0, hk3.1, hk3.2]; first | (rw [if_pos (⟨by omega, by omega⟩ : 0 < k ∧ sg (k - 1) = val), if_pos (⟨by omega, by omega⟩ : k < r - 1 ∧ sg (k + 1) = val), if_pos (⟨by omega, by omega⟩ : 0 < k ∧ sg (k - 1) = val), if_pos (⟨by omega, by omega⟩ : k < r - 1 ∧ sg (k + 1) = val), hk4.2.1, hk5.2.1, show sg (k - 1) = val by omega, show sg (k + 1) = val by omega]) | (rw [if_pos (⟨by omega, by omega⟩ : 0 < k ∧ sg (k - 1) = val), if_neg (by omega : ¬ (k < r - 1 ∧ sg (k + 1) = val)), if_pos (⟨by omega, by omega⟩ : 0 < k ∧ sg (k - 1) = val), if_neg (by omega : ¬ (k < r - 1 ∧ sg (k + 1) = val)), hk4.2.1, show sg (k - 1) = val by omega, Int.add_zero, Int.add_zero]) | (rw [if_neg (by omega : ¬ (0 < k ∧ sg (k - 1) = val)), if_pos (⟨by omega, by omega⟩ : k < r - 1 ∧ sg (k + 1) = val), if_neg (by omega : ¬ (0 < k ∧ sg (k - 1) = val)), if_pos (⟨by omega, by omega⟩ : k < r - 1 ∧ sg (k + 1) = val), hk5.2.1, show sg (k + 1) = val by omega, Int.add_zero, Int.add_zero]) | (rw [if_neg (by omega : ¬ (0 < k ∧ sg (k - 1) = val)), if_neg (by omega : ¬ (k < r - 1 ∧ sg (k + 1) = val)), if_neg (by omega : ¬ (0 < k ∧ sg (k - 1) = val)), if_neg (by omega : ¬ (k < r - 1 ∧ sg (k + 1) = val)), Int.add_zero, Int.add_zero, Int.add_zero, Int.add_zero])⟩)
      · skip
        have hk5 := hk9 (by omega)
        refine r_aload_n (pc := 57) C d_M_savedBy_57 rfl (lv_at hl 3 rfl) ?_
        refine r_iload_n (pc := 58) C d_M_savedBy_58 rfl (lv_at hl 4 rfl) ?_
        refine r_iconst (pc := 59) C d_M_savedBy_59 ?_
        refine r_iadd (pc := 60) C d_M_savedBy_60 ?_
        refine r_callVI (pc := 61) (As := [.int (iI (k + 1))]) (rest := []) (wr := []) C w (c_M_signOf hT q0 q1 q2 q3 q4 q5 q6 q7 q8 q9 nw pt np sl sv li ot len pd ty wr wm ss lz rm (k + 1) (by omega)) ml_M_55 im_M_signOf se_M_signOf ini_M cd_M_signOf hd_M_signOf rfl (by rw [hRm]; exact ⟨⟨Nat.le_of_ble_eq_true rfl, Nat.le_of_ble_eq_true rfl⟩, Nat.le_of_ble_eq_true rfl, Nat.le_of_ble_eq_true rfl⟩) hl.1 [0, 1, 2, 3, 4, 5, 6, 7, 8, 9] [] ⟨rfl, rfl, by decide, by decide, by decide⟩ 0 rfl rfl rfl (Nat.le_of_ble_eq_true rfl) d_M_savedBy_61 (fun z_61 u_61 H locs hz_61 w => ?_)
        obtain ⟨rfl, rfl⟩ := hz_61
        have w : Wd X (mw cI q0 q1 q2 q3 q4 q5 q6 q7 q8 q9 nw pt np sl sv li ot len pd ty wr wm ss lz rm) H locs := w
        refine r_iload_n (pc := 64) C d_M_savedBy_64 rfl (lv_at hl 5 rfl) ?_
        refine r_icmp_ne (pc := 65) (tgt := 72) C (by omega) d_M_savedBy_65 (by decide) (fun c_65 => ?_) (fun c_65 => ?_)
        · skip
          refine r_iconst (pc := 72) C d_M_savedBy_72 ?_
          refine r_istore (pc := 73) (lv' := [(6, .int (iI 0)), (5, .int (iI 1)), (4, .int (iI (rb (nw 0) (nw (3 + 2 * k)) (nw (4 + 2 * k))))), (3, .int (iI (nw (4 + 2 * k)))), (0, .ref q0), (1, .int (iI k)), (2, .int (iI val))]) C d_M_savedBy_73 hl (by decide) rfl (fun ls hl => ?_)
          refine r_iload (pc := 75) C d_M_savedBy_75 (lv_at hl 1 rfl) ?_
          refine r_if_eq (pc := 77) (tgt := 112) C (by omega) d_M_savedBy_77 (by decide) (fun c_77 => absurd c_77 (by omega)) (fun c_77 => ?_)
          refine r_iload (pc := 80) C d_M_savedBy_80 (lv_at hl 2 rfl) ?_
          refine r_iload_n (pc := 82) C d_M_savedBy_82 rfl (lv_at hl 6 rfl) ?_
          refine r_aload_n (pc := 83) C d_M_savedBy_83 rfl (lv_at hl 4 rfl) ?_
          refine r_iload_n (pc := 84) C d_M_savedBy_84 rfl (lv_at hl 5 rfl) ?_
          refine r_iconst (pc := 85) C d_M_savedBy_85 ?_
          refine r_isub (pc := 86) C d_M_savedBy_86 ?_
          refine r_callVI (pc := 87) (As := [.int (iI (k - 1))]) (rest := [.int (iI val), .int (iI (rb (nw 0) (nw (3 + 2 * k)) (nw (4 + 2 * k))))]) (wr := []) C w (c_M_lengthOf hT q0 q1 q2 q3 q4 q5 q6 q7 q8 q9 nw pt np sl sv li ot len pd ty wr wm ss lz rm (k - 1) (by omega)) ml_M_45 im_M_lengthOf se_M_lengthOf ini_M cd_M_lengthOf hd_M_lengthOf rfl (by rw [hRm]; exact ⟨⟨Nat.le_of_ble_eq_true rfl, Nat.le_of_ble_eq_true rfl⟩, Nat.le_of_ble_eq_true rfl, Nat.le_of_ble_eq_true rfl⟩) hl.1 [0, 1, 2, 3, 4, 5, 6, 7, 8, 9] [] ⟨rfl, rfl, by decide, by decide, by decide⟩ 0 rfl rfl rfl (Nat.le_of_ble_eq_true rfl) d_M_savedBy_87 (fun z_87 u_87 H locs hz_87 w => ?_)
          obtain ⟨rfl, rfl⟩ := hz_87
          have w : Wd X (mw cI q0 q1 q2 q3 q4 q5 q6 q7 q8 q9 nw pt np sl sv li ot len pd ty wr wm ss lz rm) H locs := w
          refine r_aload_n (pc := 90) C d_M_savedBy_90 rfl (lv_at hl 4 rfl) ?_
          refine r_get (pc := 91) (v := .ref q1) C w i_M rfl 0 rfl 0 (by decide) fl_M_7 rfl rfl d_M_savedBy_91 ?_
          refine r_iconst (pc := 94) C d_M_savedBy_94 ?_
          refine r_iald (pc := 95) (f := nw) (i := 0) C w 0 1 rfl hT.1 (by omega) d_M_savedBy_95 ?_
          refine r_callP (pc := 96) (As := [.int (iI val), .int (iI (nw (4 + 2 * (k - 1)))), .int (iI (nw 0))]) (rest := [.int (iI (rb (nw 0) (nw (3 + 2 * k)) (nw (4 + 2 * k))))]) C w (c_M_runBits val (nw (4 + 2 * (k - 1))) (nw 0) (by omega) (by omega) (by omega)) ml_M_97 st_M_runBits ini_M cd_M_runBits hd_M_runBits rfl (by rw [hRm]; exact ⟨⟨Nat.le_of_ble_eq_true rfl, Nat.le_of_ble_eq_true rfl⟩, Nat.le_of_ble_eq_true rfl, Nat.le_of_ble_eq_true rfl⟩) hl.1 rfl (Nat.le_of_ble_eq_true rfl) d_M_savedBy_96 (fun z_96 H locs hz_96 w => ?_)
          subst hz_96
          have hrb := rb_rg (code := (nw 0)) (s := val) (n := (nw (4 + 2 * (k - 1)))) (by omega)
          refine r_iadd (pc := 99) C d_M_savedBy_99 ?_
          refine r_istore (pc := 100) (lv' := [(4, .int (iI ((rb (nw 0) (nw (3 + 2 * k)) (nw (4 + 2 * k))) + (rb (nw 0) val (nw (4 + 2 * (k - 1))))))), (6, .int (iI 0)), (5, .int (iI 1)), (3, .int (iI (nw (4 + 2 * k)))), (0, .ref q0), (1, .int (iI k)), (2, .int (iI val))]) C d_M_savedBy_100 hl (by decide) rfl (fun ls hl => ?_)
          refine r_iload_n (pc := 102) C d_M_savedBy_102 rfl (lv_at hl 3 rfl) ?_
          refine r_aload_n (pc := 103) C d_M_savedBy_103 rfl (lv_at hl 4 rfl) ?_
          refine r_iload_n (pc := 104) C d_M_savedBy_104 rfl (lv_at hl 5 rfl) ?_
          refine r_iconst (pc := 105) C d_M_savedBy_105 ?_
          refine r_isub (pc := 106) C d_M_savedBy_106 ?_
          refine r_callVI (pc := 107) (As := [.int (iI (k - 1))]) (rest := [.int (iI (nw (4 + 2 * k)))]) (wr := []) C w (c_M_lengthOf hT q0 q1 q2 q3 q4 q5 q6 q7 q8 q9 nw pt np sl sv li ot len pd ty wr wm ss lz rm (k - 1) (by omega)) ml_M_45 im_M_lengthOf se_M_lengthOf ini_M cd_M_lengthOf hd_M_lengthOf rfl (by rw [hRm]; exact ⟨⟨Nat.le_of_ble_eq_true rfl, Nat.le_of_ble_eq_true rfl⟩, Nat.le_of_ble_eq_true rfl, Nat.le_of_ble_eq_true rfl⟩) hl.1 [0, 1, 2, 3, 4, 5, 6, 7, 8, 9] [] ⟨rfl, rfl, by decide, by decide, by decide⟩ 0 rfl rfl rfl (Nat.le_of_ble_eq_true rfl) d_M_savedBy_107 (fun z_107 u_107 H locs hz_107 w => ?_)
          obtain ⟨rfl, rfl⟩ := hz_107
          have w : Wd X (mw cI q0 q1 q2 q3 q4 q5 q6 q7 q8 q9 nw pt np sl sv li ot len pd ty wr wm ss lz rm) H locs := w
          refine r_iadd (pc := 110) C d_M_savedBy_110 ?_
          refine r_istore_n (pc := 111) (lv' := [(3, .int (iI ((nw (4 + 2 * k)) + (nw (4 + 2 * (k - 1)))))), (4, .int (iI ((rb (nw 0) (nw (3 + 2 * k)) (nw (4 + 2 * k))) + (rb (nw 0) val (nw (4 + 2 * (k - 1))))))), (6, .int (iI 0)), (5, .int (iI 1)), (0, .ref q0), (1, .int (iI k)), (2, .int (iI val))]) C d_M_savedBy_111 rfl hl (by decide) rfl (fun ls hl => ?_)
          refine r_iload (pc := 112) C d_M_savedBy_112 (lv_at hl 2 rfl) ?_
          refine r_if_eq (pc := 114) (tgt := 149) C (by omega) d_M_savedBy_114 (by decide) (fun c_114 => ?_) (fun c_114 => absurd c_114 (by omega))
          refine r_iload (pc := 149) C d_M_savedBy_149 (lv_at hl 1 rfl) ?_
          refine r_iload_n (pc := 151) C d_M_savedBy_151 rfl (lv_at hl 6 rfl) ?_
          refine r_iload_n (pc := 152) C d_M_savedBy_152 rfl (lv_at hl 0 rfl) ?_
          refine r_aload_n (pc := 153) C d_M_savedBy_153 rfl (lv_at hl 4 rfl) ?_
          refine r_get (pc := 154) (v := .ref q1) C w i_M rfl 0 rfl 0 (by decide) fl_M_7 rfl rfl d_M_savedBy_154 ?_
          refine r_iconst (pc := 157) C d_M_savedBy_157 ?_
          refine r_iald (pc := 158) (f := nw) (i := 0) C w 0 1 rfl hT.1 (by omega) d_M_savedBy_158 ?_
          refine r_callP (pc := 159) (As := [.int (iI val), .int (iI ((nw (4 + 2 * k)) + (nw (4 + 2 * (k - 1))))), .int (iI (nw 0))]) (rest := [.int (iI ((rb (nw 0) (nw (3 + 2 * k)) (nw (4 + 2 * k))) + (rb (nw 0) val (nw (4 + 2 * (k - 1))))))]) C w (c_M_runBits val ((nw (4 + 2 * k)) + (nw (4 + 2 * (k - 1)))) (nw 0) (by omega) (by omega) (by omega)) ml_M_97 st_M_runBits ini_M cd_M_runBits hd_M_runBits rfl (by rw [hRm]; exact ⟨⟨Nat.le_of_ble_eq_true rfl, Nat.le_of_ble_eq_true rfl⟩, Nat.le_of_ble_eq_true rfl, Nat.le_of_ble_eq_true rfl⟩) hl.1 rfl (Nat.le_of_ble_eq_true rfl) d_M_savedBy_159 (fun z_159 H locs hz_159 w => ?_)
          subst hz_159
          have hrb := rb_rg (code := (nw 0)) (s := val) (n := ((nw (4 + 2 * k)) + (nw (4 + 2 * (k - 1))))) (by omega)
          refine r_isub (pc := 162) C d_M_savedBy_162 ?_
          exact kret _ _ _ _ (((rb (nw 0) (nw (3 + 2 * k)) (nw (4 + 2 * k))) + (rb (nw 0) val (nw (4 + 2 * (k - 1))))) - (rb (nw 0) val ((nw (4 + 2 * k)) + (nw (4 + 2 * (k - 1)))))) _ d_M_savedBy_163 w (⟨rfl, by unfold svd; rw [if_neg hlv, hm0, hk3.1, hk3.2]; first | (rw [if_pos (⟨by omega, by omega⟩ : 0 < k ∧ sg (k - 1) = val), if_pos (⟨by omega, by omega⟩ : k < r - 1 ∧ sg (k + 1) = val), if_pos (⟨by omega, by omega⟩ : 0 < k ∧ sg (k - 1) = val), if_pos (⟨by omega, by omega⟩ : k < r - 1 ∧ sg (k + 1) = val), hk4.2.1, hk5.2.1, show sg (k - 1) = val by omega, show sg (k + 1) = val by omega]) | (rw [if_pos (⟨by omega, by omega⟩ : 0 < k ∧ sg (k - 1) = val), if_neg (by omega : ¬ (k < r - 1 ∧ sg (k + 1) = val)), if_pos (⟨by omega, by omega⟩ : 0 < k ∧ sg (k - 1) = val), if_neg (by omega : ¬ (k < r - 1 ∧ sg (k + 1) = val)), hk4.2.1, show sg (k - 1) = val by omega, Int.add_zero, Int.add_zero]) | (rw [if_neg (by omega : ¬ (0 < k ∧ sg (k - 1) = val)), if_pos (⟨by omega, by omega⟩ : k < r - 1 ∧ sg (k + 1) = val), if_neg (by omega : ¬ (0 < k ∧ sg (k - 1) = val)), if_pos (⟨by omega, by omega⟩ : k < r - 1 ∧ sg (k + 1) = val), hk5.2.1, show sg (k + 1) = val by omega, Int.add_zero, Int.add_zero]) | (rw [if_neg (by omega : ¬ (0 < k ∧ sg (k - 1) = val)), if_neg (by omega : ¬ (k < r - 1 ∧ sg (k + 1) = val)), if_neg (by omega : ¬ (0 < k ∧ sg (k - 1) = val)), if_neg (by omega : ¬ (k < r - 1 ∧ sg (k + 1) = val)), Int.add_zero, Int.add_zero, Int.add_zero, Int.add_zero])⟩)
        · skip
          refine r_iconst (pc := 68) C d_M_savedBy_68 ?_
          refine r_goto (pc := 69) (tgt := 73) C d_M_savedBy_69 (by decide) ?_
          refine r_istore (pc := 73) (lv' := [(6, .int (iI 1)), (5, .int (iI 1)), (4, .int (iI (rb (nw 0) (nw (3 + 2 * k)) (nw (4 + 2 * k))))), (3, .int (iI (nw (4 + 2 * k)))), (0, .ref q0), (1, .int (iI k)), (2, .int (iI val))]) C d_M_savedBy_73 hl (by decide) rfl (fun ls hl => ?_)
          refine r_iload (pc := 75) C d_M_savedBy_75 (lv_at hl 1 rfl) ?_
          refine r_if_eq (pc := 77) (tgt := 112) C (by omega) d_M_savedBy_77 (by decide) (fun c_77 => absurd c_77 (by omega)) (fun c_77 => ?_)
          refine r_iload (pc := 80) C d_M_savedBy_80 (lv_at hl 2 rfl) ?_
          refine r_iload_n (pc := 82) C d_M_savedBy_82 rfl (lv_at hl 6 rfl) ?_
          refine r_aload_n (pc := 83) C d_M_savedBy_83 rfl (lv_at hl 4 rfl) ?_
          refine r_iload_n (pc := 84) C d_M_savedBy_84 rfl (lv_at hl 5 rfl) ?_
          refine r_iconst (pc := 85) C d_M_savedBy_85 ?_
          refine r_isub (pc := 86) C d_M_savedBy_86 ?_
          refine r_callVI (pc := 87) (As := [.int (iI (k - 1))]) (rest := [.int (iI val), .int (iI (rb (nw 0) (nw (3 + 2 * k)) (nw (4 + 2 * k))))]) (wr := []) C w (c_M_lengthOf hT q0 q1 q2 q3 q4 q5 q6 q7 q8 q9 nw pt np sl sv li ot len pd ty wr wm ss lz rm (k - 1) (by omega)) ml_M_45 im_M_lengthOf se_M_lengthOf ini_M cd_M_lengthOf hd_M_lengthOf rfl (by rw [hRm]; exact ⟨⟨Nat.le_of_ble_eq_true rfl, Nat.le_of_ble_eq_true rfl⟩, Nat.le_of_ble_eq_true rfl, Nat.le_of_ble_eq_true rfl⟩) hl.1 [0, 1, 2, 3, 4, 5, 6, 7, 8, 9] [] ⟨rfl, rfl, by decide, by decide, by decide⟩ 0 rfl rfl rfl (Nat.le_of_ble_eq_true rfl) d_M_savedBy_87 (fun z_87 u_87 H locs hz_87 w => ?_)
          obtain ⟨rfl, rfl⟩ := hz_87
          have w : Wd X (mw cI q0 q1 q2 q3 q4 q5 q6 q7 q8 q9 nw pt np sl sv li ot len pd ty wr wm ss lz rm) H locs := w
          refine r_aload_n (pc := 90) C d_M_savedBy_90 rfl (lv_at hl 4 rfl) ?_
          refine r_get (pc := 91) (v := .ref q1) C w i_M rfl 0 rfl 0 (by decide) fl_M_7 rfl rfl d_M_savedBy_91 ?_
          refine r_iconst (pc := 94) C d_M_savedBy_94 ?_
          refine r_iald (pc := 95) (f := nw) (i := 0) C w 0 1 rfl hT.1 (by omega) d_M_savedBy_95 ?_
          refine r_callP (pc := 96) (As := [.int (iI val), .int (iI (nw (4 + 2 * (k - 1)))), .int (iI (nw 0))]) (rest := [.int (iI (rb (nw 0) (nw (3 + 2 * k)) (nw (4 + 2 * k))))]) C w (c_M_runBits val (nw (4 + 2 * (k - 1))) (nw 0) (by omega) (by omega) (by omega)) ml_M_97 st_M_runBits ini_M cd_M_runBits hd_M_runBits rfl (by rw [hRm]; exact ⟨⟨Nat.le_of_ble_eq_true rfl, Nat.le_of_ble_eq_true rfl⟩, Nat.le_of_ble_eq_true rfl, Nat.le_of_ble_eq_true rfl⟩) hl.1 rfl (Nat.le_of_ble_eq_true rfl) d_M_savedBy_96 (fun z_96 H locs hz_96 w => ?_)
          subst hz_96
          have hrb := rb_rg (code := (nw 0)) (s := val) (n := (nw (4 + 2 * (k - 1)))) (by omega)
          refine r_iadd (pc := 99) C d_M_savedBy_99 ?_
          refine r_istore (pc := 100) (lv' := [(4, .int (iI ((rb (nw 0) (nw (3 + 2 * k)) (nw (4 + 2 * k))) + (rb (nw 0) val (nw (4 + 2 * (k - 1))))))), (6, .int (iI 1)), (5, .int (iI 1)), (3, .int (iI (nw (4 + 2 * k)))), (0, .ref q0), (1, .int (iI k)), (2, .int (iI val))]) C d_M_savedBy_100 hl (by decide) rfl (fun ls hl => ?_)
          refine r_iload_n (pc := 102) C d_M_savedBy_102 rfl (lv_at hl 3 rfl) ?_
          refine r_aload_n (pc := 103) C d_M_savedBy_103 rfl (lv_at hl 4 rfl) ?_
          refine r_iload_n (pc := 104) C d_M_savedBy_104 rfl (lv_at hl 5 rfl) ?_
          refine r_iconst (pc := 105) C d_M_savedBy_105 ?_
          refine r_isub (pc := 106) C d_M_savedBy_106 ?_
          refine r_callVI (pc := 107) (As := [.int (iI (k - 1))]) (rest := [.int (iI (nw (4 + 2 * k)))]) (wr := []) C w (c_M_lengthOf hT q0 q1 q2 q3 q4 q5 q6 q7 q8 q9 nw pt np sl sv li ot len pd ty wr wm ss lz rm (k - 1) (by omega)) ml_M_45 im_M_lengthOf se_M_lengthOf ini_M cd_M_lengthOf hd_M_lengthOf rfl (by rw [hRm]; exact ⟨⟨Nat.le_of_ble_eq_true rfl, Nat.le_of_ble_eq_true rfl⟩, Nat.le_of_ble_eq_true rfl, Nat.le_of_ble_eq_true rfl⟩) hl.1 [0, 1, 2, 3, 4, 5, 6, 7, 8, 9] [] ⟨rfl, rfl, by decide, by decide, by decide⟩ 0 rfl rfl rfl (Nat.le_of_ble_eq_true rfl) d_M_savedBy_107 (fun z_107 u_107 H locs hz_107 w => ?_)
          obtain ⟨rfl, rfl⟩ := hz_107
          have w : Wd X (mw cI q0 q1 q2 q3 q4 q5 q6 q7 q8 q9 nw pt np sl sv li ot len pd ty wr wm ss lz rm) H locs := w
          refine r_iadd (pc := 110) C d_M_savedBy_110 ?_
          refine r_istore_n (pc := 111) (lv' := [(3, .int (iI ((nw (4 + 2 * k)) + (nw (4 + 2 * (k - 1)))))), (4, .int (iI ((rb (nw 0) (nw (3 + 2 * k)) (nw (4 + 2 * k))) + (rb (nw 0) val (nw (4 + 2 * (k - 1))))))), (6, .int (iI 1)), (5, .int (iI 1)), (0, .ref q0), (1, .int (iI k)), (2, .int (iI val))]) C d_M_savedBy_111 rfl hl (by decide) rfl (fun ls hl => ?_)
          refine r_iload (pc := 112) C d_M_savedBy_112 (lv_at hl 2 rfl) ?_
          refine r_if_eq (pc := 114) (tgt := 149) C (by omega) d_M_savedBy_114 (by decide) (fun c_114 => absurd c_114 (by omega)) (fun c_114 => ?_)
          refine r_iload (pc := 117) C d_M_savedBy_117 (lv_at hl 1 rfl) ?_
          refine r_iload_n (pc := 119) C d_M_savedBy_119 rfl (lv_at hl 6 rfl) ?_
          refine r_aload_n (pc := 120) C d_M_savedBy_120 rfl (lv_at hl 4 rfl) ?_
          refine r_iload_n (pc := 121) C d_M_savedBy_121 rfl (lv_at hl 5 rfl) ?_
          refine r_iconst (pc := 122) C d_M_savedBy_122 ?_
          refine r_iadd (pc := 123) C d_M_savedBy_123 ?_
          refine r_callVI (pc := 124) (As := [.int (iI (k + 1))]) (rest := [.int (iI val), .int (iI ((rb (nw 0) (nw (3 + 2 * k)) (nw (4 + 2 * k))) + (rb (nw 0) val (nw (4 + 2 * (k - 1))))))]) (wr := []) C w (c_M_lengthOf hT q0 q1 q2 q3 q4 q5 q6 q7 q8 q9 nw pt np sl sv li ot len pd ty wr wm ss lz rm (k + 1) (by omega)) ml_M_45 im_M_lengthOf se_M_lengthOf ini_M cd_M_lengthOf hd_M_lengthOf rfl (by rw [hRm]; exact ⟨⟨Nat.le_of_ble_eq_true rfl, Nat.le_of_ble_eq_true rfl⟩, Nat.le_of_ble_eq_true rfl, Nat.le_of_ble_eq_true rfl⟩) hl.1 [0, 1, 2, 3, 4, 5, 6, 7, 8, 9] [] ⟨rfl, rfl, by decide, by decide, by decide⟩ 0 rfl rfl rfl (Nat.le_of_ble_eq_true rfl) d_M_savedBy_124 (fun z_124 u_124 H locs hz_124 w => ?_)
          obtain ⟨rfl, rfl⟩ := hz_124
          have w : Wd X (mw cI q0 q1 q2 q3 q4 q5 q6 q7 q8 q9 nw pt np sl sv li ot len pd ty wr wm ss lz rm) H locs := w
          refine r_aload_n (pc := 127) C d_M_savedBy_127 rfl (lv_at hl 4 rfl) ?_
          refine r_get (pc := 128) (v := .ref q1) C w i_M rfl 0 rfl 0 (by decide) fl_M_7 rfl rfl d_M_savedBy_128 ?_
          refine r_iconst (pc := 131) C d_M_savedBy_131 ?_
          refine r_iald (pc := 132) (f := nw) (i := 0) C w 0 1 rfl hT.1 (by omega) d_M_savedBy_132 ?_
          refine r_callP (pc := 133) (As := [.int (iI val), .int (iI (nw (4 + 2 * (k + 1)))), .int (iI (nw 0))]) (rest := [.int (iI ((rb (nw 0) (nw (3 + 2 * k)) (nw (4 + 2 * k))) + (rb (nw 0) val (nw (4 + 2 * (k - 1))))))]) C w (c_M_runBits val (nw (4 + 2 * (k + 1))) (nw 0) (by omega) (by omega) (by omega)) ml_M_97 st_M_runBits ini_M cd_M_runBits hd_M_runBits rfl (by rw [hRm]; exact ⟨⟨Nat.le_of_ble_eq_true rfl, Nat.le_of_ble_eq_true rfl⟩, Nat.le_of_ble_eq_true rfl, Nat.le_of_ble_eq_true rfl⟩) hl.1 rfl (Nat.le_of_ble_eq_true rfl) d_M_savedBy_133 (fun z_133 H locs hz_133 w => ?_)
          subst hz_133
          have hrb := rb_rg (code := (nw 0)) (s := val) (n := (nw (4 + 2 * (k + 1)))) (by omega)
          refine r_iadd (pc := 136) C d_M_savedBy_136 ?_
          refine r_istore (pc := 137) (lv' := [(4, .int (iI (((rb (nw 0) (nw (3 + 2 * k)) (nw (4 + 2 * k))) + (rb (nw 0) val (nw (4 + 2 * (k - 1))))) + (rb (nw 0) val (nw (4 + 2 * (k + 1))))))), (3, .int (iI ((nw (4 + 2 * k)) + (nw (4 + 2 * (k - 1)))))), (6, .int (iI 1)), (5, .int (iI 1)), (0, .ref q0), (1, .int (iI k)), (2, .int (iI val))]) C d_M_savedBy_137 hl (by decide) rfl (fun ls hl => ?_)
          refine r_iload_n (pc := 139) C d_M_savedBy_139 rfl (lv_at hl 1 rfl) ?_
          refine r_aload_n (pc := 140) C d_M_savedBy_140 rfl (lv_at hl 4 rfl) ?_
          refine r_iload_n (pc := 141) C d_M_savedBy_141 rfl (lv_at hl 5 rfl) ?_
          refine r_iconst (pc := 142) C d_M_savedBy_142 ?_
          refine r_iadd (pc := 143) C d_M_savedBy_143 ?_
          refine r_callVI (pc := 144) (As := [.int (iI (k + 1))]) (rest := [.int (iI ((nw (4 + 2 * k)) + (nw (4 + 2 * (k - 1)))))]) (wr := []) C w (c_M_lengthOf hT q0 q1 q2 q3 q4 q5 q6 q7 q8 q9 nw pt np sl sv li ot len pd ty wr wm ss lz rm (k + 1) (by omega)) ml_M_45 im_M_lengthOf se_M_lengthOf ini_M cd_M_lengthOf hd_M_lengthOf rfl (by rw [hRm]; exact ⟨⟨Nat.le_of_ble_eq_true rfl, Nat.le_of_ble_eq_true rfl⟩, Nat.le_of_ble_eq_true rfl, Nat.le_of_ble_eq_true rfl⟩) hl.1 [0, 1, 2, 3, 4, 5, 6, 7, 8, 9] [] ⟨rfl, rfl, by decide, by decide, by decide⟩ 0 rfl rfl rfl (Nat.le_of_ble_eq_true rfl) d_M_savedBy_144 (fun z_144 u_144 H locs hz_144 w => ?_)
          obtain ⟨rfl, rfl⟩ := hz_144
          have w : Wd X (mw cI q0 q1 q2 q3 q4 q5 q6 q7 q8 q9 nw pt np sl sv li ot len pd ty wr wm ss lz rm) H locs := w
          refine r_iadd (pc := 147) C d_M_savedBy_147 ?_
          refine r_istore_n (pc := 148) (lv' := [(3, .int (iI (((nw (4 + 2 * k)) + (nw (4 + 2 * (k - 1)))) + (nw (4 + 2 * (k + 1)))))), (4, .int (iI (((rb (nw 0) (nw (3 + 2 * k)) (nw (4 + 2 * k))) + (rb (nw 0) val (nw (4 + 2 * (k - 1))))) + (rb (nw 0) val (nw (4 + 2 * (k + 1))))))), (6, .int (iI 1)), (5, .int (iI 1)), (0, .ref q0), (1, .int (iI k)), (2, .int (iI val))]) C d_M_savedBy_148 rfl hl (by decide) rfl (fun ls hl => ?_)
          refine r_iload (pc := 149) C d_M_savedBy_149 (lv_at hl 1 rfl) ?_
          refine r_iload_n (pc := 151) C d_M_savedBy_151 rfl (lv_at hl 6 rfl) ?_
          refine r_iload_n (pc := 152) C d_M_savedBy_152 rfl (lv_at hl 0 rfl) ?_
          refine r_aload_n (pc := 153) C d_M_savedBy_153 rfl (lv_at hl 4 rfl) ?_
          refine r_get (pc := 154) (v := .ref q1) C w i_M rfl 0 rfl 0 (by decide) fl_M_7 rfl rfl d_M_savedBy_154 ?_
          refine r_iconst (pc := 157) C d_M_savedBy_157 ?_
          refine r_iald (pc := 158) (f := nw) (i := 0) C w 0 1 rfl hT.1 (by omega) d_M_savedBy_158 ?_
          refine r_callP (pc := 159) (As := [.int (iI val), .int (iI (((nw (4 + 2 * k)) + (nw (4 + 2 * (k - 1)))) + (nw (4 + 2 * (k + 1))))), .int (iI (nw 0))]) (rest := [.int (iI (((rb (nw 0) (nw (3 + 2 * k)) (nw (4 + 2 * k))) + (rb (nw 0) val (nw (4 + 2 * (k - 1))))) + (rb (nw 0) val (nw (4 + 2 * (k + 1))))))]) C w (c_M_runBits val (((nw (4 + 2 * k)) + (nw (4 + 2 * (k - 1)))) + (nw (4 + 2 * (k + 1)))) (nw 0) (by omega) (by omega) (by omega)) ml_M_97 st_M_runBits ini_M cd_M_runBits hd_M_runBits rfl (by rw [hRm]; exact ⟨⟨Nat.le_of_ble_eq_true rfl, Nat.le_of_ble_eq_true rfl⟩, Nat.le_of_ble_eq_true rfl, Nat.le_of_ble_eq_true rfl⟩) hl.1 rfl (Nat.le_of_ble_eq_true rfl) d_M_savedBy_159 (fun z_159 H locs hz_159 w => ?_)
          subst hz_159
          have hrb := rb_rg (code := (nw 0)) (s := val) (n := (((nw (4 + 2 * k)) + (nw (4 + 2 * (k - 1)))) + (nw (4 + 2 * (k + 1))))) (by omega)
          refine r_isub (pc := 162) C d_M_savedBy_162 ?_
          exact kret _ _ _ _ ((((rb (nw 0) (nw (3 + 2 * k)) (nw (4 + 2 * k))) + (rb (nw 0) val (nw (4 + 2 * (k - 1))))) + (rb (nw 0) val (nw (4 + 2 * (k + 1))))) - (rb (nw 0) val (((nw (4 + 2 * k)) + (nw (4 + 2 * (k - 1)))) + (nw (4 + 2 * (k + 1)))))) _ d_M_savedBy_163 w (⟨rfl, by unfold svd; rw [if_neg hlv, hm0, hk3.1, hk3.2]; first | (rw [if_pos (⟨by omega, by omega⟩ : 0 < k ∧ sg (k - 1) = val), if_pos (⟨by omega, by omega⟩ : k < r - 1 ∧ sg (k + 1) = val), if_pos (⟨by omega, by omega⟩ : 0 < k ∧ sg (k - 1) = val), if_pos (⟨by omega, by omega⟩ : k < r - 1 ∧ sg (k + 1) = val), hk4.2.1, hk5.2.1, show sg (k - 1) = val by omega, show sg (k + 1) = val by omega]) | (rw [if_pos (⟨by omega, by omega⟩ : 0 < k ∧ sg (k - 1) = val), if_neg (by omega : ¬ (k < r - 1 ∧ sg (k + 1) = val)), if_pos (⟨by omega, by omega⟩ : 0 < k ∧ sg (k - 1) = val), if_neg (by omega : ¬ (k < r - 1 ∧ sg (k + 1) = val)), hk4.2.1, show sg (k - 1) = val by omega, Int.add_zero, Int.add_zero]) | (rw [if_neg (by omega : ¬ (0 < k ∧ sg (k - 1) = val)), if_pos (⟨by omega, by omega⟩ : k < r - 1 ∧ sg (k + 1) = val), if_neg (by omega : ¬ (0 < k ∧ sg (k - 1) = val)), if_pos (⟨by omega, by omega⟩ : k < r - 1 ∧ sg (k + 1) = val), hk5.2.1, show sg (k + 1) = val by omega, Int.add_zero, Int.add_zero]) | (rw [if_neg (by omega : ¬ (0 < k ∧ sg (k - 1) = val)), if_neg (by omega : ¬ (k < r - 1 ∧ sg (k + 1) = val)), if_neg (by omega : ¬ (0 < k ∧ sg (k - 1) = val)), if_neg (by omega : ¬ (k < r - 1 ∧ sg (k + 1) = val)), Int.add_zero, Int.add_zero, Int.add_zero, Int.add_zero])⟩)
theorem d_M_bestWrite_0 : decode b_M_bestWrite 0 = .ok (.iload_n 1, 1) := by decide +kernel
theorem d_M_bestWrite_1 : decode b_M_bestWrite 1 = .ok (.iconst 0, 1) := by decide +kernel
theorem d_M_bestWrite_2 : decode b_M_bestWrite 2 = .ok (.iconst 2, 1) := by decide +kernel
theorem d_M_bestWrite_3 : decode b_M_bestWrite 3 = .ok (.invokestatic 75, 3) := by decide +kernel
theorem d_M_bestWrite_6 : decode b_M_bestWrite 6 = .ok (.ifCond .ne 6, 3) := by decide +kernel
theorem d_M_bestWrite_9 : decode b_M_bestWrite 9 = .ok (.bipush (-2), 2) := by decide +kernel
theorem d_M_bestWrite_11 : decode b_M_bestWrite 11 = .ok (.ireturn, 1) := by decide +kernel
theorem d_M_bestWrite_12 : decode b_M_bestWrite 12 = .ok (.bipush (-6), 2) := by decide +kernel
theorem d_M_bestWrite_14 : decode b_M_bestWrite 14 = .ok (.istore_n 2, 1) := by decide +kernel
theorem d_M_bestWrite_15 : decode b_M_bestWrite 15 = .ok (.bipush (-6), 2) := by decide +kernel
theorem d_M_bestWrite_17 : decode b_M_bestWrite 17 = .ok (.istore_n 3, 1) := by decide +kernel
theorem d_M_bestWrite_18 : decode b_M_bestWrite 18 = .ok (.iconst 0, 1) := by decide +kernel
theorem d_M_bestWrite_19 : decode b_M_bestWrite 19 = .ok (.istore 4, 2) := by decide +kernel
theorem d_M_bestWrite_21 : decode b_M_bestWrite 21 = .ok (.iconst 0, 1) := by decide +kernel
theorem d_M_bestWrite_22 : decode b_M_bestWrite 22 = .ok (.istore 5, 2) := by decide +kernel
theorem d_M_bestWrite_24 : decode b_M_bestWrite 24 = .ok (.iload 5, 2) := by decide +kernel
theorem d_M_bestWrite_26 : decode b_M_bestWrite 26 = .ok (.aload_n 0, 1) := by decide +kernel
theorem d_M_bestWrite_27 : decode b_M_bestWrite 27 = .ok (.getfield 7, 3) := by decide +kernel
theorem d_M_bestWrite_30 : decode b_M_bestWrite 30 = .ok (.iconst 2, 1) := by decide +kernel
theorem d_M_bestWrite_31 : decode b_M_bestWrite 31 = .ok (.iaload, 1) := by decide +kernel
theorem d_M_bestWrite_32 : decode b_M_bestWrite 32 = .ok (.if_icmp .ge 76, 3) := by decide +kernel
theorem d_M_bestWrite_35 : decode b_M_bestWrite 35 = .ok (.iconst 0, 1) := by decide +kernel
theorem d_M_bestWrite_36 : decode b_M_bestWrite 36 = .ok (.istore 6, 2) := by decide +kernel
theorem d_M_bestWrite_38 : decode b_M_bestWrite 38 = .ok (.iload 6, 2) := by decide +kernel
theorem d_M_bestWrite_40 : decode b_M_bestWrite 40 = .ok (.bipush 10, 2) := by decide +kernel
theorem d_M_bestWrite_42 : decode b_M_bestWrite 42 = .ok (.if_icmp .ge 60, 3) := by decide +kernel
theorem d_M_bestWrite_45 : decode b_M_bestWrite 45 = .ok (.aload_n 0, 1) := by decide +kernel
theorem d_M_bestWrite_46 : decode b_M_bestWrite 46 = .ok (.iload 5, 2) := by decide +kernel
theorem d_M_bestWrite_48 : decode b_M_bestWrite 48 = .ok (.invokevirtual 55, 3) := by decide +kernel
theorem d_M_bestWrite_51 : decode b_M_bestWrite 51 = .ok (.bipush 10, 2) := by decide +kernel
theorem d_M_bestWrite_53 : decode b_M_bestWrite 53 = .ok (.if_icmp .eq 49, 3) := by decide +kernel
theorem d_M_bestWrite_56 : decode b_M_bestWrite 56 = .ok (.iload 6, 2) := by decide +kernel
theorem d_M_bestWrite_58 : decode b_M_bestWrite 58 = .ok (.aload_n 0, 1) := by decide +kernel
theorem d_M_bestWrite_59 : decode b_M_bestWrite 59 = .ok (.iload 5, 2) := by decide +kernel
theorem d_M_bestWrite_61 : decode b_M_bestWrite 61 = .ok (.invokevirtual 55, 3) := by decide +kernel
theorem d_M_bestWrite_64 : decode b_M_bestWrite 64 = .ok (.if_icmp .eq 32, 3) := by decide +kernel
theorem d_M_bestWrite_67 : decode b_M_bestWrite 67 = .ok (.aload_n 0, 1) := by decide +kernel
theorem d_M_bestWrite_68 : decode b_M_bestWrite 68 = .ok (.iload 5, 2) := by decide +kernel
theorem d_M_bestWrite_70 : decode b_M_bestWrite 70 = .ok (.iload 6, 2) := by decide +kernel
theorem d_M_bestWrite_72 : decode b_M_bestWrite 72 = .ok (.invokevirtual 132, 3) := by decide +kernel
theorem d_M_bestWrite_75 : decode b_M_bestWrite 75 = .ok (.iload 4, 2) := by decide +kernel
theorem d_M_bestWrite_77 : decode b_M_bestWrite 77 = .ok (.if_icmp .le 19, 3) := by decide +kernel
theorem d_M_bestWrite_80 : decode b_M_bestWrite 80 = .ok (.iload 5, 2) := by decide +kernel
theorem d_M_bestWrite_82 : decode b_M_bestWrite 82 = .ok (.istore_n 2, 1) := by decide +kernel
theorem d_M_bestWrite_83 : decode b_M_bestWrite 83 = .ok (.iload 6, 2) := by decide +kernel
theorem d_M_bestWrite_85 : decode b_M_bestWrite 85 = .ok (.istore_n 3, 1) := by decide +kernel
theorem d_M_bestWrite_86 : decode b_M_bestWrite 86 = .ok (.aload_n 0, 1) := by decide +kernel
theorem d_M_bestWrite_87 : decode b_M_bestWrite 87 = .ok (.iload 5, 2) := by decide +kernel
theorem d_M_bestWrite_89 : decode b_M_bestWrite 89 = .ok (.iload 6, 2) := by decide +kernel
theorem d_M_bestWrite_91 : decode b_M_bestWrite 91 = .ok (.invokevirtual 132, 3) := by decide +kernel
theorem d_M_bestWrite_94 : decode b_M_bestWrite 94 = .ok (.istore 4, 2) := by decide +kernel
theorem d_M_bestWrite_96 : decode b_M_bestWrite 96 = .ok (.iinc 6 1, 3) := by decide +kernel
theorem d_M_bestWrite_99 : decode b_M_bestWrite 99 = .ok (.goto (-61), 3) := by decide +kernel
theorem d_M_bestWrite_102 : decode b_M_bestWrite 102 = .ok (.iinc 5 1, 3) := by decide +kernel
theorem d_M_bestWrite_105 : decode b_M_bestWrite 105 = .ok (.goto (-81), 3) := by decide +kernel
theorem d_M_bestWrite_108 : decode b_M_bestWrite 108 = .ok (.iload_n 2, 1) := by decide +kernel
theorem d_M_bestWrite_109 : decode b_M_bestWrite 109 = .ok (.bipush (-6), 2) := by decide +kernel
theorem d_M_bestWrite_111 : decode b_M_bestWrite 111 = .ok (.if_icmp .ne 8, 3) := by decide +kernel
theorem d_M_bestWrite_114 : decode b_M_bestWrite 114 = .ok (.bipush (-6), 2) := by decide +kernel
theorem d_M_bestWrite_116 : decode b_M_bestWrite 116 = .ok (.goto 22, 3) := by decide +kernel
theorem d_M_bestWrite_119 : decode b_M_bestWrite 119 = .ok (.iload_n 1, 1) := by decide +kernel
theorem d_M_bestWrite_120 : decode b_M_bestWrite 120 = .ok (.ifCond .ne 7, 3) := by decide +kernel
theorem d_M_bestWrite_123 : decode b_M_bestWrite 123 = .ok (.iload_n 2, 1) := by decide +kernel
theorem d_M_bestWrite_124 : decode b_M_bestWrite 124 = .ok (.goto 14, 3) := by decide +kernel
theorem d_M_bestWrite_127 : decode b_M_bestWrite 127 = .ok (.iload_n 1, 1) := by decide +kernel
theorem d_M_bestWrite_128 : decode b_M_bestWrite 128 = .ok (.iconst 1, 1) := by decide +kernel
theorem d_M_bestWrite_129 : decode b_M_bestWrite 129 = .ok (.if_icmp .ne 7, 3) := by decide +kernel
theorem d_M_bestWrite_132 : decode b_M_bestWrite 132 = .ok (.iload_n 3, 1) := by decide +kernel
theorem d_M_bestWrite_133 : decode b_M_bestWrite 133 = .ok (.goto 5, 3) := by decide +kernel
theorem d_M_bestWrite_136 : decode b_M_bestWrite 136 = .ok (.iload 4, 2) := by decide +kernel
theorem d_M_bestWrite_138 : decode b_M_bestWrite 138 = .ok (.ireturn, 1) := by decide +kernel
set_option maxHeartbeats 4000000 in
set_option maxRecDepth 20000 in
theorem c_M_bestWrite {l : Launch} {G : va_G} {tys : List (ClassId × FieldType)} {cI cO cZ : ClassId} (hT : TY tys cI cO cZ) (q0 : Nat) (A A' : AS) (z : Int) (ws : va_W) (hA : MW cI q0 A ws) (wh : Int) (hrg : (-2147483648 ≤ wh ∧ wh < 2147483648)) (hS : Sp_bestWrite wh A z A') : CTI l G tys y_M_bestWrite b_M_bestWrite 7 .int 4 92 [.ref q0, .int (iI wh)] ws (fun z' u => z' = z ∧ MW cI q0 A' u) := by
  obtain ⟨⟨lc, sd, r, sg, ln, N, v⟩, hist, rcd, slot, uf, T, m⟩ := A
  obtain ⟨hR, q1, q2, q3, q4, q5, q6, q7, q8, q9, nw, pt, sl, sv, li, ot, len, pd, wr, wm, ss, lz, rm, rfl, hM, hC⟩ := hA
  have hO := hR.1
  have hr5 := hR.2.1
  have hN3 := hR.2.2.1
  have hN0 := hO.n0
  have hr0 := hO.1
  have hlcd := hR.2.2.2
  have hm80 := hC.2.2.2.2.1
  have hrcd6 := hC.1
  have hvr := hO.v_rg
  have hm0 : nw 0 = lc := hM.1
  have hm1 : nw 1 = sd := hM.2.1
  have hm2 : nw 2 = r := hM.2.2.1
  have hS : A' = ((lc, sd, r, sg, ln, N, v), hist, rcd, slot, uf, T, m) ∧ ((¬ (0 ≤ wh ∧ wh ≤ 2) ∧ z = -2) ∨ ((0 ≤ wh ∧ wh ≤ 2) ∧ z = if (bw lc r sg ln r).2.2 = 0 then -6 else if wh = 0 then (bw lc r sg ln r).1 else if wh = 1 then (bw lc r sg ln r).2.1 else (bw lc r sg ln r).2.2)) := hS
  have hM9 := hM
  obtain ⟨-, -, -, hm3⟩ := hM9
  have hm4 : ∀ k, 0 ≤ k → k < r → nw (3 + 2 * k) = sg k ∧ nw (4 + 2 * k) = ln k := fun k h1 h2 => by have := hm3 k h1 h2; rw [show (0 : Int) + 3 = 3 from rfl, show (0 : Int) + 4 = 4 from rfl] at this; exact this
  refine mkI (by decide) (Nat.le_of_ble_eq_true rfl) ?_
  rintro X rfl rfl rfl hRm C kret H ls w hl
  have hl : lv_has ls 7 [(0, .ref q0), (1, .int (iI wh))] := hl
  have w : Wd X (mw cI q0 q1 q2 q3 q4 q5 q6 q7 q8 q9 nw pt rcd sl sv li ot len pd m wr wm ss lz rm) H [] := w
  generalize ([] : List Loc) = locs at w ⊢
  refine r_iload_n (pc := 0) C d_M_bestWrite_0 rfl (lv_at hl 1 rfl) ?_
  refine r_iconst (pc := 1) C d_M_bestWrite_1 ?_
  refine r_iconst (pc := 2) C d_M_bestWrite_2 ?_
  refine r_callP (pc := 3) (As := [.int (iI wh), .int (iI 0), .int (iI 2)]) (rest := []) C w (c_M_in wh 0 2 (by omega)) ml_M_75 st_M_in ini_M cd_M_in hd_M_in rfl (by rw [hRm]; exact ⟨⟨Nat.le_of_ble_eq_true rfl, Nat.le_of_ble_eq_true rfl⟩, Nat.le_of_ble_eq_true rfl, Nat.le_of_ble_eq_true rfl⟩) hl.1 rfl (Nat.le_of_ble_eq_true rfl) d_M_bestWrite_3 (fun z_3 H locs hz_3 w => ?_)
  refine r_if_ne (pc := 6) (tgt := 12) C (by omega) d_M_bestWrite_6 (by decide) (fun c_6 => ?_) (fun c_6 => ?_)
  · skip
    have hb_6 : 0 ≤ wh ∧ wh ≤ 2 := by omega
    clear hz_3 c_6
    refine r_bipush (pc := 12) C d_M_bestWrite_12 (by decide) ?_
    refine r_istore_n (pc := 14) (lv' := [(2, .int (iI (-6))), (0, .ref q0), (1, .int (iI wh))]) C d_M_bestWrite_14 rfl hl (by decide) rfl (fun ls hl => ?_)
    refine r_bipush (pc := 15) C d_M_bestWrite_15 (by decide) ?_
    refine r_istore_n (pc := 17) (lv' := [(3, .int (iI (-6))), (2, .int (iI (-6))), (0, .ref q0), (1, .int (iI wh))]) C d_M_bestWrite_17 rfl hl (by decide) rfl (fun ls hl => ?_)
    refine r_iconst (pc := 18) C d_M_bestWrite_18 ?_
    refine r_istore (pc := 19) (lv' := [(4, .int (iI 0)), (3, .int (iI (-6))), (2, .int (iI (-6))), (0, .ref q0), (1, .int (iI wh))]) C d_M_bestWrite_19 hl (by decide) rfl (fun ls hl => ?_)
    refine r_iconst (pc := 21) C d_M_bestWrite_21 ?_
    refine r_istore (pc := 22) (lv' := [(5, .int (iI 0)), (4, .int (iI 0)), (3, .int (iI (-6))), (2, .int (iI (-6))), (0, .ref q0), (1, .int (iI wh))]) C d_M_bestWrite_22 hl (by decide) rfl (fun ls hl => ?_)
    have L24 : ∀ (fuel : Nat), ∀ (run : Int) (br : Int) (bv : Int) (mo : Int), 0 ≤ run ∧ run ≤ r → (br, bv, mo) = bw lc r sg ln run → 0 ≤ mo ∧ mo ≤ 198 ∧ ((br = -6 ∧ mo = 0) ∨ (0 ≤ br ∧ 1 ≤ mo)) ∧ br ≤ 50 → (r - run) < (fuel : Int) → ∀ (H : Heap) (locs : List Loc) (ls : Array Slot), Wd X (mw cI q0 q1 q2 q3 q4 q5 q6 q7 q8 q9 nw pt rcd sl sv li ot len pd m wr wm ss lz rm) H locs → lv_has ls 7 [(0, .ref q0), (1, .int (iI wh)), (2, .int (iI br)), (3, .int (iI bv)), (4, .int (iI mo)), (5, .int (iI run))] → GG X 0 0 H locs 24 ls [] := by
      intro fuel
      induction fuel with
      | zero =>
        intro run br bv mo h0 hb hmo hfuel
        exact absurd hfuel (by omega)
      | succ fuel ih24 =>
        intro run br bv mo h0 hb hmo hfuel H locs ls w hl
        refine r_iload (pc := 24) C d_M_bestWrite_24 (lv_at hl 5 rfl) ?_
        refine r_aload_n (pc := 26) C d_M_bestWrite_26 rfl (lv_at hl 0 rfl) ?_
        refine r_get (pc := 27) (v := .ref q1) C w i_M rfl 0 rfl 0 (by decide) fl_M_7 rfl rfl d_M_bestWrite_27 ?_
        refine r_iconst (pc := 30) C d_M_bestWrite_30 ?_
        refine r_iald (pc := 31) (f := nw) (i := 2) C w 0 1 rfl hT.1 (by omega) d_M_bestWrite_31 ?_
        refine r_icmp_ge (pc := 32) (tgt := 108) C (by omega) d_M_bestWrite_32 (by decide) (fun c_32 => ?_) (fun c_32 => ?_)
        · skip
          have hb9 := hb
          rw [show run = r by omega] at hb9
          have hSS := hS.2
          rw [← hb9] at hSS
          have hSS : (¬ (0 ≤ wh ∧ wh ≤ 2) ∧ z = -2) ∨ ((0 ≤ wh ∧ wh ≤ 2) ∧ z = if mo = 0 then -6 else if wh = 0 then br else if wh = 1 then bv else mo) := hSS
          refine r_iload_n (pc := 108) C d_M_bestWrite_108 rfl (lv_at hl 2 rfl) ?_
          refine r_bipush (pc := 109) C d_M_bestWrite_109 (by decide) ?_
          refine r_icmp_ne (pc := 111) (tgt := 119) C (by omega) d_M_bestWrite_111 (by decide) (fun c_111 => ?_) (fun c_111 => ?_)
          · skip
            refine r_iload_n (pc := 119) C d_M_bestWrite_119 rfl (lv_at hl 1 rfl) ?_
            refine r_if_ne (pc := 120) (tgt := 127) C (by omega) d_M_bestWrite_120 (by decide) (fun c_120 => ?_) (fun c_120 => ?_)
            · skip
              refine r_iload_n (pc := 127) C d_M_bestWrite_127 rfl (lv_at hl 1 rfl) ?_
              refine r_iconst (pc := 128) C d_M_bestWrite_128 ?_
              refine r_icmp_ne (pc := 129) (tgt := 136) C (by omega) d_M_bestWrite_129 (by decide) (fun c_129 => ?_) (fun c_129 => ?_)
              · skip
                refine r_iload (pc := 136) C d_M_bestWrite_136 (lv_at hl 4 rfl) ?_
                exact kret _ _ _ _ mo _ d_M_bestWrite_138 w (by obtain ⟨rfl, -⟩ := hS; exact ⟨by rcases hSS with ⟨e1, e2⟩ | ⟨e1, e2⟩; omega; rw [e2]; (repeat' split) <;> omega, ⟨hR, q1, q2, q3, q4, q5, q6, q7, q8, q9, nw, pt, sl, sv, _, _, _, pd, _, _, ss, lz, rm, rfl, hM, hC⟩⟩)
              · skip
                refine r_iload_n (pc := 132) C d_M_bestWrite_132 rfl (lv_at hl 3 rfl) ?_
                refine r_goto (pc := 133) (tgt := 138) C d_M_bestWrite_133 (by decide) ?_
                exact kret _ _ _ _ bv _ d_M_bestWrite_138 w (by obtain ⟨rfl, -⟩ := hS; exact ⟨by rcases hSS with ⟨e1, e2⟩ | ⟨e1, e2⟩; omega; rw [e2]; (repeat' split) <;> omega, ⟨hR, q1, q2, q3, q4, q5, q6, q7, q8, q9, nw, pt, sl, sv, _, _, _, pd, _, _, ss, lz, rm, rfl, hM, hC⟩⟩)
            · skip
              refine r_iload_n (pc := 123) C d_M_bestWrite_123 rfl (lv_at hl 2 rfl) ?_
              refine r_goto (pc := 124) (tgt := 138) C d_M_bestWrite_124 (by decide) ?_
              exact kret _ _ _ _ br _ d_M_bestWrite_138 w (by obtain ⟨rfl, -⟩ := hS; exact ⟨by rcases hSS with ⟨e1, e2⟩ | ⟨e1, e2⟩; omega; rw [e2]; (repeat' split) <;> omega, ⟨hR, q1, q2, q3, q4, q5, q6, q7, q8, q9, nw, pt, sl, sv, _, _, _, pd, _, _, ss, lz, rm, rfl, hM, hC⟩⟩)
          · skip
            refine r_bipush (pc := 114) C d_M_bestWrite_114 (by decide) ?_
            refine r_goto (pc := 116) (tgt := 138) C d_M_bestWrite_116 (by decide) ?_
            exact kret _ _ _ _ (-6) _ d_M_bestWrite_138 w (by obtain ⟨rfl, -⟩ := hS; exact ⟨by rcases hSS with ⟨e1, e2⟩ | ⟨e1, e2⟩; omega; rw [e2]; (repeat' split) <;> omega, ⟨hR, q1, q2, q3, q4, q5, q6, q7, q8, q9, nw, pt, sl, sv, _, _, _, pd, _, _, ss, lz, rm, rfl, hM, hC⟩⟩)
        · skip
          have hk2 := hO.run (k := run) (by omega) (by omega)
          have hk3 := hm4 run (by omega) (by omega)
          have hself := svd_self (code := lc) hO (k := run) (by omega) (by omega)
          have hmo0 : 0 ≤ (bw lc r sg ln run).2.2 := by { rw [← hb]; show 0 ≤ mo; omega }
          have hbv0 : sg run = 10 → ∀ j, 0 ≤ j → bwv (svd lc r sg ln run) run (bw lc r sg ln run) j = bw lc r sg ln run := fun q j hj => bwv_none hmo0 j hj (fun i i1 i2 => by rw [svd_dead q]; omega)
          refine r_iconst (pc := 35) C d_M_bestWrite_35 ?_
          refine r_istore (pc := 36) (lv' := [(6, .int (iI 0)), (0, .ref q0), (1, .int (iI wh)), (2, .int (iI br)), (3, .int (iI bv)), (4, .int (iI mo)), (5, .int (iI run))]) C d_M_bestWrite_36 hl (by decide) rfl (fun ls hl => ?_)
          have L38 : ∀ (fuel : Nat), ∀ (val : Int) (br : Int) (bv : Int) (mo : Int), 0 ≤ val ∧ val ≤ 10 → (br, bv, mo) = bwv (svd lc r sg ln run) run (bw lc r sg ln run) val → 0 ≤ mo ∧ mo ≤ 198 ∧ ((br = -6 ∧ mo = 0) ∨ (0 ≤ br ∧ 1 ≤ mo)) ∧ br ≤ 50 → (10 - val) < (fuel : Int) → ∀ (H : Heap) (locs : List Loc) (ls : Array Slot), Wd X (mw cI q0 q1 q2 q3 q4 q5 q6 q7 q8 q9 nw pt rcd sl sv li ot len pd m wr wm ss lz rm) H locs → lv_has ls 7 [(0, .ref q0), (1, .int (iI wh)), (2, .int (iI br)), (3, .int (iI bv)), (4, .int (iI mo)), (5, .int (iI run)), (6, .int (iI val))] → GG X 0 0 H locs 38 ls [] := by
            intro fuel
            induction fuel with
            | zero =>
              intro val br bv mo h1 hb2 hmo hfuel
              exact absurd hfuel (by omega)
            | succ fuel ih38 =>
              intro val br bv mo h1 hb2 hmo hfuel H locs ls w hl
              refine r_iload (pc := 38) C d_M_bestWrite_38 (lv_at hl 6 rfl) ?_
              refine r_bipush (pc := 40) C d_M_bestWrite_40 (by decide) ?_
              refine r_icmp_ge (pc := 42) (tgt := 102) C (by omega) d_M_bestWrite_42 (by decide) (fun c_42 => ?_) (fun c_42 => ?_)
              · skip
                refine r_iinc (pc := 102) (j := 5) (lv' := [(5, .int (iI (run + 1))), (0, .ref q0), (1, .int (iI wh)), (2, .int (iI br)), (3, .int (iI bv)), (4, .int (iI mo)), (6, .int (iI val))]) C d_M_bestWrite_102 hl rfl (by decide) rfl (fun ls hl => ?_)
                refine r_goto (pc := 105) (tgt := 24) C d_M_bestWrite_105 (by decide) ?_
                exact ih24 (run + 1) br bv mo (by omega) ((by rw [bw_succ _ _ _ _ (by omega)]; first | (rw [show (10 : Int) = val by omega]; exact hb2) | (rw [bwv_none hmo0 10 (by omega) (fun i i1 i2 => by rw [svd_dead (by omega)]; omega)]; rw [hbv0 (by omega) val (by omega)] at hb2; exact hb2))) (by omega) (by omega) _ _ _ w (lv_sub hl [1, 2, 3, 4, 5, 0] rfl)
              · skip
                refine r_aload_n (pc := 45) C d_M_bestWrite_45 rfl (lv_at hl 0 rfl) ?_
                refine r_iload (pc := 46) C d_M_bestWrite_46 (lv_at hl 5 rfl) ?_
                refine r_callVI (pc := 48) (As := [.int (iI run)]) (rest := []) (wr := []) C w (c_M_signOf hT q0 q1 q2 q3 q4 q5 q6 q7 q8 q9 nw pt rcd sl sv li ot len pd m wr wm ss lz rm run (by omega)) ml_M_55 im_M_signOf se_M_signOf ini_M cd_M_signOf hd_M_signOf rfl (by rw [hRm]; exact ⟨⟨Nat.le_of_ble_eq_true rfl, Nat.le_of_ble_eq_true rfl⟩, Nat.le_of_ble_eq_true rfl, Nat.le_of_ble_eq_true rfl⟩) hl.1 [0, 1, 2, 3, 4, 5, 6, 7, 8, 9] [] ⟨rfl, rfl, by decide, by decide, by decide⟩ 0 rfl rfl rfl (Nat.le_of_ble_eq_true rfl) d_M_bestWrite_48 (fun z_48 u_48 H locs hz_48 w => ?_)
                obtain ⟨rfl, rfl⟩ := hz_48
                have w : Wd X (mw cI q0 q1 q2 q3 q4 q5 q6 q7 q8 q9 nw pt rcd sl sv li ot len pd m wr wm ss lz rm) H locs := w
                refine r_bipush (pc := 51) C d_M_bestWrite_51 (by decide) ?_
                refine r_icmp_eq (pc := 53) (tgt := 102) C (by omega) d_M_bestWrite_53 (by decide) (fun c_53 => ?_) (fun c_53 => ?_)
                · skip
                  refine r_iinc (pc := 102) (j := 5) (lv' := [(5, .int (iI (run + 1))), (0, .ref q0), (1, .int (iI wh)), (2, .int (iI br)), (3, .int (iI bv)), (4, .int (iI mo)), (6, .int (iI val))]) C d_M_bestWrite_102 hl rfl (by decide) rfl (fun ls hl => ?_)
                  refine r_goto (pc := 105) (tgt := 24) C d_M_bestWrite_105 (by decide) ?_
                  exact ih24 (run + 1) br bv mo (by omega) ((by rw [bw_succ _ _ _ _ (by omega)]; first | (rw [show (10 : Int) = val by omega]; exact hb2) | (rw [bwv_none hmo0 10 (by omega) (fun i i1 i2 => by rw [svd_dead (by omega)]; omega)]; rw [hbv0 (by omega) val (by omega)] at hb2; exact hb2))) (by omega) (by omega) _ _ _ w (lv_sub hl [1, 2, 3, 4, 5, 0] rfl)
                · skip
                  refine r_iload (pc := 56) C d_M_bestWrite_56 (lv_at hl 6 rfl) ?_
                  refine r_aload_n (pc := 58) C d_M_bestWrite_58 rfl (lv_at hl 0 rfl) ?_
                  refine r_iload (pc := 59) C d_M_bestWrite_59 (lv_at hl 5 rfl) ?_
                  refine r_callVI (pc := 61) (As := [.int (iI run)]) (rest := [.int (iI val)]) (wr := []) C w (c_M_signOf hT q0 q1 q2 q3 q4 q5 q6 q7 q8 q9 nw pt rcd sl sv li ot len pd m wr wm ss lz rm run (by omega)) ml_M_55 im_M_signOf se_M_signOf ini_M cd_M_signOf hd_M_signOf rfl (by rw [hRm]; exact ⟨⟨Nat.le_of_ble_eq_true rfl, Nat.le_of_ble_eq_true rfl⟩, Nat.le_of_ble_eq_true rfl, Nat.le_of_ble_eq_true rfl⟩) hl.1 [0, 1, 2, 3, 4, 5, 6, 7, 8, 9] [] ⟨rfl, rfl, by decide, by decide, by decide⟩ 0 rfl rfl rfl (Nat.le_of_ble_eq_true rfl) d_M_bestWrite_61 (fun z_61 u_61 H locs hz_61 w => ?_)
                  obtain ⟨rfl, rfl⟩ := hz_61
                  have w : Wd X (mw cI q0 q1 q2 q3 q4 q5 q6 q7 q8 q9 nw pt rcd sl sv li ot len pd m wr wm ss lz rm) H locs := w
                  refine r_icmp_eq (pc := 64) (tgt := 96) C (by omega) d_M_bestWrite_64 (by decide) (fun c_64 => ?_) (fun c_64 => ?_)
                  · skip
                    refine r_iinc (pc := 96) (j := 6) (lv' := [(6, .int (iI (val + 1))), (0, .ref q0), (1, .int (iI wh)), (2, .int (iI br)), (3, .int (iI bv)), (4, .int (iI mo)), (5, .int (iI run))]) C d_M_bestWrite_96 hl rfl (by decide) rfl (fun ls hl => ?_)
                    refine r_goto (pc := 99) (tgt := 38) C d_M_bestWrite_99 (by decide) ?_
                    exact ih38 (val + 1) br bv mo (by omega) ((by rw [bwv_succ _ _ _ (by omega), ← hb2]; first | (rw [if_pos (by show mo < svd lc r sg ln run val; omega), hz_91]) | (rw [if_neg (by show ¬ mo < svd lc r sg ln run val; omega)]) | (rw [if_neg (by show ¬ mo < svd lc r sg ln run val; rw [show val = sg run by omega]; omega)]))) (by omega) (by omega) _ _ _ w (lv_sub hl [1, 2, 3, 4, 5, 6, 0] rfl)
                  · skip
                    have hsr := svd_rg (code := lc) hO hN3 (k := run) (val := val) (by omega) (by omega)
                    refine r_aload_n (pc := 67) C d_M_bestWrite_67 rfl (lv_at hl 0 rfl) ?_
                    refine r_iload (pc := 68) C d_M_bestWrite_68 (lv_at hl 5 rfl) ?_
                    refine r_iload (pc := 70) C d_M_bestWrite_70 (lv_at hl 6 rfl) ?_
                    refine r_callVI (pc := 72) (As := [.int (iI run), .int (iI val)]) (rest := []) (wr := []) C w (c_M_savedBy hT q0 q1 q2 q3 q4 q5 q6 q7 q8 q9 nw pt rcd sl sv li ot len pd m wr wm ss lz rm run val _ _ _ _ _ _ _ hR hM (by omega) (by omega) (by omega)) ml_M_132 im_M_savedBy se_M_savedBy ini_M cd_M_savedBy hd_M_savedBy rfl (by rw [hRm]; exact ⟨⟨Nat.le_of_ble_eq_true rfl, Nat.le_of_ble_eq_true rfl⟩, Nat.le_of_ble_eq_true rfl, Nat.le_of_ble_eq_true rfl⟩) hl.1 [0, 1, 2, 3, 4, 5, 6, 7, 8, 9] [] ⟨rfl, rfl, by decide, by decide, by decide⟩ 0 rfl rfl rfl (Nat.le_of_ble_eq_true rfl) d_M_bestWrite_72 (fun z_72 u_72 H locs hz_72 w => ?_)
                    obtain ⟨rfl, hz_72⟩ := hz_72
                    have w : Wd X (mw cI q0 q1 q2 q3 q4 q5 q6 q7 q8 q9 nw pt rcd sl sv li ot len pd m wr wm ss lz rm) H locs := w
                    refine r_iload (pc := 75) C d_M_bestWrite_75 (lv_at hl 4 rfl) ?_
                    refine r_icmp_le (pc := 77) (tgt := 96) C (by omega) d_M_bestWrite_77 (by decide) (fun c_77 => ?_) (fun c_77 => ?_)
                    · skip
                      refine r_iinc (pc := 96) (j := 6) (lv' := [(6, .int (iI (val + 1))), (0, .ref q0), (1, .int (iI wh)), (2, .int (iI br)), (3, .int (iI bv)), (4, .int (iI mo)), (5, .int (iI run))]) C d_M_bestWrite_96 hl rfl (by decide) rfl (fun ls hl => ?_)
                      refine r_goto (pc := 99) (tgt := 38) C d_M_bestWrite_99 (by decide) ?_
                      exact ih38 (val + 1) br bv mo (by omega) ((by rw [bwv_succ _ _ _ (by omega), ← hb2]; first | (rw [if_pos (by show mo < svd lc r sg ln run val; omega), hz_91]) | (rw [if_neg (by show ¬ mo < svd lc r sg ln run val; omega)]) | (rw [if_neg (by show ¬ mo < svd lc r sg ln run val; rw [show val = sg run by omega]; omega)]))) (by omega) (by omega) _ _ _ w (lv_sub hl [1, 2, 3, 4, 5, 6, 0] rfl)
                    · skip
                      refine r_iload (pc := 80) C d_M_bestWrite_80 (lv_at hl 5 rfl) ?_
                      refine r_istore_n (pc := 82) (lv' := [(2, .int (iI run)), (0, .ref q0), (1, .int (iI wh)), (3, .int (iI bv)), (4, .int (iI mo)), (5, .int (iI run)), (6, .int (iI val))]) C d_M_bestWrite_82 rfl hl (by decide) rfl (fun ls hl => ?_)
                      refine r_iload (pc := 83) C d_M_bestWrite_83 (lv_at hl 6 rfl) ?_
                      refine r_istore_n (pc := 85) (lv' := [(3, .int (iI val)), (2, .int (iI run)), (0, .ref q0), (1, .int (iI wh)), (4, .int (iI mo)), (5, .int (iI run)), (6, .int (iI val))]) C d_M_bestWrite_85 rfl hl (by decide) rfl (fun ls hl => ?_)
                      refine r_aload_n (pc := 86) C d_M_bestWrite_86 rfl (lv_at hl 2 rfl) ?_
                      refine r_iload (pc := 87) C d_M_bestWrite_87 (lv_at hl 5 rfl) ?_
                      refine r_iload (pc := 89) C d_M_bestWrite_89 (lv_at hl 6 rfl) ?_
                      refine r_callVI (pc := 91) (As := [.int (iI run), .int (iI val)]) (rest := []) (wr := []) C w (c_M_savedBy hT q0 q1 q2 q3 q4 q5 q6 q7 q8 q9 nw pt rcd sl sv li ot len pd m wr wm ss lz rm run val _ _ _ _ _ _ _ hR hM (by omega) (by omega) (by omega)) ml_M_132 im_M_savedBy se_M_savedBy ini_M cd_M_savedBy hd_M_savedBy rfl (by rw [hRm]; exact ⟨⟨Nat.le_of_ble_eq_true rfl, Nat.le_of_ble_eq_true rfl⟩, Nat.le_of_ble_eq_true rfl, Nat.le_of_ble_eq_true rfl⟩) hl.1 [0, 1, 2, 3, 4, 5, 6, 7, 8, 9] [] ⟨rfl, rfl, by decide, by decide, by decide⟩ 0 rfl rfl rfl (Nat.le_of_ble_eq_true rfl) d_M_bestWrite_91 (fun z_91 u_91 H locs hz_91 w => ?_)
                      obtain ⟨rfl, hz_91⟩ := hz_91
                      have w : Wd X (mw cI q0 q1 q2 q3 q4 q5 q6 q7 q8 q9 nw pt rcd sl sv li ot len pd m wr wm ss lz rm) H locs := w
                      refine r_istore (pc := 94) (lv' := [(4, .int (iI z_91)), (3, .int (iI val)), (2, .int (iI run)), (0, .ref q0), (1, .int (iI wh)), (5, .int (iI run)), (6, .int (iI val))]) C d_M_bestWrite_94 hl (by decide) rfl (fun ls hl => ?_)
                      refine r_iinc (pc := 96) (j := 6) (lv' := [(6, .int (iI (val + 1))), (4, .int (iI z_91)), (3, .int (iI val)), (2, .int (iI run)), (0, .ref q0), (1, .int (iI wh)), (5, .int (iI run))]) C d_M_bestWrite_96 hl rfl (by decide) rfl (fun ls hl => ?_)
                      refine r_goto (pc := 99) (tgt := 38) C d_M_bestWrite_99 (by decide) ?_
                      exact ih38 (val + 1) run val z_91 (by omega) ((by rw [bwv_succ _ _ _ (by omega), ← hb2]; first | (rw [if_pos (by show mo < svd lc r sg ln run val; omega), hz_91]) | (rw [if_neg (by show ¬ mo < svd lc r sg ln run val; omega)]) | (rw [if_neg (by show ¬ mo < svd lc r sg ln run val; rw [show val = sg run by omega]; omega)]))) (by omega) (by omega) _ _ _ w (lv_sub hl [4, 5, 3, 2, 1, 6, 0] rfl)
          exact L38 ((10 - 0) + 1 : Int).toNat 0 br bv mo (by first | omega | rfl) (hb) (by first | omega | rfl) (by omega) _ _ _ w (lv_sub hl [1, 2, 3, 4, 5, 6, 0] rfl)
    exact L24 ((r - 0) + 1 : Int).toNat 0 (-6) (-6) 0 (by first | omega | rfl) (rfl) (by first | omega | rfl) (by omega) _ _ _ w (lv_sub hl [4, 5, 3, 2, 1, 0] rfl)
  · skip
    have hb_6 : ¬ (0 ≤ wh ∧ wh ≤ 2) := by omega
    clear hz_3 c_6
    refine r_bipush (pc := 9) C d_M_bestWrite_9 (by decide) ?_
    exact kret _ _ _ _ (-2) _ d_M_bestWrite_11 w (by obtain ⟨rfl, hS9⟩ := hS; exact ⟨by omega, ⟨hR, q1, q2, q3, q4, q5, q6, q7, q8, q9, nw, pt, sl, sv, _, _, _, pd, _, _, ss, lz, rm, rfl, hM, hC⟩⟩)
