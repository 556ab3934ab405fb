/-! find: the reference -/
theorem mt_congr {v u : Int → Int} {p e : Int} (hd : dl p ≤ e + 1) (h : ∀ x, 0 ≤ x → x ≤ e → v x = u x) : Mt v p e ↔ Mt u p e := by
  unfold Mt
  constructor
  · intro q k k1 k2
    rw [← h _ (by omega) (by omega)]
    exact q k k1 k2
  · intro q k k1 k2
    rw [h _ (by omega) (by omega)]
    exact q k k1 k2
theorem d_M_endsAt_0 : decode b_M_endsAt 0 = .ok (.iload_n 1, 1) := by decide +kernel
theorem d_M_endsAt_1 : decode b_M_endsAt 1 = .ok (.istore_n 3, 1) := by decide +kernel
theorem d_M_endsAt_2 : decode b_M_endsAt 2 = .ok (.iload_n 2, 1) := by decide +kernel
theorem d_M_endsAt_3 : decode b_M_endsAt 3 = .ok (.istore 4, 2) := by decide +kernel
theorem d_M_endsAt_5 : decode b_M_endsAt 5 = .ok (.iload 4, 2) := by decide +kernel
theorem d_M_endsAt_7 : decode b_M_endsAt 7 = .ok (.ifCond .le 34, 3) := by decide +kernel
theorem d_M_endsAt_10 : decode b_M_endsAt 10 = .ok (.iload_n 3, 1) := by decide +kernel
theorem d_M_endsAt_11 : decode b_M_endsAt 11 = .ok (.ifCond .lt 30, 3) := by decide +kernel
theorem d_M_endsAt_14 : decode b_M_endsAt 14 = .ok (.aload_n 0, 1) := by decide +kernel
theorem d_M_endsAt_15 : decode b_M_endsAt 15 = .ok (.getfield 19, 3) := by decide +kernel
theorem d_M_endsAt_18 : decode b_M_endsAt 18 = .ok (.iload_n 3, 1) := by decide +kernel
theorem d_M_endsAt_19 : decode b_M_endsAt 19 = .ok (.iaload, 1) := by decide +kernel
theorem d_M_endsAt_20 : decode b_M_endsAt 20 = .ok (.iload 4, 2) := by decide +kernel
theorem d_M_endsAt_22 : decode b_M_endsAt 22 = .ok (.bipush 10, 2) := by decide +kernel
theorem d_M_endsAt_24 : decode b_M_endsAt 24 = .ok (.irem, 1) := by decide +kernel
theorem d_M_endsAt_25 : decode b_M_endsAt 25 = .ok (.if_icmp .ne 16, 3) := by decide +kernel
theorem d_M_endsAt_28 : decode b_M_endsAt 28 = .ok (.iload 4, 2) := by decide +kernel
theorem d_M_endsAt_30 : decode b_M_endsAt 30 = .ok (.bipush 10, 2) := by decide +kernel
theorem d_M_endsAt_32 : decode b_M_endsAt 32 = .ok (.idiv, 1) := by decide +kernel
theorem d_M_endsAt_33 : decode b_M_endsAt 33 = .ok (.istore 4, 2) := by decide +kernel
theorem d_M_endsAt_35 : decode b_M_endsAt 35 = .ok (.iinc 3 (-1), 3) := by decide +kernel
theorem d_M_endsAt_38 : decode b_M_endsAt 38 = .ok (.goto (-33), 3) := by decide +kernel
theorem d_M_endsAt_41 : decode b_M_endsAt 41 = .ok (.iload 4, 2) := by decide +kernel
theorem d_M_endsAt_43 : decode b_M_endsAt 43 = .ok (.ifCond .ne 7, 3) := by decide +kernel
theorem d_M_endsAt_46 : decode b_M_endsAt 46 = .ok (.iconst 1, 1) := by decide +kernel
theorem d_M_endsAt_47 : decode b_M_endsAt 47 = .ok (.goto 4, 3) := by decide +kernel
theorem d_M_endsAt_50 : decode b_M_endsAt 50 = .ok (.iconst 0, 1) := by decide +kernel
theorem d_M_endsAt_51 : decode b_M_endsAt 51 = .ok (.ireturn, 1) := by decide +kernel
set_option maxHeartbeats 4000000 in
set_option maxRecDepth 20000 in
theorem c_M_endsAt {l : Launch} {G : va_G} {tys : List (ClassId × FieldType)} {cI cO cZ : ClassId} (hT : TY tys cI cO cZ) (q0 q1 q2 q3 q4 q5 q6 q7 q8 q9 : Nat) (nw pt : Int → Int) (np : Int) (sl : Int → Int) (sv : Int) (li ot : Int → Int) (len : Int) (pd : Int → Int) (ty : Int) (wr : Int → Int) (wm : Int) (ss lz : Int → Int) (rm : Int) (x p : Int) (hp : 1 ≤ p ∧ p ≤ 999999999) (hx : dl p ≤ x + 1 ∧ x < 6000) (hli : ∀ y, 0 ≤ y → y ≤ x → 0 ≤ li y ∧ li y ≤ 10) : CTI l G tys y_M_endsAt b_M_endsAt 5 .boolean 0 0 [.ref q0, .int (iI x), .int (iI p)] (mw cI q0 q1 q2 q3 q4 q5 q6 q7 q8 q9 nw pt np sl sv li ot len pd ty wr wm ss lz rm) (fun z u => u = mw cI q0 q1 q2 q3 q4 q5 q6 q7 q8 q9 nw pt np sl sv li ot len pd ty wr wm ss lz rm ∧ ((z = 1 ∧ Mt li p x) ∨ (z = 0 ∧ ¬ Mt li p x))) := by
  refine mkZ (by decide) (Nat.le_of_ble_eq_true rfl) ?_
  rintro X rfl rfl rfl hRm C kret H ls w hl
  have hl : lv_has ls 5 [(0, .ref q0), (1, .int (iI x)), (2, .int (iI p))] := hl
  have w : Wd X (mw cI q0 q1 q2 q3 q4 q5 q6 q7 q8 q9 nw pt np sl sv li ot len pd ty wr wm ss lz rm) H [] := w
  generalize ([] : List Loc) = locs at w ⊢
  have hd1 := dl_pos (n := p) (by omega)
  have hd11 := dl_rg p
  refine r_iload_n (pc := 0) C d_M_endsAt_0 rfl (lv_at hl 1 rfl) ?_
  refine r_istore_n (pc := 1) (lv' := [(3, .int (iI x)), (0, .ref q0), (1, .int (iI x)), (2, .int (iI p))]) C d_M_endsAt_1 rfl hl (by decide) rfl (fun ls hl => ?_)
  refine r_iload_n (pc := 2) C d_M_endsAt_2 rfl (lv_at hl 3 rfl) ?_
  refine r_istore (pc := 3) (lv' := [(4, .int (iI p)), (3, .int (iI x)), (0, .ref q0), (1, .int (iI x)), (2, .int (iI p))]) C d_M_endsAt_3 hl (by decide) rfl (fun ls hl => ?_)
  have L5 : ∀ (fuel : Nat), ∀ (i : Int) (lf : Int), x - dl p ≤ i ∧ i ≤ x → lf = pq10 p (x - i) → (∀ j, 0 ≤ j → j < x - i → li (x - j) = dgt p j) → (i - (x - dl p)) < (fuel : Int) → ∀ (H : Heap) (locs : List Loc) (ls : Array Slot), Wd X (mw cI q0 q1 q2 q3 q4 q5 q6 q7 q8 q9 nw pt np sl sv li ot len pd ty wr wm ss lz rm) H locs → lv_has ls 5 [(0, .ref q0), (1, .int (iI x)), (2, .int (iI p)), (3, .int (iI i)), (4, .int (iI lf))] → GG X 0 0 H locs 5 ls [] := by
    intro fuel
    induction fuel with
    | zero =>
      intro i lf h0 hlf hm hfuel
      exact absurd hfuel (by omega)
    | succ fuel ih5 =>
      intro i lf h0 hlf hm hfuel H locs ls w hl
      have hpr := pq_rg (p := p) (k := x - i) (by omega)
      have hdp := dl_pq (p := p) (by omega) (k := x - i) (by omega)
      rw [← hlf] at hpr hdp
      refine r_iload (pc := 5) C d_M_endsAt_5 (lv_at hl 4 rfl) ?_
      refine r_if_le (pc := 7) (tgt := 41) C (by omega) d_M_endsAt_7 (by decide) (fun c_7 => ?_) (fun c_7 => ?_)
      · skip
        refine r_iload (pc := 41) C d_M_endsAt_41 (lv_at hl 4 rfl) ?_
        refine r_if_ne (pc := 43) (tgt := 50) C (by omega) d_M_endsAt_43 (by decide) (fun c_43 => ?_) (fun c_43 => ?_)
        · skip
          refine r_iconst (pc := 50) C d_M_endsAt_50 ?_
          exact kret _ _ _ _ 0 _ d_M_endsAt_51 w (by omega) (⟨rfl, Or.inr ⟨rfl, fun hM => by have h8 := hM (x - i) (by omega) (by omega); rw [show x - (x - i) = i by omega] at h8; unfold dgt at h8; rw [← hlf] at h8; omega⟩⟩)
        · skip
          refine r_iconst (pc := 46) C d_M_endsAt_46 ?_
          refine r_goto (pc := 47) (tgt := 51) C d_M_endsAt_47 (by decide) ?_
          exact kret _ _ _ _ 1 _ d_M_endsAt_51 w (by omega) (⟨rfl, Or.inl ⟨rfl, fun j j1 j2 => hm j j1 (by omega)⟩⟩)
      · skip
        refine r_iload_n (pc := 10) C d_M_endsAt_10 rfl (lv_at hl 3 rfl) ?_
        refine r_if_lt (pc := 11) (tgt := 41) C (by omega) d_M_endsAt_11 (by decide) (fun c_11 => ?_) (fun c_11 => ?_)
        · skip
          exact absurd c_11 (by omega)
        · skip
          have hl1 := hli i (by omega) (by omega)
          refine r_aload_n (pc := 14) C d_M_endsAt_14 rfl (lv_at hl 0 rfl) ?_
          refine r_get (pc := 15) (v := .ref q4) C w i_M rfl 0 rfl 5 (by decide) fl_M_19 rfl rfl d_M_endsAt_15 ?_
          refine r_iload_n (pc := 18) C d_M_endsAt_18 rfl (lv_at hl 3 rfl) ?_
          refine r_iald (pc := 19) (f := li) (i := i) C w 0 4 rfl hT.1 (by omega) d_M_endsAt_19 ?_
          refine r_iload (pc := 20) C d_M_endsAt_20 (lv_at hl 4 rfl) ?_
          refine r_bipush (pc := 22) C d_M_endsAt_22 (by decide) ?_
          refine r_irem (pc := 24) C d_M_endsAt_24 (by omega) ?_
          refine r_icmp_ne (pc := 25) (tgt := 41) C (by omega) d_M_endsAt_25 (by decide) (fun c_25 => ?_) (fun c_25 => ?_)
          · skip
            refine r_iload (pc := 41) C d_M_endsAt_41 (lv_at hl 4 rfl) ?_
            refine r_if_ne (pc := 43) (tgt := 50) C (by omega) d_M_endsAt_43 (by decide) (fun c_43 => ?_) (fun c_43 => ?_)
            · skip
              refine r_iconst (pc := 50) C d_M_endsAt_50 ?_
              exact kret _ _ _ _ 0 _ d_M_endsAt_51 w (by omega) (⟨rfl, Or.inr ⟨rfl, fun hM => by have h8 := hM (x - i) (by omega) (by omega); rw [show x - (x - i) = i by omega] at h8; unfold dgt at h8; rw [← hlf] at h8; omega⟩⟩)
            · skip
              refine r_iconst (pc := 46) C d_M_endsAt_46 ?_
              refine r_goto (pc := 47) (tgt := 51) C d_M_endsAt_47 (by decide) ?_
              exact kret _ _ _ _ 1 _ d_M_endsAt_51 w (by omega) (⟨rfl, Or.inl ⟨rfl, fun j j1 j2 => hm j j1 (by omega)⟩⟩)
          · skip
            refine r_iload (pc := 28) C d_M_endsAt_28 (lv_at hl 4 rfl) ?_
            refine r_bipush (pc := 30) C d_M_endsAt_30 (by decide) ?_
            refine r_idiv (pc := 32) C d_M_endsAt_32 (by omega) ?_
            refine r_istore (pc := 33) (lv' := [(4, .int (iI (lf / 10))), (0, .ref q0), (1, .int (iI x)), (2, .int (iI p)), (3, .int (iI i))]) C d_M_endsAt_33 hl (by decide) rfl (fun ls hl => ?_)
            refine r_iinc (pc := 35) (j := 4) (lv' := [(3, .int (iI (i + (-1)))), (4, .int (iI (lf / 10))), (0, .ref q0), (1, .int (iI x)), (2, .int (iI p))]) C d_M_endsAt_35 hl rfl (by decide) rfl (fun ls hl => ?_)
            refine r_goto (pc := 38) (tgt := 5) C d_M_endsAt_38 (by decide) ?_
            exact ih5 (i + (-1)) (lf / 10) (by omega) ((by rw [show x - (i + (-1)) = x - i + 1 by omega, pq_succ p (by omega), ← hlf])) ((fun j j1 j2 => if q : j = x - i then (by rw [q, show x - (x - i) = i by omega]; unfold dgt; rw [← hlf]; omega) else hm j j1 (by omega))) (by omega) _ _ _ w (lv_sub hl [2, 3, 4, 0, 1] rfl)
  exact L5 ((x - (x - dl p)) + 1 : Int).toNat x p (by first | omega | rfl) ((by rw [show x - x = 0 by omega]; exact (pq_zero p).symm)) ((fun j j1 j2 => by omega)) (by omega) _ _ _ w (lv_sub hl [2, 3, 4, 1, 0] rfl)
theorem d_M_find_0 : decode b_M_find 0 = .ok (.iload_n 1, 1) := by decide +kernel
theorem d_M_find_1 : decode b_M_find 1 = .ok (.ifCond .lt 13, 3) := by decide +kernel
theorem d_M_find_4 : decode b_M_find 4 = .ok (.iload_n 2, 1) := by decide +kernel
theorem d_M_find_5 : decode b_M_find 5 = .ok (.iconst 1, 1) := by decide +kernel
theorem d_M_find_6 : decode b_M_find 6 = .ok (.ldc 128, 2) := by decide +kernel
theorem d_M_find_8 : decode b_M_find 8 = .ok (.invokestatic 75, 3) := by decide +kernel
theorem d_M_find_11 : decode b_M_find 11 = .ok (.ifCond .ne 6, 3) := by decide +kernel
theorem d_M_find_14 : decode b_M_find 14 = .ok (.bipush (-2), 2) := by decide +kernel
theorem d_M_find_16 : decode b_M_find 16 = .ok (.ireturn, 1) := by decide +kernel
theorem d_M_find_17 : decode b_M_find 17 = .ok (.aload_n 0, 1) := by decide +kernel
theorem d_M_find_18 : decode b_M_find 18 = .ok (.invokevirtual 72, 3) := by decide +kernel
theorem d_M_find_21 : decode b_M_find 21 = .ok (.iconst 0, 1) := by decide +kernel
theorem d_M_find_22 : decode b_M_find 22 = .ok (.istore_n 3, 1) := by decide +kernel
theorem d_M_find_23 : decode b_M_find 23 = .ok (.iload_n 2, 1) := by decide +kernel
theorem d_M_find_24 : decode b_M_find 24 = .ok (.istore 4, 2) := by decide +kernel
theorem d_M_find_26 : decode b_M_find 26 = .ok (.iload 4, 2) := by decide +kernel
theorem d_M_find_28 : decode b_M_find 28 = .ok (.ifCond .le 16, 3) := by decide +kernel
theorem d_M_find_31 : decode b_M_find 31 = .ok (.iinc 3 1, 3) := by decide +kernel
theorem d_M_find_34 : decode b_M_find 34 = .ok (.iload 4, 2) := by decide +kernel
theorem d_M_find_36 : decode b_M_find 36 = .ok (.bipush 10, 2) := by decide +kernel
theorem d_M_find_38 : decode b_M_find 38 = .ok (.idiv, 1) := by decide +kernel
theorem d_M_find_39 : decode b_M_find 39 = .ok (.istore 4, 2) := by decide +kernel
theorem d_M_find_41 : decode b_M_find 41 = .ok (.goto (-15), 3) := by decide +kernel
theorem d_M_find_44 : decode b_M_find 44 = .ok (.iload_n 3, 1) := by decide +kernel
theorem d_M_find_45 : decode b_M_find 45 = .ok (.iconst 1, 1) := by decide +kernel
theorem d_M_find_46 : decode b_M_find 46 = .ok (.isub, 1) := by decide +kernel
theorem d_M_find_47 : decode b_M_find 47 = .ok (.istore 4, 2) := by decide +kernel
theorem d_M_find_49 : decode b_M_find 49 = .ok (.iload 4, 2) := by decide +kernel
theorem d_M_find_51 : decode b_M_find 51 = .ok (.aload_n 0, 1) := by decide +kernel
theorem d_M_find_52 : decode b_M_find 52 = .ok (.getfield 52, 3) := by decide +kernel
theorem d_M_find_55 : decode b_M_find 55 = .ok (.if_icmp .ge 36, 3) := by decide +kernel
theorem d_M_find_58 : decode b_M_find 58 = .ok (.iload 4, 2) := by decide +kernel
theorem d_M_find_60 : decode b_M_find 60 = .ok (.iload_n 3, 1) := by decide +kernel
theorem d_M_find_61 : decode b_M_find 61 = .ok (.isub, 1) := by decide +kernel
theorem d_M_find_62 : decode b_M_find 62 = .ok (.iconst 1, 1) := by decide +kernel
theorem d_M_find_63 : decode b_M_find 63 = .ok (.iadd, 1) := by decide +kernel
theorem d_M_find_64 : decode b_M_find 64 = .ok (.iload_n 1, 1) := by decide +kernel
theorem d_M_find_65 : decode b_M_find 65 = .ok (.if_icmp .lt 20, 3) := by decide +kernel
theorem d_M_find_68 : decode b_M_find 68 = .ok (.aload_n 0, 1) := by decide +kernel
theorem d_M_find_69 : decode b_M_find 69 = .ok (.iload 4, 2) := by decide +kernel
theorem d_M_find_71 : decode b_M_find 71 = .ok (.iload_n 2, 1) := by decide +kernel
theorem d_M_find_72 : decode b_M_find 72 = .ok (.invokevirtual 129, 3) := by decide +kernel
theorem d_M_find_75 : decode b_M_find 75 = .ok (.ifCond .eq 10, 3) := by decide +kernel
theorem d_M_find_78 : decode b_M_find 78 = .ok (.iload 4, 2) := by decide +kernel
theorem d_M_find_80 : decode b_M_find 80 = .ok (.iload_n 3, 1) := by decide +kernel
theorem d_M_find_81 : decode b_M_find 81 = .ok (.isub, 1) := by decide +kernel
theorem d_M_find_82 : decode b_M_find 82 = .ok (.iconst 1, 1) := by decide +kernel
theorem d_M_find_83 : decode b_M_find 83 = .ok (.iadd, 1) := by decide +kernel
theorem d_M_find_84 : decode b_M_find 84 = .ok (.ireturn, 1) := by decide +kernel
theorem d_M_find_85 : decode b_M_find 85 = .ok (.iinc 4 1, 3) := by decide +kernel
theorem d_M_find_88 : decode b_M_find 88 = .ok (.goto (-39), 3) := by decide +kernel
theorem d_M_find_91 : decode b_M_find 91 = .ok (.bipush (-6), 2) := by decide +kernel
theorem d_M_find_93 : decode b_M_find 93 = .ok (.ireturn, 1) := by decide +kernel
set_option maxHeartbeats 4000000 in
set_option maxRecDepth 20000 in
theorem c_M_find {l : Launch} {G : va_G} {tys : List (ClassId × FieldType)} {cI cO cZ : ClassId} (hT : TY tys cI cO cZ) (q0 : Nat) (A A' : AS) (z : Int) (ws : va_W) (hA : MW cI q0 A ws) (f p : Int) (hrg : (-2147483648 ≤ f ∧ f < 2147483648) ∧ (-2147483648 ≤ p ∧ p < 2147483648)) (hS : Sp_find f p A z A') : CTI l G tys y_M_find b_M_find 5 .int 2 43 [.ref q0, .int (iI f), .int (iI p)] ws (fun z' u => z' = z ∧ MW cI q0 A' u) := by
  obtain ⟨⟨lc, sd, r, sg, ln, N, v⟩, hist, rcd, slot, uf, T, m⟩ := A
  obtain ⟨hR, q1, q2, q3, q4, q5, q6, q7, q8, q9, nw, pt, sl, sv, li, ot, len, pd, wr, wm, ss, lz, rm, rfl, hM, hC⟩ := hA
  have hO := hR.1
  have hr5 := hR.2.1
  have hN3 := hR.2.2.1
  have hN0 := hO.n0
  have hr0 := hO.1
  have hlcd := hR.2.2.2
  have hm80 := hC.2.2.2.2.1
  have hrcd6 := hC.1
  have hvr := hO.v_rg
  have hm0 : nw 0 = lc := hM.1
  have hm1 : nw 1 = sd := hM.2.1
  have hm2 : nw 2 = r := hM.2.2.1
  have hS : A' = ((lc, sd, r, sg, ln, N, v), hist, rcd, slot, uf, T, m) ∧ (((f < 0 ∨ ¬ (1 ≤ p ∧ p ≤ 999999999)) ∧ z = -2) ∨ ((0 ≤ f ∧ 1 ≤ p ∧ p ≤ 999999999) ∧ Fnd v N p f z)) := hS
  have hM9 := hM
  obtain ⟨-, -, -, hm3⟩ := hM9
  have hm4 : ∀ k, 0 ≤ k → k < r → nw (3 + 2 * k) = sg k ∧ nw (4 + 2 * k) = ln k := fun k h1 h2 => by have := hm3 k h1 h2; rw [show (0 : Int) + 3 = 3 from rfl, show (0 : Int) + 4 = 4 from rfl] at this; exact this
  refine mkI (by decide) (Nat.le_of_ble_eq_true rfl) ?_
  rintro X rfl rfl rfl hRm C kret H ls w hl
  have hl : lv_has ls 5 [(0, .ref q0), (1, .int (iI f)), (2, .int (iI p))] := hl
  have w : Wd X (mw cI q0 q1 q2 q3 q4 q5 q6 q7 q8 q9 nw pt rcd sl sv li ot len pd m wr wm ss lz rm) H [] := w
  generalize ([] : List Loc) = locs at w ⊢
  refine r_iload_n (pc := 0) C d_M_find_0 rfl (lv_at hl 1 rfl) ?_
  refine r_if_lt (pc := 1) (tgt := 14) C (by omega) d_M_find_1 (by decide) (fun c_1 => ?_) (fun c_1 => ?_)
  · skip
    refine r_bipush (pc := 14) C d_M_find_14 (by decide) ?_
    exact kret _ _ _ _ (-2) _ d_M_find_16 w (by obtain ⟨rfl, hS9⟩ := hS; exact ⟨by omega, ⟨hR, q1, q2, q3, q4, q5, q6, q7, q8, q9, nw, pt, sl, sv, _, _, _, pd, _, _, ss, lz, rm, rfl, hM, hC⟩⟩)
  · skip
    refine r_iload_n (pc := 4) C d_M_find_4 rfl (lv_at hl 2 rfl) ?_
    refine r_iconst (pc := 5) C d_M_find_5 ?_
    refine r_ldc (pc := 6) (z := 999999999) C kc_M_128 (by decide) d_M_find_6 ?_
    refine r_callP (pc := 8) (As := [.int (iI p), .int (iI 1), .int (iI 999999999)]) (rest := []) C w (c_M_in p 1 999999999 (by omega)) ml_M_75 st_M_in ini_M cd_M_in hd_M_in rfl (by rw [hRm]; exact ⟨⟨Nat.le_of_ble_eq_true rfl, Nat.le_of_ble_eq_true rfl⟩, Nat.le_of_ble_eq_true rfl, Nat.le_of_ble_eq_true rfl⟩) hl.1 rfl (Nat.le_of_ble_eq_true rfl) d_M_find_8 (fun z_8 H locs hz_8 w => ?_)
    refine r_if_ne (pc := 11) (tgt := 17) C (by omega) d_M_find_11 (by decide) (fun c_11 => ?_) (fun c_11 => ?_)
    · skip
      have hb_11 : 1 ≤ p ∧ p ≤ 999999999 := by omega
      clear hz_8 c_11
      refine r_aload_n (pc := 17) C d_M_find_17 rfl (lv_at hl 0 rfl) ?_
      refine r_callVV (pc := 18) (As := []) (rest := []) (wr := []) C w (c_M_laysOut hT q0 q1 q2 q3 q4 q5 q6 q7 q8 q9 nw pt rcd sl sv li ot len pd m wr wm ss lz rm  _ _ _ _ _ _ _ hR hM) ml_M_72 im_M_laysOut se_M_laysOut ini_M cd_M_laysOut hd_M_laysOut rfl (by rw [hRm]; exact ⟨⟨Nat.le_of_ble_eq_true rfl, Nat.le_of_ble_eq_true rfl⟩, Nat.le_of_ble_eq_true rfl, Nat.le_of_ble_eq_true rfl⟩) hl.1 [0, 1, 2, 3, 4, 5, 6, 7, 8, 9] [] ⟨rfl, rfl, by decide, by decide, by decide⟩ 0 rfl rfl rfl (Nat.le_of_ble_eq_true rfl) d_M_find_18 (fun u_18 H locs hz_18 w => ?_)
      obtain ⟨li_18, rfl, hli_18⟩ := hz_18
      have w : Wd X (mw cI q0 q1 q2 q3 q4 q5 q6 q7 q8 q9 nw pt rcd sl sv li_18 ot N pd m wr wm ss lz rm) H locs := w
      refine r_iconst (pc := 21) C d_M_find_21 ?_
      refine r_istore_n (pc := 22) (lv' := [(3, .int (iI 0)), (0, .ref q0), (1, .int (iI f)), (2, .int (iI p))]) C d_M_find_22 rfl hl (by decide) rfl (fun ls hl => ?_)
      refine r_iload_n (pc := 23) C d_M_find_23 rfl (lv_at hl 3 rfl) ?_
      refine r_istore (pc := 24) (lv' := [(4, .int (iI p)), (3, .int (iI 0)), (0, .ref q0), (1, .int (iI f)), (2, .int (iI p))]) C d_M_find_24 hl (by decide) rfl (fun ls hl => ?_)
      have L26 : ∀ (fuel : Nat), ∀ (dg : Int) (lf : Int), 0 ≤ lf ∧ lf < 2147483648 → dg + dl lf = dl p ∧ 0 ≤ dg → lf < (fuel : Int) → ∀ (H : Heap) (locs : List Loc) (ls : Array Slot), Wd X (mw cI q0 q1 q2 q3 q4 q5 q6 q7 q8 q9 nw pt rcd sl sv li_18 ot N pd m wr wm ss lz rm) H locs → lv_has ls 5 [(0, .ref q0), (1, .int (iI f)), (2, .int (iI p)), (3, .int (iI dg)), (4, .int (iI lf))] → GG X 0 0 H locs 26 ls [] := by
        intro fuel
        induction fuel with
        | zero =>
          intro dg lf h0 hd hfuel
          exact absurd hfuel (by omega)
        | succ fuel ih26 =>
          intro dg lf h0 hd hfuel H locs ls w hl
          have hlr := dl_rg lf
          refine r_iload (pc := 26) C d_M_find_26 (lv_at hl 4 rfl) ?_
          refine r_if_le (pc := 28) (tgt := 44) C (by omega) d_M_find_28 (by decide) (fun c_28 => ?_) (fun c_28 => ?_)
          · skip
            rw [dl_0 (show lf ≤ 0 by omega)] at hd
            have hd11 := dl_rg p
            have hd1 := dl_pos (n := p) (by omega)
            refine r_iload_n (pc := 44) C d_M_find_44 rfl (lv_at hl 3 rfl) ?_
            refine r_iconst (pc := 45) C d_M_find_45 ?_
            refine r_isub (pc := 46) C d_M_find_46 ?_
            refine r_istore (pc := 47) (lv' := [(4, .int (iI (dg - 1))), (0, .ref q0), (1, .int (iI f)), (2, .int (iI p)), (3, .int (iI dg))]) C d_M_find_47 hl (by decide) rfl (fun ls hl => ?_)
            have L49 : ∀ (fuel : Nat), ∀ (i : Int), dl p - 1 ≤ i ∧ i ≤ max N (dl p) → (∀ e, f + dl p ≤ e + 1 → e < i → ¬ Mt v p e) → (max N (dl p) - i) < (fuel : Int) → ∀ (H : Heap) (locs : List Loc) (ls : Array Slot), Wd X (mw cI q0 q1 q2 q3 q4 q5 q6 q7 q8 q9 nw pt rcd sl sv li_18 ot N pd m wr wm ss lz rm) H locs → lv_has ls 5 [(0, .ref q0), (1, .int (iI f)), (2, .int (iI p)), (3, .int (iI dg)), (4, .int (iI i))] → GG X 0 0 H locs 49 ls [] := by
              intro fuel
              induction fuel with
              | zero =>
                intro i h1 hno hfuel
                exact absurd hfuel (by omega)
              | succ fuel ih49 =>
                intro i h1 hno hfuel H locs ls w hl
                refine r_iload (pc := 49) C d_M_find_49 (lv_at hl 4 rfl) ?_
                refine r_aload_n (pc := 51) C d_M_find_51 rfl (lv_at hl 0 rfl) ?_
                refine r_get (pc := 52) (v := .int (iI N)) C w i_M rfl 0 rfl 7 (by decide) fl_M_52 rfl rfl d_M_find_52 ?_
                refine r_icmp_ge (pc := 55) (tgt := 91) C (by omega) d_M_find_55 (by decide) (fun c_55 => ?_) (fun c_55 => ?_)
                · skip
                  refine r_bipush (pc := 91) C d_M_find_91 (by decide) ?_
                  exact kret _ _ _ _ (-6) _ d_M_find_93 w (by obtain ⟨rfl, hS9⟩ := hS; exact ⟨by rcases hS9 with ⟨e, -⟩ | ⟨-, e⟩; omega; exact Fnd.uniq (Or.inl ⟨rfl, fun e e1 e2 => hno e e1 (by omega)⟩) e, ⟨hR, q1, q2, q3, q4, q5, q6, q7, q8, q9, nw, pt, sl, sv, _, _, _, pd, _, _, ss, lz, rm, rfl, hM, hC⟩⟩)
                · skip
                  refine r_iload (pc := 58) C d_M_find_58 (lv_at hl 4 rfl) ?_
                  refine r_iload_n (pc := 60) C d_M_find_60 rfl (lv_at hl 3 rfl) ?_
                  refine r_isub (pc := 61) C d_M_find_61 ?_
                  refine r_iconst (pc := 62) C d_M_find_62 ?_
                  refine r_iadd (pc := 63) C d_M_find_63 ?_
                  refine r_iload_n (pc := 64) C d_M_find_64 rfl (lv_at hl 1 rfl) ?_
                  refine r_icmp_lt (pc := 65) (tgt := 85) C (by omega) d_M_find_65 (by decide) (fun c_65 => ?_) (fun c_65 => ?_)
                  · skip
                    refine r_iinc (pc := 85) (j := 4) (lv' := [(4, .int (iI (i + 1))), (0, .ref q0), (1, .int (iI f)), (2, .int (iI p)), (3, .int (iI dg))]) C d_M_find_85 hl rfl (by decide) rfl (fun ls hl => ?_)
                    refine r_goto (pc := 88) (tgt := 49) C d_M_find_88 (by decide) ?_
                    exact ih49 (i + 1) (by omega) ((fun e e1 e2 => if q : e = i then (by first | (exfalso; omega) | (rcases hz_72 with ⟨a, -⟩ | ⟨-, a⟩; exact absurd a (by omega); rw [q]; exact fun hM => a (hmc.mpr hM))) else hno e e1 (by omega))) (by omega) _ _ _ w (lv_sub hl [1, 2, 3, 4, 0] rfl)
                  · skip
                    refine r_aload_n (pc := 68) C d_M_find_68 rfl (lv_at hl 0 rfl) ?_
                    refine r_iload (pc := 69) C d_M_find_69 (lv_at hl 4 rfl) ?_
                    refine r_iload_n (pc := 71) C d_M_find_71 rfl (lv_at hl 2 rfl) ?_
                    refine r_callVI (pc := 72) (As := [.int (iI i), .int (iI p)]) (rest := []) (wr := []) C w (c_M_endsAt hT q0 q1 q2 q3 q4 q5 q6 q7 q8 q9 nw pt rcd sl sv li_18 ot N pd m wr wm ss lz rm i p (by omega) (by omega) (fun y y1 y2 => by rw [hli_18 y y1 (by omega)]; exact hvr y y1 (by omega))) ml_M_129 im_M_endsAt se_M_endsAt ini_M cd_M_endsAt hd_M_endsAt rfl (by rw [hRm]; exact ⟨⟨Nat.le_of_ble_eq_true rfl, Nat.le_of_ble_eq_true rfl⟩, Nat.le_of_ble_eq_true rfl, Nat.le_of_ble_eq_true rfl⟩) hl.1 [0, 1, 2, 3, 4, 5, 6, 7, 8, 9] [] ⟨rfl, rfl, by decide, by decide, by decide⟩ 0 rfl rfl rfl (Nat.le_of_ble_eq_true rfl) d_M_find_72 (fun z_72 u_72 H locs hz_72 w => ?_)
                    obtain ⟨rfl, hz_72⟩ := hz_72
                    have w : Wd X (mw cI q0 q1 q2 q3 q4 q5 q6 q7 q8 q9 nw pt rcd sl sv li_18 ot N pd m wr wm ss lz rm) H locs := w
                    have hzb_72 : 0 ≤ z_72 ∧ z_72 ≤ 1 := by rcases hz_72 with ⟨a, -⟩ | ⟨a, -⟩ <;> omega
                    have hmc := mt_congr (v := li_18) (u := v) (p := p) (e := i) (by omega) (fun x h1 h2 => hli_18 x h1 (by omega))
                    refine r_if_eq (pc := 75) (tgt := 85) C (by omega) d_M_find_75 (by decide) (fun c_75 => ?_) (fun c_75 => ?_)
                    · skip
                      refine r_iinc (pc := 85) (j := 4) (lv' := [(4, .int (iI (i + 1))), (0, .ref q0), (1, .int (iI f)), (2, .int (iI p)), (3, .int (iI dg))]) C d_M_find_85 hl rfl (by decide) rfl (fun ls hl => ?_)
                      refine r_goto (pc := 88) (tgt := 49) C d_M_find_88 (by decide) ?_
                      exact ih49 (i + 1) (by omega) ((fun e e1 e2 => if q : e = i then (by first | (exfalso; omega) | (rcases hz_72 with ⟨a, -⟩ | ⟨-, a⟩; exact absurd a (by omega); rw [q]; exact fun hM => a (hmc.mpr hM))) else hno e e1 (by omega))) (by omega) _ _ _ w (lv_sub hl [1, 2, 3, 4, 0] rfl)
                    · skip
                      refine r_iload (pc := 78) C d_M_find_78 (lv_at hl 4 rfl) ?_
                      refine r_iload_n (pc := 80) C d_M_find_80 rfl (lv_at hl 3 rfl) ?_
                      refine r_isub (pc := 81) C d_M_find_81 ?_
                      refine r_iconst (pc := 82) C d_M_find_82 ?_
                      refine r_iadd (pc := 83) C d_M_find_83 ?_
                      exact kret _ _ _ _ ((i - dg) + 1) _ d_M_find_84 w (by obtain ⟨rfl, hS9⟩ := hS; exact ⟨by rcases hS9 with ⟨e, -⟩ | ⟨-, e⟩; omega; exact Fnd.uniq (Or.inr ⟨i, by omega, by omega, by rcases hz_72 with ⟨-, a⟩ | ⟨a, -⟩; exact hmc.mp a; omega, by omega, hno⟩) e, ⟨hR, q1, q2, q3, q4, q5, q6, q7, q8, q9, nw, pt, sl, sv, _, _, _, pd, _, _, ss, lz, rm, rfl, hM, hC⟩⟩)
            exact L49 ((max N (dl p) - (dg - 1)) + 1 : Int).toNat (dg - 1) (by first | omega | rfl) ((fun e e1 e2 => by omega)) (by omega) _ _ _ w (lv_sub hl [1, 2, 3, 4, 0] rfl)
          · skip
            have hst := dl_step (n := lf) (by omega)
            refine r_iinc (pc := 31) (j := 3) (lv' := [(3, .int (iI (dg + 1))), (0, .ref q0), (1, .int (iI f)), (2, .int (iI p)), (4, .int (iI lf))]) C d_M_find_31 hl rfl (by decide) rfl (fun ls hl => ?_)
            refine r_iload (pc := 34) C d_M_find_34 (lv_at hl 4 rfl) ?_
            refine r_bipush (pc := 36) C d_M_find_36 (by decide) ?_
            refine r_idiv (pc := 38) C d_M_find_38 (by omega) ?_
            refine r_istore (pc := 39) (lv' := [(4, .int (iI (lf / 10))), (3, .int (iI (dg + 1))), (0, .ref q0), (1, .int (iI f)), (2, .int (iI p))]) C d_M_find_39 hl (by decide) rfl (fun ls hl => ?_)
            refine r_goto (pc := 41) (tgt := 26) C d_M_find_41 (by decide) ?_
            exact ih26 (dg + 1) (lf / 10) (by omega) (by omega) (by omega) _ _ _ w (lv_sub hl [2, 3, 4, 1, 0] rfl)
      exact L26 (p + 1 : Int).toNat 0 p (by first | omega | rfl) (by first | omega | rfl) (by omega) _ _ _ w (lv_sub hl [2, 3, 4, 1, 0] rfl)
    · skip
      have hb_11 : ¬ (1 ≤ p ∧ p ≤ 999999999) := by omega
      clear hz_8 c_11
      refine r_bipush (pc := 14) C d_M_find_14 (by decide) ?_
      exact kret _ _ _ _ (-2) _ d_M_find_16 w (by obtain ⟨rfl, hS9⟩ := hS; exact ⟨by omega, ⟨hR, q1, q2, q3, q4, q5, q6, q7, q8, q9, nw, pt, sl, sv, _, _, _, pd, _, _, ss, lz, rm, rfl, hM, hC⟩⟩)
