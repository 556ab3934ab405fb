/-! the reference's text -/
theorem chr_0 (s n : Int) : chr_ s n 0 = if s = 10 then 120 else 48 + s := rfl
theorem chr_1 (s n : Int) : chr_ s n 1 = 42 := rfl
theorem chr_dig {s n t wd : Int} (h0 : 0 ≤ wd) (ht : (t = 1000 ∧ dl n - 1 - wd = 3) ∨ (t = 100 ∧ dl n - 1 - wd = 2) ∨ (t = 10 ∧ dl n - 1 - wd = 1) ∨ (t = 1 ∧ dl n - 1 - wd = 0)) : chr_ s n (2 + wd) = 48 + n / t % 10 := by
  unfold chr_
  rw [if_neg (by omega), if_neg (by omega)]
  rcases ht with ⟨rfl, h⟩ | ⟨rfl, h⟩ | ⟨rfl, h⟩ | ⟨rfl, h⟩
  · rw [show dl n + 1 - (2 + wd) = 3 by omega]; rfl
  · rw [show dl n + 1 - (2 + wd) = 2 by omega]; rfl
  · rw [show dl n + 1 - (2 + wd) = 1 by omega]; rfl
  · rw [show dl n + 1 - (2 + wd) = 0 by omega]; rfl

/-- where the digits stand: n's digits down from t, wd of them written -/
def DG (n t wd : Int) : Prop := (t = 1000 ∧ wd = 0) ∨ (t = 100 ∧ wd = max 0 (dl n - 3)) ∨ (t = 10 ∧ wd = max 0 (dl n - 2)) ∨ (t = 1 ∧ wd = max 0 (dl n - 1)) ∨ (t = 0 ∧ wd = dl n)
theorem DG.init (n : Int) : DG n 1000 0 := Or.inl ⟨rfl, rfl⟩
theorem DG.rg {n t wd : Int} (h : DG n t wd) (hn : 1 ≤ n ∧ n ≤ 3000) : 0 ≤ t ∧ t ≤ 1000 ∧ 0 ≤ wd ∧ wd ≤ 4 := by
  have := dl_cases (n := n) (by omega)
  rcases h with ⟨h1, h2⟩ | ⟨h1, h2⟩ | ⟨h1, h2⟩ | ⟨h1, h2⟩ | ⟨h1, h2⟩ <;> omega
theorem DG.write {n t wd : Int} (h : DG n t wd) (hn : 1 ≤ n ∧ n ≤ 3000) (ht : 0 < t) (hd : t ≤ n) : DG n (t / 10) (wd + 1) ∧ ((t = 1000 ∧ dl n - 1 - wd = 3) ∨ (t = 100 ∧ dl n - 1 - wd = 2) ∨ (t = 10 ∧ dl n - 1 - wd = 1) ∨ (t = 1 ∧ dl n - 1 - wd = 0)) := by
  have := dl_cases (n := n) (by omega)
  unfold DG
  rcases h with ⟨h1, h2⟩ | ⟨h1, h2⟩ | ⟨h1, h2⟩ | ⟨h1, h2⟩ | ⟨h1, h2⟩
  · subst h1; exact ⟨Or.inr (Or.inl ⟨rfl, by omega⟩), Or.inl ⟨rfl, by omega⟩⟩
  · subst h1; exact ⟨Or.inr (Or.inr (Or.inl ⟨rfl, by omega⟩)), Or.inr (Or.inl ⟨rfl, by omega⟩)⟩
  · subst h1; exact ⟨Or.inr (Or.inr (Or.inr (Or.inl ⟨rfl, by omega⟩))), Or.inr (Or.inr (Or.inl ⟨rfl, by omega⟩))⟩
  · subst h1; exact ⟨Or.inr (Or.inr (Or.inr (Or.inr ⟨rfl, by omega⟩))), Or.inr (Or.inr (Or.inr ⟨rfl, by omega⟩))⟩
  · omega
theorem DG.skip {n t wd : Int} (h : DG n t wd) (hn : 1 ≤ n ∧ n ≤ 3000) (ht : 0 < t) (hd : n < t) : DG n (t / 10) wd := by
  have := dl_cases (n := n) (by omega)
  unfold DG
  rcases h with ⟨h1, h2⟩ | ⟨h1, h2⟩ | ⟨h1, h2⟩ | ⟨h1, h2⟩ | ⟨h1, h2⟩
  · subst h1; exact Or.inr (Or.inl ⟨rfl, by omega⟩)
  · subst h1; exact Or.inr (Or.inr (Or.inl ⟨rfl, by omega⟩))
  · subst h1; exact Or.inr (Or.inr (Or.inr (Or.inl ⟨rfl, by omega⟩)))
  · omega
  · omega
theorem DG.done {n t wd : Int} (h : DG n t wd) (ht : t ≤ 0) : wd = dl n := by
  rcases h with ⟨h1, h2⟩ | ⟨h1, h2⟩ | ⟨h1, h2⟩ | ⟨h1, h2⟩ | ⟨h1, h2⟩ <;> omega

theorem d_M_writes_0 : decode b_M_writes 0 = .ok (.aload_n 0, 1) := by decide +kernel
theorem d_M_writes_1 : decode b_M_writes 1 = .ok (.getfield 28, 3) := by decide +kernel
theorem d_M_writes_4 : decode b_M_writes 4 = .ok (.aload_n 0, 1) := by decide +kernel
theorem d_M_writes_5 : decode b_M_writes 5 = .ok (.getfield 100, 3) := by decide +kernel
theorem d_M_writes_8 : decode b_M_writes 8 = .ok (.iload_n 1, 1) := by decide +kernel
theorem d_M_writes_9 : decode b_M_writes 9 = .ok (.iastore, 1) := by decide +kernel
theorem d_M_writes_10 : decode b_M_writes 10 = .ok (.aload_n 0, 1) := by decide +kernel
theorem d_M_writes_11 : decode b_M_writes 11 = .ok (.dup, 1) := by decide +kernel
theorem d_M_writes_12 : decode b_M_writes 12 = .ok (.getfield 100, 3) := by decide +kernel
theorem d_M_writes_15 : decode b_M_writes 15 = .ok (.iconst 1, 1) := by decide +kernel
theorem d_M_writes_16 : decode b_M_writes 16 = .ok (.iadd, 1) := by decide +kernel
theorem d_M_writes_17 : decode b_M_writes 17 = .ok (.putfield 100, 3) := by decide +kernel
theorem d_M_writes_20 : decode b_M_writes 20 = .ok (.return_, 1) := by decide +kernel
set_option maxHeartbeats 4000000 in
set_option maxRecDepth 20000 in
theorem c_M_writes {l : Launch} {G : va_G} {tys : List (ClassId × FieldType)} {cI cO cZ : ClassId} (hT : TY tys cI cO cZ) (q0 q1 q2 q3 q4 q5 q6 q7 q8 q9 : Nat) (nw pt : Int → Int) (np : Int) (sl : Int → Int) (sv : Int) (li ot : Int → Int) (len : Int) (pd : Int → Int) (ty : Int) (wr : Int → Int) (wm : Int) (ss lz : Int → Int) (rm : Int) (c : Int) (hw : 0 ≤ wm ∧ wm < 400) : CTV l G tys y_M_writes b_M_writes 2 0 0 [.ref q0, .int (iI c)] (mw cI q0 q1 q2 q3 q4 q5 q6 q7 q8 q9 nw pt np sl sv li ot len pd ty wr wm ss lz rm) (fun u => u = mw cI q0 q1 q2 q3 q4 q5 q6 q7 q8 q9 nw pt np sl sv li ot len pd ty (up wr wm c) (wm + 1) ss lz rm) := by
  refine mkV (by decide) (Nat.le_of_ble_eq_true rfl) ?_
  rintro X rfl rfl rfl hRm C kret H ls w hl
  have hl : lv_has ls 2 [(0, .ref q0), (1, .int (iI c))] := hl
  have w : Wd X (mw cI q0 q1 q2 q3 q4 q5 q6 q7 q8 q9 nw pt np sl sv li ot len pd ty wr wm ss lz rm) H [] := w
  generalize ([] : List Loc) = locs at w ⊢
  refine r_aload_n (pc := 0) C d_M_writes_0 rfl (lv_at hl 0 rfl) ?_
  refine r_get (pc := 1) (v := .ref q7) C w i_M rfl 0 rfl 10 (by decide) fl_M_28 rfl rfl d_M_writes_1 ?_
  refine r_aload_n (pc := 4) C d_M_writes_4 rfl (lv_at hl 0 rfl) ?_
  refine r_get (pc := 5) (v := .int (iI wm)) C w i_M rfl 0 rfl 11 (by decide) fl_M_100 rfl rfl d_M_writes_5 ?_
  refine r_iload_n (pc := 8) C d_M_writes_8 rfl (lv_at hl 1 rfl) ?_
  refine r_iast (pc := 9) (f := wr) (i := wm) (v := c) (ws' := mw cI q0 q1 q2 q3 q4 q5 q6 q7 q8 q9 nw pt np sl sv li ot len pd ty (up wr wm c) wm ss lz rm) C w 0 7 rfl hT.1 (by omega) rfl d_M_writes_9 (fun H locs w => ?_)
  refine r_aload_n (pc := 10) C d_M_writes_10 rfl (lv_at hl 0 rfl) ?_
  refine r_dup (pc := 11) C d_M_writes_11 rfl ?_
  refine r_get (pc := 12) (v := .int (iI wm)) C w i_M rfl 0 rfl 11 (by decide) fl_M_100 rfl rfl d_M_writes_12 ?_
  refine r_iconst (pc := 15) C d_M_writes_15 ?_
  refine r_iadd (pc := 16) C d_M_writes_16 ?_
  refine r_put (pc := 17) (ws' := mw cI q0 q1 q2 q3 q4 q5 q6 q7 q8 q9 nw pt np sl sv li ot len pd ty (up wr wm c) (wm + 1) ss lz rm) C w i_M t_M t_M_ok n_M rfl 0 rfl 11 (by decide) fl_M_100 rfl rfl rfl rfl (Nat.le_of_ble_eq_true rfl) rfl d_M_writes_17 (fun H locs w => ?_)
  exact kret _ _ _ _ _ d_M_writes_20 w (rfl)
theorem d_M_writesAll_0 : decode b_M_writesAll 0 = .ok (.aload_n 0, 1) := by decide +kernel
theorem d_M_writesAll_1 : decode b_M_writesAll 1 = .ok (.iconst 0, 1) := by decide +kernel
theorem d_M_writesAll_2 : decode b_M_writesAll 2 = .ok (.putfield 100, 3) := by decide +kernel
theorem d_M_writesAll_5 : decode b_M_writesAll 5 = .ok (.iconst 0, 1) := by decide +kernel
theorem d_M_writesAll_6 : decode b_M_writesAll 6 = .ok (.istore_n 1, 1) := by decide +kernel
theorem d_M_writesAll_7 : decode b_M_writesAll 7 = .ok (.iload_n 1, 1) := by decide +kernel
theorem d_M_writesAll_8 : decode b_M_writesAll 8 = .ok (.aload_n 0, 1) := by decide +kernel
theorem d_M_writesAll_9 : decode b_M_writesAll 9 = .ok (.getfield 7, 3) := by decide +kernel
theorem d_M_writesAll_12 : decode b_M_writesAll 12 = .ok (.iconst 2, 1) := by decide +kernel
theorem d_M_writesAll_13 : decode b_M_writesAll 13 = .ok (.iaload, 1) := by decide +kernel
theorem d_M_writesAll_14 : decode b_M_writesAll 14 = .ok (.if_icmp .ge 102, 3) := by decide +kernel
theorem d_M_writesAll_17 : decode b_M_writesAll 17 = .ok (.aload_n 0, 1) := by decide +kernel
theorem d_M_writesAll_18 : decode b_M_writesAll 18 = .ok (.iload_n 1, 1) := by decide +kernel
theorem d_M_writesAll_19 : decode b_M_writesAll 19 = .ok (.invokevirtual 45, 3) := by decide +kernel
theorem d_M_writesAll_22 : decode b_M_writesAll 22 = .ok (.istore_n 2, 1) := by decide +kernel
theorem d_M_writesAll_23 : decode b_M_writesAll 23 = .ok (.iload_n 1, 1) := by decide +kernel
theorem d_M_writesAll_24 : decode b_M_writesAll 24 = .ok (.ifCond .le 9, 3) := by decide +kernel
theorem d_M_writesAll_27 : decode b_M_writesAll 27 = .ok (.aload_n 0, 1) := by decide +kernel
theorem d_M_writesAll_28 : decode b_M_writesAll 28 = .ok (.bipush 59, 2) := by decide +kernel
theorem d_M_writesAll_30 : decode b_M_writesAll 30 = .ok (.invokevirtual 103, 3) := by decide +kernel
theorem d_M_writesAll_33 : decode b_M_writesAll 33 = .ok (.aload_n 0, 1) := by decide +kernel
theorem d_M_writesAll_34 : decode b_M_writesAll 34 = .ok (.aload_n 0, 1) := by decide +kernel
theorem d_M_writesAll_35 : decode b_M_writesAll 35 = .ok (.iload_n 1, 1) := by decide +kernel
theorem d_M_writesAll_36 : decode b_M_writesAll 36 = .ok (.invokevirtual 55, 3) := by decide +kernel
theorem d_M_writesAll_39 : decode b_M_writesAll 39 = .ok (.bipush 10, 2) := by decide +kernel
theorem d_M_writesAll_41 : decode b_M_writesAll 41 = .ok (.if_icmp .ne 8, 3) := by decide +kernel
theorem d_M_writesAll_44 : decode b_M_writesAll 44 = .ok (.bipush 120, 2) := by decide +kernel
theorem d_M_writesAll_46 : decode b_M_writesAll 46 = .ok (.goto 11, 3) := by decide +kernel
theorem d_M_writesAll_49 : decode b_M_writesAll 49 = .ok (.bipush 48, 2) := by decide +kernel
theorem d_M_writesAll_51 : decode b_M_writesAll 51 = .ok (.aload_n 0, 1) := by decide +kernel
theorem d_M_writesAll_52 : decode b_M_writesAll 52 = .ok (.iload_n 1, 1) := by decide +kernel
theorem d_M_writesAll_53 : decode b_M_writesAll 53 = .ok (.invokevirtual 55, 3) := by decide +kernel
theorem d_M_writesAll_56 : decode b_M_writesAll 56 = .ok (.iadd, 1) := by decide +kernel
theorem d_M_writesAll_57 : decode b_M_writesAll 57 = .ok (.invokevirtual 103, 3) := by decide +kernel
theorem d_M_writesAll_60 : decode b_M_writesAll 60 = .ok (.iload_n 2, 1) := by decide +kernel
theorem d_M_writesAll_61 : decode b_M_writesAll 61 = .ok (.iconst 1, 1) := by decide +kernel
theorem d_M_writesAll_62 : decode b_M_writesAll 62 = .ok (.if_icmp .le 9, 3) := by decide +kernel
theorem d_M_writesAll_65 : decode b_M_writesAll 65 = .ok (.aload_n 0, 1) := by decide +kernel
theorem d_M_writesAll_66 : decode b_M_writesAll 66 = .ok (.bipush 42, 2) := by decide +kernel
theorem d_M_writesAll_68 : decode b_M_writesAll 68 = .ok (.invokevirtual 103, 3) := by decide +kernel
theorem d_M_writesAll_71 : decode b_M_writesAll 71 = .ok (.sipush 1000, 3) := by decide +kernel
theorem d_M_writesAll_74 : decode b_M_writesAll 74 = .ok (.istore_n 3, 1) := by decide +kernel
theorem d_M_writesAll_75 : decode b_M_writesAll 75 = .ok (.iload_n 3, 1) := by decide +kernel
theorem d_M_writesAll_76 : decode b_M_writesAll 76 = .ok (.ifCond .le 34, 3) := by decide +kernel
theorem d_M_writesAll_79 : decode b_M_writesAll 79 = .ok (.iload_n 2, 1) := by decide +kernel
theorem d_M_writesAll_80 : decode b_M_writesAll 80 = .ok (.iconst 1, 1) := by decide +kernel
theorem d_M_writesAll_81 : decode b_M_writesAll 81 = .ok (.if_icmp .le 29, 3) := by decide +kernel
theorem d_M_writesAll_84 : decode b_M_writesAll 84 = .ok (.iload_n 2, 1) := by decide +kernel
theorem d_M_writesAll_85 : decode b_M_writesAll 85 = .ok (.iload_n 3, 1) := by decide +kernel
theorem d_M_writesAll_86 : decode b_M_writesAll 86 = .ok (.if_icmp .lt 16, 3) := by decide +kernel
theorem d_M_writesAll_89 : decode b_M_writesAll 89 = .ok (.aload_n 0, 1) := by decide +kernel
theorem d_M_writesAll_90 : decode b_M_writesAll 90 = .ok (.bipush 48, 2) := by decide +kernel
theorem d_M_writesAll_92 : decode b_M_writesAll 92 = .ok (.iload_n 2, 1) := by decide +kernel
theorem d_M_writesAll_93 : decode b_M_writesAll 93 = .ok (.iload_n 3, 1) := by decide +kernel
theorem d_M_writesAll_94 : decode b_M_writesAll 94 = .ok (.idiv, 1) := by decide +kernel
theorem d_M_writesAll_95 : decode b_M_writesAll 95 = .ok (.bipush 10, 2) := by decide +kernel
theorem d_M_writesAll_97 : decode b_M_writesAll 97 = .ok (.irem, 1) := by decide +kernel
theorem d_M_writesAll_98 : decode b_M_writesAll 98 = .ok (.iadd, 1) := by decide +kernel
theorem d_M_writesAll_99 : decode b_M_writesAll 99 = .ok (.invokevirtual 103, 3) := by decide +kernel
theorem d_M_writesAll_102 : decode b_M_writesAll 102 = .ok (.iload_n 3, 1) := by decide +kernel
theorem d_M_writesAll_103 : decode b_M_writesAll 103 = .ok (.bipush 10, 2) := by decide +kernel
theorem d_M_writesAll_105 : decode b_M_writesAll 105 = .ok (.idiv, 1) := by decide +kernel
theorem d_M_writesAll_106 : decode b_M_writesAll 106 = .ok (.istore_n 3, 1) := by decide +kernel
theorem d_M_writesAll_107 : decode b_M_writesAll 107 = .ok (.goto (-32), 3) := by decide +kernel
theorem d_M_writesAll_110 : decode b_M_writesAll 110 = .ok (.iinc 1 1, 3) := by decide +kernel
theorem d_M_writesAll_113 : decode b_M_writesAll 113 = .ok (.goto (-106), 3) := by decide +kernel
theorem d_M_writesAll_116 : decode b_M_writesAll 116 = .ok (.return_, 1) := by decide +kernel
set_option maxHeartbeats 4000000 in
set_option maxRecDepth 20000 in
theorem c_M_writesAll {l : Launch} {G : va_G} {tys : List (ClassId × FieldType)} {cI cO cZ : ClassId} (hT : TY tys cI cO cZ) (q0 q1 q2 q3 q4 q5 q6 q7 q8 q9 : Nat) (nw pt : Int → Int) (np : Int) (sl : Int → Int) (sv : Int) (li ot : Int → Int) (len : Int) (pd : Int → Int) (ty : Int) (wr : Int → Int) (wm : Int) (ss lz : Int → Int) (rm : Int) (lc sd r N : Int) (sg ln v : Int → Int) (hR : RwOk lc sd r sg ln N v) (hM : MR nw 0 lc sd r sg ln) : CTV l G tys y_M_writesAll b_M_writesAll 4 1 21 [.ref q0] (mw cI q0 q1 q2 q3 q4 q5 q6 q7 q8 q9 nw pt np sl sv li ot len pd ty wr wm ss lz rm) (fun u => ∃ (wr' : Int → Int) (wm' : Int), u = mw cI q0 q1 q2 q3 q4 q5 q6 q7 q8 q9 nw pt np sl sv li ot len pd ty wr' wm' ss lz rm ∧ Txt wr' r sg ln wm' ∧ 0 ≤ wm' ∧ wm' ≤ 400) := by
  refine mkV (by decide) (Nat.le_of_ble_eq_true rfl) ?_
  rintro X rfl rfl rfl hRm C kret H ls w hl
  have hl : lv_has ls 4 [(0, .ref q0)] := hl
  have w : Wd X (mw cI q0 q1 q2 q3 q4 q5 q6 q7 q8 q9 nw pt np sl sv li ot len pd ty wr wm ss lz rm) H [] := w
  generalize ([] : List Loc) = locs at w ⊢
  have hO := hR.1
  have hr5 := hR.2.1
  have hN3 := hR.2.2.1
  have hN0 := hO.n0
  have hr0 := hO.1
  have hlcd := hR.2.2.2
  have hps := ps_zero ln
  have hpr := hO.2.2.2.1
  obtain ⟨hm0, hm1, hm2, hm3⟩ := hM
  rw [show (0 : Int) + 2 = 2 from rfl] at hm2
  rw [show (0 : Int) + 1 = 1 from rfl] at hm1
  have hm4 : ∀ k, 0 ≤ k → k < r → nw (3 + 2 * k) = sg k ∧ nw (4 + 2 * k) = ln k := fun k h1 h2 => by have := hm3 k h1 h2; rw [show (0 : Int) + 3 = 3 from rfl, show (0 : Int) + 4 = 4 from rfl] at this; exact this
  refine r_aload_n (pc := 0) C d_M_writesAll_0 rfl (lv_at hl 0 rfl) ?_
  refine r_iconst (pc := 1) C d_M_writesAll_1 ?_
  refine r_put (pc := 2) (ws' := mw cI q0 q1 q2 q3 q4 q5 q6 q7 q8 q9 nw pt np sl sv li ot len pd ty wr 0 ss lz rm) C w i_M t_M t_M_ok n_M rfl 0 rfl 11 (by decide) fl_M_100 rfl rfl rfl rfl (Nat.le_of_ble_eq_true rfl) rfl d_M_writesAll_2 (fun H locs w => ?_)
  refine r_iconst (pc := 5) C d_M_writesAll_5 ?_
  refine r_istore_n (pc := 6) (lv' := [(1, .int (iI 0)), (0, .ref q0)]) C d_M_writesAll_6 rfl hl (by decide) rfl (fun ls hl => ?_)
  have L7 : ∀ (fuel : Nat), ∀ (k : Int) (w1 : Int → Int) (m1 : Int), 0 ≤ k ∧ k ≤ r → (k = 0 ∧ m1 = 0) ∨ (1 ≤ k ∧ m1 = ps (crf ln) k + k - 1) → (∀ j, 0 ≤ j → j < k → ∀ i, 0 ≤ i → i < crl (ln j) → w1 (ps (crf ln) j + j + i) = chr_ (sg j) (ln j) i) → (∀ j, 1 ≤ j → j < k → w1 (ps (crf ln) j + j - 1) = 59) → (r - k) < (fuel : Int) → ∀ (H : Heap) (locs : List Loc) (ls : Array Slot), Wd X (mw cI q0 q1 q2 q3 q4 q5 q6 q7 q8 q9 nw pt np sl sv li ot len pd ty w1 m1 ss lz rm) H locs → lv_has ls 4 [(0, .ref q0), (1, .int (iI k))] → GG X 0 0 H locs 7 ls [] := by
    intro fuel
    induction fuel with
    | zero =>
      intro k w1 m1 h0 hm hA hB hfuel
      exact absurd hfuel (by omega)
    | succ fuel ih7 =>
      intro k w1 m1 h0 hm hA hB hfuel H locs ls w hl
      refine r_iload_n (pc := 7) C d_M_writesAll_7 rfl (lv_at hl 1 rfl) ?_
      refine r_aload_n (pc := 8) C d_M_writesAll_8 rfl (lv_at hl 0 rfl) ?_
      refine r_get (pc := 9) (v := .ref q1) C w i_M rfl 0 rfl 0 (by decide) fl_M_7 rfl rfl d_M_writesAll_9 ?_
      refine r_iconst (pc := 12) C d_M_writesAll_12 ?_
      refine r_iald (pc := 13) (f := nw) (i := 2) C w 0 1 rfl hT.1 (by omega) d_M_writesAll_13 ?_
      refine r_icmp_ge (pc := 14) (tgt := 116) C (by omega) d_M_writesAll_14 (by decide) (fun c_14 => ?_) (fun c_14 => ?_)
      · skip
        exact kret _ _ _ _ _ d_M_writesAll_116 w (⟨_, _, rfl, ⟨by have e : k = r := (by omega); rw [e] at hm; have := ps_zero (crf ln); have e3 : r = 0 → ps (crf ln) r = 0 := (fun q => by rw [q, ps_zero]); omega, fun j j1 j2 i i1 i2 => hA j j1 (by omega) i i1 i2, fun j j1 j2 => hB j j1 (by omega)⟩, by have hcb := (ps_bound (f := crf ln) (lo := 0) (hi := 6) k (by omega) (fun j q1 q2 => by have := crf_pos hO hN3 q1 (by omega : j < r); omega)); omega, by have hcb := (ps_bound (f := crf ln) (lo := 0) (hi := 6) k (by omega) (fun j q1 q2 => by have := crf_pos hO hN3 q1 (by omega : j < r); omega)); omega⟩)
      · skip
        have hk2 := hO.run (k := k) (by omega) (by omega)
        have hk3 := hm4 k (by omega) (by omega)
        have hcb := (ps_bound (f := crf ln) (lo := 0) (hi := 6) k (by omega) (fun j q1 q2 => by have := crf_pos hO hN3 q1 (by omega : j < r); omega))
        have hcf := crf_pos hO hN3 (k := k) (by omega) (by omega)
        have hcr := crl_cases (ln k)
        have hp0 : k = 0 → ps (crf ln) k = 0 := fun q => by rw [q, ps_zero]
        refine r_aload_n (pc := 17) C d_M_writesAll_17 rfl (lv_at hl 0 rfl) ?_
        refine r_iload_n (pc := 18) C d_M_writesAll_18 rfl (lv_at hl 1 rfl) ?_
        refine r_callVI (pc := 19) (As := [.int (iI k)]) (rest := []) (wr := []) C w (c_M_lengthOf hT q0 q1 q2 q3 q4 q5 q6 q7 q8 q9 nw pt np sl sv li ot len pd ty w1 m1 ss lz rm k (by omega)) ml_M_45 im_M_lengthOf se_M_lengthOf ini_M cd_M_lengthOf hd_M_lengthOf rfl (by rw [hRm]; exact ⟨⟨Nat.le_of_ble_eq_true rfl, Nat.le_of_ble_eq_true rfl⟩, Nat.le_of_ble_eq_true rfl, Nat.le_of_ble_eq_true rfl⟩) hl.1 [0, 1, 2, 3, 4, 5, 6, 7, 8, 9] [] ⟨rfl, rfl, by decide, by decide, by decide⟩ 0 rfl rfl rfl (Nat.le_of_ble_eq_true rfl) d_M_writesAll_19 (fun z_19 u_19 H locs hz_19 w => ?_)
        obtain ⟨rfl, rfl⟩ := hz_19
        have w : Wd X (mw cI q0 q1 q2 q3 q4 q5 q6 q7 q8 q9 nw pt np sl sv li ot len pd ty w1 m1 ss lz rm) H locs := w
        refine r_istore_n (pc := 22) (lv' := [(2, .int (iI (nw (4 + 2 * k)))), (0, .ref q0), (1, .int (iI k))]) C d_M_writesAll_22 rfl hl (by decide) rfl (fun ls hl => ?_)
        refine r_iload_n (pc := 23) C d_M_writesAll_23 rfl (lv_at hl 2 rfl) ?_
        refine r_if_le (pc := 24) (tgt := 33) C (by omega) d_M_writesAll_24 (by decide) (fun c_24 => ?_) (fun c_24 => ?_)
        · skip
          refine r_aload_n (pc := 33) C d_M_writesAll_33 rfl (lv_at hl 1 rfl) ?_
          refine r_aload_n (pc := 34) C d_M_writesAll_34 rfl (lv_at hl 1 rfl) ?_
          refine r_iload_n (pc := 35) C d_M_writesAll_35 rfl (lv_at hl 2 rfl) ?_
          refine r_callVI (pc := 36) (As := [.int (iI k)]) (rest := [.ref q0]) (wr := []) C w (c_M_signOf hT q0 q1 q2 q3 q4 q5 q6 q7 q8 q9 nw pt np sl sv li ot len pd ty w1 m1 ss lz rm k (by omega)) ml_M_55 im_M_signOf se_M_signOf ini_M cd_M_signOf hd_M_signOf rfl (by rw [hRm]; exact ⟨⟨Nat.le_of_ble_eq_true rfl, Nat.le_of_ble_eq_true rfl⟩, Nat.le_of_ble_eq_true rfl, Nat.le_of_ble_eq_true rfl⟩) hl.1 [0, 1, 2, 3, 4, 5, 6, 7, 8, 9] [] ⟨rfl, rfl, by decide, by decide, by decide⟩ 0 rfl rfl rfl (Nat.le_of_ble_eq_true rfl) d_M_writesAll_36 (fun z_36 u_36 H locs hz_36 w => ?_)
          obtain ⟨rfl, rfl⟩ := hz_36
          have w : Wd X (mw cI q0 q1 q2 q3 q4 q5 q6 q7 q8 q9 nw pt np sl sv li ot len pd ty w1 m1 ss lz rm) H locs := w
          refine r_bipush (pc := 39) C d_M_writesAll_39 (by decide) ?_
          refine r_icmp_ne (pc := 41) (tgt := 49) C (by omega) d_M_writesAll_41 (by decide) (fun c_41 => ?_) (fun c_41 => ?_)
          · skip
            refine r_bipush (pc := 49) C d_M_writesAll_49 (by decide) ?_
            refine r_aload_n (pc := 51) C d_M_writesAll_51 rfl (lv_at hl 1 rfl) ?_
            refine r_iload_n (pc := 52) C d_M_writesAll_52 rfl (lv_at hl 2 rfl) ?_
            refine r_callVI (pc := 53) (As := [.int (iI k)]) (rest := [.int (iI 48), .ref q0]) (wr := []) C w (c_M_signOf hT q0 q1 q2 q3 q4 q5 q6 q7 q8 q9 nw pt np sl sv li ot len pd ty w1 m1 ss lz rm k (by omega)) ml_M_55 im_M_signOf se_M_signOf ini_M cd_M_signOf hd_M_signOf rfl (by rw [hRm]; exact ⟨⟨Nat.le_of_ble_eq_true rfl, Nat.le_of_ble_eq_true rfl⟩, Nat.le_of_ble_eq_true rfl, Nat.le_of_ble_eq_true rfl⟩) hl.1 [0, 1, 2, 3, 4, 5, 6, 7, 8, 9] [] ⟨rfl, rfl, by decide, by decide, by decide⟩ 0 rfl rfl rfl (Nat.le_of_ble_eq_true rfl) d_M_writesAll_53 (fun z_53 u_53 H locs hz_53 w => ?_)
            obtain ⟨rfl, rfl⟩ := hz_53
            have w : Wd X (mw cI q0 q1 q2 q3 q4 q5 q6 q7 q8 q9 nw pt np sl sv li ot len pd ty w1 m1 ss lz rm) H locs := w
            refine r_iadd (pc := 56) C d_M_writesAll_56 ?_
            refine r_callVV (pc := 57) (As := [.int (iI (48 + (nw (3 + 2 * k))))]) (rest := []) (wr := []) C w (c_M_writes hT q0 q1 q2 q3 q4 q5 q6 q7 q8 q9 nw pt np sl sv li ot len pd ty w1 m1 ss lz rm (48 + (nw (3 + 2 * k))) (by omega)) ml_M_103 im_M_writes se_M_writes ini_M cd_M_writes hd_M_writes rfl (by rw [hRm]; exact ⟨⟨Nat.le_of_ble_eq_true rfl, Nat.le_of_ble_eq_true rfl⟩, Nat.le_of_ble_eq_true rfl, Nat.le_of_ble_eq_true rfl⟩) hl.1 [0, 1, 2, 3, 4, 5, 6, 7, 8, 9] [] ⟨rfl, rfl, by decide, by decide, by decide⟩ 0 rfl rfl rfl (Nat.le_of_ble_eq_true rfl) d_M_writesAll_57 (fun u_57 H locs hz_57 w => ?_)
            subst hz_57
            have w : Wd X (mw cI q0 q1 q2 q3 q4 q5 q6 q7 q8 q9 nw pt np sl sv li ot len pd ty (up w1 m1 (48 + (nw (3 + 2 * k)))) (m1 + 1) ss lz rm) H locs := w
            refine r_iload_n (pc := 60) C d_M_writesAll_60 rfl (lv_at hl 0 rfl) ?_
            refine r_iconst (pc := 61) C d_M_writesAll_61 ?_
            refine r_icmp_le (pc := 62) (tgt := 71) C (by omega) d_M_writesAll_62 (by decide) (fun c_62 => ?_) (fun c_62 => ?_)
            · skip
              refine r_sipush (pc := 71) C d_M_writesAll_71 (by decide) ?_
              refine r_istore_n (pc := 74) (lv' := [(3, .int (iI 1000)), (2, .int (iI (nw (4 + 2 * k)))), (0, .ref q0), (1, .int (iI k))]) C d_M_writesAll_74 rfl hl (by decide) rfl (fun ls hl => ?_)
              have L75 : ∀ (fuel : Nat), ∀ (t : Int) (w2 : Int → Int) (m2 : Int) (wd : Int), DG (ln k) t wd → (ln k ≤ 1 ∧ m2 = (ps (crf ln) k + k) + 1 ∧ t = 1000) ∨ (1 < ln k ∧ m2 = (ps (crf ln) k + k) + 2 + wd) → (∀ i, 0 ≤ i → i < m2 - (ps (crf ln) k + k) → w2 ((ps (crf ln) k + k) + i) = chr_ (sg k) (ln k) i) → (∀ j, 0 ≤ j → j < k → ∀ i, 0 ≤ i → i < crl (ln j) → w2 (ps (crf ln) j + j + i) = chr_ (sg j) (ln j) i) → (∀ j, 1 ≤ j → j ≤ k → w2 (ps (crf ln) j + j - 1) = 59) → t < (fuel : Int) → ∀ (H : Heap) (locs : List Loc) (ls : Array Slot), Wd X (mw cI q0 q1 q2 q3 q4 q5 q6 q7 q8 q9 nw pt np sl sv li ot len pd ty w2 m2 ss lz rm) H locs → lv_has ls 4 [(0, .ref q0), (1, .int (iI k)), (2, .int (iI (nw (4 + 2 * k)))), (3, .int (iI t))] → GG X 0 0 H locs 75 ls [] := by
                intro fuel
                induction fuel with
                | zero =>
                  intro t w2 m2 wd ht hm2 hc hA2 hB2 hfuel
                  exact absurd hfuel (by have := DG.rg ht (by omega); omega)
                | succ fuel ih75 =>
                  intro t w2 m2 wd ht hm2 hc hA2 hB2 hfuel H locs ls w hl
                  have htr := DG.rg ht (by omega)
                  refine r_iload_n (pc := 75) C d_M_writesAll_75 rfl (lv_at hl 3 rfl) ?_
                  refine r_if_le (pc := 76) (tgt := 110) C (by omega) d_M_writesAll_76 (by decide) (fun c_76 => ?_) (fun c_76 => ?_)
                  · skip
                    have hwd := DG.done ht (by omega)
                    have hend : m2 - (ps (crf ln) k + k) = crl (ln k) := by omega
                    refine r_iinc (pc := 110) (j := 1) (lv' := [(1, .int (iI (k + 1))), (0, .ref q0), (2, .int (iI (nw (4 + 2 * k)))), (3, .int (iI t))]) C d_M_writesAll_110 hl rfl (by decide) rfl (fun ls hl => ?_)
                    refine r_goto (pc := 113) (tgt := 7) C d_M_writesAll_113 (by decide) ?_
                    exact ih7 (k + 1) w2 m2 (by omega) ((by omega)) ((fun j j1 j2 i i1 i2 => if e : j < k then hA2 j j1 e i i1 i2 else (by have e : j = k := (by omega); subst e; exact hc i i1 (by omega)))) ((fun j j1 j2 => hB2 j j1 (by omega))) (by omega) _ _ _ w (lv_sub hl [1, 0] rfl)
                  · skip
                    refine r_iload_n (pc := 79) C d_M_writesAll_79 rfl (lv_at hl 2 rfl) ?_
                    refine r_iconst (pc := 80) C d_M_writesAll_80 ?_
                    refine r_icmp_le (pc := 81) (tgt := 110) C (by omega) d_M_writesAll_81 (by decide) (fun c_81 => ?_) (fun c_81 => ?_)
                    · skip
                      have hend : m2 - (ps (crf ln) k + k) = crl (ln k) := by omega
                      refine r_iinc (pc := 110) (j := 1) (lv' := [(1, .int (iI (k + 1))), (0, .ref q0), (2, .int (iI (nw (4 + 2 * k)))), (3, .int (iI t))]) C d_M_writesAll_110 hl rfl (by decide) rfl (fun ls hl => ?_)
                      refine r_goto (pc := 113) (tgt := 7) C d_M_writesAll_113 (by decide) ?_
                      exact ih7 (k + 1) w2 m2 (by omega) ((by omega)) ((fun j j1 j2 i i1 i2 => if e : j < k then hA2 j j1 e i i1 i2 else (by have e : j = k := (by omega); subst e; exact hc i i1 (by omega)))) ((fun j j1 j2 => hB2 j j1 (by omega))) (by omega) _ _ _ w (lv_sub hl [1, 0] rfl)
                    · skip
                      refine r_iload_n (pc := 84) C d_M_writesAll_84 rfl (lv_at hl 2 rfl) ?_
                      refine r_iload_n (pc := 85) C d_M_writesAll_85 rfl (lv_at hl 3 rfl) ?_
                      refine r_icmp_lt (pc := 86) (tgt := 102) C (by omega) d_M_writesAll_86 (by decide) (fun c_86 => ?_) (fun c_86 => ?_)
                      · skip
                        refine r_iload_n (pc := 102) C d_M_writesAll_102 rfl (lv_at hl 3 rfl) ?_
                        refine r_bipush (pc := 103) C d_M_writesAll_103 (by decide) ?_
                        refine r_idiv (pc := 105) C d_M_writesAll_105 (by omega) ?_
                        refine r_istore_n (pc := 106) (lv' := [(3, .int (iI (t / 10))), (0, .ref q0), (1, .int (iI k)), (2, .int (iI (nw (4 + 2 * k))))]) C d_M_writesAll_106 rfl hl (by decide) rfl (fun ls hl => ?_)
                        refine r_goto (pc := 107) (tgt := 75) C d_M_writesAll_107 (by decide) ?_
                        exact ih75 (t / 10) w2 m2 wd ((by first | exact DG.skip ht (by omega) (by omega) (by omega) | exact (DG.write ht (by omega) (by omega) (by omega)).1)) (by omega) ((fun i i1 i2 => if e : i < m2 - (ps (crf ln) k + k) then (by first | exact hc i i1 e | (rw [up_ne _ _ (by omega)]; exact hc i i1 e)) else (by first | (exfalso; omega) | (rw [show i = 2 + wd by omega, chr_dig (by omega) htd, show (ps (crf ln) k + k) + (2 + wd) = m2 by omega, up_eq, hk3.2])))) ((fun j j1 j2 i i1 i2 => by first | exact hA2 j j1 j2 i i1 i2 | (have e1 := crf_mono hO hN3 (j := j + 1) (k := k) (by omega) (by omega) (by omega); have e2 := crf_pos hO hN3 (k := j) (by omega) (by omega); rw [up_ne _ _ (by omega)]; exact hA2 j j1 j2 i i1 i2))) ((fun j j1 j2 => by first | exact hB2 j j1 j2 | (have e1 := crf_mono hO hN3 (j := j) (k := k) (by omega) (by omega) (by omega); rw [up_ne _ _ (by omega)]; exact hB2 j j1 j2))) (by omega) _ _ _ w (lv_sub hl [1, 2, 3, 0] rfl)
                      · skip
                        have htd := (DG.write ht (by omega) (by omega) (by omega)).2
                        have hnt : 0 ≤ nw (4 + 2 * k) / t ∧ nw (4 + 2 * k) / t ≤ nw (4 + 2 * k) := ⟨Int.ediv_nonneg (by omega) (by omega), Int.ediv_le_self _ (by omega)⟩
                        refine r_aload_n (pc := 89) C d_M_writesAll_89 rfl (lv_at hl 0 rfl) ?_
                        refine r_bipush (pc := 90) C d_M_writesAll_90 (by decide) ?_
                        refine r_iload_n (pc := 92) C d_M_writesAll_92 rfl (lv_at hl 2 rfl) ?_
                        refine r_iload_n (pc := 93) C d_M_writesAll_93 rfl (lv_at hl 3 rfl) ?_
                        refine r_idiv (pc := 94) C d_M_writesAll_94 (by omega) ?_
                        refine r_bipush (pc := 95) C d_M_writesAll_95 (by decide) ?_
                        refine r_irem (pc := 97) C d_M_writesAll_97 (by omega) ?_
                        refine r_iadd (pc := 98) C d_M_writesAll_98 ?_
                        refine r_callVV (pc := 99) (As := [.int (iI (48 + (((nw (4 + 2 * k)) / t) % 10)))]) (rest := []) (wr := []) C w (c_M_writes hT q0 q1 q2 q3 q4 q5 q6 q7 q8 q9 nw pt np sl sv li ot len pd ty w2 m2 ss lz rm (48 + (((nw (4 + 2 * k)) / t) % 10)) (by omega)) ml_M_103 im_M_writes se_M_writes ini_M cd_M_writes hd_M_writes rfl (by rw [hRm]; exact ⟨⟨Nat.le_of_ble_eq_true rfl, Nat.le_of_ble_eq_true rfl⟩, Nat.le_of_ble_eq_true rfl, Nat.le_of_ble_eq_true rfl⟩) hl.1 [0, 1, 2, 3, 4, 5, 6, 7, 8, 9] [] ⟨rfl, rfl, by decide, by decide, by decide⟩ 0 rfl rfl rfl (Nat.le_of_ble_eq_true rfl) d_M_writesAll_99 (fun u_99 H locs hz_99 w => ?_)
                        subst hz_99
                        have w : Wd X (mw cI q0 q1 q2 q3 q4 q5 q6 q7 q8 q9 nw pt np sl sv li ot len pd ty (up w2 m2 (48 + (((nw (4 + 2 * k)) / t) % 10))) (m2 + 1) ss lz rm) H locs := w
                        refine r_iload_n (pc := 102) C d_M_writesAll_102 rfl (lv_at hl 3 rfl) ?_
                        refine r_bipush (pc := 103) C d_M_writesAll_103 (by decide) ?_
                        refine r_idiv (pc := 105) C d_M_writesAll_105 (by omega) ?_
                        refine r_istore_n (pc := 106) (lv' := [(3, .int (iI (t / 10))), (0, .ref q0), (1, .int (iI k)), (2, .int (iI (nw (4 + 2 * k))))]) C d_M_writesAll_106 rfl hl (by decide) rfl (fun ls hl => ?_)
                        refine r_goto (pc := 107) (tgt := 75) C d_M_writesAll_107 (by decide) ?_
                        exact ih75 (t / 10) (up w2 m2 (48 + (((nw (4 + 2 * k)) / t) % 10))) (m2 + 1) (wd + 1) ((by first | exact DG.skip ht (by omega) (by omega) (by omega) | exact (DG.write ht (by omega) (by omega) (by omega)).1)) (by omega) ((fun i i1 i2 => if e : i < m2 - (ps (crf ln) k + k) then (by first | exact hc i i1 e | (rw [up_ne _ _ (by omega)]; exact hc i i1 e)) else (by first | (exfalso; omega) | (rw [show i = 2 + wd by omega, chr_dig (by omega) htd, show (ps (crf ln) k + k) + (2 + wd) = m2 by omega, up_eq, hk3.2])))) ((fun j j1 j2 i i1 i2 => by first | exact hA2 j j1 j2 i i1 i2 | (have e1 := crf_mono hO hN3 (j := j + 1) (k := k) (by omega) (by omega) (by omega); have e2 := crf_pos hO hN3 (k := j) (by omega) (by omega); rw [up_ne _ _ (by omega)]; exact hA2 j j1 j2 i i1 i2))) ((fun j j1 j2 => by first | exact hB2 j j1 j2 | (have e1 := crf_mono hO hN3 (j := j) (k := k) (by omega) (by omega) (by omega); rw [up_ne _ _ (by omega)]; exact hB2 j j1 j2))) (by omega) _ _ _ w (lv_sub hl [1, 2, 3, 0] rfl)
              exact L75 (1000 + 1 : Int).toNat 1000 (up w1 m1 (48 + (nw (3 + 2 * k)))) (m1 + 1) 0 (DG.init _) (by first | omega | rfl) ((fun i i1 i2 => if e : i = 0 then (by rw [e, chr_0]; unfold up; (repeat' split) <;> first | omega | (exfalso; omega)) else (by rw [show i = 1 by omega, chr_1]; unfold up; (repeat' split) <;> first | omega | (exfalso; omega)))) ((fun j j1 j2 i i1 i2 => by have e1 := crf_mono hO hN3 (j := j + 1) (k := k) (by omega) (by omega) (by omega); have e2 := crf_pos hO hN3 (k := j) (by omega) (by omega); unfold up; (repeat' split) <;> first | (exfalso; omega) | exact hA j j1 j2 i i1 i2)) ((fun j j1 j2 => if e : j = k then (by rw [e]; unfold up; (repeat' split) <;> first | omega | (exfalso; omega)) else (by have e3 := crf_mono hO hN3 (j := j) (k := k) (by omega) (by omega) (by omega); unfold up; (repeat' split) <;> first | (exfalso; omega) | exact hB j j1 (by omega)))) (by omega) _ _ _ w (lv_sub hl [2, 3, 1, 0] rfl)
            · skip
              refine r_aload_n (pc := 65) C d_M_writesAll_65 rfl (lv_at hl 1 rfl) ?_
              refine r_bipush (pc := 66) C d_M_writesAll_66 (by decide) ?_
              refine r_callVV (pc := 68) (As := [.int (iI 42)]) (rest := []) (wr := []) C w (c_M_writes hT q0 q1 q2 q3 q4 q5 q6 q7 q8 q9 nw pt np sl sv li ot len pd ty (up w1 m1 (48 + (nw (3 + 2 * k)))) (m1 + 1) ss lz rm 42 (by omega)) ml_M_103 im_M_writes se_M_writes ini_M cd_M_writes hd_M_writes rfl (by rw [hRm]; exact ⟨⟨Nat.le_of_ble_eq_true rfl, Nat.le_of_ble_eq_true rfl⟩, Nat.le_of_ble_eq_true rfl, Nat.le_of_ble_eq_true rfl⟩) hl.1 [0, 1, 2, 3, 4, 5, 6, 7, 8, 9] [] ⟨rfl, rfl, by decide, by decide, by decide⟩ 0 rfl rfl rfl (Nat.le_of_ble_eq_true rfl) d_M_writesAll_68 (fun u_68 H locs hz_68 w => ?_)
              subst hz_68
              have w : Wd X (mw cI q0 q1 q2 q3 q4 q5 q6 q7 q8 q9 nw pt np sl sv li ot len pd ty (up (up w1 m1 (48 + (nw (3 + 2 * k)))) (m1 + 1) 42) ((m1 + 1) + 1) ss lz rm) H locs := w
              refine r_sipush (pc := 71) C d_M_writesAll_71 (by decide) ?_
              refine r_istore_n (pc := 74) (lv' := [(3, .int (iI 1000)), (2, .int (iI (nw (4 + 2 * k)))), (0, .ref q0), (1, .int (iI k))]) C d_M_writesAll_74 rfl hl (by decide) rfl (fun ls hl => ?_)
              have L75 : ∀ (fuel : Nat), ∀ (t : Int) (w2 : Int → Int) (m2 : Int) (wd : Int), DG (ln k) t wd → (ln k ≤ 1 ∧ m2 = (ps (crf ln) k + k) + 1 ∧ t = 1000) ∨ (1 < ln k ∧ m2 = (ps (crf ln) k + k) + 2 + wd) → (∀ i, 0 ≤ i → i < m2 - (ps (crf ln) k + k) → w2 ((ps (crf ln) k + k) + i) = chr_ (sg k) (ln k) i) → (∀ j, 0 ≤ j → j < k → ∀ i, 0 ≤ i → i < crl (ln j) → w2 (ps (crf ln) j + j + i) = chr_ (sg j) (ln j) i) → (∀ j, 1 ≤ j → j ≤ k → w2 (ps (crf ln) j + j - 1) = 59) → t < (fuel : Int) → ∀ (H : Heap) (locs : List Loc) (ls : Array Slot), Wd X (mw cI q0 q1 q2 q3 q4 q5 q6 q7 q8 q9 nw pt np sl sv li ot len pd ty w2 m2 ss lz rm) H locs → lv_has ls 4 [(0, .ref q0), (1, .int (iI k)), (2, .int (iI (nw (4 + 2 * k)))), (3, .int (iI t))] → GG X 0 0 H locs 75 ls [] := by
                intro fuel
                induction fuel with
                | zero =>
                  intro t w2 m2 wd ht hm2 hc hA2 hB2 hfuel
                  exact absurd hfuel (by have := DG.rg ht (by omega); omega)
                | succ fuel ih75 =>
                  intro t w2 m2 wd ht hm2 hc hA2 hB2 hfuel H locs ls w hl
                  have htr := DG.rg ht (by omega)
                  refine r_iload_n (pc := 75) C d_M_writesAll_75 rfl (lv_at hl 3 rfl) ?_
                  refine r_if_le (pc := 76) (tgt := 110) C (by omega) d_M_writesAll_76 (by decide) (fun c_76 => ?_) (fun c_76 => ?_)
                  · skip
                    have hwd := DG.done ht (by omega)
                    have hend : m2 - (ps (crf ln) k + k) = crl (ln k) := by omega
                    refine r_iinc (pc := 110) (j := 1) (lv' := [(1, .int (iI (k + 1))), (0, .ref q0), (2, .int (iI (nw (4 + 2 * k)))), (3, .int (iI t))]) C d_M_writesAll_110 hl rfl (by decide) rfl (fun ls hl => ?_)
                    refine r_goto (pc := 113) (tgt := 7) C d_M_writesAll_113 (by decide) ?_
                    exact ih7 (k + 1) w2 m2 (by omega) ((by omega)) ((fun j j1 j2 i i1 i2 => if e : j < k then hA2 j j1 e i i1 i2 else (by have e : j = k := (by omega); subst e; exact hc i i1 (by omega)))) ((fun j j1 j2 => hB2 j j1 (by omega))) (by omega) _ _ _ w (lv_sub hl [1, 0] rfl)
                  · skip
                    refine r_iload_n (pc := 79) C d_M_writesAll_79 rfl (lv_at hl 2 rfl) ?_
                    refine r_iconst (pc := 80) C d_M_writesAll_80 ?_
                    refine r_icmp_le (pc := 81) (tgt := 110) C (by omega) d_M_writesAll_81 (by decide) (fun c_81 => ?_) (fun c_81 => ?_)
                    · skip
                      have hend : m2 - (ps (crf ln) k + k) = crl (ln k) := by omega
                      refine r_iinc (pc := 110) (j := 1) (lv' := [(1, .int (iI (k + 1))), (0, .ref q0), (2, .int (iI (nw (4 + 2 * k)))), (3, .int (iI t))]) C d_M_writesAll_110 hl rfl (by decide) rfl (fun ls hl => ?_)
                      refine r_goto (pc := 113) (tgt := 7) C d_M_writesAll_113 (by decide) ?_
                      exact ih7 (k + 1) w2 m2 (by omega) ((by omega)) ((fun j j1 j2 i i1 i2 => if e : j < k then hA2 j j1 e i i1 i2 else (by have e : j = k := (by omega); subst e; exact hc i i1 (by omega)))) ((fun j j1 j2 => hB2 j j1 (by omega))) (by omega) _ _ _ w (lv_sub hl [1, 0] rfl)
                    · skip
                      refine r_iload_n (pc := 84) C d_M_writesAll_84 rfl (lv_at hl 2 rfl) ?_
                      refine r_iload_n (pc := 85) C d_M_writesAll_85 rfl (lv_at hl 3 rfl) ?_
                      refine r_icmp_lt (pc := 86) (tgt := 102) C (by omega) d_M_writesAll_86 (by decide) (fun c_86 => ?_) (fun c_86 => ?_)
                      · skip
                        refine r_iload_n (pc := 102) C d_M_writesAll_102 rfl (lv_at hl 3 rfl) ?_
                        refine r_bipush (pc := 103) C d_M_writesAll_103 (by decide) ?_
                        refine r_idiv (pc := 105) C d_M_writesAll_105 (by omega) ?_
                        refine r_istore_n (pc := 106) (lv' := [(3, .int (iI (t / 10))), (0, .ref q0), (1, .int (iI k)), (2, .int (iI (nw (4 + 2 * k))))]) C d_M_writesAll_106 rfl hl (by decide) rfl (fun ls hl => ?_)
                        refine r_goto (pc := 107) (tgt := 75) C d_M_writesAll_107 (by decide) ?_
                        exact ih75 (t / 10) w2 m2 wd ((by first | exact DG.skip ht (by omega) (by omega) (by omega) | exact (DG.write ht (by omega) (by omega) (by omega)).1)) (by omega) ((fun i i1 i2 => if e : i < m2 - (ps (crf ln) k + k) then (by first | exact hc i i1 e | (rw [up_ne _ _ (by omega)]; exact hc i i1 e)) else (by first | (exfalso; omega) | (rw [show i = 2 + wd by omega, chr_dig (by omega) htd, show (ps (crf ln) k + k) + (2 + wd) = m2 by omega, up_eq, hk3.2])))) ((fun j j1 j2 i i1 i2 => by first | exact hA2 j j1 j2 i i1 i2 | (have e1 := crf_mono hO hN3 (j := j + 1) (k := k) (by omega) (by omega) (by omega); have e2 := crf_pos hO hN3 (k := j) (by omega) (by omega); rw [up_ne _ _ (by omega)]; exact hA2 j j1 j2 i i1 i2))) ((fun j j1 j2 => by first | exact hB2 j j1 j2 | (have e1 := crf_mono hO hN3 (j := j) (k := k) (by omega) (by omega) (by omega); rw [up_ne _ _ (by omega)]; exact hB2 j j1 j2))) (by omega) _ _ _ w (lv_sub hl [1, 2, 3, 0] rfl)
                      · skip
                        have htd := (DG.write ht (by omega) (by omega) (by omega)).2
                        have hnt : 0 ≤ nw (4 + 2 * k) / t ∧ nw (4 + 2 * k) / t ≤ nw (4 + 2 * k) := ⟨Int.ediv_nonneg (by omega) (by omega), Int.ediv_le_self _ (by omega)⟩
                        refine r_aload_n (pc := 89) C d_M_writesAll_89 rfl (lv_at hl 0 rfl) ?_
                        refine r_bipush (pc := 90) C d_M_writesAll_90 (by decide) ?_
                        refine r_iload_n (pc := 92) C d_M_writesAll_92 rfl (lv_at hl 2 rfl) ?_
                        refine r_iload_n (pc := 93) C d_M_writesAll_93 rfl (lv_at hl 3 rfl) ?_
                        refine r_idiv (pc := 94) C d_M_writesAll_94 (by omega) ?_
                        refine r_bipush (pc := 95) C d_M_writesAll_95 (by decide) ?_
                        refine r_irem (pc := 97) C d_M_writesAll_97 (by omega) ?_
                        refine r_iadd (pc := 98) C d_M_writesAll_98 ?_
                        refine r_callVV (pc := 99) (As := [.int (iI (48 + (((nw (4 + 2 * k)) / t) % 10)))]) (rest := []) (wr := []) C w (c_M_writes hT q0 q1 q2 q3 q4 q5 q6 q7 q8 q9 nw pt np sl sv li ot len pd ty w2 m2 ss lz rm (48 + (((nw (4 + 2 * k)) / t) % 10)) (by omega)) ml_M_103 im_M_writes se_M_writes ini_M cd_M_writes hd_M_writes rfl (by rw [hRm]; exact ⟨⟨Nat.le_of_ble_eq_true rfl, Nat.le_of_ble_eq_true rfl⟩, Nat.le_of_ble_eq_true rfl, Nat.le_of_ble_eq_true rfl⟩) hl.1 [0, 1, 2, 3, 4, 5, 6, 7, 8, 9] [] ⟨rfl, rfl, by decide, by decide, by decide⟩ 0 rfl rfl rfl (Nat.le_of_ble_eq_true rfl) d_M_writesAll_99 (fun u_99 H locs hz_99 w => ?_)
                        subst hz_99
                        have w : Wd X (mw cI q0 q1 q2 q3 q4 q5 q6 q7 q8 q9 nw pt np sl sv li ot len pd ty (up w2 m2 (48 + (((nw (4 + 2 * k)) / t) % 10))) (m2 + 1) ss lz rm) H locs := w
                        refine r_iload_n (pc := 102) C d_M_writesAll_102 rfl (lv_at hl 3 rfl) ?_
                        refine r_bipush (pc := 103) C d_M_writesAll_103 (by decide) ?_
                        refine r_idiv (pc := 105) C d_M_writesAll_105 (by omega) ?_
                        refine r_istore_n (pc := 106) (lv' := [(3, .int (iI (t / 10))), (0, .ref q0), (1, .int (iI k)), (2, .int (iI (nw (4 + 2 * k))))]) C d_M_writesAll_106 rfl hl (by decide) rfl (fun ls hl => ?_)
                        refine r_goto (pc := 107) (tgt := 75) C d_M_writesAll_107 (by decide) ?_
                        exact ih75 (t / 10) (up w2 m2 (48 + (((nw (4 + 2 * k)) / t) % 10))) (m2 + 1) (wd + 1) ((by first | exact DG.skip ht (by omega) (by omega) (by omega) | exact (DG.write ht (by omega) (by omega) (by omega)).1)) (by omega) ((fun i i1 i2 => if e : i < m2 - (ps (crf ln) k + k) then (by first | exact hc i i1 e | (rw [up_ne _ _ (by omega)]; exact hc i i1 e)) else (by first | (exfalso; omega) | (rw [show i = 2 + wd by omega, chr_dig (by omega) htd, show (ps (crf ln) k + k) + (2 + wd) = m2 by omega, up_eq, hk3.2])))) ((fun j j1 j2 i i1 i2 => by first | exact hA2 j j1 j2 i i1 i2 | (have e1 := crf_mono hO hN3 (j := j + 1) (k := k) (by omega) (by omega) (by omega); have e2 := crf_pos hO hN3 (k := j) (by omega) (by omega); rw [up_ne _ _ (by omega)]; exact hA2 j j1 j2 i i1 i2))) ((fun j j1 j2 => by first | exact hB2 j j1 j2 | (have e1 := crf_mono hO hN3 (j := j) (k := k) (by omega) (by omega) (by omega); rw [up_ne _ _ (by omega)]; exact hB2 j j1 j2))) (by omega) _ _ _ w (lv_sub hl [1, 2, 3, 0] rfl)
              exact L75 (1000 + 1 : Int).toNat 1000 (up (up w1 m1 (48 + (nw (3 + 2 * k)))) (m1 + 1) 42) ((m1 + 1) + 1) 0 (DG.init _) (by first | omega | rfl) ((fun i i1 i2 => if e : i = 0 then (by rw [e, chr_0]; unfold up; (repeat' split) <;> first | omega | (exfalso; omega)) else (by rw [show i = 1 by omega, chr_1]; unfold up; (repeat' split) <;> first | omega | (exfalso; omega)))) ((fun j j1 j2 i i1 i2 => by have e1 := crf_mono hO hN3 (j := j + 1) (k := k) (by omega) (by omega) (by omega); have e2 := crf_pos hO hN3 (k := j) (by omega) (by omega); unfold up; (repeat' split) <;> first | (exfalso; omega) | exact hA j j1 j2 i i1 i2)) ((fun j j1 j2 => if e : j = k then (by rw [e]; unfold up; (repeat' split) <;> first | omega | (exfalso; omega)) else (by have e3 := crf_mono hO hN3 (j := j) (k := k) (by omega) (by omega) (by omega); unfold up; (repeat' split) <;> first | (exfalso; omega) | exact hB j j1 (by omega)))) (by omega) _ _ _ w (lv_sub hl [2, 3, 1, 0] rfl)
          · skip
            refine r_bipush (pc := 44) C d_M_writesAll_44 (by decide) ?_
            refine r_goto (pc := 46) (tgt := 57) C d_M_writesAll_46 (by decide) ?_
            refine r_callVV (pc := 57) (As := [.int (iI 120)]) (rest := []) (wr := []) C w (c_M_writes hT q0 q1 q2 q3 q4 q5 q6 q7 q8 q9 nw pt np sl sv li ot len pd ty w1 m1 ss lz rm 120 (by omega)) ml_M_103 im_M_writes se_M_writes ini_M cd_M_writes hd_M_writes rfl (by rw [hRm]; exact ⟨⟨Nat.le_of_ble_eq_true rfl, Nat.le_of_ble_eq_true rfl⟩, Nat.le_of_ble_eq_true rfl, Nat.le_of_ble_eq_true rfl⟩) hl.1 [0, 1, 2, 3, 4, 5, 6, 7, 8, 9] [] ⟨rfl, rfl, by decide, by decide, by decide⟩ 0 rfl rfl rfl (Nat.le_of_ble_eq_true rfl) d_M_writesAll_57 (fun u_57 H locs hz_57 w => ?_)
            subst hz_57
            have w : Wd X (mw cI q0 q1 q2 q3 q4 q5 q6 q7 q8 q9 nw pt np sl sv li ot len pd ty (up w1 m1 120) (m1 + 1) ss lz rm) H locs := w
            refine r_iload_n (pc := 60) C d_M_writesAll_60 rfl (lv_at hl 0 rfl) ?_
            refine r_iconst (pc := 61) C d_M_writesAll_61 ?_
            refine r_icmp_le (pc := 62) (tgt := 71) C (by omega) d_M_writesAll_62 (by decide) (fun c_62 => ?_) (fun c_62 => ?_)
            · skip
              refine r_sipush (pc := 71) C d_M_writesAll_71 (by decide) ?_
              refine r_istore_n (pc := 74) (lv' := [(3, .int (iI 1000)), (2, .int (iI (nw (4 + 2 * k)))), (0, .ref q0), (1, .int (iI k))]) C d_M_writesAll_74 rfl hl (by decide) rfl (fun ls hl => ?_)
              have L75 : ∀ (fuel : Nat), ∀ (t : Int) (w2 : Int → Int) (m2 : Int) (wd : Int), DG (ln k) t wd → (ln k ≤ 1 ∧ m2 = (ps (crf ln) k + k) + 1 ∧ t = 1000) ∨ (1 < ln k ∧ m2 = (ps (crf ln) k + k) + 2 + wd) → (∀ i, 0 ≤ i → i < m2 - (ps (crf ln) k + k) → w2 ((ps (crf ln) k + k) + i) = chr_ (sg k) (ln k) i) → (∀ j, 0 ≤ j → j < k → ∀ i, 0 ≤ i → i < crl (ln j) → w2 (ps (crf ln) j + j + i) = chr_ (sg j) (ln j) i) → (∀ j, 1 ≤ j → j ≤ k → w2 (ps (crf ln) j + j - 1) = 59) → t < (fuel : Int) → ∀ (H : Heap) (locs : List Loc) (ls : Array Slot), Wd X (mw cI q0 q1 q2 q3 q4 q5 q6 q7 q8 q9 nw pt np sl sv li ot len pd ty w2 m2 ss lz rm) H locs → lv_has ls 4 [(0, .ref q0), (1, .int (iI k)), (2, .int (iI (nw (4 + 2 * k)))), (3, .int (iI t))] → GG X 0 0 H locs 75 ls [] := by
                intro fuel
                induction fuel with
                | zero =>
                  intro t w2 m2 wd ht hm2 hc hA2 hB2 hfuel
                  exact absurd hfuel (by have := DG.rg ht (by omega); omega)
                | succ fuel ih75 =>
                  intro t w2 m2 wd ht hm2 hc hA2 hB2 hfuel H locs ls w hl
                  have htr := DG.rg ht (by omega)
                  refine r_iload_n (pc := 75) C d_M_writesAll_75 rfl (lv_at hl 3 rfl) ?_
                  refine r_if_le (pc := 76) (tgt := 110) C (by omega) d_M_writesAll_76 (by decide) (fun c_76 => ?_) (fun c_76 => ?_)
                  · skip
                    have hwd := DG.done ht (by omega)
                    have hend : m2 - (ps (crf ln) k + k) = crl (ln k) := by omega
                    refine r_iinc (pc := 110) (j := 1) (lv' := [(1, .int (iI (k + 1))), (0, .ref q0), (2, .int (iI (nw (4 + 2 * k)))), (3, .int (iI t))]) C d_M_writesAll_110 hl rfl (by decide) rfl (fun ls hl => ?_)
                    refine r_goto (pc := 113) (tgt := 7) C d_M_writesAll_113 (by decide) ?_
                    exact ih7 (k + 1) w2 m2 (by omega) ((by omega)) ((fun j j1 j2 i i1 i2 => if e : j < k then hA2 j j1 e i i1 i2 else (by have e : j = k := (by omega); subst e; exact hc i i1 (by omega)))) ((fun j j1 j2 => hB2 j j1 (by omega))) (by omega) _ _ _ w (lv_sub hl [1, 0] rfl)
                  · skip
                    refine r_iload_n (pc := 79) C d_M_writesAll_79 rfl (lv_at hl 2 rfl) ?_
                    refine r_iconst (pc := 80) C d_M_writesAll_80 ?_
                    refine r_icmp_le (pc := 81) (tgt := 110) C (by omega) d_M_writesAll_81 (by decide) (fun c_81 => ?_) (fun c_81 => ?_)
                    · skip
                      have hend : m2 - (ps (crf ln) k + k) = crl (ln k) := by omega
                      refine r_iinc (pc := 110) (j := 1) (lv' := [(1, .int (iI (k + 1))), (0, .ref q0), (2, .int (iI (nw (4 + 2 * k)))), (3, .int (iI t))]) C d_M_writesAll_110 hl rfl (by decide) rfl (fun ls hl => ?_)
                      refine r_goto (pc := 113) (tgt := 7) C d_M_writesAll_113 (by decide) ?_
                      exact ih7 (k + 1) w2 m2 (by omega) ((by omega)) ((fun j j1 j2 i i1 i2 => if e : j < k then hA2 j j1 e i i1 i2 else (by have e : j = k := (by omega); subst e; exact hc i i1 (by omega)))) ((fun j j1 j2 => hB2 j j1 (by omega))) (by omega) _ _ _ w (lv_sub hl [1, 0] rfl)
                    · skip
                      refine r_iload_n (pc := 84) C d_M_writesAll_84 rfl (lv_at hl 2 rfl) ?_
                      refine r_iload_n (pc := 85) C d_M_writesAll_85 rfl (lv_at hl 3 rfl) ?_
                      refine r_icmp_lt (pc := 86) (tgt := 102) C (by omega) d_M_writesAll_86 (by decide) (fun c_86 => ?_) (fun c_86 => ?_)
                      · skip
                        refine r_iload_n (pc := 102) C d_M_writesAll_102 rfl (lv_at hl 3 rfl) ?_
                        refine r_bipush (pc := 103) C d_M_writesAll_103 (by decide) ?_
                        refine r_idiv (pc := 105) C d_M_writesAll_105 (by omega) ?_
                        refine r_istore_n (pc := 106) (lv' := [(3, .int (iI (t / 10))), (0, .ref q0), (1, .int (iI k)), (2, .int (iI (nw (4 + 2 * k))))]) C d_M_writesAll_106 rfl hl (by decide) rfl (fun ls hl => ?_)
                        refine r_goto (pc := 107) (tgt := 75) C d_M_writesAll_107 (by decide) ?_
                        exact ih75 (t / 10) w2 m2 wd ((by first | exact DG.skip ht (by omega) (by omega) (by omega) | exact (DG.write ht (by omega) (by omega) (by omega)).1)) (by omega) ((fun i i1 i2 => if e : i < m2 - (ps (crf ln) k + k) then (by first | exact hc i i1 e | (rw [up_ne _ _ (by omega)]; exact hc i i1 e)) else (by first | (exfalso; omega) | (rw [show i = 2 + wd by omega, chr_dig (by omega) htd, show (ps (crf ln) k + k) + (2 + wd) = m2 by omega, up_eq, hk3.2])))) ((fun j j1 j2 i i1 i2 => by first | exact hA2 j j1 j2 i i1 i2 | (have e1 := crf_mono hO hN3 (j := j + 1) (k := k) (by omega) (by omega) (by omega); have e2 := crf_pos hO hN3 (k := j) (by omega) (by omega); rw [up_ne _ _ (by omega)]; exact hA2 j j1 j2 i i1 i2))) ((fun j j1 j2 => by first | exact hB2 j j1 j2 | (have e1 := crf_mono hO hN3 (j := j) (k := k) (by omega) (by omega) (by omega); rw [up_ne _ _ (by omega)]; exact hB2 j j1 j2))) (by omega) _ _ _ w (lv_sub hl [1, 2, 3, 0] rfl)
                      · skip
                        have htd := (DG.write ht (by omega) (by omega) (by omega)).2
                        have hnt : 0 ≤ nw (4 + 2 * k) / t ∧ nw (4 + 2 * k) / t ≤ nw (4 + 2 * k) := ⟨Int.ediv_nonneg (by omega) (by omega), Int.ediv_le_self _ (by omega)⟩
                        refine r_aload_n (pc := 89) C d_M_writesAll_89 rfl (lv_at hl 0 rfl) ?_
                        refine r_bipush (pc := 90) C d_M_writesAll_90 (by decide) ?_
                        refine r_iload_n (pc := 92) C d_M_writesAll_92 rfl (lv_at hl 2 rfl) ?_
                        refine r_iload_n (pc := 93) C d_M_writesAll_93 rfl (lv_at hl 3 rfl) ?_
                        refine r_idiv (pc := 94) C d_M_writesAll_94 (by omega) ?_
                        refine r_bipush (pc := 95) C d_M_writesAll_95 (by decide) ?_
                        refine r_irem (pc := 97) C d_M_writesAll_97 (by omega) ?_
                        refine r_iadd (pc := 98) C d_M_writesAll_98 ?_
                        refine r_callVV (pc := 99) (As := [.int (iI (48 + (((nw (4 + 2 * k)) / t) % 10)))]) (rest := []) (wr := []) C w (c_M_writes hT q0 q1 q2 q3 q4 q5 q6 q7 q8 q9 nw pt np sl sv li ot len pd ty w2 m2 ss lz rm (48 + (((nw (4 + 2 * k)) / t) % 10)) (by omega)) ml_M_103 im_M_writes se_M_writes ini_M cd_M_writes hd_M_writes rfl (by rw [hRm]; exact ⟨⟨Nat.le_of_ble_eq_true rfl, Nat.le_of_ble_eq_true rfl⟩, Nat.le_of_ble_eq_true rfl, Nat.le_of_ble_eq_true rfl⟩) hl.1 [0, 1, 2, 3, 4, 5, 6, 7, 8, 9] [] ⟨rfl, rfl, by decide, by decide, by decide⟩ 0 rfl rfl rfl (Nat.le_of_ble_eq_true rfl) d_M_writesAll_99 (fun u_99 H locs hz_99 w => ?_)
                        subst hz_99
                        have w : Wd X (mw cI q0 q1 q2 q3 q4 q5 q6 q7 q8 q9 nw pt np sl sv li ot len pd ty (up w2 m2 (48 + (((nw (4 + 2 * k)) / t) % 10))) (m2 + 1) ss lz rm) H locs := w
                        refine r_iload_n (pc := 102) C d_M_writesAll_102 rfl (lv_at hl 3 rfl) ?_
                        refine r_bipush (pc := 103) C d_M_writesAll_103 (by decide) ?_
                        refine r_idiv (pc := 105) C d_M_writesAll_105 (by omega) ?_
                        refine r_istore_n (pc := 106) (lv' := [(3, .int (iI (t / 10))), (0, .ref q0), (1, .int (iI k)), (2, .int (iI (nw (4 + 2 * k))))]) C d_M_writesAll_106 rfl hl (by decide) rfl (fun ls hl => ?_)
                        refine r_goto (pc := 107) (tgt := 75) C d_M_writesAll_107 (by decide) ?_
                        exact ih75 (t / 10) (up w2 m2 (48 + (((nw (4 + 2 * k)) / t) % 10))) (m2 + 1) (wd + 1) ((by first | exact DG.skip ht (by omega) (by omega) (by omega) | exact (DG.write ht (by omega) (by omega) (by omega)).1)) (by omega) ((fun i i1 i2 => if e : i < m2 - (ps (crf ln) k + k) then (by first | exact hc i i1 e | (rw [up_ne _ _ (by omega)]; exact hc i i1 e)) else (by first | (exfalso; omega) | (rw [show i = 2 + wd by omega, chr_dig (by omega) htd, show (ps (crf ln) k + k) + (2 + wd) = m2 by omega, up_eq, hk3.2])))) ((fun j j1 j2 i i1 i2 => by first | exact hA2 j j1 j2 i i1 i2 | (have e1 := crf_mono hO hN3 (j := j + 1) (k := k) (by omega) (by omega) (by omega); have e2 := crf_pos hO hN3 (k := j) (by omega) (by omega); rw [up_ne _ _ (by omega)]; exact hA2 j j1 j2 i i1 i2))) ((fun j j1 j2 => by first | exact hB2 j j1 j2 | (have e1 := crf_mono hO hN3 (j := j) (k := k) (by omega) (by omega) (by omega); rw [up_ne _ _ (by omega)]; exact hB2 j j1 j2))) (by omega) _ _ _ w (lv_sub hl [1, 2, 3, 0] rfl)
              exact L75 (1000 + 1 : Int).toNat 1000 (up w1 m1 120) (m1 + 1) 0 (DG.init _) (by first | omega | rfl) ((fun i i1 i2 => if e : i = 0 then (by rw [e, chr_0]; unfold up; (repeat' split) <;> first | omega | (exfalso; omega)) else (by rw [show i = 1 by omega, chr_1]; unfold up; (repeat' split) <;> first | omega | (exfalso; omega)))) ((fun j j1 j2 i i1 i2 => by have e1 := crf_mono hO hN3 (j := j + 1) (k := k) (by omega) (by omega) (by omega); have e2 := crf_pos hO hN3 (k := j) (by omega) (by omega); unfold up; (repeat' split) <;> first | (exfalso; omega) | exact hA j j1 j2 i i1 i2)) ((fun j j1 j2 => if e : j = k then (by rw [e]; unfold up; (repeat' split) <;> first | omega | (exfalso; omega)) else (by have e3 := crf_mono hO hN3 (j := j) (k := k) (by omega) (by omega) (by omega); unfold up; (repeat' split) <;> first | (exfalso; omega) | exact hB j j1 (by omega)))) (by omega) _ _ _ w (lv_sub hl [2, 3, 1, 0] rfl)
            · skip
              refine r_aload_n (pc := 65) C d_M_writesAll_65 rfl (lv_at hl 1 rfl) ?_
              refine r_bipush (pc := 66) C d_M_writesAll_66 (by decide) ?_
              refine r_callVV (pc := 68) (As := [.int (iI 42)]) (rest := []) (wr := []) C w (c_M_writes hT q0 q1 q2 q3 q4 q5 q6 q7 q8 q9 nw pt np sl sv li ot len pd ty (up w1 m1 120) (m1 + 1) ss lz rm 42 (by omega)) ml_M_103 im_M_writes se_M_writes ini_M cd_M_writes hd_M_writes rfl (by rw [hRm]; exact ⟨⟨Nat.le_of_ble_eq_true rfl, Nat.le_of_ble_eq_true rfl⟩, Nat.le_of_ble_eq_true rfl, Nat.le_of_ble_eq_true rfl⟩) hl.1 [0, 1, 2, 3, 4, 5, 6, 7, 8, 9] [] ⟨rfl, rfl, by decide, by decide, by decide⟩ 0 rfl rfl rfl (Nat.le_of_ble_eq_true rfl) d_M_writesAll_68 (fun u_68 H locs hz_68 w => ?_)
              subst hz_68
              have w : Wd X (mw cI q0 q1 q2 q3 q4 q5 q6 q7 q8 q9 nw pt np sl sv li ot len pd ty (up (up w1 m1 120) (m1 + 1) 42) ((m1 + 1) + 1) ss lz rm) H locs := w
              refine r_sipush (pc := 71) C d_M_writesAll_71 (by decide) ?_
              refine r_istore_n (pc := 74) (lv' := [(3, .int (iI 1000)), (2, .int (iI (nw (4 + 2 * k)))), (0, .ref q0), (1, .int (iI k))]) C d_M_writesAll_74 rfl hl (by decide) rfl (fun ls hl => ?_)
              have L75 : ∀ (fuel : Nat), ∀ (t : Int) (w2 : Int → Int) (m2 : Int) (wd : Int), DG (ln k) t wd → (ln k ≤ 1 ∧ m2 = (ps (crf ln) k + k) + 1 ∧ t = 1000) ∨ (1 < ln k ∧ m2 = (ps (crf ln) k + k) + 2 + wd) → (∀ i, 0 ≤ i → i < m2 - (ps (crf ln) k + k) → w2 ((ps (crf ln) k + k) + i) = chr_ (sg k) (ln k) i) → (∀ j, 0 ≤ j → j < k → ∀ i, 0 ≤ i → i < crl (ln j) → w2 (ps (crf ln) j + j + i) = chr_ (sg j) (ln j) i) → (∀ j, 1 ≤ j → j ≤ k → w2 (ps (crf ln) j + j - 1) = 59) → t < (fuel : Int) → ∀ (H : Heap) (locs : List Loc) (ls : Array Slot), Wd X (mw cI q0 q1 q2 q3 q4 q5 q6 q7 q8 q9 nw pt np sl sv li ot len pd ty w2 m2 ss lz rm) H locs → lv_has ls 4 [(0, .ref q0), (1, .int (iI k)), (2, .int (iI (nw (4 + 2 * k)))), (3, .int (iI t))] → GG X 0 0 H locs 75 ls [] := by
                intro fuel
                induction fuel with
                | zero =>
                  intro t w2 m2 wd ht hm2 hc hA2 hB2 hfuel
                  exact absurd hfuel (by have := DG.rg ht (by omega); omega)
                | succ fuel ih75 =>
                  intro t w2 m2 wd ht hm2 hc hA2 hB2 hfuel H locs ls w hl
                  have htr := DG.rg ht (by omega)
                  refine r_iload_n (pc := 75) C d_M_writesAll_75 rfl (lv_at hl 3 rfl) ?_
                  refine r_if_le (pc := 76) (tgt := 110) C (by omega) d_M_writesAll_76 (by decide) (fun c_76 => ?_) (fun c_76 => ?_)
                  · skip
                    have hwd := DG.done ht (by omega)
                    have hend : m2 - (ps (crf ln) k + k) = crl (ln k) := by omega
                    refine r_iinc (pc := 110) (j := 1) (lv' := [(1, .int (iI (k + 1))), (0, .ref q0), (2, .int (iI (nw (4 + 2 * k)))), (3, .int (iI t))]) C d_M_writesAll_110 hl rfl (by decide) rfl (fun ls hl => ?_)
                    refine r_goto (pc := 113) (tgt := 7) C d_M_writesAll_113 (by decide) ?_
                    exact ih7 (k + 1) w2 m2 (by omega) ((by omega)) ((fun j j1 j2 i i1 i2 => if e : j < k then hA2 j j1 e i i1 i2 else (by have e : j = k := (by omega); subst e; exact hc i i1 (by omega)))) ((fun j j1 j2 => hB2 j j1 (by omega))) (by omega) _ _ _ w (lv_sub hl [1, 0] rfl)
                  · skip
                    refine r_iload_n (pc := 79) C d_M_writesAll_79 rfl (lv_at hl 2 rfl) ?_
                    refine r_iconst (pc := 80) C d_M_writesAll_80 ?_
                    refine r_icmp_le (pc := 81) (tgt := 110) C (by omega) d_M_writesAll_81 (by decide) (fun c_81 => ?_) (fun c_81 => ?_)
                    · skip
                      have hend : m2 - (ps (crf ln) k + k) = crl (ln k) := by omega
                      refine r_iinc (pc := 110) (j := 1) (lv' := [(1, .int (iI (k + 1))), (0, .ref q0), (2, .int (iI (nw (4 + 2 * k)))), (3, .int (iI t))]) C d_M_writesAll_110 hl rfl (by decide) rfl (fun ls hl => ?_)
                      refine r_goto (pc := 113) (tgt := 7) C d_M_writesAll_113 (by decide) ?_
                      exact ih7 (k + 1) w2 m2 (by omega) ((by omega)) ((fun j j1 j2 i i1 i2 => if e : j < k then hA2 j j1 e i i1 i2 else (by have e : j = k := (by omega); subst e; exact hc i i1 (by omega)))) ((fun j j1 j2 => hB2 j j1 (by omega))) (by omega) _ _ _ w (lv_sub hl [1, 0] rfl)
                    · skip
                      refine r_iload_n (pc := 84) C d_M_writesAll_84 rfl (lv_at hl 2 rfl) ?_
                      refine r_iload_n (pc := 85) C d_M_writesAll_85 rfl (lv_at hl 3 rfl) ?_
                      refine r_icmp_lt (pc := 86) (tgt := 102) C (by omega) d_M_writesAll_86 (by decide) (fun c_86 => ?_) (fun c_86 => ?_)
                      · skip
                        refine r_iload_n (pc := 102) C d_M_writesAll_102 rfl (lv_at hl 3 rfl) ?_
                        refine r_bipush (pc := 103) C d_M_writesAll_103 (by decide) ?_
                        refine r_idiv (pc := 105) C d_M_writesAll_105 (by omega) ?_
                        refine r_istore_n (pc := 106) (lv' := [(3, .int (iI (t / 10))), (0, .ref q0), (1, .int (iI k)), (2, .int (iI (nw (4 + 2 * k))))]) C d_M_writesAll_106 rfl hl (by decide) rfl (fun ls hl => ?_)
                        refine r_goto (pc := 107) (tgt := 75) C d_M_writesAll_107 (by decide) ?_
                        exact ih75 (t / 10) w2 m2 wd ((by first | exact DG.skip ht (by omega) (by omega) (by omega) | exact (DG.write ht (by omega) (by omega) (by omega)).1)) (by omega) ((fun i i1 i2 => if e : i < m2 - (ps (crf ln) k + k) then (by first | exact hc i i1 e | (rw [up_ne _ _ (by omega)]; exact hc i i1 e)) else (by first | (exfalso; omega) | (rw [show i = 2 + wd by omega, chr_dig (by omega) htd, show (ps (crf ln) k + k) + (2 + wd) = m2 by omega, up_eq, hk3.2])))) ((fun j j1 j2 i i1 i2 => by first | exact hA2 j j1 j2 i i1 i2 | (have e1 := crf_mono hO hN3 (j := j + 1) (k := k) (by omega) (by omega) (by omega); have e2 := crf_pos hO hN3 (k := j) (by omega) (by omega); rw [up_ne _ _ (by omega)]; exact hA2 j j1 j2 i i1 i2))) ((fun j j1 j2 => by first | exact hB2 j j1 j2 | (have e1 := crf_mono hO hN3 (j := j) (k := k) (by omega) (by omega) (by omega); rw [up_ne _ _ (by omega)]; exact hB2 j j1 j2))) (by omega) _ _ _ w (lv_sub hl [1, 2, 3, 0] rfl)
                      · skip
                        have htd := (DG.write ht (by omega) (by omega) (by omega)).2
                        have hnt : 0 ≤ nw (4 + 2 * k) / t ∧ nw (4 + 2 * k) / t ≤ nw (4 + 2 * k) := ⟨Int.ediv_nonneg (by omega) (by omega), Int.ediv_le_self _ (by omega)⟩
                        refine r_aload_n (pc := 89) C d_M_writesAll_89 rfl (lv_at hl 0 rfl) ?_
                        refine r_bipush (pc := 90) C d_M_writesAll_90 (by decide) ?_
                        refine r_iload_n (pc := 92) C d_M_writesAll_92 rfl (lv_at hl 2 rfl) ?_
                        refine r_iload_n (pc := 93) C d_M_writesAll_93 rfl (lv_at hl 3 rfl) ?_
                        refine r_idiv (pc := 94) C d_M_writesAll_94 (by omega) ?_
                        refine r_bipush (pc := 95) C d_M_writesAll_95 (by decide) ?_
                        refine r_irem (pc := 97) C d_M_writesAll_97 (by omega) ?_
                        refine r_iadd (pc := 98) C d_M_writesAll_98 ?_
                        refine r_callVV (pc := 99) (As := [.int (iI (48 + (((nw (4 + 2 * k)) / t) % 10)))]) (rest := []) (wr := []) C w (c_M_writes hT q0 q1 q2 q3 q4 q5 q6 q7 q8 q9 nw pt np sl sv li ot len pd ty w2 m2 ss lz rm (48 + (((nw (4 + 2 * k)) / t) % 10)) (by omega)) ml_M_103 im_M_writes se_M_writes ini_M cd_M_writes hd_M_writes rfl (by rw [hRm]; exact ⟨⟨Nat.le_of_ble_eq_true rfl, Nat.le_of_ble_eq_true rfl⟩, Nat.le_of_ble_eq_true rfl, Nat.le_of_ble_eq_true rfl⟩) hl.1 [0, 1, 2, 3, 4, 5, 6, 7, 8, 9] [] ⟨rfl, rfl, by decide, by decide, by decide⟩ 0 rfl rfl rfl (Nat.le_of_ble_eq_true rfl) d_M_writesAll_99 (fun u_99 H locs hz_99 w => ?_)
                        subst hz_99
                        have w : Wd X (mw cI q0 q1 q2 q3 q4 q5 q6 q7 q8 q9 nw pt np sl sv li ot len pd ty (up w2 m2 (48 + (((nw (4 + 2 * k)) / t) % 10))) (m2 + 1) ss lz rm) H locs := w
                        refine r_iload_n (pc := 102) C d_M_writesAll_102 rfl (lv_at hl 3 rfl) ?_
                        refine r_bipush (pc := 103) C d_M_writesAll_103 (by decide) ?_
                        refine r_idiv (pc := 105) C d_M_writesAll_105 (by omega) ?_
                        refine r_istore_n (pc := 106) (lv' := [(3, .int (iI (t / 10))), (0, .ref q0), (1, .int (iI k)), (2, .int (iI (nw (4 + 2 * k))))]) C d_M_writesAll_106 rfl hl (by decide) rfl (fun ls hl => ?_)
                        refine r_goto (pc := 107) (tgt := 75) C d_M_writesAll_107 (by decide) ?_
                        exact ih75 (t / 10) (up w2 m2 (48 + (((nw (4 + 2 * k)) / t) % 10))) (m2 + 1) (wd + 1) ((by first | exact DG.skip ht (by omega) (by omega) (by omega) | exact (DG.write ht (by omega) (by omega) (by omega)).1)) (by omega) ((fun i i1 i2 => if e : i < m2 - (ps (crf ln) k + k) then (by first | exact hc i i1 e | (rw [up_ne _ _ (by omega)]; exact hc i i1 e)) else (by first | (exfalso; omega) | (rw [show i = 2 + wd by omega, chr_dig (by omega) htd, show (ps (crf ln) k + k) + (2 + wd) = m2 by omega, up_eq, hk3.2])))) ((fun j j1 j2 i i1 i2 => by first | exact hA2 j j1 j2 i i1 i2 | (have e1 := crf_mono hO hN3 (j := j + 1) (k := k) (by omega) (by omega) (by omega); have e2 := crf_pos hO hN3 (k := j) (by omega) (by omega); rw [up_ne _ _ (by omega)]; exact hA2 j j1 j2 i i1 i2))) ((fun j j1 j2 => by first | exact hB2 j j1 j2 | (have e1 := crf_mono hO hN3 (j := j) (k := k) (by omega) (by omega) (by omega); rw [up_ne _ _ (by omega)]; exact hB2 j j1 j2))) (by omega) _ _ _ w (lv_sub hl [1, 2, 3, 0] rfl)
              exact L75 (1000 + 1 : Int).toNat 1000 (up (up w1 m1 120) (m1 + 1) 42) ((m1 + 1) + 1) 0 (DG.init _) (by first | omega | rfl) ((fun i i1 i2 => if e : i = 0 then (by rw [e, chr_0]; unfold up; (repeat' split) <;> first | omega | (exfalso; omega)) else (by rw [show i = 1 by omega, chr_1]; unfold up; (repeat' split) <;> first | omega | (exfalso; omega)))) ((fun j j1 j2 i i1 i2 => by have e1 := crf_mono hO hN3 (j := j + 1) (k := k) (by omega) (by omega) (by omega); have e2 := crf_pos hO hN3 (k := j) (by omega) (by omega); unfold up; (repeat' split) <;> first | (exfalso; omega) | exact hA j j1 j2 i i1 i2)) ((fun j j1 j2 => if e : j = k then (by rw [e]; unfold up; (repeat' split) <;> first | omega | (exfalso; omega)) else (by have e3 := crf_mono hO hN3 (j := j) (k := k) (by omega) (by omega) (by omega); unfold up; (repeat' split) <;> first | (exfalso; omega) | exact hB j j1 (by omega)))) (by omega) _ _ _ w (lv_sub hl [2, 3, 1, 0] rfl)
        · skip
          refine r_aload_n (pc := 27) C d_M_writesAll_27 rfl (lv_at hl 1 rfl) ?_
          refine r_bipush (pc := 28) C d_M_writesAll_28 (by decide) ?_
          refine r_callVV (pc := 30) (As := [.int (iI 59)]) (rest := []) (wr := []) C w (c_M_writes hT q0 q1 q2 q3 q4 q5 q6 q7 q8 q9 nw pt np sl sv li ot len pd ty w1 m1 ss lz rm 59 (by omega)) ml_M_103 im_M_writes se_M_writes ini_M cd_M_writes hd_M_writes rfl (by rw [hRm]; exact ⟨⟨Nat.le_of_ble_eq_true rfl, Nat.le_of_ble_eq_true rfl⟩, Nat.le_of_ble_eq_true rfl, Nat.le_of_ble_eq_true rfl⟩) hl.1 [0, 1, 2, 3, 4, 5, 6, 7, 8, 9] [] ⟨rfl, rfl, by decide, by decide, by decide⟩ 0 rfl rfl rfl (Nat.le_of_ble_eq_true rfl) d_M_writesAll_30 (fun u_30 H locs hz_30 w => ?_)
          subst hz_30
          have w : Wd X (mw cI q0 q1 q2 q3 q4 q5 q6 q7 q8 q9 nw pt np sl sv li ot len pd ty (up w1 m1 59) (m1 + 1) ss lz rm) H locs := w
          refine r_aload_n (pc := 33) C d_M_writesAll_33 rfl (lv_at hl 1 rfl) ?_
          refine r_aload_n (pc := 34) C d_M_writesAll_34 rfl (lv_at hl 1 rfl) ?_
          refine r_iload_n (pc := 35) C d_M_writesAll_35 rfl (lv_at hl 2 rfl) ?_
          refine r_callVI (pc := 36) (As := [.int (iI k)]) (rest := [.ref q0]) (wr := []) C w (c_M_signOf hT q0 q1 q2 q3 q4 q5 q6 q7 q8 q9 nw pt np sl sv li ot len pd ty (up w1 m1 59) (m1 + 1) ss lz rm k (by omega)) ml_M_55 im_M_signOf se_M_signOf ini_M cd_M_signOf hd_M_signOf rfl (by rw [hRm]; exact ⟨⟨Nat.le_of_ble_eq_true rfl, Nat.le_of_ble_eq_true rfl⟩, Nat.le_of_ble_eq_true rfl, Nat.le_of_ble_eq_true rfl⟩) hl.1 [0, 1, 2, 3, 4, 5, 6, 7, 8, 9] [] ⟨rfl, rfl, by decide, by decide, by decide⟩ 0 rfl rfl rfl (Nat.le_of_ble_eq_true rfl) d_M_writesAll_36 (fun z_36 u_36 H locs hz_36 w => ?_)
          obtain ⟨rfl, rfl⟩ := hz_36
          have w : Wd X (mw cI q0 q1 q2 q3 q4 q5 q6 q7 q8 q9 nw pt np sl sv li ot len pd ty (up w1 m1 59) (m1 + 1) ss lz rm) H locs := w
          refine r_bipush (pc := 39) C d_M_writesAll_39 (by decide) ?_
          refine r_icmp_ne (pc := 41) (tgt := 49) C (by omega) d_M_writesAll_41 (by decide) (fun c_41 => ?_) (fun c_41 => ?_)
          · skip
            refine r_bipush (pc := 49) C d_M_writesAll_49 (by decide) ?_
            refine r_aload_n (pc := 51) C d_M_writesAll_51 rfl (lv_at hl 1 rfl) ?_
            refine r_iload_n (pc := 52) C d_M_writesAll_52 rfl (lv_at hl 2 rfl) ?_
            refine r_callVI (pc := 53) (As := [.int (iI k)]) (rest := [.int (iI 48), .ref q0]) (wr := []) C w (c_M_signOf hT q0 q1 q2 q3 q4 q5 q6 q7 q8 q9 nw pt np sl sv li ot len pd ty (up w1 m1 59) (m1 + 1) ss lz rm k (by omega)) ml_M_55 im_M_signOf se_M_signOf ini_M cd_M_signOf hd_M_signOf rfl (by rw [hRm]; exact ⟨⟨Nat.le_of_ble_eq_true rfl, Nat.le_of_ble_eq_true rfl⟩, Nat.le_of_ble_eq_true rfl, Nat.le_of_ble_eq_true rfl⟩) hl.1 [0, 1, 2, 3, 4, 5, 6, 7, 8, 9] [] ⟨rfl, rfl, by decide, by decide, by decide⟩ 0 rfl rfl rfl (Nat.le_of_ble_eq_true rfl) d_M_writesAll_53 (fun z_53 u_53 H locs hz_53 w => ?_)
            obtain ⟨rfl, rfl⟩ := hz_53
            have w : Wd X (mw cI q0 q1 q2 q3 q4 q5 q6 q7 q8 q9 nw pt np sl sv li ot len pd ty (up w1 m1 59) (m1 + 1) ss lz rm) H locs := w
            refine r_iadd (pc := 56) C d_M_writesAll_56 ?_
            refine r_callVV (pc := 57) (As := [.int (iI (48 + (nw (3 + 2 * k))))]) (rest := []) (wr := []) C w (c_M_writes hT q0 q1 q2 q3 q4 q5 q6 q7 q8 q9 nw pt np sl sv li ot len pd ty (up w1 m1 59) (m1 + 1) ss lz rm (48 + (nw (3 + 2 * k))) (by omega)) ml_M_103 im_M_writes se_M_writes ini_M cd_M_writes hd_M_writes rfl (by rw [hRm]; exact ⟨⟨Nat.le_of_ble_eq_true rfl, Nat.le_of_ble_eq_true rfl⟩, Nat.le_of_ble_eq_true rfl, Nat.le_of_ble_eq_true rfl⟩) hl.1 [0, 1, 2, 3, 4, 5, 6, 7, 8, 9] [] ⟨rfl, rfl, by decide, by decide, by decide⟩ 0 rfl rfl rfl (Nat.le_of_ble_eq_true rfl) d_M_writesAll_57 (fun u_57 H locs hz_57 w => ?_)
            subst hz_57
            have w : Wd X (mw cI q0 q1 q2 q3 q4 q5 q6 q7 q8 q9 nw pt np sl sv li ot len pd ty (up (up w1 m1 59) (m1 + 1) (48 + (nw (3 + 2 * k)))) ((m1 + 1) + 1) ss lz rm) H locs := w
            refine r_iload_n (pc := 60) C d_M_writesAll_60 rfl (lv_at hl 0 rfl) ?_
            refine r_iconst (pc := 61) C d_M_writesAll_61 ?_
            refine r_icmp_le (pc := 62) (tgt := 71) C (by omega) d_M_writesAll_62 (by decide) (fun c_62 => ?_) (fun c_62 => ?_)
            · skip
              refine r_sipush (pc := 71) C d_M_writesAll_71 (by decide) ?_
              refine r_istore_n (pc := 74) (lv' := [(3, .int (iI 1000)), (2, .int (iI (nw (4 + 2 * k)))), (0, .ref q0), (1, .int (iI k))]) C d_M_writesAll_74 rfl hl (by decide) rfl (fun ls hl => ?_)
              have L75 : ∀ (fuel : Nat), ∀ (t : Int) (w2 : Int → Int) (m2 : Int) (wd : Int), DG (ln k) t wd → (ln k ≤ 1 ∧ m2 = (ps (crf ln) k + k) + 1 ∧ t = 1000) ∨ (1 < ln k ∧ m2 = (ps (crf ln) k + k) + 2 + wd) → (∀ i, 0 ≤ i → i < m2 - (ps (crf ln) k + k) → w2 ((ps (crf ln) k + k) + i) = chr_ (sg k) (ln k) i) → (∀ j, 0 ≤ j → j < k → ∀ i, 0 ≤ i → i < crl (ln j) → w2 (ps (crf ln) j + j + i) = chr_ (sg j) (ln j) i) → (∀ j, 1 ≤ j → j ≤ k → w2 (ps (crf ln) j + j - 1) = 59) → t < (fuel : Int) → ∀ (H : Heap) (locs : List Loc) (ls : Array Slot), Wd X (mw cI q0 q1 q2 q3 q4 q5 q6 q7 q8 q9 nw pt np sl sv li ot len pd ty w2 m2 ss lz rm) H locs → lv_has ls 4 [(0, .ref q0), (1, .int (iI k)), (2, .int (iI (nw (4 + 2 * k)))), (3, .int (iI t))] → GG X 0 0 H locs 75 ls [] := by
                intro fuel
                induction fuel with
                | zero =>
                  intro t w2 m2 wd ht hm2 hc hA2 hB2 hfuel
                  exact absurd hfuel (by have := DG.rg ht (by omega); omega)
                | succ fuel ih75 =>
                  intro t w2 m2 wd ht hm2 hc hA2 hB2 hfuel H locs ls w hl
                  have htr := DG.rg ht (by omega)
                  refine r_iload_n (pc := 75) C d_M_writesAll_75 rfl (lv_at hl 3 rfl) ?_
                  refine r_if_le (pc := 76) (tgt := 110) C (by omega) d_M_writesAll_76 (by decide) (fun c_76 => ?_) (fun c_76 => ?_)
                  · skip
                    have hwd := DG.done ht (by omega)
                    have hend : m2 - (ps (crf ln) k + k) = crl (ln k) := by omega
                    refine r_iinc (pc := 110) (j := 1) (lv' := [(1, .int (iI (k + 1))), (0, .ref q0), (2, .int (iI (nw (4 + 2 * k)))), (3, .int (iI t))]) C d_M_writesAll_110 hl rfl (by decide) rfl (fun ls hl => ?_)
                    refine r_goto (pc := 113) (tgt := 7) C d_M_writesAll_113 (by decide) ?_
                    exact ih7 (k + 1) w2 m2 (by omega) ((by omega)) ((fun j j1 j2 i i1 i2 => if e : j < k then hA2 j j1 e i i1 i2 else (by have e : j = k := (by omega); subst e; exact hc i i1 (by omega)))) ((fun j j1 j2 => hB2 j j1 (by omega))) (by omega) _ _ _ w (lv_sub hl [1, 0] rfl)
                  · skip
                    refine r_iload_n (pc := 79) C d_M_writesAll_79 rfl (lv_at hl 2 rfl) ?_
                    refine r_iconst (pc := 80) C d_M_writesAll_80 ?_
                    refine r_icmp_le (pc := 81) (tgt := 110) C (by omega) d_M_writesAll_81 (by decide) (fun c_81 => ?_) (fun c_81 => ?_)
                    · skip
                      have hend : m2 - (ps (crf ln) k + k) = crl (ln k) := by omega
                      refine r_iinc (pc := 110) (j := 1) (lv' := [(1, .int (iI (k + 1))), (0, .ref q0), (2, .int (iI (nw (4 + 2 * k)))), (3, .int (iI t))]) C d_M_writesAll_110 hl rfl (by decide) rfl (fun ls hl => ?_)
                      refine r_goto (pc := 113) (tgt := 7) C d_M_writesAll_113 (by decide) ?_
                      exact ih7 (k + 1) w2 m2 (by omega) ((by omega)) ((fun j j1 j2 i i1 i2 => if e : j < k then hA2 j j1 e i i1 i2 else (by have e : j = k := (by omega); subst e; exact hc i i1 (by omega)))) ((fun j j1 j2 => hB2 j j1 (by omega))) (by omega) _ _ _ w (lv_sub hl [1, 0] rfl)
                    · skip
                      refine r_iload_n (pc := 84) C d_M_writesAll_84 rfl (lv_at hl 2 rfl) ?_
                      refine r_iload_n (pc := 85) C d_M_writesAll_85 rfl (lv_at hl 3 rfl) ?_
                      refine r_icmp_lt (pc := 86) (tgt := 102) C (by omega) d_M_writesAll_86 (by decide) (fun c_86 => ?_) (fun c_86 => ?_)
                      · skip
                        refine r_iload_n (pc := 102) C d_M_writesAll_102 rfl (lv_at hl 3 rfl) ?_
                        refine r_bipush (pc := 103) C d_M_writesAll_103 (by decide) ?_
                        refine r_idiv (pc := 105) C d_M_writesAll_105 (by omega) ?_
                        refine r_istore_n (pc := 106) (lv' := [(3, .int (iI (t / 10))), (0, .ref q0), (1, .int (iI k)), (2, .int (iI (nw (4 + 2 * k))))]) C d_M_writesAll_106 rfl hl (by decide) rfl (fun ls hl => ?_)
                        refine r_goto (pc := 107) (tgt := 75) C d_M_writesAll_107 (by decide) ?_
                        exact ih75 (t / 10) w2 m2 wd ((by first | exact DG.skip ht (by omega) (by omega) (by omega) | exact (DG.write ht (by omega) (by omega) (by omega)).1)) (by omega) ((fun i i1 i2 => if e : i < m2 - (ps (crf ln) k + k) then (by first | exact hc i i1 e | (rw [up_ne _ _ (by omega)]; exact hc i i1 e)) else (by first | (exfalso; omega) | (rw [show i = 2 + wd by omega, chr_dig (by omega) htd, show (ps (crf ln) k + k) + (2 + wd) = m2 by omega, up_eq, hk3.2])))) ((fun j j1 j2 i i1 i2 => by first | exact hA2 j j1 j2 i i1 i2 | (have e1 := crf_mono hO hN3 (j := j + 1) (k := k) (by omega) (by omega) (by omega); have e2 := crf_pos hO hN3 (k := j) (by omega) (by omega); rw [up_ne _ _ (by omega)]; exact hA2 j j1 j2 i i1 i2))) ((fun j j1 j2 => by first | exact hB2 j j1 j2 | (have e1 := crf_mono hO hN3 (j := j) (k := k) (by omega) (by omega) (by omega); rw [up_ne _ _ (by omega)]; exact hB2 j j1 j2))) (by omega) _ _ _ w (lv_sub hl [1, 2, 3, 0] rfl)
                      · skip
                        have htd := (DG.write ht (by omega) (by omega) (by omega)).2
                        have hnt : 0 ≤ nw (4 + 2 * k) / t ∧ nw (4 + 2 * k) / t ≤ nw (4 + 2 * k) := ⟨Int.ediv_nonneg (by omega) (by omega), Int.ediv_le_self _ (by omega)⟩
                        refine r_aload_n (pc := 89) C d_M_writesAll_89 rfl (lv_at hl 0 rfl) ?_
                        refine r_bipush (pc := 90) C d_M_writesAll_90 (by decide) ?_
                        refine r_iload_n (pc := 92) C d_M_writesAll_92 rfl (lv_at hl 2 rfl) ?_
                        refine r_iload_n (pc := 93) C d_M_writesAll_93 rfl (lv_at hl 3 rfl) ?_
                        refine r_idiv (pc := 94) C d_M_writesAll_94 (by omega) ?_
                        refine r_bipush (pc := 95) C d_M_writesAll_95 (by decide) ?_
                        refine r_irem (pc := 97) C d_M_writesAll_97 (by omega) ?_
                        refine r_iadd (pc := 98) C d_M_writesAll_98 ?_
                        refine r_callVV (pc := 99) (As := [.int (iI (48 + (((nw (4 + 2 * k)) / t) % 10)))]) (rest := []) (wr := []) C w (c_M_writes hT q0 q1 q2 q3 q4 q5 q6 q7 q8 q9 nw pt np sl sv li ot len pd ty w2 m2 ss lz rm (48 + (((nw (4 + 2 * k)) / t) % 10)) (by omega)) ml_M_103 im_M_writes se_M_writes ini_M cd_M_writes hd_M_writes rfl (by rw [hRm]; exact ⟨⟨Nat.le_of_ble_eq_true rfl, Nat.le_of_ble_eq_true rfl⟩, Nat.le_of_ble_eq_true rfl, Nat.le_of_ble_eq_true rfl⟩) hl.1 [0, 1, 2, 3, 4, 5, 6, 7, 8, 9] [] ⟨rfl, rfl, by decide, by decide, by decide⟩ 0 rfl rfl rfl (Nat.le_of_ble_eq_true rfl) d_M_writesAll_99 (fun u_99 H locs hz_99 w => ?_)
                        subst hz_99
                        have w : Wd X (mw cI q0 q1 q2 q3 q4 q5 q6 q7 q8 q9 nw pt np sl sv li ot len pd ty (up w2 m2 (48 + (((nw (4 + 2 * k)) / t) % 10))) (m2 + 1) ss lz rm) H locs := w
                        refine r_iload_n (pc := 102) C d_M_writesAll_102 rfl (lv_at hl 3 rfl) ?_
                        refine r_bipush (pc := 103) C d_M_writesAll_103 (by decide) ?_
                        refine r_idiv (pc := 105) C d_M_writesAll_105 (by omega) ?_
                        refine r_istore_n (pc := 106) (lv' := [(3, .int (iI (t / 10))), (0, .ref q0), (1, .int (iI k)), (2, .int (iI (nw (4 + 2 * k))))]) C d_M_writesAll_106 rfl hl (by decide) rfl (fun ls hl => ?_)
                        refine r_goto (pc := 107) (tgt := 75) C d_M_writesAll_107 (by decide) ?_
                        exact ih75 (t / 10) (up w2 m2 (48 + (((nw (4 + 2 * k)) / t) % 10))) (m2 + 1) (wd + 1) ((by first | exact DG.skip ht (by omega) (by omega) (by omega) | exact (DG.write ht (by omega) (by omega) (by omega)).1)) (by omega) ((fun i i1 i2 => if e : i < m2 - (ps (crf ln) k + k) then (by first | exact hc i i1 e | (rw [up_ne _ _ (by omega)]; exact hc i i1 e)) else (by first | (exfalso; omega) | (rw [show i = 2 + wd by omega, chr_dig (by omega) htd, show (ps (crf ln) k + k) + (2 + wd) = m2 by omega, up_eq, hk3.2])))) ((fun j j1 j2 i i1 i2 => by first | exact hA2 j j1 j2 i i1 i2 | (have e1 := crf_mono hO hN3 (j := j + 1) (k := k) (by omega) (by omega) (by omega); have e2 := crf_pos hO hN3 (k := j) (by omega) (by omega); rw [up_ne _ _ (by omega)]; exact hA2 j j1 j2 i i1 i2))) ((fun j j1 j2 => by first | exact hB2 j j1 j2 | (have e1 := crf_mono hO hN3 (j := j) (k := k) (by omega) (by omega) (by omega); rw [up_ne _ _ (by omega)]; exact hB2 j j1 j2))) (by omega) _ _ _ w (lv_sub hl [1, 2, 3, 0] rfl)
              exact L75 (1000 + 1 : Int).toNat 1000 (up (up w1 m1 59) (m1 + 1) (48 + (nw (3 + 2 * k)))) ((m1 + 1) + 1) 0 (DG.init _) (by first | omega | rfl) ((fun i i1 i2 => if e : i = 0 then (by rw [e, chr_0]; unfold up; (repeat' split) <;> first | omega | (exfalso; omega)) else (by rw [show i = 1 by omega, chr_1]; unfold up; (repeat' split) <;> first | omega | (exfalso; omega)))) ((fun j j1 j2 i i1 i2 => by have e1 := crf_mono hO hN3 (j := j + 1) (k := k) (by omega) (by omega) (by omega); have e2 := crf_pos hO hN3 (k := j) (by omega) (by omega); unfold up; (repeat' split) <;> first | (exfalso; omega) | exact hA j j1 j2 i i1 i2)) ((fun j j1 j2 => if e : j = k then (by rw [e]; unfold up; (repeat' split) <;> first | omega | (exfalso; omega)) else (by have e3 := crf_mono hO hN3 (j := j) (k := k) (by omega) (by omega) (by omega); unfold up; (repeat' split) <;> first | (exfalso; omega) | exact hB j j1 (by omega)))) (by omega) _ _ _ w (lv_sub hl [2, 3, 1, 0] rfl)
            · skip
              refine r_aload_n (pc := 65) C d_M_writesAll_65 rfl (lv_at hl 1 rfl) ?_
              refine r_bipush (pc := 66) C d_M_writesAll_66 (by decide) ?_
              refine r_callVV (pc := 68) (As := [.int (iI 42)]) (rest := []) (wr := []) C w (c_M_writes hT q0 q1 q2 q3 q4 q5 q6 q7 q8 q9 nw pt np sl sv li ot len pd ty (up (up w1 m1 59) (m1 + 1) (48 + (nw (3 + 2 * k)))) ((m1 + 1) + 1) ss lz rm 42 (by omega)) ml_M_103 im_M_writes se_M_writes ini_M cd_M_writes hd_M_writes rfl (by rw [hRm]; exact ⟨⟨Nat.le_of_ble_eq_true rfl, Nat.le_of_ble_eq_true rfl⟩, Nat.le_of_ble_eq_true rfl, Nat.le_of_ble_eq_true rfl⟩) hl.1 [0, 1, 2, 3, 4, 5, 6, 7, 8, 9] [] ⟨rfl, rfl, by decide, by decide, by decide⟩ 0 rfl rfl rfl (Nat.le_of_ble_eq_true rfl) d_M_writesAll_68 (fun u_68 H locs hz_68 w => ?_)
              subst hz_68
              have w : Wd X (mw cI q0 q1 q2 q3 q4 q5 q6 q7 q8 q9 nw pt np sl sv li ot len pd ty (up (up (up w1 m1 59) (m1 + 1) (48 + (nw (3 + 2 * k)))) ((m1 + 1) + 1) 42) (((m1 + 1) + 1) + 1) ss lz rm) H locs := w
              refine r_sipush (pc := 71) C d_M_writesAll_71 (by decide) ?_
              refine r_istore_n (pc := 74) (lv' := [(3, .int (iI 1000)), (2, .int (iI (nw (4 + 2 * k)))), (0, .ref q0), (1, .int (iI k))]) C d_M_writesAll_74 rfl hl (by decide) rfl (fun ls hl => ?_)
              have L75 : ∀ (fuel : Nat), ∀ (t : Int) (w2 : Int → Int) (m2 : Int) (wd : Int), DG (ln k) t wd → (ln k ≤ 1 ∧ m2 = (ps (crf ln) k + k) + 1 ∧ t = 1000) ∨ (1 < ln k ∧ m2 = (ps (crf ln) k + k) + 2 + wd) → (∀ i, 0 ≤ i → i < m2 - (ps (crf ln) k + k) → w2 ((ps (crf ln) k + k) + i) = chr_ (sg k) (ln k) i) → (∀ j, 0 ≤ j → j < k → ∀ i, 0 ≤ i → i < crl (ln j) → w2 (ps (crf ln) j + j + i) = chr_ (sg j) (ln j) i) → (∀ j, 1 ≤ j → j ≤ k → w2 (ps (crf ln) j + j - 1) = 59) → t < (fuel : Int) → ∀ (H : Heap) (locs : List Loc) (ls : Array Slot), Wd X (mw cI q0 q1 q2 q3 q4 q5 q6 q7 q8 q9 nw pt np sl sv li ot len pd ty w2 m2 ss lz rm) H locs → lv_has ls 4 [(0, .ref q0), (1, .int (iI k)), (2, .int (iI (nw (4 + 2 * k)))), (3, .int (iI t))] → GG X 0 0 H locs 75 ls [] := by
                intro fuel
                induction fuel with
                | zero =>
                  intro t w2 m2 wd ht hm2 hc hA2 hB2 hfuel
                  exact absurd hfuel (by have := DG.rg ht (by omega); omega)
                | succ fuel ih75 =>
                  intro t w2 m2 wd ht hm2 hc hA2 hB2 hfuel H locs ls w hl
                  have htr := DG.rg ht (by omega)
                  refine r_iload_n (pc := 75) C d_M_writesAll_75 rfl (lv_at hl 3 rfl) ?_
                  refine r_if_le (pc := 76) (tgt := 110) C (by omega) d_M_writesAll_76 (by decide) (fun c_76 => ?_) (fun c_76 => ?_)
                  · skip
                    have hwd := DG.done ht (by omega)
                    have hend : m2 - (ps (crf ln) k + k) = crl (ln k) := by omega
                    refine r_iinc (pc := 110) (j := 1) (lv' := [(1, .int (iI (k + 1))), (0, .ref q0), (2, .int (iI (nw (4 + 2 * k)))), (3, .int (iI t))]) C d_M_writesAll_110 hl rfl (by decide) rfl (fun ls hl => ?_)
                    refine r_goto (pc := 113) (tgt := 7) C d_M_writesAll_113 (by decide) ?_
                    exact ih7 (k + 1) w2 m2 (by omega) ((by omega)) ((fun j j1 j2 i i1 i2 => if e : j < k then hA2 j j1 e i i1 i2 else (by have e : j = k := (by omega); subst e; exact hc i i1 (by omega)))) ((fun j j1 j2 => hB2 j j1 (by omega))) (by omega) _ _ _ w (lv_sub hl [1, 0] rfl)
                  · skip
                    refine r_iload_n (pc := 79) C d_M_writesAll_79 rfl (lv_at hl 2 rfl) ?_
                    refine r_iconst (pc := 80) C d_M_writesAll_80 ?_
                    refine r_icmp_le (pc := 81) (tgt := 110) C (by omega) d_M_writesAll_81 (by decide) (fun c_81 => ?_) (fun c_81 => ?_)
                    · skip
                      have hend : m2 - (ps (crf ln) k + k) = crl (ln k) := by omega
                      refine r_iinc (pc := 110) (j := 1) (lv' := [(1, .int (iI (k + 1))), (0, .ref q0), (2, .int (iI (nw (4 + 2 * k)))), (3, .int (iI t))]) C d_M_writesAll_110 hl rfl (by decide) rfl (fun ls hl => ?_)
                      refine r_goto (pc := 113) (tgt := 7) C d_M_writesAll_113 (by decide) ?_
                      exact ih7 (k + 1) w2 m2 (by omega) ((by omega)) ((fun j j1 j2 i i1 i2 => if e : j < k then hA2 j j1 e i i1 i2 else (by have e : j = k := (by omega); subst e; exact hc i i1 (by omega)))) ((fun j j1 j2 => hB2 j j1 (by omega))) (by omega) _ _ _ w (lv_sub hl [1, 0] rfl)
                    · skip
                      refine r_iload_n (pc := 84) C d_M_writesAll_84 rfl (lv_at hl 2 rfl) ?_
                      refine r_iload_n (pc := 85) C d_M_writesAll_85 rfl (lv_at hl 3 rfl) ?_
                      refine r_icmp_lt (pc := 86) (tgt := 102) C (by omega) d_M_writesAll_86 (by decide) (fun c_86 => ?_) (fun c_86 => ?_)
                      · skip
                        refine r_iload_n (pc := 102) C d_M_writesAll_102 rfl (lv_at hl 3 rfl) ?_
                        refine r_bipush (pc := 103) C d_M_writesAll_103 (by decide) ?_
                        refine r_idiv (pc := 105) C d_M_writesAll_105 (by omega) ?_
                        refine r_istore_n (pc := 106) (lv' := [(3, .int (iI (t / 10))), (0, .ref q0), (1, .int (iI k)), (2, .int (iI (nw (4 + 2 * k))))]) C d_M_writesAll_106 rfl hl (by decide) rfl (fun ls hl => ?_)
                        refine r_goto (pc := 107) (tgt := 75) C d_M_writesAll_107 (by decide) ?_
                        exact ih75 (t / 10) w2 m2 wd ((by first | exact DG.skip ht (by omega) (by omega) (by omega) | exact (DG.write ht (by omega) (by omega) (by omega)).1)) (by omega) ((fun i i1 i2 => if e : i < m2 - (ps (crf ln) k + k) then (by first | exact hc i i1 e | (rw [up_ne _ _ (by omega)]; exact hc i i1 e)) else (by first | (exfalso; omega) | (rw [show i = 2 + wd by omega, chr_dig (by omega) htd, show (ps (crf ln) k + k) + (2 + wd) = m2 by omega, up_eq, hk3.2])))) ((fun j j1 j2 i i1 i2 => by first | exact hA2 j j1 j2 i i1 i2 | (have e1 := crf_mono hO hN3 (j := j + 1) (k := k) (by omega) (by omega) (by omega); have e2 := crf_pos hO hN3 (k := j) (by omega) (by omega); rw [up_ne _ _ (by omega)]; exact hA2 j j1 j2 i i1 i2))) ((fun j j1 j2 => by first | exact hB2 j j1 j2 | (have e1 := crf_mono hO hN3 (j := j) (k := k) (by omega) (by omega) (by omega); rw [up_ne _ _ (by omega)]; exact hB2 j j1 j2))) (by omega) _ _ _ w (lv_sub hl [1, 2, 3, 0] rfl)
                      · skip
                        have htd := (DG.write ht (by omega) (by omega) (by omega)).2
                        have hnt : 0 ≤ nw (4 + 2 * k) / t ∧ nw (4 + 2 * k) / t ≤ nw (4 + 2 * k) := ⟨Int.ediv_nonneg (by omega) (by omega), Int.ediv_le_self _ (by omega)⟩
                        refine r_aload_n (pc := 89) C d_M_writesAll_89 rfl (lv_at hl 0 rfl) ?_
                        refine r_bipush (pc := 90) C d_M_writesAll_90 (by decide) ?_
                        refine r_iload_n (pc := 92) C d_M_writesAll_92 rfl (lv_at hl 2 rfl) ?_
                        refine r_iload_n (pc := 93) C d_M_writesAll_93 rfl (lv_at hl 3 rfl) ?_
                        refine r_idiv (pc := 94) C d_M_writesAll_94 (by omega) ?_
                        refine r_bipush (pc := 95) C d_M_writesAll_95 (by decide) ?_
                        refine r_irem (pc := 97) C d_M_writesAll_97 (by omega) ?_
                        refine r_iadd (pc := 98) C d_M_writesAll_98 ?_
                        refine r_callVV (pc := 99) (As := [.int (iI (48 + (((nw (4 + 2 * k)) / t) % 10)))]) (rest := []) (wr := []) C w (c_M_writes hT q0 q1 q2 q3 q4 q5 q6 q7 q8 q9 nw pt np sl sv li ot len pd ty w2 m2 ss lz rm (48 + (((nw (4 + 2 * k)) / t) % 10)) (by omega)) ml_M_103 im_M_writes se_M_writes ini_M cd_M_writes hd_M_writes rfl (by rw [hRm]; exact ⟨⟨Nat.le_of_ble_eq_true rfl, Nat.le_of_ble_eq_true rfl⟩, Nat.le_of_ble_eq_true rfl, Nat.le_of_ble_eq_true rfl⟩) hl.1 [0, 1, 2, 3, 4, 5, 6, 7, 8, 9] [] ⟨rfl, rfl, by decide, by decide, by decide⟩ 0 rfl rfl rfl (Nat.le_of_ble_eq_true rfl) d_M_writesAll_99 (fun u_99 H locs hz_99 w => ?_)
                        subst hz_99
                        have w : Wd X (mw cI q0 q1 q2 q3 q4 q5 q6 q7 q8 q9 nw pt np sl sv li ot len pd ty (up w2 m2 (48 + (((nw (4 + 2 * k)) / t) % 10))) (m2 + 1) ss lz rm) H locs := w
                        refine r_iload_n (pc := 102) C d_M_writesAll_102 rfl (lv_at hl 3 rfl) ?_
                        refine r_bipush (pc := 103) C d_M_writesAll_103 (by decide) ?_
                        refine r_idiv (pc := 105) C d_M_writesAll_105 (by omega) ?_
                        refine r_istore_n (pc := 106) (lv' := [(3, .int (iI (t / 10))), (0, .ref q0), (1, .int (iI k)), (2, .int (iI (nw (4 + 2 * k))))]) C d_M_writesAll_106 rfl hl (by decide) rfl (fun ls hl => ?_)
                        refine r_goto (pc := 107) (tgt := 75) C d_M_writesAll_107 (by decide) ?_
                        exact ih75 (t / 10) (up w2 m2 (48 + (((nw (4 + 2 * k)) / t) % 10))) (m2 + 1) (wd + 1) ((by first | exact DG.skip ht (by omega) (by omega) (by omega) | exact (DG.write ht (by omega) (by omega) (by omega)).1)) (by omega) ((fun i i1 i2 => if e : i < m2 - (ps (crf ln) k + k) then (by first | exact hc i i1 e | (rw [up_ne _ _ (by omega)]; exact hc i i1 e)) else (by first | (exfalso; omega) | (rw [show i = 2 + wd by omega, chr_dig (by omega) htd, show (ps (crf ln) k + k) + (2 + wd) = m2 by omega, up_eq, hk3.2])))) ((fun j j1 j2 i i1 i2 => by first | exact hA2 j j1 j2 i i1 i2 | (have e1 := crf_mono hO hN3 (j := j + 1) (k := k) (by omega) (by omega) (by omega); have e2 := crf_pos hO hN3 (k := j) (by omega) (by omega); rw [up_ne _ _ (by omega)]; exact hA2 j j1 j2 i i1 i2))) ((fun j j1 j2 => by first | exact hB2 j j1 j2 | (have e1 := crf_mono hO hN3 (j := j) (k := k) (by omega) (by omega) (by omega); rw [up_ne _ _ (by omega)]; exact hB2 j j1 j2))) (by omega) _ _ _ w (lv_sub hl [1, 2, 3, 0] rfl)
              exact L75 (1000 + 1 : Int).toNat 1000 (up (up (up w1 m1 59) (m1 + 1) (48 + (nw (3 + 2 * k)))) ((m1 + 1) + 1) 42) (((m1 + 1) + 1) + 1) 0 (DG.init _) (by first | omega | rfl) ((fun i i1 i2 => if e : i = 0 then (by rw [e, chr_0]; unfold up; (repeat' split) <;> first | omega | (exfalso; omega)) else (by rw [show i = 1 by omega, chr_1]; unfold up; (repeat' split) <;> first | omega | (exfalso; omega)))) ((fun j j1 j2 i i1 i2 => by have e1 := crf_mono hO hN3 (j := j + 1) (k := k) (by omega) (by omega) (by omega); have e2 := crf_pos hO hN3 (k := j) (by omega) (by omega); unfold up; (repeat' split) <;> first | (exfalso; omega) | exact hA j j1 j2 i i1 i2)) ((fun j j1 j2 => if e : j = k then (by rw [e]; unfold up; (repeat' split) <;> first | omega | (exfalso; omega)) else (by have e3 := crf_mono hO hN3 (j := j) (k := k) (by omega) (by omega) (by omega); unfold up; (repeat' split) <;> first | (exfalso; omega) | exact hB j j1 (by omega)))) (by omega) _ _ _ w (lv_sub hl [2, 3, 1, 0] rfl)
          · skip
            refine r_bipush (pc := 44) C d_M_writesAll_44 (by decide) ?_
            refine r_goto (pc := 46) (tgt := 57) C d_M_writesAll_46 (by decide) ?_
            refine r_callVV (pc := 57) (As := [.int (iI 120)]) (rest := []) (wr := []) C w (c_M_writes hT q0 q1 q2 q3 q4 q5 q6 q7 q8 q9 nw pt np sl sv li ot len pd ty (up w1 m1 59) (m1 + 1) ss lz rm 120 (by omega)) ml_M_103 im_M_writes se_M_writes ini_M cd_M_writes hd_M_writes rfl (by rw [hRm]; exact ⟨⟨Nat.le_of_ble_eq_true rfl, Nat.le_of_ble_eq_true rfl⟩, Nat.le_of_ble_eq_true rfl, Nat.le_of_ble_eq_true rfl⟩) hl.1 [0, 1, 2, 3, 4, 5, 6, 7, 8, 9] [] ⟨rfl, rfl, by decide, by decide, by decide⟩ 0 rfl rfl rfl (Nat.le_of_ble_eq_true rfl) d_M_writesAll_57 (fun u_57 H locs hz_57 w => ?_)
            subst hz_57
            have w : Wd X (mw cI q0 q1 q2 q3 q4 q5 q6 q7 q8 q9 nw pt np sl sv li ot len pd ty (up (up w1 m1 59) (m1 + 1) 120) ((m1 + 1) + 1) ss lz rm) H locs := w
            refine r_iload_n (pc := 60) C d_M_writesAll_60 rfl (lv_at hl 0 rfl) ?_
            refine r_iconst (pc := 61) C d_M_writesAll_61 ?_
            refine r_icmp_le (pc := 62) (tgt := 71) C (by omega) d_M_writesAll_62 (by decide) (fun c_62 => ?_) (fun c_62 => ?_)
            · skip
              refine r_sipush (pc := 71) C d_M_writesAll_71 (by decide) ?_
              refine r_istore_n (pc := 74) (lv' := [(3, .int (iI 1000)), (2, .int (iI (nw (4 + 2 * k)))), (0, .ref q0), (1, .int (iI k))]) C d_M_writesAll_74 rfl hl (by decide) rfl (fun ls hl => ?_)
              have L75 : ∀ (fuel : Nat), ∀ (t : Int) (w2 : Int → Int) (m2 : Int) (wd : Int), DG (ln k) t wd → (ln k ≤ 1 ∧ m2 = (ps (crf ln) k + k) + 1 ∧ t = 1000) ∨ (1 < ln k ∧ m2 = (ps (crf ln) k + k) + 2 + wd) → (∀ i, 0 ≤ i → i < m2 - (ps (crf ln) k + k) → w2 ((ps (crf ln) k + k) + i) = chr_ (sg k) (ln k) i) → (∀ j, 0 ≤ j → j < k → ∀ i, 0 ≤ i → i < crl (ln j) → w2 (ps (crf ln) j + j + i) = chr_ (sg j) (ln j) i) → (∀ j, 1 ≤ j → j ≤ k → w2 (ps (crf ln) j + j - 1) = 59) → t < (fuel : Int) → ∀ (H : Heap) (locs : List Loc) (ls : Array Slot), Wd X (mw cI q0 q1 q2 q3 q4 q5 q6 q7 q8 q9 nw pt np sl sv li ot len pd ty w2 m2 ss lz rm) H locs → lv_has ls 4 [(0, .ref q0), (1, .int (iI k)), (2, .int (iI (nw (4 + 2 * k)))), (3, .int (iI t))] → GG X 0 0 H locs 75 ls [] := by
                intro fuel
                induction fuel with
                | zero =>
                  intro t w2 m2 wd ht hm2 hc hA2 hB2 hfuel
                  exact absurd hfuel (by have := DG.rg ht (by omega); omega)
                | succ fuel ih75 =>
                  intro t w2 m2 wd ht hm2 hc hA2 hB2 hfuel H locs ls w hl
                  have htr := DG.rg ht (by omega)
                  refine r_iload_n (pc := 75) C d_M_writesAll_75 rfl (lv_at hl 3 rfl) ?_
                  refine r_if_le (pc := 76) (tgt := 110) C (by omega) d_M_writesAll_76 (by decide) (fun c_76 => ?_) (fun c_76 => ?_)
                  · skip
                    have hwd := DG.done ht (by omega)
                    have hend : m2 - (ps (crf ln) k + k) = crl (ln k) := by omega
                    refine r_iinc (pc := 110) (j := 1) (lv' := [(1, .int (iI (k + 1))), (0, .ref q0), (2, .int (iI (nw (4 + 2 * k)))), (3, .int (iI t))]) C d_M_writesAll_110 hl rfl (by decide) rfl (fun ls hl => ?_)
                    refine r_goto (pc := 113) (tgt := 7) C d_M_writesAll_113 (by decide) ?_
                    exact ih7 (k + 1) w2 m2 (by omega) ((by omega)) ((fun j j1 j2 i i1 i2 => if e : j < k then hA2 j j1 e i i1 i2 else (by have e : j = k := (by omega); subst e; exact hc i i1 (by omega)))) ((fun j j1 j2 => hB2 j j1 (by omega))) (by omega) _ _ _ w (lv_sub hl [1, 0] rfl)
                  · skip
                    refine r_iload_n (pc := 79) C d_M_writesAll_79 rfl (lv_at hl 2 rfl) ?_
                    refine r_iconst (pc := 80) C d_M_writesAll_80 ?_
                    refine r_icmp_le (pc := 81) (tgt := 110) C (by omega) d_M_writesAll_81 (by decide) (fun c_81 => ?_) (fun c_81 => ?_)
                    · skip
                      have hend : m2 - (ps (crf ln) k + k) = crl (ln k) := by omega
                      refine r_iinc (pc := 110) (j := 1) (lv' := [(1, .int (iI (k + 1))), (0, .ref q0), (2, .int (iI (nw (4 + 2 * k)))), (3, .int (iI t))]) C d_M_writesAll_110 hl rfl (by decide) rfl (fun ls hl => ?_)
                      refine r_goto (pc := 113) (tgt := 7) C d_M_writesAll_113 (by decide) ?_
                      exact ih7 (k + 1) w2 m2 (by omega) ((by omega)) ((fun j j1 j2 i i1 i2 => if e : j < k then hA2 j j1 e i i1 i2 else (by have e : j = k := (by omega); subst e; exact hc i i1 (by omega)))) ((fun j j1 j2 => hB2 j j1 (by omega))) (by omega) _ _ _ w (lv_sub hl [1, 0] rfl)
                    · skip
                      refine r_iload_n (pc := 84) C d_M_writesAll_84 rfl (lv_at hl 2 rfl) ?_
                      refine r_iload_n (pc := 85) C d_M_writesAll_85 rfl (lv_at hl 3 rfl) ?_
                      refine r_icmp_lt (pc := 86) (tgt := 102) C (by omega) d_M_writesAll_86 (by decide) (fun c_86 => ?_) (fun c_86 => ?_)
                      · skip
                        refine r_iload_n (pc := 102) C d_M_writesAll_102 rfl (lv_at hl 3 rfl) ?_
                        refine r_bipush (pc := 103) C d_M_writesAll_103 (by decide) ?_
                        refine r_idiv (pc := 105) C d_M_writesAll_105 (by omega) ?_
                        refine r_istore_n (pc := 106) (lv' := [(3, .int (iI (t / 10))), (0, .ref q0), (1, .int (iI k)), (2, .int (iI (nw (4 + 2 * k))))]) C d_M_writesAll_106 rfl hl (by decide) rfl (fun ls hl => ?_)
                        refine r_goto (pc := 107) (tgt := 75) C d_M_writesAll_107 (by decide) ?_
                        exact ih75 (t / 10) w2 m2 wd ((by first | exact DG.skip ht (by omega) (by omega) (by omega) | exact (DG.write ht (by omega) (by omega) (by omega)).1)) (by omega) ((fun i i1 i2 => if e : i < m2 - (ps (crf ln) k + k) then (by first | exact hc i i1 e | (rw [up_ne _ _ (by omega)]; exact hc i i1 e)) else (by first | (exfalso; omega) | (rw [show i = 2 + wd by omega, chr_dig (by omega) htd, show (ps (crf ln) k + k) + (2 + wd) = m2 by omega, up_eq, hk3.2])))) ((fun j j1 j2 i i1 i2 => by first | exact hA2 j j1 j2 i i1 i2 | (have e1 := crf_mono hO hN3 (j := j + 1) (k := k) (by omega) (by omega) (by omega); have e2 := crf_pos hO hN3 (k := j) (by omega) (by omega); rw [up_ne _ _ (by omega)]; exact hA2 j j1 j2 i i1 i2))) ((fun j j1 j2 => by first | exact hB2 j j1 j2 | (have e1 := crf_mono hO hN3 (j := j) (k := k) (by omega) (by omega) (by omega); rw [up_ne _ _ (by omega)]; exact hB2 j j1 j2))) (by omega) _ _ _ w (lv_sub hl [1, 2, 3, 0] rfl)
                      · skip
                        have htd := (DG.write ht (by omega) (by omega) (by omega)).2
                        have hnt : 0 ≤ nw (4 + 2 * k) / t ∧ nw (4 + 2 * k) / t ≤ nw (4 + 2 * k) := ⟨Int.ediv_nonneg (by omega) (by omega), Int.ediv_le_self _ (by omega)⟩
                        refine r_aload_n (pc := 89) C d_M_writesAll_89 rfl (lv_at hl 0 rfl) ?_
                        refine r_bipush (pc := 90) C d_M_writesAll_90 (by decide) ?_
                        refine r_iload_n (pc := 92) C d_M_writesAll_92 rfl (lv_at hl 2 rfl) ?_
                        refine r_iload_n (pc := 93) C d_M_writesAll_93 rfl (lv_at hl 3 rfl) ?_
                        refine r_idiv (pc := 94) C d_M_writesAll_94 (by omega) ?_
                        refine r_bipush (pc := 95) C d_M_writesAll_95 (by decide) ?_
                        refine r_irem (pc := 97) C d_M_writesAll_97 (by omega) ?_
                        refine r_iadd (pc := 98) C d_M_writesAll_98 ?_
                        refine r_callVV (pc := 99) (As := [.int (iI (48 + (((nw (4 + 2 * k)) / t) % 10)))]) (rest := []) (wr := []) C w (c_M_writes hT q0 q1 q2 q3 q4 q5 q6 q7 q8 q9 nw pt np sl sv li ot len pd ty w2 m2 ss lz rm (48 + (((nw (4 + 2 * k)) / t) % 10)) (by omega)) ml_M_103 im_M_writes se_M_writes ini_M cd_M_writes hd_M_writes rfl (by rw [hRm]; exact ⟨⟨Nat.le_of_ble_eq_true rfl, Nat.le_of_ble_eq_true rfl⟩, Nat.le_of_ble_eq_true rfl, Nat.le_of_ble_eq_true rfl⟩) hl.1 [0, 1, 2, 3, 4, 5, 6, 7, 8, 9] [] ⟨rfl, rfl, by decide, by decide, by decide⟩ 0 rfl rfl rfl (Nat.le_of_ble_eq_true rfl) d_M_writesAll_99 (fun u_99 H locs hz_99 w => ?_)
                        subst hz_99
                        have w : Wd X (mw cI q0 q1 q2 q3 q4 q5 q6 q7 q8 q9 nw pt np sl sv li ot len pd ty (up w2 m2 (48 + (((nw (4 + 2 * k)) / t) % 10))) (m2 + 1) ss lz rm) H locs := w
                        refine r_iload_n (pc := 102) C d_M_writesAll_102 rfl (lv_at hl 3 rfl) ?_
                        refine r_bipush (pc := 103) C d_M_writesAll_103 (by decide) ?_
                        refine r_idiv (pc := 105) C d_M_writesAll_105 (by omega) ?_
                        refine r_istore_n (pc := 106) (lv' := [(3, .int (iI (t / 10))), (0, .ref q0), (1, .int (iI k)), (2, .int (iI (nw (4 + 2 * k))))]) C d_M_writesAll_106 rfl hl (by decide) rfl (fun ls hl => ?_)
                        refine r_goto (pc := 107) (tgt := 75) C d_M_writesAll_107 (by decide) ?_
                        exact ih75 (t / 10) (up w2 m2 (48 + (((nw (4 + 2 * k)) / t) % 10))) (m2 + 1) (wd + 1) ((by first | exact DG.skip ht (by omega) (by omega) (by omega) | exact (DG.write ht (by omega) (by omega) (by omega)).1)) (by omega) ((fun i i1 i2 => if e : i < m2 - (ps (crf ln) k + k) then (by first | exact hc i i1 e | (rw [up_ne _ _ (by omega)]; exact hc i i1 e)) else (by first | (exfalso; omega) | (rw [show i = 2 + wd by omega, chr_dig (by omega) htd, show (ps (crf ln) k + k) + (2 + wd) = m2 by omega, up_eq, hk3.2])))) ((fun j j1 j2 i i1 i2 => by first | exact hA2 j j1 j2 i i1 i2 | (have e1 := crf_mono hO hN3 (j := j + 1) (k := k) (by omega) (by omega) (by omega); have e2 := crf_pos hO hN3 (k := j) (by omega) (by omega); rw [up_ne _ _ (by omega)]; exact hA2 j j1 j2 i i1 i2))) ((fun j j1 j2 => by first | exact hB2 j j1 j2 | (have e1 := crf_mono hO hN3 (j := j) (k := k) (by omega) (by omega) (by omega); rw [up_ne _ _ (by omega)]; exact hB2 j j1 j2))) (by omega) _ _ _ w (lv_sub hl [1, 2, 3, 0] rfl)
              exact L75 (1000 + 1 : Int).toNat 1000 (up (up w1 m1 59) (m1 + 1) 120) ((m1 + 1) + 1) 0 (DG.init _) (by first | omega | rfl) ((fun i i1 i2 => if e : i = 0 then (by rw [e, chr_0]; unfold up; (repeat' split) <;> first | omega | (exfalso; omega)) else (by rw [show i = 1 by omega, chr_1]; unfold up; (repeat' split) <;> first | omega | (exfalso; omega)))) ((fun j j1 j2 i i1 i2 => by have e1 := crf_mono hO hN3 (j := j + 1) (k := k) (by omega) (by omega) (by omega); have e2 := crf_pos hO hN3 (k := j) (by omega) (by omega); unfold up; (repeat' split) <;> first | (exfalso; omega) | exact hA j j1 j2 i i1 i2)) ((fun j j1 j2 => if e : j = k then (by rw [e]; unfold up; (repeat' split) <;> first | omega | (exfalso; omega)) else (by have e3 := crf_mono hO hN3 (j := j) (k := k) (by omega) (by omega) (by omega); unfold up; (repeat' split) <;> first | (exfalso; omega) | exact hB j j1 (by omega)))) (by omega) _ _ _ w (lv_sub hl [2, 3, 1, 0] rfl)
            · skip
              refine r_aload_n (pc := 65) C d_M_writesAll_65 rfl (lv_at hl 1 rfl) ?_
              refine r_bipush (pc := 66) C d_M_writesAll_66 (by decide) ?_
              refine r_callVV (pc := 68) (As := [.int (iI 42)]) (rest := []) (wr := []) C w (c_M_writes hT q0 q1 q2 q3 q4 q5 q6 q7 q8 q9 nw pt np sl sv li ot len pd ty (up (up w1 m1 59) (m1 + 1) 120) ((m1 + 1) + 1) ss lz rm 42 (by omega)) ml_M_103 im_M_writes se_M_writes ini_M cd_M_writes hd_M_writes rfl (by rw [hRm]; exact ⟨⟨Nat.le_of_ble_eq_true rfl, Nat.le_of_ble_eq_true rfl⟩, Nat.le_of_ble_eq_true rfl, Nat.le_of_ble_eq_true rfl⟩) hl.1 [0, 1, 2, 3, 4, 5, 6, 7, 8, 9] [] ⟨rfl, rfl, by decide, by decide, by decide⟩ 0 rfl rfl rfl (Nat.le_of_ble_eq_true rfl) d_M_writesAll_68 (fun u_68 H locs hz_68 w => ?_)
              subst hz_68
              have w : Wd X (mw cI q0 q1 q2 q3 q4 q5 q6 q7 q8 q9 nw pt np sl sv li ot len pd ty (up (up (up w1 m1 59) (m1 + 1) 120) ((m1 + 1) + 1) 42) (((m1 + 1) + 1) + 1) ss lz rm) H locs := w
              refine r_sipush (pc := 71) C d_M_writesAll_71 (by decide) ?_
              refine r_istore_n (pc := 74) (lv' := [(3, .int (iI 1000)), (2, .int (iI (nw (4 + 2 * k)))), (0, .ref q0), (1, .int (iI k))]) C d_M_writesAll_74 rfl hl (by decide) rfl (fun ls hl => ?_)
              have L75 : ∀ (fuel : Nat), ∀ (t : Int) (w2 : Int → Int) (m2 : Int) (wd : Int), DG (ln k) t wd → (ln k ≤ 1 ∧ m2 = (ps (crf ln) k + k) + 1 ∧ t = 1000) ∨ (1 < ln k ∧ m2 = (ps (crf ln) k + k) + 2 + wd) → (∀ i, 0 ≤ i → i < m2 - (ps (crf ln) k + k) → w2 ((ps (crf ln) k + k) + i) = chr_ (sg k) (ln k) i) → (∀ j, 0 ≤ j → j < k → ∀ i, 0 ≤ i → i < crl (ln j) → w2 (ps (crf ln) j + j + i) = chr_ (sg j) (ln j) i) → (∀ j, 1 ≤ j → j ≤ k → w2 (ps (crf ln) j + j - 1) = 59) → t < (fuel : Int) → ∀ (H : Heap) (locs : List Loc) (ls : Array Slot), Wd X (mw cI q0 q1 q2 q3 q4 q5 q6 q7 q8 q9 nw pt np sl sv li ot len pd ty w2 m2 ss lz rm) H locs → lv_has ls 4 [(0, .ref q0), (1, .int (iI k)), (2, .int (iI (nw (4 + 2 * k)))), (3, .int (iI t))] → GG X 0 0 H locs 75 ls [] := by
                intro fuel
                induction fuel with
                | zero =>
                  intro t w2 m2 wd ht hm2 hc hA2 hB2 hfuel
                  exact absurd hfuel (by have := DG.rg ht (by omega); omega)
                | succ fuel ih75 =>
                  intro t w2 m2 wd ht hm2 hc hA2 hB2 hfuel H locs ls w hl
                  have htr := DG.rg ht (by omega)
                  refine r_iload_n (pc := 75) C d_M_writesAll_75 rfl (lv_at hl 3 rfl) ?_
                  refine r_if_le (pc := 76) (tgt := 110) C (by omega) d_M_writesAll_76 (by decide) (fun c_76 => ?_) (fun c_76 => ?_)
                  · skip
                    have hwd := DG.done ht (by omega)
                    have hend : m2 - (ps (crf ln) k + k) = crl (ln k) := by omega
                    refine r_iinc (pc := 110) (j := 1) (lv' := [(1, .int (iI (k + 1))), (0, .ref q0), (2, .int (iI (nw (4 + 2 * k)))), (3, .int (iI t))]) C d_M_writesAll_110 hl rfl (by decide) rfl (fun ls hl => ?_)
                    refine r_goto (pc := 113) (tgt := 7) C d_M_writesAll_113 (by decide) ?_
                    exact ih7 (k + 1) w2 m2 (by omega) ((by omega)) ((fun j j1 j2 i i1 i2 => if e : j < k then hA2 j j1 e i i1 i2 else (by have e : j = k := (by omega); subst e; exact hc i i1 (by omega)))) ((fun j j1 j2 => hB2 j j1 (by omega))) (by omega) _ _ _ w (lv_sub hl [1, 0] rfl)
                  · skip
                    refine r_iload_n (pc := 79) C d_M_writesAll_79 rfl (lv_at hl 2 rfl) ?_
                    refine r_iconst (pc := 80) C d_M_writesAll_80 ?_
                    refine r_icmp_le (pc := 81) (tgt := 110) C (by omega) d_M_writesAll_81 (by decide) (fun c_81 => ?_) (fun c_81 => ?_)
                    · skip
                      have hend : m2 - (ps (crf ln) k + k) = crl (ln k) := by omega
                      refine r_iinc (pc := 110) (j := 1) (lv' := [(1, .int (iI (k + 1))), (0, .ref q0), (2, .int (iI (nw (4 + 2 * k)))), (3, .int (iI t))]) C d_M_writesAll_110 hl rfl (by decide) rfl (fun ls hl => ?_)
                      refine r_goto (pc := 113) (tgt := 7) C d_M_writesAll_113 (by decide) ?_
                      exact ih7 (k + 1) w2 m2 (by omega) ((by omega)) ((fun j j1 j2 i i1 i2 => if e : j < k then hA2 j j1 e i i1 i2 else (by have e : j = k := (by omega); subst e; exact hc i i1 (by omega)))) ((fun j j1 j2 => hB2 j j1 (by omega))) (by omega) _ _ _ w (lv_sub hl [1, 0] rfl)
                    · skip
                      refine r_iload_n (pc := 84) C d_M_writesAll_84 rfl (lv_at hl 2 rfl) ?_
                      refine r_iload_n (pc := 85) C d_M_writesAll_85 rfl (lv_at hl 3 rfl) ?_
                      refine r_icmp_lt (pc := 86) (tgt := 102) C (by omega) d_M_writesAll_86 (by decide) (fun c_86 => ?_) (fun c_86 => ?_)
                      · skip
                        refine r_iload_n (pc := 102) C d_M_writesAll_102 rfl (lv_at hl 3 rfl) ?_
                        refine r_bipush (pc := 103) C d_M_writesAll_103 (by decide) ?_
                        refine r_idiv (pc := 105) C d_M_writesAll_105 (by omega) ?_
                        refine r_istore_n (pc := 106) (lv' := [(3, .int (iI (t / 10))), (0, .ref q0), (1, .int (iI k)), (2, .int (iI (nw (4 + 2 * k))))]) C d_M_writesAll_106 rfl hl (by decide) rfl (fun ls hl => ?_)
                        refine r_goto (pc := 107) (tgt := 75) C d_M_writesAll_107 (by decide) ?_
                        exact ih75 (t / 10) w2 m2 wd ((by first | exact DG.skip ht (by omega) (by omega) (by omega) | exact (DG.write ht (by omega) (by omega) (by omega)).1)) (by omega) ((fun i i1 i2 => if e : i < m2 - (ps (crf ln) k + k) then (by first | exact hc i i1 e | (rw [up_ne _ _ (by omega)]; exact hc i i1 e)) else (by first | (exfalso; omega) | (rw [show i = 2 + wd by omega, chr_dig (by omega) htd, show (ps (crf ln) k + k) + (2 + wd) = m2 by omega, up_eq, hk3.2])))) ((fun j j1 j2 i i1 i2 => by first | exact hA2 j j1 j2 i i1 i2 | (have e1 := crf_mono hO hN3 (j := j + 1) (k := k) (by omega) (by omega) (by omega); have e2 := crf_pos hO hN3 (k := j) (by omega) (by omega); rw [up_ne _ _ (by omega)]; exact hA2 j j1 j2 i i1 i2))) ((fun j j1 j2 => by first | exact hB2 j j1 j2 | (have e1 := crf_mono hO hN3 (j := j) (k := k) (by omega) (by omega) (by omega); rw [up_ne _ _ (by omega)]; exact hB2 j j1 j2))) (by omega) _ _ _ w (lv_sub hl [1, 2, 3, 0] rfl)
                      · skip
                        have htd := (DG.write ht (by omega) (by omega) (by omega)).2
                        have hnt : 0 ≤ nw (4 + 2 * k) / t ∧ nw (4 + 2 * k) / t ≤ nw (4 + 2 * k) := ⟨Int.ediv_nonneg (by omega) (by omega), Int.ediv_le_self _ (by omega)⟩
                        refine r_aload_n (pc := 89) C d_M_writesAll_89 rfl (lv_at hl 0 rfl) ?_
                        refine r_bipush (pc := 90) C d_M_writesAll_90 (by decide) ?_
                        refine r_iload_n (pc := 92) C d_M_writesAll_92 rfl (lv_at hl 2 rfl) ?_
                        refine r_iload_n (pc := 93) C d_M_writesAll_93 rfl (lv_at hl 3 rfl) ?_
                        refine r_idiv (pc := 94) C d_M_writesAll_94 (by omega) ?_
                        refine r_bipush (pc := 95) C d_M_writesAll_95 (by decide) ?_
                        refine r_irem (pc := 97) C d_M_writesAll_97 (by omega) ?_
                        refine r_iadd (pc := 98) C d_M_writesAll_98 ?_
                        refine r_callVV (pc := 99) (As := [.int (iI (48 + (((nw (4 + 2 * k)) / t) % 10)))]) (rest := []) (wr := []) C w (c_M_writes hT q0 q1 q2 q3 q4 q5 q6 q7 q8 q9 nw pt np sl sv li ot len pd ty w2 m2 ss lz rm (48 + (((nw (4 + 2 * k)) / t) % 10)) (by omega)) ml_M_103 im_M_writes se_M_writes ini_M cd_M_writes hd_M_writes rfl (by rw [hRm]; exact ⟨⟨Nat.le_of_ble_eq_true rfl, Nat.le_of_ble_eq_true rfl⟩, Nat.le_of_ble_eq_true rfl, Nat.le_of_ble_eq_true rfl⟩) hl.1 [0, 1, 2, 3, 4, 5, 6, 7, 8, 9] [] ⟨rfl, rfl, by decide, by decide, by decide⟩ 0 rfl rfl rfl (Nat.le_of_ble_eq_true rfl) d_M_writesAll_99 (fun u_99 H locs hz_99 w => ?_)
                        subst hz_99
                        have w : Wd X (mw cI q0 q1 q2 q3 q4 q5 q6 q7 q8 q9 nw pt np sl sv li ot len pd ty (up w2 m2 (48 + (((nw (4 + 2 * k)) / t) % 10))) (m2 + 1) ss lz rm) H locs := w
                        refine r_iload_n (pc := 102) C d_M_writesAll_102 rfl (lv_at hl 3 rfl) ?_
                        refine r_bipush (pc := 103) C d_M_writesAll_103 (by decide) ?_
                        refine r_idiv (pc := 105) C d_M_writesAll_105 (by omega) ?_
                        refine r_istore_n (pc := 106) (lv' := [(3, .int (iI (t / 10))), (0, .ref q0), (1, .int (iI k)), (2, .int (iI (nw (4 + 2 * k))))]) C d_M_writesAll_106 rfl hl (by decide) rfl (fun ls hl => ?_)
                        refine r_goto (pc := 107) (tgt := 75) C d_M_writesAll_107 (by decide) ?_
                        exact ih75 (t / 10) (up w2 m2 (48 + (((nw (4 + 2 * k)) / t) % 10))) (m2 + 1) (wd + 1) ((by first | exact DG.skip ht (by omega) (by omega) (by omega) | exact (DG.write ht (by omega) (by omega) (by omega)).1)) (by omega) ((fun i i1 i2 => if e : i < m2 - (ps (crf ln) k + k) then (by first | exact hc i i1 e | (rw [up_ne _ _ (by omega)]; exact hc i i1 e)) else (by first | (exfalso; omega) | (rw [show i = 2 + wd by omega, chr_dig (by omega) htd, show (ps (crf ln) k + k) + (2 + wd) = m2 by omega, up_eq, hk3.2])))) ((fun j j1 j2 i i1 i2 => by first | exact hA2 j j1 j2 i i1 i2 | (have e1 := crf_mono hO hN3 (j := j + 1) (k := k) (by omega) (by omega) (by omega); have e2 := crf_pos hO hN3 (k := j) (by omega) (by omega); rw [up_ne _ _ (by omega)]; exact hA2 j j1 j2 i i1 i2))) ((fun j j1 j2 => by first | exact hB2 j j1 j2 | (have e1 := crf_mono hO hN3 (j := j) (k := k) (by omega) (by omega) (by omega); rw [up_ne _ _ (by omega)]; exact hB2 j j1 j2))) (by omega) _ _ _ w (lv_sub hl [1, 2, 3, 0] rfl)
              exact L75 (1000 + 1 : Int).toNat 1000 (up (up (up w1 m1 59) (m1 + 1) 120) ((m1 + 1) + 1) 42) (((m1 + 1) + 1) + 1) 0 (DG.init _) (by first | omega | rfl) ((fun i i1 i2 => if e : i = 0 then (by rw [e, chr_0]; unfold up; (repeat' split) <;> first | omega | (exfalso; omega)) else (by rw [show i = 1 by omega, chr_1]; unfold up; (repeat' split) <;> first | omega | (exfalso; omega)))) ((fun j j1 j2 i i1 i2 => by have e1 := crf_mono hO hN3 (j := j + 1) (k := k) (by omega) (by omega) (by omega); have e2 := crf_pos hO hN3 (k := j) (by omega) (by omega); unfold up; (repeat' split) <;> first | (exfalso; omega) | exact hA j j1 j2 i i1 i2)) ((fun j j1 j2 => if e : j = k then (by rw [e]; unfold up; (repeat' split) <;> first | omega | (exfalso; omega)) else (by have e3 := crf_mono hO hN3 (j := j) (k := k) (by omega) (by omega) (by omega); unfold up; (repeat' split) <;> first | (exfalso; omega) | exact hB j j1 (by omega)))) (by omega) _ _ _ w (lv_sub hl [2, 3, 1, 0] rfl)
  exact L7 ((r - 0) + 1 : Int).toNat 0 wr 0 (by first | omega | rfl) (by first | omega | rfl) ((fun j j1 j2 i i1 i2 => by omega)) ((fun j j1 j2 => by omega)) (by omega) _ _ _ w (lv_sub hl [1, 0] rfl)
