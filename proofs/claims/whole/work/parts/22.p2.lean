/-! fault, load; the pad of the class -/
def Sp_fault (A : AS) (z : Int) (A' : AS) : Prop := match A with | ((lc, sd, r, sg, ln, N, v), hist, rcd, slot, uf, T, m) => A' = A ∧ Flt T m z
/-- load: what the pad says becomes the row -/
def Sp_load (A : AS) (z : Int) (A' : AS) : Prop := match A with | ((lc, sd, r, sg, ln, N, v), hist, rcd, slot, uf, T, m) => (∃ f, Flt T m f ∧ f ≠ -6 ∧ z = -3 ∧ A' = A) ∨ (Flt T m (-6) ∧ ¬ fits_ (ps (pst T m).2.2.2 (pst T m).2.1) (ex (pst T m).2.2.1 (pst T m).2.2.2 (pst T m).2.1) ∧ z = -4 ∧ A' = A) ∨ (Flt T m (-6) ∧ fits_ (ps (pst T m).2.2.2 (pst T m).2.1) (ex (pst T m).2.2.1 (pst T m).2.2.2 (pst T m).2.1) ∧ z = rc (ex (pst T m).2.2.1 (pst T m).2.2.2 (pst T m).2.1) (ps (pst T m).2.2.2 (pst T m).2.1) ∧ ∃ w' hist' rcd', Pushed A (w', hist', rcd', slot, uf, T, m) lc sd (ps (pst T m).2.2.2 (pst T m).2.1) (ex (pst T m).2.2.1 (pst T m).2.2.2 (pst T m).2.1) ∧ A' = (w', hist', rcd', slot, uf, T, 0))
theorem pst_congr {T U : Int → Int} : ∀ k, 0 ≤ k → (∀ x, 0 ≤ x → x < k → T x = U x) → pst T k = pst U k := by
  refine int_ind (fun _ => rfl) (fun k hk ih h => ?_)
  rw [pst_succ T hk, pst_succ U hk, ih (fun x h1 h2 => h x h1 (by omega)), h k hk (by omega)]
theorem ex_at {S L : Int → Int} : ∀ k, 0 ≤ k → (∀ j, 0 ≤ j → j < k → 0 ≤ L j) → ∀ j, 0 ≤ j → j < k → ∀ x, ps L j ≤ x → x < ps L (j + 1) → ex S L k x = S j := by
  refine int_ind (fun _ j j1 j2 => by omega) (fun k hk ih h j j1 j2 x x1 x2 => ?_)
  rw [ex_succ S L hk]
  by_cases e : j = k
  · subst e; rw [app_ge x1]
  · have := ps_le (f := L) (j := j + 1) (k := k) (by omega) (by omega) (fun i i1 i2 => h i i1 (by omega))
    rw [app_lt (by omega)]
    exact ih (fun i i1 i2 => h i i1 (by omega)) j j1 (by omega) x x1 x2

theorem d_M_fault_0 : decode b_M_fault 0 = .ok (.aload_n 0, 1) := by decide +kernel
theorem d_M_fault_1 : decode b_M_fault 1 = .ok (.invokevirtual 140, 3) := by decide +kernel
theorem d_M_fault_4 : decode b_M_fault 4 = .ok (.ireturn, 1) := by decide +kernel
set_option maxHeartbeats 4000000 in
set_option maxRecDepth 20000 in
theorem c_M_fault {l : Launch} {G : va_G} {tys : List (ClassId × FieldType)} {cI cO cZ : ClassId} (hT : TY tys cI cO cZ) (q0 : Nat) (A A' : AS) (z : Int) (ws : va_W) (hA : MW cI q0 A ws) (hS : Sp_fault  A z A') : CTI l G tys y_M_fault b_M_fault 1 .int 2 46 [.ref q0] ws (fun z' u => z' = z ∧ MW cI q0 A' u) := by
  obtain ⟨⟨lc, sd, r, sg, ln, N, v⟩, hist, rcd, slot, uf, T, m⟩ := A
  obtain ⟨hR, q1, q2, q3, q4, q5, q6, q7, q8, q9, nw, pt, sl, sv, li, ot, len, pd, wr, wm, ss, lz, rm, rfl, hM, hC⟩ := hA
  have hO := hR.1
  have hr5 := hR.2.1
  have hN3 := hR.2.2.1
  have hN0 := hO.n0
  have hr0 := hO.1
  have hlcd := hR.2.2.2
  have hm80 := hC.2.2.2.2.1
  have hrcd6 := hC.1
  have hvr := hO.v_rg
  have hm0 : nw 0 = lc := hM.1
  have hm1 : nw 1 = sd := hM.2.1
  have hm2 : nw 2 = r := hM.2.2.1
  refine mkI (by decide) (Nat.le_of_ble_eq_true rfl) ?_
  rintro X rfl rfl rfl hRm C kret H ls w hl
  have hl : lv_has ls 1 [(0, .ref q0)] := hl
  have w : Wd X (mw cI q0 q1 q2 q3 q4 q5 q6 q7 q8 q9 nw pt rcd sl sv li ot len pd m wr wm ss lz rm) H [] := w
  generalize ([] : List Loc) = locs at w ⊢
  refine r_aload_n (pc := 0) C d_M_fault_0 rfl (lv_at hl 0 rfl) ?_
  refine r_callVI (pc := 1) (As := []) (rest := []) (wr := []) C w (c_M_faultOf hT q0 q1 q2 q3 q4 q5 q6 q7 q8 q9 nw pt rcd sl sv li ot len pd m wr wm ss lz rm  T (by omega) hC.2.2.2.2.2) ml_M_140 im_M_faultOf se_M_faultOf ini_M cd_M_faultOf hd_M_faultOf rfl (by rw [hRm]; exact ⟨⟨Nat.le_of_ble_eq_true rfl, Nat.le_of_ble_eq_true rfl⟩, Nat.le_of_ble_eq_true rfl, Nat.le_of_ble_eq_true rfl⟩) hl.1 [0, 1, 2, 3, 4, 5, 6, 7, 8, 9] [] ⟨rfl, rfl, by decide, by decide, by decide⟩ 0 rfl rfl rfl (Nat.le_of_ble_eq_true rfl) d_M_fault_1 (fun z_1 u_1 H locs hz_1 w => ?_)
  obtain ⟨ss_1, lz_1, rm_1, rfl, hF_1, hG_1⟩ := hz_1
  have w : Wd X (mw cI q0 q1 q2 q3 q4 q5 q6 q7 q8 q9 nw pt rcd sl sv li ot len pd m wr wm ss_1 lz_1 rm_1) H locs := w
  exact kret _ _ _ _ z_1 _ d_M_fault_4 w (by obtain ⟨rfl, hS9⟩ := hS; exact ⟨Flt.uniq hF_1 hS9, hR, q1, q2, q3, q4, q5, q6, q7, q8, q9, nw, pt, sl, sv, _, _, _, pd, _, _, _, _, _, rfl, hM, hC⟩)
theorem ex_rg {S L : Int → Int} {c : Int} (hc : 0 ≤ c) (h : ∀ j, 0 ≤ j → j < c → 1 ≤ L j ∧ L j ≤ 3000 ∧ 0 ≤ S j ∧ S j ≤ 10) : ∀ x, 0 ≤ x → x < ps L c → 0 ≤ ex S L c x ∧ ex S L c x ≤ 10 := by
  have key : ∀ k, 0 ≤ k → k ≤ c → ∀ x, 0 ≤ x → x < ps L k → 0 ≤ ex S L k x ∧ ex S L k x ≤ 10 := by
    refine int_ind (fun _ x h1 h2 => by rw [ps_zero] at h2; omega) (fun k hk ih h1 x h2 h3 => ?_)
    have g := h k hk (by omega)
    rw [ex_succ S L hk]
    by_cases q : x < ps L k
    · rw [app_lt q]; exact ih (by omega) x h2 q
    · rw [app_ge (by omega)]; omega
  exact key c hc (by omega)
theorem push0 {w w' : Rw} {hist hist' slot : Int → Rw} {rcd rcd' m lc1 sd1 N1 : Int} {uf T v1 : Int → Int} (h : Pushed (w, hist, rcd, slot, uf, T, m) (w', hist', rcd', slot, uf, T, m) lc1 sd1 N1 v1) : Pushed (w, hist, rcd, slot, uf, T, 0) (w', hist', rcd', slot, uf, T, 0) lc1 sd1 N1 v1 := by
  obtain ⟨lc', sd', r', sg', ln', N', v'⟩ := w'
  obtain ⟨e1, e2, e3, e4, e5, e6, e7, e8, e9, hh⟩ := h
  exact ⟨e1, e2, e3, e4, e5, rfl, rfl, rfl, rfl, hh⟩
theorem MC.wipe {pt sl : Int → Int} {sv : Int} {pd : Int → Int} {hist : Int → Rw} {rcd : Int} {slot : Int → Rw} {uf T : Int → Int} {m : Int} (h : MC pt sl sv pd hist rcd slot uf T m) : MC pt sl sv pd hist rcd slot uf T 0 := ⟨h.1, h.2.1, h.2.2.1, h.2.2.2.1, by omega, fun x h1 h2 => by omega⟩
theorem Flt.rg {T : Int → Int} {m z : Int} (h : Flt T m z) (hm : 0 ≤ m ∧ m ≤ 80) : -6 ≤ z ∧ z ≤ 80 := by
  rcases h with ⟨k, k1, k2, k3, k4, k5⟩ | ⟨h1, h2, h3⟩ | ⟨h1, h2, h3⟩ <;> omega
theorem d_M_load_0 : decode b_M_load 0 = .ok (.aload_n 0, 1) := by decide +kernel
theorem d_M_load_1 : decode b_M_load 1 = .ok (.invokevirtual 140, 3) := by decide +kernel
theorem d_M_load_4 : decode b_M_load 4 = .ok (.bipush (-6), 2) := by decide +kernel
theorem d_M_load_6 : decode b_M_load 6 = .ok (.if_icmp .eq 6, 3) := by decide +kernel
theorem d_M_load_9 : decode b_M_load 9 = .ok (.bipush (-3), 2) := by decide +kernel
theorem d_M_load_11 : decode b_M_load 11 = .ok (.ireturn, 1) := by decide +kernel
theorem d_M_load_12 : decode b_M_load 12 = .ok (.aload_n 0, 1) := by decide +kernel
theorem d_M_load_13 : decode b_M_load 13 = .ok (.iconst 0, 1) := by decide +kernel
theorem d_M_load_14 : decode b_M_load 14 = .ok (.putfield 52, 3) := by decide +kernel
theorem d_M_load_17 : decode b_M_load 17 = .ok (.iconst 0, 1) := by decide +kernel
theorem d_M_load_18 : decode b_M_load 18 = .ok (.istore_n 1, 1) := by decide +kernel
theorem d_M_load_19 : decode b_M_load 19 = .ok (.iload_n 1, 1) := by decide +kernel
theorem d_M_load_20 : decode b_M_load 20 = .ok (.aload_n 0, 1) := by decide +kernel
theorem d_M_load_21 : decode b_M_load 21 = .ok (.getfield 137, 3) := by decide +kernel
theorem d_M_load_24 : decode b_M_load 24 = .ok (.if_icmp .ge 62, 3) := by decide +kernel
theorem d_M_load_27 : decode b_M_load 27 = .ok (.iconst 0, 1) := by decide +kernel
theorem d_M_load_28 : decode b_M_load 28 = .ok (.istore_n 2, 1) := by decide +kernel
theorem d_M_load_29 : decode b_M_load 29 = .ok (.iload_n 2, 1) := by decide +kernel
theorem d_M_load_30 : decode b_M_load 30 = .ok (.aload_n 0, 1) := by decide +kernel
theorem d_M_load_31 : decode b_M_load 31 = .ok (.getfield 34, 3) := by decide +kernel
theorem d_M_load_34 : decode b_M_load 34 = .ok (.iload_n 1, 1) := by decide +kernel
theorem d_M_load_35 : decode b_M_load 35 = .ok (.iaload, 1) := by decide +kernel
theorem d_M_load_36 : decode b_M_load 36 = .ok (.if_icmp .ge 44, 3) := by decide +kernel
theorem d_M_load_39 : decode b_M_load 39 = .ok (.aload_n 0, 1) := by decide +kernel
theorem d_M_load_40 : decode b_M_load 40 = .ok (.getfield 52, 3) := by decide +kernel
theorem d_M_load_43 : decode b_M_load 43 = .ok (.sipush 6000, 3) := by decide +kernel
theorem d_M_load_46 : decode b_M_load 46 = .ok (.if_icmp .ge 34, 3) := by decide +kernel
theorem d_M_load_49 : decode b_M_load 49 = .ok (.aload_n 0, 1) := by decide +kernel
theorem d_M_load_50 : decode b_M_load 50 = .ok (.getfield 19, 3) := by decide +kernel
theorem d_M_load_53 : decode b_M_load 53 = .ok (.aload_n 0, 1) := by decide +kernel
theorem d_M_load_54 : decode b_M_load 54 = .ok (.getfield 52, 3) := by decide +kernel
theorem d_M_load_57 : decode b_M_load 57 = .ok (.aload_n 0, 1) := by decide +kernel
theorem d_M_load_58 : decode b_M_load 58 = .ok (.getfield 31, 3) := by decide +kernel
theorem d_M_load_61 : decode b_M_load 61 = .ok (.iload_n 1, 1) := by decide +kernel
theorem d_M_load_62 : decode b_M_load 62 = .ok (.iaload, 1) := by decide +kernel
theorem d_M_load_63 : decode b_M_load 63 = .ok (.iastore, 1) := by decide +kernel
theorem d_M_load_64 : decode b_M_load 64 = .ok (.aload_n 0, 1) := by decide +kernel
theorem d_M_load_65 : decode b_M_load 65 = .ok (.dup, 1) := by decide +kernel
theorem d_M_load_66 : decode b_M_load 66 = .ok (.getfield 52, 3) := by decide +kernel
theorem d_M_load_69 : decode b_M_load 69 = .ok (.iconst 1, 1) := by decide +kernel
theorem d_M_load_70 : decode b_M_load 70 = .ok (.iadd, 1) := by decide +kernel
theorem d_M_load_71 : decode b_M_load 71 = .ok (.putfield 52, 3) := by decide +kernel
theorem d_M_load_74 : decode b_M_load 74 = .ok (.iinc 2 1, 3) := by decide +kernel
theorem d_M_load_77 : decode b_M_load 77 = .ok (.goto (-48), 3) := by decide +kernel
theorem d_M_load_80 : decode b_M_load 80 = .ok (.iinc 1 1, 3) := by decide +kernel
theorem d_M_load_83 : decode b_M_load 83 = .ok (.goto (-64), 3) := by decide +kernel
theorem d_M_load_86 : decode b_M_load 86 = .ok (.aload_n 0, 1) := by decide +kernel
theorem d_M_load_87 : decode b_M_load 87 = .ok (.invokevirtual 58, 3) := by decide +kernel
theorem d_M_load_90 : decode b_M_load 90 = .ok (.istore_n 1, 1) := by decide +kernel
theorem d_M_load_91 : decode b_M_load 91 = .ok (.aload_n 0, 1) := by decide +kernel
theorem d_M_load_92 : decode b_M_load 92 = .ok (.invokevirtual 65, 3) := by decide +kernel
theorem d_M_load_95 : decode b_M_load 95 = .ok (.ifCond .eq 6, 3) := by decide +kernel
theorem d_M_load_98 : decode b_M_load 98 = .ok (.bipush (-4), 2) := by decide +kernel
theorem d_M_load_100 : decode b_M_load 100 = .ok (.ireturn, 1) := by decide +kernel
theorem d_M_load_101 : decode b_M_load 101 = .ok (.aload_n 0, 1) := by decide +kernel
theorem d_M_load_102 : decode b_M_load 102 = .ok (.iconst 0, 1) := by decide +kernel
theorem d_M_load_103 : decode b_M_load 103 = .ok (.putfield 119, 3) := by decide +kernel
theorem d_M_load_106 : decode b_M_load 106 = .ok (.aload_n 0, 1) := by decide +kernel
theorem d_M_load_107 : decode b_M_load 107 = .ok (.iload_n 1, 1) := by decide +kernel
theorem d_M_load_108 : decode b_M_load 108 = .ok (.invokevirtual 79, 3) := by decide +kernel
theorem d_M_load_111 : decode b_M_load 111 = .ok (.ireturn, 1) := by decide +kernel
set_option maxHeartbeats 4000000 in
set_option maxRecDepth 20000 in
theorem c_M_load {l : Launch} {G : va_G} {tys : List (ClassId × FieldType)} {cI cO cZ : ClassId} (hT : TY tys cI cO cZ) (q0 : Nat) (A A' : AS) (z : Int) (ws : va_W) (hA : MW cI q0 A ws) (hS : Sp_load  A z A') : CTI l G tys y_M_load b_M_load 3 .int 4 88 [.ref q0] ws (fun z' u => z' = z ∧ MW cI q0 A' u) := by
  obtain ⟨⟨lc, sd, r, sg, ln, N, v⟩, hist, rcd, slot, uf, T, m⟩ := A
  obtain ⟨hR, q1, q2, q3, q4, q5, q6, q7, q8, q9, nw, pt, sl, sv, li, ot, len, pd, wr, wm, ss, lz, rm, rfl, hM, hC⟩ := hA
  have hO := hR.1
  have hr5 := hR.2.1
  have hN3 := hR.2.2.1
  have hN0 := hO.n0
  have hr0 := hO.1
  have hlcd := hR.2.2.2
  have hm80 := hC.2.2.2.2.1
  have hrcd6 := hC.1
  have hvr := hO.v_rg
  have hm0 : nw 0 = lc := hM.1
  have hm1 : nw 1 = sd := hM.2.1
  have hm2 : nw 2 = r := hM.2.2.1
  refine mkI (by decide) (Nat.le_of_ble_eq_true rfl) ?_
  rintro X rfl rfl rfl hRm C kret H ls w hl
  have hl : lv_has ls 3 [(0, .ref q0)] := hl
  have w : Wd X (mw cI q0 q1 q2 q3 q4 q5 q6 q7 q8 q9 nw pt rcd sl sv li ot len pd m wr wm ss lz rm) H [] := w
  generalize ([] : List Loc) = locs at w ⊢
  refine r_aload_n (pc := 0) C d_M_load_0 rfl (lv_at hl 0 rfl) ?_
  refine r_callVI (pc := 1) (As := []) (rest := []) (wr := []) C w (c_M_faultOf hT q0 q1 q2 q3 q4 q5 q6 q7 q8 q9 nw pt rcd sl sv li ot len pd m wr wm ss lz rm  T (by omega) hC.2.2.2.2.2) ml_M_140 im_M_faultOf se_M_faultOf ini_M cd_M_faultOf hd_M_faultOf rfl (by rw [hRm]; exact ⟨⟨Nat.le_of_ble_eq_true rfl, Nat.le_of_ble_eq_true rfl⟩, Nat.le_of_ble_eq_true rfl, Nat.le_of_ble_eq_true rfl⟩) hl.1 [0, 1, 2, 3, 4, 5, 6, 7, 8, 9] [] ⟨rfl, rfl, by decide, by decide, by decide⟩ 0 rfl rfl rfl (Nat.le_of_ble_eq_true rfl) d_M_load_1 (fun z_1 u_1 H locs hz_1 w => ?_)
  obtain ⟨ss_1, lz_1, rm_1, rfl, hF_1, hG_1⟩ := hz_1
  have w : Wd X (mw cI q0 q1 q2 q3 q4 q5 q6 q7 q8 q9 nw pt rcd sl sv li ot len pd m wr wm ss_1 lz_1 rm_1) H locs := w
  have hzr := hF_1.rg (by omega)
  refine r_bipush (pc := 4) C d_M_load_4 (by decide) ?_
  refine r_icmp_eq (pc := 6) (tgt := 12) C (by omega) d_M_load_6 (by decide) (fun c_6 => ?_) (fun c_6 => ?_)
  · skip
    have hF := hF_1
    rw [show z_1 = -6 by omega] at hF
    have hlg : lgs T m ∧ ((pst T m).1 = 1 ∨ (pst T m).1 = 3) := by
      rcases hF with ⟨k, k1, k2, k3, k4, k5⟩ | ⟨a1, a2, a3⟩ | ⟨a1, a2, a3⟩
      · omega
      · exact ⟨a1, a2⟩
      · omega
    have hpk := pok_at m (by omega) hlg.1
    obtain ⟨hG1, hG2⟩ := hG_1 (by omega)
    obtain ⟨⟨sT, cT, ST, LT⟩, hP⟩ : ∃ p : PS_, p = pst T m := ⟨_, rfl⟩
    rw [← hP] at hpk hG1 hG2
    have hG1 : rm_1 = cT := hG1
    have hG2 : ∀ j, 0 ≤ j → j < rm_1 → ss_1 j = ST j ∧ lz_1 j = LT j := hG2
    have p2 : 0 ≤ cT ∧ cT ≤ m := ⟨hpk.2.1, hpk.2.2.1⟩
    have p5 : ∀ j, 0 ≤ j → j < cT → 1 ≤ LT j ∧ LT j ≤ 3000 ∧ 0 ≤ ST j ∧ ST j ≤ 10 := hpk.2.2.2.2
    have hex := ex_at (S := ST) (L := LT) cT (by omega) (fun j j1 j2 => by have := p5 j j1 j2; omega)
    have hpm : ∀ j, 0 ≤ j → j ≤ cT → 0 ≤ ps LT j ∧ ps LT j ≤ ps LT cT := fun j j1 j2 => by
      have a1 := ps_le (f := LT) (j := j) (k := cT) j1 j2 (fun i i1 i2 => by have := p5 i i1 i2; omega)
      have a2 := ps_le (f := LT) (j := 0) (k := j) (by omega) j1 (fun i i1 i2 => by have := p5 i i1 (by omega); omega)
      rw [ps_zero] at a2
      omega
    refine r_aload_n (pc := 12) C d_M_load_12 rfl (lv_at hl 0 rfl) ?_
    refine r_iconst (pc := 13) C d_M_load_13 ?_
    refine r_put (pc := 14) (ws' := mw cI q0 q1 q2 q3 q4 q5 q6 q7 q8 q9 nw pt rcd sl sv li ot 0 pd m wr wm ss_1 lz_1 rm_1) C w i_M t_M t_M_ok n_M rfl 0 rfl 7 (by decide) fl_M_52 rfl rfl rfl rfl (Nat.le_of_ble_eq_true rfl) rfl d_M_load_14 (fun H locs w => ?_)
    refine r_iconst (pc := 17) C d_M_load_17 ?_
    refine r_istore_n (pc := 18) (lv' := [(1, .int (iI 0)), (0, .ref q0)]) C d_M_load_18 rfl hl (by decide) rfl (fun ls hl => ?_)
    have L19 : ∀ (fuel : Nat), ∀ (k : Int) (l2 : Int → Int) (n2 : Int), 0 ≤ k ∧ k ≤ rm_1 → n2 = min 6000 (ps LT k) → (∀ x, 0 ≤ x → x < n2 → l2 x = ex ST LT cT x) → (rm_1 - k) < (fuel : Int) → ∀ (H : Heap) (locs : List Loc) (ls : Array Slot), Wd X (mw cI q0 q1 q2 q3 q4 q5 q6 q7 q8 q9 nw pt rcd sl sv l2 ot n2 pd m wr wm ss_1 lz_1 rm_1) H locs → lv_has ls 3 [(0, .ref q0), (1, .int (iI k))] → GG X 0 0 H locs 19 ls [] := by
      intro fuel
      induction fuel with
      | zero =>
        intro k l2 n2 h0 hn hl2 hfuel
        exact absurd hfuel (by omega)
      | succ fuel ih19 =>
        intro k l2 n2 h0 hn hl2 hfuel H locs ls w hl
        refine r_iload_n (pc := 19) C d_M_load_19 rfl (lv_at hl 1 rfl) ?_
        refine r_aload_n (pc := 20) C d_M_load_20 rfl (lv_at hl 0 rfl) ?_
        refine r_get (pc := 21) (v := .int (iI rm_1)) C w i_M rfl 0 rfl 14 (by decide) fl_M_137 rfl rfl d_M_load_21 ?_
        refine r_icmp_ge (pc := 24) (tgt := 86) C (by omega) d_M_load_24 (by decide) (fun c_24 => ?_) (fun c_24 => ?_)
        · skip
          have hk5 := hpm cT (by omega) (by omega)
          rw [show k = cT by omega] at hn
          have hel : ∀ x, 0 ≤ x → x < ps LT cT → 0 ≤ ex ST LT cT x ∧ ex ST LT cT x ≤ 10 := ex_rg p2.1 p5
          have hlr : ∀ x, 0 ≤ x → x < n2 → 0 ≤ l2 x ∧ l2 x ≤ 10 := fun x h1 h2 => by rw [hl2 x h1 h2]; exact hel x h1 (by omega)
          have hrcc : n2 ≤ 3000 → n2 = ps LT cT ∧ rc l2 n2 = rc (ex ST LT cT) (ps LT cT) := fun q => by
            have e : n2 = ps LT cT := by omega
            exact ⟨e, by rw [rc_congr n2 (by omega) hl2, e]⟩
          refine r_aload_n (pc := 86) C d_M_load_86 rfl (lv_at hl 0 rfl) ?_
          refine r_callVI (pc := 87) (As := []) (rest := []) (wr := []) C w (c_M_runsOfLine hT q0 q1 q2 q3 q4 q5 q6 q7 q8 q9 nw pt rcd sl sv l2 ot n2 pd m wr wm ss_1 lz_1 rm_1  (by omega) hlr) ml_M_58 im_M_runsOfLine se_M_runsOfLine ini_M cd_M_runsOfLine hd_M_runsOfLine rfl (by rw [hRm]; exact ⟨⟨Nat.le_of_ble_eq_true rfl, Nat.le_of_ble_eq_true rfl⟩, Nat.le_of_ble_eq_true rfl, Nat.le_of_ble_eq_true rfl⟩) hl.1 [0, 1, 2, 3, 4, 5, 6, 7, 8, 9] [] ⟨rfl, rfl, by decide, by decide, by decide⟩ 0 rfl rfl rfl (Nat.le_of_ble_eq_true rfl) d_M_load_87 (fun z_87 u_87 H locs hz_87 w => ?_)
          obtain ⟨rfl, rfl⟩ := hz_87
          have w : Wd X (mw cI q0 q1 q2 q3 q4 q5 q6 q7 q8 q9 nw pt rcd sl sv l2 ot n2 pd m wr wm ss_1 lz_1 rm_1) H locs := w
          have hrl_87 := rc_le l2 n2 (by omega)
          have hrn_87 := rc_nonneg l2 n2 (by omega)
          refine r_istore_n (pc := 90) (lv' := [(1, .int (iI (rc l2 n2))), (0, .ref q0)]) C d_M_load_90 rfl hl (by decide) rfl (fun ls hl => ?_)
          refine r_aload_n (pc := 91) C d_M_load_91 rfl (lv_at hl 1 rfl) ?_
          refine r_callVI (pc := 92) (As := []) (rest := []) (wr := []) C w (c_M_isTooMuch hT q0 q1 q2 q3 q4 q5 q6 q7 q8 q9 nw pt rcd sl sv l2 ot n2 pd m wr wm ss_1 lz_1 rm_1  (by omega) hlr) ml_M_65 im_M_isTooMuch se_M_isTooMuch ini_M cd_M_isTooMuch hd_M_isTooMuch rfl (by rw [hRm]; exact ⟨⟨Nat.le_of_ble_eq_true rfl, Nat.le_of_ble_eq_true rfl⟩, Nat.le_of_ble_eq_true rfl, Nat.le_of_ble_eq_true rfl⟩) hl.1 [0, 1, 2, 3, 4, 5, 6, 7, 8, 9] [] ⟨rfl, rfl, by decide, by decide, by decide⟩ 0 rfl rfl rfl (Nat.le_of_ble_eq_true rfl) d_M_load_92 (fun z_92 u_92 H locs hz_92 w => ?_)
          obtain ⟨rfl, hz_92⟩ := hz_92
          have w : Wd X (mw cI q0 q1 q2 q3 q4 q5 q6 q7 q8 q9 nw pt rcd sl sv l2 ot n2 pd m wr wm ss_1 lz_1 rm_1) H locs := w
          refine r_if_eq (pc := 95) (tgt := 101) C (by omega) d_M_load_95 (by decide) (fun c_95 => ?_) (fun c_95 => ?_)
          · skip
            have hb_95 : ¬ (¬ (n2 ≤ 3000 ∧ rc l2 n2 ≤ 50)) := by omega
            clear hz_92 c_95
            refine r_aload_n (pc := 101) C d_M_load_101 rfl (lv_at hl 1 rfl) ?_
            refine r_iconst (pc := 102) C d_M_load_102 ?_
            refine r_put (pc := 103) (ws' := mw cI q0 q1 q2 q3 q4 q5 q6 q7 q8 q9 nw pt rcd sl sv l2 ot n2 pd 0 wr wm ss_1 lz_1 rm_1) C w i_M t_M t_M_ok n_M rfl 0 rfl 9 (by decide) fl_M_119 rfl rfl rfl rfl (Nat.le_of_ble_eq_true rfl) rfl d_M_load_103 (fun H locs w => ?_)
            refine r_aload_n (pc := 106) C d_M_load_106 rfl (lv_at hl 1 rfl) ?_
            refine r_iload_n (pc := 107) C d_M_load_107 rfl (lv_at hl 0 rfl) ?_
            refine r_callVI (pc := 108) (As := [.int (iI (rc l2 n2))]) (rest := []) (wr := []) C w (c_M_ends hT q0 q1 q2 q3 q4 q5 q6 q7 q8 q9 nw pt rcd sl sv l2 ot n2 pd 0 wr wm ss_1 lz_1 rm_1 (rc l2 n2) (by omega) hlr (by omega)) ml_M_79 im_M_ends se_M_ends ini_M cd_M_ends hd_M_ends rfl (by rw [hRm]; exact ⟨⟨Nat.le_of_ble_eq_true rfl, Nat.le_of_ble_eq_true rfl⟩, Nat.le_of_ble_eq_true rfl, Nat.le_of_ble_eq_true rfl⟩) hl.1 [0, 1, 2, 3, 4, 5, 6, 7, 8, 9] [] ⟨rfl, rfl, by decide, by decide, by decide⟩ 0 rfl rfl rfl (Nat.le_of_ble_eq_true rfl) d_M_load_108 (fun z_108 u_108 H locs hz_108 w => ?_)
            exact kret _ _ _ _ z_108 _ d_M_load_111 w (by have h3 : n2 ≤ 3000 := (by omega); have a6 := hrcc h3; have hfi : fits_ (ps LT cT) (ex ST LT cT) := ⟨by omega, by omega⟩; have hfl : fits_ n2 l2 := ⟨h3, by omega⟩; rcases hz_108 with ⟨f1, -⟩ | ⟨-, f2, nw', pt', np', r', sg', ln', rfl, hO', hM', hrec⟩; exact absurd hfl f1; rcases (hS : _ ∨ _ ∨ _) with ⟨f, a1, a2, -⟩ | ⟨a1, a2, -⟩ | ⟨a1, a2, a3, w', hist', rcd', hPu, rfl⟩; exact absurd (Flt.uniq hF a1) (fun q => a2 q.symm); rw [← hP] at a2; exact absurd hfi a2; rw [← hP] at a3 hPu; have a3 : z = rc (ex ST LT cT) (ps LT cT) := a3; have hPu : Pushed ((lc, sd, r, sg, ln, N, v), hist, rcd, slot, uf, T, m) (w', hist', rcd', slot, uf, T, m) lc sd (ps LT cT) (ex ST LT cT) := hPu; rw [hm0, hm1] at hM'; rw [a6.1] at hO' hl2; have hO2 := hO'.ext hl2; exact ⟨by rw [f2, a3]; exact a6.2, mw_push (push0 hPu) hR hM hC.wipe hrec hM' hO2⟩)
          · skip
            have hb_95 : ¬ (n2 ≤ 3000 ∧ rc l2 n2 ≤ 50) := by omega
            clear hz_92 c_95
            refine r_bipush (pc := 98) C d_M_load_98 (by decide) ?_
            exact kret _ _ _ _ (-4) _ d_M_load_100 w (by rcases (hS : _ ∨ _ ∨ _) with ⟨f, a1, a2, -⟩ | ⟨a1, a2, a3, rfl⟩ | ⟨a1, a2, -⟩; exact absurd (Flt.uniq hF a1) (fun q => a2 q.symm); exact ⟨a3.symm, ⟨hR, q1, q2, q3, q4, q5, q6, q7, q8, q9, nw, pt, sl, sv, _, _, _, pd, _, _, _, _, _, rfl, hM, hC⟩⟩; rw [← hP] at a2; have a2 : fits_ (ps LT cT) (ex ST LT cT) := a2; have a4 := a2.1; have a5 := a2.2; have a6 := hrcc (by omega); omega)
        · skip
          have hk1 := hG2 k (by omega) (by omega)
          have hk2 := p5 k (by omega) (by omega)
          have hk3 : ps LT (k + 1) = ps LT k + LT k := ps_succ _ (by omega)
          have hk4 := hpm k (by omega) (by omega)
          refine r_iconst (pc := 27) C d_M_load_27 ?_
          refine r_istore_n (pc := 28) (lv' := [(2, .int (iI 0)), (0, .ref q0), (1, .int (iI k))]) C d_M_load_28 rfl hl (by decide) rfl (fun ls hl => ?_)
          have L29 : ∀ (fuel : Nat), ∀ (i : Int) (l2 : Int → Int) (n2 : Int), 0 ≤ i ∧ i ≤ LT k → n2 = min 6000 (ps LT k + i) → (∀ x, 0 ≤ x → x < n2 → l2 x = ex ST LT cT x) → (LT k - i) < (fuel : Int) → ∀ (H : Heap) (locs : List Loc) (ls : Array Slot), Wd X (mw cI q0 q1 q2 q3 q4 q5 q6 q7 q8 q9 nw pt rcd sl sv l2 ot n2 pd m wr wm ss_1 lz_1 rm_1) H locs → lv_has ls 3 [(0, .ref q0), (1, .int (iI k)), (2, .int (iI i))] → GG X 0 0 H locs 29 ls [] := by
            intro fuel
            induction fuel with
            | zero =>
              intro i l2 n2 hi hn3 hl3 hfuel
              exact absurd hfuel (by omega)
            | succ fuel ih29 =>
              intro i l2 n2 hi hn3 hl3 hfuel H locs ls w hl
              refine r_iload_n (pc := 29) C d_M_load_29 rfl (lv_at hl 2 rfl) ?_
              refine r_aload_n (pc := 30) C d_M_load_30 rfl (lv_at hl 0 rfl) ?_
              refine r_get (pc := 31) (v := .ref q9) C w i_M rfl 0 rfl 13 (by decide) fl_M_34 rfl rfl d_M_load_31 ?_
              refine r_iload_n (pc := 34) C d_M_load_34 rfl (lv_at hl 1 rfl) ?_
              refine r_iald (pc := 35) (f := lz_1) (i := k) C w 0 9 rfl hT.1 (by omega) d_M_load_35 ?_
              refine r_icmp_ge (pc := 36) (tgt := 80) C (by omega) d_M_load_36 (by decide) (fun c_36 => ?_) (fun c_36 => ?_)
              · skip
                refine r_iinc (pc := 80) (j := 1) (lv' := [(1, .int (iI (k + 1))), (0, .ref q0), (2, .int (iI i))]) C d_M_load_80 hl rfl (by decide) rfl (fun ls hl => ?_)
                refine r_goto (pc := 83) (tgt := 19) C d_M_load_83 (by decide) ?_
                exact ih19 (k + 1) l2 n2 (by omega) ((by omega)) (hl3) (by omega) _ _ _ w (lv_sub hl [1, 0] rfl)
              · skip
                refine r_aload_n (pc := 39) C d_M_load_39 rfl (lv_at hl 0 rfl) ?_
                refine r_get (pc := 40) (v := .int (iI n2)) C w i_M rfl 0 rfl 7 (by decide) fl_M_52 rfl rfl d_M_load_40 ?_
                refine r_sipush (pc := 43) C d_M_load_43 (by decide) ?_
                refine r_icmp_ge (pc := 46) (tgt := 80) C (by omega) d_M_load_46 (by decide) (fun c_46 => ?_) (fun c_46 => ?_)
                · skip
                  refine r_iinc (pc := 80) (j := 1) (lv' := [(1, .int (iI (k + 1))), (0, .ref q0), (2, .int (iI i))]) C d_M_load_80 hl rfl (by decide) rfl (fun ls hl => ?_)
                  refine r_goto (pc := 83) (tgt := 19) C d_M_load_83 (by decide) ?_
                  exact ih19 (k + 1) l2 n2 (by omega) ((by omega)) (hl3) (by omega) _ _ _ w (lv_sub hl [1, 0] rfl)
                · skip
                  refine r_aload_n (pc := 49) C d_M_load_49 rfl (lv_at hl 0 rfl) ?_
                  refine r_get (pc := 50) (v := .ref q4) C w i_M rfl 0 rfl 5 (by decide) fl_M_19 rfl rfl d_M_load_50 ?_
                  refine r_aload_n (pc := 53) C d_M_load_53 rfl (lv_at hl 0 rfl) ?_
                  refine r_get (pc := 54) (v := .int (iI n2)) C w i_M rfl 0 rfl 7 (by decide) fl_M_52 rfl rfl d_M_load_54 ?_
                  refine r_aload_n (pc := 57) C d_M_load_57 rfl (lv_at hl 0 rfl) ?_
                  refine r_get (pc := 58) (v := .ref q8) C w i_M rfl 0 rfl 12 (by decide) fl_M_31 rfl rfl d_M_load_58 ?_
                  refine r_iload_n (pc := 61) C d_M_load_61 rfl (lv_at hl 1 rfl) ?_
                  refine r_iald (pc := 62) (f := ss_1) (i := k) C w 0 8 rfl hT.1 (by omega) d_M_load_62 ?_
                  refine r_iast (pc := 63) (f := l2) (i := n2) (v := (ss_1 k)) (ws' := mw cI q0 q1 q2 q3 q4 q5 q6 q7 q8 q9 nw pt rcd sl sv (up l2 n2 (ss_1 k)) ot n2 pd m wr wm ss_1 lz_1 rm_1) C w 0 4 rfl hT.1 (by omega) rfl d_M_load_63 (fun H locs w => ?_)
                  refine r_aload_n (pc := 64) C d_M_load_64 rfl (lv_at hl 0 rfl) ?_
                  refine r_dup (pc := 65) C d_M_load_65 rfl ?_
                  refine r_get (pc := 66) (v := .int (iI n2)) C w i_M rfl 0 rfl 7 (by decide) fl_M_52 rfl rfl d_M_load_66 ?_
                  refine r_iconst (pc := 69) C d_M_load_69 ?_
                  refine r_iadd (pc := 70) C d_M_load_70 ?_
                  refine r_put (pc := 71) (ws' := mw cI q0 q1 q2 q3 q4 q5 q6 q7 q8 q9 nw pt rcd sl sv (up l2 n2 (ss_1 k)) ot (n2 + 1) pd m wr wm ss_1 lz_1 rm_1) C w i_M t_M t_M_ok n_M rfl 0 rfl 7 (by decide) fl_M_52 rfl rfl rfl rfl (Nat.le_of_ble_eq_true rfl) rfl d_M_load_71 (fun H locs w => ?_)
                  refine r_iinc (pc := 74) (j := 2) (lv' := [(2, .int (iI (i + 1))), (0, .ref q0), (1, .int (iI k))]) C d_M_load_74 hl rfl (by decide) rfl (fun ls hl => ?_)
                  refine r_goto (pc := 77) (tgt := 29) C d_M_load_77 (by decide) ?_
                  exact ih29 (i + 1) (up l2 n2 (ss_1 k)) (n2 + 1) (by omega) (by omega) ((fun x h1 h2 => if e : x = n2 then (by rw [e, up_eq, hk1.1]; exact (hex k (by omega) (by omega) n2 (by omega) (by omega)).symm) else (by rw [up_ne _ _ e]; exact hl3 x h1 (by omega)))) (by omega) _ _ _ w (lv_sub hl [1, 2, 0] rfl)
          exact L29 ((LT k - 0) + 1 : Int).toNat 0 l2 n2 (by first | omega | rfl) (by first | omega | rfl) (hl2) (by omega) _ _ _ w (lv_sub hl [1, 2, 0] rfl)
    exact L19 ((rm_1 - 0) + 1 : Int).toNat 0 li 0 (by first | omega | rfl) ((by rw [ps_zero]; omega)) ((fun x h1 h2 => by omega)) (by omega) _ _ _ w (lv_sub hl [1, 0] rfl)
  · skip
    refine r_bipush (pc := 9) C d_M_load_9 (by decide) ?_
    exact kret _ _ _ _ (-3) _ d_M_load_11 w (by rcases (hS : _ ∨ _ ∨ _) with ⟨f, a1, a2, a3, rfl⟩ | ⟨a1, -⟩ | ⟨a1, -⟩; exact ⟨a3.symm, ⟨hR, q1, q2, q3, q4, q5, q6, q7, q8, q9, nw, pt, sl, sv, _, _, _, pd, _, _, _, _, _, rfl, hM, hC⟩⟩; exact absurd (Flt.uniq hF_1 a1) (by omega); exact absurd (Flt.uniq hF_1 a1) (by omega))
