/-! the reference: its cells, its small methods -/
def mw (cI : ClassId) (q0 q1 q2 q3 q4 q5 q6 q7 q8 q9 : Nat) (nw pt : Int → Int) (np : Int) (sl : Int → Int) (sv : Int) (li ot : Int → Int) (len : Int) (pd : Int → Int) (ty : Int) (wr : Int → Int) (wm : Int) (ss lz : Int → Int) (rm : Int) : va_W := [(q0, .inr (3, [.ref q1, .ref q2, .int (iI np), .ref q3, .int (iI sv), .ref q4, .ref q5, .int (iI len), .ref q6, .int (iI ty), .ref q7, .int (iI wm), .ref q8, .ref q9, .int (iI rm)])), (q1, aI cI 103 nw), (q2, aI cI 618 pt), (q3, aI cI 206 sl), (q4, aI cI 6000 li), (q5, aI cI 3000 ot), (q6, aI cI 80 pd), (q7, aI cI 400 wr), (q8, aI cI 80 ss), (q9, aI cI 80 lz)]
def c2 (cI : ClassId) (qa : Nat) (n1 : Nat) (f : Int → Int) (qb : Nat) (n2 : Nat) (g : Int → Int) : va_W := [(qa, aI cI n1 f), (qb, aI cI n2 g)]
/-- the signs and lengths that a state of the reference holds from place off on -/
def sgo (off : Int) (nw : Int → Int) : Int → Int := fun k => nw (off + 3 + 2 * k)
def lno (off : Int) (nw : Int → Int) : Int → Int := fun k => nw (off + 4 + 2 * k)
def MR (nw : Int → Int) (off lc sd r : Int) (sg ln : Int → Int) : Prop := nw off = lc ∧ nw (off + 1) = sd ∧ nw (off + 2) = r ∧ ∀ k, 0 ≤ k → k < r → nw (off + 3 + 2 * k) = sg k ∧ nw (off + 4 + 2 * k) = ln k
theorem MR.moved {nw pt : Int → Int} {off off' lc sd r : Int} {sg ln : Int → Int} (h : MR nw off lc sd r sg ln) (hr : 0 ≤ r ∧ r ≤ 50) (hp : ∀ k, 0 ≤ k → k < 103 → pt (off' + k) = nw (off + k)) : MR pt off' lc sd r sg ln := by
  obtain ⟨h1, h2, h3, h4⟩ := h
  have e0 := hp 0 (by omega) (by omega)
  rw [Int.add_zero, Int.add_zero] at e0
  refine ⟨e0.trans h1, (hp 1 (by omega) (by omega)).trans h2, (hp 2 (by omega) (by omega)).trans h3, fun k k1 k2 => ?_⟩
  have e3 := hp (3 + 2 * k) (by omega) (by omega)
  have e4 := hp (4 + 2 * k) (by omega) (by omega)
  rw [← Int.add_assoc, ← Int.add_assoc] at e3 e4
  exact ⟨e3.trans (h4 k k1 k2).1, e4.trans (h4 k k1 k2).2⟩
theorem MR.same {nw pt : Int → Int} {off lc sd r : Int} {sg ln : Int → Int} (h : MR nw off lc sd r sg ln) (hr : 0 ≤ r ∧ r ≤ 50) (hp : ∀ x, off ≤ x → x < off + 103 → pt x = nw x) : MR pt off lc sd r sg ln :=
  h.moved hr (fun k k1 k2 => hp _ (by omega) (by omega))
theorem MR.uniq {nw : Int → Int} {off lc sd r r' N : Int} {sg ln sg' ln' v : Int → Int} (h : MR nw off lc sd r sg ln) (hO : Ok r sg ln N v) (hO' : Ok r' sg' ln' N v) : MR nw off lc sd r' sg' ln' := by
  obtain ⟨e, hk⟩ := hO.uniq hO'
  subst e
  obtain ⟨h1, h2, h3, h4⟩ := h
  exact ⟨h1, h2, h3, fun k k1 k2 => ⟨(h4 k k1 k2).1.trans (hk k k1 k2).1, (h4 k k1 k2).2.trans (hk k k1 k2).2⟩⟩
theorem sgo_new {nw : Int → Int} {n s i : Int} {li : Int → Int} (hn : 0 ≤ n) (h : Ok n (sgo 0 nw) (lno 0 nw) i li) (hs : s = li i) (hs2 : 0 ≤ s ∧ s ≤ 10) (h0 : i = 0 ∨ ¬ li i = li (i - 1)) : Ok (n + 1) (sgo 0 (up (up (up nw (3 + 2 * n) s) (3 + 2 * n + 1) 0) (3 + 2 * (n + 1) - 1) (up (up nw (3 + 2 * n) s) (3 + 2 * n + 1) 0 (3 + 2 * (n + 1) - 1) + 1))) (lno 0 (up (up (up nw (3 + 2 * n) s) (3 + 2 * n + 1) 0) (3 + 2 * (n + 1) - 1) (up (up nw (3 + 2 * n) s) (3 + 2 * n + 1) 0 (3 + 2 * (n + 1) - 1) + 1))) (i + 1) li := by
  have hp := h.push (s := s) (m := 1) (by
    by_cases q : n = 0
    · exact Or.inl q
    · right
      have hl := h.last (by omega)
      rw [hs, ← hl.2]
      rcases h0 with z | z
      · omega
      · exact fun e => z e.symm) (by omega) hs2
  have hp2 := hp.ext (u := li) (fun x h1 h2 => by
    by_cases q : x < i
    · rw [app_lt q]
    · rw [app_ge (by omega), hs, show x = i by omega])
  refine hp2.congr (fun k k1 k2 => ?_) (fun k k1 k2 => ?_)
  · unfold sgo
    rw [up_ne _ _ (by omega), up_ne _ _ (by omega)]
    by_cases q : k = n
    · rw [q, up_eq, show (0 : Int) + 3 + 2 * n = 3 + 2 * n by omega, up_eq]
    · rw [up_ne _ _ (by omega), up_ne _ _ q]
  · unfold lno
    by_cases q : k = n
    · rw [q, up_eq, show (0 : Int) + 4 + 2 * n = 3 + 2 * (n + 1) - 1 by omega, up_eq, show 3 + 2 * (n + 1) - 1 = 3 + 2 * n + 1 by omega, up_eq]
      rfl
    · rw [up_ne _ _ (by omega), up_ne _ _ (by omega), up_ne _ _ (by omega), up_ne _ _ q]
theorem sgo_old {nw : Int → Int} {n i : Int} {li : Int → Int} (h : Ok n (sgo 0 nw) (lno 0 nw) i li) (h0 : ¬ i = 0) (h1 : li i = li (i - 1)) : Ok n (sgo 0 (up nw (3 + 2 * n - 1) (nw (3 + 2 * n - 1) + 1))) (lno 0 (up nw (3 + 2 * n - 1) (nw (3 + 2 * n - 1) + 1))) (i + 1) li := by
  have hn : 1 ≤ n := by
    have := h.n_zero
    have := h.1
    omega
  have hl := h.last hn
  have hp := h.join (s := li i) (m := 1) hn (by rw [h1, hl.2]) (by omega)
  have hp2 := hp.ext (u := li) (fun x h1 h2 => by
    by_cases q : x < i
    · rw [app_lt q]
    · rw [app_ge (by omega), show x = i by omega])
  refine hp2.congr (fun k k1 k2 => ?_) (fun k k1 k2 => ?_)
  · unfold sgo
    rw [up_ne _ _ (by omega)]
  · unfold lno
    by_cases q : k = n - 1
    · rw [q, up_eq, show (0 : Int) + 4 + 2 * (n - 1) = 3 + 2 * n - 1 by omega, up_eq]
    · rw [up_ne _ _ (by omega), up_ne _ _ q]

theorem d_M_copies_0 : decode b_M_copies 0 = .ok (.iconst 0, 1) := by decide +kernel
theorem d_M_copies_1 : decode b_M_copies 1 = .ok (.istore 4, 2) := by decide +kernel
theorem d_M_copies_3 : decode b_M_copies 3 = .ok (.iload 4, 2) := by decide +kernel
theorem d_M_copies_5 : decode b_M_copies 5 = .ok (.bipush 103, 2) := by decide +kernel
theorem d_M_copies_7 : decode b_M_copies 7 = .ok (.if_icmp .ge 21, 3) := by decide +kernel
theorem d_M_copies_10 : decode b_M_copies 10 = .ok (.aload_n 2, 1) := by decide +kernel
theorem d_M_copies_11 : decode b_M_copies 11 = .ok (.iload_n 3, 1) := by decide +kernel
theorem d_M_copies_12 : decode b_M_copies 12 = .ok (.iload 4, 2) := by decide +kernel
theorem d_M_copies_14 : decode b_M_copies 14 = .ok (.iadd, 1) := by decide +kernel
theorem d_M_copies_15 : decode b_M_copies 15 = .ok (.aload_n 0, 1) := by decide +kernel
theorem d_M_copies_16 : decode b_M_copies 16 = .ok (.iload_n 1, 1) := by decide +kernel
theorem d_M_copies_17 : decode b_M_copies 17 = .ok (.iload 4, 2) := by decide +kernel
theorem d_M_copies_19 : decode b_M_copies 19 = .ok (.iadd, 1) := by decide +kernel
theorem d_M_copies_20 : decode b_M_copies 20 = .ok (.iaload, 1) := by decide +kernel
theorem d_M_copies_21 : decode b_M_copies 21 = .ok (.iastore, 1) := by decide +kernel
theorem d_M_copies_22 : decode b_M_copies 22 = .ok (.iinc 4 1, 3) := by decide +kernel
theorem d_M_copies_25 : decode b_M_copies 25 = .ok (.goto (-22), 3) := by decide +kernel
theorem d_M_copies_28 : decode b_M_copies 28 = .ok (.return_, 1) := by decide +kernel
set_option maxHeartbeats 4000000 in
set_option maxRecDepth 20000 in
theorem c_M_copies {l : Launch} {G : va_G} {tys : List (ClassId × FieldType)} {cI cO cZ : ClassId} (hT : TY tys cI cO cZ) (qa qb n1 n2 : Nat) (f g : Int → Int) (at_ into : Int) (h1 : 0 ≤ at_ ∧ at_ + 103 ≤ n1 ∧ n1 ≤ 10000) (h2 : 0 ≤ into ∧ into + 103 ≤ n2 ∧ n2 ≤ 10000) : CTV l G tys y_M_copies b_M_copies 5 0 0 [.ref qa, .int (iI at_), .ref qb, .int (iI into)] (c2 cI qa n1 f qb n2 g) (fun u => ∃ g' : Int → Int, u = c2 cI qa n1 f qb n2 g' ∧ (∀ k, 0 ≤ k → k < 103 → g' (into + k) = f (at_ + k)) ∧ ∀ x, x < into ∨ into + 103 ≤ x → g' x = g x) := by
  refine mkV (by decide) (Nat.le_of_ble_eq_true rfl) ?_
  rintro X rfl rfl rfl hRm C kret H ls w hl
  have hl : lv_has ls 5 [(0, .ref qa), (1, .int (iI at_)), (2, .ref qb), (3, .int (iI into))] := hl
  have w : Wd X (c2 cI qa n1 f qb n2 g) H [] := w
  generalize ([] : List Loc) = locs at w ⊢
  refine r_iconst (pc := 0) C d_M_copies_0 ?_
  refine r_istore (pc := 1) (lv' := [(4, .int (iI 0)), (0, .ref qa), (1, .int (iI at_)), (2, .ref qb), (3, .int (iI into))]) C d_M_copies_1 hl (by decide) rfl (fun ls hl => ?_)
  have L3 : ∀ (fuel : Nat), ∀ (k : Int) (g1 : Int → Int), 0 ≤ k ∧ k ≤ 103 → (∀ j, 0 ≤ j → j < k → g1 (into + j) = f (at_ + j)) → (∀ x, x < into ∨ into + 103 ≤ x → g1 x = g x) → (103 - k) < (fuel : Int) → ∀ (H : Heap) (locs : List Loc) (ls : Array Slot), Wd X (c2 cI qa n1 f qb n2 g1) H locs → lv_has ls 5 [(0, .ref qa), (1, .int (iI at_)), (2, .ref qb), (3, .int (iI into)), (4, .int (iI k))] → GG X 0 0 H locs 3 ls [] := by
    intro fuel
    induction fuel with
    | zero =>
      intro k g1 h0 ha hb hfuel
      exact absurd hfuel (by omega)
    | succ fuel ih3 =>
      intro k g1 h0 ha hb hfuel H locs ls w hl
      refine r_iload (pc := 3) C d_M_copies_3 (lv_at hl 4 rfl) ?_
      refine r_bipush (pc := 5) C d_M_copies_5 (by decide) ?_
      refine r_icmp_ge (pc := 7) (tgt := 28) C (by omega) d_M_copies_7 (by decide) (fun c_7 => ?_) (fun c_7 => ?_)
      · skip
        exact kret _ _ _ _ _ d_M_copies_28 w (⟨g1, rfl, fun j h1 h2 => ha j h1 (by omega), hb⟩)
      · skip
        refine r_aload_n (pc := 10) C d_M_copies_10 rfl (lv_at hl 2 rfl) ?_
        refine r_iload_n (pc := 11) C d_M_copies_11 rfl (lv_at hl 3 rfl) ?_
        refine r_iload (pc := 12) C d_M_copies_12 (lv_at hl 4 rfl) ?_
        refine r_iadd (pc := 14) C d_M_copies_14 ?_
        refine r_aload_n (pc := 15) C d_M_copies_15 rfl (lv_at hl 0 rfl) ?_
        refine r_iload_n (pc := 16) C d_M_copies_16 rfl (lv_at hl 1 rfl) ?_
        refine r_iload (pc := 17) C d_M_copies_17 (lv_at hl 4 rfl) ?_
        refine r_iadd (pc := 19) C d_M_copies_19 ?_
        refine r_iald (pc := 20) (f := f) (i := (at_ + k)) C w 0 0 rfl hT.1 (by omega) d_M_copies_20 ?_
        refine r_iast (pc := 21) (f := g1) (i := (into + k)) (v := (f (at_ + k))) (ws' := c2 cI qa n1 f qb n2 (up g1 (into + k) (f (at_ + k)))) C w 0 1 rfl hT.1 (by omega) rfl d_M_copies_21 (fun H locs w => ?_)
        refine r_iinc (pc := 22) (j := 4) (lv' := [(4, .int (iI (k + 1))), (0, .ref qa), (1, .int (iI at_)), (2, .ref qb), (3, .int (iI into))]) C d_M_copies_22 hl rfl (by decide) rfl (fun ls hl => ?_)
        refine r_goto (pc := 25) (tgt := 3) C d_M_copies_25 (by decide) ?_
        exact ih3 (k + 1) (up g1 (into + k) (f (at_ + k))) (by omega) ((fun j h1 h2 => by by_cases e : j = k; rw [e, up_eq]; rw [up_ne _ _ (by omega)]; exact ha j h1 (by omega))) ((fun x hx => by rw [up_ne _ _ (by omega)]; exact hb x hx)) (by omega) _ _ _ w (lv_sub hl [1, 2, 3, 4, 0] rfl)
  exact L3 ((103 - 0) + 1 : Int).toNat 0 g (by first | omega | rfl) ((fun j h1 h2 => by omega)) ((fun x _ => rfl)) (by omega) _ _ _ w (lv_sub hl [1, 2, 3, 4, 0] rfl)
theorem d_M_records_0 : decode b_M_records 0 = .ok (.aload_n 0, 1) := by decide +kernel
theorem d_M_records_1 : decode b_M_records 1 = .ok (.getfield 37, 3) := by decide +kernel
theorem d_M_records_4 : decode b_M_records 4 = .ok (.bipush 6, 2) := by decide +kernel
theorem d_M_records_6 : decode b_M_records 6 = .ok (.if_icmp .ne 38, 3) := by decide +kernel
theorem d_M_records_9 : decode b_M_records 9 = .ok (.iconst 0, 1) := by decide +kernel
theorem d_M_records_10 : decode b_M_records 10 = .ok (.istore_n 1, 1) := by decide +kernel
theorem d_M_records_11 : decode b_M_records 11 = .ok (.iload_n 1, 1) := by decide +kernel
theorem d_M_records_12 : decode b_M_records 12 = .ok (.sipush 515, 3) := by decide +kernel
theorem d_M_records_15 : decode b_M_records 15 = .ok (.if_icmp .ge 24, 3) := by decide +kernel
theorem d_M_records_18 : decode b_M_records 18 = .ok (.aload_n 0, 1) := by decide +kernel
theorem d_M_records_19 : decode b_M_records 19 = .ok (.getfield 13, 3) := by decide +kernel
theorem d_M_records_22 : decode b_M_records 22 = .ok (.iload_n 1, 1) := by decide +kernel
theorem d_M_records_23 : decode b_M_records 23 = .ok (.aload_n 0, 1) := by decide +kernel
theorem d_M_records_24 : decode b_M_records 24 = .ok (.getfield 13, 3) := by decide +kernel
theorem d_M_records_27 : decode b_M_records 27 = .ok (.iload_n 1, 1) := by decide +kernel
theorem d_M_records_28 : decode b_M_records 28 = .ok (.bipush 103, 2) := by decide +kernel
theorem d_M_records_30 : decode b_M_records 30 = .ok (.iadd, 1) := by decide +kernel
theorem d_M_records_31 : decode b_M_records 31 = .ok (.iaload, 1) := by decide +kernel
theorem d_M_records_32 : decode b_M_records 32 = .ok (.iastore, 1) := by decide +kernel
theorem d_M_records_33 : decode b_M_records 33 = .ok (.iinc 1 1, 3) := by decide +kernel
theorem d_M_records_36 : decode b_M_records 36 = .ok (.goto (-25), 3) := by decide +kernel
theorem d_M_records_39 : decode b_M_records 39 = .ok (.aload_n 0, 1) := by decide +kernel
theorem d_M_records_40 : decode b_M_records 40 = .ok (.iconst 5, 1) := by decide +kernel
theorem d_M_records_41 : decode b_M_records 41 = .ok (.putfield 37, 3) := by decide +kernel
theorem d_M_records_44 : decode b_M_records 44 = .ok (.aload_n 0, 1) := by decide +kernel
theorem d_M_records_45 : decode b_M_records 45 = .ok (.getfield 7, 3) := by decide +kernel
theorem d_M_records_48 : decode b_M_records 48 = .ok (.iconst 0, 1) := by decide +kernel
theorem d_M_records_49 : decode b_M_records 49 = .ok (.aload_n 0, 1) := by decide +kernel
theorem d_M_records_50 : decode b_M_records 50 = .ok (.getfield 13, 3) := by decide +kernel
theorem d_M_records_53 : decode b_M_records 53 = .ok (.aload_n 0, 1) := by decide +kernel
theorem d_M_records_54 : decode b_M_records 54 = .ok (.getfield 37, 3) := by decide +kernel
theorem d_M_records_57 : decode b_M_records 57 = .ok (.bipush 103, 2) := by decide +kernel
theorem d_M_records_59 : decode b_M_records 59 = .ok (.imul, 1) := by decide +kernel
theorem d_M_records_60 : decode b_M_records 60 = .ok (.invokestatic 41, 3) := by decide +kernel
theorem d_M_records_63 : decode b_M_records 63 = .ok (.aload_n 0, 1) := by decide +kernel
theorem d_M_records_64 : decode b_M_records 64 = .ok (.dup, 1) := by decide +kernel
theorem d_M_records_65 : decode b_M_records 65 = .ok (.getfield 37, 3) := by decide +kernel
theorem d_M_records_68 : decode b_M_records 68 = .ok (.iconst 1, 1) := by decide +kernel
theorem d_M_records_69 : decode b_M_records 69 = .ok (.iadd, 1) := by decide +kernel
theorem d_M_records_70 : decode b_M_records 70 = .ok (.putfield 37, 3) := by decide +kernel
theorem d_M_records_73 : decode b_M_records 73 = .ok (.return_, 1) := by decide +kernel
set_option maxHeartbeats 4000000 in
set_option maxRecDepth 20000 in
theorem c_M_records {l : Launch} {G : va_G} {tys : List (ClassId × FieldType)} {cI cO cZ : ClassId} (hT : TY tys cI cO cZ) (q0 q1 q2 q3 q4 q5 q6 q7 q8 q9 : Nat) (nw pt : Int → Int) (np : Int) (sl : Int → Int) (sv : Int) (li ot : Int → Int) (len : Int) (pd : Int → Int) (ty : Int) (wr : Int → Int) (wm : Int) (ss lz : Int → Int) (rm : Int) (hnp : 0 ≤ np ∧ np ≤ 6) : CTV l G tys y_M_records b_M_records 2 1 24 [.ref q0] (mw cI q0 q1 q2 q3 q4 q5 q6 q7 q8 q9 nw pt np sl sv li ot len pd ty wr wm ss lz rm) (fun u => ∃ (pt' : Int → Int) (np' : Int), u = mw cI q0 q1 q2 q3 q4 q5 q6 q7 q8 q9 nw pt' np' sl sv li ot len pd ty wr wm ss lz rm ∧ ((np < 6 ∧ np' = np + 1 ∧ (∀ x, x < 103 * np → pt' x = pt x) ∧ ∀ k, 0 ≤ k → k < 103 → pt' (103 * np + k) = nw k) ∨ (np = 6 ∧ np' = 6 ∧ (∀ x, 0 ≤ x → x < 515 → pt' x = pt (x + 103)) ∧ ∀ k, 0 ≤ k → k < 103 → pt' (515 + k) = nw k))) := by
  refine mkV (by decide) (Nat.le_of_ble_eq_true rfl) ?_
  rintro X rfl rfl rfl hRm C kret H ls w hl
  have hl : lv_has ls 2 [(0, .ref q0)] := hl
  have w : Wd X (mw cI q0 q1 q2 q3 q4 q5 q6 q7 q8 q9 nw pt np sl sv li ot len pd ty wr wm ss lz rm) H [] := w
  generalize ([] : List Loc) = locs at w ⊢
  refine r_aload_n (pc := 0) C d_M_records_0 rfl (lv_at hl 0 rfl) ?_
  refine r_get (pc := 1) (v := .int (iI np)) C w i_M rfl 0 rfl 2 (by decide) fl_M_37 rfl rfl d_M_records_1 ?_
  refine r_bipush (pc := 4) C d_M_records_4 (by decide) ?_
  refine r_icmp_ne (pc := 6) (tgt := 44) C (by omega) d_M_records_6 (by decide) (fun c_6 => ?_) (fun c_6 => ?_)
  · skip
    refine r_aload_n (pc := 44) C d_M_records_44 rfl (lv_at hl 0 rfl) ?_
    refine r_get (pc := 45) (v := .ref q1) C w i_M rfl 0 rfl 0 (by decide) fl_M_7 rfl rfl d_M_records_45 ?_
    refine r_iconst (pc := 48) C d_M_records_48 ?_
    refine r_aload_n (pc := 49) C d_M_records_49 rfl (lv_at hl 0 rfl) ?_
    refine r_get (pc := 50) (v := .ref q2) C w i_M rfl 0 rfl 1 (by decide) fl_M_13 rfl rfl d_M_records_50 ?_
    refine r_aload_n (pc := 53) C d_M_records_53 rfl (lv_at hl 0 rfl) ?_
    refine r_get (pc := 54) (v := .int (iI np)) C w i_M rfl 0 rfl 2 (by decide) fl_M_37 rfl rfl d_M_records_54 ?_
    refine r_bipush (pc := 57) C d_M_records_57 (by decide) ?_
    refine r_imul (pc := 59) C d_M_records_59 ?_
    refine r_callSV (pc := 60) (As := [.ref q1, .int (iI 0), .ref q2, .int (iI (np * 103))]) (rest := []) (wr := ([(q0, .inr (3, [.ref q1, .ref q2, .int (iI np), .ref q3, .int (iI sv), .ref q4, .ref q5, .int (iI len), .ref q6, .int (iI ty), .ref q7, .int (iI wm), .ref q8, .ref q9, .int (iI rm)])), (q3, aI cI 206 sl), (q4, aI cI 6000 li), (q5, aI cI 3000 ot), (q6, aI cI 80 pd), (q7, aI cI 400 wr), (q8, aI cI 80 ss), (q9, aI cI 80 lz)] : va_W)) C w (c_M_copies hT q1 q2 103 618 nw pt 0 (np * 103) (by omega) (by omega)) ml_M_41 st_M_copies ini_M cd_M_copies hd_M_copies rfl (by rw [hRm]; exact ⟨⟨Nat.le_of_ble_eq_true rfl, Nat.le_of_ble_eq_true rfl⟩, Nat.le_of_ble_eq_true rfl, Nat.le_of_ble_eq_true rfl⟩) hl.1 [1, 2] [0, 3, 4, 5, 6, 7, 8, 9] ⟨rfl, rfl, by decide, by decide, by decide⟩ rfl (Nat.le_of_ble_eq_true rfl) d_M_records_60 (fun u_60 H locs hz_60 w => ?_)
    obtain ⟨g_60, rfl, hga_60, hgb_60⟩ := hz_60
    have w : Wd X (mw cI q0 q1 q2 q3 q4 q5 q6 q7 q8 q9 nw g_60 np sl sv li ot len pd ty wr wm ss lz rm) H locs := w.sub [0, 8, 9, 1, 2, 3, 4, 5, 6, 7] rfl (by decide)
    refine r_aload_n (pc := 63) C d_M_records_63 rfl (lv_at hl 0 rfl) ?_
    refine r_dup (pc := 64) C d_M_records_64 rfl ?_
    refine r_get (pc := 65) (v := .int (iI np)) C w i_M rfl 0 rfl 2 (by decide) fl_M_37 rfl rfl d_M_records_65 ?_
    refine r_iconst (pc := 68) C d_M_records_68 ?_
    refine r_iadd (pc := 69) C d_M_records_69 ?_
    refine r_put (pc := 70) (ws' := mw cI q0 q1 q2 q3 q4 q5 q6 q7 q8 q9 nw g_60 (np + 1) sl sv li ot len pd ty wr wm ss lz rm) C w i_M t_M t_M_ok n_M rfl 0 rfl 2 (by decide) fl_M_37 rfl rfl rfl rfl (Nat.le_of_ble_eq_true rfl) rfl d_M_records_70 (fun H locs w => ?_)
    exact kret _ _ _ _ _ d_M_records_73 w (⟨_, _, rfl, Or.inl ⟨by omega, rfl, fun x hx => hgb_60 x (by omega), fun k h1 h2 => by have e := hga_60 k h1 h2; rw [Int.mul_comm np 103, Int.zero_add] at e; exact e⟩⟩)
  · skip
    refine r_iconst (pc := 9) C d_M_records_9 ?_
    refine r_istore_n (pc := 10) (lv' := [(1, .int (iI 0)), (0, .ref q0)]) C d_M_records_10 rfl hl (by decide) rfl (fun ls hl => ?_)
    have L11 : ∀ (fuel : Nat), ∀ (k : Int) (p1 : Int → Int), 0 ≤ k ∧ k ≤ 515 → (∀ x, 0 ≤ x → x < k → p1 x = pt (x + 103)) → (∀ x, k ≤ x → p1 x = pt x) → (515 - k) < (fuel : Int) → ∀ (H : Heap) (locs : List Loc) (ls : Array Slot), Wd X (mw cI q0 q1 q2 q3 q4 q5 q6 q7 q8 q9 nw p1 np sl sv li ot len pd ty wr wm ss lz rm) H locs → lv_has ls 2 [(0, .ref q0), (1, .int (iI k))] → GG X 0 0 H locs 11 ls [] := by
      intro fuel
      induction fuel with
      | zero =>
        intro k p1 h0 ha hb hfuel
        exact absurd hfuel (by omega)
      | succ fuel ih11 =>
        intro k p1 h0 ha hb hfuel H locs ls w hl
        refine r_iload_n (pc := 11) C d_M_records_11 rfl (lv_at hl 1 rfl) ?_
        refine r_sipush (pc := 12) C d_M_records_12 (by decide) ?_
        refine r_icmp_ge (pc := 15) (tgt := 39) C (by omega) d_M_records_15 (by decide) (fun c_15 => ?_) (fun c_15 => ?_)
        · skip
          refine r_aload_n (pc := 39) C d_M_records_39 rfl (lv_at hl 0 rfl) ?_
          refine r_iconst (pc := 40) C d_M_records_40 ?_
          refine r_put (pc := 41) (ws' := mw cI q0 q1 q2 q3 q4 q5 q6 q7 q8 q9 nw p1 5 sl sv li ot len pd ty wr wm ss lz rm) C w i_M t_M t_M_ok n_M rfl 0 rfl 2 (by decide) fl_M_37 rfl rfl rfl rfl (Nat.le_of_ble_eq_true rfl) rfl d_M_records_41 (fun H locs w => ?_)
          refine r_aload_n (pc := 44) C d_M_records_44 rfl (lv_at hl 0 rfl) ?_
          refine r_get (pc := 45) (v := .ref q1) C w i_M rfl 0 rfl 0 (by decide) fl_M_7 rfl rfl d_M_records_45 ?_
          refine r_iconst (pc := 48) C d_M_records_48 ?_
          refine r_aload_n (pc := 49) C d_M_records_49 rfl (lv_at hl 0 rfl) ?_
          refine r_get (pc := 50) (v := .ref q2) C w i_M rfl 0 rfl 1 (by decide) fl_M_13 rfl rfl d_M_records_50 ?_
          refine r_aload_n (pc := 53) C d_M_records_53 rfl (lv_at hl 0 rfl) ?_
          refine r_get (pc := 54) (v := .int (iI 5)) C w i_M rfl 0 rfl 2 (by decide) fl_M_37 rfl rfl d_M_records_54 ?_
          refine r_bipush (pc := 57) C d_M_records_57 (by decide) ?_
          refine r_imul (pc := 59) C d_M_records_59 ?_
          refine r_callSV (pc := 60) (As := [.ref q1, .int (iI 0), .ref q2, .int (iI (5 * 103))]) (rest := []) (wr := ([(q0, .inr (3, [.ref q1, .ref q2, .int (iI 5), .ref q3, .int (iI sv), .ref q4, .ref q5, .int (iI len), .ref q6, .int (iI ty), .ref q7, .int (iI wm), .ref q8, .ref q9, .int (iI rm)])), (q3, aI cI 206 sl), (q4, aI cI 6000 li), (q5, aI cI 3000 ot), (q6, aI cI 80 pd), (q7, aI cI 400 wr), (q8, aI cI 80 ss), (q9, aI cI 80 lz)] : va_W)) C w (c_M_copies hT q1 q2 103 618 nw p1 0 (5 * 103) (by omega) (by omega)) ml_M_41 st_M_copies ini_M cd_M_copies hd_M_copies rfl (by rw [hRm]; exact ⟨⟨Nat.le_of_ble_eq_true rfl, Nat.le_of_ble_eq_true rfl⟩, Nat.le_of_ble_eq_true rfl, Nat.le_of_ble_eq_true rfl⟩) hl.1 [1, 2] [0, 3, 4, 5, 6, 7, 8, 9] ⟨rfl, rfl, by decide, by decide, by decide⟩ rfl (Nat.le_of_ble_eq_true rfl) d_M_records_60 (fun u_60 H locs hz_60 w => ?_)
          obtain ⟨g_60, rfl, hga_60, hgb_60⟩ := hz_60
          have w : Wd X (mw cI q0 q1 q2 q3 q4 q5 q6 q7 q8 q9 nw g_60 5 sl sv li ot len pd ty wr wm ss lz rm) H locs := w.sub [0, 8, 9, 1, 2, 3, 4, 5, 6, 7] rfl (by decide)
          refine r_aload_n (pc := 63) C d_M_records_63 rfl (lv_at hl 0 rfl) ?_
          refine r_dup (pc := 64) C d_M_records_64 rfl ?_
          refine r_get (pc := 65) (v := .int (iI 5)) C w i_M rfl 0 rfl 2 (by decide) fl_M_37 rfl rfl d_M_records_65 ?_
          refine r_iconst (pc := 68) C d_M_records_68 ?_
          refine r_iadd (pc := 69) C d_M_records_69 ?_
          refine r_put (pc := 70) (ws' := mw cI q0 q1 q2 q3 q4 q5 q6 q7 q8 q9 nw g_60 (5 + 1) sl sv li ot len pd ty wr wm ss lz rm) C w i_M t_M t_M_ok n_M rfl 0 rfl 2 (by decide) fl_M_37 rfl rfl rfl rfl (Nat.le_of_ble_eq_true rfl) rfl d_M_records_70 (fun H locs w => ?_)
          exact kret _ _ _ _ _ d_M_records_73 w (⟨_, _, rfl, Or.inr ⟨by omega, rfl, fun x h1 h2 => by rw [hgb_60 x (by omega)]; exact ha x h1 (by omega), fun k h1 h2 => by have e := hga_60 k h1 h2; rw [Int.zero_add] at e; exact e⟩⟩)
        · skip
          refine r_aload_n (pc := 18) C d_M_records_18 rfl (lv_at hl 0 rfl) ?_
          refine r_get (pc := 19) (v := .ref q2) C w i_M rfl 0 rfl 1 (by decide) fl_M_13 rfl rfl d_M_records_19 ?_
          refine r_iload_n (pc := 22) C d_M_records_22 rfl (lv_at hl 1 rfl) ?_
          refine r_aload_n (pc := 23) C d_M_records_23 rfl (lv_at hl 0 rfl) ?_
          refine r_get (pc := 24) (v := .ref q2) C w i_M rfl 0 rfl 1 (by decide) fl_M_13 rfl rfl d_M_records_24 ?_
          refine r_iload_n (pc := 27) C d_M_records_27 rfl (lv_at hl 1 rfl) ?_
          refine r_bipush (pc := 28) C d_M_records_28 (by decide) ?_
          refine r_iadd (pc := 30) C d_M_records_30 ?_
          refine r_iald (pc := 31) (f := p1) (i := (k + 103)) C w 0 2 rfl hT.1 (by omega) d_M_records_31 ?_
          refine r_iast (pc := 32) (f := p1) (i := k) (v := (p1 (k + 103))) (ws' := mw cI q0 q1 q2 q3 q4 q5 q6 q7 q8 q9 nw (up p1 k (p1 (k + 103))) np sl sv li ot len pd ty wr wm ss lz rm) C w 0 2 rfl hT.1 (by omega) rfl d_M_records_32 (fun H locs w => ?_)
          refine r_iinc (pc := 33) (j := 1) (lv' := [(1, .int (iI (k + 1))), (0, .ref q0)]) C d_M_records_33 hl rfl (by decide) rfl (fun ls hl => ?_)
          refine r_goto (pc := 36) (tgt := 11) C d_M_records_36 (by decide) ?_
          exact ih11 (k + 1) (up p1 k (p1 (k + 103))) (by omega) ((fun x h1 h2 => by by_cases e : x = k; rw [e, up_eq]; exact hb _ (by omega); rw [up_ne _ _ e]; exact ha x h1 (by omega))) ((fun x hx => by rw [up_ne _ _ (by omega)]; exact hb x (by omega))) (by omega) _ _ _ w (lv_sub hl [1, 0] rfl)
    exact L11 ((515 - 0) + 1 : Int).toNat 0 pt (by first | omega | rfl) ((fun j h1 h2 => by omega)) ((fun x _ => rfl)) (by omega) _ _ _ w (lv_sub hl [1, 0] rfl)
theorem d_M_signOf_0 : decode b_M_signOf 0 = .ok (.aload_n 0, 1) := by decide +kernel
theorem d_M_signOf_1 : decode b_M_signOf 1 = .ok (.getfield 7, 3) := by decide +kernel
theorem d_M_signOf_4 : decode b_M_signOf 4 = .ok (.iconst 3, 1) := by decide +kernel
theorem d_M_signOf_5 : decode b_M_signOf 5 = .ok (.iconst 2, 1) := by decide +kernel
theorem d_M_signOf_6 : decode b_M_signOf 6 = .ok (.iload_n 1, 1) := by decide +kernel
theorem d_M_signOf_7 : decode b_M_signOf 7 = .ok (.imul, 1) := by decide +kernel
theorem d_M_signOf_8 : decode b_M_signOf 8 = .ok (.iadd, 1) := by decide +kernel
theorem d_M_signOf_9 : decode b_M_signOf 9 = .ok (.iaload, 1) := by decide +kernel
theorem d_M_signOf_10 : decode b_M_signOf 10 = .ok (.ireturn, 1) := by decide +kernel
set_option maxHeartbeats 4000000 in
set_option maxRecDepth 20000 in
theorem c_M_signOf {l : Launch} {G : va_G} {tys : List (ClassId × FieldType)} {cI cO cZ : ClassId} (hT : TY tys cI cO cZ) (q0 q1 q2 q3 q4 q5 q6 q7 q8 q9 : Nat) (nw pt : Int → Int) (np : Int) (sl : Int → Int) (sv : Int) (li ot : Int → Int) (len : Int) (pd : Int → Int) (ty : Int) (wr : Int → Int) (wm : Int) (ss lz : Int → Int) (rm : Int) (k : Int) (hk : 0 ≤ k ∧ k < 50) : CTI l G tys y_M_signOf b_M_signOf 2 .int 0 0 [.ref q0, .int (iI k)] (mw cI q0 q1 q2 q3 q4 q5 q6 q7 q8 q9 nw pt np sl sv li ot len pd ty wr wm ss lz rm) (fun z u => u = mw cI q0 q1 q2 q3 q4 q5 q6 q7 q8 q9 nw pt np sl sv li ot len pd ty wr wm ss lz rm ∧ z = nw (3 + 2 * k)) := by
  refine mkI (by decide) (Nat.le_of_ble_eq_true rfl) ?_
  rintro X rfl rfl rfl hRm C kret H ls w hl
  have hl : lv_has ls 2 [(0, .ref q0), (1, .int (iI k))] := hl
  have w : Wd X (mw cI q0 q1 q2 q3 q4 q5 q6 q7 q8 q9 nw pt np sl sv li ot len pd ty wr wm ss lz rm) H [] := w
  generalize ([] : List Loc) = locs at w ⊢
  refine r_aload_n (pc := 0) C d_M_signOf_0 rfl (lv_at hl 0 rfl) ?_
  refine r_get (pc := 1) (v := .ref q1) C w i_M rfl 0 rfl 0 (by decide) fl_M_7 rfl rfl d_M_signOf_1 ?_
  refine r_iconst (pc := 4) C d_M_signOf_4 ?_
  refine r_iconst (pc := 5) C d_M_signOf_5 ?_
  refine r_iload_n (pc := 6) C d_M_signOf_6 rfl (lv_at hl 1 rfl) ?_
  refine r_imul (pc := 7) C d_M_signOf_7 ?_
  refine r_iadd (pc := 8) C d_M_signOf_8 ?_
  refine r_iald (pc := 9) (f := nw) (i := (3 + (2 * k))) C w 0 1 rfl hT.1 (by omega) d_M_signOf_9 ?_
  exact kret _ _ _ _ (nw (3 + (2 * k))) _ d_M_signOf_10 w (⟨rfl, rfl⟩)
theorem d_M_lengthOf_0 : decode b_M_lengthOf 0 = .ok (.aload_n 0, 1) := by decide +kernel
theorem d_M_lengthOf_1 : decode b_M_lengthOf 1 = .ok (.getfield 7, 3) := by decide +kernel
theorem d_M_lengthOf_4 : decode b_M_lengthOf 4 = .ok (.iconst 3, 1) := by decide +kernel
theorem d_M_lengthOf_5 : decode b_M_lengthOf 5 = .ok (.iconst 2, 1) := by decide +kernel
theorem d_M_lengthOf_6 : decode b_M_lengthOf 6 = .ok (.iload_n 1, 1) := by decide +kernel
theorem d_M_lengthOf_7 : decode b_M_lengthOf 7 = .ok (.imul, 1) := by decide +kernel
theorem d_M_lengthOf_8 : decode b_M_lengthOf 8 = .ok (.iadd, 1) := by decide +kernel
theorem d_M_lengthOf_9 : decode b_M_lengthOf 9 = .ok (.iconst 1, 1) := by decide +kernel
theorem d_M_lengthOf_10 : decode b_M_lengthOf 10 = .ok (.iadd, 1) := by decide +kernel
theorem d_M_lengthOf_11 : decode b_M_lengthOf 11 = .ok (.iaload, 1) := by decide +kernel
theorem d_M_lengthOf_12 : decode b_M_lengthOf 12 = .ok (.ireturn, 1) := by decide +kernel
set_option maxHeartbeats 4000000 in
set_option maxRecDepth 20000 in
theorem c_M_lengthOf {l : Launch} {G : va_G} {tys : List (ClassId × FieldType)} {cI cO cZ : ClassId} (hT : TY tys cI cO cZ) (q0 q1 q2 q3 q4 q5 q6 q7 q8 q9 : Nat) (nw pt : Int → Int) (np : Int) (sl : Int → Int) (sv : Int) (li ot : Int → Int) (len : Int) (pd : Int → Int) (ty : Int) (wr : Int → Int) (wm : Int) (ss lz : Int → Int) (rm : Int) (k : Int) (hk : 0 ≤ k ∧ k < 50) : CTI l G tys y_M_lengthOf b_M_lengthOf 2 .int 0 0 [.ref q0, .int (iI k)] (mw cI q0 q1 q2 q3 q4 q5 q6 q7 q8 q9 nw pt np sl sv li ot len pd ty wr wm ss lz rm) (fun z u => u = mw cI q0 q1 q2 q3 q4 q5 q6 q7 q8 q9 nw pt np sl sv li ot len pd ty wr wm ss lz rm ∧ z = nw (4 + 2 * k)) := by
  refine mkI (by decide) (Nat.le_of_ble_eq_true rfl) ?_
  rintro X rfl rfl rfl hRm C kret H ls w hl
  have hl : lv_has ls 2 [(0, .ref q0), (1, .int (iI k))] := hl
  have w : Wd X (mw cI q0 q1 q2 q3 q4 q5 q6 q7 q8 q9 nw pt np sl sv li ot len pd ty wr wm ss lz rm) H [] := w
  generalize ([] : List Loc) = locs at w ⊢
  refine r_aload_n (pc := 0) C d_M_lengthOf_0 rfl (lv_at hl 0 rfl) ?_
  refine r_get (pc := 1) (v := .ref q1) C w i_M rfl 0 rfl 0 (by decide) fl_M_7 rfl rfl d_M_lengthOf_1 ?_
  refine r_iconst (pc := 4) C d_M_lengthOf_4 ?_
  refine r_iconst (pc := 5) C d_M_lengthOf_5 ?_
  refine r_iload_n (pc := 6) C d_M_lengthOf_6 rfl (lv_at hl 1 rfl) ?_
  refine r_imul (pc := 7) C d_M_lengthOf_7 ?_
  refine r_iadd (pc := 8) C d_M_lengthOf_8 ?_
  refine r_iconst (pc := 9) C d_M_lengthOf_9 ?_
  refine r_iadd (pc := 10) C d_M_lengthOf_10 ?_
  refine r_iald (pc := 11) (f := nw) (i := ((3 + (2 * k)) + 1)) C w 0 1 rfl hT.1 (by omega) d_M_lengthOf_11 ?_
  exact kret _ _ _ _ (nw ((3 + (2 * k)) + 1)) _ d_M_lengthOf_12 w (⟨rfl, by congr 1; omega⟩)
theorem d_M_firstOf_0 : decode b_M_firstOf 0 = .ok (.iconst 0, 1) := by decide +kernel
theorem d_M_firstOf_1 : decode b_M_firstOf 1 = .ok (.istore_n 2, 1) := by decide +kernel
theorem d_M_firstOf_2 : decode b_M_firstOf 2 = .ok (.iconst 0, 1) := by decide +kernel
theorem d_M_firstOf_3 : decode b_M_firstOf 3 = .ok (.istore_n 3, 1) := by decide +kernel
theorem d_M_firstOf_4 : decode b_M_firstOf 4 = .ok (.iload_n 3, 1) := by decide +kernel
theorem d_M_firstOf_5 : decode b_M_firstOf 5 = .ok (.iload_n 1, 1) := by decide +kernel
theorem d_M_firstOf_6 : decode b_M_firstOf 6 = .ok (.if_icmp .ge 17, 3) := by decide +kernel
theorem d_M_firstOf_9 : decode b_M_firstOf 9 = .ok (.iload_n 2, 1) := by decide +kernel
theorem d_M_firstOf_10 : decode b_M_firstOf 10 = .ok (.aload_n 0, 1) := by decide +kernel
theorem d_M_firstOf_11 : decode b_M_firstOf 11 = .ok (.iload_n 3, 1) := by decide +kernel
theorem d_M_firstOf_12 : decode b_M_firstOf 12 = .ok (.invokevirtual 45, 3) := by decide +kernel
theorem d_M_firstOf_15 : decode b_M_firstOf 15 = .ok (.iadd, 1) := by decide +kernel
theorem d_M_firstOf_16 : decode b_M_firstOf 16 = .ok (.istore_n 2, 1) := by decide +kernel
theorem d_M_firstOf_17 : decode b_M_firstOf 17 = .ok (.iinc 3 1, 3) := by decide +kernel
theorem d_M_firstOf_20 : decode b_M_firstOf 20 = .ok (.goto (-16), 3) := by decide +kernel
theorem d_M_firstOf_23 : decode b_M_firstOf 23 = .ok (.iload_n 2, 1) := by decide +kernel
theorem d_M_firstOf_24 : decode b_M_firstOf 24 = .ok (.ireturn, 1) := by decide +kernel
set_option maxHeartbeats 4000000 in
set_option maxRecDepth 20000 in
theorem c_M_firstOf {l : Launch} {G : va_G} {tys : List (ClassId × FieldType)} {cI cO cZ : ClassId} (hT : TY tys cI cO cZ) (q0 q1 q2 q3 q4 q5 q6 q7 q8 q9 : Nat) (nw pt : Int → Int) (np : Int) (sl : Int → Int) (sv : Int) (li ot : Int → Int) (len : Int) (pd : Int → Int) (ty : Int) (wr : Int → Int) (wm : Int) (ss lz : Int → Int) (rm : Int) (k : Int) (lc sd r N : Int) (sg ln v : Int → Int) (hR : RwOk lc sd r sg ln N v) (hM : MR nw 0 lc sd r sg ln) (hk : 0 ≤ k ∧ k ≤ r) : CTI l G tys y_M_firstOf b_M_firstOf 4 .int 1 21 [.ref q0, .int (iI k)] (mw cI q0 q1 q2 q3 q4 q5 q6 q7 q8 q9 nw pt np sl sv li ot len pd ty wr wm ss lz rm) (fun z u => u = mw cI q0 q1 q2 q3 q4 q5 q6 q7 q8 q9 nw pt np sl sv li ot len pd ty wr wm ss lz rm ∧ z = ps ln k) := by
  refine mkI (by decide) (Nat.le_of_ble_eq_true rfl) ?_
  rintro X rfl rfl rfl hRm C kret H ls w hl
  have hl : lv_has ls 4 [(0, .ref q0), (1, .int (iI k))] := hl
  have w : Wd X (mw cI q0 q1 q2 q3 q4 q5 q6 q7 q8 q9 nw pt np sl sv li ot len pd ty wr wm ss lz rm) H [] := w
  generalize ([] : List Loc) = locs at w ⊢
  have hO := hR.1
  have hr5 := hR.2.1
  have hN3 := hR.2.2.1
  have hN0 := hO.n0
  have hr0 := hO.1
  have hlcd := hR.2.2.2
  have hps := ps_zero ln
  have hpr := hO.2.2.2.1
  obtain ⟨hm0, hm1, hm2, hm3⟩ := hM
  rw [show (0 : Int) + 2 = 2 from rfl] at hm2
  rw [show (0 : Int) + 1 = 1 from rfl] at hm1
  have hm4 : ∀ k, 0 ≤ k → k < r → nw (3 + 2 * k) = sg k ∧ nw (4 + 2 * k) = ln k := fun k h1 h2 => by have := hm3 k h1 h2; rw [show (0 : Int) + 3 = 3 from rfl, show (0 : Int) + 4 = 4 from rfl] at this; exact this
  refine r_iconst (pc := 0) C d_M_firstOf_0 ?_
  refine r_istore_n (pc := 1) (lv' := [(2, .int (iI 0)), (0, .ref q0), (1, .int (iI k))]) C d_M_firstOf_1 rfl hl (by decide) rfl (fun ls hl => ?_)
  refine r_iconst (pc := 2) C d_M_firstOf_2 ?_
  refine r_istore_n (pc := 3) (lv' := [(3, .int (iI 0)), (2, .int (iI 0)), (0, .ref q0), (1, .int (iI k))]) C d_M_firstOf_3 rfl hl (by decide) rfl (fun ls hl => ?_)
  have L4 : ∀ (fuel : Nat), ∀ (i : Int) (fs : Int), 0 ≤ i ∧ i ≤ k → fs = ps ln i → (k - i) < (fuel : Int) → ∀ (H : Heap) (locs : List Loc) (ls : Array Slot), Wd X (mw cI q0 q1 q2 q3 q4 q5 q6 q7 q8 q9 nw pt np sl sv li ot len pd ty wr wm ss lz rm) H locs → lv_has ls 4 [(0, .ref q0), (1, .int (iI k)), (2, .int (iI fs)), (3, .int (iI i))] → GG X 0 0 H locs 4 ls [] := by
    intro fuel
    induction fuel with
    | zero =>
      intro i fs h0 hf hfuel
      exact absurd hfuel (by omega)
    | succ fuel ih4 =>
      intro i fs h0 hf hfuel H locs ls w hl
      refine r_iload_n (pc := 4) C d_M_firstOf_4 rfl (lv_at hl 3 rfl) ?_
      refine r_iload_n (pc := 5) C d_M_firstOf_5 rfl (lv_at hl 1 rfl) ?_
      refine r_icmp_ge (pc := 6) (tgt := 23) C (by omega) d_M_firstOf_6 (by decide) (fun c_6 => ?_) (fun c_6 => ?_)
      · skip
        refine r_iload_n (pc := 23) C d_M_firstOf_23 rfl (lv_at hl 2 rfl) ?_
        exact kret _ _ _ _ fs _ d_M_firstOf_24 w (⟨rfl, by rw [hf, show i = k by omega]⟩)
      · skip
        have hk2 := hO.run (k := i) (by omega) (by omega)
        have hk3 := hm4 i (by omega) (by omega)
        refine r_iload_n (pc := 9) C d_M_firstOf_9 rfl (lv_at hl 2 rfl) ?_
        refine r_aload_n (pc := 10) C d_M_firstOf_10 rfl (lv_at hl 0 rfl) ?_
        refine r_iload_n (pc := 11) C d_M_firstOf_11 rfl (lv_at hl 3 rfl) ?_
        refine r_callVI (pc := 12) (As := [.int (iI i)]) (rest := [.int (iI fs)]) (wr := []) C w (c_M_lengthOf hT q0 q1 q2 q3 q4 q5 q6 q7 q8 q9 nw pt np sl sv li ot len pd ty wr wm ss lz rm i (by omega)) ml_M_45 im_M_lengthOf se_M_lengthOf ini_M cd_M_lengthOf hd_M_lengthOf rfl (by rw [hRm]; exact ⟨⟨Nat.le_of_ble_eq_true rfl, Nat.le_of_ble_eq_true rfl⟩, Nat.le_of_ble_eq_true rfl, Nat.le_of_ble_eq_true rfl⟩) hl.1 [0, 1, 2, 3, 4, 5, 6, 7, 8, 9] [] ⟨rfl, rfl, by decide, by decide, by decide⟩ 0 rfl rfl rfl (Nat.le_of_ble_eq_true rfl) d_M_firstOf_12 (fun z_12 u_12 H locs hz_12 w => ?_)
        obtain ⟨rfl, rfl⟩ := hz_12
        have w : Wd X (mw cI q0 q1 q2 q3 q4 q5 q6 q7 q8 q9 nw pt np sl sv li ot len pd ty wr wm ss lz rm) H locs := w
        refine r_iadd (pc := 15) C d_M_firstOf_15 ?_
        refine r_istore_n (pc := 16) (lv' := [(2, .int (iI (fs + (nw (4 + 2 * i))))), (0, .ref q0), (1, .int (iI k)), (3, .int (iI i))]) C d_M_firstOf_16 rfl hl (by decide) rfl (fun ls hl => ?_)
        refine r_iinc (pc := 17) (j := 3) (lv' := [(3, .int (iI (i + 1))), (2, .int (iI (fs + (nw (4 + 2 * i))))), (0, .ref q0), (1, .int (iI k))]) C d_M_firstOf_17 hl rfl (by decide) rfl (fun ls hl => ?_)
        refine r_goto (pc := 20) (tgt := 4) C d_M_firstOf_20 (by decide) ?_
        exact ih4 (i + 1) (fs + (nw (4 + 2 * i))) (by omega) (by omega) (by omega) _ _ _ w (lv_sub hl [2, 3, 1, 0] rfl)
  exact L4 ((k - 0) + 1 : Int).toNat 0 0 (by first | omega | rfl) (by first | omega | rfl) (by omega) _ _ _ w (lv_sub hl [2, 3, 1, 0] rfl)
theorem d_M_lengthAll_0 : decode b_M_lengthAll 0 = .ok (.aload_n 0, 1) := by decide +kernel
theorem d_M_lengthAll_1 : decode b_M_lengthAll 1 = .ok (.aload_n 0, 1) := by decide +kernel
theorem d_M_lengthAll_2 : decode b_M_lengthAll 2 = .ok (.getfield 7, 3) := by decide +kernel
theorem d_M_lengthAll_5 : decode b_M_lengthAll 5 = .ok (.iconst 2, 1) := by decide +kernel
theorem d_M_lengthAll_6 : decode b_M_lengthAll 6 = .ok (.iaload, 1) := by decide +kernel
theorem d_M_lengthAll_7 : decode b_M_lengthAll 7 = .ok (.invokevirtual 49, 3) := by decide +kernel
theorem d_M_lengthAll_10 : decode b_M_lengthAll 10 = .ok (.ireturn, 1) := by decide +kernel
set_option maxHeartbeats 4000000 in
set_option maxRecDepth 20000 in
theorem c_M_lengthAll {l : Launch} {G : va_G} {tys : List (ClassId × FieldType)} {cI cO cZ : ClassId} (hT : TY tys cI cO cZ) (q0 q1 q2 q3 q4 q5 q6 q7 q8 q9 : Nat) (nw pt : Int → Int) (np : Int) (sl : Int → Int) (sv : Int) (li ot : Int → Int) (len : Int) (pd : Int → Int) (ty : Int) (wr : Int → Int) (wm : Int) (ss lz : Int → Int) (rm : Int) (lc sd r N : Int) (sg ln v : Int → Int) (hR : RwOk lc sd r sg ln N v) (hM : MR nw 0 lc sd r sg ln) : CTI l G tys y_M_lengthAll b_M_lengthAll 1 .int 2 44 [.ref q0] (mw cI q0 q1 q2 q3 q4 q5 q6 q7 q8 q9 nw pt np sl sv li ot len pd ty wr wm ss lz rm) (fun z u => u = mw cI q0 q1 q2 q3 q4 q5 q6 q7 q8 q9 nw pt np sl sv li ot len pd ty wr wm ss lz rm ∧ z = N) := by
  refine mkI (by decide) (Nat.le_of_ble_eq_true rfl) ?_
  rintro X rfl rfl rfl hRm C kret H ls w hl
  have hl : lv_has ls 1 [(0, .ref q0)] := hl
  have w : Wd X (mw cI q0 q1 q2 q3 q4 q5 q6 q7 q8 q9 nw pt np sl sv li ot len pd ty wr wm ss lz rm) H [] := w
  generalize ([] : List Loc) = locs at w ⊢
  have hO := hR.1
  have hr5 := hR.2.1
  have hN3 := hR.2.2.1
  have hN0 := hO.n0
  have hr0 := hO.1
  have hlcd := hR.2.2.2
  have hps := ps_zero ln
  have hpr := hO.2.2.2.1
  have hM9 := hM
  obtain ⟨hm0, hm1, hm2, hm3⟩ := hM
  rw [show (0 : Int) + 2 = 2 from rfl] at hm2
  rw [show (0 : Int) + 1 = 1 from rfl] at hm1
  have hm4 : ∀ k, 0 ≤ k → k < r → nw (3 + 2 * k) = sg k ∧ nw (4 + 2 * k) = ln k := fun k h1 h2 => by have := hm3 k h1 h2; rw [show (0 : Int) + 3 = 3 from rfl, show (0 : Int) + 4 = 4 from rfl] at this; exact this
  refine r_aload_n (pc := 0) C d_M_lengthAll_0 rfl (lv_at hl 0 rfl) ?_
  refine r_aload_n (pc := 1) C d_M_lengthAll_1 rfl (lv_at hl 0 rfl) ?_
  refine r_get (pc := 2) (v := .ref q1) C w i_M rfl 0 rfl 0 (by decide) fl_M_7 rfl rfl d_M_lengthAll_2 ?_
  refine r_iconst (pc := 5) C d_M_lengthAll_5 ?_
  refine r_iald (pc := 6) (f := nw) (i := 2) C w 0 1 rfl hT.1 (by omega) d_M_lengthAll_6 ?_
  refine r_callVI (pc := 7) (As := [.int (iI (nw 2))]) (rest := []) (wr := []) C w (c_M_firstOf hT q0 q1 q2 q3 q4 q5 q6 q7 q8 q9 nw pt np sl sv li ot len pd ty wr wm ss lz rm (nw 2) _ _ _ _ _ _ _ hR hM9 (by omega)) ml_M_49 im_M_firstOf se_M_firstOf ini_M cd_M_firstOf hd_M_firstOf rfl (by rw [hRm]; exact ⟨⟨Nat.le_of_ble_eq_true rfl, Nat.le_of_ble_eq_true rfl⟩, Nat.le_of_ble_eq_true rfl, Nat.le_of_ble_eq_true rfl⟩) hl.1 [0, 1, 2, 3, 4, 5, 6, 7, 8, 9] [] ⟨rfl, rfl, by decide, by decide, by decide⟩ 0 rfl rfl rfl (Nat.le_of_ble_eq_true rfl) d_M_lengthAll_7 (fun z_7 u_7 H locs hz_7 w => ?_)
  obtain ⟨rfl, rfl⟩ := hz_7
  have w : Wd X (mw cI q0 q1 q2 q3 q4 q5 q6 q7 q8 q9 nw pt np sl sv li ot len pd ty wr wm ss lz rm) H locs := w
  exact kret _ _ _ _ (ps ln (nw 2)) _ d_M_lengthAll_10 w (⟨rfl, by rw [hm2]; exact hpr⟩)
theorem d_M_laysOut_0 : decode b_M_laysOut 0 = .ok (.aload_n 0, 1) := by decide +kernel
theorem d_M_laysOut_1 : decode b_M_laysOut 1 = .ok (.iconst 0, 1) := by decide +kernel
theorem d_M_laysOut_2 : decode b_M_laysOut 2 = .ok (.putfield 52, 3) := by decide +kernel
theorem d_M_laysOut_5 : decode b_M_laysOut 5 = .ok (.iconst 0, 1) := by decide +kernel
theorem d_M_laysOut_6 : decode b_M_laysOut 6 = .ok (.istore_n 1, 1) := by decide +kernel
theorem d_M_laysOut_7 : decode b_M_laysOut 7 = .ok (.iload_n 1, 1) := by decide +kernel
theorem d_M_laysOut_8 : decode b_M_laysOut 8 = .ok (.aload_n 0, 1) := by decide +kernel
theorem d_M_laysOut_9 : decode b_M_laysOut 9 = .ok (.getfield 7, 3) := by decide +kernel
theorem d_M_laysOut_12 : decode b_M_laysOut 12 = .ok (.iconst 2, 1) := by decide +kernel
theorem d_M_laysOut_13 : decode b_M_laysOut 13 = .ok (.iaload, 1) := by decide +kernel
theorem d_M_laysOut_14 : decode b_M_laysOut 14 = .ok (.if_icmp .ge 50, 3) := by decide +kernel
theorem d_M_laysOut_17 : decode b_M_laysOut 17 = .ok (.iconst 0, 1) := by decide +kernel
theorem d_M_laysOut_18 : decode b_M_laysOut 18 = .ok (.istore_n 2, 1) := by decide +kernel
theorem d_M_laysOut_19 : decode b_M_laysOut 19 = .ok (.iload_n 2, 1) := by decide +kernel
theorem d_M_laysOut_20 : decode b_M_laysOut 20 = .ok (.aload_n 0, 1) := by decide +kernel
theorem d_M_laysOut_21 : decode b_M_laysOut 21 = .ok (.iload_n 1, 1) := by decide +kernel
theorem d_M_laysOut_22 : decode b_M_laysOut 22 = .ok (.invokevirtual 45, 3) := by decide +kernel
theorem d_M_laysOut_25 : decode b_M_laysOut 25 = .ok (.if_icmp .ge 33, 3) := by decide +kernel
theorem d_M_laysOut_28 : decode b_M_laysOut 28 = .ok (.aload_n 0, 1) := by decide +kernel
theorem d_M_laysOut_29 : decode b_M_laysOut 29 = .ok (.getfield 19, 3) := by decide +kernel
theorem d_M_laysOut_32 : decode b_M_laysOut 32 = .ok (.aload_n 0, 1) := by decide +kernel
theorem d_M_laysOut_33 : decode b_M_laysOut 33 = .ok (.getfield 52, 3) := by decide +kernel
theorem d_M_laysOut_36 : decode b_M_laysOut 36 = .ok (.aload_n 0, 1) := by decide +kernel
theorem d_M_laysOut_37 : decode b_M_laysOut 37 = .ok (.iload_n 1, 1) := by decide +kernel
theorem d_M_laysOut_38 : decode b_M_laysOut 38 = .ok (.invokevirtual 55, 3) := by decide +kernel
theorem d_M_laysOut_41 : decode b_M_laysOut 41 = .ok (.iastore, 1) := by decide +kernel
theorem d_M_laysOut_42 : decode b_M_laysOut 42 = .ok (.aload_n 0, 1) := by decide +kernel
theorem d_M_laysOut_43 : decode b_M_laysOut 43 = .ok (.dup, 1) := by decide +kernel
theorem d_M_laysOut_44 : decode b_M_laysOut 44 = .ok (.getfield 52, 3) := by decide +kernel
theorem d_M_laysOut_47 : decode b_M_laysOut 47 = .ok (.iconst 1, 1) := by decide +kernel
theorem d_M_laysOut_48 : decode b_M_laysOut 48 = .ok (.iadd, 1) := by decide +kernel
theorem d_M_laysOut_49 : decode b_M_laysOut 49 = .ok (.putfield 52, 3) := by decide +kernel
theorem d_M_laysOut_52 : decode b_M_laysOut 52 = .ok (.iinc 2 1, 3) := by decide +kernel
theorem d_M_laysOut_55 : decode b_M_laysOut 55 = .ok (.goto (-36), 3) := by decide +kernel
theorem d_M_laysOut_58 : decode b_M_laysOut 58 = .ok (.iinc 1 1, 3) := by decide +kernel
theorem d_M_laysOut_61 : decode b_M_laysOut 61 = .ok (.goto (-54), 3) := by decide +kernel
theorem d_M_laysOut_64 : decode b_M_laysOut 64 = .ok (.return_, 1) := by decide +kernel
set_option maxHeartbeats 4000000 in
set_option maxRecDepth 20000 in
theorem c_M_laysOut {l : Launch} {G : va_G} {tys : List (ClassId × FieldType)} {cI cO cZ : ClassId} (hT : TY tys cI cO cZ) (q0 q1 q2 q3 q4 q5 q6 q7 q8 q9 : Nat) (nw pt : Int → Int) (np : Int) (sl : Int → Int) (sv : Int) (li ot : Int → Int) (len : Int) (pd : Int → Int) (ty : Int) (wr : Int → Int) (wm : Int) (ss lz : Int → Int) (rm : Int) (lc sd r N : Int) (sg ln v : Int → Int) (hR : RwOk lc sd r sg ln N v) (hM : MR nw 0 lc sd r sg ln) : CTV l G tys y_M_laysOut b_M_laysOut 3 1 21 [.ref q0] (mw cI q0 q1 q2 q3 q4 q5 q6 q7 q8 q9 nw pt np sl sv li ot len pd ty wr wm ss lz rm) (fun u => ∃ li' : Int → Int, u = mw cI q0 q1 q2 q3 q4 q5 q6 q7 q8 q9 nw pt np sl sv li' ot N pd ty wr wm ss lz rm ∧ ∀ x, 0 ≤ x → x < N → li' x = v x) := by
  refine mkV (by decide) (Nat.le_of_ble_eq_true rfl) ?_
  rintro X rfl rfl rfl hRm C kret H ls w hl
  have hl : lv_has ls 3 [(0, .ref q0)] := hl
  have w : Wd X (mw cI q0 q1 q2 q3 q4 q5 q6 q7 q8 q9 nw pt np sl sv li ot len pd ty wr wm ss lz rm) H [] := w
  generalize ([] : List Loc) = locs at w ⊢
  have hO := hR.1
  have hr5 := hR.2.1
  have hN3 := hR.2.2.1
  have hN0 := hO.n0
  have hr0 := hO.1
  have hlcd := hR.2.2.2
  have hps := ps_zero ln
  have hpr := hO.2.2.2.1
  obtain ⟨hm0, hm1, hm2, hm3⟩ := hM
  rw [show (0 : Int) + 2 = 2 from rfl] at hm2
  rw [show (0 : Int) + 1 = 1 from rfl] at hm1
  have hm4 : ∀ k, 0 ≤ k → k < r → nw (3 + 2 * k) = sg k ∧ nw (4 + 2 * k) = ln k := fun k h1 h2 => by have := hm3 k h1 h2; rw [show (0 : Int) + 3 = 3 from rfl, show (0 : Int) + 4 = 4 from rfl] at this; exact this
  refine r_aload_n (pc := 0) C d_M_laysOut_0 rfl (lv_at hl 0 rfl) ?_
  refine r_iconst (pc := 1) C d_M_laysOut_1 ?_
  refine r_put (pc := 2) (ws' := mw cI q0 q1 q2 q3 q4 q5 q6 q7 q8 q9 nw pt np sl sv li ot 0 pd ty wr wm ss lz rm) C w i_M t_M t_M_ok n_M rfl 0 rfl 7 (by decide) fl_M_52 rfl rfl rfl rfl (Nat.le_of_ble_eq_true rfl) rfl d_M_laysOut_2 (fun H locs w => ?_)
  refine r_iconst (pc := 5) C d_M_laysOut_5 ?_
  refine r_istore_n (pc := 6) (lv' := [(1, .int (iI 0)), (0, .ref q0)]) C d_M_laysOut_6 rfl hl (by decide) rfl (fun ls hl => ?_)
  have L7 : ∀ (fuel : Nat), ∀ (k : Int) (l1 : Int → Int) (n1 : Int), 0 ≤ k ∧ k ≤ r → n1 = ps ln k → (∀ x, 0 ≤ x → x < n1 → l1 x = v x) → (r - k) < (fuel : Int) → ∀ (H : Heap) (locs : List Loc) (ls : Array Slot), Wd X (mw cI q0 q1 q2 q3 q4 q5 q6 q7 q8 q9 nw pt np sl sv l1 ot n1 pd ty wr wm ss lz rm) H locs → lv_has ls 3 [(0, .ref q0), (1, .int (iI k))] → GG X 0 0 H locs 7 ls [] := by
    intro fuel
    induction fuel with
    | zero =>
      intro k l1 n1 h0 hn hl1 hfuel
      exact absurd hfuel (by omega)
    | succ fuel ih7 =>
      intro k l1 n1 h0 hn hl1 hfuel H locs ls w hl
      refine r_iload_n (pc := 7) C d_M_laysOut_7 rfl (lv_at hl 1 rfl) ?_
      refine r_aload_n (pc := 8) C d_M_laysOut_8 rfl (lv_at hl 0 rfl) ?_
      refine r_get (pc := 9) (v := .ref q1) C w i_M rfl 0 rfl 0 (by decide) fl_M_7 rfl rfl d_M_laysOut_9 ?_
      refine r_iconst (pc := 12) C d_M_laysOut_12 ?_
      refine r_iald (pc := 13) (f := nw) (i := 2) C w 0 1 rfl hT.1 (by omega) d_M_laysOut_13 ?_
      refine r_icmp_ge (pc := 14) (tgt := 64) C (by omega) d_M_laysOut_14 (by decide) (fun c_14 => ?_) (fun c_14 => ?_)
      · skip
        exact kret _ _ _ _ _ d_M_laysOut_64 w (⟨_, by rw [show n1 = N by rw [hn, show k = r by omega]; exact hpr], fun x h1 h2 => hl1 x h1 (by rw [hn, show k = r by omega, hpr]; exact h2)⟩)
      · skip
        have hk2 := hO.run (k := k) (by omega) (by omega)
        have hk3 := hm4 k (by omega) (by omega)
        refine r_iconst (pc := 17) C d_M_laysOut_17 ?_
        refine r_istore_n (pc := 18) (lv' := [(2, .int (iI 0)), (0, .ref q0), (1, .int (iI k))]) C d_M_laysOut_18 rfl hl (by decide) rfl (fun ls hl => ?_)
        have L19 : ∀ (fuel : Nat), ∀ (i : Int) (l2 : Int → Int) (n2 : Int), 0 ≤ i ∧ i ≤ ln k → n2 = ps ln k + i → (∀ x, 0 ≤ x → x < n2 → l2 x = v x) → (ln k - i) < (fuel : Int) → ∀ (H : Heap) (locs : List Loc) (ls : Array Slot), Wd X (mw cI q0 q1 q2 q3 q4 q5 q6 q7 q8 q9 nw pt np sl sv l2 ot n2 pd ty wr wm ss lz rm) H locs → lv_has ls 3 [(0, .ref q0), (1, .int (iI k)), (2, .int (iI i))] → GG X 0 0 H locs 19 ls [] := by
          intro fuel
          induction fuel with
          | zero =>
            intro i l2 n2 hi hn2 hl2 hfuel
            exact absurd hfuel (by omega)
          | succ fuel ih19 =>
            intro i l2 n2 hi hn2 hl2 hfuel H locs ls w hl
            refine r_iload_n (pc := 19) C d_M_laysOut_19 rfl (lv_at hl 2 rfl) ?_
            refine r_aload_n (pc := 20) C d_M_laysOut_20 rfl (lv_at hl 0 rfl) ?_
            refine r_iload_n (pc := 21) C d_M_laysOut_21 rfl (lv_at hl 1 rfl) ?_
            refine r_callVI (pc := 22) (As := [.int (iI k)]) (rest := [.int (iI i)]) (wr := []) C w (c_M_lengthOf hT q0 q1 q2 q3 q4 q5 q6 q7 q8 q9 nw pt np sl sv l2 ot n2 pd ty wr wm ss lz rm k (by omega)) ml_M_45 im_M_lengthOf se_M_lengthOf ini_M cd_M_lengthOf hd_M_lengthOf rfl (by rw [hRm]; exact ⟨⟨Nat.le_of_ble_eq_true rfl, Nat.le_of_ble_eq_true rfl⟩, Nat.le_of_ble_eq_true rfl, Nat.le_of_ble_eq_true rfl⟩) hl.1 [0, 1, 2, 3, 4, 5, 6, 7, 8, 9] [] ⟨rfl, rfl, by decide, by decide, by decide⟩ 0 rfl rfl rfl (Nat.le_of_ble_eq_true rfl) d_M_laysOut_22 (fun z_22 u_22 H locs hz_22 w => ?_)
            obtain ⟨rfl, rfl⟩ := hz_22
            have w : Wd X (mw cI q0 q1 q2 q3 q4 q5 q6 q7 q8 q9 nw pt np sl sv l2 ot n2 pd ty wr wm ss lz rm) H locs := w
            refine r_icmp_ge (pc := 25) (tgt := 58) C (by omega) d_M_laysOut_25 (by decide) (fun c_25 => ?_) (fun c_25 => ?_)
            · skip
              refine r_iinc (pc := 58) (j := 1) (lv' := [(1, .int (iI (k + 1))), (0, .ref q0), (2, .int (iI i))]) C d_M_laysOut_58 hl rfl (by decide) rfl (fun ls hl => ?_)
              refine r_goto (pc := 61) (tgt := 7) C d_M_laysOut_61 (by decide) ?_
              exact ih7 (k + 1) l2 n2 (by omega) (by omega) (by omega) (by omega) _ _ _ w (lv_sub hl [1, 0] rfl)
            · skip
              refine r_aload_n (pc := 28) C d_M_laysOut_28 rfl (lv_at hl 0 rfl) ?_
              refine r_get (pc := 29) (v := .ref q4) C w i_M rfl 0 rfl 5 (by decide) fl_M_19 rfl rfl d_M_laysOut_29 ?_
              refine r_aload_n (pc := 32) C d_M_laysOut_32 rfl (lv_at hl 0 rfl) ?_
              refine r_get (pc := 33) (v := .int (iI n2)) C w i_M rfl 0 rfl 7 (by decide) fl_M_52 rfl rfl d_M_laysOut_33 ?_
              refine r_aload_n (pc := 36) C d_M_laysOut_36 rfl (lv_at hl 0 rfl) ?_
              refine r_iload_n (pc := 37) C d_M_laysOut_37 rfl (lv_at hl 1 rfl) ?_
              refine r_callVI (pc := 38) (As := [.int (iI k)]) (rest := [.int (iI n2), .ref q4]) (wr := []) C w (c_M_signOf hT q0 q1 q2 q3 q4 q5 q6 q7 q8 q9 nw pt np sl sv l2 ot n2 pd ty wr wm ss lz rm k (by omega)) ml_M_55 im_M_signOf se_M_signOf ini_M cd_M_signOf hd_M_signOf rfl (by rw [hRm]; exact ⟨⟨Nat.le_of_ble_eq_true rfl, Nat.le_of_ble_eq_true rfl⟩, Nat.le_of_ble_eq_true rfl, Nat.le_of_ble_eq_true rfl⟩) hl.1 [0, 1, 2, 3, 4, 5, 6, 7, 8, 9] [] ⟨rfl, rfl, by decide, by decide, by decide⟩ 0 rfl rfl rfl (Nat.le_of_ble_eq_true rfl) d_M_laysOut_38 (fun z_38 u_38 H locs hz_38 w => ?_)
              obtain ⟨rfl, rfl⟩ := hz_38
              have w : Wd X (mw cI q0 q1 q2 q3 q4 q5 q6 q7 q8 q9 nw pt np sl sv l2 ot n2 pd ty wr wm ss lz rm) H locs := w
              refine r_iast (pc := 41) (f := l2) (i := n2) (v := (nw (3 + 2 * k))) (ws' := mw cI q0 q1 q2 q3 q4 q5 q6 q7 q8 q9 nw pt np sl sv (up l2 n2 (nw (3 + 2 * k))) ot n2 pd ty wr wm ss lz rm) C w 0 4 rfl hT.1 (by omega) rfl d_M_laysOut_41 (fun H locs w => ?_)
              refine r_aload_n (pc := 42) C d_M_laysOut_42 rfl (lv_at hl 0 rfl) ?_
              refine r_dup (pc := 43) C d_M_laysOut_43 rfl ?_
              refine r_get (pc := 44) (v := .int (iI n2)) C w i_M rfl 0 rfl 7 (by decide) fl_M_52 rfl rfl d_M_laysOut_44 ?_
              refine r_iconst (pc := 47) C d_M_laysOut_47 ?_
              refine r_iadd (pc := 48) C d_M_laysOut_48 ?_
              refine r_put (pc := 49) (ws' := mw cI q0 q1 q2 q3 q4 q5 q6 q7 q8 q9 nw pt np sl sv (up l2 n2 (nw (3 + 2 * k))) ot (n2 + 1) pd ty wr wm ss lz rm) C w i_M t_M t_M_ok n_M rfl 0 rfl 7 (by decide) fl_M_52 rfl rfl rfl rfl (Nat.le_of_ble_eq_true rfl) rfl d_M_laysOut_49 (fun H locs w => ?_)
              refine r_iinc (pc := 52) (j := 2) (lv' := [(2, .int (iI (i + 1))), (0, .ref q0), (1, .int (iI k))]) C d_M_laysOut_52 hl rfl (by decide) rfl (fun ls hl => ?_)
              refine r_goto (pc := 55) (tgt := 19) C d_M_laysOut_55 (by decide) ?_
              exact ih19 (i + 1) (up l2 n2 (nw (3 + 2 * k))) (n2 + 1) (by omega) (by omega) ((fun x h1 h2 => by by_cases e : x = n2; rw [e, up_eq, hk3.1]; exact (hO.2.2.2.2 k (by omega) (by omega) n2 (by omega) (by omega)).symm; rw [up_ne _ _ e]; exact hl2 x h1 (by omega))) (by omega) _ _ _ w (lv_sub hl [1, 2, 0] rfl)
        exact L19 ((ln k - 0) + 1 : Int).toNat 0 l1 n1 (by first | omega | rfl) (by first | omega | rfl) (hl1) (by omega) _ _ _ w (lv_sub hl [1, 2, 0] rfl)
  exact L7 ((r - 0) + 1 : Int).toNat 0 li 0 (by first | omega | rfl) (by first | omega | rfl) ((fun x h1 h2 => by omega)) (by omega) _ _ _ w (lv_sub hl [1, 0] rfl)
theorem d_M_runsOfLine_0 : decode b_M_runsOfLine 0 = .ok (.iconst 0, 1) := by decide +kernel
theorem d_M_runsOfLine_1 : decode b_M_runsOfLine 1 = .ok (.istore_n 1, 1) := by decide +kernel
theorem d_M_runsOfLine_2 : decode b_M_runsOfLine 2 = .ok (.iconst 0, 1) := by decide +kernel
theorem d_M_runsOfLine_3 : decode b_M_runsOfLine 3 = .ok (.istore_n 2, 1) := by decide +kernel
theorem d_M_runsOfLine_4 : decode b_M_runsOfLine 4 = .ok (.iload_n 2, 1) := by decide +kernel
theorem d_M_runsOfLine_5 : decode b_M_runsOfLine 5 = .ok (.aload_n 0, 1) := by decide +kernel
theorem d_M_runsOfLine_6 : decode b_M_runsOfLine 6 = .ok (.getfield 52, 3) := by decide +kernel
theorem d_M_runsOfLine_9 : decode b_M_runsOfLine 9 = .ok (.if_icmp .ge 38, 3) := by decide +kernel
theorem d_M_runsOfLine_12 : decode b_M_runsOfLine 12 = .ok (.iload_n 1, 1) := by decide +kernel
theorem d_M_runsOfLine_13 : decode b_M_runsOfLine 13 = .ok (.iload_n 2, 1) := by decide +kernel
theorem d_M_runsOfLine_14 : decode b_M_runsOfLine 14 = .ok (.ifCond .eq 20, 3) := by decide +kernel
theorem d_M_runsOfLine_17 : decode b_M_runsOfLine 17 = .ok (.aload_n 0, 1) := by decide +kernel
theorem d_M_runsOfLine_18 : decode b_M_runsOfLine 18 = .ok (.getfield 19, 3) := by decide +kernel
theorem d_M_runsOfLine_21 : decode b_M_runsOfLine 21 = .ok (.iload_n 2, 1) := by decide +kernel
theorem d_M_runsOfLine_22 : decode b_M_runsOfLine 22 = .ok (.iaload, 1) := by decide +kernel
theorem d_M_runsOfLine_23 : decode b_M_runsOfLine 23 = .ok (.aload_n 0, 1) := by decide +kernel
theorem d_M_runsOfLine_24 : decode b_M_runsOfLine 24 = .ok (.getfield 19, 3) := by decide +kernel
theorem d_M_runsOfLine_27 : decode b_M_runsOfLine 27 = .ok (.iload_n 2, 1) := by decide +kernel
theorem d_M_runsOfLine_28 : decode b_M_runsOfLine 28 = .ok (.iconst 1, 1) := by decide +kernel
theorem d_M_runsOfLine_29 : decode b_M_runsOfLine 29 = .ok (.isub, 1) := by decide +kernel
theorem d_M_runsOfLine_30 : decode b_M_runsOfLine 30 = .ok (.iaload, 1) := by decide +kernel
theorem d_M_runsOfLine_31 : decode b_M_runsOfLine 31 = .ok (.if_icmp .eq 7, 3) := by decide +kernel
theorem d_M_runsOfLine_34 : decode b_M_runsOfLine 34 = .ok (.iconst 1, 1) := by decide +kernel
theorem d_M_runsOfLine_35 : decode b_M_runsOfLine 35 = .ok (.goto 4, 3) := by decide +kernel
theorem d_M_runsOfLine_38 : decode b_M_runsOfLine 38 = .ok (.iconst 0, 1) := by decide +kernel
theorem d_M_runsOfLine_39 : decode b_M_runsOfLine 39 = .ok (.iadd, 1) := by decide +kernel
theorem d_M_runsOfLine_40 : decode b_M_runsOfLine 40 = .ok (.istore_n 1, 1) := by decide +kernel
theorem d_M_runsOfLine_41 : decode b_M_runsOfLine 41 = .ok (.iinc 2 1, 3) := by decide +kernel
theorem d_M_runsOfLine_44 : decode b_M_runsOfLine 44 = .ok (.goto (-40), 3) := by decide +kernel
theorem d_M_runsOfLine_47 : decode b_M_runsOfLine 47 = .ok (.iload_n 1, 1) := by decide +kernel
theorem d_M_runsOfLine_48 : decode b_M_runsOfLine 48 = .ok (.ireturn, 1) := by decide +kernel
set_option maxHeartbeats 4000000 in
set_option maxRecDepth 20000 in
theorem c_M_runsOfLine {l : Launch} {G : va_G} {tys : List (ClassId × FieldType)} {cI cO cZ : ClassId} (hT : TY tys cI cO cZ) (q0 q1 q2 q3 q4 q5 q6 q7 q8 q9 : Nat) (nw pt : Int → Int) (np : Int) (sl : Int → Int) (sv : Int) (li ot : Int → Int) (len : Int) (pd : Int → Int) (ty : Int) (wr : Int → Int) (wm : Int) (ss lz : Int → Int) (rm : Int) (hln : 0 ≤ len ∧ len ≤ 6000) (hli : ∀ x, 0 ≤ x → x < len → 0 ≤ li x ∧ li x ≤ 10) : CTI l G tys y_M_runsOfLine b_M_runsOfLine 3 .int 0 0 [.ref q0] (mw cI q0 q1 q2 q3 q4 q5 q6 q7 q8 q9 nw pt np sl sv li ot len pd ty wr wm ss lz rm) (fun z u => u = mw cI q0 q1 q2 q3 q4 q5 q6 q7 q8 q9 nw pt np sl sv li ot len pd ty wr wm ss lz rm ∧ z = rc li len) := by
  refine mkI (by decide) (Nat.le_of_ble_eq_true rfl) ?_
  rintro X rfl rfl rfl hRm C kret H ls w hl
  have hl : lv_has ls 3 [(0, .ref q0)] := hl
  have w : Wd X (mw cI q0 q1 q2 q3 q4 q5 q6 q7 q8 q9 nw pt np sl sv li ot len pd ty wr wm ss lz rm) H [] := w
  generalize ([] : List Loc) = locs at w ⊢
  refine r_iconst (pc := 0) C d_M_runsOfLine_0 ?_
  refine r_istore_n (pc := 1) (lv' := [(1, .int (iI 0)), (0, .ref q0)]) C d_M_runsOfLine_1 rfl hl (by decide) rfl (fun ls hl => ?_)
  refine r_iconst (pc := 2) C d_M_runsOfLine_2 ?_
  refine r_istore_n (pc := 3) (lv' := [(2, .int (iI 0)), (1, .int (iI 0)), (0, .ref q0)]) C d_M_runsOfLine_3 rfl hl (by decide) rfl (fun ls hl => ?_)
  have L4 : ∀ (fuel : Nat), ∀ (i : Int) (n : Int), 0 ≤ i ∧ i ≤ len → n = rc li i → (len - i) < (fuel : Int) → ∀ (H : Heap) (locs : List Loc) (ls : Array Slot), Wd X (mw cI q0 q1 q2 q3 q4 q5 q6 q7 q8 q9 nw pt np sl sv li ot len pd ty wr wm ss lz rm) H locs → lv_has ls 3 [(0, .ref q0), (1, .int (iI n)), (2, .int (iI i))] → GG X 0 0 H locs 4 ls [] := by
    intro fuel
    induction fuel with
    | zero =>
      intro i n h0 hn hfuel
      exact absurd hfuel (by omega)
    | succ fuel ih4 =>
      intro i n h0 hn hfuel H locs ls w hl
      refine r_iload_n (pc := 4) C d_M_runsOfLine_4 rfl (lv_at hl 2 rfl) ?_
      refine r_aload_n (pc := 5) C d_M_runsOfLine_5 rfl (lv_at hl 0 rfl) ?_
      refine r_get (pc := 6) (v := .int (iI len)) C w i_M rfl 0 rfl 7 (by decide) fl_M_52 rfl rfl d_M_runsOfLine_6 ?_
      refine r_icmp_ge (pc := 9) (tgt := 47) C (by omega) d_M_runsOfLine_9 (by decide) (fun c_9 => ?_) (fun c_9 => ?_)
      · skip
        refine r_iload_n (pc := 47) C d_M_runsOfLine_47 rfl (lv_at hl 1 rfl) ?_
        exact kret _ _ _ _ n _ d_M_runsOfLine_48 w (⟨rfl, by rw [hn, show i = len by omega]⟩)
      · skip
        have hl1 := hli i (by omega) (by omega)
        refine r_iload_n (pc := 12) C d_M_runsOfLine_12 rfl (lv_at hl 1 rfl) ?_
        refine r_iload_n (pc := 13) C d_M_runsOfLine_13 rfl (lv_at hl 2 rfl) ?_
        refine r_if_eq (pc := 14) (tgt := 34) C (by omega) d_M_runsOfLine_14 (by decide) (fun c_14 => ?_) (fun c_14 => ?_)
        · skip
          refine r_iconst (pc := 34) C d_M_runsOfLine_34 ?_
          refine r_goto (pc := 35) (tgt := 39) C d_M_runsOfLine_35 (by decide) ?_
          refine r_iadd (pc := 39) C d_M_runsOfLine_39 ?_
          refine r_istore_n (pc := 40) (lv' := [(1, .int (iI (n + 1))), (0, .ref q0), (2, .int (iI i))]) C d_M_runsOfLine_40 rfl hl (by decide) rfl (fun ls hl => ?_)
          refine r_iinc (pc := 41) (j := 2) (lv' := [(2, .int (iI (i + 1))), (1, .int (iI (n + 1))), (0, .ref q0)]) C d_M_runsOfLine_41 hl rfl (by decide) rfl (fun ls hl => ?_)
          refine r_goto (pc := 44) (tgt := 4) C d_M_runsOfLine_44 (by decide) ?_
          exact ih4 (i + 1) (n + 1) (by omega) ((by rw [rc_succ li (by omega), hn]; first | rw [if_pos (Or.inl (by omega))] | rw [if_pos (Or.inr (by omega))] | rw [if_neg (by omega)])) (by omega) _ _ _ w (lv_sub hl [2, 1, 0] rfl)
        · skip
          have hl2 := hli (i - 1) (by omega) (by omega)
          refine r_aload_n (pc := 17) C d_M_runsOfLine_17 rfl (lv_at hl 0 rfl) ?_
          refine r_get (pc := 18) (v := .ref q4) C w i_M rfl 0 rfl 5 (by decide) fl_M_19 rfl rfl d_M_runsOfLine_18 ?_
          refine r_iload_n (pc := 21) C d_M_runsOfLine_21 rfl (lv_at hl 2 rfl) ?_
          refine r_iald (pc := 22) (f := li) (i := i) C w 0 4 rfl hT.1 (by omega) d_M_runsOfLine_22 ?_
          refine r_aload_n (pc := 23) C d_M_runsOfLine_23 rfl (lv_at hl 0 rfl) ?_
          refine r_get (pc := 24) (v := .ref q4) C w i_M rfl 0 rfl 5 (by decide) fl_M_19 rfl rfl d_M_runsOfLine_24 ?_
          refine r_iload_n (pc := 27) C d_M_runsOfLine_27 rfl (lv_at hl 2 rfl) ?_
          refine r_iconst (pc := 28) C d_M_runsOfLine_28 ?_
          refine r_isub (pc := 29) C d_M_runsOfLine_29 ?_
          refine r_iald (pc := 30) (f := li) (i := (i - 1)) C w 0 4 rfl hT.1 (by omega) d_M_runsOfLine_30 ?_
          refine r_icmp_eq (pc := 31) (tgt := 38) C (by omega) d_M_runsOfLine_31 (by decide) (fun c_31 => ?_) (fun c_31 => ?_)
          · skip
            refine r_iconst (pc := 38) C d_M_runsOfLine_38 ?_
            refine r_iadd (pc := 39) C d_M_runsOfLine_39 ?_
            refine r_istore_n (pc := 40) (lv' := [(1, .int (iI (n + 0))), (0, .ref q0), (2, .int (iI i))]) C d_M_runsOfLine_40 rfl hl (by decide) rfl (fun ls hl => ?_)
            refine r_iinc (pc := 41) (j := 2) (lv' := [(2, .int (iI (i + 1))), (1, .int (iI (n + 0))), (0, .ref q0)]) C d_M_runsOfLine_41 hl rfl (by decide) rfl (fun ls hl => ?_)
            refine r_goto (pc := 44) (tgt := 4) C d_M_runsOfLine_44 (by decide) ?_
            exact ih4 (i + 1) (n + 0) (by omega) ((by rw [rc_succ li (by omega), hn]; first | rw [if_pos (Or.inl (by omega))] | rw [if_pos (Or.inr (by omega))] | rw [if_neg (by omega)])) (by omega) _ _ _ w (lv_sub hl [2, 1, 0] rfl)
          · skip
            refine r_iconst (pc := 34) C d_M_runsOfLine_34 ?_
            refine r_goto (pc := 35) (tgt := 39) C d_M_runsOfLine_35 (by decide) ?_
            refine r_iadd (pc := 39) C d_M_runsOfLine_39 ?_
            refine r_istore_n (pc := 40) (lv' := [(1, .int (iI (n + 1))), (0, .ref q0), (2, .int (iI i))]) C d_M_runsOfLine_40 rfl hl (by decide) rfl (fun ls hl => ?_)
            refine r_iinc (pc := 41) (j := 2) (lv' := [(2, .int (iI (i + 1))), (1, .int (iI (n + 1))), (0, .ref q0)]) C d_M_runsOfLine_41 hl rfl (by decide) rfl (fun ls hl => ?_)
            refine r_goto (pc := 44) (tgt := 4) C d_M_runsOfLine_44 (by decide) ?_
            exact ih4 (i + 1) (n + 1) (by omega) ((by rw [rc_succ li (by omega), hn]; first | rw [if_pos (Or.inl (by omega))] | rw [if_pos (Or.inr (by omega))] | rw [if_neg (by omega)])) (by omega) _ _ _ w (lv_sub hl [2, 1, 0] rfl)
  exact L4 ((len - 0) + 1 : Int).toNat 0 0 (by first | omega | rfl) (by first | omega | rfl) (by omega) _ _ _ w (lv_sub hl [2, 1, 0] rfl)
theorem d_M_isTooMuch_0 : decode b_M_isTooMuch 0 = .ok (.aload_n 0, 1) := by decide +kernel
theorem d_M_isTooMuch_1 : decode b_M_isTooMuch 1 = .ok (.getfield 52, 3) := by decide +kernel
theorem d_M_isTooMuch_4 : decode b_M_isTooMuch 4 = .ok (.sipush 3000, 3) := by decide +kernel
theorem d_M_isTooMuch_7 : decode b_M_isTooMuch 7 = .ok (.if_icmp .gt 12, 3) := by decide +kernel
theorem d_M_isTooMuch_10 : decode b_M_isTooMuch 10 = .ok (.aload_n 0, 1) := by decide +kernel
theorem d_M_isTooMuch_11 : decode b_M_isTooMuch 11 = .ok (.invokevirtual 58, 3) := by decide +kernel
theorem d_M_isTooMuch_14 : decode b_M_isTooMuch 14 = .ok (.bipush 50, 2) := by decide +kernel
theorem d_M_isTooMuch_16 : decode b_M_isTooMuch 16 = .ok (.if_icmp .le 7, 3) := by decide +kernel
theorem d_M_isTooMuch_19 : decode b_M_isTooMuch 19 = .ok (.iconst 1, 1) := by decide +kernel
theorem d_M_isTooMuch_20 : decode b_M_isTooMuch 20 = .ok (.goto 4, 3) := by decide +kernel
theorem d_M_isTooMuch_23 : decode b_M_isTooMuch 23 = .ok (.iconst 0, 1) := by decide +kernel
theorem d_M_isTooMuch_24 : decode b_M_isTooMuch 24 = .ok (.ireturn, 1) := by decide +kernel
set_option maxHeartbeats 4000000 in
set_option maxRecDepth 20000 in
theorem c_M_isTooMuch {l : Launch} {G : va_G} {tys : List (ClassId × FieldType)} {cI cO cZ : ClassId} (hT : TY tys cI cO cZ) (q0 q1 q2 q3 q4 q5 q6 q7 q8 q9 : Nat) (nw pt : Int → Int) (np : Int) (sl : Int → Int) (sv : Int) (li ot : Int → Int) (len : Int) (pd : Int → Int) (ty : Int) (wr : Int → Int) (wm : Int) (ss lz : Int → Int) (rm : Int) (hln : 0 ≤ len ∧ len ≤ 6000) (hli : ∀ x, 0 ≤ x → x < len → 0 ≤ li x ∧ li x ≤ 10) : CTI l G tys y_M_isTooMuch b_M_isTooMuch 1 .boolean 1 22 [.ref q0] (mw cI q0 q1 q2 q3 q4 q5 q6 q7 q8 q9 nw pt np sl sv li ot len pd ty wr wm ss lz rm) (fun z u => u = mw cI q0 q1 q2 q3 q4 q5 q6 q7 q8 q9 nw pt np sl sv li ot len pd ty wr wm ss lz rm ∧ ((z = 1 ∧ ¬ (len ≤ 3000 ∧ rc li len ≤ 50)) ∨ (z = 0 ∧ (len ≤ 3000 ∧ rc li len ≤ 50)))) := by
  refine mkZ (by decide) (Nat.le_of_ble_eq_true rfl) ?_
  rintro X rfl rfl rfl hRm C kret H ls w hl
  have hl : lv_has ls 1 [(0, .ref q0)] := hl
  have w : Wd X (mw cI q0 q1 q2 q3 q4 q5 q6 q7 q8 q9 nw pt np sl sv li ot len pd ty wr wm ss lz rm) H [] := w
  generalize ([] : List Loc) = locs at w ⊢
  refine r_aload_n (pc := 0) C d_M_isTooMuch_0 rfl (lv_at hl 0 rfl) ?_
  refine r_get (pc := 1) (v := .int (iI len)) C w i_M rfl 0 rfl 7 (by decide) fl_M_52 rfl rfl d_M_isTooMuch_1 ?_
  refine r_sipush (pc := 4) C d_M_isTooMuch_4 (by decide) ?_
  refine r_icmp_gt (pc := 7) (tgt := 19) C (by omega) d_M_isTooMuch_7 (by decide) (fun c_7 => ?_) (fun c_7 => ?_)
  · skip
    refine r_iconst (pc := 19) C d_M_isTooMuch_19 ?_
    refine r_goto (pc := 20) (tgt := 24) C d_M_isTooMuch_20 (by decide) ?_
    exact kret _ _ _ _ 1 _ d_M_isTooMuch_24 w (by omega) (⟨rfl, by omega⟩)
  · skip
    refine r_aload_n (pc := 10) C d_M_isTooMuch_10 rfl (lv_at hl 0 rfl) ?_
    refine r_callVI (pc := 11) (As := []) (rest := []) (wr := []) C w (c_M_runsOfLine hT q0 q1 q2 q3 q4 q5 q6 q7 q8 q9 nw pt np sl sv li ot len pd ty wr wm ss lz rm  hln hli) ml_M_58 im_M_runsOfLine se_M_runsOfLine ini_M cd_M_runsOfLine hd_M_runsOfLine rfl (by rw [hRm]; exact ⟨⟨Nat.le_of_ble_eq_true rfl, Nat.le_of_ble_eq_true rfl⟩, Nat.le_of_ble_eq_true rfl, Nat.le_of_ble_eq_true rfl⟩) hl.1 [0, 1, 2, 3, 4, 5, 6, 7, 8, 9] [] ⟨rfl, rfl, by decide, by decide, by decide⟩ 0 rfl rfl rfl (Nat.le_of_ble_eq_true rfl) d_M_isTooMuch_11 (fun z_11 u_11 H locs hz_11 w => ?_)
    obtain ⟨rfl, rfl⟩ := hz_11
    have w : Wd X (mw cI q0 q1 q2 q3 q4 q5 q6 q7 q8 q9 nw pt np sl sv li ot len pd ty wr wm ss lz rm) H locs := w
    have hrl_11 := rc_le li len (by omega)
    have hrn_11 := rc_nonneg li len (by omega)
    refine r_bipush (pc := 14) C d_M_isTooMuch_14 (by decide) ?_
    refine r_icmp_le (pc := 16) (tgt := 23) C (by omega) d_M_isTooMuch_16 (by decide) (fun c_16 => ?_) (fun c_16 => ?_)
    · skip
      refine r_iconst (pc := 23) C d_M_isTooMuch_23 ?_
      exact kret _ _ _ _ 0 _ d_M_isTooMuch_24 w (by omega) (⟨rfl, by omega⟩)
    · skip
      refine r_iconst (pc := 19) C d_M_isTooMuch_19 ?_
      refine r_goto (pc := 20) (tgt := 24) C d_M_isTooMuch_20 (by decide) ?_
      exact kret _ _ _ _ 1 _ d_M_isTooMuch_24 w (by omega) (⟨rfl, by omega⟩)
theorem d_M_takesIn_0 : decode b_M_takesIn 0 = .ok (.aload_n 0, 1) := by decide +kernel
theorem d_M_takesIn_1 : decode b_M_takesIn 1 = .ok (.invokevirtual 62, 3) := by decide +kernel
theorem d_M_takesIn_4 : decode b_M_takesIn 4 = .ok (.iconst 0, 1) := by decide +kernel
theorem d_M_takesIn_5 : decode b_M_takesIn 5 = .ok (.istore_n 1, 1) := by decide +kernel
theorem d_M_takesIn_6 : decode b_M_takesIn 6 = .ok (.iconst 0, 1) := by decide +kernel
theorem d_M_takesIn_7 : decode b_M_takesIn 7 = .ok (.istore_n 2, 1) := by decide +kernel
theorem d_M_takesIn_8 : decode b_M_takesIn 8 = .ok (.iload_n 2, 1) := by decide +kernel
theorem d_M_takesIn_9 : decode b_M_takesIn 9 = .ok (.aload_n 0, 1) := by decide +kernel
theorem d_M_takesIn_10 : decode b_M_takesIn 10 = .ok (.getfield 52, 3) := by decide +kernel
theorem d_M_takesIn_13 : decode b_M_takesIn 13 = .ok (.if_icmp .ge 78, 3) := by decide +kernel
theorem d_M_takesIn_16 : decode b_M_takesIn 16 = .ok (.iload_n 2, 1) := by decide +kernel
theorem d_M_takesIn_17 : decode b_M_takesIn 17 = .ok (.ifCond .eq 20, 3) := by decide +kernel
theorem d_M_takesIn_20 : decode b_M_takesIn 20 = .ok (.aload_n 0, 1) := by decide +kernel
theorem d_M_takesIn_21 : decode b_M_takesIn 21 = .ok (.getfield 19, 3) := by decide +kernel
theorem d_M_takesIn_24 : decode b_M_takesIn 24 = .ok (.iload_n 2, 1) := by decide +kernel
theorem d_M_takesIn_25 : decode b_M_takesIn 25 = .ok (.iaload, 1) := by decide +kernel
theorem d_M_takesIn_26 : decode b_M_takesIn 26 = .ok (.aload_n 0, 1) := by decide +kernel
theorem d_M_takesIn_27 : decode b_M_takesIn 27 = .ok (.getfield 19, 3) := by decide +kernel
theorem d_M_takesIn_30 : decode b_M_takesIn 30 = .ok (.iload_n 2, 1) := by decide +kernel
theorem d_M_takesIn_31 : decode b_M_takesIn 31 = .ok (.iconst 1, 1) := by decide +kernel
theorem d_M_takesIn_32 : decode b_M_takesIn 32 = .ok (.isub, 1) := by decide +kernel
theorem d_M_takesIn_33 : decode b_M_takesIn 33 = .ok (.iaload, 1) := by decide +kernel
theorem d_M_takesIn_34 : decode b_M_takesIn 34 = .ok (.if_icmp .eq 35, 3) := by decide +kernel
theorem d_M_takesIn_37 : decode b_M_takesIn 37 = .ok (.aload_n 0, 1) := by decide +kernel
theorem d_M_takesIn_38 : decode b_M_takesIn 38 = .ok (.getfield 7, 3) := by decide +kernel
theorem d_M_takesIn_41 : decode b_M_takesIn 41 = .ok (.iconst 3, 1) := by decide +kernel
theorem d_M_takesIn_42 : decode b_M_takesIn 42 = .ok (.iconst 2, 1) := by decide +kernel
theorem d_M_takesIn_43 : decode b_M_takesIn 43 = .ok (.iload_n 1, 1) := by decide +kernel
theorem d_M_takesIn_44 : decode b_M_takesIn 44 = .ok (.imul, 1) := by decide +kernel
theorem d_M_takesIn_45 : decode b_M_takesIn 45 = .ok (.iadd, 1) := by decide +kernel
theorem d_M_takesIn_46 : decode b_M_takesIn 46 = .ok (.aload_n 0, 1) := by decide +kernel
theorem d_M_takesIn_47 : decode b_M_takesIn 47 = .ok (.getfield 19, 3) := by decide +kernel
theorem d_M_takesIn_50 : decode b_M_takesIn 50 = .ok (.iload_n 2, 1) := by decide +kernel
theorem d_M_takesIn_51 : decode b_M_takesIn 51 = .ok (.iaload, 1) := by decide +kernel
theorem d_M_takesIn_52 : decode b_M_takesIn 52 = .ok (.iastore, 1) := by decide +kernel
theorem d_M_takesIn_53 : decode b_M_takesIn 53 = .ok (.aload_n 0, 1) := by decide +kernel
theorem d_M_takesIn_54 : decode b_M_takesIn 54 = .ok (.getfield 7, 3) := by decide +kernel
theorem d_M_takesIn_57 : decode b_M_takesIn 57 = .ok (.iconst 3, 1) := by decide +kernel
theorem d_M_takesIn_58 : decode b_M_takesIn 58 = .ok (.iconst 2, 1) := by decide +kernel
theorem d_M_takesIn_59 : decode b_M_takesIn 59 = .ok (.iload_n 1, 1) := by decide +kernel
theorem d_M_takesIn_60 : decode b_M_takesIn 60 = .ok (.imul, 1) := by decide +kernel
theorem d_M_takesIn_61 : decode b_M_takesIn 61 = .ok (.iadd, 1) := by decide +kernel
theorem d_M_takesIn_62 : decode b_M_takesIn 62 = .ok (.iconst 1, 1) := by decide +kernel
theorem d_M_takesIn_63 : decode b_M_takesIn 63 = .ok (.iadd, 1) := by decide +kernel
theorem d_M_takesIn_64 : decode b_M_takesIn 64 = .ok (.iconst 0, 1) := by decide +kernel
theorem d_M_takesIn_65 : decode b_M_takesIn 65 = .ok (.iastore, 1) := by decide +kernel
theorem d_M_takesIn_66 : decode b_M_takesIn 66 = .ok (.iinc 1 1, 3) := by decide +kernel
theorem d_M_takesIn_69 : decode b_M_takesIn 69 = .ok (.aload_n 0, 1) := by decide +kernel
theorem d_M_takesIn_70 : decode b_M_takesIn 70 = .ok (.getfield 7, 3) := by decide +kernel
theorem d_M_takesIn_73 : decode b_M_takesIn 73 = .ok (.iconst 3, 1) := by decide +kernel
theorem d_M_takesIn_74 : decode b_M_takesIn 74 = .ok (.iconst 2, 1) := by decide +kernel
theorem d_M_takesIn_75 : decode b_M_takesIn 75 = .ok (.iload_n 1, 1) := by decide +kernel
theorem d_M_takesIn_76 : decode b_M_takesIn 76 = .ok (.imul, 1) := by decide +kernel
theorem d_M_takesIn_77 : decode b_M_takesIn 77 = .ok (.iadd, 1) := by decide +kernel
theorem d_M_takesIn_78 : decode b_M_takesIn 78 = .ok (.iconst 1, 1) := by decide +kernel
theorem d_M_takesIn_79 : decode b_M_takesIn 79 = .ok (.isub, 1) := by decide +kernel
theorem d_M_takesIn_80 : decode b_M_takesIn 80 = .ok (.dup2, 1) := by decide +kernel
theorem d_M_takesIn_81 : decode b_M_takesIn 81 = .ok (.iaload, 1) := by decide +kernel
theorem d_M_takesIn_82 : decode b_M_takesIn 82 = .ok (.iconst 1, 1) := by decide +kernel
theorem d_M_takesIn_83 : decode b_M_takesIn 83 = .ok (.iadd, 1) := by decide +kernel
theorem d_M_takesIn_84 : decode b_M_takesIn 84 = .ok (.iastore, 1) := by decide +kernel
theorem d_M_takesIn_85 : decode b_M_takesIn 85 = .ok (.iinc 2 1, 3) := by decide +kernel
theorem d_M_takesIn_88 : decode b_M_takesIn 88 = .ok (.goto (-80), 3) := by decide +kernel
theorem d_M_takesIn_91 : decode b_M_takesIn 91 = .ok (.aload_n 0, 1) := by decide +kernel
theorem d_M_takesIn_92 : decode b_M_takesIn 92 = .ok (.getfield 7, 3) := by decide +kernel
theorem d_M_takesIn_95 : decode b_M_takesIn 95 = .ok (.iconst 2, 1) := by decide +kernel
theorem d_M_takesIn_96 : decode b_M_takesIn 96 = .ok (.iload_n 1, 1) := by decide +kernel
theorem d_M_takesIn_97 : decode b_M_takesIn 97 = .ok (.iastore, 1) := by decide +kernel
theorem d_M_takesIn_98 : decode b_M_takesIn 98 = .ok (.return_, 1) := by decide +kernel
set_option maxHeartbeats 4000000 in
set_option maxRecDepth 20000 in
theorem c_M_takesIn {l : Launch} {G : va_G} {tys : List (ClassId × FieldType)} {cI cO cZ : ClassId} (hT : TY tys cI cO cZ) (q0 q1 q2 q3 q4 q5 q6 q7 q8 q9 : Nat) (nw pt : Int → Int) (np : Int) (sl : Int → Int) (sv : Int) (li ot : Int → Int) (len : Int) (pd : Int → Int) (ty : Int) (wr : Int → Int) (wm : Int) (ss lz : Int → Int) (rm : Int) (hln : 0 ≤ len ∧ len ≤ 6000) (hli : ∀ x, 0 ≤ x → x < len → 0 ≤ li x ∧ li x ≤ 10) (hnp : 0 ≤ np ∧ np ≤ 6) (hfi : len ≤ 3000 ∧ rc li len ≤ 50) : CTV l G tys y_M_takesIn b_M_takesIn 3 2 45 [.ref q0] (mw cI q0 q1 q2 q3 q4 q5 q6 q7 q8 q9 nw pt np sl sv li ot len pd ty wr wm ss lz rm) (fun u => ∃ (nw' pt' : Int → Int) (np' r' : Int) (sg' ln' : Int → Int), u = mw cI q0 q1 q2 q3 q4 q5 q6 q7 q8 q9 nw' pt' np' sl sv li ot len pd ty wr wm ss lz rm ∧ Ok r' sg' ln' len li ∧ MR nw' 0 (nw 0) (nw 1) r' sg' ln' ∧ ((np < 6 ∧ np' = np + 1 ∧ (∀ x, x < 103 * np → pt' x = pt x) ∧ ∀ k, 0 ≤ k → k < 103 → pt' (103 * np + k) = nw k) ∨ (np = 6 ∧ np' = 6 ∧ (∀ x, 0 ≤ x → x < 515 → pt' x = pt (x + 103)) ∧ ∀ k, 0 ≤ k → k < 103 → pt' (515 + k) = nw k))) := by
  refine mkV (by decide) (Nat.le_of_ble_eq_true rfl) ?_
  rintro X rfl rfl rfl hRm C kret H ls w hl
  have hl : lv_has ls 3 [(0, .ref q0)] := hl
  have w : Wd X (mw cI q0 q1 q2 q3 q4 q5 q6 q7 q8 q9 nw pt np sl sv li ot len pd ty wr wm ss lz rm) H [] := w
  generalize ([] : List Loc) = locs at w ⊢
  refine r_aload_n (pc := 0) C d_M_takesIn_0 rfl (lv_at hl 0 rfl) ?_
  refine r_callVV (pc := 1) (As := []) (rest := []) (wr := []) C w (c_M_records hT q0 q1 q2 q3 q4 q5 q6 q7 q8 q9 nw pt np sl sv li ot len pd ty wr wm ss lz rm  (by omega)) ml_M_62 im_M_records se_M_records ini_M cd_M_records hd_M_records rfl (by rw [hRm]; exact ⟨⟨Nat.le_of_ble_eq_true rfl, Nat.le_of_ble_eq_true rfl⟩, Nat.le_of_ble_eq_true rfl, Nat.le_of_ble_eq_true rfl⟩) hl.1 [0, 1, 2, 3, 4, 5, 6, 7, 8, 9] [] ⟨rfl, rfl, by decide, by decide, by decide⟩ 0 rfl rfl rfl (Nat.le_of_ble_eq_true rfl) d_M_takesIn_1 (fun u_1 H locs hz_1 w => ?_)
  obtain ⟨pt_1, np_1, rfl, hrec_1⟩ := hz_1
  have w : Wd X (mw cI q0 q1 q2 q3 q4 q5 q6 q7 q8 q9 nw pt_1 np_1 sl sv li ot len pd ty wr wm ss lz rm) H locs := w
  refine r_iconst (pc := 4) C d_M_takesIn_4 ?_
  refine r_istore_n (pc := 5) (lv' := [(1, .int (iI 0)), (0, .ref q0)]) C d_M_takesIn_5 rfl hl (by decide) rfl (fun ls hl => ?_)
  refine r_iconst (pc := 6) C d_M_takesIn_6 ?_
  refine r_istore_n (pc := 7) (lv' := [(2, .int (iI 0)), (1, .int (iI 0)), (0, .ref q0)]) C d_M_takesIn_7 rfl hl (by decide) rfl (fun ls hl => ?_)
  have L8 : ∀ (fuel : Nat), ∀ (i : Int) (n : Int) (w1 : Int → Int), 0 ≤ i ∧ i ≤ len → Ok n (sgo 0 w1) (lno 0 w1) i li → w1 0 = nw 0 ∧ w1 1 = nw 1 → (len - i) < (fuel : Int) → ∀ (H : Heap) (locs : List Loc) (ls : Array Slot), Wd X (mw cI q0 q1 q2 q3 q4 q5 q6 q7 q8 q9 w1 pt_1 np_1 sl sv li ot len pd ty wr wm ss lz rm) H locs → lv_has ls 3 [(0, .ref q0), (1, .int (iI n)), (2, .int (iI i))] → GG X 0 0 H locs 8 ls [] := by
    intro fuel
    induction fuel with
    | zero =>
      intro i n w1 h0 hO hw1 hfuel
      exact absurd hfuel (by omega)
    | succ fuel ih8 =>
      intro i n w1 h0 hO hw1 hfuel H locs ls w hl
      refine r_iload_n (pc := 8) C d_M_takesIn_8 rfl (lv_at hl 2 rfl) ?_
      refine r_aload_n (pc := 9) C d_M_takesIn_9 rfl (lv_at hl 0 rfl) ?_
      refine r_get (pc := 10) (v := .int (iI len)) C w i_M rfl 0 rfl 7 (by decide) fl_M_52 rfl rfl d_M_takesIn_10 ?_
      refine r_icmp_ge (pc := 13) (tgt := 91) C (by omega) d_M_takesIn_13 (by decide) (fun c_13 => ?_) (fun c_13 => ?_)
      · skip
        have hrE := hO.rcE
        have hr0 := hO.1
        rw [show i = len by omega] at hrE hO
        refine r_aload_n (pc := 91) C d_M_takesIn_91 rfl (lv_at hl 0 rfl) ?_
        refine r_get (pc := 92) (v := .ref q1) C w i_M rfl 0 rfl 0 (by decide) fl_M_7 rfl rfl d_M_takesIn_92 ?_
        refine r_iconst (pc := 95) C d_M_takesIn_95 ?_
        refine r_iload_n (pc := 96) C d_M_takesIn_96 rfl (lv_at hl 1 rfl) ?_
        refine r_iast (pc := 97) (f := w1) (i := 2) (v := n) (ws' := mw cI q0 q1 q2 q3 q4 q5 q6 q7 q8 q9 (up w1 2 n) pt_1 np_1 sl sv li ot len pd ty wr wm ss lz rm) C w 0 1 rfl hT.1 (by omega) rfl d_M_takesIn_97 (fun H locs w => ?_)
        exact kret _ _ _ _ _ d_M_takesIn_98 w (⟨_, _, _, n, sgo 0 w1, lno 0 w1, rfl, hO, ⟨by rw [up_ne _ _ (by omega)]; exact hw1.1, by rw [show (0 : Int) + 1 = 1 from rfl, up_ne _ _ (by omega)]; exact hw1.2, by rw [show (0 : Int) + 2 = 2 from rfl, up_eq], fun k h1 h2 => ⟨by rw [up_ne _ _ (by omega)]; rfl, by rw [up_ne _ _ (by omega)]; rfl⟩⟩, hrec_1⟩)
      · skip
        have hl1 := hli i (by omega) (by omega)
        have hrE := hO.rcE
        have hr0 := hO.1
        have hrm := rc_mono li (a := i) (by omega) (len - i) (by omega)
        rw [show i + (len - i) = len by omega] at hrm
        have hrm2 := rc_mono li (a := i + 1) (by omega) (len - (i + 1)) (by omega)
        rw [show i + 1 + (len - (i + 1)) = len by omega] at hrm2
        have hrs := rc_succ li (k := i) (by omega)
        refine r_iload_n (pc := 16) C d_M_takesIn_16 rfl (lv_at hl 2 rfl) ?_
        refine r_if_eq (pc := 17) (tgt := 37) C (by omega) d_M_takesIn_17 (by decide) (fun c_17 => ?_) (fun c_17 => ?_)
        · skip
          rw [if_pos (by omega)] at hrs
          refine r_aload_n (pc := 37) C d_M_takesIn_37 rfl (lv_at hl 0 rfl) ?_
          refine r_get (pc := 38) (v := .ref q1) C w i_M rfl 0 rfl 0 (by decide) fl_M_7 rfl rfl d_M_takesIn_38 ?_
          refine r_iconst (pc := 41) C d_M_takesIn_41 ?_
          refine r_iconst (pc := 42) C d_M_takesIn_42 ?_
          refine r_iload_n (pc := 43) C d_M_takesIn_43 rfl (lv_at hl 1 rfl) ?_
          refine r_imul (pc := 44) C d_M_takesIn_44 ?_
          refine r_iadd (pc := 45) C d_M_takesIn_45 ?_
          refine r_aload_n (pc := 46) C d_M_takesIn_46 rfl (lv_at hl 0 rfl) ?_
          refine r_get (pc := 47) (v := .ref q4) C w i_M rfl 0 rfl 5 (by decide) fl_M_19 rfl rfl d_M_takesIn_47 ?_
          refine r_iload_n (pc := 50) C d_M_takesIn_50 rfl (lv_at hl 2 rfl) ?_
          refine r_iald (pc := 51) (f := li) (i := i) C w 0 4 rfl hT.1 (by omega) d_M_takesIn_51 ?_
          refine r_iast (pc := 52) (f := w1) (i := (3 + (2 * n))) (v := (li i)) (ws' := mw cI q0 q1 q2 q3 q4 q5 q6 q7 q8 q9 (up w1 (3 + (2 * n)) (li i)) pt_1 np_1 sl sv li ot len pd ty wr wm ss lz rm) C w 0 1 rfl hT.1 (by omega) rfl d_M_takesIn_52 (fun H locs w => ?_)
          refine r_aload_n (pc := 53) C d_M_takesIn_53 rfl (lv_at hl 0 rfl) ?_
          refine r_get (pc := 54) (v := .ref q1) C w i_M rfl 0 rfl 0 (by decide) fl_M_7 rfl rfl d_M_takesIn_54 ?_
          refine r_iconst (pc := 57) C d_M_takesIn_57 ?_
          refine r_iconst (pc := 58) C d_M_takesIn_58 ?_
          refine r_iload_n (pc := 59) C d_M_takesIn_59 rfl (lv_at hl 1 rfl) ?_
          refine r_imul (pc := 60) C d_M_takesIn_60 ?_
          refine r_iadd (pc := 61) C d_M_takesIn_61 ?_
          refine r_iconst (pc := 62) C d_M_takesIn_62 ?_
          refine r_iadd (pc := 63) C d_M_takesIn_63 ?_
          refine r_iconst (pc := 64) C d_M_takesIn_64 ?_
          refine r_iast (pc := 65) (f := (up w1 (3 + (2 * n)) (li i))) (i := ((3 + (2 * n)) + 1)) (v := 0) (ws' := mw cI q0 q1 q2 q3 q4 q5 q6 q7 q8 q9 (up (up w1 (3 + (2 * n)) (li i)) ((3 + (2 * n)) + 1) 0) pt_1 np_1 sl sv li ot len pd ty wr wm ss lz rm) C w 0 1 rfl hT.1 (by omega) rfl d_M_takesIn_65 (fun H locs w => ?_)
          refine r_iinc (pc := 66) (j := 1) (lv' := [(1, .int (iI (n + 1))), (0, .ref q0), (2, .int (iI i))]) C d_M_takesIn_66 hl rfl (by decide) rfl (fun ls hl => ?_)
          
          refine r_aload_n (pc := 69) C d_M_takesIn_69 rfl (lv_at hl 1 rfl) ?_
          refine r_get (pc := 70) (v := .ref q1) C w i_M rfl 0 rfl 0 (by decide) fl_M_7 rfl rfl d_M_takesIn_70 ?_
          refine r_iconst (pc := 73) C d_M_takesIn_73 ?_
          refine r_iconst (pc := 74) C d_M_takesIn_74 ?_
          refine r_iload_n (pc := 75) C d_M_takesIn_75 rfl (lv_at hl 0 rfl) ?_
          refine r_imul (pc := 76) C d_M_takesIn_76 ?_
          refine r_iadd (pc := 77) C d_M_takesIn_77 ?_
          refine r_iconst (pc := 78) C d_M_takesIn_78 ?_
          refine r_isub (pc := 79) C d_M_takesIn_79 ?_
          refine r_dup2 (pc := 80) C d_M_takesIn_80 rfl rfl ?_
          refine r_iald (pc := 81) (f := (up (up w1 (3 + (2 * n)) (li i)) ((3 + (2 * n)) + 1) 0)) (i := ((3 + (2 * (n + 1))) - 1)) C w 0 1 rfl hT.1 (by omega) d_M_takesIn_81 ?_
          refine r_iconst (pc := 82) C d_M_takesIn_82 ?_
          refine r_iadd (pc := 83) C d_M_takesIn_83 ?_
          refine r_iast (pc := 84) (f := (up (up w1 (3 + (2 * n)) (li i)) ((3 + (2 * n)) + 1) 0)) (i := ((3 + (2 * (n + 1))) - 1)) (v := (((up (up w1 (3 + (2 * n)) (li i)) ((3 + (2 * n)) + 1) 0) ((3 + (2 * (n + 1))) - 1)) + 1)) (ws' := mw cI q0 q1 q2 q3 q4 q5 q6 q7 q8 q9 (up (up (up w1 (3 + (2 * n)) (li i)) ((3 + (2 * n)) + 1) 0) ((3 + (2 * (n + 1))) - 1) (((up (up w1 (3 + (2 * n)) (li i)) ((3 + (2 * n)) + 1) 0) ((3 + (2 * (n + 1))) - 1)) + 1)) pt_1 np_1 sl sv li ot len pd ty wr wm ss lz rm) C w 0 1 rfl hT.1 (by omega) rfl d_M_takesIn_84 (fun H locs w => ?_)
          refine r_iinc (pc := 85) (j := 2) (lv' := [(2, .int (iI (i + 1))), (1, .int (iI (n + 1))), (0, .ref q0)]) C d_M_takesIn_85 hl rfl (by decide) rfl (fun ls hl => ?_)
          refine r_goto (pc := 88) (tgt := 8) C d_M_takesIn_88 (by decide) ?_
          exact ih8 (i + 1) (n + 1) (up (up (up w1 (3 + (2 * n)) (li i)) ((3 + (2 * n)) + 1) 0) ((3 + (2 * (n + 1))) - 1) (((up (up w1 (3 + (2 * n)) (li i)) ((3 + (2 * n)) + 1) 0) ((3 + (2 * (n + 1))) - 1)) + 1)) (by omega) ((by first | exact sgo_new (by omega) hO rfl (by omega) (by omega) | exact sgo_old hO (by omega) (by omega))) ((by constructor <;> (repeat rw [up_ne _ _ (by omega)]) <;> omega)) (by omega) _ _ _ w (lv_sub hl [2, 1, 0] rfl)
        · skip
          have hl2 := hli (i - 1) (by omega) (by omega)
          refine r_aload_n (pc := 20) C d_M_takesIn_20 rfl (lv_at hl 0 rfl) ?_
          refine r_get (pc := 21) (v := .ref q4) C w i_M rfl 0 rfl 5 (by decide) fl_M_19 rfl rfl d_M_takesIn_21 ?_
          refine r_iload_n (pc := 24) C d_M_takesIn_24 rfl (lv_at hl 2 rfl) ?_
          refine r_iald (pc := 25) (f := li) (i := i) C w 0 4 rfl hT.1 (by omega) d_M_takesIn_25 ?_
          refine r_aload_n (pc := 26) C d_M_takesIn_26 rfl (lv_at hl 0 rfl) ?_
          refine r_get (pc := 27) (v := .ref q4) C w i_M rfl 0 rfl 5 (by decide) fl_M_19 rfl rfl d_M_takesIn_27 ?_
          refine r_iload_n (pc := 30) C d_M_takesIn_30 rfl (lv_at hl 2 rfl) ?_
          refine r_iconst (pc := 31) C d_M_takesIn_31 ?_
          refine r_isub (pc := 32) C d_M_takesIn_32 ?_
          refine r_iald (pc := 33) (f := li) (i := (i - 1)) C w 0 4 rfl hT.1 (by omega) d_M_takesIn_33 ?_
          refine r_icmp_eq (pc := 34) (tgt := 69) C (by omega) d_M_takesIn_34 (by decide) (fun c_34 => ?_) (fun c_34 => ?_)
          · skip
            have hn1 : 1 ≤ n := by { have := hO.n_zero; omega }
            refine r_aload_n (pc := 69) C d_M_takesIn_69 rfl (lv_at hl 0 rfl) ?_
            refine r_get (pc := 70) (v := .ref q1) C w i_M rfl 0 rfl 0 (by decide) fl_M_7 rfl rfl d_M_takesIn_70 ?_
            refine r_iconst (pc := 73) C d_M_takesIn_73 ?_
            refine r_iconst (pc := 74) C d_M_takesIn_74 ?_
            refine r_iload_n (pc := 75) C d_M_takesIn_75 rfl (lv_at hl 1 rfl) ?_
            refine r_imul (pc := 76) C d_M_takesIn_76 ?_
            refine r_iadd (pc := 77) C d_M_takesIn_77 ?_
            refine r_iconst (pc := 78) C d_M_takesIn_78 ?_
            refine r_isub (pc := 79) C d_M_takesIn_79 ?_
            refine r_dup2 (pc := 80) C d_M_takesIn_80 rfl rfl ?_
            refine r_iald (pc := 81) (f := w1) (i := ((3 + (2 * n)) - 1)) C w 0 1 rfl hT.1 (by omega) d_M_takesIn_81 ?_
            refine r_iconst (pc := 82) C d_M_takesIn_82 ?_
            refine r_iadd (pc := 83) C d_M_takesIn_83 ?_
            refine r_iast (pc := 84) (f := w1) (i := ((3 + (2 * n)) - 1)) (v := ((w1 ((3 + (2 * n)) - 1)) + 1)) (ws' := mw cI q0 q1 q2 q3 q4 q5 q6 q7 q8 q9 (up w1 ((3 + (2 * n)) - 1) ((w1 ((3 + (2 * n)) - 1)) + 1)) pt_1 np_1 sl sv li ot len pd ty wr wm ss lz rm) C w 0 1 rfl hT.1 (by omega) rfl d_M_takesIn_84 (fun H locs w => ?_)
            refine r_iinc (pc := 85) (j := 2) (lv' := [(2, .int (iI (i + 1))), (0, .ref q0), (1, .int (iI n))]) C d_M_takesIn_85 hl rfl (by decide) rfl (fun ls hl => ?_)
            refine r_goto (pc := 88) (tgt := 8) C d_M_takesIn_88 (by decide) ?_
            exact ih8 (i + 1) n (up w1 ((3 + (2 * n)) - 1) ((w1 ((3 + (2 * n)) - 1)) + 1)) (by omega) ((by first | exact sgo_new (by omega) hO rfl (by omega) (by omega) | exact sgo_old hO (by omega) (by omega))) ((by constructor <;> (repeat rw [up_ne _ _ (by omega)]) <;> omega)) (by omega) _ _ _ w (lv_sub hl [1, 2, 0] rfl)
          · skip
            rw [if_pos (by omega)] at hrs
            refine r_aload_n (pc := 37) C d_M_takesIn_37 rfl (lv_at hl 0 rfl) ?_
            refine r_get (pc := 38) (v := .ref q1) C w i_M rfl 0 rfl 0 (by decide) fl_M_7 rfl rfl d_M_takesIn_38 ?_
            refine r_iconst (pc := 41) C d_M_takesIn_41 ?_
            refine r_iconst (pc := 42) C d_M_takesIn_42 ?_
            refine r_iload_n (pc := 43) C d_M_takesIn_43 rfl (lv_at hl 1 rfl) ?_
            refine r_imul (pc := 44) C d_M_takesIn_44 ?_
            refine r_iadd (pc := 45) C d_M_takesIn_45 ?_
            refine r_aload_n (pc := 46) C d_M_takesIn_46 rfl (lv_at hl 0 rfl) ?_
            refine r_get (pc := 47) (v := .ref q4) C w i_M rfl 0 rfl 5 (by decide) fl_M_19 rfl rfl d_M_takesIn_47 ?_
            refine r_iload_n (pc := 50) C d_M_takesIn_50 rfl (lv_at hl 2 rfl) ?_
            refine r_iald (pc := 51) (f := li) (i := i) C w 0 4 rfl hT.1 (by omega) d_M_takesIn_51 ?_
            refine r_iast (pc := 52) (f := w1) (i := (3 + (2 * n))) (v := (li i)) (ws' := mw cI q0 q1 q2 q3 q4 q5 q6 q7 q8 q9 (up w1 (3 + (2 * n)) (li i)) pt_1 np_1 sl sv li ot len pd ty wr wm ss lz rm) C w 0 1 rfl hT.1 (by omega) rfl d_M_takesIn_52 (fun H locs w => ?_)
            refine r_aload_n (pc := 53) C d_M_takesIn_53 rfl (lv_at hl 0 rfl) ?_
            refine r_get (pc := 54) (v := .ref q1) C w i_M rfl 0 rfl 0 (by decide) fl_M_7 rfl rfl d_M_takesIn_54 ?_
            refine r_iconst (pc := 57) C d_M_takesIn_57 ?_
            refine r_iconst (pc := 58) C d_M_takesIn_58 ?_
            refine r_iload_n (pc := 59) C d_M_takesIn_59 rfl (lv_at hl 1 rfl) ?_
            refine r_imul (pc := 60) C d_M_takesIn_60 ?_
            refine r_iadd (pc := 61) C d_M_takesIn_61 ?_
            refine r_iconst (pc := 62) C d_M_takesIn_62 ?_
            refine r_iadd (pc := 63) C d_M_takesIn_63 ?_
            refine r_iconst (pc := 64) C d_M_takesIn_64 ?_
            refine r_iast (pc := 65) (f := (up w1 (3 + (2 * n)) (li i))) (i := ((3 + (2 * n)) + 1)) (v := 0) (ws' := mw cI q0 q1 q2 q3 q4 q5 q6 q7 q8 q9 (up (up w1 (3 + (2 * n)) (li i)) ((3 + (2 * n)) + 1) 0) pt_1 np_1 sl sv li ot len pd ty wr wm ss lz rm) C w 0 1 rfl hT.1 (by omega) rfl d_M_takesIn_65 (fun H locs w => ?_)
            refine r_iinc (pc := 66) (j := 1) (lv' := [(1, .int (iI (n + 1))), (0, .ref q0), (2, .int (iI i))]) C d_M_takesIn_66 hl rfl (by decide) rfl (fun ls hl => ?_)
            
            refine r_aload_n (pc := 69) C d_M_takesIn_69 rfl (lv_at hl 1 rfl) ?_
            refine r_get (pc := 70) (v := .ref q1) C w i_M rfl 0 rfl 0 (by decide) fl_M_7 rfl rfl d_M_takesIn_70 ?_
            refine r_iconst (pc := 73) C d_M_takesIn_73 ?_
            refine r_iconst (pc := 74) C d_M_takesIn_74 ?_
            refine r_iload_n (pc := 75) C d_M_takesIn_75 rfl (lv_at hl 0 rfl) ?_
            refine r_imul (pc := 76) C d_M_takesIn_76 ?_
            refine r_iadd (pc := 77) C d_M_takesIn_77 ?_
            refine r_iconst (pc := 78) C d_M_takesIn_78 ?_
            refine r_isub (pc := 79) C d_M_takesIn_79 ?_
            refine r_dup2 (pc := 80) C d_M_takesIn_80 rfl rfl ?_
            refine r_iald (pc := 81) (f := (up (up w1 (3 + (2 * n)) (li i)) ((3 + (2 * n)) + 1) 0)) (i := ((3 + (2 * (n + 1))) - 1)) C w 0 1 rfl hT.1 (by omega) d_M_takesIn_81 ?_
            refine r_iconst (pc := 82) C d_M_takesIn_82 ?_
            refine r_iadd (pc := 83) C d_M_takesIn_83 ?_
            refine r_iast (pc := 84) (f := (up (up w1 (3 + (2 * n)) (li i)) ((3 + (2 * n)) + 1) 0)) (i := ((3 + (2 * (n + 1))) - 1)) (v := (((up (up w1 (3 + (2 * n)) (li i)) ((3 + (2 * n)) + 1) 0) ((3 + (2 * (n + 1))) - 1)) + 1)) (ws' := mw cI q0 q1 q2 q3 q4 q5 q6 q7 q8 q9 (up (up (up w1 (3 + (2 * n)) (li i)) ((3 + (2 * n)) + 1) 0) ((3 + (2 * (n + 1))) - 1) (((up (up w1 (3 + (2 * n)) (li i)) ((3 + (2 * n)) + 1) 0) ((3 + (2 * (n + 1))) - 1)) + 1)) pt_1 np_1 sl sv li ot len pd ty wr wm ss lz rm) C w 0 1 rfl hT.1 (by omega) rfl d_M_takesIn_84 (fun H locs w => ?_)
            refine r_iinc (pc := 85) (j := 2) (lv' := [(2, .int (iI (i + 1))), (1, .int (iI (n + 1))), (0, .ref q0)]) C d_M_takesIn_85 hl rfl (by decide) rfl (fun ls hl => ?_)
            refine r_goto (pc := 88) (tgt := 8) C d_M_takesIn_88 (by decide) ?_
            exact ih8 (i + 1) (n + 1) (up (up (up w1 (3 + (2 * n)) (li i)) ((3 + (2 * n)) + 1) 0) ((3 + (2 * (n + 1))) - 1) (((up (up w1 (3 + (2 * n)) (li i)) ((3 + (2 * n)) + 1) 0) ((3 + (2 * (n + 1))) - 1)) + 1)) (by omega) ((by first | exact sgo_new (by omega) hO rfl (by omega) (by omega) | exact sgo_old hO (by omega) (by omega))) ((by constructor <;> (repeat rw [up_ne _ _ (by omega)]) <;> omega)) (by omega) _ _ _ w (lv_sub hl [2, 1, 0] rfl)
  exact L8 ((len - 0) + 1 : Int).toNat 0 0 nw (by first | omega | rfl) ((Ok.empty _ _ _)) (⟨rfl, rfl⟩) (by omega) _ _ _ w (lv_sub hl [2, 1, 0] rfl)
theorem d_M_ends_0 : decode b_M_ends 0 = .ok (.aload_n 0, 1) := by decide +kernel
theorem d_M_ends_1 : decode b_M_ends 1 = .ok (.invokevirtual 65, 3) := by decide +kernel
theorem d_M_ends_4 : decode b_M_ends 4 = .ok (.ifCond .eq 6, 3) := by decide +kernel
theorem d_M_ends_7 : decode b_M_ends 7 = .ok (.bipush (-4), 2) := by decide +kernel
theorem d_M_ends_9 : decode b_M_ends 9 = .ok (.ireturn, 1) := by decide +kernel
theorem d_M_ends_10 : decode b_M_ends 10 = .ok (.aload_n 0, 1) := by decide +kernel
theorem d_M_ends_11 : decode b_M_ends 11 = .ok (.invokevirtual 69, 3) := by decide +kernel
theorem d_M_ends_14 : decode b_M_ends 14 = .ok (.iload_n 1, 1) := by decide +kernel
theorem d_M_ends_15 : decode b_M_ends 15 = .ok (.ireturn, 1) := by decide +kernel
set_option maxHeartbeats 4000000 in
set_option maxRecDepth 20000 in
theorem c_M_ends {l : Launch} {G : va_G} {tys : List (ClassId × FieldType)} {cI cO cZ : ClassId} (hT : TY tys cI cO cZ) (q0 q1 q2 q3 q4 q5 q6 q7 q8 q9 : Nat) (nw pt : Int → Int) (np : Int) (sl : Int → Int) (sv : Int) (li ot : Int → Int) (len : Int) (pd : Int → Int) (ty : Int) (wr : Int → Int) (wm : Int) (ss lz : Int → Int) (rm : Int) (ans : Int) (hln : 0 ≤ len ∧ len ≤ 6000) (hli : ∀ x, 0 ≤ x → x < len → 0 ≤ li x ∧ li x ≤ 10) (hnp : 0 ≤ np ∧ np ≤ 6) : CTI l G tys y_M_ends b_M_ends 2 .int 3 67 [.ref q0, .int (iI ans)] (mw cI q0 q1 q2 q3 q4 q5 q6 q7 q8 q9 nw pt np sl sv li ot len pd ty wr wm ss lz rm) (fun z u => (¬ fits_ len li ∧ z = -4 ∧ u = mw cI q0 q1 q2 q3 q4 q5 q6 q7 q8 q9 nw pt np sl sv li ot len pd ty wr wm ss lz rm) ∨ (fits_ len li ∧ z = ans ∧ ∃ (nw' pt' : Int → Int) (np' r' : Int) (sg' ln' : Int → Int), u = mw cI q0 q1 q2 q3 q4 q5 q6 q7 q8 q9 nw' pt' np' sl sv li ot len pd ty wr wm ss lz rm ∧ Ok r' sg' ln' len li ∧ MR nw' 0 (nw 0) (nw 1) r' sg' ln' ∧ ((np < 6 ∧ np' = np + 1 ∧ (∀ x, x < 103 * np → pt' x = pt x) ∧ ∀ k, 0 ≤ k → k < 103 → pt' (103 * np + k) = nw k) ∨ (np = 6 ∧ np' = 6 ∧ (∀ x, 0 ≤ x → x < 515 → pt' x = pt (x + 103)) ∧ ∀ k, 0 ≤ k → k < 103 → pt' (515 + k) = nw k)))) := by
  refine mkI (by decide) (Nat.le_of_ble_eq_true rfl) ?_
  rintro X rfl rfl rfl hRm C kret H ls w hl
  have hl : lv_has ls 2 [(0, .ref q0), (1, .int (iI ans))] := hl
  have w : Wd X (mw cI q0 q1 q2 q3 q4 q5 q6 q7 q8 q9 nw pt np sl sv li ot len pd ty wr wm ss lz rm) H [] := w
  generalize ([] : List Loc) = locs at w ⊢
  refine r_aload_n (pc := 0) C d_M_ends_0 rfl (lv_at hl 0 rfl) ?_
  refine r_callVI (pc := 1) (As := []) (rest := []) (wr := []) C w (c_M_isTooMuch hT q0 q1 q2 q3 q4 q5 q6 q7 q8 q9 nw pt np sl sv li ot len pd ty wr wm ss lz rm  hln hli) ml_M_65 im_M_isTooMuch se_M_isTooMuch ini_M cd_M_isTooMuch hd_M_isTooMuch rfl (by rw [hRm]; exact ⟨⟨Nat.le_of_ble_eq_true rfl, Nat.le_of_ble_eq_true rfl⟩, Nat.le_of_ble_eq_true rfl, Nat.le_of_ble_eq_true rfl⟩) hl.1 [0, 1, 2, 3, 4, 5, 6, 7, 8, 9] [] ⟨rfl, rfl, by decide, by decide, by decide⟩ 0 rfl rfl rfl (Nat.le_of_ble_eq_true rfl) d_M_ends_1 (fun z_1 u_1 H locs hz_1 w => ?_)
  obtain ⟨rfl, hz_1⟩ := hz_1
  have w : Wd X (mw cI q0 q1 q2 q3 q4 q5 q6 q7 q8 q9 nw pt np sl sv li ot len pd ty wr wm ss lz rm) H locs := w
  refine r_if_eq (pc := 4) (tgt := 10) C (by omega) d_M_ends_4 (by decide) (fun c_4 => ?_) (fun c_4 => ?_)
  · skip
    have hb_4 : ¬ (¬ (len ≤ 3000 ∧ rc li len ≤ 50)) := by omega
    clear hz_1 c_4
    refine r_aload_n (pc := 10) C d_M_ends_10 rfl (lv_at hl 0 rfl) ?_
    refine r_callVV (pc := 11) (As := []) (rest := []) (wr := []) C w (c_M_takesIn hT q0 q1 q2 q3 q4 q5 q6 q7 q8 q9 nw pt np sl sv li ot len pd ty wr wm ss lz rm  hln hli (by omega) (by omega)) ml_M_69 im_M_takesIn se_M_takesIn ini_M cd_M_takesIn hd_M_takesIn rfl (by rw [hRm]; exact ⟨⟨Nat.le_of_ble_eq_true rfl, Nat.le_of_ble_eq_true rfl⟩, Nat.le_of_ble_eq_true rfl, Nat.le_of_ble_eq_true rfl⟩) hl.1 [0, 1, 2, 3, 4, 5, 6, 7, 8, 9] [] ⟨rfl, rfl, by decide, by decide, by decide⟩ 0 rfl rfl rfl (Nat.le_of_ble_eq_true rfl) d_M_ends_11 (fun u_11 H locs hz_11 w => ?_)
    obtain ⟨nw_11, pt_11, np_11, r_11, sg_11, ln_11, rfl, hOk_11, hMR_11, hrec_11⟩ := hz_11
    have w : Wd X (mw cI q0 q1 q2 q3 q4 q5 q6 q7 q8 q9 nw_11 pt_11 np_11 sl sv li ot len pd ty wr wm ss lz rm) H locs := w
    refine r_iload_n (pc := 14) C d_M_ends_14 rfl (lv_at hl 1 rfl) ?_
    exact kret _ _ _ _ ans _ d_M_ends_15 w (Or.inr ⟨(show fits_ len li from ⟨by omega, by omega⟩), rfl, _, _, _, _, _, _, rfl, hOk_11, hMR_11, hrec_11⟩)
  · skip
    have hb_4 : ¬ (len ≤ 3000 ∧ rc li len ≤ 50) := by omega
    clear hz_1 c_4
    refine r_bipush (pc := 7) C d_M_ends_7 (by decide) ?_
    exact kret _ _ _ _ (-4) _ d_M_ends_9 w (Or.inl ⟨hb_4, rfl, rfl⟩)
theorem d_M_hasPiece_0 : decode b_M_hasPiece 0 = .ok (.aload_n 0, 1) := by decide +kernel
theorem d_M_hasPiece_1 : decode b_M_hasPiece 1 = .ok (.invokevirtual 72, 3) := by decide +kernel
theorem d_M_hasPiece_4 : decode b_M_hasPiece 4 = .ok (.iload_n 1, 1) := by decide +kernel
theorem d_M_hasPiece_5 : decode b_M_hasPiece 5 = .ok (.ifCond .lt 29, 3) := by decide +kernel
theorem d_M_hasPiece_8 : decode b_M_hasPiece 8 = .ok (.iload_n 2, 1) := by decide +kernel
theorem d_M_hasPiece_9 : decode b_M_hasPiece 9 = .ok (.ifCond .le 25, 3) := by decide +kernel
theorem d_M_hasPiece_12 : decode b_M_hasPiece 12 = .ok (.iload_n 2, 1) := by decide +kernel
theorem d_M_hasPiece_13 : decode b_M_hasPiece 13 = .ok (.aload_n 0, 1) := by decide +kernel
theorem d_M_hasPiece_14 : decode b_M_hasPiece 14 = .ok (.getfield 52, 3) := by decide +kernel
theorem d_M_hasPiece_17 : decode b_M_hasPiece 17 = .ok (.if_icmp .gt 17, 3) := by decide +kernel
theorem d_M_hasPiece_20 : decode b_M_hasPiece 20 = .ok (.iload_n 1, 1) := by decide +kernel
theorem d_M_hasPiece_21 : decode b_M_hasPiece 21 = .ok (.aload_n 0, 1) := by decide +kernel
theorem d_M_hasPiece_22 : decode b_M_hasPiece 22 = .ok (.getfield 52, 3) := by decide +kernel
theorem d_M_hasPiece_25 : decode b_M_hasPiece 25 = .ok (.iload_n 2, 1) := by decide +kernel
theorem d_M_hasPiece_26 : decode b_M_hasPiece 26 = .ok (.isub, 1) := by decide +kernel
theorem d_M_hasPiece_27 : decode b_M_hasPiece 27 = .ok (.if_icmp .gt 7, 3) := by decide +kernel
theorem d_M_hasPiece_30 : decode b_M_hasPiece 30 = .ok (.iconst 1, 1) := by decide +kernel
theorem d_M_hasPiece_31 : decode b_M_hasPiece 31 = .ok (.goto 4, 3) := by decide +kernel
theorem d_M_hasPiece_34 : decode b_M_hasPiece 34 = .ok (.iconst 0, 1) := by decide +kernel
theorem d_M_hasPiece_35 : decode b_M_hasPiece 35 = .ok (.ireturn, 1) := by decide +kernel
set_option maxHeartbeats 4000000 in
set_option maxRecDepth 20000 in
theorem c_M_hasPiece {l : Launch} {G : va_G} {tys : List (ClassId × FieldType)} {cI cO cZ : ClassId} (hT : TY tys cI cO cZ) (q0 q1 q2 q3 q4 q5 q6 q7 q8 q9 : Nat) (nw pt : Int → Int) (np : Int) (sl : Int → Int) (sv : Int) (li ot : Int → Int) (len : Int) (pd : Int → Int) (ty : Int) (wr : Int → Int) (wm : Int) (ss lz : Int → Int) (rm : Int) (f k : Int) (lc sd r N : Int) (sg ln v : Int → Int) (hR : RwOk lc sd r sg ln N v) (hM : MR nw 0 lc sd r sg ln) (hfk : (-2147483648 ≤ f ∧ f < 2147483648) ∧ (-2147483648 ≤ k ∧ k < 2147483648)) : CTI l G tys y_M_hasPiece b_M_hasPiece 3 .boolean 2 43 [.ref q0, .int (iI f), .int (iI k)] (mw cI q0 q1 q2 q3 q4 q5 q6 q7 q8 q9 nw pt np sl sv li ot len pd ty wr wm ss lz rm) (fun z u => ∃ li' : Int → Int, u = mw cI q0 q1 q2 q3 q4 q5 q6 q7 q8 q9 nw pt np sl sv li' ot N pd ty wr wm ss lz rm ∧ (∀ x, 0 ≤ x → x < N → li' x = v x) ∧ ((z = 1 ∧ (0 ≤ f ∧ 1 ≤ k ∧ k ≤ N - f)) ∨ (z = 0 ∧ ¬ (0 ≤ f ∧ 1 ≤ k ∧ k ≤ N - f)))) := by
  refine mkZ (by decide) (Nat.le_of_ble_eq_true rfl) ?_
  rintro X rfl rfl rfl hRm C kret H ls w hl
  have hl : lv_has ls 3 [(0, .ref q0), (1, .int (iI f)), (2, .int (iI k))] := hl
  have w : Wd X (mw cI q0 q1 q2 q3 q4 q5 q6 q7 q8 q9 nw pt np sl sv li ot len pd ty wr wm ss lz rm) H [] := w
  generalize ([] : List Loc) = locs at w ⊢
  have hN0 := hR.1.n0
  have hN3 := hR.2.2.1
  refine r_aload_n (pc := 0) C d_M_hasPiece_0 rfl (lv_at hl 0 rfl) ?_
  refine r_callVV (pc := 1) (As := []) (rest := []) (wr := []) C w (c_M_laysOut hT q0 q1 q2 q3 q4 q5 q6 q7 q8 q9 nw pt np sl sv li ot len pd ty wr wm ss lz rm  _ _ _ _ _ _ _ hR hM) ml_M_72 im_M_laysOut se_M_laysOut ini_M cd_M_laysOut hd_M_laysOut rfl (by rw [hRm]; exact ⟨⟨Nat.le_of_ble_eq_true rfl, Nat.le_of_ble_eq_true rfl⟩, Nat.le_of_ble_eq_true rfl, Nat.le_of_ble_eq_true rfl⟩) hl.1 [0, 1, 2, 3, 4, 5, 6, 7, 8, 9] [] ⟨rfl, rfl, by decide, by decide, by decide⟩ 0 rfl rfl rfl (Nat.le_of_ble_eq_true rfl) d_M_hasPiece_1 (fun u_1 H locs hz_1 w => ?_)
  obtain ⟨li_1, rfl, hli_1⟩ := hz_1
  have w : Wd X (mw cI q0 q1 q2 q3 q4 q5 q6 q7 q8 q9 nw pt np sl sv li_1 ot N pd ty wr wm ss lz rm) H locs := w
  refine r_iload_n (pc := 4) C d_M_hasPiece_4 rfl (lv_at hl 1 rfl) ?_
  refine r_if_lt (pc := 5) (tgt := 34) C (by omega) d_M_hasPiece_5 (by decide) (fun c_5 => ?_) (fun c_5 => ?_)
  · skip
    refine r_iconst (pc := 34) C d_M_hasPiece_34 ?_
    exact kret _ _ _ _ 0 _ d_M_hasPiece_35 w (by omega) (⟨_, rfl, hli_1, by omega⟩)
  · skip
    refine r_iload_n (pc := 8) C d_M_hasPiece_8 rfl (lv_at hl 2 rfl) ?_
    refine r_if_le (pc := 9) (tgt := 34) C (by omega) d_M_hasPiece_9 (by decide) (fun c_9 => ?_) (fun c_9 => ?_)
    · skip
      refine r_iconst (pc := 34) C d_M_hasPiece_34 ?_
      exact kret _ _ _ _ 0 _ d_M_hasPiece_35 w (by omega) (⟨_, rfl, hli_1, by omega⟩)
    · skip
      refine r_iload_n (pc := 12) C d_M_hasPiece_12 rfl (lv_at hl 2 rfl) ?_
      refine r_aload_n (pc := 13) C d_M_hasPiece_13 rfl (lv_at hl 0 rfl) ?_
      refine r_get (pc := 14) (v := .int (iI N)) C w i_M rfl 0 rfl 7 (by decide) fl_M_52 rfl rfl d_M_hasPiece_14 ?_
      refine r_icmp_gt (pc := 17) (tgt := 34) C (by omega) d_M_hasPiece_17 (by decide) (fun c_17 => ?_) (fun c_17 => ?_)
      · skip
        refine r_iconst (pc := 34) C d_M_hasPiece_34 ?_
        exact kret _ _ _ _ 0 _ d_M_hasPiece_35 w (by omega) (⟨_, rfl, hli_1, by omega⟩)
      · skip
        refine r_iload_n (pc := 20) C d_M_hasPiece_20 rfl (lv_at hl 1 rfl) ?_
        refine r_aload_n (pc := 21) C d_M_hasPiece_21 rfl (lv_at hl 0 rfl) ?_
        refine r_get (pc := 22) (v := .int (iI N)) C w i_M rfl 0 rfl 7 (by decide) fl_M_52 rfl rfl d_M_hasPiece_22 ?_
        refine r_iload_n (pc := 25) C d_M_hasPiece_25 rfl (lv_at hl 2 rfl) ?_
        refine r_isub (pc := 26) C d_M_hasPiece_26 ?_
        refine r_icmp_gt (pc := 27) (tgt := 34) C (by omega) d_M_hasPiece_27 (by decide) (fun c_27 => ?_) (fun c_27 => ?_)
        · skip
          refine r_iconst (pc := 34) C d_M_hasPiece_34 ?_
          exact kret _ _ _ _ 0 _ d_M_hasPiece_35 w (by omega) (⟨_, rfl, hli_1, by omega⟩)
        · skip
          refine r_iconst (pc := 30) C d_M_hasPiece_30 ?_
          refine r_goto (pc := 31) (tgt := 35) C d_M_hasPiece_31 (by decide) ?_
          exact kret _ _ _ _ 1 _ d_M_hasPiece_35 w (by omega) (⟨_, rfl, hli_1, by omega⟩)
theorem d_M_countIn_0 : decode b_M_countIn 0 = .ok (.iconst 0, 1) := by decide +kernel
theorem d_M_countIn_1 : decode b_M_countIn 1 = .ok (.istore 4, 2) := by decide +kernel
theorem d_M_countIn_3 : decode b_M_countIn 3 = .ok (.iload_n 1, 1) := by decide +kernel
theorem d_M_countIn_4 : decode b_M_countIn 4 = .ok (.istore 5, 2) := by decide +kernel
theorem d_M_countIn_6 : decode b_M_countIn 6 = .ok (.iload 5, 2) := by decide +kernel
theorem d_M_countIn_8 : decode b_M_countIn 8 = .ok (.iload_n 1, 1) := by decide +kernel
theorem d_M_countIn_9 : decode b_M_countIn 9 = .ok (.iload_n 2, 1) := by decide +kernel
theorem d_M_countIn_10 : decode b_M_countIn 10 = .ok (.iadd, 1) := by decide +kernel
theorem d_M_countIn_11 : decode b_M_countIn 11 = .ok (.if_icmp .ge 30, 3) := by decide +kernel
theorem d_M_countIn_14 : decode b_M_countIn 14 = .ok (.iload 4, 2) := by decide +kernel
theorem d_M_countIn_16 : decode b_M_countIn 16 = .ok (.aload_n 0, 1) := by decide +kernel
theorem d_M_countIn_17 : decode b_M_countIn 17 = .ok (.getfield 19, 3) := by decide +kernel
theorem d_M_countIn_20 : decode b_M_countIn 20 = .ok (.iload 5, 2) := by decide +kernel
theorem d_M_countIn_22 : decode b_M_countIn 22 = .ok (.iaload, 1) := by decide +kernel
theorem d_M_countIn_23 : decode b_M_countIn 23 = .ok (.iload_n 3, 1) := by decide +kernel
theorem d_M_countIn_24 : decode b_M_countIn 24 = .ok (.if_icmp .ne 7, 3) := by decide +kernel
theorem d_M_countIn_27 : decode b_M_countIn 27 = .ok (.iconst 1, 1) := by decide +kernel
theorem d_M_countIn_28 : decode b_M_countIn 28 = .ok (.goto 4, 3) := by decide +kernel
theorem d_M_countIn_31 : decode b_M_countIn 31 = .ok (.iconst 0, 1) := by decide +kernel
theorem d_M_countIn_32 : decode b_M_countIn 32 = .ok (.iadd, 1) := by decide +kernel
theorem d_M_countIn_33 : decode b_M_countIn 33 = .ok (.istore 4, 2) := by decide +kernel
theorem d_M_countIn_35 : decode b_M_countIn 35 = .ok (.iinc 5 1, 3) := by decide +kernel
theorem d_M_countIn_38 : decode b_M_countIn 38 = .ok (.goto (-32), 3) := by decide +kernel
theorem d_M_countIn_41 : decode b_M_countIn 41 = .ok (.iload 4, 2) := by decide +kernel
theorem d_M_countIn_43 : decode b_M_countIn 43 = .ok (.ireturn, 1) := by decide +kernel
set_option maxHeartbeats 4000000 in
set_option maxRecDepth 20000 in
theorem c_M_countIn {l : Launch} {G : va_G} {tys : List (ClassId × FieldType)} {cI cO cZ : ClassId} (hT : TY tys cI cO cZ) (q0 q1 q2 q3 q4 q5 q6 q7 q8 q9 : Nat) (nw pt : Int → Int) (np : Int) (sl : Int → Int) (sv : Int) (li ot : Int → Int) (len : Int) (pd : Int → Int) (ty : Int) (wr : Int → Int) (wm : Int) (ss lz : Int → Int) (rm : Int) (f k s : Int) (hfk : 0 ≤ f ∧ 0 ≤ k ∧ f + k ≤ 6000) (hs : (-2147483648 ≤ s ∧ s < 2147483648)) (hli : ∀ x, f ≤ x → x < f + k → 0 ≤ li x ∧ li x ≤ 10) : CTI l G tys y_M_countIn b_M_countIn 6 .int 0 0 [.ref q0, .int (iI f), .int (iI k), .int (iI s)] (mw cI q0 q1 q2 q3 q4 q5 q6 q7 q8 q9 nw pt np sl sv li ot len pd ty wr wm ss lz rm) (fun z u => u = mw cI q0 q1 q2 q3 q4 q5 q6 q7 q8 q9 nw pt np sl sv li ot len pd ty wr wm ss lz rm ∧ z = cn li s f (f + k)) := by
  refine mkI (by decide) (Nat.le_of_ble_eq_true rfl) ?_
  rintro X rfl rfl rfl hRm C kret H ls w hl
  have hl : lv_has ls 6 [(0, .ref q0), (1, .int (iI f)), (2, .int (iI k)), (3, .int (iI s))] := hl
  have w : Wd X (mw cI q0 q1 q2 q3 q4 q5 q6 q7 q8 q9 nw pt np sl sv li ot len pd ty wr wm ss lz rm) H [] := w
  generalize ([] : List Loc) = locs at w ⊢
  refine r_iconst (pc := 0) C d_M_countIn_0 ?_
  refine r_istore (pc := 1) (lv' := [(4, .int (iI 0)), (0, .ref q0), (1, .int (iI f)), (2, .int (iI k)), (3, .int (iI s))]) C d_M_countIn_1 hl (by decide) rfl (fun ls hl => ?_)
  refine r_iload_n (pc := 3) C d_M_countIn_3 rfl (lv_at hl 2 rfl) ?_
  refine r_istore (pc := 4) (lv' := [(5, .int (iI f)), (4, .int (iI 0)), (0, .ref q0), (1, .int (iI f)), (2, .int (iI k)), (3, .int (iI s))]) C d_M_countIn_4 hl (by decide) rfl (fun ls hl => ?_)
  have L6 : ∀ (fuel : Nat), ∀ (i : Int) (n : Int), f ≤ i ∧ i ≤ f + k → n = cn li s f i → (f + k - i) < (fuel : Int) → ∀ (H : Heap) (locs : List Loc) (ls : Array Slot), Wd X (mw cI q0 q1 q2 q3 q4 q5 q6 q7 q8 q9 nw pt np sl sv li ot len pd ty wr wm ss lz rm) H locs → lv_has ls 6 [(0, .ref q0), (1, .int (iI f)), (2, .int (iI k)), (3, .int (iI s)), (4, .int (iI n)), (5, .int (iI i))] → GG X 0 0 H locs 6 ls [] := by
    intro fuel
    induction fuel with
    | zero =>
      intro i n h0 hn hfuel
      exact absurd hfuel (by omega)
    | succ fuel ih6 =>
      intro i n h0 hn hfuel H locs ls w hl
      refine r_iload (pc := 6) C d_M_countIn_6 (lv_at hl 5 rfl) ?_
      refine r_iload_n (pc := 8) C d_M_countIn_8 rfl (lv_at hl 1 rfl) ?_
      refine r_iload_n (pc := 9) C d_M_countIn_9 rfl (lv_at hl 2 rfl) ?_
      refine r_iadd (pc := 10) C d_M_countIn_10 ?_
      refine r_icmp_ge (pc := 11) (tgt := 41) C (by omega) d_M_countIn_11 (by decide) (fun c_11 => ?_) (fun c_11 => ?_)
      · skip
        refine r_iload (pc := 41) C d_M_countIn_41 (lv_at hl 4 rfl) ?_
        exact kret _ _ _ _ n _ d_M_countIn_43 w (⟨rfl, by rw [hn, show i = f + k by omega]⟩)
      · skip
        have hl1 := hli i (by omega) (by omega)
        refine r_iload (pc := 14) C d_M_countIn_14 (lv_at hl 4 rfl) ?_
        refine r_aload_n (pc := 16) C d_M_countIn_16 rfl (lv_at hl 0 rfl) ?_
        refine r_get (pc := 17) (v := .ref q4) C w i_M rfl 0 rfl 5 (by decide) fl_M_19 rfl rfl d_M_countIn_17 ?_
        refine r_iload (pc := 20) C d_M_countIn_20 (lv_at hl 5 rfl) ?_
        refine r_iald (pc := 22) (f := li) (i := i) C w 0 4 rfl hT.1 (by omega) d_M_countIn_22 ?_
        refine r_iload_n (pc := 23) C d_M_countIn_23 rfl (lv_at hl 3 rfl) ?_
        refine r_icmp_ne (pc := 24) (tgt := 31) C (by omega) d_M_countIn_24 (by decide) (fun c_24 => ?_) (fun c_24 => ?_)
        · skip
          refine r_iconst (pc := 31) C d_M_countIn_31 ?_
          refine r_iadd (pc := 32) C d_M_countIn_32 ?_
          refine r_istore (pc := 33) (lv' := [(4, .int (iI (n + 0))), (0, .ref q0), (1, .int (iI f)), (2, .int (iI k)), (3, .int (iI s)), (5, .int (iI i))]) C d_M_countIn_33 hl (by decide) rfl (fun ls hl => ?_)
          refine r_iinc (pc := 35) (j := 5) (lv' := [(5, .int (iI (i + 1))), (4, .int (iI (n + 0))), (0, .ref q0), (1, .int (iI f)), (2, .int (iI k)), (3, .int (iI s))]) C d_M_countIn_35 hl rfl (by decide) rfl (fun ls hl => ?_)
          refine r_goto (pc := 38) (tgt := 6) C d_M_countIn_38 (by decide) ?_
          exact ih6 (i + 1) (n + 0) (by omega) ((by unfold cn at *; rw [ps_succ _ (by omega)]; unfold ic at *; first | (rw [if_pos (by omega)]; omega) | (rw [if_neg (by omega)]; omega))) (by omega) _ _ _ w (lv_sub hl [2, 3, 4, 5, 1, 0] rfl)
        · skip
          refine r_iconst (pc := 27) C d_M_countIn_27 ?_
          refine r_goto (pc := 28) (tgt := 32) C d_M_countIn_28 (by decide) ?_
          refine r_iadd (pc := 32) C d_M_countIn_32 ?_
          refine r_istore (pc := 33) (lv' := [(4, .int (iI (n + 1))), (0, .ref q0), (1, .int (iI f)), (2, .int (iI k)), (3, .int (iI s)), (5, .int (iI i))]) C d_M_countIn_33 hl (by decide) rfl (fun ls hl => ?_)
          refine r_iinc (pc := 35) (j := 5) (lv' := [(5, .int (iI (i + 1))), (4, .int (iI (n + 1))), (0, .ref q0), (1, .int (iI f)), (2, .int (iI k)), (3, .int (iI s))]) C d_M_countIn_35 hl rfl (by decide) rfl (fun ls hl => ?_)
          refine r_goto (pc := 38) (tgt := 6) C d_M_countIn_38 (by decide) ?_
          exact ih6 (i + 1) (n + 1) (by omega) ((by unfold cn at *; rw [ps_succ _ (by omega)]; unfold ic at *; first | (rw [if_pos (by omega)]; omega) | (rw [if_neg (by omega)]; omega))) (by omega) _ _ _ w (lv_sub hl [2, 3, 4, 5, 1, 0] rfl)
  exact L6 ((f + k - f) + 1 : Int).toNat f 0 (by first | omega | rfl) ((by unfold cn; omega)) (by omega) _ _ _ w (lv_sub hl [2, 3, 4, 5, 1, 0] rfl)
