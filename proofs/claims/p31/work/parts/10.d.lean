/-! the whole object: its cells, what they hold, what an edit does to it -/
/-- settings and row: code, save-dead, runs, signs, lengths, places, the row sign by sign -/
abbrev Rw : Type := Int × Int × Int × (Int → Int) × (Int → Int) × Int × (Int → Int)
/-- row, history, how many, slots, which are used, pad, its length -/
abbrev AS : Type := Rw × (Int → Rw) × Int × (Int → Rw) × (Int → Int) × (Int → Int) × Int
def RwOk (lc sd r : Int) (sg ln : Int → Int) (N : Int) (v : Int → Int) : Prop := Ok r sg ln N v ∧ r ≤ 50 ∧ N ≤ 3000 ∧ (0 ≤ lc ∧ lc ≤ 2) ∧ (sd = 0 ∨ sd = 1)
def SR (d : SD) (w : Rw) : Prop := match d, w with
  | (_, _, _, sg, ln, r, pl, _, lc, sd), (lc', sd', r', sg', ln', N', v') => sg = sg' ∧ ln = ln' ∧ r = r' ∧ pl = N' ∧ lc = lc' ∧ sd = sd' ∧ RwOk lc' sd' r' sg' ln' N' v'
def swd (cI : ClassId) (d : SD) : va_W := sw cI d.1 d.2.1 d.2.2.1 d.2.2.2.1 d.2.2.2.2.1 d.2.2.2.2.2.1 d.2.2.2.2.2.2.1 d.2.2.2.2.2.2.2.1 d.2.2.2.2.2.2.2.2.1 d.2.2.2.2.2.2.2.2.2
def hst (cI : ClassId) (st : Int → SD) : va_W := swd cI (st 0) ++ (swd cI (st 1) ++ (swd cI (st 2) ++ (swd cI (st 3) ++ (swd cI (st 4) ++ (swd cI (st 5) ++ (swd cI (st 6) ++ swd cI (st 7)))))))
def dcore (cI cO cZ : ClassId) (o h sl us pd co rn rx ra : Nat) (hf : Int → Nat) (rcd : Int) (sf : Int → Nat) (uf T : Int → Int) (m : Int) : va_W := [(o, .inr (0, [.ref rn, .ref rx, .ref ra, .ref h, .int (iI rcd), .ref sl, .ref us, .ref pd])), (h, aR cO 6 hf), (sl, aR cO 2 sf), (us, aI cZ 2 uf), (pd, .inr (2, [.ref co, .int (iI m)])), (co, aI cI 80 T)]
def DC (hf sf : Int → Nat) (st : Int → SD) (hist : Int → Rw) (rcd : Int) (slot : Int → Rw) (uf T : Int → Int) (m : Int) : Prop := (∀ i, 0 ≤ i → i < 6 → hf i = (st i).1) ∧ (∀ i, 0 ≤ i → i < 2 → sf i = (st (6 + i)).1) ∧ (0 ≤ rcd ∧ rcd ≤ 6) ∧ (∀ i, 0 ≤ i → i < rcd → SR (st i) (hist i)) ∧ (∀ i, 0 ≤ i → i < 2 → (uf i = 0 ∨ uf i = 1) ∧ (uf i = 1 → SR (st (6 + i)) (slot i))) ∧ (0 ≤ m ∧ m ≤ 80) ∧ (∀ x, 0 ≤ x → x < m → 33 ≤ T x ∧ T x ≤ 126)
/-- the class's object at o stands for A -/
def CW (cI cO cZ : ClassId) (o : Nat) (A : AS) (ws : va_W) : Prop := match A with
  | ((lc, sd, r, sg, ln, N, v), hist, rcd, slot, uf, T, m) => RwOk lc sd r sg ln N v ∧ ∃ (h sl us pd co : Nat) (hf sf : Int → Nat) (q a b : Nat) (ov : Int) (q2 a2 b2 : Nat) (sg2 ln2 : Int → Int) (r2 pl2 ov2 lc2 sd2 : Int) (q3 a3 b3 : Nat) (sg3 ln3 : Int → Int) (r3 pl3 ov3 lc3 sd3 : Int) (st : Int → SD), ws = dcore cI cO cZ o h sl us pd co q q2 q3 hf rcd sf uf T m ++ sw cI q a b sg ln r N ov lc sd ++ sw cI q2 a2 b2 sg2 ln2 r2 pl2 ov2 lc2 sd2 ++ sw cI q3 a3 b3 sg3 ln3 r3 pl3 ov3 lc3 sd3 ++ hst cI st ∧ DC hf sf st hist rcd slot uf T m
/-- A' is A with one more state recorded, and a new row -/
def Pushed (A A' : AS) (lc1 sd1 N1 : Int) (v1 : Int → Int) : Prop := match A, A' with
  | (w, hist, rcd, slot, uf, T, m), ((lc', sd', r', sg', ln', N', v'), hist', rcd', slot', uf', T', m') => lc' = lc1 ∧ sd' = sd1 ∧ N' = N1 ∧ v' = v1 ∧ RwOk lc' sd' r' sg' ln' N' v' ∧ slot' = slot ∧ uf' = uf ∧ T' = T ∧ m' = m ∧ ((rcd < 6 ∧ rcd' = rcd + 1 ∧ (∀ i, 0 ≤ i → i < rcd → hist' i = hist i) ∧ hist' rcd = w) ∨ (rcd = 6 ∧ rcd' = 6 ∧ (∀ i, 0 ≤ i → i < 5 → hist' i = hist (i + 1)) ∧ hist' 5 = w))
def SpE (A : AS) (z : Int) (A' : AS) (err lc1 sd1 N1 : Int) (v1 : Int → Int) (ans : Int) : Prop := (err ≠ 0 ∧ z = err ∧ A' = A) ∨ (err = 0 ∧ ¬ fits_ N1 v1 ∧ z = -4 ∧ A' = A) ∨ (err = 0 ∧ fits_ N1 v1 ∧ z = ans ∧ Pushed A A' lc1 sd1 N1 v1)
theorem hst_at (cI : ClassId) (st : Int → SD) (pre : va_W) (i : Int) (h : 0 ≤ i ∧ i < 8) : ∃ (qk : Nat) (vs : List Value), (pre ++ hst cI st)[qk]? = some ((st i).1, .inr (1, vs)) := by
  have key : ∃ (j : Nat) (vs : List Value), (hst cI st)[j]? = some ((st i).1, .inr (1, vs)) := by
    rcases (by omega : i = 0 ∨ i = 1 ∨ i = 2 ∨ i = 3 ∨ i = 4 ∨ i = 5 ∨ i = 6 ∨ i = 7) with rfl | rfl | rfl | rfl | rfl | rfl | rfl | rfl
    · exact ⟨0, _, rfl⟩
    · exact ⟨3, _, rfl⟩
    · exact ⟨6, _, rfl⟩
    · exact ⟨9, _, rfl⟩
    · exact ⟨12, _, rfl⟩
    · exact ⟨15, _, rfl⟩
    · exact ⟨18, _, rfl⟩
    · exact ⟨21, _, rfl⟩
  obtain ⟨j, vs, hj⟩ := key
  exact ⟨pre.length + j, vs, by rw [List.getElem?_append_right (by omega), show pre.length + j - pre.length = j by omega]; exact hj⟩
/-- the oldest state's object goes behind the others -/
def rot (st : Int → SD) : Int → SD := fun i => if i < 5 then st (i + 1) else if i = 5 then st 0 else st i
theorem d_D_dropOldest_0 : decode b_D_dropOldest 0 = .ok (.aload_n 0, 1) := by decide +kernel
theorem d_D_dropOldest_1 : decode b_D_dropOldest 1 = .ok (.getfield 22, 3) := by decide +kernel
theorem d_D_dropOldest_4 : decode b_D_dropOldest 4 = .ok (.iconst 0, 1) := by decide +kernel
theorem d_D_dropOldest_5 : decode b_D_dropOldest 5 = .ok (.aaload, 1) := by decide +kernel
theorem d_D_dropOldest_6 : decode b_D_dropOldest 6 = .ok (.astore_n 1, 1) := by decide +kernel
theorem d_D_dropOldest_7 : decode b_D_dropOldest 7 = .ok (.iconst 1, 1) := by decide +kernel
theorem d_D_dropOldest_8 : decode b_D_dropOldest 8 = .ok (.istore_n 2, 1) := by decide +kernel
theorem d_D_dropOldest_9 : decode b_D_dropOldest 9 = .ok (.iload_n 2, 1) := by decide +kernel
theorem d_D_dropOldest_10 : decode b_D_dropOldest 10 = .ok (.bipush 6, 2) := by decide +kernel
theorem d_D_dropOldest_12 : decode b_D_dropOldest 12 = .ok (.if_icmp .ge 23, 3) := by decide +kernel
theorem d_D_dropOldest_15 : decode b_D_dropOldest 15 = .ok (.aload_n 0, 1) := by decide +kernel
theorem d_D_dropOldest_16 : decode b_D_dropOldest 16 = .ok (.getfield 22, 3) := by decide +kernel
theorem d_D_dropOldest_19 : decode b_D_dropOldest 19 = .ok (.iload_n 2, 1) := by decide +kernel
theorem d_D_dropOldest_20 : decode b_D_dropOldest 20 = .ok (.iconst 1, 1) := by decide +kernel
theorem d_D_dropOldest_21 : decode b_D_dropOldest 21 = .ok (.isub, 1) := by decide +kernel
theorem d_D_dropOldest_22 : decode b_D_dropOldest 22 = .ok (.aload_n 0, 1) := by decide +kernel
theorem d_D_dropOldest_23 : decode b_D_dropOldest 23 = .ok (.getfield 22, 3) := by decide +kernel
theorem d_D_dropOldest_26 : decode b_D_dropOldest 26 = .ok (.iload_n 2, 1) := by decide +kernel
theorem d_D_dropOldest_27 : decode b_D_dropOldest 27 = .ok (.aaload, 1) := by decide +kernel
theorem d_D_dropOldest_28 : decode b_D_dropOldest 28 = .ok (.aastore, 1) := by decide +kernel
theorem d_D_dropOldest_29 : decode b_D_dropOldest 29 = .ok (.iinc 2 1, 3) := by decide +kernel
theorem d_D_dropOldest_32 : decode b_D_dropOldest 32 = .ok (.goto (-23), 3) := by decide +kernel
theorem d_D_dropOldest_35 : decode b_D_dropOldest 35 = .ok (.aload_n 0, 1) := by decide +kernel
theorem d_D_dropOldest_36 : decode b_D_dropOldest 36 = .ok (.getfield 22, 3) := by decide +kernel
theorem d_D_dropOldest_39 : decode b_D_dropOldest 39 = .ok (.iconst 5, 1) := by decide +kernel
theorem d_D_dropOldest_40 : decode b_D_dropOldest 40 = .ok (.aload_n 1, 1) := by decide +kernel
theorem d_D_dropOldest_41 : decode b_D_dropOldest 41 = .ok (.aastore, 1) := by decide +kernel
theorem d_D_dropOldest_42 : decode b_D_dropOldest 42 = .ok (.aload_n 0, 1) := by decide +kernel
theorem d_D_dropOldest_43 : decode b_D_dropOldest 43 = .ok (.iconst 5, 1) := by decide +kernel
theorem d_D_dropOldest_44 : decode b_D_dropOldest 44 = .ok (.putfield 26, 3) := by decide +kernel
theorem d_D_dropOldest_47 : decode b_D_dropOldest 47 = .ok (.return_, 1) := by decide +kernel
set_option maxHeartbeats 4000000 in
set_option maxRecDepth 20000 in
theorem c_D_dropOldest {l : Launch} {G : va_G} {tys : List (ClassId × FieldType)} {cI cO cZ : ClassId} (hT : TY tys cI cO cZ) (o h sl us pd co rn rx ra : Nat) (hf sf : Int → Nat) (rcd m : Int) (uf T : Int → Int) (pre : va_W) (st : Int → SD) (hh : ∀ i, 0 ≤ i → i < 6 → hf i = (st i).1) : CTV l G tys y_D_dropOldest b_D_dropOldest 3 0 0 [.ref o] (dcore cI cO cZ o h sl us pd co rn rx ra hf rcd sf uf T m ++ (pre ++ hst cI st)) (fun u => ∃ hf' : Int → Nat, u = dcore cI cO cZ o h sl us pd co rn rx ra hf' 5 sf uf T m ++ (pre ++ hst cI st) ∧ ∀ i, 0 ≤ i → i < 6 → hf' i = (rot st i).1) := by
  refine mkV (by decide) (Nat.le_of_ble_eq_true rfl) ?_
  rintro X rfl rfl rfl hRm C kret H ls w hl
  have hl : lv_has ls 3 [(0, .ref o)] := hl
  have w : Wd X (dcore cI cO cZ o h sl us pd co rn rx ra hf rcd sf uf T m ++ (pre ++ hst cI st)) H [] := w
  generalize ([] : List Loc) = locs at w ⊢
  refine r_aload_n (pc := 0) C d_D_dropOldest_0 rfl (lv_at hl 0 rfl) ?_
  refine r_get (pc := 1) (v := .ref h) C w i_D rfl 0 rfl 3 (by decide) fl_D_22 rfl rfl d_D_dropOldest_1 ?_
  refine r_iconst (pc := 4) C d_D_dropOldest_4 ?_
  refine r_aald (pc := 5) (f := hf) (i := 0) C w 1 1 rfl hT.2.1 (by omega) d_D_dropOldest_5 ?_
  refine r_astore_n (pc := 6) (lv' := [(1, .ref (hf 0)), (0, .ref o)]) C d_D_dropOldest_6 rfl hl (by decide) rfl (fun ls hl => ?_)
  refine r_iconst (pc := 7) C d_D_dropOldest_7 ?_
  refine r_istore_n (pc := 8) (lv' := [(2, .int (iI 1)), (1, .ref (hf 0)), (0, .ref o)]) C d_D_dropOldest_8 rfl hl (by decide) rfl (fun ls hl => ?_)
  have L9 : ∀ (fuel : Nat), ∀ (i : Int) (hf1 : Int → Nat), 1 ≤ i ∧ i ≤ 6 → (∀ j, 0 ≤ j → j < i - 1 → hf1 j = (st (j + 1)).1) → (∀ j, i - 1 ≤ j → j < 6 → (j = i - 1 ∨ hf1 j = (st j).1)) → (∀ j, i ≤ j → j < 6 → hf1 j = (st j).1) → (6 - i) < (fuel : Int) → ∀ (H : Heap) (locs : List Loc) (ls : Array Slot), Wd X (dcore cI cO cZ o h sl us pd co rn rx ra hf1 rcd sf uf T m ++ (pre ++ hst cI st)) H locs → lv_has ls 3 [(0, .ref o), (1, .ref (hf 0)), (2, .int (iI i))] → GG X 0 0 H locs 9 ls [] := by
    intro fuel
    induction fuel with
    | zero =>
      intro i hf1 h0 ha hb hc hfuel
      exact absurd hfuel (by omega)
    | succ fuel ih9 =>
      intro i hf1 h0 ha hb hc hfuel H locs ls w hl
      refine r_iload_n (pc := 9) C d_D_dropOldest_9 rfl (lv_at hl 2 rfl) ?_
      refine r_bipush (pc := 10) C d_D_dropOldest_10 (by decide) ?_
      refine r_icmp_ge (pc := 12) (tgt := 35) C (by omega) d_D_dropOldest_12 (by decide) (fun c_12 => ?_) (fun c_12 => ?_)
      · skip
        have hx0 := hh 0 (by omega) (by omega)
        refine r_aload_n (pc := 35) C d_D_dropOldest_35 rfl (lv_at hl 0 rfl) ?_
        refine r_get (pc := 36) (v := .ref h) C w i_D rfl 0 rfl 3 (by decide) fl_D_22 rfl rfl d_D_dropOldest_36 ?_
        refine r_iconst (pc := 39) C d_D_dropOldest_39 ?_
        refine r_aload_n (pc := 40) C d_D_dropOldest_40 rfl (lv_at hl 1 rfl) ?_
        obtain ⟨qk_41, vs_41, hv_41⟩ := hst_at cI st (dcore cI cO cZ o h sl us pd co rn rx ra hf1 rcd sf uf T m ++ pre) 0 (by omega)
        rw [← hx0, List.append_assoc] at hv_41
        refine r_aast (pc := 41) (f := hf1) (i := 5) (v := (hf 0)) (r := (R_S, F_S, 7)) (ws' := dcore cI cO cZ o h sl us pd co rn rx ra (up hf1 5 (hf 0)) rcd sf uf T m ++ (pre ++ hst cI st)) C w 1 1 qk_41 1 rfl hT.2.1 hv_41 rfl (by omega) rfl d_D_dropOldest_41 (fun H locs w => ?_)
        refine r_aload_n (pc := 42) C d_D_dropOldest_42 rfl (lv_at hl 0 rfl) ?_
        refine r_iconst (pc := 43) C d_D_dropOldest_43 ?_
        refine r_put (pc := 44) (ws' := dcore cI cO cZ o h sl us pd co rn rx ra (up hf1 5 (hf 0)) 5 sf uf T m ++ (pre ++ hst cI st)) C w i_D t_D t_D_ok n_D rfl 0 rfl 4 (by decide) fl_D_26 rfl rfl rfl rfl (Nat.le_of_ble_eq_true rfl) rfl d_D_dropOldest_44 (fun H locs w => ?_)
        exact kret _ _ _ _ _ d_D_dropOldest_47 w (⟨_, rfl, fun i h1 h2 => by unfold rot; by_cases e : i = 5; subst e; rw [up_eq]; exact hx0; rw [up_ne _ _ e, if_pos (by omega)]; exact ha i h1 (by omega)⟩)
      · skip
        have hx1 := hc i (by omega) (by omega)
        refine r_aload_n (pc := 15) C d_D_dropOldest_15 rfl (lv_at hl 0 rfl) ?_
        refine r_get (pc := 16) (v := .ref h) C w i_D rfl 0 rfl 3 (by decide) fl_D_22 rfl rfl d_D_dropOldest_16 ?_
        refine r_iload_n (pc := 19) C d_D_dropOldest_19 rfl (lv_at hl 2 rfl) ?_
        refine r_iconst (pc := 20) C d_D_dropOldest_20 ?_
        refine r_isub (pc := 21) C d_D_dropOldest_21 ?_
        refine r_aload_n (pc := 22) C d_D_dropOldest_22 rfl (lv_at hl 0 rfl) ?_
        refine r_get (pc := 23) (v := .ref h) C w i_D rfl 0 rfl 3 (by decide) fl_D_22 rfl rfl d_D_dropOldest_23 ?_
        refine r_iload_n (pc := 26) C d_D_dropOldest_26 rfl (lv_at hl 2 rfl) ?_
        refine r_aald (pc := 27) (f := hf1) (i := i) C w 1 1 rfl hT.2.1 (by omega) d_D_dropOldest_27 ?_
        obtain ⟨qk_28, vs_28, hv_28⟩ := hst_at cI st (dcore cI cO cZ o h sl us pd co rn rx ra hf1 rcd sf uf T m ++ pre) i (by omega)
        rw [← hx1, List.append_assoc] at hv_28
        refine r_aast (pc := 28) (f := hf1) (i := (i - 1)) (v := (hf1 i)) (r := (R_S, F_S, 7)) (ws' := dcore cI cO cZ o h sl us pd co rn rx ra (up hf1 (i - 1) (hf1 i)) rcd sf uf T m ++ (pre ++ hst cI st)) C w 1 1 qk_28 1 rfl hT.2.1 hv_28 rfl (by omega) rfl d_D_dropOldest_28 (fun H locs w => ?_)
        refine r_iinc (pc := 29) (j := 2) (lv' := [(2, .int (iI (i + 1))), (0, .ref o), (1, .ref (hf 0))]) C d_D_dropOldest_29 hl rfl (by decide) rfl (fun ls hl => ?_)
        refine r_goto (pc := 32) (tgt := 9) C d_D_dropOldest_32 (by decide) ?_
        exact ih9 (i + 1) (up hf1 (i - 1) (hf1 i)) (by omega) ((fun j h1 h2 => by by_cases e : j = i - 1; subst e; rw [up_eq, show i - 1 + 1 = i by omega]; exact hx1; rw [up_ne _ _ e]; exact ha j h1 (by omega))) ((fun j h1 h2 => Or.inr (by rw [up_ne _ _ (by omega)]; exact hc j (by omega) h2))) ((fun j h1 h2 => by rw [up_ne _ _ (by omega)]; exact hc j (by omega) h2)) (by omega) _ _ _ w (lv_sub hl [1, 2, 0] rfl)
  exact L9 ((6 - 1) + 1 : Int).toNat 1 hf (by first | omega | rfl) ((fun j h1 h2 => by omega)) ((fun j h1 h2 => Or.inr (hh j (by omega) h2))) ((fun j h1 h2 => hh j (by omega) h2)) (by omega) _ _ _ w (lv_sub hl [2, 1, 0] rfl)
/-- the world with its oldest history state's object behind the others -/
theorem hst_rot {X : Ev} {H : Heap} {locs : List Loc} {cI : ClassId} {st : Int → SD} {c n x a : va_W} (hc : ∃ c0 c1 c2 c3 c4 c5, c = [c0, c1, c2, c3, c4, c5]) (hn : ∃ c0 c1 c2, n = [c0, c1, c2]) (hx : ∃ c0 c1 c2, x = [c0, c1, c2]) (ha : ∃ c0 c1 c2, a = [c0, c1, c2]) (w : Wd X (c ++ n ++ x ++ a ++ hst cI st) H locs) : Wd X (c ++ n ++ x ++ a ++ hst cI (rot st)) H locs := by
  obtain ⟨c0, c1, c2, c3, c4, c5, rfl⟩ := hc
  obtain ⟨n0, n1, n2, rfl⟩ := hn
  obtain ⟨x0, x1, x2, rfl⟩ := hx
  obtain ⟨a0, a1, a2, rfl⟩ := ha
  exact w.sub [0, 1, 2, 3, 4, 5, 6, 7, 8, 9, 10, 11, 12, 13, 14, 18, 19, 20, 21, 22, 23, 24, 25, 26, 27, 28, 29, 30, 31, 32, 15, 16, 17, 33, 34, 35, 36, 37, 38] rfl (by decide)
/-- now goes into the history at j, next becomes now, the object that was there becomes next -/
theorem hst_swap {X : Ev} {H : Heap} {locs : List Loc} {cI : ClassId} {st : Int → SD} {c a : va_W} {d1 d2 : SD} {j : Int} (hj : 0 ≤ j ∧ j < 6) (hc : ∃ c0 c1 c2 c3 c4 c5, c = [c0, c1, c2, c3, c4, c5]) (ha : ∃ c0 c1 c2, a = [c0, c1, c2]) (w : Wd X (c ++ swd cI d1 ++ swd cI d2 ++ a ++ hst cI st) H locs) : Wd X (c ++ swd cI d2 ++ swd cI (st j) ++ a ++ hst cI (up st j d1)) H locs := by
  obtain ⟨c0, c1, c2, c3, c4, c5, rfl⟩ := hc
  obtain ⟨a0, a1, a2, rfl⟩ := ha
  have e : ∀ i : Int, ¬ i = j → up st j d1 i = st i := fun i hi => up_ne st d1 hi
  have e2 : up st j d1 j = d1 := up_eq st j d1
  rcases (by omega : j = 0 ∨ j = 1 ∨ j = 2 ∨ j = 3 ∨ j = 4 ∨ j = 5) with rfl | rfl | rfl | rfl | rfl | rfl
  · rw [show hst cI (up st 0 d1) = swd cI d1 ++ (swd cI (st 1) ++ (swd cI (st 2) ++ (swd cI (st 3) ++ (swd cI (st 4) ++ (swd cI (st 5) ++ (swd cI (st 6) ++ swd cI (st 7))))))) by unfold hst; rw [e2, e 1 (by omega), e 2 (by omega), e 3 (by omega), e 4 (by omega), e 5 (by omega), e 6 (by omega), e 7 (by omega)]]
    exact w.sub [0, 1, 2, 3, 4, 5, 9, 10, 11, 15, 16, 17, 12, 13, 14, 6, 7, 8, 18, 19, 20, 21, 22, 23, 24, 25, 26, 27, 28, 29, 30, 31, 32, 33, 34, 35, 36, 37, 38] rfl (by decide)
  · rw [show hst cI (up st 1 d1) = swd cI (st 0) ++ (swd cI d1 ++ (swd cI (st 2) ++ (swd cI (st 3) ++ (swd cI (st 4) ++ (swd cI (st 5) ++ (swd cI (st 6) ++ swd cI (st 7))))))) by unfold hst; rw [e2, e 0 (by omega), e 2 (by omega), e 3 (by omega), e 4 (by omega), e 5 (by omega), e 6 (by omega), e 7 (by omega)]]
    exact w.sub [0, 1, 2, 3, 4, 5, 9, 10, 11, 18, 19, 20, 12, 13, 14, 15, 16, 17, 6, 7, 8, 21, 22, 23, 24, 25, 26, 27, 28, 29, 30, 31, 32, 33, 34, 35, 36, 37, 38] rfl (by decide)
  · rw [show hst cI (up st 2 d1) = swd cI (st 0) ++ (swd cI (st 1) ++ (swd cI d1 ++ (swd cI (st 3) ++ (swd cI (st 4) ++ (swd cI (st 5) ++ (swd cI (st 6) ++ swd cI (st 7))))))) by unfold hst; rw [e2, e 0 (by omega), e 1 (by omega), e 3 (by omega), e 4 (by omega), e 5 (by omega), e 6 (by omega), e 7 (by omega)]]
    exact w.sub [0, 1, 2, 3, 4, 5, 9, 10, 11, 21, 22, 23, 12, 13, 14, 15, 16, 17, 18, 19, 20, 6, 7, 8, 24, 25, 26, 27, 28, 29, 30, 31, 32, 33, 34, 35, 36, 37, 38] rfl (by decide)
  · rw [show hst cI (up st 3 d1) = swd cI (st 0) ++ (swd cI (st 1) ++ (swd cI (st 2) ++ (swd cI d1 ++ (swd cI (st 4) ++ (swd cI (st 5) ++ (swd cI (st 6) ++ swd cI (st 7))))))) by unfold hst; rw [e2, e 0 (by omega), e 1 (by omega), e 2 (by omega), e 4 (by omega), e 5 (by omega), e 6 (by omega), e 7 (by omega)]]
    exact w.sub [0, 1, 2, 3, 4, 5, 9, 10, 11, 24, 25, 26, 12, 13, 14, 15, 16, 17, 18, 19, 20, 21, 22, 23, 6, 7, 8, 27, 28, 29, 30, 31, 32, 33, 34, 35, 36, 37, 38] rfl (by decide)
  · rw [show hst cI (up st 4 d1) = swd cI (st 0) ++ (swd cI (st 1) ++ (swd cI (st 2) ++ (swd cI (st 3) ++ (swd cI d1 ++ (swd cI (st 5) ++ (swd cI (st 6) ++ swd cI (st 7))))))) by unfold hst; rw [e2, e 0 (by omega), e 1 (by omega), e 2 (by omega), e 3 (by omega), e 5 (by omega), e 6 (by omega), e 7 (by omega)]]
    exact w.sub [0, 1, 2, 3, 4, 5, 9, 10, 11, 27, 28, 29, 12, 13, 14, 15, 16, 17, 18, 19, 20, 21, 22, 23, 24, 25, 26, 6, 7, 8, 30, 31, 32, 33, 34, 35, 36, 37, 38] rfl (by decide)
  · rw [show hst cI (up st 5 d1) = swd cI (st 0) ++ (swd cI (st 1) ++ (swd cI (st 2) ++ (swd cI (st 3) ++ (swd cI (st 4) ++ (swd cI d1 ++ (swd cI (st 6) ++ swd cI (st 7))))))) by unfold hst; rw [e2, e 0 (by omega), e 1 (by omega), e 2 (by omega), e 3 (by omega), e 4 (by omega), e 6 (by omega), e 7 (by omega)]]
    exact w.sub [0, 1, 2, 3, 4, 5, 9, 10, 11, 30, 31, 32, 12, 13, 14, 15, 16, 17, 18, 19, 20, 21, 22, 23, 24, 25, 26, 27, 28, 29, 6, 7, 8, 33, 34, 35, 36, 37, 38] rfl (by decide)
theorem acc_end {cI cO cZ : ClassId} {o h sl us pd co : Nat} {hf sf : Int → Nat} {rcd m : Int} {uf T : Int → Int} {q a b : Nat} {sg ln : Int → Int} {r N ov lc sd : Int} {q2 a2 b2 : Nat} {sg2 ln2 : Int → Int} {r2 pl2 ov2 lc2 sd2 : Int} {q3 a3 b3 : Nat} {sg3 ln3 : Int → Int} {r3 pl3 ov3 lc3 sd3 : Int} {st : Int → SD} {n : Int} {v v2 : Int → Int} {hist slot : Int → Rw}
    (hR : RwOk lc sd r sg ln N v) (hC : DC hf sf st hist rcd slot uf T m) (hfi : fits_ n v2 ∧ pl2 = n ∧ Ok r2 sg2 ln2 n v2 ∧ n ≤ 3000 ∧ r2 ≤ 50) (hl2 : (0 ≤ lc2 ∧ lc2 ≤ 2) ∧ (sd2 = 0 ∨ sd2 = 1)) (hrec : rcd < 6) :
    ∃ A' : AS, CW cI cO cZ o A' (dcore cI cO cZ o h sl us pd co q2 (st rcd).1 q3 (up hf rcd q) (rcd + 1) sf uf T m ++ swd cI (q2, a2, b2, sg2, ln2, r2, pl2, ov2, lc2, sd2) ++ swd cI (st rcd) ++ sw cI q3 a3 b3 sg3 ln3 r3 pl3 ov3 lc3 sd3 ++ hst cI (up st rcd (q, a, b, sg, ln, r, N, ov, lc, sd))) ∧ Pushed ((lc, sd, r, sg, ln, N, v), hist, rcd, slot, uf, T, m) A' lc2 sd2 n v2 ∧ A' = ((lc2, sd2, r2, sg2, ln2, n, v2), up hist rcd (lc, sd, r, sg, ln, N, v), rcd + 1, slot, uf, T, m) := by
  obtain ⟨h1, h2, h3, h4, h5⟩ := hfi
  subst h2
  have hR2 : RwOk lc2 sd2 r2 sg2 ln2 pl2 v2 := ⟨h3, h5, h4, hl2.1, hl2.2⟩
  obtain ⟨d1, d2, d3, d4, d5, d6, d7⟩ := hC
  refine ⟨((lc2, sd2, r2, sg2, ln2, pl2, v2), up hist rcd (lc, sd, r, sg, ln, N, v), rcd + 1, slot, uf, T, m), ⟨hR2, h, sl, us, pd, co, up hf rcd q, sf, q2, a2, b2, ov2, (st rcd).1, (st rcd).2.1, (st rcd).2.2.1, (st rcd).2.2.2.1, (st rcd).2.2.2.2.1, (st rcd).2.2.2.2.2.1, (st rcd).2.2.2.2.2.2.1, (st rcd).2.2.2.2.2.2.2.1, (st rcd).2.2.2.2.2.2.2.2.1, (st rcd).2.2.2.2.2.2.2.2.2, q3, a3, b3, sg3, ln3, r3, pl3, ov3, lc3, sd3, up st rcd (q, a, b, sg, ln, r, N, ov, lc, sd), rfl, fun i i1 i2 => ?_, fun i i1 i2 => ?_, by omega, fun i i1 i2 => ?_, fun i i1 i2 => ?_, d6, d7⟩, ⟨rfl, rfl, rfl, rfl, hR2, rfl, rfl, rfl, rfl, Or.inl ⟨hrec, rfl, fun i i1 i2 => up_ne _ _ (by omega), up_eq _ _ _⟩⟩, rfl⟩
  · by_cases e : i = rcd
    · subst e; rw [up_eq, up_eq]
    · rw [up_ne _ _ e, up_ne _ _ e]; exact d1 i i1 i2
  · rw [up_ne _ _ (by omega)]; exact d2 i i1 i2
  · by_cases e : i = rcd
    · subst e; rw [up_eq, up_eq]; exact ⟨rfl, rfl, rfl, rfl, rfl, rfl, hR⟩
    · rw [up_ne _ _ e, up_ne _ _ e]; exact d4 i i1 (by omega)
  · rw [up_ne _ _ (by omega)]; exact d5 i i1 i2
theorem rot_DC {hf sf hf' : Int → Nat} {rcd m : Int} {uf T : Int → Int} {st : Int → SD} {hist slot : Int → Rw} (hC : DC hf sf st hist rcd slot uf T m) (hrec : rcd = 6) (hh : ∀ i, 0 ≤ i → i < 6 → hf' i = (rot st i).1) : DC hf' sf (rot st) (fun i => hist (i + 1)) 5 slot uf T m := by
  obtain ⟨d1, d2, d3, d4, d5, d6, d7⟩ := hC
  refine ⟨hh, fun i i1 i2 => ?_, by omega, fun i i1 i2 => ?_, fun i i1 i2 => ?_, d6, d7⟩
  · unfold rot; rw [if_neg (by omega), if_neg (by omega)]; exact d2 i i1 i2
  · unfold rot; rw [if_pos (by omega)]; exact d4 (i + 1) (by omega) (by omega)
  · unfold rot; rw [if_neg (by omega), if_neg (by omega)]; exact d5 i i1 i2
theorem d_D_accepted_0 : decode b_D_accepted 0 = .ok (.aload_n 0, 1) := by decide +kernel
theorem d_D_accepted_1 : decode b_D_accepted 1 = .ok (.getfield 16, 3) := by decide +kernel
theorem d_D_accepted_4 : decode b_D_accepted 4 = .ok (.getfield 170, 3) := by decide +kernel
theorem d_D_accepted_7 : decode b_D_accepted 7 = .ok (.ifCond .eq 6, 3) := by decide +kernel
theorem d_D_accepted_10 : decode b_D_accepted 10 = .ok (.bipush (-4), 2) := by decide +kernel
theorem d_D_accepted_12 : decode b_D_accepted 12 = .ok (.ireturn, 1) := by decide +kernel
theorem d_D_accepted_13 : decode b_D_accepted 13 = .ok (.aload_n 0, 1) := by decide +kernel
theorem d_D_accepted_14 : decode b_D_accepted 14 = .ok (.getfield 26, 3) := by decide +kernel
theorem d_D_accepted_17 : decode b_D_accepted 17 = .ok (.bipush 6, 2) := by decide +kernel
theorem d_D_accepted_19 : decode b_D_accepted 19 = .ok (.if_icmp .lt 7, 3) := by decide +kernel
theorem d_D_accepted_22 : decode b_D_accepted 22 = .ok (.aload_n 0, 1) := by decide +kernel
theorem d_D_accepted_23 : decode b_D_accepted 23 = .ok (.invokevirtual 174, 3) := by decide +kernel
theorem d_D_accepted_26 : decode b_D_accepted 26 = .ok (.aload_n 0, 1) := by decide +kernel
theorem d_D_accepted_27 : decode b_D_accepted 27 = .ok (.getfield 22, 3) := by decide +kernel
theorem d_D_accepted_30 : decode b_D_accepted 30 = .ok (.aload_n 0, 1) := by decide +kernel
theorem d_D_accepted_31 : decode b_D_accepted 31 = .ok (.getfield 26, 3) := by decide +kernel
theorem d_D_accepted_34 : decode b_D_accepted 34 = .ok (.aaload, 1) := by decide +kernel
theorem d_D_accepted_35 : decode b_D_accepted 35 = .ok (.astore_n 2, 1) := by decide +kernel
theorem d_D_accepted_36 : decode b_D_accepted 36 = .ok (.aload_n 0, 1) := by decide +kernel
theorem d_D_accepted_37 : decode b_D_accepted 37 = .ok (.getfield 22, 3) := by decide +kernel
theorem d_D_accepted_40 : decode b_D_accepted 40 = .ok (.aload_n 0, 1) := by decide +kernel
theorem d_D_accepted_41 : decode b_D_accepted 41 = .ok (.getfield 26, 3) := by decide +kernel
theorem d_D_accepted_44 : decode b_D_accepted 44 = .ok (.aload_n 0, 1) := by decide +kernel
theorem d_D_accepted_45 : decode b_D_accepted 45 = .ok (.getfield 10, 3) := by decide +kernel
theorem d_D_accepted_48 : decode b_D_accepted 48 = .ok (.aastore, 1) := by decide +kernel
theorem d_D_accepted_49 : decode b_D_accepted 49 = .ok (.aload_n 0, 1) := by decide +kernel
theorem d_D_accepted_50 : decode b_D_accepted 50 = .ok (.aload_n 0, 1) := by decide +kernel
theorem d_D_accepted_51 : decode b_D_accepted 51 = .ok (.getfield 16, 3) := by decide +kernel
theorem d_D_accepted_54 : decode b_D_accepted 54 = .ok (.putfield 10, 3) := by decide +kernel
theorem d_D_accepted_57 : decode b_D_accepted 57 = .ok (.aload_n 0, 1) := by decide +kernel
theorem d_D_accepted_58 : decode b_D_accepted 58 = .ok (.aload_n 2, 1) := by decide +kernel
theorem d_D_accepted_59 : decode b_D_accepted 59 = .ok (.putfield 16, 3) := by decide +kernel
theorem d_D_accepted_62 : decode b_D_accepted 62 = .ok (.aload_n 0, 1) := by decide +kernel
theorem d_D_accepted_63 : decode b_D_accepted 63 = .ok (.dup, 1) := by decide +kernel
theorem d_D_accepted_64 : decode b_D_accepted 64 = .ok (.getfield 26, 3) := by decide +kernel
theorem d_D_accepted_67 : decode b_D_accepted 67 = .ok (.iconst 1, 1) := by decide +kernel
theorem d_D_accepted_68 : decode b_D_accepted 68 = .ok (.iadd, 1) := by decide +kernel
theorem d_D_accepted_69 : decode b_D_accepted 69 = .ok (.putfield 26, 3) := by decide +kernel
theorem d_D_accepted_72 : decode b_D_accepted 72 = .ok (.iload_n 1, 1) := by decide +kernel
theorem d_D_accepted_73 : decode b_D_accepted 73 = .ok (.ireturn, 1) := by decide +kernel
set_option maxHeartbeats 4000000 in
set_option maxRecDepth 20000 in
theorem c_D_accepted {l : Launch} {G : va_G} {tys : List (ClassId × FieldType)} {cI cO cZ : ClassId} (hT : TY tys cI cO cZ) (o h sl us pd co : Nat) (hf sf : Int → Nat) (rcd m : Int) (uf T : Int → Int) (q a b : Nat) (sg ln : Int → Int) (r N ov lc sd : Int) (q2 a2 b2 : Nat) (sg2 ln2 : Int → Int) (r2 pl2 ov2 lc2 sd2 : Int) (q3 a3 b3 : Nat) (sg3 ln3 : Int → Int) (r3 pl3 ov3 lc3 sd3 : Int) (st : Int → SD) (ans n : Int) (v v2 : Int → Int) (hist slot : Int → Rw) (hR : RwOk lc sd r sg ln N v) (hC : DC hf sf st hist rcd slot uf T m) (hV : RV r2 pl2 ov2 sg2 ln2 n v2) (hl2 : (0 ≤ lc2 ∧ lc2 ≤ 2) ∧ (sd2 = 0 ∨ sd2 = 1)) : CTI l G tys y_D_accepted b_D_accepted 3 .int 1 22 [.ref o, .int (iI ans)] (dcore cI cO cZ o h sl us pd co q q2 q3 hf rcd sf uf T m ++ sw cI q a b sg ln r N ov lc sd ++ sw cI q2 a2 b2 sg2 ln2 r2 pl2 ov2 lc2 sd2 ++ sw cI q3 a3 b3 sg3 ln3 r3 pl3 ov3 lc3 sd3 ++ hst cI st) (fun z u => (¬ fits_ n v2 ∧ z = -4 ∧ u = dcore cI cO cZ o h sl us pd co q q2 q3 hf rcd sf uf T m ++ sw cI q a b sg ln r N ov lc sd ++ sw cI q2 a2 b2 sg2 ln2 r2 pl2 ov2 lc2 sd2 ++ sw cI q3 a3 b3 sg3 ln3 r3 pl3 ov3 lc3 sd3 ++ hst cI st) ∨ (fits_ n v2 ∧ z = ans ∧ ∃ A' : AS, CW cI cO cZ o A' u ∧ Pushed ((lc, sd, r, sg, ln, N, v), hist, rcd, slot, uf, T, m) A' lc2 sd2 n v2)) := by
  refine mkI (by decide) (Nat.le_of_ble_eq_true rfl) ?_
  rintro X rfl rfl rfl hRm C kret H ls w hl
  have hl : lv_has ls 3 [(0, .ref o), (1, .int (iI ans))] := hl
  have w : Wd X (dcore cI cO cZ o h sl us pd co q q2 q3 hf rcd sf uf T m ++ sw cI q a b sg ln r N ov lc sd ++ sw cI q2 a2 b2 sg2 ln2 r2 pl2 ov2 lc2 sd2 ++ sw cI q3 a3 b3 sg3 ln3 r3 pl3 ov3 lc3 sd3 ++ hst cI st) H [] := w
  generalize ([] : List Loc) = locs at w ⊢
  have hov := hV.ov01
  have hhf := hC.1
  have hrec := hC.2.2.1
  refine r_aload_n (pc := 0) C d_D_accepted_0 rfl (lv_at hl 0 rfl) ?_
  refine r_get (pc := 1) (v := .ref q2) C w i_D rfl 0 rfl 1 (by decide) fl_D_16 rfl rfl d_D_accepted_1 ?_
  refine r_get (pc := 4) (v := .int (iI ov2)) C w i_S rfl 9 rfl 4 (by decide) fl_D_170 rfl rfl d_D_accepted_4 ?_
  refine r_if_eq (pc := 7) (tgt := 13) C (by omega) d_D_accepted_7 (by decide) (fun c_7 => ?_) (fun c_7 => ?_)
  · skip
    have hfi : fits_ n v2 ∧ pl2 = n ∧ Ok r2 sg2 ln2 n v2 ∧ n ≤ 3000 ∧ r2 ≤ 50 := by
      rcases hov with ⟨h1, h2, h3, h4, h5⟩ | ⟨h1, -⟩
      · exact ⟨⟨h4, by rw [h3.rcE]; exact h5⟩, h2, h3, h4, h5⟩
      · omega
    clear hov
    refine r_aload_n (pc := 13) C d_D_accepted_13 rfl (lv_at hl 0 rfl) ?_
    refine r_get (pc := 14) (v := .int (iI rcd)) C w i_D rfl 0 rfl 4 (by decide) fl_D_26 rfl rfl d_D_accepted_14 ?_
    refine r_bipush (pc := 17) C d_D_accepted_17 (by decide) ?_
    refine r_icmp_lt (pc := 19) (tgt := 26) C (by omega) d_D_accepted_19 (by decide) (fun c_19 => ?_) (fun c_19 => ?_)
    · skip
      refine r_aload_n (pc := 26) C d_D_accepted_26 rfl (lv_at hl 0 rfl) ?_
      refine r_get (pc := 27) (v := .ref h) C w i_D rfl 0 rfl 3 (by decide) fl_D_22 rfl rfl d_D_accepted_27 ?_
      refine r_aload_n (pc := 30) C d_D_accepted_30 rfl (lv_at hl 0 rfl) ?_
      refine r_get (pc := 31) (v := .int (iI rcd)) C w i_D rfl 0 rfl 4 (by decide) fl_D_26 rfl rfl d_D_accepted_31 ?_
      refine r_aald (pc := 34) (f := hf) (i := rcd) C w 1 1 rfl hT.2.1 (by omega) d_D_accepted_34 ?_
      refine r_astore_n (pc := 35) (lv' := [(2, .ref (hf rcd)), (0, .ref o), (1, .int (iI ans))]) C d_D_accepted_35 rfl hl (by decide) rfl (fun ls hl => ?_)
      refine r_aload_n (pc := 36) C d_D_accepted_36 rfl (lv_at hl 1 rfl) ?_
      refine r_get (pc := 37) (v := .ref h) C w i_D rfl 0 rfl 3 (by decide) fl_D_22 rfl rfl d_D_accepted_37 ?_
      refine r_aload_n (pc := 40) C d_D_accepted_40 rfl (lv_at hl 1 rfl) ?_
      refine r_get (pc := 41) (v := .int (iI rcd)) C w i_D rfl 0 rfl 4 (by decide) fl_D_26 rfl rfl d_D_accepted_41 ?_
      refine r_aload_n (pc := 44) C d_D_accepted_44 rfl (lv_at hl 1 rfl) ?_
      refine r_get (pc := 45) (v := .ref q) C w i_D rfl 0 rfl 0 (by decide) fl_D_10 rfl rfl d_D_accepted_45 ?_
      obtain ⟨qk_48, vs_48, hv_48⟩ : ∃ (qk : Nat) (vs : List Value), (dcore cI cO cZ o h sl us pd co q q2 q3 hf rcd sf uf T m ++ sw cI q a b sg ln r N ov lc sd ++ sw cI q2 a2 b2 sg2 ln2 r2 pl2 ov2 lc2 sd2 ++ sw cI q3 a3 b3 sg3 ln3 r3 pl3 ov3 lc3 sd3 ++ hst cI st)[qk]? = some (q, .inr (1, vs)) := ⟨6, _, rfl⟩
      refine r_aast (pc := 48) (f := hf) (i := rcd) (v := q) (r := (R_S, F_S, 7)) (ws' := dcore cI cO cZ o h sl us pd co q q2 q3 (up hf rcd q) rcd sf uf T m ++ sw cI q a b sg ln r N ov lc sd ++ sw cI q2 a2 b2 sg2 ln2 r2 pl2 ov2 lc2 sd2 ++ sw cI q3 a3 b3 sg3 ln3 r3 pl3 ov3 lc3 sd3 ++ hst cI st) C w 1 1 qk_48 1 rfl hT.2.1 hv_48 rfl (by omega) rfl d_D_accepted_48 (fun H locs w => ?_)
      refine r_aload_n (pc := 49) C d_D_accepted_49 rfl (lv_at hl 1 rfl) ?_
      refine r_aload_n (pc := 50) C d_D_accepted_50 rfl (lv_at hl 1 rfl) ?_
      refine r_get (pc := 51) (v := .ref q2) C w i_D rfl 0 rfl 1 (by decide) fl_D_16 rfl rfl d_D_accepted_51 ?_
      refine r_put (pc := 54) (ws' := dcore cI cO cZ o h sl us pd co q2 q2 q3 (up hf rcd q) rcd sf uf T m ++ sw cI q a b sg ln r N ov lc sd ++ sw cI q2 a2 b2 sg2 ln2 r2 pl2 ov2 lc2 sd2 ++ sw cI q3 a3 b3 sg3 ln3 r3 pl3 ov3 lc3 sd3 ++ hst cI st) C w i_D t_D t_D_ok n_D rfl 0 rfl 0 (by decide) fl_D_10 rfl rfl rfl rfl (Nat.le_of_ble_eq_true rfl) rfl d_D_accepted_54 (fun H locs w => ?_)
      refine r_aload_n (pc := 57) C d_D_accepted_57 rfl (lv_at hl 1 rfl) ?_
      refine r_aload_n (pc := 58) C d_D_accepted_58 rfl (lv_at hl 0 rfl) ?_
      refine r_put (pc := 59) (ws' := dcore cI cO cZ o h sl us pd co q2 (hf rcd) q3 (up hf rcd q) rcd sf uf T m ++ sw cI q a b sg ln r N ov lc sd ++ sw cI q2 a2 b2 sg2 ln2 r2 pl2 ov2 lc2 sd2 ++ sw cI q3 a3 b3 sg3 ln3 r3 pl3 ov3 lc3 sd3 ++ hst cI st) C w i_D t_D t_D_ok n_D rfl 0 rfl 1 (by decide) fl_D_16 rfl rfl rfl rfl (Nat.le_of_ble_eq_true rfl) rfl d_D_accepted_59 (fun H locs w => ?_)
      refine r_aload_n (pc := 62) C d_D_accepted_62 rfl (lv_at hl 1 rfl) ?_
      refine r_dup (pc := 63) C d_D_accepted_63 rfl ?_
      refine r_get (pc := 64) (v := .int (iI rcd)) C w i_D rfl 0 rfl 4 (by decide) fl_D_26 rfl rfl d_D_accepted_64 ?_
      refine r_iconst (pc := 67) C d_D_accepted_67 ?_
      refine r_iadd (pc := 68) C d_D_accepted_68 ?_
      refine r_put (pc := 69) (ws' := dcore cI cO cZ o h sl us pd co q2 (hf rcd) q3 (up hf rcd q) (rcd + 1) sf uf T m ++ sw cI q a b sg ln r N ov lc sd ++ sw cI q2 a2 b2 sg2 ln2 r2 pl2 ov2 lc2 sd2 ++ sw cI q3 a3 b3 sg3 ln3 r3 pl3 ov3 lc3 sd3 ++ hst cI st) C w i_D t_D t_D_ok n_D rfl 0 rfl 4 (by decide) fl_D_26 rfl rfl rfl rfl (Nat.le_of_ble_eq_true rfl) rfl d_D_accepted_69 (fun H locs w => ?_)
      have hsp := hhf rcd (by omega) (by omega)
      have hsw := hst_swap (cI := cI) (st := st) (c := dcore cI cO cZ o h sl us pd co q2 (hf rcd) q3 (up hf rcd q) (rcd + 1) sf uf T m) (a := sw cI q3 a3 b3 sg3 ln3 r3 pl3 ov3 lc3 sd3) (d1 := (q, a, b, sg, ln, r, N, ov, lc, sd)) (d2 := (q2, a2, b2, sg2, ln2, r2, pl2, ov2, lc2, sd2)) (j := rcd) (by omega) ⟨_, _, _, _, _, _, rfl⟩ ⟨_, _, _, rfl⟩ w
      rw [hsp] at hsw
      clear w
      have w := hsw
      refine r_iload_n (pc := 72) C d_D_accepted_72 rfl (lv_at hl 2 rfl) ?_
      exact kret _ _ _ _ ans _ d_D_accepted_73 w (by have h9 := acc_end (cI := cI) (cO := cO) (cZ := cZ) (o := o) (h := h) (sl := sl) (us := us) (pd := pd) (co := co) (q := q) (a := a) (b := b) (ov := ov) (q2 := q2) (a2 := a2) (b2 := b2) (ov2 := ov2) (q3 := q3) (a3 := a3) (b3 := b3) (sg3 := sg3) (ln3 := ln3) (r3 := r3) (pl3 := pl3) (ov3 := ov3) (lc3 := lc3) (sd3 := sd3) hR hC hfi hl2 (by omega); obtain ⟨A, h1, h2, -⟩ := h9; exact Or.inr ⟨hfi.1, rfl, A, h1, h2⟩)
    · skip
      have hr6 : rcd = 6 := by omega
      refine r_aload_n (pc := 22) C d_D_accepted_22 rfl (lv_at hl 0 rfl) ?_
      refine r_callVV (pc := 23) (As := []) (rest := []) (wr := []) C w (c_D_dropOldest hT o h sl us pd co q q2 q3 hf sf rcd m uf T (sw cI q a b sg ln r N ov lc sd ++ sw cI q2 a2 b2 sg2 ln2 r2 pl2 ov2 lc2 sd2 ++ sw cI q3 a3 b3 sg3 ln3 r3 pl3 ov3 lc3 sd3) st hC.1) ml_D_174 im_D_dropOldest se_D_dropOldest ini_D cd_D_dropOldest hd_D_dropOldest rfl (by rw [hRm]; exact ⟨⟨Nat.le_of_ble_eq_true rfl, Nat.le_of_ble_eq_true rfl⟩, Nat.le_of_ble_eq_true rfl, Nat.le_of_ble_eq_true rfl⟩) hl.1 [0, 1, 2, 3, 4, 5, 6, 7, 8, 9, 10, 11, 12, 13, 14, 15, 16, 17, 18, 19, 20, 21, 22, 23, 24, 25, 26, 27, 28, 29, 30, 31, 32, 33, 34, 35, 36, 37, 38] [] ⟨rfl, rfl, by decide, by decide, by decide⟩ 0 rfl rfl rfl (Nat.le_of_ble_eq_true rfl) d_D_accepted_23 (fun u_23 H locs hz_23 w => ?_)
      obtain ⟨hf_23, rfl, hhf_23⟩ := hz_23
      have w : Wd X (dcore cI cO cZ o h sl us pd co q q2 q3 hf_23 5 sf uf T m ++ sw cI q a b sg ln r N ov lc sd ++ sw cI q2 a2 b2 sg2 ln2 r2 pl2 ov2 lc2 sd2 ++ sw cI q3 a3 b3 sg3 ln3 r3 pl3 ov3 lc3 sd3 ++ hst cI st) H locs := w
      have w : Wd X (dcore cI cO cZ o h sl us pd co q q2 q3 hf_23 5 sf uf T m ++ sw cI q a b sg ln r N ov lc sd ++ sw cI q2 a2 b2 sg2 ln2 r2 pl2 ov2 lc2 sd2 ++ sw cI q3 a3 b3 sg3 ln3 r3 pl3 ov3 lc3 sd3 ++ hst cI (rot st)) H locs := hst_rot ⟨_, _, _, _, _, _, rfl⟩ ⟨_, _, _, rfl⟩ ⟨_, _, _, rfl⟩ ⟨_, _, _, rfl⟩ w
      refine r_aload_n (pc := 26) C d_D_accepted_26 rfl (lv_at hl 0 rfl) ?_
      refine r_get (pc := 27) (v := .ref h) C w i_D rfl 0 rfl 3 (by decide) fl_D_22 rfl rfl d_D_accepted_27 ?_
      refine r_aload_n (pc := 30) C d_D_accepted_30 rfl (lv_at hl 0 rfl) ?_
      refine r_get (pc := 31) (v := .int (iI 5)) C w i_D rfl 0 rfl 4 (by decide) fl_D_26 rfl rfl d_D_accepted_31 ?_
      refine r_aald (pc := 34) (f := hf_23) (i := 5) C w 1 1 rfl hT.2.1 (by omega) d_D_accepted_34 ?_
      refine r_astore_n (pc := 35) (lv' := [(2, .ref (hf_23 5)), (0, .ref o), (1, .int (iI ans))]) C d_D_accepted_35 rfl hl (by decide) rfl (fun ls hl => ?_)
      refine r_aload_n (pc := 36) C d_D_accepted_36 rfl (lv_at hl 1 rfl) ?_
      refine r_get (pc := 37) (v := .ref h) C w i_D rfl 0 rfl 3 (by decide) fl_D_22 rfl rfl d_D_accepted_37 ?_
      refine r_aload_n (pc := 40) C d_D_accepted_40 rfl (lv_at hl 1 rfl) ?_
      refine r_get (pc := 41) (v := .int (iI 5)) C w i_D rfl 0 rfl 4 (by decide) fl_D_26 rfl rfl d_D_accepted_41 ?_
      refine r_aload_n (pc := 44) C d_D_accepted_44 rfl (lv_at hl 1 rfl) ?_
      refine r_get (pc := 45) (v := .ref q) C w i_D rfl 0 rfl 0 (by decide) fl_D_10 rfl rfl d_D_accepted_45 ?_
      obtain ⟨qk_48, vs_48, hv_48⟩ : ∃ (qk : Nat) (vs : List Value), (dcore cI cO cZ o h sl us pd co q q2 q3 hf_23 5 sf uf T m ++ sw cI q a b sg ln r N ov lc sd ++ sw cI q2 a2 b2 sg2 ln2 r2 pl2 ov2 lc2 sd2 ++ sw cI q3 a3 b3 sg3 ln3 r3 pl3 ov3 lc3 sd3 ++ hst cI (rot st))[qk]? = some (q, .inr (1, vs)) := ⟨6, _, rfl⟩
      refine r_aast (pc := 48) (f := hf_23) (i := 5) (v := q) (r := (R_S, F_S, 7)) (ws' := dcore cI cO cZ o h sl us pd co q q2 q3 (up hf_23 5 q) 5 sf uf T m ++ sw cI q a b sg ln r N ov lc sd ++ sw cI q2 a2 b2 sg2 ln2 r2 pl2 ov2 lc2 sd2 ++ sw cI q3 a3 b3 sg3 ln3 r3 pl3 ov3 lc3 sd3 ++ hst cI (rot st)) C w 1 1 qk_48 1 rfl hT.2.1 hv_48 rfl (by omega) rfl d_D_accepted_48 (fun H locs w => ?_)
      refine r_aload_n (pc := 49) C d_D_accepted_49 rfl (lv_at hl 1 rfl) ?_
      refine r_aload_n (pc := 50) C d_D_accepted_50 rfl (lv_at hl 1 rfl) ?_
      refine r_get (pc := 51) (v := .ref q2) C w i_D rfl 0 rfl 1 (by decide) fl_D_16 rfl rfl d_D_accepted_51 ?_
      refine r_put (pc := 54) (ws' := dcore cI cO cZ o h sl us pd co q2 q2 q3 (up hf_23 5 q) 5 sf uf T m ++ sw cI q a b sg ln r N ov lc sd ++ sw cI q2 a2 b2 sg2 ln2 r2 pl2 ov2 lc2 sd2 ++ sw cI q3 a3 b3 sg3 ln3 r3 pl3 ov3 lc3 sd3 ++ hst cI (rot st)) C w i_D t_D t_D_ok n_D rfl 0 rfl 0 (by decide) fl_D_10 rfl rfl rfl rfl (Nat.le_of_ble_eq_true rfl) rfl d_D_accepted_54 (fun H locs w => ?_)
      refine r_aload_n (pc := 57) C d_D_accepted_57 rfl (lv_at hl 1 rfl) ?_
      refine r_aload_n (pc := 58) C d_D_accepted_58 rfl (lv_at hl 0 rfl) ?_
      refine r_put (pc := 59) (ws' := dcore cI cO cZ o h sl us pd co q2 (hf_23 5) q3 (up hf_23 5 q) 5 sf uf T m ++ sw cI q a b sg ln r N ov lc sd ++ sw cI q2 a2 b2 sg2 ln2 r2 pl2 ov2 lc2 sd2 ++ sw cI q3 a3 b3 sg3 ln3 r3 pl3 ov3 lc3 sd3 ++ hst cI (rot st)) C w i_D t_D t_D_ok n_D rfl 0 rfl 1 (by decide) fl_D_16 rfl rfl rfl rfl (Nat.le_of_ble_eq_true rfl) rfl d_D_accepted_59 (fun H locs w => ?_)
      refine r_aload_n (pc := 62) C d_D_accepted_62 rfl (lv_at hl 1 rfl) ?_
      refine r_dup (pc := 63) C d_D_accepted_63 rfl ?_
      refine r_get (pc := 64) (v := .int (iI 5)) C w i_D rfl 0 rfl 4 (by decide) fl_D_26 rfl rfl d_D_accepted_64 ?_
      refine r_iconst (pc := 67) C d_D_accepted_67 ?_
      refine r_iadd (pc := 68) C d_D_accepted_68 ?_
      refine r_put (pc := 69) (ws' := dcore cI cO cZ o h sl us pd co q2 (hf_23 5) q3 (up hf_23 5 q) (5 + 1) sf uf T m ++ sw cI q a b sg ln r N ov lc sd ++ sw cI q2 a2 b2 sg2 ln2 r2 pl2 ov2 lc2 sd2 ++ sw cI q3 a3 b3 sg3 ln3 r3 pl3 ov3 lc3 sd3 ++ hst cI (rot st)) C w i_D t_D t_D_ok n_D rfl 0 rfl 4 (by decide) fl_D_26 rfl rfl rfl rfl (Nat.le_of_ble_eq_true rfl) rfl d_D_accepted_69 (fun H locs w => ?_)
      have hsp := hhf_23 5 (by omega) (by omega)
      have hsw := hst_swap (cI := cI) (st := (rot st)) (c := dcore cI cO cZ o h sl us pd co q2 (hf_23 5) q3 (up hf_23 5 q) (5 + 1) sf uf T m) (a := sw cI q3 a3 b3 sg3 ln3 r3 pl3 ov3 lc3 sd3) (d1 := (q, a, b, sg, ln, r, N, ov, lc, sd)) (d2 := (q2, a2, b2, sg2, ln2, r2, pl2, ov2, lc2, sd2)) (j := 5) (by omega) ⟨_, _, _, _, _, _, rfl⟩ ⟨_, _, _, rfl⟩ w
      rw [hsp] at hsw
      clear w
      have w := hsw
      refine r_iload_n (pc := 72) C d_D_accepted_72 rfl (lv_at hl 2 rfl) ?_
      exact kret _ _ _ _ ans _ d_D_accepted_73 w (by have h9 := acc_end (cI := cI) (cO := cO) (cZ := cZ) (o := o) (h := h) (sl := sl) (us := us) (pd := pd) (co := co) (q := q) (a := a) (b := b) (ov := ov) (q2 := q2) (a2 := a2) (b2 := b2) (ov2 := ov2) (q3 := q3) (a3 := a3) (b3 := b3) (sg3 := sg3) (ln3 := ln3) (r3 := r3) (pl3 := pl3) (ov3 := ov3) (lc3 := lc3) (sd3 := sd3) hR (rot_DC hC hr6 hhf_23) hfi hl2 (by omega); obtain ⟨A, h1, h2, h3⟩ := h9; subst h3; exact Or.inr ⟨hfi.1, rfl, _, h1, ⟨rfl, rfl, rfl, rfl, h2.2.2.2.2.1, rfl, rfl, rfl, rfl, Or.inr ⟨hr6, rfl, fun i i1 i2 => by rw [up_ne _ _ (by omega)], up_eq _ _ _⟩⟩⟩)
  · skip
    have hnf : ¬ fits_ n v2 := by
      rcases hov with ⟨h1, -⟩ | ⟨-, h2⟩
      · omega
      · exact h2
    refine r_bipush (pc := 10) C d_D_accepted_10 (by decide) ?_
    exact kret _ _ _ _ (-4) _ d_D_accepted_12 w (Or.inl ⟨hnf, rfl, rfl⟩)
theorem d_D_isPiece_0 : decode b_D_isPiece 0 = .ok (.iload_n 1, 1) := by decide +kernel
theorem d_D_isPiece_1 : decode b_D_isPiece 1 = .ok (.ifCond .lt 25, 3) := by decide +kernel
theorem d_D_isPiece_4 : decode b_D_isPiece 4 = .ok (.iload_n 2, 1) := by decide +kernel
theorem d_D_isPiece_5 : decode b_D_isPiece 5 = .ok (.iconst 1, 1) := by decide +kernel
theorem d_D_isPiece_6 : decode b_D_isPiece 6 = .ok (.if_icmp .lt 20, 3) := by decide +kernel
theorem d_D_isPiece_9 : decode b_D_isPiece 9 = .ok (.iload_n 2, 1) := by decide +kernel
theorem d_D_isPiece_10 : decode b_D_isPiece 10 = .ok (.aload_n 0, 1) := by decide +kernel
theorem d_D_isPiece_11 : decode b_D_isPiece 11 = .ok (.getfield 10, 3) := by decide +kernel
theorem d_D_isPiece_14 : decode b_D_isPiece 14 = .ok (.getfield 62, 3) := by decide +kernel
theorem d_D_isPiece_17 : decode b_D_isPiece 17 = .ok (.iload_n 1, 1) := by decide +kernel
theorem d_D_isPiece_18 : decode b_D_isPiece 18 = .ok (.isub, 1) := by decide +kernel
theorem d_D_isPiece_19 : decode b_D_isPiece 19 = .ok (.if_icmp .gt 7, 3) := by decide +kernel
theorem d_D_isPiece_22 : decode b_D_isPiece 22 = .ok (.iconst 1, 1) := by decide +kernel
theorem d_D_isPiece_23 : decode b_D_isPiece 23 = .ok (.goto 4, 3) := by decide +kernel
theorem d_D_isPiece_26 : decode b_D_isPiece 26 = .ok (.iconst 0, 1) := by decide +kernel
theorem d_D_isPiece_27 : decode b_D_isPiece 27 = .ok (.ireturn, 1) := by decide +kernel
set_option maxHeartbeats 4000000 in
set_option maxRecDepth 20000 in
theorem c_D_isPiece {l : Launch} {G : va_G} {tys : List (ClassId × FieldType)} {cI cO cZ : ClassId} (hT : TY tys cI cO cZ) (o h sl us pd co : Nat) (hf sf : Int → Nat) (rcd m : Int) (uf T : Int → Int) (q a b : Nat) (sg ln : Int → Int) (r N ov lc sd : Int) (q2 a2 b2 : Nat) (sg2 ln2 : Int → Int) (r2 pl2 ov2 lc2 sd2 : Int) (q3 a3 b3 : Nat) (sg3 ln3 : Int → Int) (r3 pl3 ov3 lc3 sd3 : Int) (st : Int → SD) (f k : Int) (hN : 0 ≤ N ∧ N ≤ 3000) (hfk : (-2147483648 ≤ f ∧ f < 2147483648) ∧ (-2147483648 ≤ k ∧ k < 2147483648)) : CTI l G tys y_D_isPiece b_D_isPiece 3 .boolean 0 0 [.ref o, .int (iI f), .int (iI k)] (dcore cI cO cZ o h sl us pd co q q2 q3 hf rcd sf uf T m ++ sw cI q a b sg ln r N ov lc sd ++ sw cI q2 a2 b2 sg2 ln2 r2 pl2 ov2 lc2 sd2 ++ sw cI q3 a3 b3 sg3 ln3 r3 pl3 ov3 lc3 sd3 ++ hst cI st) (fun z u => u = dcore cI cO cZ o h sl us pd co q q2 q3 hf rcd sf uf T m ++ sw cI q a b sg ln r N ov lc sd ++ sw cI q2 a2 b2 sg2 ln2 r2 pl2 ov2 lc2 sd2 ++ sw cI q3 a3 b3 sg3 ln3 r3 pl3 ov3 lc3 sd3 ++ hst cI st ∧ ((z = 1 ∧ (0 ≤ f ∧ 1 ≤ k ∧ k ≤ N - f)) ∨ (z = 0 ∧ ¬ (0 ≤ f ∧ 1 ≤ k ∧ k ≤ N - f)))) := by
  refine mkZ (by decide) (Nat.le_of_ble_eq_true rfl) ?_
  rintro X rfl rfl rfl hRm C kret H ls w hl
  have hl : lv_has ls 3 [(0, .ref o), (1, .int (iI f)), (2, .int (iI k))] := hl
  have w : Wd X (dcore cI cO cZ o h sl us pd co q q2 q3 hf rcd sf uf T m ++ sw cI q a b sg ln r N ov lc sd ++ sw cI q2 a2 b2 sg2 ln2 r2 pl2 ov2 lc2 sd2 ++ sw cI q3 a3 b3 sg3 ln3 r3 pl3 ov3 lc3 sd3 ++ hst cI st) H [] := w
  generalize ([] : List Loc) = locs at w ⊢
  refine r_iload_n (pc := 0) C d_D_isPiece_0 rfl (lv_at hl 1 rfl) ?_
  refine r_if_lt (pc := 1) (tgt := 26) C (by omega) d_D_isPiece_1 (by decide) (fun c_1 => ?_) (fun c_1 => ?_)
  · skip
    refine r_iconst (pc := 26) C d_D_isPiece_26 ?_
    exact kret _ _ _ _ 0 _ d_D_isPiece_27 w (by omega) (⟨rfl, by omega⟩)
  · skip
    refine r_iload_n (pc := 4) C d_D_isPiece_4 rfl (lv_at hl 2 rfl) ?_
    refine r_iconst (pc := 5) C d_D_isPiece_5 ?_
    refine r_icmp_lt (pc := 6) (tgt := 26) C (by omega) d_D_isPiece_6 (by decide) (fun c_6 => ?_) (fun c_6 => ?_)
    · skip
      refine r_iconst (pc := 26) C d_D_isPiece_26 ?_
      exact kret _ _ _ _ 0 _ d_D_isPiece_27 w (by omega) (⟨rfl, by omega⟩)
    · skip
      refine r_iload_n (pc := 9) C d_D_isPiece_9 rfl (lv_at hl 2 rfl) ?_
      refine r_aload_n (pc := 10) C d_D_isPiece_10 rfl (lv_at hl 0 rfl) ?_
      refine r_get (pc := 11) (v := .ref q) C w i_D rfl 0 rfl 0 (by decide) fl_D_10 rfl rfl d_D_isPiece_11 ?_
      refine r_get (pc := 14) (v := .int (iI N)) C w i_S rfl 6 rfl 3 (by decide) fl_D_62 rfl rfl d_D_isPiece_14 ?_
      refine r_iload_n (pc := 17) C d_D_isPiece_17 rfl (lv_at hl 1 rfl) ?_
      refine r_isub (pc := 18) C d_D_isPiece_18 ?_
      refine r_icmp_gt (pc := 19) (tgt := 26) C (by omega) d_D_isPiece_19 (by decide) (fun c_19 => ?_) (fun c_19 => ?_)
      · skip
        refine r_iconst (pc := 26) C d_D_isPiece_26 ?_
        exact kret _ _ _ _ 0 _ d_D_isPiece_27 w (by omega) (⟨rfl, by omega⟩)
      · skip
        refine r_iconst (pc := 22) C d_D_isPiece_22 ?_
        refine r_goto (pc := 23) (tgt := 27) C d_D_isPiece_23 (by decide) ?_
        exact kret _ _ _ _ 1 _ d_D_isPiece_27 w (by omega) (⟨rfl, by omega⟩)
