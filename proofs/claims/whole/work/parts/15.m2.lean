/-! the reference as a whole, its edits -/
def MH (nw : Int → Int) (off : Int) (w : Rw) : Prop := match w with
  | (lc, sd, r, sg, ln, N, v) => RwOk lc sd r sg ln N v ∧ MR nw off lc sd r sg ln
def MC (pt sl : Int → Int) (sv : Int) (pd : Int → Int) (hist : Int → Rw) (rcd : Int) (slot : Int → Rw) (uf T : Int → Int) (m : Int) : Prop := (0 ≤ rcd ∧ rcd ≤ 6) ∧ (∀ j, 0 ≤ j → j < rcd → MH pt (103 * j) (hist j)) ∧ (∀ i, 0 ≤ i → i < 2 → (uf i = 0 ∨ uf i = 1) ∧ (uf i = 1 → MH sl (103 * i) (slot i))) ∧ sv = uf 0 + 2 * uf 1 ∧ (0 ≤ m ∧ m ≤ 80) ∧ (∀ x, 0 ≤ x → x < m → pd x = T x ∧ 33 ≤ T x ∧ T x ≤ 126)
def MW (cI : ClassId) (q0 : Nat) (A : AS) (ws : va_W) : Prop := match A with
  | ((lc, sd, r, sg, ln, N, v), hist, rcd, slot, uf, T, m) => RwOk lc sd r sg ln N v ∧ ∃ (q1 q2 q3 q4 q5 q6 q7 q8 q9 : Nat) (nw pt sl : Int → Int) (sv : Int) (li ot : Int → Int) (len : Int) (pd wr : Int → Int) (wm : Int) (ss lz : Int → Int) (rm : Int), ws = mw cI q0 q1 q2 q3 q4 q5 q6 q7 q8 q9 nw pt rcd sl sv li ot len pd m wr wm ss lz rm ∧ MR nw 0 lc sd r sg ln ∧ MC pt sl sv pd hist rcd slot uf T m
theorem MH.moved {nw pt : Int → Int} {off off' : Int} {w : Rw} (h : MH nw off w) (hp : ∀ k, 0 ≤ k → k < 103 → pt (off' + k) = nw (off + k)) : MH pt off' w := by
  obtain ⟨lc, sd, r, sg, ln, N, v⟩ := w
  obtain ⟨h1, h2⟩ := h
  exact ⟨h1, h2.moved ⟨h1.1.1, h1.2.1⟩ hp⟩
theorem SpE_err {A A' : AS} {z err lc1 sd1 N1 ans : Int} {v1 : Int → Int} (h : SpE A z A' err lc1 sd1 N1 v1 ans) (e : Int) (he : err = e) (hne : e ≠ 0) : e = z ∧ A' = A := by
  rcases h with ⟨h1, h2, h3⟩ | ⟨h1, -⟩ | ⟨h1, -⟩
  · exact ⟨by rw [h2, he], h3⟩
  · exact absurd (he.symm.trans h1) hne
  · exact absurd (he.symm.trans h1) hne
theorem SpE_big {A A' : AS} {z err lc1 sd1 N1 ans : Int} {v1 : Int → Int} (h : SpE A z A' err lc1 sd1 N1 v1 ans) (he : err = 0) (hf : ¬ fits_ N1 v1) : -4 = z ∧ A' = A := by
  rcases h with ⟨h1, -⟩ | ⟨h1, h2, h3, h4⟩ | ⟨h1, h2, -⟩
  · exact absurd he h1
  · exact ⟨h3.symm, h4⟩
  · exact absurd h2 hf
theorem SpE_ok {A A' : AS} {z err lc1 sd1 N1 ans : Int} {v1 : Int → Int} (h : SpE A z A' err lc1 sd1 N1 v1 ans) (he : err = 0) (hf : fits_ N1 v1) : ans = z ∧ Pushed A A' lc1 sd1 N1 v1 := by
  rcases h with ⟨h1, -⟩ | ⟨h1, h2, h3, h4⟩ | ⟨h1, h2, h3, h4⟩
  · exact absurd he h1
  · exact absurd hf h2
  · exact ⟨h3.symm, h4⟩
def RecP (nw pt pt' : Int → Int) (np np' : Int) : Prop := (np < 6 ∧ np' = np + 1 ∧ (∀ x, x < 103 * np → pt' x = pt x) ∧ ∀ k, 0 ≤ k → k < 103 → pt' (103 * np + k) = nw k) ∨ (np = 6 ∧ np' = 6 ∧ (∀ x, 0 ≤ x → x < 515 → pt' x = pt (x + 103)) ∧ ∀ k, 0 ≤ k → k < 103 → pt' (515 + k) = nw k)
theorem mw_push {cI : ClassId} {q0 q1 q2 q3 q4 q5 q6 q7 q8 q9 : Nat} {nw nw' pt pt' : Int → Int} {np' : Int} {sl : Int → Int} {sv : Int} {li ot : Int → Int} {len : Int} {pd : Int → Int} {wr : Int → Int} {wm : Int} {ss lz : Int → Int} {rm : Int} {lc sd r N rcd m : Int} {sg ln v uf T : Int → Int} {hist slot : Int → Rw} {A' : AS} {lc1 sd1 N1 r' : Int} {v1 sg' ln' : Int → Int}
    (hP : Pushed ((lc, sd, r, sg, ln, N, v), hist, rcd, slot, uf, T, m) A' lc1 sd1 N1 v1) (hR : RwOk lc sd r sg ln N v) (hM : MR nw 0 lc sd r sg ln) (hC : MC pt sl sv pd hist rcd slot uf T m) (hrec : RecP nw pt pt' rcd np') (hM' : MR nw' 0 lc1 sd1 r' sg' ln') (hO' : Ok r' sg' ln' N1 v1) : MW cI q0 A' (mw cI q0 q1 q2 q3 q4 q5 q6 q7 q8 q9 nw' pt' np' sl sv li ot len pd m wr wm ss lz rm) := by
  obtain ⟨⟨lc', sd', r2, sg2, ln2, N', v'⟩, hist', rcd', slot', uf', T', m'⟩ := A'
  obtain ⟨e1, e2, e3, e4, hR', e5, e6, e7, e8, hh⟩ := hP
  subst e1 e2 e3 e4 e5 e6 e7 e8
  obtain ⟨c1, c2, c3, c4, c5, c6⟩ := hC
  have hMu := hM'.uniq hO' hR'.1
  have hr5 : 0 ≤ r ∧ r ≤ 50 := ⟨hR.1.1, hR.2.1⟩
  have hnp : np' = rcd' := by
    rcases hrec with ⟨g1, g2, -⟩ | ⟨g1, g2, -⟩ <;> rcases hh with ⟨f1, f2, -⟩ | ⟨f1, f2, -⟩ <;> omega
  subst hnp
  refine ⟨hR', q1, q2, q3, q4, q5, q6, q7, q8, q9, nw', pt', sl, sv, li, ot, len, pd, wr, wm, ss, lz, rm, rfl, hMu, by rcases hh with ⟨f1, f2, -⟩ | ⟨f1, f2, -⟩ <;> omega, fun j j1 j2 => ?_, c3, c4, c5, c6⟩
  rcases hrec with ⟨g1, g2, g3, g4⟩ | ⟨g1, g2, g3, g4⟩ <;> rcases hh with ⟨f1, f2, f3, f4⟩ | ⟨f1, f2, f3, f4⟩
  · by_cases e : j = rcd
    · subst e
      rw [f4]
      exact ⟨hR, hM.moved hr5 (fun k k1 k2 => by rw [g4 k k1 k2, Int.zero_add])⟩
    · rw [f3 j j1 (by omega)]
      exact (c2 j j1 (by omega)).moved (fun k k1 k2 => g3 _ (by omega))
  · omega
  · omega
  · by_cases e : j = 5
    · subst e
      rw [f4]
      exact ⟨hR, hM.moved hr5 (fun k k1 k2 => by rw [show (103 : Int) * 5 = 515 from rfl, g4 k k1 k2, Int.zero_add])⟩
    · rw [f3 j j1 (by omega)]
      exact (c2 (j + 1) (by omega) (by omega)).moved (fun k k1 k2 => by rw [g3 _ (by omega) (by omega)]; congr 1; omega)
theorem m_fin {cI : ClassId} {q0 q1 q2 q3 q4 q5 q6 q7 q8 q9 : Nat} {nw pt : Int → Int} {sl : Int → Int} {sv : Int} {li ot : Int → Int} {len : Int} {pd : Int → Int} {wr : Int → Int} {wm : Int} {ss lz : Int → Int} {rm : Int} {lc sd r N rcd m : Int} {sg ln v uf T : Int → Int} {hist slot : Int → Rw} {A' : AS} {err N1 ans ans' z zz : Int} {v1 : Int → Int} {u : va_W}
    (hS : SpE ((lc, sd, r, sg, ln, N, v), hist, rcd, slot, uf, T, m) z A' err lc sd N1 v1 ans) (he : err = 0) (h0 : 0 ≤ N1) (hlen : len = N1) (hag : ∀ x, 0 ≤ x → x < N1 → li x = v1 x) (hans : ans' = ans) (hR : RwOk lc sd r sg ln N v) (hM : MR nw 0 lc sd r sg ln) (hC : MC pt sl sv pd hist rcd slot uf T m)
    (hz : (¬ fits_ len li ∧ zz = -4 ∧ u = mw cI q0 q1 q2 q3 q4 q5 q6 q7 q8 q9 nw pt rcd sl sv li ot len pd m wr wm ss lz rm) ∨ (fits_ len li ∧ zz = ans' ∧ ∃ (nw' pt' : Int → Int) (np' r' : Int) (sg' ln' : Int → Int), u = mw cI q0 q1 q2 q3 q4 q5 q6 q7 q8 q9 nw' pt' np' sl sv li ot len pd m wr wm ss lz rm ∧ Ok r' sg' ln' len li ∧ MR nw' 0 (nw 0) (nw 1) r' sg' ln' ∧ RecP nw pt pt' rcd np')) : zz = z ∧ MW cI q0 A' u := by
  subst hlen hans
  have hfe := fits_ext (v := li) (u := v1) h0 hag
  rcases hz with ⟨f1, f2, rfl⟩ | ⟨f1, f2, nw', pt', np', r', sg', ln', rfl, hO', hM', hrec⟩
  · obtain ⟨g1, rfl⟩ := SpE_big hS he (fun q => f1 (hfe.mpr q))
    exact ⟨f2.trans g1, hR, q1, q2, q3, q4, q5, q6, q7, q8, q9, nw, pt, sl, sv, li, ot, len, pd, wr, wm, ss, lz, rm, rfl, hM, hC⟩
  · obtain ⟨g1, g2⟩ := SpE_ok hS he (hfe.mp f1)
    have e0 : nw 0 = lc := hM.1
    have e1 : nw 1 = sd := hM.2.1
    rw [e0, e1] at hM'
    exact ⟨f2.trans g1, mw_push g2 hR hM hC hrec hM' (hO'.ext hag)⟩
theorem cn_congr {v u : Int → Int} {s f e : Int} (hf : 0 ≤ f) (he : f ≤ e) (h : ∀ x, 0 ≤ x → x < e → v x = u x) : cn v s f e = cn u s f e := by
  have k : ∀ x, 0 ≤ x → x ≤ e → ps (ic v s) x = ps (ic u s) x := fun x h1 h2 => ps_congr x h1 (fun j j1 j2 => by unfold ic; rw [h j j1 (by omega)])
  unfold cn
  rw [k e (by omega) (by omega), k f hf he]
theorem ps_flip {g h : Int → Int} {a : Int} (ha : 0 ≤ a) : ∀ m, 0 ≤ m → (∀ x, a ≤ x → x < a + m → g x = 1 - h x) → ps g (a + m) - ps g a = m - (ps h (a + m) - ps h a) := by
  refine int_ind (fun _ => by rw [Int.add_zero]; omega) (fun m hm ih q => ?_)
  rw [← Int.add_assoc, ps_succ g (by omega), ps_succ h (by omega), q (a + m) (by omega) (by omega)]
  have := ih (fun x h1 h2 => q x h1 (by omega))
  omega
theorem ps_same {g h : Int → Int} {a : Int} (ha : 0 ≤ a) : ∀ m, 0 ≤ m → (∀ x, a ≤ x → x < a + m → g x = h x) → ps g (a + m) - ps g a = ps h (a + m) - ps h a := by
  refine int_ind (fun _ => by rw [Int.add_zero]; omega) (fun m hm ih q => ?_)
  rw [← Int.add_assoc, ps_succ g (by omega), ps_succ h (by omega), q (a + m) (by omega) (by omega)]
  have := ih (fun x h1 h2 => q x h1 (by omega))
  omega
theorem edc_out {N f k ed num : Int} {v : Int → Int} (hf : 0 ≤ f) (hk : 0 ≤ k) (hN : f + k ≤ N) : ps (edc f (f + k) ed num v) f = 0 ∧ ps (edc f (f + k) ed num v) N = ps (edc f (f + k) ed num v) (f + k) := by
  have h1 := ps_none (g := edc f (f + k) ed num v) (a := 0) (by omega) f hf (fun x q1 q2 => by unfold edc; rw [if_neg (by omega)])
  have h2 := ps_none (g := edc f (f + k) ed num v) (a := f + k) (by omega) (N - (f + k)) (by omega) (fun x q1 q2 => by unfold edc; rw [if_neg (by omega)])
  rw [Int.zero_add, ps_zero] at h1
  rw [show f + k + (N - (f + k)) = N by omega] at h2
  exact ⟨h1, h2⟩
theorem edc_live {N f k ed num : Int} {v : Int → Int} (hf : 0 ≤ f) (hk : 0 ≤ k) (hN : f + k ≤ N) (hv : ∀ x, 0 ≤ x → x < N → 0 ≤ v x ∧ v x ≤ 10) (he : (ed = 1 ∧ 1 ≤ num ∧ num ≤ 9) ∨ ed = 2) : ps (edc f (f + k) ed num v) N = k - cn v 10 f (f + k) := by
  obtain ⟨h1, h2⟩ := edc_out (ed := ed) (num := num) (v := v) hf hk hN
  have h3 := ps_flip (g := edc f (f + k) ed num v) (h := ic v 10) hf k hk (fun x q1 q2 => by
    have hx := hv x (by omega) (by omega)
    have hs := sa_cases ed (v x) num
    unfold edc ic
    by_cases q : v x = 10
    · rw [if_pos q, if_neg (by intro z; exact z.2 (by omega))]; rfl
    · rw [if_neg q, if_pos ⟨⟨q1, q2⟩, by omega⟩]; rfl)
  unfold cn
  omega
theorem edc_dead {N f k num : Int} {v : Int → Int} (hf : 0 ≤ f) (hk : 0 ≤ k) (hN : f + k ≤ N) (hn : num = 0) : ps (edc f (f + k) 3 num v) N = cn v 10 f (f + k) := by
  obtain ⟨h1, h2⟩ := edc_out (ed := 3) (num := num) (v := v) hf hk hN
  have h3 := ps_same (g := edc f (f + k) 3 num v) (h := ic v 10) hf k hk (fun x q1 q2 => by
    have hs := sa_cases 3 (v x) num
    unfold edc ic
    by_cases q : v x = 10
    · rw [if_pos q, if_pos ⟨⟨q1, q2⟩, by omega⟩]
    · rw [if_neg q, if_neg (by intro z; exact z.2 (by omega))])
  unfold cn
  omega
theorem edt_step {f e ed num i y N : Int} {v l1 : Int → Int} (hi : f ≤ i ∧ i < e) (ha : ∀ x, 0 ≤ x → x < i → l1 x = edt f e ed num v x) (hb : ∀ x, i ≤ x → x < N → l1 x = v x) (hy : y = sa ed (v i) num) : (∀ x, 0 ≤ x → x < i + 1 → up l1 i y x = edt f e ed num v x) ∧ (∀ x, i + 1 ≤ x → x < N → up l1 i y x = v x) := by
  refine ⟨fun x h1 h2 => ?_, fun x h1 h2 => ?_⟩
  · by_cases q : x = i
    · subst q; rw [up_eq, hy]; unfold edt; rw [if_pos hi]
    · rw [up_ne _ _ q]; exact ha x h1 (by omega)
  · rw [up_ne _ _ (by omega)]; exact hb x (by omega) h2
theorem edt_done {f e ed num i N : Int} {v l1 : Int → Int} (hi : i = e) (ha : ∀ x, 0 ≤ x → x < i → l1 x = edt f e ed num v x) (hb : ∀ x, i ≤ x → x < N → l1 x = v x) : ∀ x, 0 ≤ x → x < N → l1 x = edt f e ed num v x := by
  intro x h1 h2
  by_cases q : x < i
  · exact ha x h1 q
  · rw [hb x (by omega) h2]; unfold edt; rw [if_neg (by omega)]
theorem Ok.v_rg {r N : Int} {sg ln v : Int → Int} (h : Ok r sg ln N v) : ∀ x, 0 ≤ x → x < N → 0 ≤ v x ∧ v x ≤ 10 := by
  have key : ∀ k, 0 ≤ k → k ≤ r → ∀ x, 0 ≤ x → x < ps ln k → 0 ≤ v x ∧ v x ≤ 10 := by
    refine int_ind (fun _ x h1 h2 => by rw [ps_zero] at h2; omega) (fun k hk ih h1 x h2 h3 => ?_)
    by_cases q : x < ps ln k
    · exact ih (by omega) x h2 q
    · rw [h.2.2.2.2 k hk (by omega) x (by omega) h3]
      exact h.sg hk (by omega)
  intro x h1 h2
  exact key r h.1 (by omega) x h1 (by rw [h.2.2.2.1]; exact h2)

theorem d_M_insert_0 : decode b_M_insert 0 = .ok (.aload_n 0, 1) := by decide +kernel
theorem d_M_insert_1 : decode b_M_insert 1 = .ok (.invokevirtual 72, 3) := by decide +kernel
theorem d_M_insert_4 : decode b_M_insert 4 = .ok (.iload_n 1, 1) := by decide +kernel
theorem d_M_insert_5 : decode b_M_insert 5 = .ok (.iconst 0, 1) := by decide +kernel
theorem d_M_insert_6 : decode b_M_insert 6 = .ok (.aload_n 0, 1) := by decide +kernel
theorem d_M_insert_7 : decode b_M_insert 7 = .ok (.getfield 52, 3) := by decide +kernel
theorem d_M_insert_10 : decode b_M_insert 10 = .ok (.invokestatic 75, 3) := by decide +kernel
theorem d_M_insert_13 : decode b_M_insert 13 = .ok (.ifCond .ne 5, 3) := by decide +kernel
theorem d_M_insert_16 : decode b_M_insert 16 = .ok (.iconst (-1), 1) := by decide +kernel
theorem d_M_insert_17 : decode b_M_insert 17 = .ok (.ireturn, 1) := by decide +kernel
theorem d_M_insert_18 : decode b_M_insert 18 = .ok (.iload_n 2, 1) := by decide +kernel
theorem d_M_insert_19 : decode b_M_insert 19 = .ok (.iconst 0, 1) := by decide +kernel
theorem d_M_insert_20 : decode b_M_insert 20 = .ok (.bipush 10, 2) := by decide +kernel
theorem d_M_insert_22 : decode b_M_insert 22 = .ok (.invokestatic 75, 3) := by decide +kernel
theorem d_M_insert_25 : decode b_M_insert 25 = .ok (.ifCond .eq 14, 3) := by decide +kernel
theorem d_M_insert_28 : decode b_M_insert 28 = .ok (.iload_n 3, 1) := by decide +kernel
theorem d_M_insert_29 : decode b_M_insert 29 = .ok (.iconst 1, 1) := by decide +kernel
theorem d_M_insert_30 : decode b_M_insert 30 = .ok (.sipush 3000, 3) := by decide +kernel
theorem d_M_insert_33 : decode b_M_insert 33 = .ok (.invokestatic 75, 3) := by decide +kernel
theorem d_M_insert_36 : decode b_M_insert 36 = .ok (.ifCond .ne 6, 3) := by decide +kernel
theorem d_M_insert_39 : decode b_M_insert 39 = .ok (.bipush (-2), 2) := by decide +kernel
theorem d_M_insert_41 : decode b_M_insert 41 = .ok (.ireturn, 1) := by decide +kernel
theorem d_M_insert_42 : decode b_M_insert 42 = .ok (.aload_n 0, 1) := by decide +kernel
theorem d_M_insert_43 : decode b_M_insert 43 = .ok (.getfield 52, 3) := by decide +kernel
theorem d_M_insert_46 : decode b_M_insert 46 = .ok (.iconst 1, 1) := by decide +kernel
theorem d_M_insert_47 : decode b_M_insert 47 = .ok (.isub, 1) := by decide +kernel
theorem d_M_insert_48 : decode b_M_insert 48 = .ok (.istore 4, 2) := by decide +kernel
theorem d_M_insert_50 : decode b_M_insert 50 = .ok (.iload 4, 2) := by decide +kernel
theorem d_M_insert_52 : decode b_M_insert 52 = .ok (.iload_n 1, 1) := by decide +kernel
theorem d_M_insert_53 : decode b_M_insert 53 = .ok (.if_icmp .lt 25, 3) := by decide +kernel
theorem d_M_insert_56 : decode b_M_insert 56 = .ok (.aload_n 0, 1) := by decide +kernel
theorem d_M_insert_57 : decode b_M_insert 57 = .ok (.getfield 19, 3) := by decide +kernel
theorem d_M_insert_60 : decode b_M_insert 60 = .ok (.iload 4, 2) := by decide +kernel
theorem d_M_insert_62 : decode b_M_insert 62 = .ok (.iload_n 3, 1) := by decide +kernel
theorem d_M_insert_63 : decode b_M_insert 63 = .ok (.iadd, 1) := by decide +kernel
theorem d_M_insert_64 : decode b_M_insert 64 = .ok (.aload_n 0, 1) := by decide +kernel
theorem d_M_insert_65 : decode b_M_insert 65 = .ok (.getfield 19, 3) := by decide +kernel
theorem d_M_insert_68 : decode b_M_insert 68 = .ok (.iload 4, 2) := by decide +kernel
theorem d_M_insert_70 : decode b_M_insert 70 = .ok (.iaload, 1) := by decide +kernel
theorem d_M_insert_71 : decode b_M_insert 71 = .ok (.iastore, 1) := by decide +kernel
theorem d_M_insert_72 : decode b_M_insert 72 = .ok (.iinc 4 (-1), 3) := by decide +kernel
theorem d_M_insert_75 : decode b_M_insert 75 = .ok (.goto (-25), 3) := by decide +kernel
theorem d_M_insert_78 : decode b_M_insert 78 = .ok (.iload_n 1, 1) := by decide +kernel
theorem d_M_insert_79 : decode b_M_insert 79 = .ok (.istore 4, 2) := by decide +kernel
theorem d_M_insert_81 : decode b_M_insert 81 = .ok (.iload 4, 2) := by decide +kernel
theorem d_M_insert_83 : decode b_M_insert 83 = .ok (.iload_n 1, 1) := by decide +kernel
theorem d_M_insert_84 : decode b_M_insert 84 = .ok (.iload_n 3, 1) := by decide +kernel
theorem d_M_insert_85 : decode b_M_insert 85 = .ok (.iadd, 1) := by decide +kernel
theorem d_M_insert_86 : decode b_M_insert 86 = .ok (.if_icmp .ge 17, 3) := by decide +kernel
theorem d_M_insert_89 : decode b_M_insert 89 = .ok (.aload_n 0, 1) := by decide +kernel
theorem d_M_insert_90 : decode b_M_insert 90 = .ok (.getfield 19, 3) := by decide +kernel
theorem d_M_insert_93 : decode b_M_insert 93 = .ok (.iload 4, 2) := by decide +kernel
theorem d_M_insert_95 : decode b_M_insert 95 = .ok (.iload_n 2, 1) := by decide +kernel
theorem d_M_insert_96 : decode b_M_insert 96 = .ok (.iastore, 1) := by decide +kernel
theorem d_M_insert_97 : decode b_M_insert 97 = .ok (.iinc 4 1, 3) := by decide +kernel
theorem d_M_insert_100 : decode b_M_insert 100 = .ok (.goto (-19), 3) := by decide +kernel
theorem d_M_insert_103 : decode b_M_insert 103 = .ok (.aload_n 0, 1) := by decide +kernel
theorem d_M_insert_104 : decode b_M_insert 104 = .ok (.dup, 1) := by decide +kernel
theorem d_M_insert_105 : decode b_M_insert 105 = .ok (.getfield 52, 3) := by decide +kernel
theorem d_M_insert_108 : decode b_M_insert 108 = .ok (.iload_n 3, 1) := by decide +kernel
theorem d_M_insert_109 : decode b_M_insert 109 = .ok (.iadd, 1) := by decide +kernel
theorem d_M_insert_110 : decode b_M_insert 110 = .ok (.putfield 52, 3) := by decide +kernel
theorem d_M_insert_113 : decode b_M_insert 113 = .ok (.aload_n 0, 1) := by decide +kernel
theorem d_M_insert_114 : decode b_M_insert 114 = .ok (.aload_n 0, 1) := by decide +kernel
theorem d_M_insert_115 : decode b_M_insert 115 = .ok (.getfield 52, 3) := by decide +kernel
theorem d_M_insert_118 : decode b_M_insert 118 = .ok (.invokevirtual 79, 3) := by decide +kernel
theorem d_M_insert_121 : decode b_M_insert 121 = .ok (.ireturn, 1) := by decide +kernel
set_option maxHeartbeats 4000000 in
set_option maxRecDepth 20000 in
theorem c_M_insert {l : Launch} {G : va_G} {tys : List (ClassId × FieldType)} {cI cO cZ : ClassId} (hT : TY tys cI cO cZ) (q0 : Nat) (A A' : AS) (z : Int) (ws : va_W) (hA : MW cI q0 A ws) (p s k : Int) (hrg : (-2147483648 ≤ p ∧ p < 2147483648) ∧ (-2147483648 ≤ s ∧ s < 2147483648) ∧ (-2147483648 ≤ k ∧ k < 2147483648)) (hS : Sp_insert p s k A z A') : CTI l G tys y_M_insert b_M_insert 5 .int 4 88 [.ref q0, .int (iI p), .int (iI s), .int (iI k)] ws (fun z' u => z' = z ∧ MW cI q0 A' u) := by
  obtain ⟨⟨lc, sd, r, sg, ln, N, v⟩, hist, rcd, slot, uf, T, m⟩ := A
  obtain ⟨hR, q1, q2, q3, q4, q5, q6, q7, q8, q9, nw, pt, sl, sv, li, ot, len, pd, wr, wm, ss, lz, rm, rfl, hM, hC⟩ := hA
  have hO := hR.1
  have hr5 := hR.2.1
  have hN3 := hR.2.2.1
  have hN0 := hO.n0
  have hr0 := hO.1
  have hlcd := hR.2.2.2
  have hm80 := hC.2.2.2.2.1
  have hrcd6 := hC.1
  have hvr := hO.v_rg
  have hm0 : nw 0 = lc := hM.1
  have hm1 : nw 1 = sd := hM.2.1
  have hm2 : nw 2 = r := hM.2.2.1
  have hS : SpE ((lc, sd, r, sg, ln, N, v), hist, rcd, slot, uf, T, m) z A' (errIns N p s k) (lc) (sd) (N + k) (ins v p s k) (N + k) := hS
  refine mkI (by decide) (Nat.le_of_ble_eq_true rfl) ?_
  rintro X rfl rfl rfl hRm C kret H ls w hl
  have hl : lv_has ls 5 [(0, .ref q0), (1, .int (iI p)), (2, .int (iI s)), (3, .int (iI k))] := hl
  have w : Wd X (mw cI q0 q1 q2 q3 q4 q5 q6 q7 q8 q9 nw pt rcd sl sv li ot len pd m wr wm ss lz rm) H [] := w
  generalize ([] : List Loc) = locs at w ⊢
  refine r_aload_n (pc := 0) C d_M_insert_0 rfl (lv_at hl 0 rfl) ?_
  refine r_callVV (pc := 1) (As := []) (rest := []) (wr := []) C w (c_M_laysOut hT q0 q1 q2 q3 q4 q5 q6 q7 q8 q9 nw pt rcd sl sv li ot len pd m wr wm ss lz rm  _ _ _ _ _ _ _ hR hM) ml_M_72 im_M_laysOut se_M_laysOut ini_M cd_M_laysOut hd_M_laysOut rfl (by rw [hRm]; exact ⟨⟨Nat.le_of_ble_eq_true rfl, Nat.le_of_ble_eq_true rfl⟩, Nat.le_of_ble_eq_true rfl, Nat.le_of_ble_eq_true rfl⟩) hl.1 [0, 1, 2, 3, 4, 5, 6, 7, 8, 9] [] ⟨rfl, rfl, by decide, by decide, by decide⟩ 0 rfl rfl rfl (Nat.le_of_ble_eq_true rfl) d_M_insert_1 (fun u_1 H locs hz_1 w => ?_)
  obtain ⟨li_1, rfl, hli_1⟩ := hz_1
  have w : Wd X (mw cI q0 q1 q2 q3 q4 q5 q6 q7 q8 q9 nw pt rcd sl sv li_1 ot N pd m wr wm ss lz rm) H locs := w
  refine r_iload_n (pc := 4) C d_M_insert_4 rfl (lv_at hl 1 rfl) ?_
  refine r_iconst (pc := 5) C d_M_insert_5 ?_
  refine r_aload_n (pc := 6) C d_M_insert_6 rfl (lv_at hl 0 rfl) ?_
  refine r_get (pc := 7) (v := .int (iI N)) C w i_M rfl 0 rfl 7 (by decide) fl_M_52 rfl rfl d_M_insert_7 ?_
  refine r_callP (pc := 10) (As := [.int (iI p), .int (iI 0), .int (iI N)]) (rest := []) C w (c_M_in p 0 N (by omega)) ml_M_75 st_M_in ini_M cd_M_in hd_M_in rfl (by rw [hRm]; exact ⟨⟨Nat.le_of_ble_eq_true rfl, Nat.le_of_ble_eq_true rfl⟩, Nat.le_of_ble_eq_true rfl, Nat.le_of_ble_eq_true rfl⟩) hl.1 rfl (Nat.le_of_ble_eq_true rfl) d_M_insert_10 (fun z_10 H locs hz_10 w => ?_)
  refine r_if_ne (pc := 13) (tgt := 18) C (by omega) d_M_insert_13 (by decide) (fun c_13 => ?_) (fun c_13 => ?_)
  · skip
    have hb_13 : 0 ≤ p ∧ p ≤ N := by omega
    clear hz_10 c_13
    refine r_iload_n (pc := 18) C d_M_insert_18 rfl (lv_at hl 2 rfl) ?_
    refine r_iconst (pc := 19) C d_M_insert_19 ?_
    refine r_bipush (pc := 20) C d_M_insert_20 (by decide) ?_
    refine r_callP (pc := 22) (As := [.int (iI s), .int (iI 0), .int (iI 10)]) (rest := []) C w (c_M_in s 0 10 (by omega)) ml_M_75 st_M_in ini_M cd_M_in hd_M_in rfl (by rw [hRm]; exact ⟨⟨Nat.le_of_ble_eq_true rfl, Nat.le_of_ble_eq_true rfl⟩, Nat.le_of_ble_eq_true rfl, Nat.le_of_ble_eq_true rfl⟩) hl.1 rfl (Nat.le_of_ble_eq_true rfl) d_M_insert_22 (fun z_22 H locs hz_22 w => ?_)
    refine r_if_eq (pc := 25) (tgt := 39) C (by omega) d_M_insert_25 (by decide) (fun c_25 => ?_) (fun c_25 => ?_)
    · skip
      have hb_25 : ¬ (0 ≤ s ∧ s ≤ 10) := by omega
      clear hz_22 c_25
      refine r_bipush (pc := 39) C d_M_insert_39 (by decide) ?_
      exact kret _ _ _ _ (-2) _ d_M_insert_41 w (by obtain ⟨g1, rfl⟩ := SpE_err hS (-2) (by unfold errIns; (repeat' split) <;> omega) (by omega); exact ⟨g1, ⟨hR, q1, q2, q3, q4, q5, q6, q7, q8, q9, nw, pt, sl, sv, _, _, _, pd, wr, wm, ss, lz, rm, rfl, hM, hC⟩⟩)
    · skip
      have hb_25 : 0 ≤ s ∧ s ≤ 10 := by omega
      clear hz_22 c_25
      refine r_iload_n (pc := 28) C d_M_insert_28 rfl (lv_at hl 3 rfl) ?_
      refine r_iconst (pc := 29) C d_M_insert_29 ?_
      refine r_sipush (pc := 30) C d_M_insert_30 (by decide) ?_
      refine r_callP (pc := 33) (As := [.int (iI k), .int (iI 1), .int (iI 3000)]) (rest := []) C w (c_M_in k 1 3000 (by omega)) ml_M_75 st_M_in ini_M cd_M_in hd_M_in rfl (by rw [hRm]; exact ⟨⟨Nat.le_of_ble_eq_true rfl, Nat.le_of_ble_eq_true rfl⟩, Nat.le_of_ble_eq_true rfl, Nat.le_of_ble_eq_true rfl⟩) hl.1 rfl (Nat.le_of_ble_eq_true rfl) d_M_insert_33 (fun z_33 H locs hz_33 w => ?_)
      refine r_if_ne (pc := 36) (tgt := 42) C (by omega) d_M_insert_36 (by decide) (fun c_36 => ?_) (fun c_36 => ?_)
      · skip
        have hb_36 : 1 ≤ k ∧ k ≤ 3000 := by omega
        clear hz_33 c_36
        refine r_aload_n (pc := 42) C d_M_insert_42 rfl (lv_at hl 0 rfl) ?_
        refine r_get (pc := 43) (v := .int (iI N)) C w i_M rfl 0 rfl 7 (by decide) fl_M_52 rfl rfl d_M_insert_43 ?_
        refine r_iconst (pc := 46) C d_M_insert_46 ?_
        refine r_isub (pc := 47) C d_M_insert_47 ?_
        refine r_istore (pc := 48) (lv' := [(4, .int (iI (N - 1))), (0, .ref q0), (1, .int (iI p)), (2, .int (iI s)), (3, .int (iI k))]) C d_M_insert_48 hl (by decide) rfl (fun ls hl => ?_)
        have L50 : ∀ (fuel : Nat), ∀ (i : Int) (l1 : Int → Int), p - 1 ≤ i ∧ i ≤ N - 1 → (∀ x, 0 ≤ x → x ≤ i → l1 x = v x) → (∀ x, i + k < x → x < N + k → l1 x = v (x - k)) → (∀ x, 0 ≤ x → x < p → l1 x = v x) → (i + 1) < (fuel : Int) → ∀ (H : Heap) (locs : List Loc) (ls : Array Slot), Wd X (mw cI q0 q1 q2 q3 q4 q5 q6 q7 q8 q9 nw pt rcd sl sv l1 ot N pd m wr wm ss lz rm) H locs → lv_has ls 5 [(0, .ref q0), (1, .int (iI p)), (2, .int (iI s)), (3, .int (iI k)), (4, .int (iI i))] → GG X 0 0 H locs 50 ls [] := by
          intro fuel
          induction fuel with
          | zero =>
            intro i l1 h0 ha hb hp hfuel
            exact absurd hfuel (by omega)
          | succ fuel ih50 =>
            intro i l1 h0 ha hb hp hfuel H locs ls w hl
            refine r_iload (pc := 50) C d_M_insert_50 (lv_at hl 4 rfl) ?_
            refine r_iload_n (pc := 52) C d_M_insert_52 rfl (lv_at hl 1 rfl) ?_
            refine r_icmp_lt (pc := 53) (tgt := 78) C (by omega) d_M_insert_53 (by decide) (fun c_53 => ?_) (fun c_53 => ?_)
            · skip
              refine r_iload_n (pc := 78) C d_M_insert_78 rfl (lv_at hl 1 rfl) ?_
              refine r_istore (pc := 79) (lv' := [(4, .int (iI p)), (0, .ref q0), (1, .int (iI p)), (2, .int (iI s)), (3, .int (iI k))]) C d_M_insert_79 hl (by decide) rfl (fun ls hl => ?_)
              have L81 : ∀ (fuel : Nat), ∀ (j : Int) (l2 : Int → Int), p ≤ j ∧ j ≤ p + k → (∀ x, p ≤ x → x < j → l2 x = s) → (∀ x, p + k ≤ x → x < N + k → l2 x = v (x - k)) → (∀ x, 0 ≤ x → x < p → l2 x = v x) → (p + k - j) < (fuel : Int) → ∀ (H : Heap) (locs : List Loc) (ls : Array Slot), Wd X (mw cI q0 q1 q2 q3 q4 q5 q6 q7 q8 q9 nw pt rcd sl sv l2 ot N pd m wr wm ss lz rm) H locs → lv_has ls 5 [(0, .ref q0), (1, .int (iI p)), (2, .int (iI s)), (3, .int (iI k)), (4, .int (iI j))] → GG X 0 0 H locs 81 ls [] := by
                intro fuel
                induction fuel with
                | zero =>
                  intro j l2 h2 hc hb2 hp2 hfuel
                  exact absurd hfuel (by omega)
                | succ fuel ih81 =>
                  intro j l2 h2 hc hb2 hp2 hfuel H locs ls w hl
                  refine r_iload (pc := 81) C d_M_insert_81 (lv_at hl 4 rfl) ?_
                  refine r_iload_n (pc := 83) C d_M_insert_83 rfl (lv_at hl 1 rfl) ?_
                  refine r_iload_n (pc := 84) C d_M_insert_84 rfl (lv_at hl 3 rfl) ?_
                  refine r_iadd (pc := 85) C d_M_insert_85 ?_
                  refine r_icmp_ge (pc := 86) (tgt := 103) C (by omega) d_M_insert_86 (by decide) (fun c_86 => ?_) (fun c_86 => ?_)
                  · skip
                    refine r_aload_n (pc := 103) C d_M_insert_103 rfl (lv_at hl 0 rfl) ?_
                    refine r_dup (pc := 104) C d_M_insert_104 rfl ?_
                    refine r_get (pc := 105) (v := .int (iI N)) C w i_M rfl 0 rfl 7 (by decide) fl_M_52 rfl rfl d_M_insert_105 ?_
                    refine r_iload_n (pc := 108) C d_M_insert_108 rfl (lv_at hl 3 rfl) ?_
                    refine r_iadd (pc := 109) C d_M_insert_109 ?_
                    refine r_put (pc := 110) (ws' := mw cI q0 q1 q2 q3 q4 q5 q6 q7 q8 q9 nw pt rcd sl sv l2 ot (N + k) pd m wr wm ss lz rm) C w i_M t_M t_M_ok n_M rfl 0 rfl 7 (by decide) fl_M_52 rfl rfl rfl rfl (Nat.le_of_ble_eq_true rfl) rfl d_M_insert_110 (fun H locs w => ?_)
                    have hag : ∀ x, 0 ≤ x → x < N + k → l2 x = ins v p s k x := fun x h1 h2 => by unfold ins; by_cases e1 : x < p; rw [if_pos e1]; exact hp2 x h1 e1; rw [if_neg e1]; by_cases e2 : x < p + k; rw [if_pos e2]; exact hc x (by omega) (by omega); rw [if_neg e2]; exact hb2 x (by omega) h2
                    refine r_aload_n (pc := 113) C d_M_insert_113 rfl (lv_at hl 0 rfl) ?_
                    refine r_aload_n (pc := 114) C d_M_insert_114 rfl (lv_at hl 0 rfl) ?_
                    refine r_get (pc := 115) (v := .int (iI (N + k))) C w i_M rfl 0 rfl 7 (by decide) fl_M_52 rfl rfl d_M_insert_115 ?_
                    refine r_callVI (pc := 118) (As := [.int (iI (N + k))]) (rest := []) (wr := []) C w (c_M_ends hT q0 q1 q2 q3 q4 q5 q6 q7 q8 q9 nw pt rcd sl sv l2 ot (N + k) pd m wr wm ss lz rm (N + k) (by omega) (fun x h1 h2 => by rw [hag x h1 h2]; unfold ins; (repeat' split); exact hvr x h1 (by omega); omega; exact hvr (x - k) (by omega) (by omega)) (by omega)) ml_M_79 im_M_ends se_M_ends ini_M cd_M_ends hd_M_ends rfl (by rw [hRm]; exact ⟨⟨Nat.le_of_ble_eq_true rfl, Nat.le_of_ble_eq_true rfl⟩, Nat.le_of_ble_eq_true rfl, Nat.le_of_ble_eq_true rfl⟩) hl.1 [0, 1, 2, 3, 4, 5, 6, 7, 8, 9] [] ⟨rfl, rfl, by decide, by decide, by decide⟩ 0 rfl rfl rfl (Nat.le_of_ble_eq_true rfl) d_M_insert_118 (fun z_118 u_118 H locs hz_118 w => ?_)
                    exact kret _ _ _ _ z_118 _ d_M_insert_121 w (m_fin hS (by unfold errIns; (repeat' split) <;> omega) (by omega) (by omega) hag (rfl) hR hM hC hz_118)
                  · skip
                    refine r_aload_n (pc := 89) C d_M_insert_89 rfl (lv_at hl 0 rfl) ?_
                    refine r_get (pc := 90) (v := .ref q4) C w i_M rfl 0 rfl 5 (by decide) fl_M_19 rfl rfl d_M_insert_90 ?_
                    refine r_iload (pc := 93) C d_M_insert_93 (lv_at hl 4 rfl) ?_
                    refine r_iload_n (pc := 95) C d_M_insert_95 rfl (lv_at hl 2 rfl) ?_
                    refine r_iast (pc := 96) (f := l2) (i := j) (v := s) (ws' := mw cI q0 q1 q2 q3 q4 q5 q6 q7 q8 q9 nw pt rcd sl sv (up l2 j s) ot N pd m wr wm ss lz rm) C w 0 4 rfl hT.1 (by omega) rfl d_M_insert_96 (fun H locs w => ?_)
                    refine r_iinc (pc := 97) (j := 4) (lv' := [(4, .int (iI (j + 1))), (0, .ref q0), (1, .int (iI p)), (2, .int (iI s)), (3, .int (iI k))]) C d_M_insert_97 hl rfl (by decide) rfl (fun ls hl => ?_)
                    refine r_goto (pc := 100) (tgt := 81) C d_M_insert_100 (by decide) ?_
                    exact ih81 (j + 1) (up l2 j s) (by omega) ((fun x h1 h2 => by by_cases e : x = j; rw [e, up_eq]; rw [up_ne _ _ e]; exact hc x h1 (by omega))) ((fun x h1 h2 => by rw [up_ne _ _ (by omega)]; exact hb2 x h1 h2)) ((fun x h1 h2 => by rw [up_ne _ _ (by omega)]; exact hp2 x h1 h2)) (by omega) _ _ _ w (lv_sub hl [1, 2, 3, 4, 0] rfl)
              exact L81 ((p + k - p) + 1 : Int).toNat p l1 (by first | omega | rfl) ((fun x h1 h2 => by omega)) ((fun x h1 h2 => hb x (by omega) h2)) (hp) (by omega) _ _ _ w (lv_sub hl [1, 2, 3, 4, 0] rfl)
            · skip
              refine r_aload_n (pc := 56) C d_M_insert_56 rfl (lv_at hl 0 rfl) ?_
              refine r_get (pc := 57) (v := .ref q4) C w i_M rfl 0 rfl 5 (by decide) fl_M_19 rfl rfl d_M_insert_57 ?_
              refine r_iload (pc := 60) C d_M_insert_60 (lv_at hl 4 rfl) ?_
              refine r_iload_n (pc := 62) C d_M_insert_62 rfl (lv_at hl 3 rfl) ?_
              refine r_iadd (pc := 63) C d_M_insert_63 ?_
              refine r_aload_n (pc := 64) C d_M_insert_64 rfl (lv_at hl 0 rfl) ?_
              refine r_get (pc := 65) (v := .ref q4) C w i_M rfl 0 rfl 5 (by decide) fl_M_19 rfl rfl d_M_insert_65 ?_
              refine r_iload (pc := 68) C d_M_insert_68 (lv_at hl 4 rfl) ?_
              refine r_iald (pc := 70) (f := l1) (i := i) C w 0 4 rfl hT.1 (by omega) d_M_insert_70 ?_
              refine r_iast (pc := 71) (f := l1) (i := (i + k)) (v := (l1 i)) (ws' := mw cI q0 q1 q2 q3 q4 q5 q6 q7 q8 q9 nw pt rcd sl sv (up l1 (i + k) (l1 i)) ot N pd m wr wm ss lz rm) C w 0 4 rfl hT.1 (by omega) rfl d_M_insert_71 (fun H locs w => ?_)
              refine r_iinc (pc := 72) (j := 4) (lv' := [(4, .int (iI (i + (-1)))), (0, .ref q0), (1, .int (iI p)), (2, .int (iI s)), (3, .int (iI k))]) C d_M_insert_72 hl rfl (by decide) rfl (fun ls hl => ?_)
              refine r_goto (pc := 75) (tgt := 50) C d_M_insert_75 (by decide) ?_
              exact ih50 (i + (-1)) (up l1 (i + k) (l1 i)) (by omega) ((fun x h1 h2 => by rw [up_ne _ _ (by omega)]; exact ha x h1 (by omega))) ((fun x h1 h2 => by by_cases e : x = i + k; rw [e, up_eq, ha i (by omega) (by omega)]; congr 1; omega; rw [up_ne _ _ e]; exact hb x (by omega) h2)) ((fun x h1 h2 => by rw [up_ne _ _ (by omega)]; exact hp x h1 h2)) (by omega) _ _ _ w (lv_sub hl [1, 2, 3, 4, 0] rfl)
        exact L50 (((N - 1) + 1) + 1 : Int).toNat (N - 1) li_1 (by first | omega | rfl) ((fun x h1 h2 => hli_1 x h1 (by omega))) ((fun x h1 h2 => by omega)) ((fun x h1 h2 => hli_1 x h1 (by omega))) (by omega) _ _ _ w (lv_sub hl [1, 2, 3, 4, 0] rfl)
      · skip
        have hb_36 : ¬ (1 ≤ k ∧ k ≤ 3000) := by omega
        clear hz_33 c_36
        refine r_bipush (pc := 39) C d_M_insert_39 (by decide) ?_
        exact kret _ _ _ _ (-2) _ d_M_insert_41 w (by obtain ⟨g1, rfl⟩ := SpE_err hS (-2) (by unfold errIns; (repeat' split) <;> omega) (by omega); exact ⟨g1, ⟨hR, q1, q2, q3, q4, q5, q6, q7, q8, q9, nw, pt, sl, sv, _, _, _, pd, wr, wm, ss, lz, rm, rfl, hM, hC⟩⟩)
  · skip
    have hb_13 : ¬ (0 ≤ p ∧ p ≤ N) := by omega
    clear hz_10 c_13
    refine r_iconst (pc := 16) C d_M_insert_16 ?_
    exact kret _ _ _ _ (-1) _ d_M_insert_17 w (by obtain ⟨g1, rfl⟩ := SpE_err hS (-1) (by unfold errIns; (repeat' split) <;> omega) (by omega); exact ⟨g1, ⟨hR, q1, q2, q3, q4, q5, q6, q7, q8, q9, nw, pt, sl, sv, _, _, _, pd, wr, wm, ss, lz, rm, rfl, hM, hC⟩⟩)
theorem d_M_erase_0 : decode b_M_erase 0 = .ok (.aload_n 0, 1) := by decide +kernel
theorem d_M_erase_1 : decode b_M_erase 1 = .ok (.iload_n 1, 1) := by decide +kernel
theorem d_M_erase_2 : decode b_M_erase 2 = .ok (.iload_n 2, 1) := by decide +kernel
theorem d_M_erase_3 : decode b_M_erase 3 = .ok (.invokevirtual 82, 3) := by decide +kernel
theorem d_M_erase_6 : decode b_M_erase 6 = .ok (.ifCond .ne 5, 3) := by decide +kernel
theorem d_M_erase_9 : decode b_M_erase 9 = .ok (.iconst (-1), 1) := by decide +kernel
theorem d_M_erase_10 : decode b_M_erase 10 = .ok (.ireturn, 1) := by decide +kernel
theorem d_M_erase_11 : decode b_M_erase 11 = .ok (.aload_n 0, 1) := by decide +kernel
theorem d_M_erase_12 : decode b_M_erase 12 = .ok (.iload_n 1, 1) := by decide +kernel
theorem d_M_erase_13 : decode b_M_erase 13 = .ok (.iload_n 2, 1) := by decide +kernel
theorem d_M_erase_14 : decode b_M_erase 14 = .ok (.bipush 10, 2) := by decide +kernel
theorem d_M_erase_16 : decode b_M_erase 16 = .ok (.invokevirtual 86, 3) := by decide +kernel
theorem d_M_erase_19 : decode b_M_erase 19 = .ok (.istore_n 3, 1) := by decide +kernel
theorem d_M_erase_20 : decode b_M_erase 20 = .ok (.iload_n 1, 1) := by decide +kernel
theorem d_M_erase_21 : decode b_M_erase 21 = .ok (.istore 4, 2) := by decide +kernel
theorem d_M_erase_23 : decode b_M_erase 23 = .ok (.iload 4, 2) := by decide +kernel
theorem d_M_erase_25 : decode b_M_erase 25 = .ok (.iload_n 2, 1) := by decide +kernel
theorem d_M_erase_26 : decode b_M_erase 26 = .ok (.iadd, 1) := by decide +kernel
theorem d_M_erase_27 : decode b_M_erase 27 = .ok (.aload_n 0, 1) := by decide +kernel
theorem d_M_erase_28 : decode b_M_erase 28 = .ok (.getfield 52, 3) := by decide +kernel
theorem d_M_erase_31 : decode b_M_erase 31 = .ok (.if_icmp .ge 25, 3) := by decide +kernel
theorem d_M_erase_34 : decode b_M_erase 34 = .ok (.aload_n 0, 1) := by decide +kernel
theorem d_M_erase_35 : decode b_M_erase 35 = .ok (.getfield 19, 3) := by decide +kernel
theorem d_M_erase_38 : decode b_M_erase 38 = .ok (.iload 4, 2) := by decide +kernel
theorem d_M_erase_40 : decode b_M_erase 40 = .ok (.aload_n 0, 1) := by decide +kernel
theorem d_M_erase_41 : decode b_M_erase 41 = .ok (.getfield 19, 3) := by decide +kernel
theorem d_M_erase_44 : decode b_M_erase 44 = .ok (.iload 4, 2) := by decide +kernel
theorem d_M_erase_46 : decode b_M_erase 46 = .ok (.iload_n 2, 1) := by decide +kernel
theorem d_M_erase_47 : decode b_M_erase 47 = .ok (.iadd, 1) := by decide +kernel
theorem d_M_erase_48 : decode b_M_erase 48 = .ok (.iaload, 1) := by decide +kernel
theorem d_M_erase_49 : decode b_M_erase 49 = .ok (.iastore, 1) := by decide +kernel
theorem d_M_erase_50 : decode b_M_erase 50 = .ok (.iinc 4 1, 3) := by decide +kernel
theorem d_M_erase_53 : decode b_M_erase 53 = .ok (.goto (-30), 3) := by decide +kernel
theorem d_M_erase_56 : decode b_M_erase 56 = .ok (.aload_n 0, 1) := by decide +kernel
theorem d_M_erase_57 : decode b_M_erase 57 = .ok (.dup, 1) := by decide +kernel
theorem d_M_erase_58 : decode b_M_erase 58 = .ok (.getfield 52, 3) := by decide +kernel
theorem d_M_erase_61 : decode b_M_erase 61 = .ok (.iload_n 2, 1) := by decide +kernel
theorem d_M_erase_62 : decode b_M_erase 62 = .ok (.isub, 1) := by decide +kernel
theorem d_M_erase_63 : decode b_M_erase 63 = .ok (.putfield 52, 3) := by decide +kernel
theorem d_M_erase_66 : decode b_M_erase 66 = .ok (.aload_n 0, 1) := by decide +kernel
theorem d_M_erase_67 : decode b_M_erase 67 = .ok (.invokevirtual 65, 3) := by decide +kernel
theorem d_M_erase_70 : decode b_M_erase 70 = .ok (.ifCond .eq 8, 3) := by decide +kernel
theorem d_M_erase_73 : decode b_M_erase 73 = .ok (.bipush (-4), 2) := by decide +kernel
theorem d_M_erase_75 : decode b_M_erase 75 = .ok (.goto 30, 3) := by decide +kernel
theorem d_M_erase_78 : decode b_M_erase 78 = .ok (.aload_n 0, 1) := by decide +kernel
theorem d_M_erase_79 : decode b_M_erase 79 = .ok (.getfield 7, 3) := by decide +kernel
theorem d_M_erase_82 : decode b_M_erase 82 = .ok (.iconst 1, 1) := by decide +kernel
theorem d_M_erase_83 : decode b_M_erase 83 = .ok (.iaload, 1) := by decide +kernel
theorem d_M_erase_84 : decode b_M_erase 84 = .ok (.iconst 1, 1) := by decide +kernel
theorem d_M_erase_85 : decode b_M_erase 85 = .ok (.if_icmp .ne 12, 3) := by decide +kernel
theorem d_M_erase_88 : decode b_M_erase 88 = .ok (.iload_n 3, 1) := by decide +kernel
theorem d_M_erase_89 : decode b_M_erase 89 = .ok (.ifCond .le 8, 3) := by decide +kernel
theorem d_M_erase_92 : decode b_M_erase 92 = .ok (.bipush (-5), 2) := by decide +kernel
theorem d_M_erase_94 : decode b_M_erase 94 = .ok (.goto 11, 3) := by decide +kernel
theorem d_M_erase_97 : decode b_M_erase 97 = .ok (.aload_n 0, 1) := by decide +kernel
theorem d_M_erase_98 : decode b_M_erase 98 = .ok (.aload_n 0, 1) := by decide +kernel
theorem d_M_erase_99 : decode b_M_erase 99 = .ok (.getfield 52, 3) := by decide +kernel
theorem d_M_erase_102 : decode b_M_erase 102 = .ok (.invokevirtual 79, 3) := by decide +kernel
theorem d_M_erase_105 : decode b_M_erase 105 = .ok (.ireturn, 1) := by decide +kernel
set_option maxHeartbeats 4000000 in
set_option maxRecDepth 20000 in
theorem c_M_erase {l : Launch} {G : va_G} {tys : List (ClassId × FieldType)} {cI cO cZ : ClassId} (hT : TY tys cI cO cZ) (q0 : Nat) (A A' : AS) (z : Int) (ws : va_W) (hA : MW cI q0 A ws) (f k : Int) (hrg : (-2147483648 ≤ f ∧ f < 2147483648) ∧ (-2147483648 ≤ k ∧ k < 2147483648)) (hS : Sp_erase f k A z A') : CTI l G tys y_M_erase b_M_erase 5 .int 4 88 [.ref q0, .int (iI f), .int (iI k)] ws (fun z' u => z' = z ∧ MW cI q0 A' u) := by
  obtain ⟨⟨lc, sd, r, sg, ln, N, v⟩, hist, rcd, slot, uf, T, m⟩ := A
  obtain ⟨hR, q1, q2, q3, q4, q5, q6, q7, q8, q9, nw, pt, sl, sv, li, ot, len, pd, wr, wm, ss, lz, rm, rfl, hM, hC⟩ := hA
  have hO := hR.1
  have hr5 := hR.2.1
  have hN3 := hR.2.2.1
  have hN0 := hO.n0
  have hr0 := hO.1
  have hlcd := hR.2.2.2
  have hm80 := hC.2.2.2.2.1
  have hrcd6 := hC.1
  have hvr := hO.v_rg
  have hm0 : nw 0 = lc := hM.1
  have hm1 : nw 1 = sd := hM.2.1
  have hm2 : nw 2 = r := hM.2.2.1
  have hS : SpE ((lc, sd, r, sg, ln, N, v), hist, rcd, slot, uf, T, m) z A' (errEr N f k sd (cn v 10 f (f + k))) (lc) (sd) (N - k) (del v f k) (N - k) := hS
  refine mkI (by decide) (Nat.le_of_ble_eq_true rfl) ?_
  rintro X rfl rfl rfl hRm C kret H ls w hl
  have hl : lv_has ls 5 [(0, .ref q0), (1, .int (iI f)), (2, .int (iI k))] := hl
  have w : Wd X (mw cI q0 q1 q2 q3 q4 q5 q6 q7 q8 q9 nw pt rcd sl sv li ot len pd m wr wm ss lz rm) H [] := w
  generalize ([] : List Loc) = locs at w ⊢
  refine r_aload_n (pc := 0) C d_M_erase_0 rfl (lv_at hl 0 rfl) ?_
  refine r_iload_n (pc := 1) C d_M_erase_1 rfl (lv_at hl 1 rfl) ?_
  refine r_iload_n (pc := 2) C d_M_erase_2 rfl (lv_at hl 2 rfl) ?_
  refine r_callVI (pc := 3) (As := [.int (iI f), .int (iI k)]) (rest := []) (wr := []) C w (c_M_hasPiece hT q0 q1 q2 q3 q4 q5 q6 q7 q8 q9 nw pt rcd sl sv li ot len pd m wr wm ss lz rm f k _ _ _ _ _ _ _ hR hM (by omega)) ml_M_82 im_M_hasPiece se_M_hasPiece ini_M cd_M_hasPiece hd_M_hasPiece rfl (by rw [hRm]; exact ⟨⟨Nat.le_of_ble_eq_true rfl, Nat.le_of_ble_eq_true rfl⟩, Nat.le_of_ble_eq_true rfl, Nat.le_of_ble_eq_true rfl⟩) hl.1 [0, 1, 2, 3, 4, 5, 6, 7, 8, 9] [] ⟨rfl, rfl, by decide, by decide, by decide⟩ 0 rfl rfl rfl (Nat.le_of_ble_eq_true rfl) d_M_erase_3 (fun z_3 u_3 H locs hz_3 w => ?_)
  obtain ⟨li_3, rfl, hli_3, hz_3⟩ := hz_3
  have w : Wd X (mw cI q0 q1 q2 q3 q4 q5 q6 q7 q8 q9 nw pt rcd sl sv li_3 ot N pd m wr wm ss lz rm) H locs := w
  refine r_if_ne (pc := 6) (tgt := 11) C (by omega) d_M_erase_6 (by decide) (fun c_6 => ?_) (fun c_6 => ?_)
  · skip
    have hb_6 : 0 ≤ f ∧ 1 ≤ k ∧ k ≤ N - f := by omega
    clear hz_3 c_6
    refine r_aload_n (pc := 11) C d_M_erase_11 rfl (lv_at hl 0 rfl) ?_
    refine r_iload_n (pc := 12) C d_M_erase_12 rfl (lv_at hl 1 rfl) ?_
    refine r_iload_n (pc := 13) C d_M_erase_13 rfl (lv_at hl 2 rfl) ?_
    refine r_bipush (pc := 14) C d_M_erase_14 (by decide) ?_
    refine r_callVI (pc := 16) (As := [.int (iI f), .int (iI k), .int (iI 10)]) (rest := []) (wr := []) C w (c_M_countIn hT q0 q1 q2 q3 q4 q5 q6 q7 q8 q9 nw pt rcd sl sv li_3 ot N pd m wr wm ss lz rm f k 10 (by omega) (by omega) (fun x h1 h2 => by rw [hli_3 x (by omega) (by omega)]; exact hvr x (by omega) (by omega))) ml_M_86 im_M_countIn se_M_countIn ini_M cd_M_countIn hd_M_countIn rfl (by rw [hRm]; exact ⟨⟨Nat.le_of_ble_eq_true rfl, Nat.le_of_ble_eq_true rfl⟩, Nat.le_of_ble_eq_true rfl, Nat.le_of_ble_eq_true rfl⟩) hl.1 [0, 1, 2, 3, 4, 5, 6, 7, 8, 9] [] ⟨rfl, rfl, by decide, by decide, by decide⟩ 0 rfl rfl rfl (Nat.le_of_ble_eq_true rfl) d_M_erase_16 (fun z_16 u_16 H locs hz_16 w => ?_)
    obtain ⟨rfl, rfl⟩ := hz_16
    have w : Wd X (mw cI q0 q1 q2 q3 q4 q5 q6 q7 q8 q9 nw pt rcd sl sv li_3 ot N pd m wr wm ss lz rm) H locs := w
    refine r_istore_n (pc := 19) (lv' := [(3, .int (iI (cn li_3 10 f (f + k)))), (0, .ref q0), (1, .int (iI f)), (2, .int (iI k))]) C d_M_erase_19 rfl hl (by decide) rfl (fun ls hl => ?_)
    have hcg := cn_congr (v := li_3) (u := v) (s := 10) (f := f) (e := f + k) (by omega) (by omega) (fun x h1 h2 => hli_3 x h1 (by omega))
    have hcr := cn_rg (v := v) (s := 10) (f := f) (e := f + k) (by omega) (by omega)
    refine r_iload_n (pc := 20) C d_M_erase_20 rfl (lv_at hl 2 rfl) ?_
    refine r_istore (pc := 21) (lv' := [(4, .int (iI f)), (3, .int (iI (cn li_3 10 f (f + k)))), (0, .ref q0), (1, .int (iI f)), (2, .int (iI k))]) C d_M_erase_21 hl (by decide) rfl (fun ls hl => ?_)
    have L23 : ∀ (fuel : Nat), ∀ (i : Int) (l1 : Int → Int), f ≤ i ∧ i + k ≤ N → (∀ x, 0 ≤ x → x < i → l1 x = del v f k x) → (∀ x, i ≤ x → x < N → l1 x = v x) → (N - k - i) < (fuel : Int) → ∀ (H : Heap) (locs : List Loc) (ls : Array Slot), Wd X (mw cI q0 q1 q2 q3 q4 q5 q6 q7 q8 q9 nw pt rcd sl sv l1 ot N pd m wr wm ss lz rm) H locs → lv_has ls 5 [(0, .ref q0), (1, .int (iI f)), (2, .int (iI k)), (3, .int (iI (cn li_3 10 f (f + k)))), (4, .int (iI i))] → GG X 0 0 H locs 23 ls [] := by
      intro fuel
      induction fuel with
      | zero =>
        intro i l1 h0 ha hb hfuel
        exact absurd hfuel (by omega)
      | succ fuel ih23 =>
        intro i l1 h0 ha hb hfuel H locs ls w hl
        refine r_iload (pc := 23) C d_M_erase_23 (lv_at hl 4 rfl) ?_
        refine r_iload_n (pc := 25) C d_M_erase_25 rfl (lv_at hl 2 rfl) ?_
        refine r_iadd (pc := 26) C d_M_erase_26 ?_
        refine r_aload_n (pc := 27) C d_M_erase_27 rfl (lv_at hl 0 rfl) ?_
        refine r_get (pc := 28) (v := .int (iI N)) C w i_M rfl 0 rfl 7 (by decide) fl_M_52 rfl rfl d_M_erase_28 ?_
        refine r_icmp_ge (pc := 31) (tgt := 56) C (by omega) d_M_erase_31 (by decide) (fun c_31 => ?_) (fun c_31 => ?_)
        · skip
          refine r_aload_n (pc := 56) C d_M_erase_56 rfl (lv_at hl 0 rfl) ?_
          refine r_dup (pc := 57) C d_M_erase_57 rfl ?_
          refine r_get (pc := 58) (v := .int (iI N)) C w i_M rfl 0 rfl 7 (by decide) fl_M_52 rfl rfl d_M_erase_58 ?_
          refine r_iload_n (pc := 61) C d_M_erase_61 rfl (lv_at hl 2 rfl) ?_
          refine r_isub (pc := 62) C d_M_erase_62 ?_
          refine r_put (pc := 63) (ws' := mw cI q0 q1 q2 q3 q4 q5 q6 q7 q8 q9 nw pt rcd sl sv l1 ot (N - k) pd m wr wm ss lz rm) C w i_M t_M t_M_ok n_M rfl 0 rfl 7 (by decide) fl_M_52 rfl rfl rfl rfl (Nat.le_of_ble_eq_true rfl) rfl d_M_erase_63 (fun H locs w => ?_)
          have hag : ∀ x, 0 ≤ x → x < N - k → l1 x = del v f k x := fun x h1 h2 => ha x h1 (by omega)
          have hrd := rc_del (v := v) (f := f) (k := k) (N := N) (by omega) (by omega) (by omega)
          have hrE := hO.rcE
          have hrg2 := rc_congr (v := l1) (u := del v f k) (N - k) (by omega) hag
          rw [← hrg2] at hrd
          refine r_aload_n (pc := 66) C d_M_erase_66 rfl (lv_at hl 0 rfl) ?_
          refine r_callVI (pc := 67) (As := []) (rest := []) (wr := []) C w (c_M_isTooMuch hT q0 q1 q2 q3 q4 q5 q6 q7 q8 q9 nw pt rcd sl sv l1 ot (N - k) pd m wr wm ss lz rm  (by omega) (fun x h1 h2 => by rw [hag x h1 h2]; unfold del; split; exact hvr x h1 (by omega); exact hvr (x + k) (by omega) (by omega))) ml_M_65 im_M_isTooMuch se_M_isTooMuch ini_M cd_M_isTooMuch hd_M_isTooMuch rfl (by rw [hRm]; exact ⟨⟨Nat.le_of_ble_eq_true rfl, Nat.le_of_ble_eq_true rfl⟩, Nat.le_of_ble_eq_true rfl, Nat.le_of_ble_eq_true rfl⟩) hl.1 [0, 1, 2, 3, 4, 5, 6, 7, 8, 9] [] ⟨rfl, rfl, by decide, by decide, by decide⟩ 0 rfl rfl rfl (Nat.le_of_ble_eq_true rfl) d_M_erase_67 (fun z_67 u_67 H locs hz_67 w => ?_)
          obtain ⟨rfl, hz_67⟩ := hz_67
          have w : Wd X (mw cI q0 q1 q2 q3 q4 q5 q6 q7 q8 q9 nw pt rcd sl sv l1 ot (N - k) pd m wr wm ss lz rm) H locs := w
          refine r_if_eq (pc := 70) (tgt := 78) C (by omega) d_M_erase_70 (by decide) (fun c_70 => ?_) (fun c_70 => ?_)
          · skip
            have hb_70 : ¬ (¬ ((N - k) ≤ 3000 ∧ rc l1 (N - k) ≤ 50)) := by omega
            clear hz_67 c_70
            refine r_aload_n (pc := 78) C d_M_erase_78 rfl (lv_at hl 0 rfl) ?_
            refine r_get (pc := 79) (v := .ref q1) C w i_M rfl 0 rfl 0 (by decide) fl_M_7 rfl rfl d_M_erase_79 ?_
            refine r_iconst (pc := 82) C d_M_erase_82 ?_
            refine r_iald (pc := 83) (f := nw) (i := 1) C w 0 1 rfl hT.1 (by omega) d_M_erase_83 ?_
            refine r_iconst (pc := 84) C d_M_erase_84 ?_
            refine r_icmp_ne (pc := 85) (tgt := 97) C (by omega) d_M_erase_85 (by decide) (fun c_85 => ?_) (fun c_85 => ?_)
            · skip
              refine r_aload_n (pc := 97) C d_M_erase_97 rfl (lv_at hl 0 rfl) ?_
              refine r_aload_n (pc := 98) C d_M_erase_98 rfl (lv_at hl 0 rfl) ?_
              refine r_get (pc := 99) (v := .int (iI (N - k))) C w i_M rfl 0 rfl 7 (by decide) fl_M_52 rfl rfl d_M_erase_99 ?_
              refine r_callVI (pc := 102) (As := [.int (iI (N - k))]) (rest := []) (wr := []) C w (c_M_ends hT q0 q1 q2 q3 q4 q5 q6 q7 q8 q9 nw pt rcd sl sv l1 ot (N - k) pd m wr wm ss lz rm (N - k) (by omega) (fun x h1 h2 => by rw [hag x h1 h2]; unfold del; split; exact hvr x h1 (by omega); exact hvr (x + k) (by omega) (by omega)) (by omega)) ml_M_79 im_M_ends se_M_ends ini_M cd_M_ends hd_M_ends rfl (by rw [hRm]; exact ⟨⟨Nat.le_of_ble_eq_true rfl, Nat.le_of_ble_eq_true rfl⟩, Nat.le_of_ble_eq_true rfl, Nat.le_of_ble_eq_true rfl⟩) hl.1 [0, 1, 2, 3, 4, 5, 6, 7, 8, 9] [] ⟨rfl, rfl, by decide, by decide, by decide⟩ 0 rfl rfl rfl (Nat.le_of_ble_eq_true rfl) d_M_erase_102 (fun z_102 u_102 H locs hz_102 w => ?_)
              exact kret _ _ _ _ z_102 _ d_M_erase_105 w (m_fin hS (by unfold errEr; (repeat' split) <;> omega) (by omega) (by omega) hag (rfl) hR hM hC hz_102)
            · skip
              refine r_iload_n (pc := 88) C d_M_erase_88 rfl (lv_at hl 3 rfl) ?_
              refine r_if_le (pc := 89) (tgt := 97) C (by omega) d_M_erase_89 (by decide) (fun c_89 => ?_) (fun c_89 => ?_)
              · skip
                refine r_aload_n (pc := 97) C d_M_erase_97 rfl (lv_at hl 0 rfl) ?_
                refine r_aload_n (pc := 98) C d_M_erase_98 rfl (lv_at hl 0 rfl) ?_
                refine r_get (pc := 99) (v := .int (iI (N - k))) C w i_M rfl 0 rfl 7 (by decide) fl_M_52 rfl rfl d_M_erase_99 ?_
                refine r_callVI (pc := 102) (As := [.int (iI (N - k))]) (rest := []) (wr := []) C w (c_M_ends hT q0 q1 q2 q3 q4 q5 q6 q7 q8 q9 nw pt rcd sl sv l1 ot (N - k) pd m wr wm ss lz rm (N - k) (by omega) (fun x h1 h2 => by rw [hag x h1 h2]; unfold del; split; exact hvr x h1 (by omega); exact hvr (x + k) (by omega) (by omega)) (by omega)) ml_M_79 im_M_ends se_M_ends ini_M cd_M_ends hd_M_ends rfl (by rw [hRm]; exact ⟨⟨Nat.le_of_ble_eq_true rfl, Nat.le_of_ble_eq_true rfl⟩, Nat.le_of_ble_eq_true rfl, Nat.le_of_ble_eq_true rfl⟩) hl.1 [0, 1, 2, 3, 4, 5, 6, 7, 8, 9] [] ⟨rfl, rfl, by decide, by decide, by decide⟩ 0 rfl rfl rfl (Nat.le_of_ble_eq_true rfl) d_M_erase_102 (fun z_102 u_102 H locs hz_102 w => ?_)
                exact kret _ _ _ _ z_102 _ d_M_erase_105 w (m_fin hS (by unfold errEr; (repeat' split) <;> omega) (by omega) (by omega) hag (rfl) hR hM hC hz_102)
              · skip
                refine r_bipush (pc := 92) C d_M_erase_92 (by decide) ?_
                refine r_goto (pc := 94) (tgt := 105) C d_M_erase_94 (by decide) ?_
                exact kret _ _ _ _ (-5) _ d_M_erase_105 w (by obtain ⟨g1, rfl⟩ := SpE_err hS (-5) (by unfold errEr; (repeat' split) <;> omega) (by omega); exact ⟨g1, ⟨hR, q1, q2, q3, q4, q5, q6, q7, q8, q9, nw, pt, sl, sv, _, _, _, pd, wr, wm, ss, lz, rm, rfl, hM, hC⟩⟩)
          · skip
            have hb_70 : ¬ ((N - k) ≤ 3000 ∧ rc l1 (N - k) ≤ 50) := by omega
            clear hz_67 c_70
            exact absurd hb_70 (by omega)
        · skip
          refine r_aload_n (pc := 34) C d_M_erase_34 rfl (lv_at hl 0 rfl) ?_
          refine r_get (pc := 35) (v := .ref q4) C w i_M rfl 0 rfl 5 (by decide) fl_M_19 rfl rfl d_M_erase_35 ?_
          refine r_iload (pc := 38) C d_M_erase_38 (lv_at hl 4 rfl) ?_
          refine r_aload_n (pc := 40) C d_M_erase_40 rfl (lv_at hl 0 rfl) ?_
          refine r_get (pc := 41) (v := .ref q4) C w i_M rfl 0 rfl 5 (by decide) fl_M_19 rfl rfl d_M_erase_41 ?_
          refine r_iload (pc := 44) C d_M_erase_44 (lv_at hl 4 rfl) ?_
          refine r_iload_n (pc := 46) C d_M_erase_46 rfl (lv_at hl 2 rfl) ?_
          refine r_iadd (pc := 47) C d_M_erase_47 ?_
          refine r_iald (pc := 48) (f := l1) (i := (i + k)) C w 0 4 rfl hT.1 (by omega) d_M_erase_48 ?_
          refine r_iast (pc := 49) (f := l1) (i := i) (v := (l1 (i + k))) (ws' := mw cI q0 q1 q2 q3 q4 q5 q6 q7 q8 q9 nw pt rcd sl sv (up l1 i (l1 (i + k))) ot N pd m wr wm ss lz rm) C w 0 4 rfl hT.1 (by omega) rfl d_M_erase_49 (fun H locs w => ?_)
          refine r_iinc (pc := 50) (j := 4) (lv' := [(4, .int (iI (i + 1))), (0, .ref q0), (1, .int (iI f)), (2, .int (iI k)), (3, .int (iI (cn li_3 10 f (f + k))))]) C d_M_erase_50 hl rfl (by decide) rfl (fun ls hl => ?_)
          refine r_goto (pc := 53) (tgt := 23) C d_M_erase_53 (by decide) ?_
          exact ih23 (i + 1) (up l1 i (l1 (i + k))) (by omega) ((fun x h1 h2 => by by_cases e : x = i; rw [e, up_eq, hb (i + k) (by omega) (by omega)]; unfold del; rw [if_neg (by omega)]; rw [up_ne _ _ e]; exact ha x h1 (by omega))) ((fun x h1 h2 => by rw [up_ne _ _ (by omega)]; exact hb x (by omega) h2)) (by omega) _ _ _ w (lv_sub hl [1, 2, 3, 4, 0] rfl)
    exact L23 ((N - k - f) + 1 : Int).toNat f li_3 (by first | omega | rfl) ((fun x h1 h2 => by rw [hli_3 x h1 (by omega)]; unfold del; rw [if_pos h2])) ((fun x h1 h2 => hli_3 x (by omega) h2)) (by omega) _ _ _ w (lv_sub hl [2, 3, 4, 1, 0] rfl)
  · skip
    have hb_6 : ¬ (0 ≤ f ∧ 1 ≤ k ∧ k ≤ N - f) := by omega
    clear hz_3 c_6
    refine r_iconst (pc := 9) C d_M_erase_9 ?_
    exact kret _ _ _ _ (-1) _ d_M_erase_10 w (by obtain ⟨g1, rfl⟩ := SpE_err hS (-1) (by unfold errEr; (repeat' split) <;> omega) (by omega); exact ⟨g1, ⟨hR, q1, q2, q3, q4, q5, q6, q7, q8, q9, nw, pt, sl, sv, _, _, _, pd, wr, wm, ss, lz, rm, rfl, hM, hC⟩⟩)
theorem d_M_write_0 : decode b_M_write 0 = .ok (.aload_n 0, 1) := by decide +kernel
theorem d_M_write_1 : decode b_M_write 1 = .ok (.iload_n 1, 1) := by decide +kernel
theorem d_M_write_2 : decode b_M_write 2 = .ok (.iload_n 2, 1) := by decide +kernel
theorem d_M_write_3 : decode b_M_write 3 = .ok (.invokevirtual 82, 3) := by decide +kernel
theorem d_M_write_6 : decode b_M_write 6 = .ok (.ifCond .ne 5, 3) := by decide +kernel
theorem d_M_write_9 : decode b_M_write 9 = .ok (.iconst (-1), 1) := by decide +kernel
theorem d_M_write_10 : decode b_M_write 10 = .ok (.ireturn, 1) := by decide +kernel
theorem d_M_write_11 : decode b_M_write 11 = .ok (.iload_n 3, 1) := by decide +kernel
theorem d_M_write_12 : decode b_M_write 12 = .ok (.iconst 0, 1) := by decide +kernel
theorem d_M_write_13 : decode b_M_write 13 = .ok (.bipush 9, 2) := by decide +kernel
theorem d_M_write_15 : decode b_M_write 15 = .ok (.invokestatic 75, 3) := by decide +kernel
theorem d_M_write_18 : decode b_M_write 18 = .ok (.ifCond .ne 6, 3) := by decide +kernel
theorem d_M_write_21 : decode b_M_write 21 = .ok (.bipush (-2), 2) := by decide +kernel
theorem d_M_write_23 : decode b_M_write 23 = .ok (.ireturn, 1) := by decide +kernel
theorem d_M_write_24 : decode b_M_write 24 = .ok (.iconst 0, 1) := by decide +kernel
theorem d_M_write_25 : decode b_M_write 25 = .ok (.istore 4, 2) := by decide +kernel
theorem d_M_write_27 : decode b_M_write 27 = .ok (.iload_n 1, 1) := by decide +kernel
theorem d_M_write_28 : decode b_M_write 28 = .ok (.istore 5, 2) := by decide +kernel
theorem d_M_write_30 : decode b_M_write 30 = .ok (.iload 5, 2) := by decide +kernel
theorem d_M_write_32 : decode b_M_write 32 = .ok (.iload_n 1, 1) := by decide +kernel
theorem d_M_write_33 : decode b_M_write 33 = .ok (.iload_n 2, 1) := by decide +kernel
theorem d_M_write_34 : decode b_M_write 34 = .ok (.iadd, 1) := by decide +kernel
theorem d_M_write_35 : decode b_M_write 35 = .ok (.if_icmp .ge 67, 3) := by decide +kernel
theorem d_M_write_38 : decode b_M_write 38 = .ok (.iload 4, 2) := by decide +kernel
theorem d_M_write_40 : decode b_M_write 40 = .ok (.aload_n 0, 1) := by decide +kernel
theorem d_M_write_41 : decode b_M_write 41 = .ok (.getfield 19, 3) := by decide +kernel
theorem d_M_write_44 : decode b_M_write 44 = .ok (.iload 5, 2) := by decide +kernel
theorem d_M_write_46 : decode b_M_write 46 = .ok (.iaload, 1) := by decide +kernel
theorem d_M_write_47 : decode b_M_write 47 = .ok (.bipush 10, 2) := by decide +kernel
theorem d_M_write_49 : decode b_M_write 49 = .ok (.if_icmp .eq 18, 3) := by decide +kernel
theorem d_M_write_52 : decode b_M_write 52 = .ok (.aload_n 0, 1) := by decide +kernel
theorem d_M_write_53 : decode b_M_write 53 = .ok (.getfield 19, 3) := by decide +kernel
theorem d_M_write_56 : decode b_M_write 56 = .ok (.iload 5, 2) := by decide +kernel
theorem d_M_write_58 : decode b_M_write 58 = .ok (.iaload, 1) := by decide +kernel
theorem d_M_write_59 : decode b_M_write 59 = .ok (.iload_n 3, 1) := by decide +kernel
theorem d_M_write_60 : decode b_M_write 60 = .ok (.if_icmp .eq 7, 3) := by decide +kernel
theorem d_M_write_63 : decode b_M_write 63 = .ok (.iconst 1, 1) := by decide +kernel
theorem d_M_write_64 : decode b_M_write 64 = .ok (.goto 4, 3) := by decide +kernel
theorem d_M_write_67 : decode b_M_write 67 = .ok (.iconst 0, 1) := by decide +kernel
theorem d_M_write_68 : decode b_M_write 68 = .ok (.iadd, 1) := by decide +kernel
theorem d_M_write_69 : decode b_M_write 69 = .ok (.istore 4, 2) := by decide +kernel
theorem d_M_write_71 : decode b_M_write 71 = .ok (.aload_n 0, 1) := by decide +kernel
theorem d_M_write_72 : decode b_M_write 72 = .ok (.getfield 19, 3) := by decide +kernel
theorem d_M_write_75 : decode b_M_write 75 = .ok (.iload 5, 2) := by decide +kernel
theorem d_M_write_77 : decode b_M_write 77 = .ok (.aload_n 0, 1) := by decide +kernel
theorem d_M_write_78 : decode b_M_write 78 = .ok (.getfield 19, 3) := by decide +kernel
theorem d_M_write_81 : decode b_M_write 81 = .ok (.iload 5, 2) := by decide +kernel
theorem d_M_write_83 : decode b_M_write 83 = .ok (.iaload, 1) := by decide +kernel
theorem d_M_write_84 : decode b_M_write 84 = .ok (.bipush 10, 2) := by decide +kernel
theorem d_M_write_86 : decode b_M_write 86 = .ok (.if_icmp .ne 8, 3) := by decide +kernel
theorem d_M_write_89 : decode b_M_write 89 = .ok (.bipush 10, 2) := by decide +kernel
theorem d_M_write_91 : decode b_M_write 91 = .ok (.goto 4, 3) := by decide +kernel
theorem d_M_write_94 : decode b_M_write 94 = .ok (.iload_n 3, 1) := by decide +kernel
theorem d_M_write_95 : decode b_M_write 95 = .ok (.iastore, 1) := by decide +kernel
theorem d_M_write_96 : decode b_M_write 96 = .ok (.iinc 5 1, 3) := by decide +kernel
theorem d_M_write_99 : decode b_M_write 99 = .ok (.goto (-69), 3) := by decide +kernel
theorem d_M_write_102 : decode b_M_write 102 = .ok (.aload_n 0, 1) := by decide +kernel
theorem d_M_write_103 : decode b_M_write 103 = .ok (.iload 4, 2) := by decide +kernel
theorem d_M_write_105 : decode b_M_write 105 = .ok (.invokevirtual 79, 3) := by decide +kernel
theorem d_M_write_108 : decode b_M_write 108 = .ok (.ireturn, 1) := by decide +kernel
set_option maxHeartbeats 4000000 in
set_option maxRecDepth 20000 in
theorem c_M_write {l : Launch} {G : va_G} {tys : List (ClassId × FieldType)} {cI cO cZ : ClassId} (hT : TY tys cI cO cZ) (q0 : Nat) (A A' : AS) (z : Int) (ws : va_W) (hA : MW cI q0 A ws) (f k y : Int) (hrg : (-2147483648 ≤ f ∧ f < 2147483648) ∧ (-2147483648 ≤ k ∧ k < 2147483648) ∧ (-2147483648 ≤ y ∧ y < 2147483648)) (hS : Sp_write f k y A z A') : CTI l G tys y_M_write b_M_write 6 .int 4 88 [.ref q0, .int (iI f), .int (iI k), .int (iI y)] ws (fun z' u => z' = z ∧ MW cI q0 A' u) := by
  obtain ⟨⟨lc, sd, r, sg, ln, N, v⟩, hist, rcd, slot, uf, T, m⟩ := A
  obtain ⟨hR, q1, q2, q3, q4, q5, q6, q7, q8, q9, nw, pt, sl, sv, li, ot, len, pd, wr, wm, ss, lz, rm, rfl, hM, hC⟩ := hA
  have hO := hR.1
  have hr5 := hR.2.1
  have hN3 := hR.2.2.1
  have hN0 := hO.n0
  have hr0 := hO.1
  have hlcd := hR.2.2.2
  have hm80 := hC.2.2.2.2.1
  have hrcd6 := hC.1
  have hvr := hO.v_rg
  have hm0 : nw 0 = lc := hM.1
  have hm1 : nw 1 = sd := hM.2.1
  have hm2 : nw 2 = r := hM.2.2.1
  have hS : SpE ((lc, sd, r, sg, ln, N, v), hist, rcd, slot, uf, T, m) z A' (errWr N f k 0 y) (lc) (sd) (N) (edt f (f + k) 0 y v) (ps (edc f (f + k) 0 y v) N) := hS
  refine mkI (by decide) (Nat.le_of_ble_eq_true rfl) ?_
  rintro X rfl rfl rfl hRm C kret H ls w hl
  have hl : lv_has ls 6 [(0, .ref q0), (1, .int (iI f)), (2, .int (iI k)), (3, .int (iI y))] := hl
  have w : Wd X (mw cI q0 q1 q2 q3 q4 q5 q6 q7 q8 q9 nw pt rcd sl sv li ot len pd m wr wm ss lz rm) H [] := w
  generalize ([] : List Loc) = locs at w ⊢
  refine r_aload_n (pc := 0) C d_M_write_0 rfl (lv_at hl 0 rfl) ?_
  refine r_iload_n (pc := 1) C d_M_write_1 rfl (lv_at hl 1 rfl) ?_
  refine r_iload_n (pc := 2) C d_M_write_2 rfl (lv_at hl 2 rfl) ?_
  refine r_callVI (pc := 3) (As := [.int (iI f), .int (iI k)]) (rest := []) (wr := []) C w (c_M_hasPiece hT q0 q1 q2 q3 q4 q5 q6 q7 q8 q9 nw pt rcd sl sv li ot len pd m wr wm ss lz rm f k _ _ _ _ _ _ _ hR hM (by omega)) ml_M_82 im_M_hasPiece se_M_hasPiece ini_M cd_M_hasPiece hd_M_hasPiece rfl (by rw [hRm]; exact ⟨⟨Nat.le_of_ble_eq_true rfl, Nat.le_of_ble_eq_true rfl⟩, Nat.le_of_ble_eq_true rfl, Nat.le_of_ble_eq_true rfl⟩) hl.1 [0, 1, 2, 3, 4, 5, 6, 7, 8, 9] [] ⟨rfl, rfl, by decide, by decide, by decide⟩ 0 rfl rfl rfl (Nat.le_of_ble_eq_true rfl) d_M_write_3 (fun z_3 u_3 H locs hz_3 w => ?_)
  obtain ⟨li_3, rfl, hli_3, hz_3⟩ := hz_3
  have w : Wd X (mw cI q0 q1 q2 q3 q4 q5 q6 q7 q8 q9 nw pt rcd sl sv li_3 ot N pd m wr wm ss lz rm) H locs := w
  refine r_if_ne (pc := 6) (tgt := 11) C (by omega) d_M_write_6 (by decide) (fun c_6 => ?_) (fun c_6 => ?_)
  · skip
    have hb_6 : 0 ≤ f ∧ 1 ≤ k ∧ k ≤ N - f := by omega
    clear hz_3 c_6
    refine r_iload_n (pc := 11) C d_M_write_11 rfl (lv_at hl 3 rfl) ?_
    refine r_iconst (pc := 12) C d_M_write_12 ?_
    refine r_bipush (pc := 13) C d_M_write_13 (by decide) ?_
    refine r_callP (pc := 15) (As := [.int (iI y), .int (iI 0), .int (iI 9)]) (rest := []) C w (c_M_in y 0 9 (by omega)) ml_M_75 st_M_in ini_M cd_M_in hd_M_in rfl (by rw [hRm]; exact ⟨⟨Nat.le_of_ble_eq_true rfl, Nat.le_of_ble_eq_true rfl⟩, Nat.le_of_ble_eq_true rfl, Nat.le_of_ble_eq_true rfl⟩) hl.1 rfl (Nat.le_of_ble_eq_true rfl) d_M_write_15 (fun z_15 H locs hz_15 w => ?_)
    refine r_if_ne (pc := 18) (tgt := 24) C (by omega) d_M_write_18 (by decide) (fun c_18 => ?_) (fun c_18 => ?_)
    · skip
      have hb_18 : 0 ≤ y ∧ y ≤ 9 := by omega
      clear hz_15 c_18
      have hout := edc_out (N := N) (f := f) (k := k) (ed := 0) (num := y) (v := v) (by omega) (by omega) (by omega)
      refine r_iconst (pc := 24) C d_M_write_24 ?_
      refine r_istore (pc := 25) (lv' := [(4, .int (iI 0)), (0, .ref q0), (1, .int (iI f)), (2, .int (iI k)), (3, .int (iI y))]) C d_M_write_25 hl (by decide) rfl (fun ls hl => ?_)
      refine r_iload_n (pc := 27) C d_M_write_27 rfl (lv_at hl 2 rfl) ?_
      refine r_istore (pc := 28) (lv' := [(5, .int (iI f)), (4, .int (iI 0)), (0, .ref q0), (1, .int (iI f)), (2, .int (iI k)), (3, .int (iI y))]) C d_M_write_28 hl (by decide) rfl (fun ls hl => ?_)
      have L30 : ∀ (fuel : Nat), ∀ (i : Int) (n : Int) (l1 : Int → Int), f ≤ i ∧ i ≤ f + k → n = ps (edc f (f + k) 0 y v) i → (∀ x, 0 ≤ x → x < i → l1 x = edt f (f + k) 0 y v x) → (∀ x, i ≤ x → x < N → l1 x = v x) → (f + k - i) < (fuel : Int) → ∀ (H : Heap) (locs : List Loc) (ls : Array Slot), Wd X (mw cI q0 q1 q2 q3 q4 q5 q6 q7 q8 q9 nw pt rcd sl sv l1 ot N pd m wr wm ss lz rm) H locs → lv_has ls 6 [(0, .ref q0), (1, .int (iI f)), (2, .int (iI k)), (3, .int (iI y)), (4, .int (iI n)), (5, .int (iI i))] → GG X 0 0 H locs 30 ls [] := by
        intro fuel
        induction fuel with
        | zero =>
          intro i n l1 h0 hn ha hb hfuel
          exact absurd hfuel (by omega)
        | succ fuel ih30 =>
          intro i n l1 h0 hn ha hb hfuel H locs ls w hl
          refine r_iload (pc := 30) C d_M_write_30 (lv_at hl 5 rfl) ?_
          refine r_iload_n (pc := 32) C d_M_write_32 rfl (lv_at hl 1 rfl) ?_
          refine r_iload_n (pc := 33) C d_M_write_33 rfl (lv_at hl 2 rfl) ?_
          refine r_iadd (pc := 34) C d_M_write_34 ?_
          refine r_icmp_ge (pc := 35) (tgt := 102) C (by omega) d_M_write_35 (by decide) (fun c_35 => ?_) (fun c_35 => ?_)
          · skip
            have hag := edt_done (by omega : i = f + k) ha hb
            refine r_aload_n (pc := 102) C d_M_write_102 rfl (lv_at hl 0 rfl) ?_
            refine r_iload (pc := 103) C d_M_write_103 (lv_at hl 4 rfl) ?_
            refine r_callVI (pc := 105) (As := [.int (iI n)]) (rest := []) (wr := []) C w (c_M_ends hT q0 q1 q2 q3 q4 q5 q6 q7 q8 q9 nw pt rcd sl sv l1 ot N pd m wr wm ss lz rm n (by omega) (fun x h1 h2 => by rw [hag x h1 h2]; unfold edt; split; exact sa_range (hvr x h1 h2) (by omega); exact hvr x h1 h2) (by omega)) ml_M_79 im_M_ends se_M_ends ini_M cd_M_ends hd_M_ends rfl (by rw [hRm]; exact ⟨⟨Nat.le_of_ble_eq_true rfl, Nat.le_of_ble_eq_true rfl⟩, Nat.le_of_ble_eq_true rfl, Nat.le_of_ble_eq_true rfl⟩) hl.1 [0, 1, 2, 3, 4, 5, 6, 7, 8, 9] [] ⟨rfl, rfl, by decide, by decide, by decide⟩ 0 rfl rfl rfl (Nat.le_of_ble_eq_true rfl) d_M_write_105 (fun z_105 u_105 H locs hz_105 w => ?_)
            exact kret _ _ _ _ z_105 _ d_M_write_108 w (m_fin hS (by unfold errWr; (repeat' split) <;> omega) (by omega) (by omega) hag (by rw [hn, hout.2, show i = f + k by omega]) hR hM hC hz_105)
          · skip
            have hli1 := hb i (by omega) (by omega)
            have hvi := hvr i (by omega) (by omega)
            have hsa := sa_cases 0 (v i) y
            refine r_iload (pc := 38) C d_M_write_38 (lv_at hl 4 rfl) ?_
            refine r_aload_n (pc := 40) C d_M_write_40 rfl (lv_at hl 0 rfl) ?_
            refine r_get (pc := 41) (v := .ref q4) C w i_M rfl 0 rfl 5 (by decide) fl_M_19 rfl rfl d_M_write_41 ?_
            refine r_iload (pc := 44) C d_M_write_44 (lv_at hl 5 rfl) ?_
            refine r_iald (pc := 46) (f := l1) (i := i) C w 0 4 rfl hT.1 (by omega) d_M_write_46 ?_
            refine r_bipush (pc := 47) C d_M_write_47 (by decide) ?_
            refine r_icmp_eq (pc := 49) (tgt := 67) C (by omega) d_M_write_49 (by decide) (fun c_49 => ?_) (fun c_49 => ?_)
            · skip
              refine r_iconst (pc := 67) C d_M_write_67 ?_
              refine r_iadd (pc := 68) C d_M_write_68 ?_
              refine r_istore (pc := 69) (lv' := [(4, .int (iI (n + 0))), (0, .ref q0), (1, .int (iI f)), (2, .int (iI k)), (3, .int (iI y)), (5, .int (iI i))]) C d_M_write_69 hl (by decide) rfl (fun ls hl => ?_)
              refine r_aload_n (pc := 71) C d_M_write_71 rfl (lv_at hl 1 rfl) ?_
              refine r_get (pc := 72) (v := .ref q4) C w i_M rfl 0 rfl 5 (by decide) fl_M_19 rfl rfl d_M_write_72 ?_
              refine r_iload (pc := 75) C d_M_write_75 (lv_at hl 5 rfl) ?_
              refine r_aload_n (pc := 77) C d_M_write_77 rfl (lv_at hl 1 rfl) ?_
              refine r_get (pc := 78) (v := .ref q4) C w i_M rfl 0 rfl 5 (by decide) fl_M_19 rfl rfl d_M_write_78 ?_
              refine r_iload (pc := 81) C d_M_write_81 (lv_at hl 5 rfl) ?_
              refine r_iald (pc := 83) (f := l1) (i := i) C w 0 4 rfl hT.1 (by omega) d_M_write_83 ?_
              refine r_bipush (pc := 84) C d_M_write_84 (by decide) ?_
              refine r_icmp_ne (pc := 86) (tgt := 94) C (by omega) d_M_write_86 (by decide) (fun c_86 => ?_) (fun c_86 => ?_)
              · skip
                refine r_iload_n (pc := 94) C d_M_write_94 rfl (lv_at hl 4 rfl) ?_
                refine r_iast (pc := 95) (f := l1) (i := i) (v := y) (ws' := mw cI q0 q1 q2 q3 q4 q5 q6 q7 q8 q9 nw pt rcd sl sv (up l1 i y) ot N pd m wr wm ss lz rm) C w 0 4 rfl hT.1 (by omega) rfl d_M_write_95 (fun H locs w => ?_)
                refine r_iinc (pc := 96) (j := 5) (lv' := [(5, .int (iI (i + 1))), (4, .int (iI (n + 0))), (0, .ref q0), (1, .int (iI f)), (2, .int (iI k)), (3, .int (iI y))]) C d_M_write_96 hl rfl (by decide) rfl (fun ls hl => ?_)
                refine r_goto (pc := 99) (tgt := 30) C d_M_write_99 (by decide) ?_
                exact ih30 (i + 1) (n + 0) (up l1 i y) (by omega) ((by first | (exfalso; omega) | (rw [ps_succ _ (by omega), hn]; unfold edc; first | rw [if_pos ⟨⟨by omega, by omega⟩, by omega⟩] | rw [if_neg (by intro z; exact z.2 (by omega))]))) ((edt_step ⟨by omega, by omega⟩ ha hb (by omega)).1) ((edt_step ⟨by omega, by omega⟩ ha hb (by omega)).2) (by omega) _ _ _ w (lv_sub hl [2, 3, 4, 5, 1, 0] rfl)
              · skip
                refine r_bipush (pc := 89) C d_M_write_89 (by decide) ?_
                refine r_goto (pc := 91) (tgt := 95) C d_M_write_91 (by decide) ?_
                refine r_iast (pc := 95) (f := l1) (i := i) (v := 10) (ws' := mw cI q0 q1 q2 q3 q4 q5 q6 q7 q8 q9 nw pt rcd sl sv (up l1 i 10) ot N pd m wr wm ss lz rm) C w 0 4 rfl hT.1 (by omega) rfl d_M_write_95 (fun H locs w => ?_)
                refine r_iinc (pc := 96) (j := 5) (lv' := [(5, .int (iI (i + 1))), (4, .int (iI (n + 0))), (0, .ref q0), (1, .int (iI f)), (2, .int (iI k)), (3, .int (iI y))]) C d_M_write_96 hl rfl (by decide) rfl (fun ls hl => ?_)
                refine r_goto (pc := 99) (tgt := 30) C d_M_write_99 (by decide) ?_
                exact ih30 (i + 1) (n + 0) (up l1 i 10) (by omega) ((by first | (exfalso; omega) | (rw [ps_succ _ (by omega), hn]; unfold edc; first | rw [if_pos ⟨⟨by omega, by omega⟩, by omega⟩] | rw [if_neg (by intro z; exact z.2 (by omega))]))) ((edt_step ⟨by omega, by omega⟩ ha hb (by omega)).1) ((edt_step ⟨by omega, by omega⟩ ha hb (by omega)).2) (by omega) _ _ _ w (lv_sub hl [2, 3, 4, 5, 1, 0] rfl)
            · skip
              refine r_aload_n (pc := 52) C d_M_write_52 rfl (lv_at hl 0 rfl) ?_
              refine r_get (pc := 53) (v := .ref q4) C w i_M rfl 0 rfl 5 (by decide) fl_M_19 rfl rfl d_M_write_53 ?_
              refine r_iload (pc := 56) C d_M_write_56 (lv_at hl 5 rfl) ?_
              refine r_iald (pc := 58) (f := l1) (i := i) C w 0 4 rfl hT.1 (by omega) d_M_write_58 ?_
              refine r_iload_n (pc := 59) C d_M_write_59 rfl (lv_at hl 3 rfl) ?_
              refine r_icmp_eq (pc := 60) (tgt := 67) C (by omega) d_M_write_60 (by decide) (fun c_60 => ?_) (fun c_60 => ?_)
              · skip
                refine r_iconst (pc := 67) C d_M_write_67 ?_
                refine r_iadd (pc := 68) C d_M_write_68 ?_
                refine r_istore (pc := 69) (lv' := [(4, .int (iI (n + 0))), (0, .ref q0), (1, .int (iI f)), (2, .int (iI k)), (3, .int (iI y)), (5, .int (iI i))]) C d_M_write_69 hl (by decide) rfl (fun ls hl => ?_)
                refine r_aload_n (pc := 71) C d_M_write_71 rfl (lv_at hl 1 rfl) ?_
                refine r_get (pc := 72) (v := .ref q4) C w i_M rfl 0 rfl 5 (by decide) fl_M_19 rfl rfl d_M_write_72 ?_
                refine r_iload (pc := 75) C d_M_write_75 (lv_at hl 5 rfl) ?_
                refine r_aload_n (pc := 77) C d_M_write_77 rfl (lv_at hl 1 rfl) ?_
                refine r_get (pc := 78) (v := .ref q4) C w i_M rfl 0 rfl 5 (by decide) fl_M_19 rfl rfl d_M_write_78 ?_
                refine r_iload (pc := 81) C d_M_write_81 (lv_at hl 5 rfl) ?_
                refine r_iald (pc := 83) (f := l1) (i := i) C w 0 4 rfl hT.1 (by omega) d_M_write_83 ?_
                refine r_bipush (pc := 84) C d_M_write_84 (by decide) ?_
                refine r_icmp_ne (pc := 86) (tgt := 94) C (by omega) d_M_write_86 (by decide) (fun c_86 => ?_) (fun c_86 => ?_)
                · skip
                  refine r_iload_n (pc := 94) C d_M_write_94 rfl (lv_at hl 4 rfl) ?_
                  refine r_iast (pc := 95) (f := l1) (i := i) (v := y) (ws' := mw cI q0 q1 q2 q3 q4 q5 q6 q7 q8 q9 nw pt rcd sl sv (up l1 i y) ot N pd m wr wm ss lz rm) C w 0 4 rfl hT.1 (by omega) rfl d_M_write_95 (fun H locs w => ?_)
                  refine r_iinc (pc := 96) (j := 5) (lv' := [(5, .int (iI (i + 1))), (4, .int (iI (n + 0))), (0, .ref q0), (1, .int (iI f)), (2, .int (iI k)), (3, .int (iI y))]) C d_M_write_96 hl rfl (by decide) rfl (fun ls hl => ?_)
                  refine r_goto (pc := 99) (tgt := 30) C d_M_write_99 (by decide) ?_
                  exact ih30 (i + 1) (n + 0) (up l1 i y) (by omega) ((by first | (exfalso; omega) | (rw [ps_succ _ (by omega), hn]; unfold edc; first | rw [if_pos ⟨⟨by omega, by omega⟩, by omega⟩] | rw [if_neg (by intro z; exact z.2 (by omega))]))) ((edt_step ⟨by omega, by omega⟩ ha hb (by omega)).1) ((edt_step ⟨by omega, by omega⟩ ha hb (by omega)).2) (by omega) _ _ _ w (lv_sub hl [2, 3, 4, 5, 1, 0] rfl)
                · skip
                  refine r_bipush (pc := 89) C d_M_write_89 (by decide) ?_
                  refine r_goto (pc := 91) (tgt := 95) C d_M_write_91 (by decide) ?_
                  refine r_iast (pc := 95) (f := l1) (i := i) (v := 10) (ws' := mw cI q0 q1 q2 q3 q4 q5 q6 q7 q8 q9 nw pt rcd sl sv (up l1 i 10) ot N pd m wr wm ss lz rm) C w 0 4 rfl hT.1 (by omega) rfl d_M_write_95 (fun H locs w => ?_)
                  refine r_iinc (pc := 96) (j := 5) (lv' := [(5, .int (iI (i + 1))), (4, .int (iI (n + 0))), (0, .ref q0), (1, .int (iI f)), (2, .int (iI k)), (3, .int (iI y))]) C d_M_write_96 hl rfl (by decide) rfl (fun ls hl => ?_)
                  refine r_goto (pc := 99) (tgt := 30) C d_M_write_99 (by decide) ?_
                  exact ih30 (i + 1) (n + 0) (up l1 i 10) (by omega) ((by first | (exfalso; omega) | (rw [ps_succ _ (by omega), hn]; unfold edc; first | rw [if_pos ⟨⟨by omega, by omega⟩, by omega⟩] | rw [if_neg (by intro z; exact z.2 (by omega))]))) ((edt_step ⟨by omega, by omega⟩ ha hb (by omega)).1) ((edt_step ⟨by omega, by omega⟩ ha hb (by omega)).2) (by omega) _ _ _ w (lv_sub hl [2, 3, 4, 5, 1, 0] rfl)
              · skip
                refine r_iconst (pc := 63) C d_M_write_63 ?_
                refine r_goto (pc := 64) (tgt := 68) C d_M_write_64 (by decide) ?_
                refine r_iadd (pc := 68) C d_M_write_68 ?_
                refine r_istore (pc := 69) (lv' := [(4, .int (iI (n + 1))), (0, .ref q0), (1, .int (iI f)), (2, .int (iI k)), (3, .int (iI y)), (5, .int (iI i))]) C d_M_write_69 hl (by decide) rfl (fun ls hl => ?_)
                refine r_aload_n (pc := 71) C d_M_write_71 rfl (lv_at hl 1 rfl) ?_
                refine r_get (pc := 72) (v := .ref q4) C w i_M rfl 0 rfl 5 (by decide) fl_M_19 rfl rfl d_M_write_72 ?_
                refine r_iload (pc := 75) C d_M_write_75 (lv_at hl 5 rfl) ?_
                refine r_aload_n (pc := 77) C d_M_write_77 rfl (lv_at hl 1 rfl) ?_
                refine r_get (pc := 78) (v := .ref q4) C w i_M rfl 0 rfl 5 (by decide) fl_M_19 rfl rfl d_M_write_78 ?_
                refine r_iload (pc := 81) C d_M_write_81 (lv_at hl 5 rfl) ?_
                refine r_iald (pc := 83) (f := l1) (i := i) C w 0 4 rfl hT.1 (by omega) d_M_write_83 ?_
                refine r_bipush (pc := 84) C d_M_write_84 (by decide) ?_
                refine r_icmp_ne (pc := 86) (tgt := 94) C (by omega) d_M_write_86 (by decide) (fun c_86 => ?_) (fun c_86 => ?_)
                · skip
                  refine r_iload_n (pc := 94) C d_M_write_94 rfl (lv_at hl 4 rfl) ?_
                  refine r_iast (pc := 95) (f := l1) (i := i) (v := y) (ws' := mw cI q0 q1 q2 q3 q4 q5 q6 q7 q8 q9 nw pt rcd sl sv (up l1 i y) ot N pd m wr wm ss lz rm) C w 0 4 rfl hT.1 (by omega) rfl d_M_write_95 (fun H locs w => ?_)
                  refine r_iinc (pc := 96) (j := 5) (lv' := [(5, .int (iI (i + 1))), (4, .int (iI (n + 1))), (0, .ref q0), (1, .int (iI f)), (2, .int (iI k)), (3, .int (iI y))]) C d_M_write_96 hl rfl (by decide) rfl (fun ls hl => ?_)
                  refine r_goto (pc := 99) (tgt := 30) C d_M_write_99 (by decide) ?_
                  exact ih30 (i + 1) (n + 1) (up l1 i y) (by omega) ((by first | (exfalso; omega) | (rw [ps_succ _ (by omega), hn]; unfold edc; first | rw [if_pos ⟨⟨by omega, by omega⟩, by omega⟩] | rw [if_neg (by intro z; exact z.2 (by omega))]))) ((edt_step ⟨by omega, by omega⟩ ha hb (by omega)).1) ((edt_step ⟨by omega, by omega⟩ ha hb (by omega)).2) (by omega) _ _ _ w (lv_sub hl [2, 3, 4, 5, 1, 0] rfl)
                · skip
                  refine r_bipush (pc := 89) C d_M_write_89 (by decide) ?_
                  refine r_goto (pc := 91) (tgt := 95) C d_M_write_91 (by decide) ?_
                  refine r_iast (pc := 95) (f := l1) (i := i) (v := 10) (ws' := mw cI q0 q1 q2 q3 q4 q5 q6 q7 q8 q9 nw pt rcd sl sv (up l1 i 10) ot N pd m wr wm ss lz rm) C w 0 4 rfl hT.1 (by omega) rfl d_M_write_95 (fun H locs w => ?_)
                  refine r_iinc (pc := 96) (j := 5) (lv' := [(5, .int (iI (i + 1))), (4, .int (iI (n + 1))), (0, .ref q0), (1, .int (iI f)), (2, .int (iI k)), (3, .int (iI y))]) C d_M_write_96 hl rfl (by decide) rfl (fun ls hl => ?_)
                  refine r_goto (pc := 99) (tgt := 30) C d_M_write_99 (by decide) ?_
                  exact ih30 (i + 1) (n + 1) (up l1 i 10) (by omega) ((by first | (exfalso; omega) | (rw [ps_succ _ (by omega), hn]; unfold edc; first | rw [if_pos ⟨⟨by omega, by omega⟩, by omega⟩] | rw [if_neg (by intro z; exact z.2 (by omega))]))) ((edt_step ⟨by omega, by omega⟩ ha hb (by omega)).1) ((edt_step ⟨by omega, by omega⟩ ha hb (by omega)).2) (by omega) _ _ _ w (lv_sub hl [2, 3, 4, 5, 1, 0] rfl)
      exact L30 ((f + k - f) + 1 : Int).toNat f 0 li_3 (by first | omega | rfl) (hout.1.symm) ((fun x h1 h2 => by rw [hli_3 x h1 (by omega)]; unfold edt; rw [if_neg (by omega)])) ((fun x h1 h2 => hli_3 x (by omega) h2)) (by omega) _ _ _ w (lv_sub hl [2, 3, 4, 5, 1, 0] rfl)
    · skip
      have hb_18 : ¬ (0 ≤ y ∧ y ≤ 9) := by omega
      clear hz_15 c_18
      refine r_bipush (pc := 21) C d_M_write_21 (by decide) ?_
      exact kret _ _ _ _ (-2) _ d_M_write_23 w (by obtain ⟨g1, rfl⟩ := SpE_err hS (-2) (by unfold errWr; (repeat' split) <;> omega) (by omega); exact ⟨g1, ⟨hR, q1, q2, q3, q4, q5, q6, q7, q8, q9, nw, pt, sl, sv, _, _, _, pd, wr, wm, ss, lz, rm, rfl, hM, hC⟩⟩)
  · skip
    have hb_6 : ¬ (0 ≤ f ∧ 1 ≤ k ∧ k ≤ N - f) := by omega
    clear hz_3 c_6
    refine r_iconst (pc := 9) C d_M_write_9 ?_
    exact kret _ _ _ _ (-1) _ d_M_write_10 w (by obtain ⟨g1, rfl⟩ := SpE_err hS (-1) (by unfold errWr; (repeat' split) <;> omega) (by omega); exact ⟨g1, ⟨hR, q1, q2, q3, q4, q5, q6, q7, q8, q9, nw, pt, sl, sv, _, _, _, pd, wr, wm, ss, lz, rm, rfl, hM, hC⟩⟩)
