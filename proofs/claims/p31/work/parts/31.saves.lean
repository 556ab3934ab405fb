/-! the write that saves most -/
theorem Ok.pre {r N : Int} {sg ln v : Int → Int} (h : Ok r sg ln N v) {k : Int} (h1 : 0 ≤ k) (h2 : k ≤ r) : Ok k sg ln (ps ln k) v := ⟨h1, fun j j1 j2 => h.2.1 j j1 (by omega), fun j j1 j2 => h.2.2.1 j j1 (by omega), rfl, fun j j1 j2 => h.2.2.2.2 j j1 (by omega)⟩
theorem rbf_cng {lc : Int} {sg ln sg' ln' : Int → Int} {k : Int} (hk : 0 ≤ k) (h : ∀ j, 0 ≤ j → j < k → sg j = sg' j ∧ ln j = ln' j) : ps (rbf lc sg ln) k = ps (rbf lc sg' ln') k := ps_congr k hk (fun j j1 j2 => by unfold rbf; rw [(h j j1 j2).1, (h j j1 j2).2])
/-- one more stretch of like signs behind a row: joined, or a run of its own -/
theorem Ok.snoc {lc r n m s : Int} {sg ln w : Int → Int} (h : Ok r sg ln n w) (hm : 1 ≤ m) (hs : 0 ≤ s ∧ s ≤ 10) (hw : ∀ x, n ≤ x → x < n + m → w x = s) : ∃ (r2 : Int) (sg2 ln2 : Int → Int), Ok r2 sg2 ln2 (n + m) w ∧ 1 ≤ r2 ∧ r2 ≤ r + 1 ∧ sg2 (r2 - 1) = s ∧ ((1 ≤ r ∧ sg (r - 1) = s ∧ ln2 (r2 - 1) = ln (r - 1) + m ∧ ps (rbf lc sg2 ln2) r2 = ps (rbf lc sg ln) r - rb lc s (ln (r - 1)) + rb lc s (ln (r - 1) + m)) ∨ (¬ (1 ≤ r ∧ sg (r - 1) = s) ∧ ln2 (r2 - 1) = m ∧ ps (rbf lc sg2 ln2) r2 = ps (rbf lc sg ln) r + rb lc s m)) := by
  have hr := h.1
  have he : ∀ x, 0 ≤ x → x < n + m → app w n s x = w x := fun x x1 x2 => by
    by_cases q : x < n
    · rw [app_lt q]
    · rw [app_ge (by omega), hw x (by omega) x2]
  by_cases q : 1 ≤ r ∧ sg (r - 1) = s
  · refine ⟨r, sg, up ln (r - 1) (ln (r - 1) + m), (h.join q.1 q.2 (by omega)).ext he, q.1, by omega, q.2, Or.inl ⟨q.1, q.2, up_eq _ _ _, ?_⟩⟩
    have e1 := ps_succ (rbf lc sg ln) (k := r - 1) (by omega)
    have e2 := ps_succ (rbf lc sg (up ln (r - 1) (ln (r - 1) + m))) (k := r - 1) (by omega)
    rw [show r - 1 + 1 = r by omega] at e1 e2
    have e3 : ps (rbf lc sg (up ln (r - 1) (ln (r - 1) + m))) (r - 1) = ps (rbf lc sg ln) (r - 1) := rbf_cng (by omega) (fun j j1 j2 => ⟨rfl, up_ne _ _ (by omega)⟩)
    have e4 : rbf lc sg ln (r - 1) = rb lc s (ln (r - 1)) := by unfold rbf; rw [q.2]
    have e5 : rbf lc sg (up ln (r - 1) (ln (r - 1) + m)) (r - 1) = rb lc s (ln (r - 1) + m) := by unfold rbf; rw [q.2, up_eq]
    omega
  · refine ⟨r + 1, up sg r s, up ln r m, (h.push (by omega) hm hs).ext he, by omega, by omega, by rw [show r + 1 - 1 = r by omega, up_eq], Or.inr ⟨q, by rw [show r + 1 - 1 = r by omega, up_eq], ?_⟩⟩
    have e2 := ps_succ (rbf lc (up sg r s) (up ln r m)) (k := r) hr
    have e3 : ps (rbf lc (up sg r s) (up ln r m)) r = ps (rbf lc sg ln) r := rbf_cng hr (fun j j1 j2 => ⟨up_ne _ _ (by omega), up_ne _ _ (by omega)⟩)
    have e5 : rbf lc (up sg r s) (up ln r m) r = rb lc s m := by unfold rbf; rw [up_eq, up_eq]
    omega
/-- what writing run k does to the row -/
theorem wr_at {r N k val : Int} {sg ln v : Int → Int} (hO : Ok r sg ln N v) (h1 : 0 ≤ k) (h2 : k < r) (hs : ¬ sg k = 10) (x : Int) : (x < ps ln k → edt (ps ln k) (ps ln k + ln k) 0 val v x = v x) ∧ (ps ln k ≤ x → x < ps ln (k + 1) → edt (ps ln k) (ps ln k + ln k) 0 val v x = val) ∧ (ps ln (k + 1) ≤ x → edt (ps ln k) (ps ln k + ln k) 0 val v x = v x) := by
  have g := hO.run h1 h2
  unfold edt
  refine ⟨fun q => by rw [if_neg (by omega)], fun q1 q2 => ?_, fun q => by rw [if_neg (by omega)]⟩
  rw [if_pos (by omega), hO.2.2.2.2 k h1 h2 x q1 q2]
  have := sa_cases 0 (sg k) val
  omega
theorem wr_count {r N k val : Int} {sg ln v : Int → Int} (hO : Ok r sg ln N v) (h1 : 0 ≤ k) (h2 : k < r) (hs : ¬ sg k = 10) (hv : ¬ val = sg k) : ps (edc (ps ln k) (ps ln k + ln k) 0 val v) N = ln k := by
  have g := hO.run h1 h2
  have a1 := ps_none (g := edc (ps ln k) (ps ln k + ln k) 0 val v) (a := 0) (by omega) (ps ln k) (by omega) (fun x x1 x2 => by unfold edc; rw [if_neg (by omega)])
  rw [Int.zero_add, ps_zero] at a1
  have a2 := ps_all (g := edc (ps ln k) (ps ln k + ln k) 0 val v) (a := ps ln k) (by omega) (ln k) (by omega) (fun x x1 x2 => by
    have hq : sa 0 (v x) val ≠ v x := by
      rw [hO.2.2.2.2 k h1 h2 x x1 (by omega)]
      have := sa_cases 0 (sg k) val
      omega
    unfold edc
    rw [if_pos ⟨⟨x1, x2⟩, hq⟩])
  have a3 := ps_none (g := edc (ps ln k) (ps ln k + ln k) 0 val v) (a := ps ln k + ln k) (by omega) (N - (ps ln k + ln k)) (by omega) (fun x x1 x2 => by unfold edc; rw [if_neg (by omega)])
  rw [show ps ln k + ln k + (N - (ps ln k + ln k)) = N by omega] at a3
  omega
theorem wr_row {lc r N k val : Int} {sg ln v : Int → Int} (hO : Ok r sg ln N v) (h1 : 0 ≤ k) (h2 : k < r) (hs : ¬ sg k = 10) (hval : 0 ≤ val ∧ val ≤ 9) : ∃ (r2 : Int) (sg2 ln2 : Int → Int), Ok r2 sg2 ln2 N (edt (ps ln k) (ps ln k + ln k) 0 val v) ∧ r2 ≤ r ∧ ps (rbf lc sg2 ln2) r2 = ps (rbf lc sg ln) r - svd lc r sg ln k val := by
  have g := hO.run h1 h2
  have hw := fun x => wr_at (val := val) hO h1 h2 hs x
  have hpre : Ok k sg ln (ps ln k) (edt (ps ln k) (ps ln k + ln k) 0 val v) := (hO.pre h1 (by omega)).ext (fun x x1 x2 => ((hw x).1 x2).symm)
  obtain ⟨ra, sa_, la, hA, ra1, ra2, ra3, hab⟩ := hpre.snoc (lc := lc) (m := ln k) (s := val) g.1 (by omega) (fun x x1 x2 => (hw x).2.1 x1 (by omega))
  have hA : Ok ra sa_ la (ps ln (k + 1)) (edt (ps ln k) (ps ln k + ln k) 0 val v) := by
    rw [g.2.2.2.2.1]
    exact hA
  have hk1 := ps_succ (rbf lc sg ln) h1
  have hk1 : ps (rbf lc sg ln) (k + 1) = ps (rbf lc sg ln) k + rb lc (sg k) (ln k) := hk1
  -- the left part of what is saved
  obtain ⟨lf, lb_, hlf, hlb, hla, hba⟩ : ∃ lf lb_ : Int, (if 0 < k ∧ sg (k - 1) = val then ln (k - 1) else 0) = lf ∧ (if 0 < k ∧ sg (k - 1) = val then rb lc (sg (k - 1)) (ln (k - 1)) else 0) = lb_ ∧ la (ra - 1) = ln k + lf ∧ ps (rbf lc sa_ la) ra = ps (rbf lc sg ln) k - lb_ + rb lc val (ln k + lf) := by
    rcases hab with ⟨q1, q2, q3, q4⟩ | ⟨q1, q3, q4⟩
    · refine ⟨ln (k - 1), rb lc val (ln (k - 1)), by rw [if_pos ⟨by omega, q2⟩], by rw [if_pos ⟨by omega, q2⟩, q2], by omega, ?_⟩
      rw [q4, show ln (k - 1) + ln k = ln k + ln (k - 1) by omega]
    · refine ⟨0, 0, by rw [if_neg (by omega)], by rw [if_neg (by omega)], by omega, ?_⟩
      rw [q4, Int.add_zero]
      omega
  have hsv : svd lc r sg ln k val = rb lc (sg k) (ln k) + lb_ + (if k < r - 1 ∧ sg (k + 1) = val then rb lc (sg (k + 1)) (ln (k + 1)) else 0) - rb lc val (ln k + lf + (if k < r - 1 ∧ sg (k + 1) = val then ln (k + 1) else 0)) := by
    unfold svd
    rw [if_neg hs, hlf, hlb]
  by_cases hl : k + 1 = r
  · rw [if_neg (by omega), if_neg (by omega), Int.add_zero, Int.add_zero] at hsv
    rw [hl] at hA hk1
    rw [hO.2.2.2.1] at hA
    exact ⟨ra, sa_, la, hA, by omega, by omega⟩
  · have g2 := hO.run (k := k + 1) (by omega) (by omega)
    obtain ⟨rb_, sb_, lb2, hB, rb1, rb2, rb3, hbb⟩ := hA.snoc (lc := lc) (m := ln (k + 1)) (s := sg (k + 1)) g2.1 (by omega) (fun x x1 x2 => by rw [(hw x).2.2 x1]; exact hO.2.2.2.2 (k + 1) (by omega) (by omega) x x1 (by omega))
    rw [← g2.2.2.2.2.1] at hB
    have hk2 := ps_succ (rbf lc sg ln) (k := k + 1) (by omega)
    have hk2 : ps (rbf lc sg ln) (k + 1 + 1) = ps (rbf lc sg ln) (k + 1) + rb lc (sg (k + 1)) (ln (k + 1)) := hk2
    have hD : ps (rbf lc sb_ lb2) rb_ = ps (rbf lc sg ln) (k + 1 + 1) - svd lc r sg ln k val := by
      rcases hbb with ⟨q1, q2, q3, q4⟩ | ⟨q1, q3, q4⟩
      · rw [ra3] at q2
        rw [if_pos ⟨by omega, q2.symm⟩, if_pos ⟨by omega, q2.symm⟩] at hsv
        rw [hla, ← q2] at q4
        rw [← q2] at hsv hk2
        omega
      · have q5 : ¬ (k < r - 1 ∧ sg (k + 1) = val) := fun q => q1 ⟨ra1, by rw [ra3]; exact q.2.symm⟩
        rw [if_neg q5, if_neg q5, Int.add_zero, Int.add_zero] at hsv
        omega
    have key : ∀ d, 0 ≤ d → k + 2 + d ≤ r → ∃ (r2 : Int) (sg2 ln2 : Int → Int), Ok r2 sg2 ln2 (ps ln (k + 2 + d)) (edt (ps ln k) (ps ln k + ln k) 0 val v) ∧ 1 ≤ r2 ∧ r2 ≤ k + 2 + d ∧ sg2 (r2 - 1) = sg (k + 2 + d - 1) ∧ ps (rbf lc sg2 ln2) r2 = ps (rbf lc sg ln) (k + 2 + d) - svd lc r sg ln k val := by
      refine int_ind (fun _ => ?_) (fun d d1 ih d2 => ?_)
      · rw [show k + 2 + 0 = k + 1 + 1 by omega]
        exact ⟨rb_, sb_, lb2, hB, rb1, by omega, by rw [rb3, show k + 1 + 1 - 1 = k + 1 by omega], hD⟩
      · obtain ⟨r2, sg2, ln2, hC, c1, c2, c3, c4⟩ := ih (by omega)
        have g3 := hO.run (k := k + 2 + d) (by omega) (by omega)
        have mn := ps_le (f := ln) (j := k + 1) (k := k + 2 + d) (by omega) (by omega) (fun i i1 i2 => by have := hO.ln i1 (by omega); omega)
        obtain ⟨r3, sg3, ln3, hE, e1, e2, e3, hee⟩ := hC.snoc (lc := lc) (m := ln (k + 2 + d)) (s := sg (k + 2 + d)) g3.1 (by omega) (fun x x1 x2 => by rw [(hw x).2.2 (by omega)]; exact hO.2.2.2.2 (k + 2 + d) (by omega) (by omega) x x1 (by omega))
        rw [← g3.2.2.2.2.1] at hE
        have hk3 := ps_succ (rbf lc sg ln) (k := k + 2 + d) (by omega)
        have hk3 : ps (rbf lc sg ln) (k + 2 + d + 1) = ps (rbf lc sg ln) (k + 2 + d) + rb lc (sg (k + 2 + d)) (ln (k + 2 + d)) := hk3
        have hne := hO.2.2.1 (k + 2 + d) (by omega) (by omega)
        rw [show k + 2 + (d + 1) = k + 2 + d + 1 by omega]
        refine ⟨r3, sg3, ln3, hE, e1, by omega, by rw [e3, show k + 2 + d + 1 - 1 = k + 2 + d by omega], ?_⟩
        rcases hee with ⟨q1, q2, -⟩ | ⟨q1, q3, q4⟩
        · exact absurd (by rw [← q2, c3]) hne
        · omega
    obtain ⟨r2, sg2, ln2, hC, c1, c2, c3, c4⟩ := key (r - (k + 2)) (by omega) (by omega)
    rw [show k + 2 + (r - (k + 2)) = r by omega] at hC c2 c4
    rw [hO.2.2.2.1] at hC
    exact ⟨r2, sg2, ln2, hC, c2, c4⟩
theorem svd_same {lc r N k : Int} {sg ln v : Int → Int} (hO : Ok r sg ln N v) (h1 : 0 ≤ k) (h2 : k < r) : svd lc r sg ln k (sg k) = 0 := by
  have q1 : ¬ (0 < k ∧ sg (k - 1) = sg k) := fun q => hO.2.2.1 k (by omega) h2 q.2.symm
  have q2 : ¬ (k < r - 1 ∧ sg (k + 1) = sg k) := fun q => by
    have := hO.2.2.1 (k + 1) (by omega) (by omega)
    rw [show k + 1 - 1 = k by omega] at this
    exact this q.2
  unfold svd
  split
  · rfl
  · simp only [if_neg q1, if_neg q2, Int.add_zero, Int.sub_self]
theorem svd_dead {lc r k val : Int} {sg ln : Int → Int} (h : sg k = 10) : svd lc r sg ln k val = 0 := by unfold svd; rw [if_pos h]
theorem bwv_prop (f : Int → Int) (k : Int) (s : Int × Int × Int) : ∀ j, 0 ≤ j → (bwv f k s j = s ∧ ∀ i, 0 ≤ i → i < j → f i ≤ s.2.2) ∨ (∃ i, 0 ≤ i ∧ i < j ∧ bwv f k s j = (k, i, f i) ∧ s.2.2 < f i ∧ (∀ y, 0 ≤ y → y < j → f y ≤ f i) ∧ ∀ y, 0 ≤ y → y < i → f y < f i) := by
  refine int_ind (Or.inl ⟨bwv_zero f k s, fun i _ _ => by omega⟩) (fun j hj ih => ?_)
  rw [bwv_succ f k s hj]
  rcases ih with ⟨h1, h2⟩ | ⟨i, i1, i2, h1, h2, h3, h4⟩
  · rw [h1]
    by_cases q : s.2.2 < f j
    · rw [if_pos q]
      refine Or.inr ⟨j, hj, by omega, rfl, q, fun y y1 y2 => ?_, fun y y1 y2 => ?_⟩
      · by_cases e : y = j
        · rw [e]; omega
        · have := h2 y y1 (by omega); omega
      · have := h2 y y1 y2; omega
    · rw [if_neg q]
      refine Or.inl ⟨rfl, fun y y1 y2 => ?_⟩
      by_cases e : y = j
      · rw [e]; omega
      · exact h2 y y1 (by omega)
  · rw [h1]
    by_cases q : f i < f j
    · rw [if_pos q]
      refine Or.inr ⟨j, hj, by omega, rfl, by omega, fun y y1 y2 => ?_, fun y y1 y2 => ?_⟩
      · by_cases e : y = j
        · rw [e]; omega
        · have := h3 y y1 (by omega); omega
      · have := h3 y y1 y2; omega
    · rw [if_neg q]
      refine Or.inr ⟨i, i1, by omega, rfl, h2, fun y y1 y2 => ?_, h4⟩
      by_cases e : y = j
      · rw [e]; omega
      · exact h3 y y1 (by omega)
theorem bw_prop (lc r : Int) (sg ln : Int → Int) : ∀ k, 0 ≤ k → (bw lc r sg ln k = (-6, -6, 0) ∧ ∀ a, 0 ≤ a → a < k → ∀ b, 0 ≤ b → b ≤ 9 → svd lc r sg ln a b ≤ 0) ∨ (∃ a b, (0 ≤ a ∧ a < k) ∧ (0 ≤ b ∧ b ≤ 9) ∧ bw lc r sg ln k = (a, b, svd lc r sg ln a b) ∧ 0 < svd lc r sg ln a b ∧ ∀ c, 0 ≤ c → c < k → ∀ d, 0 ≤ d → d ≤ 9 → svd lc r sg ln c d ≤ svd lc r sg ln a b ∧ (svd lc r sg ln c d = svd lc r sg ln a b → a < c ∨ (a = c ∧ b ≤ d))) := by
  refine int_ind (Or.inl ⟨bw_zero lc r sg ln, fun a _ _ => by omega⟩) (fun k hk ih => ?_)
  rw [bw_succ lc r sg ln hk]
  have hp := bwv_prop (svd lc r sg ln k) k (bw lc r sg ln k) 10 (by omega)
  rcases ih with ⟨h1, h2⟩ | ⟨a, b, ha, hb, h1, h2, h3⟩
  · rw [h1] at hp ⊢
    rcases hp with ⟨p1, p2⟩ | ⟨i, i1, i2, p1, p2, p3, p4⟩
    · have p2 : ∀ i, 0 ≤ i → i < 10 → svd lc r sg ln k i ≤ 0 := p2
      refine Or.inl ⟨p1, fun a a1 a2 b b1 b2 => ?_⟩
      by_cases e : a = k
      · rw [e]; exact p2 b b1 (by omega)
      · exact h2 a a1 (by omega) b b1 b2
    · have p2 : 0 < svd lc r sg ln k i := p2
      refine Or.inr ⟨k, i, by omega, by omega, p1, p2, fun c c1 c2 d d1 d2 => ?_⟩
      by_cases e : c = k
      · rw [e]
        have := p3 d d1 (by omega)
        refine ⟨this, fun q => Or.inr ⟨rfl, ?_⟩⟩
        by_cases q2 : i ≤ d
        · exact q2
        · have := p4 d d1 (by omega); omega
      · have := h2 c c1 (by omega) d d1 d2
        exact ⟨by omega, fun q => by omega⟩
  · rw [h1] at hp ⊢
    rcases hp with ⟨p1, p2⟩ | ⟨i, i1, i2, p1, p2, p3, p4⟩
    · have p2 : ∀ i, 0 ≤ i → i < 10 → svd lc r sg ln k i ≤ svd lc r sg ln a b := p2
      refine Or.inr ⟨a, b, by omega, hb, p1, h2, fun c c1 c2 d d1 d2 => ?_⟩
      by_cases e : c = k
      · rw [e]
        exact ⟨p2 d d1 (by omega), fun _ => Or.inl ha.2⟩
      · exact h3 c c1 (by omega) d d1 d2
    · have p2 : svd lc r sg ln a b < svd lc r sg ln k i := p2
      refine Or.inr ⟨k, i, by omega, by omega, p1, by omega, fun c c1 c2 d d1 d2 => ?_⟩
      by_cases e : c = k
      · rw [e]
        have := p3 d d1 (by omega)
        refine ⟨this, fun q => Or.inr ⟨rfl, ?_⟩⟩
        by_cases q2 : i ≤ d
        · exact q2
        · have := p4 d d1 (by omega); omega
      · have := h3 c c1 (by omega) d d1 d2
        exact ⟨by omega, fun q => by omega⟩
/-- the three answers of bestWrite -/
theorem bw_ans (lc : Int) {r : Int} (sg ln : Int → Int) (hr : 0 ≤ r) : ∃ bb wb mb : Int, (if (bw lc r sg ln r).2.2 = 0 then -6 else (bw lc r sg ln r).1) = bb ∧ (if (bw lc r sg ln r).2.2 = 0 then -6 else (bw lc r sg ln r).2.1) = wb ∧ (if (bw lc r sg ln r).2.2 = 0 then -6 else (bw lc r sg ln r).2.2) = mb ∧ ((bb = -6 ∧ wb = -6 ∧ mb = -6 ∧ ∀ c, 0 ≤ c → c < r → ∀ d, 0 ≤ d → d ≤ 9 → svd lc r sg ln c d ≤ 0) ∨ ((0 ≤ bb ∧ bb < r) ∧ (0 ≤ wb ∧ wb ≤ 9) ∧ mb = svd lc r sg ln bb wb ∧ 1 ≤ mb ∧ ∀ c, 0 ≤ c → c < r → ∀ d, 0 ≤ d → d ≤ 9 → svd lc r sg ln c d ≤ mb ∧ (svd lc r sg ln c d = mb → bb < c ∨ (bb = c ∧ wb ≤ d)))) := by
  rcases bw_prop lc r sg ln r hr with ⟨h1, h2⟩ | ⟨a, b, ha, hb, h1, h2, h3⟩
  · rw [h1]
    exact ⟨-6, -6, -6, rfl, rfl, rfl, Or.inl ⟨rfl, rfl, rfl, h2⟩⟩
  · rw [h1]
    refine ⟨a, b, svd lc r sg ln a b, ?_, ?_, ?_, Or.inr ⟨ha, hb, rfl, by omega, h3⟩⟩
    · show (if svd lc r sg ln a b = 0 then -6 else a) = a
      rw [if_neg (by omega)]
    · show (if svd lc r sg ln a b = 0 then -6 else b) = b
      rw [if_neg (by omega)]
    · show (if svd lc r sg ln a b = 0 then -6 else svd lc r sg ln a b) = svd lc r sg ln a b
      rw [if_neg (by omega)]
section SP4
variable {lc sd r : Int} {sg ln : Int → Int} {N : Int} {v : Int → Int} {hist : Int → Rw} {rcd : Int} {slot : Int → Rw} {uf T : Int → Int} {m z : Int} {A' : AS}
/-- a run is written -/
theorem q_write {k val : Int} (hR : RwOk lc sd r sg ln N v) (hrc : 0 ≤ rcd ∧ rcd ≤ 6) (hk : 0 ≤ k ∧ k < r) (hs : ¬ sg k = 10) (hv : (0 ≤ val ∧ val ≤ 9) ∧ ¬ val = sg k) (h : Sp_write (ps ln k) (ln k) val ((lc, sd, r, sg, ln, N, v), hist, rcd, slot, uf, T, m) z A') : z = ln k ∧ ∃ (r1 : Int) (sg1 ln1 : Int → Int) (hist1 : Int → Rw) (rcd1 : Int), A' = ((lc, sd, r1, sg1, ln1, N, edt (ps ln k) (ps ln k + ln k) 0 val v), hist1, rcd1, slot, uf, T, m) ∧ (0 ≤ ps (rbf lc sg1 ln1) r1 ∧ ps (rbf lc sg1 ln1) r1 ≤ 3300) ∧ ps (rbf lc sg1 ln1) r1 = ps (rbf lc sg ln) r - svd lc r sg ln k val ∧ 1 ≤ rcd1 ∧ hist1 (rcd1 - 1) = (lc, sd, r, sg, ln, N, v) := by
  obtain ⟨hO, hr50, hN3, hlc, hsd⟩ := hR
  have g := hO.run hk.1 hk.2
  obtain ⟨r2, sg2, ln2, hB, b1, b2⟩ := wr_row (lc := lc) hO hk.1 hk.2 hs hv.1
  have hfit : fits_ N (edt (ps ln k) (ps ln k + ln k) 0 val v) := ⟨hN3, by rw [hB.rcE]; omega⟩
  obtain ⟨h1, h2⟩ := q_ok h (by unfold errWr; rw [if_pos (by omega), if_pos (by omega)]) hfit
  obtain ⟨r1, sg1, ln1, hist1, rcd1, e1, e2, e3, e4, -⟩ := pushed_undo hrc h2
  refine ⟨by rw [h1, wr_count hO hk.1 hk.2 hs hv.2], r1, sg1, ln1, hist1, rcd1, e1, ?_, ?_, e3, e4⟩
  · have hb := allBits_rg (code := lc) e2.1 hN3 (k := r1) e2.1.1 (by omega)
    have := e2.2.1
    omega
  · obtain ⟨u1, u2⟩ := e2.1.uniq hB
    subst u1
    rw [rbf_cng (lc := lc) e2.1.1 u2, b2]
end SP4
theorem d_L_saves_0 : decode b_L_saves 0 = .ok (.aload_n 0, 1) := by decide +kernel
theorem d_L_saves_1 : decode b_L_saves 1 = .ok (.iconst 1, 1) := by decide +kernel
theorem d_L_saves_2 : decode b_L_saves 2 = .ok (.invokevirtual 11, 3) := by decide +kernel
theorem d_L_saves_5 : decode b_L_saves 5 = .ok (.istore_n 2, 1) := by decide +kernel
theorem d_L_saves_6 : decode b_L_saves 6 = .ok (.aload_n 0, 1) := by decide +kernel
theorem d_L_saves_7 : decode b_L_saves 7 = .ok (.iconst 0, 1) := by decide +kernel
theorem d_L_saves_8 : decode b_L_saves 8 = .ok (.invokevirtual 77, 3) := by decide +kernel
theorem d_L_saves_11 : decode b_L_saves 11 = .ok (.istore_n 3, 1) := by decide +kernel
theorem d_L_saves_12 : decode b_L_saves 12 = .ok (.aload_n 0, 1) := by decide +kernel
theorem d_L_saves_13 : decode b_L_saves 13 = .ok (.iconst 1, 1) := by decide +kernel
theorem d_L_saves_14 : decode b_L_saves 14 = .ok (.invokevirtual 77, 3) := by decide +kernel
theorem d_L_saves_17 : decode b_L_saves 17 = .ok (.istore 4, 2) := by decide +kernel
theorem d_L_saves_19 : decode b_L_saves 19 = .ok (.aload_n 0, 1) := by decide +kernel
theorem d_L_saves_20 : decode b_L_saves 20 = .ok (.iconst 2, 1) := by decide +kernel
theorem d_L_saves_21 : decode b_L_saves 21 = .ok (.invokevirtual 77, 3) := by decide +kernel
theorem d_L_saves_24 : decode b_L_saves 24 = .ok (.istore 5, 2) := by decide +kernel
theorem d_L_saves_26 : decode b_L_saves 26 = .ok (.aload_n 0, 1) := by decide +kernel
theorem d_L_saves_27 : decode b_L_saves 27 = .ok (.iconst 3, 1) := by decide +kernel
theorem d_L_saves_28 : decode b_L_saves 28 = .ok (.invokevirtual 11, 3) := by decide +kernel
theorem d_L_saves_31 : decode b_L_saves 31 = .ok (.istore 6, 2) := by decide +kernel
theorem d_L_saves_33 : decode b_L_saves 33 = .ok (.iload_n 3, 1) := by decide +kernel
theorem d_L_saves_34 : decode b_L_saves 34 = .ok (.ifCond .ge 25, 3) := by decide +kernel
theorem d_L_saves_37 : decode b_L_saves 37 = .ok (.iload_n 3, 1) := by decide +kernel
theorem d_L_saves_38 : decode b_L_saves 38 = .ok (.bipush (-6), 2) := by decide +kernel
theorem d_L_saves_40 : decode b_L_saves 40 = .ok (.if_icmp .ne 17, 3) := by decide +kernel
theorem d_L_saves_43 : decode b_L_saves 43 = .ok (.iload 4, 2) := by decide +kernel
theorem d_L_saves_45 : decode b_L_saves 45 = .ok (.bipush (-6), 2) := by decide +kernel
theorem d_L_saves_47 : decode b_L_saves 47 = .ok (.if_icmp .ne 10, 3) := by decide +kernel
theorem d_L_saves_50 : decode b_L_saves 50 = .ok (.iload 5, 2) := by decide +kernel
theorem d_L_saves_52 : decode b_L_saves 52 = .ok (.bipush (-6), 2) := by decide +kernel
theorem d_L_saves_54 : decode b_L_saves 54 = .ok (.if_icmp .eq 86, 3) := by decide +kernel
theorem d_L_saves_57 : decode b_L_saves 57 = .ok (.iconst 0, 1) := by decide +kernel
theorem d_L_saves_58 : decode b_L_saves 58 = .ok (.ireturn, 1) := by decide +kernel
theorem d_L_saves_59 : decode b_L_saves 59 = .ok (.aload_n 0, 1) := by decide +kernel
theorem d_L_saves_60 : decode b_L_saves 60 = .ok (.iload_n 3, 1) := by decide +kernel
theorem d_L_saves_61 : decode b_L_saves 61 = .ok (.iconst 0, 1) := by decide +kernel
theorem d_L_saves_62 : decode b_L_saves 62 = .ok (.invokevirtual 17, 3) := by decide +kernel
theorem d_L_saves_65 : decode b_L_saves 65 = .ok (.istore 7, 2) := by decide +kernel
theorem d_L_saves_67 : decode b_L_saves 67 = .ok (.aload_n 0, 1) := by decide +kernel
theorem d_L_saves_68 : decode b_L_saves 68 = .ok (.iload_n 3, 1) := by decide +kernel
theorem d_L_saves_69 : decode b_L_saves 69 = .ok (.iconst 1, 1) := by decide +kernel
theorem d_L_saves_70 : decode b_L_saves 70 = .ok (.invokevirtual 17, 3) := by decide +kernel
theorem d_L_saves_73 : decode b_L_saves 73 = .ok (.istore 8, 2) := by decide +kernel
theorem d_L_saves_75 : decode b_L_saves 75 = .ok (.aload_n 0, 1) := by decide +kernel
theorem d_L_saves_76 : decode b_L_saves 76 = .ok (.iload_n 3, 1) := by decide +kernel
theorem d_L_saves_77 : decode b_L_saves 77 = .ok (.iconst 2, 1) := by decide +kernel
theorem d_L_saves_78 : decode b_L_saves 78 = .ok (.invokevirtual 17, 3) := by decide +kernel
theorem d_L_saves_81 : decode b_L_saves 81 = .ok (.istore 9, 2) := by decide +kernel
theorem d_L_saves_83 : decode b_L_saves 83 = .ok (.iload 7, 2) := by decide +kernel
theorem d_L_saves_85 : decode b_L_saves 85 = .ok (.bipush 10, 2) := by decide +kernel
theorem d_L_saves_87 : decode b_L_saves 87 = .ok (.if_icmp .eq 51, 3) := by decide +kernel
theorem d_L_saves_90 : decode b_L_saves 90 = .ok (.iload 7, 2) := by decide +kernel
theorem d_L_saves_92 : decode b_L_saves 92 = .ok (.iload 4, 2) := by decide +kernel
theorem d_L_saves_94 : decode b_L_saves 94 = .ok (.if_icmp .eq 44, 3) := by decide +kernel
theorem d_L_saves_97 : decode b_L_saves 97 = .ok (.iload 5, 2) := by decide +kernel
theorem d_L_saves_99 : decode b_L_saves 99 = .ok (.iconst 1, 1) := by decide +kernel
theorem d_L_saves_100 : decode b_L_saves 100 = .ok (.if_icmp .lt 38, 3) := by decide +kernel
theorem d_L_saves_103 : decode b_L_saves 103 = .ok (.aload_n 0, 1) := by decide +kernel
theorem d_L_saves_104 : decode b_L_saves 104 = .ok (.iload 8, 2) := by decide +kernel
theorem d_L_saves_106 : decode b_L_saves 106 = .ok (.iload 9, 2) := by decide +kernel
theorem d_L_saves_108 : decode b_L_saves 108 = .ok (.iload 4, 2) := by decide +kernel
theorem d_L_saves_110 : decode b_L_saves 110 = .ok (.invokevirtual 37, 3) := by decide +kernel
theorem d_L_saves_113 : decode b_L_saves 113 = .ok (.iload 9, 2) := by decide +kernel
theorem d_L_saves_115 : decode b_L_saves 115 = .ok (.if_icmp .ne 23, 3) := by decide +kernel
theorem d_L_saves_118 : decode b_L_saves 118 = .ok (.iload 6, 2) := by decide +kernel
theorem d_L_saves_120 : decode b_L_saves 120 = .ok (.aload_n 0, 1) := by decide +kernel
theorem d_L_saves_121 : decode b_L_saves 121 = .ok (.iconst 3, 1) := by decide +kernel
theorem d_L_saves_122 : decode b_L_saves 122 = .ok (.invokevirtual 11, 3) := by decide +kernel
theorem d_L_saves_125 : decode b_L_saves 125 = .ok (.isub, 1) := by decide +kernel
theorem d_L_saves_126 : decode b_L_saves 126 = .ok (.iload 5, 2) := by decide +kernel
theorem d_L_saves_128 : decode b_L_saves 128 = .ok (.if_icmp .ne 10, 3) := by decide +kernel
theorem d_L_saves_131 : decode b_L_saves 131 = .ok (.aload_n 0, 1) := by decide +kernel
theorem d_L_saves_132 : decode b_L_saves 132 = .ok (.invokevirtual 119, 3) := by decide +kernel
theorem d_L_saves_135 : decode b_L_saves 135 = .ok (.ifCond .ge 5, 3) := by decide +kernel
theorem d_L_saves_138 : decode b_L_saves 138 = .ok (.iconst 0, 1) := by decide +kernel
theorem d_L_saves_139 : decode b_L_saves 139 = .ok (.ireturn, 1) := by decide +kernel
theorem d_L_saves_140 : decode b_L_saves 140 = .ok (.iload_n 2, 1) := by decide +kernel
theorem d_L_saves_141 : decode b_L_saves 141 = .ok (.ifCond .ne 7, 3) := by decide +kernel
theorem d_L_saves_144 : decode b_L_saves 144 = .ok (.iconst 0, 1) := by decide +kernel
theorem d_L_saves_145 : decode b_L_saves 145 = .ok (.goto 8, 3) := by decide +kernel
theorem d_L_saves_148 : decode b_L_saves 148 = .ok (.iload_n 1, 1) := by decide +kernel
theorem d_L_saves_149 : decode b_L_saves 149 = .ok (.iload_n 2, 1) := by decide +kernel
theorem d_L_saves_150 : decode b_L_saves 150 = .ok (.invokestatic 122, 3) := by decide +kernel
theorem d_L_saves_153 : decode b_L_saves 153 = .ok (.istore 7, 2) := by decide +kernel
theorem d_L_saves_155 : decode b_L_saves 155 = .ok (.iload_n 1, 1) := by decide +kernel
theorem d_L_saves_156 : decode b_L_saves 156 = .ok (.bipush 8, 2) := by decide +kernel
theorem d_L_saves_158 : decode b_L_saves 158 = .ok (.ishr, 1) := by decide +kernel
theorem d_L_saves_159 : decode b_L_saves 159 = .ok (.bipush 10, 2) := by decide +kernel
theorem d_L_saves_161 : decode b_L_saves 161 = .ok (.invokestatic 122, 3) := by decide +kernel
theorem d_L_saves_164 : decode b_L_saves 164 = .ok (.istore 8, 2) := by decide +kernel
theorem d_L_saves_166 : decode b_L_saves 166 = .ok (.iload_n 2, 1) := by decide +kernel
theorem d_L_saves_167 : decode b_L_saves 167 = .ok (.ifCond .eq 27, 3) := by decide +kernel
theorem d_L_saves_170 : decode b_L_saves 170 = .ok (.aload_n 0, 1) := by decide +kernel
theorem d_L_saves_171 : decode b_L_saves 171 = .ok (.iload 7, 2) := by decide +kernel
theorem d_L_saves_173 : decode b_L_saves 173 = .ok (.iconst 0, 1) := by decide +kernel
theorem d_L_saves_174 : decode b_L_saves 174 = .ok (.invokevirtual 17, 3) := by decide +kernel
theorem d_L_saves_177 : decode b_L_saves 177 = .ok (.bipush 10, 2) := by decide +kernel
theorem d_L_saves_179 : decode b_L_saves 179 = .ok (.if_icmp .eq 15, 3) := by decide +kernel
theorem d_L_saves_182 : decode b_L_saves 182 = .ok (.aload_n 0, 1) := by decide +kernel
theorem d_L_saves_183 : decode b_L_saves 183 = .ok (.iload 7, 2) := by decide +kernel
theorem d_L_saves_185 : decode b_L_saves 185 = .ok (.iconst 0, 1) := by decide +kernel
theorem d_L_saves_186 : decode b_L_saves 186 = .ok (.invokevirtual 17, 3) := by decide +kernel
theorem d_L_saves_189 : decode b_L_saves 189 = .ok (.iload 8, 2) := by decide +kernel
theorem d_L_saves_191 : decode b_L_saves 191 = .ok (.if_icmp .ne 5, 3) := by decide +kernel
theorem d_L_saves_194 : decode b_L_saves 194 = .ok (.iconst 1, 1) := by decide +kernel
theorem d_L_saves_195 : decode b_L_saves 195 = .ok (.ireturn, 1) := by decide +kernel
theorem d_L_saves_196 : decode b_L_saves 196 = .ok (.aload_n 0, 1) := by decide +kernel
theorem d_L_saves_197 : decode b_L_saves 197 = .ok (.iload 7, 2) := by decide +kernel
theorem d_L_saves_199 : decode b_L_saves 199 = .ok (.iconst 2, 1) := by decide +kernel
theorem d_L_saves_200 : decode b_L_saves 200 = .ok (.invokevirtual 17, 3) := by decide +kernel
theorem d_L_saves_203 : decode b_L_saves 203 = .ok (.istore 9, 2) := by decide +kernel
theorem d_L_saves_205 : decode b_L_saves 205 = .ok (.aload_n 0, 1) := by decide +kernel
theorem d_L_saves_206 : decode b_L_saves 206 = .ok (.aload_n 0, 1) := by decide +kernel
theorem d_L_saves_207 : decode b_L_saves 207 = .ok (.iload 7, 2) := by decide +kernel
theorem d_L_saves_209 : decode b_L_saves 209 = .ok (.iconst 1, 1) := by decide +kernel
theorem d_L_saves_210 : decode b_L_saves 210 = .ok (.invokevirtual 17, 3) := by decide +kernel
theorem d_L_saves_213 : decode b_L_saves 213 = .ok (.iload 9, 2) := by decide +kernel
theorem d_L_saves_215 : decode b_L_saves 215 = .ok (.iload 8, 2) := by decide +kernel
theorem d_L_saves_217 : decode b_L_saves 217 = .ok (.invokevirtual 37, 3) := by decide +kernel
theorem d_L_saves_220 : decode b_L_saves 220 = .ok (.istore 10, 2) := by decide +kernel
theorem d_L_saves_222 : decode b_L_saves 222 = .ok (.iload 6, 2) := by decide +kernel
theorem d_L_saves_224 : decode b_L_saves 224 = .ok (.aload_n 0, 1) := by decide +kernel
theorem d_L_saves_225 : decode b_L_saves 225 = .ok (.iconst 3, 1) := by decide +kernel
theorem d_L_saves_226 : decode b_L_saves 226 = .ok (.invokevirtual 11, 3) := by decide +kernel
theorem d_L_saves_229 : decode b_L_saves 229 = .ok (.isub, 1) := by decide +kernel
theorem d_L_saves_230 : decode b_L_saves 230 = .ok (.istore 11, 2) := by decide +kernel
theorem d_L_saves_232 : decode b_L_saves 232 = .ok (.iload 11, 2) := by decide +kernel
theorem d_L_saves_234 : decode b_L_saves 234 = .ok (.iload_n 3, 1) := by decide +kernel
theorem d_L_saves_235 : decode b_L_saves 235 = .ok (.ifCond .ge 7, 3) := by decide +kernel
theorem d_L_saves_238 : decode b_L_saves 238 = .ok (.iconst 1, 1) := by decide +kernel
theorem d_L_saves_239 : decode b_L_saves 239 = .ok (.goto 5, 3) := by decide +kernel
theorem d_L_saves_242 : decode b_L_saves 242 = .ok (.iload 5, 2) := by decide +kernel
theorem d_L_saves_244 : decode b_L_saves 244 = .ok (.if_icmp .lt 29, 3) := by decide +kernel
theorem d_L_saves_247 : decode b_L_saves 247 = .ok (.iload 11, 2) := by decide +kernel
theorem d_L_saves_249 : decode b_L_saves 249 = .ok (.iload 5, 2) := by decide +kernel
theorem d_L_saves_251 : decode b_L_saves 251 = .ok (.if_icmp .ne 26, 3) := by decide +kernel
theorem d_L_saves_254 : decode b_L_saves 254 = .ok (.iload 7, 2) := by decide +kernel
theorem d_L_saves_256 : decode b_L_saves 256 = .ok (.iload_n 3, 1) := by decide +kernel
theorem d_L_saves_257 : decode b_L_saves 257 = .ok (.if_icmp .gt 16, 3) := by decide +kernel
theorem d_L_saves_260 : decode b_L_saves 260 = .ok (.iload 7, 2) := by decide +kernel
theorem d_L_saves_262 : decode b_L_saves 262 = .ok (.iload_n 3, 1) := by decide +kernel
theorem d_L_saves_263 : decode b_L_saves 263 = .ok (.if_icmp .ne 14, 3) := by decide +kernel
theorem d_L_saves_266 : decode b_L_saves 266 = .ok (.iload 8, 2) := by decide +kernel
theorem d_L_saves_268 : decode b_L_saves 268 = .ok (.iload 4, 2) := by decide +kernel
theorem d_L_saves_270 : decode b_L_saves 270 = .ok (.if_icmp .lt 7, 3) := by decide +kernel
theorem d_L_saves_273 : decode b_L_saves 273 = .ok (.iconst 1, 1) := by decide +kernel
theorem d_L_saves_274 : decode b_L_saves 274 = .ok (.goto 4, 3) := by decide +kernel
theorem d_L_saves_277 : decode b_L_saves 277 = .ok (.iconst 0, 1) := by decide +kernel
theorem d_L_saves_278 : decode b_L_saves 278 = .ok (.istore 12, 2) := by decide +kernel
theorem d_L_saves_280 : decode b_L_saves 280 = .ok (.iload 10, 2) := by decide +kernel
theorem d_L_saves_282 : decode b_L_saves 282 = .ok (.iload 9, 2) := by decide +kernel
theorem d_L_saves_284 : decode b_L_saves 284 = .ok (.if_icmp .ne 19, 3) := by decide +kernel
theorem d_L_saves_287 : decode b_L_saves 287 = .ok (.iload 12, 2) := by decide +kernel
theorem d_L_saves_289 : decode b_L_saves 289 = .ok (.ifCond .eq 14, 3) := by decide +kernel
theorem d_L_saves_292 : decode b_L_saves 292 = .ok (.aload_n 0, 1) := by decide +kernel
theorem d_L_saves_293 : decode b_L_saves 293 = .ok (.invokevirtual 119, 3) := by decide +kernel
theorem d_L_saves_296 : decode b_L_saves 296 = .ok (.ifCond .lt 7, 3) := by decide +kernel
theorem d_L_saves_299 : decode b_L_saves 299 = .ok (.iconst 1, 1) := by decide +kernel
theorem d_L_saves_300 : decode b_L_saves 300 = .ok (.goto 4, 3) := by decide +kernel
theorem d_L_saves_303 : decode b_L_saves 303 = .ok (.iconst 0, 1) := by decide +kernel
theorem d_L_saves_304 : decode b_L_saves 304 = .ok (.ireturn, 1) := by decide +kernel
set_option maxHeartbeats 4000000 in
set_option maxRecDepth 20000 in
theorem c_L_saves {l : Launch} {G : va_G} {tys : List (ClassId × FieldType)} {cI cO cZ : ClassId} (hT : TY tys cI cO cZ) (o : Nat) (A : AS) (q : Int)  : CTA l G tys cI cO cZ y_L_saves b_L_saves 13 .boolean 6 140 o [.ref o, .int (iI q)] A (fun z A' => z = 1) := by
  refine mkAZ (by decide) (Nat.le_of_ble_eq_true rfl) ?_
  rintro X rfl rfl rfl hRm C kret H ls w hl
  have hl : lv_has ls 13 [(0, .ref o), (1, .int (iI q))] := hl
  generalize ([] : List Loc) = locs at w ⊢
  obtain ⟨⟨lc, sd, r, sg, ln, N, v⟩, hist, rcd, slot, uf, T, m⟩ := A
  have hK := w.ok
  have hR : RwOk lc sd r sg ln N v := hK.1
  have hrcd : 0 ≤ rcd ∧ rcd ≤ 6 := hK.2.1
  have hm80 : 0 ≤ m ∧ m ≤ 80 := hK.2.2.2.2.1
  obtain ⟨hO, hr50, hN3, hlc, hsd⟩ := hR
  have hr0 := hO.1
  have hN0 := hO.n0
  obtain ⟨bb, wb, mb, hbb, hwb, hmb, hbw⟩ := bw_ans lc sg ln hr0
  have hab := allBits_rg (code := lc) hO hN3 (k := r) hr0 (by omega)
  have hmr : mb ≤ 198 := by rcases hbw with ⟨u1, u2, u3, u4⟩ | ⟨u1, u2, u3, u4, u5⟩; { omega }; { rw [u3]; exact (svd_rg hO hN3 (by omega) (by omega)).2 }
  have hbr : (bb = -6 ∧ wb = -6 ∧ mb = -6) ∨ ((0 ≤ bb ∧ bb < r) ∧ (0 ≤ wb ∧ wb ≤ 9) ∧ 1 ≤ mb) := by rcases hbw with ⟨u1, u2, u3, u4⟩ | ⟨u1, u2, u3, u4, u5⟩; { exact Or.inl ⟨u1, u2, u3⟩ }; { exact Or.inr ⟨u1, u2, u4⟩ }
  refine r_aload_n (pc := 0) C d_L_saves_0 rfl (lv_at hl 0 rfl) ?_
  refine r_iconst (pc := 1) C d_L_saves_1 ?_
  refine l_callE (pc := 2) (As := [.int (iI 1)]) (rest := []) (x := r) (fun _ _ h => q_count_1 h) C w (fun ws hA => c_D_count hT o _ ws hA 1 (by omega)) ml_L_11 im_D_count se_D_count cd_D_count hd_D_count rfl (by rw [hRm]; exact ⟨⟨Nat.le_of_ble_eq_true rfl, Nat.le_of_ble_eq_true rfl⟩, Nat.le_of_ble_eq_true rfl, Nat.le_of_ble_eq_true rfl⟩) hl.1 rfl (Nat.le_of_ble_eq_true rfl) d_L_saves_2 (fun H locs w => ?_)
  refine r_istore_n (pc := 5) (lv' := [(2, .int (iI r)), (0, .ref o), (1, .int (iI q))]) C d_L_saves_5 rfl hl (by decide) rfl (fun ls hl => ?_)
  refine r_aload_n (pc := 6) C d_L_saves_6 rfl (lv_at hl 1 rfl) ?_
  refine r_iconst (pc := 7) C d_L_saves_7 ?_
  refine l_callE (pc := 8) (As := [.int (iI 0)]) (rest := []) (x := bb) (fun _ _ h => ⟨(q_best_0 h).1, by rw [(q_best_0 h).2]; exact hbb⟩) C w (fun ws hA => c_D_bestWrite hT o _ ws hA 0 (by omega)) ml_L_77 im_D_bestWrite se_D_bestWrite cd_D_bestWrite hd_D_bestWrite rfl (by rw [hRm]; exact ⟨⟨Nat.le_of_ble_eq_true rfl, Nat.le_of_ble_eq_true rfl⟩, Nat.le_of_ble_eq_true rfl, Nat.le_of_ble_eq_true rfl⟩) hl.1 rfl (Nat.le_of_ble_eq_true rfl) d_L_saves_8 (fun H locs w => ?_)
  refine r_istore_n (pc := 11) (lv' := [(3, .int (iI bb)), (2, .int (iI r)), (0, .ref o), (1, .int (iI q))]) C d_L_saves_11 rfl hl (by decide) rfl (fun ls hl => ?_)
  refine r_aload_n (pc := 12) C d_L_saves_12 rfl (lv_at hl 2 rfl) ?_
  refine r_iconst (pc := 13) C d_L_saves_13 ?_
  refine l_callE (pc := 14) (As := [.int (iI 1)]) (rest := []) (x := wb) (fun _ _ h => ⟨(q_best_1 h).1, by rw [(q_best_1 h).2]; exact hwb⟩) C w (fun ws hA => c_D_bestWrite hT o _ ws hA 1 (by omega)) ml_L_77 im_D_bestWrite se_D_bestWrite cd_D_bestWrite hd_D_bestWrite rfl (by rw [hRm]; exact ⟨⟨Nat.le_of_ble_eq_true rfl, Nat.le_of_ble_eq_true rfl⟩, Nat.le_of_ble_eq_true rfl, Nat.le_of_ble_eq_true rfl⟩) hl.1 rfl (Nat.le_of_ble_eq_true rfl) d_L_saves_14 (fun H locs w => ?_)
  refine r_istore (pc := 17) (lv' := [(4, .int (iI wb)), (3, .int (iI bb)), (2, .int (iI r)), (0, .ref o), (1, .int (iI q))]) C d_L_saves_17 hl (by decide) rfl (fun ls hl => ?_)
  refine r_aload_n (pc := 19) C d_L_saves_19 rfl (lv_at hl 3 rfl) ?_
  refine r_iconst (pc := 20) C d_L_saves_20 ?_
  refine l_callE (pc := 21) (As := [.int (iI 2)]) (rest := []) (x := mb) (fun _ _ h => ⟨(q_best_2 h).1, by rw [(q_best_2 h).2]; exact hmb⟩) C w (fun ws hA => c_D_bestWrite hT o _ ws hA 2 (by omega)) ml_L_77 im_D_bestWrite se_D_bestWrite cd_D_bestWrite hd_D_bestWrite rfl (by rw [hRm]; exact ⟨⟨Nat.le_of_ble_eq_true rfl, Nat.le_of_ble_eq_true rfl⟩, Nat.le_of_ble_eq_true rfl, Nat.le_of_ble_eq_true rfl⟩) hl.1 rfl (Nat.le_of_ble_eq_true rfl) d_L_saves_21 (fun H locs w => ?_)
  refine r_istore (pc := 24) (lv' := [(5, .int (iI mb)), (4, .int (iI wb)), (3, .int (iI bb)), (2, .int (iI r)), (0, .ref o), (1, .int (iI q))]) C d_L_saves_24 hl (by decide) rfl (fun ls hl => ?_)
  refine r_aload_n (pc := 26) C d_L_saves_26 rfl (lv_at hl 4 rfl) ?_
  refine r_iconst (pc := 27) C d_L_saves_27 ?_
  refine l_callE (pc := 28) (As := [.int (iI 3)]) (rest := []) (x := (ps (rbf lc sg ln) r)) (fun _ _ h => q_count_3 h) C w (fun ws hA => c_D_count hT o _ ws hA 3 (by omega)) ml_L_11 im_D_count se_D_count cd_D_count hd_D_count rfl (by rw [hRm]; exact ⟨⟨Nat.le_of_ble_eq_true rfl, Nat.le_of_ble_eq_true rfl⟩, Nat.le_of_ble_eq_true rfl, Nat.le_of_ble_eq_true rfl⟩) hl.1 rfl (Nat.le_of_ble_eq_true rfl) d_L_saves_28 (fun H locs w => ?_)
  refine r_istore (pc := 31) (lv' := [(6, .int (iI (ps (rbf lc sg ln) r))), (5, .int (iI mb)), (4, .int (iI wb)), (3, .int (iI bb)), (2, .int (iI r)), (0, .ref o), (1, .int (iI q))]) C d_L_saves_31 hl (by decide) rfl (fun ls hl => ?_)
  have J140 : ∀ (hi2 : Int → Rw) (rc2 : Int), ∀ (H : Heap) (locs : List Loc) (ls : Array Slot), LW X cI cO cZ o ((lc, sd, r, sg, ln, N, v), hi2, rc2, slot, uf, T, m) H locs → lv_has ls 13 [(6, .int (iI (ps (rbf lc sg ln) r))), (5, .int (iI mb)), (4, .int (iI wb)), (3, .int (iI bb)), (2, .int (iI r)), (1, .int (iI q)), (0, .ref o)] → GG X 0 0 H locs 140 ls [] := by
    intro hi2 rc2  H locs ls w hl
    refine r_iload_n (pc := 140) C d_L_saves_140 rfl (lv_at hl 4 rfl) ?_
    have hrc2 : 0 ≤ rc2 ∧ rc2 ≤ 6 := w.ok.2.1
    refine r_if_ne (pc := 141) (tgt := 148) C (by omega) d_L_saves_141 (by decide) (fun c_141 => ?_) (fun c_141 => ?_)
    · skip
      refine r_iload_n (pc := 148) C d_L_saves_148 rfl (lv_at hl 5 rfl) ?_
      refine r_iload_n (pc := 149) C d_L_saves_149 rfl (lv_at hl 4 rfl) ?_
      refine l_callP (pc := 150) (As := [.int (iI q), .int (iI r)]) (rest := []) C w (c_L_up _ r (by omega)) ml_L_122 st_L_up ini_L cd_L_up hd_L_up rfl (by rw [hRm]; exact ⟨⟨Nat.le_of_ble_eq_true rfl, Nat.le_of_ble_eq_true rfl⟩, Nat.le_of_ble_eq_true rfl, Nat.le_of_ble_eq_true rfl⟩) hl.1 rfl (Nat.le_of_ble_eq_true rfl) d_L_saves_150 (fun z_150 H locs hz_150 w => ?_)
      refine r_istore (pc := 153) (lv' := [(7, .int (iI z_150)), (6, .int (iI (ps (rbf lc sg ln) r))), (5, .int (iI mb)), (4, .int (iI wb)), (3, .int (iI bb)), (2, .int (iI r)), (1, .int (iI q)), (0, .ref o)]) C d_L_saves_153 hl (by decide) rfl (fun ls hl => ?_)
      refine r_iload_n (pc := 155) C d_L_saves_155 rfl (lv_at hl 6 rfl) ?_
      refine r_bipush (pc := 156) C d_L_saves_156 (by decide) ?_
      refine r_ishr (pc := 158) C d_L_saves_158 ?_
      refine r_top (y := iI ((iI q >>> (iI 8 &&& 31)).toInt)) ((iI_of _).symm) ?_
      refine r_bipush (pc := 159) C d_L_saves_159 (by decide) ?_
      refine l_callP (pc := 161) (As := [.int (iI ((iI q >>> (iI 8 &&& 31)).toInt)), .int (iI 10)]) (rest := []) C w (c_L_up _ 10 (by omega)) ml_L_122 st_L_up ini_L cd_L_up hd_L_up rfl (by rw [hRm]; exact ⟨⟨Nat.le_of_ble_eq_true rfl, Nat.le_of_ble_eq_true rfl⟩, Nat.le_of_ble_eq_true rfl, Nat.le_of_ble_eq_true rfl⟩) hl.1 rfl (Nat.le_of_ble_eq_true rfl) d_L_saves_161 (fun z_161 H locs hz_161 w => ?_)
      refine r_istore (pc := 164) (lv' := [(8, .int (iI z_161)), (7, .int (iI z_150)), (6, .int (iI (ps (rbf lc sg ln) r))), (5, .int (iI mb)), (4, .int (iI wb)), (3, .int (iI bb)), (2, .int (iI r)), (1, .int (iI q)), (0, .ref o)]) C d_L_saves_164 hl (by decide) rfl (fun ls hl => ?_)
      refine r_iload_n (pc := 166) C d_L_saves_166 rfl (lv_at hl 6 rfl) ?_
      refine r_if_eq (pc := 167) (tgt := 194) C (by omega) d_L_saves_167 (by decide) (fun c_167 => ?_) (fun c_167 => ?_)
      · skip
        exact absurd c_167 c_141
      · skip
        have g := hO.run (k := z_150) (by omega) (by omega)
        refine r_aload_n (pc := 170) C d_L_saves_170 rfl (lv_at hl 8 rfl) ?_
        refine r_iload (pc := 171) C d_L_saves_171 (lv_at hl 1 rfl) ?_
        refine r_iconst (pc := 173) C d_L_saves_173 ?_
        refine l_callE (pc := 174) (As := [.int (iI z_150), .int (iI 0)]) (rest := []) (x := (sg z_150)) (fun _ _ h => q_ofRun_0 (by omega) h) C w (fun ws hA => c_D_ofRun hT o _ ws hA z_150 0 ⟨by omega, by omega⟩) ml_L_17 im_D_ofRun se_D_ofRun cd_D_ofRun hd_D_ofRun rfl (by rw [hRm]; exact ⟨⟨Nat.le_of_ble_eq_true rfl, Nat.le_of_ble_eq_true rfl⟩, Nat.le_of_ble_eq_true rfl, Nat.le_of_ble_eq_true rfl⟩) hl.1 rfl (Nat.le_of_ble_eq_true rfl) d_L_saves_174 (fun H locs w => ?_)
        refine r_bipush (pc := 177) C d_L_saves_177 (by decide) ?_
        refine r_icmp_eq (pc := 179) (tgt := 194) C (by omega) d_L_saves_179 (by decide) (fun c_179 => ?_) (fun c_179 => ?_)
        · skip
          refine r_iconst (pc := 194) C d_L_saves_194 ?_
          exact kret _ _ _ _ 1 _ d_L_saves_195 w (by omega) (rfl)
        · skip
          refine r_aload_n (pc := 182) C d_L_saves_182 rfl (lv_at hl 8 rfl) ?_
          refine r_iload (pc := 183) C d_L_saves_183 (lv_at hl 1 rfl) ?_
          refine r_iconst (pc := 185) C d_L_saves_185 ?_
          refine l_callE (pc := 186) (As := [.int (iI z_150), .int (iI 0)]) (rest := []) (x := (sg z_150)) (fun _ _ h => q_ofRun_0 (by omega) h) C w (fun ws hA => c_D_ofRun hT o _ ws hA z_150 0 ⟨by omega, by omega⟩) ml_L_17 im_D_ofRun se_D_ofRun cd_D_ofRun hd_D_ofRun rfl (by rw [hRm]; exact ⟨⟨Nat.le_of_ble_eq_true rfl, Nat.le_of_ble_eq_true rfl⟩, Nat.le_of_ble_eq_true rfl, Nat.le_of_ble_eq_true rfl⟩) hl.1 rfl (Nat.le_of_ble_eq_true rfl) d_L_saves_186 (fun H locs w => ?_)
          refine r_iload (pc := 189) C d_L_saves_189 (lv_at hl 0 rfl) ?_
          refine r_icmp_ne (pc := 191) (tgt := 196) C (by omega) d_L_saves_191 (by decide) (fun c_191 => ?_) (fun c_191 => ?_)
          · skip
            have hsr := svd_rg (code := lc) (val := z_161) hO hN3 (k := z_150) (by omega) (by omega)
            have hmx : (bb < 0 → svd lc r sg ln z_150 z_161 ≤ 0) ∧ (0 ≤ bb → svd lc r sg ln z_150 z_161 ≤ mb ∧ (svd lc r sg ln z_150 z_161 = mb → bb < z_150 ∨ (bb = z_150 ∧ wb ≤ z_161))) := by
              rcases hbw with ⟨u1, u2, u3, u4⟩ | ⟨u1, u2, u3, u4, u5⟩
              · exact ⟨fun _ => u4 z_150 (by omega) (by omega) z_161 (by omega) (by omega), fun q => by omega⟩
              · exact ⟨fun q => by omega, fun _ => u5 z_150 (by omega) (by omega) z_161 (by omega) (by omega)⟩
            refine r_aload_n (pc := 196) C d_L_saves_196 rfl (lv_at hl 8 rfl) ?_
            refine r_iload (pc := 197) C d_L_saves_197 (lv_at hl 1 rfl) ?_
            refine r_iconst (pc := 199) C d_L_saves_199 ?_
            refine l_callE (pc := 200) (As := [.int (iI z_150), .int (iI 2)]) (rest := []) (x := (ln z_150)) (fun _ _ h => q_ofRun_2 (by omega) h) C w (fun ws hA => c_D_ofRun hT o _ ws hA z_150 2 ⟨by omega, by omega⟩) ml_L_17 im_D_ofRun se_D_ofRun cd_D_ofRun hd_D_ofRun rfl (by rw [hRm]; exact ⟨⟨Nat.le_of_ble_eq_true rfl, Nat.le_of_ble_eq_true rfl⟩, Nat.le_of_ble_eq_true rfl, Nat.le_of_ble_eq_true rfl⟩) hl.1 rfl (Nat.le_of_ble_eq_true rfl) d_L_saves_200 (fun H locs w => ?_)
            refine r_istore (pc := 203) (lv' := [(9, .int (iI (ln z_150))), (8, .int (iI z_161)), (7, .int (iI z_150)), (6, .int (iI (ps (rbf lc sg ln) r))), (5, .int (iI mb)), (4, .int (iI wb)), (3, .int (iI bb)), (2, .int (iI r)), (1, .int (iI q)), (0, .ref o)]) C d_L_saves_203 hl (by decide) rfl (fun ls hl => ?_)
            refine r_aload_n (pc := 205) C d_L_saves_205 rfl (lv_at hl 9 rfl) ?_
            refine r_aload_n (pc := 206) C d_L_saves_206 rfl (lv_at hl 9 rfl) ?_
            refine r_iload (pc := 207) C d_L_saves_207 (lv_at hl 2 rfl) ?_
            refine r_iconst (pc := 209) C d_L_saves_209 ?_
            refine l_callE (pc := 210) (As := [.int (iI z_150), .int (iI 1)]) (rest := [.ref o]) (x := (ps ln z_150)) (fun _ _ h => q_ofRun_1 (by omega) h) C w (fun ws hA => c_D_ofRun hT o _ ws hA z_150 1 ⟨by omega, by omega⟩) ml_L_17 im_D_ofRun se_D_ofRun cd_D_ofRun hd_D_ofRun rfl (by rw [hRm]; exact ⟨⟨Nat.le_of_ble_eq_true rfl, Nat.le_of_ble_eq_true rfl⟩, Nat.le_of_ble_eq_true rfl, Nat.le_of_ble_eq_true rfl⟩) hl.1 rfl (Nat.le_of_ble_eq_true rfl) d_L_saves_210 (fun H locs w => ?_)
            refine r_iload (pc := 213) C d_L_saves_213 (lv_at hl 0 rfl) ?_
            refine r_iload (pc := 215) C d_L_saves_215 (lv_at hl 1 rfl) ?_
            refine l_callV (pc := 217) (As := [.int (iI (ps ln z_150)), .int (iI (ln z_150)), .int (iI z_161)]) (rest := []) C w (fun ws hA => c_D_write hT o _ ws hA (ps ln z_150) (ln z_150) z_161 ⟨by omega, by omega, by omega⟩) ml_L_37 im_D_write se_D_write cd_D_write hd_D_write rfl (by rw [hRm]; exact ⟨⟨Nat.le_of_ble_eq_true rfl, Nat.le_of_ble_eq_true rfl⟩, Nat.le_of_ble_eq_true rfl, Nat.le_of_ble_eq_true rfl⟩) hl.1 rfl (Nat.le_of_ble_eq_true rfl) d_L_saves_217 (fun z_217 A_217 H locs hz_217 w => ?_)
            obtain ⟨e1_217, r2, sg2, ln2, hist2, rcd2, e2_217, hbr2, hbt2, hu2, hw2⟩ := q_write ⟨hO, hr50, hN3, hlc, hsd⟩ (hrc2) (by omega) (by omega) (by omega) hz_217
            subst e2_217
            have hrcd2 : 0 ≤ rcd2 ∧ rcd2 ≤ 6 := w.ok.2.1
            refine r_istore (pc := 220) (lv' := [(10, .int (iI z_217)), (9, .int (iI (ln z_150))), (8, .int (iI z_161)), (7, .int (iI z_150)), (6, .int (iI (ps (rbf lc sg ln) r))), (5, .int (iI mb)), (4, .int (iI wb)), (3, .int (iI bb)), (2, .int (iI r)), (1, .int (iI q)), (0, .ref o)]) C d_L_saves_220 hl (by decide) rfl (fun ls hl => ?_)
            refine r_iload (pc := 222) C d_L_saves_222 (lv_at hl 4 rfl) ?_
            refine r_aload_n (pc := 224) C d_L_saves_224 rfl (lv_at hl 10 rfl) ?_
            refine r_iconst (pc := 225) C d_L_saves_225 ?_
            refine l_callE (pc := 226) (As := [.int (iI 3)]) (rest := [.int (iI (ps (rbf lc sg ln) r))]) (x := (ps (rbf lc sg2 ln2) r2)) (fun _ _ h => q_count_3 h) C w (fun ws hA => c_D_count hT o _ ws hA 3 (by omega)) ml_L_11 im_D_count se_D_count cd_D_count hd_D_count rfl (by rw [hRm]; exact ⟨⟨Nat.le_of_ble_eq_true rfl, Nat.le_of_ble_eq_true rfl⟩, Nat.le_of_ble_eq_true rfl, Nat.le_of_ble_eq_true rfl⟩) hl.1 rfl (Nat.le_of_ble_eq_true rfl) d_L_saves_226 (fun H locs w => ?_)
            refine r_isub (pc := 229) C d_L_saves_229 ?_
            refine r_istore (pc := 230) (lv' := [(11, .int (iI ((ps (rbf lc sg ln) r) - (ps (rbf lc sg2 ln2) r2)))), (10, .int (iI z_217)), (9, .int (iI (ln z_150))), (8, .int (iI z_161)), (7, .int (iI z_150)), (6, .int (iI (ps (rbf lc sg ln) r))), (5, .int (iI mb)), (4, .int (iI wb)), (3, .int (iI bb)), (2, .int (iI r)), (1, .int (iI q)), (0, .ref o)]) C d_L_saves_230 hl (by decide) rfl (fun ls hl => ?_)
            refine r_iload (pc := 232) C d_L_saves_232 (lv_at hl 0 rfl) ?_
            refine r_iload_n (pc := 234) C d_L_saves_234 rfl (lv_at hl 8 rfl) ?_
            refine r_if_ge (pc := 235) (tgt := 242) C (by omega) d_L_saves_235 (by decide) (fun c_235 => ?_) (fun c_235 => ?_)
            · skip
              refine r_iload (pc := 242) C d_L_saves_242 (lv_at hl 6 rfl) ?_
              refine r_icmp_lt (pc := 244) (tgt := 273) C (by omega) d_L_saves_244 (by decide) (fun c_244 => ?_) (fun c_244 => ?_)
              · skip
                refine r_iconst (pc := 273) C d_L_saves_273 ?_
                refine r_goto (pc := 274) (tgt := 278) C d_L_saves_274 (by decide) ?_
                refine r_istore (pc := 278) (lv' := [(12, .int (iI 1)), (11, .int (iI ((ps (rbf lc sg ln) r) - (ps (rbf lc sg2 ln2) r2)))), (10, .int (iI z_217)), (9, .int (iI (ln z_150))), (8, .int (iI z_161)), (7, .int (iI z_150)), (6, .int (iI (ps (rbf lc sg ln) r))), (5, .int (iI mb)), (4, .int (iI wb)), (3, .int (iI bb)), (2, .int (iI r)), (1, .int (iI q)), (0, .ref o)]) C d_L_saves_278 hl (by decide) rfl (fun ls hl => ?_)
                refine r_iload (pc := 280) C d_L_saves_280 (lv_at hl 2 rfl) ?_
                refine r_iload (pc := 282) C d_L_saves_282 (lv_at hl 3 rfl) ?_
                refine r_icmp_ne (pc := 284) (tgt := 303) C (by omega) d_L_saves_284 (by decide) (fun c_284 => ?_) (fun c_284 => ?_)
                · skip
                  exact absurd e1_217 c_284
                · skip
                  refine r_iload (pc := 287) C d_L_saves_287 (lv_at hl 0 rfl) ?_
                  refine r_if_eq (pc := 289) (tgt := 303) C (by omega) d_L_saves_289 (by decide) (fun c_289 => absurd c_289 (by omega)) (fun c_289 => ?_)
                  refine r_aload_n (pc := 292) C d_L_saves_292 rfl (lv_at hl 12 rfl) ?_
                  refine l_callV (pc := 293) (As := []) (rest := []) C w (fun ws hA => c_D_undo hT o _ ws hA) ml_L_119 im_D_undo se_D_undo cd_D_undo hd_D_undo rfl (by rw [hRm]; exact ⟨⟨Nat.le_of_ble_eq_true rfl, Nat.le_of_ble_eq_true rfl⟩, Nat.le_of_ble_eq_true rfl, Nat.le_of_ble_eq_true rfl⟩) hl.1 rfl (Nat.le_of_ble_eq_true rfl) d_L_saves_293 (fun z_293 A_293 H locs hz_293 w => ?_)
                  obtain ⟨e1_293, e2_293⟩ := q_undo hu2 hw2 hz_293
                  subst e2_293
                  refine r_if_lt (pc := 296) (tgt := 303) C (by omega) d_L_saves_296 (by decide) (fun c_296 => ?_) (fun c_296 => ?_)
                  · skip
                    exact absurd c_296 (by omega)
                  · skip
                    refine r_iconst (pc := 299) C d_L_saves_299 ?_
                    refine r_goto (pc := 300) (tgt := 304) C d_L_saves_300 (by decide) ?_
                    exact kret _ _ _ _ 1 _ d_L_saves_304 w (by omega) (rfl)
              · skip
                refine r_iload (pc := 247) C d_L_saves_247 (lv_at hl 0 rfl) ?_
                refine r_iload (pc := 249) C d_L_saves_249 (lv_at hl 6 rfl) ?_
                refine r_icmp_ne (pc := 251) (tgt := 277) C (by omega) d_L_saves_251 (by decide) (fun c_251 => ?_) (fun c_251 => ?_)
                · skip
                  exfalso
                  omega
                · skip
                  refine r_iload (pc := 254) C d_L_saves_254 (lv_at hl 4 rfl) ?_
                  refine r_iload_n (pc := 256) C d_L_saves_256 rfl (lv_at hl 8 rfl) ?_
                  refine r_icmp_gt (pc := 257) (tgt := 273) C (by omega) d_L_saves_257 (by decide) (fun c_257 => ?_) (fun c_257 => ?_)
                  · skip
                    refine r_iconst (pc := 273) C d_L_saves_273 ?_
                    refine r_goto (pc := 274) (tgt := 278) C d_L_saves_274 (by decide) ?_
                    refine r_istore (pc := 278) (lv' := [(12, .int (iI 1)), (11, .int (iI ((ps (rbf lc sg ln) r) - (ps (rbf lc sg2 ln2) r2)))), (10, .int (iI z_217)), (9, .int (iI (ln z_150))), (8, .int (iI z_161)), (7, .int (iI z_150)), (6, .int (iI (ps (rbf lc sg ln) r))), (5, .int (iI mb)), (4, .int (iI wb)), (3, .int (iI bb)), (2, .int (iI r)), (1, .int (iI q)), (0, .ref o)]) C d_L_saves_278 hl (by decide) rfl (fun ls hl => ?_)
                    refine r_iload (pc := 280) C d_L_saves_280 (lv_at hl 2 rfl) ?_
                    refine r_iload (pc := 282) C d_L_saves_282 (lv_at hl 3 rfl) ?_
                    refine r_icmp_ne (pc := 284) (tgt := 303) C (by omega) d_L_saves_284 (by decide) (fun c_284 => ?_) (fun c_284 => ?_)
                    · skip
                      exact absurd e1_217 c_284
                    · skip
                      refine r_iload (pc := 287) C d_L_saves_287 (lv_at hl 0 rfl) ?_
                      refine r_if_eq (pc := 289) (tgt := 303) C (by omega) d_L_saves_289 (by decide) (fun c_289 => absurd c_289 (by omega)) (fun c_289 => ?_)
                      refine r_aload_n (pc := 292) C d_L_saves_292 rfl (lv_at hl 12 rfl) ?_
                      refine l_callV (pc := 293) (As := []) (rest := []) C w (fun ws hA => c_D_undo hT o _ ws hA) ml_L_119 im_D_undo se_D_undo cd_D_undo hd_D_undo rfl (by rw [hRm]; exact ⟨⟨Nat.le_of_ble_eq_true rfl, Nat.le_of_ble_eq_true rfl⟩, Nat.le_of_ble_eq_true rfl, Nat.le_of_ble_eq_true rfl⟩) hl.1 rfl (Nat.le_of_ble_eq_true rfl) d_L_saves_293 (fun z_293 A_293 H locs hz_293 w => ?_)
                      obtain ⟨e1_293, e2_293⟩ := q_undo hu2 hw2 hz_293
                      subst e2_293
                      refine r_if_lt (pc := 296) (tgt := 303) C (by omega) d_L_saves_296 (by decide) (fun c_296 => ?_) (fun c_296 => ?_)
                      · skip
                        exact absurd c_296 (by omega)
                      · skip
                        refine r_iconst (pc := 299) C d_L_saves_299 ?_
                        refine r_goto (pc := 300) (tgt := 304) C d_L_saves_300 (by decide) ?_
                        exact kret _ _ _ _ 1 _ d_L_saves_304 w (by omega) (rfl)
                  · skip
                    refine r_iload (pc := 260) C d_L_saves_260 (lv_at hl 4 rfl) ?_
                    refine r_iload_n (pc := 262) C d_L_saves_262 rfl (lv_at hl 8 rfl) ?_
                    refine r_icmp_ne (pc := 263) (tgt := 277) C (by omega) d_L_saves_263 (by decide) (fun c_263 => ?_) (fun c_263 => ?_)
                    · skip
                      exfalso
                      omega
                    · skip
                      refine r_iload (pc := 266) C d_L_saves_266 (lv_at hl 3 rfl) ?_
                      refine r_iload (pc := 268) C d_L_saves_268 (lv_at hl 7 rfl) ?_
                      refine r_icmp_lt (pc := 270) (tgt := 277) C (by omega) d_L_saves_270 (by decide) (fun c_270 => ?_) (fun c_270 => ?_)
                      · skip
                        exfalso
                        omega
                      · skip
                        refine r_iconst (pc := 273) C d_L_saves_273 ?_
                        refine r_goto (pc := 274) (tgt := 278) C d_L_saves_274 (by decide) ?_
                        refine r_istore (pc := 278) (lv' := [(12, .int (iI 1)), (11, .int (iI ((ps (rbf lc sg ln) r) - (ps (rbf lc sg2 ln2) r2)))), (10, .int (iI z_217)), (9, .int (iI (ln z_150))), (8, .int (iI z_161)), (7, .int (iI z_150)), (6, .int (iI (ps (rbf lc sg ln) r))), (5, .int (iI mb)), (4, .int (iI wb)), (3, .int (iI bb)), (2, .int (iI r)), (1, .int (iI q)), (0, .ref o)]) C d_L_saves_278 hl (by decide) rfl (fun ls hl => ?_)
                        refine r_iload (pc := 280) C d_L_saves_280 (lv_at hl 2 rfl) ?_
                        refine r_iload (pc := 282) C d_L_saves_282 (lv_at hl 3 rfl) ?_
                        refine r_icmp_ne (pc := 284) (tgt := 303) C (by omega) d_L_saves_284 (by decide) (fun c_284 => ?_) (fun c_284 => ?_)
                        · skip
                          exact absurd e1_217 c_284
                        · skip
                          refine r_iload (pc := 287) C d_L_saves_287 (lv_at hl 0 rfl) ?_
                          refine r_if_eq (pc := 289) (tgt := 303) C (by omega) d_L_saves_289 (by decide) (fun c_289 => absurd c_289 (by omega)) (fun c_289 => ?_)
                          refine r_aload_n (pc := 292) C d_L_saves_292 rfl (lv_at hl 12 rfl) ?_
                          refine l_callV (pc := 293) (As := []) (rest := []) C w (fun ws hA => c_D_undo hT o _ ws hA) ml_L_119 im_D_undo se_D_undo cd_D_undo hd_D_undo rfl (by rw [hRm]; exact ⟨⟨Nat.le_of_ble_eq_true rfl, Nat.le_of_ble_eq_true rfl⟩, Nat.le_of_ble_eq_true rfl, Nat.le_of_ble_eq_true rfl⟩) hl.1 rfl (Nat.le_of_ble_eq_true rfl) d_L_saves_293 (fun z_293 A_293 H locs hz_293 w => ?_)
                          obtain ⟨e1_293, e2_293⟩ := q_undo hu2 hw2 hz_293
                          subst e2_293
                          refine r_if_lt (pc := 296) (tgt := 303) C (by omega) d_L_saves_296 (by decide) (fun c_296 => ?_) (fun c_296 => ?_)
                          · skip
                            exact absurd c_296 (by omega)
                          · skip
                            refine r_iconst (pc := 299) C d_L_saves_299 ?_
                            refine r_goto (pc := 300) (tgt := 304) C d_L_saves_300 (by decide) ?_
                            exact kret _ _ _ _ 1 _ d_L_saves_304 w (by omega) (rfl)
            · skip
              refine r_iconst (pc := 238) C d_L_saves_238 ?_
              refine r_goto (pc := 239) (tgt := 244) C d_L_saves_239 (by decide) ?_
              refine r_icmp_lt (pc := 244) (tgt := 273) C (by omega) d_L_saves_244 (by decide) (fun c_244 => ?_) (fun c_244 => ?_)
              · skip
                refine r_iconst (pc := 273) C d_L_saves_273 ?_
                refine r_goto (pc := 274) (tgt := 278) C d_L_saves_274 (by decide) ?_
                refine r_istore (pc := 278) (lv' := [(12, .int (iI 1)), (11, .int (iI ((ps (rbf lc sg ln) r) - (ps (rbf lc sg2 ln2) r2)))), (10, .int (iI z_217)), (9, .int (iI (ln z_150))), (8, .int (iI z_161)), (7, .int (iI z_150)), (6, .int (iI (ps (rbf lc sg ln) r))), (5, .int (iI mb)), (4, .int (iI wb)), (3, .int (iI bb)), (2, .int (iI r)), (1, .int (iI q)), (0, .ref o)]) C d_L_saves_278 hl (by decide) rfl (fun ls hl => ?_)
                refine r_iload (pc := 280) C d_L_saves_280 (lv_at hl 2 rfl) ?_
                refine r_iload (pc := 282) C d_L_saves_282 (lv_at hl 3 rfl) ?_
                refine r_icmp_ne (pc := 284) (tgt := 303) C (by omega) d_L_saves_284 (by decide) (fun c_284 => ?_) (fun c_284 => ?_)
                · skip
                  exact absurd e1_217 c_284
                · skip
                  refine r_iload (pc := 287) C d_L_saves_287 (lv_at hl 0 rfl) ?_
                  refine r_if_eq (pc := 289) (tgt := 303) C (by omega) d_L_saves_289 (by decide) (fun c_289 => absurd c_289 (by omega)) (fun c_289 => ?_)
                  refine r_aload_n (pc := 292) C d_L_saves_292 rfl (lv_at hl 12 rfl) ?_
                  refine l_callV (pc := 293) (As := []) (rest := []) C w (fun ws hA => c_D_undo hT o _ ws hA) ml_L_119 im_D_undo se_D_undo cd_D_undo hd_D_undo rfl (by rw [hRm]; exact ⟨⟨Nat.le_of_ble_eq_true rfl, Nat.le_of_ble_eq_true rfl⟩, Nat.le_of_ble_eq_true rfl, Nat.le_of_ble_eq_true rfl⟩) hl.1 rfl (Nat.le_of_ble_eq_true rfl) d_L_saves_293 (fun z_293 A_293 H locs hz_293 w => ?_)
                  obtain ⟨e1_293, e2_293⟩ := q_undo hu2 hw2 hz_293
                  subst e2_293
                  refine r_if_lt (pc := 296) (tgt := 303) C (by omega) d_L_saves_296 (by decide) (fun c_296 => ?_) (fun c_296 => ?_)
                  · skip
                    exact absurd c_296 (by omega)
                  · skip
                    refine r_iconst (pc := 299) C d_L_saves_299 ?_
                    refine r_goto (pc := 300) (tgt := 304) C d_L_saves_300 (by decide) ?_
                    exact kret _ _ _ _ 1 _ d_L_saves_304 w (by omega) (rfl)
              · skip
                refine r_iload (pc := 247) C d_L_saves_247 (lv_at hl 0 rfl) ?_
                refine r_iload (pc := 249) C d_L_saves_249 (lv_at hl 6 rfl) ?_
                refine r_icmp_ne (pc := 251) (tgt := 277) C (by omega) d_L_saves_251 (by decide) (fun c_251 => ?_) (fun c_251 => ?_)
                · skip
                  exfalso
                  omega
                · skip
                  refine r_iload (pc := 254) C d_L_saves_254 (lv_at hl 4 rfl) ?_
                  refine r_iload_n (pc := 256) C d_L_saves_256 rfl (lv_at hl 8 rfl) ?_
                  refine r_icmp_gt (pc := 257) (tgt := 273) C (by omega) d_L_saves_257 (by decide) (fun c_257 => ?_) (fun c_257 => ?_)
                  · skip
                    refine r_iconst (pc := 273) C d_L_saves_273 ?_
                    refine r_goto (pc := 274) (tgt := 278) C d_L_saves_274 (by decide) ?_
                    refine r_istore (pc := 278) (lv' := [(12, .int (iI 1)), (11, .int (iI ((ps (rbf lc sg ln) r) - (ps (rbf lc sg2 ln2) r2)))), (10, .int (iI z_217)), (9, .int (iI (ln z_150))), (8, .int (iI z_161)), (7, .int (iI z_150)), (6, .int (iI (ps (rbf lc sg ln) r))), (5, .int (iI mb)), (4, .int (iI wb)), (3, .int (iI bb)), (2, .int (iI r)), (1, .int (iI q)), (0, .ref o)]) C d_L_saves_278 hl (by decide) rfl (fun ls hl => ?_)
                    refine r_iload (pc := 280) C d_L_saves_280 (lv_at hl 2 rfl) ?_
                    refine r_iload (pc := 282) C d_L_saves_282 (lv_at hl 3 rfl) ?_
                    refine r_icmp_ne (pc := 284) (tgt := 303) C (by omega) d_L_saves_284 (by decide) (fun c_284 => ?_) (fun c_284 => ?_)
                    · skip
                      exact absurd e1_217 c_284
                    · skip
                      refine r_iload (pc := 287) C d_L_saves_287 (lv_at hl 0 rfl) ?_
                      refine r_if_eq (pc := 289) (tgt := 303) C (by omega) d_L_saves_289 (by decide) (fun c_289 => absurd c_289 (by omega)) (fun c_289 => ?_)
                      refine r_aload_n (pc := 292) C d_L_saves_292 rfl (lv_at hl 12 rfl) ?_
                      refine l_callV (pc := 293) (As := []) (rest := []) C w (fun ws hA => c_D_undo hT o _ ws hA) ml_L_119 im_D_undo se_D_undo cd_D_undo hd_D_undo rfl (by rw [hRm]; exact ⟨⟨Nat.le_of_ble_eq_true rfl, Nat.le_of_ble_eq_true rfl⟩, Nat.le_of_ble_eq_true rfl, Nat.le_of_ble_eq_true rfl⟩) hl.1 rfl (Nat.le_of_ble_eq_true rfl) d_L_saves_293 (fun z_293 A_293 H locs hz_293 w => ?_)
                      obtain ⟨e1_293, e2_293⟩ := q_undo hu2 hw2 hz_293
                      subst e2_293
                      refine r_if_lt (pc := 296) (tgt := 303) C (by omega) d_L_saves_296 (by decide) (fun c_296 => ?_) (fun c_296 => ?_)
                      · skip
                        exact absurd c_296 (by omega)
                      · skip
                        refine r_iconst (pc := 299) C d_L_saves_299 ?_
                        refine r_goto (pc := 300) (tgt := 304) C d_L_saves_300 (by decide) ?_
                        exact kret _ _ _ _ 1 _ d_L_saves_304 w (by omega) (rfl)
                  · skip
                    refine r_iload (pc := 260) C d_L_saves_260 (lv_at hl 4 rfl) ?_
                    refine r_iload_n (pc := 262) C d_L_saves_262 rfl (lv_at hl 8 rfl) ?_
                    refine r_icmp_ne (pc := 263) (tgt := 277) C (by omega) d_L_saves_263 (by decide) (fun c_263 => ?_) (fun c_263 => ?_)
                    · skip
                      exfalso
                      omega
                    · skip
                      refine r_iload (pc := 266) C d_L_saves_266 (lv_at hl 3 rfl) ?_
                      refine r_iload (pc := 268) C d_L_saves_268 (lv_at hl 7 rfl) ?_
                      refine r_icmp_lt (pc := 270) (tgt := 277) C (by omega) d_L_saves_270 (by decide) (fun c_270 => ?_) (fun c_270 => ?_)
                      · skip
                        exfalso
                        omega
                      · skip
                        refine r_iconst (pc := 273) C d_L_saves_273 ?_
                        refine r_goto (pc := 274) (tgt := 278) C d_L_saves_274 (by decide) ?_
                        refine r_istore (pc := 278) (lv' := [(12, .int (iI 1)), (11, .int (iI ((ps (rbf lc sg ln) r) - (ps (rbf lc sg2 ln2) r2)))), (10, .int (iI z_217)), (9, .int (iI (ln z_150))), (8, .int (iI z_161)), (7, .int (iI z_150)), (6, .int (iI (ps (rbf lc sg ln) r))), (5, .int (iI mb)), (4, .int (iI wb)), (3, .int (iI bb)), (2, .int (iI r)), (1, .int (iI q)), (0, .ref o)]) C d_L_saves_278 hl (by decide) rfl (fun ls hl => ?_)
                        refine r_iload (pc := 280) C d_L_saves_280 (lv_at hl 2 rfl) ?_
                        refine r_iload (pc := 282) C d_L_saves_282 (lv_at hl 3 rfl) ?_
                        refine r_icmp_ne (pc := 284) (tgt := 303) C (by omega) d_L_saves_284 (by decide) (fun c_284 => ?_) (fun c_284 => ?_)
                        · skip
                          exact absurd e1_217 c_284
                        · skip
                          refine r_iload (pc := 287) C d_L_saves_287 (lv_at hl 0 rfl) ?_
                          refine r_if_eq (pc := 289) (tgt := 303) C (by omega) d_L_saves_289 (by decide) (fun c_289 => absurd c_289 (by omega)) (fun c_289 => ?_)
                          refine r_aload_n (pc := 292) C d_L_saves_292 rfl (lv_at hl 12 rfl) ?_
                          refine l_callV (pc := 293) (As := []) (rest := []) C w (fun ws hA => c_D_undo hT o _ ws hA) ml_L_119 im_D_undo se_D_undo cd_D_undo hd_D_undo rfl (by rw [hRm]; exact ⟨⟨Nat.le_of_ble_eq_true rfl, Nat.le_of_ble_eq_true rfl⟩, Nat.le_of_ble_eq_true rfl, Nat.le_of_ble_eq_true rfl⟩) hl.1 rfl (Nat.le_of_ble_eq_true rfl) d_L_saves_293 (fun z_293 A_293 H locs hz_293 w => ?_)
                          obtain ⟨e1_293, e2_293⟩ := q_undo hu2 hw2 hz_293
                          subst e2_293
                          refine r_if_lt (pc := 296) (tgt := 303) C (by omega) d_L_saves_296 (by decide) (fun c_296 => ?_) (fun c_296 => ?_)
                          · skip
                            exact absurd c_296 (by omega)
                          · skip
                            refine r_iconst (pc := 299) C d_L_saves_299 ?_
                            refine r_goto (pc := 300) (tgt := 304) C d_L_saves_300 (by decide) ?_
                            exact kret _ _ _ _ 1 _ d_L_saves_304 w (by omega) (rfl)
          · skip
            refine r_iconst (pc := 194) C d_L_saves_194 ?_
            exact kret _ _ _ _ 1 _ d_L_saves_195 w (by omega) (rfl)
    · skip
      refine r_iconst (pc := 144) C d_L_saves_144 ?_
      refine r_goto (pc := 145) (tgt := 153) C d_L_saves_145 (by decide) ?_
      refine r_istore (pc := 153) (lv' := [(7, .int (iI 0)), (6, .int (iI (ps (rbf lc sg ln) r))), (5, .int (iI mb)), (4, .int (iI wb)), (3, .int (iI bb)), (2, .int (iI r)), (1, .int (iI q)), (0, .ref o)]) C d_L_saves_153 hl (by decide) rfl (fun ls hl => ?_)
      refine r_iload_n (pc := 155) C d_L_saves_155 rfl (lv_at hl 6 rfl) ?_
      refine r_bipush (pc := 156) C d_L_saves_156 (by decide) ?_
      refine r_ishr (pc := 158) C d_L_saves_158 ?_
      refine r_top (y := iI ((iI q >>> (iI 8 &&& 31)).toInt)) ((iI_of _).symm) ?_
      refine r_bipush (pc := 159) C d_L_saves_159 (by decide) ?_
      refine l_callP (pc := 161) (As := [.int (iI ((iI q >>> (iI 8 &&& 31)).toInt)), .int (iI 10)]) (rest := []) C w (c_L_up _ 10 (by omega)) ml_L_122 st_L_up ini_L cd_L_up hd_L_up rfl (by rw [hRm]; exact ⟨⟨Nat.le_of_ble_eq_true rfl, Nat.le_of_ble_eq_true rfl⟩, Nat.le_of_ble_eq_true rfl, Nat.le_of_ble_eq_true rfl⟩) hl.1 rfl (Nat.le_of_ble_eq_true rfl) d_L_saves_161 (fun z_161 H locs hz_161 w => ?_)
      refine r_istore (pc := 164) (lv' := [(8, .int (iI z_161)), (7, .int (iI 0)), (6, .int (iI (ps (rbf lc sg ln) r))), (5, .int (iI mb)), (4, .int (iI wb)), (3, .int (iI bb)), (2, .int (iI r)), (1, .int (iI q)), (0, .ref o)]) C d_L_saves_164 hl (by decide) rfl (fun ls hl => ?_)
      refine r_iload_n (pc := 166) C d_L_saves_166 rfl (lv_at hl 6 rfl) ?_
      refine r_if_eq (pc := 167) (tgt := 194) C (by omega) d_L_saves_167 (by decide) (fun c_167 => ?_) (fun c_167 => ?_)
      · skip
        refine r_iconst (pc := 194) C d_L_saves_194 ?_
        exact kret _ _ _ _ 1 _ d_L_saves_195 w (by omega) (rfl)
      · skip
        exact absurd c_141 c_167
  refine r_iload_n (pc := 33) C d_L_saves_33 rfl (lv_at hl 3 rfl) ?_
  refine r_if_ge (pc := 34) (tgt := 59) C (by omega) d_L_saves_34 (by decide) (fun c_34 => ?_) (fun c_34 => ?_)
  · skip
    have hbs : mb = svd lc r sg ln bb wb := by
      rcases hbw with ⟨u1, u2, u3, u4⟩ | ⟨u1, u2, u3, u4, u5⟩
      · omega
      · exact u3
    have g := hO.run (k := bb) (by omega) (by omega)
    have hs10 : ¬ sg bb = 10 := fun q => by rw [svd_dead q] at hbs; omega
    have hsw : ¬ wb = sg bb := fun q => by rw [q, svd_same hO (by omega) (by omega)] at hbs; omega
    refine r_aload_n (pc := 59) C d_L_saves_59 rfl (lv_at hl 5 rfl) ?_
    refine r_iload_n (pc := 60) C d_L_saves_60 rfl (lv_at hl 3 rfl) ?_
    refine r_iconst (pc := 61) C d_L_saves_61 ?_
    refine l_callE (pc := 62) (As := [.int (iI bb), .int (iI 0)]) (rest := []) (x := (sg bb)) (fun _ _ h => q_ofRun_0 (by omega) h) C w (fun ws hA => c_D_ofRun hT o _ ws hA bb 0 ⟨by omega, by omega⟩) ml_L_17 im_D_ofRun se_D_ofRun cd_D_ofRun hd_D_ofRun rfl (by rw [hRm]; exact ⟨⟨Nat.le_of_ble_eq_true rfl, Nat.le_of_ble_eq_true rfl⟩, Nat.le_of_ble_eq_true rfl, Nat.le_of_ble_eq_true rfl⟩) hl.1 rfl (Nat.le_of_ble_eq_true rfl) d_L_saves_62 (fun H locs w => ?_)
    refine r_istore (pc := 65) (lv' := [(7, .int (iI (sg bb))), (6, .int (iI (ps (rbf lc sg ln) r))), (5, .int (iI mb)), (4, .int (iI wb)), (3, .int (iI bb)), (2, .int (iI r)), (0, .ref o), (1, .int (iI q))]) C d_L_saves_65 hl (by decide) rfl (fun ls hl => ?_)
    refine r_aload_n (pc := 67) C d_L_saves_67 rfl (lv_at hl 6 rfl) ?_
    refine r_iload_n (pc := 68) C d_L_saves_68 rfl (lv_at hl 4 rfl) ?_
    refine r_iconst (pc := 69) C d_L_saves_69 ?_
    refine l_callE (pc := 70) (As := [.int (iI bb), .int (iI 1)]) (rest := []) (x := (ps ln bb)) (fun _ _ h => q_ofRun_1 (by omega) h) C w (fun ws hA => c_D_ofRun hT o _ ws hA bb 1 ⟨by omega, by omega⟩) ml_L_17 im_D_ofRun se_D_ofRun cd_D_ofRun hd_D_ofRun rfl (by rw [hRm]; exact ⟨⟨Nat.le_of_ble_eq_true rfl, Nat.le_of_ble_eq_true rfl⟩, Nat.le_of_ble_eq_true rfl, Nat.le_of_ble_eq_true rfl⟩) hl.1 rfl (Nat.le_of_ble_eq_true rfl) d_L_saves_70 (fun H locs w => ?_)
    refine r_istore (pc := 73) (lv' := [(8, .int (iI (ps ln bb))), (7, .int (iI (sg bb))), (6, .int (iI (ps (rbf lc sg ln) r))), (5, .int (iI mb)), (4, .int (iI wb)), (3, .int (iI bb)), (2, .int (iI r)), (0, .ref o), (1, .int (iI q))]) C d_L_saves_73 hl (by decide) rfl (fun ls hl => ?_)
    refine r_aload_n (pc := 75) C d_L_saves_75 rfl (lv_at hl 7 rfl) ?_
    refine r_iload_n (pc := 76) C d_L_saves_76 rfl (lv_at hl 5 rfl) ?_
    refine r_iconst (pc := 77) C d_L_saves_77 ?_
    refine l_callE (pc := 78) (As := [.int (iI bb), .int (iI 2)]) (rest := []) (x := (ln bb)) (fun _ _ h => q_ofRun_2 (by omega) h) C w (fun ws hA => c_D_ofRun hT o _ ws hA bb 2 ⟨by omega, by omega⟩) ml_L_17 im_D_ofRun se_D_ofRun cd_D_ofRun hd_D_ofRun rfl (by rw [hRm]; exact ⟨⟨Nat.le_of_ble_eq_true rfl, Nat.le_of_ble_eq_true rfl⟩, Nat.le_of_ble_eq_true rfl, Nat.le_of_ble_eq_true rfl⟩) hl.1 rfl (Nat.le_of_ble_eq_true rfl) d_L_saves_78 (fun H locs w => ?_)
    refine r_istore (pc := 81) (lv' := [(9, .int (iI (ln bb))), (8, .int (iI (ps ln bb))), (7, .int (iI (sg bb))), (6, .int (iI (ps (rbf lc sg ln) r))), (5, .int (iI mb)), (4, .int (iI wb)), (3, .int (iI bb)), (2, .int (iI r)), (0, .ref o), (1, .int (iI q))]) C d_L_saves_81 hl (by decide) rfl (fun ls hl => ?_)
    refine r_iload (pc := 83) C d_L_saves_83 (lv_at hl 2 rfl) ?_
    refine r_bipush (pc := 85) C d_L_saves_85 (by decide) ?_
    refine r_icmp_eq (pc := 87) (tgt := 138) C (by omega) d_L_saves_87 (by decide) (fun c_87 => ?_) (fun c_87 => ?_)
    · skip
      exact absurd c_87 hs10
    · skip
      refine r_iload (pc := 90) C d_L_saves_90 (lv_at hl 2 rfl) ?_
      refine r_iload (pc := 92) C d_L_saves_92 (lv_at hl 5 rfl) ?_
      refine r_icmp_eq (pc := 94) (tgt := 138) C (by omega) d_L_saves_94 (by decide) (fun c_94 => ?_) (fun c_94 => ?_)
      · skip
        exact absurd c_94.symm hsw
      · skip
        refine r_iload (pc := 97) C d_L_saves_97 (lv_at hl 4 rfl) ?_
        refine r_iconst (pc := 99) C d_L_saves_99 ?_
        refine r_icmp_lt (pc := 100) (tgt := 138) C (by omega) d_L_saves_100 (by decide) (fun c_100 => ?_) (fun c_100 => ?_)
        · skip
          exact absurd c_100 (by omega)
        · skip
          refine r_aload_n (pc := 103) C d_L_saves_103 rfl (lv_at hl 8 rfl) ?_
          refine r_iload (pc := 104) C d_L_saves_104 (lv_at hl 1 rfl) ?_
          refine r_iload (pc := 106) C d_L_saves_106 (lv_at hl 0 rfl) ?_
          refine r_iload (pc := 108) C d_L_saves_108 (lv_at hl 5 rfl) ?_
          refine l_callV (pc := 110) (As := [.int (iI (ps ln bb)), .int (iI (ln bb)), .int (iI wb)]) (rest := []) C w (fun ws hA => c_D_write hT o _ ws hA (ps ln bb) (ln bb) wb ⟨by omega, by omega, by omega⟩) ml_L_37 im_D_write se_D_write cd_D_write hd_D_write rfl (by rw [hRm]; exact ⟨⟨Nat.le_of_ble_eq_true rfl, Nat.le_of_ble_eq_true rfl⟩, Nat.le_of_ble_eq_true rfl, Nat.le_of_ble_eq_true rfl⟩) hl.1 rfl (Nat.le_of_ble_eq_true rfl) d_L_saves_110 (fun z_110 A_110 H locs hz_110 w => ?_)
          obtain ⟨e1_110, r1, sg1, ln1, hist1, rcd1, e2_110, hbr1, hbt1, hu1, hw1⟩ := q_write ⟨hO, hr50, hN3, hlc, hsd⟩ (hrcd) (by omega) hs10 (by omega) hz_110
          subst e2_110
          have hrcd1 : 0 ≤ rcd1 ∧ rcd1 ≤ 6 := w.ok.2.1
          refine r_iload (pc := 113) C d_L_saves_113 (lv_at hl 0 rfl) ?_
          refine r_icmp_ne (pc := 115) (tgt := 138) C (by omega) d_L_saves_115 (by decide) (fun c_115 => ?_) (fun c_115 => ?_)
          · skip
            exact absurd e1_110 c_115
          · skip
            refine r_iload (pc := 118) C d_L_saves_118 (lv_at hl 3 rfl) ?_
            refine r_aload_n (pc := 120) C d_L_saves_120 rfl (lv_at hl 8 rfl) ?_
            refine r_iconst (pc := 121) C d_L_saves_121 ?_
            refine l_callE (pc := 122) (As := [.int (iI 3)]) (rest := [.int (iI (ps (rbf lc sg ln) r))]) (x := (ps (rbf lc sg1 ln1) r1)) (fun _ _ h => q_count_3 h) C w (fun ws hA => c_D_count hT o _ ws hA 3 (by omega)) ml_L_11 im_D_count se_D_count cd_D_count hd_D_count rfl (by rw [hRm]; exact ⟨⟨Nat.le_of_ble_eq_true rfl, Nat.le_of_ble_eq_true rfl⟩, Nat.le_of_ble_eq_true rfl, Nat.le_of_ble_eq_true rfl⟩) hl.1 rfl (Nat.le_of_ble_eq_true rfl) d_L_saves_122 (fun H locs w => ?_)
            refine r_isub (pc := 125) C d_L_saves_125 ?_
            refine r_iload (pc := 126) C d_L_saves_126 (lv_at hl 4 rfl) ?_
            refine r_icmp_ne (pc := 128) (tgt := 138) C (by omega) d_L_saves_128 (by decide) (fun c_128 => ?_) (fun c_128 => ?_)
            · skip
              exact absurd (by omega) c_128
            · skip
              refine r_aload_n (pc := 131) C d_L_saves_131 rfl (lv_at hl 8 rfl) ?_
              refine l_callV (pc := 132) (As := []) (rest := []) C w (fun ws hA => c_D_undo hT o _ ws hA) ml_L_119 im_D_undo se_D_undo cd_D_undo hd_D_undo rfl (by rw [hRm]; exact ⟨⟨Nat.le_of_ble_eq_true rfl, Nat.le_of_ble_eq_true rfl⟩, Nat.le_of_ble_eq_true rfl, Nat.le_of_ble_eq_true rfl⟩) hl.1 rfl (Nat.le_of_ble_eq_true rfl) d_L_saves_132 (fun z_132 A_132 H locs hz_132 w => ?_)
              obtain ⟨e1_132, e2_132⟩ := q_undo hu1 hw1 hz_132
              subst e2_132
              refine r_if_ge (pc := 135) (tgt := 140) C (by omega) d_L_saves_135 (by decide) (fun c_135 => ?_) (fun c_135 => ?_)
              · skip
                exact J140 hist1 (rcd1 - 1)  _ _ _ w (lv_sub hl [3, 4, 5, 6, 7, 9, 8] rfl)
              · skip
                exact absurd c_135 (by omega)
  · skip
    refine r_iload_n (pc := 37) C d_L_saves_37 rfl (lv_at hl 3 rfl) ?_
    refine r_bipush (pc := 38) C d_L_saves_38 (by decide) ?_
    refine r_icmp_ne (pc := 40) (tgt := 57) C (by omega) d_L_saves_40 (by decide) (fun c_40 => ?_) (fun c_40 => ?_)
    · skip
      exact absurd (by omega) c_40
    · skip
      refine r_iload (pc := 43) C d_L_saves_43 (lv_at hl 2 rfl) ?_
      refine r_bipush (pc := 45) C d_L_saves_45 (by decide) ?_
      refine r_icmp_ne (pc := 47) (tgt := 57) C (by omega) d_L_saves_47 (by decide) (fun c_47 => ?_) (fun c_47 => ?_)
      · skip
        exact absurd (by omega) c_47
      · skip
        refine r_iload (pc := 50) C d_L_saves_50 (lv_at hl 1 rfl) ?_
        refine r_bipush (pc := 52) C d_L_saves_52 (by decide) ?_
        refine r_icmp_eq (pc := 54) (tgt := 140) C (by omega) d_L_saves_54 (by decide) (fun c_54 => ?_) (fun c_54 => ?_)
        · skip
          exact J140 hist rcd  _ _ _ w (lv_sub hl [0, 1, 2, 3, 4, 6, 5] rfl)
        · skip
          exact absurd (by omega) c_54
