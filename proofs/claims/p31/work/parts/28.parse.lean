/-! the row's own text can be read back -/
theorem tx_rg {r N : Int} {sg ln v : Int → Int} (hO : Ok r sg ln N v) (hN : N ≤ 3000) : ∀ k, 0 ≤ k → k ≤ r → ∀ x, 0 ≤ x → x < ps (crf ln) k + k - 1 → 33 ≤ tx sg ln k x ∧ tx sg ln k x ≤ 126 := by
  refine int_ind (fun _ x x1 x2 => by rw [ps_zero] at x2; omega) (fun k hk ih h x x1 x2 => ?_)
  obtain ⟨f1, f2, f3, f4⟩ := crf_pos hO hN hk (by omega : k < r)
  rw [tx_succ sg ln hk]
  by_cases q : x < ps (crf ln) k + k - 1
  · rw [if_pos q]
    exact ih (by omega) x x1 q
  · rw [if_neg q]
    by_cases q2 : x = ps (crf ln) k + k - 1
    · rw [if_pos q2]; omega
    · rw [if_neg q2]
      have gs := hO.sg hk (by omega)
      unfold chr_
      split
      · split <;> omega
      · split <;> omega
theorem tx_all {r N : Int} {sg ln v : Int → Int} (hO : Ok r sg ln N v) (hN : N ≤ 3000) {x : Int} (hx : 0 ≤ x ∧ x < max 0 (r - 1) + ps (crf ln) r) : 33 ≤ tx sg ln r x ∧ tx sg ln r x ≤ 126 := by
  have hr := hO.1
  have h0 : r = 0 → ps (crf ln) r = 0 := fun q => by rw [q, ps_zero]
  exact tx_rg hO hN r hr (by omega) x hx.1 (by omega)
/-- decimal digits of a length -/
theorem dig_zero {n : Int} (h : 1 ≤ n ∧ n < 2147483648) : n / 10 ^ (dl n).toNat = 0 := by
  have h1 := dl_at (p := n) (by omega) (dl n) (dl_rg n).1 (by omega)
  have h2 := pow10_rg (n := n) (i := dl n) (by omega)
  have e : pq10 n (dl n) = n / 10 ^ (dl n).toNat := rfl
  rw [e] at h1
  by_cases q : n / 10 ^ (dl n).toNat = 0
  · exact q
  · have := dl_pos (n := n / 10 ^ (dl n).toNat) (by omega)
    omega
theorem dig_top {n : Int} (h : 1 ≤ n ∧ n < 2147483648) : 1 ≤ n / 10 ^ (dl n - 1).toNat ∧ n / 10 ^ (dl n - 1).toNat ≤ 9 := by
  have hd := dl_pos (n := n) (by omega)
  have h1 := dl_at (p := n) (by omega) (dl n - 1) (by omega) (by omega)
  have h2 := pow10_rg (n := n) (i := dl n - 1) (by omega)
  have e : pq10 n (dl n - 1) = n / 10 ^ (dl n - 1).toNat := rfl
  rw [e] at h1
  have h3 := dig_zero h
  have h4 := div_pow10 (n := n) (i := dl n - 1) (by omega)
  rw [show dl n - 1 + 1 = dl n by omega, h3] at h4
  by_cases q : n / 10 ^ (dl n - 1).toNat = 0
  · rw [q, dl_0 (by omega)] at h1
    omega
  · omega
theorem dig_le {n i : Int} (h : 1 ≤ n ∧ n < 2147483648) : 0 ≤ n / 10 ^ i.toNat ∧ n / 10 ^ i.toNat ≤ n := by
  refine ⟨Int.ediv_nonneg (by omega) (Int.le_of_lt (Int.pow_pos (by omega))), Int.ediv_le_self _ (by omega)⟩
/-- reading: before run k; in run k, with the number l so far -/
def PZ (W sg ln : Int → Int) (pos k : Int) : Prop := lgs W pos ∧ (pst W pos).1 = 0 ∧ (pst W pos).2.1 = k ∧ ∀ j, 0 ≤ j → j < k → (pst W pos).2.2.1 j = sg j ∧ (pst W pos).2.2.2 j = ln j
def PQ (W sg ln : Int → Int) (pos k st l : Int) : Prop := lgs W pos ∧ (pst W pos).1 = st ∧ (pst W pos).2.1 = k + 1 ∧ (∀ j, 0 ≤ j → j < k → (pst W pos).2.2.1 j = sg j ∧ (pst W pos).2.2.2 j = ln j) ∧ (pst W pos).2.2.1 k = sg k ∧ (pst W pos).2.2.2 k = l
section PSR
variable {W sg ln : Int → Int} {pos k l : Int}
theorem PZ.sign (hp : 0 ≤ pos) (hk : 0 ≤ k) (hs : 0 ≤ sg k ∧ sg k ≤ 10) (hc : W pos = if sg k = 10 then 120 else 48 + sg k) (h : PZ W sg ln pos k) : PQ W sg ln (pos + 1) k 1 1 := by
  obtain ⟨h1, h2, h3, h4⟩ := h
  have hc2 : (48 ≤ W pos ∧ W pos ≤ 57) ∨ W pos = 120 := by
    rw [hc]; split <;> omega
  have hx : (if W pos = 120 then 10 else W pos - 48) = sg k := by
    rw [hc]
    by_cases q : sg k = 10
    · rw [if_pos q, if_pos rfl]; omega
    · rw [if_neg q, if_neg (by omega)]; omega
  have hn : pst W (pos + 1) = (1, (pst W pos).2.1 + 1, up (pst W pos).2.2.1 (pst W pos).2.1 (sg k), up (pst W pos).2.2.2 (pst W pos).2.1 1) := by
    rw [pst_succ W hp]
    unfold pnx
    rw [if_pos h2, hx]
  refine ⟨lgs_succ h1 (Or.inl ⟨h2, hc2⟩), ?_⟩
  rw [hn, h3]
  refine ⟨rfl, rfl, fun j j1 j2 => ?_, up_eq _ _ _, up_eq _ _ _⟩
  show up (pst W pos).2.2.1 k (sg k) j = sg j ∧ up (pst W pos).2.2.2 k 1 j = ln j
  rw [up_ne _ _ (by omega), up_ne _ _ (by omega)]
  exact h4 j j1 j2
theorem PQ.star (hp : 0 ≤ pos) (hc : W pos = 42) (h : PQ W sg ln pos k 1 l) : PQ W sg ln (pos + 1) k 2 l := by
  obtain ⟨h1, h2, h3, h4, h5, h6⟩ := h
  have hn : pst W (pos + 1) = (2, (pst W pos).2) := by
    rw [pst_succ W hp]
    unfold pnx
    rw [if_neg (by omega), if_pos hc]
  refine ⟨lgs_succ h1 (Or.inr (Or.inl ⟨h2, hc⟩)), ?_⟩
  rw [hn]
  exact ⟨rfl, h3, h4, h5, h6⟩
theorem PQ.first {y : Int} (hp : 0 ≤ pos) (hy : 1 ≤ y ∧ y ≤ 9) (hc : W pos = 48 + y) (h : PQ W sg ln pos k 2 l) : PQ W sg ln (pos + 1) k 3 y := by
  obtain ⟨h1, h2, h3, h4, h5, h6⟩ := h
  have hn : pst W (pos + 1) = (3, (pst W pos).2.1, (pst W pos).2.2.1, up (pst W pos).2.2.2 ((pst W pos).2.1 - 1) (W pos - 48)) := by
    rw [pst_succ W hp]
    unfold pnx
    rw [if_neg (by omega), if_neg (by omega), if_neg (by omega), if_pos h2]
  refine ⟨lgs_succ h1 (Or.inr (Or.inr (Or.inr (Or.inl ⟨h2, by omega⟩)))), ?_⟩
  rw [hn, h3, show k + 1 - 1 = k by omega]
  refine ⟨rfl, rfl, fun j j1 j2 => ?_, h5, ?_⟩
  · show (pst W pos).2.2.1 j = sg j ∧ up (pst W pos).2.2.2 k (W pos - 48) j = ln j
    rw [up_ne _ _ (by omega)]
    exact h4 j j1 j2
  · show up (pst W pos).2.2.2 k (W pos - 48) k = y
    rw [up_eq]
    omega
theorem PQ.digit {c : Int} (hp : 0 ≤ pos) (hy : 0 ≤ c ∧ c ≤ 9) (hc : W pos = 48 + c) (hl : 10 * l + c ≤ 3000) (h : PQ W sg ln pos k 3 l) : PQ W sg ln (pos + 1) k 3 (10 * l + c) := by
  obtain ⟨h1, h2, h3, h4, h5, h6⟩ := h
  have h7 : (pst W pos).2.2.2 ((pst W pos).2.1 - 1) = l := by rw [h3, show k + 1 - 1 = k by omega, h6]
  have hn : pst W (pos + 1) = (3, (pst W pos).2.1, (pst W pos).2.2.1, up (pst W pos).2.2.2 ((pst W pos).2.1 - 1) (10 * l + W pos - 48)) := by
    rw [pst_succ W hp]
    unfold pnx
    rw [if_neg (by omega), if_neg (by omega), if_neg (by omega), if_neg (by omega), h7]
  refine ⟨lgs_succ h1 (Or.inr (Or.inr (Or.inr (Or.inr ⟨h2, by omega, by omega, by rw [h7]; omega⟩)))), ?_⟩
  rw [hn, h3, show k + 1 - 1 = k by omega]
  refine ⟨rfl, rfl, fun j j1 j2 => ?_, h5, ?_⟩
  · show (pst W pos).2.2.1 j = sg j ∧ up (pst W pos).2.2.2 k (10 * l + W pos - 48) j = ln j
    rw [up_ne _ _ (by omega)]
    exact h4 j j1 j2
  · show up (pst W pos).2.2.2 k (10 * l + W pos - 48) k = 10 * l + c
    rw [up_eq]
    omega
theorem PQ.sep {st : Int} (hp : 0 ≤ pos) (hst : st = 1 ∨ st = 3) (hc : W pos = 59) (h : PQ W sg ln pos k st (ln k)) : PZ W sg ln (pos + 1) (k + 1) := by
  obtain ⟨h1, h2, h3, h4, h5, h6⟩ := h
  have hn : pst W (pos + 1) = (0, (pst W pos).2) := by
    rw [pst_succ W hp]
    unfold pnx
    rw [if_neg (by omega), if_neg (by omega), if_pos hc]
  refine ⟨lgs_succ h1 (Or.inr (Or.inr (Or.inl ⟨by omega, hc⟩))), ?_⟩
  rw [hn]
  refine ⟨rfl, h3, fun j j1 j2 => ?_⟩
  by_cases e : j = k
  · rw [e]; exact ⟨h5, h6⟩
  · exact h4 j j1 (by omega)
end PSR
/-- run k read to its end -/
theorem read_run {W sg ln v : Int → Int} {r N k m : Int} (hO : Ok r sg ln N v) (hN : N ≤ 3000) (hW : Txt W r sg ln m) (h1 : 0 ≤ k) (h2 : k < r) (h : PZ W sg ln (ps (crf ln) k + k) k) : ∃ st, (st = 1 ∨ st = 3) ∧ PQ W sg ln (ps (crf ln) (k + 1) + k) k st (ln k) := by
  have g := hO.run h1 h2
  obtain ⟨f1, f2, f3, f4⟩ := crf_pos hO hN h1 h2
  have hm := crf_mono hO hN (j := k) (k := k) h1 (by omega) (by omega)
  have hch := hW.2.1 k h1 h2
  have hcr := crl_cases (ln k)
  have c0 := hch 0 (by omega) (by omega)
  rw [Int.add_zero, show chr_ (sg k) (ln k) 0 = if sg k = 10 then 120 else 48 + sg k from by unfold chr_; rw [if_pos rfl]] at c0
  have q1 := h.sign (by omega) h1 (by omega) c0
  by_cases e : ln k = 1
  · refine ⟨1, Or.inl rfl, ?_⟩
    rw [show ps (crf ln) (k + 1) + k = ps (crf ln) k + k + 1 by omega, e]
    exact q1
  · have hd := dl_pos (n := ln k) (by omega)
    have c1 := hch 1 (by omega) (by omega)
    rw [show chr_ (sg k) (ln k) 1 = 42 from by unfold chr_; rw [if_neg (by omega), if_pos rfl]] at c1
    have q2 := q1.star (by omega) c1
    have cd : ∀ d, 0 ≤ d → d < dl (ln k) → W (ps (crf ln) k + k + 1 + 1 + d) = 48 + ln k / 10 ^ (dl (ln k) - 1 - d).toNat % 10 := fun d d1 d2 => by
      have c2 := hch (2 + d) (by omega) (by omega)
      rw [show ps (crf ln) k + k + (2 + d) = ps (crf ln) k + k + 1 + 1 + d by omega, show chr_ (sg k) (ln k) (2 + d) = 48 + ln k / 10 ^ (dl (ln k) + 1 - (2 + d)).toNat % 10 from by unfold chr_; rw [if_neg (by omega), if_neg (by omega)], show dl (ln k) + 1 - (2 + d) = dl (ln k) - 1 - d by omega] at c2
      exact c2
    have ht := dig_top (n := ln k) (by omega)
    have key : ∀ d, 0 ≤ d → d < dl (ln k) → PQ W sg ln (ps (crf ln) k + k + 1 + 1 + d + 1) k 3 (ln k / 10 ^ (dl (ln k) - 1 - d).toNat) := by
      refine int_ind (fun d2 => ?_) (fun d d1 ih d2 => ?_)
      · have c2 := cd 0 (by omega) (by omega)
        rw [Int.sub_zero] at c2 ⊢
        rw [Int.add_zero] at c2 ⊢
        exact q2.first (by omega) ht (by omega)
      · have c2 := cd (d + 1) (by omega) d2
        have h3 := ih (by omega)
        have h4 := div_pow10 (n := ln k) (i := dl (ln k) - 1 - (d + 1)) (by omega)
        rw [show dl (ln k) - 1 - (d + 1) + 1 = dl (ln k) - 1 - d by omega] at h4
        have h5 := dig_le (n := ln k) (i := dl (ln k) - 1 - (d + 1)) (by omega)
        rw [show ps (crf ln) k + k + 1 + 1 + d + 1 = ps (crf ln) k + k + 1 + 1 + (d + 1) by omega] at h3
        have h6 := h3.digit (c := ln k / 10 ^ (dl (ln k) - 1 - (d + 1)).toNat % 10) (by omega) (by omega) c2 (by omega)
        rw [show 10 * (ln k / 10 ^ (dl (ln k) - 1 - d).toNat) + ln k / 10 ^ (dl (ln k) - 1 - (d + 1)).toNat % 10 = ln k / 10 ^ (dl (ln k) - 1 - (d + 1)).toNat by omega] at h6
        exact h6
    have h7 := key (dl (ln k) - 1) (by omega) (by omega)
    rw [show dl (ln k) - 1 - (dl (ln k) - 1) = 0 by omega, show ln k / 10 ^ (0 : Int).toNat = ln k by simp] at h7
    refine ⟨3, Or.inr rfl, ?_⟩
    rw [show ps (crf ln) (k + 1) + k = ps (crf ln) k + k + 1 + 1 + (dl (ln k) - 1) + 1 by omega]
    exact h7
theorem read_runs {W sg ln v : Int → Int} {r N m : Int} (hO : Ok r sg ln N v) (hN : N ≤ 3000) (hW : Txt W r sg ln m) : ∀ k, 0 ≤ k → k < r → PZ W sg ln (ps (crf ln) k + k) k := by
  refine int_ind (fun _ => ?_) (fun k hk ih h => ?_)
  · rw [ps_zero]
    exact ⟨fun j j1 j2 => by omega, rfl, rfl, fun j j1 j2 => by omega⟩
  · obtain ⟨st, hst, h1⟩ := read_run hO hN hW hk (by omega) (ih (by omega))
    have hm := crf_mono hO hN (j := k + 1) (k := k + 1) (by omega) (by omega) (by omega)
    have hc := hW.2.2 (k + 1) (by omega) h
    rw [show ps (crf ln) (k + 1) + (k + 1) - 1 = ps (crf ln) (k + 1) + k by omega] at hc
    have h2 := h1.sep (by omega) hst hc
    rw [show ps (crf ln) (k + 1) + (k + 1) = ps (crf ln) (k + 1) + k + 1 by omega]
    exact h2
/-- the whole text: no fault, and what is read are the runs -/
theorem read_all {W sg ln v : Int → Int} {r N m : Int} (hO : Ok r sg ln N v) (hN : N ≤ 3000) (hr : 1 ≤ r) (hW : Txt W r sg ln m) : Flt W m (-6) ∧ (pst W m).2.1 = r ∧ ∀ j, 0 ≤ j → j < r → (pst W m).2.2.1 j = sg j ∧ (pst W m).2.2.2 j = ln j := by
  obtain ⟨st, hst, h1⟩ := read_run hO hN hW (by omega) (by omega) (read_runs hO hN hW (r - 1) (by omega) (by omega))
  have hm := hW.1
  rw [show r - 1 + 1 = r by omega, show ps (crf ln) r + (r - 1) = m by omega] at h1
  obtain ⟨g1, g2, g3, g4, g5, g6⟩ := h1
  refine ⟨Or.inr (Or.inl ⟨g1, by omega, rfl⟩), by omega, fun j j1 j2 => ?_⟩
  by_cases e : j = r - 1
  · rw [e]; exact ⟨g5, g6⟩
  · exact g4 j j1 (by omega)
theorem txt_of {W sg ln v : Int → Int} {r N m : Int} (hO : Ok r sg ln N v) (hN : N ≤ 3000) (hm : m = max 0 (r - 1) + ps (crf ln) r) (hW : ∀ x, 0 ≤ x → x < m → W x = tx sg ln r x) : Txt W r sg ln m := by
  have h := tx_txt hO hN
  refine ⟨hm, fun k h1 h2 j j1 j2 => ?_, fun k h1 h2 => ?_⟩
  · obtain ⟨f1, f2, f3, f4⟩ := crf_pos hO hN h1 h2
    have a1 := crf_mono hO hN (j := k) (k := k) h1 (by omega) (by omega)
    have a2 := crf_mono hO hN (j := k + 1) (k := r) (by omega) (by omega) (by omega)
    rw [hW _ (by omega) (by omega)]
    exact h.2.1 k h1 h2 j j1 j2
  · obtain ⟨f1, f2, f3, f4⟩ := crf_pos hO hN (k := k) (by omega) h2
    have a1 := crf_mono hO hN (j := k) (k := k) (by omega) (by omega) (by omega)
    have a2 := crf_mono hO hN (j := k + 1) (k := r) (by omega) (by omega) (by omega)
    rw [hW _ (by omega) (by omega)]
    exact h.2.2 k h1 h2
/-- the row that is read is the row -/
theorem read_row {S L sg ln v : Int → Int} {r N : Int} (hO : Ok r sg ln N v) (hs : ∀ j, 0 ≤ j → j < r → S j = sg j ∧ L j = ln j) : ps L r = N ∧ Ok r sg ln N (ex S L r) ∧ ∀ x, 0 ≤ x → x < N → ex S L r x = v x := by
  have hv : ∀ x, 0 ≤ x → x < N → ex S L r x = v x := by
    have hk : ∀ k, 0 ≤ k → k ≤ r → ∀ x, 0 ≤ x → x < ps ln k → ex S L r x = v x := by
      refine int_ind (fun _ x x1 x2 => by rw [ps_zero] at x2; omega) (fun k hk ih h x x1 x2 => ?_)
      by_cases q : x < ps ln k
      · exact ih (by omega) x x1 q
      · have hp : ∀ i, 0 ≤ i → i ≤ r → ps L i = ps ln i := fun i i1 i2 => ps_congr i i1 (fun j j1 j2 => (hs j j1 (by omega)).2)
        have e1 := ex_at (S := S) (L := L) r hO.1 (fun j j1 j2 => by have := hO.ln j1 j2; rw [(hs j j1 j2).2]; omega) k hk (by omega) x (by rw [hp k hk (by omega)]; omega) (by rw [hp (k + 1) (by omega) h]; exact x2)
        rw [e1, (hs k hk (by omega)).1, hO.2.2.2.2 k hk (by omega) x (by omega) x2]
    have := hk r hO.1 (by omega)
    rwa [hO.2.2.2.1] at this
  refine ⟨?_, hO.ext (fun x x1 x2 => (hv x x1 x2).symm), hv⟩
  rw [ps_congr (g := ln) r hO.1 (fun j j1 j2 => (hs j j1 j2).2)]
  exact hO.2.2.2.1
/-- what was pushed can be undone -/
theorem pushed_undo {w : Rw} {hist slot : Int → Rw} {rcd m : Int} {uf T : Int → Int} {A' : AS} {lc1 sd1 N1 : Int} {v1 : Int → Int} (hr : 0 ≤ rcd ∧ rcd ≤ 6) (h : Pushed (w, hist, rcd, slot, uf, T, m) A' lc1 sd1 N1 v1) : ∃ (r1 : Int) (sg1 ln1 : Int → Int) (hist1 : Int → Rw) (rcd1 : Int), A' = ((lc1, sd1, r1, sg1, ln1, N1, v1), hist1, rcd1, slot, uf, T, m) ∧ RwOk lc1 sd1 r1 sg1 ln1 N1 v1 ∧ 1 ≤ rcd1 ∧ hist1 (rcd1 - 1) = w ∧ ((rcd < 6 ∧ rcd1 = rcd + 1) ∨ (rcd = 6 ∧ rcd1 = 6)) := by
  obtain ⟨⟨lc', sd', r', sg', ln', N', v'⟩, hist', rcd', slot', uf', T', m'⟩ := A'
  obtain ⟨e1, e2, e3, e4, hok, e5, e6, e7, e8, hh⟩ := h
  subst e1 e2 e3 e4 e5 e6 e7 e8
  refine ⟨r', sg', ln', hist', rcd', rfl, hok, ?_⟩
  rcases hh with ⟨h1, h2, h3, h4⟩ | ⟨h1, h2, h3, h4⟩
  · exact ⟨by omega, by rw [h2, show rcd + 1 - 1 = rcd by omega]; exact h4, by omega⟩
  · exact ⟨by omega, by rw [h2]; exact h4, by omega⟩
section SP3
variable {lc sd r : Int} {sg ln : Int → Int} {N : Int} {v : Int → Int} {hist : Int → Rw} {rcd : Int} {slot : Int → Rw} {uf T : Int → Int} {m z : Int} {A' : AS}
theorem q_undo {w : Rw} (hr : 1 ≤ rcd) (hw : hist (rcd - 1) = w) (h : Sp_undo ((lc, sd, r, sg, ln, N, v), hist, rcd, slot, uf, T, m) z A') : z = rcd - 1 ∧ A' = (w, hist, rcd - 1, slot, uf, T, m) := by
  rcases h with ⟨h1, -⟩ | ⟨h1, h2, h3⟩
  · omega
  · rw [hw] at h3
    exact ⟨h2, h3⟩
theorem q_fault (hO : Ok r sg ln N v) (hN : N ≤ 3000) (hr : 1 ≤ r) (hm : m = max 0 (r - 1) + ps (crf ln) r) (hW : ∀ x, 0 ≤ x → x < m → T x = tx sg ln r x) (h : Sp_fault ((lc, sd, r, sg, ln, N, v), hist, rcd, slot, uf, T, m) z A') : A' = ((lc, sd, r, sg, ln, N, v), hist, rcd, slot, uf, T, m) ∧ z = -6 := by
  obtain ⟨h1, h2⟩ := h
  exact ⟨h1, h2.uniq (read_all hO hN hr (txt_of hO hN hm hW)).1⟩
theorem q_load (hO : Ok r sg ln N v) (hr50 : r ≤ 50) (hN : N ≤ 3000) (hr : 1 ≤ r) (hrc : 0 ≤ rcd ∧ rcd ≤ 6) (hm : m = max 0 (r - 1) + ps (crf ln) r) (hW : ∀ x, 0 ≤ x → x < m → T x = tx sg ln r x) (h : Sp_load ((lc, sd, r, sg, ln, N, v), hist, rcd, slot, uf, T, m) z A') : z = r ∧ ∃ (r1 : Int) (sg1 ln1 v1 : Int → Int) (hist1 : Int → Rw) (rcd1 : Int), A' = ((lc, sd, r1, sg1, ln1, N, v1), hist1, rcd1, slot, uf, T, 0) ∧ mkR (lc, sd, r1, sg1, ln1, N, v1) = mkR (lc, sd, r, sg, ln, N, v) ∧ 1 ≤ rcd1 ∧ hist1 (rcd1 - 1) = (lc, sd, r, sg, ln, N, v) := by
  obtain ⟨a1, a2, a3⟩ := read_all hO hN hr (txt_of hO hN hm hW)
  have hrow := read_row (S := (pst T m).2.2.1) (L := (pst T m).2.2.2) hO a3
  rw [← a2] at hrow
  obtain ⟨b1, b2, b3⟩ := hrow
  have hfit : fits_ (ps (pst T m).2.2.2 (pst T m).2.1) (ex (pst T m).2.2.1 (pst T m).2.2.2 (pst T m).2.1) := by
    rw [b1]
    exact ⟨hN, by rw [b2.rcE]; exact a2 ▸ hr50⟩
  rcases h with ⟨f, h1, h2, -⟩ | ⟨-, h2, -⟩ | ⟨-, -, h3, w', hist', rcd', h4, h5⟩
  · exact absurd (h1.uniq a1) h2
  · exact absurd hfit h2
  · rw [b1] at h3 h4
    have h3 : z = r := by rw [h3, b2.rcE, a2]
    refine ⟨h3, ?_⟩
    obtain ⟨r1, sg1, ln1, hist1, rcd1, e1, e2, e3, e4, -⟩ := pushed_undo hrc h4
    cases e1
    refine ⟨r1, sg1, ln1, _, hist', rcd', h5, mkR_eq hO e2.1 b3, e3, e4⟩
end SP3
