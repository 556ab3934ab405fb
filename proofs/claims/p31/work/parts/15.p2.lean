/-! fault, load; the pad of the class -/
def Sp_fault (A : AS) (z : Int) (A' : AS) : Prop := match A with | ((lc, sd, r, sg, ln, N, v), hist, rcd, slot, uf, T, m) => A' = A ∧ Flt T m z
/-- load: what the pad says becomes the row -/
def Sp_load (A : AS) (z : Int) (A' : AS) : Prop := match A with | ((lc, sd, r, sg, ln, N, v), hist, rcd, slot, uf, T, m) => (∃ f, Flt T m f ∧ f ≠ -6 ∧ z = -3 ∧ A' = A) ∨ (Flt T m (-6) ∧ ¬ fits_ (ps (pst T m).2.2.2 (pst T m).2.1) (ex (pst T m).2.2.1 (pst T m).2.2.2 (pst T m).2.1) ∧ z = -4 ∧ A' = A) ∨ (Flt T m (-6) ∧ fits_ (ps (pst T m).2.2.2 (pst T m).2.1) (ex (pst T m).2.2.1 (pst T m).2.2.2 (pst T m).2.1) ∧ z = rc (ex (pst T m).2.2.1 (pst T m).2.2.2 (pst T m).2.1) (ps (pst T m).2.2.2 (pst T m).2.1) ∧ ∃ w' hist' rcd', Pushed A (w', hist', rcd', slot, uf, T, m) lc sd (ps (pst T m).2.2.2 (pst T m).2.1) (ex (pst T m).2.2.1 (pst T m).2.2.2 (pst T m).2.1) ∧ A' = (w', hist', rcd', slot, uf, T, 0))
theorem pst_congr {T U : Int → Int} : ∀ k, 0 ≤ k → (∀ x, 0 ≤ x → x < k → T x = U x) → pst T k = pst U k := by
  refine int_ind (fun _ => rfl) (fun k hk ih h => ?_)
  rw [pst_succ T hk, pst_succ U hk, ih (fun x h1 h2 => h x h1 (by omega)), h k hk (by omega)]
theorem ex_at {S L : Int → Int} : ∀ k, 0 ≤ k → (∀ j, 0 ≤ j → j < k → 0 ≤ L j) → ∀ j, 0 ≤ j → j < k → ∀ x, ps L j ≤ x → x < ps L (j + 1) → ex S L k x = S j := by
  refine int_ind (fun _ j j1 j2 => by omega) (fun k hk ih h j j1 j2 x x1 x2 => ?_)
  rw [ex_succ S L hk]
  by_cases e : j = k
  · subst e; rw [app_ge x1]
  · have := ps_le (f := L) (j := j + 1) (k := k) (by omega) (by omega) (fun i i1 i2 => h i i1 (by omega))
    rw [app_lt (by omega)]
    exact ih (fun i i1 i2 => h i i1 (by omega)) j j1 (by omega) x x1 x2
theorem ex_rg {S L : Int → Int} {c : Int} (hc : 0 ≤ c) (h : ∀ j, 0 ≤ j → j < c → 1 ≤ L j ∧ L j ≤ 3000 ∧ 0 ≤ S j ∧ S j ≤ 10) : ∀ x, 0 ≤ x → x < ps L c → 0 ≤ ex S L c x ∧ ex S L c x ≤ 10 := by
  have key : ∀ k, 0 ≤ k → k ≤ c → ∀ x, 0 ≤ x → x < ps L k → 0 ≤ ex S L k x ∧ ex S L k x ≤ 10 := by
    refine int_ind (fun _ x h1 h2 => by rw [ps_zero] at h2; omega) (fun k hk ih h1 x h2 h3 => ?_)
    have g := h k hk (by omega)
    rw [ex_succ S L hk]
    by_cases q : x < ps L k
    · rw [app_lt q]; exact ih (by omega) x h2 q
    · rw [app_ge (by omega)]; omega
  exact key c hc (by omega)
theorem push0 {w w' : Rw} {hist hist' slot : Int → Rw} {rcd rcd' m lc1 sd1 N1 : Int} {uf T v1 : Int → Int} (h : Pushed (w, hist, rcd, slot, uf, T, m) (w', hist', rcd', slot, uf, T, m) lc1 sd1 N1 v1) : Pushed (w, hist, rcd, slot, uf, T, 0) (w', hist', rcd', slot, uf, T, 0) lc1 sd1 N1 v1 := by
  obtain ⟨lc', sd', r', sg', ln', N', v'⟩ := w'
  obtain ⟨e1, e2, e3, e4, e5, e6, e7, e8, e9, hh⟩ := h
  exact ⟨e1, e2, e3, e4, e5, rfl, rfl, rfl, rfl, hh⟩
theorem Flt.rg {T : Int → Int} {m z : Int} (h : Flt T m z) (hm : 0 ≤ m ∧ m ≤ 80) : -6 ≤ z ∧ z ≤ 80 := by
  rcases h with ⟨k, k1, k2, k3, k4, k5⟩ | ⟨h1, h2, h3⟩ | ⟨h1, h2, h3⟩ <;> omega
