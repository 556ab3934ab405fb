/-! what the class answers, call by call -/
section SP
variable {lc sd r : Int} {sg ln : Int → Int} {N : Int} {v : Int → Int} {hist : Int → Rw} {rcd : Int} {slot : Int → Rw} {uf T : Int → Int} {m z : Int} {A' : AS}
theorem q_count_0  (h : Sp_count 0 ((lc, sd, r, sg, ln, N, v), hist, rcd, slot, uf, T, m) z A') : A' = ((lc, sd, r, sg, ln, N, v), hist, rcd, slot, uf, T, m) ∧ z = N := by
  obtain ⟨h1, h2⟩ := h
  exact ⟨h1, by omega⟩
theorem q_count_1  (h : Sp_count 1 ((lc, sd, r, sg, ln, N, v), hist, rcd, slot, uf, T, m) z A') : A' = ((lc, sd, r, sg, ln, N, v), hist, rcd, slot, uf, T, m) ∧ z = r := by
  obtain ⟨h1, h2⟩ := h
  exact ⟨h1, by omega⟩
theorem q_count_2  (h : Sp_count 2 ((lc, sd, r, sg, ln, N, v), hist, rcd, slot, uf, T, m) z A') : A' = ((lc, sd, r, sg, ln, N, v), hist, rcd, slot, uf, T, m) ∧ z = cn v 10 0 N := by
  obtain ⟨h1, h2⟩ := h
  exact ⟨h1, by omega⟩
theorem q_count_3  (h : Sp_count 3 ((lc, sd, r, sg, ln, N, v), hist, rcd, slot, uf, T, m) z A') : A' = ((lc, sd, r, sg, ln, N, v), hist, rcd, slot, uf, T, m) ∧ z = ps (rbf lc sg ln) r := by
  obtain ⟨h1, h2⟩ := h
  exact ⟨h1, by omega⟩
theorem q_count_4  (h : Sp_count 4 ((lc, sd, r, sg, ln, N, v), hist, rcd, slot, uf, T, m) z A') : A' = ((lc, sd, r, sg, ln, N, v), hist, rcd, slot, uf, T, m) ∧ z = max 0 (r - 1) + ps (crf ln) r := by
  obtain ⟨h1, h2⟩ := h
  exact ⟨h1, by omega⟩
theorem q_count_5  (h : Sp_count 5 ((lc, sd, r, sg, ln, N, v), hist, rcd, slot, uf, T, m) z A') : A' = ((lc, sd, r, sg, ln, N, v), hist, rcd, slot, uf, T, m) ∧ z = ps (smf sg ln) r := by
  obtain ⟨h1, h2⟩ := h
  exact ⟨h1, by omega⟩
theorem q_count_6  (h : Sp_count 6 ((lc, sd, r, sg, ln, N, v), hist, rcd, slot, uf, T, m) z A') : A' = ((lc, sd, r, sg, ln, N, v), hist, rcd, slot, uf, T, m) ∧ z = mx ln r := by
  obtain ⟨h1, h2⟩ := h
  exact ⟨h1, by omega⟩
theorem q_count_7  (h : Sp_count 7 ((lc, sd, r, sg, ln, N, v), hist, rcd, slot, uf, T, m) z A') : A' = ((lc, sd, r, sg, ln, N, v), hist, rcd, slot, uf, T, m) ∧ z = m := by
  obtain ⟨h1, h2⟩ := h
  exact ⟨h1, by omega⟩
theorem q_count_8  (h : Sp_count 8 ((lc, sd, r, sg, ln, N, v), hist, rcd, slot, uf, T, m) z A') : A' = ((lc, sd, r, sg, ln, N, v), hist, rcd, slot, uf, T, m) ∧ z = rcd := by
  obtain ⟨h1, h2⟩ := h
  exact ⟨h1, by omega⟩
theorem q_count_9  (h : Sp_count 9 ((lc, sd, r, sg, ln, N, v), hist, rcd, slot, uf, T, m) z A') : A' = ((lc, sd, r, sg, ln, N, v), hist, rcd, slot, uf, T, m) ∧ z = lc := by
  obtain ⟨h1, h2⟩ := h
  exact ⟨h1, by omega⟩
theorem q_count_10  (h : Sp_count 10 ((lc, sd, r, sg, ln, N, v), hist, rcd, slot, uf, T, m) z A') : A' = ((lc, sd, r, sg, ln, N, v), hist, rcd, slot, uf, T, m) ∧ z = sd := by
  obtain ⟨h1, h2⟩ := h
  exact ⟨h1, by omega⟩
theorem q_count_11  (h : Sp_count 11 ((lc, sd, r, sg, ln, N, v), hist, rcd, slot, uf, T, m) z A') : A' = ((lc, sd, r, sg, ln, N, v), hist, rcd, slot, uf, T, m) ∧ z = -2 := by
  obtain ⟨h1, h2⟩ := h
  exact ⟨h1, by omega⟩
theorem q_ofRun_0 {k : Int} (hk : 0 ≤ k ∧ k < r) (h : Sp_ofRun k 0 ((lc, sd, r, sg, ln, N, v), hist, rcd, slot, uf, T, m) z A') : A' = ((lc, sd, r, sg, ln, N, v), hist, rcd, slot, uf, T, m) ∧ z = sg k := by
  obtain ⟨h1, h2⟩ := h
  exact ⟨h1, by omega⟩
theorem q_ofRun_1 {k : Int} (hk : 0 ≤ k ∧ k < r) (h : Sp_ofRun k 1 ((lc, sd, r, sg, ln, N, v), hist, rcd, slot, uf, T, m) z A') : A' = ((lc, sd, r, sg, ln, N, v), hist, rcd, slot, uf, T, m) ∧ z = ps ln k := by
  obtain ⟨h1, h2⟩ := h
  exact ⟨h1, by omega⟩
theorem q_ofRun_2 {k : Int} (hk : 0 ≤ k ∧ k < r) (h : Sp_ofRun k 2 ((lc, sd, r, sg, ln, N, v), hist, rcd, slot, uf, T, m) z A') : A' = ((lc, sd, r, sg, ln, N, v), hist, rcd, slot, uf, T, m) ∧ z = ln k := by
  obtain ⟨h1, h2⟩ := h
  exact ⟨h1, by omega⟩
theorem q_ofRun_3 {k : Int} (hk : 0 ≤ k ∧ k < r) (h : Sp_ofRun k 3 ((lc, sd, r, sg, ln, N, v), hist, rcd, slot, uf, T, m) z A') : A' = ((lc, sd, r, sg, ln, N, v), hist, rcd, slot, uf, T, m) ∧ z = rb lc (sg k) (ln k) := by
  obtain ⟨h1, h2⟩ := h
  exact ⟨h1, by omega⟩
theorem q_ofRun_4 {k : Int} (hk : 0 ≤ k ∧ k < r) (h : Sp_ofRun k 4 ((lc, sd, r, sg, ln, N, v), hist, rcd, slot, uf, T, m) z A') : A' = ((lc, sd, r, sg, ln, N, v), hist, rcd, slot, uf, T, m) ∧ z = -2 := by
  obtain ⟨h1, h2⟩ := h
  exact ⟨h1, by omega⟩
theorem q_ofRun_X {k wh : Int} (hk : ¬ (0 ≤ k ∧ k < r)) (h : Sp_ofRun k wh ((lc, sd, r, sg, ln, N, v), hist, rcd, slot, uf, T, m) z A') : A' = ((lc, sd, r, sg, ln, N, v), hist, rcd, slot, uf, T, m) ∧ z = -1 := by
  obtain ⟨h1, h2⟩ := h
  exact ⟨h1, by omega⟩
theorem q_sign {x : Int} (hx : 0 ≤ x ∧ x < N) (h : Sp_sign x ((lc, sd, r, sg, ln, N, v), hist, rcd, slot, uf, T, m) z A') : A' = ((lc, sd, r, sg, ln, N, v), hist, rcd, slot, uf, T, m) ∧ z = v x := by
  obtain ⟨h1, h2⟩ := h
  exact ⟨h1, by omega⟩
theorem q_sign_X {x : Int} (hx : ¬ (0 ≤ x ∧ x < N)) (h : Sp_sign x ((lc, sd, r, sg, ln, N, v), hist, rcd, slot, uf, T, m) z A') : A' = ((lc, sd, r, sg, ln, N, v), hist, rcd, slot, uf, T, m) ∧ z = -1 := by
  obtain ⟨h1, h2⟩ := h
  exact ⟨h1, by omega⟩
theorem q_howMany {f k s : Int} (hx : (0 ≤ f ∧ 1 ≤ k ∧ k ≤ N - f) ∧ 0 ≤ s ∧ s ≤ 10) (h : Sp_howMany f k s ((lc, sd, r, sg, ln, N, v), hist, rcd, slot, uf, T, m) z A') : A' = ((lc, sd, r, sg, ln, N, v), hist, rcd, slot, uf, T, m) ∧ z = cn v s f (f + k) := by
  obtain ⟨h1, h2⟩ := h
  exact ⟨h1, by omega⟩
theorem q_howMany_2 {f k s : Int} (hx : (0 ≤ f ∧ 1 ≤ k ∧ k ≤ N - f) ∧ ¬ (0 ≤ s ∧ s ≤ 10)) (h : Sp_howMany f k s ((lc, sd, r, sg, ln, N, v), hist, rcd, slot, uf, T, m) z A') : A' = ((lc, sd, r, sg, ln, N, v), hist, rcd, slot, uf, T, m) ∧ z = -2 := by
  obtain ⟨h1, h2⟩ := h
  exact ⟨h1, by omega⟩
theorem q_howMany_X {f k s : Int} (hx : ¬ (0 ≤ f ∧ 1 ≤ k ∧ k ≤ N - f)) (h : Sp_howMany f k s ((lc, sd, r, sg, ln, N, v), hist, rcd, slot, uf, T, m) z A') : A' = ((lc, sd, r, sg, ln, N, v), hist, rcd, slot, uf, T, m) ∧ z = -1 := by
  obtain ⟨h1, h2⟩ := h
  exact ⟨h1, by omega⟩
theorem q_size {c : Int} (hx : 0 ≤ c ∧ c ≤ 2) (h : Sp_size c ((lc, sd, r, sg, ln, N, v), hist, rcd, slot, uf, T, m) z A') : A' = ((lc, sd, r, sg, ln, N, v), hist, rcd, slot, uf, T, m) ∧ z = ps (rbf c sg ln) r := by
  obtain ⟨h1, h2⟩ := h
  exact ⟨h1, by omega⟩
theorem q_size_X {c : Int} (hx : ¬ (0 ≤ c ∧ c ≤ 2)) (h : Sp_size c ((lc, sd, r, sg, ln, N, v), hist, rcd, slot, uf, T, m) z A') : A' = ((lc, sd, r, sg, ln, N, v), hist, rcd, slot, uf, T, m) ∧ z = -2 := by
  obtain ⟨h1, h2⟩ := h
  exact ⟨h1, by omega⟩
theorem q_live_0  (h : Sp_longestLive 0 ((lc, sd, r, sg, ln, N, v), hist, rcd, slot, uf, T, m) z A') : A' = ((lc, sd, r, sg, ln, N, v), hist, rcd, slot, uf, T, m) ∧ z = if (ll v N).2.1 = 0 then -6 else (ll v N).2.2 := by
  obtain ⟨h1, h2⟩ := h
  refine ⟨h1, ?_⟩
  rcases h2 with ⟨h2, -⟩ | ⟨-, h2⟩
  · omega
  · rw [h2]; rw [if_neg (by omega : ¬ (0 : Int) = 1)]
theorem q_live_1  (h : Sp_longestLive 1 ((lc, sd, r, sg, ln, N, v), hist, rcd, slot, uf, T, m) z A') : A' = ((lc, sd, r, sg, ln, N, v), hist, rcd, slot, uf, T, m) ∧ z = if (ll v N).2.1 = 0 then -6 else (ll v N).2.1 := by
  obtain ⟨h1, h2⟩ := h
  refine ⟨h1, ?_⟩
  rcases h2 with ⟨h2, -⟩ | ⟨-, h2⟩
  · omega
  · rw [h2]; rw [if_pos (rfl : (1 : Int) = 1)]
theorem q_live_X {c : Int} (hx : ¬ (0 ≤ c ∧ c ≤ 1)) (h : Sp_longestLive c ((lc, sd, r, sg, ln, N, v), hist, rcd, slot, uf, T, m) z A') : A' = ((lc, sd, r, sg, ln, N, v), hist, rcd, slot, uf, T, m) ∧ z = -2 := by
  obtain ⟨h1, h2⟩ := h
  exact ⟨h1, by omega⟩
theorem q_best_0  (h : Sp_bestWrite 0 ((lc, sd, r, sg, ln, N, v), hist, rcd, slot, uf, T, m) z A') : A' = ((lc, sd, r, sg, ln, N, v), hist, rcd, slot, uf, T, m) ∧ z = if (bw lc r sg ln r).2.2 = 0 then -6 else (bw lc r sg ln r).1 := by
  obtain ⟨h1, h2⟩ := h
  refine ⟨h1, ?_⟩
  rcases h2 with ⟨h2, -⟩ | ⟨-, h2⟩
  · omega
  · rw [h2]; rw [if_pos (rfl : (0 : Int) = 0)]
theorem q_best_1  (h : Sp_bestWrite 1 ((lc, sd, r, sg, ln, N, v), hist, rcd, slot, uf, T, m) z A') : A' = ((lc, sd, r, sg, ln, N, v), hist, rcd, slot, uf, T, m) ∧ z = if (bw lc r sg ln r).2.2 = 0 then -6 else (bw lc r sg ln r).2.1 := by
  obtain ⟨h1, h2⟩ := h
  refine ⟨h1, ?_⟩
  rcases h2 with ⟨h2, -⟩ | ⟨-, h2⟩
  · omega
  · rw [h2]; rw [if_neg (by omega : ¬ (1 : Int) = 0), if_pos (rfl : (1 : Int) = 1)]
theorem q_best_2  (h : Sp_bestWrite 2 ((lc, sd, r, sg, ln, N, v), hist, rcd, slot, uf, T, m) z A') : A' = ((lc, sd, r, sg, ln, N, v), hist, rcd, slot, uf, T, m) ∧ z = if (bw lc r sg ln r).2.2 = 0 then -6 else (bw lc r sg ln r).2.2 := by
  obtain ⟨h1, h2⟩ := h
  refine ⟨h1, ?_⟩
  rcases h2 with ⟨h2, -⟩ | ⟨-, h2⟩
  · omega
  · rw [h2]; rw [if_neg (by omega : ¬ (2 : Int) = 0), if_neg (by omega : ¬ (2 : Int) = 1)]
theorem q_best_X {c : Int} (hx : ¬ (0 ≤ c ∧ c ≤ 2)) (h : Sp_bestWrite c ((lc, sd, r, sg, ln, N, v), hist, rcd, slot, uf, T, m) z A') : A' = ((lc, sd, r, sg, ln, N, v), hist, rcd, slot, uf, T, m) ∧ z = -2 := by
  obtain ⟨h1, h2⟩ := h
  exact ⟨h1, by omega⟩
theorem q_find_X {f p : Int} (hx : f < 0 ∨ ¬ (1 ≤ p ∧ p ≤ 999999999)) (h : Sp_find f p ((lc, sd, r, sg, ln, N, v), hist, rcd, slot, uf, T, m) z A') : A' = ((lc, sd, r, sg, ln, N, v), hist, rcd, slot, uf, T, m) ∧ z = -2 := by
  obtain ⟨h1, h2⟩ := h
  exact ⟨h1, by omega⟩
theorem q_find {f p : Int} (hx : 0 ≤ f ∧ 1 ≤ p ∧ p ≤ 999999999) (h : Sp_find f p ((lc, sd, r, sg, ln, N, v), hist, rcd, slot, uf, T, m) z A') : A' = ((lc, sd, r, sg, ln, N, v), hist, rcd, slot, uf, T, m) ∧ Fnd v N p f z := by
  obtain ⟨h1, h2 | h2⟩ := h
  · omega
  · exact ⟨h1, h2.2⟩
theorem q_bit_X {x : Int} (hO : Ok r sg ln N v) (hx : x < 0 ∨ ps (rbf lc sg ln) r ≤ x) (h : Sp_bit x ((lc, sd, r, sg, ln, N, v), hist, rcd, slot, uf, T, m) z A') : A' = ((lc, sd, r, sg, ln, N, v), hist, rcd, slot, uf, T, m) ∧ z = -1 := by
  obtain ⟨h1, h2 | ⟨k, k1, k2, k3, k4, k5⟩⟩ := h
  · exact ⟨h1, h2.2⟩
  · exfalso
    have hp : ∀ i, 0 ≤ i → i < r → 0 ≤ rbf lc sg ln i := fun i i1 i2 => by
      have g := hO.run i1 i2
      by_cases q : ln i < 2147483648
      · have := rb_rg (code := lc) (s := sg i) (n := ln i) (by omega)
        unfold rbf; omega
      · have a1 := sb_cases (sg i)
        unfold rbf rb lb
        have : 0 ≤ bl (ln i) := by unfold bl; split <;> omega
        have : 0 < bl (ln i) := by unfold bl; rw [if_neg (by omega)]; omega
        have : 0 < bl (bl (ln i)) := by unfold bl; rw [if_neg (by have := this; unfold bl at this; omega)]; omega
        split
        · omega
        · split <;> omega
    have a1 := ps_le (f := rbf lc sg ln) (j := k + 1) (k := r) (by omega) (by omega) hp
    have a2 := ps_le (f := rbf lc sg ln) (j := 0) (k := k) (by omega) (by omega) (fun i i1 i2 => hp i i1 (by omega))
    rw [ps_zero] at a2
    omega
theorem q_put_X {pk : Int} (hp : 0 ≤ pk ∧ ¬ (33 ≤ pk % 256 ∧ pk % 256 ≤ 126)) (h : Sp_put pk ((lc, sd, r, sg, ln, N, v), hist, rcd, slot, uf, T, m) z A') : A' = ((lc, sd, r, sg, ln, N, v), hist, rcd, slot, uf, T, m) ∧ z = -2 := by
  have hn : ∀ n, 1 ≤ n → ¬ Cn pk n := fun n n1 hc => by
    have := hc.2.1 0 (by omega) (by omega)
    rw [sR_zero] at this
    omega
  rcases h with ⟨-, h2, h3⟩ | ⟨n, n1, n2, -⟩ | ⟨n, T', n1, n2, -⟩
  · exact ⟨h3, h2⟩
  · exact absurd n2 (hn n n1)
  · exact absurd n2 (hn n n1)
/-- one character is put -/
theorem q_put_1 {pk : Int} (hp : 33 ≤ pk ∧ pk ≤ 126) (hm : m < 80) (h : Sp_put pk ((lc, sd, r, sg, ln, N, v), hist, rcd, slot, uf, T, m) z A') : z = m + 1 ∧ ∃ T' : Int → Int, (∀ x, 0 ≤ x → x < m → T' x = T x) ∧ T' m = pk ∧ A' = ((lc, sd, r, sg, ln, N, v), hist, rcd, slot, uf, T', m + 1) := by
  have hs1 : sR pk 1 = 0 := by
    rw [show (1 : Int) = 0 + 1 by omega, sR_256 _ (by omega), sR_zero]
    omega
  have hc1 : Cn pk 1 := by
    refine ⟨by omega, fun j j1 j2 => ?_, hs1⟩
    rw [show j = 0 by omega, sR_zero]
    omega
  rcases h with ⟨h1, -, -⟩ | ⟨n, n1, n2, n3, -⟩ | ⟨n, T', n1, n2, n3, n4, n5, n6, n7⟩
  · exact absurd hc1 (h1 1 (by omega))
  · have := n2.uniq hc1; omega
  · have e := n2.uniq hc1
    subst e
    refine ⟨n4, T', n5, ?_, n7⟩
    have := n6 0 (by omega) (by omega)
    rw [show (1 : Int) - 1 - 0 = 0 by omega, sR_zero, Int.add_zero] at this
    omega
theorem q_save_X {c : Int} (hx : ¬ (0 ≤ c ∧ c ≤ 1)) (h : Sp_save c ((lc, sd, r, sg, ln, N, v), hist, rcd, slot, uf, T, m) z A') : A' = ((lc, sd, r, sg, ln, N, v), hist, rcd, slot, uf, T, m) ∧ z = -2 := by
  rcases h with ⟨-, h2, h3⟩ | ⟨h1, -⟩
  · exact ⟨h3, h2⟩
  · exact absurd h1 hx
end SP
theorem q_err {A A' : AS} {z err lc1 sd1 N1 ans x : Int} {v1 : Int → Int} (h : SpE A z A' err lc1 sd1 N1 v1 ans) (he : err = x) (hx : x ≠ 0) : A' = A ∧ z = x := by
  rcases h with ⟨h1, h2, h3⟩ | ⟨h1, -⟩ | ⟨h1, -⟩
  · exact ⟨h3, by omega⟩
  · omega
  · omega
/-- an edit that isn't refused by its arguments, and has room -/
theorem q_ok {A A' : AS} {z err lc1 sd1 N1 ans : Int} {v1 : Int → Int} (h : SpE A z A' err lc1 sd1 N1 v1 ans) (he : err = 0) (hf : fits_ N1 v1) : z = ans ∧ Pushed A A' lc1 sd1 N1 v1 := by
  rcases h with ⟨h1, h2, h3⟩ | ⟨-, h1, -⟩ | ⟨-, -, h2, h3⟩
  · omega
  · exact absurd hf h1
  · exact ⟨h2, h3⟩
/-- what any edit does -/
theorem q_any {A A' : AS} {z err lc1 sd1 N1 ans : Int} {v1 : Int → Int} (h : SpE A z A' err lc1 sd1 N1 v1 ans) (he : err ≤ 0) (ha : 0 ≤ ans) : (z < 0 ∧ A' = A) ∨ (0 ≤ z ∧ ∃ (lc1 sd1 N1 : Int) (v1 : Int → Int), Pushed A A' lc1 sd1 N1 v1) := by
  rcases h with ⟨h1, h2, h3⟩ | ⟨h1, -, h2, h3⟩ | ⟨h1, -, h2, h3⟩
  · exact Or.inl ⟨by omega, h3⟩
  · exact Or.inl ⟨by omega, h3⟩
  · exact Or.inr ⟨by omega, _, _, _, _, h3⟩
/-! the text of a row, as a function of the place -/
def txN (sg ln : Int → Int) : Nat → Int → Int
  | 0 => fun _ => 59
  | k + 1 => fun x => if x < ps (crf ln) (k : Int) + (k : Int) - 1 then txN sg ln k x else if x = ps (crf ln) (k : Int) + (k : Int) - 1 then 59 else chr_ (sg (k : Int)) (ln (k : Int)) (x - (ps (crf ln) (k : Int) + (k : Int)))
def tx (sg ln : Int → Int) (k : Int) : Int → Int := txN sg ln k.toNat
theorem tx_succ (sg ln : Int → Int) {k : Int} (h : 0 ≤ k) (x : Int) : tx sg ln (k + 1) x = if x < ps (crf ln) k + k - 1 then tx sg ln k x else if x = ps (crf ln) k + k - 1 then 59 else chr_ (sg k) (ln k) (x - (ps (crf ln) k + k)) := by
  unfold tx
  rw [toNat_succ h]
  show (if x < ps (crf ln) ((k.toNat : Nat) : Int) + ((k.toNat : Nat) : Int) - 1 then txN sg ln k.toNat x else if x = ps (crf ln) ((k.toNat : Nat) : Int) + ((k.toNat : Nat) : Int) - 1 then 59 else chr_ (sg ((k.toNat : Nat) : Int)) (ln ((k.toNat : Nat) : Int)) (x - (ps (crf ln) ((k.toNat : Nat) : Int) + ((k.toNat : Nat) : Int)))) = _
  rw [Int.toNat_of_nonneg h]
theorem tx_at {r N : Int} {sg ln v : Int → Int} (hO : Ok r sg ln N v) (hN : N ≤ 3000) : ∀ k, 0 ≤ k → k ≤ r → ∀ j, 0 ≤ j → j < k → (∀ i, 0 ≤ i → i < crl (ln j) → tx sg ln k (ps (crf ln) j + j + i) = chr_ (sg j) (ln j) i) ∧ (1 ≤ j → tx sg ln k (ps (crf ln) j + j - 1) = 59) := by
  refine int_ind (fun _ j _ _ => by omega) (fun k hk ih h j j1 j2 => ?_)
  obtain ⟨f1, f2, f3, f4⟩ := crf_pos hO hN j1 (by omega : j < r)
  by_cases e : j = k
  · subst e
    refine ⟨fun i i1 i2 => ?_, fun _ => ?_⟩
    · rw [tx_succ sg ln hk, if_neg (by omega), if_neg (by omega)]
      congr 1
      omega
    · rw [tx_succ sg ln hk, if_neg (by omega), if_pos rfl]
  · obtain ⟨g1, g2⟩ := ih (by omega) j j1 (by omega)
    have mm := crf_mono hO hN (j := j + 1) (k := k) (by omega) (by omega) (by omega)
    refine ⟨fun i i1 i2 => ?_, fun q => ?_⟩
    · rw [tx_succ sg ln hk, if_pos (by omega)]
      exact g1 i i1 i2
    · rw [tx_succ sg ln hk, if_pos (by omega)]
      exact g2 q
theorem tx_txt {r N : Int} {sg ln v : Int → Int} (hO : Ok r sg ln N v) (hN : N ≤ 3000) : Txt (tx sg ln r) r sg ln (max 0 (r - 1) + ps (crf ln) r) := by
  refine ⟨rfl, fun k h1 h2 j j1 j2 => (tx_at hO hN r hO.1 (by omega) k h1 h2).1 j j1 j2, fun k h1 h2 => (tx_at hO hN r hO.1 (by omega) k (by omega) h2).2 h1⟩
section SP2
variable {lc sd r : Int} {sg ln : Int → Int} {N : Int} {v : Int → Int} {hist : Int → Rw} {rcd : Int} {slot : Int → Rw} {uf T : Int → Int} {m z : Int} {A' : AS}
theorem q_char {x : Int} (hO : Ok r sg ln N v) (hN : N ≤ 3000) (hx : 0 ≤ x ∧ x < max 0 (r - 1) + ps (crf ln) r) (h : Sp_character x ((lc, sd, r, sg, ln, N, v), hist, rcd, slot, uf, T, m) z A') : A' = ((lc, sd, r, sg, ln, N, v), hist, rcd, slot, uf, T, m) ∧ z = tx sg ln r x := by
  obtain ⟨h1, h2⟩ := h
  rcases h2 _ _ (tx_txt hO hN) with h3 | h3
  · exact ⟨h1, h3.2⟩
  · exact absurd hx h3.1
theorem q_char_X {x : Int} (hO : Ok r sg ln N v) (hN : N ≤ 3000) (hx : ¬ (0 ≤ x ∧ x < max 0 (r - 1) + ps (crf ln) r)) (h : Sp_character x ((lc, sd, r, sg, ln, N, v), hist, rcd, slot, uf, T, m) z A') : A' = ((lc, sd, r, sg, ln, N, v), hist, rcd, slot, uf, T, m) ∧ z = -1 := by
  obtain ⟨h1, h2⟩ := h
  rcases h2 _ _ (tx_txt hO hN) with h3 | h3
  · exact absurd h3.1 hx
  · exact ⟨h1, h3.2⟩
end SP2
/-! the mark: all that is told of the row, as one number -/
def mkN (sg ln : Int → Int) (h : Int64) : Nat → Int64
  | 0 => h
  | k + 1 => ((31 : Int64) * (((31 : Int64) * mkN sg ln h k) + (iI (sg (k : Int))).toInt64)) + (iI (ln (k : Int))).toInt64
def mk_ (sg ln : Int → Int) (h : Int64) (k : Int) : Int64 := mkN sg ln h k.toNat
theorem mk_zero (sg ln : Int → Int) (h : Int64) : mk_ sg ln h 0 = h := rfl
theorem mk_succ (sg ln : Int → Int) (h : Int64) {k : Int} (hk : 0 ≤ k) : mk_ sg ln h (k + 1) = ((31 : Int64) * (((31 : Int64) * mk_ sg ln h k) + (iI (sg k)).toInt64)) + (iI (ln k)).toInt64 := by
  unfold mk_
  rw [toNat_succ hk]
  show ((31 : Int64) * (((31 : Int64) * mkN sg ln h k.toNat) + (iI (sg ((k.toNat : Nat) : Int))).toInt64)) + (iI (ln ((k.toNat : Nat) : Int))).toInt64 = _
  rw [Int.toNat_of_nonneg hk]
def mk0 (lc sd : Int) : Int64 := ((31 : Int64) * (iI lc).toInt64) + (iI sd).toInt64
def mkv (lc sd r : Int) (sg ln : Int → Int) (N : Int) : Int64 := ((31 : Int64) * mk_ sg ln (mk0 lc sd) r) + (iI N).toInt64
def mkR (w : Rw) : Int64 := mkv w.1 w.2.1 w.2.2.1 w.2.2.2.1 w.2.2.2.2.1 w.2.2.2.2.2.1
theorem mk_congr {sg ln sg' ln' : Int → Int} {h : Int64} : ∀ k, 0 ≤ k → (∀ j, 0 ≤ j → j < k → sg j = sg' j ∧ ln j = ln' j) → mk_ sg ln h k = mk_ sg' ln' h k := by
  refine int_ind (fun _ => rfl) (fun k hk ih hj => ?_)
  rw [mk_succ sg ln h hk, mk_succ sg' ln' h hk, ih (fun j j1 j2 => hj j j1 (by omega)), (hj k hk (by omega)).1, (hj k hk (by omega)).2]
/-- rows that are alike, with the same settings, have one mark -/
theorem mkR_eq {lc sd r r' : Int} {sg ln sg' ln' : Int → Int} {N : Int} {v v' : Int → Int} (h : Ok r sg ln N v) (h' : Ok r' sg' ln' N v') (hv : ∀ x, 0 ≤ x → x < N → v' x = v x) : mkR (lc, sd, r', sg', ln', N, v') = mkR (lc, sd, r, sg, ln, N, v) := by
  obtain ⟨e, hs⟩ := (h'.ext hv).uniq h
  subst e
  show ((31 : Int64) * mk_ sg' ln' (mk0 lc sd) r') + (iI N).toInt64 = ((31 : Int64) * mk_ sg ln (mk0 lc sd) r') + (iI N).toInt64
  rw [mk_congr r' h.1 hs]
theorem d_L_mark_0 : decode b_L_mark 0 = .ok (.ldc2_w 9, 3) := by decide +kernel
theorem d_L_mark_3 : decode b_L_mark 3 = .ok (.aload_n 0, 1) := by decide +kernel
theorem d_L_mark_4 : decode b_L_mark 4 = .ok (.bipush 9, 2) := by decide +kernel
theorem d_L_mark_6 : decode b_L_mark 6 = .ok (.invokevirtual 11, 3) := by decide +kernel
theorem d_L_mark_9 : decode b_L_mark 9 = .ok (.i2l, 1) := by decide +kernel
theorem d_L_mark_10 : decode b_L_mark 10 = .ok (.lmul, 1) := by decide +kernel
theorem d_L_mark_11 : decode b_L_mark 11 = .ok (.aload_n 0, 1) := by decide +kernel
theorem d_L_mark_12 : decode b_L_mark 12 = .ok (.bipush 10, 2) := by decide +kernel
theorem d_L_mark_14 : decode b_L_mark 14 = .ok (.invokevirtual 11, 3) := by decide +kernel
theorem d_L_mark_17 : decode b_L_mark 17 = .ok (.i2l, 1) := by decide +kernel
theorem d_L_mark_18 : decode b_L_mark 18 = .ok (.ladd, 1) := by decide +kernel
theorem d_L_mark_19 : decode b_L_mark 19 = .ok (.lstore_n 1, 1) := by decide +kernel
theorem d_L_mark_20 : decode b_L_mark 20 = .ok (.iconst 0, 1) := by decide +kernel
theorem d_L_mark_21 : decode b_L_mark 21 = .ok (.istore_n 3, 1) := by decide +kernel
theorem d_L_mark_22 : decode b_L_mark 22 = .ok (.iload_n 3, 1) := by decide +kernel
theorem d_L_mark_23 : decode b_L_mark 23 = .ok (.aload_n 0, 1) := by decide +kernel
theorem d_L_mark_24 : decode b_L_mark 24 = .ok (.iconst 1, 1) := by decide +kernel
theorem d_L_mark_25 : decode b_L_mark 25 = .ok (.invokevirtual 11, 3) := by decide +kernel
theorem d_L_mark_28 : decode b_L_mark 28 = .ok (.if_icmp .ge 35, 3) := by decide +kernel
theorem d_L_mark_31 : decode b_L_mark 31 = .ok (.ldc2_w 9, 3) := by decide +kernel
theorem d_L_mark_34 : decode b_L_mark 34 = .ok (.ldc2_w 9, 3) := by decide +kernel
theorem d_L_mark_37 : decode b_L_mark 37 = .ok (.lload_n 1, 1) := by decide +kernel
theorem d_L_mark_38 : decode b_L_mark 38 = .ok (.lmul, 1) := by decide +kernel
theorem d_L_mark_39 : decode b_L_mark 39 = .ok (.aload_n 0, 1) := by decide +kernel
theorem d_L_mark_40 : decode b_L_mark 40 = .ok (.iload_n 3, 1) := by decide +kernel
theorem d_L_mark_41 : decode b_L_mark 41 = .ok (.iconst 0, 1) := by decide +kernel
theorem d_L_mark_42 : decode b_L_mark 42 = .ok (.invokevirtual 17, 3) := by decide +kernel
theorem d_L_mark_45 : decode b_L_mark 45 = .ok (.i2l, 1) := by decide +kernel
theorem d_L_mark_46 : decode b_L_mark 46 = .ok (.ladd, 1) := by decide +kernel
theorem d_L_mark_47 : decode b_L_mark 47 = .ok (.lmul, 1) := by decide +kernel
theorem d_L_mark_48 : decode b_L_mark 48 = .ok (.aload_n 0, 1) := by decide +kernel
theorem d_L_mark_49 : decode b_L_mark 49 = .ok (.iload_n 3, 1) := by decide +kernel
theorem d_L_mark_50 : decode b_L_mark 50 = .ok (.iconst 2, 1) := by decide +kernel
theorem d_L_mark_51 : decode b_L_mark 51 = .ok (.invokevirtual 17, 3) := by decide +kernel
theorem d_L_mark_54 : decode b_L_mark 54 = .ok (.i2l, 1) := by decide +kernel
theorem d_L_mark_55 : decode b_L_mark 55 = .ok (.ladd, 1) := by decide +kernel
theorem d_L_mark_56 : decode b_L_mark 56 = .ok (.lstore_n 1, 1) := by decide +kernel
theorem d_L_mark_57 : decode b_L_mark 57 = .ok (.iinc 3 1, 3) := by decide +kernel
theorem d_L_mark_60 : decode b_L_mark 60 = .ok (.goto (-38), 3) := by decide +kernel
theorem d_L_mark_63 : decode b_L_mark 63 = .ok (.ldc2_w 9, 3) := by decide +kernel
theorem d_L_mark_66 : decode b_L_mark 66 = .ok (.lload_n 1, 1) := by decide +kernel
theorem d_L_mark_67 : decode b_L_mark 67 = .ok (.lmul, 1) := by decide +kernel
theorem d_L_mark_68 : decode b_L_mark 68 = .ok (.aload_n 0, 1) := by decide +kernel
theorem d_L_mark_69 : decode b_L_mark 69 = .ok (.iconst 0, 1) := by decide +kernel
theorem d_L_mark_70 : decode b_L_mark 70 = .ok (.invokevirtual 11, 3) := by decide +kernel
theorem d_L_mark_73 : decode b_L_mark 73 = .ok (.i2l, 1) := by decide +kernel
theorem d_L_mark_74 : decode b_L_mark 74 = .ok (.ladd, 1) := by decide +kernel
theorem d_L_mark_75 : decode b_L_mark 75 = .ok (.lreturn, 1) := by decide +kernel
set_option maxHeartbeats 4000000 in
set_option maxRecDepth 20000 in
theorem c_L_mark {l : Launch} {G : va_G} {tys : List (ClassId × FieldType)} {cI cO cZ : ClassId} (hT : TY tys cI cO cZ) (o : Nat) (A : AS)  : CTB l G tys cI cO cZ y_L_mark b_L_mark 4 5 111 o [.ref o] A (fun z A' => A' = A ∧ z = mkR A.1) := by
  refine mkAL (by decide) (Nat.le_of_ble_eq_true rfl) ?_
  rintro X rfl rfl rfl hRm C kret H ls w hl
  have hl : lv_has ls 4 [(0, .ref o)] := hl
  generalize ([] : List Loc) = locs at w ⊢
  obtain ⟨⟨lc, sd, r, sg, ln, N, v⟩, hist, rcd, slot, uf, T, m⟩ := A
  have hK := w.ok
  have hR : RwOk lc sd r sg ln N v := hK.1
  have hrcd : 0 ≤ rcd ∧ rcd ≤ 6 := hK.2.1
  have hm80 : 0 ≤ m ∧ m ≤ 80 := hK.2.2.2.2.1
  obtain ⟨hO, hr50, hN3, hlc, hsd⟩ := hR
  have hr0 := hO.1
  have hN0 := hO.n0
  refine r_ldc2x (pc := 0) C kc_L_9 d_L_mark_0 ?_
  refine r_aload_n (pc := 3) C d_L_mark_3 rfl (lv_at hl 0 rfl) ?_
  refine r_bipush (pc := 4) C d_L_mark_4 (by decide) ?_
  refine l_callE (pc := 6) (As := [.int (iI 9)]) (rest := [.long (31 : Int64)]) (x := lc) (fun _ _ h => q_count_9 h) C w (fun ws hA => c_D_count hT o _ ws hA 9 (by omega)) ml_L_11 im_D_count se_D_count cd_D_count hd_D_count rfl (by rw [hRm]; exact ⟨⟨Nat.le_of_ble_eq_true rfl, Nat.le_of_ble_eq_true rfl⟩, Nat.le_of_ble_eq_true rfl, Nat.le_of_ble_eq_true rfl⟩) hl.1 rfl (Nat.le_of_ble_eq_true rfl) d_L_mark_6 (fun H locs w => ?_)
  refine r_i2lx (pc := 9) C d_L_mark_9 ?_
  refine r_lmulx (pc := 10) C d_L_mark_10 ?_
  refine r_aload_n (pc := 11) C d_L_mark_11 rfl (lv_at hl 0 rfl) ?_
  refine r_bipush (pc := 12) C d_L_mark_12 (by decide) ?_
  refine l_callE (pc := 14) (As := [.int (iI 10)]) (rest := [.long ((31 : Int64) * (iI lc).toInt64)]) (x := sd) (fun _ _ h => q_count_10 h) C w (fun ws hA => c_D_count hT o _ ws hA 10 (by omega)) ml_L_11 im_D_count se_D_count cd_D_count hd_D_count rfl (by rw [hRm]; exact ⟨⟨Nat.le_of_ble_eq_true rfl, Nat.le_of_ble_eq_true rfl⟩, Nat.le_of_ble_eq_true rfl, Nat.le_of_ble_eq_true rfl⟩) hl.1 rfl (Nat.le_of_ble_eq_true rfl) d_L_mark_14 (fun H locs w => ?_)
  refine r_i2lx (pc := 17) C d_L_mark_17 ?_
  refine r_laddx (pc := 18) C d_L_mark_18 ?_
  refine r_lstore_n (pc := 19) (lv' := [(1, .long (((31 : Int64) * (iI lc).toInt64) + (iI sd).toInt64)), (0, .ref o)]) C d_L_mark_19 rfl hl (by decide) rfl (fun ls hl => ?_)
  refine r_iconst (pc := 20) C d_L_mark_20 ?_
  refine r_istore_n (pc := 21) (lv' := [(3, .int (iI 0)), (1, .long (((31 : Int64) * (iI lc).toInt64) + (iI sd).toInt64)), (0, .ref o)]) C d_L_mark_21 rfl hl (by decide) rfl (fun ls hl => ?_)
  have L22 : ∀ (fuel : Nat), ∀ (k : Int), 0 ≤ k ∧ k ≤ r → (r - k) < (fuel : Int) → ∀ (H : Heap) (locs : List Loc) (ls : Array Slot), LW X cI cO cZ o ((lc, sd, r, sg, ln, N, v), hist, rcd, slot, uf, T, m) H locs → lv_has ls 4 [(3, .int (iI k)), (1, .long (mk_ sg ln (mk0 lc sd) k)), (0, .ref o)] → GG X 0 0 H locs 22 ls [] := by
    intro fuel
    induction fuel with
    | zero =>
      intro k hk hfuel
      exact absurd hfuel (by omega)
    | succ fuel ih22 =>
      intro k hk hfuel H locs ls w hl
      refine r_iload_n (pc := 22) C d_L_mark_22 rfl (lv_at hl 0 rfl) ?_
      refine r_aload_n (pc := 23) C d_L_mark_23 rfl (lv_at hl 2 rfl) ?_
      refine r_iconst (pc := 24) C d_L_mark_24 ?_
      refine l_callE (pc := 25) (As := [.int (iI 1)]) (rest := [.int (iI k)]) (x := r) (fun _ _ h => q_count_1 h) C w (fun ws hA => c_D_count hT o _ ws hA 1 (by omega)) ml_L_11 im_D_count se_D_count cd_D_count hd_D_count rfl (by rw [hRm]; exact ⟨⟨Nat.le_of_ble_eq_true rfl, Nat.le_of_ble_eq_true rfl⟩, Nat.le_of_ble_eq_true rfl, Nat.le_of_ble_eq_true rfl⟩) hl.1 rfl (Nat.le_of_ble_eq_true rfl) d_L_mark_25 (fun H locs w => ?_)
      refine r_icmp_ge (pc := 28) (tgt := 63) C (by omega) d_L_mark_28 (by decide) (fun c_28 => ?_) (fun c_28 => ?_)
      · skip
        refine r_ldc2x (pc := 63) C kc_L_9 d_L_mark_63 ?_
        refine r_lload_n (pc := 66) C d_L_mark_66 rfl (lv_at hl 1 rfl) ?_
        refine r_lmulx (pc := 67) C d_L_mark_67 ?_
        refine r_aload_n (pc := 68) C d_L_mark_68 rfl (lv_at hl 2 rfl) ?_
        refine r_iconst (pc := 69) C d_L_mark_69 ?_
        refine l_callE (pc := 70) (As := [.int (iI 0)]) (rest := [.long ((31 : Int64) * (mk_ sg ln (mk0 lc sd) k))]) (x := N) (fun _ _ h => q_count_0 h) C w (fun ws hA => c_D_count hT o _ ws hA 0 (by omega)) ml_L_11 im_D_count se_D_count cd_D_count hd_D_count rfl (by rw [hRm]; exact ⟨⟨Nat.le_of_ble_eq_true rfl, Nat.le_of_ble_eq_true rfl⟩, Nat.le_of_ble_eq_true rfl, Nat.le_of_ble_eq_true rfl⟩) hl.1 rfl (Nat.le_of_ble_eq_true rfl) d_L_mark_70 (fun H locs w => ?_)
        refine r_i2lx (pc := 73) C d_L_mark_73 ?_
        refine r_laddx (pc := 74) C d_L_mark_74 ?_
        exact kret _ _ _ _ _ _ d_L_mark_75 w (⟨rfl, by rw [show k = r by omega]; rfl⟩)
      · skip
        refine r_ldc2x (pc := 31) C kc_L_9 d_L_mark_31 ?_
        refine r_ldc2x (pc := 34) C kc_L_9 d_L_mark_34 ?_
        refine r_lload_n (pc := 37) C d_L_mark_37 rfl (lv_at hl 1 rfl) ?_
        refine r_lmulx (pc := 38) C d_L_mark_38 ?_
        refine r_aload_n (pc := 39) C d_L_mark_39 rfl (lv_at hl 2 rfl) ?_
        refine r_iload_n (pc := 40) C d_L_mark_40 rfl (lv_at hl 0 rfl) ?_
        refine r_iconst (pc := 41) C d_L_mark_41 ?_
        refine l_callE (pc := 42) (As := [.int (iI k), .int (iI 0)]) (rest := [.long ((31 : Int64) * (mk_ sg ln (mk0 lc sd) k)), .long (31 : Int64)]) (x := (sg k)) (fun _ _ h => q_ofRun_0 (by omega) h) C w (fun ws hA => c_D_ofRun hT o _ ws hA k 0 ⟨by omega, by omega⟩) ml_L_17 im_D_ofRun se_D_ofRun cd_D_ofRun hd_D_ofRun rfl (by rw [hRm]; exact ⟨⟨Nat.le_of_ble_eq_true rfl, Nat.le_of_ble_eq_true rfl⟩, Nat.le_of_ble_eq_true rfl, Nat.le_of_ble_eq_true rfl⟩) hl.1 rfl (Nat.le_of_ble_eq_true rfl) d_L_mark_42 (fun H locs w => ?_)
        refine r_i2lx (pc := 45) C d_L_mark_45 ?_
        refine r_laddx (pc := 46) C d_L_mark_46 ?_
        refine r_lmulx (pc := 47) C d_L_mark_47 ?_
        refine r_aload_n (pc := 48) C d_L_mark_48 rfl (lv_at hl 2 rfl) ?_
        refine r_iload_n (pc := 49) C d_L_mark_49 rfl (lv_at hl 0 rfl) ?_
        refine r_iconst (pc := 50) C d_L_mark_50 ?_
        refine l_callE (pc := 51) (As := [.int (iI k), .int (iI 2)]) (rest := [.long ((31 : Int64) * (((31 : Int64) * (mk_ sg ln (mk0 lc sd) k)) + (iI (sg k)).toInt64))]) (x := (ln k)) (fun _ _ h => q_ofRun_2 (by omega) h) C w (fun ws hA => c_D_ofRun hT o _ ws hA k 2 ⟨by omega, by omega⟩) ml_L_17 im_D_ofRun se_D_ofRun cd_D_ofRun hd_D_ofRun rfl (by rw [hRm]; exact ⟨⟨Nat.le_of_ble_eq_true rfl, Nat.le_of_ble_eq_true rfl⟩, Nat.le_of_ble_eq_true rfl, Nat.le_of_ble_eq_true rfl⟩) hl.1 rfl (Nat.le_of_ble_eq_true rfl) d_L_mark_51 (fun H locs w => ?_)
        refine r_i2lx (pc := 54) C d_L_mark_54 ?_
        refine r_laddx (pc := 55) C d_L_mark_55 ?_
        refine r_lstore_n (pc := 56) (lv' := [(1, .long (((31 : Int64) * (((31 : Int64) * (mk_ sg ln (mk0 lc sd) k)) + (iI (sg k)).toInt64)) + (iI (ln k)).toInt64)), (3, .int (iI k)), (0, .ref o)]) C d_L_mark_56 rfl hl (by decide) rfl (fun ls hl => ?_)
        refine r_iinc (pc := 57) (j := 1) (lv' := [(3, .int (iI (k + 1))), (1, .long (((31 : Int64) * (((31 : Int64) * (mk_ sg ln (mk0 lc sd) k)) + (iI (sg k)).toInt64)) + (iI (ln k)).toInt64)), (0, .ref o)]) C d_L_mark_57 hl rfl (by decide) rfl (fun ls hl => ?_)
        refine r_goto (pc := 60) (tgt := 22) C d_L_mark_60 (by decide) ?_
        rw [← mk_succ sg ln (mk0 lc sd) (by omega)] at hl
        exact ih22 (k + 1) (by omega) (by omega) _ _ _ w (lv_sub hl [0, 1, 2] rfl)
  exact L22 ((r - 0) + 1 : Int).toNat 0 (by first | omega | rfl) (by omega) _ _ _ w (lv_sub hl [0, 1, 2] rfl)
