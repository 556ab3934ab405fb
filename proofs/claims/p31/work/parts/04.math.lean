/-! the mathematics of rows: prefix sums, runs of a row, rows kept as runs -/
def psN (f : Int → Int) : Nat → Int
  | 0 => 0
  | k + 1 => psN f k + f (k : Int)
def ps (f : Int → Int) (k : Int) : Int := psN f k.toNat
theorem ps_zero (f : Int → Int) : ps f 0 = 0 := rfl
theorem toNat_succ {k : Int} (h : 0 ≤ k) : (k + 1).toNat = k.toNat + 1 := by omega
theorem ps_succ (f : Int → Int) {k : Int} (h : 0 ≤ k) : ps f (k + 1) = ps f k + f k := by
  unfold ps
  rw [toNat_succ h]
  show psN f k.toNat + f ((k.toNat : Nat) : Int) = _
  rw [Int.toNat_of_nonneg h]
/-- induction over whole numbers from 0 on -/
theorem int_ind {P : Int → Prop} (h0 : P 0) (hs : ∀ k, 0 ≤ k → P k → P (k + 1)) : ∀ k, 0 ≤ k → P k := by
  intro k hk
  have h : ∀ n : Nat, P (n : Int) := by
    intro n
    induction n with
    | zero => exact h0
    | succ n ih => exact hs n (by omega) ih
  rw [← Int.toNat_of_nonneg hk]
  exact h _
theorem ps_congr {f g : Int → Int} : ∀ k, 0 ≤ k → (∀ j, 0 ≤ j → j < k → f j = g j) → ps f k = ps g k := by
  refine int_ind (fun _ => rfl) (fun k hk ih h => ?_)
  rw [ps_succ f hk, ps_succ g hk, ih (fun j h1 h2 => h j h1 (by omega)), h k hk (by omega)]
theorem ps_mono {f : Int → Int} {j : Int} (hj : 0 ≤ j) : ∀ m, 0 ≤ m → (∀ i, 0 ≤ i → i < j + m → 0 ≤ f i) → ps f j ≤ ps f (j + m) := by
  refine int_ind (fun _ => by simp) (fun m hm ih h => ?_)
  rw [← Int.add_assoc, ps_succ f (by omega)]
  have h1 := ih (fun i h1 h2 => h i h1 (by omega))
  have h2 := h (j + m) (by omega) (by omega)
  omega
theorem ps_le {f : Int → Int} {j k : Int} (hj : 0 ≤ j) (hk : j ≤ k) (h : ∀ i, 0 ≤ i → i < k → 0 ≤ f i) : ps f j ≤ ps f k := by
  have := ps_mono (f := f) hj (k - j) (by omega) (fun i h1 h2 => h i h1 (by omega))
  rwa [show j + (k - j) = k by omega] at this
/-- how many runs the first n signs of v have -/
def rcN (v : Int → Int) : Nat → Int
  | 0 => 0
  | k + 1 => rcN v k + (if (k : Int) = 0 ∨ v (k : Int) ≠ v ((k : Int) - 1) then 1 else 0)
def rc (v : Int → Int) (n : Int) : Int := rcN v n.toNat
theorem rc_zero (v : Int → Int) : rc v 0 = 0 := rfl
theorem rc_succ (v : Int → Int) {k : Int} (h : 0 ≤ k) : rc v (k + 1) = rc v k + (if k = 0 ∨ v k ≠ v (k - 1) then 1 else 0) := by
  unfold rc
  rw [toNat_succ h]
  show rcN v k.toNat + (if ((k.toNat : Nat) : Int) = 0 ∨ v ((k.toNat : Nat) : Int) ≠ v (((k.toNat : Nat) : Int) - 1) then 1 else 0) = _
  rw [Int.toNat_of_nonneg h]
theorem rc_succ_le (v : Int → Int) {k : Int} (h : 0 ≤ k) : rc v k ≤ rc v (k + 1) ∧ rc v (k + 1) ≤ rc v k + 1 := by
  rw [rc_succ v h]
  split <;> omega
theorem rc_congr {v u : Int → Int} : ∀ n, 0 ≤ n → (∀ x, 0 ≤ x → x < n → v x = u x) → rc v n = rc u n := by
  refine int_ind (fun _ => rfl) (fun k hk ih h => ?_)
  rw [rc_succ v hk, rc_succ u hk, ih (fun j h1 h2 => h j h1 (by omega)), h k hk (by omega)]
  by_cases h0 : k = 0
  · simp [h0]
  · rw [h (k - 1) (by omega) (by omega)]
theorem rc_nonneg (v : Int → Int) : ∀ n, 0 ≤ n → 0 ≤ rc v n := by
  refine int_ind (by rw [rc_zero]; omega) (fun k hk ih => ?_)
  have := (rc_succ_le v hk).1
  omega
theorem rc_le (v : Int → Int) : ∀ n, 0 ≤ n → rc v n ≤ n := by
  refine int_ind (by rw [rc_zero]; omega) (fun k hk ih => ?_)
  have := (rc_succ_le v hk).2
  omega
theorem rc_mono (v : Int → Int) {a : Int} (ha : 0 ≤ a) : ∀ m, 0 ≤ m → rc v a ≤ rc v (a + m) := by
  refine int_ind (by simp) (fun m hm ih => ?_)
  have := (rc_succ_le v (k := a + m) (by omega)).1
  rw [← Int.add_assoc]
  omega
/-- one more run of m like signs -/
theorem rc_run {v : Int → Int} {a s : Int} (ha : 0 ≤ a) : ∀ m, 0 ≤ m → (∀ x, a ≤ x → x < a + m + 1 → v x = s) → rc v (a + m + 1) = rc v a + (if a = 0 ∨ v (a - 1) ≠ s then 1 else 0) := by
  refine int_ind (fun h => ?_) (fun m hm ih h => ?_)
  · rw [show a + 0 + 1 = a + 1 by omega, rc_succ v ha, h a (by omega) (by omega)]
    by_cases h0 : a = 0
    · simp [h0]
    · have : (a = 0 ∨ s ≠ v (a - 1)) ↔ (a = 0 ∨ v (a - 1) ≠ s) := by constructor <;> (intro q; rcases q with q | q; exact Or.inl q; exact Or.inr (fun z => q z.symm))
      simp only [this]
  · rw [show a + (m + 1) + 1 = (a + m + 1) + 1 by omega, rc_succ v (by omega), ih (fun x h1 h2 => h x h1 (by omega)), h (a + m + 1) (by omega) (by omega), h (a + m + 1 - 1) (by omega) (by omega)]
    rw [if_neg (by omega : ¬ (a + m + 1 = 0 ∨ s ≠ s))]
    omega
/-- v with signs s from place n on -/
def app (v : Int → Int) (n s : Int) : Int → Int := fun x => if x < n then v x else s
theorem app_lt {v : Int → Int} {n s x : Int} (h : x < n) : app v n s x = v x := by simp [app, h]
theorem app_ge {v : Int → Int} {n s x : Int} (h : n ≤ x) : app v n s x = s := by simp [app]; omega
theorem rc_app {v : Int → Int} {n s m : Int} (hn : 0 ≤ n) (hm : 1 ≤ m) : rc (app v n s) (n + m) = rc v n + (if n = 0 ∨ v (n - 1) ≠ s then 1 else 0) := by
  have h := rc_run (v := app v n s) (s := s) hn (m - 1) (by omega) (fun x h1 h2 => app_ge h1)
  rw [show n + (m - 1) + 1 = n + m by omega] at h
  rw [h, rc_congr n hn (fun x _ h2 => app_lt (s := s) h2)]
  by_cases h0 : n = 0
  · simp [h0]
  · rw [app_lt (by omega : n - 1 < n)]
/-- r runs of signs sg and lengths ln are the row v of n signs -/
def Ok (r : Int) (sg ln : Int → Int) (n : Int) (v : Int → Int) : Prop :=
  0 ≤ r ∧ (∀ k, 0 ≤ k → k < r → 1 ≤ ln k ∧ 0 ≤ sg k ∧ sg k ≤ 10) ∧ (∀ k, 1 ≤ k → k < r → sg k ≠ sg (k - 1)) ∧ ps ln r = n ∧ ∀ k, 0 ≤ k → k < r → ∀ x, ps ln k ≤ x → x < ps ln (k + 1) → v x = sg k
theorem Ok.empty (sg ln v : Int → Int) : Ok 0 sg ln 0 v := ⟨by omega, fun k _ _ => by omega, fun k _ _ => by omega, rfl, fun k _ _ => by omega⟩
theorem Ok.ln {r n : Int} {sg ln v : Int → Int} (h : Ok r sg ln n v) {k : Int} (h1 : 0 ≤ k) (h2 : k < r) : 1 ≤ ln k := (h.2.1 k h1 h2).1
theorem Ok.sg {r n : Int} {sg ln v : Int → Int} (h : Ok r sg ln n v) {k : Int} (h1 : 0 ≤ k) (h2 : k < r) : 0 ≤ sg k ∧ sg k ≤ 10 := (h.2.1 k h1 h2).2
theorem Ok.ps0 {r n : Int} {sg ln v : Int → Int} (h : Ok r sg ln n v) {k : Int} (h1 : 0 ≤ k) (h2 : k ≤ r) : 0 ≤ ps ln k ∧ ps ln k ≤ n := by
  refine ⟨?_, ?_⟩
  · have := ps_le (f := ln) (j := 0) (k := k) (by omega) h1 (fun i h3 h4 => by have := h.ln h3 (by omega); omega)
    rwa [ps_zero] at this
  · rw [← h.2.2.2.1]
    exact ps_le h1 h2 (fun i h3 h4 => by have := h.ln h3 h4; omega)
theorem Ok.n0 {r n : Int} {sg ln v : Int → Int} (h : Ok r sg ln n v) : 0 ≤ n := by
  have h1 := (h.ps0 (k := r) h.1 (by omega)).1
  have h2 := h.2.2.2.1
  omega
/-- what a run's own facts say together -/
theorem Ok.run {r n : Int} {sg ln v : Int → Int} (h : Ok r sg ln n v) {k : Int} (h1 : 0 ≤ k) (h2 : k < r) : 1 ≤ ln k ∧ 0 ≤ sg k ∧ sg k ≤ 10 ∧ 0 ≤ ps ln k ∧ ps ln (k + 1) = ps ln k + ln k ∧ ps ln (k + 1) ≤ n :=
  ⟨h.ln h1 h2, (h.sg h1 h2).1, (h.sg h1 h2).2, (h.ps0 h1 (by omega)).1, ps_succ ln h1, (h.ps0 (k := k + 1) (by omega) (by omega)).2⟩
theorem Ok.le {r n : Int} {sg ln v : Int → Int} (h : Ok r sg ln n v) : ∀ k, 0 ≤ k → k ≤ r → k ≤ ps ln k := by
  refine int_ind (fun _ => by rw [ps_zero]; omega) (fun k hk ih h2 => ?_)
  have h1 := ih (by omega)
  have h3 := h.ln hk (by omega)
  rw [ps_succ ln hk]
  omega
theorem Ok.rcs {r n : Int} {sg ln v : Int → Int} (h : Ok r sg ln n v) : ∀ k, 0 ≤ k → k ≤ r → rc v (ps ln k) = k := by
  refine int_ind (fun _ => by rw [ps_zero, rc_zero]) (fun k hk ih h2 => ?_)
  have h1 := ih (by omega)
  obtain ⟨g1, g2, g3, g4, g5, g6⟩ := h.run hk (by omega : k < r)
  have h3 := rc_run (v := v) (a := ps ln k) (s := sg k) g4 (ln k - 1) (by omega) (fun x q1 q2 => h.2.2.2.2 k hk (by omega) x q1 (by omega))
  rw [show ps ln k + (ln k - 1) + 1 = ps ln (k + 1) by omega] at h3
  rw [h3, h1]
  have h4 : ps ln k = 0 ∨ v (ps ln k - 1) ≠ sg k := by
    by_cases h0 : k = 0
    · left; rw [h0, ps_zero]
    · right
      obtain ⟨f1, f2, f3, f4, f5, f6⟩ := h.run (k := k - 1) (by omega) (by omega)
      rw [show k - 1 + 1 = k by omega] at f5
      rw [h.2.2.2.2 (k - 1) (by omega) (by omega) (ps ln k - 1) (by omega) (by rw [show k - 1 + 1 = k by omega]; omega)]
      exact fun z => h.2.2.1 k (by omega) (by omega) z.symm
  rw [if_pos h4]
theorem Ok.rcE {r n : Int} {sg ln v : Int → Int} (h : Ok r sg ln n v) : rc v n = r := by
  have := h.rcs r h.1 (by omega)
  rwa [h.2.2.2.1] at this
theorem Ok.ext {r n : Int} {sg ln v u : Int → Int} (h : Ok r sg ln n v) (hv : ∀ x, 0 ≤ x → x < n → v x = u x) : Ok r sg ln n u := by
  refine ⟨h.1, h.2.1, h.2.2.1, h.2.2.2.1, fun k h1 h2 x h3 h4 => ?_⟩
  obtain ⟨g1, g2, g3, g4, g5, g6⟩ := h.run h1 h2
  rw [← hv x (by omega) (by omega)]
  exact h.2.2.2.2 k h1 h2 x h3 h4
theorem Ok.congr {r n : Int} {sg ln sg' ln' v : Int → Int} (h : Ok r sg ln n v) (hs : ∀ k, 0 ≤ k → k < r → sg' k = sg k) (hl : ∀ k, 0 ≤ k → k < r → ln' k = ln k) : Ok r sg' ln' n v := by
  have hp : ∀ k, 0 ≤ k → k ≤ r → ps ln' k = ps ln k := fun k h1 h2 => ps_congr k h1 (fun j h3 h4 => hl j h3 (by omega))
  refine ⟨h.1, fun k h1 h2 => ?_, fun k h1 h2 => ?_, ?_, fun k h1 h2 x h3 h4 => ?_⟩
  · rw [hs k h1 h2, hl k h1 h2]; exact h.2.1 k h1 h2
  · rw [hs k (by omega) h2, hs (k - 1) (by omega) (by omega)]; exact h.2.2.1 k h1 h2
  · rw [hp r h.1 (by omega)]; exact h.2.2.2.1
  · rw [hp k h1 (by omega)] at h3
    rw [hp (k + 1) (by omega) (by omega)] at h4
    rw [hs k h1 h2]; exact h.2.2.2.2 k h1 h2 x h3 h4
/-- a longer last run -/
theorem Ok.join {r n s m : Int} {sg ln v : Int → Int} (h : Ok r sg ln n v) (h0 : 1 ≤ r) (hs : sg (r - 1) = s) (hm : 0 ≤ m) : Ok r sg (up ln (r - 1) (ln (r - 1) + m)) (n + m) (app v n s) := by
  have hp : ∀ k, 0 ≤ k → k ≤ r - 1 → ps (up ln (r - 1) (ln (r - 1) + m)) k = ps ln k := fun k h1 h2 => ps_congr k h1 (fun j h3 h4 => up_ne _ _ (by omega))
  have hr := h.run (k := r - 1) (by omega) (by omega)
  rw [show r - 1 + 1 = r by omega, h.2.2.2.1] at hr
  obtain ⟨g1, g2, g3, g4, g5, g6⟩ := hr
  have hq : ps (up ln (r - 1) (ln (r - 1) + m)) r = n + m := by
    have := ps_succ (up ln (r - 1) (ln (r - 1) + m)) (k := r - 1) (by omega)
    rw [show r - 1 + 1 = r by omega, up_eq, hp (r - 1) (by omega) (by omega)] at this
    omega
  refine ⟨h.1, fun k h1 h2 => ⟨?_, h.sg h1 h2⟩, h.2.2.1, hq, fun k h1 h2 x h3 h4 => ?_⟩
  · by_cases hk : k = r - 1
    · subst hk; rw [up_eq]; omega
    · rw [up_ne _ _ hk]; exact h.ln h1 h2
  · by_cases hk : k = r - 1
    · subst hk
      rw [hp (r - 1) (by omega) (by omega)] at h3
      by_cases hx : x < n
      · rw [app_lt hx]
        exact h.2.2.2.2 (r - 1) h1 h2 x h3 (by rw [show r - 1 + 1 = r by omega, h.2.2.2.1]; exact hx)
      · rw [app_ge (by omega), hs]
    · rw [hp k h1 (by omega)] at h3
      rw [hp (k + 1) (by omega) (by omega)] at h4
      have := (h.ps0 (k := k + 1) (by omega) (by omega)).2
      rw [app_lt (by omega)]
      exact h.2.2.2.2 k h1 h2 x h3 h4
/-- a new last run -/
theorem Ok.push {r n s m : Int} {sg ln v : Int → Int} (h : Ok r sg ln n v) (h0 : r = 0 ∨ sg (r - 1) ≠ s) (hm : 1 ≤ m) (hs : 0 ≤ s ∧ s ≤ 10) : Ok (r + 1) (up sg r s) (up ln r m) (n + m) (app v n s) := by
  have hp : ∀ k, 0 ≤ k → k ≤ r → ps (up ln r m) k = ps ln k := fun k h1 h2 => ps_congr k h1 (fun j h3 h4 => up_ne _ _ (by omega))
  have hr := h.1
  have hn := h.2.2.2.1
  have hq : ps (up ln r m) (r + 1) = n + m := by
    rw [ps_succ _ hr, up_eq, hp r hr (by omega)]
    omega
  refine ⟨by omega, fun k h1 h2 => ?_, fun k h1 h2 => ?_, hq, fun k h1 h2 x h3 h4 => ?_⟩
  · by_cases hk : k = r
    · subst hk; rw [up_eq, up_eq]; exact ⟨hm, hs⟩
    · rw [up_ne _ _ hk, up_ne _ _ hk]; exact h.2.1 k h1 (by omega)
  · by_cases hk : k = r
    · subst hk
      rw [up_eq, up_ne _ _ (by omega)]
      rcases h0 with h0 | h0
      · omega
      · exact fun z => h0 z.symm
    · rw [up_ne _ _ hk, up_ne _ _ (by omega)]; exact h.2.2.1 k h1 (by omega)
  · by_cases hk : k = r
    · subst hk
      rw [hp k h1 (by omega)] at h3
      rw [up_eq, app_ge (by omega)]
    · rw [hp k h1 (by omega)] at h3
      rw [hp (k + 1) (by omega) (by omega)] at h4
      have := (h.ps0 (k := k + 1) (by omega) (by omega)).2
      rw [app_lt (by omega), up_ne _ _ hk]
      exact h.2.2.2.2 k h1 (by omega) x h3 h4
theorem Ok.last {r n : Int} {sg ln v : Int → Int} (h : Ok r sg ln n v) (h0 : 1 ≤ r) : 1 ≤ n ∧ v (n - 1) = sg (r - 1) := by
  have hr := h.run (k := r - 1) (by omega) (by omega)
  rw [show r - 1 + 1 = r by omega, h.2.2.2.1] at hr
  exact ⟨by omega, h.2.2.2.2 (r - 1) (by omega) (by omega) (n - 1) (by omega) (by rw [show r - 1 + 1 = r by omega, h.2.2.2.1]; omega)⟩
theorem Ok.n_zero {r n : Int} {sg ln v : Int → Int} (h : Ok r sg ln n v) : r = 0 ↔ n = 0 := by
  constructor
  · intro q; have := h.2.2.2.1; rw [q, ps_zero] at this; omega
  · intro q
    have h1 := h.1
    by_cases h0 : r = 0
    · exact h0
    · have := (h.last (by omega)).1; omega
/-- the same row has the same runs -/
theorem Ok.uniq {r r' n : Int} {sg ln sg' ln' v : Int → Int} (h : Ok r sg ln n v) (h' : Ok r' sg' ln' n v) : r = r' ∧ ∀ k, 0 ≤ k → k < r → sg k = sg' k ∧ ln k = ln' k := by
  have hr : r = r' := h.rcE.symm.trans h'.rcE
  subst hr
  have hp : ∀ k, 0 ≤ k → k ≤ r → ps ln k = ps ln' k := by
    refine int_ind (fun _ => rfl) (fun k hk ih h2 => ?_)
    have ih := ih (by omega)
    have h3 := h.rcs (k + 1) (by omega) h2
    have h4 := h'.rcs (k + 1) (by omega) h2
    have a1 := h.run hk (by omega)
    have a2 := h'.run hk (by omega)
    rcases Int.lt_trichotomy (ps ln (k + 1)) (ps ln' (k + 1)) with q | q | q
    · exfalso
      have b1 := h.2.2.2.2
      by_cases e : k + 1 = r
      · rw [e, h.2.2.2.1, h'.2.2.2.1] at q; omega
      · have a3 := h.run (k := k + 1) (by omega) (by omega)
        have c1 := h'.2.2.2.2 k hk (by omega) (ps ln (k + 1)) (by omega) q
        have c2 := h'.2.2.2.2 k hk (by omega) (ps ln (k + 1) - 1) (by omega) (by omega)
        have d1 := h.2.2.2.2 (k + 1) (by omega) (by omega) (ps ln (k + 1)) (by omega) (by omega)
        have d2 := h.2.2.2.2 k hk (by omega) (ps ln (k + 1) - 1) (by omega) (by omega)
        have := h.2.2.1 (k + 1) (by omega) (by omega)
        rw [show k + 1 - 1 = k by omega] at this
        exact this (by rw [← d1, ← d2, c1, c2])
    · exact q
    · exfalso
      by_cases e : k + 1 = r
      · rw [e, h.2.2.2.1, h'.2.2.2.1] at q; omega
      · have a3 := h'.run (k := k + 1) (by omega) (by omega)
        have c1 := h.2.2.2.2 k hk (by omega) (ps ln' (k + 1)) (by omega) q
        have c2 := h.2.2.2.2 k hk (by omega) (ps ln' (k + 1) - 1) (by omega) (by omega)
        have d1 := h'.2.2.2.2 (k + 1) (by omega) (by omega) (ps ln' (k + 1)) (by omega) (by omega)
        have d2 := h'.2.2.2.2 k hk (by omega) (ps ln' (k + 1) - 1) (by omega) (by omega)
        have := h'.2.2.1 (k + 1) (by omega) (by omega)
        rw [show k + 1 - 1 = k by omega] at this
        exact this (by rw [← d1, ← d2, c1, c2])
  refine ⟨rfl, fun k h1 h2 => ?_⟩
  have e1 := hp k h1 (by omega)
  have e2 := hp (k + 1) (by omega) (by omega)
  have a1 := h.run h1 h2
  have a2 := h'.run h1 h2
  refine ⟨?_, by omega⟩
  rw [← h.2.2.2.2 k h1 h2 (ps ln k) (by omega) (by omega), ← h'.2.2.2.2 k h1 h2 (ps ln k) (by omega) (by omega)]
/-- a State holds the row v of n signs that was appended to it, as far as it fits -/
def fits_ (n : Int) (v : Int → Int) : Prop := n ≤ 3000 ∧ rc v n ≤ 50
def RV (r pl ov : Int) (sg ln : Int → Int) (n : Int) (v : Int → Int) : Prop :=
  0 ≤ n ∧ (fits_ n v → ov = 0 ∧ pl = n ∧ Ok r sg ln n v) ∧ (¬ fits_ n v → ov = 1)
theorem RV.empty (sg ln v : Int → Int) : RV 0 0 0 sg ln 0 v := ⟨by omega, fun _ => ⟨rfl, rfl, Ok.empty sg ln v⟩, fun h => absurd (show fits_ 0 v from ⟨by omega, by rw [rc_zero]; omega⟩) h⟩
theorem fits_ext {n : Int} {v u : Int → Int} (h0 : 0 ≤ n) (hv : ∀ x, 0 ≤ x → x < n → v x = u x) : fits_ n v ↔ fits_ n u := by
  unfold fits_
  rw [rc_congr n h0 hv]
theorem RV.ext {r pl ov n : Int} {sg ln v u : Int → Int} (h : RV r pl ov sg ln n v) (hv : ∀ x, 0 ≤ x → x < n → v x = u x) : RV r pl ov sg ln n u := by
  refine ⟨h.1, fun q => ?_, fun q => ?_⟩
  · obtain ⟨h1, h2, h3⟩ := h.2.1 ((fits_ext h.1 hv).mpr q)
    exact ⟨h1, h2, h3.ext hv⟩
  · exact h.2.2 (fun z => q ((fits_ext h.1 hv).mp z))
theorem RV.ov01 {r pl ov n : Int} {sg ln v : Int → Int} (h : RV r pl ov sg ln n v) : (ov = 0 ∧ pl = n ∧ Ok r sg ln n v ∧ n ≤ 3000 ∧ r ≤ 50) ∨ (ov = 1 ∧ ¬ fits_ n v) := by
  by_cases q : fits_ n v
  · obtain ⟨h1, h2, h3⟩ := h.2.1 q
    exact Or.inl ⟨h1, h2, h3, q.1, by rw [← h3.rcE]; exact q.2⟩
  · exact Or.inr ⟨h.2.2 q, q⟩
theorem fits_app {n s m : Int} {v : Int → Int} (hn : 0 ≤ n) (hm : 0 ≤ m) (h : fits_ (n + m) (app v n s)) : fits_ n v := by
  obtain ⟨h1, h2⟩ := h
  refine ⟨by omega, ?_⟩
  have h3 := rc_mono (app v n s) hn m hm
  rw [rc_congr (u := v) n hn (fun x _ h2 => app_lt (s := s) h2)] at h3
  omega
/-- append of nothing, or to a row that is too large already -/
theorem RV.noop {r pl ov n s m : Int} {sg ln v : Int → Int} (h : RV r pl ov sg ln n v) (hm : m < 1 ∨ ¬ ov = 0) : RV r pl ov sg ln (n + max 0 m) (app v n s) := by
  by_cases q : m < 1
  · rw [show n + max 0 m = n by omega]
    exact h.ext (fun x _ h2 => (app_lt h2).symm)
  · rcases h.ov01 with ⟨h1, -⟩ | ⟨h1, h2⟩
    · omega
    · have h0 := h.1
      exact ⟨by omega, fun z => absurd (fits_app h0 (by omega) z) h2, fun _ => h1⟩
theorem RV.over {r pl ov n s m : Int} {sg ln v : Int → Int} (h : RV r pl ov sg ln n v) (hm : 1 ≤ m) (h0 : ov = 0) (hx : 3000 - pl < m ∨ (50 ≤ r ∧ (r = 0 ∨ sg (r - 1) ≠ s))) : RV r pl 1 sg ln (n + max 0 m) (app v n s) := by
  rcases h.ov01 with ⟨-, h2, h3, h4, h5⟩ | ⟨h1, h2⟩
  · have hn := h.1
    rw [show n + max 0 m = n + m by omega]
    refine ⟨by omega, fun z => ?_, fun _ => rfl⟩
    exfalso
    obtain ⟨z1, z2⟩ := z
    rcases hx with hx | ⟨hx, hx2⟩
    · omega
    · rw [rc_app hn hm, h3.rcE] at z2
      have hl := h3.last (by omega)
      rw [if_pos (by rcases hx2 with q | q; exact absurd q (by omega); right; rw [hl.2]; exact q)] at z2
      omega
  · omega
theorem RV.join {r pl ov n s m : Int} {sg ln v : Int → Int} (h : RV r pl ov sg ln n v) (hm : 1 ≤ m) (h0 : ov = 0) (hx : m ≤ 3000 - pl) (h1 : 1 ≤ r) (hs : sg (r - 1) = s) : RV r (pl + m) ov sg (up ln (r - 1) (ln (r - 1) + m)) (n + max 0 m) (app v n s) := by
  rcases h.ov01 with ⟨-, h2, h3, h4, h5⟩ | ⟨q1, q2⟩
  · have hn := h.1
    rw [show n + max 0 m = n + m by omega]
    have hj := h3.join h1 hs (m := m) (by omega)
    exact ⟨by omega, fun _ => ⟨h0, by omega, hj⟩, fun z => absurd (show fits_ _ _ from ⟨by omega, by rw [hj.rcE]; exact h5⟩) z⟩
  · omega
theorem RV.push {r pl ov n s m : Int} {sg ln v : Int → Int} (h : RV r pl ov sg ln n v) (hm : 1 ≤ m) (h0 : ov = 0) (hx : m ≤ 3000 - pl) (h1 : r < 50) (hs : r = 0 ∨ sg (r - 1) ≠ s) (hs2 : 0 ≤ s ∧ s ≤ 10) : RV (r + 1) (pl + m) ov (up sg r s) (up ln r m) (n + max 0 m) (app v n s) := by
  rcases h.ov01 with ⟨-, h2, h3, h4, h5⟩ | ⟨q1, q2⟩
  · have hn := h.1
    rw [show n + max 0 m = n + m by omega]
    have hj := h3.push hs hm hs2
    exact ⟨by omega, fun _ => ⟨h0, by omega, hj⟩, fun z => absurd (show fits_ _ _ from ⟨by omega, by rw [hj.rcE]; omega⟩) z⟩
  · omega
/-- a State's three cells, and what they hold -/
abbrev SD : Type := Nat × Nat × Nat × (Int → Int) × (Int → Int) × Int × Int × Int × Int × Int
def sw (cI : ClassId) (q a b : Nat) (sg ln : Int → Int) (r pl ov lc sd : Int) : va_W := [(q, .inr (1, [.ref a, .ref b, .int (iI r), .int (iI pl), .int (iI ov), .int (iI lc), .int (iI sd)])), (a, aI cI 50 sg), (b, aI cI 50 ln)]
