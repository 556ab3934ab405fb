/-! the text that a row is read from -/
def dg_ (c : Int) : Prop := 48 ≤ c ∧ c ≤ 57
/-- whether c can stand: st 0 a sign is due, 1 it was read, 2 a number is due, 3 it is being read; l the number so far -/
def lg (c st l : Int) : Prop := (st = 0 ∧ ((48 ≤ c ∧ c ≤ 57) ∨ c = 120)) ∨ (st = 1 ∧ c = 42) ∨ ((st = 1 ∨ st = 3) ∧ c = 59) ∨ (st = 2 ∧ 49 ≤ c ∧ c ≤ 57) ∨ (st = 3 ∧ 48 ≤ c ∧ c ≤ 57 ∧ 10 * l + c - 48 ≤ 3000)
abbrev PS_ : Type := Int × Int × (Int → Int) × (Int → Int)
def pnx (c : Int) (p : PS_) : PS_ := if p.1 = 0 then (1, p.2.1 + 1, up p.2.2.1 p.2.1 (if c = 120 then 10 else c - 48), up p.2.2.2 p.2.1 1) else if c = 42 then (2, p.2) else if c = 59 then (0, p.2) else if p.1 = 2 then (3, p.2.1, p.2.2.1, up p.2.2.2 (p.2.1 - 1) (c - 48)) else (3, p.2.1, p.2.2.1, up p.2.2.2 (p.2.1 - 1) (10 * p.2.2.2 (p.2.1 - 1) + c - 48))
def pstN (T : Int → Int) : Nat → PS_
  | 0 => (0, 0, fun _ => 0, fun _ => 0)
  | k + 1 => pnx (T (k : Int)) (pstN T k)
def pst (T : Int → Int) (k : Int) : PS_ := pstN T k.toNat
theorem pst_zero (T : Int → Int) : pst T 0 = (0, 0, fun _ => 0, fun _ => 0) := rfl
theorem pst_succ (T : Int → Int) {k : Int} (h : 0 ≤ k) : pst T (k + 1) = pnx (T k) (pst T k) := by
  unfold pst
  rw [toNat_succ h]
  show pnx (T ((k.toNat : Nat) : Int)) (pstN T k.toNat) = _
  rw [Int.toNat_of_nonneg h]
def lgs (T : Int → Int) (k : Int) : Prop := ∀ j, 0 ≤ j → j < k → lg (T j) (pst T j).1 ((pst T j).2.2.2 ((pst T j).2.1 - 1))
/-- what holds of a state reached by characters that can stand -/
def pok (k : Int) (p : PS_) : Prop := (p.1 = 0 ∨ p.1 = 1 ∨ p.1 = 2 ∨ p.1 = 3) ∧ 0 ≤ p.2.1 ∧ p.2.1 ≤ k ∧ (p.1 ≠ 0 → 1 ≤ p.2.1) ∧ (∀ j, 0 ≤ j → j < p.2.1 → 1 ≤ p.2.2.2 j ∧ p.2.2.2 j ≤ 3000 ∧ 0 ≤ p.2.2.1 j ∧ p.2.2.1 j ≤ 10)
theorem pok_next {k c : Int} {p : PS_} (h : pok k p) (hl : lg c p.1 (p.2.2.2 (p.2.1 - 1))) : pok (k + 1) (pnx c p) := by
  obtain ⟨st, cnt, S, L⟩ := p
  obtain ⟨h1, h2, h3, h4, h5⟩ := h
  have h1 : st = 0 ∨ st = 1 ∨ st = 2 ∨ st = 3 := h1
  have h2 : 0 ≤ cnt := h2
  have h3 : cnt ≤ k := h3
  have h4 : st ≠ 0 → 1 ≤ cnt := h4
  have h5 : ∀ j, 0 ≤ j → j < cnt → 1 ≤ L j ∧ L j ≤ 3000 ∧ 0 ≤ S j ∧ S j ≤ 10 := h5
  have hl : lg c st (L (cnt - 1)) := hl
  unfold lg at hl
  unfold pnx
  show pok (k + 1) (if st = 0 then (1, cnt + 1, up S cnt (if c = 120 then 10 else c - 48), up L cnt 1) else if c = 42 then (2, cnt, S, L) else if c = 59 then (0, cnt, S, L) else if st = 2 then (3, cnt, S, up L (cnt - 1) (c - 48)) else (3, cnt, S, up L (cnt - 1) (10 * L (cnt - 1) + c - 48)))
  by_cases e0 : st = 0
  · rw [if_pos e0]
    refine ⟨Or.inr (Or.inl rfl), by show 0 ≤ cnt + 1; omega, by show cnt + 1 ≤ k + 1; omega, fun _ => by show 1 ≤ cnt + 1; omega, fun j j1 j2 => ?_⟩
    have j2 : j < cnt + 1 := j2
    show 1 ≤ up L cnt 1 j ∧ up L cnt 1 j ≤ 3000 ∧ 0 ≤ up S cnt (if c = 120 then 10 else c - 48) j ∧ up S cnt (if c = 120 then 10 else c - 48) j ≤ 10
    by_cases e : j = cnt
    · rw [e, up_eq, up_eq]
      by_cases e2 : c = 120
      · rw [if_pos e2]; omega
      · rw [if_neg e2]; omega
    · rw [up_ne _ _ e, up_ne _ _ e]; exact h5 j j1 (by omega)
  · rw [if_neg e0]
    have h4 := h4 e0
    by_cases e1 : c = 42
    · rw [if_pos e1]
      exact ⟨Or.inr (Or.inr (Or.inl rfl)), h2, by show cnt ≤ k + 1; omega, fun _ => h4, h5⟩
    · rw [if_neg e1]
      by_cases e2 : c = 59
      · rw [if_pos e2]
        exact ⟨Or.inl rfl, h2, by show cnt ≤ k + 1; omega, fun q => absurd rfl q, h5⟩
      · rw [if_neg e2]
        have g5 := h5 (cnt - 1) (by omega) (by omega)
        have key : ∀ y, 1 ≤ y → y ≤ 3000 → pok (k + 1) (3, cnt, S, up L (cnt - 1) y) := by
          intro y y1 y2
          refine ⟨Or.inr (Or.inr (Or.inr rfl)), h2, by show cnt ≤ k + 1; omega, fun _ => h4, fun j j1 j2 => ?_⟩
          show 1 ≤ up L (cnt - 1) y j ∧ up L (cnt - 1) y j ≤ 3000 ∧ 0 ≤ S j ∧ S j ≤ 10
          have g := h5 j j1 j2
          by_cases e : j = cnt - 1
          · rw [e, up_eq]; rw [e] at g; omega
          · rw [up_ne _ _ e]; exact g
        by_cases e3 : st = 2
        · rw [if_pos e3]; exact key _ (by omega) (by omega)
        · rw [if_neg e3]; exact key _ (by omega) (by omega)
theorem pok_at {T : Int → Int} : ∀ k, 0 ≤ k → lgs T k → pok k (pst T k) := by
  refine int_ind (fun _ => ?_) (fun k hk ih h => ?_)
  · rw [pst_zero]
    exact ⟨Or.inl rfl, Int.le_refl 0, Int.le_refl 0, fun q => absurd rfl q, fun j j1 j2 => absurd j2 (by show ¬ j < 0; omega)⟩
  · rw [pst_succ T hk]
    exact pok_next (ih (fun j j1 j2 => h j j1 (by omega))) (h k hk (by omega))
theorem lgs_succ {T : Int → Int} {k : Int} (h : lgs T k) (hl : lg (T k) (pst T k).1 ((pst T k).2.2.2 ((pst T k).2.1 - 1))) : lgs T (k + 1) := fun j j1 j2 => if e : j = k then (by rw [e]; exact hl) else h j j1 (by omega)
/-- the fault of the first m characters -/
def Flt (T : Int → Int) (m z : Int) : Prop := (∃ k, 0 ≤ k ∧ k < m ∧ lgs T k ∧ ¬ lg (T k) (pst T k).1 ((pst T k).2.2.2 ((pst T k).2.1 - 1)) ∧ z = k) ∨ (lgs T m ∧ ((pst T m).1 = 1 ∨ (pst T m).1 = 3) ∧ z = -6) ∨ (lgs T m ∧ ¬ ((pst T m).1 = 1 ∨ (pst T m).1 = 3) ∧ z = m)
theorem Flt.uniq {T : Int → Int} {m z y : Int} (h : Flt T m z) (h' : Flt T m y) : z = y := by
  rcases h with ⟨k, k1, k2, k3, k4, k5⟩ | ⟨h1, h2, h3⟩ | ⟨h1, h2, h3⟩ <;> rcases h' with ⟨j, j1, j2, j3, j4, j5⟩ | ⟨g1, g2, g3⟩ | ⟨g1, g2, g3⟩
  · rcases Int.lt_trichotomy j k with q | q | q
    · exact absurd (k3 j j1 q) j4
    · omega
    · exact absurd (j3 k k1 q) k4
  · exact absurd (g1 k k1 k2) k4
  · exact absurd (g1 k k1 k2) k4
  · exact absurd (h1 j j1 j2) j4
  · omega
  · exact absurd h2 g2
  · exact absurd (h1 j j1 j2) j4
  · exact absurd g2 h2
  · omega
/-- the row of the first k runs -/
def exN (S L : Int → Int) : Nat → Int → Int
  | 0 => fun _ => 0
  | k + 1 => app (exN S L k) (ps L (k : Int)) (S (k : Int))
def ex (S L : Int → Int) (k : Int) : Int → Int := exN S L k.toNat
theorem ex_succ (S L : Int → Int) {k : Int} (h : 0 ≤ k) : ex S L (k + 1) = app (ex S L k) (ps L k) (S k) := by
  unfold ex
  rw [toNat_succ h]
  show app (exN S L k.toNat) (ps L ((k.toNat : Nat) : Int)) (S ((k.toNat : Nat) : Int)) = _
  rw [Int.toNat_of_nonneg h]
theorem ex_congr {S L S' L' : Int → Int} : ∀ k, 0 ≤ k → (∀ j, 0 ≤ j → j < k → S j = S' j ∧ L j = L' j) → ex S L k = ex S' L' k := by
  refine int_ind (fun _ => rfl) (fun k hk ih h => ?_)
  rw [ex_succ S L hk, ex_succ S' L' hk, ih (fun j j1 j2 => h j j1 (by omega)), ps_congr k hk (fun j j1 j2 => (h j j1 (by omega)).2), (h k hk (by omega)).1]
theorem sl_new {s1 l1 ST LT : Int → Int} {n1 cT x y : Int} (hn : n1 = cT) (hsl : ∀ j, 0 ≤ j → j < n1 → s1 j = ST j ∧ l1 j = LT j) (he : x = y) : ∀ j, 0 ≤ j → j < n1 + 1 → up s1 n1 x j = up ST cT y j ∧ up l1 n1 1 j = up LT cT 1 j := by
  intro j j1 j2
  subst hn he
  by_cases e : j = n1
  · rw [e, up_eq, up_eq, up_eq, up_eq]; exact ⟨rfl, rfl⟩
  · rw [up_ne _ _ e, up_ne _ _ e, up_ne _ _ e, up_ne _ _ e]; exact hsl j j1 (by omega)
theorem sl_upd {s1 l1 ST LT : Int → Int} {n1 cT x y : Int} (hn : n1 = cT) (hsl : ∀ j, 0 ≤ j → j < n1 → s1 j = ST j ∧ l1 j = LT j) (he : x = y) : ∀ j, 0 ≤ j → j < n1 → s1 j = ST j ∧ up l1 (n1 - 1) x j = up LT (cT - 1) y j := by
  intro j j1 j2
  subst hn he
  by_cases e : j = n1 - 1
  · rw [e, up_eq, up_eq]; exact ⟨(hsl _ (by omega) (by omega)).1, rfl⟩
  · rw [up_ne _ _ e, up_ne _ _ e]; exact hsl j j1 j2
