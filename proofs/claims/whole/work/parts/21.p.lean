/-! the text that a row is read from -/
def dg_ (c : Int) : Prop := 48 ≤ c ∧ c ≤ 57
/-- whether c can stand: st 0 a sign is due, 1 it was read, 2 a number is due, 3 it is being read; l the number so far -/
def lg (c st l : Int) : Prop := (st = 0 ∧ ((48 ≤ c ∧ c ≤ 57) ∨ c = 120)) ∨ (st = 1 ∧ c = 42) ∨ ((st = 1 ∨ st = 3) ∧ c = 59) ∨ (st = 2 ∧ 49 ≤ c ∧ c ≤ 57) ∨ (st = 3 ∧ 48 ≤ c ∧ c ≤ 57 ∧ 10 * l + c - 48 ≤ 3000)
abbrev PS_ : Type := Int × Int × (Int → Int) × (Int → Int)
def pnx (c : Int) (p : PS_) : PS_ := if p.1 = 0 then (1, p.2.1 + 1, up p.2.2.1 p.2.1 (if c = 120 then 10 else c - 48), up p.2.2.2 p.2.1 1) else if c = 42 then (2, p.2) else if c = 59 then (0, p.2) else if p.1 = 2 then (3, p.2.1, p.2.2.1, up p.2.2.2 (p.2.1 - 1) (c - 48)) else (3, p.2.1, p.2.2.1, up p.2.2.2 (p.2.1 - 1) (10 * p.2.2.2 (p.2.1 - 1) + c - 48))
def pstN (T : Int → Int) : Nat → PS_
  | 0 => (0, 0, fun _ => 0, fun _ => 0)
  | k + 1 => pnx (T (k : Int)) (pstN T k)
def pst (T : Int → Int) (k : Int) : PS_ := pstN T k.toNat
theorem pst_zero (T : Int → Int) : pst T 0 = (0, 0, fun _ => 0, fun _ => 0) := rfl
theorem pst_succ (T : Int → Int) {k : Int} (h : 0 ≤ k) : pst T (k + 1) = pnx (T k) (pst T k) := by
  unfold pst
  rw [toNat_succ h]
  show pnx (T ((k.toNat : Nat) : Int)) (pstN T k.toNat) = _
  rw [Int.toNat_of_nonneg h]
def lgs (T : Int → Int) (k : Int) : Prop := ∀ j, 0 ≤ j → j < k → lg (T j) (pst T j).1 ((pst T j).2.2.2 ((pst T j).2.1 - 1))
/-- what holds of a state reached by characters that can stand -/
def pok (k : Int) (p : PS_) : Prop := (p.1 = 0 ∨ p.1 = 1 ∨ p.1 = 2 ∨ p.1 = 3) ∧ 0 ≤ p.2.1 ∧ p.2.1 ≤ k ∧ (p.1 ≠ 0 → 1 ≤ p.2.1) ∧ (∀ j, 0 ≤ j → j < p.2.1 → 1 ≤ p.2.2.2 j ∧ p.2.2.2 j ≤ 3000 ∧ 0 ≤ p.2.2.1 j ∧ p.2.2.1 j ≤ 10)
theorem pok_next {k c : Int} {p : PS_} (h : pok k p) (hl : lg c p.1 (p.2.2.2 (p.2.1 - 1))) : pok (k + 1) (pnx c p) := by
  obtain ⟨st, cnt, S, L⟩ := p
  obtain ⟨h1, h2, h3, h4, h5⟩ := h
  have h1 : st = 0 ∨ st = 1 ∨ st = 2 ∨ st = 3 := h1
  have h2 : 0 ≤ cnt := h2
  have h3 : cnt ≤ k := h3
  have h4 : st ≠ 0 → 1 ≤ cnt := h4
  have h5 : ∀ j, 0 ≤ j → j < cnt → 1 ≤ L j ∧ L j ≤ 3000 ∧ 0 ≤ S j ∧ S j ≤ 10 := h5
  have hl : lg c st (L (cnt - 1)) := hl
  unfold lg at hl
  unfold pnx
  show pok (k + 1) (if st = 0 then (1, cnt + 1, up S cnt (if c = 120 then 10 else c - 48), up L cnt 1) else if c = 42 then (2, cnt, S, L) else if c = 59 then (0, cnt, S, L) else if st = 2 then (3, cnt, S, up L (cnt - 1) (c - 48)) else (3, cnt, S, up L (cnt - 1) (10 * L (cnt - 1) + c - 48)))
  by_cases e0 : st = 0
  · rw [if_pos e0]
    refine ⟨Or.inr (Or.inl rfl), by show 0 ≤ cnt + 1; omega, by show cnt + 1 ≤ k + 1; omega, fun _ => by show 1 ≤ cnt + 1; omega, fun j j1 j2 => ?_⟩
    have j2 : j < cnt + 1 := j2
    show 1 ≤ up L cnt 1 j ∧ up L cnt 1 j ≤ 3000 ∧ 0 ≤ up S cnt (if c = 120 then 10 else c - 48) j ∧ up S cnt (if c = 120 then 10 else c - 48) j ≤ 10
    by_cases e : j = cnt
    · rw [e, up_eq, up_eq]
      by_cases e2 : c = 120
      · rw [if_pos e2]; omega
      · rw [if_neg e2]; omega
    · rw [up_ne _ _ e, up_ne _ _ e]; exact h5 j j1 (by omega)
  · rw [if_neg e0]
    have h4 := h4 e0
    by_cases e1 : c = 42
    · rw [if_pos e1]
      exact ⟨Or.inr (Or.inr (Or.inl rfl)), h2, by show cnt ≤ k + 1; omega, fun _ => h4, h5⟩
    · rw [if_neg e1]
      by_cases e2 : c = 59
      · rw [if_pos e2]
        exact ⟨Or.inl rfl, h2, by show cnt ≤ k + 1; omega, fun q => absurd rfl q, h5⟩
      · rw [if_neg e2]
        have g5 := h5 (cnt - 1) (by omega) (by omega)
        have key : ∀ y, 1 ≤ y → y ≤ 3000 → pok (k + 1) (3, cnt, S, up L (cnt - 1) y) := by
          intro y y1 y2
          refine ⟨Or.inr (Or.inr (Or.inr rfl)), h2, by show cnt ≤ k + 1; omega, fun _ => h4, fun j j1 j2 => ?_⟩
          show 1 ≤ up L (cnt - 1) y j ∧ up L (cnt - 1) y j ≤ 3000 ∧ 0 ≤ S j ∧ S j ≤ 10
          have g := h5 j j1 j2
          by_cases e : j = cnt - 1
          · rw [e, up_eq]; rw [e] at g; omega
          · rw [up_ne _ _ e]; exact g
        by_cases e3 : st = 2
        · rw [if_pos e3]; exact key _ (by omega) (by omega)
        · rw [if_neg e3]; exact key _ (by omega) (by omega)
theorem pok_at {T : Int → Int} : ∀ k, 0 ≤ k → lgs T k → pok k (pst T k) := by
  refine int_ind (fun _ => ?_) (fun k hk ih h => ?_)
  · rw [pst_zero]
    exact ⟨Or.inl rfl, Int.le_refl 0, Int.le_refl 0, fun q => absurd rfl q, fun j j1 j2 => absurd j2 (by show ¬ j < 0; omega)⟩
  · rw [pst_succ T hk]
    exact pok_next (ih (fun j j1 j2 => h j j1 (by omega))) (h k hk (by omega))
theorem lgs_succ {T : Int → Int} {k : Int} (h : lgs T k) (hl : lg (T k) (pst T k).1 ((pst T k).2.2.2 ((pst T k).2.1 - 1))) : lgs T (k + 1) := fun j j1 j2 => if e : j = k then (by rw [e]; exact hl) else h j j1 (by omega)
/-- the fault of the first m characters -/
def Flt (T : Int → Int) (m z : Int) : Prop := (∃ k, 0 ≤ k ∧ k < m ∧ lgs T k ∧ ¬ lg (T k) (pst T k).1 ((pst T k).2.2.2 ((pst T k).2.1 - 1)) ∧ z = k) ∨ (lgs T m ∧ ((pst T m).1 = 1 ∨ (pst T m).1 = 3) ∧ z = -6) ∨ (lgs T m ∧ ¬ ((pst T m).1 = 1 ∨ (pst T m).1 = 3) ∧ z = m)
theorem Flt.uniq {T : Int → Int} {m z y : Int} (h : Flt T m z) (h' : Flt T m y) : z = y := by
  rcases h with ⟨k, k1, k2, k3, k4, k5⟩ | ⟨h1, h2, h3⟩ | ⟨h1, h2, h3⟩ <;> rcases h' with ⟨j, j1, j2, j3, j4, j5⟩ | ⟨g1, g2, g3⟩ | ⟨g1, g2, g3⟩
  · rcases Int.lt_trichotomy j k with q | q | q
    · exact absurd (k3 j j1 q) j4
    · omega
    · exact absurd (j3 k k1 q) k4
  · exact absurd (g1 k k1 k2) k4
  · exact absurd (g1 k k1 k2) k4
  · exact absurd (h1 j j1 j2) j4
  · omega
  · exact absurd h2 g2
  · exact absurd (h1 j j1 j2) j4
  · exact absurd g2 h2
  · omega
/-- the row of the first k runs -/
def exN (S L : Int → Int) : Nat → Int → Int
  | 0 => fun _ => 0
  | k + 1 => app (exN S L k) (ps L (k : Int)) (S (k : Int))
def ex (S L : Int → Int) (k : Int) : Int → Int := exN S L k.toNat
theorem ex_succ (S L : Int → Int) {k : Int} (h : 0 ≤ k) : ex S L (k + 1) = app (ex S L k) (ps L k) (S k) := by
  unfold ex
  rw [toNat_succ h]
  show app (exN S L k.toNat) (ps L ((k.toNat : Nat) : Int)) (S ((k.toNat : Nat) : Int)) = _
  rw [Int.toNat_of_nonneg h]
theorem ex_congr {S L S' L' : Int → Int} : ∀ k, 0 ≤ k → (∀ j, 0 ≤ j → j < k → S j = S' j ∧ L j = L' j) → ex S L k = ex S' L' k := by
  refine int_ind (fun _ => rfl) (fun k hk ih h => ?_)
  rw [ex_succ S L hk, ex_succ S' L' hk, ih (fun j j1 j2 => h j j1 (by omega)), ps_congr k hk (fun j j1 j2 => (h j j1 (by omega)).2), (h k hk (by omega)).1]

theorem sl_new {s1 l1 ST LT : Int → Int} {n1 cT x y : Int} (hn : n1 = cT) (hsl : ∀ j, 0 ≤ j → j < n1 → s1 j = ST j ∧ l1 j = LT j) (he : x = y) : ∀ j, 0 ≤ j → j < n1 + 1 → up s1 n1 x j = up ST cT y j ∧ up l1 n1 1 j = up LT cT 1 j := by
  intro j j1 j2
  subst hn he
  by_cases e : j = n1
  · rw [e, up_eq, up_eq, up_eq, up_eq]; exact ⟨rfl, rfl⟩
  · rw [up_ne _ _ e, up_ne _ _ e, up_ne _ _ e, up_ne _ _ e]; exact hsl j j1 (by omega)
theorem sl_upd {s1 l1 ST LT : Int → Int} {n1 cT x y : Int} (hn : n1 = cT) (hsl : ∀ j, 0 ≤ j → j < n1 → s1 j = ST j ∧ l1 j = LT j) (he : x = y) : ∀ j, 0 ≤ j → j < n1 → s1 j = ST j ∧ up l1 (n1 - 1) x j = up LT (cT - 1) y j := by
  intro j j1 j2
  subst hn he
  by_cases e : j = n1 - 1
  · rw [e, up_eq, up_eq]; exact ⟨(hsl _ (by omega) (by omega)).1, rfl⟩
  · rw [up_ne _ _ e, up_ne _ _ e]; exact hsl j j1 j2
theorem d_M_faultOf_0 : decode b_M_faultOf 0 = .ok (.aload_n 0, 1) := by decide +kernel
theorem d_M_faultOf_1 : decode b_M_faultOf 1 = .ok (.iconst 0, 1) := by decide +kernel
theorem d_M_faultOf_2 : decode b_M_faultOf 2 = .ok (.putfield 137, 3) := by decide +kernel
theorem d_M_faultOf_5 : decode b_M_faultOf 5 = .ok (.iconst 0, 1) := by decide +kernel
theorem d_M_faultOf_6 : decode b_M_faultOf 6 = .ok (.istore_n 1, 1) := by decide +kernel
theorem d_M_faultOf_7 : decode b_M_faultOf 7 = .ok (.iconst 0, 1) := by decide +kernel
theorem d_M_faultOf_8 : decode b_M_faultOf 8 = .ok (.istore_n 2, 1) := by decide +kernel
theorem d_M_faultOf_9 : decode b_M_faultOf 9 = .ok (.iload_n 2, 1) := by decide +kernel
theorem d_M_faultOf_10 : decode b_M_faultOf 10 = .ok (.aload_n 0, 1) := by decide +kernel
theorem d_M_faultOf_11 : decode b_M_faultOf 11 = .ok (.getfield 119, 3) := by decide +kernel
theorem d_M_faultOf_14 : decode b_M_faultOf 14 = .ok (.if_icmp .ge 229, 3) := by decide +kernel
theorem d_M_faultOf_17 : decode b_M_faultOf 17 = .ok (.aload_n 0, 1) := by decide +kernel
theorem d_M_faultOf_18 : decode b_M_faultOf 18 = .ok (.getfield 25, 3) := by decide +kernel
theorem d_M_faultOf_21 : decode b_M_faultOf 21 = .ok (.iload_n 2, 1) := by decide +kernel
theorem d_M_faultOf_22 : decode b_M_faultOf 22 = .ok (.iaload, 1) := by decide +kernel
theorem d_M_faultOf_23 : decode b_M_faultOf 23 = .ok (.istore_n 3, 1) := by decide +kernel
theorem d_M_faultOf_24 : decode b_M_faultOf 24 = .ok (.iload_n 3, 1) := by decide +kernel
theorem d_M_faultOf_25 : decode b_M_faultOf 25 = .ok (.bipush 48, 2) := by decide +kernel
theorem d_M_faultOf_27 : decode b_M_faultOf 27 = .ok (.bipush 57, 2) := by decide +kernel
theorem d_M_faultOf_29 : decode b_M_faultOf 29 = .ok (.invokestatic 75, 3) := by decide +kernel
theorem d_M_faultOf_32 : decode b_M_faultOf 32 = .ok (.istore 4, 2) := by decide +kernel
theorem d_M_faultOf_34 : decode b_M_faultOf 34 = .ok (.iload_n 1, 1) := by decide +kernel
theorem d_M_faultOf_35 : decode b_M_faultOf 35 = .ok (.ifCond .ne 62, 3) := by decide +kernel
theorem d_M_faultOf_38 : decode b_M_faultOf 38 = .ok (.iload 4, 2) := by decide +kernel
theorem d_M_faultOf_40 : decode b_M_faultOf 40 = .ok (.ifCond .ne 9, 3) := by decide +kernel
theorem d_M_faultOf_43 : decode b_M_faultOf 43 = .ok (.iload_n 3, 1) := by decide +kernel
theorem d_M_faultOf_44 : decode b_M_faultOf 44 = .ok (.bipush 120, 2) := by decide +kernel
theorem d_M_faultOf_46 : decode b_M_faultOf 46 = .ok (.if_icmp .ne 51, 3) := by decide +kernel
theorem d_M_faultOf_49 : decode b_M_faultOf 49 = .ok (.aload_n 0, 1) := by decide +kernel
theorem d_M_faultOf_50 : decode b_M_faultOf 50 = .ok (.getfield 31, 3) := by decide +kernel
theorem d_M_faultOf_53 : decode b_M_faultOf 53 = .ok (.aload_n 0, 1) := by decide +kernel
theorem d_M_faultOf_54 : decode b_M_faultOf 54 = .ok (.getfield 137, 3) := by decide +kernel
theorem d_M_faultOf_57 : decode b_M_faultOf 57 = .ok (.iload 4, 2) := by decide +kernel
theorem d_M_faultOf_59 : decode b_M_faultOf 59 = .ok (.ifCond .eq 10, 3) := by decide +kernel
theorem d_M_faultOf_62 : decode b_M_faultOf 62 = .ok (.iload_n 3, 1) := by decide +kernel
theorem d_M_faultOf_63 : decode b_M_faultOf 63 = .ok (.bipush 48, 2) := by decide +kernel
theorem d_M_faultOf_65 : decode b_M_faultOf 65 = .ok (.isub, 1) := by decide +kernel
theorem d_M_faultOf_66 : decode b_M_faultOf 66 = .ok (.goto 5, 3) := by decide +kernel
theorem d_M_faultOf_69 : decode b_M_faultOf 69 = .ok (.bipush 10, 2) := by decide +kernel
theorem d_M_faultOf_71 : decode b_M_faultOf 71 = .ok (.iastore, 1) := by decide +kernel
theorem d_M_faultOf_72 : decode b_M_faultOf 72 = .ok (.aload_n 0, 1) := by decide +kernel
theorem d_M_faultOf_73 : decode b_M_faultOf 73 = .ok (.getfield 34, 3) := by decide +kernel
theorem d_M_faultOf_76 : decode b_M_faultOf 76 = .ok (.aload_n 0, 1) := by decide +kernel
theorem d_M_faultOf_77 : decode b_M_faultOf 77 = .ok (.getfield 137, 3) := by decide +kernel
theorem d_M_faultOf_80 : decode b_M_faultOf 80 = .ok (.iconst 1, 1) := by decide +kernel
theorem d_M_faultOf_81 : decode b_M_faultOf 81 = .ok (.iastore, 1) := by decide +kernel
theorem d_M_faultOf_82 : decode b_M_faultOf 82 = .ok (.aload_n 0, 1) := by decide +kernel
theorem d_M_faultOf_83 : decode b_M_faultOf 83 = .ok (.dup, 1) := by decide +kernel
theorem d_M_faultOf_84 : decode b_M_faultOf 84 = .ok (.getfield 137, 3) := by decide +kernel
theorem d_M_faultOf_87 : decode b_M_faultOf 87 = .ok (.iconst 1, 1) := by decide +kernel
theorem d_M_faultOf_88 : decode b_M_faultOf 88 = .ok (.iadd, 1) := by decide +kernel
theorem d_M_faultOf_89 : decode b_M_faultOf 89 = .ok (.putfield 137, 3) := by decide +kernel
theorem d_M_faultOf_92 : decode b_M_faultOf 92 = .ok (.iconst 1, 1) := by decide +kernel
theorem d_M_faultOf_93 : decode b_M_faultOf 93 = .ok (.istore_n 1, 1) := by decide +kernel
theorem d_M_faultOf_94 : decode b_M_faultOf 94 = .ok (.goto 143, 3) := by decide +kernel
theorem d_M_faultOf_97 : decode b_M_faultOf 97 = .ok (.iload_n 1, 1) := by decide +kernel
theorem d_M_faultOf_98 : decode b_M_faultOf 98 = .ok (.iconst 1, 1) := by decide +kernel
theorem d_M_faultOf_99 : decode b_M_faultOf 99 = .ok (.if_icmp .ne 14, 3) := by decide +kernel
theorem d_M_faultOf_102 : decode b_M_faultOf 102 = .ok (.iload_n 3, 1) := by decide +kernel
theorem d_M_faultOf_103 : decode b_M_faultOf 103 = .ok (.bipush 42, 2) := by decide +kernel
theorem d_M_faultOf_105 : decode b_M_faultOf 105 = .ok (.if_icmp .ne 8, 3) := by decide +kernel
theorem d_M_faultOf_108 : decode b_M_faultOf 108 = .ok (.iconst 2, 1) := by decide +kernel
theorem d_M_faultOf_109 : decode b_M_faultOf 109 = .ok (.istore_n 1, 1) := by decide +kernel
theorem d_M_faultOf_110 : decode b_M_faultOf 110 = .ok (.goto 127, 3) := by decide +kernel
theorem d_M_faultOf_113 : decode b_M_faultOf 113 = .ok (.iload_n 1, 1) := by decide +kernel
theorem d_M_faultOf_114 : decode b_M_faultOf 114 = .ok (.iconst 2, 1) := by decide +kernel
theorem d_M_faultOf_115 : decode b_M_faultOf 115 = .ok (.irem, 1) := by decide +kernel
theorem d_M_faultOf_116 : decode b_M_faultOf 116 = .ok (.iconst 1, 1) := by decide +kernel
theorem d_M_faultOf_117 : decode b_M_faultOf 117 = .ok (.if_icmp .ne 14, 3) := by decide +kernel
theorem d_M_faultOf_120 : decode b_M_faultOf 120 = .ok (.iload_n 3, 1) := by decide +kernel
theorem d_M_faultOf_121 : decode b_M_faultOf 121 = .ok (.bipush 59, 2) := by decide +kernel
theorem d_M_faultOf_123 : decode b_M_faultOf 123 = .ok (.if_icmp .ne 8, 3) := by decide +kernel
theorem d_M_faultOf_126 : decode b_M_faultOf 126 = .ok (.iconst 0, 1) := by decide +kernel
theorem d_M_faultOf_127 : decode b_M_faultOf 127 = .ok (.istore_n 1, 1) := by decide +kernel
theorem d_M_faultOf_128 : decode b_M_faultOf 128 = .ok (.goto 109, 3) := by decide +kernel
theorem d_M_faultOf_131 : decode b_M_faultOf 131 = .ok (.iload_n 1, 1) := by decide +kernel
theorem d_M_faultOf_132 : decode b_M_faultOf 132 = .ok (.iconst 2, 1) := by decide +kernel
theorem d_M_faultOf_133 : decode b_M_faultOf 133 = .ok (.if_icmp .ne 34, 3) := by decide +kernel
theorem d_M_faultOf_136 : decode b_M_faultOf 136 = .ok (.iload_n 3, 1) := by decide +kernel
theorem d_M_faultOf_137 : decode b_M_faultOf 137 = .ok (.bipush 49, 2) := by decide +kernel
theorem d_M_faultOf_139 : decode b_M_faultOf 139 = .ok (.bipush 57, 2) := by decide +kernel
theorem d_M_faultOf_141 : decode b_M_faultOf 141 = .ok (.invokestatic 75, 3) := by decide +kernel
theorem d_M_faultOf_144 : decode b_M_faultOf 144 = .ok (.ifCond .eq 23, 3) := by decide +kernel
theorem d_M_faultOf_147 : decode b_M_faultOf 147 = .ok (.aload_n 0, 1) := by decide +kernel
theorem d_M_faultOf_148 : decode b_M_faultOf 148 = .ok (.getfield 34, 3) := by decide +kernel
theorem d_M_faultOf_151 : decode b_M_faultOf 151 = .ok (.aload_n 0, 1) := by decide +kernel
theorem d_M_faultOf_152 : decode b_M_faultOf 152 = .ok (.getfield 137, 3) := by decide +kernel
theorem d_M_faultOf_155 : decode b_M_faultOf 155 = .ok (.iconst 1, 1) := by decide +kernel
theorem d_M_faultOf_156 : decode b_M_faultOf 156 = .ok (.isub, 1) := by decide +kernel
theorem d_M_faultOf_157 : decode b_M_faultOf 157 = .ok (.iload_n 3, 1) := by decide +kernel
theorem d_M_faultOf_158 : decode b_M_faultOf 158 = .ok (.bipush 48, 2) := by decide +kernel
theorem d_M_faultOf_160 : decode b_M_faultOf 160 = .ok (.isub, 1) := by decide +kernel
theorem d_M_faultOf_161 : decode b_M_faultOf 161 = .ok (.iastore, 1) := by decide +kernel
theorem d_M_faultOf_162 : decode b_M_faultOf 162 = .ok (.iconst 3, 1) := by decide +kernel
theorem d_M_faultOf_163 : decode b_M_faultOf 163 = .ok (.istore_n 1, 1) := by decide +kernel
theorem d_M_faultOf_164 : decode b_M_faultOf 164 = .ok (.goto 73, 3) := by decide +kernel
theorem d_M_faultOf_167 : decode b_M_faultOf 167 = .ok (.iload_n 1, 1) := by decide +kernel
theorem d_M_faultOf_168 : decode b_M_faultOf 168 = .ok (.iconst 3, 1) := by decide +kernel
theorem d_M_faultOf_169 : decode b_M_faultOf 169 = .ok (.if_icmp .ne 66, 3) := by decide +kernel
theorem d_M_faultOf_172 : decode b_M_faultOf 172 = .ok (.iload 4, 2) := by decide +kernel
theorem d_M_faultOf_174 : decode b_M_faultOf 174 = .ok (.ifCond .eq 61, 3) := by decide +kernel
theorem d_M_faultOf_177 : decode b_M_faultOf 177 = .ok (.bipush 10, 2) := by decide +kernel
theorem d_M_faultOf_179 : decode b_M_faultOf 179 = .ok (.aload_n 0, 1) := by decide +kernel
theorem d_M_faultOf_180 : decode b_M_faultOf 180 = .ok (.getfield 34, 3) := by decide +kernel
theorem d_M_faultOf_183 : decode b_M_faultOf 183 = .ok (.aload_n 0, 1) := by decide +kernel
theorem d_M_faultOf_184 : decode b_M_faultOf 184 = .ok (.getfield 137, 3) := by decide +kernel
theorem d_M_faultOf_187 : decode b_M_faultOf 187 = .ok (.iconst 1, 1) := by decide +kernel
theorem d_M_faultOf_188 : decode b_M_faultOf 188 = .ok (.isub, 1) := by decide +kernel
theorem d_M_faultOf_189 : decode b_M_faultOf 189 = .ok (.iaload, 1) := by decide +kernel
theorem d_M_faultOf_190 : decode b_M_faultOf 190 = .ok (.imul, 1) := by decide +kernel
theorem d_M_faultOf_191 : decode b_M_faultOf 191 = .ok (.iload_n 3, 1) := by decide +kernel
theorem d_M_faultOf_192 : decode b_M_faultOf 192 = .ok (.iadd, 1) := by decide +kernel
theorem d_M_faultOf_193 : decode b_M_faultOf 193 = .ok (.bipush 48, 2) := by decide +kernel
theorem d_M_faultOf_195 : decode b_M_faultOf 195 = .ok (.isub, 1) := by decide +kernel
theorem d_M_faultOf_196 : decode b_M_faultOf 196 = .ok (.sipush 3000, 3) := by decide +kernel
theorem d_M_faultOf_199 : decode b_M_faultOf 199 = .ok (.if_icmp .gt 36, 3) := by decide +kernel
theorem d_M_faultOf_202 : decode b_M_faultOf 202 = .ok (.aload_n 0, 1) := by decide +kernel
theorem d_M_faultOf_203 : decode b_M_faultOf 203 = .ok (.getfield 34, 3) := by decide +kernel
theorem d_M_faultOf_206 : decode b_M_faultOf 206 = .ok (.aload_n 0, 1) := by decide +kernel
theorem d_M_faultOf_207 : decode b_M_faultOf 207 = .ok (.getfield 137, 3) := by decide +kernel
theorem d_M_faultOf_210 : decode b_M_faultOf 210 = .ok (.iconst 1, 1) := by decide +kernel
theorem d_M_faultOf_211 : decode b_M_faultOf 211 = .ok (.isub, 1) := by decide +kernel
theorem d_M_faultOf_212 : decode b_M_faultOf 212 = .ok (.bipush 10, 2) := by decide +kernel
theorem d_M_faultOf_214 : decode b_M_faultOf 214 = .ok (.aload_n 0, 1) := by decide +kernel
theorem d_M_faultOf_215 : decode b_M_faultOf 215 = .ok (.getfield 34, 3) := by decide +kernel
theorem d_M_faultOf_218 : decode b_M_faultOf 218 = .ok (.aload_n 0, 1) := by decide +kernel
theorem d_M_faultOf_219 : decode b_M_faultOf 219 = .ok (.getfield 137, 3) := by decide +kernel
theorem d_M_faultOf_222 : decode b_M_faultOf 222 = .ok (.iconst 1, 1) := by decide +kernel
theorem d_M_faultOf_223 : decode b_M_faultOf 223 = .ok (.isub, 1) := by decide +kernel
theorem d_M_faultOf_224 : decode b_M_faultOf 224 = .ok (.iaload, 1) := by decide +kernel
theorem d_M_faultOf_225 : decode b_M_faultOf 225 = .ok (.imul, 1) := by decide +kernel
theorem d_M_faultOf_226 : decode b_M_faultOf 226 = .ok (.iload_n 3, 1) := by decide +kernel
theorem d_M_faultOf_227 : decode b_M_faultOf 227 = .ok (.iadd, 1) := by decide +kernel
theorem d_M_faultOf_228 : decode b_M_faultOf 228 = .ok (.bipush 48, 2) := by decide +kernel
theorem d_M_faultOf_230 : decode b_M_faultOf 230 = .ok (.isub, 1) := by decide +kernel
theorem d_M_faultOf_231 : decode b_M_faultOf 231 = .ok (.iastore, 1) := by decide +kernel
theorem d_M_faultOf_232 : decode b_M_faultOf 232 = .ok (.goto 5, 3) := by decide +kernel
theorem d_M_faultOf_235 : decode b_M_faultOf 235 = .ok (.iload_n 2, 1) := by decide +kernel
theorem d_M_faultOf_236 : decode b_M_faultOf 236 = .ok (.ireturn, 1) := by decide +kernel
theorem d_M_faultOf_237 : decode b_M_faultOf 237 = .ok (.iinc 2 1, 3) := by decide +kernel
theorem d_M_faultOf_240 : decode b_M_faultOf 240 = .ok (.goto (-231), 3) := by decide +kernel
theorem d_M_faultOf_243 : decode b_M_faultOf 243 = .ok (.iload_n 1, 1) := by decide +kernel
theorem d_M_faultOf_244 : decode b_M_faultOf 244 = .ok (.iconst 2, 1) := by decide +kernel
theorem d_M_faultOf_245 : decode b_M_faultOf 245 = .ok (.irem, 1) := by decide +kernel
theorem d_M_faultOf_246 : decode b_M_faultOf 246 = .ok (.iconst 1, 1) := by decide +kernel
theorem d_M_faultOf_247 : decode b_M_faultOf 247 = .ok (.if_icmp .ne 8, 3) := by decide +kernel
theorem d_M_faultOf_250 : decode b_M_faultOf 250 = .ok (.bipush (-6), 2) := by decide +kernel
theorem d_M_faultOf_252 : decode b_M_faultOf 252 = .ok (.goto 7, 3) := by decide +kernel
theorem d_M_faultOf_255 : decode b_M_faultOf 255 = .ok (.aload_n 0, 1) := by decide +kernel
theorem d_M_faultOf_256 : decode b_M_faultOf 256 = .ok (.getfield 119, 3) := by decide +kernel
theorem d_M_faultOf_259 : decode b_M_faultOf 259 = .ok (.ireturn, 1) := by decide +kernel
set_option maxHeartbeats 4000000 in
set_option maxRecDepth 20000 in
theorem c_M_faultOf {l : Launch} {G : va_G} {tys : List (ClassId × FieldType)} {cI cO cZ : ClassId} (hT : TY tys cI cO cZ) (q0 q1 q2 q3 q4 q5 q6 q7 q8 q9 : Nat) (nw pt : Int → Int) (np : Int) (sl : Int → Int) (sv : Int) (li ot : Int → Int) (len : Int) (pd : Int → Int) (ty : Int) (wr : Int → Int) (wm : Int) (ss lz : Int → Int) (rm : Int) (T : Int → Int) (hty : 0 ≤ ty ∧ ty ≤ 80) (hTp : ∀ x, 0 ≤ x → x < ty → pd x = T x ∧ 33 ≤ T x ∧ T x ≤ 126) : CTI l G tys y_M_faultOf b_M_faultOf 5 .int 1 22 [.ref q0] (mw cI q0 q1 q2 q3 q4 q5 q6 q7 q8 q9 nw pt np sl sv li ot len pd ty wr wm ss lz rm) (fun z u => ∃ (ss' lz' : Int → Int) (rm' : Int), u = mw cI q0 q1 q2 q3 q4 q5 q6 q7 q8 q9 nw pt np sl sv li ot len pd ty wr wm ss' lz' rm' ∧ Flt T ty z ∧ (z = -6 → rm' = (pst T ty).2.1 ∧ ∀ j, 0 ≤ j → j < rm' → ss' j = (pst T ty).2.2.1 j ∧ lz' j = (pst T ty).2.2.2 j)) := by
  refine mkI (by decide) (Nat.le_of_ble_eq_true rfl) ?_
  rintro X rfl rfl rfl hRm C kret H ls w hl
  have hl : lv_has ls 5 [(0, .ref q0)] := hl
  have w : Wd X (mw cI q0 q1 q2 q3 q4 q5 q6 q7 q8 q9 nw pt np sl sv li ot len pd ty wr wm ss lz rm) H [] := w
  generalize ([] : List Loc) = locs at w ⊢
  refine r_aload_n (pc := 0) C d_M_faultOf_0 rfl (lv_at hl 0 rfl) ?_
  refine r_iconst (pc := 1) C d_M_faultOf_1 ?_
  refine r_put (pc := 2) (ws' := mw cI q0 q1 q2 q3 q4 q5 q6 q7 q8 q9 nw pt np sl sv li ot len pd ty wr wm ss lz 0) C w i_M t_M t_M_ok n_M rfl 0 rfl 14 (by decide) fl_M_137 rfl rfl rfl rfl (Nat.le_of_ble_eq_true rfl) rfl d_M_faultOf_2 (fun H locs w => ?_)
  refine r_iconst (pc := 5) C d_M_faultOf_5 ?_
  refine r_istore_n (pc := 6) (lv' := [(1, .int (iI 0)), (0, .ref q0)]) C d_M_faultOf_6 rfl hl (by decide) rfl (fun ls hl => ?_)
  refine r_iconst (pc := 7) C d_M_faultOf_7 ?_
  refine r_istore_n (pc := 8) (lv' := [(2, .int (iI 0)), (1, .int (iI 0)), (0, .ref q0)]) C d_M_faultOf_8 rfl hl (by decide) rfl (fun ls hl => ?_)
  have L9 : ∀ (fuel : Nat), ∀ (k : Int) (st : Int) (s1 : Int → Int) (l1 : Int → Int) (n1 : Int), 0 ≤ k ∧ k ≤ ty → lgs T k → st = (pst T k).1 → n1 = (pst T k).2.1 → (∀ j, 0 ≤ j → j < n1 → s1 j = (pst T k).2.2.1 j ∧ l1 j = (pst T k).2.2.2 j) → (ty - k) < (fuel : Int) → ∀ (H : Heap) (locs : List Loc) (ls : Array Slot), Wd X (mw cI q0 q1 q2 q3 q4 q5 q6 q7 q8 q9 nw pt np sl sv li ot len pd ty wr wm s1 l1 n1) H locs → lv_has ls 5 [(0, .ref q0), (1, .int (iI st)), (2, .int (iI k))] → GG X 0 0 H locs 9 ls [] := by
    intro fuel
    induction fuel with
    | zero =>
      intro k st s1 l1 n1 h0 hlg hst hn hsl hfuel
      exact absurd hfuel (by omega)
    | succ fuel ih9 =>
      intro k st s1 l1 n1 h0 hlg hst hn hsl hfuel H locs ls w hl
      refine r_iload_n (pc := 9) C d_M_faultOf_9 rfl (lv_at hl 2 rfl) ?_
      refine r_aload_n (pc := 10) C d_M_faultOf_10 rfl (lv_at hl 0 rfl) ?_
      refine r_get (pc := 11) (v := .int (iI ty)) C w i_M rfl 0 rfl 9 (by decide) fl_M_119 rfl rfl d_M_faultOf_11 ?_
      refine r_icmp_ge (pc := 14) (tgt := 243) C (by omega) d_M_faultOf_14 (by decide) (fun c_14 => ?_) (fun c_14 => ?_)
      · skip
        have hpk := pok_at k (by omega) hlg
        have p1 := hpk.1
        rw [← hst] at p1
        have hkt : k = ty := by omega
        refine r_iload_n (pc := 243) C d_M_faultOf_243 rfl (lv_at hl 1 rfl) ?_
        refine r_iconst (pc := 244) C d_M_faultOf_244 ?_
        refine r_irem (pc := 245) C d_M_faultOf_245 (by omega) ?_
        refine r_iconst (pc := 246) C d_M_faultOf_246 ?_
        refine r_icmp_ne (pc := 247) (tgt := 255) C (by omega) d_M_faultOf_247 (by decide) (fun c_247 => ?_) (fun c_247 => ?_)
        · skip
          refine r_aload_n (pc := 255) C d_M_faultOf_255 rfl (lv_at hl 0 rfl) ?_
          refine r_get (pc := 256) (v := .int (iI ty)) C w i_M rfl 0 rfl 9 (by decide) fl_M_119 rfl rfl d_M_faultOf_256 ?_
          exact kret _ _ _ _ ty _ d_M_faultOf_259 w (⟨_, _, _, rfl, by rw [← hkt]; first | exact Or.inr (Or.inl ⟨hlg, by omega, rfl⟩) | exact Or.inr (Or.inr ⟨hlg, by omega, by omega⟩), fun q => by rw [← hkt]; exact ⟨hn, hsl⟩⟩)
        · skip
          refine r_bipush (pc := 250) C d_M_faultOf_250 (by decide) ?_
          refine r_goto (pc := 252) (tgt := 259) C d_M_faultOf_252 (by decide) ?_
          exact kret _ _ _ _ (-6) _ d_M_faultOf_259 w (⟨_, _, _, rfl, by rw [← hkt]; first | exact Or.inr (Or.inl ⟨hlg, by omega, rfl⟩) | exact Or.inr (Or.inr ⟨hlg, by omega, by omega⟩), fun q => by rw [← hkt]; exact ⟨hn, hsl⟩⟩)
      · skip
        refine r_aload_n (pc := 17) C d_M_faultOf_17 rfl (lv_at hl 0 rfl) ?_
        refine r_get (pc := 18) (v := .ref q6) C w i_M rfl 0 rfl 8 (by decide) fl_M_25 rfl rfl d_M_faultOf_18 ?_
        refine r_iload_n (pc := 21) C d_M_faultOf_21 rfl (lv_at hl 2 rfl) ?_
        refine r_iald (pc := 22) (f := pd) (i := k) C w 0 6 rfl hT.1 (by omega) d_M_faultOf_22 ?_
        refine r_istore_n (pc := 23) (lv' := [(3, .int (iI (pd k))), (0, .ref q0), (1, .int (iI st)), (2, .int (iI k))]) C d_M_faultOf_23 rfl hl (by decide) rfl (fun ls hl => ?_)
        obtain ⟨⟨sT, cT, ST, LT⟩, hP⟩ : ∃ p : PS_, p = pst T k := ⟨_, rfl⟩
        have hpk := pok_at k (by omega) hlg
        rw [← hP] at hpk hst hn hsl
        have hst : st = sT := hst
        have hn : n1 = cT := hn
        have p1 : sT = 0 ∨ sT = 1 ∨ sT = 2 ∨ sT = 3 := hpk.1
        have p2 : 0 ≤ cT ∧ cT ≤ k := ⟨hpk.2.1, hpk.2.2.1⟩
        have p4 : sT ≠ 0 → 1 ≤ cT := hpk.2.2.2.1
        have p5 : ∀ j, 0 ≤ j → j < cT → 1 ≤ LT j ∧ LT j ≤ 3000 ∧ 0 ≤ ST j ∧ ST j ≤ 10 := hpk.2.2.2.2
        have hsl : ∀ j, 0 ≤ j → j < n1 → s1 j = ST j ∧ l1 j = LT j := hsl
        have hpc := hTp k (by omega) (by omega)
        refine r_iload_n (pc := 24) C d_M_faultOf_24 rfl (lv_at hl 0 rfl) ?_
        refine r_bipush (pc := 25) C d_M_faultOf_25 (by decide) ?_
        refine r_bipush (pc := 27) C d_M_faultOf_27 (by decide) ?_
        refine r_callP (pc := 29) (As := [.int (iI (pd k)), .int (iI 48), .int (iI 57)]) (rest := []) C w (c_M_in (pd k) 48 57 (by omega)) ml_M_75 st_M_in ini_M cd_M_in hd_M_in rfl (by rw [hRm]; exact ⟨⟨Nat.le_of_ble_eq_true rfl, Nat.le_of_ble_eq_true rfl⟩, Nat.le_of_ble_eq_true rfl, Nat.le_of_ble_eq_true rfl⟩) hl.1 rfl (Nat.le_of_ble_eq_true rfl) d_M_faultOf_29 (fun z_29 H locs hz_29 w => ?_)
        refine r_istore (pc := 32) (lv' := [(4, .int (iI z_29)), (3, .int (iI (pd k))), (0, .ref q0), (1, .int (iI st)), (2, .int (iI k))]) C d_M_faultOf_32 hl (by decide) rfl (fun ls hl => ?_)
        refine r_iload_n (pc := 34) C d_M_faultOf_34 rfl (lv_at hl 3 rfl) ?_
        refine r_if_ne (pc := 35) (tgt := 97) C (by omega) d_M_faultOf_35 (by decide) (fun c_35 => ?_) (fun c_35 => ?_)
        · skip
          refine r_iload_n (pc := 97) C d_M_faultOf_97 rfl (lv_at hl 3 rfl) ?_
          refine r_iconst (pc := 98) C d_M_faultOf_98 ?_
          refine r_icmp_ne (pc := 99) (tgt := 113) C (by omega) d_M_faultOf_99 (by decide) (fun c_99 => ?_) (fun c_99 => ?_)
          · skip
            refine r_iload_n (pc := 113) C d_M_faultOf_113 rfl (lv_at hl 3 rfl) ?_
            refine r_iconst (pc := 114) C d_M_faultOf_114 ?_
            refine r_irem (pc := 115) C d_M_faultOf_115 (by omega) ?_
            refine r_iconst (pc := 116) C d_M_faultOf_116 ?_
            refine r_icmp_ne (pc := 117) (tgt := 131) C (by omega) d_M_faultOf_117 (by decide) (fun c_117 => ?_) (fun c_117 => ?_)
            · skip
              refine r_iload_n (pc := 131) C d_M_faultOf_131 rfl (lv_at hl 3 rfl) ?_
              refine r_iconst (pc := 132) C d_M_faultOf_132 ?_
              refine r_icmp_ne (pc := 133) (tgt := 167) C (by omega) d_M_faultOf_133 (by decide) (fun c_133 => ?_) (fun c_133 => ?_)
              · skip
                refine r_iload_n (pc := 167) C d_M_faultOf_167 rfl (lv_at hl 3 rfl) ?_
                refine r_iconst (pc := 168) C d_M_faultOf_168 ?_
                refine r_icmp_ne (pc := 169) (tgt := 235) C (by omega) d_M_faultOf_169 (by decide) (fun c_169 => ?_) (fun c_169 => ?_)
                · skip
                  refine r_iload_n (pc := 235) C d_M_faultOf_235 rfl (lv_at hl 4 rfl) ?_
                  exact kret _ _ _ _ k _ d_M_faultOf_236 w (⟨_, _, _, rfl, Or.inl ⟨k, by omega, by omega, hlg, by rw [← hP]; show ¬ lg (T k) sT (LT (cT - 1)); unfold lg; omega, rfl⟩, fun q => by omega⟩)
                · skip
                  refine r_iload (pc := 172) C d_M_faultOf_172 (lv_at hl 0 rfl) ?_
                  refine r_if_eq (pc := 174) (tgt := 235) C (by omega) d_M_faultOf_174 (by decide) (fun c_174 => ?_) (fun c_174 => ?_)
                  · skip
                    refine r_iload_n (pc := 235) C d_M_faultOf_235 rfl (lv_at hl 4 rfl) ?_
                    exact kret _ _ _ _ k _ d_M_faultOf_236 w (⟨_, _, _, rfl, Or.inl ⟨k, by omega, by omega, hlg, by rw [← hP]; show ¬ lg (T k) sT (LT (cT - 1)); unfold lg; omega, rfl⟩, fun q => by omega⟩)
                  · skip
                    have p4 := p4 (by omega)
                    have p6 := p5 (cT - 1) (by omega) (by omega)
                    have p7 := hsl (n1 - 1) (by omega) (by omega)
                    rw [show n1 - 1 = cT - 1 by omega] at p7
                    have p8 : l1 (n1 - 1) = LT (cT - 1) := by rw [show n1 - 1 = cT - 1 by omega]; exact p7.2
                    refine r_bipush (pc := 177) C d_M_faultOf_177 (by decide) ?_
                    refine r_aload_n (pc := 179) C d_M_faultOf_179 rfl (lv_at hl 2 rfl) ?_
                    refine r_get (pc := 180) (v := .ref q9) C w i_M rfl 0 rfl 13 (by decide) fl_M_34 rfl rfl d_M_faultOf_180 ?_
                    refine r_aload_n (pc := 183) C d_M_faultOf_183 rfl (lv_at hl 2 rfl) ?_
                    refine r_get (pc := 184) (v := .int (iI n1)) C w i_M rfl 0 rfl 14 (by decide) fl_M_137 rfl rfl d_M_faultOf_184 ?_
                    refine r_iconst (pc := 187) C d_M_faultOf_187 ?_
                    refine r_isub (pc := 188) C d_M_faultOf_188 ?_
                    refine r_iald (pc := 189) (f := l1) (i := (n1 - 1)) C w 0 9 rfl hT.1 (by omega) d_M_faultOf_189 ?_
                    refine r_imul (pc := 190) C d_M_faultOf_190 ?_
                    refine r_iload_n (pc := 191) C d_M_faultOf_191 rfl (lv_at hl 1 rfl) ?_
                    refine r_iadd (pc := 192) C d_M_faultOf_192 ?_
                    refine r_bipush (pc := 193) C d_M_faultOf_193 (by decide) ?_
                    refine r_isub (pc := 195) C d_M_faultOf_195 ?_
                    refine r_sipush (pc := 196) C d_M_faultOf_196 (by decide) ?_
                    refine r_icmp_gt (pc := 199) (tgt := 235) C (by omega) d_M_faultOf_199 (by decide) (fun c_199 => ?_) (fun c_199 => ?_)
                    · skip
                      refine r_iload_n (pc := 235) C d_M_faultOf_235 rfl (lv_at hl 4 rfl) ?_
                      exact kret _ _ _ _ k _ d_M_faultOf_236 w (⟨_, _, _, rfl, Or.inl ⟨k, by omega, by omega, hlg, by rw [← hP]; show ¬ lg (T k) sT (LT (cT - 1)); unfold lg; omega, rfl⟩, fun q => by omega⟩)
                    · skip
                      refine r_aload_n (pc := 202) C d_M_faultOf_202 rfl (lv_at hl 2 rfl) ?_
                      refine r_get (pc := 203) (v := .ref q9) C w i_M rfl 0 rfl 13 (by decide) fl_M_34 rfl rfl d_M_faultOf_203 ?_
                      refine r_aload_n (pc := 206) C d_M_faultOf_206 rfl (lv_at hl 2 rfl) ?_
                      refine r_get (pc := 207) (v := .int (iI n1)) C w i_M rfl 0 rfl 14 (by decide) fl_M_137 rfl rfl d_M_faultOf_207 ?_
                      refine r_iconst (pc := 210) C d_M_faultOf_210 ?_
                      refine r_isub (pc := 211) C d_M_faultOf_211 ?_
                      refine r_bipush (pc := 212) C d_M_faultOf_212 (by decide) ?_
                      refine r_aload_n (pc := 214) C d_M_faultOf_214 rfl (lv_at hl 2 rfl) ?_
                      refine r_get (pc := 215) (v := .ref q9) C w i_M rfl 0 rfl 13 (by decide) fl_M_34 rfl rfl d_M_faultOf_215 ?_
                      refine r_aload_n (pc := 218) C d_M_faultOf_218 rfl (lv_at hl 2 rfl) ?_
                      refine r_get (pc := 219) (v := .int (iI n1)) C w i_M rfl 0 rfl 14 (by decide) fl_M_137 rfl rfl d_M_faultOf_219 ?_
                      refine r_iconst (pc := 222) C d_M_faultOf_222 ?_
                      refine r_isub (pc := 223) C d_M_faultOf_223 ?_
                      refine r_iald (pc := 224) (f := l1) (i := (n1 - 1)) C w 0 9 rfl hT.1 (by omega) d_M_faultOf_224 ?_
                      refine r_imul (pc := 225) C d_M_faultOf_225 ?_
                      refine r_iload_n (pc := 226) C d_M_faultOf_226 rfl (lv_at hl 1 rfl) ?_
                      refine r_iadd (pc := 227) C d_M_faultOf_227 ?_
                      refine r_bipush (pc := 228) C d_M_faultOf_228 (by decide) ?_
                      refine r_isub (pc := 230) C d_M_faultOf_230 ?_
                      refine r_iast (pc := 231) (f := l1) (i := (n1 - 1)) (v := (((10 * (l1 (n1 - 1))) + (pd k)) - 48)) (ws' := mw cI q0 q1 q2 q3 q4 q5 q6 q7 q8 q9 nw pt np sl sv li ot len pd ty wr wm s1 (up l1 (n1 - 1) (((10 * (l1 (n1 - 1))) + (pd k)) - 48)) n1) C w 0 9 rfl hT.1 (by omega) rfl d_M_faultOf_231 (fun H locs w => ?_)
                      have hN : pst T (k + 1) = (3, cT, ST, up LT (cT - 1) (10 * LT (cT - 1) + T k - 48)) := by
                        rw [pst_succ T (by omega), ← hP]
                        unfold pnx
                        show (if sT = 0 then _ else if T k = 42 then _ else if T k = 59 then _ else if sT = 2 then _ else _) = _
                        rw [if_neg (by omega), if_neg (by omega), if_neg (by omega), if_neg (by omega)]
                      refine r_goto (pc := 232) (tgt := 237) C d_M_faultOf_232 (by decide) ?_
                      refine r_iinc (pc := 237) (j := 4) (lv' := [(2, .int (iI (k + 1))), (4, .int (iI z_29)), (3, .int (iI (pd k))), (0, .ref q0), (1, .int (iI st))]) C d_M_faultOf_237 hl rfl (by decide) rfl (fun ls hl => ?_)
                      refine r_goto (pc := 240) (tgt := 9) C d_M_faultOf_240 (by decide) ?_
                      exact ih9 (k + 1) st s1 (up l1 (n1 - 1) (((10 * (l1 (n1 - 1))) + (pd k)) - 48)) n1 (by omega) ((lgs_succ hlg (by rw [← hP]; show lg (T k) sT (LT (cT - 1)); unfold lg; omega))) ((by rw [hN] <;> omega)) ((by rw [hN]; first | exact hn | (show n1 + 1 = cT + 1; omega))) ((by rw [hN]; first | exact hsl | exact sl_new hn hsl (by split <;> omega) | exact sl_upd hn hsl (by omega))) (by omega) _ _ _ w (lv_sub hl [3, 4, 0] rfl)
              · skip
                refine r_iload_n (pc := 136) C d_M_faultOf_136 rfl (lv_at hl 1 rfl) ?_
                refine r_bipush (pc := 137) C d_M_faultOf_137 (by decide) ?_
                refine r_bipush (pc := 139) C d_M_faultOf_139 (by decide) ?_
                refine r_callP (pc := 141) (As := [.int (iI (pd k)), .int (iI 49), .int (iI 57)]) (rest := []) C w (c_M_in (pd k) 49 57 (by omega)) ml_M_75 st_M_in ini_M cd_M_in hd_M_in rfl (by rw [hRm]; exact ⟨⟨Nat.le_of_ble_eq_true rfl, Nat.le_of_ble_eq_true rfl⟩, Nat.le_of_ble_eq_true rfl, Nat.le_of_ble_eq_true rfl⟩) hl.1 rfl (Nat.le_of_ble_eq_true rfl) d_M_faultOf_141 (fun z_141 H locs hz_141 w => ?_)
                refine r_if_eq (pc := 144) (tgt := 167) C (by omega) d_M_faultOf_144 (by decide) (fun c_144 => ?_) (fun c_144 => ?_)
                · skip
                  refine r_iload_n (pc := 167) C d_M_faultOf_167 rfl (lv_at hl 3 rfl) ?_
                  refine r_iconst (pc := 168) C d_M_faultOf_168 ?_
                  refine r_icmp_ne (pc := 169) (tgt := 235) C (by omega) d_M_faultOf_169 (by decide) (fun c_169 => ?_) (fun c_169 => ?_)
                  · skip
                    refine r_iload_n (pc := 235) C d_M_faultOf_235 rfl (lv_at hl 4 rfl) ?_
                    exact kret _ _ _ _ k _ d_M_faultOf_236 w (⟨_, _, _, rfl, Or.inl ⟨k, by omega, by omega, hlg, by rw [← hP]; show ¬ lg (T k) sT (LT (cT - 1)); unfold lg; omega, rfl⟩, fun q => by omega⟩)
                  · skip
                    refine r_iload (pc := 172) C d_M_faultOf_172 (lv_at hl 0 rfl) ?_
                    refine r_if_eq (pc := 174) (tgt := 235) C (by omega) d_M_faultOf_174 (by decide) (fun c_174 => ?_) (fun c_174 => ?_)
                    · skip
                      refine r_iload_n (pc := 235) C d_M_faultOf_235 rfl (lv_at hl 4 rfl) ?_
                      exact kret _ _ _ _ k _ d_M_faultOf_236 w (⟨_, _, _, rfl, Or.inl ⟨k, by omega, by omega, hlg, by rw [← hP]; show ¬ lg (T k) sT (LT (cT - 1)); unfold lg; omega, rfl⟩, fun q => by omega⟩)
                    · skip
                      have p4 := p4 (by omega)
                      have p6 := p5 (cT - 1) (by omega) (by omega)
                      have p7 := hsl (n1 - 1) (by omega) (by omega)
                      rw [show n1 - 1 = cT - 1 by omega] at p7
                      have p8 : l1 (n1 - 1) = LT (cT - 1) := by rw [show n1 - 1 = cT - 1 by omega]; exact p7.2
                      refine r_bipush (pc := 177) C d_M_faultOf_177 (by decide) ?_
                      refine r_aload_n (pc := 179) C d_M_faultOf_179 rfl (lv_at hl 2 rfl) ?_
                      refine r_get (pc := 180) (v := .ref q9) C w i_M rfl 0 rfl 13 (by decide) fl_M_34 rfl rfl d_M_faultOf_180 ?_
                      refine r_aload_n (pc := 183) C d_M_faultOf_183 rfl (lv_at hl 2 rfl) ?_
                      refine r_get (pc := 184) (v := .int (iI n1)) C w i_M rfl 0 rfl 14 (by decide) fl_M_137 rfl rfl d_M_faultOf_184 ?_
                      refine r_iconst (pc := 187) C d_M_faultOf_187 ?_
                      refine r_isub (pc := 188) C d_M_faultOf_188 ?_
                      refine r_iald (pc := 189) (f := l1) (i := (n1 - 1)) C w 0 9 rfl hT.1 (by omega) d_M_faultOf_189 ?_
                      refine r_imul (pc := 190) C d_M_faultOf_190 ?_
                      refine r_iload_n (pc := 191) C d_M_faultOf_191 rfl (lv_at hl 1 rfl) ?_
                      refine r_iadd (pc := 192) C d_M_faultOf_192 ?_
                      refine r_bipush (pc := 193) C d_M_faultOf_193 (by decide) ?_
                      refine r_isub (pc := 195) C d_M_faultOf_195 ?_
                      refine r_sipush (pc := 196) C d_M_faultOf_196 (by decide) ?_
                      refine r_icmp_gt (pc := 199) (tgt := 235) C (by omega) d_M_faultOf_199 (by decide) (fun c_199 => ?_) (fun c_199 => ?_)
                      · skip
                        refine r_iload_n (pc := 235) C d_M_faultOf_235 rfl (lv_at hl 4 rfl) ?_
                        exact kret _ _ _ _ k _ d_M_faultOf_236 w (⟨_, _, _, rfl, Or.inl ⟨k, by omega, by omega, hlg, by rw [← hP]; show ¬ lg (T k) sT (LT (cT - 1)); unfold lg; omega, rfl⟩, fun q => by omega⟩)
                      · skip
                        refine r_aload_n (pc := 202) C d_M_faultOf_202 rfl (lv_at hl 2 rfl) ?_
                        refine r_get (pc := 203) (v := .ref q9) C w i_M rfl 0 rfl 13 (by decide) fl_M_34 rfl rfl d_M_faultOf_203 ?_
                        refine r_aload_n (pc := 206) C d_M_faultOf_206 rfl (lv_at hl 2 rfl) ?_
                        refine r_get (pc := 207) (v := .int (iI n1)) C w i_M rfl 0 rfl 14 (by decide) fl_M_137 rfl rfl d_M_faultOf_207 ?_
                        refine r_iconst (pc := 210) C d_M_faultOf_210 ?_
                        refine r_isub (pc := 211) C d_M_faultOf_211 ?_
                        refine r_bipush (pc := 212) C d_M_faultOf_212 (by decide) ?_
                        refine r_aload_n (pc := 214) C d_M_faultOf_214 rfl (lv_at hl 2 rfl) ?_
                        refine r_get (pc := 215) (v := .ref q9) C w i_M rfl 0 rfl 13 (by decide) fl_M_34 rfl rfl d_M_faultOf_215 ?_
                        refine r_aload_n (pc := 218) C d_M_faultOf_218 rfl (lv_at hl 2 rfl) ?_
                        refine r_get (pc := 219) (v := .int (iI n1)) C w i_M rfl 0 rfl 14 (by decide) fl_M_137 rfl rfl d_M_faultOf_219 ?_
                        refine r_iconst (pc := 222) C d_M_faultOf_222 ?_
                        refine r_isub (pc := 223) C d_M_faultOf_223 ?_
                        refine r_iald (pc := 224) (f := l1) (i := (n1 - 1)) C w 0 9 rfl hT.1 (by omega) d_M_faultOf_224 ?_
                        refine r_imul (pc := 225) C d_M_faultOf_225 ?_
                        refine r_iload_n (pc := 226) C d_M_faultOf_226 rfl (lv_at hl 1 rfl) ?_
                        refine r_iadd (pc := 227) C d_M_faultOf_227 ?_
                        refine r_bipush (pc := 228) C d_M_faultOf_228 (by decide) ?_
                        refine r_isub (pc := 230) C d_M_faultOf_230 ?_
                        refine r_iast (pc := 231) (f := l1) (i := (n1 - 1)) (v := (((10 * (l1 (n1 - 1))) + (pd k)) - 48)) (ws' := mw cI q0 q1 q2 q3 q4 q5 q6 q7 q8 q9 nw pt np sl sv li ot len pd ty wr wm s1 (up l1 (n1 - 1) (((10 * (l1 (n1 - 1))) + (pd k)) - 48)) n1) C w 0 9 rfl hT.1 (by omega) rfl d_M_faultOf_231 (fun H locs w => ?_)
                        have hN : pst T (k + 1) = (3, cT, ST, up LT (cT - 1) (10 * LT (cT - 1) + T k - 48)) := by
                          rw [pst_succ T (by omega), ← hP]
                          unfold pnx
                          show (if sT = 0 then _ else if T k = 42 then _ else if T k = 59 then _ else if sT = 2 then _ else _) = _
                          rw [if_neg (by omega), if_neg (by omega), if_neg (by omega), if_neg (by omega)]
                        refine r_goto (pc := 232) (tgt := 237) C d_M_faultOf_232 (by decide) ?_
                        refine r_iinc (pc := 237) (j := 4) (lv' := [(2, .int (iI (k + 1))), (4, .int (iI z_29)), (3, .int (iI (pd k))), (0, .ref q0), (1, .int (iI st))]) C d_M_faultOf_237 hl rfl (by decide) rfl (fun ls hl => ?_)
                        refine r_goto (pc := 240) (tgt := 9) C d_M_faultOf_240 (by decide) ?_
                        exact ih9 (k + 1) st s1 (up l1 (n1 - 1) (((10 * (l1 (n1 - 1))) + (pd k)) - 48)) n1 (by omega) ((lgs_succ hlg (by rw [← hP]; show lg (T k) sT (LT (cT - 1)); unfold lg; omega))) ((by rw [hN] <;> omega)) ((by rw [hN]; first | exact hn | (show n1 + 1 = cT + 1; omega))) ((by rw [hN]; first | exact hsl | exact sl_new hn hsl (by split <;> omega) | exact sl_upd hn hsl (by omega))) (by omega) _ _ _ w (lv_sub hl [3, 4, 0] rfl)
                · skip
                  have p4 := p4 (by omega)
                  refine r_aload_n (pc := 147) C d_M_faultOf_147 rfl (lv_at hl 2 rfl) ?_
                  refine r_get (pc := 148) (v := .ref q9) C w i_M rfl 0 rfl 13 (by decide) fl_M_34 rfl rfl d_M_faultOf_148 ?_
                  refine r_aload_n (pc := 151) C d_M_faultOf_151 rfl (lv_at hl 2 rfl) ?_
                  refine r_get (pc := 152) (v := .int (iI n1)) C w i_M rfl 0 rfl 14 (by decide) fl_M_137 rfl rfl d_M_faultOf_152 ?_
                  refine r_iconst (pc := 155) C d_M_faultOf_155 ?_
                  refine r_isub (pc := 156) C d_M_faultOf_156 ?_
                  refine r_iload_n (pc := 157) C d_M_faultOf_157 rfl (lv_at hl 1 rfl) ?_
                  refine r_bipush (pc := 158) C d_M_faultOf_158 (by decide) ?_
                  refine r_isub (pc := 160) C d_M_faultOf_160 ?_
                  refine r_iast (pc := 161) (f := l1) (i := (n1 - 1)) (v := ((pd k) - 48)) (ws' := mw cI q0 q1 q2 q3 q4 q5 q6 q7 q8 q9 nw pt np sl sv li ot len pd ty wr wm s1 (up l1 (n1 - 1) ((pd k) - 48)) n1) C w 0 9 rfl hT.1 (by omega) rfl d_M_faultOf_161 (fun H locs w => ?_)
                  have hN : pst T (k + 1) = (3, cT, ST, up LT (cT - 1) (T k - 48)) := by
                    rw [pst_succ T (by omega), ← hP]
                    unfold pnx
                    show (if sT = 0 then _ else if T k = 42 then _ else if T k = 59 then _ else if sT = 2 then _ else _) = _
                    rw [if_neg (by omega), if_neg (by omega), if_neg (by omega), if_pos (by omega)]
                  refine r_iconst (pc := 162) C d_M_faultOf_162 ?_
                  refine r_istore_n (pc := 163) (lv' := [(1, .int (iI 3)), (4, .int (iI z_29)), (3, .int (iI (pd k))), (0, .ref q0), (2, .int (iI k))]) C d_M_faultOf_163 rfl hl (by decide) rfl (fun ls hl => ?_)
                  refine r_goto (pc := 164) (tgt := 237) C d_M_faultOf_164 (by decide) ?_
                  refine r_iinc (pc := 237) (j := 4) (lv' := [(2, .int (iI (k + 1))), (1, .int (iI 3)), (4, .int (iI z_29)), (3, .int (iI (pd k))), (0, .ref q0)]) C d_M_faultOf_237 hl rfl (by decide) rfl (fun ls hl => ?_)
                  refine r_goto (pc := 240) (tgt := 9) C d_M_faultOf_240 (by decide) ?_
                  exact ih9 (k + 1) 3 s1 (up l1 (n1 - 1) ((pd k) - 48)) n1 (by omega) ((lgs_succ hlg (by rw [← hP]; show lg (T k) sT (LT (cT - 1)); unfold lg; omega))) ((by rw [hN] <;> omega)) ((by rw [hN]; first | exact hn | (show n1 + 1 = cT + 1; omega))) ((by rw [hN]; first | exact hsl | exact sl_new hn hsl (by split <;> omega) | exact sl_upd hn hsl (by omega))) (by omega) _ _ _ w (lv_sub hl [4, 1, 0] rfl)
            · skip
              refine r_iload_n (pc := 120) C d_M_faultOf_120 rfl (lv_at hl 1 rfl) ?_
              refine r_bipush (pc := 121) C d_M_faultOf_121 (by decide) ?_
              refine r_icmp_ne (pc := 123) (tgt := 131) C (by omega) d_M_faultOf_123 (by decide) (fun c_123 => ?_) (fun c_123 => ?_)
              · skip
                refine r_iload_n (pc := 131) C d_M_faultOf_131 rfl (lv_at hl 3 rfl) ?_
                refine r_iconst (pc := 132) C d_M_faultOf_132 ?_
                refine r_icmp_ne (pc := 133) (tgt := 167) C (by omega) d_M_faultOf_133 (by decide) (fun c_133 => ?_) (fun c_133 => ?_)
                · skip
                  refine r_iload_n (pc := 167) C d_M_faultOf_167 rfl (lv_at hl 3 rfl) ?_
                  refine r_iconst (pc := 168) C d_M_faultOf_168 ?_
                  refine r_icmp_ne (pc := 169) (tgt := 235) C (by omega) d_M_faultOf_169 (by decide) (fun c_169 => ?_) (fun c_169 => ?_)
                  · skip
                    refine r_iload_n (pc := 235) C d_M_faultOf_235 rfl (lv_at hl 4 rfl) ?_
                    exact kret _ _ _ _ k _ d_M_faultOf_236 w (⟨_, _, _, rfl, Or.inl ⟨k, by omega, by omega, hlg, by rw [← hP]; show ¬ lg (T k) sT (LT (cT - 1)); unfold lg; omega, rfl⟩, fun q => by omega⟩)
                  · skip
                    refine r_iload (pc := 172) C d_M_faultOf_172 (lv_at hl 0 rfl) ?_
                    refine r_if_eq (pc := 174) (tgt := 235) C (by omega) d_M_faultOf_174 (by decide) (fun c_174 => ?_) (fun c_174 => ?_)
                    · skip
                      refine r_iload_n (pc := 235) C d_M_faultOf_235 rfl (lv_at hl 4 rfl) ?_
                      exact kret _ _ _ _ k _ d_M_faultOf_236 w (⟨_, _, _, rfl, Or.inl ⟨k, by omega, by omega, hlg, by rw [← hP]; show ¬ lg (T k) sT (LT (cT - 1)); unfold lg; omega, rfl⟩, fun q => by omega⟩)
                    · skip
                      have p4 := p4 (by omega)
                      have p6 := p5 (cT - 1) (by omega) (by omega)
                      have p7 := hsl (n1 - 1) (by omega) (by omega)
                      rw [show n1 - 1 = cT - 1 by omega] at p7
                      have p8 : l1 (n1 - 1) = LT (cT - 1) := by rw [show n1 - 1 = cT - 1 by omega]; exact p7.2
                      refine r_bipush (pc := 177) C d_M_faultOf_177 (by decide) ?_
                      refine r_aload_n (pc := 179) C d_M_faultOf_179 rfl (lv_at hl 2 rfl) ?_
                      refine r_get (pc := 180) (v := .ref q9) C w i_M rfl 0 rfl 13 (by decide) fl_M_34 rfl rfl d_M_faultOf_180 ?_
                      refine r_aload_n (pc := 183) C d_M_faultOf_183 rfl (lv_at hl 2 rfl) ?_
                      refine r_get (pc := 184) (v := .int (iI n1)) C w i_M rfl 0 rfl 14 (by decide) fl_M_137 rfl rfl d_M_faultOf_184 ?_
                      refine r_iconst (pc := 187) C d_M_faultOf_187 ?_
                      refine r_isub (pc := 188) C d_M_faultOf_188 ?_
                      refine r_iald (pc := 189) (f := l1) (i := (n1 - 1)) C w 0 9 rfl hT.1 (by omega) d_M_faultOf_189 ?_
                      refine r_imul (pc := 190) C d_M_faultOf_190 ?_
                      refine r_iload_n (pc := 191) C d_M_faultOf_191 rfl (lv_at hl 1 rfl) ?_
                      refine r_iadd (pc := 192) C d_M_faultOf_192 ?_
                      refine r_bipush (pc := 193) C d_M_faultOf_193 (by decide) ?_
                      refine r_isub (pc := 195) C d_M_faultOf_195 ?_
                      refine r_sipush (pc := 196) C d_M_faultOf_196 (by decide) ?_
                      refine r_icmp_gt (pc := 199) (tgt := 235) C (by omega) d_M_faultOf_199 (by decide) (fun c_199 => ?_) (fun c_199 => ?_)
                      · skip
                        refine r_iload_n (pc := 235) C d_M_faultOf_235 rfl (lv_at hl 4 rfl) ?_
                        exact kret _ _ _ _ k _ d_M_faultOf_236 w (⟨_, _, _, rfl, Or.inl ⟨k, by omega, by omega, hlg, by rw [← hP]; show ¬ lg (T k) sT (LT (cT - 1)); unfold lg; omega, rfl⟩, fun q => by omega⟩)
                      · skip
                        refine r_aload_n (pc := 202) C d_M_faultOf_202 rfl (lv_at hl 2 rfl) ?_
                        refine r_get (pc := 203) (v := .ref q9) C w i_M rfl 0 rfl 13 (by decide) fl_M_34 rfl rfl d_M_faultOf_203 ?_
                        refine r_aload_n (pc := 206) C d_M_faultOf_206 rfl (lv_at hl 2 rfl) ?_
                        refine r_get (pc := 207) (v := .int (iI n1)) C w i_M rfl 0 rfl 14 (by decide) fl_M_137 rfl rfl d_M_faultOf_207 ?_
                        refine r_iconst (pc := 210) C d_M_faultOf_210 ?_
                        refine r_isub (pc := 211) C d_M_faultOf_211 ?_
                        refine r_bipush (pc := 212) C d_M_faultOf_212 (by decide) ?_
                        refine r_aload_n (pc := 214) C d_M_faultOf_214 rfl (lv_at hl 2 rfl) ?_
                        refine r_get (pc := 215) (v := .ref q9) C w i_M rfl 0 rfl 13 (by decide) fl_M_34 rfl rfl d_M_faultOf_215 ?_
                        refine r_aload_n (pc := 218) C d_M_faultOf_218 rfl (lv_at hl 2 rfl) ?_
                        refine r_get (pc := 219) (v := .int (iI n1)) C w i_M rfl 0 rfl 14 (by decide) fl_M_137 rfl rfl d_M_faultOf_219 ?_
                        refine r_iconst (pc := 222) C d_M_faultOf_222 ?_
                        refine r_isub (pc := 223) C d_M_faultOf_223 ?_
                        refine r_iald (pc := 224) (f := l1) (i := (n1 - 1)) C w 0 9 rfl hT.1 (by omega) d_M_faultOf_224 ?_
                        refine r_imul (pc := 225) C d_M_faultOf_225 ?_
                        refine r_iload_n (pc := 226) C d_M_faultOf_226 rfl (lv_at hl 1 rfl) ?_
                        refine r_iadd (pc := 227) C d_M_faultOf_227 ?_
                        refine r_bipush (pc := 228) C d_M_faultOf_228 (by decide) ?_
                        refine r_isub (pc := 230) C d_M_faultOf_230 ?_
                        refine r_iast (pc := 231) (f := l1) (i := (n1 - 1)) (v := (((10 * (l1 (n1 - 1))) + (pd k)) - 48)) (ws' := mw cI q0 q1 q2 q3 q4 q5 q6 q7 q8 q9 nw pt np sl sv li ot len pd ty wr wm s1 (up l1 (n1 - 1) (((10 * (l1 (n1 - 1))) + (pd k)) - 48)) n1) C w 0 9 rfl hT.1 (by omega) rfl d_M_faultOf_231 (fun H locs w => ?_)
                        have hN : pst T (k + 1) = (3, cT, ST, up LT (cT - 1) (10 * LT (cT - 1) + T k - 48)) := by
                          rw [pst_succ T (by omega), ← hP]
                          unfold pnx
                          show (if sT = 0 then _ else if T k = 42 then _ else if T k = 59 then _ else if sT = 2 then _ else _) = _
                          rw [if_neg (by omega), if_neg (by omega), if_neg (by omega), if_neg (by omega)]
                        refine r_goto (pc := 232) (tgt := 237) C d_M_faultOf_232 (by decide) ?_
                        refine r_iinc (pc := 237) (j := 4) (lv' := [(2, .int (iI (k + 1))), (4, .int (iI z_29)), (3, .int (iI (pd k))), (0, .ref q0), (1, .int (iI st))]) C d_M_faultOf_237 hl rfl (by decide) rfl (fun ls hl => ?_)
                        refine r_goto (pc := 240) (tgt := 9) C d_M_faultOf_240 (by decide) ?_
                        exact ih9 (k + 1) st s1 (up l1 (n1 - 1) (((10 * (l1 (n1 - 1))) + (pd k)) - 48)) n1 (by omega) ((lgs_succ hlg (by rw [← hP]; show lg (T k) sT (LT (cT - 1)); unfold lg; omega))) ((by rw [hN] <;> omega)) ((by rw [hN]; first | exact hn | (show n1 + 1 = cT + 1; omega))) ((by rw [hN]; first | exact hsl | exact sl_new hn hsl (by split <;> omega) | exact sl_upd hn hsl (by omega))) (by omega) _ _ _ w (lv_sub hl [3, 4, 0] rfl)
                · skip
                  refine r_iload_n (pc := 136) C d_M_faultOf_136 rfl (lv_at hl 1 rfl) ?_
                  refine r_bipush (pc := 137) C d_M_faultOf_137 (by decide) ?_
                  refine r_bipush (pc := 139) C d_M_faultOf_139 (by decide) ?_
                  refine r_callP (pc := 141) (As := [.int (iI (pd k)), .int (iI 49), .int (iI 57)]) (rest := []) C w (c_M_in (pd k) 49 57 (by omega)) ml_M_75 st_M_in ini_M cd_M_in hd_M_in rfl (by rw [hRm]; exact ⟨⟨Nat.le_of_ble_eq_true rfl, Nat.le_of_ble_eq_true rfl⟩, Nat.le_of_ble_eq_true rfl, Nat.le_of_ble_eq_true rfl⟩) hl.1 rfl (Nat.le_of_ble_eq_true rfl) d_M_faultOf_141 (fun z_141 H locs hz_141 w => ?_)
                  refine r_if_eq (pc := 144) (tgt := 167) C (by omega) d_M_faultOf_144 (by decide) (fun c_144 => ?_) (fun c_144 => ?_)
                  · skip
                    refine r_iload_n (pc := 167) C d_M_faultOf_167 rfl (lv_at hl 3 rfl) ?_
                    refine r_iconst (pc := 168) C d_M_faultOf_168 ?_
                    refine r_icmp_ne (pc := 169) (tgt := 235) C (by omega) d_M_faultOf_169 (by decide) (fun c_169 => ?_) (fun c_169 => ?_)
                    · skip
                      refine r_iload_n (pc := 235) C d_M_faultOf_235 rfl (lv_at hl 4 rfl) ?_
                      exact kret _ _ _ _ k _ d_M_faultOf_236 w (⟨_, _, _, rfl, Or.inl ⟨k, by omega, by omega, hlg, by rw [← hP]; show ¬ lg (T k) sT (LT (cT - 1)); unfold lg; omega, rfl⟩, fun q => by omega⟩)
                    · skip
                      refine r_iload (pc := 172) C d_M_faultOf_172 (lv_at hl 0 rfl) ?_
                      refine r_if_eq (pc := 174) (tgt := 235) C (by omega) d_M_faultOf_174 (by decide) (fun c_174 => ?_) (fun c_174 => ?_)
                      · skip
                        refine r_iload_n (pc := 235) C d_M_faultOf_235 rfl (lv_at hl 4 rfl) ?_
                        exact kret _ _ _ _ k _ d_M_faultOf_236 w (⟨_, _, _, rfl, Or.inl ⟨k, by omega, by omega, hlg, by rw [← hP]; show ¬ lg (T k) sT (LT (cT - 1)); unfold lg; omega, rfl⟩, fun q => by omega⟩)
                      · skip
                        have p4 := p4 (by omega)
                        have p6 := p5 (cT - 1) (by omega) (by omega)
                        have p7 := hsl (n1 - 1) (by omega) (by omega)
                        rw [show n1 - 1 = cT - 1 by omega] at p7
                        have p8 : l1 (n1 - 1) = LT (cT - 1) := by rw [show n1 - 1 = cT - 1 by omega]; exact p7.2
                        refine r_bipush (pc := 177) C d_M_faultOf_177 (by decide) ?_
                        refine r_aload_n (pc := 179) C d_M_faultOf_179 rfl (lv_at hl 2 rfl) ?_
                        refine r_get (pc := 180) (v := .ref q9) C w i_M rfl 0 rfl 13 (by decide) fl_M_34 rfl rfl d_M_faultOf_180 ?_
                        refine r_aload_n (pc := 183) C d_M_faultOf_183 rfl (lv_at hl 2 rfl) ?_
                        refine r_get (pc := 184) (v := .int (iI n1)) C w i_M rfl 0 rfl 14 (by decide) fl_M_137 rfl rfl d_M_faultOf_184 ?_
                        refine r_iconst (pc := 187) C d_M_faultOf_187 ?_
                        refine r_isub (pc := 188) C d_M_faultOf_188 ?_
                        refine r_iald (pc := 189) (f := l1) (i := (n1 - 1)) C w 0 9 rfl hT.1 (by omega) d_M_faultOf_189 ?_
                        refine r_imul (pc := 190) C d_M_faultOf_190 ?_
                        refine r_iload_n (pc := 191) C d_M_faultOf_191 rfl (lv_at hl 1 rfl) ?_
                        refine r_iadd (pc := 192) C d_M_faultOf_192 ?_
                        refine r_bipush (pc := 193) C d_M_faultOf_193 (by decide) ?_
                        refine r_isub (pc := 195) C d_M_faultOf_195 ?_
                        refine r_sipush (pc := 196) C d_M_faultOf_196 (by decide) ?_
                        refine r_icmp_gt (pc := 199) (tgt := 235) C (by omega) d_M_faultOf_199 (by decide) (fun c_199 => ?_) (fun c_199 => ?_)
                        · skip
                          refine r_iload_n (pc := 235) C d_M_faultOf_235 rfl (lv_at hl 4 rfl) ?_
                          exact kret _ _ _ _ k _ d_M_faultOf_236 w (⟨_, _, _, rfl, Or.inl ⟨k, by omega, by omega, hlg, by rw [← hP]; show ¬ lg (T k) sT (LT (cT - 1)); unfold lg; omega, rfl⟩, fun q => by omega⟩)
                        · skip
                          refine r_aload_n (pc := 202) C d_M_faultOf_202 rfl (lv_at hl 2 rfl) ?_
                          refine r_get (pc := 203) (v := .ref q9) C w i_M rfl 0 rfl 13 (by decide) fl_M_34 rfl rfl d_M_faultOf_203 ?_
                          refine r_aload_n (pc := 206) C d_M_faultOf_206 rfl (lv_at hl 2 rfl) ?_
                          refine r_get (pc := 207) (v := .int (iI n1)) C w i_M rfl 0 rfl 14 (by decide) fl_M_137 rfl rfl d_M_faultOf_207 ?_
                          refine r_iconst (pc := 210) C d_M_faultOf_210 ?_
                          refine r_isub (pc := 211) C d_M_faultOf_211 ?_
                          refine r_bipush (pc := 212) C d_M_faultOf_212 (by decide) ?_
                          refine r_aload_n (pc := 214) C d_M_faultOf_214 rfl (lv_at hl 2 rfl) ?_
                          refine r_get (pc := 215) (v := .ref q9) C w i_M rfl 0 rfl 13 (by decide) fl_M_34 rfl rfl d_M_faultOf_215 ?_
                          refine r_aload_n (pc := 218) C d_M_faultOf_218 rfl (lv_at hl 2 rfl) ?_
                          refine r_get (pc := 219) (v := .int (iI n1)) C w i_M rfl 0 rfl 14 (by decide) fl_M_137 rfl rfl d_M_faultOf_219 ?_
                          refine r_iconst (pc := 222) C d_M_faultOf_222 ?_
                          refine r_isub (pc := 223) C d_M_faultOf_223 ?_
                          refine r_iald (pc := 224) (f := l1) (i := (n1 - 1)) C w 0 9 rfl hT.1 (by omega) d_M_faultOf_224 ?_
                          refine r_imul (pc := 225) C d_M_faultOf_225 ?_
                          refine r_iload_n (pc := 226) C d_M_faultOf_226 rfl (lv_at hl 1 rfl) ?_
                          refine r_iadd (pc := 227) C d_M_faultOf_227 ?_
                          refine r_bipush (pc := 228) C d_M_faultOf_228 (by decide) ?_
                          refine r_isub (pc := 230) C d_M_faultOf_230 ?_
                          refine r_iast (pc := 231) (f := l1) (i := (n1 - 1)) (v := (((10 * (l1 (n1 - 1))) + (pd k)) - 48)) (ws' := mw cI q0 q1 q2 q3 q4 q5 q6 q7 q8 q9 nw pt np sl sv li ot len pd ty wr wm s1 (up l1 (n1 - 1) (((10 * (l1 (n1 - 1))) + (pd k)) - 48)) n1) C w 0 9 rfl hT.1 (by omega) rfl d_M_faultOf_231 (fun H locs w => ?_)
                          have hN : pst T (k + 1) = (3, cT, ST, up LT (cT - 1) (10 * LT (cT - 1) + T k - 48)) := by
                            rw [pst_succ T (by omega), ← hP]
                            unfold pnx
                            show (if sT = 0 then _ else if T k = 42 then _ else if T k = 59 then _ else if sT = 2 then _ else _) = _
                            rw [if_neg (by omega), if_neg (by omega), if_neg (by omega), if_neg (by omega)]
                          refine r_goto (pc := 232) (tgt := 237) C d_M_faultOf_232 (by decide) ?_
                          refine r_iinc (pc := 237) (j := 4) (lv' := [(2, .int (iI (k + 1))), (4, .int (iI z_29)), (3, .int (iI (pd k))), (0, .ref q0), (1, .int (iI st))]) C d_M_faultOf_237 hl rfl (by decide) rfl (fun ls hl => ?_)
                          refine r_goto (pc := 240) (tgt := 9) C d_M_faultOf_240 (by decide) ?_
                          exact ih9 (k + 1) st s1 (up l1 (n1 - 1) (((10 * (l1 (n1 - 1))) + (pd k)) - 48)) n1 (by omega) ((lgs_succ hlg (by rw [← hP]; show lg (T k) sT (LT (cT - 1)); unfold lg; omega))) ((by rw [hN] <;> omega)) ((by rw [hN]; first | exact hn | (show n1 + 1 = cT + 1; omega))) ((by rw [hN]; first | exact hsl | exact sl_new hn hsl (by split <;> omega) | exact sl_upd hn hsl (by omega))) (by omega) _ _ _ w (lv_sub hl [3, 4, 0] rfl)
                  · skip
                    have p4 := p4 (by omega)
                    refine r_aload_n (pc := 147) C d_M_faultOf_147 rfl (lv_at hl 2 rfl) ?_
                    refine r_get (pc := 148) (v := .ref q9) C w i_M rfl 0 rfl 13 (by decide) fl_M_34 rfl rfl d_M_faultOf_148 ?_
                    refine r_aload_n (pc := 151) C d_M_faultOf_151 rfl (lv_at hl 2 rfl) ?_
                    refine r_get (pc := 152) (v := .int (iI n1)) C w i_M rfl 0 rfl 14 (by decide) fl_M_137 rfl rfl d_M_faultOf_152 ?_
                    refine r_iconst (pc := 155) C d_M_faultOf_155 ?_
                    refine r_isub (pc := 156) C d_M_faultOf_156 ?_
                    refine r_iload_n (pc := 157) C d_M_faultOf_157 rfl (lv_at hl 1 rfl) ?_
                    refine r_bipush (pc := 158) C d_M_faultOf_158 (by decide) ?_
                    refine r_isub (pc := 160) C d_M_faultOf_160 ?_
                    refine r_iast (pc := 161) (f := l1) (i := (n1 - 1)) (v := ((pd k) - 48)) (ws' := mw cI q0 q1 q2 q3 q4 q5 q6 q7 q8 q9 nw pt np sl sv li ot len pd ty wr wm s1 (up l1 (n1 - 1) ((pd k) - 48)) n1) C w 0 9 rfl hT.1 (by omega) rfl d_M_faultOf_161 (fun H locs w => ?_)
                    have hN : pst T (k + 1) = (3, cT, ST, up LT (cT - 1) (T k - 48)) := by
                      rw [pst_succ T (by omega), ← hP]
                      unfold pnx
                      show (if sT = 0 then _ else if T k = 42 then _ else if T k = 59 then _ else if sT = 2 then _ else _) = _
                      rw [if_neg (by omega), if_neg (by omega), if_neg (by omega), if_pos (by omega)]
                    refine r_iconst (pc := 162) C d_M_faultOf_162 ?_
                    refine r_istore_n (pc := 163) (lv' := [(1, .int (iI 3)), (4, .int (iI z_29)), (3, .int (iI (pd k))), (0, .ref q0), (2, .int (iI k))]) C d_M_faultOf_163 rfl hl (by decide) rfl (fun ls hl => ?_)
                    refine r_goto (pc := 164) (tgt := 237) C d_M_faultOf_164 (by decide) ?_
                    refine r_iinc (pc := 237) (j := 4) (lv' := [(2, .int (iI (k + 1))), (1, .int (iI 3)), (4, .int (iI z_29)), (3, .int (iI (pd k))), (0, .ref q0)]) C d_M_faultOf_237 hl rfl (by decide) rfl (fun ls hl => ?_)
                    refine r_goto (pc := 240) (tgt := 9) C d_M_faultOf_240 (by decide) ?_
                    exact ih9 (k + 1) 3 s1 (up l1 (n1 - 1) ((pd k) - 48)) n1 (by omega) ((lgs_succ hlg (by rw [← hP]; show lg (T k) sT (LT (cT - 1)); unfold lg; omega))) ((by rw [hN] <;> omega)) ((by rw [hN]; first | exact hn | (show n1 + 1 = cT + 1; omega))) ((by rw [hN]; first | exact hsl | exact sl_new hn hsl (by split <;> omega) | exact sl_upd hn hsl (by omega))) (by omega) _ _ _ w (lv_sub hl [4, 1, 0] rfl)
              · skip
                have hN : pst T (k + 1) = (0, cT, ST, LT) := by
                  rw [pst_succ T (by omega), ← hP]
                  unfold pnx
                  show (if sT = 0 then _ else if T k = 42 then _ else if T k = 59 then _ else if sT = 2 then _ else _) = _
                  rw [if_neg (by omega), if_neg (by omega), if_pos (by omega)]
                refine r_iconst (pc := 126) C d_M_faultOf_126 ?_
                refine r_istore_n (pc := 127) (lv' := [(1, .int (iI 0)), (4, .int (iI z_29)), (3, .int (iI (pd k))), (0, .ref q0), (2, .int (iI k))]) C d_M_faultOf_127 rfl hl (by decide) rfl (fun ls hl => ?_)
                refine r_goto (pc := 128) (tgt := 237) C d_M_faultOf_128 (by decide) ?_
                refine r_iinc (pc := 237) (j := 4) (lv' := [(2, .int (iI (k + 1))), (1, .int (iI 0)), (4, .int (iI z_29)), (3, .int (iI (pd k))), (0, .ref q0)]) C d_M_faultOf_237 hl rfl (by decide) rfl (fun ls hl => ?_)
                refine r_goto (pc := 240) (tgt := 9) C d_M_faultOf_240 (by decide) ?_
                exact ih9 (k + 1) 0 s1 l1 n1 (by omega) ((lgs_succ hlg (by rw [← hP]; show lg (T k) sT (LT (cT - 1)); unfold lg; omega))) ((by rw [hN] <;> omega)) ((by rw [hN]; first | exact hn | (show n1 + 1 = cT + 1; omega))) ((by rw [hN]; first | exact hsl | exact sl_new hn hsl (by split <;> omega) | exact sl_upd hn hsl (by omega))) (by omega) _ _ _ w (lv_sub hl [4, 1, 0] rfl)
          · skip
            refine r_iload_n (pc := 102) C d_M_faultOf_102 rfl (lv_at hl 1 rfl) ?_
            refine r_bipush (pc := 103) C d_M_faultOf_103 (by decide) ?_
            refine r_icmp_ne (pc := 105) (tgt := 113) C (by omega) d_M_faultOf_105 (by decide) (fun c_105 => ?_) (fun c_105 => ?_)
            · skip
              refine r_iload_n (pc := 113) C d_M_faultOf_113 rfl (lv_at hl 3 rfl) ?_
              refine r_iconst (pc := 114) C d_M_faultOf_114 ?_
              refine r_irem (pc := 115) C d_M_faultOf_115 (by omega) ?_
              refine r_iconst (pc := 116) C d_M_faultOf_116 ?_
              refine r_icmp_ne (pc := 117) (tgt := 131) C (by omega) d_M_faultOf_117 (by decide) (fun c_117 => ?_) (fun c_117 => ?_)
              · skip
                refine r_iload_n (pc := 131) C d_M_faultOf_131 rfl (lv_at hl 3 rfl) ?_
                refine r_iconst (pc := 132) C d_M_faultOf_132 ?_
                refine r_icmp_ne (pc := 133) (tgt := 167) C (by omega) d_M_faultOf_133 (by decide) (fun c_133 => ?_) (fun c_133 => ?_)
                · skip
                  refine r_iload_n (pc := 167) C d_M_faultOf_167 rfl (lv_at hl 3 rfl) ?_
                  refine r_iconst (pc := 168) C d_M_faultOf_168 ?_
                  refine r_icmp_ne (pc := 169) (tgt := 235) C (by omega) d_M_faultOf_169 (by decide) (fun c_169 => ?_) (fun c_169 => ?_)
                  · skip
                    refine r_iload_n (pc := 235) C d_M_faultOf_235 rfl (lv_at hl 4 rfl) ?_
                    exact kret _ _ _ _ k _ d_M_faultOf_236 w (⟨_, _, _, rfl, Or.inl ⟨k, by omega, by omega, hlg, by rw [← hP]; show ¬ lg (T k) sT (LT (cT - 1)); unfold lg; omega, rfl⟩, fun q => by omega⟩)
                  · skip
                    refine r_iload (pc := 172) C d_M_faultOf_172 (lv_at hl 0 rfl) ?_
                    refine r_if_eq (pc := 174) (tgt := 235) C (by omega) d_M_faultOf_174 (by decide) (fun c_174 => ?_) (fun c_174 => ?_)
                    · skip
                      refine r_iload_n (pc := 235) C d_M_faultOf_235 rfl (lv_at hl 4 rfl) ?_
                      exact kret _ _ _ _ k _ d_M_faultOf_236 w (⟨_, _, _, rfl, Or.inl ⟨k, by omega, by omega, hlg, by rw [← hP]; show ¬ lg (T k) sT (LT (cT - 1)); unfold lg; omega, rfl⟩, fun q => by omega⟩)
                    · skip
                      have p4 := p4 (by omega)
                      have p6 := p5 (cT - 1) (by omega) (by omega)
                      have p7 := hsl (n1 - 1) (by omega) (by omega)
                      rw [show n1 - 1 = cT - 1 by omega] at p7
                      have p8 : l1 (n1 - 1) = LT (cT - 1) := by rw [show n1 - 1 = cT - 1 by omega]; exact p7.2
                      refine r_bipush (pc := 177) C d_M_faultOf_177 (by decide) ?_
                      refine r_aload_n (pc := 179) C d_M_faultOf_179 rfl (lv_at hl 2 rfl) ?_
                      refine r_get (pc := 180) (v := .ref q9) C w i_M rfl 0 rfl 13 (by decide) fl_M_34 rfl rfl d_M_faultOf_180 ?_
                      refine r_aload_n (pc := 183) C d_M_faultOf_183 rfl (lv_at hl 2 rfl) ?_
                      refine r_get (pc := 184) (v := .int (iI n1)) C w i_M rfl 0 rfl 14 (by decide) fl_M_137 rfl rfl d_M_faultOf_184 ?_
                      refine r_iconst (pc := 187) C d_M_faultOf_187 ?_
                      refine r_isub (pc := 188) C d_M_faultOf_188 ?_
                      refine r_iald (pc := 189) (f := l1) (i := (n1 - 1)) C w 0 9 rfl hT.1 (by omega) d_M_faultOf_189 ?_
                      refine r_imul (pc := 190) C d_M_faultOf_190 ?_
                      refine r_iload_n (pc := 191) C d_M_faultOf_191 rfl (lv_at hl 1 rfl) ?_
                      refine r_iadd (pc := 192) C d_M_faultOf_192 ?_
                      refine r_bipush (pc := 193) C d_M_faultOf_193 (by decide) ?_
                      refine r_isub (pc := 195) C d_M_faultOf_195 ?_
                      refine r_sipush (pc := 196) C d_M_faultOf_196 (by decide) ?_
                      refine r_icmp_gt (pc := 199) (tgt := 235) C (by omega) d_M_faultOf_199 (by decide) (fun c_199 => ?_) (fun c_199 => ?_)
                      · skip
                        refine r_iload_n (pc := 235) C d_M_faultOf_235 rfl (lv_at hl 4 rfl) ?_
                        exact kret _ _ _ _ k _ d_M_faultOf_236 w (⟨_, _, _, rfl, Or.inl ⟨k, by omega, by omega, hlg, by rw [← hP]; show ¬ lg (T k) sT (LT (cT - 1)); unfold lg; omega, rfl⟩, fun q => by omega⟩)
                      · skip
                        refine r_aload_n (pc := 202) C d_M_faultOf_202 rfl (lv_at hl 2 rfl) ?_
                        refine r_get (pc := 203) (v := .ref q9) C w i_M rfl 0 rfl 13 (by decide) fl_M_34 rfl rfl d_M_faultOf_203 ?_
                        refine r_aload_n (pc := 206) C d_M_faultOf_206 rfl (lv_at hl 2 rfl) ?_
                        refine r_get (pc := 207) (v := .int (iI n1)) C w i_M rfl 0 rfl 14 (by decide) fl_M_137 rfl rfl d_M_faultOf_207 ?_
                        refine r_iconst (pc := 210) C d_M_faultOf_210 ?_
                        refine r_isub (pc := 211) C d_M_faultOf_211 ?_
                        refine r_bipush (pc := 212) C d_M_faultOf_212 (by decide) ?_
                        refine r_aload_n (pc := 214) C d_M_faultOf_214 rfl (lv_at hl 2 rfl) ?_
                        refine r_get (pc := 215) (v := .ref q9) C w i_M rfl 0 rfl 13 (by decide) fl_M_34 rfl rfl d_M_faultOf_215 ?_
                        refine r_aload_n (pc := 218) C d_M_faultOf_218 rfl (lv_at hl 2 rfl) ?_
                        refine r_get (pc := 219) (v := .int (iI n1)) C w i_M rfl 0 rfl 14 (by decide) fl_M_137 rfl rfl d_M_faultOf_219 ?_
                        refine r_iconst (pc := 222) C d_M_faultOf_222 ?_
                        refine r_isub (pc := 223) C d_M_faultOf_223 ?_
                        refine r_iald (pc := 224) (f := l1) (i := (n1 - 1)) C w 0 9 rfl hT.1 (by omega) d_M_faultOf_224 ?_
                        refine r_imul (pc := 225) C d_M_faultOf_225 ?_
                        refine r_iload_n (pc := 226) C d_M_faultOf_226 rfl (lv_at hl 1 rfl) ?_
                        refine r_iadd (pc := 227) C d_M_faultOf_227 ?_
                        refine r_bipush (pc := 228) C d_M_faultOf_228 (by decide) ?_
                        refine r_isub (pc := 230) C d_M_faultOf_230 ?_
                        refine r_iast (pc := 231) (f := l1) (i := (n1 - 1)) (v := (((10 * (l1 (n1 - 1))) + (pd k)) - 48)) (ws' := mw cI q0 q1 q2 q3 q4 q5 q6 q7 q8 q9 nw pt np sl sv li ot len pd ty wr wm s1 (up l1 (n1 - 1) (((10 * (l1 (n1 - 1))) + (pd k)) - 48)) n1) C w 0 9 rfl hT.1 (by omega) rfl d_M_faultOf_231 (fun H locs w => ?_)
                        have hN : pst T (k + 1) = (3, cT, ST, up LT (cT - 1) (10 * LT (cT - 1) + T k - 48)) := by
                          rw [pst_succ T (by omega), ← hP]
                          unfold pnx
                          show (if sT = 0 then _ else if T k = 42 then _ else if T k = 59 then _ else if sT = 2 then _ else _) = _
                          rw [if_neg (by omega), if_neg (by omega), if_neg (by omega), if_neg (by omega)]
                        refine r_goto (pc := 232) (tgt := 237) C d_M_faultOf_232 (by decide) ?_
                        refine r_iinc (pc := 237) (j := 4) (lv' := [(2, .int (iI (k + 1))), (4, .int (iI z_29)), (3, .int (iI (pd k))), (0, .ref q0), (1, .int (iI st))]) C d_M_faultOf_237 hl rfl (by decide) rfl (fun ls hl => ?_)
                        refine r_goto (pc := 240) (tgt := 9) C d_M_faultOf_240 (by decide) ?_
                        exact ih9 (k + 1) st s1 (up l1 (n1 - 1) (((10 * (l1 (n1 - 1))) + (pd k)) - 48)) n1 (by omega) ((lgs_succ hlg (by rw [← hP]; show lg (T k) sT (LT (cT - 1)); unfold lg; omega))) ((by rw [hN] <;> omega)) ((by rw [hN]; first | exact hn | (show n1 + 1 = cT + 1; omega))) ((by rw [hN]; first | exact hsl | exact sl_new hn hsl (by split <;> omega) | exact sl_upd hn hsl (by omega))) (by omega) _ _ _ w (lv_sub hl [3, 4, 0] rfl)
                · skip
                  refine r_iload_n (pc := 136) C d_M_faultOf_136 rfl (lv_at hl 1 rfl) ?_
                  refine r_bipush (pc := 137) C d_M_faultOf_137 (by decide) ?_
                  refine r_bipush (pc := 139) C d_M_faultOf_139 (by decide) ?_
                  refine r_callP (pc := 141) (As := [.int (iI (pd k)), .int (iI 49), .int (iI 57)]) (rest := []) C w (c_M_in (pd k) 49 57 (by omega)) ml_M_75 st_M_in ini_M cd_M_in hd_M_in rfl (by rw [hRm]; exact ⟨⟨Nat.le_of_ble_eq_true rfl, Nat.le_of_ble_eq_true rfl⟩, Nat.le_of_ble_eq_true rfl, Nat.le_of_ble_eq_true rfl⟩) hl.1 rfl (Nat.le_of_ble_eq_true rfl) d_M_faultOf_141 (fun z_141 H locs hz_141 w => ?_)
                  refine r_if_eq (pc := 144) (tgt := 167) C (by omega) d_M_faultOf_144 (by decide) (fun c_144 => ?_) (fun c_144 => ?_)
                  · skip
                    refine r_iload_n (pc := 167) C d_M_faultOf_167 rfl (lv_at hl 3 rfl) ?_
                    refine r_iconst (pc := 168) C d_M_faultOf_168 ?_
                    refine r_icmp_ne (pc := 169) (tgt := 235) C (by omega) d_M_faultOf_169 (by decide) (fun c_169 => ?_) (fun c_169 => ?_)
                    · skip
                      refine r_iload_n (pc := 235) C d_M_faultOf_235 rfl (lv_at hl 4 rfl) ?_
                      exact kret _ _ _ _ k _ d_M_faultOf_236 w (⟨_, _, _, rfl, Or.inl ⟨k, by omega, by omega, hlg, by rw [← hP]; show ¬ lg (T k) sT (LT (cT - 1)); unfold lg; omega, rfl⟩, fun q => by omega⟩)
                    · skip
                      refine r_iload (pc := 172) C d_M_faultOf_172 (lv_at hl 0 rfl) ?_
                      refine r_if_eq (pc := 174) (tgt := 235) C (by omega) d_M_faultOf_174 (by decide) (fun c_174 => ?_) (fun c_174 => ?_)
                      · skip
                        refine r_iload_n (pc := 235) C d_M_faultOf_235 rfl (lv_at hl 4 rfl) ?_
                        exact kret _ _ _ _ k _ d_M_faultOf_236 w (⟨_, _, _, rfl, Or.inl ⟨k, by omega, by omega, hlg, by rw [← hP]; show ¬ lg (T k) sT (LT (cT - 1)); unfold lg; omega, rfl⟩, fun q => by omega⟩)
                      · skip
                        have p4 := p4 (by omega)
                        have p6 := p5 (cT - 1) (by omega) (by omega)
                        have p7 := hsl (n1 - 1) (by omega) (by omega)
                        rw [show n1 - 1 = cT - 1 by omega] at p7
                        have p8 : l1 (n1 - 1) = LT (cT - 1) := by rw [show n1 - 1 = cT - 1 by omega]; exact p7.2
                        refine r_bipush (pc := 177) C d_M_faultOf_177 (by decide) ?_
                        refine r_aload_n (pc := 179) C d_M_faultOf_179 rfl (lv_at hl 2 rfl) ?_
                        refine r_get (pc := 180) (v := .ref q9) C w i_M rfl 0 rfl 13 (by decide) fl_M_34 rfl rfl d_M_faultOf_180 ?_
                        refine r_aload_n (pc := 183) C d_M_faultOf_183 rfl (lv_at hl 2 rfl) ?_
                        refine r_get (pc := 184) (v := .int (iI n1)) C w i_M rfl 0 rfl 14 (by decide) fl_M_137 rfl rfl d_M_faultOf_184 ?_
                        refine r_iconst (pc := 187) C d_M_faultOf_187 ?_
                        refine r_isub (pc := 188) C d_M_faultOf_188 ?_
                        refine r_iald (pc := 189) (f := l1) (i := (n1 - 1)) C w 0 9 rfl hT.1 (by omega) d_M_faultOf_189 ?_
                        refine r_imul (pc := 190) C d_M_faultOf_190 ?_
                        refine r_iload_n (pc := 191) C d_M_faultOf_191 rfl (lv_at hl 1 rfl) ?_
                        refine r_iadd (pc := 192) C d_M_faultOf_192 ?_
                        refine r_bipush (pc := 193) C d_M_faultOf_193 (by decide) ?_
                        refine r_isub (pc := 195) C d_M_faultOf_195 ?_
                        refine r_sipush (pc := 196) C d_M_faultOf_196 (by decide) ?_
                        refine r_icmp_gt (pc := 199) (tgt := 235) C (by omega) d_M_faultOf_199 (by decide) (fun c_199 => ?_) (fun c_199 => ?_)
                        · skip
                          refine r_iload_n (pc := 235) C d_M_faultOf_235 rfl (lv_at hl 4 rfl) ?_
                          exact kret _ _ _ _ k _ d_M_faultOf_236 w (⟨_, _, _, rfl, Or.inl ⟨k, by omega, by omega, hlg, by rw [← hP]; show ¬ lg (T k) sT (LT (cT - 1)); unfold lg; omega, rfl⟩, fun q => by omega⟩)
                        · skip
                          refine r_aload_n (pc := 202) C d_M_faultOf_202 rfl (lv_at hl 2 rfl) ?_
                          refine r_get (pc := 203) (v := .ref q9) C w i_M rfl 0 rfl 13 (by decide) fl_M_34 rfl rfl d_M_faultOf_203 ?_
                          refine r_aload_n (pc := 206) C d_M_faultOf_206 rfl (lv_at hl 2 rfl) ?_
                          refine r_get (pc := 207) (v := .int (iI n1)) C w i_M rfl 0 rfl 14 (by decide) fl_M_137 rfl rfl d_M_faultOf_207 ?_
                          refine r_iconst (pc := 210) C d_M_faultOf_210 ?_
                          refine r_isub (pc := 211) C d_M_faultOf_211 ?_
                          refine r_bipush (pc := 212) C d_M_faultOf_212 (by decide) ?_
                          refine r_aload_n (pc := 214) C d_M_faultOf_214 rfl (lv_at hl 2 rfl) ?_
                          refine r_get (pc := 215) (v := .ref q9) C w i_M rfl 0 rfl 13 (by decide) fl_M_34 rfl rfl d_M_faultOf_215 ?_
                          refine r_aload_n (pc := 218) C d_M_faultOf_218 rfl (lv_at hl 2 rfl) ?_
                          refine r_get (pc := 219) (v := .int (iI n1)) C w i_M rfl 0 rfl 14 (by decide) fl_M_137 rfl rfl d_M_faultOf_219 ?_
                          refine r_iconst (pc := 222) C d_M_faultOf_222 ?_
                          refine r_isub (pc := 223) C d_M_faultOf_223 ?_
                          refine r_iald (pc := 224) (f := l1) (i := (n1 - 1)) C w 0 9 rfl hT.1 (by omega) d_M_faultOf_224 ?_
                          refine r_imul (pc := 225) C d_M_faultOf_225 ?_
                          refine r_iload_n (pc := 226) C d_M_faultOf_226 rfl (lv_at hl 1 rfl) ?_
                          refine r_iadd (pc := 227) C d_M_faultOf_227 ?_
                          refine r_bipush (pc := 228) C d_M_faultOf_228 (by decide) ?_
                          refine r_isub (pc := 230) C d_M_faultOf_230 ?_
                          refine r_iast (pc := 231) (f := l1) (i := (n1 - 1)) (v := (((10 * (l1 (n1 - 1))) + (pd k)) - 48)) (ws' := mw cI q0 q1 q2 q3 q4 q5 q6 q7 q8 q9 nw pt np sl sv li ot len pd ty wr wm s1 (up l1 (n1 - 1) (((10 * (l1 (n1 - 1))) + (pd k)) - 48)) n1) C w 0 9 rfl hT.1 (by omega) rfl d_M_faultOf_231 (fun H locs w => ?_)
                          have hN : pst T (k + 1) = (3, cT, ST, up LT (cT - 1) (10 * LT (cT - 1) + T k - 48)) := by
                            rw [pst_succ T (by omega), ← hP]
                            unfold pnx
                            show (if sT = 0 then _ else if T k = 42 then _ else if T k = 59 then _ else if sT = 2 then _ else _) = _
                            rw [if_neg (by omega), if_neg (by omega), if_neg (by omega), if_neg (by omega)]
                          refine r_goto (pc := 232) (tgt := 237) C d_M_faultOf_232 (by decide) ?_
                          refine r_iinc (pc := 237) (j := 4) (lv' := [(2, .int (iI (k + 1))), (4, .int (iI z_29)), (3, .int (iI (pd k))), (0, .ref q0), (1, .int (iI st))]) C d_M_faultOf_237 hl rfl (by decide) rfl (fun ls hl => ?_)
                          refine r_goto (pc := 240) (tgt := 9) C d_M_faultOf_240 (by decide) ?_
                          exact ih9 (k + 1) st s1 (up l1 (n1 - 1) (((10 * (l1 (n1 - 1))) + (pd k)) - 48)) n1 (by omega) ((lgs_succ hlg (by rw [← hP]; show lg (T k) sT (LT (cT - 1)); unfold lg; omega))) ((by rw [hN] <;> omega)) ((by rw [hN]; first | exact hn | (show n1 + 1 = cT + 1; omega))) ((by rw [hN]; first | exact hsl | exact sl_new hn hsl (by split <;> omega) | exact sl_upd hn hsl (by omega))) (by omega) _ _ _ w (lv_sub hl [3, 4, 0] rfl)
                  · skip
                    have p4 := p4 (by omega)
                    refine r_aload_n (pc := 147) C d_M_faultOf_147 rfl (lv_at hl 2 rfl) ?_
                    refine r_get (pc := 148) (v := .ref q9) C w i_M rfl 0 rfl 13 (by decide) fl_M_34 rfl rfl d_M_faultOf_148 ?_
                    refine r_aload_n (pc := 151) C d_M_faultOf_151 rfl (lv_at hl 2 rfl) ?_
                    refine r_get (pc := 152) (v := .int (iI n1)) C w i_M rfl 0 rfl 14 (by decide) fl_M_137 rfl rfl d_M_faultOf_152 ?_
                    refine r_iconst (pc := 155) C d_M_faultOf_155 ?_
                    refine r_isub (pc := 156) C d_M_faultOf_156 ?_
                    refine r_iload_n (pc := 157) C d_M_faultOf_157 rfl (lv_at hl 1 rfl) ?_
                    refine r_bipush (pc := 158) C d_M_faultOf_158 (by decide) ?_
                    refine r_isub (pc := 160) C d_M_faultOf_160 ?_
                    refine r_iast (pc := 161) (f := l1) (i := (n1 - 1)) (v := ((pd k) - 48)) (ws' := mw cI q0 q1 q2 q3 q4 q5 q6 q7 q8 q9 nw pt np sl sv li ot len pd ty wr wm s1 (up l1 (n1 - 1) ((pd k) - 48)) n1) C w 0 9 rfl hT.1 (by omega) rfl d_M_faultOf_161 (fun H locs w => ?_)
                    have hN : pst T (k + 1) = (3, cT, ST, up LT (cT - 1) (T k - 48)) := by
                      rw [pst_succ T (by omega), ← hP]
                      unfold pnx
                      show (if sT = 0 then _ else if T k = 42 then _ else if T k = 59 then _ else if sT = 2 then _ else _) = _
                      rw [if_neg (by omega), if_neg (by omega), if_neg (by omega), if_pos (by omega)]
                    refine r_iconst (pc := 162) C d_M_faultOf_162 ?_
                    refine r_istore_n (pc := 163) (lv' := [(1, .int (iI 3)), (4, .int (iI z_29)), (3, .int (iI (pd k))), (0, .ref q0), (2, .int (iI k))]) C d_M_faultOf_163 rfl hl (by decide) rfl (fun ls hl => ?_)
                    refine r_goto (pc := 164) (tgt := 237) C d_M_faultOf_164 (by decide) ?_
                    refine r_iinc (pc := 237) (j := 4) (lv' := [(2, .int (iI (k + 1))), (1, .int (iI 3)), (4, .int (iI z_29)), (3, .int (iI (pd k))), (0, .ref q0)]) C d_M_faultOf_237 hl rfl (by decide) rfl (fun ls hl => ?_)
                    refine r_goto (pc := 240) (tgt := 9) C d_M_faultOf_240 (by decide) ?_
                    exact ih9 (k + 1) 3 s1 (up l1 (n1 - 1) ((pd k) - 48)) n1 (by omega) ((lgs_succ hlg (by rw [← hP]; show lg (T k) sT (LT (cT - 1)); unfold lg; omega))) ((by rw [hN] <;> omega)) ((by rw [hN]; first | exact hn | (show n1 + 1 = cT + 1; omega))) ((by rw [hN]; first | exact hsl | exact sl_new hn hsl (by split <;> omega) | exact sl_upd hn hsl (by omega))) (by omega) _ _ _ w (lv_sub hl [4, 1, 0] rfl)
              · skip
                refine r_iload_n (pc := 120) C d_M_faultOf_120 rfl (lv_at hl 1 rfl) ?_
                refine r_bipush (pc := 121) C d_M_faultOf_121 (by decide) ?_
                refine r_icmp_ne (pc := 123) (tgt := 131) C (by omega) d_M_faultOf_123 (by decide) (fun c_123 => ?_) (fun c_123 => ?_)
                · skip
                  refine r_iload_n (pc := 131) C d_M_faultOf_131 rfl (lv_at hl 3 rfl) ?_
                  refine r_iconst (pc := 132) C d_M_faultOf_132 ?_
                  refine r_icmp_ne (pc := 133) (tgt := 167) C (by omega) d_M_faultOf_133 (by decide) (fun c_133 => ?_) (fun c_133 => ?_)
                  · skip
                    refine r_iload_n (pc := 167) C d_M_faultOf_167 rfl (lv_at hl 3 rfl) ?_
                    refine r_iconst (pc := 168) C d_M_faultOf_168 ?_
                    refine r_icmp_ne (pc := 169) (tgt := 235) C (by omega) d_M_faultOf_169 (by decide) (fun c_169 => ?_) (fun c_169 => ?_)
                    · skip
                      refine r_iload_n (pc := 235) C d_M_faultOf_235 rfl (lv_at hl 4 rfl) ?_
                      exact kret _ _ _ _ k _ d_M_faultOf_236 w (⟨_, _, _, rfl, Or.inl ⟨k, by omega, by omega, hlg, by rw [← hP]; show ¬ lg (T k) sT (LT (cT - 1)); unfold lg; omega, rfl⟩, fun q => by omega⟩)
                    · skip
                      refine r_iload (pc := 172) C d_M_faultOf_172 (lv_at hl 0 rfl) ?_
                      refine r_if_eq (pc := 174) (tgt := 235) C (by omega) d_M_faultOf_174 (by decide) (fun c_174 => ?_) (fun c_174 => ?_)
                      · skip
                        refine r_iload_n (pc := 235) C d_M_faultOf_235 rfl (lv_at hl 4 rfl) ?_
                        exact kret _ _ _ _ k _ d_M_faultOf_236 w (⟨_, _, _, rfl, Or.inl ⟨k, by omega, by omega, hlg, by rw [← hP]; show ¬ lg (T k) sT (LT (cT - 1)); unfold lg; omega, rfl⟩, fun q => by omega⟩)
                      · skip
                        have p4 := p4 (by omega)
                        have p6 := p5 (cT - 1) (by omega) (by omega)
                        have p7 := hsl (n1 - 1) (by omega) (by omega)
                        rw [show n1 - 1 = cT - 1 by omega] at p7
                        have p8 : l1 (n1 - 1) = LT (cT - 1) := by rw [show n1 - 1 = cT - 1 by omega]; exact p7.2
                        refine r_bipush (pc := 177) C d_M_faultOf_177 (by decide) ?_
                        refine r_aload_n (pc := 179) C d_M_faultOf_179 rfl (lv_at hl 2 rfl) ?_
                        refine r_get (pc := 180) (v := .ref q9) C w i_M rfl 0 rfl 13 (by decide) fl_M_34 rfl rfl d_M_faultOf_180 ?_
                        refine r_aload_n (pc := 183) C d_M_faultOf_183 rfl (lv_at hl 2 rfl) ?_
                        refine r_get (pc := 184) (v := .int (iI n1)) C w i_M rfl 0 rfl 14 (by decide) fl_M_137 rfl rfl d_M_faultOf_184 ?_
                        refine r_iconst (pc := 187) C d_M_faultOf_187 ?_
                        refine r_isub (pc := 188) C d_M_faultOf_188 ?_
                        refine r_iald (pc := 189) (f := l1) (i := (n1 - 1)) C w 0 9 rfl hT.1 (by omega) d_M_faultOf_189 ?_
                        refine r_imul (pc := 190) C d_M_faultOf_190 ?_
                        refine r_iload_n (pc := 191) C d_M_faultOf_191 rfl (lv_at hl 1 rfl) ?_
                        refine r_iadd (pc := 192) C d_M_faultOf_192 ?_
                        refine r_bipush (pc := 193) C d_M_faultOf_193 (by decide) ?_
                        refine r_isub (pc := 195) C d_M_faultOf_195 ?_
                        refine r_sipush (pc := 196) C d_M_faultOf_196 (by decide) ?_
                        refine r_icmp_gt (pc := 199) (tgt := 235) C (by omega) d_M_faultOf_199 (by decide) (fun c_199 => ?_) (fun c_199 => ?_)
                        · skip
                          refine r_iload_n (pc := 235) C d_M_faultOf_235 rfl (lv_at hl 4 rfl) ?_
                          exact kret _ _ _ _ k _ d_M_faultOf_236 w (⟨_, _, _, rfl, Or.inl ⟨k, by omega, by omega, hlg, by rw [← hP]; show ¬ lg (T k) sT (LT (cT - 1)); unfold lg; omega, rfl⟩, fun q => by omega⟩)
                        · skip
                          refine r_aload_n (pc := 202) C d_M_faultOf_202 rfl (lv_at hl 2 rfl) ?_
                          refine r_get (pc := 203) (v := .ref q9) C w i_M rfl 0 rfl 13 (by decide) fl_M_34 rfl rfl d_M_faultOf_203 ?_
                          refine r_aload_n (pc := 206) C d_M_faultOf_206 rfl (lv_at hl 2 rfl) ?_
                          refine r_get (pc := 207) (v := .int (iI n1)) C w i_M rfl 0 rfl 14 (by decide) fl_M_137 rfl rfl d_M_faultOf_207 ?_
                          refine r_iconst (pc := 210) C d_M_faultOf_210 ?_
                          refine r_isub (pc := 211) C d_M_faultOf_211 ?_
                          refine r_bipush (pc := 212) C d_M_faultOf_212 (by decide) ?_
                          refine r_aload_n (pc := 214) C d_M_faultOf_214 rfl (lv_at hl 2 rfl) ?_
                          refine r_get (pc := 215) (v := .ref q9) C w i_M rfl 0 rfl 13 (by decide) fl_M_34 rfl rfl d_M_faultOf_215 ?_
                          refine r_aload_n (pc := 218) C d_M_faultOf_218 rfl (lv_at hl 2 rfl) ?_
                          refine r_get (pc := 219) (v := .int (iI n1)) C w i_M rfl 0 rfl 14 (by decide) fl_M_137 rfl rfl d_M_faultOf_219 ?_
                          refine r_iconst (pc := 222) C d_M_faultOf_222 ?_
                          refine r_isub (pc := 223) C d_M_faultOf_223 ?_
                          refine r_iald (pc := 224) (f := l1) (i := (n1 - 1)) C w 0 9 rfl hT.1 (by omega) d_M_faultOf_224 ?_
                          refine r_imul (pc := 225) C d_M_faultOf_225 ?_
                          refine r_iload_n (pc := 226) C d_M_faultOf_226 rfl (lv_at hl 1 rfl) ?_
                          refine r_iadd (pc := 227) C d_M_faultOf_227 ?_
                          refine r_bipush (pc := 228) C d_M_faultOf_228 (by decide) ?_
                          refine r_isub (pc := 230) C d_M_faultOf_230 ?_
                          refine r_iast (pc := 231) (f := l1) (i := (n1 - 1)) (v := (((10 * (l1 (n1 - 1))) + (pd k)) - 48)) (ws' := mw cI q0 q1 q2 q3 q4 q5 q6 q7 q8 q9 nw pt np sl sv li ot len pd ty wr wm s1 (up l1 (n1 - 1) (((10 * (l1 (n1 - 1))) + (pd k)) - 48)) n1) C w 0 9 rfl hT.1 (by omega) rfl d_M_faultOf_231 (fun H locs w => ?_)
                          have hN : pst T (k + 1) = (3, cT, ST, up LT (cT - 1) (10 * LT (cT - 1) + T k - 48)) := by
                            rw [pst_succ T (by omega), ← hP]
                            unfold pnx
                            show (if sT = 0 then _ else if T k = 42 then _ else if T k = 59 then _ else if sT = 2 then _ else _) = _
                            rw [if_neg (by omega), if_neg (by omega), if_neg (by omega), if_neg (by omega)]
                          refine r_goto (pc := 232) (tgt := 237) C d_M_faultOf_232 (by decide) ?_
                          refine r_iinc (pc := 237) (j := 4) (lv' := [(2, .int (iI (k + 1))), (4, .int (iI z_29)), (3, .int (iI (pd k))), (0, .ref q0), (1, .int (iI st))]) C d_M_faultOf_237 hl rfl (by decide) rfl (fun ls hl => ?_)
                          refine r_goto (pc := 240) (tgt := 9) C d_M_faultOf_240 (by decide) ?_
                          exact ih9 (k + 1) st s1 (up l1 (n1 - 1) (((10 * (l1 (n1 - 1))) + (pd k)) - 48)) n1 (by omega) ((lgs_succ hlg (by rw [← hP]; show lg (T k) sT (LT (cT - 1)); unfold lg; omega))) ((by rw [hN] <;> omega)) ((by rw [hN]; first | exact hn | (show n1 + 1 = cT + 1; omega))) ((by rw [hN]; first | exact hsl | exact sl_new hn hsl (by split <;> omega) | exact sl_upd hn hsl (by omega))) (by omega) _ _ _ w (lv_sub hl [3, 4, 0] rfl)
                  · skip
                    refine r_iload_n (pc := 136) C d_M_faultOf_136 rfl (lv_at hl 1 rfl) ?_
                    refine r_bipush (pc := 137) C d_M_faultOf_137 (by decide) ?_
                    refine r_bipush (pc := 139) C d_M_faultOf_139 (by decide) ?_
                    refine r_callP (pc := 141) (As := [.int (iI (pd k)), .int (iI 49), .int (iI 57)]) (rest := []) C w (c_M_in (pd k) 49 57 (by omega)) ml_M_75 st_M_in ini_M cd_M_in hd_M_in rfl (by rw [hRm]; exact ⟨⟨Nat.le_of_ble_eq_true rfl, Nat.le_of_ble_eq_true rfl⟩, Nat.le_of_ble_eq_true rfl, Nat.le_of_ble_eq_true rfl⟩) hl.1 rfl (Nat.le_of_ble_eq_true rfl) d_M_faultOf_141 (fun z_141 H locs hz_141 w => ?_)
                    refine r_if_eq (pc := 144) (tgt := 167) C (by omega) d_M_faultOf_144 (by decide) (fun c_144 => ?_) (fun c_144 => ?_)
                    · skip
                      refine r_iload_n (pc := 167) C d_M_faultOf_167 rfl (lv_at hl 3 rfl) ?_
                      refine r_iconst (pc := 168) C d_M_faultOf_168 ?_
                      refine r_icmp_ne (pc := 169) (tgt := 235) C (by omega) d_M_faultOf_169 (by decide) (fun c_169 => ?_) (fun c_169 => ?_)
                      · skip
                        refine r_iload_n (pc := 235) C d_M_faultOf_235 rfl (lv_at hl 4 rfl) ?_
                        exact kret _ _ _ _ k _ d_M_faultOf_236 w (⟨_, _, _, rfl, Or.inl ⟨k, by omega, by omega, hlg, by rw [← hP]; show ¬ lg (T k) sT (LT (cT - 1)); unfold lg; omega, rfl⟩, fun q => by omega⟩)
                      · skip
                        refine r_iload (pc := 172) C d_M_faultOf_172 (lv_at hl 0 rfl) ?_
                        refine r_if_eq (pc := 174) (tgt := 235) C (by omega) d_M_faultOf_174 (by decide) (fun c_174 => ?_) (fun c_174 => ?_)
                        · skip
                          refine r_iload_n (pc := 235) C d_M_faultOf_235 rfl (lv_at hl 4 rfl) ?_
                          exact kret _ _ _ _ k _ d_M_faultOf_236 w (⟨_, _, _, rfl, Or.inl ⟨k, by omega, by omega, hlg, by rw [← hP]; show ¬ lg (T k) sT (LT (cT - 1)); unfold lg; omega, rfl⟩, fun q => by omega⟩)
                        · skip
                          have p4 := p4 (by omega)
                          have p6 := p5 (cT - 1) (by omega) (by omega)
                          have p7 := hsl (n1 - 1) (by omega) (by omega)
                          rw [show n1 - 1 = cT - 1 by omega] at p7
                          have p8 : l1 (n1 - 1) = LT (cT - 1) := by rw [show n1 - 1 = cT - 1 by omega]; exact p7.2
                          refine r_bipush (pc := 177) C d_M_faultOf_177 (by decide) ?_
                          refine r_aload_n (pc := 179) C d_M_faultOf_179 rfl (lv_at hl 2 rfl) ?_
                          refine r_get (pc := 180) (v := .ref q9) C w i_M rfl 0 rfl 13 (by decide) fl_M_34 rfl rfl d_M_faultOf_180 ?_
                          refine r_aload_n (pc := 183) C d_M_faultOf_183 rfl (lv_at hl 2 rfl) ?_
                          refine r_get (pc := 184) (v := .int (iI n1)) C w i_M rfl 0 rfl 14 (by decide) fl_M_137 rfl rfl d_M_faultOf_184 ?_
                          refine r_iconst (pc := 187) C d_M_faultOf_187 ?_
                          refine r_isub (pc := 188) C d_M_faultOf_188 ?_
                          refine r_iald (pc := 189) (f := l1) (i := (n1 - 1)) C w 0 9 rfl hT.1 (by omega) d_M_faultOf_189 ?_
                          refine r_imul (pc := 190) C d_M_faultOf_190 ?_
                          refine r_iload_n (pc := 191) C d_M_faultOf_191 rfl (lv_at hl 1 rfl) ?_
                          refine r_iadd (pc := 192) C d_M_faultOf_192 ?_
                          refine r_bipush (pc := 193) C d_M_faultOf_193 (by decide) ?_
                          refine r_isub (pc := 195) C d_M_faultOf_195 ?_
                          refine r_sipush (pc := 196) C d_M_faultOf_196 (by decide) ?_
                          refine r_icmp_gt (pc := 199) (tgt := 235) C (by omega) d_M_faultOf_199 (by decide) (fun c_199 => ?_) (fun c_199 => ?_)
                          · skip
                            refine r_iload_n (pc := 235) C d_M_faultOf_235 rfl (lv_at hl 4 rfl) ?_
                            exact kret _ _ _ _ k _ d_M_faultOf_236 w (⟨_, _, _, rfl, Or.inl ⟨k, by omega, by omega, hlg, by rw [← hP]; show ¬ lg (T k) sT (LT (cT - 1)); unfold lg; omega, rfl⟩, fun q => by omega⟩)
                          · skip
                            refine r_aload_n (pc := 202) C d_M_faultOf_202 rfl (lv_at hl 2 rfl) ?_
                            refine r_get (pc := 203) (v := .ref q9) C w i_M rfl 0 rfl 13 (by decide) fl_M_34 rfl rfl d_M_faultOf_203 ?_
                            refine r_aload_n (pc := 206) C d_M_faultOf_206 rfl (lv_at hl 2 rfl) ?_
                            refine r_get (pc := 207) (v := .int (iI n1)) C w i_M rfl 0 rfl 14 (by decide) fl_M_137 rfl rfl d_M_faultOf_207 ?_
                            refine r_iconst (pc := 210) C d_M_faultOf_210 ?_
                            refine r_isub (pc := 211) C d_M_faultOf_211 ?_
                            refine r_bipush (pc := 212) C d_M_faultOf_212 (by decide) ?_
                            refine r_aload_n (pc := 214) C d_M_faultOf_214 rfl (lv_at hl 2 rfl) ?_
                            refine r_get (pc := 215) (v := .ref q9) C w i_M rfl 0 rfl 13 (by decide) fl_M_34 rfl rfl d_M_faultOf_215 ?_
                            refine r_aload_n (pc := 218) C d_M_faultOf_218 rfl (lv_at hl 2 rfl) ?_
                            refine r_get (pc := 219) (v := .int (iI n1)) C w i_M rfl 0 rfl 14 (by decide) fl_M_137 rfl rfl d_M_faultOf_219 ?_
                            refine r_iconst (pc := 222) C d_M_faultOf_222 ?_
                            refine r_isub (pc := 223) C d_M_faultOf_223 ?_
                            refine r_iald (pc := 224) (f := l1) (i := (n1 - 1)) C w 0 9 rfl hT.1 (by omega) d_M_faultOf_224 ?_
                            refine r_imul (pc := 225) C d_M_faultOf_225 ?_
                            refine r_iload_n (pc := 226) C d_M_faultOf_226 rfl (lv_at hl 1 rfl) ?_
                            refine r_iadd (pc := 227) C d_M_faultOf_227 ?_
                            refine r_bipush (pc := 228) C d_M_faultOf_228 (by decide) ?_
                            refine r_isub (pc := 230) C d_M_faultOf_230 ?_
                            refine r_iast (pc := 231) (f := l1) (i := (n1 - 1)) (v := (((10 * (l1 (n1 - 1))) + (pd k)) - 48)) (ws' := mw cI q0 q1 q2 q3 q4 q5 q6 q7 q8 q9 nw pt np sl sv li ot len pd ty wr wm s1 (up l1 (n1 - 1) (((10 * (l1 (n1 - 1))) + (pd k)) - 48)) n1) C w 0 9 rfl hT.1 (by omega) rfl d_M_faultOf_231 (fun H locs w => ?_)
                            have hN : pst T (k + 1) = (3, cT, ST, up LT (cT - 1) (10 * LT (cT - 1) + T k - 48)) := by
                              rw [pst_succ T (by omega), ← hP]
                              unfold pnx
                              show (if sT = 0 then _ else if T k = 42 then _ else if T k = 59 then _ else if sT = 2 then _ else _) = _
                              rw [if_neg (by omega), if_neg (by omega), if_neg (by omega), if_neg (by omega)]
                            refine r_goto (pc := 232) (tgt := 237) C d_M_faultOf_232 (by decide) ?_
                            refine r_iinc (pc := 237) (j := 4) (lv' := [(2, .int (iI (k + 1))), (4, .int (iI z_29)), (3, .int (iI (pd k))), (0, .ref q0), (1, .int (iI st))]) C d_M_faultOf_237 hl rfl (by decide) rfl (fun ls hl => ?_)
                            refine r_goto (pc := 240) (tgt := 9) C d_M_faultOf_240 (by decide) ?_
                            exact ih9 (k + 1) st s1 (up l1 (n1 - 1) (((10 * (l1 (n1 - 1))) + (pd k)) - 48)) n1 (by omega) ((lgs_succ hlg (by rw [← hP]; show lg (T k) sT (LT (cT - 1)); unfold lg; omega))) ((by rw [hN] <;> omega)) ((by rw [hN]; first | exact hn | (show n1 + 1 = cT + 1; omega))) ((by rw [hN]; first | exact hsl | exact sl_new hn hsl (by split <;> omega) | exact sl_upd hn hsl (by omega))) (by omega) _ _ _ w (lv_sub hl [3, 4, 0] rfl)
                    · skip
                      have p4 := p4 (by omega)
                      refine r_aload_n (pc := 147) C d_M_faultOf_147 rfl (lv_at hl 2 rfl) ?_
                      refine r_get (pc := 148) (v := .ref q9) C w i_M rfl 0 rfl 13 (by decide) fl_M_34 rfl rfl d_M_faultOf_148 ?_
                      refine r_aload_n (pc := 151) C d_M_faultOf_151 rfl (lv_at hl 2 rfl) ?_
                      refine r_get (pc := 152) (v := .int (iI n1)) C w i_M rfl 0 rfl 14 (by decide) fl_M_137 rfl rfl d_M_faultOf_152 ?_
                      refine r_iconst (pc := 155) C d_M_faultOf_155 ?_
                      refine r_isub (pc := 156) C d_M_faultOf_156 ?_
                      refine r_iload_n (pc := 157) C d_M_faultOf_157 rfl (lv_at hl 1 rfl) ?_
                      refine r_bipush (pc := 158) C d_M_faultOf_158 (by decide) ?_
                      refine r_isub (pc := 160) C d_M_faultOf_160 ?_
                      refine r_iast (pc := 161) (f := l1) (i := (n1 - 1)) (v := ((pd k) - 48)) (ws' := mw cI q0 q1 q2 q3 q4 q5 q6 q7 q8 q9 nw pt np sl sv li ot len pd ty wr wm s1 (up l1 (n1 - 1) ((pd k) - 48)) n1) C w 0 9 rfl hT.1 (by omega) rfl d_M_faultOf_161 (fun H locs w => ?_)
                      have hN : pst T (k + 1) = (3, cT, ST, up LT (cT - 1) (T k - 48)) := by
                        rw [pst_succ T (by omega), ← hP]
                        unfold pnx
                        show (if sT = 0 then _ else if T k = 42 then _ else if T k = 59 then _ else if sT = 2 then _ else _) = _
                        rw [if_neg (by omega), if_neg (by omega), if_neg (by omega), if_pos (by omega)]
                      refine r_iconst (pc := 162) C d_M_faultOf_162 ?_
                      refine r_istore_n (pc := 163) (lv' := [(1, .int (iI 3)), (4, .int (iI z_29)), (3, .int (iI (pd k))), (0, .ref q0), (2, .int (iI k))]) C d_M_faultOf_163 rfl hl (by decide) rfl (fun ls hl => ?_)
                      refine r_goto (pc := 164) (tgt := 237) C d_M_faultOf_164 (by decide) ?_
                      refine r_iinc (pc := 237) (j := 4) (lv' := [(2, .int (iI (k + 1))), (1, .int (iI 3)), (4, .int (iI z_29)), (3, .int (iI (pd k))), (0, .ref q0)]) C d_M_faultOf_237 hl rfl (by decide) rfl (fun ls hl => ?_)
                      refine r_goto (pc := 240) (tgt := 9) C d_M_faultOf_240 (by decide) ?_
                      exact ih9 (k + 1) 3 s1 (up l1 (n1 - 1) ((pd k) - 48)) n1 (by omega) ((lgs_succ hlg (by rw [← hP]; show lg (T k) sT (LT (cT - 1)); unfold lg; omega))) ((by rw [hN] <;> omega)) ((by rw [hN]; first | exact hn | (show n1 + 1 = cT + 1; omega))) ((by rw [hN]; first | exact hsl | exact sl_new hn hsl (by split <;> omega) | exact sl_upd hn hsl (by omega))) (by omega) _ _ _ w (lv_sub hl [4, 1, 0] rfl)
                · skip
                  have hN : pst T (k + 1) = (0, cT, ST, LT) := by
                    rw [pst_succ T (by omega), ← hP]
                    unfold pnx
                    show (if sT = 0 then _ else if T k = 42 then _ else if T k = 59 then _ else if sT = 2 then _ else _) = _
                    rw [if_neg (by omega), if_neg (by omega), if_pos (by omega)]
                  refine r_iconst (pc := 126) C d_M_faultOf_126 ?_
                  refine r_istore_n (pc := 127) (lv' := [(1, .int (iI 0)), (4, .int (iI z_29)), (3, .int (iI (pd k))), (0, .ref q0), (2, .int (iI k))]) C d_M_faultOf_127 rfl hl (by decide) rfl (fun ls hl => ?_)
                  refine r_goto (pc := 128) (tgt := 237) C d_M_faultOf_128 (by decide) ?_
                  refine r_iinc (pc := 237) (j := 4) (lv' := [(2, .int (iI (k + 1))), (1, .int (iI 0)), (4, .int (iI z_29)), (3, .int (iI (pd k))), (0, .ref q0)]) C d_M_faultOf_237 hl rfl (by decide) rfl (fun ls hl => ?_)
                  refine r_goto (pc := 240) (tgt := 9) C d_M_faultOf_240 (by decide) ?_
                  exact ih9 (k + 1) 0 s1 l1 n1 (by omega) ((lgs_succ hlg (by rw [← hP]; show lg (T k) sT (LT (cT - 1)); unfold lg; omega))) ((by rw [hN] <;> omega)) ((by rw [hN]; first | exact hn | (show n1 + 1 = cT + 1; omega))) ((by rw [hN]; first | exact hsl | exact sl_new hn hsl (by split <;> omega) | exact sl_upd hn hsl (by omega))) (by omega) _ _ _ w (lv_sub hl [4, 1, 0] rfl)
            · skip
              have hN : pst T (k + 1) = (2, cT, ST, LT) := by
                rw [pst_succ T (by omega), ← hP]
                unfold pnx
                show (if sT = 0 then _ else if T k = 42 then _ else if T k = 59 then _ else if sT = 2 then _ else _) = _
                rw [if_neg (by omega), if_pos (by omega)]
              refine r_iconst (pc := 108) C d_M_faultOf_108 ?_
              refine r_istore_n (pc := 109) (lv' := [(1, .int (iI 2)), (4, .int (iI z_29)), (3, .int (iI (pd k))), (0, .ref q0), (2, .int (iI k))]) C d_M_faultOf_109 rfl hl (by decide) rfl (fun ls hl => ?_)
              refine r_goto (pc := 110) (tgt := 237) C d_M_faultOf_110 (by decide) ?_
              refine r_iinc (pc := 237) (j := 4) (lv' := [(2, .int (iI (k + 1))), (1, .int (iI 2)), (4, .int (iI z_29)), (3, .int (iI (pd k))), (0, .ref q0)]) C d_M_faultOf_237 hl rfl (by decide) rfl (fun ls hl => ?_)
              refine r_goto (pc := 240) (tgt := 9) C d_M_faultOf_240 (by decide) ?_
              exact ih9 (k + 1) 2 s1 l1 n1 (by omega) ((lgs_succ hlg (by rw [← hP]; show lg (T k) sT (LT (cT - 1)); unfold lg; omega))) ((by rw [hN] <;> omega)) ((by rw [hN]; first | exact hn | (show n1 + 1 = cT + 1; omega))) ((by rw [hN]; first | exact hsl | exact sl_new hn hsl (by split <;> omega) | exact sl_upd hn hsl (by omega))) (by omega) _ _ _ w (lv_sub hl [4, 1, 0] rfl)
        · skip
          refine r_iload (pc := 38) C d_M_faultOf_38 (lv_at hl 0 rfl) ?_
          refine r_if_ne (pc := 40) (tgt := 49) C (by omega) d_M_faultOf_40 (by decide) (fun c_40 => ?_) (fun c_40 => ?_)
          · skip
            refine r_aload_n (pc := 49) C d_M_faultOf_49 rfl (lv_at hl 2 rfl) ?_
            refine r_get (pc := 50) (v := .ref q8) C w i_M rfl 0 rfl 12 (by decide) fl_M_31 rfl rfl d_M_faultOf_50 ?_
            refine r_aload_n (pc := 53) C d_M_faultOf_53 rfl (lv_at hl 2 rfl) ?_
            refine r_get (pc := 54) (v := .int (iI n1)) C w i_M rfl 0 rfl 14 (by decide) fl_M_137 rfl rfl d_M_faultOf_54 ?_
            refine r_iload (pc := 57) C d_M_faultOf_57 (lv_at hl 0 rfl) ?_
            refine r_if_eq (pc := 59) (tgt := 69) C (by omega) d_M_faultOf_59 (by decide) (fun c_59 => ?_) (fun c_59 => ?_)
            · skip
              refine r_bipush (pc := 69) C d_M_faultOf_69 (by decide) ?_
              refine r_iast (pc := 71) (f := s1) (i := n1) (v := 10) (ws' := mw cI q0 q1 q2 q3 q4 q5 q6 q7 q8 q9 nw pt np sl sv li ot len pd ty wr wm (up s1 n1 10) l1 n1) C w 0 8 rfl hT.1 (by omega) rfl d_M_faultOf_71 (fun H locs w => ?_)
              refine r_aload_n (pc := 72) C d_M_faultOf_72 rfl (lv_at hl 2 rfl) ?_
              refine r_get (pc := 73) (v := .ref q9) C w i_M rfl 0 rfl 13 (by decide) fl_M_34 rfl rfl d_M_faultOf_73 ?_
              refine r_aload_n (pc := 76) C d_M_faultOf_76 rfl (lv_at hl 2 rfl) ?_
              refine r_get (pc := 77) (v := .int (iI n1)) C w i_M rfl 0 rfl 14 (by decide) fl_M_137 rfl rfl d_M_faultOf_77 ?_
              refine r_iconst (pc := 80) C d_M_faultOf_80 ?_
              refine r_iast (pc := 81) (f := l1) (i := n1) (v := 1) (ws' := mw cI q0 q1 q2 q3 q4 q5 q6 q7 q8 q9 nw pt np sl sv li ot len pd ty wr wm (up s1 n1 10) (up l1 n1 1) n1) C w 0 9 rfl hT.1 (by omega) rfl d_M_faultOf_81 (fun H locs w => ?_)
              refine r_aload_n (pc := 82) C d_M_faultOf_82 rfl (lv_at hl 2 rfl) ?_
              refine r_dup (pc := 83) C d_M_faultOf_83 rfl ?_
              refine r_get (pc := 84) (v := .int (iI n1)) C w i_M rfl 0 rfl 14 (by decide) fl_M_137 rfl rfl d_M_faultOf_84 ?_
              refine r_iconst (pc := 87) C d_M_faultOf_87 ?_
              refine r_iadd (pc := 88) C d_M_faultOf_88 ?_
              refine r_put (pc := 89) (ws' := mw cI q0 q1 q2 q3 q4 q5 q6 q7 q8 q9 nw pt np sl sv li ot len pd ty wr wm (up s1 n1 10) (up l1 n1 1) (n1 + 1)) C w i_M t_M t_M_ok n_M rfl 0 rfl 14 (by decide) fl_M_137 rfl rfl rfl rfl (Nat.le_of_ble_eq_true rfl) rfl d_M_faultOf_89 (fun H locs w => ?_)
              have hN : pst T (k + 1) = (1, cT + 1, up ST cT (if T k = 120 then 10 else T k - 48), up LT cT 1) := by
                rw [pst_succ T (by omega), ← hP]
                unfold pnx
                show (if sT = 0 then _ else if T k = 42 then _ else if T k = 59 then _ else if sT = 2 then _ else _) = _
                rw [if_pos (by omega)]
              refine r_iconst (pc := 92) C d_M_faultOf_92 ?_
              refine r_istore_n (pc := 93) (lv' := [(1, .int (iI 1)), (4, .int (iI z_29)), (3, .int (iI (pd k))), (0, .ref q0), (2, .int (iI k))]) C d_M_faultOf_93 rfl hl (by decide) rfl (fun ls hl => ?_)
              refine r_goto (pc := 94) (tgt := 237) C d_M_faultOf_94 (by decide) ?_
              refine r_iinc (pc := 237) (j := 4) (lv' := [(2, .int (iI (k + 1))), (1, .int (iI 1)), (4, .int (iI z_29)), (3, .int (iI (pd k))), (0, .ref q0)]) C d_M_faultOf_237 hl rfl (by decide) rfl (fun ls hl => ?_)
              refine r_goto (pc := 240) (tgt := 9) C d_M_faultOf_240 (by decide) ?_
              exact ih9 (k + 1) 1 (up s1 n1 10) (up l1 n1 1) (n1 + 1) (by omega) ((lgs_succ hlg (by rw [← hP]; show lg (T k) sT (LT (cT - 1)); unfold lg; omega))) ((by rw [hN] <;> omega)) ((by rw [hN]; first | exact hn | (show n1 + 1 = cT + 1; omega))) ((by rw [hN]; first | exact hsl | exact sl_new hn hsl (by split <;> omega) | exact sl_upd hn hsl (by omega))) (by omega) _ _ _ w (lv_sub hl [4, 1, 0] rfl)
            · skip
              refine r_iload_n (pc := 62) C d_M_faultOf_62 rfl (lv_at hl 1 rfl) ?_
              refine r_bipush (pc := 63) C d_M_faultOf_63 (by decide) ?_
              refine r_isub (pc := 65) C d_M_faultOf_65 ?_
              refine r_goto (pc := 66) (tgt := 71) C d_M_faultOf_66 (by decide) ?_
              refine r_iast (pc := 71) (f := s1) (i := n1) (v := ((pd k) - 48)) (ws' := mw cI q0 q1 q2 q3 q4 q5 q6 q7 q8 q9 nw pt np sl sv li ot len pd ty wr wm (up s1 n1 ((pd k) - 48)) l1 n1) C w 0 8 rfl hT.1 (by omega) rfl d_M_faultOf_71 (fun H locs w => ?_)
              refine r_aload_n (pc := 72) C d_M_faultOf_72 rfl (lv_at hl 2 rfl) ?_
              refine r_get (pc := 73) (v := .ref q9) C w i_M rfl 0 rfl 13 (by decide) fl_M_34 rfl rfl d_M_faultOf_73 ?_
              refine r_aload_n (pc := 76) C d_M_faultOf_76 rfl (lv_at hl 2 rfl) ?_
              refine r_get (pc := 77) (v := .int (iI n1)) C w i_M rfl 0 rfl 14 (by decide) fl_M_137 rfl rfl d_M_faultOf_77 ?_
              refine r_iconst (pc := 80) C d_M_faultOf_80 ?_
              refine r_iast (pc := 81) (f := l1) (i := n1) (v := 1) (ws' := mw cI q0 q1 q2 q3 q4 q5 q6 q7 q8 q9 nw pt np sl sv li ot len pd ty wr wm (up s1 n1 ((pd k) - 48)) (up l1 n1 1) n1) C w 0 9 rfl hT.1 (by omega) rfl d_M_faultOf_81 (fun H locs w => ?_)
              refine r_aload_n (pc := 82) C d_M_faultOf_82 rfl (lv_at hl 2 rfl) ?_
              refine r_dup (pc := 83) C d_M_faultOf_83 rfl ?_
              refine r_get (pc := 84) (v := .int (iI n1)) C w i_M rfl 0 rfl 14 (by decide) fl_M_137 rfl rfl d_M_faultOf_84 ?_
              refine r_iconst (pc := 87) C d_M_faultOf_87 ?_
              refine r_iadd (pc := 88) C d_M_faultOf_88 ?_
              refine r_put (pc := 89) (ws' := mw cI q0 q1 q2 q3 q4 q5 q6 q7 q8 q9 nw pt np sl sv li ot len pd ty wr wm (up s1 n1 ((pd k) - 48)) (up l1 n1 1) (n1 + 1)) C w i_M t_M t_M_ok n_M rfl 0 rfl 14 (by decide) fl_M_137 rfl rfl rfl rfl (Nat.le_of_ble_eq_true rfl) rfl d_M_faultOf_89 (fun H locs w => ?_)
              have hN : pst T (k + 1) = (1, cT + 1, up ST cT (if T k = 120 then 10 else T k - 48), up LT cT 1) := by
                rw [pst_succ T (by omega), ← hP]
                unfold pnx
                show (if sT = 0 then _ else if T k = 42 then _ else if T k = 59 then _ else if sT = 2 then _ else _) = _
                rw [if_pos (by omega)]
              refine r_iconst (pc := 92) C d_M_faultOf_92 ?_
              refine r_istore_n (pc := 93) (lv' := [(1, .int (iI 1)), (4, .int (iI z_29)), (3, .int (iI (pd k))), (0, .ref q0), (2, .int (iI k))]) C d_M_faultOf_93 rfl hl (by decide) rfl (fun ls hl => ?_)
              refine r_goto (pc := 94) (tgt := 237) C d_M_faultOf_94 (by decide) ?_
              refine r_iinc (pc := 237) (j := 4) (lv' := [(2, .int (iI (k + 1))), (1, .int (iI 1)), (4, .int (iI z_29)), (3, .int (iI (pd k))), (0, .ref q0)]) C d_M_faultOf_237 hl rfl (by decide) rfl (fun ls hl => ?_)
              refine r_goto (pc := 240) (tgt := 9) C d_M_faultOf_240 (by decide) ?_
              exact ih9 (k + 1) 1 (up s1 n1 ((pd k) - 48)) (up l1 n1 1) (n1 + 1) (by omega) ((lgs_succ hlg (by rw [← hP]; show lg (T k) sT (LT (cT - 1)); unfold lg; omega))) ((by rw [hN] <;> omega)) ((by rw [hN]; first | exact hn | (show n1 + 1 = cT + 1; omega))) ((by rw [hN]; first | exact hsl | exact sl_new hn hsl (by split <;> omega) | exact sl_upd hn hsl (by omega))) (by omega) _ _ _ w (lv_sub hl [4, 1, 0] rfl)
          · skip
            refine r_iload_n (pc := 43) C d_M_faultOf_43 rfl (lv_at hl 1 rfl) ?_
            refine r_bipush (pc := 44) C d_M_faultOf_44 (by decide) ?_
            refine r_icmp_ne (pc := 46) (tgt := 97) C (by omega) d_M_faultOf_46 (by decide) (fun c_46 => ?_) (fun c_46 => ?_)
            · skip
              refine r_iload_n (pc := 97) C d_M_faultOf_97 rfl (lv_at hl 3 rfl) ?_
              refine r_iconst (pc := 98) C d_M_faultOf_98 ?_
              refine r_icmp_ne (pc := 99) (tgt := 113) C (by omega) d_M_faultOf_99 (by decide) (fun c_99 => ?_) (fun c_99 => ?_)
              · skip
                refine r_iload_n (pc := 113) C d_M_faultOf_113 rfl (lv_at hl 3 rfl) ?_
                refine r_iconst (pc := 114) C d_M_faultOf_114 ?_
                refine r_irem (pc := 115) C d_M_faultOf_115 (by omega) ?_
                refine r_iconst (pc := 116) C d_M_faultOf_116 ?_
                refine r_icmp_ne (pc := 117) (tgt := 131) C (by omega) d_M_faultOf_117 (by decide) (fun c_117 => ?_) (fun c_117 => ?_)
                · skip
                  refine r_iload_n (pc := 131) C d_M_faultOf_131 rfl (lv_at hl 3 rfl) ?_
                  refine r_iconst (pc := 132) C d_M_faultOf_132 ?_
                  refine r_icmp_ne (pc := 133) (tgt := 167) C (by omega) d_M_faultOf_133 (by decide) (fun c_133 => ?_) (fun c_133 => ?_)
                  · skip
                    refine r_iload_n (pc := 167) C d_M_faultOf_167 rfl (lv_at hl 3 rfl) ?_
                    refine r_iconst (pc := 168) C d_M_faultOf_168 ?_
                    refine r_icmp_ne (pc := 169) (tgt := 235) C (by omega) d_M_faultOf_169 (by decide) (fun c_169 => ?_) (fun c_169 => ?_)
                    · skip
                      refine r_iload_n (pc := 235) C d_M_faultOf_235 rfl (lv_at hl 4 rfl) ?_
                      exact kret _ _ _ _ k _ d_M_faultOf_236 w (⟨_, _, _, rfl, Or.inl ⟨k, by omega, by omega, hlg, by rw [← hP]; show ¬ lg (T k) sT (LT (cT - 1)); unfold lg; omega, rfl⟩, fun q => by omega⟩)
                    · skip
                      refine r_iload (pc := 172) C d_M_faultOf_172 (lv_at hl 0 rfl) ?_
                      refine r_if_eq (pc := 174) (tgt := 235) C (by omega) d_M_faultOf_174 (by decide) (fun c_174 => ?_) (fun c_174 => ?_)
                      · skip
                        refine r_iload_n (pc := 235) C d_M_faultOf_235 rfl (lv_at hl 4 rfl) ?_
                        exact kret _ _ _ _ k _ d_M_faultOf_236 w (⟨_, _, _, rfl, Or.inl ⟨k, by omega, by omega, hlg, by rw [← hP]; show ¬ lg (T k) sT (LT (cT - 1)); unfold lg; omega, rfl⟩, fun q => by omega⟩)
                      · skip
                        have p4 := p4 (by omega)
                        have p6 := p5 (cT - 1) (by omega) (by omega)
                        have p7 := hsl (n1 - 1) (by omega) (by omega)
                        rw [show n1 - 1 = cT - 1 by omega] at p7
                        have p8 : l1 (n1 - 1) = LT (cT - 1) := by rw [show n1 - 1 = cT - 1 by omega]; exact p7.2
                        refine r_bipush (pc := 177) C d_M_faultOf_177 (by decide) ?_
                        refine r_aload_n (pc := 179) C d_M_faultOf_179 rfl (lv_at hl 2 rfl) ?_
                        refine r_get (pc := 180) (v := .ref q9) C w i_M rfl 0 rfl 13 (by decide) fl_M_34 rfl rfl d_M_faultOf_180 ?_
                        refine r_aload_n (pc := 183) C d_M_faultOf_183 rfl (lv_at hl 2 rfl) ?_
                        refine r_get (pc := 184) (v := .int (iI n1)) C w i_M rfl 0 rfl 14 (by decide) fl_M_137 rfl rfl d_M_faultOf_184 ?_
                        refine r_iconst (pc := 187) C d_M_faultOf_187 ?_
                        refine r_isub (pc := 188) C d_M_faultOf_188 ?_
                        refine r_iald (pc := 189) (f := l1) (i := (n1 - 1)) C w 0 9 rfl hT.1 (by omega) d_M_faultOf_189 ?_
                        refine r_imul (pc := 190) C d_M_faultOf_190 ?_
                        refine r_iload_n (pc := 191) C d_M_faultOf_191 rfl (lv_at hl 1 rfl) ?_
                        refine r_iadd (pc := 192) C d_M_faultOf_192 ?_
                        refine r_bipush (pc := 193) C d_M_faultOf_193 (by decide) ?_
                        refine r_isub (pc := 195) C d_M_faultOf_195 ?_
                        refine r_sipush (pc := 196) C d_M_faultOf_196 (by decide) ?_
                        refine r_icmp_gt (pc := 199) (tgt := 235) C (by omega) d_M_faultOf_199 (by decide) (fun c_199 => ?_) (fun c_199 => ?_)
                        · skip
                          refine r_iload_n (pc := 235) C d_M_faultOf_235 rfl (lv_at hl 4 rfl) ?_
                          exact kret _ _ _ _ k _ d_M_faultOf_236 w (⟨_, _, _, rfl, Or.inl ⟨k, by omega, by omega, hlg, by rw [← hP]; show ¬ lg (T k) sT (LT (cT - 1)); unfold lg; omega, rfl⟩, fun q => by omega⟩)
                        · skip
                          refine r_aload_n (pc := 202) C d_M_faultOf_202 rfl (lv_at hl 2 rfl) ?_
                          refine r_get (pc := 203) (v := .ref q9) C w i_M rfl 0 rfl 13 (by decide) fl_M_34 rfl rfl d_M_faultOf_203 ?_
                          refine r_aload_n (pc := 206) C d_M_faultOf_206 rfl (lv_at hl 2 rfl) ?_
                          refine r_get (pc := 207) (v := .int (iI n1)) C w i_M rfl 0 rfl 14 (by decide) fl_M_137 rfl rfl d_M_faultOf_207 ?_
                          refine r_iconst (pc := 210) C d_M_faultOf_210 ?_
                          refine r_isub (pc := 211) C d_M_faultOf_211 ?_
                          refine r_bipush (pc := 212) C d_M_faultOf_212 (by decide) ?_
                          refine r_aload_n (pc := 214) C d_M_faultOf_214 rfl (lv_at hl 2 rfl) ?_
                          refine r_get (pc := 215) (v := .ref q9) C w i_M rfl 0 rfl 13 (by decide) fl_M_34 rfl rfl d_M_faultOf_215 ?_
                          refine r_aload_n (pc := 218) C d_M_faultOf_218 rfl (lv_at hl 2 rfl) ?_
                          refine r_get (pc := 219) (v := .int (iI n1)) C w i_M rfl 0 rfl 14 (by decide) fl_M_137 rfl rfl d_M_faultOf_219 ?_
                          refine r_iconst (pc := 222) C d_M_faultOf_222 ?_
                          refine r_isub (pc := 223) C d_M_faultOf_223 ?_
                          refine r_iald (pc := 224) (f := l1) (i := (n1 - 1)) C w 0 9 rfl hT.1 (by omega) d_M_faultOf_224 ?_
                          refine r_imul (pc := 225) C d_M_faultOf_225 ?_
                          refine r_iload_n (pc := 226) C d_M_faultOf_226 rfl (lv_at hl 1 rfl) ?_
                          refine r_iadd (pc := 227) C d_M_faultOf_227 ?_
                          refine r_bipush (pc := 228) C d_M_faultOf_228 (by decide) ?_
                          refine r_isub (pc := 230) C d_M_faultOf_230 ?_
                          refine r_iast (pc := 231) (f := l1) (i := (n1 - 1)) (v := (((10 * (l1 (n1 - 1))) + (pd k)) - 48)) (ws' := mw cI q0 q1 q2 q3 q4 q5 q6 q7 q8 q9 nw pt np sl sv li ot len pd ty wr wm s1 (up l1 (n1 - 1) (((10 * (l1 (n1 - 1))) + (pd k)) - 48)) n1) C w 0 9 rfl hT.1 (by omega) rfl d_M_faultOf_231 (fun H locs w => ?_)
                          have hN : pst T (k + 1) = (3, cT, ST, up LT (cT - 1) (10 * LT (cT - 1) + T k - 48)) := by
                            rw [pst_succ T (by omega), ← hP]
                            unfold pnx
                            show (if sT = 0 then _ else if T k = 42 then _ else if T k = 59 then _ else if sT = 2 then _ else _) = _
                            rw [if_neg (by omega), if_neg (by omega), if_neg (by omega), if_neg (by omega)]
                          refine r_goto (pc := 232) (tgt := 237) C d_M_faultOf_232 (by decide) ?_
                          refine r_iinc (pc := 237) (j := 4) (lv' := [(2, .int (iI (k + 1))), (4, .int (iI z_29)), (3, .int (iI (pd k))), (0, .ref q0), (1, .int (iI st))]) C d_M_faultOf_237 hl rfl (by decide) rfl (fun ls hl => ?_)
                          refine r_goto (pc := 240) (tgt := 9) C d_M_faultOf_240 (by decide) ?_
                          exact ih9 (k + 1) st s1 (up l1 (n1 - 1) (((10 * (l1 (n1 - 1))) + (pd k)) - 48)) n1 (by omega) ((lgs_succ hlg (by rw [← hP]; show lg (T k) sT (LT (cT - 1)); unfold lg; omega))) ((by rw [hN] <;> omega)) ((by rw [hN]; first | exact hn | (show n1 + 1 = cT + 1; omega))) ((by rw [hN]; first | exact hsl | exact sl_new hn hsl (by split <;> omega) | exact sl_upd hn hsl (by omega))) (by omega) _ _ _ w (lv_sub hl [3, 4, 0] rfl)
                  · skip
                    refine r_iload_n (pc := 136) C d_M_faultOf_136 rfl (lv_at hl 1 rfl) ?_
                    refine r_bipush (pc := 137) C d_M_faultOf_137 (by decide) ?_
                    refine r_bipush (pc := 139) C d_M_faultOf_139 (by decide) ?_
                    refine r_callP (pc := 141) (As := [.int (iI (pd k)), .int (iI 49), .int (iI 57)]) (rest := []) C w (c_M_in (pd k) 49 57 (by omega)) ml_M_75 st_M_in ini_M cd_M_in hd_M_in rfl (by rw [hRm]; exact ⟨⟨Nat.le_of_ble_eq_true rfl, Nat.le_of_ble_eq_true rfl⟩, Nat.le_of_ble_eq_true rfl, Nat.le_of_ble_eq_true rfl⟩) hl.1 rfl (Nat.le_of_ble_eq_true rfl) d_M_faultOf_141 (fun z_141 H locs hz_141 w => ?_)
                    refine r_if_eq (pc := 144) (tgt := 167) C (by omega) d_M_faultOf_144 (by decide) (fun c_144 => ?_) (fun c_144 => ?_)
                    · skip
                      refine r_iload_n (pc := 167) C d_M_faultOf_167 rfl (lv_at hl 3 rfl) ?_
                      refine r_iconst (pc := 168) C d_M_faultOf_168 ?_
                      refine r_icmp_ne (pc := 169) (tgt := 235) C (by omega) d_M_faultOf_169 (by decide) (fun c_169 => ?_) (fun c_169 => ?_)
                      · skip
                        refine r_iload_n (pc := 235) C d_M_faultOf_235 rfl (lv_at hl 4 rfl) ?_
                        exact kret _ _ _ _ k _ d_M_faultOf_236 w (⟨_, _, _, rfl, Or.inl ⟨k, by omega, by omega, hlg, by rw [← hP]; show ¬ lg (T k) sT (LT (cT - 1)); unfold lg; omega, rfl⟩, fun q => by omega⟩)
                      · skip
                        refine r_iload (pc := 172) C d_M_faultOf_172 (lv_at hl 0 rfl) ?_
                        refine r_if_eq (pc := 174) (tgt := 235) C (by omega) d_M_faultOf_174 (by decide) (fun c_174 => ?_) (fun c_174 => ?_)
                        · skip
                          refine r_iload_n (pc := 235) C d_M_faultOf_235 rfl (lv_at hl 4 rfl) ?_
                          exact kret _ _ _ _ k _ d_M_faultOf_236 w (⟨_, _, _, rfl, Or.inl ⟨k, by omega, by omega, hlg, by rw [← hP]; show ¬ lg (T k) sT (LT (cT - 1)); unfold lg; omega, rfl⟩, fun q => by omega⟩)
                        · skip
                          have p4 := p4 (by omega)
                          have p6 := p5 (cT - 1) (by omega) (by omega)
                          have p7 := hsl (n1 - 1) (by omega) (by omega)
                          rw [show n1 - 1 = cT - 1 by omega] at p7
                          have p8 : l1 (n1 - 1) = LT (cT - 1) := by rw [show n1 - 1 = cT - 1 by omega]; exact p7.2
                          refine r_bipush (pc := 177) C d_M_faultOf_177 (by decide) ?_
                          refine r_aload_n (pc := 179) C d_M_faultOf_179 rfl (lv_at hl 2 rfl) ?_
                          refine r_get (pc := 180) (v := .ref q9) C w i_M rfl 0 rfl 13 (by decide) fl_M_34 rfl rfl d_M_faultOf_180 ?_
                          refine r_aload_n (pc := 183) C d_M_faultOf_183 rfl (lv_at hl 2 rfl) ?_
                          refine r_get (pc := 184) (v := .int (iI n1)) C w i_M rfl 0 rfl 14 (by decide) fl_M_137 rfl rfl d_M_faultOf_184 ?_
                          refine r_iconst (pc := 187) C d_M_faultOf_187 ?_
                          refine r_isub (pc := 188) C d_M_faultOf_188 ?_
                          refine r_iald (pc := 189) (f := l1) (i := (n1 - 1)) C w 0 9 rfl hT.1 (by omega) d_M_faultOf_189 ?_
                          refine r_imul (pc := 190) C d_M_faultOf_190 ?_
                          refine r_iload_n (pc := 191) C d_M_faultOf_191 rfl (lv_at hl 1 rfl) ?_
                          refine r_iadd (pc := 192) C d_M_faultOf_192 ?_
                          refine r_bipush (pc := 193) C d_M_faultOf_193 (by decide) ?_
                          refine r_isub (pc := 195) C d_M_faultOf_195 ?_
                          refine r_sipush (pc := 196) C d_M_faultOf_196 (by decide) ?_
                          refine r_icmp_gt (pc := 199) (tgt := 235) C (by omega) d_M_faultOf_199 (by decide) (fun c_199 => ?_) (fun c_199 => ?_)
                          · skip
                            refine r_iload_n (pc := 235) C d_M_faultOf_235 rfl (lv_at hl 4 rfl) ?_
                            exact kret _ _ _ _ k _ d_M_faultOf_236 w (⟨_, _, _, rfl, Or.inl ⟨k, by omega, by omega, hlg, by rw [← hP]; show ¬ lg (T k) sT (LT (cT - 1)); unfold lg; omega, rfl⟩, fun q => by omega⟩)
                          · skip
                            refine r_aload_n (pc := 202) C d_M_faultOf_202 rfl (lv_at hl 2 rfl) ?_
                            refine r_get (pc := 203) (v := .ref q9) C w i_M rfl 0 rfl 13 (by decide) fl_M_34 rfl rfl d_M_faultOf_203 ?_
                            refine r_aload_n (pc := 206) C d_M_faultOf_206 rfl (lv_at hl 2 rfl) ?_
                            refine r_get (pc := 207) (v := .int (iI n1)) C w i_M rfl 0 rfl 14 (by decide) fl_M_137 rfl rfl d_M_faultOf_207 ?_
                            refine r_iconst (pc := 210) C d_M_faultOf_210 ?_
                            refine r_isub (pc := 211) C d_M_faultOf_211 ?_
                            refine r_bipush (pc := 212) C d_M_faultOf_212 (by decide) ?_
                            refine r_aload_n (pc := 214) C d_M_faultOf_214 rfl (lv_at hl 2 rfl) ?_
                            refine r_get (pc := 215) (v := .ref q9) C w i_M rfl 0 rfl 13 (by decide) fl_M_34 rfl rfl d_M_faultOf_215 ?_
                            refine r_aload_n (pc := 218) C d_M_faultOf_218 rfl (lv_at hl 2 rfl) ?_
                            refine r_get (pc := 219) (v := .int (iI n1)) C w i_M rfl 0 rfl 14 (by decide) fl_M_137 rfl rfl d_M_faultOf_219 ?_
                            refine r_iconst (pc := 222) C d_M_faultOf_222 ?_
                            refine r_isub (pc := 223) C d_M_faultOf_223 ?_
                            refine r_iald (pc := 224) (f := l1) (i := (n1 - 1)) C w 0 9 rfl hT.1 (by omega) d_M_faultOf_224 ?_
                            refine r_imul (pc := 225) C d_M_faultOf_225 ?_
                            refine r_iload_n (pc := 226) C d_M_faultOf_226 rfl (lv_at hl 1 rfl) ?_
                            refine r_iadd (pc := 227) C d_M_faultOf_227 ?_
                            refine r_bipush (pc := 228) C d_M_faultOf_228 (by decide) ?_
                            refine r_isub (pc := 230) C d_M_faultOf_230 ?_
                            refine r_iast (pc := 231) (f := l1) (i := (n1 - 1)) (v := (((10 * (l1 (n1 - 1))) + (pd k)) - 48)) (ws' := mw cI q0 q1 q2 q3 q4 q5 q6 q7 q8 q9 nw pt np sl sv li ot len pd ty wr wm s1 (up l1 (n1 - 1) (((10 * (l1 (n1 - 1))) + (pd k)) - 48)) n1) C w 0 9 rfl hT.1 (by omega) rfl d_M_faultOf_231 (fun H locs w => ?_)
                            have hN : pst T (k + 1) = (3, cT, ST, up LT (cT - 1) (10 * LT (cT - 1) + T k - 48)) := by
                              rw [pst_succ T (by omega), ← hP]
                              unfold pnx
                              show (if sT = 0 then _ else if T k = 42 then _ else if T k = 59 then _ else if sT = 2 then _ else _) = _
                              rw [if_neg (by omega), if_neg (by omega), if_neg (by omega), if_neg (by omega)]
                            refine r_goto (pc := 232) (tgt := 237) C d_M_faultOf_232 (by decide) ?_
                            refine r_iinc (pc := 237) (j := 4) (lv' := [(2, .int (iI (k + 1))), (4, .int (iI z_29)), (3, .int (iI (pd k))), (0, .ref q0), (1, .int (iI st))]) C d_M_faultOf_237 hl rfl (by decide) rfl (fun ls hl => ?_)
                            refine r_goto (pc := 240) (tgt := 9) C d_M_faultOf_240 (by decide) ?_
                            exact ih9 (k + 1) st s1 (up l1 (n1 - 1) (((10 * (l1 (n1 - 1))) + (pd k)) - 48)) n1 (by omega) ((lgs_succ hlg (by rw [← hP]; show lg (T k) sT (LT (cT - 1)); unfold lg; omega))) ((by rw [hN] <;> omega)) ((by rw [hN]; first | exact hn | (show n1 + 1 = cT + 1; omega))) ((by rw [hN]; first | exact hsl | exact sl_new hn hsl (by split <;> omega) | exact sl_upd hn hsl (by omega))) (by omega) _ _ _ w (lv_sub hl [3, 4, 0] rfl)
                    · skip
                      have p4 := p4 (by omega)
                      refine r_aload_n (pc := 147) C d_M_faultOf_147 rfl (lv_at hl 2 rfl) ?_
                      refine r_get (pc := 148) (v := .ref q9) C w i_M rfl 0 rfl 13 (by decide) fl_M_34 rfl rfl d_M_faultOf_148 ?_
                      refine r_aload_n (pc := 151) C d_M_faultOf_151 rfl (lv_at hl 2 rfl) ?_
                      refine r_get (pc := 152) (v := .int (iI n1)) C w i_M rfl 0 rfl 14 (by decide) fl_M_137 rfl rfl d_M_faultOf_152 ?_
                      refine r_iconst (pc := 155) C d_M_faultOf_155 ?_
                      refine r_isub (pc := 156) C d_M_faultOf_156 ?_
                      refine r_iload_n (pc := 157) C d_M_faultOf_157 rfl (lv_at hl 1 rfl) ?_
                      refine r_bipush (pc := 158) C d_M_faultOf_158 (by decide) ?_
                      refine r_isub (pc := 160) C d_M_faultOf_160 ?_
                      refine r_iast (pc := 161) (f := l1) (i := (n1 - 1)) (v := ((pd k) - 48)) (ws' := mw cI q0 q1 q2 q3 q4 q5 q6 q7 q8 q9 nw pt np sl sv li ot len pd ty wr wm s1 (up l1 (n1 - 1) ((pd k) - 48)) n1) C w 0 9 rfl hT.1 (by omega) rfl d_M_faultOf_161 (fun H locs w => ?_)
                      have hN : pst T (k + 1) = (3, cT, ST, up LT (cT - 1) (T k - 48)) := by
                        rw [pst_succ T (by omega), ← hP]
                        unfold pnx
                        show (if sT = 0 then _ else if T k = 42 then _ else if T k = 59 then _ else if sT = 2 then _ else _) = _
                        rw [if_neg (by omega), if_neg (by omega), if_neg (by omega), if_pos (by omega)]
                      refine r_iconst (pc := 162) C d_M_faultOf_162 ?_
                      refine r_istore_n (pc := 163) (lv' := [(1, .int (iI 3)), (4, .int (iI z_29)), (3, .int (iI (pd k))), (0, .ref q0), (2, .int (iI k))]) C d_M_faultOf_163 rfl hl (by decide) rfl (fun ls hl => ?_)
                      refine r_goto (pc := 164) (tgt := 237) C d_M_faultOf_164 (by decide) ?_
                      refine r_iinc (pc := 237) (j := 4) (lv' := [(2, .int (iI (k + 1))), (1, .int (iI 3)), (4, .int (iI z_29)), (3, .int (iI (pd k))), (0, .ref q0)]) C d_M_faultOf_237 hl rfl (by decide) rfl (fun ls hl => ?_)
                      refine r_goto (pc := 240) (tgt := 9) C d_M_faultOf_240 (by decide) ?_
                      exact ih9 (k + 1) 3 s1 (up l1 (n1 - 1) ((pd k) - 48)) n1 (by omega) ((lgs_succ hlg (by rw [← hP]; show lg (T k) sT (LT (cT - 1)); unfold lg; omega))) ((by rw [hN] <;> omega)) ((by rw [hN]; first | exact hn | (show n1 + 1 = cT + 1; omega))) ((by rw [hN]; first | exact hsl | exact sl_new hn hsl (by split <;> omega) | exact sl_upd hn hsl (by omega))) (by omega) _ _ _ w (lv_sub hl [4, 1, 0] rfl)
                · skip
                  refine r_iload_n (pc := 120) C d_M_faultOf_120 rfl (lv_at hl 1 rfl) ?_
                  refine r_bipush (pc := 121) C d_M_faultOf_121 (by decide) ?_
                  refine r_icmp_ne (pc := 123) (tgt := 131) C (by omega) d_M_faultOf_123 (by decide) (fun c_123 => ?_) (fun c_123 => ?_)
                  · skip
                    refine r_iload_n (pc := 131) C d_M_faultOf_131 rfl (lv_at hl 3 rfl) ?_
                    refine r_iconst (pc := 132) C d_M_faultOf_132 ?_
                    refine r_icmp_ne (pc := 133) (tgt := 167) C (by omega) d_M_faultOf_133 (by decide) (fun c_133 => ?_) (fun c_133 => ?_)
                    · skip
                      refine r_iload_n (pc := 167) C d_M_faultOf_167 rfl (lv_at hl 3 rfl) ?_
                      refine r_iconst (pc := 168) C d_M_faultOf_168 ?_
                      refine r_icmp_ne (pc := 169) (tgt := 235) C (by omega) d_M_faultOf_169 (by decide) (fun c_169 => ?_) (fun c_169 => ?_)
                      · skip
                        refine r_iload_n (pc := 235) C d_M_faultOf_235 rfl (lv_at hl 4 rfl) ?_
                        exact kret _ _ _ _ k _ d_M_faultOf_236 w (⟨_, _, _, rfl, Or.inl ⟨k, by omega, by omega, hlg, by rw [← hP]; show ¬ lg (T k) sT (LT (cT - 1)); unfold lg; omega, rfl⟩, fun q => by omega⟩)
                      · skip
                        refine r_iload (pc := 172) C d_M_faultOf_172 (lv_at hl 0 rfl) ?_
                        refine r_if_eq (pc := 174) (tgt := 235) C (by omega) d_M_faultOf_174 (by decide) (fun c_174 => ?_) (fun c_174 => ?_)
                        · skip
                          refine r_iload_n (pc := 235) C d_M_faultOf_235 rfl (lv_at hl 4 rfl) ?_
                          exact kret _ _ _ _ k _ d_M_faultOf_236 w (⟨_, _, _, rfl, Or.inl ⟨k, by omega, by omega, hlg, by rw [← hP]; show ¬ lg (T k) sT (LT (cT - 1)); unfold lg; omega, rfl⟩, fun q => by omega⟩)
                        · skip
                          have p4 := p4 (by omega)
                          have p6 := p5 (cT - 1) (by omega) (by omega)
                          have p7 := hsl (n1 - 1) (by omega) (by omega)
                          rw [show n1 - 1 = cT - 1 by omega] at p7
                          have p8 : l1 (n1 - 1) = LT (cT - 1) := by rw [show n1 - 1 = cT - 1 by omega]; exact p7.2
                          refine r_bipush (pc := 177) C d_M_faultOf_177 (by decide) ?_
                          refine r_aload_n (pc := 179) C d_M_faultOf_179 rfl (lv_at hl 2 rfl) ?_
                          refine r_get (pc := 180) (v := .ref q9) C w i_M rfl 0 rfl 13 (by decide) fl_M_34 rfl rfl d_M_faultOf_180 ?_
                          refine r_aload_n (pc := 183) C d_M_faultOf_183 rfl (lv_at hl 2 rfl) ?_
                          refine r_get (pc := 184) (v := .int (iI n1)) C w i_M rfl 0 rfl 14 (by decide) fl_M_137 rfl rfl d_M_faultOf_184 ?_
                          refine r_iconst (pc := 187) C d_M_faultOf_187 ?_
                          refine r_isub (pc := 188) C d_M_faultOf_188 ?_
                          refine r_iald (pc := 189) (f := l1) (i := (n1 - 1)) C w 0 9 rfl hT.1 (by omega) d_M_faultOf_189 ?_
                          refine r_imul (pc := 190) C d_M_faultOf_190 ?_
                          refine r_iload_n (pc := 191) C d_M_faultOf_191 rfl (lv_at hl 1 rfl) ?_
                          refine r_iadd (pc := 192) C d_M_faultOf_192 ?_
                          refine r_bipush (pc := 193) C d_M_faultOf_193 (by decide) ?_
                          refine r_isub (pc := 195) C d_M_faultOf_195 ?_
                          refine r_sipush (pc := 196) C d_M_faultOf_196 (by decide) ?_
                          refine r_icmp_gt (pc := 199) (tgt := 235) C (by omega) d_M_faultOf_199 (by decide) (fun c_199 => ?_) (fun c_199 => ?_)
                          · skip
                            refine r_iload_n (pc := 235) C d_M_faultOf_235 rfl (lv_at hl 4 rfl) ?_
                            exact kret _ _ _ _ k _ d_M_faultOf_236 w (⟨_, _, _, rfl, Or.inl ⟨k, by omega, by omega, hlg, by rw [← hP]; show ¬ lg (T k) sT (LT (cT - 1)); unfold lg; omega, rfl⟩, fun q => by omega⟩)
                          · skip
                            refine r_aload_n (pc := 202) C d_M_faultOf_202 rfl (lv_at hl 2 rfl) ?_
                            refine r_get (pc := 203) (v := .ref q9) C w i_M rfl 0 rfl 13 (by decide) fl_M_34 rfl rfl d_M_faultOf_203 ?_
                            refine r_aload_n (pc := 206) C d_M_faultOf_206 rfl (lv_at hl 2 rfl) ?_
                            refine r_get (pc := 207) (v := .int (iI n1)) C w i_M rfl 0 rfl 14 (by decide) fl_M_137 rfl rfl d_M_faultOf_207 ?_
                            refine r_iconst (pc := 210) C d_M_faultOf_210 ?_
                            refine r_isub (pc := 211) C d_M_faultOf_211 ?_
                            refine r_bipush (pc := 212) C d_M_faultOf_212 (by decide) ?_
                            refine r_aload_n (pc := 214) C d_M_faultOf_214 rfl (lv_at hl 2 rfl) ?_
                            refine r_get (pc := 215) (v := .ref q9) C w i_M rfl 0 rfl 13 (by decide) fl_M_34 rfl rfl d_M_faultOf_215 ?_
                            refine r_aload_n (pc := 218) C d_M_faultOf_218 rfl (lv_at hl 2 rfl) ?_
                            refine r_get (pc := 219) (v := .int (iI n1)) C w i_M rfl 0 rfl 14 (by decide) fl_M_137 rfl rfl d_M_faultOf_219 ?_
                            refine r_iconst (pc := 222) C d_M_faultOf_222 ?_
                            refine r_isub (pc := 223) C d_M_faultOf_223 ?_
                            refine r_iald (pc := 224) (f := l1) (i := (n1 - 1)) C w 0 9 rfl hT.1 (by omega) d_M_faultOf_224 ?_
                            refine r_imul (pc := 225) C d_M_faultOf_225 ?_
                            refine r_iload_n (pc := 226) C d_M_faultOf_226 rfl (lv_at hl 1 rfl) ?_
                            refine r_iadd (pc := 227) C d_M_faultOf_227 ?_
                            refine r_bipush (pc := 228) C d_M_faultOf_228 (by decide) ?_
                            refine r_isub (pc := 230) C d_M_faultOf_230 ?_
                            refine r_iast (pc := 231) (f := l1) (i := (n1 - 1)) (v := (((10 * (l1 (n1 - 1))) + (pd k)) - 48)) (ws' := mw cI q0 q1 q2 q3 q4 q5 q6 q7 q8 q9 nw pt np sl sv li ot len pd ty wr wm s1 (up l1 (n1 - 1) (((10 * (l1 (n1 - 1))) + (pd k)) - 48)) n1) C w 0 9 rfl hT.1 (by omega) rfl d_M_faultOf_231 (fun H locs w => ?_)
                            have hN : pst T (k + 1) = (3, cT, ST, up LT (cT - 1) (10 * LT (cT - 1) + T k - 48)) := by
                              rw [pst_succ T (by omega), ← hP]
                              unfold pnx
                              show (if sT = 0 then _ else if T k = 42 then _ else if T k = 59 then _ else if sT = 2 then _ else _) = _
                              rw [if_neg (by omega), if_neg (by omega), if_neg (by omega), if_neg (by omega)]
                            refine r_goto (pc := 232) (tgt := 237) C d_M_faultOf_232 (by decide) ?_
                            refine r_iinc (pc := 237) (j := 4) (lv' := [(2, .int (iI (k + 1))), (4, .int (iI z_29)), (3, .int (iI (pd k))), (0, .ref q0), (1, .int (iI st))]) C d_M_faultOf_237 hl rfl (by decide) rfl (fun ls hl => ?_)
                            refine r_goto (pc := 240) (tgt := 9) C d_M_faultOf_240 (by decide) ?_
                            exact ih9 (k + 1) st s1 (up l1 (n1 - 1) (((10 * (l1 (n1 - 1))) + (pd k)) - 48)) n1 (by omega) ((lgs_succ hlg (by rw [← hP]; show lg (T k) sT (LT (cT - 1)); unfold lg; omega))) ((by rw [hN] <;> omega)) ((by rw [hN]; first | exact hn | (show n1 + 1 = cT + 1; omega))) ((by rw [hN]; first | exact hsl | exact sl_new hn hsl (by split <;> omega) | exact sl_upd hn hsl (by omega))) (by omega) _ _ _ w (lv_sub hl [3, 4, 0] rfl)
                    · skip
                      refine r_iload_n (pc := 136) C d_M_faultOf_136 rfl (lv_at hl 1 rfl) ?_
                      refine r_bipush (pc := 137) C d_M_faultOf_137 (by decide) ?_
                      refine r_bipush (pc := 139) C d_M_faultOf_139 (by decide) ?_
                      refine r_callP (pc := 141) (As := [.int (iI (pd k)), .int (iI 49), .int (iI 57)]) (rest := []) C w (c_M_in (pd k) 49 57 (by omega)) ml_M_75 st_M_in ini_M cd_M_in hd_M_in rfl (by rw [hRm]; exact ⟨⟨Nat.le_of_ble_eq_true rfl, Nat.le_of_ble_eq_true rfl⟩, Nat.le_of_ble_eq_true rfl, Nat.le_of_ble_eq_true rfl⟩) hl.1 rfl (Nat.le_of_ble_eq_true rfl) d_M_faultOf_141 (fun z_141 H locs hz_141 w => ?_)
                      refine r_if_eq (pc := 144) (tgt := 167) C (by omega) d_M_faultOf_144 (by decide) (fun c_144 => ?_) (fun c_144 => ?_)
                      · skip
                        refine r_iload_n (pc := 167) C d_M_faultOf_167 rfl (lv_at hl 3 rfl) ?_
                        refine r_iconst (pc := 168) C d_M_faultOf_168 ?_
                        refine r_icmp_ne (pc := 169) (tgt := 235) C (by omega) d_M_faultOf_169 (by decide) (fun c_169 => ?_) (fun c_169 => ?_)
                        · skip
                          refine r_iload_n (pc := 235) C d_M_faultOf_235 rfl (lv_at hl 4 rfl) ?_
                          exact kret _ _ _ _ k _ d_M_faultOf_236 w (⟨_, _, _, rfl, Or.inl ⟨k, by omega, by omega, hlg, by rw [← hP]; show ¬ lg (T k) sT (LT (cT - 1)); unfold lg; omega, rfl⟩, fun q => by omega⟩)
                        · skip
                          refine r_iload (pc := 172) C d_M_faultOf_172 (lv_at hl 0 rfl) ?_
                          refine r_if_eq (pc := 174) (tgt := 235) C (by omega) d_M_faultOf_174 (by decide) (fun c_174 => ?_) (fun c_174 => ?_)
                          · skip
                            refine r_iload_n (pc := 235) C d_M_faultOf_235 rfl (lv_at hl 4 rfl) ?_
                            exact kret _ _ _ _ k _ d_M_faultOf_236 w (⟨_, _, _, rfl, Or.inl ⟨k, by omega, by omega, hlg, by rw [← hP]; show ¬ lg (T k) sT (LT (cT - 1)); unfold lg; omega, rfl⟩, fun q => by omega⟩)
                          · skip
                            have p4 := p4 (by omega)
                            have p6 := p5 (cT - 1) (by omega) (by omega)
                            have p7 := hsl (n1 - 1) (by omega) (by omega)
                            rw [show n1 - 1 = cT - 1 by omega] at p7
                            have p8 : l1 (n1 - 1) = LT (cT - 1) := by rw [show n1 - 1 = cT - 1 by omega]; exact p7.2
                            refine r_bipush (pc := 177) C d_M_faultOf_177 (by decide) ?_
                            refine r_aload_n (pc := 179) C d_M_faultOf_179 rfl (lv_at hl 2 rfl) ?_
                            refine r_get (pc := 180) (v := .ref q9) C w i_M rfl 0 rfl 13 (by decide) fl_M_34 rfl rfl d_M_faultOf_180 ?_
                            refine r_aload_n (pc := 183) C d_M_faultOf_183 rfl (lv_at hl 2 rfl) ?_
                            refine r_get (pc := 184) (v := .int (iI n1)) C w i_M rfl 0 rfl 14 (by decide) fl_M_137 rfl rfl d_M_faultOf_184 ?_
                            refine r_iconst (pc := 187) C d_M_faultOf_187 ?_
                            refine r_isub (pc := 188) C d_M_faultOf_188 ?_
                            refine r_iald (pc := 189) (f := l1) (i := (n1 - 1)) C w 0 9 rfl hT.1 (by omega) d_M_faultOf_189 ?_
                            refine r_imul (pc := 190) C d_M_faultOf_190 ?_
                            refine r_iload_n (pc := 191) C d_M_faultOf_191 rfl (lv_at hl 1 rfl) ?_
                            refine r_iadd (pc := 192) C d_M_faultOf_192 ?_
                            refine r_bipush (pc := 193) C d_M_faultOf_193 (by decide) ?_
                            refine r_isub (pc := 195) C d_M_faultOf_195 ?_
                            refine r_sipush (pc := 196) C d_M_faultOf_196 (by decide) ?_
                            refine r_icmp_gt (pc := 199) (tgt := 235) C (by omega) d_M_faultOf_199 (by decide) (fun c_199 => ?_) (fun c_199 => ?_)
                            · skip
                              refine r_iload_n (pc := 235) C d_M_faultOf_235 rfl (lv_at hl 4 rfl) ?_
                              exact kret _ _ _ _ k _ d_M_faultOf_236 w (⟨_, _, _, rfl, Or.inl ⟨k, by omega, by omega, hlg, by rw [← hP]; show ¬ lg (T k) sT (LT (cT - 1)); unfold lg; omega, rfl⟩, fun q => by omega⟩)
                            · skip
                              refine r_aload_n (pc := 202) C d_M_faultOf_202 rfl (lv_at hl 2 rfl) ?_
                              refine r_get (pc := 203) (v := .ref q9) C w i_M rfl 0 rfl 13 (by decide) fl_M_34 rfl rfl d_M_faultOf_203 ?_
                              refine r_aload_n (pc := 206) C d_M_faultOf_206 rfl (lv_at hl 2 rfl) ?_
                              refine r_get (pc := 207) (v := .int (iI n1)) C w i_M rfl 0 rfl 14 (by decide) fl_M_137 rfl rfl d_M_faultOf_207 ?_
                              refine r_iconst (pc := 210) C d_M_faultOf_210 ?_
                              refine r_isub (pc := 211) C d_M_faultOf_211 ?_
                              refine r_bipush (pc := 212) C d_M_faultOf_212 (by decide) ?_
                              refine r_aload_n (pc := 214) C d_M_faultOf_214 rfl (lv_at hl 2 rfl) ?_
                              refine r_get (pc := 215) (v := .ref q9) C w i_M rfl 0 rfl 13 (by decide) fl_M_34 rfl rfl d_M_faultOf_215 ?_
                              refine r_aload_n (pc := 218) C d_M_faultOf_218 rfl (lv_at hl 2 rfl) ?_
                              refine r_get (pc := 219) (v := .int (iI n1)) C w i_M rfl 0 rfl 14 (by decide) fl_M_137 rfl rfl d_M_faultOf_219 ?_
                              refine r_iconst (pc := 222) C d_M_faultOf_222 ?_
                              refine r_isub (pc := 223) C d_M_faultOf_223 ?_
                              refine r_iald (pc := 224) (f := l1) (i := (n1 - 1)) C w 0 9 rfl hT.1 (by omega) d_M_faultOf_224 ?_
                              refine r_imul (pc := 225) C d_M_faultOf_225 ?_
                              refine r_iload_n (pc := 226) C d_M_faultOf_226 rfl (lv_at hl 1 rfl) ?_
                              refine r_iadd (pc := 227) C d_M_faultOf_227 ?_
                              refine r_bipush (pc := 228) C d_M_faultOf_228 (by decide) ?_
                              refine r_isub (pc := 230) C d_M_faultOf_230 ?_
                              refine r_iast (pc := 231) (f := l1) (i := (n1 - 1)) (v := (((10 * (l1 (n1 - 1))) + (pd k)) - 48)) (ws' := mw cI q0 q1 q2 q3 q4 q5 q6 q7 q8 q9 nw pt np sl sv li ot len pd ty wr wm s1 (up l1 (n1 - 1) (((10 * (l1 (n1 - 1))) + (pd k)) - 48)) n1) C w 0 9 rfl hT.1 (by omega) rfl d_M_faultOf_231 (fun H locs w => ?_)
                              have hN : pst T (k + 1) = (3, cT, ST, up LT (cT - 1) (10 * LT (cT - 1) + T k - 48)) := by
                                rw [pst_succ T (by omega), ← hP]
                                unfold pnx
                                show (if sT = 0 then _ else if T k = 42 then _ else if T k = 59 then _ else if sT = 2 then _ else _) = _
                                rw [if_neg (by omega), if_neg (by omega), if_neg (by omega), if_neg (by omega)]
                              refine r_goto (pc := 232) (tgt := 237) C d_M_faultOf_232 (by decide) ?_
                              refine r_iinc (pc := 237) (j := 4) (lv' := [(2, .int (iI (k + 1))), (4, .int (iI z_29)), (3, .int (iI (pd k))), (0, .ref q0), (1, .int (iI st))]) C d_M_faultOf_237 hl rfl (by decide) rfl (fun ls hl => ?_)
                              refine r_goto (pc := 240) (tgt := 9) C d_M_faultOf_240 (by decide) ?_
                              exact ih9 (k + 1) st s1 (up l1 (n1 - 1) (((10 * (l1 (n1 - 1))) + (pd k)) - 48)) n1 (by omega) ((lgs_succ hlg (by rw [← hP]; show lg (T k) sT (LT (cT - 1)); unfold lg; omega))) ((by rw [hN] <;> omega)) ((by rw [hN]; first | exact hn | (show n1 + 1 = cT + 1; omega))) ((by rw [hN]; first | exact hsl | exact sl_new hn hsl (by split <;> omega) | exact sl_upd hn hsl (by omega))) (by omega) _ _ _ w (lv_sub hl [3, 4, 0] rfl)
                      · skip
                        have p4 := p4 (by omega)
                        refine r_aload_n (pc := 147) C d_M_faultOf_147 rfl (lv_at hl 2 rfl) ?_
                        refine r_get (pc := 148) (v := .ref q9) C w i_M rfl 0 rfl 13 (by decide) fl_M_34 rfl rfl d_M_faultOf_148 ?_
                        refine r_aload_n (pc := 151) C d_M_faultOf_151 rfl (lv_at hl 2 rfl) ?_
                        refine r_get (pc := 152) (v := .int (iI n1)) C w i_M rfl 0 rfl 14 (by decide) fl_M_137 rfl rfl d_M_faultOf_152 ?_
                        refine r_iconst (pc := 155) C d_M_faultOf_155 ?_
                        refine r_isub (pc := 156) C d_M_faultOf_156 ?_
                        refine r_iload_n (pc := 157) C d_M_faultOf_157 rfl (lv_at hl 1 rfl) ?_
                        refine r_bipush (pc := 158) C d_M_faultOf_158 (by decide) ?_
                        refine r_isub (pc := 160) C d_M_faultOf_160 ?_
                        refine r_iast (pc := 161) (f := l1) (i := (n1 - 1)) (v := ((pd k) - 48)) (ws' := mw cI q0 q1 q2 q3 q4 q5 q6 q7 q8 q9 nw pt np sl sv li ot len pd ty wr wm s1 (up l1 (n1 - 1) ((pd k) - 48)) n1) C w 0 9 rfl hT.1 (by omega) rfl d_M_faultOf_161 (fun H locs w => ?_)
                        have hN : pst T (k + 1) = (3, cT, ST, up LT (cT - 1) (T k - 48)) := by
                          rw [pst_succ T (by omega), ← hP]
                          unfold pnx
                          show (if sT = 0 then _ else if T k = 42 then _ else if T k = 59 then _ else if sT = 2 then _ else _) = _
                          rw [if_neg (by omega), if_neg (by omega), if_neg (by omega), if_pos (by omega)]
                        refine r_iconst (pc := 162) C d_M_faultOf_162 ?_
                        refine r_istore_n (pc := 163) (lv' := [(1, .int (iI 3)), (4, .int (iI z_29)), (3, .int (iI (pd k))), (0, .ref q0), (2, .int (iI k))]) C d_M_faultOf_163 rfl hl (by decide) rfl (fun ls hl => ?_)
                        refine r_goto (pc := 164) (tgt := 237) C d_M_faultOf_164 (by decide) ?_
                        refine r_iinc (pc := 237) (j := 4) (lv' := [(2, .int (iI (k + 1))), (1, .int (iI 3)), (4, .int (iI z_29)), (3, .int (iI (pd k))), (0, .ref q0)]) C d_M_faultOf_237 hl rfl (by decide) rfl (fun ls hl => ?_)
                        refine r_goto (pc := 240) (tgt := 9) C d_M_faultOf_240 (by decide) ?_
                        exact ih9 (k + 1) 3 s1 (up l1 (n1 - 1) ((pd k) - 48)) n1 (by omega) ((lgs_succ hlg (by rw [← hP]; show lg (T k) sT (LT (cT - 1)); unfold lg; omega))) ((by rw [hN] <;> omega)) ((by rw [hN]; first | exact hn | (show n1 + 1 = cT + 1; omega))) ((by rw [hN]; first | exact hsl | exact sl_new hn hsl (by split <;> omega) | exact sl_upd hn hsl (by omega))) (by omega) _ _ _ w (lv_sub hl [4, 1, 0] rfl)
                  · skip
                    have hN : pst T (k + 1) = (0, cT, ST, LT) := by
                      rw [pst_succ T (by omega), ← hP]
                      unfold pnx
                      show (if sT = 0 then _ else if T k = 42 then _ else if T k = 59 then _ else if sT = 2 then _ else _) = _
                      rw [if_neg (by omega), if_neg (by omega), if_pos (by omega)]
                    refine r_iconst (pc := 126) C d_M_faultOf_126 ?_
                    refine r_istore_n (pc := 127) (lv' := [(1, .int (iI 0)), (4, .int (iI z_29)), (3, .int (iI (pd k))), (0, .ref q0), (2, .int (iI k))]) C d_M_faultOf_127 rfl hl (by decide) rfl (fun ls hl => ?_)
                    refine r_goto (pc := 128) (tgt := 237) C d_M_faultOf_128 (by decide) ?_
                    refine r_iinc (pc := 237) (j := 4) (lv' := [(2, .int (iI (k + 1))), (1, .int (iI 0)), (4, .int (iI z_29)), (3, .int (iI (pd k))), (0, .ref q0)]) C d_M_faultOf_237 hl rfl (by decide) rfl (fun ls hl => ?_)
                    refine r_goto (pc := 240) (tgt := 9) C d_M_faultOf_240 (by decide) ?_
                    exact ih9 (k + 1) 0 s1 l1 n1 (by omega) ((lgs_succ hlg (by rw [← hP]; show lg (T k) sT (LT (cT - 1)); unfold lg; omega))) ((by rw [hN] <;> omega)) ((by rw [hN]; first | exact hn | (show n1 + 1 = cT + 1; omega))) ((by rw [hN]; first | exact hsl | exact sl_new hn hsl (by split <;> omega) | exact sl_upd hn hsl (by omega))) (by omega) _ _ _ w (lv_sub hl [4, 1, 0] rfl)
              · skip
                refine r_iload_n (pc := 102) C d_M_faultOf_102 rfl (lv_at hl 1 rfl) ?_
                refine r_bipush (pc := 103) C d_M_faultOf_103 (by decide) ?_
                refine r_icmp_ne (pc := 105) (tgt := 113) C (by omega) d_M_faultOf_105 (by decide) (fun c_105 => ?_) (fun c_105 => ?_)
                · skip
                  refine r_iload_n (pc := 113) C d_M_faultOf_113 rfl (lv_at hl 3 rfl) ?_
                  refine r_iconst (pc := 114) C d_M_faultOf_114 ?_
                  refine r_irem (pc := 115) C d_M_faultOf_115 (by omega) ?_
                  refine r_iconst (pc := 116) C d_M_faultOf_116 ?_
                  refine r_icmp_ne (pc := 117) (tgt := 131) C (by omega) d_M_faultOf_117 (by decide) (fun c_117 => ?_) (fun c_117 => ?_)
                  · skip
                    refine r_iload_n (pc := 131) C d_M_faultOf_131 rfl (lv_at hl 3 rfl) ?_
                    refine r_iconst (pc := 132) C d_M_faultOf_132 ?_
                    refine r_icmp_ne (pc := 133) (tgt := 167) C (by omega) d_M_faultOf_133 (by decide) (fun c_133 => ?_) (fun c_133 => ?_)
                    · skip
                      refine r_iload_n (pc := 167) C d_M_faultOf_167 rfl (lv_at hl 3 rfl) ?_
                      refine r_iconst (pc := 168) C d_M_faultOf_168 ?_
                      refine r_icmp_ne (pc := 169) (tgt := 235) C (by omega) d_M_faultOf_169 (by decide) (fun c_169 => ?_) (fun c_169 => ?_)
                      · skip
                        refine r_iload_n (pc := 235) C d_M_faultOf_235 rfl (lv_at hl 4 rfl) ?_
                        exact kret _ _ _ _ k _ d_M_faultOf_236 w (⟨_, _, _, rfl, Or.inl ⟨k, by omega, by omega, hlg, by rw [← hP]; show ¬ lg (T k) sT (LT (cT - 1)); unfold lg; omega, rfl⟩, fun q => by omega⟩)
                      · skip
                        refine r_iload (pc := 172) C d_M_faultOf_172 (lv_at hl 0 rfl) ?_
                        refine r_if_eq (pc := 174) (tgt := 235) C (by omega) d_M_faultOf_174 (by decide) (fun c_174 => ?_) (fun c_174 => ?_)
                        · skip
                          refine r_iload_n (pc := 235) C d_M_faultOf_235 rfl (lv_at hl 4 rfl) ?_
                          exact kret _ _ _ _ k _ d_M_faultOf_236 w (⟨_, _, _, rfl, Or.inl ⟨k, by omega, by omega, hlg, by rw [← hP]; show ¬ lg (T k) sT (LT (cT - 1)); unfold lg; omega, rfl⟩, fun q => by omega⟩)
                        · skip
                          have p4 := p4 (by omega)
                          have p6 := p5 (cT - 1) (by omega) (by omega)
                          have p7 := hsl (n1 - 1) (by omega) (by omega)
                          rw [show n1 - 1 = cT - 1 by omega] at p7
                          have p8 : l1 (n1 - 1) = LT (cT - 1) := by rw [show n1 - 1 = cT - 1 by omega]; exact p7.2
                          refine r_bipush (pc := 177) C d_M_faultOf_177 (by decide) ?_
                          refine r_aload_n (pc := 179) C d_M_faultOf_179 rfl (lv_at hl 2 rfl) ?_
                          refine r_get (pc := 180) (v := .ref q9) C w i_M rfl 0 rfl 13 (by decide) fl_M_34 rfl rfl d_M_faultOf_180 ?_
                          refine r_aload_n (pc := 183) C d_M_faultOf_183 rfl (lv_at hl 2 rfl) ?_
                          refine r_get (pc := 184) (v := .int (iI n1)) C w i_M rfl 0 rfl 14 (by decide) fl_M_137 rfl rfl d_M_faultOf_184 ?_
                          refine r_iconst (pc := 187) C d_M_faultOf_187 ?_
                          refine r_isub (pc := 188) C d_M_faultOf_188 ?_
                          refine r_iald (pc := 189) (f := l1) (i := (n1 - 1)) C w 0 9 rfl hT.1 (by omega) d_M_faultOf_189 ?_
                          refine r_imul (pc := 190) C d_M_faultOf_190 ?_
                          refine r_iload_n (pc := 191) C d_M_faultOf_191 rfl (lv_at hl 1 rfl) ?_
                          refine r_iadd (pc := 192) C d_M_faultOf_192 ?_
                          refine r_bipush (pc := 193) C d_M_faultOf_193 (by decide) ?_
                          refine r_isub (pc := 195) C d_M_faultOf_195 ?_
                          refine r_sipush (pc := 196) C d_M_faultOf_196 (by decide) ?_
                          refine r_icmp_gt (pc := 199) (tgt := 235) C (by omega) d_M_faultOf_199 (by decide) (fun c_199 => ?_) (fun c_199 => ?_)
                          · skip
                            refine r_iload_n (pc := 235) C d_M_faultOf_235 rfl (lv_at hl 4 rfl) ?_
                            exact kret _ _ _ _ k _ d_M_faultOf_236 w (⟨_, _, _, rfl, Or.inl ⟨k, by omega, by omega, hlg, by rw [← hP]; show ¬ lg (T k) sT (LT (cT - 1)); unfold lg; omega, rfl⟩, fun q => by omega⟩)
                          · skip
                            refine r_aload_n (pc := 202) C d_M_faultOf_202 rfl (lv_at hl 2 rfl) ?_
                            refine r_get (pc := 203) (v := .ref q9) C w i_M rfl 0 rfl 13 (by decide) fl_M_34 rfl rfl d_M_faultOf_203 ?_
                            refine r_aload_n (pc := 206) C d_M_faultOf_206 rfl (lv_at hl 2 rfl) ?_
                            refine r_get (pc := 207) (v := .int (iI n1)) C w i_M rfl 0 rfl 14 (by decide) fl_M_137 rfl rfl d_M_faultOf_207 ?_
                            refine r_iconst (pc := 210) C d_M_faultOf_210 ?_
                            refine r_isub (pc := 211) C d_M_faultOf_211 ?_
                            refine r_bipush (pc := 212) C d_M_faultOf_212 (by decide) ?_
                            refine r_aload_n (pc := 214) C d_M_faultOf_214 rfl (lv_at hl 2 rfl) ?_
                            refine r_get (pc := 215) (v := .ref q9) C w i_M rfl 0 rfl 13 (by decide) fl_M_34 rfl rfl d_M_faultOf_215 ?_
                            refine r_aload_n (pc := 218) C d_M_faultOf_218 rfl (lv_at hl 2 rfl) ?_
                            refine r_get (pc := 219) (v := .int (iI n1)) C w i_M rfl 0 rfl 14 (by decide) fl_M_137 rfl rfl d_M_faultOf_219 ?_
                            refine r_iconst (pc := 222) C d_M_faultOf_222 ?_
                            refine r_isub (pc := 223) C d_M_faultOf_223 ?_
                            refine r_iald (pc := 224) (f := l1) (i := (n1 - 1)) C w 0 9 rfl hT.1 (by omega) d_M_faultOf_224 ?_
                            refine r_imul (pc := 225) C d_M_faultOf_225 ?_
                            refine r_iload_n (pc := 226) C d_M_faultOf_226 rfl (lv_at hl 1 rfl) ?_
                            refine r_iadd (pc := 227) C d_M_faultOf_227 ?_
                            refine r_bipush (pc := 228) C d_M_faultOf_228 (by decide) ?_
                            refine r_isub (pc := 230) C d_M_faultOf_230 ?_
                            refine r_iast (pc := 231) (f := l1) (i := (n1 - 1)) (v := (((10 * (l1 (n1 - 1))) + (pd k)) - 48)) (ws' := mw cI q0 q1 q2 q3 q4 q5 q6 q7 q8 q9 nw pt np sl sv li ot len pd ty wr wm s1 (up l1 (n1 - 1) (((10 * (l1 (n1 - 1))) + (pd k)) - 48)) n1) C w 0 9 rfl hT.1 (by omega) rfl d_M_faultOf_231 (fun H locs w => ?_)
                            have hN : pst T (k + 1) = (3, cT, ST, up LT (cT - 1) (10 * LT (cT - 1) + T k - 48)) := by
                              rw [pst_succ T (by omega), ← hP]
                              unfold pnx
                              show (if sT = 0 then _ else if T k = 42 then _ else if T k = 59 then _ else if sT = 2 then _ else _) = _
                              rw [if_neg (by omega), if_neg (by omega), if_neg (by omega), if_neg (by omega)]
                            refine r_goto (pc := 232) (tgt := 237) C d_M_faultOf_232 (by decide) ?_
                            refine r_iinc (pc := 237) (j := 4) (lv' := [(2, .int (iI (k + 1))), (4, .int (iI z_29)), (3, .int (iI (pd k))), (0, .ref q0), (1, .int (iI st))]) C d_M_faultOf_237 hl rfl (by decide) rfl (fun ls hl => ?_)
                            refine r_goto (pc := 240) (tgt := 9) C d_M_faultOf_240 (by decide) ?_
                            exact ih9 (k + 1) st s1 (up l1 (n1 - 1) (((10 * (l1 (n1 - 1))) + (pd k)) - 48)) n1 (by omega) ((lgs_succ hlg (by rw [← hP]; show lg (T k) sT (LT (cT - 1)); unfold lg; omega))) ((by rw [hN] <;> omega)) ((by rw [hN]; first | exact hn | (show n1 + 1 = cT + 1; omega))) ((by rw [hN]; first | exact hsl | exact sl_new hn hsl (by split <;> omega) | exact sl_upd hn hsl (by omega))) (by omega) _ _ _ w (lv_sub hl [3, 4, 0] rfl)
                    · skip
                      refine r_iload_n (pc := 136) C d_M_faultOf_136 rfl (lv_at hl 1 rfl) ?_
                      refine r_bipush (pc := 137) C d_M_faultOf_137 (by decide) ?_
                      refine r_bipush (pc := 139) C d_M_faultOf_139 (by decide) ?_
                      refine r_callP (pc := 141) (As := [.int (iI (pd k)), .int (iI 49), .int (iI 57)]) (rest := []) C w (c_M_in (pd k) 49 57 (by omega)) ml_M_75 st_M_in ini_M cd_M_in hd_M_in rfl (by rw [hRm]; exact ⟨⟨Nat.le_of_ble_eq_true rfl, Nat.le_of_ble_eq_true rfl⟩, Nat.le_of_ble_eq_true rfl, Nat.le_of_ble_eq_true rfl⟩) hl.1 rfl (Nat.le_of_ble_eq_true rfl) d_M_faultOf_141 (fun z_141 H locs hz_141 w => ?_)
                      refine r_if_eq (pc := 144) (tgt := 167) C (by omega) d_M_faultOf_144 (by decide) (fun c_144 => ?_) (fun c_144 => ?_)
                      · skip
                        refine r_iload_n (pc := 167) C d_M_faultOf_167 rfl (lv_at hl 3 rfl) ?_
                        refine r_iconst (pc := 168) C d_M_faultOf_168 ?_
                        refine r_icmp_ne (pc := 169) (tgt := 235) C (by omega) d_M_faultOf_169 (by decide) (fun c_169 => ?_) (fun c_169 => ?_)
                        · skip
                          refine r_iload_n (pc := 235) C d_M_faultOf_235 rfl (lv_at hl 4 rfl) ?_
                          exact kret _ _ _ _ k _ d_M_faultOf_236 w (⟨_, _, _, rfl, Or.inl ⟨k, by omega, by omega, hlg, by rw [← hP]; show ¬ lg (T k) sT (LT (cT - 1)); unfold lg; omega, rfl⟩, fun q => by omega⟩)
                        · skip
                          refine r_iload (pc := 172) C d_M_faultOf_172 (lv_at hl 0 rfl) ?_
                          refine r_if_eq (pc := 174) (tgt := 235) C (by omega) d_M_faultOf_174 (by decide) (fun c_174 => ?_) (fun c_174 => ?_)
                          · skip
                            refine r_iload_n (pc := 235) C d_M_faultOf_235 rfl (lv_at hl 4 rfl) ?_
                            exact kret _ _ _ _ k _ d_M_faultOf_236 w (⟨_, _, _, rfl, Or.inl ⟨k, by omega, by omega, hlg, by rw [← hP]; show ¬ lg (T k) sT (LT (cT - 1)); unfold lg; omega, rfl⟩, fun q => by omega⟩)
                          · skip
                            have p4 := p4 (by omega)
                            have p6 := p5 (cT - 1) (by omega) (by omega)
                            have p7 := hsl (n1 - 1) (by omega) (by omega)
                            rw [show n1 - 1 = cT - 1 by omega] at p7
                            have p8 : l1 (n1 - 1) = LT (cT - 1) := by rw [show n1 - 1 = cT - 1 by omega]; exact p7.2
                            refine r_bipush (pc := 177) C d_M_faultOf_177 (by decide) ?_
                            refine r_aload_n (pc := 179) C d_M_faultOf_179 rfl (lv_at hl 2 rfl) ?_
                            refine r_get (pc := 180) (v := .ref q9) C w i_M rfl 0 rfl 13 (by decide) fl_M_34 rfl rfl d_M_faultOf_180 ?_
                            refine r_aload_n (pc := 183) C d_M_faultOf_183 rfl (lv_at hl 2 rfl) ?_
                            refine r_get (pc := 184) (v := .int (iI n1)) C w i_M rfl 0 rfl 14 (by decide) fl_M_137 rfl rfl d_M_faultOf_184 ?_
                            refine r_iconst (pc := 187) C d_M_faultOf_187 ?_
                            refine r_isub (pc := 188) C d_M_faultOf_188 ?_
                            refine r_iald (pc := 189) (f := l1) (i := (n1 - 1)) C w 0 9 rfl hT.1 (by omega) d_M_faultOf_189 ?_
                            refine r_imul (pc := 190) C d_M_faultOf_190 ?_
                            refine r_iload_n (pc := 191) C d_M_faultOf_191 rfl (lv_at hl 1 rfl) ?_
                            refine r_iadd (pc := 192) C d_M_faultOf_192 ?_
                            refine r_bipush (pc := 193) C d_M_faultOf_193 (by decide) ?_
                            refine r_isub (pc := 195) C d_M_faultOf_195 ?_
                            refine r_sipush (pc := 196) C d_M_faultOf_196 (by decide) ?_
                            refine r_icmp_gt (pc := 199) (tgt := 235) C (by omega) d_M_faultOf_199 (by decide) (fun c_199 => ?_) (fun c_199 => ?_)
                            · skip
                              refine r_iload_n (pc := 235) C d_M_faultOf_235 rfl (lv_at hl 4 rfl) ?_
                              exact kret _ _ _ _ k _ d_M_faultOf_236 w (⟨_, _, _, rfl, Or.inl ⟨k, by omega, by omega, hlg, by rw [← hP]; show ¬ lg (T k) sT (LT (cT - 1)); unfold lg; omega, rfl⟩, fun q => by omega⟩)
                            · skip
                              refine r_aload_n (pc := 202) C d_M_faultOf_202 rfl (lv_at hl 2 rfl) ?_
                              refine r_get (pc := 203) (v := .ref q9) C w i_M rfl 0 rfl 13 (by decide) fl_M_34 rfl rfl d_M_faultOf_203 ?_
                              refine r_aload_n (pc := 206) C d_M_faultOf_206 rfl (lv_at hl 2 rfl) ?_
                              refine r_get (pc := 207) (v := .int (iI n1)) C w i_M rfl 0 rfl 14 (by decide) fl_M_137 rfl rfl d_M_faultOf_207 ?_
                              refine r_iconst (pc := 210) C d_M_faultOf_210 ?_
                              refine r_isub (pc := 211) C d_M_faultOf_211 ?_
                              refine r_bipush (pc := 212) C d_M_faultOf_212 (by decide) ?_
                              refine r_aload_n (pc := 214) C d_M_faultOf_214 rfl (lv_at hl 2 rfl) ?_
                              refine r_get (pc := 215) (v := .ref q9) C w i_M rfl 0 rfl 13 (by decide) fl_M_34 rfl rfl d_M_faultOf_215 ?_
                              refine r_aload_n (pc := 218) C d_M_faultOf_218 rfl (lv_at hl 2 rfl) ?_
                              refine r_get (pc := 219) (v := .int (iI n1)) C w i_M rfl 0 rfl 14 (by decide) fl_M_137 rfl rfl d_M_faultOf_219 ?_
                              refine r_iconst (pc := 222) C d_M_faultOf_222 ?_
                              refine r_isub (pc := 223) C d_M_faultOf_223 ?_
                              refine r_iald (pc := 224) (f := l1) (i := (n1 - 1)) C w 0 9 rfl hT.1 (by omega) d_M_faultOf_224 ?_
                              refine r_imul (pc := 225) C d_M_faultOf_225 ?_
                              refine r_iload_n (pc := 226) C d_M_faultOf_226 rfl (lv_at hl 1 rfl) ?_
                              refine r_iadd (pc := 227) C d_M_faultOf_227 ?_
                              refine r_bipush (pc := 228) C d_M_faultOf_228 (by decide) ?_
                              refine r_isub (pc := 230) C d_M_faultOf_230 ?_
                              refine r_iast (pc := 231) (f := l1) (i := (n1 - 1)) (v := (((10 * (l1 (n1 - 1))) + (pd k)) - 48)) (ws' := mw cI q0 q1 q2 q3 q4 q5 q6 q7 q8 q9 nw pt np sl sv li ot len pd ty wr wm s1 (up l1 (n1 - 1) (((10 * (l1 (n1 - 1))) + (pd k)) - 48)) n1) C w 0 9 rfl hT.1 (by omega) rfl d_M_faultOf_231 (fun H locs w => ?_)
                              have hN : pst T (k + 1) = (3, cT, ST, up LT (cT - 1) (10 * LT (cT - 1) + T k - 48)) := by
                                rw [pst_succ T (by omega), ← hP]
                                unfold pnx
                                show (if sT = 0 then _ else if T k = 42 then _ else if T k = 59 then _ else if sT = 2 then _ else _) = _
                                rw [if_neg (by omega), if_neg (by omega), if_neg (by omega), if_neg (by omega)]
                              refine r_goto (pc := 232) (tgt := 237) C d_M_faultOf_232 (by decide) ?_
                              refine r_iinc (pc := 237) (j := 4) (lv' := [(2, .int (iI (k + 1))), (4, .int (iI z_29)), (3, .int (iI (pd k))), (0, .ref q0), (1, .int (iI st))]) C d_M_faultOf_237 hl rfl (by decide) rfl (fun ls hl => ?_)
                              refine r_goto (pc := 240) (tgt := 9) C d_M_faultOf_240 (by decide) ?_
                              exact ih9 (k + 1) st s1 (up l1 (n1 - 1) (((10 * (l1 (n1 - 1))) + (pd k)) - 48)) n1 (by omega) ((lgs_succ hlg (by rw [← hP]; show lg (T k) sT (LT (cT - 1)); unfold lg; omega))) ((by rw [hN] <;> omega)) ((by rw [hN]; first | exact hn | (show n1 + 1 = cT + 1; omega))) ((by rw [hN]; first | exact hsl | exact sl_new hn hsl (by split <;> omega) | exact sl_upd hn hsl (by omega))) (by omega) _ _ _ w (lv_sub hl [3, 4, 0] rfl)
                      · skip
                        have p4 := p4 (by omega)
                        refine r_aload_n (pc := 147) C d_M_faultOf_147 rfl (lv_at hl 2 rfl) ?_
                        refine r_get (pc := 148) (v := .ref q9) C w i_M rfl 0 rfl 13 (by decide) fl_M_34 rfl rfl d_M_faultOf_148 ?_
                        refine r_aload_n (pc := 151) C d_M_faultOf_151 rfl (lv_at hl 2 rfl) ?_
                        refine r_get (pc := 152) (v := .int (iI n1)) C w i_M rfl 0 rfl 14 (by decide) fl_M_137 rfl rfl d_M_faultOf_152 ?_
                        refine r_iconst (pc := 155) C d_M_faultOf_155 ?_
                        refine r_isub (pc := 156) C d_M_faultOf_156 ?_
                        refine r_iload_n (pc := 157) C d_M_faultOf_157 rfl (lv_at hl 1 rfl) ?_
                        refine r_bipush (pc := 158) C d_M_faultOf_158 (by decide) ?_
                        refine r_isub (pc := 160) C d_M_faultOf_160 ?_
                        refine r_iast (pc := 161) (f := l1) (i := (n1 - 1)) (v := ((pd k) - 48)) (ws' := mw cI q0 q1 q2 q3 q4 q5 q6 q7 q8 q9 nw pt np sl sv li ot len pd ty wr wm s1 (up l1 (n1 - 1) ((pd k) - 48)) n1) C w 0 9 rfl hT.1 (by omega) rfl d_M_faultOf_161 (fun H locs w => ?_)
                        have hN : pst T (k + 1) = (3, cT, ST, up LT (cT - 1) (T k - 48)) := by
                          rw [pst_succ T (by omega), ← hP]
                          unfold pnx
                          show (if sT = 0 then _ else if T k = 42 then _ else if T k = 59 then _ else if sT = 2 then _ else _) = _
                          rw [if_neg (by omega), if_neg (by omega), if_neg (by omega), if_pos (by omega)]
                        refine r_iconst (pc := 162) C d_M_faultOf_162 ?_
                        refine r_istore_n (pc := 163) (lv' := [(1, .int (iI 3)), (4, .int (iI z_29)), (3, .int (iI (pd k))), (0, .ref q0), (2, .int (iI k))]) C d_M_faultOf_163 rfl hl (by decide) rfl (fun ls hl => ?_)
                        refine r_goto (pc := 164) (tgt := 237) C d_M_faultOf_164 (by decide) ?_
                        refine r_iinc (pc := 237) (j := 4) (lv' := [(2, .int (iI (k + 1))), (1, .int (iI 3)), (4, .int (iI z_29)), (3, .int (iI (pd k))), (0, .ref q0)]) C d_M_faultOf_237 hl rfl (by decide) rfl (fun ls hl => ?_)
                        refine r_goto (pc := 240) (tgt := 9) C d_M_faultOf_240 (by decide) ?_
                        exact ih9 (k + 1) 3 s1 (up l1 (n1 - 1) ((pd k) - 48)) n1 (by omega) ((lgs_succ hlg (by rw [← hP]; show lg (T k) sT (LT (cT - 1)); unfold lg; omega))) ((by rw [hN] <;> omega)) ((by rw [hN]; first | exact hn | (show n1 + 1 = cT + 1; omega))) ((by rw [hN]; first | exact hsl | exact sl_new hn hsl (by split <;> omega) | exact sl_upd hn hsl (by omega))) (by omega) _ _ _ w (lv_sub hl [4, 1, 0] rfl)
                  · skip
                    refine r_iload_n (pc := 120) C d_M_faultOf_120 rfl (lv_at hl 1 rfl) ?_
                    refine r_bipush (pc := 121) C d_M_faultOf_121 (by decide) ?_
                    refine r_icmp_ne (pc := 123) (tgt := 131) C (by omega) d_M_faultOf_123 (by decide) (fun c_123 => ?_) (fun c_123 => ?_)
                    · skip
                      refine r_iload_n (pc := 131) C d_M_faultOf_131 rfl (lv_at hl 3 rfl) ?_
                      refine r_iconst (pc := 132) C d_M_faultOf_132 ?_
                      refine r_icmp_ne (pc := 133) (tgt := 167) C (by omega) d_M_faultOf_133 (by decide) (fun c_133 => ?_) (fun c_133 => ?_)
                      · skip
                        refine r_iload_n (pc := 167) C d_M_faultOf_167 rfl (lv_at hl 3 rfl) ?_
                        refine r_iconst (pc := 168) C d_M_faultOf_168 ?_
                        refine r_icmp_ne (pc := 169) (tgt := 235) C (by omega) d_M_faultOf_169 (by decide) (fun c_169 => ?_) (fun c_169 => ?_)
                        · skip
                          refine r_iload_n (pc := 235) C d_M_faultOf_235 rfl (lv_at hl 4 rfl) ?_
                          exact kret _ _ _ _ k _ d_M_faultOf_236 w (⟨_, _, _, rfl, Or.inl ⟨k, by omega, by omega, hlg, by rw [← hP]; show ¬ lg (T k) sT (LT (cT - 1)); unfold lg; omega, rfl⟩, fun q => by omega⟩)
                        · skip
                          refine r_iload (pc := 172) C d_M_faultOf_172 (lv_at hl 0 rfl) ?_
                          refine r_if_eq (pc := 174) (tgt := 235) C (by omega) d_M_faultOf_174 (by decide) (fun c_174 => ?_) (fun c_174 => ?_)
                          · skip
                            refine r_iload_n (pc := 235) C d_M_faultOf_235 rfl (lv_at hl 4 rfl) ?_
                            exact kret _ _ _ _ k _ d_M_faultOf_236 w (⟨_, _, _, rfl, Or.inl ⟨k, by omega, by omega, hlg, by rw [← hP]; show ¬ lg (T k) sT (LT (cT - 1)); unfold lg; omega, rfl⟩, fun q => by omega⟩)
                          · skip
                            have p4 := p4 (by omega)
                            have p6 := p5 (cT - 1) (by omega) (by omega)
                            have p7 := hsl (n1 - 1) (by omega) (by omega)
                            rw [show n1 - 1 = cT - 1 by omega] at p7
                            have p8 : l1 (n1 - 1) = LT (cT - 1) := by rw [show n1 - 1 = cT - 1 by omega]; exact p7.2
                            refine r_bipush (pc := 177) C d_M_faultOf_177 (by decide) ?_
                            refine r_aload_n (pc := 179) C d_M_faultOf_179 rfl (lv_at hl 2 rfl) ?_
                            refine r_get (pc := 180) (v := .ref q9) C w i_M rfl 0 rfl 13 (by decide) fl_M_34 rfl rfl d_M_faultOf_180 ?_
                            refine r_aload_n (pc := 183) C d_M_faultOf_183 rfl (lv_at hl 2 rfl) ?_
                            refine r_get (pc := 184) (v := .int (iI n1)) C w i_M rfl 0 rfl 14 (by decide) fl_M_137 rfl rfl d_M_faultOf_184 ?_
                            refine r_iconst (pc := 187) C d_M_faultOf_187 ?_
                            refine r_isub (pc := 188) C d_M_faultOf_188 ?_
                            refine r_iald (pc := 189) (f := l1) (i := (n1 - 1)) C w 0 9 rfl hT.1 (by omega) d_M_faultOf_189 ?_
                            refine r_imul (pc := 190) C d_M_faultOf_190 ?_
                            refine r_iload_n (pc := 191) C d_M_faultOf_191 rfl (lv_at hl 1 rfl) ?_
                            refine r_iadd (pc := 192) C d_M_faultOf_192 ?_
                            refine r_bipush (pc := 193) C d_M_faultOf_193 (by decide) ?_
                            refine r_isub (pc := 195) C d_M_faultOf_195 ?_
                            refine r_sipush (pc := 196) C d_M_faultOf_196 (by decide) ?_
                            refine r_icmp_gt (pc := 199) (tgt := 235) C (by omega) d_M_faultOf_199 (by decide) (fun c_199 => ?_) (fun c_199 => ?_)
                            · skip
                              refine r_iload_n (pc := 235) C d_M_faultOf_235 rfl (lv_at hl 4 rfl) ?_
                              exact kret _ _ _ _ k _ d_M_faultOf_236 w (⟨_, _, _, rfl, Or.inl ⟨k, by omega, by omega, hlg, by rw [← hP]; show ¬ lg (T k) sT (LT (cT - 1)); unfold lg; omega, rfl⟩, fun q => by omega⟩)
                            · skip
                              refine r_aload_n (pc := 202) C d_M_faultOf_202 rfl (lv_at hl 2 rfl) ?_
                              refine r_get (pc := 203) (v := .ref q9) C w i_M rfl 0 rfl 13 (by decide) fl_M_34 rfl rfl d_M_faultOf_203 ?_
                              refine r_aload_n (pc := 206) C d_M_faultOf_206 rfl (lv_at hl 2 rfl) ?_
                              refine r_get (pc := 207) (v := .int (iI n1)) C w i_M rfl 0 rfl 14 (by decide) fl_M_137 rfl rfl d_M_faultOf_207 ?_
                              refine r_iconst (pc := 210) C d_M_faultOf_210 ?_
                              refine r_isub (pc := 211) C d_M_faultOf_211 ?_
                              refine r_bipush (pc := 212) C d_M_faultOf_212 (by decide) ?_
                              refine r_aload_n (pc := 214) C d_M_faultOf_214 rfl (lv_at hl 2 rfl) ?_
                              refine r_get (pc := 215) (v := .ref q9) C w i_M rfl 0 rfl 13 (by decide) fl_M_34 rfl rfl d_M_faultOf_215 ?_
                              refine r_aload_n (pc := 218) C d_M_faultOf_218 rfl (lv_at hl 2 rfl) ?_
                              refine r_get (pc := 219) (v := .int (iI n1)) C w i_M rfl 0 rfl 14 (by decide) fl_M_137 rfl rfl d_M_faultOf_219 ?_
                              refine r_iconst (pc := 222) C d_M_faultOf_222 ?_
                              refine r_isub (pc := 223) C d_M_faultOf_223 ?_
                              refine r_iald (pc := 224) (f := l1) (i := (n1 - 1)) C w 0 9 rfl hT.1 (by omega) d_M_faultOf_224 ?_
                              refine r_imul (pc := 225) C d_M_faultOf_225 ?_
                              refine r_iload_n (pc := 226) C d_M_faultOf_226 rfl (lv_at hl 1 rfl) ?_
                              refine r_iadd (pc := 227) C d_M_faultOf_227 ?_
                              refine r_bipush (pc := 228) C d_M_faultOf_228 (by decide) ?_
                              refine r_isub (pc := 230) C d_M_faultOf_230 ?_
                              refine r_iast (pc := 231) (f := l1) (i := (n1 - 1)) (v := (((10 * (l1 (n1 - 1))) + (pd k)) - 48)) (ws' := mw cI q0 q1 q2 q3 q4 q5 q6 q7 q8 q9 nw pt np sl sv li ot len pd ty wr wm s1 (up l1 (n1 - 1) (((10 * (l1 (n1 - 1))) + (pd k)) - 48)) n1) C w 0 9 rfl hT.1 (by omega) rfl d_M_faultOf_231 (fun H locs w => ?_)
                              have hN : pst T (k + 1) = (3, cT, ST, up LT (cT - 1) (10 * LT (cT - 1) + T k - 48)) := by
                                rw [pst_succ T (by omega), ← hP]
                                unfold pnx
                                show (if sT = 0 then _ else if T k = 42 then _ else if T k = 59 then _ else if sT = 2 then _ else _) = _
                                rw [if_neg (by omega), if_neg (by omega), if_neg (by omega), if_neg (by omega)]
                              refine r_goto (pc := 232) (tgt := 237) C d_M_faultOf_232 (by decide) ?_
                              refine r_iinc (pc := 237) (j := 4) (lv' := [(2, .int (iI (k + 1))), (4, .int (iI z_29)), (3, .int (iI (pd k))), (0, .ref q0), (1, .int (iI st))]) C d_M_faultOf_237 hl rfl (by decide) rfl (fun ls hl => ?_)
                              refine r_goto (pc := 240) (tgt := 9) C d_M_faultOf_240 (by decide) ?_
                              exact ih9 (k + 1) st s1 (up l1 (n1 - 1) (((10 * (l1 (n1 - 1))) + (pd k)) - 48)) n1 (by omega) ((lgs_succ hlg (by rw [← hP]; show lg (T k) sT (LT (cT - 1)); unfold lg; omega))) ((by rw [hN] <;> omega)) ((by rw [hN]; first | exact hn | (show n1 + 1 = cT + 1; omega))) ((by rw [hN]; first | exact hsl | exact sl_new hn hsl (by split <;> omega) | exact sl_upd hn hsl (by omega))) (by omega) _ _ _ w (lv_sub hl [3, 4, 0] rfl)
                      · skip
                        refine r_iload_n (pc := 136) C d_M_faultOf_136 rfl (lv_at hl 1 rfl) ?_
                        refine r_bipush (pc := 137) C d_M_faultOf_137 (by decide) ?_
                        refine r_bipush (pc := 139) C d_M_faultOf_139 (by decide) ?_
                        refine r_callP (pc := 141) (As := [.int (iI (pd k)), .int (iI 49), .int (iI 57)]) (rest := []) C w (c_M_in (pd k) 49 57 (by omega)) ml_M_75 st_M_in ini_M cd_M_in hd_M_in rfl (by rw [hRm]; exact ⟨⟨Nat.le_of_ble_eq_true rfl, Nat.le_of_ble_eq_true rfl⟩, Nat.le_of_ble_eq_true rfl, Nat.le_of_ble_eq_true rfl⟩) hl.1 rfl (Nat.le_of_ble_eq_true rfl) d_M_faultOf_141 (fun z_141 H locs hz_141 w => ?_)
                        refine r_if_eq (pc := 144) (tgt := 167) C (by omega) d_M_faultOf_144 (by decide) (fun c_144 => ?_) (fun c_144 => ?_)
                        · skip
                          refine r_iload_n (pc := 167) C d_M_faultOf_167 rfl (lv_at hl 3 rfl) ?_
                          refine r_iconst (pc := 168) C d_M_faultOf_168 ?_
                          refine r_icmp_ne (pc := 169) (tgt := 235) C (by omega) d_M_faultOf_169 (by decide) (fun c_169 => ?_) (fun c_169 => ?_)
                          · skip
                            refine r_iload_n (pc := 235) C d_M_faultOf_235 rfl (lv_at hl 4 rfl) ?_
                            exact kret _ _ _ _ k _ d_M_faultOf_236 w (⟨_, _, _, rfl, Or.inl ⟨k, by omega, by omega, hlg, by rw [← hP]; show ¬ lg (T k) sT (LT (cT - 1)); unfold lg; omega, rfl⟩, fun q => by omega⟩)
                          · skip
                            refine r_iload (pc := 172) C d_M_faultOf_172 (lv_at hl 0 rfl) ?_
                            refine r_if_eq (pc := 174) (tgt := 235) C (by omega) d_M_faultOf_174 (by decide) (fun c_174 => ?_) (fun c_174 => ?_)
                            · skip
                              refine r_iload_n (pc := 235) C d_M_faultOf_235 rfl (lv_at hl 4 rfl) ?_
                              exact kret _ _ _ _ k _ d_M_faultOf_236 w (⟨_, _, _, rfl, Or.inl ⟨k, by omega, by omega, hlg, by rw [← hP]; show ¬ lg (T k) sT (LT (cT - 1)); unfold lg; omega, rfl⟩, fun q => by omega⟩)
                            · skip
                              have p4 := p4 (by omega)
                              have p6 := p5 (cT - 1) (by omega) (by omega)
                              have p7 := hsl (n1 - 1) (by omega) (by omega)
                              rw [show n1 - 1 = cT - 1 by omega] at p7
                              have p8 : l1 (n1 - 1) = LT (cT - 1) := by rw [show n1 - 1 = cT - 1 by omega]; exact p7.2
                              refine r_bipush (pc := 177) C d_M_faultOf_177 (by decide) ?_
                              refine r_aload_n (pc := 179) C d_M_faultOf_179 rfl (lv_at hl 2 rfl) ?_
                              refine r_get (pc := 180) (v := .ref q9) C w i_M rfl 0 rfl 13 (by decide) fl_M_34 rfl rfl d_M_faultOf_180 ?_
                              refine r_aload_n (pc := 183) C d_M_faultOf_183 rfl (lv_at hl 2 rfl) ?_
                              refine r_get (pc := 184) (v := .int (iI n1)) C w i_M rfl 0 rfl 14 (by decide) fl_M_137 rfl rfl d_M_faultOf_184 ?_
                              refine r_iconst (pc := 187) C d_M_faultOf_187 ?_
                              refine r_isub (pc := 188) C d_M_faultOf_188 ?_
                              refine r_iald (pc := 189) (f := l1) (i := (n1 - 1)) C w 0 9 rfl hT.1 (by omega) d_M_faultOf_189 ?_
                              refine r_imul (pc := 190) C d_M_faultOf_190 ?_
                              refine r_iload_n (pc := 191) C d_M_faultOf_191 rfl (lv_at hl 1 rfl) ?_
                              refine r_iadd (pc := 192) C d_M_faultOf_192 ?_
                              refine r_bipush (pc := 193) C d_M_faultOf_193 (by decide) ?_
                              refine r_isub (pc := 195) C d_M_faultOf_195 ?_
                              refine r_sipush (pc := 196) C d_M_faultOf_196 (by decide) ?_
                              refine r_icmp_gt (pc := 199) (tgt := 235) C (by omega) d_M_faultOf_199 (by decide) (fun c_199 => ?_) (fun c_199 => ?_)
                              · skip
                                refine r_iload_n (pc := 235) C d_M_faultOf_235 rfl (lv_at hl 4 rfl) ?_
                                exact kret _ _ _ _ k _ d_M_faultOf_236 w (⟨_, _, _, rfl, Or.inl ⟨k, by omega, by omega, hlg, by rw [← hP]; show ¬ lg (T k) sT (LT (cT - 1)); unfold lg; omega, rfl⟩, fun q => by omega⟩)
                              · skip
                                refine r_aload_n (pc := 202) C d_M_faultOf_202 rfl (lv_at hl 2 rfl) ?_
                                refine r_get (pc := 203) (v := .ref q9) C w i_M rfl 0 rfl 13 (by decide) fl_M_34 rfl rfl d_M_faultOf_203 ?_
                                refine r_aload_n (pc := 206) C d_M_faultOf_206 rfl (lv_at hl 2 rfl) ?_
                                refine r_get (pc := 207) (v := .int (iI n1)) C w i_M rfl 0 rfl 14 (by decide) fl_M_137 rfl rfl d_M_faultOf_207 ?_
                                refine r_iconst (pc := 210) C d_M_faultOf_210 ?_
                                refine r_isub (pc := 211) C d_M_faultOf_211 ?_
                                refine r_bipush (pc := 212) C d_M_faultOf_212 (by decide) ?_
                                refine r_aload_n (pc := 214) C d_M_faultOf_214 rfl (lv_at hl 2 rfl) ?_
                                refine r_get (pc := 215) (v := .ref q9) C w i_M rfl 0 rfl 13 (by decide) fl_M_34 rfl rfl d_M_faultOf_215 ?_
                                refine r_aload_n (pc := 218) C d_M_faultOf_218 rfl (lv_at hl 2 rfl) ?_
                                refine r_get (pc := 219) (v := .int (iI n1)) C w i_M rfl 0 rfl 14 (by decide) fl_M_137 rfl rfl d_M_faultOf_219 ?_
                                refine r_iconst (pc := 222) C d_M_faultOf_222 ?_
                                refine r_isub (pc := 223) C d_M_faultOf_223 ?_
                                refine r_iald (pc := 224) (f := l1) (i := (n1 - 1)) C w 0 9 rfl hT.1 (by omega) d_M_faultOf_224 ?_
                                refine r_imul (pc := 225) C d_M_faultOf_225 ?_
                                refine r_iload_n (pc := 226) C d_M_faultOf_226 rfl (lv_at hl 1 rfl) ?_
                                refine r_iadd (pc := 227) C d_M_faultOf_227 ?_
                                refine r_bipush (pc := 228) C d_M_faultOf_228 (by decide) ?_
                                refine r_isub (pc := 230) C d_M_faultOf_230 ?_
                                refine r_iast (pc := 231) (f := l1) (i := (n1 - 1)) (v := (((10 * (l1 (n1 - 1))) + (pd k)) - 48)) (ws' := mw cI q0 q1 q2 q3 q4 q5 q6 q7 q8 q9 nw pt np sl sv li ot len pd ty wr wm s1 (up l1 (n1 - 1) (((10 * (l1 (n1 - 1))) + (pd k)) - 48)) n1) C w 0 9 rfl hT.1 (by omega) rfl d_M_faultOf_231 (fun H locs w => ?_)
                                have hN : pst T (k + 1) = (3, cT, ST, up LT (cT - 1) (10 * LT (cT - 1) + T k - 48)) := by
                                  rw [pst_succ T (by omega), ← hP]
                                  unfold pnx
                                  show (if sT = 0 then _ else if T k = 42 then _ else if T k = 59 then _ else if sT = 2 then _ else _) = _
                                  rw [if_neg (by omega), if_neg (by omega), if_neg (by omega), if_neg (by omega)]
                                refine r_goto (pc := 232) (tgt := 237) C d_M_faultOf_232 (by decide) ?_
                                refine r_iinc (pc := 237) (j := 4) (lv' := [(2, .int (iI (k + 1))), (4, .int (iI z_29)), (3, .int (iI (pd k))), (0, .ref q0), (1, .int (iI st))]) C d_M_faultOf_237 hl rfl (by decide) rfl (fun ls hl => ?_)
                                refine r_goto (pc := 240) (tgt := 9) C d_M_faultOf_240 (by decide) ?_
                                exact ih9 (k + 1) st s1 (up l1 (n1 - 1) (((10 * (l1 (n1 - 1))) + (pd k)) - 48)) n1 (by omega) ((lgs_succ hlg (by rw [← hP]; show lg (T k) sT (LT (cT - 1)); unfold lg; omega))) ((by rw [hN] <;> omega)) ((by rw [hN]; first | exact hn | (show n1 + 1 = cT + 1; omega))) ((by rw [hN]; first | exact hsl | exact sl_new hn hsl (by split <;> omega) | exact sl_upd hn hsl (by omega))) (by omega) _ _ _ w (lv_sub hl [3, 4, 0] rfl)
                        · skip
                          have p4 := p4 (by omega)
                          refine r_aload_n (pc := 147) C d_M_faultOf_147 rfl (lv_at hl 2 rfl) ?_
                          refine r_get (pc := 148) (v := .ref q9) C w i_M rfl 0 rfl 13 (by decide) fl_M_34 rfl rfl d_M_faultOf_148 ?_
                          refine r_aload_n (pc := 151) C d_M_faultOf_151 rfl (lv_at hl 2 rfl) ?_
                          refine r_get (pc := 152) (v := .int (iI n1)) C w i_M rfl 0 rfl 14 (by decide) fl_M_137 rfl rfl d_M_faultOf_152 ?_
                          refine r_iconst (pc := 155) C d_M_faultOf_155 ?_
                          refine r_isub (pc := 156) C d_M_faultOf_156 ?_
                          refine r_iload_n (pc := 157) C d_M_faultOf_157 rfl (lv_at hl 1 rfl) ?_
                          refine r_bipush (pc := 158) C d_M_faultOf_158 (by decide) ?_
                          refine r_isub (pc := 160) C d_M_faultOf_160 ?_
                          refine r_iast (pc := 161) (f := l1) (i := (n1 - 1)) (v := ((pd k) - 48)) (ws' := mw cI q0 q1 q2 q3 q4 q5 q6 q7 q8 q9 nw pt np sl sv li ot len pd ty wr wm s1 (up l1 (n1 - 1) ((pd k) - 48)) n1) C w 0 9 rfl hT.1 (by omega) rfl d_M_faultOf_161 (fun H locs w => ?_)
                          have hN : pst T (k + 1) = (3, cT, ST, up LT (cT - 1) (T k - 48)) := by
                            rw [pst_succ T (by omega), ← hP]
                            unfold pnx
                            show (if sT = 0 then _ else if T k = 42 then _ else if T k = 59 then _ else if sT = 2 then _ else _) = _
                            rw [if_neg (by omega), if_neg (by omega), if_neg (by omega), if_pos (by omega)]
                          refine r_iconst (pc := 162) C d_M_faultOf_162 ?_
                          refine r_istore_n (pc := 163) (lv' := [(1, .int (iI 3)), (4, .int (iI z_29)), (3, .int (iI (pd k))), (0, .ref q0), (2, .int (iI k))]) C d_M_faultOf_163 rfl hl (by decide) rfl (fun ls hl => ?_)
                          refine r_goto (pc := 164) (tgt := 237) C d_M_faultOf_164 (by decide) ?_
                          refine r_iinc (pc := 237) (j := 4) (lv' := [(2, .int (iI (k + 1))), (1, .int (iI 3)), (4, .int (iI z_29)), (3, .int (iI (pd k))), (0, .ref q0)]) C d_M_faultOf_237 hl rfl (by decide) rfl (fun ls hl => ?_)
                          refine r_goto (pc := 240) (tgt := 9) C d_M_faultOf_240 (by decide) ?_
                          exact ih9 (k + 1) 3 s1 (up l1 (n1 - 1) ((pd k) - 48)) n1 (by omega) ((lgs_succ hlg (by rw [← hP]; show lg (T k) sT (LT (cT - 1)); unfold lg; omega))) ((by rw [hN] <;> omega)) ((by rw [hN]; first | exact hn | (show n1 + 1 = cT + 1; omega))) ((by rw [hN]; first | exact hsl | exact sl_new hn hsl (by split <;> omega) | exact sl_upd hn hsl (by omega))) (by omega) _ _ _ w (lv_sub hl [4, 1, 0] rfl)
                    · skip
                      have hN : pst T (k + 1) = (0, cT, ST, LT) := by
                        rw [pst_succ T (by omega), ← hP]
                        unfold pnx
                        show (if sT = 0 then _ else if T k = 42 then _ else if T k = 59 then _ else if sT = 2 then _ else _) = _
                        rw [if_neg (by omega), if_neg (by omega), if_pos (by omega)]
                      refine r_iconst (pc := 126) C d_M_faultOf_126 ?_
                      refine r_istore_n (pc := 127) (lv' := [(1, .int (iI 0)), (4, .int (iI z_29)), (3, .int (iI (pd k))), (0, .ref q0), (2, .int (iI k))]) C d_M_faultOf_127 rfl hl (by decide) rfl (fun ls hl => ?_)
                      refine r_goto (pc := 128) (tgt := 237) C d_M_faultOf_128 (by decide) ?_
                      refine r_iinc (pc := 237) (j := 4) (lv' := [(2, .int (iI (k + 1))), (1, .int (iI 0)), (4, .int (iI z_29)), (3, .int (iI (pd k))), (0, .ref q0)]) C d_M_faultOf_237 hl rfl (by decide) rfl (fun ls hl => ?_)
                      refine r_goto (pc := 240) (tgt := 9) C d_M_faultOf_240 (by decide) ?_
                      exact ih9 (k + 1) 0 s1 l1 n1 (by omega) ((lgs_succ hlg (by rw [← hP]; show lg (T k) sT (LT (cT - 1)); unfold lg; omega))) ((by rw [hN] <;> omega)) ((by rw [hN]; first | exact hn | (show n1 + 1 = cT + 1; omega))) ((by rw [hN]; first | exact hsl | exact sl_new hn hsl (by split <;> omega) | exact sl_upd hn hsl (by omega))) (by omega) _ _ _ w (lv_sub hl [4, 1, 0] rfl)
                · skip
                  have hN : pst T (k + 1) = (2, cT, ST, LT) := by
                    rw [pst_succ T (by omega), ← hP]
                    unfold pnx
                    show (if sT = 0 then _ else if T k = 42 then _ else if T k = 59 then _ else if sT = 2 then _ else _) = _
                    rw [if_neg (by omega), if_pos (by omega)]
                  refine r_iconst (pc := 108) C d_M_faultOf_108 ?_
                  refine r_istore_n (pc := 109) (lv' := [(1, .int (iI 2)), (4, .int (iI z_29)), (3, .int (iI (pd k))), (0, .ref q0), (2, .int (iI k))]) C d_M_faultOf_109 rfl hl (by decide) rfl (fun ls hl => ?_)
                  refine r_goto (pc := 110) (tgt := 237) C d_M_faultOf_110 (by decide) ?_
                  refine r_iinc (pc := 237) (j := 4) (lv' := [(2, .int (iI (k + 1))), (1, .int (iI 2)), (4, .int (iI z_29)), (3, .int (iI (pd k))), (0, .ref q0)]) C d_M_faultOf_237 hl rfl (by decide) rfl (fun ls hl => ?_)
                  refine r_goto (pc := 240) (tgt := 9) C d_M_faultOf_240 (by decide) ?_
                  exact ih9 (k + 1) 2 s1 l1 n1 (by omega) ((lgs_succ hlg (by rw [← hP]; show lg (T k) sT (LT (cT - 1)); unfold lg; omega))) ((by rw [hN] <;> omega)) ((by rw [hN]; first | exact hn | (show n1 + 1 = cT + 1; omega))) ((by rw [hN]; first | exact hsl | exact sl_new hn hsl (by split <;> omega) | exact sl_upd hn hsl (by omega))) (by omega) _ _ _ w (lv_sub hl [4, 1, 0] rfl)
            · skip
              refine r_aload_n (pc := 49) C d_M_faultOf_49 rfl (lv_at hl 2 rfl) ?_
              refine r_get (pc := 50) (v := .ref q8) C w i_M rfl 0 rfl 12 (by decide) fl_M_31 rfl rfl d_M_faultOf_50 ?_
              refine r_aload_n (pc := 53) C d_M_faultOf_53 rfl (lv_at hl 2 rfl) ?_
              refine r_get (pc := 54) (v := .int (iI n1)) C w i_M rfl 0 rfl 14 (by decide) fl_M_137 rfl rfl d_M_faultOf_54 ?_
              refine r_iload (pc := 57) C d_M_faultOf_57 (lv_at hl 0 rfl) ?_
              refine r_if_eq (pc := 59) (tgt := 69) C (by omega) d_M_faultOf_59 (by decide) (fun c_59 => ?_) (fun c_59 => ?_)
              · skip
                refine r_bipush (pc := 69) C d_M_faultOf_69 (by decide) ?_
                refine r_iast (pc := 71) (f := s1) (i := n1) (v := 10) (ws' := mw cI q0 q1 q2 q3 q4 q5 q6 q7 q8 q9 nw pt np sl sv li ot len pd ty wr wm (up s1 n1 10) l1 n1) C w 0 8 rfl hT.1 (by omega) rfl d_M_faultOf_71 (fun H locs w => ?_)
                refine r_aload_n (pc := 72) C d_M_faultOf_72 rfl (lv_at hl 2 rfl) ?_
                refine r_get (pc := 73) (v := .ref q9) C w i_M rfl 0 rfl 13 (by decide) fl_M_34 rfl rfl d_M_faultOf_73 ?_
                refine r_aload_n (pc := 76) C d_M_faultOf_76 rfl (lv_at hl 2 rfl) ?_
                refine r_get (pc := 77) (v := .int (iI n1)) C w i_M rfl 0 rfl 14 (by decide) fl_M_137 rfl rfl d_M_faultOf_77 ?_
                refine r_iconst (pc := 80) C d_M_faultOf_80 ?_
                refine r_iast (pc := 81) (f := l1) (i := n1) (v := 1) (ws' := mw cI q0 q1 q2 q3 q4 q5 q6 q7 q8 q9 nw pt np sl sv li ot len pd ty wr wm (up s1 n1 10) (up l1 n1 1) n1) C w 0 9 rfl hT.1 (by omega) rfl d_M_faultOf_81 (fun H locs w => ?_)
                refine r_aload_n (pc := 82) C d_M_faultOf_82 rfl (lv_at hl 2 rfl) ?_
                refine r_dup (pc := 83) C d_M_faultOf_83 rfl ?_
                refine r_get (pc := 84) (v := .int (iI n1)) C w i_M rfl 0 rfl 14 (by decide) fl_M_137 rfl rfl d_M_faultOf_84 ?_
                refine r_iconst (pc := 87) C d_M_faultOf_87 ?_
                refine r_iadd (pc := 88) C d_M_faultOf_88 ?_
                refine r_put (pc := 89) (ws' := mw cI q0 q1 q2 q3 q4 q5 q6 q7 q8 q9 nw pt np sl sv li ot len pd ty wr wm (up s1 n1 10) (up l1 n1 1) (n1 + 1)) C w i_M t_M t_M_ok n_M rfl 0 rfl 14 (by decide) fl_M_137 rfl rfl rfl rfl (Nat.le_of_ble_eq_true rfl) rfl d_M_faultOf_89 (fun H locs w => ?_)
                have hN : pst T (k + 1) = (1, cT + 1, up ST cT (if T k = 120 then 10 else T k - 48), up LT cT 1) := by
                  rw [pst_succ T (by omega), ← hP]
                  unfold pnx
                  show (if sT = 0 then _ else if T k = 42 then _ else if T k = 59 then _ else if sT = 2 then _ else _) = _
                  rw [if_pos (by omega)]
                refine r_iconst (pc := 92) C d_M_faultOf_92 ?_
                refine r_istore_n (pc := 93) (lv' := [(1, .int (iI 1)), (4, .int (iI z_29)), (3, .int (iI (pd k))), (0, .ref q0), (2, .int (iI k))]) C d_M_faultOf_93 rfl hl (by decide) rfl (fun ls hl => ?_)
                refine r_goto (pc := 94) (tgt := 237) C d_M_faultOf_94 (by decide) ?_
                refine r_iinc (pc := 237) (j := 4) (lv' := [(2, .int (iI (k + 1))), (1, .int (iI 1)), (4, .int (iI z_29)), (3, .int (iI (pd k))), (0, .ref q0)]) C d_M_faultOf_237 hl rfl (by decide) rfl (fun ls hl => ?_)
                refine r_goto (pc := 240) (tgt := 9) C d_M_faultOf_240 (by decide) ?_
                exact ih9 (k + 1) 1 (up s1 n1 10) (up l1 n1 1) (n1 + 1) (by omega) ((lgs_succ hlg (by rw [← hP]; show lg (T k) sT (LT (cT - 1)); unfold lg; omega))) ((by rw [hN] <;> omega)) ((by rw [hN]; first | exact hn | (show n1 + 1 = cT + 1; omega))) ((by rw [hN]; first | exact hsl | exact sl_new hn hsl (by split <;> omega) | exact sl_upd hn hsl (by omega))) (by omega) _ _ _ w (lv_sub hl [4, 1, 0] rfl)
              · skip
                refine r_iload_n (pc := 62) C d_M_faultOf_62 rfl (lv_at hl 1 rfl) ?_
                refine r_bipush (pc := 63) C d_M_faultOf_63 (by decide) ?_
                refine r_isub (pc := 65) C d_M_faultOf_65 ?_
                refine r_goto (pc := 66) (tgt := 71) C d_M_faultOf_66 (by decide) ?_
                refine r_iast (pc := 71) (f := s1) (i := n1) (v := ((pd k) - 48)) (ws' := mw cI q0 q1 q2 q3 q4 q5 q6 q7 q8 q9 nw pt np sl sv li ot len pd ty wr wm (up s1 n1 ((pd k) - 48)) l1 n1) C w 0 8 rfl hT.1 (by omega) rfl d_M_faultOf_71 (fun H locs w => ?_)
                refine r_aload_n (pc := 72) C d_M_faultOf_72 rfl (lv_at hl 2 rfl) ?_
                refine r_get (pc := 73) (v := .ref q9) C w i_M rfl 0 rfl 13 (by decide) fl_M_34 rfl rfl d_M_faultOf_73 ?_
                refine r_aload_n (pc := 76) C d_M_faultOf_76 rfl (lv_at hl 2 rfl) ?_
                refine r_get (pc := 77) (v := .int (iI n1)) C w i_M rfl 0 rfl 14 (by decide) fl_M_137 rfl rfl d_M_faultOf_77 ?_
                refine r_iconst (pc := 80) C d_M_faultOf_80 ?_
                refine r_iast (pc := 81) (f := l1) (i := n1) (v := 1) (ws' := mw cI q0 q1 q2 q3 q4 q5 q6 q7 q8 q9 nw pt np sl sv li ot len pd ty wr wm (up s1 n1 ((pd k) - 48)) (up l1 n1 1) n1) C w 0 9 rfl hT.1 (by omega) rfl d_M_faultOf_81 (fun H locs w => ?_)
                refine r_aload_n (pc := 82) C d_M_faultOf_82 rfl (lv_at hl 2 rfl) ?_
                refine r_dup (pc := 83) C d_M_faultOf_83 rfl ?_
                refine r_get (pc := 84) (v := .int (iI n1)) C w i_M rfl 0 rfl 14 (by decide) fl_M_137 rfl rfl d_M_faultOf_84 ?_
                refine r_iconst (pc := 87) C d_M_faultOf_87 ?_
                refine r_iadd (pc := 88) C d_M_faultOf_88 ?_
                refine r_put (pc := 89) (ws' := mw cI q0 q1 q2 q3 q4 q5 q6 q7 q8 q9 nw pt np sl sv li ot len pd ty wr wm (up s1 n1 ((pd k) - 48)) (up l1 n1 1) (n1 + 1)) C w i_M t_M t_M_ok n_M rfl 0 rfl 14 (by decide) fl_M_137 rfl rfl rfl rfl (Nat.le_of_ble_eq_true rfl) rfl d_M_faultOf_89 (fun H locs w => ?_)
                have hN : pst T (k + 1) = (1, cT + 1, up ST cT (if T k = 120 then 10 else T k - 48), up LT cT 1) := by
                  rw [pst_succ T (by omega), ← hP]
                  unfold pnx
                  show (if sT = 0 then _ else if T k = 42 then _ else if T k = 59 then _ else if sT = 2 then _ else _) = _
                  rw [if_pos (by omega)]
                refine r_iconst (pc := 92) C d_M_faultOf_92 ?_
                refine r_istore_n (pc := 93) (lv' := [(1, .int (iI 1)), (4, .int (iI z_29)), (3, .int (iI (pd k))), (0, .ref q0), (2, .int (iI k))]) C d_M_faultOf_93 rfl hl (by decide) rfl (fun ls hl => ?_)
                refine r_goto (pc := 94) (tgt := 237) C d_M_faultOf_94 (by decide) ?_
                refine r_iinc (pc := 237) (j := 4) (lv' := [(2, .int (iI (k + 1))), (1, .int (iI 1)), (4, .int (iI z_29)), (3, .int (iI (pd k))), (0, .ref q0)]) C d_M_faultOf_237 hl rfl (by decide) rfl (fun ls hl => ?_)
                refine r_goto (pc := 240) (tgt := 9) C d_M_faultOf_240 (by decide) ?_
                exact ih9 (k + 1) 1 (up s1 n1 ((pd k) - 48)) (up l1 n1 1) (n1 + 1) (by omega) ((lgs_succ hlg (by rw [← hP]; show lg (T k) sT (LT (cT - 1)); unfold lg; omega))) ((by rw [hN] <;> omega)) ((by rw [hN]; first | exact hn | (show n1 + 1 = cT + 1; omega))) ((by rw [hN]; first | exact hsl | exact sl_new hn hsl (by split <;> omega) | exact sl_upd hn hsl (by omega))) (by omega) _ _ _ w (lv_sub hl [4, 1, 0] rfl)
  exact L9 ((ty - 0) + 1 : Int).toNat 0 0 ss lz 0 (by first | omega | rfl) ((fun j j1 j2 => by omega)) (rfl) (rfl) ((fun j j1 j2 => by omega)) (by omega) _ _ _ w (lv_sub hl [2, 1, 0] rfl)
