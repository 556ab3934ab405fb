/-! edits: what a piece becomes -/
theorem ps_in {g : Int → Int} {a lo hi : Int} (ha : 0 ≤ a) : ∀ m, 0 ≤ m → (∀ x, a ≤ x → x < a + m → ((lo ≤ x ∧ x < hi) → g x = 1) ∧ (¬ (lo ≤ x ∧ x < hi) → g x = 0)) → ps g (a + m) = ps g a + max 0 (min (a + m) hi - max a lo) := by
  refine int_ind (fun _ => ?_) (fun m hm ih h => ?_)
  · rw [Int.add_zero]; omega
  · have h1 := ih (fun x h1 h2 => h x h1 (by omega))
    rw [← Int.add_assoc, ps_succ g (by omega), h1]
    have h2 := h (a + m) (by omega) (by omega)
    by_cases q : lo ≤ a + m ∧ a + m < hi
    · rw [h2.1 q]; omega
    · rw [h2.2 q]; omega
theorem ps_none {g : Int → Int} {a : Int} (ha : 0 ≤ a) : ∀ m, 0 ≤ m → (∀ x, a ≤ x → x < a + m → g x = 0) → ps g (a + m) = ps g a := by
  refine int_ind (fun _ => by rw [Int.add_zero]) (fun m hm ih h => ?_)
  rw [← Int.add_assoc, ps_succ g (by omega), ih (fun x h1 h2 => h x h1 (by omega)), h (a + m) (by omega) (by omega)]
  omega
theorem ps_all {g : Int → Int} {a : Int} (ha : 0 ≤ a) : ∀ m, 0 ≤ m → (∀ x, a ≤ x → x < a + m → g x = 1) → ps g (a + m) = ps g a + m := by
  refine int_ind (fun _ => by simp) (fun m hm ih h => ?_)
  rw [← Int.add_assoc, ps_succ g (by omega), ih (fun x h1 h2 => h x h1 (by omega)), h (a + m) (by omega) (by omega)]
  omega
/-- what a sign becomes: 0 writing, 1 adding, 2 killing, 3 reviving -/
def sa (ed s num : Int) : Int := if ed = 2 then 10 else if (ed = 3) ≠ (s = 10) then s else if ed = 1 then (s + num) % 10 else num
def edt (f e ed num : Int) (u : Int → Int) : Int → Int := fun x => if f ≤ x ∧ x < e then sa ed (u x) num else u x
def edc (f e ed num : Int) (u : Int → Int) : Int → Int := fun x => if (f ≤ x ∧ x < e) ∧ sa ed (u x) num ≠ u x then 1 else 0
theorem sa_kill (s : Int) : sa 0 s 10 = sa 2 s 10 := by unfold sa; by_cases h : s = 10 <;> simp [h]
theorem edt_kill (f e : Int) (u : Int → Int) : edt f e 0 10 u = edt f e 2 10 u := by funext x; unfold edt; rw [sa_kill]
theorem edc_kill (f e : Int) (u : Int → Int) : edc f e 0 10 u = edc f e 2 10 u := by funext x; unfold edc; rw [sa_kill]
theorem sa_cases (ed s num : Int) : (ed = 2 ∧ sa ed s num = 10) ∨ (ed ≠ 2 ∧ ((ed = 3 ∧ s ≠ 10) ∨ (ed ≠ 3 ∧ s = 10)) ∧ sa ed s num = s) ∨ (ed ≠ 2 ∧ ¬ ((ed = 3 ∧ s ≠ 10) ∨ (ed ≠ 3 ∧ s = 10)) ∧ ed = 1 ∧ sa ed s num = (s + num) % 10) ∨ (ed ≠ 2 ∧ ¬ ((ed = 3 ∧ s ≠ 10) ∨ (ed ≠ 3 ∧ s = 10)) ∧ ed ≠ 1 ∧ sa ed s num = num) := by
  unfold sa
  by_cases h2 : ed = 2
  · simp [h2]
  · by_cases h3 : ed = 3 <;> by_cases hs : s = 10 <;> by_cases h1 : ed = 1 <;> simp_all
theorem sa_range {ed s num : Int} (hs : 0 ≤ s ∧ s ≤ 10) (hn : 0 ≤ num ∧ num ≤ 10) : 0 ≤ sa ed s num ∧ sa ed s num ≤ 10 := by
  have := sa_cases ed s num
  omega
theorem edited_step {r pl ov N f e ed num S k r2 z1 z2 z3 : Int} {sg ln u sg2 ln2 : Int → Int} (hO : Ok r2 sg2 ln2 N u) (h1 : 0 ≤ k) (h2 : k < r2) (hf : 0 ≤ f ∧ f ≤ e ∧ e ≤ N) (hS : S = ps ln2 k)
    (h : RV r pl ov sg ln (S + max 0 z1 + max 0 z2 + max 0 z3) (app (app (app (edt f e ed num u) S (sg2 k)) (S + max 0 z1) (sa ed (sg2 k) num)) (S + max 0 z1 + max 0 z2) (sg2 k)))
    (hz2 : z2 = max 0 (min (S + ln2 k) e - max S f)) (hz1 : z1 = max 0 (min (S + ln2 k) f - max S 0)) (hz3 : z3 = max 0 (min (S + ln2 k) N - max S e)) : RV r pl ov sg ln (S + ln2 k) (edt f e ed num u) := by
  obtain ⟨g1, g2, g3, g4, g5, g6⟩ := hO.run h1 h2
  refine h.to (by omega) (fun x q1 q2 => ?_)
  have hu : S ≤ x → u x = sg2 k := fun q => hO.2.2.2.2 k h1 h2 x (by omega) (by omega)
  by_cases hx3 : x < S + max 0 z1 + max 0 z2
  · rw [app_lt hx3]
    by_cases hx2 : x < S + max 0 z1
    · rw [app_lt hx2]
      by_cases hx1 : x < S
      · rw [app_lt hx1]
      · rw [app_ge (by omega)]
        unfold edt
        rw [if_neg (by omega), hu (by omega)]
    · rw [app_ge (by omega)]
      unfold edt
      rw [if_pos (by omega), hu (by omega)]
  · rw [app_ge (by omega)]
    unfold edt
    rw [if_neg (by omega), hu (by omega)]
theorem edited_count {N f e ed num S k r2 z2 : Int} {u sg2 ln2 : Int → Int} (hO : Ok r2 sg2 ln2 N u) (h1 : 0 ≤ k) (h2 : k < r2) (hS : S = ps ln2 k) (hz2 : z2 = max 0 (min (S + ln2 k) e - max S f)) : ps (edc f e ed num u) (S + ln2 k) = ps (edc f e ed num u) S + (if sa ed (sg2 k) num = sg2 k then 0 else z2) := by
  obtain ⟨g1, g2, g3, g4, g5, g6⟩ := hO.run h1 h2
  have hu : ∀ x, S ≤ x → x < S + ln2 k → u x = sg2 k := fun x q1 q2 => hO.2.2.2.2 k h1 h2 x (by omega) (by omega)
  by_cases q : sa ed (sg2 k) num = sg2 k
  · rw [if_pos q, ps_none (by omega) (ln2 k) (by omega) (fun x q1 q2 => by unfold edc; rw [hu x q1 q2, if_neg (fun z => z.2 q)])]
    omega
  · rw [if_neg q, ps_in (lo := f) (hi := e) (by omega) (ln2 k) (by omega) (fun x q1 q2 => by
      unfold edc
      rw [hu x q1 q2]
      exact ⟨fun z => if_pos ⟨z, q⟩, fun z => if_neg (fun y => z y.1)⟩), hz2]
/-- pieces turned round: what the last d places below e give, behind v -/
def tnN (ol : Int) (u : Int → Int) (e n : Int) : Nat → Int
  | 0 => n
  | d + 1 => tnN ol u e n d + (if ol = 0 ∨ u (e - 1 - (d : Int)) ≠ 10 then 1 else 0)
def tvN (ol : Int) (u : Int → Int) (e n : Int) (v : Int → Int) : Nat → Int → Int
  | 0 => v
  | d + 1 => if ol = 0 ∨ u (e - 1 - (d : Int)) ≠ 10 then app (tvN ol u e n v d) (tnN ol u e n d) (u (e - 1 - (d : Int))) else tvN ol u e n v d
def tn (ol : Int) (u : Int → Int) (e n d : Int) : Int := tnN ol u e n d.toNat
def tv (ol : Int) (u : Int → Int) (e n : Int) (v : Int → Int) (d : Int) : Int → Int := tvN ol u e n v d.toNat
theorem tn_zero (ol : Int) (u : Int → Int) (e n : Int) : tn ol u e n 0 = n := rfl
theorem tv_zero (ol : Int) (u : Int → Int) (e n : Int) (v : Int → Int) : tv ol u e n v 0 = v := rfl
theorem tn_succ (ol : Int) (u : Int → Int) (e n : Int) {d : Int} (h : 0 ≤ d) : tn ol u e n (d + 1) = tn ol u e n d + (if ol = 0 ∨ u (e - 1 - d) ≠ 10 then 1 else 0) := by
  unfold tn
  rw [toNat_succ h]
  show tnN ol u e n d.toNat + (if ol = 0 ∨ u (e - 1 - ((d.toNat : Nat) : Int)) ≠ 10 then 1 else 0) = _
  rw [Int.toNat_of_nonneg h]
theorem tv_succ (ol : Int) (u : Int → Int) (e n : Int) (v : Int → Int) {d : Int} (h : 0 ≤ d) : tv ol u e n v (d + 1) = if ol = 0 ∨ u (e - 1 - d) ≠ 10 then app (tv ol u e n v d) (tn ol u e n d) (u (e - 1 - d)) else tv ol u e n v d := by
  unfold tn tv
  rw [toNat_succ h]
  show (if ol = 0 ∨ u (e - 1 - ((d.toNat : Nat) : Int)) ≠ 10 then app (tvN ol u e n v d.toNat) (tnN ol u e n d.toNat) (u (e - 1 - ((d.toNat : Nat) : Int))) else tvN ol u e n v d.toNat) = _
  rw [Int.toNat_of_nonneg h]
theorem tn_ge (ol : Int) (u : Int → Int) (e n : Int) : ∀ d, 0 ≤ d → n ≤ tn ol u e n d ∧ tn ol u e n d ≤ n + d := by
  refine int_ind (by rw [tn_zero]; omega) (fun d hd ih => ?_)
  rw [tn_succ ol u e n hd]
  split <;> omega
theorem turned_skip {ol e n d s : Int} {u v : Int → Int} (hd : 0 ≤ d) (hk : ¬ (ol = 0 ∨ s ≠ 10)) : ∀ j, 0 ≤ j → (∀ x, e - d - j ≤ x → x < e - d → u x = s) → tn ol u e n (d + j) = tn ol u e n d ∧ tv ol u e n v (d + j) = tv ol u e n v d := by
  refine int_ind (fun _ => by simp) (fun j hj ih h => ?_)
  obtain ⟨a1, a2⟩ := ih (fun x h1 h2 => h x (by omega) h2)
  rw [← Int.add_assoc, tn_succ ol u e n (by omega), tv_succ ol u e n v (by omega), h (e - 1 - (d + j)) (by omega) (by omega), if_neg hk, if_neg hk, a1, a2]
  exact ⟨by omega, rfl⟩
theorem turned_keep {ol e n d s : Int} {u v : Int → Int} (hd : 0 ≤ d) (hk : ol = 0 ∨ s ≠ 10) : ∀ j, 0 ≤ j → (∀ x, e - d - j ≤ x → x < e - d → u x = s) → tn ol u e n (d + j) = tn ol u e n d + j ∧ ∀ x, x < tn ol u e n d + j → tv ol u e n v (d + j) x = app (tv ol u e n v d) (tn ol u e n d) s x := by
  refine int_ind (fun _ => ⟨by simp, fun x hx => by rw [Int.add_zero]; rw [app_lt (by omega)]⟩) (fun j hj ih h => ?_)
  obtain ⟨a1, a2⟩ := ih (fun x h1 h2 => h x (by omega) h2)
  rw [← Int.add_assoc, tn_succ ol u e n (by omega), tv_succ ol u e n v (by omega), h (e - 1 - (d + j)) (by omega) (by omega), if_pos hk, if_pos hk, a1]
  refine ⟨by omega, fun x hx => ?_⟩
  by_cases q : x < tn ol u e n d + j
  · rw [app_lt q]
    exact a2 x q
  · rw [app_ge (by omega), app_ge (by omega)]
theorem turned_step {r pl ov n N f e ol S T z k r2 : Int} {sg ln v u sg2 ln2 : Int → Int} (hO : Ok r2 sg2 ln2 N u) (h1 : 0 ≤ k) (h2 : k < r2) (hS : S = ps ln2 (k + 1)) (hT : T = S - ln2 k) (hk : ol = 0 ∨ sg2 k ≠ 10) (hf : 0 ≤ f ∧ f ≤ e ∧ e ≤ N)
    (hz : z = max 0 (min (T + ln2 k) e - max T f)) (h : RV r pl ov sg ln (tn ol u e n (max 0 (e - max S f)) + max 0 z) (app (tv ol u e n v (max 0 (e - max S f))) (tn ol u e n (max 0 (e - max S f))) (sg2 k))) : RV r pl ov sg ln (tn ol u e n (max 0 (e - max T f))) (tv ol u e n v (max 0 (e - max T f))) := by
  obtain ⟨g1, g2, g3, g4, g5, g6⟩ := hO.run h1 h2
  have hd : max 0 (e - max T f) = max 0 (e - max S f) + z := by omega
  obtain ⟨a1, a2⟩ := turned_keep (ol := ol) (e := e) (n := n) (s := sg2 k) (u := u) (v := v) (d := max 0 (e - max S f)) (by omega) hk z (by omega) (fun x q1 q2 => hO.2.2.2.2 k h1 h2 x (by omega) (by omega))
  rw [hd]
  exact h.to (by omega) (fun x q1 q2 => (a2 x (by omega)).symm)
theorem turned_over {n N f e ol S T k r2 : Int} {v u sg2 ln2 : Int → Int} (hO : Ok r2 sg2 ln2 N u) (h1 : 0 ≤ k) (h2 : k < r2) (hS : S = ps ln2 (k + 1)) (hT : T = S - ln2 k) (hk : ¬ (ol = 0 ∨ sg2 k ≠ 10)) (hf : 0 ≤ f ∧ f ≤ e ∧ e ≤ N) : tn ol u e n (max 0 (e - max T f)) = tn ol u e n (max 0 (e - max S f)) ∧ tv ol u e n v (max 0 (e - max T f)) = tv ol u e n v (max 0 (e - max S f)) := by
  obtain ⟨g1, g2, g3, g4, g5, g6⟩ := hO.run h1 h2
  have hd : max 0 (e - max T f) = max 0 (e - max S f) + (max 0 (e - max T f) - max 0 (e - max S f)) := by omega
  rw [hd]
  exact turned_skip (by omega) hk _ (by omega) (fun x q1 q2 => hO.2.2.2.2 k h1 h2 x (by omega) (by omega))
/-- live signs in front of a place -/
def lv_ (u : Int → Int) : Int → Int := fun x => if u x = 10 then 0 else 1
theorem lv_0 (u : Int → Int) (x : Int) : 0 ≤ lv_ u x ∧ lv_ u x ≤ 1 := by unfold lv_; split <;> omega
def lfm (v : Int → Int) (n : Int) (u : Int → Int) (f : Int) (w : Int → Int) : Int → Int := fun x => if x < n then v x else if u (x - n + f) = 10 then 10 else w (ps (lv_ u) (x - n + f) - ps (lv_ u) f)
theorem live_dead {r pl ov n N e f z S k r2 : Int} {sg ln v u w sg2 ln2 : Int → Int} (hO : Ok r2 sg2 ln2 N u) (h1 : 0 ≤ k) (h2 : k < r2) (hf : 0 ≤ f ∧ f ≤ e) (hS : S = ps ln2 k) (hs : sg2 k = 10) (h : RV r pl ov sg ln (n + max 0 (min S e - f) + max 0 z) (app (lfm v n u f w) (n + max 0 (min S e - f)) 10)) (hz : z = max 0 (min (S + ln2 k) e - max S f)) : RV r pl ov sg ln (n + max 0 (min (S + ln2 k) e - f)) (lfm v n u f w) := by
  obtain ⟨g1, g2, g3, g4, g5, g6⟩ := hO.run h1 h2
  refine h.to (by omega) (fun x q1 q2 => ?_)
  by_cases hx : x < n + max 0 (min S e - f)
  · rw [app_lt hx]
  · rw [app_ge (by omega)]
    unfold lfm
    rw [if_neg (by omega), if_pos]
    rw [← hs]
    exact hO.2.2.2.2 k h1 h2 _ (by omega) (by omega)
theorem live_count_dead {N e f S k r2 : Int} {u sg2 ln2 : Int → Int} (hO : Ok r2 sg2 ln2 N u) (h1 : 0 ≤ k) (h2 : k < r2) (hf : 0 ≤ f ∧ f ≤ e) (hS : S = ps ln2 k) (hs : sg2 k = 10) : ps (lv_ u) (max f (min (S + ln2 k) e)) = ps (lv_ u) (max f (min S e)) := by
  obtain ⟨g1, g2, g3, g4, g5, g6⟩ := hO.run h1 h2
  have := ps_none (g := lv_ u) (a := max f (min S e)) (by omega) (max f (min (S + ln2 k) e) - max f (min S e)) (by omega) (fun x q1 q2 => by
    unfold lv_
    rw [if_pos]
    rw [hO.2.2.2.2 k h1 h2 x (by omega) (by omega)]
    exact hs)
  rwa [show max f (min S e) + (max f (min (S + ln2 k) e) - max f (min S e)) = max f (min (S + ln2 k) e) by omega] at this
theorem live_count_live {N e f z S k r2 : Int} {u sg2 ln2 : Int → Int} (hO : Ok r2 sg2 ln2 N u) (h1 : 0 ≤ k) (h2 : k < r2) (hf : 0 ≤ f ∧ f ≤ e) (hS : S = ps ln2 k) (hs : sg2 k ≠ 10) (hz : z = max 0 (min (S + ln2 k) e - max S f)) : ps (lv_ u) (max f (min (S + ln2 k) e)) = ps (lv_ u) (max f (min S e)) + z := by
  obtain ⟨g1, g2, g3, g4, g5, g6⟩ := hO.run h1 h2
  have := ps_all (g := lv_ u) (a := max f (min S e)) (by omega) (max f (min (S + ln2 k) e) - max f (min S e)) (by omega) (fun x q1 q2 => by
    unfold lv_
    rw [if_neg]
    rw [hO.2.2.2.2 k h1 h2 x (by omega) (by omega)]
    exact hs)
  rw [show max f (min S e) + (max f (min (S + ln2 k) e) - max f (min S e)) = max f (min (S + ln2 k) e) by omega] at this
  omega
theorem live_live {r pl ov n N e f z S k r2 m : Int} {sg ln v u w sg2 ln2 : Int → Int} (hO : Ok r2 sg2 ln2 N u) (h1 : 0 ≤ k) (h2 : k < r2) (hf : 0 ≤ f ∧ f ≤ e) (hS : S = ps ln2 k) (hs : sg2 k ≠ 10) (hz : z = max 0 (min (S + ln2 k) e - max S f)) (hm : ps (lv_ u) (max f (min S e)) - ps (lv_ u) f + z ≤ m)
    (h : RV r pl ov sg ln (n + max 0 (min S e - f) + max 0 (min m (ps (lv_ u) (max f (min S e)) - ps (lv_ u) f + z) - (ps (lv_ u) (max f (min S e)) - ps (lv_ u) f))) (cat (lfm v n u f w) (n + max 0 (min S e - f)) w (ps (lv_ u) (max f (min S e)) - ps (lv_ u) f))) : RV r pl ov sg ln (n + max 0 (min (S + ln2 k) e - f)) (lfm v n u f w) := by
  obtain ⟨g1, g2, g3, g4, g5, g6⟩ := hO.run h1 h2
  refine h.to (by omega) (fun x q1 q2 => ?_)
  by_cases hx : x < n + max 0 (min S e - f)
  · rw [cat_lt hx]
  · rw [cat_ge (by omega)]
    unfold lfm
    rw [if_neg (by omega), if_neg (by rw [hO.2.2.2.2 k h1 h2 _ (by omega) (by omega)]; exact hs)]
    have := ps_all (g := lv_ u) (a := max f (min S e)) (by omega) (x - n + f - max f (min S e)) (by omega) (fun y q1 q2 => by
      unfold lv_
      rw [if_neg]
      rw [hO.2.2.2.2 k h1 h2 y (by omega) (by omega)]
      exact hs)
    rw [show max f (min S e) + (x - n + f - max f (min S e)) = x - n + f by omega] at this
    rw [this]
    congr 1
    omega
theorem lv_le {u : Int → Int} {a b : Int} (ha : 0 ≤ a) (hb : a ≤ b) : ps (lv_ u) a ≤ ps (lv_ u) b ∧ ps (lv_ u) b ≤ ps (lv_ u) a + (b - a) := by
  have key : ∀ m, 0 ≤ m → ps (lv_ u) a ≤ ps (lv_ u) (a + m) ∧ ps (lv_ u) (a + m) ≤ ps (lv_ u) a + m := by
    refine int_ind (by simp) (fun m hm ih => ?_)
    rw [← Int.add_assoc, ps_succ _ (by omega)]
    have := lv_0 u (a + m)
    omega
  have := key (b - a) (by omega)
  rw [show a + (b - a) = b by omega] at this
  exact this
theorem d_S_signAfter_0 : decode b_S_signAfter 0 = .ok (.iload_n 0, 1) := by decide +kernel
theorem d_S_signAfter_1 : decode b_S_signAfter 1 = .ok (.iconst 2, 1) := by decide +kernel
theorem d_S_signAfter_2 : decode b_S_signAfter 2 = .ok (.if_icmp .ne 7, 3) := by decide +kernel
theorem d_S_signAfter_5 : decode b_S_signAfter 5 = .ok (.iconst 1, 1) := by decide +kernel
theorem d_S_signAfter_6 : decode b_S_signAfter 6 = .ok (.goto 4, 3) := by decide +kernel
theorem d_S_signAfter_9 : decode b_S_signAfter 9 = .ok (.iconst 0, 1) := by decide +kernel
theorem d_S_signAfter_10 : decode b_S_signAfter 10 = .ok (.iload_n 1, 1) := by decide +kernel
theorem d_S_signAfter_11 : decode b_S_signAfter 11 = .ok (.bipush 10, 2) := by decide +kernel
theorem d_S_signAfter_13 : decode b_S_signAfter 13 = .ok (.if_icmp .ne 7, 3) := by decide +kernel
theorem d_S_signAfter_16 : decode b_S_signAfter 16 = .ok (.iconst 1, 1) := by decide +kernel
theorem d_S_signAfter_17 : decode b_S_signAfter 17 = .ok (.goto 4, 3) := by decide +kernel
theorem d_S_signAfter_20 : decode b_S_signAfter 20 = .ok (.iconst 0, 1) := by decide +kernel
theorem d_S_signAfter_21 : decode b_S_signAfter 21 = .ok (.if_icmp .eq 5, 3) := by decide +kernel
theorem d_S_signAfter_24 : decode b_S_signAfter 24 = .ok (.iload_n 1, 1) := by decide +kernel
theorem d_S_signAfter_25 : decode b_S_signAfter 25 = .ok (.ireturn, 1) := by decide +kernel
theorem d_S_signAfter_26 : decode b_S_signAfter 26 = .ok (.iload_n 0, 1) := by decide +kernel
theorem d_S_signAfter_27 : decode b_S_signAfter 27 = .ok (.iconst 1, 1) := by decide +kernel
theorem d_S_signAfter_28 : decode b_S_signAfter 28 = .ok (.if_icmp .ne 12, 3) := by decide +kernel
theorem d_S_signAfter_31 : decode b_S_signAfter 31 = .ok (.iload_n 1, 1) := by decide +kernel
theorem d_S_signAfter_32 : decode b_S_signAfter 32 = .ok (.iload_n 2, 1) := by decide +kernel
theorem d_S_signAfter_33 : decode b_S_signAfter 33 = .ok (.iadd, 1) := by decide +kernel
theorem d_S_signAfter_34 : decode b_S_signAfter 34 = .ok (.bipush 10, 2) := by decide +kernel
theorem d_S_signAfter_36 : decode b_S_signAfter 36 = .ok (.irem, 1) := by decide +kernel
theorem d_S_signAfter_37 : decode b_S_signAfter 37 = .ok (.goto 4, 3) := by decide +kernel
theorem d_S_signAfter_40 : decode b_S_signAfter 40 = .ok (.iload_n 2, 1) := by decide +kernel
theorem d_S_signAfter_41 : decode b_S_signAfter 41 = .ok (.ireturn, 1) := by decide +kernel
set_option maxHeartbeats 4000000 in
set_option maxRecDepth 20000 in
theorem c_S_signAfter {l : Launch} {G : va_G} {tys : List (ClassId × FieldType)} (ed ge s num : Int) (hs : 0 ≤ s ∧ s ≤ 10) (hn : 0 ≤ num ∧ num ≤ 10) (he : (ed = 0 ∧ ge = 0) ∨ (ed = 1 ∧ ge = 1) ∨ (ed = 2 ∧ ge = 3)) : CTP l G tys y_S_signAfter b_S_signAfter 3 .int 0 0 [.int (iI ed), .int (iI s), .int (iI num)] (fun z => z = sa ge s num) := by
  unfold CTP
  have hsa := sa_cases ge s num
  refine mkI (by decide) (Nat.le_of_ble_eq_true rfl) ?_
  rintro X rfl rfl rfl hRm C kret H ls w hl
  have hl : lv_has ls 3 [(0, .int (iI ed)), (1, .int (iI s)), (2, .int (iI num))] := hl
  have w : Wd X ([]) H [] := w
  generalize ([] : List Loc) = locs at w ⊢
  refine r_iload_n (pc := 0) C d_S_signAfter_0 rfl (lv_at hl 0 rfl) ?_
  refine r_iconst (pc := 1) C d_S_signAfter_1 ?_
  refine r_icmp_ne (pc := 2) (tgt := 9) C (by omega) d_S_signAfter_2 (by decide) (fun c_2 => ?_) (fun c_2 => ?_)
  · skip
    refine r_iconst (pc := 9) C d_S_signAfter_9 ?_
    refine r_iload_n (pc := 10) C d_S_signAfter_10 rfl (lv_at hl 1 rfl) ?_
    refine r_bipush (pc := 11) C d_S_signAfter_11 (by decide) ?_
    refine r_icmp_ne (pc := 13) (tgt := 20) C (by omega) d_S_signAfter_13 (by decide) (fun c_13 => ?_) (fun c_13 => ?_)
    · skip
      refine r_iconst (pc := 20) C d_S_signAfter_20 ?_
      refine r_icmp_eq (pc := 21) (tgt := 26) C (by omega) d_S_signAfter_21 (by decide) (fun c_21 => ?_) (fun c_21 => absurd c_21 (by omega))
      refine r_iload_n (pc := 26) C d_S_signAfter_26 rfl (lv_at hl 0 rfl) ?_
      refine r_iconst (pc := 27) C d_S_signAfter_27 ?_
      refine r_icmp_ne (pc := 28) (tgt := 40) C (by omega) d_S_signAfter_28 (by decide) (fun c_28 => ?_) (fun c_28 => ?_)
      · skip
        refine r_iload_n (pc := 40) C d_S_signAfter_40 rfl (lv_at hl 2 rfl) ?_
        exact kret _ _ _ _ num _ d_S_signAfter_41 w (⟨rfl, by omega⟩)
      · skip
        refine r_iload_n (pc := 31) C d_S_signAfter_31 rfl (lv_at hl 1 rfl) ?_
        refine r_iload_n (pc := 32) C d_S_signAfter_32 rfl (lv_at hl 2 rfl) ?_
        refine r_iadd (pc := 33) C d_S_signAfter_33 ?_
        refine r_bipush (pc := 34) C d_S_signAfter_34 (by decide) ?_
        refine r_irem (pc := 36) C d_S_signAfter_36 (by omega) ?_
        refine r_goto (pc := 37) (tgt := 41) C d_S_signAfter_37 (by decide) ?_
        exact kret _ _ _ _ ((s + num) % 10) _ d_S_signAfter_41 w (⟨rfl, by omega⟩)
    · skip
      refine r_iconst (pc := 16) C d_S_signAfter_16 ?_
      refine r_goto (pc := 17) (tgt := 21) C d_S_signAfter_17 (by decide) ?_
      refine r_icmp_eq (pc := 21) (tgt := 26) C (by omega) d_S_signAfter_21 (by decide) (fun c_21 => absurd c_21 (by omega)) (fun c_21 => ?_)
      refine r_iload_n (pc := 24) C d_S_signAfter_24 rfl (lv_at hl 1 rfl) ?_
      exact kret _ _ _ _ s _ d_S_signAfter_25 w (⟨rfl, by omega⟩)
  · skip
    refine r_iconst (pc := 5) C d_S_signAfter_5 ?_
    refine r_goto (pc := 6) (tgt := 10) C d_S_signAfter_6 (by decide) ?_
    refine r_iload_n (pc := 10) C d_S_signAfter_10 rfl (lv_at hl 1 rfl) ?_
    refine r_bipush (pc := 11) C d_S_signAfter_11 (by decide) ?_
    refine r_icmp_ne (pc := 13) (tgt := 20) C (by omega) d_S_signAfter_13 (by decide) (fun c_13 => ?_) (fun c_13 => ?_)
    · skip
      refine r_iconst (pc := 20) C d_S_signAfter_20 ?_
      refine r_icmp_eq (pc := 21) (tgt := 26) C (by omega) d_S_signAfter_21 (by decide) (fun c_21 => absurd c_21 (by omega)) (fun c_21 => ?_)
      refine r_iload_n (pc := 24) C d_S_signAfter_24 rfl (lv_at hl 1 rfl) ?_
      exact kret _ _ _ _ s _ d_S_signAfter_25 w (⟨rfl, by omega⟩)
    · skip
      refine r_iconst (pc := 16) C d_S_signAfter_16 ?_
      refine r_goto (pc := 17) (tgt := 21) C d_S_signAfter_17 (by decide) ?_
      refine r_icmp_eq (pc := 21) (tgt := 26) C (by omega) d_S_signAfter_21 (by decide) (fun c_21 => ?_) (fun c_21 => absurd c_21 (by omega))
      refine r_iload_n (pc := 26) C d_S_signAfter_26 rfl (lv_at hl 0 rfl) ?_
      refine r_iconst (pc := 27) C d_S_signAfter_27 ?_
      refine r_icmp_ne (pc := 28) (tgt := 40) C (by omega) d_S_signAfter_28 (by decide) (fun c_28 => ?_) (fun c_28 => ?_)
      · skip
        refine r_iload_n (pc := 40) C d_S_signAfter_40 rfl (lv_at hl 2 rfl) ?_
        exact kret _ _ _ _ num _ d_S_signAfter_41 w (⟨rfl, by omega⟩)
      · skip
        refine r_iload_n (pc := 31) C d_S_signAfter_31 rfl (lv_at hl 1 rfl) ?_
        refine r_iload_n (pc := 32) C d_S_signAfter_32 rfl (lv_at hl 2 rfl) ?_
        refine r_iadd (pc := 33) C d_S_signAfter_33 ?_
        refine r_bipush (pc := 34) C d_S_signAfter_34 (by decide) ?_
        refine r_irem (pc := 36) C d_S_signAfter_36 (by omega) ?_
        refine r_goto (pc := 37) (tgt := 41) C d_S_signAfter_37 (by decide) ?_
        exact kret _ _ _ _ ((s + num) % 10) _ d_S_signAfter_41 w (⟨rfl, by omega⟩)
theorem d_S_appendEdited_0 : decode b_S_appendEdited 0 = .ok (.iconst 0, 1) := by decide +kernel
theorem d_S_appendEdited_1 : decode b_S_appendEdited 1 = .ok (.istore 6, 2) := by decide +kernel
theorem d_S_appendEdited_3 : decode b_S_appendEdited 3 = .ok (.iconst 0, 1) := by decide +kernel
theorem d_S_appendEdited_4 : decode b_S_appendEdited 4 = .ok (.istore 7, 2) := by decide +kernel
theorem d_S_appendEdited_6 : decode b_S_appendEdited 6 = .ok (.iconst 0, 1) := by decide +kernel
theorem d_S_appendEdited_7 : decode b_S_appendEdited 7 = .ok (.istore 8, 2) := by decide +kernel
theorem d_S_appendEdited_9 : decode b_S_appendEdited 9 = .ok (.iload 8, 2) := by decide +kernel
theorem d_S_appendEdited_11 : decode b_S_appendEdited 11 = .ok (.aload_n 1, 1) := by decide +kernel
theorem d_S_appendEdited_12 : decode b_S_appendEdited 12 = .ok (.getfield 18, 3) := by decide +kernel
theorem d_S_appendEdited_15 : decode b_S_appendEdited 15 = .ok (.if_icmp .ge 115, 3) := by decide +kernel
theorem d_S_appendEdited_18 : decode b_S_appendEdited 18 = .ok (.aload_n 1, 1) := by decide +kernel
theorem d_S_appendEdited_19 : decode b_S_appendEdited 19 = .ok (.getfield 9, 3) := by decide +kernel
theorem d_S_appendEdited_22 : decode b_S_appendEdited 22 = .ok (.iload 8, 2) := by decide +kernel
theorem d_S_appendEdited_24 : decode b_S_appendEdited 24 = .ok (.iaload, 1) := by decide +kernel
theorem d_S_appendEdited_25 : decode b_S_appendEdited 25 = .ok (.istore 9, 2) := by decide +kernel
theorem d_S_appendEdited_27 : decode b_S_appendEdited 27 = .ok (.iload 6, 2) := by decide +kernel
theorem d_S_appendEdited_29 : decode b_S_appendEdited 29 = .ok (.aload_n 1, 1) := by decide +kernel
theorem d_S_appendEdited_30 : decode b_S_appendEdited 30 = .ok (.getfield 15, 3) := by decide +kernel
theorem d_S_appendEdited_33 : decode b_S_appendEdited 33 = .ok (.iload 8, 2) := by decide +kernel
theorem d_S_appendEdited_35 : decode b_S_appendEdited 35 = .ok (.iaload, 1) := by decide +kernel
theorem d_S_appendEdited_36 : decode b_S_appendEdited 36 = .ok (.iadd, 1) := by decide +kernel
theorem d_S_appendEdited_37 : decode b_S_appendEdited 37 = .ok (.istore 10, 2) := by decide +kernel
theorem d_S_appendEdited_39 : decode b_S_appendEdited 39 = .ok (.iload 4, 2) := by decide +kernel
theorem d_S_appendEdited_41 : decode b_S_appendEdited 41 = .ok (.iload 9, 2) := by decide +kernel
theorem d_S_appendEdited_43 : decode b_S_appendEdited 43 = .ok (.iload 5, 2) := by decide +kernel
theorem d_S_appendEdited_45 : decode b_S_appendEdited 45 = .ok (.invokestatic 51, 3) := by decide +kernel
theorem d_S_appendEdited_48 : decode b_S_appendEdited 48 = .ok (.istore 11, 2) := by decide +kernel
theorem d_S_appendEdited_50 : decode b_S_appendEdited 50 = .ok (.iload 6, 2) := by decide +kernel
theorem d_S_appendEdited_52 : decode b_S_appendEdited 52 = .ok (.iload 10, 2) := by decide +kernel
theorem d_S_appendEdited_54 : decode b_S_appendEdited 54 = .ok (.iload_n 2, 1) := by decide +kernel
theorem d_S_appendEdited_55 : decode b_S_appendEdited 55 = .ok (.iload_n 3, 1) := by decide +kernel
theorem d_S_appendEdited_56 : decode b_S_appendEdited 56 = .ok (.invokestatic 43, 3) := by decide +kernel
theorem d_S_appendEdited_59 : decode b_S_appendEdited 59 = .ok (.istore 12, 2) := by decide +kernel
theorem d_S_appendEdited_61 : decode b_S_appendEdited 61 = .ok (.aload_n 0, 1) := by decide +kernel
theorem d_S_appendEdited_62 : decode b_S_appendEdited 62 = .ok (.iload 9, 2) := by decide +kernel
theorem d_S_appendEdited_64 : decode b_S_appendEdited 64 = .ok (.iload 6, 2) := by decide +kernel
theorem d_S_appendEdited_66 : decode b_S_appendEdited 66 = .ok (.iload 10, 2) := by decide +kernel
theorem d_S_appendEdited_68 : decode b_S_appendEdited 68 = .ok (.iconst 0, 1) := by decide +kernel
theorem d_S_appendEdited_69 : decode b_S_appendEdited 69 = .ok (.iload_n 2, 1) := by decide +kernel
theorem d_S_appendEdited_70 : decode b_S_appendEdited 70 = .ok (.invokestatic 43, 3) := by decide +kernel
theorem d_S_appendEdited_73 : decode b_S_appendEdited 73 = .ok (.invokevirtual 47, 3) := by decide +kernel
theorem d_S_appendEdited_76 : decode b_S_appendEdited 76 = .ok (.aload_n 0, 1) := by decide +kernel
theorem d_S_appendEdited_77 : decode b_S_appendEdited 77 = .ok (.iload 11, 2) := by decide +kernel
theorem d_S_appendEdited_79 : decode b_S_appendEdited 79 = .ok (.iload 12, 2) := by decide +kernel
theorem d_S_appendEdited_81 : decode b_S_appendEdited 81 = .ok (.invokevirtual 47, 3) := by decide +kernel
theorem d_S_appendEdited_84 : decode b_S_appendEdited 84 = .ok (.aload_n 0, 1) := by decide +kernel
theorem d_S_appendEdited_85 : decode b_S_appendEdited 85 = .ok (.iload 9, 2) := by decide +kernel
theorem d_S_appendEdited_87 : decode b_S_appendEdited 87 = .ok (.iload 6, 2) := by decide +kernel
theorem d_S_appendEdited_89 : decode b_S_appendEdited 89 = .ok (.iload 10, 2) := by decide +kernel
theorem d_S_appendEdited_91 : decode b_S_appendEdited 91 = .ok (.iload_n 3, 1) := by decide +kernel
theorem d_S_appendEdited_92 : decode b_S_appendEdited 92 = .ok (.aload_n 1, 1) := by decide +kernel
theorem d_S_appendEdited_93 : decode b_S_appendEdited 93 = .ok (.getfield 22, 3) := by decide +kernel
theorem d_S_appendEdited_96 : decode b_S_appendEdited 96 = .ok (.invokestatic 43, 3) := by decide +kernel
theorem d_S_appendEdited_99 : decode b_S_appendEdited 99 = .ok (.invokevirtual 47, 3) := by decide +kernel
theorem d_S_appendEdited_102 : decode b_S_appendEdited 102 = .ok (.iload 7, 2) := by decide +kernel
theorem d_S_appendEdited_104 : decode b_S_appendEdited 104 = .ok (.iload 11, 2) := by decide +kernel
theorem d_S_appendEdited_106 : decode b_S_appendEdited 106 = .ok (.iload 9, 2) := by decide +kernel
theorem d_S_appendEdited_108 : decode b_S_appendEdited 108 = .ok (.if_icmp .ne 7, 3) := by decide +kernel
theorem d_S_appendEdited_111 : decode b_S_appendEdited 111 = .ok (.iconst 0, 1) := by decide +kernel
theorem d_S_appendEdited_112 : decode b_S_appendEdited 112 = .ok (.goto 5, 3) := by decide +kernel
theorem d_S_appendEdited_115 : decode b_S_appendEdited 115 = .ok (.iload 12, 2) := by decide +kernel
theorem d_S_appendEdited_117 : decode b_S_appendEdited 117 = .ok (.iadd, 1) := by decide +kernel
theorem d_S_appendEdited_118 : decode b_S_appendEdited 118 = .ok (.istore 7, 2) := by decide +kernel
theorem d_S_appendEdited_120 : decode b_S_appendEdited 120 = .ok (.iload 10, 2) := by decide +kernel
theorem d_S_appendEdited_122 : decode b_S_appendEdited 122 = .ok (.istore 6, 2) := by decide +kernel
theorem d_S_appendEdited_124 : decode b_S_appendEdited 124 = .ok (.iinc 8 1, 3) := by decide +kernel
theorem d_S_appendEdited_127 : decode b_S_appendEdited 127 = .ok (.goto (-118), 3) := by decide +kernel
theorem d_S_appendEdited_130 : decode b_S_appendEdited 130 = .ok (.iload 7, 2) := by decide +kernel
theorem d_S_appendEdited_132 : decode b_S_appendEdited 132 = .ok (.ireturn, 1) := by decide +kernel
set_option maxHeartbeats 4000000 in
set_option maxRecDepth 20000 in
theorem c_S_appendEdited {l : Launch} {G : va_G} {tys : List (ClassId × FieldType)} {cI cO cZ : ClassId} (hT : TY tys cI cO cZ) (q a b : Nat) (sg ln : Int → Int) (r pl ov lc sd : Int) (q2 a2 b2 : Nat) (sg2 ln2 : Int → Int) (r2 pl2 ov2 lc2 sd2 : Int) (N e f ed ge num : Int) (v u : Int → Int) (hV : RV r pl ov sg ln 0 v) (hO : Ok r2 sg2 ln2 N u) (hr : r2 ≤ 50) (hN : N ≤ 3000) (hf : 0 ≤ f ∧ f ≤ e ∧ e ≤ N) (hed : (ed = 0 ∧ ge = 0) ∨ (ed = 1 ∧ ge = 1) ∨ (ed = 2 ∧ ge = 3)) (hnum : 0 ≤ num ∧ num ≤ 10) (hp : pl2 = N) : CTI l G tys y_S_appendEdited b_S_appendEdited 13 .int 2 42 [.ref q, .ref q2, .int (iI f), .int (iI e), .int (iI ed), .int (iI num)] (sw cI q a b sg ln r pl ov lc sd ++ sw cI q2 a2 b2 sg2 ln2 r2 pl2 ov2 lc2 sd2) (fun z w => z = ps (edc f e ge num u) N ∧ ∃ (sg' ln' : Int → Int) (r' pl' ov' : Int), w = sw cI q a b sg' ln' r' pl' ov' lc sd ++ sw cI q2 a2 b2 sg2 ln2 r2 pl2 ov2 lc2 sd2 ∧ RV r' pl' ov' sg' ln' N (edt f e ge num u)) := by
  refine mkI (by decide) (Nat.le_of_ble_eq_true rfl) ?_
  rintro X rfl rfl rfl hRm C kret H ls w hl
  have hl : lv_has ls 13 [(0, .ref q), (1, .ref q2), (2, .int (iI f)), (3, .int (iI e)), (4, .int (iI ed)), (5, .int (iI num))] := hl
  have w : Wd X (sw cI q a b sg ln r pl ov lc sd ++ sw cI q2 a2 b2 sg2 ln2 r2 pl2 ov2 lc2 sd2) H [] := w
  generalize ([] : List Loc) = locs at w ⊢
  have hr0 := hO.1
  have hN0 := hO.n0
  have hps := ps_zero ln2
  have hps2 := ps_zero (edc f e ge num u)
  subst hp
  refine r_iconst (pc := 0) C d_S_appendEdited_0 ?_
  refine r_istore (pc := 1) (lv' := [(6, .int (iI 0)), (0, .ref q), (1, .ref q2), (2, .int (iI f)), (3, .int (iI e)), (4, .int (iI ed)), (5, .int (iI num))]) C d_S_appendEdited_1 hl (by decide) rfl (fun ls hl => ?_)
  refine r_iconst (pc := 3) C d_S_appendEdited_3 ?_
  refine r_istore (pc := 4) (lv' := [(7, .int (iI 0)), (6, .int (iI 0)), (0, .ref q), (1, .ref q2), (2, .int (iI f)), (3, .int (iI e)), (4, .int (iI ed)), (5, .int (iI num))]) C d_S_appendEdited_4 hl (by decide) rfl (fun ls hl => ?_)
  refine r_iconst (pc := 6) C d_S_appendEdited_6 ?_
  refine r_istore (pc := 7) (lv' := [(8, .int (iI 0)), (7, .int (iI 0)), (6, .int (iI 0)), (0, .ref q), (1, .ref q2), (2, .int (iI f)), (3, .int (iI e)), (4, .int (iI ed)), (5, .int (iI num))]) C d_S_appendEdited_7 hl (by decide) rfl (fun ls hl => ?_)
  have L9 : ∀ (fuel : Nat), ∀ (run : Int) (start : Int) (chg : Int) (sg1 : Int → Int) (ln1 : Int → Int) (r1 : Int) (pl1 : Int) (ov1 : Int), 0 ≤ run ∧ run ≤ r2 → start = ps ln2 run → chg = ps (edc f e ge num u) start ∧ 0 ≤ chg ∧ chg ≤ start → RV r1 pl1 ov1 sg1 ln1 start (edt f e ge num u) → (r2 - run) < (fuel : Int) → ∀ (H : Heap) (locs : List Loc) (ls : Array Slot), Wd X (sw cI q a b sg1 ln1 r1 pl1 ov1 lc sd ++ sw cI q2 a2 b2 sg2 ln2 r2 pl2 ov2 lc2 sd2) H locs → lv_has ls 13 [(0, .ref q), (1, .ref q2), (2, .int (iI f)), (3, .int (iI e)), (4, .int (iI ed)), (5, .int (iI num)), (6, .int (iI start)), (7, .int (iI chg)), (8, .int (iI run))] → GG X 0 0 H locs 9 ls [] := by
    intro fuel
    induction fuel with
    | zero =>
      intro run start chg sg1 ln1 r1 pl1 ov1 h0 hst hch hV1 hfuel
      exact absurd hfuel (by omega)
    | succ fuel ih9 =>
      intro run start chg sg1 ln1 r1 pl1 ov1 h0 hst hch hV1 hfuel H locs ls w hl
      refine r_iload (pc := 9) C d_S_appendEdited_9 (lv_at hl 8 rfl) ?_
      refine r_aload_n (pc := 11) C d_S_appendEdited_11 rfl (lv_at hl 1 rfl) ?_
      refine r_get (pc := 12) (v := .int (iI r2)) C w i_S rfl 3 rfl 2 (by decide) fl_S_18 rfl rfl d_S_appendEdited_12 ?_
      refine r_icmp_ge (pc := 15) (tgt := 130) C (by omega) d_S_appendEdited_15 (by decide) (fun c_15 => ?_) (fun c_15 => ?_)
      · skip
        refine r_iload (pc := 130) C d_S_appendEdited_130 (lv_at hl 7 rfl) ?_
        exact kret _ _ _ _ chg _ d_S_appendEdited_132 w (⟨by rw [hch.1, show start = pl2 by rw [hst, show run = r2 by omega]; exact hO.2.2.2.1], _, _, _, _, _, rfl, hV1.to (by rw [hst, show run = r2 by omega]; exact hO.2.2.2.1) (fun _ _ _ => rfl)⟩)
      · skip
        have hk := hO.run (k := run) (by omega) (by omega)
        refine r_aload_n (pc := 18) C d_S_appendEdited_18 rfl (lv_at hl 1 rfl) ?_
        refine r_get (pc := 19) (v := .ref a2) C w i_S rfl 3 rfl 0 (by decide) fl_S_9 rfl rfl d_S_appendEdited_19 ?_
        refine r_iload (pc := 22) C d_S_appendEdited_22 (lv_at hl 8 rfl) ?_
        refine r_iald (pc := 24) (f := sg2) (i := run) C w 0 4 rfl hT.1 (by omega) d_S_appendEdited_24 ?_
        refine r_istore (pc := 25) (lv' := [(9, .int (iI (sg2 run))), (0, .ref q), (1, .ref q2), (2, .int (iI f)), (3, .int (iI e)), (4, .int (iI ed)), (5, .int (iI num)), (6, .int (iI start)), (7, .int (iI chg)), (8, .int (iI run))]) C d_S_appendEdited_25 hl (by decide) rfl (fun ls hl => ?_)
        refine r_iload (pc := 27) C d_S_appendEdited_27 (lv_at hl 7 rfl) ?_
        refine r_aload_n (pc := 29) C d_S_appendEdited_29 rfl (lv_at hl 2 rfl) ?_
        refine r_get (pc := 30) (v := .ref b2) C w i_S rfl 3 rfl 1 (by decide) fl_S_15 rfl rfl d_S_appendEdited_30 ?_
        refine r_iload (pc := 33) C d_S_appendEdited_33 (lv_at hl 9 rfl) ?_
        refine r_iald (pc := 35) (f := ln2) (i := run) C w 0 5 rfl hT.1 (by omega) d_S_appendEdited_35 ?_
        refine r_iadd (pc := 36) C d_S_appendEdited_36 ?_
        refine r_istore (pc := 37) (lv' := [(10, .int (iI (start + (ln2 run)))), (9, .int (iI (sg2 run))), (0, .ref q), (1, .ref q2), (2, .int (iI f)), (3, .int (iI e)), (4, .int (iI ed)), (5, .int (iI num)), (6, .int (iI start)), (7, .int (iI chg)), (8, .int (iI run))]) C d_S_appendEdited_37 hl (by decide) rfl (fun ls hl => ?_)
        refine r_iload (pc := 39) C d_S_appendEdited_39 (lv_at hl 6 rfl) ?_
        refine r_iload (pc := 41) C d_S_appendEdited_41 (lv_at hl 1 rfl) ?_
        refine r_iload (pc := 43) C d_S_appendEdited_43 (lv_at hl 7 rfl) ?_
        refine r_callP (pc := 45) (As := [.int (iI ed), .int (iI (sg2 run)), .int (iI num)]) (rest := []) C w (c_S_signAfter ed ge (sg2 run) num (by omega) (by omega) (by omega)) ml_S_51 st_S_signAfter ini_S cd_S_signAfter hd_S_signAfter rfl (by rw [hRm]; exact ⟨⟨Nat.le_of_ble_eq_true rfl, Nat.le_of_ble_eq_true rfl⟩, Nat.le_of_ble_eq_true rfl, Nat.le_of_ble_eq_true rfl⟩) hl.1 rfl (Nat.le_of_ble_eq_true rfl) d_S_appendEdited_45 (fun z_45 H locs hz_45 w => ?_)
        subst hz_45
        have hsar := sa_range (ed := ge) (s := sg2 run) (num := num) (by omega) (by omega)
        refine r_istore (pc := 48) (lv' := [(11, .int (iI (sa ge (sg2 run) num))), (10, .int (iI (start + (ln2 run)))), (9, .int (iI (sg2 run))), (0, .ref q), (1, .ref q2), (2, .int (iI f)), (3, .int (iI e)), (4, .int (iI ed)), (5, .int (iI num)), (6, .int (iI start)), (7, .int (iI chg)), (8, .int (iI run))]) C d_S_appendEdited_48 hl (by decide) rfl (fun ls hl => ?_)
        refine r_iload (pc := 50) C d_S_appendEdited_50 (lv_at hl 9 rfl) ?_
        refine r_iload (pc := 52) C d_S_appendEdited_52 (lv_at hl 1 rfl) ?_
        refine r_iload_n (pc := 54) C d_S_appendEdited_54 rfl (lv_at hl 5 rfl) ?_
        refine r_iload_n (pc := 55) C d_S_appendEdited_55 rfl (lv_at hl 6 rfl) ?_
        refine r_callP (pc := 56) (As := [.int (iI start), .int (iI (start + (ln2 run))), .int (iI f), .int (iI e)]) (rest := []) C w (c_S_shared start (start + (ln2 run)) f e (by omega)) ml_S_43 st_S_shared ini_S cd_S_shared hd_S_shared rfl (by rw [hRm]; exact ⟨⟨Nat.le_of_ble_eq_true rfl, Nat.le_of_ble_eq_true rfl⟩, Nat.le_of_ble_eq_true rfl, Nat.le_of_ble_eq_true rfl⟩) hl.1 rfl (Nat.le_of_ble_eq_true rfl) d_S_appendEdited_56 (fun z_56 H locs hz_56 w => ?_)
        refine r_istore (pc := 59) (lv' := [(12, .int (iI z_56)), (11, .int (iI (sa ge (sg2 run) num))), (10, .int (iI (start + (ln2 run)))), (9, .int (iI (sg2 run))), (0, .ref q), (1, .ref q2), (2, .int (iI f)), (3, .int (iI e)), (4, .int (iI ed)), (5, .int (iI num)), (6, .int (iI start)), (7, .int (iI chg)), (8, .int (iI run))]) C d_S_appendEdited_59 hl (by decide) rfl (fun ls hl => ?_)
        refine r_aload_n (pc := 61) C d_S_appendEdited_61 rfl (lv_at hl 4 rfl) ?_
        refine r_iload (pc := 62) C d_S_appendEdited_62 (lv_at hl 3 rfl) ?_
        refine r_iload (pc := 64) C d_S_appendEdited_64 (lv_at hl 10 rfl) ?_
        refine r_iload (pc := 66) C d_S_appendEdited_66 (lv_at hl 2 rfl) ?_
        refine r_iconst (pc := 68) C d_S_appendEdited_68 ?_
        refine r_iload_n (pc := 69) C d_S_appendEdited_69 rfl (lv_at hl 6 rfl) ?_
        refine r_callP (pc := 70) (As := [.int (iI start), .int (iI (start + (ln2 run))), .int (iI 0), .int (iI f)]) (rest := [.int (iI (sg2 run)), .ref q]) C w (c_S_shared start (start + (ln2 run)) 0 f (by omega)) ml_S_43 st_S_shared ini_S cd_S_shared hd_S_shared rfl (by rw [hRm]; exact ⟨⟨Nat.le_of_ble_eq_true rfl, Nat.le_of_ble_eq_true rfl⟩, Nat.le_of_ble_eq_true rfl, Nat.le_of_ble_eq_true rfl⟩) hl.1 rfl (Nat.le_of_ble_eq_true rfl) d_S_appendEdited_70 (fun z_70 H locs hz_70 w => ?_)
        refine r_callVV (pc := 73) (As := [.int (iI (sg2 run)), .int (iI z_70)]) (rest := []) (wr := (sw cI q2 a2 b2 sg2 ln2 r2 pl2 ov2 lc2 sd2)) C w (c_S_append hT q a b sg1 ln1 r1 pl1 ov1 lc sd (sg2 run) z_70 _ _ hV1 (by omega) (by omega)) ml_S_47 im_S_append se_S_append ini_S cd_S_append hd_S_append rfl (by rw [hRm]; exact ⟨⟨Nat.le_of_ble_eq_true rfl, Nat.le_of_ble_eq_true rfl⟩, Nat.le_of_ble_eq_true rfl, Nat.le_of_ble_eq_true rfl⟩) hl.1 [0, 1, 2] [3, 4, 5] ⟨rfl, rfl, by decide, by decide, by decide⟩ 0 rfl rfl rfl (Nat.le_of_ble_eq_true rfl) d_S_appendEdited_73 (fun u_73 H locs hz_73 w => ?_)
        obtain ⟨sg_73, ln_73, r_73, pl_73, ov_73, rfl, hV_73⟩ := hz_73
        have w : Wd X (sw cI q a b sg_73 ln_73 r_73 pl_73 ov_73 lc sd ++ sw cI q2 a2 b2 sg2 ln2 r2 pl2 ov2 lc2 sd2) H locs := w.sub [3, 4, 5, 0, 1, 2] rfl (by decide)
        refine r_aload_n (pc := 76) C d_S_appendEdited_76 rfl (lv_at hl 4 rfl) ?_
        refine r_iload (pc := 77) C d_S_appendEdited_77 (lv_at hl 1 rfl) ?_
        refine r_iload (pc := 79) C d_S_appendEdited_79 (lv_at hl 0 rfl) ?_
        refine r_callVV (pc := 81) (As := [.int (iI (sa ge (sg2 run) num)), .int (iI z_56)]) (rest := []) (wr := (sw cI q2 a2 b2 sg2 ln2 r2 pl2 ov2 lc2 sd2)) C w (c_S_append hT q a b sg_73 ln_73 r_73 pl_73 ov_73 lc sd (sa ge (sg2 run) num) z_56 _ _ hV_73 (by omega) (by omega)) ml_S_47 im_S_append se_S_append ini_S cd_S_append hd_S_append rfl (by rw [hRm]; exact ⟨⟨Nat.le_of_ble_eq_true rfl, Nat.le_of_ble_eq_true rfl⟩, Nat.le_of_ble_eq_true rfl, Nat.le_of_ble_eq_true rfl⟩) hl.1 [0, 1, 2] [3, 4, 5] ⟨rfl, rfl, by decide, by decide, by decide⟩ 0 rfl rfl rfl (Nat.le_of_ble_eq_true rfl) d_S_appendEdited_81 (fun u_81 H locs hz_81 w => ?_)
        obtain ⟨sg_81, ln_81, r_81, pl_81, ov_81, rfl, hV_81⟩ := hz_81
        have w : Wd X (sw cI q a b sg_81 ln_81 r_81 pl_81 ov_81 lc sd ++ sw cI q2 a2 b2 sg2 ln2 r2 pl2 ov2 lc2 sd2) H locs := w.sub [3, 4, 5, 0, 1, 2] rfl (by decide)
        refine r_aload_n (pc := 84) C d_S_appendEdited_84 rfl (lv_at hl 4 rfl) ?_
        refine r_iload (pc := 85) C d_S_appendEdited_85 (lv_at hl 3 rfl) ?_
        refine r_iload (pc := 87) C d_S_appendEdited_87 (lv_at hl 10 rfl) ?_
        refine r_iload (pc := 89) C d_S_appendEdited_89 (lv_at hl 2 rfl) ?_
        refine r_iload_n (pc := 91) C d_S_appendEdited_91 rfl (lv_at hl 7 rfl) ?_
        refine r_aload_n (pc := 92) C d_S_appendEdited_92 rfl (lv_at hl 5 rfl) ?_
        refine r_get (pc := 93) (v := .int (iI pl2)) C w i_S rfl 3 rfl 3 (by decide) fl_S_22 rfl rfl d_S_appendEdited_93 ?_
        refine r_callP (pc := 96) (As := [.int (iI start), .int (iI (start + (ln2 run))), .int (iI e), .int (iI pl2)]) (rest := [.int (iI (sg2 run)), .ref q]) C w (c_S_shared start (start + (ln2 run)) e pl2 (by omega)) ml_S_43 st_S_shared ini_S cd_S_shared hd_S_shared rfl (by rw [hRm]; exact ⟨⟨Nat.le_of_ble_eq_true rfl, Nat.le_of_ble_eq_true rfl⟩, Nat.le_of_ble_eq_true rfl, Nat.le_of_ble_eq_true rfl⟩) hl.1 rfl (Nat.le_of_ble_eq_true rfl) d_S_appendEdited_96 (fun z_96 H locs hz_96 w => ?_)
        refine r_callVV (pc := 99) (As := [.int (iI (sg2 run)), .int (iI z_96)]) (rest := []) (wr := (sw cI q2 a2 b2 sg2 ln2 r2 pl2 ov2 lc2 sd2)) C w (c_S_append hT q a b sg_81 ln_81 r_81 pl_81 ov_81 lc sd (sg2 run) z_96 _ _ hV_81 (by omega) (by omega)) ml_S_47 im_S_append se_S_append ini_S cd_S_append hd_S_append rfl (by rw [hRm]; exact ⟨⟨Nat.le_of_ble_eq_true rfl, Nat.le_of_ble_eq_true rfl⟩, Nat.le_of_ble_eq_true rfl, Nat.le_of_ble_eq_true rfl⟩) hl.1 [0, 1, 2] [3, 4, 5] ⟨rfl, rfl, by decide, by decide, by decide⟩ 0 rfl rfl rfl (Nat.le_of_ble_eq_true rfl) d_S_appendEdited_99 (fun u_99 H locs hz_99 w => ?_)
        obtain ⟨sg_99, ln_99, r_99, pl_99, ov_99, rfl, hV_99⟩ := hz_99
        have w : Wd X (sw cI q a b sg_99 ln_99 r_99 pl_99 ov_99 lc sd ++ sw cI q2 a2 b2 sg2 ln2 r2 pl2 ov2 lc2 sd2) H locs := w.sub [3, 4, 5, 0, 1, 2] rfl (by decide)
        have hec := edited_count (f := f) (e := e) (ed := ge) (num := num) hO (by omega) (by omega) hst hz_56
        refine r_iload (pc := 102) C d_S_appendEdited_102 (lv_at hl 11 rfl) ?_
        refine r_iload (pc := 104) C d_S_appendEdited_104 (lv_at hl 1 rfl) ?_
        refine r_iload (pc := 106) C d_S_appendEdited_106 (lv_at hl 3 rfl) ?_
        refine r_icmp_ne (pc := 108) (tgt := 115) C (by omega) d_S_appendEdited_108 (by decide) (fun c_108 => ?_) (fun c_108 => ?_)
        · skip
          rw [if_neg (by omega)] at hec
          refine r_iload (pc := 115) C d_S_appendEdited_115 (lv_at hl 0 rfl) ?_
          refine r_iadd (pc := 117) C d_S_appendEdited_117 ?_
          refine r_istore (pc := 118) (lv' := [(7, .int (iI (chg + z_56))), (12, .int (iI z_56)), (11, .int (iI (sa ge (sg2 run) num))), (10, .int (iI (start + (ln2 run)))), (9, .int (iI (sg2 run))), (0, .ref q), (1, .ref q2), (2, .int (iI f)), (3, .int (iI e)), (4, .int (iI ed)), (5, .int (iI num)), (6, .int (iI start)), (8, .int (iI run))]) C d_S_appendEdited_118 hl (by decide) rfl (fun ls hl => ?_)
          refine r_iload (pc := 120) C d_S_appendEdited_120 (lv_at hl 3 rfl) ?_
          refine r_istore (pc := 122) (lv' := [(6, .int (iI (start + (ln2 run)))), (7, .int (iI (chg + z_56))), (12, .int (iI z_56)), (11, .int (iI (sa ge (sg2 run) num))), (10, .int (iI (start + (ln2 run)))), (9, .int (iI (sg2 run))), (0, .ref q), (1, .ref q2), (2, .int (iI f)), (3, .int (iI e)), (4, .int (iI ed)), (5, .int (iI num)), (8, .int (iI run))]) C d_S_appendEdited_122 hl (by decide) rfl (fun ls hl => ?_)
          refine r_iinc (pc := 124) (j := 12) (lv' := [(8, .int (iI (run + 1))), (6, .int (iI (start + (ln2 run)))), (7, .int (iI (chg + z_56))), (12, .int (iI z_56)), (11, .int (iI (sa ge (sg2 run) num))), (10, .int (iI (start + (ln2 run)))), (9, .int (iI (sg2 run))), (0, .ref q), (1, .ref q2), (2, .int (iI f)), (3, .int (iI e)), (4, .int (iI ed)), (5, .int (iI num))]) C d_S_appendEdited_124 hl rfl (by decide) rfl (fun ls hl => ?_)
          refine r_goto (pc := 127) (tgt := 9) C d_S_appendEdited_127 (by decide) ?_
          exact ih9 (run + 1) (start + (ln2 run)) (chg + z_56) sg_99 ln_99 r_99 pl_99 ov_99 (by omega) (by omega) (by omega) (edited_step hO (by omega) (by omega) (by omega) hst hV_99 hz_56 hz_70 hz_96) (by omega) _ _ _ w (lv_sub hl [7, 8, 9, 10, 11, 12, 1, 2, 0] rfl)
        · skip
          rw [if_pos (by omega)] at hec
          refine r_iconst (pc := 111) C d_S_appendEdited_111 ?_
          refine r_goto (pc := 112) (tgt := 117) C d_S_appendEdited_112 (by decide) ?_
          refine r_iadd (pc := 117) C d_S_appendEdited_117 ?_
          refine r_istore (pc := 118) (lv' := [(7, .int (iI (chg + 0))), (12, .int (iI z_56)), (11, .int (iI (sa ge (sg2 run) num))), (10, .int (iI (start + (ln2 run)))), (9, .int (iI (sg2 run))), (0, .ref q), (1, .ref q2), (2, .int (iI f)), (3, .int (iI e)), (4, .int (iI ed)), (5, .int (iI num)), (6, .int (iI start)), (8, .int (iI run))]) C d_S_appendEdited_118 hl (by decide) rfl (fun ls hl => ?_)
          refine r_iload (pc := 120) C d_S_appendEdited_120 (lv_at hl 3 rfl) ?_
          refine r_istore (pc := 122) (lv' := [(6, .int (iI (start + (ln2 run)))), (7, .int (iI (chg + 0))), (12, .int (iI z_56)), (11, .int (iI (sa ge (sg2 run) num))), (10, .int (iI (start + (ln2 run)))), (9, .int (iI (sg2 run))), (0, .ref q), (1, .ref q2), (2, .int (iI f)), (3, .int (iI e)), (4, .int (iI ed)), (5, .int (iI num)), (8, .int (iI run))]) C d_S_appendEdited_122 hl (by decide) rfl (fun ls hl => ?_)
          refine r_iinc (pc := 124) (j := 12) (lv' := [(8, .int (iI (run + 1))), (6, .int (iI (start + (ln2 run)))), (7, .int (iI (chg + 0))), (12, .int (iI z_56)), (11, .int (iI (sa ge (sg2 run) num))), (10, .int (iI (start + (ln2 run)))), (9, .int (iI (sg2 run))), (0, .ref q), (1, .ref q2), (2, .int (iI f)), (3, .int (iI e)), (4, .int (iI ed)), (5, .int (iI num))]) C d_S_appendEdited_124 hl rfl (by decide) rfl (fun ls hl => ?_)
          refine r_goto (pc := 127) (tgt := 9) C d_S_appendEdited_127 (by decide) ?_
          exact ih9 (run + 1) (start + (ln2 run)) (chg + 0) sg_99 ln_99 r_99 pl_99 ov_99 (by omega) (by omega) (by omega) (edited_step hO (by omega) (by omega) (by omega) hst hV_99 hz_56 hz_70 hz_96) (by omega) _ _ _ w (lv_sub hl [7, 8, 9, 10, 11, 12, 1, 2, 0] rfl)
  exact L9 ((r2 - 0) + 1 : Int).toNat 0 0 0 sg ln r pl ov (by first | omega | rfl) (by first | omega | rfl) (by first | omega | rfl) (hV.to rfl (fun x _ hx => by omega)) (by omega) _ _ _ w (lv_sub hl [3, 4, 5, 6, 7, 8, 2, 1, 0] rfl)
theorem d_S_appendTurned_0 : decode b_S_appendTurned 0 = .ok (.aload_n 1, 1) := by decide +kernel
theorem d_S_appendTurned_1 : decode b_S_appendTurned 1 = .ok (.getfield 22, 3) := by decide +kernel
theorem d_S_appendTurned_4 : decode b_S_appendTurned 4 = .ok (.istore 5, 2) := by decide +kernel
theorem d_S_appendTurned_6 : decode b_S_appendTurned 6 = .ok (.aload_n 1, 1) := by decide +kernel
theorem d_S_appendTurned_7 : decode b_S_appendTurned 7 = .ok (.getfield 18, 3) := by decide +kernel
theorem d_S_appendTurned_10 : decode b_S_appendTurned 10 = .ok (.iconst 1, 1) := by decide +kernel
theorem d_S_appendTurned_11 : decode b_S_appendTurned 11 = .ok (.isub, 1) := by decide +kernel
theorem d_S_appendTurned_12 : decode b_S_appendTurned 12 = .ok (.istore 6, 2) := by decide +kernel
theorem d_S_appendTurned_14 : decode b_S_appendTurned 14 = .ok (.iload 6, 2) := by decide +kernel
theorem d_S_appendTurned_16 : decode b_S_appendTurned 16 = .ok (.ifCond .lt 66, 3) := by decide +kernel
theorem d_S_appendTurned_19 : decode b_S_appendTurned 19 = .ok (.iload 5, 2) := by decide +kernel
theorem d_S_appendTurned_21 : decode b_S_appendTurned 21 = .ok (.aload_n 1, 1) := by decide +kernel
theorem d_S_appendTurned_22 : decode b_S_appendTurned 22 = .ok (.getfield 15, 3) := by decide +kernel
theorem d_S_appendTurned_25 : decode b_S_appendTurned 25 = .ok (.iload 6, 2) := by decide +kernel
theorem d_S_appendTurned_27 : decode b_S_appendTurned 27 = .ok (.iaload, 1) := by decide +kernel
theorem d_S_appendTurned_28 : decode b_S_appendTurned 28 = .ok (.isub, 1) := by decide +kernel
theorem d_S_appendTurned_29 : decode b_S_appendTurned 29 = .ok (.istore 5, 2) := by decide +kernel
theorem d_S_appendTurned_31 : decode b_S_appendTurned 31 = .ok (.iload 4, 2) := by decide +kernel
theorem d_S_appendTurned_33 : decode b_S_appendTurned 33 = .ok (.ifCond .eq 15, 3) := by decide +kernel
theorem d_S_appendTurned_36 : decode b_S_appendTurned 36 = .ok (.aload_n 1, 1) := by decide +kernel
theorem d_S_appendTurned_37 : decode b_S_appendTurned 37 = .ok (.getfield 9, 3) := by decide +kernel
theorem d_S_appendTurned_40 : decode b_S_appendTurned 40 = .ok (.iload 6, 2) := by decide +kernel
theorem d_S_appendTurned_42 : decode b_S_appendTurned 42 = .ok (.iaload, 1) := by decide +kernel
theorem d_S_appendTurned_43 : decode b_S_appendTurned 43 = .ok (.bipush 10, 2) := by decide +kernel
theorem d_S_appendTurned_45 : decode b_S_appendTurned 45 = .ok (.if_icmp .eq 31, 3) := by decide +kernel
theorem d_S_appendTurned_48 : decode b_S_appendTurned 48 = .ok (.aload_n 0, 1) := by decide +kernel
theorem d_S_appendTurned_49 : decode b_S_appendTurned 49 = .ok (.aload_n 1, 1) := by decide +kernel
theorem d_S_appendTurned_50 : decode b_S_appendTurned 50 = .ok (.getfield 9, 3) := by decide +kernel
theorem d_S_appendTurned_53 : decode b_S_appendTurned 53 = .ok (.iload 6, 2) := by decide +kernel
theorem d_S_appendTurned_55 : decode b_S_appendTurned 55 = .ok (.iaload, 1) := by decide +kernel
theorem d_S_appendTurned_56 : decode b_S_appendTurned 56 = .ok (.iload 5, 2) := by decide +kernel
theorem d_S_appendTurned_58 : decode b_S_appendTurned 58 = .ok (.iload 5, 2) := by decide +kernel
theorem d_S_appendTurned_60 : decode b_S_appendTurned 60 = .ok (.aload_n 1, 1) := by decide +kernel
theorem d_S_appendTurned_61 : decode b_S_appendTurned 61 = .ok (.getfield 15, 3) := by decide +kernel
theorem d_S_appendTurned_64 : decode b_S_appendTurned 64 = .ok (.iload 6, 2) := by decide +kernel
theorem d_S_appendTurned_66 : decode b_S_appendTurned 66 = .ok (.iaload, 1) := by decide +kernel
theorem d_S_appendTurned_67 : decode b_S_appendTurned 67 = .ok (.iadd, 1) := by decide +kernel
theorem d_S_appendTurned_68 : decode b_S_appendTurned 68 = .ok (.iload_n 2, 1) := by decide +kernel
theorem d_S_appendTurned_69 : decode b_S_appendTurned 69 = .ok (.iload_n 3, 1) := by decide +kernel
theorem d_S_appendTurned_70 : decode b_S_appendTurned 70 = .ok (.invokestatic 43, 3) := by decide +kernel
theorem d_S_appendTurned_73 : decode b_S_appendTurned 73 = .ok (.invokevirtual 47, 3) := by decide +kernel
theorem d_S_appendTurned_76 : decode b_S_appendTurned 76 = .ok (.iinc 6 (-1), 3) := by decide +kernel
theorem d_S_appendTurned_79 : decode b_S_appendTurned 79 = .ok (.goto (-65), 3) := by decide +kernel
theorem d_S_appendTurned_82 : decode b_S_appendTurned 82 = .ok (.return_, 1) := by decide +kernel
set_option maxHeartbeats 4000000 in
set_option maxRecDepth 20000 in
theorem c_S_appendTurned {l : Launch} {G : va_G} {tys : List (ClassId × FieldType)} {cI cO cZ : ClassId} (hT : TY tys cI cO cZ) (q a b : Nat) (sg ln : Int → Int) (r pl ov lc sd : Int) (q2 a2 b2 : Nat) (sg2 ln2 : Int → Int) (r2 pl2 ov2 lc2 sd2 : Int) (n N e f ol : Int) (v u : Int → Int) (hV : RV r pl ov sg ln n v) (hO : Ok r2 sg2 ln2 N u) (hr : r2 ≤ 50) (hN : N ≤ 3000) (hf : 0 ≤ f ∧ f ≤ e ∧ e ≤ N) (hol : ol = 0 ∨ ol = 1) (hp : pl2 = N) : CTV l G tys y_S_appendTurned b_S_appendTurned 7 2 42 [.ref q, .ref q2, .int (iI f), .int (iI e), .int (iI ol)] (sw cI q a b sg ln r pl ov lc sd ++ sw cI q2 a2 b2 sg2 ln2 r2 pl2 ov2 lc2 sd2) (fun w => ∃ (sg' ln' : Int → Int) (r' pl' ov' : Int), w = sw cI q a b sg' ln' r' pl' ov' lc sd ++ sw cI q2 a2 b2 sg2 ln2 r2 pl2 ov2 lc2 sd2 ∧ RV r' pl' ov' sg' ln' (tn ol u e n (e - f)) (tv ol u e n v (e - f))) := by
  refine mkV (by decide) (Nat.le_of_ble_eq_true rfl) ?_
  rintro X rfl rfl rfl hRm C kret H ls w hl
  have hl : lv_has ls 7 [(0, .ref q), (1, .ref q2), (2, .int (iI f)), (3, .int (iI e)), (4, .int (iI ol))] := hl
  have w : Wd X (sw cI q a b sg ln r pl ov lc sd ++ sw cI q2 a2 b2 sg2 ln2 r2 pl2 ov2 lc2 sd2) H [] := w
  generalize ([] : List Loc) = locs at w ⊢
  have hr0 := hO.1
  have hN0 := hO.n0
  have hps := ps_zero ln2
  have hpr := hO.2.2.2.1
  subst hp
  refine r_aload_n (pc := 0) C d_S_appendTurned_0 rfl (lv_at hl 1 rfl) ?_
  refine r_get (pc := 1) (v := .int (iI pl2)) C w i_S rfl 3 rfl 3 (by decide) fl_S_22 rfl rfl d_S_appendTurned_1 ?_
  refine r_istore (pc := 4) (lv' := [(5, .int (iI pl2)), (0, .ref q), (1, .ref q2), (2, .int (iI f)), (3, .int (iI e)), (4, .int (iI ol))]) C d_S_appendTurned_4 hl (by decide) rfl (fun ls hl => ?_)
  refine r_aload_n (pc := 6) C d_S_appendTurned_6 rfl (lv_at hl 2 rfl) ?_
  refine r_get (pc := 7) (v := .int (iI r2)) C w i_S rfl 3 rfl 2 (by decide) fl_S_18 rfl rfl d_S_appendTurned_7 ?_
  refine r_iconst (pc := 10) C d_S_appendTurned_10 ?_
  refine r_isub (pc := 11) C d_S_appendTurned_11 ?_
  refine r_istore (pc := 12) (lv' := [(6, .int (iI (r2 - 1))), (5, .int (iI pl2)), (0, .ref q), (1, .ref q2), (2, .int (iI f)), (3, .int (iI e)), (4, .int (iI ol))]) C d_S_appendTurned_12 hl (by decide) rfl (fun ls hl => ?_)
  have L14 : ∀ (fuel : Nat), ∀ (run : Int) (start : Int) (sg1 : Int → Int) (ln1 : Int → Int) (r1 : Int) (pl1 : Int) (ov1 : Int), -1 ≤ run ∧ run < r2 → start = ps ln2 (run + 1) → RV r1 pl1 ov1 sg1 ln1 (tn ol u e n (max 0 (e - max start f))) (tv ol u e n v (max 0 (e - max start f))) → (run + 1) < (fuel : Int) → ∀ (H : Heap) (locs : List Loc) (ls : Array Slot), Wd X (sw cI q a b sg1 ln1 r1 pl1 ov1 lc sd ++ sw cI q2 a2 b2 sg2 ln2 r2 pl2 ov2 lc2 sd2) H locs → lv_has ls 7 [(0, .ref q), (1, .ref q2), (2, .int (iI f)), (3, .int (iI e)), (4, .int (iI ol)), (5, .int (iI start)), (6, .int (iI run))] → GG X 0 0 H locs 14 ls [] := by
    intro fuel
    induction fuel with
    | zero =>
      intro run start sg1 ln1 r1 pl1 ov1 h0 hst hV1 hfuel
      exact absurd hfuel (by omega)
    | succ fuel ih14 =>
      intro run start sg1 ln1 r1 pl1 ov1 h0 hst hV1 hfuel H locs ls w hl
      refine r_iload (pc := 14) C d_S_appendTurned_14 (lv_at hl 6 rfl) ?_
      refine r_if_lt (pc := 16) (tgt := 82) C (by omega) d_S_appendTurned_16 (by decide) (fun c_16 => ?_) (fun c_16 => ?_)
      · skip
        exact kret _ _ _ _ _ d_S_appendTurned_82 w (⟨_, _, _, _, _, rfl, by have hs0 : start = 0 := by { rw [hst, show run + 1 = 0 by omega]; exact hps }; rw [show max 0 (e - max start f) = e - f by omega] at hV1; exact hV1⟩)
      · skip
        have hk := hO.run (k := run) (by omega) (by omega)
        refine r_iload (pc := 19) C d_S_appendTurned_19 (lv_at hl 5 rfl) ?_
        refine r_aload_n (pc := 21) C d_S_appendTurned_21 rfl (lv_at hl 1 rfl) ?_
        refine r_get (pc := 22) (v := .ref b2) C w i_S rfl 3 rfl 1 (by decide) fl_S_15 rfl rfl d_S_appendTurned_22 ?_
        refine r_iload (pc := 25) C d_S_appendTurned_25 (lv_at hl 6 rfl) ?_
        refine r_iald (pc := 27) (f := ln2) (i := run) C w 0 5 rfl hT.1 (by omega) d_S_appendTurned_27 ?_
        refine r_isub (pc := 28) C d_S_appendTurned_28 ?_
        refine r_istore (pc := 29) (lv' := [(5, .int (iI (start - (ln2 run)))), (0, .ref q), (1, .ref q2), (2, .int (iI f)), (3, .int (iI e)), (4, .int (iI ol)), (6, .int (iI run))]) C d_S_appendTurned_29 hl (by decide) rfl (fun ls hl => ?_)
        refine r_iload (pc := 31) C d_S_appendTurned_31 (lv_at hl 5 rfl) ?_
        refine r_if_eq (pc := 33) (tgt := 48) C (by omega) d_S_appendTurned_33 (by decide) (fun c_33 => ?_) (fun c_33 => ?_)
        · skip
          refine r_aload_n (pc := 48) C d_S_appendTurned_48 rfl (lv_at hl 1 rfl) ?_
          refine r_aload_n (pc := 49) C d_S_appendTurned_49 rfl (lv_at hl 2 rfl) ?_
          refine r_get (pc := 50) (v := .ref a2) C w i_S rfl 3 rfl 0 (by decide) fl_S_9 rfl rfl d_S_appendTurned_50 ?_
          refine r_iload (pc := 53) C d_S_appendTurned_53 (lv_at hl 6 rfl) ?_
          refine r_iald (pc := 55) (f := sg2) (i := run) C w 0 4 rfl hT.1 (by omega) d_S_appendTurned_55 ?_
          refine r_iload (pc := 56) C d_S_appendTurned_56 (lv_at hl 0 rfl) ?_
          refine r_iload (pc := 58) C d_S_appendTurned_58 (lv_at hl 0 rfl) ?_
          refine r_aload_n (pc := 60) C d_S_appendTurned_60 rfl (lv_at hl 2 rfl) ?_
          refine r_get (pc := 61) (v := .ref b2) C w i_S rfl 3 rfl 1 (by decide) fl_S_15 rfl rfl d_S_appendTurned_61 ?_
          refine r_iload (pc := 64) C d_S_appendTurned_64 (lv_at hl 6 rfl) ?_
          refine r_iald (pc := 66) (f := ln2) (i := run) C w 0 5 rfl hT.1 (by omega) d_S_appendTurned_66 ?_
          refine r_iadd (pc := 67) C d_S_appendTurned_67 ?_
          refine r_iload_n (pc := 68) C d_S_appendTurned_68 rfl (lv_at hl 3 rfl) ?_
          refine r_iload_n (pc := 69) C d_S_appendTurned_69 rfl (lv_at hl 4 rfl) ?_
          refine r_callP (pc := 70) (As := [.int (iI (start - (ln2 run))), .int (iI ((start - (ln2 run)) + (ln2 run))), .int (iI f), .int (iI e)]) (rest := [.int (iI (sg2 run)), .ref q]) C w (c_S_shared (start - (ln2 run)) ((start - (ln2 run)) + (ln2 run)) f e (by omega)) ml_S_43 st_S_shared ini_S cd_S_shared hd_S_shared rfl (by rw [hRm]; exact ⟨⟨Nat.le_of_ble_eq_true rfl, Nat.le_of_ble_eq_true rfl⟩, Nat.le_of_ble_eq_true rfl, Nat.le_of_ble_eq_true rfl⟩) hl.1 rfl (Nat.le_of_ble_eq_true rfl) d_S_appendTurned_70 (fun z_70 H locs hz_70 w => ?_)
          refine r_callVV (pc := 73) (As := [.int (iI (sg2 run)), .int (iI z_70)]) (rest := []) (wr := (sw cI q2 a2 b2 sg2 ln2 r2 pl2 ov2 lc2 sd2)) C w (c_S_append hT q a b sg1 ln1 r1 pl1 ov1 lc sd (sg2 run) z_70 _ _ hV1 (by omega) (by omega)) ml_S_47 im_S_append se_S_append ini_S cd_S_append hd_S_append rfl (by rw [hRm]; exact ⟨⟨Nat.le_of_ble_eq_true rfl, Nat.le_of_ble_eq_true rfl⟩, Nat.le_of_ble_eq_true rfl, Nat.le_of_ble_eq_true rfl⟩) hl.1 [0, 1, 2] [3, 4, 5] ⟨rfl, rfl, by decide, by decide, by decide⟩ 0 rfl rfl rfl (Nat.le_of_ble_eq_true rfl) d_S_appendTurned_73 (fun u_73 H locs hz_73 w => ?_)
          obtain ⟨sg_73, ln_73, r_73, pl_73, ov_73, rfl, hV_73⟩ := hz_73
          have w : Wd X (sw cI q a b sg_73 ln_73 r_73 pl_73 ov_73 lc sd ++ sw cI q2 a2 b2 sg2 ln2 r2 pl2 ov2 lc2 sd2) H locs := w.sub [3, 4, 5, 0, 1, 2] rfl (by decide)
          refine r_iinc (pc := 76) (j := 6) (lv' := [(6, .int (iI (run + (-1)))), (5, .int (iI (start - (ln2 run)))), (0, .ref q), (1, .ref q2), (2, .int (iI f)), (3, .int (iI e)), (4, .int (iI ol))]) C d_S_appendTurned_76 hl rfl (by decide) rfl (fun ls hl => ?_)
          refine r_goto (pc := 79) (tgt := 14) C d_S_appendTurned_79 (by decide) ?_
          exact ih14 (run + (-1)) (start - (ln2 run)) sg_73 ln_73 r_73 pl_73 ov_73 (by omega) (by rw [show run + -1 + 1 = run by omega]; omega) (by first | exact turned_step hO (by omega) (by omega) hst rfl (by omega) (by omega) hz_70 hV_73 | (rw [(turned_over (n := n) (ol := ol) (v := v) hO (by omega) (by omega) hst rfl (by omega) hf).1, (turned_over (n := n) (ol := ol) (v := v) hO (by omega) (by omega) hst rfl (by omega) hf).2]; exact hV1)) (by omega) _ _ _ w (lv_sub hl [2, 3, 4, 5, 6, 1, 0] rfl)
        · skip
          refine r_aload_n (pc := 36) C d_S_appendTurned_36 rfl (lv_at hl 2 rfl) ?_
          refine r_get (pc := 37) (v := .ref a2) C w i_S rfl 3 rfl 0 (by decide) fl_S_9 rfl rfl d_S_appendTurned_37 ?_
          refine r_iload (pc := 40) C d_S_appendTurned_40 (lv_at hl 6 rfl) ?_
          refine r_iald (pc := 42) (f := sg2) (i := run) C w 0 4 rfl hT.1 (by omega) d_S_appendTurned_42 ?_
          refine r_bipush (pc := 43) C d_S_appendTurned_43 (by decide) ?_
          refine r_icmp_eq (pc := 45) (tgt := 76) C (by omega) d_S_appendTurned_45 (by decide) (fun c_45 => ?_) (fun c_45 => ?_)
          · skip
            refine r_iinc (pc := 76) (j := 6) (lv' := [(6, .int (iI (run + (-1)))), (5, .int (iI (start - (ln2 run)))), (0, .ref q), (1, .ref q2), (2, .int (iI f)), (3, .int (iI e)), (4, .int (iI ol))]) C d_S_appendTurned_76 hl rfl (by decide) rfl (fun ls hl => ?_)
            refine r_goto (pc := 79) (tgt := 14) C d_S_appendTurned_79 (by decide) ?_
            exact ih14 (run + (-1)) (start - (ln2 run)) sg1 ln1 r1 pl1 ov1 (by omega) (by rw [show run + -1 + 1 = run by omega]; omega) (by first | exact turned_step hO (by omega) (by omega) hst rfl (by omega) (by omega) hz_70 hV_73 | (rw [(turned_over (n := n) (ol := ol) (v := v) hO (by omega) (by omega) hst rfl (by omega) hf).1, (turned_over (n := n) (ol := ol) (v := v) hO (by omega) (by omega) hst rfl (by omega) hf).2]; exact hV1)) (by omega) _ _ _ w (lv_sub hl [2, 3, 4, 5, 6, 1, 0] rfl)
          · skip
            refine r_aload_n (pc := 48) C d_S_appendTurned_48 rfl (lv_at hl 1 rfl) ?_
            refine r_aload_n (pc := 49) C d_S_appendTurned_49 rfl (lv_at hl 2 rfl) ?_
            refine r_get (pc := 50) (v := .ref a2) C w i_S rfl 3 rfl 0 (by decide) fl_S_9 rfl rfl d_S_appendTurned_50 ?_
            refine r_iload (pc := 53) C d_S_appendTurned_53 (lv_at hl 6 rfl) ?_
            refine r_iald (pc := 55) (f := sg2) (i := run) C w 0 4 rfl hT.1 (by omega) d_S_appendTurned_55 ?_
            refine r_iload (pc := 56) C d_S_appendTurned_56 (lv_at hl 0 rfl) ?_
            refine r_iload (pc := 58) C d_S_appendTurned_58 (lv_at hl 0 rfl) ?_
            refine r_aload_n (pc := 60) C d_S_appendTurned_60 rfl (lv_at hl 2 rfl) ?_
            refine r_get (pc := 61) (v := .ref b2) C w i_S rfl 3 rfl 1 (by decide) fl_S_15 rfl rfl d_S_appendTurned_61 ?_
            refine r_iload (pc := 64) C d_S_appendTurned_64 (lv_at hl 6 rfl) ?_
            refine r_iald (pc := 66) (f := ln2) (i := run) C w 0 5 rfl hT.1 (by omega) d_S_appendTurned_66 ?_
            refine r_iadd (pc := 67) C d_S_appendTurned_67 ?_
            refine r_iload_n (pc := 68) C d_S_appendTurned_68 rfl (lv_at hl 3 rfl) ?_
            refine r_iload_n (pc := 69) C d_S_appendTurned_69 rfl (lv_at hl 4 rfl) ?_
            refine r_callP (pc := 70) (As := [.int (iI (start - (ln2 run))), .int (iI ((start - (ln2 run)) + (ln2 run))), .int (iI f), .int (iI e)]) (rest := [.int (iI (sg2 run)), .ref q]) C w (c_S_shared (start - (ln2 run)) ((start - (ln2 run)) + (ln2 run)) f e (by omega)) ml_S_43 st_S_shared ini_S cd_S_shared hd_S_shared rfl (by rw [hRm]; exact ⟨⟨Nat.le_of_ble_eq_true rfl, Nat.le_of_ble_eq_true rfl⟩, Nat.le_of_ble_eq_true rfl, Nat.le_of_ble_eq_true rfl⟩) hl.1 rfl (Nat.le_of_ble_eq_true rfl) d_S_appendTurned_70 (fun z_70 H locs hz_70 w => ?_)
            refine r_callVV (pc := 73) (As := [.int (iI (sg2 run)), .int (iI z_70)]) (rest := []) (wr := (sw cI q2 a2 b2 sg2 ln2 r2 pl2 ov2 lc2 sd2)) C w (c_S_append hT q a b sg1 ln1 r1 pl1 ov1 lc sd (sg2 run) z_70 _ _ hV1 (by omega) (by omega)) ml_S_47 im_S_append se_S_append ini_S cd_S_append hd_S_append rfl (by rw [hRm]; exact ⟨⟨Nat.le_of_ble_eq_true rfl, Nat.le_of_ble_eq_true rfl⟩, Nat.le_of_ble_eq_true rfl, Nat.le_of_ble_eq_true rfl⟩) hl.1 [0, 1, 2] [3, 4, 5] ⟨rfl, rfl, by decide, by decide, by decide⟩ 0 rfl rfl rfl (Nat.le_of_ble_eq_true rfl) d_S_appendTurned_73 (fun u_73 H locs hz_73 w => ?_)
            obtain ⟨sg_73, ln_73, r_73, pl_73, ov_73, rfl, hV_73⟩ := hz_73
            have w : Wd X (sw cI q a b sg_73 ln_73 r_73 pl_73 ov_73 lc sd ++ sw cI q2 a2 b2 sg2 ln2 r2 pl2 ov2 lc2 sd2) H locs := w.sub [3, 4, 5, 0, 1, 2] rfl (by decide)
            refine r_iinc (pc := 76) (j := 6) (lv' := [(6, .int (iI (run + (-1)))), (5, .int (iI (start - (ln2 run)))), (0, .ref q), (1, .ref q2), (2, .int (iI f)), (3, .int (iI e)), (4, .int (iI ol))]) C d_S_appendTurned_76 hl rfl (by decide) rfl (fun ls hl => ?_)
            refine r_goto (pc := 79) (tgt := 14) C d_S_appendTurned_79 (by decide) ?_
            exact ih14 (run + (-1)) (start - (ln2 run)) sg_73 ln_73 r_73 pl_73 ov_73 (by omega) (by rw [show run + -1 + 1 = run by omega]; omega) (by first | exact turned_step hO (by omega) (by omega) hst rfl (by omega) (by omega) hz_70 hV_73 | (rw [(turned_over (n := n) (ol := ol) (v := v) hO (by omega) (by omega) hst rfl (by omega) hf).1, (turned_over (n := n) (ol := ol) (v := v) hO (by omega) (by omega) hst rfl (by omega) hf).2]; exact hV1)) (by omega) _ _ _ w (lv_sub hl [2, 3, 4, 5, 6, 1, 0] rfl)
  exact L14 (((r2 - 1) + 1) + 1 : Int).toNat (r2 - 1) pl2 sg ln r pl ov (by first | omega | rfl) (by rw [show r2 - 1 + 1 = r2 by omega]; omega) (by rw [show max 0 (e - max pl2 f) = 0 by omega, tn_zero, tv_zero]; exact hV) (by omega) _ _ _ w (lv_sub hl [2, 3, 4, 5, 6, 1, 0] rfl)
theorem d_S_appendLiveFrom_0 : decode b_S_appendLiveFrom 0 = .ok (.iconst 0, 1) := by decide +kernel
theorem d_S_appendLiveFrom_1 : decode b_S_appendLiveFrom 1 = .ok (.istore 5, 2) := by decide +kernel
theorem d_S_appendLiveFrom_3 : decode b_S_appendLiveFrom 3 = .ok (.iconst 0, 1) := by decide +kernel
theorem d_S_appendLiveFrom_4 : decode b_S_appendLiveFrom 4 = .ok (.istore 6, 2) := by decide +kernel
theorem d_S_appendLiveFrom_6 : decode b_S_appendLiveFrom 6 = .ok (.iconst 0, 1) := by decide +kernel
theorem d_S_appendLiveFrom_7 : decode b_S_appendLiveFrom 7 = .ok (.istore 7, 2) := by decide +kernel
theorem d_S_appendLiveFrom_9 : decode b_S_appendLiveFrom 9 = .ok (.iload 7, 2) := by decide +kernel
theorem d_S_appendLiveFrom_11 : decode b_S_appendLiveFrom 11 = .ok (.aload_n 2, 1) := by decide +kernel
theorem d_S_appendLiveFrom_12 : decode b_S_appendLiveFrom 12 = .ok (.getfield 18, 3) := by decide +kernel
theorem d_S_appendLiveFrom_15 : decode b_S_appendLiveFrom 15 = .ok (.if_icmp .ge 83, 3) := by decide +kernel
theorem d_S_appendLiveFrom_18 : decode b_S_appendLiveFrom 18 = .ok (.iload 5, 2) := by decide +kernel
theorem d_S_appendLiveFrom_20 : decode b_S_appendLiveFrom 20 = .ok (.iload 5, 2) := by decide +kernel
theorem d_S_appendLiveFrom_22 : decode b_S_appendLiveFrom 22 = .ok (.aload_n 2, 1) := by decide +kernel
theorem d_S_appendLiveFrom_23 : decode b_S_appendLiveFrom 23 = .ok (.getfield 15, 3) := by decide +kernel
theorem d_S_appendLiveFrom_26 : decode b_S_appendLiveFrom 26 = .ok (.iload 7, 2) := by decide +kernel
theorem d_S_appendLiveFrom_28 : decode b_S_appendLiveFrom 28 = .ok (.iaload, 1) := by decide +kernel
theorem d_S_appendLiveFrom_29 : decode b_S_appendLiveFrom 29 = .ok (.iadd, 1) := by decide +kernel
theorem d_S_appendLiveFrom_30 : decode b_S_appendLiveFrom 30 = .ok (.iload_n 3, 1) := by decide +kernel
theorem d_S_appendLiveFrom_31 : decode b_S_appendLiveFrom 31 = .ok (.iload 4, 2) := by decide +kernel
theorem d_S_appendLiveFrom_33 : decode b_S_appendLiveFrom 33 = .ok (.invokestatic 43, 3) := by decide +kernel
theorem d_S_appendLiveFrom_36 : decode b_S_appendLiveFrom 36 = .ok (.istore 8, 2) := by decide +kernel
theorem d_S_appendLiveFrom_38 : decode b_S_appendLiveFrom 38 = .ok (.aload_n 2, 1) := by decide +kernel
theorem d_S_appendLiveFrom_39 : decode b_S_appendLiveFrom 39 = .ok (.getfield 9, 3) := by decide +kernel
theorem d_S_appendLiveFrom_42 : decode b_S_appendLiveFrom 42 = .ok (.iload 7, 2) := by decide +kernel
theorem d_S_appendLiveFrom_44 : decode b_S_appendLiveFrom 44 = .ok (.iaload, 1) := by decide +kernel
theorem d_S_appendLiveFrom_45 : decode b_S_appendLiveFrom 45 = .ok (.bipush 10, 2) := by decide +kernel
theorem d_S_appendLiveFrom_47 : decode b_S_appendLiveFrom 47 = .ok (.if_icmp .ne 14, 3) := by decide +kernel
theorem d_S_appendLiveFrom_50 : decode b_S_appendLiveFrom 50 = .ok (.aload_n 0, 1) := by decide +kernel
theorem d_S_appendLiveFrom_51 : decode b_S_appendLiveFrom 51 = .ok (.bipush 10, 2) := by decide +kernel
theorem d_S_appendLiveFrom_53 : decode b_S_appendLiveFrom 53 = .ok (.iload 8, 2) := by decide +kernel
theorem d_S_appendLiveFrom_55 : decode b_S_appendLiveFrom 55 = .ok (.invokevirtual 47, 3) := by decide +kernel
theorem d_S_appendLiveFrom_58 : decode b_S_appendLiveFrom 58 = .ok (.goto 22, 3) := by decide +kernel
theorem d_S_appendLiveFrom_61 : decode b_S_appendLiveFrom 61 = .ok (.aload_n 0, 1) := by decide +kernel
theorem d_S_appendLiveFrom_62 : decode b_S_appendLiveFrom 62 = .ok (.aload_n 1, 1) := by decide +kernel
theorem d_S_appendLiveFrom_63 : decode b_S_appendLiveFrom 63 = .ok (.iload 6, 2) := by decide +kernel
theorem d_S_appendLiveFrom_65 : decode b_S_appendLiveFrom 65 = .ok (.iload 6, 2) := by decide +kernel
theorem d_S_appendLiveFrom_67 : decode b_S_appendLiveFrom 67 = .ok (.iload 8, 2) := by decide +kernel
theorem d_S_appendLiveFrom_69 : decode b_S_appendLiveFrom 69 = .ok (.iadd, 1) := by decide +kernel
theorem d_S_appendLiveFrom_70 : decode b_S_appendLiveFrom 70 = .ok (.invokevirtual 39, 3) := by decide +kernel
theorem d_S_appendLiveFrom_73 : decode b_S_appendLiveFrom 73 = .ok (.iload 6, 2) := by decide +kernel
theorem d_S_appendLiveFrom_75 : decode b_S_appendLiveFrom 75 = .ok (.iload 8, 2) := by decide +kernel
theorem d_S_appendLiveFrom_77 : decode b_S_appendLiveFrom 77 = .ok (.iadd, 1) := by decide +kernel
theorem d_S_appendLiveFrom_78 : decode b_S_appendLiveFrom 78 = .ok (.istore 6, 2) := by decide +kernel
theorem d_S_appendLiveFrom_80 : decode b_S_appendLiveFrom 80 = .ok (.iload 5, 2) := by decide +kernel
theorem d_S_appendLiveFrom_82 : decode b_S_appendLiveFrom 82 = .ok (.aload_n 2, 1) := by decide +kernel
theorem d_S_appendLiveFrom_83 : decode b_S_appendLiveFrom 83 = .ok (.getfield 15, 3) := by decide +kernel
theorem d_S_appendLiveFrom_86 : decode b_S_appendLiveFrom 86 = .ok (.iload 7, 2) := by decide +kernel
theorem d_S_appendLiveFrom_88 : decode b_S_appendLiveFrom 88 = .ok (.iaload, 1) := by decide +kernel
theorem d_S_appendLiveFrom_89 : decode b_S_appendLiveFrom 89 = .ok (.iadd, 1) := by decide +kernel
theorem d_S_appendLiveFrom_90 : decode b_S_appendLiveFrom 90 = .ok (.istore 5, 2) := by decide +kernel
theorem d_S_appendLiveFrom_92 : decode b_S_appendLiveFrom 92 = .ok (.iinc 7 1, 3) := by decide +kernel
theorem d_S_appendLiveFrom_95 : decode b_S_appendLiveFrom 95 = .ok (.goto (-86), 3) := by decide +kernel
theorem d_S_appendLiveFrom_98 : decode b_S_appendLiveFrom 98 = .ok (.return_, 1) := by decide +kernel
set_option maxHeartbeats 4000000 in
set_option maxRecDepth 20000 in
theorem c_S_appendLiveFrom {l : Launch} {G : va_G} {tys : List (ClassId × FieldType)} {cI cO cZ : ClassId} (hT : TY tys cI cO cZ) (q a b : Nat) (sg ln : Int → Int) (r pl ov lc sd : Int) (q2 a2 b2 : Nat) (sg2 ln2 : Int → Int) (r2 pl2 ov2 lc2 sd2 : Int) (q3 a3 b3 : Nat) (sg3 ln3 : Int → Int) (r3 pl3 ov3 lc3 sd3 : Int) (n N e f m : Int) (v u wl : Int → Int) (hV : RV r pl ov sg ln n v) (hL : Ok r2 sg2 ln2 m wl) (hO : Ok r3 sg3 ln3 N u) (hrL : r2 ≤ 50) (hmL : m ≤ 3000) (hr : r3 ≤ 50) (hN : N ≤ 3000) (hf : 0 ≤ f ∧ f ≤ e ∧ e ≤ N) (hm : m = ps (lv_ u) e - ps (lv_ u) f) : CTV l G tys y_S_appendLiveFrom b_S_appendLiveFrom 9 3 67 [.ref q, .ref q2, .ref q3, .int (iI f), .int (iI e)] ((sw cI q a b sg ln r pl ov lc sd ++ sw cI q2 a2 b2 sg2 ln2 r2 pl2 ov2 lc2 sd2) ++ sw cI q3 a3 b3 sg3 ln3 r3 pl3 ov3 lc3 sd3) (fun w1 => ∃ (sg' ln' : Int → Int) (r' pl' ov' : Int), w1 = (sw cI q a b sg' ln' r' pl' ov' lc sd ++ sw cI q2 a2 b2 sg2 ln2 r2 pl2 ov2 lc2 sd2) ++ sw cI q3 a3 b3 sg3 ln3 r3 pl3 ov3 lc3 sd3 ∧ RV r' pl' ov' sg' ln' (n + (e - f)) (lfm v n u f wl)) := by
  refine mkV (by decide) (Nat.le_of_ble_eq_true rfl) ?_
  rintro X rfl rfl rfl hRm C kret H ls w hl
  have hl : lv_has ls 9 [(0, .ref q), (1, .ref q2), (2, .ref q3), (3, .int (iI f)), (4, .int (iI e))] := hl
  have w : Wd X (sw cI q a b sg ln r pl ov lc sd ++ sw cI q2 a2 b2 sg2 ln2 r2 pl2 ov2 lc2 sd2 ++ sw cI q3 a3 b3 sg3 ln3 r3 pl3 ov3 lc3 sd3) H [] := w
  generalize ([] : List Loc) = locs at w ⊢
  have hr0 := hO.1
  have hN0 := hO.n0
  have hm0 := hL.n0
  have hps := ps_zero ln3
  have hpr := hO.2.2.2.1
  refine r_iconst (pc := 0) C d_S_appendLiveFrom_0 ?_
  refine r_istore (pc := 1) (lv' := [(5, .int (iI 0)), (0, .ref q), (1, .ref q2), (2, .ref q3), (3, .int (iI f)), (4, .int (iI e))]) C d_S_appendLiveFrom_1 hl (by decide) rfl (fun ls hl => ?_)
  refine r_iconst (pc := 3) C d_S_appendLiveFrom_3 ?_
  refine r_istore (pc := 4) (lv' := [(6, .int (iI 0)), (5, .int (iI 0)), (0, .ref q), (1, .ref q2), (2, .ref q3), (3, .int (iI f)), (4, .int (iI e))]) C d_S_appendLiveFrom_4 hl (by decide) rfl (fun ls hl => ?_)
  refine r_iconst (pc := 6) C d_S_appendLiveFrom_6 ?_
  refine r_istore (pc := 7) (lv' := [(7, .int (iI 0)), (6, .int (iI 0)), (5, .int (iI 0)), (0, .ref q), (1, .ref q2), (2, .ref q3), (3, .int (iI f)), (4, .int (iI e))]) C d_S_appendLiveFrom_7 hl (by decide) rfl (fun ls hl => ?_)
  have L9 : ∀ (fuel : Nat), ∀ (run : Int) (start : Int) (taken : Int) (sg1 : Int → Int) (ln1 : Int → Int) (r1 : Int) (pl1 : Int) (ov1 : Int), 0 ≤ run ∧ run ≤ r3 → start = ps ln3 run → taken = ps (lv_ u) (max f (min start e)) - ps (lv_ u) f → RV r1 pl1 ov1 sg1 ln1 (n + max 0 (min start e - f)) (lfm v n u f wl) → (r3 - run) < (fuel : Int) → ∀ (H : Heap) (locs : List Loc) (ls : Array Slot), Wd X (sw cI q a b sg1 ln1 r1 pl1 ov1 lc sd ++ sw cI q2 a2 b2 sg2 ln2 r2 pl2 ov2 lc2 sd2 ++ sw cI q3 a3 b3 sg3 ln3 r3 pl3 ov3 lc3 sd3) H locs → lv_has ls 9 [(0, .ref q), (1, .ref q2), (2, .ref q3), (3, .int (iI f)), (4, .int (iI e)), (5, .int (iI start)), (6, .int (iI taken)), (7, .int (iI run))] → GG X 0 0 H locs 9 ls [] := by
    intro fuel
    induction fuel with
    | zero =>
      intro run start taken sg1 ln1 r1 pl1 ov1 h0 hst htk hV1 hfuel
      exact absurd hfuel (by omega)
    | succ fuel ih9 =>
      intro run start taken sg1 ln1 r1 pl1 ov1 h0 hst htk hV1 hfuel H locs ls w hl
      refine r_iload (pc := 9) C d_S_appendLiveFrom_9 (lv_at hl 7 rfl) ?_
      refine r_aload_n (pc := 11) C d_S_appendLiveFrom_11 rfl (lv_at hl 2 rfl) ?_
      refine r_get (pc := 12) (v := .int (iI r3)) C w i_S rfl 6 rfl 2 (by decide) fl_S_18 rfl rfl d_S_appendLiveFrom_12 ?_
      refine r_icmp_ge (pc := 15) (tgt := 98) C (by omega) d_S_appendLiveFrom_15 (by decide) (fun c_15 => ?_) (fun c_15 => ?_)
      · skip
        exact kret _ _ _ _ _ d_S_appendLiveFrom_98 w (⟨_, _, _, _, _, rfl, hV1.to (by have : start = N := by { rw [hst, show run = r3 by omega]; exact hpr }; omega) (fun _ _ _ => rfl)⟩)
      · skip
        have hk := hO.run (k := run) (by omega) (by omega)
        have hle1 := lv_le (u := u) (a := f) (b := max f (min start e)) (by omega) (by omega)
        have hle2 := lv_le (u := u) (a := max f (min (start + ln3 run) e)) (b := e) (by omega) (by omega)
        refine r_iload (pc := 18) C d_S_appendLiveFrom_18 (lv_at hl 5 rfl) ?_
        refine r_iload (pc := 20) C d_S_appendLiveFrom_20 (lv_at hl 5 rfl) ?_
        refine r_aload_n (pc := 22) C d_S_appendLiveFrom_22 rfl (lv_at hl 2 rfl) ?_
        refine r_get (pc := 23) (v := .ref b3) C w i_S rfl 6 rfl 1 (by decide) fl_S_15 rfl rfl d_S_appendLiveFrom_23 ?_
        refine r_iload (pc := 26) C d_S_appendLiveFrom_26 (lv_at hl 7 rfl) ?_
        refine r_iald (pc := 28) (f := ln3) (i := run) C w 0 8 rfl hT.1 (by omega) d_S_appendLiveFrom_28 ?_
        refine r_iadd (pc := 29) C d_S_appendLiveFrom_29 ?_
        refine r_iload_n (pc := 30) C d_S_appendLiveFrom_30 rfl (lv_at hl 3 rfl) ?_
        refine r_iload (pc := 31) C d_S_appendLiveFrom_31 (lv_at hl 4 rfl) ?_
        refine r_callP (pc := 33) (As := [.int (iI start), .int (iI (start + (ln3 run))), .int (iI f), .int (iI e)]) (rest := []) C w (c_S_shared start (start + (ln3 run)) f e (by omega)) ml_S_43 st_S_shared ini_S cd_S_shared hd_S_shared rfl (by rw [hRm]; exact ⟨⟨Nat.le_of_ble_eq_true rfl, Nat.le_of_ble_eq_true rfl⟩, Nat.le_of_ble_eq_true rfl, Nat.le_of_ble_eq_true rfl⟩) hl.1 rfl (Nat.le_of_ble_eq_true rfl) d_S_appendLiveFrom_33 (fun z_33 H locs hz_33 w => ?_)
        refine r_istore (pc := 36) (lv' := [(8, .int (iI z_33)), (0, .ref q), (1, .ref q2), (2, .ref q3), (3, .int (iI f)), (4, .int (iI e)), (5, .int (iI start)), (6, .int (iI taken)), (7, .int (iI run))]) C d_S_appendLiveFrom_36 hl (by decide) rfl (fun ls hl => ?_)
        refine r_aload_n (pc := 38) C d_S_appendLiveFrom_38 rfl (lv_at hl 3 rfl) ?_
        refine r_get (pc := 39) (v := .ref a3) C w i_S rfl 6 rfl 0 (by decide) fl_S_9 rfl rfl d_S_appendLiveFrom_39 ?_
        refine r_iload (pc := 42) C d_S_appendLiveFrom_42 (lv_at hl 8 rfl) ?_
        refine r_iald (pc := 44) (f := sg3) (i := run) C w 0 7 rfl hT.1 (by omega) d_S_appendLiveFrom_44 ?_
        refine r_bipush (pc := 45) C d_S_appendLiveFrom_45 (by decide) ?_
        refine r_icmp_ne (pc := 47) (tgt := 61) C (by omega) d_S_appendLiveFrom_47 (by decide) (fun c_47 => ?_) (fun c_47 => ?_)
        · skip
          have hcl := live_count_live hO (by omega) (by omega) (by omega : 0 ≤ f ∧ f ≤ e) hst (by omega) hz_33
          refine r_aload_n (pc := 61) C d_S_appendLiveFrom_61 rfl (lv_at hl 1 rfl) ?_
          refine r_aload_n (pc := 62) C d_S_appendLiveFrom_62 rfl (lv_at hl 2 rfl) ?_
          refine r_iload (pc := 63) C d_S_appendLiveFrom_63 (lv_at hl 7 rfl) ?_
          refine r_iload (pc := 65) C d_S_appendLiveFrom_65 (lv_at hl 7 rfl) ?_
          refine r_iload (pc := 67) C d_S_appendLiveFrom_67 (lv_at hl 0 rfl) ?_
          refine r_iadd (pc := 69) C d_S_appendLiveFrom_69 ?_
          refine r_callVV (pc := 70) (As := [.ref q2, .int (iI taken), .int (iI (taken + z_33))]) (rest := []) (wr := (sw cI q3 a3 b3 sg3 ln3 r3 pl3 ov3 lc3 sd3)) C w (c_S_appendPiece hT q a b sg1 ln1 r1 pl1 ov1 lc sd q2 a2 b2 sg2 ln2 r2 pl2 ov2 lc2 sd2 _ _ (taken + z_33) taken _ _ hV1 hL (by omega) (by omega) (by omega) (by omega)) ml_S_39 im_S_appendPiece se_S_appendPiece ini_S cd_S_appendPiece hd_S_appendPiece rfl (by rw [hRm]; exact ⟨⟨Nat.le_of_ble_eq_true rfl, Nat.le_of_ble_eq_true rfl⟩, Nat.le_of_ble_eq_true rfl, Nat.le_of_ble_eq_true rfl⟩) hl.1 [0, 1, 2, 3, 4, 5] [6, 7, 8] ⟨rfl, rfl, by decide, by decide, by decide⟩ 0 rfl rfl rfl (Nat.le_of_ble_eq_true rfl) d_S_appendLiveFrom_70 (fun u_70 H locs hz_70 w => ?_)
          obtain ⟨sg_70, ln_70, r_70, pl_70, ov_70, rfl, hV_70⟩ := hz_70
          have w : Wd X (sw cI q a b sg_70 ln_70 r_70 pl_70 ov_70 lc sd ++ sw cI q2 a2 b2 sg2 ln2 r2 pl2 ov2 lc2 sd2 ++ sw cI q3 a3 b3 sg3 ln3 r3 pl3 ov3 lc3 sd3) H locs := w.sub [3, 4, 5, 6, 7, 8, 0, 1, 2] rfl (by decide)
          refine r_iload (pc := 73) C d_S_appendLiveFrom_73 (lv_at hl 7 rfl) ?_
          refine r_iload (pc := 75) C d_S_appendLiveFrom_75 (lv_at hl 0 rfl) ?_
          refine r_iadd (pc := 77) C d_S_appendLiveFrom_77 ?_
          refine r_istore (pc := 78) (lv' := [(6, .int (iI (taken + z_33))), (8, .int (iI z_33)), (0, .ref q), (1, .ref q2), (2, .ref q3), (3, .int (iI f)), (4, .int (iI e)), (5, .int (iI start)), (7, .int (iI run))]) C d_S_appendLiveFrom_78 hl (by decide) rfl (fun ls hl => ?_)
          refine r_iload (pc := 80) C d_S_appendLiveFrom_80 (lv_at hl 7 rfl) ?_
          refine r_aload_n (pc := 82) C d_S_appendLiveFrom_82 rfl (lv_at hl 4 rfl) ?_
          refine r_get (pc := 83) (v := .ref b3) C w i_S rfl 6 rfl 1 (by decide) fl_S_15 rfl rfl d_S_appendLiveFrom_83 ?_
          refine r_iload (pc := 86) C d_S_appendLiveFrom_86 (lv_at hl 8 rfl) ?_
          refine r_iald (pc := 88) (f := ln3) (i := run) C w 0 8 rfl hT.1 (by omega) d_S_appendLiveFrom_88 ?_
          refine r_iadd (pc := 89) C d_S_appendLiveFrom_89 ?_
          refine r_istore (pc := 90) (lv' := [(5, .int (iI (start + (ln3 run)))), (6, .int (iI (taken + z_33))), (8, .int (iI z_33)), (0, .ref q), (1, .ref q2), (2, .ref q3), (3, .int (iI f)), (4, .int (iI e)), (7, .int (iI run))]) C d_S_appendLiveFrom_90 hl (by decide) rfl (fun ls hl => ?_)
          refine r_iinc (pc := 92) (j := 8) (lv' := [(7, .int (iI (run + 1))), (5, .int (iI (start + (ln3 run)))), (6, .int (iI (taken + z_33))), (8, .int (iI z_33)), (0, .ref q), (1, .ref q2), (2, .ref q3), (3, .int (iI f)), (4, .int (iI e))]) C d_S_appendLiveFrom_92 hl rfl (by decide) rfl (fun ls hl => ?_)
          refine r_goto (pc := 95) (tgt := 9) C d_S_appendLiveFrom_95 (by decide) ?_
          exact ih9 (run + 1) (start + (ln3 run)) (taken + z_33) sg_70 ln_70 r_70 pl_70 ov_70 (by omega) (by omega) (by omega) (by first | exact live_dead hO (by omega) (by omega) (by omega) hst (by omega) hV_55 hz_33 | (subst htk; exact live_live hO (by omega) (by omega) (by omega) hst (by omega) hz_33 (by omega) hV_70)) (by omega) _ _ _ w (lv_sub hl [4, 5, 6, 7, 8, 1, 2, 0] rfl)
        · skip
          have hcd := live_count_dead hO (by omega) (by omega) (by omega : 0 ≤ f ∧ f ≤ e) hst (by omega)
          refine r_aload_n (pc := 50) C d_S_appendLiveFrom_50 rfl (lv_at hl 1 rfl) ?_
          refine r_bipush (pc := 51) C d_S_appendLiveFrom_51 (by decide) ?_
          refine r_iload (pc := 53) C d_S_appendLiveFrom_53 (lv_at hl 0 rfl) ?_
          refine r_callVV (pc := 55) (As := [.int (iI 10), .int (iI z_33)]) (rest := []) (wr := (sw cI q2 a2 b2 sg2 ln2 r2 pl2 ov2 lc2 sd2 ++ sw cI q3 a3 b3 sg3 ln3 r3 pl3 ov3 lc3 sd3)) C w (c_S_append hT q a b sg1 ln1 r1 pl1 ov1 lc sd 10 z_33 _ _ hV1 (by omega) (by omega)) ml_S_47 im_S_append se_S_append ini_S cd_S_append hd_S_append rfl (by rw [hRm]; exact ⟨⟨Nat.le_of_ble_eq_true rfl, Nat.le_of_ble_eq_true rfl⟩, Nat.le_of_ble_eq_true rfl, Nat.le_of_ble_eq_true rfl⟩) hl.1 [0, 1, 2] [3, 4, 5, 6, 7, 8] ⟨rfl, rfl, by decide, by decide, by decide⟩ 0 rfl rfl rfl (Nat.le_of_ble_eq_true rfl) d_S_appendLiveFrom_55 (fun u_55 H locs hz_55 w => ?_)
          obtain ⟨sg_55, ln_55, r_55, pl_55, ov_55, rfl, hV_55⟩ := hz_55
          have w : Wd X (sw cI q a b sg_55 ln_55 r_55 pl_55 ov_55 lc sd ++ sw cI q2 a2 b2 sg2 ln2 r2 pl2 ov2 lc2 sd2 ++ sw cI q3 a3 b3 sg3 ln3 r3 pl3 ov3 lc3 sd3) H locs := w.sub [6, 7, 8, 0, 1, 2, 3, 4, 5] rfl (by decide)
          refine r_goto (pc := 58) (tgt := 80) C d_S_appendLiveFrom_58 (by decide) ?_
          refine r_iload (pc := 80) C d_S_appendLiveFrom_80 (lv_at hl 6 rfl) ?_
          refine r_aload_n (pc := 82) C d_S_appendLiveFrom_82 rfl (lv_at hl 3 rfl) ?_
          refine r_get (pc := 83) (v := .ref b3) C w i_S rfl 6 rfl 1 (by decide) fl_S_15 rfl rfl d_S_appendLiveFrom_83 ?_
          refine r_iload (pc := 86) C d_S_appendLiveFrom_86 (lv_at hl 8 rfl) ?_
          refine r_iald (pc := 88) (f := ln3) (i := run) C w 0 8 rfl hT.1 (by omega) d_S_appendLiveFrom_88 ?_
          refine r_iadd (pc := 89) C d_S_appendLiveFrom_89 ?_
          refine r_istore (pc := 90) (lv' := [(5, .int (iI (start + (ln3 run)))), (8, .int (iI z_33)), (0, .ref q), (1, .ref q2), (2, .ref q3), (3, .int (iI f)), (4, .int (iI e)), (6, .int (iI taken)), (7, .int (iI run))]) C d_S_appendLiveFrom_90 hl (by decide) rfl (fun ls hl => ?_)
          refine r_iinc (pc := 92) (j := 8) (lv' := [(7, .int (iI (run + 1))), (5, .int (iI (start + (ln3 run)))), (8, .int (iI z_33)), (0, .ref q), (1, .ref q2), (2, .ref q3), (3, .int (iI f)), (4, .int (iI e)), (6, .int (iI taken))]) C d_S_appendLiveFrom_92 hl rfl (by decide) rfl (fun ls hl => ?_)
          refine r_goto (pc := 95) (tgt := 9) C d_S_appendLiveFrom_95 (by decide) ?_
          exact ih9 (run + 1) (start + (ln3 run)) taken sg_55 ln_55 r_55 pl_55 ov_55 (by omega) (by omega) (by omega) (by first | exact live_dead hO (by omega) (by omega) (by omega) hst (by omega) hV_55 hz_33 | (subst htk; exact live_live hO (by omega) (by omega) (by omega) hst (by omega) hz_33 (by omega) hV_70)) (by omega) _ _ _ w (lv_sub hl [3, 4, 5, 6, 7, 1, 8, 0] rfl)
  exact L9 ((r3 - 0) + 1 : Int).toNat 0 0 0 sg ln r pl ov (by first | omega | rfl) (by first | omega | rfl) (by rw [show max f (min 0 e) = f by omega]; omega) (hV.to (by omega) (fun x _ hx => by unfold lfm; rw [if_pos hx])) (by omega) _ _ _ w (lv_sub hl [3, 4, 5, 6, 7, 2, 1, 0] rfl)
