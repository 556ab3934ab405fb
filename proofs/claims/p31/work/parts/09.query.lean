/-! what a row tells -/
def ic (v : Int → Int) (s : Int) : Int → Int := fun x => if v x = s then 1 else 0
def cn (v : Int → Int) (s f e : Int) : Int := ps (ic v s) e - ps (ic v s) f
theorem count_in {N e f z S k r s : Int} {v sg ln : Int → Int} (hO : Ok r sg ln N v) (h1 : 0 ≤ k) (h2 : k < r) (hf : 0 ≤ f ∧ f ≤ e) (hS : S = ps ln k) (hs : sg k = s) (hz : z = max 0 (min (S + ln k) e - max S f)) : cn v s f (max f (min (S + ln k) e)) = cn v s f (max f (min S e)) + z := by
  obtain ⟨g1, g2, g3, g4, g5, g6⟩ := hO.run h1 h2
  have := ps_all (g := ic v s) (a := max f (min S e)) (by omega) (max f (min (S + ln k) e) - max f (min S e)) (by omega) (fun x q1 q2 => by
    unfold ic
    rw [if_pos]
    rw [hO.2.2.2.2 k h1 h2 x (by omega) (by omega)]
    exact hs)
  rw [show max f (min S e) + (max f (min (S + ln k) e) - max f (min S e)) = max f (min (S + ln k) e) by omega] at this
  unfold cn
  omega
theorem count_out {N e f S k r s : Int} {v sg ln : Int → Int} (hO : Ok r sg ln N v) (h1 : 0 ≤ k) (h2 : k < r) (hf : 0 ≤ f ∧ f ≤ e) (hS : S = ps ln k) (hs : ¬ sg k = s) : cn v s f (max f (min (S + ln k) e)) = cn v s f (max f (min S e)) := by
  obtain ⟨g1, g2, g3, g4, g5, g6⟩ := hO.run h1 h2
  have := ps_none (g := ic v s) (a := max f (min S e)) (by omega) (max f (min (S + ln k) e) - max f (min S e)) (by omega) (fun x q1 q2 => by
    unfold ic
    rw [if_neg]
    rw [hO.2.2.2.2 k h1 h2 x (by omega) (by omega)]
    exact hs)
  rw [show max f (min S e) + (max f (min (S + ln k) e) - max f (min S e)) = max f (min (S + ln k) e) by omega] at this
  unfold cn
  omega
theorem cn_rg {v : Int → Int} {s f e : Int} (hf : 0 ≤ f) (he : f ≤ e) : 0 ≤ cn v s f e ∧ cn v s f e ≤ e - f := by
  have key : ∀ m, 0 ≤ m → 0 ≤ cn v s f (f + m) ∧ cn v s f (f + m) ≤ m := by
    refine int_ind (by unfold cn; rw [Int.add_zero]; omega) (fun m hm ih => ?_)
    unfold cn at ih ⊢
    rw [← Int.add_assoc, ps_succ _ (by omega)]
    have : 0 ≤ ic v s (f + m) ∧ ic v s (f + m) ≤ 1 := by unfold ic; split <;> omega
    omega
  have := key (e - f) (by omega)
  rw [show f + (e - f) = e by omega] at this
  exact this
def umf (v : Int → Int) (N : Int) : Int → Int := fun x => if v x ≠ v (N - 1 - x) then 1 else 0
theorem mirror_step {N S k r : Int} {v sg ln : Int → Int} (hO : Ok r sg ln N v) (h1 : 0 ≤ k) (h2 : k < r) (hS : S = ps ln k) : ps (umf v N) (S + ln k) = ps (umf v N) S + (ln k - cn v (sg k) (N - (S + ln k)) (N - S)) := by
  obtain ⟨g1, g2, g3, g4, g5, g6⟩ := hO.run h1 h2
  have key : ∀ m, 0 ≤ m → m ≤ ln k → ps (umf v N) (S + m) = ps (umf v N) S + (m - cn v (sg k) (N - (S + m)) (N - S)) := by
    refine int_ind (fun _ => by rw [Int.add_zero]; unfold cn; omega) (fun m hm ih h => ?_)
    have ih := ih (by omega)
    have e1 := ps_succ (umf v N) (k := S + m) (by omega)
    have e2 := ps_succ (ic v (sg k)) (k := N - (S + (m + 1))) (by omega)
    rw [show N - (S + (m + 1)) + 1 = N - (S + m) by omega] at e2
    rw [← Int.add_assoc, e1, ih]
    rw [Int.add_assoc S m 1]
    unfold cn
    have hv : v (S + m) = sg k := hO.2.2.2.2 k h1 h2 _ (by omega) (by omega)
    have e3 : umf v N (S + m) = 1 - ic v (sg k) (N - (S + (m + 1))) := by
      unfold umf ic
      rw [hv, show N - 1 - (S + m) = N - (S + (m + 1)) by omega]
      by_cases q : v (N - (S + (m + 1))) = sg k
      · rw [if_pos q, if_neg (by rw [q]; exact fun z => z rfl)]; rfl
      · rw [if_neg q, if_pos (fun z => q z.symm)]; rfl
    omega
  exact key (ln k) (by omega) (by omega)
def smf (sg ln : Int → Int) : Int → Int := fun k => if sg k = 10 then 0 else sg k * ln k
def mxN (f : Int → Int) : Nat → Int
  | 0 => 0
  | k + 1 => max (mxN f k) (f (k : Int))
def mx (f : Int → Int) (k : Int) : Int := mxN f k.toNat
theorem mx_zero (f : Int → Int) : mx f 0 = 0 := rfl
theorem mx_succ (f : Int → Int) {k : Int} (h : 0 ≤ k) : mx f (k + 1) = max (mx f k) (f k) := by
  unfold mx
  rw [toNat_succ h]
  show max (mxN f k.toNat) (f ((k.toNat : Nat) : Int)) = _
  rw [Int.toNat_of_nonneg h]
def rbf (code : Int) (sg ln : Int → Int) : Int → Int := fun k => rb code (sg k) (ln k)
def crf (ln : Int → Int) : Int → Int := fun k => crl (ln k)
theorem ps_bound {f : Int → Int} {lo hi : Int} : ∀ k, 0 ≤ k → (∀ j, 0 ≤ j → j < k → lo ≤ f j ∧ f j ≤ hi) → lo * k ≤ ps f k ∧ ps f k ≤ hi * k := by
  refine int_ind (fun _ => by rw [ps_zero]; omega) (fun k hk ih h => ?_)
  have h1 := ih (fun j h1 h2 => h j h1 (by omega))
  have h2 := h k hk (by omega)
  rw [ps_succ f hk, Int.mul_add, Int.mul_add]
  omega
theorem allBits_rg {code r N : Int} {sg ln v : Int → Int} (hO : Ok r sg ln N v) (hN : N ≤ 3000) {k : Int} (h0 : 0 ≤ k) (h1 : k ≤ r) : 0 ≤ ps (rbf code sg ln) k ∧ ps (rbf code sg ln) k ≤ 66 * k := by
  have := ps_bound (f := rbf code sg ln) (lo := 0) (hi := 66) k h0 (fun j h2 h3 => by
    have g := hO.run h2 (by omega : j < r)
    have := rb_rg (code := code) (s := sg j) (n := ln j) (by omega)
    unfold rbf
    omega)
  omega
/-- a bit of the row -/
def BitAt (code r : Int) (sg ln : Int → Int) (at_ z : Int) : Prop := ((at_ < 0 ∨ ps (rbf code sg ln) r ≤ at_) ∧ z = -1) ∨ ∃ k, 0 ≤ k ∧ k < r ∧ ps (rbf code sg ln) k ≤ at_ ∧ at_ < ps (rbf code sg ln) (k + 1) ∧ z = brun code (sg k) (ln k) (at_ - ps (rbf code sg ln) k)
/-- a character of the row: W holds its m characters -/
def Txt (W : Int → Int) (r : Int) (sg ln : Int → Int) (m : Int) : Prop := m = max 0 (r - 1) + ps (crf ln) r ∧ (∀ k, 0 ≤ k → k < r → ∀ j, 0 ≤ j → j < crl (ln k) → W (ps (crf ln) k + k + j) = chr_ (sg k) (ln k) j) ∧ ∀ k, 1 ≤ k → k < r → W (ps (crf ln) k + k - 1) = 59
theorem crf_pos {r N : Int} {sg ln v : Int → Int} (hO : Ok r sg ln N v) (hN : N ≤ 3000) {k : Int} (h0 : 0 ≤ k) (h1 : k < r) : 1 ≤ crf ln k ∧ crf ln k ≤ 6 ∧ crl (ln k) = crf ln k ∧ ps (crf ln) (k + 1) = ps (crf ln) k + crf ln k := by
  have g := hO.run h0 h1
  have c1 := crl_cases (ln k)
  have c2 := dl_cases (n := ln k) (by omega)
  refine ⟨?_, ?_, rfl, ps_succ _ h0⟩ <;> (unfold crf; omega)
theorem crf_mono {r N : Int} {sg ln v : Int → Int} (hO : Ok r sg ln N v) (hN : N ≤ 3000) {j k : Int} (h0 : 0 ≤ j) (hjk : j ≤ k) (h1 : k ≤ r) : 0 ≤ ps (crf ln) j ∧ ps (crf ln) j ≤ ps (crf ln) k := by
  have h := ps_le (f := crf ln) h0 hjk (fun i q1 q2 => by have := crf_pos hO hN q1 (by omega : i < r); omega)
  have h2 := ps_le (f := crf ln) (j := 0) (k := j) (by omega) h0 (fun i q1 q2 => by have := crf_pos hO hN q1 (by omega : i < r); omega)
  rw [ps_zero] at h2
  exact ⟨h2, h⟩
/-- the longest live stretch, place by place: length that runs, longest, its first place (-6: none) -/
def llN (v : Int → Int) : Nat → Int × Int × Int
  | 0 => (0, 0, -6)
  | x + 1 => if v (x : Int) = 10 then (0, (llN v x).2.1, (llN v x).2.2) else if (llN v x).2.1 < (llN v x).1 + 1 then ((llN v x).1 + 1, (llN v x).1 + 1, (x : Int) - (llN v x).1) else ((llN v x).1 + 1, (llN v x).2.1, (llN v x).2.2)
def ll (v : Int → Int) (x : Int) : Int × Int × Int := llN v x.toNat
theorem ll_zero (v : Int → Int) : ll v 0 = (0, 0, -6) := rfl
theorem ll_succ (v : Int → Int) {x : Int} (h : 0 ≤ x) : ll v (x + 1) = if v x = 10 then (0, (ll v x).2.1, (ll v x).2.2) else if (ll v x).2.1 < (ll v x).1 + 1 then ((ll v x).1 + 1, (ll v x).1 + 1, x - (ll v x).1) else ((ll v x).1 + 1, (ll v x).2.1, (ll v x).2.2) := by
  unfold ll
  rw [toNat_succ h]
  show (if v ((x.toNat : Nat) : Int) = 10 then _ else if _ then (_, _, ((x.toNat : Nat) : Int) - _) else _) = _
  rw [Int.toNat_of_nonneg h]
theorem ll_rg (v : Int → Int) : ∀ x, 0 ≤ x → 0 ≤ (ll v x).1 ∧ (ll v x).1 ≤ (ll v x).2.1 ∧ (ll v x).2.1 ≤ x ∧ ((ll v x).2.1 = 0 → (ll v x).2.2 = -6) ∧ ((ll v x).2.1 ≠ 0 → 0 ≤ (ll v x).2.2) ∧ (ll v x).1 ≤ x := by
  refine int_ind (by rw [ll_zero]; decide) (fun x hx ih => ?_)
  rw [ll_succ v hx]
  obtain ⟨a1, a2, a3, a4, a5, a6⟩ := ih
  by_cases h1 : v x = 10
  · rw [if_pos h1]
    exact ⟨by show (0 : Int) ≤ 0; omega, by show (0 : Int) ≤ (ll v x).2.1; omega, by show (ll v x).2.1 ≤ x + 1; omega, a4, a5, by show (0 : Int) ≤ x + 1; omega⟩
  · rw [if_neg h1]
    by_cases h2 : (ll v x).2.1 < (ll v x).1 + 1
    · rw [if_pos h2]
      exact ⟨by show 0 ≤ (ll v x).1 + 1; omega, by show (ll v x).1 + 1 ≤ (ll v x).1 + 1; omega, by show (ll v x).1 + 1 ≤ x + 1; omega, fun z => by have z : (ll v x).1 + 1 = 0 := z; omega, fun _ => by show 0 ≤ x - (ll v x).1; omega, by show (ll v x).1 + 1 ≤ x + 1; omega⟩
    · rw [if_neg h2]
      exact ⟨by show 0 ≤ (ll v x).1 + 1; omega, by show (ll v x).1 + 1 ≤ (ll v x).2.1; omega, by show (ll v x).2.1 ≤ x + 1; omega, a4, a5, by show (ll v x).1 + 1 ≤ x + 1; omega⟩
theorem ll_dead {v : Int → Int} {a : Int} (ha : 0 ≤ a) : ∀ m, 0 ≤ m → (∀ x, a ≤ x → x < a + m + 1 → v x = 10) → ll v (a + m + 1) = (0, (ll v a).2.1, (ll v a).2.2) := by
  refine int_ind (fun h => ?_) (fun m hm ih h => ?_)
  · rw [Int.add_zero, ll_succ v ha, if_pos (h a (by omega) (by omega))]
  · rw [show a + (m + 1) + 1 = (a + m + 1) + 1 by omega, ll_succ v (by omega), if_pos (h _ (by omega) (by omega)), ih (fun x h1 h2 => h x h1 (by omega))]
theorem ll_live {v : Int → Int} {a : Int} (ha : 0 ≤ a) : ∀ m, 0 ≤ m → (∀ x, a ≤ x → x < a + m → v x ≠ 10) → ll v (a + m) = if (ll v a).2.1 < (ll v a).1 + m then ((ll v a).1 + m, (ll v a).1 + m, a - (ll v a).1) else ((ll v a).1 + m, (ll v a).2.1, (ll v a).2.2) := by
  refine int_ind (fun _ => ?_) (fun m hm ih h => ?_)
  · have := ll_rg v a ha
    rw [Int.add_zero, Int.add_zero, if_neg (by omega)]
  · have ih := ih (fun x h1 h2 => h x h1 (by omega))
    rw [← Int.add_assoc, ll_succ v (by omega), if_neg (h _ (by omega) (by omega)), ih]
    by_cases q : (ll v a).2.1 < (ll v a).1 + m
    · rw [if_pos q, if_pos (by show (ll v a).1 + m < (ll v a).1 + m + 1; omega), if_pos (by omega : (ll v a).2.1 < (ll v a).1 + (m + 1))]
      show ((ll v a).1 + m + 1, (ll v a).1 + m + 1, a + m - ((ll v a).1 + m)) = _
      rw [show (ll v a).1 + m + 1 = (ll v a).1 + (m + 1) by omega, show a + m - ((ll v a).1 + m) = a - (ll v a).1 by omega]
    · rw [if_neg q]
      by_cases q2 : (ll v a).2.1 < (ll v a).1 + (m + 1)
      · rw [if_pos (by show (ll v a).2.1 < (ll v a).1 + m + 1; omega), if_pos q2]
        show ((ll v a).1 + m + 1, (ll v a).1 + m + 1, a + m - ((ll v a).1 + m)) = _
        rw [show (ll v a).1 + m + 1 = (ll v a).1 + (m + 1) by omega, show a + m - ((ll v a).1 + m) = a - (ll v a).1 by omega]
      · rw [if_neg (by show ¬ (ll v a).2.1 < (ll v a).1 + m + 1; omega), if_neg q2]
        show ((ll v a).1 + m + 1, (ll v a).2.1, (ll v a).2.2) = _
        rw [show (ll v a).1 + m + 1 = (ll v a).1 + (m + 1) by omega]
/-- bits saved by a write -/
def svd (code r : Int) (sg ln : Int → Int) (k val : Int) : Int := if sg k = 10 then 0 else rb code (sg k) (ln k) + (if 0 < k ∧ sg (k - 1) = val then rb code (sg (k - 1)) (ln (k - 1)) else 0) + (if k < r - 1 ∧ sg (k + 1) = val then rb code (sg (k + 1)) (ln (k + 1)) else 0) - rb code val (ln k + (if 0 < k ∧ sg (k - 1) = val then ln (k - 1) else 0) + (if k < r - 1 ∧ sg (k + 1) = val then ln (k + 1) else 0))
theorem d_S_signOf_0 : decode b_S_signOf 0 = .ok (.iload_n 1, 1) := by decide +kernel
theorem d_S_signOf_1 : decode b_S_signOf 1 = .ok (.ifCond .lt 20, 3) := by decide +kernel
theorem d_S_signOf_4 : decode b_S_signOf 4 = .ok (.iload_n 1, 1) := by decide +kernel
theorem d_S_signOf_5 : decode b_S_signOf 5 = .ok (.aload_n 0, 1) := by decide +kernel
theorem d_S_signOf_6 : decode b_S_signOf 6 = .ok (.getfield 18, 3) := by decide +kernel
theorem d_S_signOf_9 : decode b_S_signOf 9 = .ok (.if_icmp .ge 12, 3) := by decide +kernel
theorem d_S_signOf_12 : decode b_S_signOf 12 = .ok (.aload_n 0, 1) := by decide +kernel
theorem d_S_signOf_13 : decode b_S_signOf 13 = .ok (.getfield 9, 3) := by decide +kernel
theorem d_S_signOf_16 : decode b_S_signOf 16 = .ok (.iload_n 1, 1) := by decide +kernel
theorem d_S_signOf_17 : decode b_S_signOf 17 = .ok (.iaload, 1) := by decide +kernel
theorem d_S_signOf_18 : decode b_S_signOf 18 = .ok (.goto 4, 3) := by decide +kernel
theorem d_S_signOf_21 : decode b_S_signOf 21 = .ok (.iconst (-1), 1) := by decide +kernel
theorem d_S_signOf_22 : decode b_S_signOf 22 = .ok (.ireturn, 1) := by decide +kernel
set_option maxHeartbeats 4000000 in
set_option maxRecDepth 20000 in
theorem c_S_signOf {l : Launch} {G : va_G} {tys : List (ClassId × FieldType)} {cI cO cZ : ClassId} (hT : TY tys cI cO cZ) (q a b : Nat) (sg ln : Int → Int) (r pl ov lc sd : Int) (N : Int) (v : Int → Int) (hO : Ok r sg ln N v) (hr : r ≤ 50) (hN : N ≤ 3000) (k : Int) (hk : 0 ≤ k ∧ k < r) : CTI l G tys y_S_signOf b_S_signOf 2 .int 0 0 [.ref q, .int (iI k)] (sw cI q a b sg ln r pl ov lc sd) (fun z u => u = sw cI q a b sg ln r pl ov lc sd ∧ (z = sg k)) := by
  refine mkI (by decide) (Nat.le_of_ble_eq_true rfl) ?_
  rintro X rfl rfl rfl hRm C kret H ls w hl
  have hl : lv_has ls 2 [(0, .ref q), (1, .int (iI k))] := hl
  have w : Wd X (sw cI q a b sg ln r pl ov lc sd) H [] := w
  generalize ([] : List Loc) = locs at w ⊢
  have hr0 := hO.1
  have hN0 := hO.n0
  have hps := ps_zero ln
  have hpr := hO.2.2.2.1
  refine r_iload_n (pc := 0) C d_S_signOf_0 rfl (lv_at hl 1 rfl) ?_
  refine r_if_lt (pc := 1) (tgt := 21) C (by omega) d_S_signOf_1 (by decide) (fun c_1 => ?_) (fun c_1 => ?_)
  · skip
    refine r_iconst (pc := 21) C d_S_signOf_21 ?_
    exact kret _ _ _ _ (-1) _ d_S_signOf_22 w (⟨rfl, by first | rfl | omega⟩)
  · skip
    refine r_iload_n (pc := 4) C d_S_signOf_4 rfl (lv_at hl 1 rfl) ?_
    refine r_aload_n (pc := 5) C d_S_signOf_5 rfl (lv_at hl 0 rfl) ?_
    refine r_get (pc := 6) (v := .int (iI r)) C w i_S rfl 0 rfl 2 (by decide) fl_S_18 rfl rfl d_S_signOf_6 ?_
    refine r_icmp_ge (pc := 9) (tgt := 21) C (by omega) d_S_signOf_9 (by decide) (fun c_9 => ?_) (fun c_9 => ?_)
    · skip
      refine r_iconst (pc := 21) C d_S_signOf_21 ?_
      exact kret _ _ _ _ (-1) _ d_S_signOf_22 w (⟨rfl, by first | rfl | omega⟩)
    · skip
      refine r_aload_n (pc := 12) C d_S_signOf_12 rfl (lv_at hl 0 rfl) ?_
      refine r_get (pc := 13) (v := .ref a) C w i_S rfl 0 rfl 0 (by decide) fl_S_9 rfl rfl d_S_signOf_13 ?_
      refine r_iload_n (pc := 16) C d_S_signOf_16 rfl (lv_at hl 1 rfl) ?_
      refine r_iald (pc := 17) (f := sg) (i := k) C w 0 1 rfl hT.1 (by omega) d_S_signOf_17 ?_
      refine r_goto (pc := 18) (tgt := 22) C d_S_signOf_18 (by decide) ?_
      exact kret _ _ _ _ (sg k) _ d_S_signOf_22 w (⟨rfl, by first | rfl | omega⟩)
theorem d_S_lengthOf_0 : decode b_S_lengthOf 0 = .ok (.iload_n 1, 1) := by decide +kernel
theorem d_S_lengthOf_1 : decode b_S_lengthOf 1 = .ok (.ifCond .lt 20, 3) := by decide +kernel
theorem d_S_lengthOf_4 : decode b_S_lengthOf 4 = .ok (.iload_n 1, 1) := by decide +kernel
theorem d_S_lengthOf_5 : decode b_S_lengthOf 5 = .ok (.aload_n 0, 1) := by decide +kernel
theorem d_S_lengthOf_6 : decode b_S_lengthOf 6 = .ok (.getfield 18, 3) := by decide +kernel
theorem d_S_lengthOf_9 : decode b_S_lengthOf 9 = .ok (.if_icmp .ge 12, 3) := by decide +kernel
theorem d_S_lengthOf_12 : decode b_S_lengthOf 12 = .ok (.aload_n 0, 1) := by decide +kernel
theorem d_S_lengthOf_13 : decode b_S_lengthOf 13 = .ok (.getfield 15, 3) := by decide +kernel
theorem d_S_lengthOf_16 : decode b_S_lengthOf 16 = .ok (.iload_n 1, 1) := by decide +kernel
theorem d_S_lengthOf_17 : decode b_S_lengthOf 17 = .ok (.iaload, 1) := by decide +kernel
theorem d_S_lengthOf_18 : decode b_S_lengthOf 18 = .ok (.goto 4, 3) := by decide +kernel
theorem d_S_lengthOf_21 : decode b_S_lengthOf 21 = .ok (.iconst (-1), 1) := by decide +kernel
theorem d_S_lengthOf_22 : decode b_S_lengthOf 22 = .ok (.ireturn, 1) := by decide +kernel
set_option maxHeartbeats 4000000 in
set_option maxRecDepth 20000 in
theorem c_S_lengthOf {l : Launch} {G : va_G} {tys : List (ClassId × FieldType)} {cI cO cZ : ClassId} (hT : TY tys cI cO cZ) (q a b : Nat) (sg ln : Int → Int) (r pl ov lc sd : Int) (N : Int) (v : Int → Int) (hO : Ok r sg ln N v) (hr : r ≤ 50) (hN : N ≤ 3000) (k : Int) (hk : 0 ≤ k ∧ k < r) : CTI l G tys y_S_lengthOf b_S_lengthOf 2 .int 0 0 [.ref q, .int (iI k)] (sw cI q a b sg ln r pl ov lc sd) (fun z u => u = sw cI q a b sg ln r pl ov lc sd ∧ (z = ln k)) := by
  refine mkI (by decide) (Nat.le_of_ble_eq_true rfl) ?_
  rintro X rfl rfl rfl hRm C kret H ls w hl
  have hl : lv_has ls 2 [(0, .ref q), (1, .int (iI k))] := hl
  have w : Wd X (sw cI q a b sg ln r pl ov lc sd) H [] := w
  generalize ([] : List Loc) = locs at w ⊢
  have hr0 := hO.1
  have hN0 := hO.n0
  have hps := ps_zero ln
  have hpr := hO.2.2.2.1
  refine r_iload_n (pc := 0) C d_S_lengthOf_0 rfl (lv_at hl 1 rfl) ?_
  refine r_if_lt (pc := 1) (tgt := 21) C (by omega) d_S_lengthOf_1 (by decide) (fun c_1 => ?_) (fun c_1 => ?_)
  · skip
    refine r_iconst (pc := 21) C d_S_lengthOf_21 ?_
    exact kret _ _ _ _ (-1) _ d_S_lengthOf_22 w (⟨rfl, by first | rfl | omega⟩)
  · skip
    refine r_iload_n (pc := 4) C d_S_lengthOf_4 rfl (lv_at hl 1 rfl) ?_
    refine r_aload_n (pc := 5) C d_S_lengthOf_5 rfl (lv_at hl 0 rfl) ?_
    refine r_get (pc := 6) (v := .int (iI r)) C w i_S rfl 0 rfl 2 (by decide) fl_S_18 rfl rfl d_S_lengthOf_6 ?_
    refine r_icmp_ge (pc := 9) (tgt := 21) C (by omega) d_S_lengthOf_9 (by decide) (fun c_9 => ?_) (fun c_9 => ?_)
    · skip
      refine r_iconst (pc := 21) C d_S_lengthOf_21 ?_
      exact kret _ _ _ _ (-1) _ d_S_lengthOf_22 w (⟨rfl, by first | rfl | omega⟩)
    · skip
      refine r_aload_n (pc := 12) C d_S_lengthOf_12 rfl (lv_at hl 0 rfl) ?_
      refine r_get (pc := 13) (v := .ref b) C w i_S rfl 0 rfl 1 (by decide) fl_S_15 rfl rfl d_S_lengthOf_13 ?_
      refine r_iload_n (pc := 16) C d_S_lengthOf_16 rfl (lv_at hl 1 rfl) ?_
      refine r_iald (pc := 17) (f := ln) (i := k) C w 0 2 rfl hT.1 (by omega) d_S_lengthOf_17 ?_
      refine r_goto (pc := 18) (tgt := 22) C d_S_lengthOf_18 (by decide) ?_
      exact kret _ _ _ _ (ln k) _ d_S_lengthOf_22 w (⟨rfl, by first | rfl | omega⟩)
theorem d_S_bitsOf_0 : decode b_S_bitsOf 0 = .ok (.iload_n 1, 1) := by decide +kernel
theorem d_S_bitsOf_1 : decode b_S_bitsOf 1 = .ok (.ifCond .lt 30, 3) := by decide +kernel
theorem d_S_bitsOf_4 : decode b_S_bitsOf 4 = .ok (.iload_n 1, 1) := by decide +kernel
theorem d_S_bitsOf_5 : decode b_S_bitsOf 5 = .ok (.aload_n 0, 1) := by decide +kernel
theorem d_S_bitsOf_6 : decode b_S_bitsOf 6 = .ok (.getfield 18, 3) := by decide +kernel
theorem d_S_bitsOf_9 : decode b_S_bitsOf 9 = .ok (.if_icmp .ge 22, 3) := by decide +kernel
theorem d_S_bitsOf_12 : decode b_S_bitsOf 12 = .ok (.iload_n 2, 1) := by decide +kernel
theorem d_S_bitsOf_13 : decode b_S_bitsOf 13 = .ok (.aload_n 0, 1) := by decide +kernel
theorem d_S_bitsOf_14 : decode b_S_bitsOf 14 = .ok (.getfield 9, 3) := by decide +kernel
theorem d_S_bitsOf_17 : decode b_S_bitsOf 17 = .ok (.iload_n 1, 1) := by decide +kernel
theorem d_S_bitsOf_18 : decode b_S_bitsOf 18 = .ok (.iaload, 1) := by decide +kernel
theorem d_S_bitsOf_19 : decode b_S_bitsOf 19 = .ok (.aload_n 0, 1) := by decide +kernel
theorem d_S_bitsOf_20 : decode b_S_bitsOf 20 = .ok (.getfield 15, 3) := by decide +kernel
theorem d_S_bitsOf_23 : decode b_S_bitsOf 23 = .ok (.iload_n 1, 1) := by decide +kernel
theorem d_S_bitsOf_24 : decode b_S_bitsOf 24 = .ok (.iaload, 1) := by decide +kernel
theorem d_S_bitsOf_25 : decode b_S_bitsOf 25 = .ok (.invokestatic 64, 3) := by decide +kernel
theorem d_S_bitsOf_28 : decode b_S_bitsOf 28 = .ok (.goto 4, 3) := by decide +kernel
theorem d_S_bitsOf_31 : decode b_S_bitsOf 31 = .ok (.iconst (-1), 1) := by decide +kernel
theorem d_S_bitsOf_32 : decode b_S_bitsOf 32 = .ok (.ireturn, 1) := by decide +kernel
set_option maxHeartbeats 4000000 in
set_option maxRecDepth 20000 in
theorem c_S_bitsOf {l : Launch} {G : va_G} {tys : List (ClassId × FieldType)} {cI cO cZ : ClassId} (hT : TY tys cI cO cZ) (q a b : Nat) (sg ln : Int → Int) (r pl ov lc sd : Int) (N : Int) (v : Int → Int) (hO : Ok r sg ln N v) (hr : r ≤ 50) (hN : N ≤ 3000) (k code : Int) (hk : 0 ≤ k ∧ k < r) (hc : 0 ≤ code ∧ code ≤ 2) : CTI l G tys y_S_bitsOf b_S_bitsOf 3 .int 3 67 [.ref q, .int (iI k), .int (iI code)] (sw cI q a b sg ln r pl ov lc sd) (fun z u => u = sw cI q a b sg ln r pl ov lc sd ∧ (z = rb code (sg k) (ln k))) := by
  refine mkI (by decide) (Nat.le_of_ble_eq_true rfl) ?_
  rintro X rfl rfl rfl hRm C kret H ls w hl
  have hl : lv_has ls 3 [(0, .ref q), (1, .int (iI k)), (2, .int (iI code))] := hl
  have w : Wd X (sw cI q a b sg ln r pl ov lc sd) H [] := w
  generalize ([] : List Loc) = locs at w ⊢
  have hr0 := hO.1
  have hN0 := hO.n0
  have hps := ps_zero ln
  have hpr := hO.2.2.2.1
  refine r_iload_n (pc := 0) C d_S_bitsOf_0 rfl (lv_at hl 1 rfl) ?_
  refine r_if_lt (pc := 1) (tgt := 31) C (by omega) d_S_bitsOf_1 (by decide) (fun c_1 => ?_) (fun c_1 => ?_)
  · skip
    refine r_iconst (pc := 31) C d_S_bitsOf_31 ?_
    exact kret _ _ _ _ (-1) _ d_S_bitsOf_32 w (⟨rfl, by first | rfl | omega⟩)
  · skip
    refine r_iload_n (pc := 4) C d_S_bitsOf_4 rfl (lv_at hl 1 rfl) ?_
    refine r_aload_n (pc := 5) C d_S_bitsOf_5 rfl (lv_at hl 0 rfl) ?_
    refine r_get (pc := 6) (v := .int (iI r)) C w i_S rfl 0 rfl 2 (by decide) fl_S_18 rfl rfl d_S_bitsOf_6 ?_
    refine r_icmp_ge (pc := 9) (tgt := 31) C (by omega) d_S_bitsOf_9 (by decide) (fun c_9 => ?_) (fun c_9 => ?_)
    · skip
      refine r_iconst (pc := 31) C d_S_bitsOf_31 ?_
      exact kret _ _ _ _ (-1) _ d_S_bitsOf_32 w (⟨rfl, by first | rfl | omega⟩)
    · skip
      have hk2 := hO.run (k := k) (by omega) (by omega)
      refine r_iload_n (pc := 12) C d_S_bitsOf_12 rfl (lv_at hl 2 rfl) ?_
      refine r_aload_n (pc := 13) C d_S_bitsOf_13 rfl (lv_at hl 0 rfl) ?_
      refine r_get (pc := 14) (v := .ref a) C w i_S rfl 0 rfl 0 (by decide) fl_S_9 rfl rfl d_S_bitsOf_14 ?_
      refine r_iload_n (pc := 17) C d_S_bitsOf_17 rfl (lv_at hl 1 rfl) ?_
      refine r_iald (pc := 18) (f := sg) (i := k) C w 0 1 rfl hT.1 (by omega) d_S_bitsOf_18 ?_
      refine r_aload_n (pc := 19) C d_S_bitsOf_19 rfl (lv_at hl 0 rfl) ?_
      refine r_get (pc := 20) (v := .ref b) C w i_S rfl 0 rfl 1 (by decide) fl_S_15 rfl rfl d_S_bitsOf_20 ?_
      refine r_iload_n (pc := 23) C d_S_bitsOf_23 rfl (lv_at hl 1 rfl) ?_
      refine r_iald (pc := 24) (f := ln) (i := k) C w 0 2 rfl hT.1 (by omega) d_S_bitsOf_24 ?_
      refine r_callP (pc := 25) (As := [.int (iI code), .int (iI (sg k)), .int (iI (ln k))]) (rest := []) C w (c_C_bitsOfRun code (sg k) (ln k) (by omega) (by omega) (by omega)) ml_S_64 st_C_bitsOfRun ini_C cd_C_bitsOfRun hd_C_bitsOfRun rfl (by rw [hRm]; exact ⟨⟨Nat.le_of_ble_eq_true rfl, Nat.le_of_ble_eq_true rfl⟩, Nat.le_of_ble_eq_true rfl, Nat.le_of_ble_eq_true rfl⟩) hl.1 rfl (Nat.le_of_ble_eq_true rfl) d_S_bitsOf_25 (fun z_25 H locs hz_25 w => ?_)
      subst hz_25
      have hrb := rb_rg (code := code) (s := (sg k)) (n := (ln k)) (by omega)
      refine r_goto (pc := 28) (tgt := 32) C d_S_bitsOf_28 (by decide) ?_
      exact kret _ _ _ _ (rb code (sg k) (ln k)) _ d_S_bitsOf_32 w (⟨rfl, by first | rfl | omega⟩)
theorem d_S_firstOf_0 : decode b_S_firstOf 0 = .ok (.iconst 0, 1) := by decide +kernel
theorem d_S_firstOf_1 : decode b_S_firstOf 1 = .ok (.istore_n 2, 1) := by decide +kernel
theorem d_S_firstOf_2 : decode b_S_firstOf 2 = .ok (.iconst 0, 1) := by decide +kernel
theorem d_S_firstOf_3 : decode b_S_firstOf 3 = .ok (.istore_n 3, 1) := by decide +kernel
theorem d_S_firstOf_4 : decode b_S_firstOf 4 = .ok (.iload_n 3, 1) := by decide +kernel
theorem d_S_firstOf_5 : decode b_S_firstOf 5 = .ok (.iload_n 1, 1) := by decide +kernel
theorem d_S_firstOf_6 : decode b_S_firstOf 6 = .ok (.if_icmp .ge 26, 3) := by decide +kernel
theorem d_S_firstOf_9 : decode b_S_firstOf 9 = .ok (.iload_n 3, 1) := by decide +kernel
theorem d_S_firstOf_10 : decode b_S_firstOf 10 = .ok (.aload_n 0, 1) := by decide +kernel
theorem d_S_firstOf_11 : decode b_S_firstOf 11 = .ok (.getfield 18, 3) := by decide +kernel
theorem d_S_firstOf_14 : decode b_S_firstOf 14 = .ok (.if_icmp .ge 18, 3) := by decide +kernel
theorem d_S_firstOf_17 : decode b_S_firstOf 17 = .ok (.iload_n 2, 1) := by decide +kernel
theorem d_S_firstOf_18 : decode b_S_firstOf 18 = .ok (.aload_n 0, 1) := by decide +kernel
theorem d_S_firstOf_19 : decode b_S_firstOf 19 = .ok (.getfield 15, 3) := by decide +kernel
theorem d_S_firstOf_22 : decode b_S_firstOf 22 = .ok (.iload_n 3, 1) := by decide +kernel
theorem d_S_firstOf_23 : decode b_S_firstOf 23 = .ok (.iaload, 1) := by decide +kernel
theorem d_S_firstOf_24 : decode b_S_firstOf 24 = .ok (.iadd, 1) := by decide +kernel
theorem d_S_firstOf_25 : decode b_S_firstOf 25 = .ok (.istore_n 2, 1) := by decide +kernel
theorem d_S_firstOf_26 : decode b_S_firstOf 26 = .ok (.iinc 3 1, 3) := by decide +kernel
theorem d_S_firstOf_29 : decode b_S_firstOf 29 = .ok (.goto (-25), 3) := by decide +kernel
theorem d_S_firstOf_32 : decode b_S_firstOf 32 = .ok (.iload_n 2, 1) := by decide +kernel
theorem d_S_firstOf_33 : decode b_S_firstOf 33 = .ok (.ireturn, 1) := by decide +kernel
set_option maxHeartbeats 4000000 in
set_option maxRecDepth 20000 in
theorem c_S_firstOf {l : Launch} {G : va_G} {tys : List (ClassId × FieldType)} {cI cO cZ : ClassId} (hT : TY tys cI cO cZ) (q a b : Nat) (sg ln : Int → Int) (r pl ov lc sd : Int) (N : Int) (v : Int → Int) (hO : Ok r sg ln N v) (hr : r ≤ 50) (hN : N ≤ 3000) (k : Int) (hk : 0 ≤ k ∧ k ≤ r) : CTI l G tys y_S_firstOf b_S_firstOf 4 .int 0 0 [.ref q, .int (iI k)] (sw cI q a b sg ln r pl ov lc sd) (fun z u => u = sw cI q a b sg ln r pl ov lc sd ∧ (z = ps ln k)) := by
  refine mkI (by decide) (Nat.le_of_ble_eq_true rfl) ?_
  rintro X rfl rfl rfl hRm C kret H ls w hl
  have hl : lv_has ls 4 [(0, .ref q), (1, .int (iI k))] := hl
  have w : Wd X (sw cI q a b sg ln r pl ov lc sd) H [] := w
  generalize ([] : List Loc) = locs at w ⊢
  have hr0 := hO.1
  have hN0 := hO.n0
  have hps := ps_zero ln
  have hpr := hO.2.2.2.1
  refine r_iconst (pc := 0) C d_S_firstOf_0 ?_
  refine r_istore_n (pc := 1) (lv' := [(2, .int (iI 0)), (0, .ref q), (1, .int (iI k))]) C d_S_firstOf_1 rfl hl (by decide) rfl (fun ls hl => ?_)
  refine r_iconst (pc := 2) C d_S_firstOf_2 ?_
  refine r_istore_n (pc := 3) (lv' := [(3, .int (iI 0)), (2, .int (iI 0)), (0, .ref q), (1, .int (iI k))]) C d_S_firstOf_3 rfl hl (by decide) rfl (fun ls hl => ?_)
  have L4 : ∀ (fuel : Nat), ∀ (i : Int) (fs : Int), 0 ≤ i ∧ i ≤ k → fs = ps ln i → (k - i) < (fuel : Int) → ∀ (H : Heap) (locs : List Loc) (ls : Array Slot), Wd X (sw cI q a b sg ln r pl ov lc sd) H locs → lv_has ls 4 [(0, .ref q), (1, .int (iI k)), (2, .int (iI fs)), (3, .int (iI i))] → GG X 0 0 H locs 4 ls [] := by
    intro fuel
    induction fuel with
    | zero =>
      intro i fs h0 hf hfuel
      exact absurd hfuel (by omega)
    | succ fuel ih4 =>
      intro i fs h0 hf hfuel H locs ls w hl
      refine r_iload_n (pc := 4) C d_S_firstOf_4 rfl (lv_at hl 3 rfl) ?_
      refine r_iload_n (pc := 5) C d_S_firstOf_5 rfl (lv_at hl 1 rfl) ?_
      refine r_icmp_ge (pc := 6) (tgt := 32) C (by omega) d_S_firstOf_6 (by decide) (fun c_6 => ?_) (fun c_6 => ?_)
      · skip
        refine r_iload_n (pc := 32) C d_S_firstOf_32 rfl (lv_at hl 2 rfl) ?_
        exact kret _ _ _ _ fs _ d_S_firstOf_33 w (⟨rfl, by rw [hf, show i = k by omega]⟩)
      · skip
        refine r_iload_n (pc := 9) C d_S_firstOf_9 rfl (lv_at hl 3 rfl) ?_
        refine r_aload_n (pc := 10) C d_S_firstOf_10 rfl (lv_at hl 0 rfl) ?_
        refine r_get (pc := 11) (v := .int (iI r)) C w i_S rfl 0 rfl 2 (by decide) fl_S_18 rfl rfl d_S_firstOf_11 ?_
        refine r_icmp_ge (pc := 14) (tgt := 32) C (by omega) d_S_firstOf_14 (by decide) (fun c_14 => ?_) (fun c_14 => ?_)
        · skip
          refine r_iload_n (pc := 32) C d_S_firstOf_32 rfl (lv_at hl 2 rfl) ?_
          exact kret _ _ _ _ fs _ d_S_firstOf_33 w (⟨rfl, by rw [hf, show i = k by omega]⟩)
        · skip
          have hk2 := hO.run (k := i) (by omega) (by omega)
          refine r_iload_n (pc := 17) C d_S_firstOf_17 rfl (lv_at hl 2 rfl) ?_
          refine r_aload_n (pc := 18) C d_S_firstOf_18 rfl (lv_at hl 0 rfl) ?_
          refine r_get (pc := 19) (v := .ref b) C w i_S rfl 0 rfl 1 (by decide) fl_S_15 rfl rfl d_S_firstOf_19 ?_
          refine r_iload_n (pc := 22) C d_S_firstOf_22 rfl (lv_at hl 3 rfl) ?_
          refine r_iald (pc := 23) (f := ln) (i := i) C w 0 2 rfl hT.1 (by omega) d_S_firstOf_23 ?_
          refine r_iadd (pc := 24) C d_S_firstOf_24 ?_
          refine r_istore_n (pc := 25) (lv' := [(2, .int (iI (fs + (ln i)))), (0, .ref q), (1, .int (iI k)), (3, .int (iI i))]) C d_S_firstOf_25 rfl hl (by decide) rfl (fun ls hl => ?_)
          refine r_iinc (pc := 26) (j := 3) (lv' := [(3, .int (iI (i + 1))), (2, .int (iI (fs + (ln i)))), (0, .ref q), (1, .int (iI k))]) C d_S_firstOf_26 hl rfl (by decide) rfl (fun ls hl => ?_)
          refine r_goto (pc := 29) (tgt := 4) C d_S_firstOf_29 (by decide) ?_
          exact ih4 (i + 1) (fs + (ln i)) (by omega) (by omega) (by omega) _ _ _ w (lv_sub hl [2, 3, 1, 0] rfl)
  exact L4 ((k - 0) + 1 : Int).toNat 0 0 (by first | omega | rfl) (by first | omega | rfl) (by omega) _ _ _ w (lv_sub hl [2, 3, 1, 0] rfl)
theorem d_S_signAt_0 : decode b_S_signAt 0 = .ok (.iconst 0, 1) := by decide +kernel
theorem d_S_signAt_1 : decode b_S_signAt 1 = .ok (.istore_n 2, 1) := by decide +kernel
theorem d_S_signAt_2 : decode b_S_signAt 2 = .ok (.iconst 0, 1) := by decide +kernel
theorem d_S_signAt_3 : decode b_S_signAt 3 = .ok (.istore_n 3, 1) := by decide +kernel
theorem d_S_signAt_4 : decode b_S_signAt 4 = .ok (.iload_n 3, 1) := by decide +kernel
theorem d_S_signAt_5 : decode b_S_signAt 5 = .ok (.aload_n 0, 1) := by decide +kernel
theorem d_S_signAt_6 : decode b_S_signAt 6 = .ok (.getfield 18, 3) := by decide +kernel
theorem d_S_signAt_9 : decode b_S_signAt 9 = .ok (.if_icmp .ge 34, 3) := by decide +kernel
theorem d_S_signAt_12 : decode b_S_signAt 12 = .ok (.iload_n 1, 1) := by decide +kernel
theorem d_S_signAt_13 : decode b_S_signAt 13 = .ok (.ifCond .lt 30, 3) := by decide +kernel
theorem d_S_signAt_16 : decode b_S_signAt 16 = .ok (.iload_n 2, 1) := by decide +kernel
theorem d_S_signAt_17 : decode b_S_signAt 17 = .ok (.aload_n 0, 1) := by decide +kernel
theorem d_S_signAt_18 : decode b_S_signAt 18 = .ok (.getfield 15, 3) := by decide +kernel
theorem d_S_signAt_21 : decode b_S_signAt 21 = .ok (.iload_n 3, 1) := by decide +kernel
theorem d_S_signAt_22 : decode b_S_signAt 22 = .ok (.iaload, 1) := by decide +kernel
theorem d_S_signAt_23 : decode b_S_signAt 23 = .ok (.iadd, 1) := by decide +kernel
theorem d_S_signAt_24 : decode b_S_signAt 24 = .ok (.istore_n 2, 1) := by decide +kernel
theorem d_S_signAt_25 : decode b_S_signAt 25 = .ok (.iload_n 1, 1) := by decide +kernel
theorem d_S_signAt_26 : decode b_S_signAt 26 = .ok (.iload_n 2, 1) := by decide +kernel
theorem d_S_signAt_27 : decode b_S_signAt 27 = .ok (.if_icmp .ge 10, 3) := by decide +kernel
theorem d_S_signAt_30 : decode b_S_signAt 30 = .ok (.aload_n 0, 1) := by decide +kernel
theorem d_S_signAt_31 : decode b_S_signAt 31 = .ok (.getfield 9, 3) := by decide +kernel
theorem d_S_signAt_34 : decode b_S_signAt 34 = .ok (.iload_n 3, 1) := by decide +kernel
theorem d_S_signAt_35 : decode b_S_signAt 35 = .ok (.iaload, 1) := by decide +kernel
theorem d_S_signAt_36 : decode b_S_signAt 36 = .ok (.ireturn, 1) := by decide +kernel
theorem d_S_signAt_37 : decode b_S_signAt 37 = .ok (.iinc 3 1, 3) := by decide +kernel
theorem d_S_signAt_40 : decode b_S_signAt 40 = .ok (.goto (-36), 3) := by decide +kernel
theorem d_S_signAt_43 : decode b_S_signAt 43 = .ok (.iconst (-1), 1) := by decide +kernel
theorem d_S_signAt_44 : decode b_S_signAt 44 = .ok (.ireturn, 1) := by decide +kernel
set_option maxHeartbeats 4000000 in
set_option maxRecDepth 20000 in
theorem c_S_signAt {l : Launch} {G : va_G} {tys : List (ClassId × FieldType)} {cI cO cZ : ClassId} (hT : TY tys cI cO cZ) (q a b : Nat) (sg ln : Int → Int) (r pl ov lc sd : Int) (N : Int) (v : Int → Int) (hO : Ok r sg ln N v) (hr : r ≤ 50) (hN : N ≤ 3000) (x : Int) (hx : (-2147483648 ≤ x ∧ x < 2147483648)) : CTI l G tys y_S_signAt b_S_signAt 4 .int 0 0 [.ref q, .int (iI x)] (sw cI q a b sg ln r pl ov lc sd) (fun z u => u = sw cI q a b sg ln r pl ov lc sd ∧ (((0 ≤ x ∧ x < N) ∧ z = v x) ∨ (¬ (0 ≤ x ∧ x < N) ∧ z = -1))) := by
  refine mkI (by decide) (Nat.le_of_ble_eq_true rfl) ?_
  rintro X rfl rfl rfl hRm C kret H ls w hl
  have hl : lv_has ls 4 [(0, .ref q), (1, .int (iI x))] := hl
  have w : Wd X (sw cI q a b sg ln r pl ov lc sd) H [] := w
  generalize ([] : List Loc) = locs at w ⊢
  have hr0 := hO.1
  have hN0 := hO.n0
  have hps := ps_zero ln
  have hpr := hO.2.2.2.1
  refine r_iconst (pc := 0) C d_S_signAt_0 ?_
  refine r_istore_n (pc := 1) (lv' := [(2, .int (iI 0)), (0, .ref q), (1, .int (iI x))]) C d_S_signAt_1 rfl hl (by decide) rfl (fun ls hl => ?_)
  refine r_iconst (pc := 2) C d_S_signAt_2 ?_
  refine r_istore_n (pc := 3) (lv' := [(3, .int (iI 0)), (2, .int (iI 0)), (0, .ref q), (1, .int (iI x))]) C d_S_signAt_3 rfl hl (by decide) rfl (fun ls hl => ?_)
  have L4 : ∀ (fuel : Nat), ∀ (i : Int) (S : Int), 0 ≤ i ∧ i ≤ r → S = ps ln i ∧ (S ≤ x ∨ i = 0) → (r - i) < (fuel : Int) → ∀ (H : Heap) (locs : List Loc) (ls : Array Slot), Wd X (sw cI q a b sg ln r pl ov lc sd) H locs → lv_has ls 4 [(0, .ref q), (1, .int (iI x)), (2, .int (iI S)), (3, .int (iI i))] → GG X 0 0 H locs 4 ls [] := by
    intro fuel
    induction fuel with
    | zero =>
      intro i S h0 hf hfuel
      exact absurd hfuel (by omega)
    | succ fuel ih4 =>
      intro i S h0 hf hfuel H locs ls w hl
      have hi0 : i = 0 → ps ln i = 0 := fun q => by rw [q, ps_zero]
      refine r_iload_n (pc := 4) C d_S_signAt_4 rfl (lv_at hl 3 rfl) ?_
      refine r_aload_n (pc := 5) C d_S_signAt_5 rfl (lv_at hl 0 rfl) ?_
      refine r_get (pc := 6) (v := .int (iI r)) C w i_S rfl 0 rfl 2 (by decide) fl_S_18 rfl rfl d_S_signAt_6 ?_
      refine r_icmp_ge (pc := 9) (tgt := 43) C (by omega) d_S_signAt_9 (by decide) (fun c_9 => ?_) (fun c_9 => ?_)
      · skip
        have hiN : S = N := by { rw [hf.1, show i = r by omega]; exact hpr }
        refine r_iconst (pc := 43) C d_S_signAt_43 ?_
        exact kret _ _ _ _ (-1) _ d_S_signAt_44 w (⟨rfl, by omega⟩)
      · skip
        refine r_iload_n (pc := 12) C d_S_signAt_12 rfl (lv_at hl 1 rfl) ?_
        refine r_if_lt (pc := 13) (tgt := 43) C (by omega) d_S_signAt_13 (by decide) (fun c_13 => ?_) (fun c_13 => ?_)
        · skip
          refine r_iconst (pc := 43) C d_S_signAt_43 ?_
          exact kret _ _ _ _ (-1) _ d_S_signAt_44 w (⟨rfl, by omega⟩)
        · skip
          have hk2 := hO.run (k := i) (by omega) (by omega)
          refine r_iload_n (pc := 16) C d_S_signAt_16 rfl (lv_at hl 2 rfl) ?_
          refine r_aload_n (pc := 17) C d_S_signAt_17 rfl (lv_at hl 0 rfl) ?_
          refine r_get (pc := 18) (v := .ref b) C w i_S rfl 0 rfl 1 (by decide) fl_S_15 rfl rfl d_S_signAt_18 ?_
          refine r_iload_n (pc := 21) C d_S_signAt_21 rfl (lv_at hl 3 rfl) ?_
          refine r_iald (pc := 22) (f := ln) (i := i) C w 0 2 rfl hT.1 (by omega) d_S_signAt_22 ?_
          refine r_iadd (pc := 23) C d_S_signAt_23 ?_
          refine r_istore_n (pc := 24) (lv' := [(2, .int (iI (S + (ln i)))), (0, .ref q), (1, .int (iI x)), (3, .int (iI i))]) C d_S_signAt_24 rfl hl (by decide) rfl (fun ls hl => ?_)
          refine r_iload_n (pc := 25) C d_S_signAt_25 rfl (lv_at hl 2 rfl) ?_
          refine r_iload_n (pc := 26) C d_S_signAt_26 rfl (lv_at hl 0 rfl) ?_
          refine r_icmp_ge (pc := 27) (tgt := 37) C (by omega) d_S_signAt_27 (by decide) (fun c_27 => ?_) (fun c_27 => ?_)
          · skip
            refine r_iinc (pc := 37) (j := 3) (lv' := [(3, .int (iI (i + 1))), (2, .int (iI (S + (ln i)))), (0, .ref q), (1, .int (iI x))]) C d_S_signAt_37 hl rfl (by decide) rfl (fun ls hl => ?_)
            refine r_goto (pc := 40) (tgt := 4) C d_S_signAt_40 (by decide) ?_
            exact ih4 (i + 1) (S + (ln i)) (by omega) (by omega) (by omega) _ _ _ w (lv_sub hl [2, 3, 1, 0] rfl)
          · skip
            have hv := hO.2.2.2.2 i (by omega) (by omega) x (by omega) (by omega)
            refine r_aload_n (pc := 30) C d_S_signAt_30 rfl (lv_at hl 1 rfl) ?_
            refine r_get (pc := 31) (v := .ref a) C w i_S rfl 0 rfl 0 (by decide) fl_S_9 rfl rfl d_S_signAt_31 ?_
            refine r_iload_n (pc := 34) C d_S_signAt_34 rfl (lv_at hl 3 rfl) ?_
            refine r_iald (pc := 35) (f := sg) (i := i) C w 0 1 rfl hT.1 (by omega) d_S_signAt_35 ?_
            exact kret _ _ _ _ (sg i) _ d_S_signAt_36 w (⟨rfl, by omega⟩)
  exact L4 ((r - 0) + 1 : Int).toNat 0 0 (by first | omega | rfl) (by first | omega | rfl) (by omega) _ _ _ w (lv_sub hl [2, 3, 1, 0] rfl)
theorem d_S_alikeIn_0 : decode b_S_alikeIn 0 = .ok (.iconst 0, 1) := by decide +kernel
theorem d_S_alikeIn_1 : decode b_S_alikeIn 1 = .ok (.istore 4, 2) := by decide +kernel
theorem d_S_alikeIn_3 : decode b_S_alikeIn 3 = .ok (.iconst 0, 1) := by decide +kernel
theorem d_S_alikeIn_4 : decode b_S_alikeIn 4 = .ok (.istore 5, 2) := by decide +kernel
theorem d_S_alikeIn_6 : decode b_S_alikeIn 6 = .ok (.iconst 0, 1) := by decide +kernel
theorem d_S_alikeIn_7 : decode b_S_alikeIn 7 = .ok (.istore 6, 2) := by decide +kernel
theorem d_S_alikeIn_9 : decode b_S_alikeIn 9 = .ok (.iload 6, 2) := by decide +kernel
theorem d_S_alikeIn_11 : decode b_S_alikeIn 11 = .ok (.aload_n 0, 1) := by decide +kernel
theorem d_S_alikeIn_12 : decode b_S_alikeIn 12 = .ok (.getfield 18, 3) := by decide +kernel
theorem d_S_alikeIn_15 : decode b_S_alikeIn 15 = .ok (.if_icmp .ge 54, 3) := by decide +kernel
theorem d_S_alikeIn_18 : decode b_S_alikeIn 18 = .ok (.aload_n 0, 1) := by decide +kernel
theorem d_S_alikeIn_19 : decode b_S_alikeIn 19 = .ok (.getfield 9, 3) := by decide +kernel
theorem d_S_alikeIn_22 : decode b_S_alikeIn 22 = .ok (.iload 6, 2) := by decide +kernel
theorem d_S_alikeIn_24 : decode b_S_alikeIn 24 = .ok (.iaload, 1) := by decide +kernel
theorem d_S_alikeIn_25 : decode b_S_alikeIn 25 = .ok (.iload_n 3, 1) := by decide +kernel
theorem d_S_alikeIn_26 : decode b_S_alikeIn 26 = .ok (.if_icmp .ne 25, 3) := by decide +kernel
theorem d_S_alikeIn_29 : decode b_S_alikeIn 29 = .ok (.iload 5, 2) := by decide +kernel
theorem d_S_alikeIn_31 : decode b_S_alikeIn 31 = .ok (.iload 4, 2) := by decide +kernel
theorem d_S_alikeIn_33 : decode b_S_alikeIn 33 = .ok (.iload 4, 2) := by decide +kernel
theorem d_S_alikeIn_35 : decode b_S_alikeIn 35 = .ok (.aload_n 0, 1) := by decide +kernel
theorem d_S_alikeIn_36 : decode b_S_alikeIn 36 = .ok (.getfield 15, 3) := by decide +kernel
theorem d_S_alikeIn_39 : decode b_S_alikeIn 39 = .ok (.iload 6, 2) := by decide +kernel
theorem d_S_alikeIn_41 : decode b_S_alikeIn 41 = .ok (.iaload, 1) := by decide +kernel
theorem d_S_alikeIn_42 : decode b_S_alikeIn 42 = .ok (.iadd, 1) := by decide +kernel
theorem d_S_alikeIn_43 : decode b_S_alikeIn 43 = .ok (.iload_n 1, 1) := by decide +kernel
theorem d_S_alikeIn_44 : decode b_S_alikeIn 44 = .ok (.iload_n 2, 1) := by decide +kernel
theorem d_S_alikeIn_45 : decode b_S_alikeIn 45 = .ok (.invokestatic 43, 3) := by decide +kernel
theorem d_S_alikeIn_48 : decode b_S_alikeIn 48 = .ok (.iadd, 1) := by decide +kernel
theorem d_S_alikeIn_49 : decode b_S_alikeIn 49 = .ok (.istore 5, 2) := by decide +kernel
theorem d_S_alikeIn_51 : decode b_S_alikeIn 51 = .ok (.iload 4, 2) := by decide +kernel
theorem d_S_alikeIn_53 : decode b_S_alikeIn 53 = .ok (.aload_n 0, 1) := by decide +kernel
theorem d_S_alikeIn_54 : decode b_S_alikeIn 54 = .ok (.getfield 15, 3) := by decide +kernel
theorem d_S_alikeIn_57 : decode b_S_alikeIn 57 = .ok (.iload 6, 2) := by decide +kernel
theorem d_S_alikeIn_59 : decode b_S_alikeIn 59 = .ok (.iaload, 1) := by decide +kernel
theorem d_S_alikeIn_60 : decode b_S_alikeIn 60 = .ok (.iadd, 1) := by decide +kernel
theorem d_S_alikeIn_61 : decode b_S_alikeIn 61 = .ok (.istore 4, 2) := by decide +kernel
theorem d_S_alikeIn_63 : decode b_S_alikeIn 63 = .ok (.iinc 6 1, 3) := by decide +kernel
theorem d_S_alikeIn_66 : decode b_S_alikeIn 66 = .ok (.goto (-57), 3) := by decide +kernel
theorem d_S_alikeIn_69 : decode b_S_alikeIn 69 = .ok (.iload 5, 2) := by decide +kernel
theorem d_S_alikeIn_71 : decode b_S_alikeIn 71 = .ok (.ireturn, 1) := by decide +kernel
set_option maxHeartbeats 4000000 in
set_option maxRecDepth 20000 in
theorem c_S_alikeIn {l : Launch} {G : va_G} {tys : List (ClassId × FieldType)} {cI cO cZ : ClassId} (hT : TY tys cI cO cZ) (q a b : Nat) (sg ln : Int → Int) (r pl ov lc sd : Int) (N : Int) (v : Int → Int) (hO : Ok r sg ln N v) (hr : r ≤ 50) (hN : N ≤ 3000) (f e s : Int) (hf : 0 ≤ f ∧ f ≤ e ∧ e ≤ N) (hs : (-2147483648 ≤ s ∧ s < 2147483648)) : CTI l G tys y_S_alikeIn b_S_alikeIn 7 .int 2 42 [.ref q, .int (iI f), .int (iI e), .int (iI s)] (sw cI q a b sg ln r pl ov lc sd) (fun z u => u = sw cI q a b sg ln r pl ov lc sd ∧ (z = cn v s f e)) := by
  refine mkI (by decide) (Nat.le_of_ble_eq_true rfl) ?_
  rintro X rfl rfl rfl hRm C kret H ls w hl
  have hl : lv_has ls 7 [(0, .ref q), (1, .int (iI f)), (2, .int (iI e)), (3, .int (iI s))] := hl
  have w : Wd X (sw cI q a b sg ln r pl ov lc sd) H [] := w
  generalize ([] : List Loc) = locs at w ⊢
  have hr0 := hO.1
  have hN0 := hO.n0
  have hps := ps_zero ln
  have hpr := hO.2.2.2.1
  refine r_iconst (pc := 0) C d_S_alikeIn_0 ?_
  refine r_istore (pc := 1) (lv' := [(4, .int (iI 0)), (0, .ref q), (1, .int (iI f)), (2, .int (iI e)), (3, .int (iI s))]) C d_S_alikeIn_1 hl (by decide) rfl (fun ls hl => ?_)
  refine r_iconst (pc := 3) C d_S_alikeIn_3 ?_
  refine r_istore (pc := 4) (lv' := [(5, .int (iI 0)), (4, .int (iI 0)), (0, .ref q), (1, .int (iI f)), (2, .int (iI e)), (3, .int (iI s))]) C d_S_alikeIn_4 hl (by decide) rfl (fun ls hl => ?_)
  refine r_iconst (pc := 6) C d_S_alikeIn_6 ?_
  refine r_istore (pc := 7) (lv' := [(6, .int (iI 0)), (5, .int (iI 0)), (4, .int (iI 0)), (0, .ref q), (1, .int (iI f)), (2, .int (iI e)), (3, .int (iI s))]) C d_S_alikeIn_7 hl (by decide) rfl (fun ls hl => ?_)
  have L9 : ∀ (fuel : Nat), ∀ (i : Int) (al : Int) (S : Int), 0 ≤ i ∧ i ≤ r → S = ps ln i → al = cn v s f (max f (min S e)) → (r - i) < (fuel : Int) → ∀ (H : Heap) (locs : List Loc) (ls : Array Slot), Wd X (sw cI q a b sg ln r pl ov lc sd) H locs → lv_has ls 7 [(0, .ref q), (1, .int (iI f)), (2, .int (iI e)), (3, .int (iI s)), (4, .int (iI S)), (5, .int (iI al)), (6, .int (iI i))] → GG X 0 0 H locs 9 ls [] := by
    intro fuel
    induction fuel with
    | zero =>
      intro i al S h0 hS hal hfuel
      exact absurd hfuel (by omega)
    | succ fuel ih9 =>
      intro i al S h0 hS hal hfuel H locs ls w hl
      refine r_iload (pc := 9) C d_S_alikeIn_9 (lv_at hl 6 rfl) ?_
      refine r_aload_n (pc := 11) C d_S_alikeIn_11 rfl (lv_at hl 0 rfl) ?_
      refine r_get (pc := 12) (v := .int (iI r)) C w i_S rfl 0 rfl 2 (by decide) fl_S_18 rfl rfl d_S_alikeIn_12 ?_
      refine r_icmp_ge (pc := 15) (tgt := 69) C (by omega) d_S_alikeIn_15 (by decide) (fun c_15 => ?_) (fun c_15 => ?_)
      · skip
        refine r_iload (pc := 69) C d_S_alikeIn_69 (lv_at hl 5 rfl) ?_
        exact kret _ _ _ _ al _ d_S_alikeIn_71 w (⟨rfl, by rw [hal]; have : S = N := by { rw [hS, show i = r by omega]; exact hpr }; rw [show max f (min S e) = e by omega]⟩)
      · skip
        have hk2 := hO.run (k := i) (by omega) (by omega)
        refine r_aload_n (pc := 18) C d_S_alikeIn_18 rfl (lv_at hl 0 rfl) ?_
        refine r_get (pc := 19) (v := .ref a) C w i_S rfl 0 rfl 0 (by decide) fl_S_9 rfl rfl d_S_alikeIn_19 ?_
        refine r_iload (pc := 22) C d_S_alikeIn_22 (lv_at hl 6 rfl) ?_
        refine r_iald (pc := 24) (f := sg) (i := i) C w 0 1 rfl hT.1 (by omega) d_S_alikeIn_24 ?_
        refine r_iload_n (pc := 25) C d_S_alikeIn_25 rfl (lv_at hl 3 rfl) ?_
        refine r_icmp_ne (pc := 26) (tgt := 51) C (by omega) d_S_alikeIn_26 (by decide) (fun c_26 => ?_) (fun c_26 => ?_)
        · skip
          have hci := count_out (v := v) hO (by omega) (by omega) (by omega : 0 ≤ f ∧ f ≤ e) hS c_26
          refine r_iload (pc := 51) C d_S_alikeIn_51 (lv_at hl 4 rfl) ?_
          refine r_aload_n (pc := 53) C d_S_alikeIn_53 rfl (lv_at hl 0 rfl) ?_
          refine r_get (pc := 54) (v := .ref b) C w i_S rfl 0 rfl 1 (by decide) fl_S_15 rfl rfl d_S_alikeIn_54 ?_
          refine r_iload (pc := 57) C d_S_alikeIn_57 (lv_at hl 6 rfl) ?_
          refine r_iald (pc := 59) (f := ln) (i := i) C w 0 2 rfl hT.1 (by omega) d_S_alikeIn_59 ?_
          refine r_iadd (pc := 60) C d_S_alikeIn_60 ?_
          refine r_istore (pc := 61) (lv' := [(4, .int (iI (S + (ln i)))), (0, .ref q), (1, .int (iI f)), (2, .int (iI e)), (3, .int (iI s)), (5, .int (iI al)), (6, .int (iI i))]) C d_S_alikeIn_61 hl (by decide) rfl (fun ls hl => ?_)
          refine r_iinc (pc := 63) (j := 6) (lv' := [(6, .int (iI (i + 1))), (4, .int (iI (S + (ln i)))), (0, .ref q), (1, .int (iI f)), (2, .int (iI e)), (3, .int (iI s)), (5, .int (iI al))]) C d_S_alikeIn_63 hl rfl (by decide) rfl (fun ls hl => ?_)
          refine r_goto (pc := 66) (tgt := 9) C d_S_alikeIn_66 (by decide) ?_
          exact ih9 (i + 1) al (S + (ln i)) (by omega) (by omega) (by omega) (by omega) _ _ _ w (lv_sub hl [2, 3, 4, 5, 1, 6, 0] rfl)
        · skip
          have c_26 : sg i = s := by omega
          refine r_iload (pc := 29) C d_S_alikeIn_29 (lv_at hl 5 rfl) ?_
          refine r_iload (pc := 31) C d_S_alikeIn_31 (lv_at hl 4 rfl) ?_
          refine r_iload (pc := 33) C d_S_alikeIn_33 (lv_at hl 4 rfl) ?_
          refine r_aload_n (pc := 35) C d_S_alikeIn_35 rfl (lv_at hl 0 rfl) ?_
          refine r_get (pc := 36) (v := .ref b) C w i_S rfl 0 rfl 1 (by decide) fl_S_15 rfl rfl d_S_alikeIn_36 ?_
          refine r_iload (pc := 39) C d_S_alikeIn_39 (lv_at hl 6 rfl) ?_
          refine r_iald (pc := 41) (f := ln) (i := i) C w 0 2 rfl hT.1 (by omega) d_S_alikeIn_41 ?_
          refine r_iadd (pc := 42) C d_S_alikeIn_42 ?_
          refine r_iload_n (pc := 43) C d_S_alikeIn_43 rfl (lv_at hl 1 rfl) ?_
          refine r_iload_n (pc := 44) C d_S_alikeIn_44 rfl (lv_at hl 2 rfl) ?_
          refine r_callP (pc := 45) (As := [.int (iI S), .int (iI (S + (ln i))), .int (iI f), .int (iI e)]) (rest := [.int (iI al)]) C w (c_S_shared S (S + (ln i)) f e (by omega)) ml_S_43 st_S_shared ini_S cd_S_shared hd_S_shared rfl (by rw [hRm]; exact ⟨⟨Nat.le_of_ble_eq_true rfl, Nat.le_of_ble_eq_true rfl⟩, Nat.le_of_ble_eq_true rfl, Nat.le_of_ble_eq_true rfl⟩) hl.1 rfl (Nat.le_of_ble_eq_true rfl) d_S_alikeIn_45 (fun z_45 H locs hz_45 w => ?_)
          refine r_iadd (pc := 48) C d_S_alikeIn_48 ?_
          have hci := count_in (v := v) hO (by omega) (by omega) (by omega : 0 ≤ f ∧ f ≤ e) hS c_26 hz_45
          refine r_istore (pc := 49) (lv' := [(5, .int (iI (al + z_45))), (0, .ref q), (1, .int (iI f)), (2, .int (iI e)), (3, .int (iI s)), (4, .int (iI S)), (6, .int (iI i))]) C d_S_alikeIn_49 hl (by decide) rfl (fun ls hl => ?_)
          refine r_iload (pc := 51) C d_S_alikeIn_51 (lv_at hl 5 rfl) ?_
          refine r_aload_n (pc := 53) C d_S_alikeIn_53 rfl (lv_at hl 1 rfl) ?_
          refine r_get (pc := 54) (v := .ref b) C w i_S rfl 0 rfl 1 (by decide) fl_S_15 rfl rfl d_S_alikeIn_54 ?_
          refine r_iload (pc := 57) C d_S_alikeIn_57 (lv_at hl 6 rfl) ?_
          refine r_iald (pc := 59) (f := ln) (i := i) C w 0 2 rfl hT.1 (by omega) d_S_alikeIn_59 ?_
          refine r_iadd (pc := 60) C d_S_alikeIn_60 ?_
          refine r_istore (pc := 61) (lv' := [(4, .int (iI (S + (ln i)))), (5, .int (iI (al + z_45))), (0, .ref q), (1, .int (iI f)), (2, .int (iI e)), (3, .int (iI s)), (6, .int (iI i))]) C d_S_alikeIn_61 hl (by decide) rfl (fun ls hl => ?_)
          refine r_iinc (pc := 63) (j := 6) (lv' := [(6, .int (iI (i + 1))), (4, .int (iI (S + (ln i)))), (5, .int (iI (al + z_45))), (0, .ref q), (1, .int (iI f)), (2, .int (iI e)), (3, .int (iI s))]) C d_S_alikeIn_63 hl rfl (by decide) rfl (fun ls hl => ?_)
          refine r_goto (pc := 66) (tgt := 9) C d_S_alikeIn_66 (by decide) ?_
          exact ih9 (i + 1) (al + z_45) (S + (ln i)) (by omega) (by omega) (by omega) (by omega) _ _ _ w (lv_sub hl [3, 4, 5, 6, 1, 2, 0] rfl)
  exact L9 ((r - 0) + 1 : Int).toNat 0 0 0 (by first | omega | rfl) (by first | omega | rfl) ((by rw [show max f (min 0 e) = f by omega]; unfold cn; omega)) (by omega) _ _ _ w (lv_sub hl [3, 4, 5, 6, 2, 1, 0] rfl)
theorem d_S_sumOfValues_0 : decode b_S_sumOfValues 0 = .ok (.iconst 0, 1) := by decide +kernel
theorem d_S_sumOfValues_1 : decode b_S_sumOfValues 1 = .ok (.istore_n 1, 1) := by decide +kernel
theorem d_S_sumOfValues_2 : decode b_S_sumOfValues 2 = .ok (.iconst 0, 1) := by decide +kernel
theorem d_S_sumOfValues_3 : decode b_S_sumOfValues 3 = .ok (.istore_n 2, 1) := by decide +kernel
theorem d_S_sumOfValues_4 : decode b_S_sumOfValues 4 = .ok (.iload_n 2, 1) := by decide +kernel
theorem d_S_sumOfValues_5 : decode b_S_sumOfValues 5 = .ok (.aload_n 0, 1) := by decide +kernel
theorem d_S_sumOfValues_6 : decode b_S_sumOfValues 6 = .ok (.getfield 18, 3) := by decide +kernel
theorem d_S_sumOfValues_9 : decode b_S_sumOfValues 9 = .ok (.if_icmp .ge 40, 3) := by decide +kernel
theorem d_S_sumOfValues_12 : decode b_S_sumOfValues 12 = .ok (.iload_n 1, 1) := by decide +kernel
theorem d_S_sumOfValues_13 : decode b_S_sumOfValues 13 = .ok (.aload_n 0, 1) := by decide +kernel
theorem d_S_sumOfValues_14 : decode b_S_sumOfValues 14 = .ok (.getfield 9, 3) := by decide +kernel
theorem d_S_sumOfValues_17 : decode b_S_sumOfValues 17 = .ok (.iload_n 2, 1) := by decide +kernel
theorem d_S_sumOfValues_18 : decode b_S_sumOfValues 18 = .ok (.iaload, 1) := by decide +kernel
theorem d_S_sumOfValues_19 : decode b_S_sumOfValues 19 = .ok (.bipush 10, 2) := by decide +kernel
theorem d_S_sumOfValues_21 : decode b_S_sumOfValues 21 = .ok (.if_icmp .ne 7, 3) := by decide +kernel
theorem d_S_sumOfValues_24 : decode b_S_sumOfValues 24 = .ok (.iconst 0, 1) := by decide +kernel
theorem d_S_sumOfValues_25 : decode b_S_sumOfValues 25 = .ok (.goto 16, 3) := by decide +kernel
theorem d_S_sumOfValues_28 : decode b_S_sumOfValues 28 = .ok (.aload_n 0, 1) := by decide +kernel
theorem d_S_sumOfValues_29 : decode b_S_sumOfValues 29 = .ok (.getfield 9, 3) := by decide +kernel
theorem d_S_sumOfValues_32 : decode b_S_sumOfValues 32 = .ok (.iload_n 2, 1) := by decide +kernel
theorem d_S_sumOfValues_33 : decode b_S_sumOfValues 33 = .ok (.iaload, 1) := by decide +kernel
theorem d_S_sumOfValues_34 : decode b_S_sumOfValues 34 = .ok (.aload_n 0, 1) := by decide +kernel
theorem d_S_sumOfValues_35 : decode b_S_sumOfValues 35 = .ok (.getfield 15, 3) := by decide +kernel
theorem d_S_sumOfValues_38 : decode b_S_sumOfValues 38 = .ok (.iload_n 2, 1) := by decide +kernel
theorem d_S_sumOfValues_39 : decode b_S_sumOfValues 39 = .ok (.iaload, 1) := by decide +kernel
theorem d_S_sumOfValues_40 : decode b_S_sumOfValues 40 = .ok (.imul, 1) := by decide +kernel
theorem d_S_sumOfValues_41 : decode b_S_sumOfValues 41 = .ok (.iadd, 1) := by decide +kernel
theorem d_S_sumOfValues_42 : decode b_S_sumOfValues 42 = .ok (.istore_n 1, 1) := by decide +kernel
theorem d_S_sumOfValues_43 : decode b_S_sumOfValues 43 = .ok (.iinc 2 1, 3) := by decide +kernel
theorem d_S_sumOfValues_46 : decode b_S_sumOfValues 46 = .ok (.goto (-42), 3) := by decide +kernel
theorem d_S_sumOfValues_49 : decode b_S_sumOfValues 49 = .ok (.iload_n 1, 1) := by decide +kernel
theorem d_S_sumOfValues_50 : decode b_S_sumOfValues 50 = .ok (.ireturn, 1) := by decide +kernel
set_option maxHeartbeats 4000000 in
set_option maxRecDepth 20000 in
theorem c_S_sumOfValues {l : Launch} {G : va_G} {tys : List (ClassId × FieldType)} {cI cO cZ : ClassId} (hT : TY tys cI cO cZ) (q a b : Nat) (sg ln : Int → Int) (r pl ov lc sd : Int) (N : Int) (v : Int → Int) (hO : Ok r sg ln N v) (hr : r ≤ 50) (hN : N ≤ 3000)  : CTI l G tys y_S_sumOfValues b_S_sumOfValues 3 .int 0 0 [.ref q] (sw cI q a b sg ln r pl ov lc sd) (fun z u => u = sw cI q a b sg ln r pl ov lc sd ∧ (z = ps (smf sg ln) r)) := by
  refine mkI (by decide) (Nat.le_of_ble_eq_true rfl) ?_
  rintro X rfl rfl rfl hRm C kret H ls w hl
  have hl : lv_has ls 3 [(0, .ref q)] := hl
  have w : Wd X (sw cI q a b sg ln r pl ov lc sd) H [] := w
  generalize ([] : List Loc) = locs at w ⊢
  have hr0 := hO.1
  have hN0 := hO.n0
  have hps := ps_zero ln
  have hpr := hO.2.2.2.1
  refine r_iconst (pc := 0) C d_S_sumOfValues_0 ?_
  refine r_istore_n (pc := 1) (lv' := [(1, .int (iI 0)), (0, .ref q)]) C d_S_sumOfValues_1 rfl hl (by decide) rfl (fun ls hl => ?_)
  refine r_iconst (pc := 2) C d_S_sumOfValues_2 ?_
  refine r_istore_n (pc := 3) (lv' := [(2, .int (iI 0)), (1, .int (iI 0)), (0, .ref q)]) C d_S_sumOfValues_3 rfl hl (by decide) rfl (fun ls hl => ?_)
  have L4 : ∀ (fuel : Nat), ∀ (i : Int) (sm : Int), 0 ≤ i ∧ i ≤ r → sm = ps (smf sg ln) i → (r - i) < (fuel : Int) → ∀ (H : Heap) (locs : List Loc) (ls : Array Slot), Wd X (sw cI q a b sg ln r pl ov lc sd) H locs → lv_has ls 3 [(0, .ref q), (1, .int (iI sm)), (2, .int (iI i))] → GG X 0 0 H locs 4 ls [] := by
    intro fuel
    induction fuel with
    | zero =>
      intro i sm h0 hs hfuel
      exact absurd hfuel (by omega)
    | succ fuel ih4 =>
      intro i sm h0 hs hfuel H locs ls w hl
      refine r_iload_n (pc := 4) C d_S_sumOfValues_4 rfl (lv_at hl 2 rfl) ?_
      refine r_aload_n (pc := 5) C d_S_sumOfValues_5 rfl (lv_at hl 0 rfl) ?_
      refine r_get (pc := 6) (v := .int (iI r)) C w i_S rfl 0 rfl 2 (by decide) fl_S_18 rfl rfl d_S_sumOfValues_6 ?_
      refine r_icmp_ge (pc := 9) (tgt := 49) C (by omega) d_S_sumOfValues_9 (by decide) (fun c_9 => ?_) (fun c_9 => ?_)
      · skip
        refine r_iload_n (pc := 49) C d_S_sumOfValues_49 rfl (lv_at hl 1 rfl) ?_
        exact kret _ _ _ _ sm _ d_S_sumOfValues_50 w (⟨rfl, by rw [hs, show i = r by omega]⟩)
      · skip
        have hk2 := hO.run (k := i) (by omega) (by omega)
        refine r_iload_n (pc := 12) C d_S_sumOfValues_12 rfl (lv_at hl 1 rfl) ?_
        refine r_aload_n (pc := 13) C d_S_sumOfValues_13 rfl (lv_at hl 0 rfl) ?_
        refine r_get (pc := 14) (v := .ref a) C w i_S rfl 0 rfl 0 (by decide) fl_S_9 rfl rfl d_S_sumOfValues_14 ?_
        refine r_iload_n (pc := 17) C d_S_sumOfValues_17 rfl (lv_at hl 2 rfl) ?_
        refine r_iald (pc := 18) (f := sg) (i := i) C w 0 1 rfl hT.1 (by omega) d_S_sumOfValues_18 ?_
        refine r_bipush (pc := 19) C d_S_sumOfValues_19 (by decide) ?_
        refine r_icmp_ne (pc := 21) (tgt := 28) C (by omega) d_S_sumOfValues_21 (by decide) (fun c_21 => ?_) (fun c_21 => ?_)
        · skip
          refine r_aload_n (pc := 28) C d_S_sumOfValues_28 rfl (lv_at hl 0 rfl) ?_
          refine r_get (pc := 29) (v := .ref a) C w i_S rfl 0 rfl 0 (by decide) fl_S_9 rfl rfl d_S_sumOfValues_29 ?_
          refine r_iload_n (pc := 32) C d_S_sumOfValues_32 rfl (lv_at hl 2 rfl) ?_
          refine r_iald (pc := 33) (f := sg) (i := i) C w 0 1 rfl hT.1 (by omega) d_S_sumOfValues_33 ?_
          refine r_aload_n (pc := 34) C d_S_sumOfValues_34 rfl (lv_at hl 0 rfl) ?_
          refine r_get (pc := 35) (v := .ref b) C w i_S rfl 0 rfl 1 (by decide) fl_S_15 rfl rfl d_S_sumOfValues_35 ?_
          refine r_iload_n (pc := 38) C d_S_sumOfValues_38 rfl (lv_at hl 2 rfl) ?_
          refine r_iald (pc := 39) (f := ln) (i := i) C w 0 2 rfl hT.1 (by omega) d_S_sumOfValues_39 ?_
          refine r_imul (pc := 40) C d_S_sumOfValues_40 ?_
          refine r_iadd (pc := 41) C d_S_sumOfValues_41 ?_
          refine r_istore_n (pc := 42) (lv' := [(1, .int (iI (sm + ((sg i) * (ln i))))), (0, .ref q), (2, .int (iI i))]) C d_S_sumOfValues_42 rfl hl (by decide) rfl (fun ls hl => ?_)
          refine r_iinc (pc := 43) (j := 2) (lv' := [(2, .int (iI (i + 1))), (1, .int (iI (sm + ((sg i) * (ln i))))), (0, .ref q)]) C d_S_sumOfValues_43 hl rfl (by decide) rfl (fun ls hl => ?_)
          refine r_goto (pc := 46) (tgt := 4) C d_S_sumOfValues_46 (by decide) ?_
          exact ih4 (i + 1) (sm + ((sg i) * (ln i))) (by omega) ((by rw [ps_succ _ (by omega), hs]; unfold smf; first | rw [if_pos (by omega)] | rw [if_neg (by omega)])) (by omega) _ _ _ w (lv_sub hl [2, 1, 0] rfl)
        · skip
          refine r_iconst (pc := 24) C d_S_sumOfValues_24 ?_
          refine r_goto (pc := 25) (tgt := 41) C d_S_sumOfValues_25 (by decide) ?_
          refine r_iadd (pc := 41) C d_S_sumOfValues_41 ?_
          refine r_istore_n (pc := 42) (lv' := [(1, .int (iI (sm + 0))), (0, .ref q), (2, .int (iI i))]) C d_S_sumOfValues_42 rfl hl (by decide) rfl (fun ls hl => ?_)
          refine r_iinc (pc := 43) (j := 2) (lv' := [(2, .int (iI (i + 1))), (1, .int (iI (sm + 0))), (0, .ref q)]) C d_S_sumOfValues_43 hl rfl (by decide) rfl (fun ls hl => ?_)
          refine r_goto (pc := 46) (tgt := 4) C d_S_sumOfValues_46 (by decide) ?_
          exact ih4 (i + 1) (sm + 0) (by omega) ((by rw [ps_succ _ (by omega), hs]; unfold smf; first | rw [if_pos (by omega)] | rw [if_neg (by omega)])) (by omega) _ _ _ w (lv_sub hl [2, 1, 0] rfl)
  exact L4 ((r - 0) + 1 : Int).toNat 0 0 (by first | omega | rfl) (by first | omega | rfl) (by omega) _ _ _ w (lv_sub hl [2, 1, 0] rfl)
theorem d_S_longestRun_0 : decode b_S_longestRun 0 = .ok (.iconst 0, 1) := by decide +kernel
theorem d_S_longestRun_1 : decode b_S_longestRun 1 = .ok (.istore_n 1, 1) := by decide +kernel
theorem d_S_longestRun_2 : decode b_S_longestRun 2 = .ok (.iconst 0, 1) := by decide +kernel
theorem d_S_longestRun_3 : decode b_S_longestRun 3 = .ok (.istore_n 2, 1) := by decide +kernel
theorem d_S_longestRun_4 : decode b_S_longestRun 4 = .ok (.iload_n 2, 1) := by decide +kernel
theorem d_S_longestRun_5 : decode b_S_longestRun 5 = .ok (.aload_n 0, 1) := by decide +kernel
theorem d_S_longestRun_6 : decode b_S_longestRun 6 = .ok (.getfield 18, 3) := by decide +kernel
theorem d_S_longestRun_9 : decode b_S_longestRun 9 = .ok (.if_icmp .ge 20, 3) := by decide +kernel
theorem d_S_longestRun_12 : decode b_S_longestRun 12 = .ok (.iload_n 1, 1) := by decide +kernel
theorem d_S_longestRun_13 : decode b_S_longestRun 13 = .ok (.aload_n 0, 1) := by decide +kernel
theorem d_S_longestRun_14 : decode b_S_longestRun 14 = .ok (.getfield 15, 3) := by decide +kernel
theorem d_S_longestRun_17 : decode b_S_longestRun 17 = .ok (.iload_n 2, 1) := by decide +kernel
theorem d_S_longestRun_18 : decode b_S_longestRun 18 = .ok (.iaload, 1) := by decide +kernel
theorem d_S_longestRun_19 : decode b_S_longestRun 19 = .ok (.invokestatic 61, 3) := by decide +kernel
theorem d_S_longestRun_22 : decode b_S_longestRun 22 = .ok (.istore_n 1, 1) := by decide +kernel
theorem d_S_longestRun_23 : decode b_S_longestRun 23 = .ok (.iinc 2 1, 3) := by decide +kernel
theorem d_S_longestRun_26 : decode b_S_longestRun 26 = .ok (.goto (-22), 3) := by decide +kernel
theorem d_S_longestRun_29 : decode b_S_longestRun 29 = .ok (.iload_n 1, 1) := by decide +kernel
theorem d_S_longestRun_30 : decode b_S_longestRun 30 = .ok (.ireturn, 1) := by decide +kernel
set_option maxHeartbeats 4000000 in
set_option maxRecDepth 20000 in
theorem c_S_longestRun {l : Launch} {G : va_G} {tys : List (ClassId × FieldType)} {cI cO cZ : ClassId} (hT : TY tys cI cO cZ) (q a b : Nat) (sg ln : Int → Int) (r pl ov lc sd : Int) (N : Int) (v : Int → Int) (hO : Ok r sg ln N v) (hr : r ≤ 50) (hN : N ≤ 3000)  : CTI l G tys y_S_longestRun b_S_longestRun 3 .int 1 19 [.ref q] (sw cI q a b sg ln r pl ov lc sd) (fun z u => u = sw cI q a b sg ln r pl ov lc sd ∧ (z = mx ln r)) := by
  refine mkI (by decide) (Nat.le_of_ble_eq_true rfl) ?_
  rintro X rfl rfl rfl hRm C kret H ls w hl
  have hl : lv_has ls 3 [(0, .ref q)] := hl
  have w : Wd X (sw cI q a b sg ln r pl ov lc sd) H [] := w
  generalize ([] : List Loc) = locs at w ⊢
  have hr0 := hO.1
  have hN0 := hO.n0
  have hps := ps_zero ln
  have hpr := hO.2.2.2.1
  refine r_iconst (pc := 0) C d_S_longestRun_0 ?_
  refine r_istore_n (pc := 1) (lv' := [(1, .int (iI 0)), (0, .ref q)]) C d_S_longestRun_1 rfl hl (by decide) rfl (fun ls hl => ?_)
  refine r_iconst (pc := 2) C d_S_longestRun_2 ?_
  refine r_istore_n (pc := 3) (lv' := [(2, .int (iI 0)), (1, .int (iI 0)), (0, .ref q)]) C d_S_longestRun_3 rfl hl (by decide) rfl (fun ls hl => ?_)
  have L4 : ∀ (fuel : Nat), ∀ (i : Int) (m : Int), 0 ≤ i ∧ i ≤ r → m = mx ln i → 0 ≤ m ∧ m ≤ 3000 → (r - i) < (fuel : Int) → ∀ (H : Heap) (locs : List Loc) (ls : Array Slot), Wd X (sw cI q a b sg ln r pl ov lc sd) H locs → lv_has ls 3 [(0, .ref q), (1, .int (iI m)), (2, .int (iI i))] → GG X 0 0 H locs 4 ls [] := by
    intro fuel
    induction fuel with
    | zero =>
      intro i m h0 hs hm hfuel
      exact absurd hfuel (by omega)
    | succ fuel ih4 =>
      intro i m h0 hs hm hfuel H locs ls w hl
      refine r_iload_n (pc := 4) C d_S_longestRun_4 rfl (lv_at hl 2 rfl) ?_
      refine r_aload_n (pc := 5) C d_S_longestRun_5 rfl (lv_at hl 0 rfl) ?_
      refine r_get (pc := 6) (v := .int (iI r)) C w i_S rfl 0 rfl 2 (by decide) fl_S_18 rfl rfl d_S_longestRun_6 ?_
      refine r_icmp_ge (pc := 9) (tgt := 29) C (by omega) d_S_longestRun_9 (by decide) (fun c_9 => ?_) (fun c_9 => ?_)
      · skip
        refine r_iload_n (pc := 29) C d_S_longestRun_29 rfl (lv_at hl 1 rfl) ?_
        exact kret _ _ _ _ m _ d_S_longestRun_30 w (⟨rfl, by rw [hs, show i = r by omega]⟩)
      · skip
        have hk2 := hO.run (k := i) (by omega) (by omega)
        refine r_iload_n (pc := 12) C d_S_longestRun_12 rfl (lv_at hl 1 rfl) ?_
        refine r_aload_n (pc := 13) C d_S_longestRun_13 rfl (lv_at hl 0 rfl) ?_
        refine r_get (pc := 14) (v := .ref b) C w i_S rfl 0 rfl 1 (by decide) fl_S_15 rfl rfl d_S_longestRun_14 ?_
        refine r_iload_n (pc := 17) C d_S_longestRun_17 rfl (lv_at hl 2 rfl) ?_
        refine r_iald (pc := 18) (f := ln) (i := i) C w 0 2 rfl hT.1 (by omega) d_S_longestRun_18 ?_
        refine r_max (pc := 19) C ml_S_61 (by omega) (by rw [hRm]; exact ⟨⟨Nat.le_of_ble_eq_true rfl, Nat.le_of_ble_eq_true rfl⟩, Nat.le_of_ble_eq_true rfl, Nat.le_of_ble_eq_true rfl⟩) hl.1 d_S_longestRun_19 ?_
        refine r_istore_n (pc := 22) (lv' := [(1, .int (iI (max m (ln i)))), (0, .ref q), (2, .int (iI i))]) C d_S_longestRun_22 rfl hl (by decide) rfl (fun ls hl => ?_)
        refine r_iinc (pc := 23) (j := 2) (lv' := [(2, .int (iI (i + 1))), (1, .int (iI (max m (ln i)))), (0, .ref q)]) C d_S_longestRun_23 hl rfl (by decide) rfl (fun ls hl => ?_)
        refine r_goto (pc := 26) (tgt := 4) C d_S_longestRun_26 (by decide) ?_
        exact ih4 (i + 1) (max m (ln i)) (by omega) ((by rw [mx_succ _ (by omega), hs])) (by omega) (by omega) _ _ _ w (lv_sub hl [2, 1, 0] rfl)
  exact L4 ((r - 0) + 1 : Int).toNat 0 0 (by first | omega | rfl) (by first | omega | rfl) (by first | omega | rfl) (by omega) _ _ _ w (lv_sub hl [2, 1, 0] rfl)
theorem d_S_allBits_0 : decode b_S_allBits 0 = .ok (.iconst 0, 1) := by decide +kernel
theorem d_S_allBits_1 : decode b_S_allBits 1 = .ok (.istore_n 2, 1) := by decide +kernel
theorem d_S_allBits_2 : decode b_S_allBits 2 = .ok (.iconst 0, 1) := by decide +kernel
theorem d_S_allBits_3 : decode b_S_allBits 3 = .ok (.istore_n 3, 1) := by decide +kernel
theorem d_S_allBits_4 : decode b_S_allBits 4 = .ok (.iload_n 3, 1) := by decide +kernel
theorem d_S_allBits_5 : decode b_S_allBits 5 = .ok (.aload_n 0, 1) := by decide +kernel
theorem d_S_allBits_6 : decode b_S_allBits 6 = .ok (.getfield 18, 3) := by decide +kernel
theorem d_S_allBits_9 : decode b_S_allBits 9 = .ok (.if_icmp .ge 28, 3) := by decide +kernel
theorem d_S_allBits_12 : decode b_S_allBits 12 = .ok (.iload_n 2, 1) := by decide +kernel
theorem d_S_allBits_13 : decode b_S_allBits 13 = .ok (.iload_n 1, 1) := by decide +kernel
theorem d_S_allBits_14 : decode b_S_allBits 14 = .ok (.aload_n 0, 1) := by decide +kernel
theorem d_S_allBits_15 : decode b_S_allBits 15 = .ok (.getfield 9, 3) := by decide +kernel
theorem d_S_allBits_18 : decode b_S_allBits 18 = .ok (.iload_n 3, 1) := by decide +kernel
theorem d_S_allBits_19 : decode b_S_allBits 19 = .ok (.iaload, 1) := by decide +kernel
theorem d_S_allBits_20 : decode b_S_allBits 20 = .ok (.aload_n 0, 1) := by decide +kernel
theorem d_S_allBits_21 : decode b_S_allBits 21 = .ok (.getfield 15, 3) := by decide +kernel
theorem d_S_allBits_24 : decode b_S_allBits 24 = .ok (.iload_n 3, 1) := by decide +kernel
theorem d_S_allBits_25 : decode b_S_allBits 25 = .ok (.iaload, 1) := by decide +kernel
theorem d_S_allBits_26 : decode b_S_allBits 26 = .ok (.invokestatic 64, 3) := by decide +kernel
theorem d_S_allBits_29 : decode b_S_allBits 29 = .ok (.iadd, 1) := by decide +kernel
theorem d_S_allBits_30 : decode b_S_allBits 30 = .ok (.istore_n 2, 1) := by decide +kernel
theorem d_S_allBits_31 : decode b_S_allBits 31 = .ok (.iinc 3 1, 3) := by decide +kernel
theorem d_S_allBits_34 : decode b_S_allBits 34 = .ok (.goto (-30), 3) := by decide +kernel
theorem d_S_allBits_37 : decode b_S_allBits 37 = .ok (.iload_n 2, 1) := by decide +kernel
theorem d_S_allBits_38 : decode b_S_allBits 38 = .ok (.ireturn, 1) := by decide +kernel
set_option maxHeartbeats 4000000 in
set_option maxRecDepth 20000 in
theorem c_S_allBits {l : Launch} {G : va_G} {tys : List (ClassId × FieldType)} {cI cO cZ : ClassId} (hT : TY tys cI cO cZ) (q a b : Nat) (sg ln : Int → Int) (r pl ov lc sd : Int) (N : Int) (v : Int → Int) (hO : Ok r sg ln N v) (hr : r ≤ 50) (hN : N ≤ 3000) (code : Int) (hc : 0 ≤ code ∧ code ≤ 2) : CTI l G tys y_S_allBits b_S_allBits 4 .int 3 67 [.ref q, .int (iI code)] (sw cI q a b sg ln r pl ov lc sd) (fun z u => u = sw cI q a b sg ln r pl ov lc sd ∧ (z = ps (rbf code sg ln) r)) := by
  refine mkI (by decide) (Nat.le_of_ble_eq_true rfl) ?_
  rintro X rfl rfl rfl hRm C kret H ls w hl
  have hl : lv_has ls 4 [(0, .ref q), (1, .int (iI code))] := hl
  have w : Wd X (sw cI q a b sg ln r pl ov lc sd) H [] := w
  generalize ([] : List Loc) = locs at w ⊢
  have hr0 := hO.1
  have hN0 := hO.n0
  have hps := ps_zero ln
  have hpr := hO.2.2.2.1
  refine r_iconst (pc := 0) C d_S_allBits_0 ?_
  refine r_istore_n (pc := 1) (lv' := [(2, .int (iI 0)), (0, .ref q), (1, .int (iI code))]) C d_S_allBits_1 rfl hl (by decide) rfl (fun ls hl => ?_)
  refine r_iconst (pc := 2) C d_S_allBits_2 ?_
  refine r_istore_n (pc := 3) (lv' := [(3, .int (iI 0)), (2, .int (iI 0)), (0, .ref q), (1, .int (iI code))]) C d_S_allBits_3 rfl hl (by decide) rfl (fun ls hl => ?_)
  have L4 : ∀ (fuel : Nat), ∀ (i : Int) (bt : Int), 0 ≤ i ∧ i ≤ r → bt = ps (rbf code sg ln) i → (r - i) < (fuel : Int) → ∀ (H : Heap) (locs : List Loc) (ls : Array Slot), Wd X (sw cI q a b sg ln r pl ov lc sd) H locs → lv_has ls 4 [(0, .ref q), (1, .int (iI code)), (2, .int (iI bt)), (3, .int (iI i))] → GG X 0 0 H locs 4 ls [] := by
    intro fuel
    induction fuel with
    | zero =>
      intro i bt h0 hs hfuel
      exact absurd hfuel (by omega)
    | succ fuel ih4 =>
      intro i bt h0 hs hfuel H locs ls w hl
      refine r_iload_n (pc := 4) C d_S_allBits_4 rfl (lv_at hl 3 rfl) ?_
      refine r_aload_n (pc := 5) C d_S_allBits_5 rfl (lv_at hl 0 rfl) ?_
      refine r_get (pc := 6) (v := .int (iI r)) C w i_S rfl 0 rfl 2 (by decide) fl_S_18 rfl rfl d_S_allBits_6 ?_
      refine r_icmp_ge (pc := 9) (tgt := 37) C (by omega) d_S_allBits_9 (by decide) (fun c_9 => ?_) (fun c_9 => ?_)
      · skip
        refine r_iload_n (pc := 37) C d_S_allBits_37 rfl (lv_at hl 2 rfl) ?_
        exact kret _ _ _ _ bt _ d_S_allBits_38 w (⟨rfl, by rw [hs, show i = r by omega]⟩)
      · skip
        have hk2 := hO.run (k := i) (by omega) (by omega)
        refine r_iload_n (pc := 12) C d_S_allBits_12 rfl (lv_at hl 2 rfl) ?_
        refine r_iload_n (pc := 13) C d_S_allBits_13 rfl (lv_at hl 1 rfl) ?_
        refine r_aload_n (pc := 14) C d_S_allBits_14 rfl (lv_at hl 0 rfl) ?_
        refine r_get (pc := 15) (v := .ref a) C w i_S rfl 0 rfl 0 (by decide) fl_S_9 rfl rfl d_S_allBits_15 ?_
        refine r_iload_n (pc := 18) C d_S_allBits_18 rfl (lv_at hl 3 rfl) ?_
        refine r_iald (pc := 19) (f := sg) (i := i) C w 0 1 rfl hT.1 (by omega) d_S_allBits_19 ?_
        refine r_aload_n (pc := 20) C d_S_allBits_20 rfl (lv_at hl 0 rfl) ?_
        refine r_get (pc := 21) (v := .ref b) C w i_S rfl 0 rfl 1 (by decide) fl_S_15 rfl rfl d_S_allBits_21 ?_
        refine r_iload_n (pc := 24) C d_S_allBits_24 rfl (lv_at hl 3 rfl) ?_
        refine r_iald (pc := 25) (f := ln) (i := i) C w 0 2 rfl hT.1 (by omega) d_S_allBits_25 ?_
        refine r_callP (pc := 26) (As := [.int (iI code), .int (iI (sg i)), .int (iI (ln i))]) (rest := [.int (iI bt)]) C w (c_C_bitsOfRun code (sg i) (ln i) (by omega) (by omega) (by omega)) ml_S_64 st_C_bitsOfRun ini_C cd_C_bitsOfRun hd_C_bitsOfRun rfl (by rw [hRm]; exact ⟨⟨Nat.le_of_ble_eq_true rfl, Nat.le_of_ble_eq_true rfl⟩, Nat.le_of_ble_eq_true rfl, Nat.le_of_ble_eq_true rfl⟩) hl.1 rfl (Nat.le_of_ble_eq_true rfl) d_S_allBits_26 (fun z_26 H locs hz_26 w => ?_)
        subst hz_26
        have hrb := rb_rg (code := code) (s := (sg i)) (n := (ln i)) (by omega)
        refine r_iadd (pc := 29) C d_S_allBits_29 ?_
        refine r_istore_n (pc := 30) (lv' := [(2, .int (iI (bt + (rb code (sg i) (ln i))))), (0, .ref q), (1, .int (iI code)), (3, .int (iI i))]) C d_S_allBits_30 rfl hl (by decide) rfl (fun ls hl => ?_)
        refine r_iinc (pc := 31) (j := 3) (lv' := [(3, .int (iI (i + 1))), (2, .int (iI (bt + (rb code (sg i) (ln i))))), (0, .ref q), (1, .int (iI code))]) C d_S_allBits_31 hl rfl (by decide) rfl (fun ls hl => ?_)
        refine r_goto (pc := 34) (tgt := 4) C d_S_allBits_34 (by decide) ?_
        exact ih4 (i + 1) (bt + (rb code (sg i) (ln i))) (by omega) ((by rw [ps_succ _ (by omega), hs]; rfl)) (by omega) _ _ _ w (lv_sub hl [2, 3, 1, 0] rfl)
  exact L4 ((r - 0) + 1 : Int).toNat 0 0 (by first | omega | rfl) (by first | omega | rfl) (by omega) _ _ _ w (lv_sub hl [2, 3, 1, 0] rfl)
theorem d_S_bitAt_0 : decode b_S_bitAt 0 = .ok (.iload_n 1, 1) := by decide +kernel
theorem d_S_bitAt_1 : decode b_S_bitAt 1 = .ok (.istore_n 2, 1) := by decide +kernel
theorem d_S_bitAt_2 : decode b_S_bitAt 2 = .ok (.iconst 0, 1) := by decide +kernel
theorem d_S_bitAt_3 : decode b_S_bitAt 3 = .ok (.istore_n 3, 1) := by decide +kernel
theorem d_S_bitAt_4 : decode b_S_bitAt 4 = .ok (.iload_n 3, 1) := by decide +kernel
theorem d_S_bitAt_5 : decode b_S_bitAt 5 = .ok (.aload_n 0, 1) := by decide +kernel
theorem d_S_bitAt_6 : decode b_S_bitAt 6 = .ok (.getfield 18, 3) := by decide +kernel
theorem d_S_bitAt_9 : decode b_S_bitAt 9 = .ok (.if_icmp .ge 66, 3) := by decide +kernel
theorem d_S_bitAt_12 : decode b_S_bitAt 12 = .ok (.iload_n 2, 1) := by decide +kernel
theorem d_S_bitAt_13 : decode b_S_bitAt 13 = .ok (.ifCond .lt 62, 3) := by decide +kernel
theorem d_S_bitAt_16 : decode b_S_bitAt 16 = .ok (.aload_n 0, 1) := by decide +kernel
theorem d_S_bitAt_17 : decode b_S_bitAt 17 = .ok (.getfield 29, 3) := by decide +kernel
theorem d_S_bitAt_20 : decode b_S_bitAt 20 = .ok (.aload_n 0, 1) := by decide +kernel
theorem d_S_bitAt_21 : decode b_S_bitAt 21 = .ok (.getfield 9, 3) := by decide +kernel
theorem d_S_bitAt_24 : decode b_S_bitAt 24 = .ok (.iload_n 3, 1) := by decide +kernel
theorem d_S_bitAt_25 : decode b_S_bitAt 25 = .ok (.iaload, 1) := by decide +kernel
theorem d_S_bitAt_26 : decode b_S_bitAt 26 = .ok (.aload_n 0, 1) := by decide +kernel
theorem d_S_bitAt_27 : decode b_S_bitAt 27 = .ok (.getfield 15, 3) := by decide +kernel
theorem d_S_bitAt_30 : decode b_S_bitAt 30 = .ok (.iload_n 3, 1) := by decide +kernel
theorem d_S_bitAt_31 : decode b_S_bitAt 31 = .ok (.iaload, 1) := by decide +kernel
theorem d_S_bitAt_32 : decode b_S_bitAt 32 = .ok (.invokestatic 64, 3) := by decide +kernel
theorem d_S_bitAt_35 : decode b_S_bitAt 35 = .ok (.istore 4, 2) := by decide +kernel
theorem d_S_bitAt_37 : decode b_S_bitAt 37 = .ok (.iload_n 2, 1) := by decide +kernel
theorem d_S_bitAt_38 : decode b_S_bitAt 38 = .ok (.iload 4, 2) := by decide +kernel
theorem d_S_bitAt_40 : decode b_S_bitAt 40 = .ok (.if_icmp .ge 24, 3) := by decide +kernel
theorem d_S_bitAt_43 : decode b_S_bitAt 43 = .ok (.aload_n 0, 1) := by decide +kernel
theorem d_S_bitAt_44 : decode b_S_bitAt 44 = .ok (.getfield 29, 3) := by decide +kernel
theorem d_S_bitAt_47 : decode b_S_bitAt 47 = .ok (.aload_n 0, 1) := by decide +kernel
theorem d_S_bitAt_48 : decode b_S_bitAt 48 = .ok (.getfield 9, 3) := by decide +kernel
theorem d_S_bitAt_51 : decode b_S_bitAt 51 = .ok (.iload_n 3, 1) := by decide +kernel
theorem d_S_bitAt_52 : decode b_S_bitAt 52 = .ok (.iaload, 1) := by decide +kernel
theorem d_S_bitAt_53 : decode b_S_bitAt 53 = .ok (.aload_n 0, 1) := by decide +kernel
theorem d_S_bitAt_54 : decode b_S_bitAt 54 = .ok (.getfield 15, 3) := by decide +kernel
theorem d_S_bitAt_57 : decode b_S_bitAt 57 = .ok (.iload_n 3, 1) := by decide +kernel
theorem d_S_bitAt_58 : decode b_S_bitAt 58 = .ok (.iaload, 1) := by decide +kernel
theorem d_S_bitAt_59 : decode b_S_bitAt 59 = .ok (.iload_n 2, 1) := by decide +kernel
theorem d_S_bitAt_60 : decode b_S_bitAt 60 = .ok (.invokestatic 69, 3) := by decide +kernel
theorem d_S_bitAt_63 : decode b_S_bitAt 63 = .ok (.ireturn, 1) := by decide +kernel
theorem d_S_bitAt_64 : decode b_S_bitAt 64 = .ok (.iload_n 2, 1) := by decide +kernel
theorem d_S_bitAt_65 : decode b_S_bitAt 65 = .ok (.iload 4, 2) := by decide +kernel
theorem d_S_bitAt_67 : decode b_S_bitAt 67 = .ok (.isub, 1) := by decide +kernel
theorem d_S_bitAt_68 : decode b_S_bitAt 68 = .ok (.istore_n 2, 1) := by decide +kernel
theorem d_S_bitAt_69 : decode b_S_bitAt 69 = .ok (.iinc 3 1, 3) := by decide +kernel
theorem d_S_bitAt_72 : decode b_S_bitAt 72 = .ok (.goto (-68), 3) := by decide +kernel
theorem d_S_bitAt_75 : decode b_S_bitAt 75 = .ok (.iconst (-1), 1) := by decide +kernel
theorem d_S_bitAt_76 : decode b_S_bitAt 76 = .ok (.ireturn, 1) := by decide +kernel
set_option maxHeartbeats 4000000 in
set_option maxRecDepth 20000 in
theorem c_S_bitAt {l : Launch} {G : va_G} {tys : List (ClassId × FieldType)} {cI cO cZ : ClassId} (hT : TY tys cI cO cZ) (q a b : Nat) (sg ln : Int → Int) (r pl ov lc sd : Int) (N : Int) (v : Int → Int) (hO : Ok r sg ln N v) (hr : r ≤ 50) (hN : N ≤ 3000) (x : Int) (hx : (-2147483648 ≤ x ∧ x < 2147483648)) (hc : 0 ≤ lc ∧ lc ≤ 2) : CTI l G tys y_S_bitAt b_S_bitAt 5 .int 3 71 [.ref q, .int (iI x)] (sw cI q a b sg ln r pl ov lc sd) (fun z u => u = sw cI q a b sg ln r pl ov lc sd ∧ (BitAt lc r sg ln x z)) := by
  refine mkI (by decide) (Nat.le_of_ble_eq_true rfl) ?_
  rintro X rfl rfl rfl hRm C kret H ls w hl
  have hl : lv_has ls 5 [(0, .ref q), (1, .int (iI x))] := hl
  have w : Wd X (sw cI q a b sg ln r pl ov lc sd) H [] := w
  generalize ([] : List Loc) = locs at w ⊢
  have hr0 := hO.1
  have hN0 := hO.n0
  have hps := ps_zero ln
  have hpr := hO.2.2.2.1
  refine r_iload_n (pc := 0) C d_S_bitAt_0 rfl (lv_at hl 1 rfl) ?_
  refine r_istore_n (pc := 1) (lv' := [(2, .int (iI x)), (0, .ref q), (1, .int (iI x))]) C d_S_bitAt_1 rfl hl (by decide) rfl (fun ls hl => ?_)
  refine r_iconst (pc := 2) C d_S_bitAt_2 ?_
  refine r_istore_n (pc := 3) (lv' := [(3, .int (iI 0)), (2, .int (iI x)), (0, .ref q), (1, .int (iI x))]) C d_S_bitAt_3 rfl hl (by decide) rfl (fun ls hl => ?_)
  have L4 : ∀ (fuel : Nat), ∀ (i : Int) (rest : Int), 0 ≤ i ∧ i ≤ r → rest = x - ps (rbf lc sg ln) i ∧ (0 ≤ rest ∨ i = 0) → (r - i) < (fuel : Int) → ∀ (H : Heap) (locs : List Loc) (ls : Array Slot), Wd X (sw cI q a b sg ln r pl ov lc sd) H locs → lv_has ls 5 [(0, .ref q), (1, .int (iI x)), (2, .int (iI rest)), (3, .int (iI i))] → GG X 0 0 H locs 4 ls [] := by
    intro fuel
    induction fuel with
    | zero =>
      intro i rest h0 hs hfuel
      exact absurd hfuel (by omega)
    | succ fuel ih4 =>
      intro i rest h0 hs hfuel H locs ls w hl
      have hi0 : i = 0 → ps (rbf lc sg ln) i = 0 := fun q => by rw [q, ps_zero]
      have hab := allBits_rg (code := lc) hO hN (k := i) (by omega) (by omega)
      have habr := allBits_rg (code := lc) hO hN (k := r) (by omega) (by omega)
      refine r_iload_n (pc := 4) C d_S_bitAt_4 rfl (lv_at hl 3 rfl) ?_
      refine r_aload_n (pc := 5) C d_S_bitAt_5 rfl (lv_at hl 0 rfl) ?_
      refine r_get (pc := 6) (v := .int (iI r)) C w i_S rfl 0 rfl 2 (by decide) fl_S_18 rfl rfl d_S_bitAt_6 ?_
      refine r_icmp_ge (pc := 9) (tgt := 75) C (by omega) d_S_bitAt_9 (by decide) (fun c_9 => ?_) (fun c_9 => ?_)
      · skip
        have hir : i = r := by omega
        rw [hir] at hs hi0
        refine r_iconst (pc := 75) C d_S_bitAt_75 ?_
        exact kret _ _ _ _ (-1) _ d_S_bitAt_76 w (⟨rfl, Or.inl ⟨by omega, rfl⟩⟩)
      · skip
        refine r_iload_n (pc := 12) C d_S_bitAt_12 rfl (lv_at hl 2 rfl) ?_
        refine r_if_lt (pc := 13) (tgt := 75) C (by omega) d_S_bitAt_13 (by decide) (fun c_13 => ?_) (fun c_13 => ?_)
        · skip
          refine r_iconst (pc := 75) C d_S_bitAt_75 ?_
          exact kret _ _ _ _ (-1) _ d_S_bitAt_76 w (⟨rfl, Or.inl ⟨by omega, rfl⟩⟩)
        · skip
          have hk2 := hO.run (k := i) (by omega) (by omega)
          have hbs : ps (rbf lc sg ln) (i + 1) = ps (rbf lc sg ln) i + rb lc (sg i) (ln i) := ps_succ _ (by omega)
          refine r_aload_n (pc := 16) C d_S_bitAt_16 rfl (lv_at hl 0 rfl) ?_
          refine r_get (pc := 17) (v := .int (iI lc)) C w i_S rfl 0 rfl 5 (by decide) fl_S_29 rfl rfl d_S_bitAt_17 ?_
          refine r_aload_n (pc := 20) C d_S_bitAt_20 rfl (lv_at hl 0 rfl) ?_
          refine r_get (pc := 21) (v := .ref a) C w i_S rfl 0 rfl 0 (by decide) fl_S_9 rfl rfl d_S_bitAt_21 ?_
          refine r_iload_n (pc := 24) C d_S_bitAt_24 rfl (lv_at hl 3 rfl) ?_
          refine r_iald (pc := 25) (f := sg) (i := i) C w 0 1 rfl hT.1 (by omega) d_S_bitAt_25 ?_
          refine r_aload_n (pc := 26) C d_S_bitAt_26 rfl (lv_at hl 0 rfl) ?_
          refine r_get (pc := 27) (v := .ref b) C w i_S rfl 0 rfl 1 (by decide) fl_S_15 rfl rfl d_S_bitAt_27 ?_
          refine r_iload_n (pc := 30) C d_S_bitAt_30 rfl (lv_at hl 3 rfl) ?_
          refine r_iald (pc := 31) (f := ln) (i := i) C w 0 2 rfl hT.1 (by omega) d_S_bitAt_31 ?_
          refine r_callP (pc := 32) (As := [.int (iI lc), .int (iI (sg i)), .int (iI (ln i))]) (rest := []) C w (c_C_bitsOfRun lc (sg i) (ln i) (by omega) (by omega) (by omega)) ml_S_64 st_C_bitsOfRun ini_C cd_C_bitsOfRun hd_C_bitsOfRun rfl (by rw [hRm]; exact ⟨⟨Nat.le_of_ble_eq_true rfl, Nat.le_of_ble_eq_true rfl⟩, Nat.le_of_ble_eq_true rfl, Nat.le_of_ble_eq_true rfl⟩) hl.1 rfl (Nat.le_of_ble_eq_true rfl) d_S_bitAt_32 (fun z_32 H locs hz_32 w => ?_)
          subst hz_32
          have hrb := rb_rg (code := lc) (s := (sg i)) (n := (ln i)) (by omega)
          refine r_istore (pc := 35) (lv' := [(4, .int (iI (rb lc (sg i) (ln i)))), (0, .ref q), (1, .int (iI x)), (2, .int (iI rest)), (3, .int (iI i))]) C d_S_bitAt_35 hl (by decide) rfl (fun ls hl => ?_)
          refine r_iload_n (pc := 37) C d_S_bitAt_37 rfl (lv_at hl 3 rfl) ?_
          refine r_iload (pc := 38) C d_S_bitAt_38 (lv_at hl 0 rfl) ?_
          refine r_icmp_ge (pc := 40) (tgt := 64) C (by omega) d_S_bitAt_40 (by decide) (fun c_40 => ?_) (fun c_40 => ?_)
          · skip
            refine r_iload_n (pc := 64) C d_S_bitAt_64 rfl (lv_at hl 3 rfl) ?_
            refine r_iload (pc := 65) C d_S_bitAt_65 (lv_at hl 0 rfl) ?_
            refine r_isub (pc := 67) C d_S_bitAt_67 ?_
            refine r_istore_n (pc := 68) (lv' := [(2, .int (iI (rest - (rb lc (sg i) (ln i))))), (4, .int (iI (rb lc (sg i) (ln i)))), (0, .ref q), (1, .int (iI x)), (3, .int (iI i))]) C d_S_bitAt_68 rfl hl (by decide) rfl (fun ls hl => ?_)
            refine r_iinc (pc := 69) (j := 4) (lv' := [(3, .int (iI (i + 1))), (2, .int (iI (rest - (rb lc (sg i) (ln i))))), (4, .int (iI (rb lc (sg i) (ln i)))), (0, .ref q), (1, .int (iI x))]) C d_S_bitAt_69 hl rfl (by decide) rfl (fun ls hl => ?_)
            refine r_goto (pc := 72) (tgt := 4) C d_S_bitAt_72 (by decide) ?_
            exact ih4 (i + 1) (rest - (rb lc (sg i) (ln i))) (by omega) (by omega) (by omega) _ _ _ w (lv_sub hl [3, 4, 1, 0] rfl)
          · skip
            refine r_aload_n (pc := 43) C d_S_bitAt_43 rfl (lv_at hl 1 rfl) ?_
            refine r_get (pc := 44) (v := .int (iI lc)) C w i_S rfl 0 rfl 5 (by decide) fl_S_29 rfl rfl d_S_bitAt_44 ?_
            refine r_aload_n (pc := 47) C d_S_bitAt_47 rfl (lv_at hl 1 rfl) ?_
            refine r_get (pc := 48) (v := .ref a) C w i_S rfl 0 rfl 0 (by decide) fl_S_9 rfl rfl d_S_bitAt_48 ?_
            refine r_iload_n (pc := 51) C d_S_bitAt_51 rfl (lv_at hl 4 rfl) ?_
            refine r_iald (pc := 52) (f := sg) (i := i) C w 0 1 rfl hT.1 (by omega) d_S_bitAt_52 ?_
            refine r_aload_n (pc := 53) C d_S_bitAt_53 rfl (lv_at hl 1 rfl) ?_
            refine r_get (pc := 54) (v := .ref b) C w i_S rfl 0 rfl 1 (by decide) fl_S_15 rfl rfl d_S_bitAt_54 ?_
            refine r_iload_n (pc := 57) C d_S_bitAt_57 rfl (lv_at hl 4 rfl) ?_
            refine r_iald (pc := 58) (f := ln) (i := i) C w 0 2 rfl hT.1 (by omega) d_S_bitAt_58 ?_
            refine r_iload_n (pc := 59) C d_S_bitAt_59 rfl (lv_at hl 3 rfl) ?_
            refine r_callP (pc := 60) (As := [.int (iI lc), .int (iI (sg i)), .int (iI (ln i)), .int (iI rest)]) (rest := []) C w (c_C_bitOfRun lc (sg i) (ln i) rest (by omega) (by omega) (by omega) (by omega)) ml_S_69 st_C_bitOfRun ini_C cd_C_bitOfRun hd_C_bitOfRun rfl (by rw [hRm]; exact ⟨⟨Nat.le_of_ble_eq_true rfl, Nat.le_of_ble_eq_true rfl⟩, Nat.le_of_ble_eq_true rfl, Nat.le_of_ble_eq_true rfl⟩) hl.1 rfl (Nat.le_of_ble_eq_true rfl) d_S_bitAt_60 (fun z_60 H locs hz_60 w => ?_)
            subst hz_60
            exact kret _ _ _ _ (brun lc (sg i) (ln i) rest) _ d_S_bitAt_63 w (⟨rfl, Or.inr ⟨i, by omega, by omega, by omega, by omega, by rw [show x - ps (rbf lc sg ln) i = rest by omega]⟩⟩)
  exact L4 ((r - 0) + 1 : Int).toNat 0 x (by first | omega | rfl) ((by rw [ps_zero]; omega)) (by omega) _ _ _ w (lv_sub hl [2, 3, 1, 0] rfl)
theorem d_S_allCharacters_0 : decode b_S_allCharacters 0 = .ok (.iconst 0, 1) := by decide +kernel
theorem d_S_allCharacters_1 : decode b_S_allCharacters 1 = .ok (.aload_n 0, 1) := by decide +kernel
theorem d_S_allCharacters_2 : decode b_S_allCharacters 2 = .ok (.getfield 18, 3) := by decide +kernel
theorem d_S_allCharacters_5 : decode b_S_allCharacters 5 = .ok (.iconst 1, 1) := by decide +kernel
theorem d_S_allCharacters_6 : decode b_S_allCharacters 6 = .ok (.isub, 1) := by decide +kernel
theorem d_S_allCharacters_7 : decode b_S_allCharacters 7 = .ok (.invokestatic 61, 3) := by decide +kernel
theorem d_S_allCharacters_10 : decode b_S_allCharacters 10 = .ok (.istore_n 1, 1) := by decide +kernel
theorem d_S_allCharacters_11 : decode b_S_allCharacters 11 = .ok (.iconst 0, 1) := by decide +kernel
theorem d_S_allCharacters_12 : decode b_S_allCharacters 12 = .ok (.istore_n 2, 1) := by decide +kernel
theorem d_S_allCharacters_13 : decode b_S_allCharacters 13 = .ok (.iload_n 2, 1) := by decide +kernel
theorem d_S_allCharacters_14 : decode b_S_allCharacters 14 = .ok (.aload_n 0, 1) := by decide +kernel
theorem d_S_allCharacters_15 : decode b_S_allCharacters 15 = .ok (.getfield 18, 3) := by decide +kernel
theorem d_S_allCharacters_18 : decode b_S_allCharacters 18 = .ok (.if_icmp .ge 21, 3) := by decide +kernel
theorem d_S_allCharacters_21 : decode b_S_allCharacters 21 = .ok (.iload_n 1, 1) := by decide +kernel
theorem d_S_allCharacters_22 : decode b_S_allCharacters 22 = .ok (.aload_n 0, 1) := by decide +kernel
theorem d_S_allCharacters_23 : decode b_S_allCharacters 23 = .ok (.getfield 15, 3) := by decide +kernel
theorem d_S_allCharacters_26 : decode b_S_allCharacters 26 = .ok (.iload_n 2, 1) := by decide +kernel
theorem d_S_allCharacters_27 : decode b_S_allCharacters 27 = .ok (.iaload, 1) := by decide +kernel
theorem d_S_allCharacters_28 : decode b_S_allCharacters 28 = .ok (.invokestatic 72, 3) := by decide +kernel
theorem d_S_allCharacters_31 : decode b_S_allCharacters 31 = .ok (.iadd, 1) := by decide +kernel
theorem d_S_allCharacters_32 : decode b_S_allCharacters 32 = .ok (.istore_n 1, 1) := by decide +kernel
theorem d_S_allCharacters_33 : decode b_S_allCharacters 33 = .ok (.iinc 2 1, 3) := by decide +kernel
theorem d_S_allCharacters_36 : decode b_S_allCharacters 36 = .ok (.goto (-23), 3) := by decide +kernel
theorem d_S_allCharacters_39 : decode b_S_allCharacters 39 = .ok (.iload_n 1, 1) := by decide +kernel
theorem d_S_allCharacters_40 : decode b_S_allCharacters 40 = .ok (.ireturn, 1) := by decide +kernel
set_option maxHeartbeats 4000000 in
set_option maxRecDepth 20000 in
theorem c_S_allCharacters {l : Launch} {G : va_G} {tys : List (ClassId × FieldType)} {cI cO cZ : ClassId} (hT : TY tys cI cO cZ) (q a b : Nat) (sg ln : Int → Int) (r pl ov lc sd : Int) (N : Int) (v : Int → Int) (hO : Ok r sg ln N v) (hr : r ≤ 50) (hN : N ≤ 3000)  : CTI l G tys y_S_allCharacters b_S_allCharacters 3 .int 2 43 [.ref q] (sw cI q a b sg ln r pl ov lc sd) (fun z u => u = sw cI q a b sg ln r pl ov lc sd ∧ (z = max 0 (r - 1) + ps (crf ln) r)) := by
  refine mkI (by decide) (Nat.le_of_ble_eq_true rfl) ?_
  rintro X rfl rfl rfl hRm C kret H ls w hl
  have hl : lv_has ls 3 [(0, .ref q)] := hl
  have w : Wd X (sw cI q a b sg ln r pl ov lc sd) H [] := w
  generalize ([] : List Loc) = locs at w ⊢
  have hr0 := hO.1
  have hN0 := hO.n0
  have hps := ps_zero ln
  have hpr := hO.2.2.2.1
  refine r_iconst (pc := 0) C d_S_allCharacters_0 ?_
  refine r_aload_n (pc := 1) C d_S_allCharacters_1 rfl (lv_at hl 0 rfl) ?_
  refine r_get (pc := 2) (v := .int (iI r)) C w i_S rfl 0 rfl 2 (by decide) fl_S_18 rfl rfl d_S_allCharacters_2 ?_
  refine r_iconst (pc := 5) C d_S_allCharacters_5 ?_
  refine r_isub (pc := 6) C d_S_allCharacters_6 ?_
  refine r_max (pc := 7) C ml_S_61 (by omega) (by rw [hRm]; exact ⟨⟨Nat.le_of_ble_eq_true rfl, Nat.le_of_ble_eq_true rfl⟩, Nat.le_of_ble_eq_true rfl, Nat.le_of_ble_eq_true rfl⟩) hl.1 d_S_allCharacters_7 ?_
  refine r_istore_n (pc := 10) (lv' := [(1, .int (iI (max 0 (r - 1)))), (0, .ref q)]) C d_S_allCharacters_10 rfl hl (by decide) rfl (fun ls hl => ?_)
  refine r_iconst (pc := 11) C d_S_allCharacters_11 ?_
  refine r_istore_n (pc := 12) (lv' := [(2, .int (iI 0)), (1, .int (iI (max 0 (r - 1)))), (0, .ref q)]) C d_S_allCharacters_12 rfl hl (by decide) rfl (fun ls hl => ?_)
  have L13 : ∀ (fuel : Nat), ∀ (i : Int) (ch : Int), 0 ≤ i ∧ i ≤ r → ch = max 0 (r - 1) + ps (crf ln) i → (r - i) < (fuel : Int) → ∀ (H : Heap) (locs : List Loc) (ls : Array Slot), Wd X (sw cI q a b sg ln r pl ov lc sd) H locs → lv_has ls 3 [(0, .ref q), (1, .int (iI ch)), (2, .int (iI i))] → GG X 0 0 H locs 13 ls [] := by
    intro fuel
    induction fuel with
    | zero =>
      intro i ch h0 hs hfuel
      exact absurd hfuel (by omega)
    | succ fuel ih13 =>
      intro i ch h0 hs hfuel H locs ls w hl
      refine r_iload_n (pc := 13) C d_S_allCharacters_13 rfl (lv_at hl 2 rfl) ?_
      refine r_aload_n (pc := 14) C d_S_allCharacters_14 rfl (lv_at hl 0 rfl) ?_
      refine r_get (pc := 15) (v := .int (iI r)) C w i_S rfl 0 rfl 2 (by decide) fl_S_18 rfl rfl d_S_allCharacters_15 ?_
      refine r_icmp_ge (pc := 18) (tgt := 39) C (by omega) d_S_allCharacters_18 (by decide) (fun c_18 => ?_) (fun c_18 => ?_)
      · skip
        refine r_iload_n (pc := 39) C d_S_allCharacters_39 rfl (lv_at hl 1 rfl) ?_
        exact kret _ _ _ _ ch _ d_S_allCharacters_40 w (⟨rfl, by rw [hs, show i = r by omega]⟩)
      · skip
        have hk2 := hO.run (k := i) (by omega) (by omega)
        refine r_iload_n (pc := 21) C d_S_allCharacters_21 rfl (lv_at hl 1 rfl) ?_
        refine r_aload_n (pc := 22) C d_S_allCharacters_22 rfl (lv_at hl 0 rfl) ?_
        refine r_get (pc := 23) (v := .ref b) C w i_S rfl 0 rfl 1 (by decide) fl_S_15 rfl rfl d_S_allCharacters_23 ?_
        refine r_iload_n (pc := 26) C d_S_allCharacters_26 rfl (lv_at hl 2 rfl) ?_
        refine r_iald (pc := 27) (f := ln) (i := i) C w 0 2 rfl hT.1 (by omega) d_S_allCharacters_27 ?_
        refine r_callP (pc := 28) (As := [.int (iI (ln i))]) (rest := [.int (iI ch)]) C w (c_X_charactersOfRun (ln i) (by omega)) ml_S_72 st_X_charactersOfRun ini_X cd_X_charactersOfRun hd_X_charactersOfRun rfl (by rw [hRm]; exact ⟨⟨Nat.le_of_ble_eq_true rfl, Nat.le_of_ble_eq_true rfl⟩, Nat.le_of_ble_eq_true rfl, Nat.le_of_ble_eq_true rfl⟩) hl.1 rfl (Nat.le_of_ble_eq_true rfl) d_S_allCharacters_28 (fun z_28 H locs hz_28 w => ?_)
        subst hz_28
        have hdl := dl_rg (ln i)
        have hcr := crl_cases (ln i)
        refine r_iadd (pc := 31) C d_S_allCharacters_31 ?_
        refine r_istore_n (pc := 32) (lv' := [(1, .int (iI (ch + (crl (ln i))))), (0, .ref q), (2, .int (iI i))]) C d_S_allCharacters_32 rfl hl (by decide) rfl (fun ls hl => ?_)
        refine r_iinc (pc := 33) (j := 2) (lv' := [(2, .int (iI (i + 1))), (1, .int (iI (ch + (crl (ln i))))), (0, .ref q)]) C d_S_allCharacters_33 hl rfl (by decide) rfl (fun ls hl => ?_)
        refine r_goto (pc := 36) (tgt := 13) C d_S_allCharacters_36 (by decide) ?_
        exact ih13 (i + 1) (ch + (crl (ln i))) (by omega) ((by rw [ps_succ _ (by omega), hs]; unfold crf; omega)) (by omega) _ _ _ w (lv_sub hl [2, 1, 0] rfl)
  exact L13 ((r - 0) + 1 : Int).toNat 0 (max 0 (r - 1)) (by first | omega | rfl) ((by rw [ps_zero]; omega)) (by omega) _ _ _ w (lv_sub hl [2, 1, 0] rfl)
theorem d_S_characterAt_0 : decode b_S_characterAt 0 = .ok (.iload_n 1, 1) := by decide +kernel
theorem d_S_characterAt_1 : decode b_S_characterAt 1 = .ok (.istore_n 2, 1) := by decide +kernel
theorem d_S_characterAt_2 : decode b_S_characterAt 2 = .ok (.iconst 0, 1) := by decide +kernel
theorem d_S_characterAt_3 : decode b_S_characterAt 3 = .ok (.istore_n 3, 1) := by decide +kernel
theorem d_S_characterAt_4 : decode b_S_characterAt 4 = .ok (.iload_n 3, 1) := by decide +kernel
theorem d_S_characterAt_5 : decode b_S_characterAt 5 = .ok (.aload_n 0, 1) := by decide +kernel
theorem d_S_characterAt_6 : decode b_S_characterAt 6 = .ok (.getfield 18, 3) := by decide +kernel
theorem d_S_characterAt_9 : decode b_S_characterAt 9 = .ok (.if_icmp .ge 73, 3) := by decide +kernel
theorem d_S_characterAt_12 : decode b_S_characterAt 12 = .ok (.iload_n 2, 1) := by decide +kernel
theorem d_S_characterAt_13 : decode b_S_characterAt 13 = .ok (.ifCond .lt 69, 3) := by decide +kernel
theorem d_S_characterAt_16 : decode b_S_characterAt 16 = .ok (.aload_n 0, 1) := by decide +kernel
theorem d_S_characterAt_17 : decode b_S_characterAt 17 = .ok (.getfield 15, 3) := by decide +kernel
theorem d_S_characterAt_20 : decode b_S_characterAt 20 = .ok (.iload_n 3, 1) := by decide +kernel
theorem d_S_characterAt_21 : decode b_S_characterAt 21 = .ok (.iaload, 1) := by decide +kernel
theorem d_S_characterAt_22 : decode b_S_characterAt 22 = .ok (.invokestatic 72, 3) := by decide +kernel
theorem d_S_characterAt_25 : decode b_S_characterAt 25 = .ok (.istore 4, 2) := by decide +kernel
theorem d_S_characterAt_27 : decode b_S_characterAt 27 = .ok (.iload_n 2, 1) := by decide +kernel
theorem d_S_characterAt_28 : decode b_S_characterAt 28 = .ok (.iload 4, 2) := by decide +kernel
theorem d_S_characterAt_30 : decode b_S_characterAt 30 = .ok (.if_icmp .ge 20, 3) := by decide +kernel
theorem d_S_characterAt_33 : decode b_S_characterAt 33 = .ok (.aload_n 0, 1) := by decide +kernel
theorem d_S_characterAt_34 : decode b_S_characterAt 34 = .ok (.getfield 9, 3) := by decide +kernel
theorem d_S_characterAt_37 : decode b_S_characterAt 37 = .ok (.iload_n 3, 1) := by decide +kernel
theorem d_S_characterAt_38 : decode b_S_characterAt 38 = .ok (.iaload, 1) := by decide +kernel
theorem d_S_characterAt_39 : decode b_S_characterAt 39 = .ok (.aload_n 0, 1) := by decide +kernel
theorem d_S_characterAt_40 : decode b_S_characterAt 40 = .ok (.getfield 15, 3) := by decide +kernel
theorem d_S_characterAt_43 : decode b_S_characterAt 43 = .ok (.iload_n 3, 1) := by decide +kernel
theorem d_S_characterAt_44 : decode b_S_characterAt 44 = .ok (.iaload, 1) := by decide +kernel
theorem d_S_characterAt_45 : decode b_S_characterAt 45 = .ok (.iload_n 2, 1) := by decide +kernel
theorem d_S_characterAt_46 : decode b_S_characterAt 46 = .ok (.invokestatic 78, 3) := by decide +kernel
theorem d_S_characterAt_49 : decode b_S_characterAt 49 = .ok (.ireturn, 1) := by decide +kernel
theorem d_S_characterAt_50 : decode b_S_characterAt 50 = .ok (.iload_n 2, 1) := by decide +kernel
theorem d_S_characterAt_51 : decode b_S_characterAt 51 = .ok (.iload 4, 2) := by decide +kernel
theorem d_S_characterAt_53 : decode b_S_characterAt 53 = .ok (.if_icmp .ne 16, 3) := by decide +kernel
theorem d_S_characterAt_56 : decode b_S_characterAt 56 = .ok (.iload_n 3, 1) := by decide +kernel
theorem d_S_characterAt_57 : decode b_S_characterAt 57 = .ok (.aload_n 0, 1) := by decide +kernel
theorem d_S_characterAt_58 : decode b_S_characterAt 58 = .ok (.getfield 18, 3) := by decide +kernel
theorem d_S_characterAt_61 : decode b_S_characterAt 61 = .ok (.iconst 1, 1) := by decide +kernel
theorem d_S_characterAt_62 : decode b_S_characterAt 62 = .ok (.isub, 1) := by decide +kernel
theorem d_S_characterAt_63 : decode b_S_characterAt 63 = .ok (.if_icmp .ge 6, 3) := by decide +kernel
theorem d_S_characterAt_66 : decode b_S_characterAt 66 = .ok (.bipush 59, 2) := by decide +kernel
theorem d_S_characterAt_68 : decode b_S_characterAt 68 = .ok (.ireturn, 1) := by decide +kernel
theorem d_S_characterAt_69 : decode b_S_characterAt 69 = .ok (.iload_n 2, 1) := by decide +kernel
theorem d_S_characterAt_70 : decode b_S_characterAt 70 = .ok (.iload 4, 2) := by decide +kernel
theorem d_S_characterAt_72 : decode b_S_characterAt 72 = .ok (.iconst 1, 1) := by decide +kernel
theorem d_S_characterAt_73 : decode b_S_characterAt 73 = .ok (.iadd, 1) := by decide +kernel
theorem d_S_characterAt_74 : decode b_S_characterAt 74 = .ok (.isub, 1) := by decide +kernel
theorem d_S_characterAt_75 : decode b_S_characterAt 75 = .ok (.istore_n 2, 1) := by decide +kernel
theorem d_S_characterAt_76 : decode b_S_characterAt 76 = .ok (.iinc 3 1, 3) := by decide +kernel
theorem d_S_characterAt_79 : decode b_S_characterAt 79 = .ok (.goto (-75), 3) := by decide +kernel
theorem d_S_characterAt_82 : decode b_S_characterAt 82 = .ok (.iconst (-1), 1) := by decide +kernel
theorem d_S_characterAt_83 : decode b_S_characterAt 83 = .ok (.ireturn, 1) := by decide +kernel
set_option maxHeartbeats 4000000 in
set_option maxRecDepth 20000 in
theorem c_S_characterAt {l : Launch} {G : va_G} {tys : List (ClassId × FieldType)} {cI cO cZ : ClassId} (hT : TY tys cI cO cZ) (q a b : Nat) (sg ln : Int → Int) (r pl ov lc sd : Int) (N : Int) (v : Int → Int) (hO : Ok r sg ln N v) (hr : r ≤ 50) (hN : N ≤ 3000) (x : Int) (hx : (-2147483648 ≤ x ∧ x < 2147483648)) : CTI l G tys y_S_characterAt b_S_characterAt 5 .int 2 47 [.ref q, .int (iI x)] (sw cI q a b sg ln r pl ov lc sd) (fun z u => u = sw cI q a b sg ln r pl ov lc sd ∧ (∀ (Wt : Int → Int) (m : Int), Txt Wt r sg ln m → ((0 ≤ x ∧ x < m) ∧ z = Wt x) ∨ (¬ (0 ≤ x ∧ x < m) ∧ z = -1))) := by
  refine mkI (by decide) (Nat.le_of_ble_eq_true rfl) ?_
  rintro X rfl rfl rfl hRm C kret H ls w hl
  have hl : lv_has ls 5 [(0, .ref q), (1, .int (iI x))] := hl
  have w : Wd X (sw cI q a b sg ln r pl ov lc sd) H [] := w
  generalize ([] : List Loc) = locs at w ⊢
  have hr0 := hO.1
  have hN0 := hO.n0
  have hps := ps_zero ln
  have hpr := hO.2.2.2.1
  refine r_iload_n (pc := 0) C d_S_characterAt_0 rfl (lv_at hl 1 rfl) ?_
  refine r_istore_n (pc := 1) (lv' := [(2, .int (iI x)), (0, .ref q), (1, .int (iI x))]) C d_S_characterAt_1 rfl hl (by decide) rfl (fun ls hl => ?_)
  refine r_iconst (pc := 2) C d_S_characterAt_2 ?_
  refine r_istore_n (pc := 3) (lv' := [(3, .int (iI 0)), (2, .int (iI x)), (0, .ref q), (1, .int (iI x))]) C d_S_characterAt_3 rfl hl (by decide) rfl (fun ls hl => ?_)
  have L4 : ∀ (fuel : Nat), ∀ (i : Int) (rest : Int), 0 ≤ i ∧ i ≤ r → rest = x - (ps (crf ln) i + i) ∧ (0 ≤ rest ∨ i = 0 ∨ (i = r ∧ rest = -1)) → (r - i) < (fuel : Int) → ∀ (H : Heap) (locs : List Loc) (ls : Array Slot), Wd X (sw cI q a b sg ln r pl ov lc sd) H locs → lv_has ls 5 [(0, .ref q), (1, .int (iI x)), (2, .int (iI rest)), (3, .int (iI i))] → GG X 0 0 H locs 4 ls [] := by
    intro fuel
    induction fuel with
    | zero =>
      intro i rest h0 hs hfuel
      exact absurd hfuel (by omega)
    | succ fuel ih4 =>
      intro i rest h0 hs hfuel H locs ls w hl
      have hi0 : i = 0 → ps (crf ln) i = 0 := fun q => by rw [q, ps_zero]
      have hcm := crf_mono hO hN (j := i) (k := r) (by omega) (by omega) (by omega)
      have hcb := (ps_bound (f := crf ln) (lo := 0) (hi := 6) i (by omega) (fun j q1 q2 => by have := crf_pos hO hN q1 (by omega : j < r); omega)).2
      refine r_iload_n (pc := 4) C d_S_characterAt_4 rfl (lv_at hl 3 rfl) ?_
      refine r_aload_n (pc := 5) C d_S_characterAt_5 rfl (lv_at hl 0 rfl) ?_
      refine r_get (pc := 6) (v := .int (iI r)) C w i_S rfl 0 rfl 2 (by decide) fl_S_18 rfl rfl d_S_characterAt_6 ?_
      refine r_icmp_ge (pc := 9) (tgt := 82) C (by omega) d_S_characterAt_9 (by decide) (fun c_9 => ?_) (fun c_9 => ?_)
      · skip
        have hir : i = r := by omega
        rw [hir] at hs hi0 hcm
        refine r_iconst (pc := 82) C d_S_characterAt_82 ?_
        exact kret _ _ _ _ (-1) _ d_S_characterAt_83 w (⟨rfl, fun Wt m hW => Or.inr ⟨by have := hW.1; omega, rfl⟩⟩)
      · skip
        refine r_iload_n (pc := 12) C d_S_characterAt_12 rfl (lv_at hl 2 rfl) ?_
        refine r_if_lt (pc := 13) (tgt := 82) C (by omega) d_S_characterAt_13 (by decide) (fun c_13 => ?_) (fun c_13 => ?_)
        · skip
          refine r_iconst (pc := 82) C d_S_characterAt_82 ?_
          exact kret _ _ _ _ (-1) _ d_S_characterAt_83 w (⟨rfl, fun Wt m hW => Or.inr ⟨by have := hW.1; omega, rfl⟩⟩)
        · skip
          have hk2 := hO.run (k := i) (by omega) (by omega)
          have hcf := crf_pos hO hN (k := i) (by omega) (by omega)
          have hcm2 := crf_mono hO hN (j := i + 1) (k := r) (by omega) (by omega) (by omega)
          refine r_aload_n (pc := 16) C d_S_characterAt_16 rfl (lv_at hl 0 rfl) ?_
          refine r_get (pc := 17) (v := .ref b) C w i_S rfl 0 rfl 1 (by decide) fl_S_15 rfl rfl d_S_characterAt_17 ?_
          refine r_iload_n (pc := 20) C d_S_characterAt_20 rfl (lv_at hl 3 rfl) ?_
          refine r_iald (pc := 21) (f := ln) (i := i) C w 0 2 rfl hT.1 (by omega) d_S_characterAt_21 ?_
          refine r_callP (pc := 22) (As := [.int (iI (ln i))]) (rest := []) C w (c_X_charactersOfRun (ln i) (by omega)) ml_S_72 st_X_charactersOfRun ini_X cd_X_charactersOfRun hd_X_charactersOfRun rfl (by rw [hRm]; exact ⟨⟨Nat.le_of_ble_eq_true rfl, Nat.le_of_ble_eq_true rfl⟩, Nat.le_of_ble_eq_true rfl, Nat.le_of_ble_eq_true rfl⟩) hl.1 rfl (Nat.le_of_ble_eq_true rfl) d_S_characterAt_22 (fun z_22 H locs hz_22 w => ?_)
          subst hz_22
          have hdl := dl_rg (ln i)
          have hcr := crl_cases (ln i)
          refine r_istore (pc := 25) (lv' := [(4, .int (iI (crl (ln i)))), (0, .ref q), (1, .int (iI x)), (2, .int (iI rest)), (3, .int (iI i))]) C d_S_characterAt_25 hl (by decide) rfl (fun ls hl => ?_)
          refine r_iload_n (pc := 27) C d_S_characterAt_27 rfl (lv_at hl 3 rfl) ?_
          refine r_iload (pc := 28) C d_S_characterAt_28 (lv_at hl 0 rfl) ?_
          refine r_icmp_ge (pc := 30) (tgt := 50) C (by omega) d_S_characterAt_30 (by decide) (fun c_30 => ?_) (fun c_30 => ?_)
          · skip
            refine r_iload_n (pc := 50) C d_S_characterAt_50 rfl (lv_at hl 3 rfl) ?_
            refine r_iload (pc := 51) C d_S_characterAt_51 (lv_at hl 0 rfl) ?_
            refine r_icmp_ne (pc := 53) (tgt := 69) C (by omega) d_S_characterAt_53 (by decide) (fun c_53 => ?_) (fun c_53 => ?_)
            · skip
              refine r_iload_n (pc := 69) C d_S_characterAt_69 rfl (lv_at hl 3 rfl) ?_
              refine r_iload (pc := 70) C d_S_characterAt_70 (lv_at hl 0 rfl) ?_
              refine r_iconst (pc := 72) C d_S_characterAt_72 ?_
              refine r_iadd (pc := 73) C d_S_characterAt_73 ?_
              refine r_isub (pc := 74) C d_S_characterAt_74 ?_
              refine r_istore_n (pc := 75) (lv' := [(2, .int (iI (rest - ((crl (ln i)) + 1)))), (4, .int (iI (crl (ln i)))), (0, .ref q), (1, .int (iI x)), (3, .int (iI i))]) C d_S_characterAt_75 rfl hl (by decide) rfl (fun ls hl => ?_)
              refine r_iinc (pc := 76) (j := 4) (lv' := [(3, .int (iI (i + 1))), (2, .int (iI (rest - ((crl (ln i)) + 1)))), (4, .int (iI (crl (ln i)))), (0, .ref q), (1, .int (iI x))]) C d_S_characterAt_76 hl rfl (by decide) rfl (fun ls hl => ?_)
              refine r_goto (pc := 79) (tgt := 4) C d_S_characterAt_79 (by decide) ?_
              exact ih4 (i + 1) (rest - ((crl (ln i)) + 1)) (by omega) (by omega) (by omega) _ _ _ w (lv_sub hl [3, 4, 1, 0] rfl)
            · skip
              refine r_iload_n (pc := 56) C d_S_characterAt_56 rfl (lv_at hl 4 rfl) ?_
              refine r_aload_n (pc := 57) C d_S_characterAt_57 rfl (lv_at hl 1 rfl) ?_
              refine r_get (pc := 58) (v := .int (iI r)) C w i_S rfl 0 rfl 2 (by decide) fl_S_18 rfl rfl d_S_characterAt_58 ?_
              refine r_iconst (pc := 61) C d_S_characterAt_61 ?_
              refine r_isub (pc := 62) C d_S_characterAt_62 ?_
              refine r_icmp_ge (pc := 63) (tgt := 69) C (by omega) d_S_characterAt_63 (by decide) (fun c_63 => ?_) (fun c_63 => ?_)
              · skip
                refine r_iload_n (pc := 69) C d_S_characterAt_69 rfl (lv_at hl 3 rfl) ?_
                refine r_iload (pc := 70) C d_S_characterAt_70 (lv_at hl 0 rfl) ?_
                refine r_iconst (pc := 72) C d_S_characterAt_72 ?_
                refine r_iadd (pc := 73) C d_S_characterAt_73 ?_
                refine r_isub (pc := 74) C d_S_characterAt_74 ?_
                refine r_istore_n (pc := 75) (lv' := [(2, .int (iI (rest - ((crl (ln i)) + 1)))), (4, .int (iI (crl (ln i)))), (0, .ref q), (1, .int (iI x)), (3, .int (iI i))]) C d_S_characterAt_75 rfl hl (by decide) rfl (fun ls hl => ?_)
                refine r_iinc (pc := 76) (j := 4) (lv' := [(3, .int (iI (i + 1))), (2, .int (iI (rest - ((crl (ln i)) + 1)))), (4, .int (iI (crl (ln i)))), (0, .ref q), (1, .int (iI x))]) C d_S_characterAt_76 hl rfl (by decide) rfl (fun ls hl => ?_)
                refine r_goto (pc := 79) (tgt := 4) C d_S_characterAt_79 (by decide) ?_
                exact ih4 (i + 1) (rest - ((crl (ln i)) + 1)) (by omega) (by omega) (by omega) _ _ _ w (lv_sub hl [3, 4, 1, 0] rfl)
              · skip
                refine r_bipush (pc := 66) C d_S_characterAt_66 (by decide) ?_
                exact kret _ _ _ _ 59 _ d_S_characterAt_68 w (⟨rfl, fun Wt m hW => Or.inl ⟨by have := hW.1; omega, by rw [show x = ps (crf ln) (i + 1) + (i + 1) - 1 by omega]; exact (hW.2.2 (i + 1) (by omega) (by omega)).symm⟩⟩)
          · skip
            refine r_aload_n (pc := 33) C d_S_characterAt_33 rfl (lv_at hl 1 rfl) ?_
            refine r_get (pc := 34) (v := .ref a) C w i_S rfl 0 rfl 0 (by decide) fl_S_9 rfl rfl d_S_characterAt_34 ?_
            refine r_iload_n (pc := 37) C d_S_characterAt_37 rfl (lv_at hl 4 rfl) ?_
            refine r_iald (pc := 38) (f := sg) (i := i) C w 0 1 rfl hT.1 (by omega) d_S_characterAt_38 ?_
            refine r_aload_n (pc := 39) C d_S_characterAt_39 rfl (lv_at hl 1 rfl) ?_
            refine r_get (pc := 40) (v := .ref b) C w i_S rfl 0 rfl 1 (by decide) fl_S_15 rfl rfl d_S_characterAt_40 ?_
            refine r_iload_n (pc := 43) C d_S_characterAt_43 rfl (lv_at hl 4 rfl) ?_
            refine r_iald (pc := 44) (f := ln) (i := i) C w 0 2 rfl hT.1 (by omega) d_S_characterAt_44 ?_
            refine r_iload_n (pc := 45) C d_S_characterAt_45 rfl (lv_at hl 3 rfl) ?_
            refine r_callP (pc := 46) (As := [.int (iI (sg i)), .int (iI (ln i)), .int (iI rest)]) (rest := []) C w (c_X_characterOfRun (sg i) (ln i) rest (by omega) (by omega) (by omega)) ml_S_78 st_X_characterOfRun ini_X cd_X_characterOfRun hd_X_characterOfRun rfl (by rw [hRm]; exact ⟨⟨Nat.le_of_ble_eq_true rfl, Nat.le_of_ble_eq_true rfl⟩, Nat.le_of_ble_eq_true rfl, Nat.le_of_ble_eq_true rfl⟩) hl.1 rfl (Nat.le_of_ble_eq_true rfl) d_S_characterAt_46 (fun z_46 H locs hz_46 w => ?_)
            subst hz_46
            exact kret _ _ _ _ (chr_ (sg i) (ln i) rest) _ d_S_characterAt_49 w (⟨rfl, fun Wt m hW => Or.inl ⟨by have := hW.1; omega, by rw [show x = ps (crf ln) i + i + rest by omega]; exact (hW.2.1 i (by omega) (by omega) rest (by omega) (by omega)).symm⟩⟩)
  exact L4 ((r - 0) + 1 : Int).toNat 0 x (by first | omega | rfl) ((by rw [ps_zero]; omega)) (by omega) _ _ _ w (lv_sub hl [2, 3, 1, 0] rfl)
theorem d_S_longestLiveStretch_0 : decode b_S_longestLiveStretch 0 = .ok (.iconst 0, 1) := by decide +kernel
theorem d_S_longestLiveStretch_1 : decode b_S_longestLiveStretch 1 = .ok (.istore_n 2, 1) := by decide +kernel
theorem d_S_longestLiveStretch_2 : decode b_S_longestLiveStretch 2 = .ok (.iconst 0, 1) := by decide +kernel
theorem d_S_longestLiveStretch_3 : decode b_S_longestLiveStretch 3 = .ok (.istore_n 3, 1) := by decide +kernel
theorem d_S_longestLiveStretch_4 : decode b_S_longestLiveStretch 4 = .ok (.iconst 0, 1) := by decide +kernel
theorem d_S_longestLiveStretch_5 : decode b_S_longestLiveStretch 5 = .ok (.istore 4, 2) := by decide +kernel
theorem d_S_longestLiveStretch_7 : decode b_S_longestLiveStretch 7 = .ok (.iconst 0, 1) := by decide +kernel
theorem d_S_longestLiveStretch_8 : decode b_S_longestLiveStretch 8 = .ok (.istore 5, 2) := by decide +kernel
theorem d_S_longestLiveStretch_10 : decode b_S_longestLiveStretch 10 = .ok (.iconst 0, 1) := by decide +kernel
theorem d_S_longestLiveStretch_11 : decode b_S_longestLiveStretch 11 = .ok (.istore 6, 2) := by decide +kernel
theorem d_S_longestLiveStretch_13 : decode b_S_longestLiveStretch 13 = .ok (.iload 6, 2) := by decide +kernel
theorem d_S_longestLiveStretch_15 : decode b_S_longestLiveStretch 15 = .ok (.aload_n 0, 1) := by decide +kernel
theorem d_S_longestLiveStretch_16 : decode b_S_longestLiveStretch 16 = .ok (.getfield 18, 3) := by decide +kernel
theorem d_S_longestLiveStretch_19 : decode b_S_longestLiveStretch 19 = .ok (.if_icmp .ge 52, 3) := by decide +kernel
theorem d_S_longestLiveStretch_22 : decode b_S_longestLiveStretch 22 = .ok (.iload_n 2, 1) := by decide +kernel
theorem d_S_longestLiveStretch_23 : decode b_S_longestLiveStretch 23 = .ok (.aload_n 0, 1) := by decide +kernel
theorem d_S_longestLiveStretch_24 : decode b_S_longestLiveStretch 24 = .ok (.getfield 15, 3) := by decide +kernel
theorem d_S_longestLiveStretch_27 : decode b_S_longestLiveStretch 27 = .ok (.iload 6, 2) := by decide +kernel
theorem d_S_longestLiveStretch_29 : decode b_S_longestLiveStretch 29 = .ok (.iaload, 1) := by decide +kernel
theorem d_S_longestLiveStretch_30 : decode b_S_longestLiveStretch 30 = .ok (.iadd, 1) := by decide +kernel
theorem d_S_longestLiveStretch_31 : decode b_S_longestLiveStretch 31 = .ok (.istore_n 2, 1) := by decide +kernel
theorem d_S_longestLiveStretch_32 : decode b_S_longestLiveStretch 32 = .ok (.aload_n 0, 1) := by decide +kernel
theorem d_S_longestLiveStretch_33 : decode b_S_longestLiveStretch 33 = .ok (.getfield 9, 3) := by decide +kernel
theorem d_S_longestLiveStretch_36 : decode b_S_longestLiveStretch 36 = .ok (.iload 6, 2) := by decide +kernel
theorem d_S_longestLiveStretch_38 : decode b_S_longestLiveStretch 38 = .ok (.iaload, 1) := by decide +kernel
theorem d_S_longestLiveStretch_39 : decode b_S_longestLiveStretch 39 = .ok (.bipush 10, 2) := by decide +kernel
theorem d_S_longestLiveStretch_41 : decode b_S_longestLiveStretch 41 = .ok (.if_icmp .ne 8, 3) := by decide +kernel
theorem d_S_longestLiveStretch_44 : decode b_S_longestLiveStretch 44 = .ok (.iload_n 2, 1) := by decide +kernel
theorem d_S_longestLiveStretch_45 : decode b_S_longestLiveStretch 45 = .ok (.istore_n 3, 1) := by decide +kernel
theorem d_S_longestLiveStretch_46 : decode b_S_longestLiveStretch 46 = .ok (.goto 19, 3) := by decide +kernel
theorem d_S_longestLiveStretch_49 : decode b_S_longestLiveStretch 49 = .ok (.iload_n 2, 1) := by decide +kernel
theorem d_S_longestLiveStretch_50 : decode b_S_longestLiveStretch 50 = .ok (.iload_n 3, 1) := by decide +kernel
theorem d_S_longestLiveStretch_51 : decode b_S_longestLiveStretch 51 = .ok (.isub, 1) := by decide +kernel
theorem d_S_longestLiveStretch_52 : decode b_S_longestLiveStretch 52 = .ok (.iload 5, 2) := by decide +kernel
theorem d_S_longestLiveStretch_54 : decode b_S_longestLiveStretch 54 = .ok (.if_icmp .le 11, 3) := by decide +kernel
theorem d_S_longestLiveStretch_57 : decode b_S_longestLiveStretch 57 = .ok (.iload_n 3, 1) := by decide +kernel
theorem d_S_longestLiveStretch_58 : decode b_S_longestLiveStretch 58 = .ok (.istore 4, 2) := by decide +kernel
theorem d_S_longestLiveStretch_60 : decode b_S_longestLiveStretch 60 = .ok (.iload_n 2, 1) := by decide +kernel
theorem d_S_longestLiveStretch_61 : decode b_S_longestLiveStretch 61 = .ok (.iload_n 3, 1) := by decide +kernel
theorem d_S_longestLiveStretch_62 : decode b_S_longestLiveStretch 62 = .ok (.isub, 1) := by decide +kernel
theorem d_S_longestLiveStretch_63 : decode b_S_longestLiveStretch 63 = .ok (.istore 5, 2) := by decide +kernel
theorem d_S_longestLiveStretch_65 : decode b_S_longestLiveStretch 65 = .ok (.iinc 6 1, 3) := by decide +kernel
theorem d_S_longestLiveStretch_68 : decode b_S_longestLiveStretch 68 = .ok (.goto (-55), 3) := by decide +kernel
theorem d_S_longestLiveStretch_71 : decode b_S_longestLiveStretch 71 = .ok (.iload 5, 2) := by decide +kernel
theorem d_S_longestLiveStretch_73 : decode b_S_longestLiveStretch 73 = .ok (.ifCond .ne 6, 3) := by decide +kernel
theorem d_S_longestLiveStretch_76 : decode b_S_longestLiveStretch 76 = .ok (.bipush (-6), 2) := by decide +kernel
theorem d_S_longestLiveStretch_78 : decode b_S_longestLiveStretch 78 = .ok (.ireturn, 1) := by decide +kernel
theorem d_S_longestLiveStretch_79 : decode b_S_longestLiveStretch 79 = .ok (.iload_n 1, 1) := by decide +kernel
theorem d_S_longestLiveStretch_80 : decode b_S_longestLiveStretch 80 = .ok (.ifCond .eq 8, 3) := by decide +kernel
theorem d_S_longestLiveStretch_83 : decode b_S_longestLiveStretch 83 = .ok (.iload 5, 2) := by decide +kernel
theorem d_S_longestLiveStretch_85 : decode b_S_longestLiveStretch 85 = .ok (.goto 5, 3) := by decide +kernel
theorem d_S_longestLiveStretch_88 : decode b_S_longestLiveStretch 88 = .ok (.iload 4, 2) := by decide +kernel
theorem d_S_longestLiveStretch_90 : decode b_S_longestLiveStretch 90 = .ok (.ireturn, 1) := by decide +kernel
set_option maxHeartbeats 4000000 in
set_option maxRecDepth 20000 in
theorem c_S_longestLiveStretch {l : Launch} {G : va_G} {tys : List (ClassId × FieldType)} {cI cO cZ : ClassId} (hT : TY tys cI cO cZ) (q a b : Nat) (sg ln : Int → Int) (r pl ov lc sd : Int) (N : Int) (v : Int → Int) (hO : Ok r sg ln N v) (hr : r ≤ 50) (hN : N ≤ 3000) (itl : Int) (hi : itl = 0 ∨ itl = 1) : CTI l G tys y_S_longestLiveStretch b_S_longestLiveStretch 7 .int 0 0 [.ref q, .int (iI itl)] (sw cI q a b sg ln r pl ov lc sd) (fun z u => u = sw cI q a b sg ln r pl ov lc sd ∧ (z = if (ll v N).2.1 = 0 then -6 else if itl = 1 then (ll v N).2.1 else (ll v N).2.2)) := by
  refine mkI (by decide) (Nat.le_of_ble_eq_true rfl) ?_
  rintro X rfl rfl rfl hRm C kret H ls w hl
  have hl : lv_has ls 7 [(0, .ref q), (1, .int (iI itl))] := hl
  have w : Wd X (sw cI q a b sg ln r pl ov lc sd) H [] := w
  generalize ([] : List Loc) = locs at w ⊢
  have hr0 := hO.1
  have hN0 := hO.n0
  have hps := ps_zero ln
  have hpr := hO.2.2.2.1
  refine r_iconst (pc := 0) C d_S_longestLiveStretch_0 ?_
  refine r_istore_n (pc := 1) (lv' := [(2, .int (iI 0)), (0, .ref q), (1, .int (iI itl))]) C d_S_longestLiveStretch_1 rfl hl (by decide) rfl (fun ls hl => ?_)
  refine r_iconst (pc := 2) C d_S_longestLiveStretch_2 ?_
  refine r_istore_n (pc := 3) (lv' := [(3, .int (iI 0)), (2, .int (iI 0)), (0, .ref q), (1, .int (iI itl))]) C d_S_longestLiveStretch_3 rfl hl (by decide) rfl (fun ls hl => ?_)
  refine r_iconst (pc := 4) C d_S_longestLiveStretch_4 ?_
  refine r_istore (pc := 5) (lv' := [(4, .int (iI 0)), (3, .int (iI 0)), (2, .int (iI 0)), (0, .ref q), (1, .int (iI itl))]) C d_S_longestLiveStretch_5 hl (by decide) rfl (fun ls hl => ?_)
  refine r_iconst (pc := 7) C d_S_longestLiveStretch_7 ?_
  refine r_istore (pc := 8) (lv' := [(5, .int (iI 0)), (4, .int (iI 0)), (3, .int (iI 0)), (2, .int (iI 0)), (0, .ref q), (1, .int (iI itl))]) C d_S_longestLiveStretch_8 hl (by decide) rfl (fun ls hl => ?_)
  refine r_iconst (pc := 10) C d_S_longestLiveStretch_10 ?_
  refine r_istore (pc := 11) (lv' := [(6, .int (iI 0)), (5, .int (iI 0)), (4, .int (iI 0)), (3, .int (iI 0)), (2, .int (iI 0)), (0, .ref q), (1, .int (iI itl))]) C d_S_longestLiveStretch_11 hl (by decide) rfl (fun ls hl => ?_)
  have L13 : ∀ (fuel : Nat), ∀ (i : Int) (S : Int) (since : Int) (bf : Int) (lg : Int), 0 ≤ i ∧ i ≤ r → S = ps ln i ∧ 0 ≤ S ∧ S ≤ N → since = S - (ll v S).1 ∧ lg = (ll v S).2.1 ∧ (lg ≠ 0 → bf = (ll v S).2.2) ∧ 0 ≤ since → (r - i) < (fuel : Int) → ∀ (H : Heap) (locs : List Loc) (ls : Array Slot), Wd X (sw cI q a b sg ln r pl ov lc sd) H locs → lv_has ls 7 [(0, .ref q), (1, .int (iI itl)), (2, .int (iI S)), (3, .int (iI since)), (4, .int (iI bf)), (5, .int (iI lg)), (6, .int (iI i))] → GG X 0 0 H locs 13 ls [] := by
    intro fuel
    induction fuel with
    | zero =>
      intro i S since bf lg h0 hS hs hfuel
      exact absurd hfuel (by omega)
    | succ fuel ih13 =>
      intro i S since bf lg h0 hS hs hfuel H locs ls w hl
      refine r_iload (pc := 13) C d_S_longestLiveStretch_13 (lv_at hl 6 rfl) ?_
      refine r_aload_n (pc := 15) C d_S_longestLiveStretch_15 rfl (lv_at hl 0 rfl) ?_
      refine r_get (pc := 16) (v := .int (iI r)) C w i_S rfl 0 rfl 2 (by decide) fl_S_18 rfl rfl d_S_longestLiveStretch_16 ?_
      refine r_icmp_ge (pc := 19) (tgt := 71) C (by omega) d_S_longestLiveStretch_19 (by decide) (fun c_19 => ?_) (fun c_19 => ?_)
      · skip
        have hSN : S = N := by { rw [hS.1, show i = r by omega]; exact hpr }
        rw [hSN] at hs
        have hlr := ll_rg v N (by omega)
        refine r_iload (pc := 71) C d_S_longestLiveStretch_71 (lv_at hl 5 rfl) ?_
        refine r_if_ne (pc := 73) (tgt := 79) C (by omega) d_S_longestLiveStretch_73 (by decide) (fun c_73 => ?_) (fun c_73 => ?_)
        · skip
          refine r_iload_n (pc := 79) C d_S_longestLiveStretch_79 rfl (lv_at hl 1 rfl) ?_
          refine r_if_eq (pc := 80) (tgt := 88) C (by omega) d_S_longestLiveStretch_80 (by decide) (fun c_80 => ?_) (fun c_80 => ?_)
          · skip
            refine r_iload (pc := 88) C d_S_longestLiveStretch_88 (lv_at hl 4 rfl) ?_
            exact kret _ _ _ _ bf _ d_S_longestLiveStretch_90 w (⟨rfl, by rw [if_neg (by omega)]; first | (rw [if_pos (by omega)]; omega) | (rw [if_neg (by omega)]; exact hs.2.2.1 (by omega))⟩)
          · skip
            refine r_iload (pc := 83) C d_S_longestLiveStretch_83 (lv_at hl 5 rfl) ?_
            refine r_goto (pc := 85) (tgt := 90) C d_S_longestLiveStretch_85 (by decide) ?_
            exact kret _ _ _ _ lg _ d_S_longestLiveStretch_90 w (⟨rfl, by rw [if_neg (by omega)]; first | (rw [if_pos (by omega)]; omega) | (rw [if_neg (by omega)]; exact hs.2.2.1 (by omega))⟩)
        · skip
          refine r_bipush (pc := 76) C d_S_longestLiveStretch_76 (by decide) ?_
          exact kret _ _ _ _ (-6) _ d_S_longestLiveStretch_78 w (⟨rfl, by rw [if_pos (by omega)]⟩)
      · skip
        have hk2 := hO.run (k := i) (by omega) (by omega)
        have hlr := ll_rg v S (by omega)
        refine r_iload_n (pc := 22) C d_S_longestLiveStretch_22 rfl (lv_at hl 2 rfl) ?_
        refine r_aload_n (pc := 23) C d_S_longestLiveStretch_23 rfl (lv_at hl 0 rfl) ?_
        refine r_get (pc := 24) (v := .ref b) C w i_S rfl 0 rfl 1 (by decide) fl_S_15 rfl rfl d_S_longestLiveStretch_24 ?_
        refine r_iload (pc := 27) C d_S_longestLiveStretch_27 (lv_at hl 6 rfl) ?_
        refine r_iald (pc := 29) (f := ln) (i := i) C w 0 2 rfl hT.1 (by omega) d_S_longestLiveStretch_29 ?_
        refine r_iadd (pc := 30) C d_S_longestLiveStretch_30 ?_
        refine r_istore_n (pc := 31) (lv' := [(2, .int (iI (S + (ln i)))), (0, .ref q), (1, .int (iI itl)), (3, .int (iI since)), (4, .int (iI bf)), (5, .int (iI lg)), (6, .int (iI i))]) C d_S_longestLiveStretch_31 rfl hl (by decide) rfl (fun ls hl => ?_)
        refine r_aload_n (pc := 32) C d_S_longestLiveStretch_32 rfl (lv_at hl 1 rfl) ?_
        refine r_get (pc := 33) (v := .ref a) C w i_S rfl 0 rfl 0 (by decide) fl_S_9 rfl rfl d_S_longestLiveStretch_33 ?_
        refine r_iload (pc := 36) C d_S_longestLiveStretch_36 (lv_at hl 6 rfl) ?_
        refine r_iald (pc := 38) (f := sg) (i := i) C w 0 1 rfl hT.1 (by omega) d_S_longestLiveStretch_38 ?_
        refine r_bipush (pc := 39) C d_S_longestLiveStretch_39 (by decide) ?_
        refine r_icmp_ne (pc := 41) (tgt := 49) C (by omega) d_S_longestLiveStretch_41 (by decide) (fun c_41 => ?_) (fun c_41 => ?_)
        · skip
          have hlx := ll_live (v := v) (a := S) (by omega) (ln i) (by omega) (fun x q1 q2 => by rw [hO.2.2.2.2 i (by omega) (by omega) x (by omega) (by omega)]; omega)
          refine r_iload_n (pc := 49) C d_S_longestLiveStretch_49 rfl (lv_at hl 0 rfl) ?_
          refine r_iload_n (pc := 50) C d_S_longestLiveStretch_50 rfl (lv_at hl 3 rfl) ?_
          refine r_isub (pc := 51) C d_S_longestLiveStretch_51 ?_
          refine r_iload (pc := 52) C d_S_longestLiveStretch_52 (lv_at hl 5 rfl) ?_
          refine r_icmp_le (pc := 54) (tgt := 65) C (by omega) d_S_longestLiveStretch_54 (by decide) (fun c_54 => ?_) (fun c_54 => ?_)
          · skip
            rw [if_neg (by omega)] at hlx
            refine r_iinc (pc := 65) (j := 6) (lv' := [(6, .int (iI (i + 1))), (2, .int (iI (S + (ln i)))), (0, .ref q), (1, .int (iI itl)), (3, .int (iI since)), (4, .int (iI bf)), (5, .int (iI lg))]) C d_S_longestLiveStretch_65 hl rfl (by decide) rfl (fun ls hl => ?_)
            refine r_goto (pc := 68) (tgt := 13) C d_S_longestLiveStretch_68 (by decide) ?_
            exact ih13 (i + 1) (S + (ln i)) since bf lg (by omega) (by omega) ((by rw [hlx]; exact ⟨by show _ = _ - _; omega, by first | rfl | (show _ = (ll v S).2.1; omega) | (show _ = (ll v S).1 + ln i; omega), fun h => by first | (show _ = (ll v S).2.2; exact hs.2.2.1 (by omega)) | (show _ = S - (ll v S).1; omega), by omega⟩)) (by omega) _ _ _ w (lv_sub hl [2, 3, 1, 4, 5, 6, 0] rfl)
          · skip
            rw [if_pos (by omega)] at hlx
            refine r_iload_n (pc := 57) C d_S_longestLiveStretch_57 rfl (lv_at hl 3 rfl) ?_
            refine r_istore (pc := 58) (lv' := [(4, .int (iI since)), (2, .int (iI (S + (ln i)))), (0, .ref q), (1, .int (iI itl)), (3, .int (iI since)), (5, .int (iI lg)), (6, .int (iI i))]) C d_S_longestLiveStretch_58 hl (by decide) rfl (fun ls hl => ?_)
            refine r_iload_n (pc := 60) C d_S_longestLiveStretch_60 rfl (lv_at hl 1 rfl) ?_
            refine r_iload_n (pc := 61) C d_S_longestLiveStretch_61 rfl (lv_at hl 4 rfl) ?_
            refine r_isub (pc := 62) C d_S_longestLiveStretch_62 ?_
            refine r_istore (pc := 63) (lv' := [(5, .int (iI ((S + (ln i)) - since))), (4, .int (iI since)), (2, .int (iI (S + (ln i)))), (0, .ref q), (1, .int (iI itl)), (3, .int (iI since)), (6, .int (iI i))]) C d_S_longestLiveStretch_63 hl (by decide) rfl (fun ls hl => ?_)
            refine r_iinc (pc := 65) (j := 6) (lv' := [(6, .int (iI (i + 1))), (5, .int (iI ((S + (ln i)) - since))), (4, .int (iI since)), (2, .int (iI (S + (ln i)))), (0, .ref q), (1, .int (iI itl)), (3, .int (iI since))]) C d_S_longestLiveStretch_65 hl rfl (by decide) rfl (fun ls hl => ?_)
            refine r_goto (pc := 68) (tgt := 13) C d_S_longestLiveStretch_68 (by decide) ?_
            exact ih13 (i + 1) (S + (ln i)) since since ((S + (ln i)) - since) (by omega) (by omega) ((by rw [hlx]; exact ⟨by show _ = _ - _; omega, by first | rfl | (show _ = (ll v S).2.1; omega) | (show _ = (ll v S).1 + ln i; omega), fun h => by first | (show _ = (ll v S).2.2; exact hs.2.2.1 (by omega)) | (show _ = S - (ll v S).1; omega), by omega⟩)) (by omega) _ _ _ w (lv_sub hl [4, 5, 3, 6, 2, 1, 0] rfl)
        · skip
          have hlx := ll_dead (v := v) (a := S) (by omega) (ln i - 1) (by omega) (fun x q1 q2 => by rw [hO.2.2.2.2 i (by omega) (by omega) x (by omega) (by omega)]; omega)
          rw [show S + (ln i - 1) + 1 = S + ln i by omega] at hlx
          refine r_iload_n (pc := 44) C d_S_longestLiveStretch_44 rfl (lv_at hl 0 rfl) ?_
          refine r_istore_n (pc := 45) (lv' := [(3, .int (iI (S + (ln i)))), (2, .int (iI (S + (ln i)))), (0, .ref q), (1, .int (iI itl)), (4, .int (iI bf)), (5, .int (iI lg)), (6, .int (iI i))]) C d_S_longestLiveStretch_45 rfl hl (by decide) rfl (fun ls hl => ?_)
          refine r_goto (pc := 46) (tgt := 65) C d_S_longestLiveStretch_46 (by decide) ?_
          refine r_iinc (pc := 65) (j := 6) (lv' := [(6, .int (iI (i + 1))), (3, .int (iI (S + (ln i)))), (2, .int (iI (S + (ln i)))), (0, .ref q), (1, .int (iI itl)), (4, .int (iI bf)), (5, .int (iI lg))]) C d_S_longestLiveStretch_65 hl rfl (by decide) rfl (fun ls hl => ?_)
          refine r_goto (pc := 68) (tgt := 13) C d_S_longestLiveStretch_68 (by decide) ?_
          exact ih13 (i + 1) (S + (ln i)) (S + (ln i)) bf lg (by omega) (by omega) ((by rw [hlx]; exact ⟨by show _ = _ - _; omega, by first | rfl | (show _ = (ll v S).2.1; omega) | (show _ = (ll v S).1 + ln i; omega), fun h => by first | (show _ = (ll v S).2.2; exact hs.2.2.1 (by omega)) | (show _ = S - (ll v S).1; omega), by omega⟩)) (by omega) _ _ _ w (lv_sub hl [3, 4, 2, 1, 5, 6, 0] rfl)
  exact L13 ((r - 0) + 1 : Int).toNat 0 0 0 0 0 (by first | omega | rfl) (by first | omega | rfl) ((by rw [ll_zero]; exact ⟨rfl, rfl, fun h => absurd rfl h, by decide⟩)) (by omega) _ _ _ w (lv_sub hl [5, 6, 4, 3, 2, 1, 0] rfl)
theorem d_S_savedByWriting_0 : decode b_S_savedByWriting 0 = .ok (.iload_n 1, 1) := by decide +kernel
theorem d_S_savedByWriting_1 : decode b_S_savedByWriting 1 = .ok (.ifCond .lt 22, 3) := by decide +kernel
theorem d_S_savedByWriting_4 : decode b_S_savedByWriting 4 = .ok (.iload_n 1, 1) := by decide +kernel
theorem d_S_savedByWriting_5 : decode b_S_savedByWriting 5 = .ok (.aload_n 0, 1) := by decide +kernel
theorem d_S_savedByWriting_6 : decode b_S_savedByWriting 6 = .ok (.getfield 18, 3) := by decide +kernel
theorem d_S_savedByWriting_9 : decode b_S_savedByWriting 9 = .ok (.if_icmp .ge 14, 3) := by decide +kernel
theorem d_S_savedByWriting_12 : decode b_S_savedByWriting 12 = .ok (.aload_n 0, 1) := by decide +kernel
theorem d_S_savedByWriting_13 : decode b_S_savedByWriting 13 = .ok (.getfield 9, 3) := by decide +kernel
theorem d_S_savedByWriting_16 : decode b_S_savedByWriting 16 = .ok (.iload_n 1, 1) := by decide +kernel
theorem d_S_savedByWriting_17 : decode b_S_savedByWriting 17 = .ok (.iaload, 1) := by decide +kernel
theorem d_S_savedByWriting_18 : decode b_S_savedByWriting 18 = .ok (.bipush 10, 2) := by decide +kernel
theorem d_S_savedByWriting_20 : decode b_S_savedByWriting 20 = .ok (.if_icmp .ne 5, 3) := by decide +kernel
theorem d_S_savedByWriting_23 : decode b_S_savedByWriting 23 = .ok (.iconst 0, 1) := by decide +kernel
theorem d_S_savedByWriting_24 : decode b_S_savedByWriting 24 = .ok (.ireturn, 1) := by decide +kernel
theorem d_S_savedByWriting_25 : decode b_S_savedByWriting 25 = .ok (.aload_n 0, 1) := by decide +kernel
theorem d_S_savedByWriting_26 : decode b_S_savedByWriting 26 = .ok (.iload_n 1, 1) := by decide +kernel
theorem d_S_savedByWriting_27 : decode b_S_savedByWriting 27 = .ok (.aload_n 0, 1) := by decide +kernel
theorem d_S_savedByWriting_28 : decode b_S_savedByWriting 28 = .ok (.getfield 29, 3) := by decide +kernel
theorem d_S_savedByWriting_31 : decode b_S_savedByWriting 31 = .ok (.invokevirtual 90, 3) := by decide +kernel
theorem d_S_savedByWriting_34 : decode b_S_savedByWriting 34 = .ok (.istore_n 3, 1) := by decide +kernel
theorem d_S_savedByWriting_35 : decode b_S_savedByWriting 35 = .ok (.aload_n 0, 1) := by decide +kernel
theorem d_S_savedByWriting_36 : decode b_S_savedByWriting 36 = .ok (.getfield 15, 3) := by decide +kernel
theorem d_S_savedByWriting_39 : decode b_S_savedByWriting 39 = .ok (.iload_n 1, 1) := by decide +kernel
theorem d_S_savedByWriting_40 : decode b_S_savedByWriting 40 = .ok (.iaload, 1) := by decide +kernel
theorem d_S_savedByWriting_41 : decode b_S_savedByWriting 41 = .ok (.istore 4, 2) := by decide +kernel
theorem d_S_savedByWriting_43 : decode b_S_savedByWriting 43 = .ok (.iload_n 1, 1) := by decide +kernel
theorem d_S_savedByWriting_44 : decode b_S_savedByWriting 44 = .ok (.ifCond .le 42, 3) := by decide +kernel
theorem d_S_savedByWriting_47 : decode b_S_savedByWriting 47 = .ok (.aload_n 0, 1) := by decide +kernel
theorem d_S_savedByWriting_48 : decode b_S_savedByWriting 48 = .ok (.getfield 9, 3) := by decide +kernel
theorem d_S_savedByWriting_51 : decode b_S_savedByWriting 51 = .ok (.iload_n 1, 1) := by decide +kernel
theorem d_S_savedByWriting_52 : decode b_S_savedByWriting 52 = .ok (.iconst 1, 1) := by decide +kernel
theorem d_S_savedByWriting_53 : decode b_S_savedByWriting 53 = .ok (.isub, 1) := by decide +kernel
theorem d_S_savedByWriting_54 : decode b_S_savedByWriting 54 = .ok (.iaload, 1) := by decide +kernel
theorem d_S_savedByWriting_55 : decode b_S_savedByWriting 55 = .ok (.iload_n 2, 1) := by decide +kernel
theorem d_S_savedByWriting_56 : decode b_S_savedByWriting 56 = .ok (.if_icmp .ne 30, 3) := by decide +kernel
theorem d_S_savedByWriting_59 : decode b_S_savedByWriting 59 = .ok (.iload_n 3, 1) := by decide +kernel
theorem d_S_savedByWriting_60 : decode b_S_savedByWriting 60 = .ok (.aload_n 0, 1) := by decide +kernel
theorem d_S_savedByWriting_61 : decode b_S_savedByWriting 61 = .ok (.iload_n 1, 1) := by decide +kernel
theorem d_S_savedByWriting_62 : decode b_S_savedByWriting 62 = .ok (.iconst 1, 1) := by decide +kernel
theorem d_S_savedByWriting_63 : decode b_S_savedByWriting 63 = .ok (.isub, 1) := by decide +kernel
theorem d_S_savedByWriting_64 : decode b_S_savedByWriting 64 = .ok (.aload_n 0, 1) := by decide +kernel
theorem d_S_savedByWriting_65 : decode b_S_savedByWriting 65 = .ok (.getfield 29, 3) := by decide +kernel
theorem d_S_savedByWriting_68 : decode b_S_savedByWriting 68 = .ok (.invokevirtual 90, 3) := by decide +kernel
theorem d_S_savedByWriting_71 : decode b_S_savedByWriting 71 = .ok (.iadd, 1) := by decide +kernel
theorem d_S_savedByWriting_72 : decode b_S_savedByWriting 72 = .ok (.istore_n 3, 1) := by decide +kernel
theorem d_S_savedByWriting_73 : decode b_S_savedByWriting 73 = .ok (.iload 4, 2) := by decide +kernel
theorem d_S_savedByWriting_75 : decode b_S_savedByWriting 75 = .ok (.aload_n 0, 1) := by decide +kernel
theorem d_S_savedByWriting_76 : decode b_S_savedByWriting 76 = .ok (.getfield 15, 3) := by decide +kernel
theorem d_S_savedByWriting_79 : decode b_S_savedByWriting 79 = .ok (.iload_n 1, 1) := by decide +kernel
theorem d_S_savedByWriting_80 : decode b_S_savedByWriting 80 = .ok (.iconst 1, 1) := by decide +kernel
theorem d_S_savedByWriting_81 : decode b_S_savedByWriting 81 = .ok (.isub, 1) := by decide +kernel
theorem d_S_savedByWriting_82 : decode b_S_savedByWriting 82 = .ok (.iaload, 1) := by decide +kernel
theorem d_S_savedByWriting_83 : decode b_S_savedByWriting 83 = .ok (.iadd, 1) := by decide +kernel
theorem d_S_savedByWriting_84 : decode b_S_savedByWriting 84 = .ok (.istore 4, 2) := by decide +kernel
theorem d_S_savedByWriting_86 : decode b_S_savedByWriting 86 = .ok (.iload_n 1, 1) := by decide +kernel
theorem d_S_savedByWriting_87 : decode b_S_savedByWriting 87 = .ok (.aload_n 0, 1) := by decide +kernel
theorem d_S_savedByWriting_88 : decode b_S_savedByWriting 88 = .ok (.getfield 18, 3) := by decide +kernel
theorem d_S_savedByWriting_91 : decode b_S_savedByWriting 91 = .ok (.iconst 1, 1) := by decide +kernel
theorem d_S_savedByWriting_92 : decode b_S_savedByWriting 92 = .ok (.isub, 1) := by decide +kernel
theorem d_S_savedByWriting_93 : decode b_S_savedByWriting 93 = .ok (.if_icmp .ge 42, 3) := by decide +kernel
theorem d_S_savedByWriting_96 : decode b_S_savedByWriting 96 = .ok (.aload_n 0, 1) := by decide +kernel
theorem d_S_savedByWriting_97 : decode b_S_savedByWriting 97 = .ok (.getfield 9, 3) := by decide +kernel
theorem d_S_savedByWriting_100 : decode b_S_savedByWriting 100 = .ok (.iload_n 1, 1) := by decide +kernel
theorem d_S_savedByWriting_101 : decode b_S_savedByWriting 101 = .ok (.iconst 1, 1) := by decide +kernel
theorem d_S_savedByWriting_102 : decode b_S_savedByWriting 102 = .ok (.iadd, 1) := by decide +kernel
theorem d_S_savedByWriting_103 : decode b_S_savedByWriting 103 = .ok (.iaload, 1) := by decide +kernel
theorem d_S_savedByWriting_104 : decode b_S_savedByWriting 104 = .ok (.iload_n 2, 1) := by decide +kernel
theorem d_S_savedByWriting_105 : decode b_S_savedByWriting 105 = .ok (.if_icmp .ne 30, 3) := by decide +kernel
theorem d_S_savedByWriting_108 : decode b_S_savedByWriting 108 = .ok (.iload_n 3, 1) := by decide +kernel
theorem d_S_savedByWriting_109 : decode b_S_savedByWriting 109 = .ok (.aload_n 0, 1) := by decide +kernel
theorem d_S_savedByWriting_110 : decode b_S_savedByWriting 110 = .ok (.iload_n 1, 1) := by decide +kernel
theorem d_S_savedByWriting_111 : decode b_S_savedByWriting 111 = .ok (.iconst 1, 1) := by decide +kernel
theorem d_S_savedByWriting_112 : decode b_S_savedByWriting 112 = .ok (.iadd, 1) := by decide +kernel
theorem d_S_savedByWriting_113 : decode b_S_savedByWriting 113 = .ok (.aload_n 0, 1) := by decide +kernel
theorem d_S_savedByWriting_114 : decode b_S_savedByWriting 114 = .ok (.getfield 29, 3) := by decide +kernel
theorem d_S_savedByWriting_117 : decode b_S_savedByWriting 117 = .ok (.invokevirtual 90, 3) := by decide +kernel
theorem d_S_savedByWriting_120 : decode b_S_savedByWriting 120 = .ok (.iadd, 1) := by decide +kernel
theorem d_S_savedByWriting_121 : decode b_S_savedByWriting 121 = .ok (.istore_n 3, 1) := by decide +kernel
theorem d_S_savedByWriting_122 : decode b_S_savedByWriting 122 = .ok (.iload 4, 2) := by decide +kernel
theorem d_S_savedByWriting_124 : decode b_S_savedByWriting 124 = .ok (.aload_n 0, 1) := by decide +kernel
theorem d_S_savedByWriting_125 : decode b_S_savedByWriting 125 = .ok (.getfield 15, 3) := by decide +kernel
theorem d_S_savedByWriting_128 : decode b_S_savedByWriting 128 = .ok (.iload_n 1, 1) := by decide +kernel
theorem d_S_savedByWriting_129 : decode b_S_savedByWriting 129 = .ok (.iconst 1, 1) := by decide +kernel
theorem d_S_savedByWriting_130 : decode b_S_savedByWriting 130 = .ok (.iadd, 1) := by decide +kernel
theorem d_S_savedByWriting_131 : decode b_S_savedByWriting 131 = .ok (.iaload, 1) := by decide +kernel
theorem d_S_savedByWriting_132 : decode b_S_savedByWriting 132 = .ok (.iadd, 1) := by decide +kernel
theorem d_S_savedByWriting_133 : decode b_S_savedByWriting 133 = .ok (.istore 4, 2) := by decide +kernel
theorem d_S_savedByWriting_135 : decode b_S_savedByWriting 135 = .ok (.iload_n 3, 1) := by decide +kernel
theorem d_S_savedByWriting_136 : decode b_S_savedByWriting 136 = .ok (.aload_n 0, 1) := by decide +kernel
theorem d_S_savedByWriting_137 : decode b_S_savedByWriting 137 = .ok (.getfield 29, 3) := by decide +kernel
theorem d_S_savedByWriting_140 : decode b_S_savedByWriting 140 = .ok (.iload_n 2, 1) := by decide +kernel
theorem d_S_savedByWriting_141 : decode b_S_savedByWriting 141 = .ok (.iload 4, 2) := by decide +kernel
theorem d_S_savedByWriting_143 : decode b_S_savedByWriting 143 = .ok (.invokestatic 64, 3) := by decide +kernel
theorem d_S_savedByWriting_146 : decode b_S_savedByWriting 146 = .ok (.isub, 1) := by decide +kernel
theorem d_S_savedByWriting_147 : decode b_S_savedByWriting 147 = .ok (.ireturn, 1) := by decide +kernel
set_option maxHeartbeats 4000000 in
set_option maxRecDepth 20000 in
theorem c_S_savedByWriting {l : Launch} {G : va_G} {tys : List (ClassId × FieldType)} {cI cO cZ : ClassId} (hT : TY tys cI cO cZ) (q a b : Nat) (sg ln : Int → Int) (r pl ov lc sd : Int) (N : Int) (v : Int → Int) (hO : Ok r sg ln N v) (hr : r ≤ 50) (hN : N ≤ 3000) (k val : Int) (hk : 0 ≤ k ∧ k < r) (hv : 0 ≤ val ∧ val ≤ 9) (hc : 0 ≤ lc ∧ lc ≤ 2) : CTI l G tys y_S_savedByWriting b_S_savedByWriting 5 .int 4 89 [.ref q, .int (iI k), .int (iI val)] (sw cI q a b sg ln r pl ov lc sd) (fun z u => u = sw cI q a b sg ln r pl ov lc sd ∧ (z = svd lc r sg ln k val)) := by
  refine mkI (by decide) (Nat.le_of_ble_eq_true rfl) ?_
  rintro X rfl rfl rfl hRm C kret H ls w hl
  have hl : lv_has ls 5 [(0, .ref q), (1, .int (iI k)), (2, .int (iI val))] := hl
  have w : Wd X (sw cI q a b sg ln r pl ov lc sd) H [] := w
  generalize ([] : List Loc) = locs at w ⊢
  have hr0 := hO.1
  have hN0 := hO.n0
  have hps := ps_zero ln
  have hpr := hO.2.2.2.1
  have hk2 := hO.run (k := k) (by omega) (by omega)
  refine r_iload_n (pc := 0) C d_S_savedByWriting_0 rfl (lv_at hl 1 rfl) ?_
  refine r_if_lt (pc := 1) (tgt := 23) C (by omega) d_S_savedByWriting_1 (by decide) (fun c_1 => ?_) (fun c_1 => ?_)
  · skip
    refine r_iconst (pc := 23) C d_S_savedByWriting_23 ?_
    exact kret _ _ _ _ 0 _ d_S_savedByWriting_24 w (⟨rfl, by unfold svd; (repeat' split) <;> first | omega | (simp only [Int.add_zero] <;> omega) | (exfalso; omega)⟩)
  · skip
    refine r_iload_n (pc := 4) C d_S_savedByWriting_4 rfl (lv_at hl 1 rfl) ?_
    refine r_aload_n (pc := 5) C d_S_savedByWriting_5 rfl (lv_at hl 0 rfl) ?_
    refine r_get (pc := 6) (v := .int (iI r)) C w i_S rfl 0 rfl 2 (by decide) fl_S_18 rfl rfl d_S_savedByWriting_6 ?_
    refine r_icmp_ge (pc := 9) (tgt := 23) C (by omega) d_S_savedByWriting_9 (by decide) (fun c_9 => ?_) (fun c_9 => ?_)
    · skip
      refine r_iconst (pc := 23) C d_S_savedByWriting_23 ?_
      exact kret _ _ _ _ 0 _ d_S_savedByWriting_24 w (⟨rfl, by unfold svd; (repeat' split) <;> first | omega | (simp only [Int.add_zero] <;> omega) | (exfalso; omega)⟩)
    · skip
      refine r_aload_n (pc := 12) C d_S_savedByWriting_12 rfl (lv_at hl 0 rfl) ?_
      refine r_get (pc := 13) (v := .ref a) C w i_S rfl 0 rfl 0 (by decide) fl_S_9 rfl rfl d_S_savedByWriting_13 ?_
      refine r_iload_n (pc := 16) C d_S_savedByWriting_16 rfl (lv_at hl 1 rfl) ?_
      refine r_iald (pc := 17) (f := sg) (i := k) C w 0 1 rfl hT.1 (by omega) d_S_savedByWriting_17 ?_
      refine r_bipush (pc := 18) C d_S_savedByWriting_18 (by decide) ?_
      refine r_icmp_ne (pc := 20) (tgt := 25) C (by omega) d_S_savedByWriting_20 (by decide) (fun c_20 => ?_) (fun c_20 => ?_)
      · skip
        refine r_aload_n (pc := 25) C d_S_savedByWriting_25 rfl (lv_at hl 0 rfl) ?_
        refine r_iload_n (pc := 26) C d_S_savedByWriting_26 rfl (lv_at hl 1 rfl) ?_
        refine r_aload_n (pc := 27) C d_S_savedByWriting_27 rfl (lv_at hl 0 rfl) ?_
        refine r_get (pc := 28) (v := .int (iI lc)) C w i_S rfl 0 rfl 5 (by decide) fl_S_29 rfl rfl d_S_savedByWriting_28 ?_
        refine r_callVI (pc := 31) (As := [.int (iI k), .int (iI lc)]) (rest := []) (wr := ([])) C w (c_S_bitsOf hT q a b sg ln r pl ov lc sd _ _ hO (by omega) (by omega) k lc (by omega) (by omega)) ml_S_90 im_S_bitsOf se_S_bitsOf ini_S cd_S_bitsOf hd_S_bitsOf rfl (by rw [hRm]; exact ⟨⟨Nat.le_of_ble_eq_true rfl, Nat.le_of_ble_eq_true rfl⟩, Nat.le_of_ble_eq_true rfl, Nat.le_of_ble_eq_true rfl⟩) hl.1 [0, 1, 2] [] ⟨rfl, rfl, by decide, by decide, by decide⟩ 0 rfl rfl rfl (Nat.le_of_ble_eq_true rfl) d_S_savedByWriting_31 (fun z_31 u_31 H locs hz_31 w => ?_)
        obtain ⟨rfl, hz_31⟩ := hz_31
        have w : Wd X (sw cI q a b sg ln r pl ov lc sd) H locs := w
        subst hz_31
        have hrb := rb_rg (code := lc) (s := sg k) (n := ln k) (by omega)
        refine r_istore_n (pc := 34) (lv' := [(3, .int (iI (rb lc (sg k) (ln k)))), (0, .ref q), (1, .int (iI k)), (2, .int (iI val))]) C d_S_savedByWriting_34 rfl hl (by decide) rfl (fun ls hl => ?_)
        refine r_aload_n (pc := 35) C d_S_savedByWriting_35 rfl (lv_at hl 1 rfl) ?_
        refine r_get (pc := 36) (v := .ref b) C w i_S rfl 0 rfl 1 (by decide) fl_S_15 rfl rfl d_S_savedByWriting_36 ?_
        refine r_iload_n (pc := 39) C d_S_savedByWriting_39 rfl (lv_at hl 2 rfl) ?_
        refine r_iald (pc := 40) (f := ln) (i := k) C w 0 2 rfl hT.1 (by omega) d_S_savedByWriting_40 ?_
        refine r_istore (pc := 41) (lv' := [(4, .int (iI (ln k))), (3, .int (iI (rb lc (sg k) (ln k)))), (0, .ref q), (1, .int (iI k)), (2, .int (iI val))]) C d_S_savedByWriting_41 hl (by decide) rfl (fun ls hl => ?_)
        refine r_iload_n (pc := 43) C d_S_savedByWriting_43 rfl (lv_at hl 3 rfl) ?_
        refine r_if_le (pc := 44) (tgt := 86) C (by omega) d_S_savedByWriting_44 (by decide) (fun c_44 => ?_) (fun c_44 => ?_)
        · skip
          refine r_iload_n (pc := 86) C d_S_savedByWriting_86 rfl (lv_at hl 3 rfl) ?_
          refine r_aload_n (pc := 87) C d_S_savedByWriting_87 rfl (lv_at hl 2 rfl) ?_
          refine r_get (pc := 88) (v := .int (iI r)) C w i_S rfl 0 rfl 2 (by decide) fl_S_18 rfl rfl d_S_savedByWriting_88 ?_
          refine r_iconst (pc := 91) C d_S_savedByWriting_91 ?_
          refine r_isub (pc := 92) C d_S_savedByWriting_92 ?_
          refine r_icmp_ge (pc := 93) (tgt := 135) C (by omega) d_S_savedByWriting_93 (by decide) (fun c_93 => ?_) (fun c_93 => ?_)
          · skip
            refine r_iload_n (pc := 135) C d_S_savedByWriting_135 rfl (lv_at hl 1 rfl) ?_
            refine r_aload_n (pc := 136) C d_S_savedByWriting_136 rfl (lv_at hl 2 rfl) ?_
            refine r_get (pc := 137) (v := .int (iI lc)) C w i_S rfl 0 rfl 5 (by decide) fl_S_29 rfl rfl d_S_savedByWriting_137 ?_
            refine r_iload_n (pc := 140) C d_S_savedByWriting_140 rfl (lv_at hl 4 rfl) ?_
            refine r_iload (pc := 141) C d_S_savedByWriting_141 (lv_at hl 0 rfl) ?_
            refine r_callP (pc := 143) (As := [.int (iI lc), .int (iI val), .int (iI (ln k))]) (rest := [.int (iI (rb lc (sg k) (ln k)))]) C w (c_C_bitsOfRun lc val (ln k) (by omega) (by omega) (by omega)) ml_S_64 st_C_bitsOfRun ini_C cd_C_bitsOfRun hd_C_bitsOfRun rfl (by rw [hRm]; exact ⟨⟨Nat.le_of_ble_eq_true rfl, Nat.le_of_ble_eq_true rfl⟩, Nat.le_of_ble_eq_true rfl, Nat.le_of_ble_eq_true rfl⟩) hl.1 rfl (Nat.le_of_ble_eq_true rfl) d_S_savedByWriting_143 (fun z_143 H locs hz_143 w => ?_)
            subst hz_143
            have hrb := rb_rg (code := lc) (s := val) (n := (ln k)) (by omega)
            refine r_isub (pc := 146) C d_S_savedByWriting_146 ?_
            exact kret _ _ _ _ ((rb lc (sg k) (ln k)) - (rb lc val (ln k))) _ d_S_savedByWriting_147 w (⟨rfl, by unfold svd; (repeat' split) <;> first | omega | (simp only [Int.add_zero] <;> omega) | (exfalso; omega)⟩)
          · skip
            have hk4 := hO.run (k := k + 1) (by omega) (by omega)
            refine r_aload_n (pc := 96) C d_S_savedByWriting_96 rfl (lv_at hl 2 rfl) ?_
            refine r_get (pc := 97) (v := .ref a) C w i_S rfl 0 rfl 0 (by decide) fl_S_9 rfl rfl d_S_savedByWriting_97 ?_
            refine r_iload_n (pc := 100) C d_S_savedByWriting_100 rfl (lv_at hl 3 rfl) ?_
            refine r_iconst (pc := 101) C d_S_savedByWriting_101 ?_
            refine r_iadd (pc := 102) C d_S_savedByWriting_102 ?_
            refine r_iald (pc := 103) (f := sg) (i := (k + 1)) C w 0 1 rfl hT.1 (by omega) d_S_savedByWriting_103 ?_
            refine r_iload_n (pc := 104) C d_S_savedByWriting_104 rfl (lv_at hl 4 rfl) ?_
            refine r_icmp_ne (pc := 105) (tgt := 135) C (by omega) d_S_savedByWriting_105 (by decide) (fun c_105 => ?_) (fun c_105 => ?_)
            · skip
              refine r_iload_n (pc := 135) C d_S_savedByWriting_135 rfl (lv_at hl 1 rfl) ?_
              refine r_aload_n (pc := 136) C d_S_savedByWriting_136 rfl (lv_at hl 2 rfl) ?_
              refine r_get (pc := 137) (v := .int (iI lc)) C w i_S rfl 0 rfl 5 (by decide) fl_S_29 rfl rfl d_S_savedByWriting_137 ?_
              refine r_iload_n (pc := 140) C d_S_savedByWriting_140 rfl (lv_at hl 4 rfl) ?_
              refine r_iload (pc := 141) C d_S_savedByWriting_141 (lv_at hl 0 rfl) ?_
              refine r_callP (pc := 143) (As := [.int (iI lc), .int (iI val), .int (iI (ln k))]) (rest := [.int (iI (rb lc (sg k) (ln k)))]) C w (c_C_bitsOfRun lc val (ln k) (by omega) (by omega) (by omega)) ml_S_64 st_C_bitsOfRun ini_C cd_C_bitsOfRun hd_C_bitsOfRun rfl (by rw [hRm]; exact ⟨⟨Nat.le_of_ble_eq_true rfl, Nat.le_of_ble_eq_true rfl⟩, Nat.le_of_ble_eq_true rfl, Nat.le_of_ble_eq_true rfl⟩) hl.1 rfl (Nat.le_of_ble_eq_true rfl) d_S_savedByWriting_143 (fun z_143 H locs hz_143 w => ?_)
              subst hz_143
              have hrb := rb_rg (code := lc) (s := val) (n := (ln k)) (by omega)
              refine r_isub (pc := 146) C d_S_savedByWriting_146 ?_
              exact kret _ _ _ _ ((rb lc (sg k) (ln k)) - (rb lc val (ln k))) _ d_S_savedByWriting_147 w (⟨rfl, by unfold svd; (repeat' split) <;> first | omega | (simp only [Int.add_zero] <;> omega) | (exfalso; omega)⟩)
            · skip
              refine r_iload_n (pc := 108) C d_S_savedByWriting_108 rfl (lv_at hl 1 rfl) ?_
              refine r_aload_n (pc := 109) C d_S_savedByWriting_109 rfl (lv_at hl 2 rfl) ?_
              refine r_iload_n (pc := 110) C d_S_savedByWriting_110 rfl (lv_at hl 3 rfl) ?_
              refine r_iconst (pc := 111) C d_S_savedByWriting_111 ?_
              refine r_iadd (pc := 112) C d_S_savedByWriting_112 ?_
              refine r_aload_n (pc := 113) C d_S_savedByWriting_113 rfl (lv_at hl 2 rfl) ?_
              refine r_get (pc := 114) (v := .int (iI lc)) C w i_S rfl 0 rfl 5 (by decide) fl_S_29 rfl rfl d_S_savedByWriting_114 ?_
              refine r_callVI (pc := 117) (As := [.int (iI (k + 1)), .int (iI lc)]) (rest := [.int (iI (rb lc (sg k) (ln k)))]) (wr := ([])) C w (c_S_bitsOf hT q a b sg ln r pl ov lc sd _ _ hO (by omega) (by omega) (k + 1) lc (by omega) (by omega)) ml_S_90 im_S_bitsOf se_S_bitsOf ini_S cd_S_bitsOf hd_S_bitsOf rfl (by rw [hRm]; exact ⟨⟨Nat.le_of_ble_eq_true rfl, Nat.le_of_ble_eq_true rfl⟩, Nat.le_of_ble_eq_true rfl, Nat.le_of_ble_eq_true rfl⟩) hl.1 [0, 1, 2] [] ⟨rfl, rfl, by decide, by decide, by decide⟩ 0 rfl rfl rfl (Nat.le_of_ble_eq_true rfl) d_S_savedByWriting_117 (fun z_117 u_117 H locs hz_117 w => ?_)
              obtain ⟨rfl, hz_117⟩ := hz_117
              have w : Wd X (sw cI q a b sg ln r pl ov lc sd) H locs := w
              subst hz_117
              have hrb := rb_rg (code := lc) (s := sg (k + 1)) (n := ln (k + 1)) (by omega)
              refine r_iadd (pc := 120) C d_S_savedByWriting_120 ?_
              refine r_istore_n (pc := 121) (lv' := [(3, .int (iI ((rb lc (sg k) (ln k)) + (rb lc (sg (k + 1)) (ln (k + 1)))))), (4, .int (iI (ln k))), (0, .ref q), (1, .int (iI k)), (2, .int (iI val))]) C d_S_savedByWriting_121 rfl hl (by decide) rfl (fun ls hl => ?_)
              refine r_iload (pc := 122) C d_S_savedByWriting_122 (lv_at hl 1 rfl) ?_
              refine r_aload_n (pc := 124) C d_S_savedByWriting_124 rfl (lv_at hl 2 rfl) ?_
              refine r_get (pc := 125) (v := .ref b) C w i_S rfl 0 rfl 1 (by decide) fl_S_15 rfl rfl d_S_savedByWriting_125 ?_
              refine r_iload_n (pc := 128) C d_S_savedByWriting_128 rfl (lv_at hl 3 rfl) ?_
              refine r_iconst (pc := 129) C d_S_savedByWriting_129 ?_
              refine r_iadd (pc := 130) C d_S_savedByWriting_130 ?_
              refine r_iald (pc := 131) (f := ln) (i := (k + 1)) C w 0 2 rfl hT.1 (by omega) d_S_savedByWriting_131 ?_
              refine r_iadd (pc := 132) C d_S_savedByWriting_132 ?_
              refine r_istore (pc := 133) (lv' := [(4, .int (iI ((ln k) + (ln (k + 1))))), (3, .int (iI ((rb lc (sg k) (ln k)) + (rb lc (sg (k + 1)) (ln (k + 1)))))), (0, .ref q), (1, .int (iI k)), (2, .int (iI val))]) C d_S_savedByWriting_133 hl (by decide) rfl (fun ls hl => ?_)
              refine r_iload_n (pc := 135) C d_S_savedByWriting_135 rfl (lv_at hl 1 rfl) ?_
              refine r_aload_n (pc := 136) C d_S_savedByWriting_136 rfl (lv_at hl 2 rfl) ?_
              refine r_get (pc := 137) (v := .int (iI lc)) C w i_S rfl 0 rfl 5 (by decide) fl_S_29 rfl rfl d_S_savedByWriting_137 ?_
              refine r_iload_n (pc := 140) C d_S_savedByWriting_140 rfl (lv_at hl 4 rfl) ?_
              refine r_iload (pc := 141) C d_S_savedByWriting_141 (lv_at hl 0 rfl) ?_
              refine r_callP (pc := 143) (As := [.int (iI lc), .int (iI val), .int (iI ((ln k) + (ln (k + 1))))]) (rest := [.int (iI ((rb lc (sg k) (ln k)) + (rb lc (sg (k + 1)) (ln (k + 1)))))]) C w (c_C_bitsOfRun lc val ((ln k) + (ln (k + 1))) (by omega) (by omega) (by omega)) ml_S_64 st_C_bitsOfRun ini_C cd_C_bitsOfRun hd_C_bitsOfRun rfl (by rw [hRm]; exact ⟨⟨Nat.le_of_ble_eq_true rfl, Nat.le_of_ble_eq_true rfl⟩, Nat.le_of_ble_eq_true rfl, Nat.le_of_ble_eq_true rfl⟩) hl.1 rfl (Nat.le_of_ble_eq_true rfl) d_S_savedByWriting_143 (fun z_143 H locs hz_143 w => ?_)
              subst hz_143
              have hrb := rb_rg (code := lc) (s := val) (n := ((ln k) + (ln (k + 1)))) (by omega)
              refine r_isub (pc := 146) C d_S_savedByWriting_146 ?_
              exact kret _ _ _ _ (((rb lc (sg k) (ln k)) + (rb lc (sg (k + 1)) (ln (k + 1)))) - (rb lc val ((ln k) + (ln (k + 1))))) _ d_S_savedByWriting_147 w (⟨rfl, by unfold svd; (repeat' split) <;> first | omega | (simp only [Int.add_zero] <;> omega) | (exfalso; omega)⟩)
        · skip
          have hk3 := hO.run (k := k - 1) (by omega) (by omega)
          refine r_aload_n (pc := 47) C d_S_savedByWriting_47 rfl (lv_at hl 2 rfl) ?_
          refine r_get (pc := 48) (v := .ref a) C w i_S rfl 0 rfl 0 (by decide) fl_S_9 rfl rfl d_S_savedByWriting_48 ?_
          refine r_iload_n (pc := 51) C d_S_savedByWriting_51 rfl (lv_at hl 3 rfl) ?_
          refine r_iconst (pc := 52) C d_S_savedByWriting_52 ?_
          refine r_isub (pc := 53) C d_S_savedByWriting_53 ?_
          refine r_iald (pc := 54) (f := sg) (i := (k - 1)) C w 0 1 rfl hT.1 (by omega) d_S_savedByWriting_54 ?_
          refine r_iload_n (pc := 55) C d_S_savedByWriting_55 rfl (lv_at hl 4 rfl) ?_
          refine r_icmp_ne (pc := 56) (tgt := 86) C (by omega) d_S_savedByWriting_56 (by decide) (fun c_56 => ?_) (fun c_56 => ?_)
          · skip
            refine r_iload_n (pc := 86) C d_S_savedByWriting_86 rfl (lv_at hl 3 rfl) ?_
            refine r_aload_n (pc := 87) C d_S_savedByWriting_87 rfl (lv_at hl 2 rfl) ?_
            refine r_get (pc := 88) (v := .int (iI r)) C w i_S rfl 0 rfl 2 (by decide) fl_S_18 rfl rfl d_S_savedByWriting_88 ?_
            refine r_iconst (pc := 91) C d_S_savedByWriting_91 ?_
            refine r_isub (pc := 92) C d_S_savedByWriting_92 ?_
            refine r_icmp_ge (pc := 93) (tgt := 135) C (by omega) d_S_savedByWriting_93 (by decide) (fun c_93 => ?_) (fun c_93 => ?_)
            · skip
              refine r_iload_n (pc := 135) C d_S_savedByWriting_135 rfl (lv_at hl 1 rfl) ?_
              refine r_aload_n (pc := 136) C d_S_savedByWriting_136 rfl (lv_at hl 2 rfl) ?_
              refine r_get (pc := 137) (v := .int (iI lc)) C w i_S rfl 0 rfl 5 (by decide) fl_S_29 rfl rfl d_S_savedByWriting_137 ?_
              refine r_iload_n (pc := 140) C d_S_savedByWriting_140 rfl (lv_at hl 4 rfl) ?_
              refine r_iload (pc := 141) C d_S_savedByWriting_141 (lv_at hl 0 rfl) ?_
              refine r_callP (pc := 143) (As := [.int (iI lc), .int (iI val), .int (iI (ln k))]) (rest := [.int (iI (rb lc (sg k) (ln k)))]) C w (c_C_bitsOfRun lc val (ln k) (by omega) (by omega) (by omega)) ml_S_64 st_C_bitsOfRun ini_C cd_C_bitsOfRun hd_C_bitsOfRun rfl (by rw [hRm]; exact ⟨⟨Nat.le_of_ble_eq_true rfl, Nat.le_of_ble_eq_true rfl⟩, Nat.le_of_ble_eq_true rfl, Nat.le_of_ble_eq_true rfl⟩) hl.1 rfl (Nat.le_of_ble_eq_true rfl) d_S_savedByWriting_143 (fun z_143 H locs hz_143 w => ?_)
              subst hz_143
              have hrb := rb_rg (code := lc) (s := val) (n := (ln k)) (by omega)
              refine r_isub (pc := 146) C d_S_savedByWriting_146 ?_
              exact kret _ _ _ _ ((rb lc (sg k) (ln k)) - (rb lc val (ln k))) _ d_S_savedByWriting_147 w (⟨rfl, by unfold svd; (repeat' split) <;> first | omega | (simp only [Int.add_zero] <;> omega) | (exfalso; omega)⟩)
            · skip
              have hk4 := hO.run (k := k + 1) (by omega) (by omega)
              refine r_aload_n (pc := 96) C d_S_savedByWriting_96 rfl (lv_at hl 2 rfl) ?_
              refine r_get (pc := 97) (v := .ref a) C w i_S rfl 0 rfl 0 (by decide) fl_S_9 rfl rfl d_S_savedByWriting_97 ?_
              refine r_iload_n (pc := 100) C d_S_savedByWriting_100 rfl (lv_at hl 3 rfl) ?_
              refine r_iconst (pc := 101) C d_S_savedByWriting_101 ?_
              refine r_iadd (pc := 102) C d_S_savedByWriting_102 ?_
              refine r_iald (pc := 103) (f := sg) (i := (k + 1)) C w 0 1 rfl hT.1 (by omega) d_S_savedByWriting_103 ?_
              refine r_iload_n (pc := 104) C d_S_savedByWriting_104 rfl (lv_at hl 4 rfl) ?_
              refine r_icmp_ne (pc := 105) (tgt := 135) C (by omega) d_S_savedByWriting_105 (by decide) (fun c_105 => ?_) (fun c_105 => ?_)
              · skip
                refine r_iload_n (pc := 135) C d_S_savedByWriting_135 rfl (lv_at hl 1 rfl) ?_
                refine r_aload_n (pc := 136) C d_S_savedByWriting_136 rfl (lv_at hl 2 rfl) ?_
                refine r_get (pc := 137) (v := .int (iI lc)) C w i_S rfl 0 rfl 5 (by decide) fl_S_29 rfl rfl d_S_savedByWriting_137 ?_
                refine r_iload_n (pc := 140) C d_S_savedByWriting_140 rfl (lv_at hl 4 rfl) ?_
                refine r_iload (pc := 141) C d_S_savedByWriting_141 (lv_at hl 0 rfl) ?_
                refine r_callP (pc := 143) (As := [.int (iI lc), .int (iI val), .int (iI (ln k))]) (rest := [.int (iI (rb lc (sg k) (ln k)))]) C w (c_C_bitsOfRun lc val (ln k) (by omega) (by omega) (by omega)) ml_S_64 st_C_bitsOfRun ini_C cd_C_bitsOfRun hd_C_bitsOfRun rfl (by rw [hRm]; exact ⟨⟨Nat.le_of_ble_eq_true rfl, Nat.le_of_ble_eq_true rfl⟩, Nat.le_of_ble_eq_true rfl, Nat.le_of_ble_eq_true rfl⟩) hl.1 rfl (Nat.le_of_ble_eq_true rfl) d_S_savedByWriting_143 (fun z_143 H locs hz_143 w => ?_)
                subst hz_143
                have hrb := rb_rg (code := lc) (s := val) (n := (ln k)) (by omega)
                refine r_isub (pc := 146) C d_S_savedByWriting_146 ?_
                exact kret _ _ _ _ ((rb lc (sg k) (ln k)) - (rb lc val (ln k))) _ d_S_savedByWriting_147 w (⟨rfl, by unfold svd; (repeat' split) <;> first | omega | (simp only [Int.add_zero] <;> omega) | (exfalso; omega)⟩)
              · skip
                refine r_iload_n (pc := 108) C d_S_savedByWriting_108 rfl (lv_at hl 1 rfl) ?_
                refine r_aload_n (pc := 109) C d_S_savedByWriting_109 rfl (lv_at hl 2 rfl) ?_
                refine r_iload_n (pc := 110) C d_S_savedByWriting_110 rfl (lv_at hl 3 rfl) ?_
                refine r_iconst (pc := 111) C d_S_savedByWriting_111 ?_
                refine r_iadd (pc := 112) C d_S_savedByWriting_112 ?_
                refine r_aload_n (pc := 113) C d_S_savedByWriting_113 rfl (lv_at hl 2 rfl) ?_
                refine r_get (pc := 114) (v := .int (iI lc)) C w i_S rfl 0 rfl 5 (by decide) fl_S_29 rfl rfl d_S_savedByWriting_114 ?_
                refine r_callVI (pc := 117) (As := [.int (iI (k + 1)), .int (iI lc)]) (rest := [.int (iI (rb lc (sg k) (ln k)))]) (wr := ([])) C w (c_S_bitsOf hT q a b sg ln r pl ov lc sd _ _ hO (by omega) (by omega) (k + 1) lc (by omega) (by omega)) ml_S_90 im_S_bitsOf se_S_bitsOf ini_S cd_S_bitsOf hd_S_bitsOf rfl (by rw [hRm]; exact ⟨⟨Nat.le_of_ble_eq_true rfl, Nat.le_of_ble_eq_true rfl⟩, Nat.le_of_ble_eq_true rfl, Nat.le_of_ble_eq_true rfl⟩) hl.1 [0, 1, 2] [] ⟨rfl, rfl, by decide, by decide, by decide⟩ 0 rfl rfl rfl (Nat.le_of_ble_eq_true rfl) d_S_savedByWriting_117 (fun z_117 u_117 H locs hz_117 w => ?_)
                obtain ⟨rfl, hz_117⟩ := hz_117
                have w : Wd X (sw cI q a b sg ln r pl ov lc sd) H locs := w
                subst hz_117
                have hrb := rb_rg (code := lc) (s := sg (k + 1)) (n := ln (k + 1)) (by omega)
                refine r_iadd (pc := 120) C d_S_savedByWriting_120 ?_
                refine r_istore_n (pc := 121) (lv' := [(3, .int (iI ((rb lc (sg k) (ln k)) + (rb lc (sg (k + 1)) (ln (k + 1)))))), (4, .int (iI (ln k))), (0, .ref q), (1, .int (iI k)), (2, .int (iI val))]) C d_S_savedByWriting_121 rfl hl (by decide) rfl (fun ls hl => ?_)
                refine r_iload (pc := 122) C d_S_savedByWriting_122 (lv_at hl 1 rfl) ?_
                refine r_aload_n (pc := 124) C d_S_savedByWriting_124 rfl (lv_at hl 2 rfl) ?_
                refine r_get (pc := 125) (v := .ref b) C w i_S rfl 0 rfl 1 (by decide) fl_S_15 rfl rfl d_S_savedByWriting_125 ?_
                refine r_iload_n (pc := 128) C d_S_savedByWriting_128 rfl (lv_at hl 3 rfl) ?_
                refine r_iconst (pc := 129) C d_S_savedByWriting_129 ?_
                refine r_iadd (pc := 130) C d_S_savedByWriting_130 ?_
                refine r_iald (pc := 131) (f := ln) (i := (k + 1)) C w 0 2 rfl hT.1 (by omega) d_S_savedByWriting_131 ?_
                refine r_iadd (pc := 132) C d_S_savedByWriting_132 ?_
                refine r_istore (pc := 133) (lv' := [(4, .int (iI ((ln k) + (ln (k + 1))))), (3, .int (iI ((rb lc (sg k) (ln k)) + (rb lc (sg (k + 1)) (ln (k + 1)))))), (0, .ref q), (1, .int (iI k)), (2, .int (iI val))]) C d_S_savedByWriting_133 hl (by decide) rfl (fun ls hl => ?_)
                refine r_iload_n (pc := 135) C d_S_savedByWriting_135 rfl (lv_at hl 1 rfl) ?_
                refine r_aload_n (pc := 136) C d_S_savedByWriting_136 rfl (lv_at hl 2 rfl) ?_
                refine r_get (pc := 137) (v := .int (iI lc)) C w i_S rfl 0 rfl 5 (by decide) fl_S_29 rfl rfl d_S_savedByWriting_137 ?_
                refine r_iload_n (pc := 140) C d_S_savedByWriting_140 rfl (lv_at hl 4 rfl) ?_
                refine r_iload (pc := 141) C d_S_savedByWriting_141 (lv_at hl 0 rfl) ?_
                refine r_callP (pc := 143) (As := [.int (iI lc), .int (iI val), .int (iI ((ln k) + (ln (k + 1))))]) (rest := [.int (iI ((rb lc (sg k) (ln k)) + (rb lc (sg (k + 1)) (ln (k + 1)))))]) C w (c_C_bitsOfRun lc val ((ln k) + (ln (k + 1))) (by omega) (by omega) (by omega)) ml_S_64 st_C_bitsOfRun ini_C cd_C_bitsOfRun hd_C_bitsOfRun rfl (by rw [hRm]; exact ⟨⟨Nat.le_of_ble_eq_true rfl, Nat.le_of_ble_eq_true rfl⟩, Nat.le_of_ble_eq_true rfl, Nat.le_of_ble_eq_true rfl⟩) hl.1 rfl (Nat.le_of_ble_eq_true rfl) d_S_savedByWriting_143 (fun z_143 H locs hz_143 w => ?_)
                subst hz_143
                have hrb := rb_rg (code := lc) (s := val) (n := ((ln k) + (ln (k + 1)))) (by omega)
                refine r_isub (pc := 146) C d_S_savedByWriting_146 ?_
                exact kret _ _ _ _ (((rb lc (sg k) (ln k)) + (rb lc (sg (k + 1)) (ln (k + 1)))) - (rb lc val ((ln k) + (ln (k + 1))))) _ d_S_savedByWriting_147 w (⟨rfl, by unfold svd; (repeat' split) <;> first | omega | (simp only [Int.add_zero] <;> omega) | (exfalso; omega)⟩)
          · skip
            refine r_iload_n (pc := 59) C d_S_savedByWriting_59 rfl (lv_at hl 1 rfl) ?_
            refine r_aload_n (pc := 60) C d_S_savedByWriting_60 rfl (lv_at hl 2 rfl) ?_
            refine r_iload_n (pc := 61) C d_S_savedByWriting_61 rfl (lv_at hl 3 rfl) ?_
            refine r_iconst (pc := 62) C d_S_savedByWriting_62 ?_
            refine r_isub (pc := 63) C d_S_savedByWriting_63 ?_
            refine r_aload_n (pc := 64) C d_S_savedByWriting_64 rfl (lv_at hl 2 rfl) ?_
            refine r_get (pc := 65) (v := .int (iI lc)) C w i_S rfl 0 rfl 5 (by decide) fl_S_29 rfl rfl d_S_savedByWriting_65 ?_
            refine r_callVI (pc := 68) (As := [.int (iI (k - 1)), .int (iI lc)]) (rest := [.int (iI (rb lc (sg k) (ln k)))]) (wr := ([])) C w (c_S_bitsOf hT q a b sg ln r pl ov lc sd _ _ hO (by omega) (by omega) (k - 1) lc (by omega) (by omega)) ml_S_90 im_S_bitsOf se_S_bitsOf ini_S cd_S_bitsOf hd_S_bitsOf rfl (by rw [hRm]; exact ⟨⟨Nat.le_of_ble_eq_true rfl, Nat.le_of_ble_eq_true rfl⟩, Nat.le_of_ble_eq_true rfl, Nat.le_of_ble_eq_true rfl⟩) hl.1 [0, 1, 2] [] ⟨rfl, rfl, by decide, by decide, by decide⟩ 0 rfl rfl rfl (Nat.le_of_ble_eq_true rfl) d_S_savedByWriting_68 (fun z_68 u_68 H locs hz_68 w => ?_)
            obtain ⟨rfl, hz_68⟩ := hz_68
            have w : Wd X (sw cI q a b sg ln r pl ov lc sd) H locs := w
            subst hz_68
            have hrb := rb_rg (code := lc) (s := sg (k - 1)) (n := ln (k - 1)) (by omega)
            refine r_iadd (pc := 71) C d_S_savedByWriting_71 ?_
            refine r_istore_n (pc := 72) (lv' := [(3, .int (iI ((rb lc (sg k) (ln k)) + (rb lc (sg (k - 1)) (ln (k - 1)))))), (4, .int (iI (ln k))), (0, .ref q), (1, .int (iI k)), (2, .int (iI val))]) C d_S_savedByWriting_72 rfl hl (by decide) rfl (fun ls hl => ?_)
            refine r_iload (pc := 73) C d_S_savedByWriting_73 (lv_at hl 1 rfl) ?_
            refine r_aload_n (pc := 75) C d_S_savedByWriting_75 rfl (lv_at hl 2 rfl) ?_
            refine r_get (pc := 76) (v := .ref b) C w i_S rfl 0 rfl 1 (by decide) fl_S_15 rfl rfl d_S_savedByWriting_76 ?_
            refine r_iload_n (pc := 79) C d_S_savedByWriting_79 rfl (lv_at hl 3 rfl) ?_
            refine r_iconst (pc := 80) C d_S_savedByWriting_80 ?_
            refine r_isub (pc := 81) C d_S_savedByWriting_81 ?_
            refine r_iald (pc := 82) (f := ln) (i := (k - 1)) C w 0 2 rfl hT.1 (by omega) d_S_savedByWriting_82 ?_
            refine r_iadd (pc := 83) C d_S_savedByWriting_83 ?_
            refine r_istore (pc := 84) (lv' := [(4, .int (iI ((ln k) + (ln (k - 1))))), (3, .int (iI ((rb lc (sg k) (ln k)) + (rb lc (sg (k - 1)) (ln (k - 1)))))), (0, .ref q), (1, .int (iI k)), (2, .int (iI val))]) C d_S_savedByWriting_84 hl (by decide) rfl (fun ls hl => ?_)
            refine r_iload_n (pc := 86) C d_S_savedByWriting_86 rfl (lv_at hl 3 rfl) ?_
            refine r_aload_n (pc := 87) C d_S_savedByWriting_87 rfl (lv_at hl 2 rfl) ?_
            refine r_get (pc := 88) (v := .int (iI r)) C w i_S rfl 0 rfl 2 (by decide) fl_S_18 rfl rfl d_S_savedByWriting_88 ?_
            refine r_iconst (pc := 91) C d_S_savedByWriting_91 ?_
            refine r_isub (pc := 92) C d_S_savedByWriting_92 ?_
            refine r_icmp_ge (pc := 93) (tgt := 135) C (by omega) d_S_savedByWriting_93 (by decide) (fun c_93 => ?_) (fun c_93 => ?_)
            · skip
              refine r_iload_n (pc := 135) C d_S_savedByWriting_135 rfl (lv_at hl 1 rfl) ?_
              refine r_aload_n (pc := 136) C d_S_savedByWriting_136 rfl (lv_at hl 2 rfl) ?_
              refine r_get (pc := 137) (v := .int (iI lc)) C w i_S rfl 0 rfl 5 (by decide) fl_S_29 rfl rfl d_S_savedByWriting_137 ?_
              refine r_iload_n (pc := 140) C d_S_savedByWriting_140 rfl (lv_at hl 4 rfl) ?_
              refine r_iload (pc := 141) C d_S_savedByWriting_141 (lv_at hl 0 rfl) ?_
              refine r_callP (pc := 143) (As := [.int (iI lc), .int (iI val), .int (iI ((ln k) + (ln (k - 1))))]) (rest := [.int (iI ((rb lc (sg k) (ln k)) + (rb lc (sg (k - 1)) (ln (k - 1)))))]) C w (c_C_bitsOfRun lc val ((ln k) + (ln (k - 1))) (by omega) (by omega) (by omega)) ml_S_64 st_C_bitsOfRun ini_C cd_C_bitsOfRun hd_C_bitsOfRun rfl (by rw [hRm]; exact ⟨⟨Nat.le_of_ble_eq_true rfl, Nat.le_of_ble_eq_true rfl⟩, Nat.le_of_ble_eq_true rfl, Nat.le_of_ble_eq_true rfl⟩) hl.1 rfl (Nat.le_of_ble_eq_true rfl) d_S_savedByWriting_143 (fun z_143 H locs hz_143 w => ?_)
              subst hz_143
              have hrb := rb_rg (code := lc) (s := val) (n := ((ln k) + (ln (k - 1)))) (by omega)
              refine r_isub (pc := 146) C d_S_savedByWriting_146 ?_
              exact kret _ _ _ _ (((rb lc (sg k) (ln k)) + (rb lc (sg (k - 1)) (ln (k - 1)))) - (rb lc val ((ln k) + (ln (k - 1))))) _ d_S_savedByWriting_147 w (⟨rfl, by unfold svd; (repeat' split) <;> first | omega | (simp only [Int.add_zero] <;> omega) | (exfalso; omega)⟩)
            · skip
              have hk4 := hO.run (k := k + 1) (by omega) (by omega)
              refine r_aload_n (pc := 96) C d_S_savedByWriting_96 rfl (lv_at hl 2 rfl) ?_
              refine r_get (pc := 97) (v := .ref a) C w i_S rfl 0 rfl 0 (by decide) fl_S_9 rfl rfl d_S_savedByWriting_97 ?_
              refine r_iload_n (pc := 100) C d_S_savedByWriting_100 rfl (lv_at hl 3 rfl) ?_
              refine r_iconst (pc := 101) C d_S_savedByWriting_101 ?_
              refine r_iadd (pc := 102) C d_S_savedByWriting_102 ?_
              refine r_iald (pc := 103) (f := sg) (i := (k + 1)) C w 0 1 rfl hT.1 (by omega) d_S_savedByWriting_103 ?_
              refine r_iload_n (pc := 104) C d_S_savedByWriting_104 rfl (lv_at hl 4 rfl) ?_
              refine r_icmp_ne (pc := 105) (tgt := 135) C (by omega) d_S_savedByWriting_105 (by decide) (fun c_105 => ?_) (fun c_105 => ?_)
              · skip
                refine r_iload_n (pc := 135) C d_S_savedByWriting_135 rfl (lv_at hl 1 rfl) ?_
                refine r_aload_n (pc := 136) C d_S_savedByWriting_136 rfl (lv_at hl 2 rfl) ?_
                refine r_get (pc := 137) (v := .int (iI lc)) C w i_S rfl 0 rfl 5 (by decide) fl_S_29 rfl rfl d_S_savedByWriting_137 ?_
                refine r_iload_n (pc := 140) C d_S_savedByWriting_140 rfl (lv_at hl 4 rfl) ?_
                refine r_iload (pc := 141) C d_S_savedByWriting_141 (lv_at hl 0 rfl) ?_
                refine r_callP (pc := 143) (As := [.int (iI lc), .int (iI val), .int (iI ((ln k) + (ln (k - 1))))]) (rest := [.int (iI ((rb lc (sg k) (ln k)) + (rb lc (sg (k - 1)) (ln (k - 1)))))]) C w (c_C_bitsOfRun lc val ((ln k) + (ln (k - 1))) (by omega) (by omega) (by omega)) ml_S_64 st_C_bitsOfRun ini_C cd_C_bitsOfRun hd_C_bitsOfRun rfl (by rw [hRm]; exact ⟨⟨Nat.le_of_ble_eq_true rfl, Nat.le_of_ble_eq_true rfl⟩, Nat.le_of_ble_eq_true rfl, Nat.le_of_ble_eq_true rfl⟩) hl.1 rfl (Nat.le_of_ble_eq_true rfl) d_S_savedByWriting_143 (fun z_143 H locs hz_143 w => ?_)
                subst hz_143
                have hrb := rb_rg (code := lc) (s := val) (n := ((ln k) + (ln (k - 1)))) (by omega)
                refine r_isub (pc := 146) C d_S_savedByWriting_146 ?_
                exact kret _ _ _ _ (((rb lc (sg k) (ln k)) + (rb lc (sg (k - 1)) (ln (k - 1)))) - (rb lc val ((ln k) + (ln (k - 1))))) _ d_S_savedByWriting_147 w (⟨rfl, by unfold svd; (repeat' split) <;> first | omega | (simp only [Int.add_zero] <;> omega) | (exfalso; omega)⟩)
              · skip
                refine r_iload_n (pc := 108) C d_S_savedByWriting_108 rfl (lv_at hl 1 rfl) ?_
                refine r_aload_n (pc := 109) C d_S_savedByWriting_109 rfl (lv_at hl 2 rfl) ?_
                refine r_iload_n (pc := 110) C d_S_savedByWriting_110 rfl (lv_at hl 3 rfl) ?_
                refine r_iconst (pc := 111) C d_S_savedByWriting_111 ?_
                refine r_iadd (pc := 112) C d_S_savedByWriting_112 ?_
                refine r_aload_n (pc := 113) C d_S_savedByWriting_113 rfl (lv_at hl 2 rfl) ?_
                refine r_get (pc := 114) (v := .int (iI lc)) C w i_S rfl 0 rfl 5 (by decide) fl_S_29 rfl rfl d_S_savedByWriting_114 ?_
                refine r_callVI (pc := 117) (As := [.int (iI (k + 1)), .int (iI lc)]) (rest := [.int (iI ((rb lc (sg k) (ln k)) + (rb lc (sg (k - 1)) (ln (k - 1)))))]) (wr := ([])) C w (c_S_bitsOf hT q a b sg ln r pl ov lc sd _ _ hO (by omega) (by omega) (k + 1) lc (by omega) (by omega)) ml_S_90 im_S_bitsOf se_S_bitsOf ini_S cd_S_bitsOf hd_S_bitsOf rfl (by rw [hRm]; exact ⟨⟨Nat.le_of_ble_eq_true rfl, Nat.le_of_ble_eq_true rfl⟩, Nat.le_of_ble_eq_true rfl, Nat.le_of_ble_eq_true rfl⟩) hl.1 [0, 1, 2] [] ⟨rfl, rfl, by decide, by decide, by decide⟩ 0 rfl rfl rfl (Nat.le_of_ble_eq_true rfl) d_S_savedByWriting_117 (fun z_117 u_117 H locs hz_117 w => ?_)
                obtain ⟨rfl, hz_117⟩ := hz_117
                have w : Wd X (sw cI q a b sg ln r pl ov lc sd) H locs := w
                subst hz_117
                have hrb := rb_rg (code := lc) (s := sg (k + 1)) (n := ln (k + 1)) (by omega)
                refine r_iadd (pc := 120) C d_S_savedByWriting_120 ?_
                refine r_istore_n (pc := 121) (lv' := [(3, .int (iI (((rb lc (sg k) (ln k)) + (rb lc (sg (k - 1)) (ln (k - 1)))) + (rb lc (sg (k + 1)) (ln (k + 1)))))), (4, .int (iI ((ln k) + (ln (k - 1))))), (0, .ref q), (1, .int (iI k)), (2, .int (iI val))]) C d_S_savedByWriting_121 rfl hl (by decide) rfl (fun ls hl => ?_)
                refine r_iload (pc := 122) C d_S_savedByWriting_122 (lv_at hl 1 rfl) ?_
                refine r_aload_n (pc := 124) C d_S_savedByWriting_124 rfl (lv_at hl 2 rfl) ?_
                refine r_get (pc := 125) (v := .ref b) C w i_S rfl 0 rfl 1 (by decide) fl_S_15 rfl rfl d_S_savedByWriting_125 ?_
                refine r_iload_n (pc := 128) C d_S_savedByWriting_128 rfl (lv_at hl 3 rfl) ?_
                refine r_iconst (pc := 129) C d_S_savedByWriting_129 ?_
                refine r_iadd (pc := 130) C d_S_savedByWriting_130 ?_
                refine r_iald (pc := 131) (f := ln) (i := (k + 1)) C w 0 2 rfl hT.1 (by omega) d_S_savedByWriting_131 ?_
                refine r_iadd (pc := 132) C d_S_savedByWriting_132 ?_
                refine r_istore (pc := 133) (lv' := [(4, .int (iI (((ln k) + (ln (k - 1))) + (ln (k + 1))))), (3, .int (iI (((rb lc (sg k) (ln k)) + (rb lc (sg (k - 1)) (ln (k - 1)))) + (rb lc (sg (k + 1)) (ln (k + 1)))))), (0, .ref q), (1, .int (iI k)), (2, .int (iI val))]) C d_S_savedByWriting_133 hl (by decide) rfl (fun ls hl => ?_)
                refine r_iload_n (pc := 135) C d_S_savedByWriting_135 rfl (lv_at hl 1 rfl) ?_
                refine r_aload_n (pc := 136) C d_S_savedByWriting_136 rfl (lv_at hl 2 rfl) ?_
                refine r_get (pc := 137) (v := .int (iI lc)) C w i_S rfl 0 rfl 5 (by decide) fl_S_29 rfl rfl d_S_savedByWriting_137 ?_
                refine r_iload_n (pc := 140) C d_S_savedByWriting_140 rfl (lv_at hl 4 rfl) ?_
                refine r_iload (pc := 141) C d_S_savedByWriting_141 (lv_at hl 0 rfl) ?_
                refine r_callP (pc := 143) (As := [.int (iI lc), .int (iI val), .int (iI (((ln k) + (ln (k - 1))) + (ln (k + 1))))]) (rest := [.int (iI (((rb lc (sg k) (ln k)) + (rb lc (sg (k - 1)) (ln (k - 1)))) + (rb lc (sg (k + 1)) (ln (k + 1)))))]) C w (c_C_bitsOfRun lc val (((ln k) + (ln (k - 1))) + (ln (k + 1))) (by omega) (by omega) (by omega)) ml_S_64 st_C_bitsOfRun ini_C cd_C_bitsOfRun hd_C_bitsOfRun rfl (by rw [hRm]; exact ⟨⟨Nat.le_of_ble_eq_true rfl, Nat.le_of_ble_eq_true rfl⟩, Nat.le_of_ble_eq_true rfl, Nat.le_of_ble_eq_true rfl⟩) hl.1 rfl (Nat.le_of_ble_eq_true rfl) d_S_savedByWriting_143 (fun z_143 H locs hz_143 w => ?_)
                subst hz_143
                have hrb := rb_rg (code := lc) (s := val) (n := (((ln k) + (ln (k - 1))) + (ln (k + 1)))) (by omega)
                refine r_isub (pc := 146) C d_S_savedByWriting_146 ?_
                exact kret _ _ _ _ ((((rb lc (sg k) (ln k)) + (rb lc (sg (k - 1)) (ln (k - 1)))) + (rb lc (sg (k + 1)) (ln (k + 1)))) - (rb lc val (((ln k) + (ln (k - 1))) + (ln (k + 1))))) _ d_S_savedByWriting_147 w (⟨rfl, by unfold svd; (repeat' split) <;> first | omega | (simp only [Int.add_zero] <;> omega) | (exfalso; omega)⟩)
      · skip
        refine r_iconst (pc := 23) C d_S_savedByWriting_23 ?_
        exact kret _ _ _ _ 0 _ d_S_savedByWriting_24 w (⟨rfl, by unfold svd; (repeat' split) <;> first | omega | (simp only [Int.add_zero] <;> omega) | (exfalso; omega)⟩)
theorem d_S_unlikeTurned_0 : decode b_S_unlikeTurned 0 = .ok (.iconst 0, 1) := by decide +kernel
theorem d_S_unlikeTurned_1 : decode b_S_unlikeTurned 1 = .ok (.istore_n 1, 1) := by decide +kernel
theorem d_S_unlikeTurned_2 : decode b_S_unlikeTurned 2 = .ok (.iconst 0, 1) := by decide +kernel
theorem d_S_unlikeTurned_3 : decode b_S_unlikeTurned 3 = .ok (.istore_n 2, 1) := by decide +kernel
theorem d_S_unlikeTurned_4 : decode b_S_unlikeTurned 4 = .ok (.iconst 0, 1) := by decide +kernel
theorem d_S_unlikeTurned_5 : decode b_S_unlikeTurned 5 = .ok (.istore_n 3, 1) := by decide +kernel
theorem d_S_unlikeTurned_6 : decode b_S_unlikeTurned 6 = .ok (.iload_n 3, 1) := by decide +kernel
theorem d_S_unlikeTurned_7 : decode b_S_unlikeTurned 7 = .ok (.aload_n 0, 1) := by decide +kernel
theorem d_S_unlikeTurned_8 : decode b_S_unlikeTurned 8 = .ok (.getfield 18, 3) := by decide +kernel
theorem d_S_unlikeTurned_11 : decode b_S_unlikeTurned 11 = .ok (.if_icmp .ge 55, 3) := by decide +kernel
theorem d_S_unlikeTurned_14 : decode b_S_unlikeTurned 14 = .ok (.iload_n 1, 1) := by decide +kernel
theorem d_S_unlikeTurned_15 : decode b_S_unlikeTurned 15 = .ok (.aload_n 0, 1) := by decide +kernel
theorem d_S_unlikeTurned_16 : decode b_S_unlikeTurned 16 = .ok (.getfield 15, 3) := by decide +kernel
theorem d_S_unlikeTurned_19 : decode b_S_unlikeTurned 19 = .ok (.iload_n 3, 1) := by decide +kernel
theorem d_S_unlikeTurned_20 : decode b_S_unlikeTurned 20 = .ok (.iaload, 1) := by decide +kernel
theorem d_S_unlikeTurned_21 : decode b_S_unlikeTurned 21 = .ok (.iadd, 1) := by decide +kernel
theorem d_S_unlikeTurned_22 : decode b_S_unlikeTurned 22 = .ok (.istore 4, 2) := by decide +kernel
theorem d_S_unlikeTurned_24 : decode b_S_unlikeTurned 24 = .ok (.iload_n 2, 1) := by decide +kernel
theorem d_S_unlikeTurned_25 : decode b_S_unlikeTurned 25 = .ok (.aload_n 0, 1) := by decide +kernel
theorem d_S_unlikeTurned_26 : decode b_S_unlikeTurned 26 = .ok (.getfield 15, 3) := by decide +kernel
theorem d_S_unlikeTurned_29 : decode b_S_unlikeTurned 29 = .ok (.iload_n 3, 1) := by decide +kernel
theorem d_S_unlikeTurned_30 : decode b_S_unlikeTurned 30 = .ok (.iaload, 1) := by decide +kernel
theorem d_S_unlikeTurned_31 : decode b_S_unlikeTurned 31 = .ok (.aload_n 0, 1) := by decide +kernel
theorem d_S_unlikeTurned_32 : decode b_S_unlikeTurned 32 = .ok (.aload_n 0, 1) := by decide +kernel
theorem d_S_unlikeTurned_33 : decode b_S_unlikeTurned 33 = .ok (.getfield 22, 3) := by decide +kernel
theorem d_S_unlikeTurned_36 : decode b_S_unlikeTurned 36 = .ok (.iload 4, 2) := by decide +kernel
theorem d_S_unlikeTurned_38 : decode b_S_unlikeTurned 38 = .ok (.isub, 1) := by decide +kernel
theorem d_S_unlikeTurned_39 : decode b_S_unlikeTurned 39 = .ok (.aload_n 0, 1) := by decide +kernel
theorem d_S_unlikeTurned_40 : decode b_S_unlikeTurned 40 = .ok (.getfield 22, 3) := by decide +kernel
theorem d_S_unlikeTurned_43 : decode b_S_unlikeTurned 43 = .ok (.iload_n 1, 1) := by decide +kernel
theorem d_S_unlikeTurned_44 : decode b_S_unlikeTurned 44 = .ok (.isub, 1) := by decide +kernel
theorem d_S_unlikeTurned_45 : decode b_S_unlikeTurned 45 = .ok (.aload_n 0, 1) := by decide +kernel
theorem d_S_unlikeTurned_46 : decode b_S_unlikeTurned 46 = .ok (.getfield 9, 3) := by decide +kernel
theorem d_S_unlikeTurned_49 : decode b_S_unlikeTurned 49 = .ok (.iload_n 3, 1) := by decide +kernel
theorem d_S_unlikeTurned_50 : decode b_S_unlikeTurned 50 = .ok (.iaload, 1) := by decide +kernel
theorem d_S_unlikeTurned_51 : decode b_S_unlikeTurned 51 = .ok (.invokevirtual 93, 3) := by decide +kernel
theorem d_S_unlikeTurned_54 : decode b_S_unlikeTurned 54 = .ok (.isub, 1) := by decide +kernel
theorem d_S_unlikeTurned_55 : decode b_S_unlikeTurned 55 = .ok (.iadd, 1) := by decide +kernel
theorem d_S_unlikeTurned_56 : decode b_S_unlikeTurned 56 = .ok (.istore_n 2, 1) := by decide +kernel
theorem d_S_unlikeTurned_57 : decode b_S_unlikeTurned 57 = .ok (.iload 4, 2) := by decide +kernel
theorem d_S_unlikeTurned_59 : decode b_S_unlikeTurned 59 = .ok (.istore_n 1, 1) := by decide +kernel
theorem d_S_unlikeTurned_60 : decode b_S_unlikeTurned 60 = .ok (.iinc 3 1, 3) := by decide +kernel
theorem d_S_unlikeTurned_63 : decode b_S_unlikeTurned 63 = .ok (.goto (-57), 3) := by decide +kernel
theorem d_S_unlikeTurned_66 : decode b_S_unlikeTurned 66 = .ok (.iload_n 2, 1) := by decide +kernel
theorem d_S_unlikeTurned_67 : decode b_S_unlikeTurned 67 = .ok (.ireturn, 1) := by decide +kernel
set_option maxHeartbeats 4000000 in
set_option maxRecDepth 20000 in
theorem c_S_unlikeTurned {l : Launch} {G : va_G} {tys : List (ClassId × FieldType)} {cI cO cZ : ClassId} (hT : TY tys cI cO cZ) (q a b : Nat) (sg ln : Int → Int) (r pl ov lc sd : Int) (N : Int) (v : Int → Int) (hO : Ok r sg ln N v) (hr : r ≤ 50) (hN : N ≤ 3000) (hp : pl = N) : CTI l G tys y_S_unlikeTurned b_S_unlikeTurned 5 .int 3 68 [.ref q] (sw cI q a b sg ln r pl ov lc sd) (fun z u => u = sw cI q a b sg ln r pl ov lc sd ∧ (z = ps (umf v N) N)) := by
  refine mkI (by decide) (Nat.le_of_ble_eq_true rfl) ?_
  rintro X rfl rfl rfl hRm C kret H ls w hl
  have hl : lv_has ls 5 [(0, .ref q)] := hl
  have w : Wd X (sw cI q a b sg ln r pl ov lc sd) H [] := w
  generalize ([] : List Loc) = locs at w ⊢
  have hr0 := hO.1
  have hN0 := hO.n0
  have hps := ps_zero ln
  have hpr := hO.2.2.2.1
  refine r_iconst (pc := 0) C d_S_unlikeTurned_0 ?_
  refine r_istore_n (pc := 1) (lv' := [(1, .int (iI 0)), (0, .ref q)]) C d_S_unlikeTurned_1 rfl hl (by decide) rfl (fun ls hl => ?_)
  refine r_iconst (pc := 2) C d_S_unlikeTurned_2 ?_
  refine r_istore_n (pc := 3) (lv' := [(2, .int (iI 0)), (1, .int (iI 0)), (0, .ref q)]) C d_S_unlikeTurned_3 rfl hl (by decide) rfl (fun ls hl => ?_)
  refine r_iconst (pc := 4) C d_S_unlikeTurned_4 ?_
  refine r_istore_n (pc := 5) (lv' := [(3, .int (iI 0)), (2, .int (iI 0)), (1, .int (iI 0)), (0, .ref q)]) C d_S_unlikeTurned_5 rfl hl (by decide) rfl (fun ls hl => ?_)
  have L6 : ∀ (fuel : Nat), ∀ (i : Int) (S : Int) (un : Int), 0 ≤ i ∧ i ≤ r → S = ps ln i ∧ 0 ≤ S → un = ps (umf v N) S → (r - i) < (fuel : Int) → ∀ (H : Heap) (locs : List Loc) (ls : Array Slot), Wd X (sw cI q a b sg ln r pl ov lc sd) H locs → lv_has ls 5 [(0, .ref q), (1, .int (iI S)), (2, .int (iI un)), (3, .int (iI i))] → GG X 0 0 H locs 6 ls [] := by
    intro fuel
    induction fuel with
    | zero =>
      intro i S un h0 hS hs hfuel
      exact absurd hfuel (by omega)
    | succ fuel ih6 =>
      intro i S un h0 hS hs hfuel H locs ls w hl
      refine r_iload_n (pc := 6) C d_S_unlikeTurned_6 rfl (lv_at hl 3 rfl) ?_
      refine r_aload_n (pc := 7) C d_S_unlikeTurned_7 rfl (lv_at hl 0 rfl) ?_
      refine r_get (pc := 8) (v := .int (iI r)) C w i_S rfl 0 rfl 2 (by decide) fl_S_18 rfl rfl d_S_unlikeTurned_8 ?_
      refine r_icmp_ge (pc := 11) (tgt := 66) C (by omega) d_S_unlikeTurned_11 (by decide) (fun c_11 => ?_) (fun c_11 => ?_)
      · skip
        refine r_iload_n (pc := 66) C d_S_unlikeTurned_66 rfl (lv_at hl 2 rfl) ?_
        exact kret _ _ _ _ un _ d_S_unlikeTurned_67 w (⟨rfl, by rw [hs, show S = N by rw [hS.1, show i = r by omega]; exact hpr]⟩)
      · skip
        have hk2 := hO.run (k := i) (by omega) (by omega)
        have hms := mirror_step hO (by omega) (by omega) hS.1
        refine r_iload_n (pc := 14) C d_S_unlikeTurned_14 rfl (lv_at hl 1 rfl) ?_
        refine r_aload_n (pc := 15) C d_S_unlikeTurned_15 rfl (lv_at hl 0 rfl) ?_
        refine r_get (pc := 16) (v := .ref b) C w i_S rfl 0 rfl 1 (by decide) fl_S_15 rfl rfl d_S_unlikeTurned_16 ?_
        refine r_iload_n (pc := 19) C d_S_unlikeTurned_19 rfl (lv_at hl 3 rfl) ?_
        refine r_iald (pc := 20) (f := ln) (i := i) C w 0 2 rfl hT.1 (by omega) d_S_unlikeTurned_20 ?_
        refine r_iadd (pc := 21) C d_S_unlikeTurned_21 ?_
        refine r_istore (pc := 22) (lv' := [(4, .int (iI (S + (ln i)))), (0, .ref q), (1, .int (iI S)), (2, .int (iI un)), (3, .int (iI i))]) C d_S_unlikeTurned_22 hl (by decide) rfl (fun ls hl => ?_)
        refine r_iload_n (pc := 24) C d_S_unlikeTurned_24 rfl (lv_at hl 3 rfl) ?_
        refine r_aload_n (pc := 25) C d_S_unlikeTurned_25 rfl (lv_at hl 1 rfl) ?_
        refine r_get (pc := 26) (v := .ref b) C w i_S rfl 0 rfl 1 (by decide) fl_S_15 rfl rfl d_S_unlikeTurned_26 ?_
        refine r_iload_n (pc := 29) C d_S_unlikeTurned_29 rfl (lv_at hl 4 rfl) ?_
        refine r_iald (pc := 30) (f := ln) (i := i) C w 0 2 rfl hT.1 (by omega) d_S_unlikeTurned_30 ?_
        refine r_aload_n (pc := 31) C d_S_unlikeTurned_31 rfl (lv_at hl 1 rfl) ?_
        refine r_aload_n (pc := 32) C d_S_unlikeTurned_32 rfl (lv_at hl 1 rfl) ?_
        refine r_get (pc := 33) (v := .int (iI pl)) C w i_S rfl 0 rfl 3 (by decide) fl_S_22 rfl rfl d_S_unlikeTurned_33 ?_
        refine r_iload (pc := 36) C d_S_unlikeTurned_36 (lv_at hl 0 rfl) ?_
        refine r_isub (pc := 38) C d_S_unlikeTurned_38 ?_
        refine r_aload_n (pc := 39) C d_S_unlikeTurned_39 rfl (lv_at hl 1 rfl) ?_
        refine r_get (pc := 40) (v := .int (iI pl)) C w i_S rfl 0 rfl 3 (by decide) fl_S_22 rfl rfl d_S_unlikeTurned_40 ?_
        refine r_iload_n (pc := 43) C d_S_unlikeTurned_43 rfl (lv_at hl 2 rfl) ?_
        refine r_isub (pc := 44) C d_S_unlikeTurned_44 ?_
        refine r_aload_n (pc := 45) C d_S_unlikeTurned_45 rfl (lv_at hl 1 rfl) ?_
        refine r_get (pc := 46) (v := .ref a) C w i_S rfl 0 rfl 0 (by decide) fl_S_9 rfl rfl d_S_unlikeTurned_46 ?_
        refine r_iload_n (pc := 49) C d_S_unlikeTurned_49 rfl (lv_at hl 4 rfl) ?_
        refine r_iald (pc := 50) (f := sg) (i := i) C w 0 1 rfl hT.1 (by omega) d_S_unlikeTurned_50 ?_
        refine r_callVI (pc := 51) (As := [.int (iI (pl - (S + (ln i)))), .int (iI (pl - S)), .int (iI (sg i))]) (rest := [.int (iI (ln i)), .int (iI un)]) (wr := ([])) C w (c_S_alikeIn hT q a b sg ln r pl ov lc sd _ _ hO (by omega) (by omega) (pl - (S + (ln i))) (pl - S) (sg i) (by omega) (by omega)) ml_S_93 im_S_alikeIn se_S_alikeIn ini_S cd_S_alikeIn hd_S_alikeIn rfl (by rw [hRm]; exact ⟨⟨Nat.le_of_ble_eq_true rfl, Nat.le_of_ble_eq_true rfl⟩, Nat.le_of_ble_eq_true rfl, Nat.le_of_ble_eq_true rfl⟩) hl.1 [0, 1, 2] [] ⟨rfl, rfl, by decide, by decide, by decide⟩ 0 rfl rfl rfl (Nat.le_of_ble_eq_true rfl) d_S_unlikeTurned_51 (fun z_51 u_51 H locs hz_51 w => ?_)
        obtain ⟨rfl, hz_51⟩ := hz_51
        have w : Wd X (sw cI q a b sg ln r pl ov lc sd) H locs := w
        refine r_isub (pc := 54) C d_S_unlikeTurned_54 ?_
        refine r_iadd (pc := 55) C d_S_unlikeTurned_55 ?_
        refine r_istore_n (pc := 56) (lv' := [(2, .int (iI (un + ((ln i) - z_51)))), (4, .int (iI (S + (ln i)))), (0, .ref q), (1, .int (iI S)), (3, .int (iI i))]) C d_S_unlikeTurned_56 rfl hl (by decide) rfl (fun ls hl => ?_)
        refine r_iload (pc := 57) C d_S_unlikeTurned_57 (lv_at hl 1 rfl) ?_
        refine r_istore_n (pc := 59) (lv' := [(1, .int (iI (S + (ln i)))), (2, .int (iI (un + ((ln i) - z_51)))), (4, .int (iI (S + (ln i)))), (0, .ref q), (3, .int (iI i))]) C d_S_unlikeTurned_59 rfl hl (by decide) rfl (fun ls hl => ?_)
        refine r_iinc (pc := 60) (j := 4) (lv' := [(3, .int (iI (i + 1))), (1, .int (iI (S + (ln i)))), (2, .int (iI (un + ((ln i) - z_51)))), (4, .int (iI (S + (ln i)))), (0, .ref q)]) C d_S_unlikeTurned_60 hl rfl (by decide) rfl (fun ls hl => ?_)
        refine r_goto (pc := 63) (tgt := 6) C d_S_unlikeTurned_63 (by decide) ?_
        exact ih6 (i + 1) (S + (ln i)) (un + ((ln i) - z_51)) (by omega) (by omega) ((by rw [hms, hs, hz_51, hp])) (by omega) _ _ _ w (lv_sub hl [4, 1, 2, 0] rfl)
  exact L6 ((r - 0) + 1 : Int).toNat 0 0 0 (by first | omega | rfl) (by first | omega | rfl) (by first | omega | rfl) (by omega) _ _ _ w (lv_sub hl [3, 2, 1, 0] rfl)
