theorem Ok.v_rg {r N : Int} {sg ln v : Int → Int} (h : Ok r sg ln N v) : ∀ x, 0 ≤ x → x < N → 0 ≤ v x ∧ v x ≤ 10 := by
  have key : ∀ k, 0 ≤ k → k ≤ r → ∀ x, 0 ≤ x → x < ps ln k → 0 ≤ v x ∧ v x ≤ 10 := by
    refine int_ind (fun _ x h1 h2 => by rw [ps_zero] at h2; omega) (fun k hk ih h1 x h2 h3 => ?_)
    by_cases q : x < ps ln k
    · exact ih (by omega) x h2 q
    · rw [h.2.2.2.2 k hk (by omega) x (by omega) h3]
      exact h.sg hk (by omega)
  intro x h1 h2
  exact key r h.1 (by omega) x h1 (by rw [h.2.2.2.1]; exact h2)
/-! find: the pure side -/
theorem pw2_le {k : Int} (h : 0 ≤ k ∧ k ≤ 36) : 1 ≤ pw2 k ∧ pw2 k ≤ 68719476736 := by
  have h1 := pw2_pos k
  have h2 : 2 ^ k.toNat ≤ 2 ^ 36 := Nat.pow_le_pow_right (by omega) (by omega)
  unfold pw2 at h1 ⊢
  omega
theorem pw2_4 {k : Int} (h : 0 ≤ k) : pw2 (4 * (k + 1)) = 16 * pw2 (4 * k) := by
  rw [show 4 * (k + 1) = 4 + 4 * k by omega, pw2_add (by omega) (by omega)]
  rfl
theorem lsh4 {a : Int} (h : 0 ≤ a) : iL (a * pw2 4) = iL (a * 16 % 18446744073709551616) := by
  show iL (a * 16) = _
  exact iL_mod (by omega)
theorem or16 {a s : Int} (h : 0 ≤ a) (hs : 0 ≤ s ∧ s ≤ 15) : iL (a * 16 % 18446744073709551616) ||| iL s = iL (a * 16 % 18446744073709551616 + s) := by
  have e : a * 16 % 18446744073709551616 = (a % 1152921504606846976) * 16 := by omega
  have h9 := iL_or (a := s) (b := a % 1152921504606846976) (k := 4) ⟨by rw [show pw2 4 = 16 from rfl]; omega, by rw [show pw2 4 = 16 from rfl]; omega⟩
  rw [show pw2 4 = 16 from rfl] at h9
  rw [e]
  exact h9
theorem or_up {a b k : Int} (ha : 0 ≤ a ∧ a < pw2 k) (hb : 0 ≤ b ∧ b ≤ 15) (hk : 0 ≤ k ∧ k ≤ 36) : iL a ||| iL (b * pw2 k) = iL (a + b * pw2 k) := by
  have h1 := pw2_le hk
  have h2 : b * pw2 k ≤ 15 * pw2 k := Int.mul_le_mul_of_nonneg_right (by omega) (by omega)
  rw [Int64.or_comm, iL_or ⟨ha, by omega, by omega⟩, Int.add_comm]
def pq10 (p k : Int) : Int := p / 10 ^ k.toNat
def dgt (p k : Int) : Int := pq10 p k % 10
theorem pq_zero (p : Int) : pq10 p 0 = p := by
  unfold pq10
  show p / 1 = p
  omega
theorem pq_succ (p : Int) {k : Int} (h : 0 ≤ k) : pq10 p (k + 1) = pq10 p k / 10 := div_pow10 h
theorem pq_rg {p k : Int} (hp : 0 ≤ p ∧ p < 2147483648) : 0 ≤ pq10 p k ∧ pq10 p k < 2147483648 := pow10_rg hp
theorem dl_at {p : Int} (hp : 0 ≤ p ∧ p < 2147483648) : ∀ k, 0 ≤ k → k ≤ dl p → dl (pq10 p k) = dl p - k := by
  refine int_ind (fun _ => by rw [pq_zero]; omega) (fun k hk ih h => ?_)
  have h1 := ih (by omega)
  have h2 := pq_rg (k := k) hp
  have h3 : 0 < pq10 p k := by
    by_cases q : pq10 p k ≤ 0
    · rw [dl_0 q] at h1; omega
    · omega
  have h4 := dl_step (n := pq10 p k) (by omega)
  rw [pq_succ p hk]
  omega
theorem dl_pq {p : Int} (hp : 0 ≤ p ∧ p < 2147483648) {k : Int} (hk : 0 ≤ k ∧ k ≤ dl p) : 0 < pq10 p k ↔ k < dl p := by
  have h1 := dl_at hp k hk.1 hk.2
  have h2 := pq_rg (k := k) hp
  by_cases q : pq10 p k ≤ 0
  · rw [dl_0 q] at h1; omega
  · have h3 := dl_pos (n := pq10 p k) (by omega)
    omega
theorem dl_9 {p : Int} (hp : 0 ≤ p ∧ p ≤ 999999999) : dl p ≤ 9 := by
  by_cases q : dl p ≤ 9
  · exact q
  · have h1 := dl_pq (p := p) (by omega) (k := 9) (by omega)
    have h2 : pq10 p 9 = p / 1000000000 := rfl
    omega
theorem dgt_rg (p k : Int) : 0 ≤ dgt p k ∧ dgt p k ≤ 9 := by
  unfold dgt
  omega
/-- the pattern p ends at the place e -/
def Mt (v : Int → Int) (p e : Int) : Prop := ∀ k, 0 ≤ k → k < dl p → v (e - k) = dgt p k
def Fnd (v : Int → Int) (N p f z : Int) : Prop := (z = -6 ∧ ∀ e, f + dl p ≤ e + 1 → e < N → ¬ Mt v p e) ∨ ∃ e, f + dl p ≤ e + 1 ∧ e < N ∧ Mt v p e ∧ z = e + 1 - dl p ∧ ∀ e', f + dl p ≤ e' + 1 → e' < e → ¬ Mt v p e'
theorem Fnd.uniq {v : Int → Int} {N p f a b : Int} (h1 : Fnd v N p f a) (h2 : Fnd v N p f b) : a = b := by
  rcases h1 with ⟨a1, a2⟩ | ⟨e, a1, a2, a3, a4, a5⟩ <;> rcases h2 with ⟨b1, b2⟩ | ⟨e', b1, b2, b3, b4, b5⟩
  · omega
  · exact absurd b3 (a2 e' b1 b2)
  · exact absurd a3 (b2 e a1 a2)
  · rcases Int.lt_trichotomy e e' with q | q | q
    · exact absurd a3 (b5 e a1 q)
    · omega
    · exact absurd b3 (a5 e' b1 q)
def nvN (g : Int → Int) : Nat → Int
  | 0 => 0
  | j + 1 => nvN g j + g (j : Int) * pw2 (4 * (j : Int))
/-- the number of four-bit groups -/
def nv (g : Int → Int) (k : Int) : Int := nvN g k.toNat
theorem nv_zero (g : Int → Int) : nv g 0 = 0 := rfl
theorem nv_succ (g : Int → Int) {k : Int} (h : 0 ≤ k) : nv g (k + 1) = nv g k + g k * pw2 (4 * k) := by
  unfold nv
  rw [toNat_succ h]
  show nvN g k.toNat + g ((k.toNat : Nat) : Int) * pw2 (4 * ((k.toNat : Nat) : Int)) = _
  rw [Int.toNat_of_nonneg h]
theorem nv_congr {g h : Int → Int} : ∀ k, 0 ≤ k → (∀ j, 0 ≤ j → j < k → g j = h j) → nv g k = nv h k := by
  refine int_ind (fun _ => rfl) (fun k hk ih q => ?_)
  rw [nv_succ g hk, nv_succ h hk, ih (fun j j1 j2 => q j j1 (by omega)), q k hk (by omega)]
theorem nv_rg {g : Int → Int} : ∀ k, 0 ≤ k → (∀ j, 0 ≤ j → j < k → 0 ≤ g j ∧ g j ≤ 15) → 0 ≤ nv g k ∧ nv g k < pw2 (4 * k) := by
  refine int_ind (fun _ => by rw [nv_zero, show pw2 (4 * 0) = 1 from rfl]; omega) (fun k hk ih q => ?_)
  have h1 := ih (fun j j1 j2 => q j j1 (by omega))
  have h2 := q k hk (by omega)
  have hp := pw2_pos (4 * k)
  rw [nv_succ g hk, pw2_4 hk]
  have h3 : g k * pw2 (4 * k) ≤ 15 * pw2 (4 * k) := Int.mul_le_mul_of_nonneg_right (by omega) (by omega)
  have h4 : 0 ≤ g k * pw2 (4 * k) := Int.mul_nonneg (by omega) (by omega)
  omega
theorem mul_gap {a b x y P : Int} (hP : 0 < P) (ha : 0 ≤ a ∧ a < P) (hb : 0 ≤ b ∧ b < P) (h : a + x * P = b + y * P) : x = y := by
  rcases Int.lt_trichotomy x y with q | q | q
  · have h1 : (x + 1) * P ≤ y * P := Int.mul_le_mul_of_nonneg_right (by omega) (by omega)
    rw [Int.add_mul, Int.one_mul] at h1
    omega
  · exact q
  · have h1 : (y + 1) * P ≤ x * P := Int.mul_le_mul_of_nonneg_right (by omega) (by omega)
    rw [Int.add_mul, Int.one_mul] at h1
    omega
theorem nv_inj {g h : Int → Int} : ∀ k, 0 ≤ k → (∀ j, 0 ≤ j → j < k → 0 ≤ g j ∧ g j ≤ 15) → (∀ j, 0 ≤ j → j < k → 0 ≤ h j ∧ h j ≤ 15) → nv g k = nv h k → ∀ j, 0 ≤ j → j < k → g j = h j := by
  refine int_ind (fun _ _ _ j j1 j2 => by omega) (fun k hk ih hg hh e j j1 j2 => ?_)
  have a1 := nv_rg k hk (fun j j1 j2 => hg j j1 (by omega))
  have a2 := nv_rg k hk (fun j j1 j2 => hh j j1 (by omega))
  rw [nv_succ g hk, nv_succ h hk] at e
  have a3 := mul_gap (pw2_pos (4 * k)) a1 a2 e
  rw [a3] at e
  by_cases q : j = k
  · rw [q]; exact a3
  · exact ih (fun j j1 j2 => hg j j1 (by omega)) (fun j j1 j2 => hh j j1 (by omega)) (by omega) j j1 (by omega)
def cons_ (s : Int) (g : Int → Int) : Int → Int := fun k => if k = 0 then s else g (k - 1)
theorem nv_cons (s : Int) (g : Int → Int) : ∀ d, 0 ≤ d → nv (cons_ s g) (d + 1) = s + 16 * nv g d := by
  refine int_ind ?_ (fun d hd ih => ?_)
  · rw [nv_succ _ (by omega), nv_zero, nv_zero, show pw2 (4 * 0) = 1 from rfl]
    show 0 + s * 1 = _
    omega
  · rw [nv_succ _ (by omega), ih, nv_succ g hd, pw2_4 hd]
    have e : cons_ s g (d + 1) = g d := by
      unfold cons_
      rw [if_neg (by omega), show d + 1 - 1 = d by omega]
    rw [e, Int.mul_left_comm]
    omega
theorem nv_15 : ∀ k, 0 ≤ k → nv (fun _ => 15) k = pw2 (4 * k) - 1 := by
  refine int_ind rfl (fun k hk ih => ?_)
  rw [nv_succ _ hk, ih, pw2_4 hk]
  show _ + 15 * _ = _
  omega
theorem nv_start {g : Int → Int} {d : Int} (hd : 1 ≤ d ∧ d ≤ 9) (hg : ∀ j, 0 ≤ j → j < d → g j = 15) : 18446744073709551615 % pw2 (4 * d) = nv g d := by
  rw [nv_congr d (by omega) hg, nv_15 d (by omega)]
  rcases (by omega : d = 1 ∨ d = 2 ∨ d = 3 ∨ d = 4 ∨ d = 5 ∨ d = 6 ∨ d = 7 ∨ d = 8 ∨ d = 9) with rfl | rfl | rfl | rfl | rfl | rfl | rfl | rfl | rfl
  · rw [show pw2 (4 * 1) = 16 from rfl] at ⊢
    omega
  · rw [show pw2 (4 * 2) = 256 from rfl] at ⊢
    omega
  · rw [show pw2 (4 * 3) = 4096 from rfl] at ⊢
    omega
  · rw [show pw2 (4 * 4) = 65536 from rfl] at ⊢
    omega
  · rw [show pw2 (4 * 5) = 1048576 from rfl] at ⊢
    omega
  · rw [show pw2 (4 * 6) = 16777216 from rfl] at ⊢
    omega
  · rw [show pw2 (4 * 7) = 268435456 from rfl] at ⊢
    omega
  · rw [show pw2 (4 * 8) = 4294967296 from rfl] at ⊢
    omega
  · rw [show pw2 (4 * 9) = 68719476736 from rfl] at ⊢
    omega
theorem st16 {L d s : Int} {g : Int → Int} (hL : 0 ≤ L ∧ L < 18446744073709551616) (hd : 1 ≤ d ∧ d ≤ 9) (hs : 0 ≤ s ∧ s ≤ 15) (hg : ∀ k, 0 ≤ k → k < d → 0 ≤ g k ∧ g k ≤ 15) (h : L % pw2 (4 * d) = nv g d) : (L * 16 % 18446744073709551616 + s) % pw2 (4 * d) = nv (cons_ s g) d := by
  have h1 := nv_cons s g d (by omega)
  have h2 := nv_succ (cons_ s g) (k := d) (by omega)
  have h3 := nv_rg (g := cons_ s g) d (by omega) (fun k k1 k2 => by unfold cons_; split; exact hs; exact hg (k - 1) (by omega) (by omega))
  rw [h1] at h2
  clear h1
  generalize cons_ s g d = x at h2
  generalize nv (cons_ s g) d = y at h2 h3 ⊢
  generalize nv g d = w0 at h h2
  rcases (by omega : d = 1 ∨ d = 2 ∨ d = 3 ∨ d = 4 ∨ d = 5 ∨ d = 6 ∨ d = 7 ∨ d = 8 ∨ d = 9) with rfl | rfl | rfl | rfl | rfl | rfl | rfl | rfl | rfl
  · rw [show pw2 (4 * 1) = 16 from rfl] at h h2 h3 ⊢
    omega
  · rw [show pw2 (4 * 2) = 256 from rfl] at h h2 h3 ⊢
    omega
  · rw [show pw2 (4 * 3) = 4096 from rfl] at h h2 h3 ⊢
    omega
  · rw [show pw2 (4 * 4) = 65536 from rfl] at h h2 h3 ⊢
    omega
  · rw [show pw2 (4 * 5) = 1048576 from rfl] at h h2 h3 ⊢
    omega
  · rw [show pw2 (4 * 6) = 16777216 from rfl] at h h2 h3 ⊢
    omega
  · rw [show pw2 (4 * 7) = 268435456 from rfl] at h h2 h3 ⊢
    omega
  · rw [show pw2 (4 * 8) = 4294967296 from rfl] at h h2 h3 ⊢
    omega
  · rw [show pw2 (4 * 9) = 68719476736 from rfl] at h h2 h3 ⊢
    omega
/-- the groups that the latest signs up to E give; behind the first sign looked at, 15 -/
def wnd (v : Int → Int) (f E : Int) : Int → Int := fun k => if k < E - f then v (E - 1 - k) else 15
theorem wnd_step {v : Int → Int} {f E : Int} (hE : f ≤ E) (k : Int) (hk : 0 ≤ k) : cons_ (v E) (wnd v f E) k = wnd v f (E + 1) k := by
  unfold cons_ wnd
  by_cases q : k = 0
  · subst q
    rw [if_pos rfl, if_pos (by omega)]
    congr 1
    omega
  · rw [if_neg q]
    by_cases q2 : k < E + 1 - f
    · rw [if_pos (by omega), if_pos q2]
      congr 1
      omega
    · rw [if_neg (by omega), if_neg q2]
theorem wnd_rg {v : Int → Int} {f E N : Int} (hf : 0 ≤ f) (hE : E ≤ N ∨ E ≤ f) (hv : ∀ x, 0 ≤ x → x < N → 0 ≤ v x ∧ v x ≤ 10) (k : Int) (hk : 0 ≤ k) : 0 ≤ wnd v f E k ∧ wnd v f E k ≤ 15 := by
  unfold wnd
  split
  · have := hv (E - 1 - k) (by omega) (by omega)
    omega
  · omega
theorem mt_iff {v : Int → Int} {p f E : Int} (hd : 1 ≤ dl p) (hw : ∀ k, 0 ≤ k → 0 ≤ wnd v f E k ∧ wnd v f E k ≤ 15) : nv (wnd v f E) (dl p) = nv (dgt p) (dl p) ↔ (f + dl p ≤ E ∧ Mt v p (E - 1)) := by
  constructor
  · intro e
    have h1 := nv_inj (dl p) (by omega) (fun j j1 _ => hw j j1) (fun j _ _ => by have := dgt_rg p j; omega) e
    have h2 : f + dl p ≤ E := by
      by_cases q : dl p - 1 < E - f
      · omega
      · have h3 := h1 (dl p - 1) (by omega) (by omega)
        have h4 := dgt_rg p (dl p - 1)
        unfold wnd at h3
        rw [if_neg q] at h3
        omega
    refine ⟨h2, fun k k1 k2 => ?_⟩
    have h3 := h1 k k1 k2
    unfold wnd at h3
    rw [if_pos (by omega)] at h3
    exact h3
  · intro ⟨h1, h2⟩
    refine nv_congr (dl p) (by omega) (fun j j1 j2 => ?_)
    unfold wnd
    rw [if_pos (by omega)]
    exact h2 j j1 j2
theorem run_end {v : Int → Int} {f st s2 fs lk i d s : Int} (hfs : fs = max st f) (hlk : lk = min (s2 - fs) d) (hi : 0 ≤ i ∧ (i ≤ lk ∨ i = 0) ∧ lk ≤ i) (hs : st < s2) (hd : 1 ≤ d) (hrun : ∀ x, st ≤ x → x < s2 → v x = s) : nv (wnd v f (fs + i)) d = nv (wnd v f (max s2 f)) d := by
  by_cases q : fs + i = max s2 f
  · rw [q]
  · refine nv_congr d (by omega) (fun k k1 k2 => ?_)
    unfold wnd
    rw [if_pos (by omega), if_pos (by omega), hrun _ (by omega) (by omega), hrun _ (by omega) (by omega)]
theorem run_no {v : Int → Int} {p f st s2 fs lk i s : Int} (hfs : fs = max st f) (hlk : lk = min (s2 - fs) (dl p)) (hi : 0 ≤ i ∧ (i ≤ lk ∨ i = 0) ∧ lk ≤ i) (hs : st < s2) (hd : 1 ≤ dl p) (hrun : ∀ x, st ≤ x → x < s2 → v x = s) (hno : ∀ e, f + dl p ≤ e + 1 → e < fs + i → ¬ Mt v p e) : ∀ e, f + dl p ≤ e + 1 → e < s2 → ¬ Mt v p e := by
  intro e h1 h2
  by_cases q : e < fs + i
  · exact hno e h1 q
  · intro hM
    refine hno (fs + i - 1) (by omega) (by omega) (fun k k1 k2 => ?_)
    rw [← hM k k1 k2, hrun _ (by omega) (by omega), hrun _ (by omega) (by omega)]
theorem d_X_inGroupsOf4Bits_0 : decode b_X_inGroupsOf4Bits 0 = .ok (.lconst 0, 1) := by decide +kernel
theorem d_X_inGroupsOf4Bits_1 : decode b_X_inGroupsOf4Bits 1 = .ok (.lstore_n 1, 1) := by decide +kernel
theorem d_X_inGroupsOf4Bits_2 : decode b_X_inGroupsOf4Bits 2 = .ok (.iload_n 0, 1) := by decide +kernel
theorem d_X_inGroupsOf4Bits_3 : decode b_X_inGroupsOf4Bits 3 = .ok (.istore_n 3, 1) := by decide +kernel
theorem d_X_inGroupsOf4Bits_4 : decode b_X_inGroupsOf4Bits 4 = .ok (.iconst 0, 1) := by decide +kernel
theorem d_X_inGroupsOf4Bits_5 : decode b_X_inGroupsOf4Bits 5 = .ok (.istore 4, 2) := by decide +kernel
theorem d_X_inGroupsOf4Bits_7 : decode b_X_inGroupsOf4Bits 7 = .ok (.iload 4, 2) := by decide +kernel
theorem d_X_inGroupsOf4Bits_9 : decode b_X_inGroupsOf4Bits 9 = .ok (.bipush 10, 2) := by decide +kernel
theorem d_X_inGroupsOf4Bits_11 : decode b_X_inGroupsOf4Bits 11 = .ok (.if_icmp .ge 31, 3) := by decide +kernel
theorem d_X_inGroupsOf4Bits_14 : decode b_X_inGroupsOf4Bits 14 = .ok (.iload_n 3, 1) := by decide +kernel
theorem d_X_inGroupsOf4Bits_15 : decode b_X_inGroupsOf4Bits 15 = .ok (.ifCond .le 27, 3) := by decide +kernel
theorem d_X_inGroupsOf4Bits_18 : decode b_X_inGroupsOf4Bits 18 = .ok (.lload_n 1, 1) := by decide +kernel
theorem d_X_inGroupsOf4Bits_19 : decode b_X_inGroupsOf4Bits 19 = .ok (.iload_n 3, 1) := by decide +kernel
theorem d_X_inGroupsOf4Bits_20 : decode b_X_inGroupsOf4Bits 20 = .ok (.bipush 10, 2) := by decide +kernel
theorem d_X_inGroupsOf4Bits_22 : decode b_X_inGroupsOf4Bits 22 = .ok (.irem, 1) := by decide +kernel
theorem d_X_inGroupsOf4Bits_23 : decode b_X_inGroupsOf4Bits 23 = .ok (.i2l, 1) := by decide +kernel
theorem d_X_inGroupsOf4Bits_24 : decode b_X_inGroupsOf4Bits 24 = .ok (.iconst 4, 1) := by decide +kernel
theorem d_X_inGroupsOf4Bits_25 : decode b_X_inGroupsOf4Bits 25 = .ok (.iload 4, 2) := by decide +kernel
theorem d_X_inGroupsOf4Bits_27 : decode b_X_inGroupsOf4Bits 27 = .ok (.imul, 1) := by decide +kernel
theorem d_X_inGroupsOf4Bits_28 : decode b_X_inGroupsOf4Bits 28 = .ok (.lshl, 1) := by decide +kernel
theorem d_X_inGroupsOf4Bits_29 : decode b_X_inGroupsOf4Bits 29 = .ok (.lor, 1) := by decide +kernel
theorem d_X_inGroupsOf4Bits_30 : decode b_X_inGroupsOf4Bits 30 = .ok (.lstore_n 1, 1) := by decide +kernel
theorem d_X_inGroupsOf4Bits_31 : decode b_X_inGroupsOf4Bits 31 = .ok (.iload_n 3, 1) := by decide +kernel
theorem d_X_inGroupsOf4Bits_32 : decode b_X_inGroupsOf4Bits 32 = .ok (.bipush 10, 2) := by decide +kernel
theorem d_X_inGroupsOf4Bits_34 : decode b_X_inGroupsOf4Bits 34 = .ok (.idiv, 1) := by decide +kernel
theorem d_X_inGroupsOf4Bits_35 : decode b_X_inGroupsOf4Bits 35 = .ok (.istore_n 3, 1) := by decide +kernel
theorem d_X_inGroupsOf4Bits_36 : decode b_X_inGroupsOf4Bits 36 = .ok (.iinc 4 1, 3) := by decide +kernel
theorem d_X_inGroupsOf4Bits_39 : decode b_X_inGroupsOf4Bits 39 = .ok (.goto (-32), 3) := by decide +kernel
theorem d_X_inGroupsOf4Bits_42 : decode b_X_inGroupsOf4Bits 42 = .ok (.lload_n 1, 1) := by decide +kernel
theorem d_X_inGroupsOf4Bits_43 : decode b_X_inGroupsOf4Bits 43 = .ok (.lreturn, 1) := by decide +kernel
set_option maxHeartbeats 4000000 in
set_option maxRecDepth 20000 in
theorem c_X_inGroupsOf4Bits {l : Launch} {G : va_G} {tys : List (ClassId × FieldType)} (p : Int) (hp : 1 ≤ p ∧ p ≤ 999999999) : CTL l G tys y_X_inGroupsOf4Bits b_X_inGroupsOf4Bits 5 0 0 [.int (iI p)] [] (fun z u => u = [] ∧ z = iL (nv (dgt p) (dl p))) := by
  refine mkL (by decide) (Nat.le_of_ble_eq_true rfl) ?_
  rintro X rfl rfl rfl hRm C kret H ls w hl
  have hl : lv_has ls 5 [(0, .int (iI p))] := hl
  have w : Wd X ([]) H [] := w
  generalize ([] : List Loc) = locs at w ⊢
  have hd9 := dl_9 (p := p) (by omega)
  have hd1 := dl_pos (n := p) (by omega)
  refine r_lconst (pc := 0) (z := 0) C d_X_inGroupsOf4Bits_0 rfl ?_
  refine r_lstore_n (pc := 1) (lv' := [(1, .long (iL 0)), (0, .int (iI p))]) C d_X_inGroupsOf4Bits_1 rfl hl (by decide) rfl (fun ls hl => ?_)
  refine r_iload_n (pc := 2) C d_X_inGroupsOf4Bits_2 rfl (lv_at hl 1 rfl) ?_
  refine r_istore_n (pc := 3) (lv' := [(3, .int (iI p)), (1, .long (iL 0)), (0, .int (iI p))]) C d_X_inGroupsOf4Bits_3 rfl hl (by decide) rfl (fun ls hl => ?_)
  refine r_iconst (pc := 4) C d_X_inGroupsOf4Bits_4 ?_
  refine r_istore (pc := 5) (lv' := [(4, .int (iI 0)), (3, .int (iI p)), (1, .long (iL 0)), (0, .int (iI p))]) C d_X_inGroupsOf4Bits_5 hl (by decide) rfl (fun ls hl => ?_)
  have L7 : ∀ (fuel : Nat), ∀ (i : Int) (gr : Int) (rest : Int), 0 ≤ i ∧ i ≤ dl p → gr = nv (dgt p) i → rest = pq10 p i → (dl p - i) < (fuel : Int) → ∀ (H : Heap) (locs : List Loc) (ls : Array Slot), Wd X ([]) H locs → lv_has ls 5 [(0, .int (iI p)), (1, .long (iL gr)), (3, .int (iI rest)), (4, .int (iI i))] → GG X 0 0 H locs 7 ls [] := by
    intro fuel
    induction fuel with
    | zero =>
      intro i gr rest h0 hg hr hfuel
      exact absurd hfuel (by omega)
    | succ fuel ih7 =>
      intro i gr rest h0 hg hr hfuel H locs ls w hl
      have hpr := pq_rg (p := p) (k := i) (by omega)
      have hdp := dl_pq (p := p) (by omega) (k := i) h0
      have hgr := nv_rg (g := dgt p) i (by omega) (fun j _ _ => by have := dgt_rg p j; omega)
      rw [← hr] at hpr hdp
      rw [← hg] at hgr
      refine r_iload (pc := 7) C d_X_inGroupsOf4Bits_7 (lv_at hl 3 rfl) ?_
      refine r_bipush (pc := 9) C d_X_inGroupsOf4Bits_9 (by decide) ?_
      refine r_icmp_ge (pc := 11) (tgt := 42) C (by omega) d_X_inGroupsOf4Bits_11 (by decide) (fun c_11 => ?_) (fun c_11 => ?_)
      · skip
        exact absurd c_11 (by omega)
      · skip
        refine r_iload_n (pc := 14) C d_X_inGroupsOf4Bits_14 rfl (lv_at hl 2 rfl) ?_
        refine r_if_le (pc := 15) (tgt := 42) C (by omega) d_X_inGroupsOf4Bits_15 (by decide) (fun c_15 => ?_) (fun c_15 => ?_)
        · skip
          refine r_lload_n (pc := 42) C d_X_inGroupsOf4Bits_42 rfl (lv_at hl 1 rfl) ?_
          exact kret _ _ _ _ _ _ d_X_inGroupsOf4Bits_43 w (⟨rfl, by rw [hg, show i = dl p by omega]⟩)
        · skip
          refine r_lload_n (pc := 18) C d_X_inGroupsOf4Bits_18 rfl (lv_at hl 1 rfl) ?_
          refine r_iload_n (pc := 19) C d_X_inGroupsOf4Bits_19 rfl (lv_at hl 2 rfl) ?_
          refine r_bipush (pc := 20) C d_X_inGroupsOf4Bits_20 (by decide) ?_
          refine r_irem (pc := 22) C d_X_inGroupsOf4Bits_22 (by omega) ?_
          refine r_i2l (pc := 23) C (by omega) d_X_inGroupsOf4Bits_23 ?_
          refine r_iconst (pc := 24) C d_X_inGroupsOf4Bits_24 ?_
          refine r_iload (pc := 25) C d_X_inGroupsOf4Bits_25 (lv_at hl 3 rfl) ?_
          refine r_imul (pc := 27) C d_X_inGroupsOf4Bits_27 ?_
          refine r_lshl (pc := 28) C (by omega) d_X_inGroupsOf4Bits_28 ?_
          refine r_lor (pc := 29) (z := (gr + rest % 10 * pw2 (4 * i))) C (or_up hgr (by omega) (by omega)) d_X_inGroupsOf4Bits_29 ?_
          refine r_lstore_n (pc := 30) (lv' := [(1, .long (iL (gr + rest % 10 * pw2 (4 * i)))), (0, .int (iI p)), (3, .int (iI rest)), (4, .int (iI i))]) C d_X_inGroupsOf4Bits_30 rfl hl (by decide) rfl (fun ls hl => ?_)
          refine r_iload_n (pc := 31) C d_X_inGroupsOf4Bits_31 rfl (lv_at hl 2 rfl) ?_
          refine r_bipush (pc := 32) C d_X_inGroupsOf4Bits_32 (by decide) ?_
          refine r_idiv (pc := 34) C d_X_inGroupsOf4Bits_34 (by omega) ?_
          refine r_istore_n (pc := 35) (lv' := [(3, .int (iI (rest / 10))), (1, .long (iL (gr + rest % 10 * pw2 (4 * i)))), (0, .int (iI p)), (4, .int (iI i))]) C d_X_inGroupsOf4Bits_35 rfl hl (by decide) rfl (fun ls hl => ?_)
          refine r_iinc (pc := 36) (j := 3) (lv' := [(4, .int (iI (i + 1))), (3, .int (iI (rest / 10))), (1, .long (iL (gr + rest % 10 * pw2 (4 * i)))), (0, .int (iI p))]) C d_X_inGroupsOf4Bits_36 hl rfl (by decide) rfl (fun ls hl => ?_)
          refine r_goto (pc := 39) (tgt := 7) C d_X_inGroupsOf4Bits_39 (by decide) ?_
          exact ih7 (i + 1) (gr + rest % 10 * pw2 (4 * i)) (rest / 10) (by omega) ((by rw [nv_succ _ (by omega), ← hg]; unfold dgt; rw [← hr])) ((by rw [pq_succ p (by omega), ← hr])) (by omega) _ _ _ w (lv_sub hl [3, 2, 1, 0] rfl)
  exact L7 ((dl p - 0) + 1 : Int).toNat 0 0 p (by first | omega | rfl) (rfl) ((pq_zero p).symm) (by omega) _ _ _ w (lv_sub hl [3, 2, 1, 0] rfl)
theorem d_S_firstMatch_0 : decode b_S_firstMatch 0 = .ok (.iload_n 2, 1) := by decide +kernel
theorem d_S_firstMatch_1 : decode b_S_firstMatch 1 = .ok (.invokestatic 81, 3) := by decide +kernel
theorem d_S_firstMatch_4 : decode b_S_firstMatch 4 = .ok (.istore_n 3, 1) := by decide +kernel
theorem d_S_firstMatch_5 : decode b_S_firstMatch 5 = .ok (.iload_n 2, 1) := by decide +kernel
theorem d_S_firstMatch_6 : decode b_S_firstMatch 6 = .ok (.invokestatic 84, 3) := by decide +kernel
theorem d_S_firstMatch_9 : decode b_S_firstMatch 9 = .ok (.lstore 4, 2) := by decide +kernel
theorem d_S_firstMatch_11 : decode b_S_firstMatch 11 = .ok (.lconst 1, 1) := by decide +kernel
theorem d_S_firstMatch_12 : decode b_S_firstMatch 12 = .ok (.iconst 4, 1) := by decide +kernel
theorem d_S_firstMatch_13 : decode b_S_firstMatch 13 = .ok (.iload_n 3, 1) := by decide +kernel
theorem d_S_firstMatch_14 : decode b_S_firstMatch 14 = .ok (.imul, 1) := by decide +kernel
theorem d_S_firstMatch_15 : decode b_S_firstMatch 15 = .ok (.lshl, 1) := by decide +kernel
theorem d_S_firstMatch_16 : decode b_S_firstMatch 16 = .ok (.lconst 1, 1) := by decide +kernel
theorem d_S_firstMatch_17 : decode b_S_firstMatch 17 = .ok (.lsub, 1) := by decide +kernel
theorem d_S_firstMatch_18 : decode b_S_firstMatch 18 = .ok (.lstore 6, 2) := by decide +kernel
theorem d_S_firstMatch_20 : decode b_S_firstMatch 20 = .ok (.ldc2_w 88, 3) := by decide +kernel
theorem d_S_firstMatch_23 : decode b_S_firstMatch 23 = .ok (.lstore 8, 2) := by decide +kernel
theorem d_S_firstMatch_25 : decode b_S_firstMatch 25 = .ok (.iconst 0, 1) := by decide +kernel
theorem d_S_firstMatch_26 : decode b_S_firstMatch 26 = .ok (.istore 10, 2) := by decide +kernel
theorem d_S_firstMatch_28 : decode b_S_firstMatch 28 = .ok (.iconst 0, 1) := by decide +kernel
theorem d_S_firstMatch_29 : decode b_S_firstMatch 29 = .ok (.istore 11, 2) := by decide +kernel
theorem d_S_firstMatch_31 : decode b_S_firstMatch 31 = .ok (.iload 11, 2) := by decide +kernel
theorem d_S_firstMatch_33 : decode b_S_firstMatch 33 = .ok (.aload_n 0, 1) := by decide +kernel
theorem d_S_firstMatch_34 : decode b_S_firstMatch 34 = .ok (.getfield 18, 3) := by decide +kernel
theorem d_S_firstMatch_37 : decode b_S_firstMatch 37 = .ok (.if_icmp .ge 92, 3) := by decide +kernel
theorem d_S_firstMatch_40 : decode b_S_firstMatch 40 = .ok (.iload 10, 2) := by decide +kernel
theorem d_S_firstMatch_42 : decode b_S_firstMatch 42 = .ok (.iload_n 1, 1) := by decide +kernel
theorem d_S_firstMatch_43 : decode b_S_firstMatch 43 = .ok (.invokestatic 61, 3) := by decide +kernel
theorem d_S_firstMatch_46 : decode b_S_firstMatch 46 = .ok (.istore 12, 2) := by decide +kernel
theorem d_S_firstMatch_48 : decode b_S_firstMatch 48 = .ok (.iload 10, 2) := by decide +kernel
theorem d_S_firstMatch_50 : decode b_S_firstMatch 50 = .ok (.aload_n 0, 1) := by decide +kernel
theorem d_S_firstMatch_51 : decode b_S_firstMatch 51 = .ok (.getfield 15, 3) := by decide +kernel
theorem d_S_firstMatch_54 : decode b_S_firstMatch 54 = .ok (.iload 11, 2) := by decide +kernel
theorem d_S_firstMatch_56 : decode b_S_firstMatch 56 = .ok (.iaload, 1) := by decide +kernel
theorem d_S_firstMatch_57 : decode b_S_firstMatch 57 = .ok (.iadd, 1) := by decide +kernel
theorem d_S_firstMatch_58 : decode b_S_firstMatch 58 = .ok (.istore 10, 2) := by decide +kernel
theorem d_S_firstMatch_60 : decode b_S_firstMatch 60 = .ok (.iload 10, 2) := by decide +kernel
theorem d_S_firstMatch_62 : decode b_S_firstMatch 62 = .ok (.iload 12, 2) := by decide +kernel
theorem d_S_firstMatch_64 : decode b_S_firstMatch 64 = .ok (.isub, 1) := by decide +kernel
theorem d_S_firstMatch_65 : decode b_S_firstMatch 65 = .ok (.iload_n 3, 1) := by decide +kernel
theorem d_S_firstMatch_66 : decode b_S_firstMatch 66 = .ok (.invokestatic 55, 3) := by decide +kernel
theorem d_S_firstMatch_69 : decode b_S_firstMatch 69 = .ok (.istore 13, 2) := by decide +kernel
theorem d_S_firstMatch_71 : decode b_S_firstMatch 71 = .ok (.iconst 0, 1) := by decide +kernel
theorem d_S_firstMatch_72 : decode b_S_firstMatch 72 = .ok (.istore 14, 2) := by decide +kernel
theorem d_S_firstMatch_74 : decode b_S_firstMatch 74 = .ok (.iload 14, 2) := by decide +kernel
theorem d_S_firstMatch_76 : decode b_S_firstMatch 76 = .ok (.iload 13, 2) := by decide +kernel
theorem d_S_firstMatch_78 : decode b_S_firstMatch 78 = .ok (.if_icmp .ge 45, 3) := by decide +kernel
theorem d_S_firstMatch_81 : decode b_S_firstMatch 81 = .ok (.lload 8, 2) := by decide +kernel
theorem d_S_firstMatch_83 : decode b_S_firstMatch 83 = .ok (.iconst 4, 1) := by decide +kernel
theorem d_S_firstMatch_84 : decode b_S_firstMatch 84 = .ok (.lshl, 1) := by decide +kernel
theorem d_S_firstMatch_85 : decode b_S_firstMatch 85 = .ok (.aload_n 0, 1) := by decide +kernel
theorem d_S_firstMatch_86 : decode b_S_firstMatch 86 = .ok (.getfield 9, 3) := by decide +kernel
theorem d_S_firstMatch_89 : decode b_S_firstMatch 89 = .ok (.iload 11, 2) := by decide +kernel
theorem d_S_firstMatch_91 : decode b_S_firstMatch 91 = .ok (.iaload, 1) := by decide +kernel
theorem d_S_firstMatch_92 : decode b_S_firstMatch 92 = .ok (.i2l, 1) := by decide +kernel
theorem d_S_firstMatch_93 : decode b_S_firstMatch 93 = .ok (.lor, 1) := by decide +kernel
theorem d_S_firstMatch_94 : decode b_S_firstMatch 94 = .ok (.lstore 8, 2) := by decide +kernel
theorem d_S_firstMatch_96 : decode b_S_firstMatch 96 = .ok (.lload 8, 2) := by decide +kernel
theorem d_S_firstMatch_98 : decode b_S_firstMatch 98 = .ok (.lload 6, 2) := by decide +kernel
theorem d_S_firstMatch_100 : decode b_S_firstMatch 100 = .ok (.land, 1) := by decide +kernel
theorem d_S_firstMatch_101 : decode b_S_firstMatch 101 = .ok (.lload 4, 2) := by decide +kernel
theorem d_S_firstMatch_103 : decode b_S_firstMatch 103 = .ok (.lcmp, 1) := by decide +kernel
theorem d_S_firstMatch_104 : decode b_S_firstMatch 104 = .ok (.ifCond .ne 13, 3) := by decide +kernel
theorem d_S_firstMatch_107 : decode b_S_firstMatch 107 = .ok (.iload 12, 2) := by decide +kernel
theorem d_S_firstMatch_109 : decode b_S_firstMatch 109 = .ok (.iload 14, 2) := by decide +kernel
theorem d_S_firstMatch_111 : decode b_S_firstMatch 111 = .ok (.iadd, 1) := by decide +kernel
theorem d_S_firstMatch_112 : decode b_S_firstMatch 112 = .ok (.iconst 1, 1) := by decide +kernel
theorem d_S_firstMatch_113 : decode b_S_firstMatch 113 = .ok (.iadd, 1) := by decide +kernel
theorem d_S_firstMatch_114 : decode b_S_firstMatch 114 = .ok (.iload_n 3, 1) := by decide +kernel
theorem d_S_firstMatch_115 : decode b_S_firstMatch 115 = .ok (.isub, 1) := by decide +kernel
theorem d_S_firstMatch_116 : decode b_S_firstMatch 116 = .ok (.ireturn, 1) := by decide +kernel
theorem d_S_firstMatch_117 : decode b_S_firstMatch 117 = .ok (.iinc 14 1, 3) := by decide +kernel
theorem d_S_firstMatch_120 : decode b_S_firstMatch 120 = .ok (.goto (-46), 3) := by decide +kernel
theorem d_S_firstMatch_123 : decode b_S_firstMatch 123 = .ok (.iinc 11 1, 3) := by decide +kernel
theorem d_S_firstMatch_126 : decode b_S_firstMatch 126 = .ok (.goto (-95), 3) := by decide +kernel
theorem d_S_firstMatch_129 : decode b_S_firstMatch 129 = .ok (.bipush (-6), 2) := by decide +kernel
theorem d_S_firstMatch_131 : decode b_S_firstMatch 131 = .ok (.ireturn, 1) := by decide +kernel
set_option maxHeartbeats 4000000 in
set_option maxRecDepth 20000 in
theorem c_S_firstMatch {l : Launch} {G : va_G} {tys : List (ClassId × FieldType)} {cI cO cZ : ClassId} (hT : TY tys cI cO cZ) (q a b : Nat) (sg ln : Int → Int) (r pl ov lc sd : Int) (N : Int) (v : Int → Int) (hO : Ok r sg ln N v) (hr : r ≤ 50) (hN : N ≤ 3000) (f p : Int) (hf : 0 ≤ f ∧ f < 2147483648) (hp : 1 ≤ p ∧ p ≤ 999999999) : CTI l G tys y_S_firstMatch b_S_firstMatch 15 .int 1 24 [.ref q, .int (iI f), .int (iI p)] (sw cI q a b sg ln r pl ov lc sd) (fun z u => u = sw cI q a b sg ln r pl ov lc sd ∧ (Fnd v N p f z)) := by
  refine mkI (by decide) (Nat.le_of_ble_eq_true rfl) ?_
  rintro X rfl rfl rfl hRm C kret H ls w hl
  have hl : lv_has ls 15 [(0, .ref q), (1, .int (iI f)), (2, .int (iI p))] := hl
  have w : Wd X (sw cI q a b sg ln r pl ov lc sd) H [] := w
  generalize ([] : List Loc) = locs at w ⊢
  have hr0 := hO.1
  have hN0 := hO.n0
  have hps := ps_zero ln
  have hpr := hO.2.2.2.1
  have hd9 := dl_9 (p := p) (by omega)
  have hd1 := dl_pos (n := p) (by omega)
  have hpw := pw2_le (k := 4 * dl p) (by omega)
  have hvr := hO.v_rg
  have hgw := nv_rg (g := dgt p) (dl p) (by omega) (fun j _ _ => by have := dgt_rg p j; omega)
  refine r_iload_n (pc := 0) C d_S_firstMatch_0 rfl (lv_at hl 2 rfl) ?_
  refine r_callP (pc := 1) (As := [.int (iI p)]) (rest := []) C w (c_X_digitsOf p (by omega)) ml_S_81 st_X_digitsOf ini_X cd_X_digitsOf hd_X_digitsOf rfl (by rw [hRm]; exact ⟨⟨Nat.le_of_ble_eq_true rfl, Nat.le_of_ble_eq_true rfl⟩, Nat.le_of_ble_eq_true rfl, Nat.le_of_ble_eq_true rfl⟩) hl.1 rfl (Nat.le_of_ble_eq_true rfl) d_S_firstMatch_1 (fun z_1 H locs hz_1 w => ?_)
  subst hz_1
  have hdl := dl_rg p
  refine r_istore_n (pc := 4) (lv' := [(3, .int (iI (dl p))), (0, .ref q), (1, .int (iI f)), (2, .int (iI p))]) C d_S_firstMatch_4 rfl hl (by decide) rfl (fun ls hl => ?_)
  refine r_iload_n (pc := 5) C d_S_firstMatch_5 rfl (lv_at hl 3 rfl) ?_
  refine r_callSL (pc := 6) (As := [.int (iI p)]) (rest := []) C w (c_X_inGroupsOf4Bits p (by omega)) ml_S_84 st_X_inGroupsOf4Bits ini_X cd_X_inGroupsOf4Bits hd_X_inGroupsOf4Bits rfl (by rw [hRm]; exact ⟨⟨Nat.le_of_ble_eq_true rfl, Nat.le_of_ble_eq_true rfl⟩, Nat.le_of_ble_eq_true rfl, Nat.le_of_ble_eq_true rfl⟩) hl.1 rfl (Nat.le_of_ble_eq_true rfl) d_S_firstMatch_6 (fun z u h => h.1) (fun z_6 H locs hz_6 w => ?_)
  obtain ⟨-, rfl⟩ := hz_6
  refine r_lstore (pc := 9) (lv' := [(4, .long (iL (nv (dgt p) (dl p)))), (3, .int (iI (dl p))), (0, .ref q), (1, .int (iI f)), (2, .int (iI p))]) C d_S_firstMatch_9 hl (by decide) rfl (fun ls hl => ?_)
  refine r_lconst (pc := 11) (z := 1) C d_S_firstMatch_11 rfl ?_
  refine r_iconst (pc := 12) C d_S_firstMatch_12 ?_
  refine r_iload_n (pc := 13) C d_S_firstMatch_13 rfl (lv_at hl 1 rfl) ?_
  refine r_imul (pc := 14) C d_S_firstMatch_14 ?_
  refine r_lshl (pc := 15) C (by omega) d_S_firstMatch_15 ?_
  refine r_topl (y := iL (pw2 (4 * (dl p)))) (by rw [Int.one_mul]) ?_
  refine r_lconst (pc := 16) (z := 1) C d_S_firstMatch_16 rfl ?_
  refine r_lsub (pc := 17) C (by omega) d_S_firstMatch_17 ?_
  refine r_lstore (pc := 18) (lv' := [(6, .long (iL ((pw2 (4 * (dl p))) - 1))), (4, .long (iL (nv (dgt p) (dl p)))), (3, .int (iI (dl p))), (0, .ref q), (1, .int (iI f)), (2, .int (iI p))]) C d_S_firstMatch_18 hl (by decide) rfl (fun ls hl => ?_)
  refine r_ldc2 (pc := 20) (z := 18446744073709551615) C kc_S_88 (by decide +kernel) d_S_firstMatch_20 ?_
  refine r_lstore (pc := 23) (lv' := [(8, .long (iL 18446744073709551615)), (6, .long (iL ((pw2 (4 * (dl p))) - 1))), (4, .long (iL (nv (dgt p) (dl p)))), (3, .int (iI (dl p))), (0, .ref q), (1, .int (iI f)), (2, .int (iI p))]) C d_S_firstMatch_23 hl (by decide) rfl (fun ls hl => ?_)
  refine r_iconst (pc := 25) C d_S_firstMatch_25 ?_
  refine r_istore (pc := 26) (lv' := [(10, .int (iI 0)), (8, .long (iL 18446744073709551615)), (6, .long (iL ((pw2 (4 * (dl p))) - 1))), (4, .long (iL (nv (dgt p) (dl p)))), (3, .int (iI (dl p))), (0, .ref q), (1, .int (iI f)), (2, .int (iI p))]) C d_S_firstMatch_26 hl (by decide) rfl (fun ls hl => ?_)
  refine r_iconst (pc := 28) C d_S_firstMatch_28 ?_
  refine r_istore (pc := 29) (lv' := [(11, .int (iI 0)), (10, .int (iI 0)), (8, .long (iL 18446744073709551615)), (6, .long (iL ((pw2 (4 * (dl p))) - 1))), (4, .long (iL (nv (dgt p) (dl p)))), (3, .int (iI (dl p))), (0, .ref q), (1, .int (iI f)), (2, .int (iI p))]) C d_S_firstMatch_29 hl (by decide) rfl (fun ls hl => ?_)
  have L31 : ∀ (fuel : Nat), ∀ (run : Int) (st : Int) (L1 : Int), 0 ≤ run ∧ run ≤ r → st = ps ln run → 0 ≤ L1 ∧ L1 < 18446744073709551616 → L1 % pw2 (4 * dl p) = nv (wnd v f (max st f)) (dl p) → (∀ e, f + dl p ≤ e + 1 → e < st → ¬ Mt v p e) → (r - run) < (fuel : Int) → ∀ (H : Heap) (locs : List Loc) (ls : Array Slot), Wd X (sw cI q a b sg ln r pl ov lc sd) H locs → lv_has ls 15 [(0, .ref q), (1, .int (iI f)), (2, .int (iI p)), (3, .int (iI (dl p))), (4, .long (iL (nv (dgt p) (dl p)))), (6, .long (iL (pw2 (4 * (dl p)) - 1))), (8, .long (iL L1)), (10, .int (iI st)), (11, .int (iI run))] → GG X 0 0 H locs 31 ls [] := by
    intro fuel
    induction fuel with
    | zero =>
      intro run st L1 h0 hst hL1 hw1 hno hfuel
      exact absurd hfuel (by omega)
    | succ fuel ih31 =>
      intro run st L1 h0 hst hL1 hw1 hno hfuel H locs ls w hl
      refine r_iload (pc := 31) C d_S_firstMatch_31 (lv_at hl 8 rfl) ?_
      refine r_aload_n (pc := 33) C d_S_firstMatch_33 rfl (lv_at hl 0 rfl) ?_
      refine r_get (pc := 34) (v := .int (iI r)) C w i_S rfl 0 rfl 2 (by decide) fl_S_18 rfl rfl d_S_firstMatch_34 ?_
      refine r_icmp_ge (pc := 37) (tgt := 129) C (by omega) d_S_firstMatch_37 (by decide) (fun c_37 => ?_) (fun c_37 => ?_)
      · skip
        refine r_bipush (pc := 129) C d_S_firstMatch_129 (by decide) ?_
        exact kret _ _ _ _ (-6) _ d_S_firstMatch_131 w (⟨rfl, Or.inl ⟨rfl, fun e e1 e2 => hno e e1 (by rw [hst, show run = r by omega, hpr]; exact e2)⟩⟩)
      · skip
        have hk2 := hO.run (k := run) (by omega) (by omega)
        have hrun : ∀ x, st ≤ x → x < st + ln run → v x = sg run := fun x x1 x2 => hO.2.2.2.2 run (by omega) (by omega) x (by omega) (by omega)
        refine r_iload (pc := 40) C d_S_firstMatch_40 (lv_at hl 7 rfl) ?_
        refine r_iload_n (pc := 42) C d_S_firstMatch_42 rfl (lv_at hl 1 rfl) ?_
        refine r_max (pc := 43) C ml_S_61 (by omega) (by rw [hRm]; exact ⟨⟨Nat.le_of_ble_eq_true rfl, Nat.le_of_ble_eq_true rfl⟩, Nat.le_of_ble_eq_true rfl, Nat.le_of_ble_eq_true rfl⟩) hl.1 d_S_firstMatch_43 ?_
        refine r_istore (pc := 46) (lv' := [(12, .int (iI (max st f))), (0, .ref q), (1, .int (iI f)), (2, .int (iI p)), (3, .int (iI (dl p))), (4, .long (iL (nv (dgt p) (dl p)))), (6, .long (iL (pw2 (4 * (dl p)) - 1))), (8, .long (iL L1)), (10, .int (iI st)), (11, .int (iI run))]) C d_S_firstMatch_46 hl (by decide) rfl (fun ls hl => ?_)
        refine r_iload (pc := 48) C d_S_firstMatch_48 (lv_at hl 8 rfl) ?_
        refine r_aload_n (pc := 50) C d_S_firstMatch_50 rfl (lv_at hl 1 rfl) ?_
        refine r_get (pc := 51) (v := .ref b) C w i_S rfl 0 rfl 1 (by decide) fl_S_15 rfl rfl d_S_firstMatch_51 ?_
        refine r_iload (pc := 54) C d_S_firstMatch_54 (lv_at hl 9 rfl) ?_
        refine r_iald (pc := 56) (f := ln) (i := run) C w 0 2 rfl hT.1 (by omega) d_S_firstMatch_56 ?_
        refine r_iadd (pc := 57) C d_S_firstMatch_57 ?_
        refine r_istore (pc := 58) (lv' := [(10, .int (iI (st + (ln run)))), (12, .int (iI (max st f))), (0, .ref q), (1, .int (iI f)), (2, .int (iI p)), (3, .int (iI (dl p))), (4, .long (iL (nv (dgt p) (dl p)))), (6, .long (iL (pw2 (4 * (dl p)) - 1))), (8, .long (iL L1)), (11, .int (iI run))]) C d_S_firstMatch_58 hl (by decide) rfl (fun ls hl => ?_)
        refine r_iload (pc := 60) C d_S_firstMatch_60 (lv_at hl 0 rfl) ?_
        refine r_iload (pc := 62) C d_S_firstMatch_62 (lv_at hl 1 rfl) ?_
        refine r_isub (pc := 64) C d_S_firstMatch_64 ?_
        refine r_iload_n (pc := 65) C d_S_firstMatch_65 rfl (lv_at hl 5 rfl) ?_
        refine r_min (pc := 66) C ml_S_55 (by omega) (by rw [hRm]; exact ⟨⟨Nat.le_of_ble_eq_true rfl, Nat.le_of_ble_eq_true rfl⟩, Nat.le_of_ble_eq_true rfl, Nat.le_of_ble_eq_true rfl⟩) hl.1 d_S_firstMatch_66 ?_
        refine r_istore (pc := 69) (lv' := [(13, .int (iI (min ((st + (ln run)) - (max st f)) (dl p)))), (10, .int (iI (st + (ln run)))), (12, .int (iI (max st f))), (0, .ref q), (1, .int (iI f)), (2, .int (iI p)), (3, .int (iI (dl p))), (4, .long (iL (nv (dgt p) (dl p)))), (6, .long (iL (pw2 (4 * (dl p)) - 1))), (8, .long (iL L1)), (11, .int (iI run))]) C d_S_firstMatch_69 hl (by decide) rfl (fun ls hl => ?_)
        refine r_iconst (pc := 71) C d_S_firstMatch_71 ?_
        refine r_istore (pc := 72) (lv' := [(14, .int (iI 0)), (13, .int (iI (min ((st + (ln run)) - (max st f)) (dl p)))), (10, .int (iI (st + (ln run)))), (12, .int (iI (max st f))), (0, .ref q), (1, .int (iI f)), (2, .int (iI p)), (3, .int (iI (dl p))), (4, .long (iL (nv (dgt p) (dl p)))), (6, .long (iL (pw2 (4 * (dl p)) - 1))), (8, .long (iL L1)), (11, .int (iI run))]) C d_S_firstMatch_72 hl (by decide) rfl (fun ls hl => ?_)
        have L74 : ∀ (fuel : Nat), ∀ (i : Int) (L2 : Int) (fs : Int) (lk : Int) (s2 : Int), 0 ≤ i ∧ (i ≤ lk ∨ i = 0) → 0 ≤ L2 ∧ L2 < 18446744073709551616 → fs = max st f → s2 = st + ln run → lk = min (s2 - fs) (dl p) → L2 % pw2 (4 * dl p) = nv (wnd v f (fs + i)) (dl p) → (∀ e, f + dl p ≤ e + 1 → e < fs + i → ¬ Mt v p e) → (max 0 lk - i) < (fuel : Int) → ∀ (H : Heap) (locs : List Loc) (ls : Array Slot), Wd X (sw cI q a b sg ln r pl ov lc sd) H locs → lv_has ls 15 [(0, .ref q), (1, .int (iI f)), (2, .int (iI p)), (3, .int (iI (dl p))), (4, .long (iL (nv (dgt p) (dl p)))), (6, .long (iL (pw2 (4 * (dl p)) - 1))), (8, .long (iL L2)), (10, .int (iI s2)), (11, .int (iI run)), (12, .int (iI fs)), (13, .int (iI lk)), (14, .int (iI i))] → GG X 0 0 H locs 74 ls [] := by
          intro fuel
          induction fuel with
          | zero =>
            intro i L2 fs lk s2 h1 hL2 hfs hs2 hlk hw2 hno2 hfuel
            exact absurd hfuel (by omega)
          | succ fuel ih74 =>
            intro i L2 fs lk s2 h1 hL2 hfs hs2 hlk hw2 hno2 hfuel H locs ls w hl
            have hrun : ∀ x, st ≤ x → x < s2 → v x = sg run := fun x x1 x2 => hrun x x1 (by omega)
            refine r_iload (pc := 74) C d_S_firstMatch_74 (lv_at hl 11 rfl) ?_
            refine r_iload (pc := 76) C d_S_firstMatch_76 (lv_at hl 10 rfl) ?_
            refine r_icmp_ge (pc := 78) (tgt := 123) C (by omega) d_S_firstMatch_78 (by decide) (fun c_78 => ?_) (fun c_78 => ?_)
            · skip
              refine r_iinc (pc := 123) (j := 8) (lv' := [(11, .int (iI (run + 1))), (0, .ref q), (1, .int (iI f)), (2, .int (iI p)), (3, .int (iI (dl p))), (4, .long (iL (nv (dgt p) (dl p)))), (6, .long (iL (pw2 (4 * (dl p)) - 1))), (8, .long (iL L2)), (10, .int (iI s2)), (12, .int (iI fs)), (13, .int (iI lk)), (14, .int (iI i))]) C d_S_firstMatch_123 hl rfl (by decide) rfl (fun ls hl => ?_)
              refine r_goto (pc := 126) (tgt := 31) C d_S_firstMatch_126 (by decide) ?_
              exact ih31 (run + 1) s2 L2 (by omega) ((by rw [hs2, hst]; exact (ps_succ ln (by omega)).symm)) (by omega) ((hw2.trans (run_end hfs hlk (by omega) (by omega) hd1 hrun))) ((run_no hfs hlk (by omega) (by omega) hd1 hrun hno2)) (by omega) _ _ _ w (lv_sub hl [1, 2, 3, 4, 5, 6, 7, 8, 0] rfl)
            · skip
              have hw0 := fun k hk => wnd_rg (v := v) (f := f) (E := fs + i) (N := N) (by omega) (by omega) hvr k hk
              have hw9 := fun k hk => wnd_rg (v := v) (f := f) (E := fs + i + 1) (N := N) (by omega) (by omega) hvr k hk
              have hw3 : (L2 * 16 % 18446744073709551616 + sg run) % pw2 (4 * dl p) = nv (wnd v f (fs + i + 1)) (dl p) := (st16 hL2 ⟨hd1, hd9⟩ (by omega) (fun k k1 _ => hw0 k k1) hw2).trans (nv_congr (dl p) (by omega) (fun k k1 _ => by rw [← wnd_step (by omega) k k1, hrun (fs + i) (by omega) (by omega)]))
              have hw4 := nv_rg (g := wnd v f (fs + i + 1)) (dl p) (by omega) (fun k k1 _ => hw9 k k1)
              have hmt := mt_iff (v := v) (p := p) (f := f) (E := fs + i + 1) hd1 hw9
              refine r_lload (pc := 81) C d_S_firstMatch_81 (lv_at hl 6 rfl) ?_
              refine r_iconst (pc := 83) C d_S_firstMatch_83 ?_
              refine r_lshl (pc := 84) C (by omega) d_S_firstMatch_84 ?_
              refine r_topl (y := iL (L2 * 16 % 18446744073709551616)) (lsh4 (by omega)) ?_
              refine r_aload_n (pc := 85) C d_S_firstMatch_85 rfl (lv_at hl 0 rfl) ?_
              refine r_get (pc := 86) (v := .ref a) C w i_S rfl 0 rfl 0 (by decide) fl_S_9 rfl rfl d_S_firstMatch_86 ?_
              refine r_iload (pc := 89) C d_S_firstMatch_89 (lv_at hl 8 rfl) ?_
              refine r_iald (pc := 91) (f := sg) (i := run) C w 0 1 rfl hT.1 (by omega) d_S_firstMatch_91 ?_
              refine r_i2l (pc := 92) C (by omega) d_S_firstMatch_92 ?_
              refine r_lor (pc := 93) (z := (L2 * 16 % 18446744073709551616 + sg run)) C (or16 (by omega) (by omega)) d_S_firstMatch_93 ?_
              refine r_lstore (pc := 94) (lv' := [(8, .long (iL (L2 * 16 % 18446744073709551616 + sg run))), (0, .ref q), (1, .int (iI f)), (2, .int (iI p)), (3, .int (iI (dl p))), (4, .long (iL (nv (dgt p) (dl p)))), (6, .long (iL (pw2 (4 * (dl p)) - 1))), (10, .int (iI s2)), (11, .int (iI run)), (12, .int (iI fs)), (13, .int (iI lk)), (14, .int (iI i))]) C d_S_firstMatch_94 hl (by decide) rfl (fun ls hl => ?_)
              refine r_lload (pc := 96) C d_S_firstMatch_96 (lv_at hl 0 rfl) ?_
              refine r_lload (pc := 98) C d_S_firstMatch_98 (lv_at hl 6 rfl) ?_
              refine r_landm (pc := 100) (b := (4 * (dl p))) C (by omega) (by omega) d_S_firstMatch_100 ?_
              refine r_topl (y := iL (nv (wnd v f (fs + i + 1)) (dl p))) (by rw [hw3]) ?_
              refine r_lload (pc := 101) C d_S_firstMatch_101 (lv_at hl 5 rfl) ?_
              refine r_lcmp (pc := 103) C (by omega) d_S_firstMatch_103 (fun z_103 hz_103 hy_103 => ?_)
              refine r_if_ne (pc := 104) (tgt := 117) C (by omega) d_S_firstMatch_104 (by decide) (fun c_104 => ?_) (fun c_104 => ?_)
              · skip
                refine r_iinc (pc := 117) (j := 11) (lv' := [(14, .int (iI (i + 1))), (8, .long (iL (L2 * 16 % 18446744073709551616 + sg run))), (0, .ref q), (1, .int (iI f)), (2, .int (iI p)), (3, .int (iI (dl p))), (4, .long (iL (nv (dgt p) (dl p)))), (6, .long (iL (pw2 (4 * (dl p)) - 1))), (10, .int (iI s2)), (11, .int (iI run)), (12, .int (iI fs)), (13, .int (iI lk))]) C d_S_firstMatch_117 hl rfl (by decide) rfl (fun ls hl => ?_)
                refine r_goto (pc := 120) (tgt := 74) C d_S_firstMatch_120 (by decide) ?_
                exact ih74 (i + 1) (L2 * 16 % 18446744073709551616 + sg run) fs lk s2 (by omega) (by omega) (by omega) (by omega) (by omega) ((hw3.trans (by rw [Int.add_assoc]))) ((fun e e1 e2 => if q : e = fs + i then (fun hM => (by omega : ¬ nv (wnd v f (fs + i + 1)) (dl p) = nv (dgt p) (dl p)) (hmt.mpr ⟨by omega, by rw [show fs + i + 1 - 1 = e by omega]; exact hM⟩)) else hno2 e e1 (by omega))) (by omega) _ _ _ w (lv_sub hl [2, 3, 4, 5, 6, 7, 1, 8, 9, 10, 11, 0] rfl)
              · skip
                refine r_iload (pc := 107) C d_S_firstMatch_107 (lv_at hl 9 rfl) ?_
                refine r_iload (pc := 109) C d_S_firstMatch_109 (lv_at hl 11 rfl) ?_
                refine r_iadd (pc := 111) C d_S_firstMatch_111 ?_
                refine r_iconst (pc := 112) C d_S_firstMatch_112 ?_
                refine r_iadd (pc := 113) C d_S_firstMatch_113 ?_
                refine r_iload_n (pc := 114) C d_S_firstMatch_114 rfl (lv_at hl 4 rfl) ?_
                refine r_isub (pc := 115) C d_S_firstMatch_115 ?_
                exact kret _ _ _ _ (((fs + i) + 1) - (dl p)) _ d_S_firstMatch_116 w (⟨rfl, Or.inr ⟨fs + i, by have := (hmt.mp (by omega)).1; omega, by omega, by have h8 := (hmt.mp (by omega)).2; rw [show fs + i + 1 - 1 = fs + i by omega] at h8; exact h8, rfl, hno2⟩⟩)
        exact L74 ((max 0 (min ((st + (ln run)) - (max st f)) (dl p)) - 0) + 1 : Int).toNat 0 L1 (max st f) (min ((st + (ln run)) - (max st f)) (dl p)) (st + (ln run)) (by first | omega | rfl) (by first | omega | rfl) (by first | omega | rfl) (by first | omega | rfl) (by first | omega | rfl) ((by rw [Int.add_zero]; exact hw1)) ((fun e e1 e2 => hno e e1 (by omega))) (by omega) _ _ _ w (lv_sub hl [4, 5, 6, 7, 8, 9, 10, 2, 11, 3, 1, 0] rfl)
  exact L31 ((r - 0) + 1 : Int).toNat 0 0 18446744073709551615 (by first | omega | rfl) ((by rw [ps_zero])) (by first | omega | rfl) ((nv_start ⟨hd1, hd9⟩ (fun j j1 j2 => by unfold wnd; rw [if_neg (by omega)]))) ((fun e e1 e2 => by omega)) (by omega) _ _ _ w (lv_sub hl [6, 7, 8, 5, 4, 3, 2, 1, 0] rfl)
def Sp_find (f p : Int) (A : AS) (z : Int) (A' : AS) : Prop := match A with | ((lc, sd, r, sg, ln, N, v), hist, rcd, slot, uf, T, m) => A' = A ∧ (((f < 0 ∨ ¬ (1 ≤ p ∧ p ≤ 999999999)) ∧ z = -2) ∨ ((0 ≤ f ∧ 1 ≤ p ∧ p ≤ 999999999) ∧ Fnd v N p f z))
theorem d_D_find_0 : decode b_D_find 0 = .ok (.iload_n 1, 1) := by decide +kernel
theorem d_D_find_1 : decode b_D_find 1 = .ok (.ifCond .lt 13, 3) := by decide +kernel
theorem d_D_find_4 : decode b_D_find 4 = .ok (.iload_n 2, 1) := by decide +kernel
theorem d_D_find_5 : decode b_D_find 5 = .ok (.iconst 1, 1) := by decide +kernel
theorem d_D_find_6 : decode b_D_find 6 = .ok (.ldc 144, 2) := by decide +kernel
theorem d_D_find_8 : decode b_D_find 8 = .ok (.invokestatic 44, 3) := by decide +kernel
theorem d_D_find_11 : decode b_D_find 11 = .ok (.ifCond .ne 6, 3) := by decide +kernel
theorem d_D_find_14 : decode b_D_find 14 = .ok (.bipush (-2), 2) := by decide +kernel
theorem d_D_find_16 : decode b_D_find 16 = .ok (.ireturn, 1) := by decide +kernel
theorem d_D_find_17 : decode b_D_find 17 = .ok (.aload_n 0, 1) := by decide +kernel
theorem d_D_find_18 : decode b_D_find 18 = .ok (.getfield 10, 3) := by decide +kernel
theorem d_D_find_21 : decode b_D_find 21 = .ok (.iload_n 1, 1) := by decide +kernel
theorem d_D_find_22 : decode b_D_find 22 = .ok (.iload_n 2, 1) := by decide +kernel
theorem d_D_find_23 : decode b_D_find 23 = .ok (.invokevirtual 145, 3) := by decide +kernel
theorem d_D_find_26 : decode b_D_find 26 = .ok (.ireturn, 1) := by decide +kernel
set_option maxHeartbeats 4000000 in
set_option maxRecDepth 20000 in
theorem c_D_find {l : Launch} {G : va_G} {tys : List (ClassId × FieldType)} {cI cO cZ : ClassId} (hT : TY tys cI cO cZ) (o : Nat) (A : AS) (ws : va_W) (hA : CW cI cO cZ o A ws) (f p : Int) (hrg : (-2147483648 ≤ f ∧ f < 2147483648) ∧ (-2147483648 ≤ p ∧ p < 2147483648)) : CTI l G tys y_D_find b_D_find 3 .int 2 58 [.ref o, .int (iI f), .int (iI p)] ws (fun z u => ∃ A' : AS, CW cI cO cZ o A' u ∧ Sp_find f p A z A') := by
  obtain ⟨⟨lc, sd, r, sg, ln, N, v⟩, hist, rcd, slot, uf, T, m⟩ := A
  obtain ⟨hR, h, sl, us, pd, co, hf, sf, q, a, b, ov, q2, a2, b2, sg2, ln2, r2, pl2, ov2, lc2, sd2, q3, a3, b3, sg3, ln3, r3, pl3, ov3, lc3, sd3, st, rfl, hC⟩ := hA
  have hO := hR.1
  have hr5 := hR.2.1
  have hN3 := hR.2.2.1
  have hN0 := hO.n0
  have hr0 := hO.1
  have hlcd := hR.2.2.2
  have hm80 := hC.2.2.2.2.2.1
  have hrcd6 := hC.2.2.1
  refine mkI (by decide) (Nat.le_of_ble_eq_true rfl) ?_
  rintro X rfl rfl rfl hRm C kret H ls w hl
  have hl : lv_has ls 3 [(0, .ref o), (1, .int (iI f)), (2, .int (iI p))] := hl
  have w : Wd X (dcore cI cO cZ o h sl us pd co q q2 q3 hf rcd sf uf T m ++ sw cI q a b sg ln r N ov lc sd ++ sw cI q2 a2 b2 sg2 ln2 r2 pl2 ov2 lc2 sd2 ++ sw cI q3 a3 b3 sg3 ln3 r3 pl3 ov3 lc3 sd3 ++ hst cI st) H [] := w
  generalize ([] : List Loc) = locs at w ⊢
  refine r_iload_n (pc := 0) C d_D_find_0 rfl (lv_at hl 1 rfl) ?_
  refine r_if_lt (pc := 1) (tgt := 14) C (by omega) d_D_find_1 (by decide) (fun c_1 => ?_) (fun c_1 => ?_)
  · skip
    refine r_bipush (pc := 14) C d_D_find_14 (by decide) ?_
    exact kret _ _ _ _ (-2) _ d_D_find_16 w (⟨_, cw_mk hR hC, ⟨rfl, Or.inl ⟨by omega, rfl⟩⟩⟩)
  · skip
    refine r_iload_n (pc := 4) C d_D_find_4 rfl (lv_at hl 2 rfl) ?_
    refine r_iconst (pc := 5) C d_D_find_5 ?_
    refine r_ldc (pc := 6) (z := 999999999) C kc_D_144 (by decide) d_D_find_6 ?_
    refine r_callP (pc := 8) (As := [.int (iI p), .int (iI 1), .int (iI 999999999)]) (rest := []) C w (c_D_isWithin p 1 999999999 (by omega)) ml_D_44 st_D_isWithin ini_D cd_D_isWithin hd_D_isWithin rfl (by rw [hRm]; exact ⟨⟨Nat.le_of_ble_eq_true rfl, Nat.le_of_ble_eq_true rfl⟩, Nat.le_of_ble_eq_true rfl, Nat.le_of_ble_eq_true rfl⟩) hl.1 rfl (Nat.le_of_ble_eq_true rfl) d_D_find_8 (fun z_8 H locs hz_8 w => ?_)
    refine r_if_ne (pc := 11) (tgt := 17) C (by omega) d_D_find_11 (by decide) (fun c_11 => ?_) (fun c_11 => ?_)
    · skip
      have hb_11 : 1 ≤ p ∧ p ≤ 999999999 := by omega
      clear hz_8 c_11
      refine r_aload_n (pc := 17) C d_D_find_17 rfl (lv_at hl 0 rfl) ?_
      refine r_get (pc := 18) (v := .ref q) C w i_D rfl 0 rfl 0 (by decide) fl_D_10 rfl rfl d_D_find_18 ?_
      refine r_iload_n (pc := 21) C d_D_find_21 rfl (lv_at hl 1 rfl) ?_
      refine r_iload_n (pc := 22) C d_D_find_22 rfl (lv_at hl 2 rfl) ?_
      refine r_callVI (pc := 23) (As := [.int (iI f), .int (iI p)]) (rest := []) (wr := (dcore cI cO cZ o h sl us pd co q q2 q3 hf rcd sf uf T m ++ sw cI q2 a2 b2 sg2 ln2 r2 pl2 ov2 lc2 sd2 ++ sw cI q3 a3 b3 sg3 ln3 r3 pl3 ov3 lc3 sd3 ++ hst cI st)) C w (c_S_firstMatch hT q a b sg ln r N ov lc sd _ _ hO (by omega) (by omega) f p (by omega) (by omega)) ml_D_145 im_S_firstMatch se_S_firstMatch ini_S cd_S_firstMatch hd_S_firstMatch rfl (by rw [hRm]; exact ⟨⟨Nat.le_of_ble_eq_true rfl, Nat.le_of_ble_eq_true rfl⟩, Nat.le_of_ble_eq_true rfl, Nat.le_of_ble_eq_true rfl⟩) hl.1 [6, 7, 8] [0, 1, 2, 3, 4, 5, 9, 10, 11, 12, 13, 14, 15, 16, 17, 18, 19, 20, 21, 22, 23, 24, 25, 26, 27, 28, 29, 30, 31, 32, 33, 34, 35, 36, 37, 38] ⟨rfl, rfl, by decide, by decide, by decide⟩ 0 rfl rfl rfl (Nat.le_of_ble_eq_true rfl) d_D_find_23 (fun z_23 u_23 H locs hz_23 w => ?_)
      obtain ⟨rfl, hz_23⟩ := hz_23
      have w : Wd X (dcore cI cO cZ o h sl us pd co q q2 q3 hf rcd sf uf T m ++ sw cI q a b sg ln r N ov lc sd ++ sw cI q2 a2 b2 sg2 ln2 r2 pl2 ov2 lc2 sd2 ++ sw cI q3 a3 b3 sg3 ln3 r3 pl3 ov3 lc3 sd3 ++ hst cI st) H locs := w.sub [0, 1, 2, 3, 4, 5, 36, 37, 38, 6, 7, 8, 9, 10, 11, 12, 13, 14, 15, 16, 17, 18, 19, 20, 21, 22, 23, 24, 25, 26, 27, 28, 29, 30, 31, 32, 33, 34, 35] rfl (by decide)
      exact kret _ _ _ _ z_23 _ d_D_find_26 w (⟨_, cw_mk hR hC, ⟨rfl, Or.inr ⟨by omega, hz_23⟩⟩⟩)
    · skip
      have hb_11 : ¬ (1 ≤ p ∧ p ≤ 999999999) := by omega
      clear hz_8 c_11
      refine r_bipush (pc := 14) C d_D_find_14 (by decide) ?_
      exact kret _ _ _ _ (-2) _ d_D_find_16 w (⟨_, cw_mk hR hC, ⟨rfl, Or.inl ⟨by omega, rfl⟩⟩⟩)
