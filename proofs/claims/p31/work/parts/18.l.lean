/-! longs as whole numbers below 2^64 -/
theorem wb_tb (n : Nat) : (lN n).toBitVec = BitVec.ofNat 64 n := rfl
theorem wb_inj {a b : Int64} (h : a.toBitVec = b.toBitVec) : a = b := Int64.toBitVec_inj.mp h
theorem wb_tn {n : Nat} (h : n < 2 ^ 64) : (lN n).toBitVec.toNat = n := by rw [wb_tb, BitVec.toNat_ofNat, Nat.mod_eq_of_lt h]
theorem wb_of (x : Int64) : ∃ n, n < 2 ^ 64 ∧ x = lN n := ⟨x.toBitVec.toNat, x.toBitVec.isLt, wb_inj (by rw [wb_tb]; simp)⟩
theorem wb_of32 (x : Int32) : ∃ n, n < 2 ^ 32 ∧ x = nI n := ⟨x.toBitVec.toNat, x.toBitVec.isLt, Int32.toBitVec_inj.mp (by show _ = BitVec.ofNat 32 _; simp)⟩
theorem wb_c : ∀ k, k < 64 → ((nI k).toInt64 &&& 63) = lN k := by decide +kernel
theorem wb_cu : ∀ k, k < 64 → ((nI k).toInt64.toUInt64 &&& Int64.toUInt64 63) = UInt64.ofNat k := by decide +kernel
theorem wb_sm : ∀ k, k < 64 → (BitVec.ofNat 64 k).smod 64 = BitVec.ofNat 64 k := by decide +kernel
theorem wb_pw {a b : Nat} (h : a ≤ b) : 2 ^ b = 2 ^ a * 2 ^ (b - a) := by rw [← Nat.pow_add]; congr 1; omega
theorem wb_lt2 {a b : Nat} (h : a < b) : 2 ^ a < 2 ^ b := Nat.pow_lt_pow_right (by decide) h
theorem wb_mod (n : Nat) : lN n = lN (n % 2 ^ 64) := wb_inj (by rw [wb_tb, wb_tb]; apply BitVec.eq_of_toNat_eq; rw [BitVec.toNat_ofNat, BitVec.toNat_ofNat, Nat.mod_mod])
theorem wb_shr {n k : Nat} (hn : n < 2 ^ 64) (hk : k < 64) : ((lN n).toUInt64 >>> ((nI k).toInt64.toUInt64 &&& Int64.toUInt64 63)).toInt64 = lN (n / 2 ^ k) := by
  rw [wb_cu k hk]
  apply wb_inj
  apply BitVec.eq_of_toNat_eq
  show ((lN n).toUInt64 >>> UInt64.ofNat k).toNat = (BitVec.ofNat 64 _).toNat
  have h1 : (UInt64.ofNat k).toNat = k := by
    show (BitVec.ofNat 64 k).toNat = k
    rw [BitVec.toNat_ofNat, Nat.mod_eq_of_lt (by omega)]
  have h2 : (lN n).toUInt64.toNat = n := wb_tn hn
  rw [UInt64.toNat_shiftRight, h1, h2, Nat.mod_eq_of_lt hk, Nat.shiftRight_eq_div_pow, BitVec.toNat_ofNat, Nat.mod_eq_of_lt (Nat.lt_of_le_of_lt (Nat.div_le_self _ _) hn)]
theorem wb_shl (n : Nat) {k : Nat} (hk : k < 64) : lN n <<< ((nI k).toInt64 &&& 63) = lN (n * 2 ^ k) := by
  rw [wb_c k hk]
  apply wb_inj
  rw [Int64.toBitVec_shiftLeft, wb_tb, wb_tb, wb_tb, wb_sm k hk]
  apply BitVec.eq_of_toNat_eq
  rw [BitVec.shiftLeft_eq', BitVec.toNat_shiftLeft, BitVec.toNat_ofNat, BitVec.toNat_ofNat, BitVec.toNat_ofNat, Nat.mod_eq_of_lt (show k < 2 ^ 64 by omega), Nat.shiftLeft_eq, Nat.mul_mod, Nat.mod_mod, ← Nat.mul_mod]
theorem wb_and {a b : Nat} (ha : a < 2 ^ 64) (hb : b < 2 ^ 64) : lN a &&& lN b = lN (a &&& b) := by
  apply wb_inj
  rw [Int64.toBitVec_and, wb_tb, wb_tb, wb_tb]
  apply BitVec.eq_of_toNat_eq
  rw [BitVec.toNat_and, BitVec.toNat_ofNat, BitVec.toNat_ofNat, BitVec.toNat_ofNat, Nat.mod_eq_of_lt ha, Nat.mod_eq_of_lt hb, Nat.mod_eq_of_lt (Nat.and_lt_two_pow _ hb)]
theorem wb_or {a b : Nat} (ha : a < 2 ^ 64) (hb : b < 2 ^ 64) : lN a ||| lN b = lN (a ||| b) := by
  apply wb_inj
  rw [Int64.toBitVec_or, wb_tb, wb_tb, wb_tb]
  apply BitVec.eq_of_toNat_eq
  rw [BitVec.toNat_or, BitVec.toNat_ofNat, BitVec.toNat_ofNat, BitVec.toNat_ofNat, Nat.mod_eq_of_lt ha, Nat.mod_eq_of_lt hb, Nat.mod_eq_of_lt (Nat.or_lt_two_pow ha hb)]
theorem wb_mask {n k : Nat} (hn : n < 2 ^ 64) (hk : k < 64) : lN n &&& lN (2 ^ k - 1) = lN (n % 2 ^ k) := by
  rw [wb_and hn (by have := wb_lt2 hk; omega), Nat.and_two_pow_sub_one_eq_mod]
theorem wb_a1 {n : Nat} (hn : n < 2 ^ 64) : lN n &&& 1 = lN (n % 2) := wb_mask (k := 1) hn (by decide)
theorem u_tn {n : Nat} (h : n < 2 ^ 64) : (UInt64.ofNat n).toNat = n := Nat.mod_eq_of_lt h
theorem g_or {k p a b : Nat} (hp : 2 ^ k = p) (ha : a < p) (h : b * p + a < 2 ^ 64) : lN (b * p) ||| lN a = lN (b * p + a) := by
  subst hp
  have h1 : b * 2 ^ k ||| a = b * 2 ^ k + a := by rw [← Nat.shiftLeft_eq, Nat.shiftLeft_add_eq_or_of_lt ha]
  have h3 : UInt64.ofNat (b * 2 ^ k) ||| UInt64.ofNat a = UInt64.ofNat (b * 2 ^ k + a) := UInt64.toNat_inj.mp (by rw [UInt64.toNat_or, u_tn (by omega), u_tn (by omega), u_tn h, h1])
  have h2 := congrArg UInt64.toInt64 h3
  exact h2
def iL (z : Int) : Int64 := lN z.toNat
def pw2 (k : Int) : Int := ((2 ^ k.toNat : Nat) : Int)
theorem pw2_pos (k : Int) : 0 < pw2 k := by
  unfold pw2
  have := Nat.two_pow_pos k.toNat
  omega
theorem pw2_add {a b : Int} (ha : 0 ≤ a) (hb : 0 ≤ b) : pw2 (a + b) = pw2 a * pw2 b := by
  unfold pw2
  rw [show (a + b).toNat = a.toNat + b.toNat by omega, Nat.pow_add, Int.natCast_mul]
theorem iI_nI {k : Int} (h : 0 ≤ k ∧ k < 2147483648) : iI k = nI k.toNat := by
  apply Int32.toInt_inj.mp
  rw [iI_toInt (by omega), nI_toInt (by omega)]
  omega
theorem iL_of (x : Int64) : ∃ w : Int, (0 ≤ w ∧ w < 18446744073709551616) ∧ x = iL w := by
  obtain ⟨n, hn, rfl⟩ := wb_of x
  exact ⟨(n : Int), by omega, rfl⟩
theorem iL_eq {a b : Int} (h : (0 ≤ a ∧ a < 18446744073709551616) ∧ (0 ≤ b ∧ b < 18446744073709551616)) : iL a = iL b ↔ a = b := by
  constructor
  · intro e
    have e2 := congrArg (fun x => x.toBitVec.toNat) e
    have h1 : (iL a).toBitVec.toNat = a.toNat := wb_tn (by omega)
    have h2 : (iL b).toBitVec.toNat = b.toNat := wb_tn (by omega)
    have e3 : (iL a).toBitVec.toNat = (iL b).toBitVec.toNat := e2
    omega
  · intro e; rw [e]
theorem iL_toInt {a : Int} (h : 0 ≤ a ∧ a < 9223372036854775808) : (iL a).toInt = a := by
  unfold iL lN
  rw [lg_ofNat_toInt (by omega)]
  omega
theorem iL_lt {a b : Int} (h : (0 ≤ a ∧ a < 9223372036854775808) ∧ (0 ≤ b ∧ b < 9223372036854775808)) : iL a < iL b ↔ a < b := by
  rw [Int64.lt_iff_toInt_lt, iL_toInt h.1, iL_toInt h.2]
theorem iL_mod {a : Int} (h : 0 ≤ a) : iL a = iL (a % 18446744073709551616) := by
  unfold iL
  rw [wb_mod]
  congr 1
  omega
theorem iL_shr {a k : Int} (h : (0 ≤ a ∧ a < 18446744073709551616) ∧ (0 ≤ k ∧ k < 64)) : ((iL a).toUInt64 >>> ((iI k).toInt64.toUInt64 &&& Int64.toUInt64 63)).toInt64 = iL (a / pw2 k) := by
  rw [iI_nI (by omega)]
  unfold iL pw2
  rw [wb_shr (by omega) (by omega)]
  congr 1
  obtain ⟨n, rfl⟩ := Int.eq_ofNat_of_zero_le h.1.1
  rw [Int.toNat_natCast, ← Int.natCast_ediv, Int.toNat_natCast]
theorem iL_shl {a k : Int} (h : 0 ≤ a ∧ (0 ≤ k ∧ k < 64)) : iL a <<< ((iI k).toInt64 &&& 63) = iL (a * pw2 k) := by
  rw [iI_nI (by omega)]
  unfold iL pw2
  rw [wb_shl _ (by omega)]
  congr 1
  obtain ⟨n, rfl⟩ := Int.eq_ofNat_of_zero_le h.1
  rw [Int.toNat_natCast, ← Int.natCast_mul, Int.toNat_natCast]
theorem iL_mask {a k : Int} (h : (0 ≤ a ∧ a < 18446744073709551616) ∧ (0 ≤ k ∧ k < 64)) : iL a &&& iL (pw2 k - 1) = iL (a % pw2 k) := by
  unfold iL pw2
  rw [show (((2 ^ k.toNat : Nat) : Int) - 1).toNat = 2 ^ k.toNat - 1 by omega, wb_mask (by omega) (by omega)]
  congr 1
  obtain ⟨n, rfl⟩ := Int.eq_ofNat_of_zero_le h.1.1
  rw [Int.toNat_natCast, ← Int.natCast_emod, Int.toNat_natCast]
theorem iL_mask8 {a : Int} (h : 0 ≤ a ∧ a < 18446744073709551616) : iL a &&& iL 255 = iL (a % 256) := iL_mask (k := 8) ⟨h, by omega⟩
theorem iL_or {a b k : Int} (h : (0 ≤ a ∧ a < pw2 k) ∧ (0 ≤ b ∧ b * pw2 k + a < 18446744073709551616)) : iL (b * pw2 k) ||| iL a = iL (b * pw2 k + a) := by
  obtain ⟨⟨h1, h2⟩, h3, h4⟩ := h
  obtain ⟨x, rfl⟩ := Int.eq_ofNat_of_zero_le h1
  obtain ⟨y, rfl⟩ := Int.eq_ofNat_of_zero_le h3
  unfold pw2 at h2 h4 ⊢
  have h5 : x < 2 ^ k.toNat := by exact_mod_cast h2
  have h6 : y * 2 ^ k.toNat + x < 2 ^ 64 := by
    have : ((y * 2 ^ k.toNat + x : Nat) : Int) < 18446744073709551616 := by
      rw [Int.natCast_add, Int.natCast_mul]; exact h4
    omega
  have h7 := g_or (k := k.toNat) (p := 2 ^ k.toNat) rfl h5 h6
  unfold iL
  rw [← Int.natCast_mul, ← Int.natCast_add, Int.toNat_natCast, Int.toNat_natCast, Int.toNat_natCast]
  exact h7
theorem iL_toI {a : Int} (h : 0 ≤ a ∧ a < 2147483648) : (iL a).toInt32 = iI a := by
  rw [iI_nI h]
  exact lN_i _
theorem iL_ofI {a : Int} (h : 0 ≤ a ∧ a < 2147483648) : (iI a).toInt64 = iL a := by
  rw [iI_nI h]
  exact nI_l (by omega)
theorem iL_sub {a b : Int} (h : 0 ≤ b ∧ b ≤ a) : iL a - iL b = iL (a - b) := by
  unfold iL
  rw [lN_sub (by omega)]
  congr 1
  omega
section R5
variable {X : Ev} {k n : Nat} {H : Heap} {locs : List Loc} {pc nL : Nat} {ls : Array Slot} {rest : List Value} {cc : ByteArray} {own : String}
theorem r_lconst (C : Cx cc own nL X) {z : Int} {q : Fin 2} (d : decode cc pc = .ok (.lconst q, 1)) (hq : ((q : Nat) : Int) = z) (kk : GG X k n H locs (pc + 1) ls (.long (iL z) :: rest)) : GG X k n H locs pc ls rest := by
  obtain ⟨p, l, e, R, s, m, args, below, meth, c, Q, A, G, tys⟩ := X
  subst hq
  exact lv_lconst C.1 C.2.1 d rfl kk
theorem r_ldc2 (C : Cx cc own nL X) {index : Nat} {v : Int64} {z : Int} (hc : Cond.constantLong own index v ∈ TB) (hv : v = iL z) (d : decode cc pc = .ok (.ldc2_w index, 3)) (kk : GG X k n H locs (pc + 3) ls (.long (iL z) :: rest)) : GG X k n H locs pc ls rest := by
  obtain ⟨p, l, e, R, s, m, args, below, meth, c, Q, A, G, tys⟩ := X
  subst hv
  exact lv_ldc2 C.1 C.2.1 C.2.2.2.1 (C.2.2.2.2 _ hc) d kk
theorem r_lload_n (C : Cx cc own nL X) {q : Fin 4} {i : Nat} {x : Int64} (d : decode cc pc = .ok (.lload_n q, 1)) (hi : (q : Nat) = i) (hl : ls[i]? = some (.val (.long x))) (kk : GG X k n H locs (pc + 1) ls (.long x :: rest)) : GG X k n H locs pc ls rest := by
  obtain ⟨p, l, e, R, s, m, args, below, meth, c, Q, A, G, tys⟩ := X
  exact lv_lload_n C.1 C.2.1 d hi hl kk
theorem r_lload (C : Cx cc own nL X) {i : Nat} {x : Int64} (d : decode cc pc = .ok (.lload i, 2)) (hl : ls[i]? = some (.val (.long x))) (kk : GG X k n H locs (pc + 2) ls (.long x :: rest)) : GG X k n H locs pc ls rest := by
  obtain ⟨p, l, e, R, s, m, args, below, meth, c, Q, A, G, tys⟩ := X
  exact lv_lload C.1 C.2.1 d hl kk
theorem r_lstore_n (C : Cx cc own nL X) {q : Fin 4} {i : Nat} {x : Int64} {lv lv' : List (Nat × Value)} (d : decode cc pc = .ok (.lstore_n q, 1)) (hi : (q : Nat) = i) (h : lv_has ls nL lv) (hn : i + 1 < nL) (hl : (i, Value.long x) :: lv.filter (fun q => !(q.1 == i) && (!(q.1 == i + 1) && !(q.1 + 1 == i && q.2.category == 2))) = lv')
    (kk : ∀ ls' : Array Slot, lv_has ls' nL lv' → GG X k n H locs (pc + 1) ls' rest) : GG X k n H locs pc ls (.long x :: rest) := by
  obtain ⟨p, l, e, R, s, m, args, below, meth, c, Q, A, G, tys⟩ := X
  exact lv_lstore_n C.1 C.2.1 d hi h hn hl kk
theorem r_lstore (C : Cx cc own nL X) {i : Nat} {x : Int64} {lv lv' : List (Nat × Value)} (d : decode cc pc = .ok (.lstore i, 2)) (h : lv_has ls nL lv) (hn : i + 1 < nL) (hl : (i, Value.long x) :: lv.filter (fun q => !(q.1 == i) && (!(q.1 == i + 1) && !(q.1 + 1 == i && q.2.category == 2))) = lv')
    (kk : ∀ ls' : Array Slot, lv_has ls' nL lv' → GG X k n H locs (pc + 2) ls' rest) : GG X k n H locs pc ls (.long x :: rest) := by
  obtain ⟨p, l, e, R, s, m, args, below, meth, c, Q, A, G, tys⟩ := X
  exact lv_lstore C.1 C.2.1 d h hn hl kk
theorem r_topl {x y : Int64} (h : x = y) (kk : GG X k n H locs pc ls (.long y :: rest)) : GG X k n H locs pc ls (.long x :: rest) := h ▸ kk
theorem r_lushr (C : Cx cc own nL X) {a b : Int} (h : (0 ≤ a ∧ a < 18446744073709551616) ∧ (0 ≤ b ∧ b < 64)) (d : decode cc pc = .ok (.lushr, 1)) (kk : GG X k n H locs (pc + 1) ls (.long (iL (a / pw2 b)) :: rest)) : GG X k n H locs pc ls (.int (iI b) :: .long (iL a) :: rest) := by
  obtain ⟨p, l, e, R, s, m, args, below, meth, c, Q, A, G, tys⟩ := X
  exact lv_lushr C.1 C.2.1 d (iL_shr h) kk
theorem r_lshl (C : Cx cc own nL X) {a b : Int} (h : 0 ≤ a ∧ (0 ≤ b ∧ b < 64)) (d : decode cc pc = .ok (.lshl, 1)) (kk : GG X k n H locs (pc + 1) ls (.long (iL (a * pw2 b)) :: rest)) : GG X k n H locs pc ls (.int (iI b) :: .long (iL a) :: rest) := by
  obtain ⟨p, l, e, R, s, m, args, below, meth, c, Q, A, G, tys⟩ := X
  exact lv_lshl C.1 C.2.1 d (iL_shl h) kk
theorem r_land8 (C : Cx cc own nL X) {a : Int} (h : 0 ≤ a ∧ a < 18446744073709551616) (d : decode cc pc = .ok (.land, 1)) (kk : GG X k n H locs (pc + 1) ls (.long (iL (a % 256)) :: rest)) : GG X k n H locs pc ls (.long (iL 255) :: .long (iL a) :: rest) := by
  obtain ⟨p, l, e, R, s, m, args, below, meth, c, Q, A, G, tys⟩ := X
  refine lv_land C.1 C.2.1 d ?_
  rw [iL_mask8 h]
  exact kk
theorem r_landm (C : Cx cc own nL X) {a b : Int} (h : 0 ≤ a ∧ a < 18446744073709551616) (hb : 0 ≤ b ∧ b < 64) (d : decode cc pc = .ok (.land, 1)) (kk : GG X k n H locs (pc + 1) ls (.long (iL (a % pw2 b)) :: rest)) : GG X k n H locs pc ls (.long (iL (pw2 b - 1)) :: .long (iL a) :: rest) := by
  obtain ⟨p, l, e, R, s, m, args, below, meth, c, Q, A, G, tys⟩ := X
  refine lv_land C.1 C.2.1 d ?_
  rw [iL_mask ⟨h, hb⟩]
  exact kk
theorem r_lsub (C : Cx cc own nL X) {a b : Int} (h : 0 ≤ b ∧ b ≤ a) (d : decode cc pc = .ok (.lsub, 1)) (kk : GG X k n H locs (pc + 1) ls (.long (iL (a - b)) :: rest)) : GG X k n H locs pc ls (.long (iL b) :: .long (iL a) :: rest) := by
  obtain ⟨p, l, e, R, s, m, args, below, meth, c, Q, A, G, tys⟩ := X
  refine lv_lsub C.1 C.2.1 d ?_
  rw [iL_sub h]
  exact kk
theorem r_lor (C : Cx cc own nL X) {x y : Int64} {z : Int} (h : x ||| y = iL z) (d : decode cc pc = .ok (.lor, 1)) (kk : GG X k n H locs (pc + 1) ls (.long (iL z) :: rest)) : GG X k n H locs pc ls (.long y :: .long x :: rest) := by
  obtain ⟨p, l, e, R, s, m, args, below, meth, c, Q, A, G, tys⟩ := X
  refine lv_lor C.1 C.2.1 d ?_
  rw [h]
  exact kk
theorem r_l2i (C : Cx cc own nL X) {a : Int} (h : 0 ≤ a ∧ a < 2147483648) (d : decode cc pc = .ok (.l2i, 1)) (kk : GG X k n H locs (pc + 1) ls (.int (iI a) :: rest)) : GG X k n H locs pc ls (.long (iL a) :: rest) := by
  obtain ⟨p, l, e, R, s, m, args, below, meth, c, Q, A, G, tys⟩ := X
  exact lv_l2i C.1 C.2.1 d (iL_toI h) kk
theorem r_i2l (C : Cx cc own nL X) {a : Int} (h : 0 ≤ a ∧ a < 2147483648) (d : decode cc pc = .ok (.i2l, 1)) (kk : GG X k n H locs (pc + 1) ls (.long (iL a) :: rest)) : GG X k n H locs pc ls (.int (iI a) :: rest) := by
  obtain ⟨p, l, e, R, s, m, args, below, meth, c, Q, A, G, tys⟩ := X
  exact lv_i2l C.1 C.2.1 d (iL_ofI h) kk
theorem r_lcmpE (C : Cx cc own nL X) {a b : Int} (h : (0 ≤ a ∧ a < 18446744073709551616) ∧ (0 ≤ b ∧ b < 18446744073709551616)) (d : decode cc pc = .ok (.lcmp, 1)) (kk : ∀ z : Int, (-1 ≤ z ∧ z ≤ 1) → (z = 0 ↔ a = b) → GG X k n H locs (pc + 1) ls (.int (iI z) :: rest)) : GG X k n H locs pc ls (.long (iL b) :: .long (iL a) :: rest) := by
  obtain ⟨p, l, e, R, s, m, args, below, meth, c, Q, A, G, tys⟩ := X
  refine W.lcmp C.1 C.2.1 d ?_
  unfold lg_cmp
  have he := iL_eq h
  split
  case isTrue q => exact kk 1 (by omega) ⟨fun q2 => absurd q2 (by omega), fun q2 => by subst q2; exact absurd (Int64.lt_iff_toInt_lt.mp q) (by omega)⟩
  case isFalse q =>
    split
    case isTrue q2 => exact kk 0 (by omega) ⟨fun _ => he.mp q2, fun _ => rfl⟩
    case isFalse q2 => exact kk (-1) (by omega) ⟨fun q3 => absurd q3 (by omega), fun q3 => absurd (he.mpr q3) q2⟩
theorem r_lcmp (C : Cx cc own nL X) {a b : Int} (h : (0 ≤ a ∧ a < 9223372036854775808) ∧ (0 ≤ b ∧ b < 9223372036854775808)) (d : decode cc pc = .ok (.lcmp, 1)) (kk : ∀ z : Int, (-1 ≤ z ∧ z ≤ 1) → ((z = 0 ↔ a = b) ∧ (z < 0 ↔ a < b)) → GG X k n H locs (pc + 1) ls (.int (iI z) :: rest)) : GG X k n H locs pc ls (.long (iL b) :: .long (iL a) :: rest) := by
  obtain ⟨p, l, e, R, s, m, args, below, meth, c, Q, A, G, tys⟩ := X
  refine W.lcmp C.1 C.2.1 d ?_
  unfold lg_cmp
  have he := iL_eq (a := a) (b := b) (by omega)
  have hlt : iL b < iL a ↔ b < a := iL_lt ⟨h.2, h.1⟩
  split
  case isTrue q => have q := hlt.mp q; exact kk 1 (by omega) (by omega)
  case isFalse q =>
    have q : ¬ b < a := fun z => q (hlt.mpr z)
    split
    case isTrue q2 => have q2 := he.mp q2; exact kk 0 (by omega) (by omega)
    case isFalse q2 => have q2 : ¬ a = b := fun z => q2 (he.mpr z); exact kk (-1) (by omega) (by omega)
end R5
/-! the eight characters of a number -/
def sR (w i : Int) : Int := w / pw2 (8 * i)
theorem sR_zero (w : Int) : sR w 0 = w := by
  unfold sR
  rw [show pw2 (8 * 0) = 1 from rfl, Int.ediv_one]
theorem sR_succ (w : Int) {i : Int} (h : 0 ≤ i) : sR w (i + 1) = sR w i / pw2 8 := by
  unfold sR
  rw [show 8 * (i + 1) = 8 * i + 8 by omega, pw2_add (by omega) (by omega), Int.ediv_ediv_of_nonneg (by have := pw2_pos (8 * i); omega)]
theorem sR_256 (w : Int) {i : Int} (h : 0 ≤ i) : sR w (i + 1) = sR w i / 256 := sR_succ w h
theorem sR_rg {w : Int} (hw : 0 ≤ w ∧ w < 18446744073709551616) : ∀ i, 0 ≤ i → 0 ≤ sR w i ∧ sR w i < 18446744073709551616 := by
  refine int_ind (by rw [sR_zero]; exact hw) (fun i hi ih => ?_)
  rw [sR_256 w hi]
  omega
theorem sR_8 {w : Int} (hw : 0 ≤ w ∧ w < 18446744073709551616) : sR w 8 = 0 := by
  unfold sR
  rw [show pw2 (8 * 8) = 18446744073709551616 from rfl]
  omega
theorem sR_mono {w : Int} {a : Int} (ha : 0 ≤ a) (h : sR w a = 0) : ∀ d, 0 ≤ d → sR w (a + d) = 0 := by
  refine int_ind (by rw [Int.add_zero]; exact h) (fun d hd ih => ?_)
  rw [← Int.add_assoc, sR_256 w (by omega), ih]
  rfl
def Cn (w n : Int) : Prop := (0 ≤ n ∧ n ≤ 8) ∧ (∀ j, 0 ≤ j → j < n → 33 ≤ sR w j % 256 ∧ sR w j % 256 ≤ 126) ∧ sR w n = 0
theorem Cn.not_of {w i : Int} (hi : 0 ≤ i) (h : ¬ (33 ≤ sR w i % 256 ∧ sR w i % 256 ≤ 126)) (h0 : sR w i ≠ 0) (n : Int) : ¬ Cn w n := by
  intro q
  by_cases e : i < n
  · exact h (q.2.1 i hi e)
  · have := sR_mono (w := w) q.1.1 q.2.2 (i - n) (by omega)
    rw [show n + (i - n) = i by omega] at this
    exact h0 this
theorem Cn.uniq {w a b : Int} (ha : Cn w a) (hb : Cn w b) : a = b := by
  rcases Int.lt_trichotomy a b with q | q | q
  · have := hb.2.1 a ha.1.1 q
    rw [ha.2.2] at this
    omega
  · exact q
  · have := ha.2.1 b hb.1.1 q
    rw [hb.2.2] at this
    omega
