/-! all bits, run by run -/
theorem bit_in {lc r N k j z : Int} {sg ln v : Int → Int} (hO : Ok r sg ln N v) (hN : N ≤ 3000) (h1 : 0 ≤ k) (h2 : k < r) (hj : 0 ≤ j ∧ j < rb lc (sg k) (ln k)) (h : BitAt lc r sg ln (ps (rbf lc sg ln) k + j) z) : z = brun lc (sg k) (ln k) j := by
  have hp : ∀ i, 0 ≤ i → i < r → 0 ≤ rbf lc sg ln i := fun i i1 i2 => by
    have g := hO.run i1 i2
    have := rb_rg (code := lc) (s := sg i) (n := ln i) (by omega)
    unfold rbf; omega
  have hs : ps (rbf lc sg ln) (k + 1) = ps (rbf lc sg ln) k + rb lc (sg k) (ln k) := ps_succ _ h1
  have b0 := allBits_rg (code := lc) hO hN (k := k) h1 (by omega)
  have b1 := ps_le (f := rbf lc sg ln) (j := k + 1) (k := r) (by omega) (by omega) hp
  rcases h with ⟨h3, -⟩ | ⟨i, i1, i2, i3, i4, i5⟩
  · omega
  · by_cases e : i = k
    · subst e
      rw [i5]
      congr 1
      omega
    · exfalso
      by_cases q : i < k
      · have := ps_le (f := rbf lc sg ln) (j := i + 1) (k := k) (by omega) (by omega) (fun x x1 x2 => hp x x1 (by omega))
        omega
      · have := ps_le (f := rbf lc sg ln) (j := k + 1) (k := i) (by omega) (by omega) (fun x x1 x2 => hp x x1 (by omega))
        omega
theorem bl_pow {n : Int} (h : 1 ≤ n ∧ n < 2147483648) : (2 : Int) ^ (bl n - 1).toNat ≤ n ∧ n < 2 ^ (bl n).toNat := by
  have hb : bl n = (Nat.log2 n.toNat : Int) + 1 := by unfold bl; rw [if_neg (by omega)]
  rw [hb, show ((Nat.log2 n.toNat : Int) + 1 - 1).toNat = Nat.log2 n.toNat by omega, show ((Nat.log2 n.toNat : Int) + 1).toNat = Nat.log2 n.toNat + 1 by omega]
  have a1 := Nat.log2_self_le (n := n.toNat) (by omega)
  have a2 := Nat.lt_log2_self (n := n.toNat)
  have e1 : ((2 ^ Nat.log2 n.toNat : Nat) : Int) = (2 : Int) ^ Nat.log2 n.toNat := by rw [Int.natCast_pow]; rfl
  have e2 : ((2 ^ (Nat.log2 n.toNat + 1) : Nat) : Int) = (2 : Int) ^ (Nat.log2 n.toNat + 1) := by rw [Int.natCast_pow]; rfl
  rw [← e1, ← e2]
  omega
theorem bl_top {n : Int} (h : 1 ≤ n ∧ n < 2147483648) : n / 2 ^ (bl n - 1).toNat = 1 := by
  have h1 := bl_pow h
  have hb := bl_rg h
  have e : (2 : Int) ^ (bl n).toNat = 2 ^ (bl n - 1).toNat * 2 := by rw [show bl n = bl n - 1 + 1 by omega, toNat_succ (by omega), Int.pow_succ, show bl n - 1 + 1 - 1 = bl n - 1 by omega]
  rw [e] at h1
  have hp : (0 : Int) < 2 ^ (bl n - 1).toNat := Int.pow_pos (by omega)
  generalize (2 : Int) ^ (bl n - 1).toNat = p at h1 hp
  have a1 : n / p < 2 := Int.ediv_lt_of_lt_mul hp (by omega)
  have a2 : 1 ≤ n / p := (Int.le_ediv_iff_mul_le hp).mpr (by omega)
  omega
theorem lbit_0 {n j : Int} (hn : 1 ≤ n ∧ n < 2147483648) (hj : 0 ≤ j ∧ j < 12) : lbit 0 n j = n / 2 ^ (12 - 1 - j).toNat % 2 := by
  unfold lbit
  rw [if_pos rfl, bnr_01 (by omega) (by omega), show (12 : Int) - 1 - j = 11 - j by omega]
theorem lbit_1z {n j : Int} (hj : 0 ≤ j ∧ j < bl n - 1) : lbit 1 n j = 0 := by
  unfold lbit
  rw [if_neg (by omega), if_pos rfl, if_pos (by omega)]
theorem lbit_1n {n j : Int} (hn : 1 ≤ n ∧ n < 2147483648) (hj : 0 ≤ j ∧ j < bl n) : lbit 1 n (bl n - 1 + j) = n / 2 ^ (bl n - 1 - j).toNat % 2 := by
  have hb := bl_rg hn
  unfold lbit
  rw [if_neg (by omega), if_pos rfl, if_neg (by omega), bnr_01 (by omega) (by omega), show 2 * bl n - 2 - (bl n - 1 + j) = bl n - 1 - j by omega]
theorem lbit_1o {n : Int} (hn : 1 ≤ n ∧ n < 2147483648) : lbit 1 n (bl n - 1) = 1 := by
  have hb := bl_rg hn
  have h := lbit_1n (j := 0) hn (by omega)
  rw [Int.add_zero, Int.sub_zero, bl_top hn] at h
  exact h
theorem lbit_2z {n j : Int} (hj : 0 ≤ j ∧ j < bl (bl n) - 1) : lbit 2 n j = 0 := by
  unfold lbit
  rw [if_neg (by omega), if_neg (by omega), if_pos (by omega)]
theorem lbit_2k {n j : Int} (hn : 1 ≤ n ∧ n < 2147483648) (hj : 0 ≤ j ∧ j < bl (bl n)) : lbit 2 n (bl (bl n) - 1 + j) = bl n / 2 ^ (bl (bl n) - 1 - j).toNat % 2 := by
  have hb := bl_rg hn
  have hb2 := bl_rg (n := bl n) (by omega)
  unfold lbit
  rw [if_neg (by omega), if_neg (by omega), if_neg (by omega), if_pos (by omega), bnr_01 (by omega) (by omega), show 2 * bl (bl n) - 2 - (bl (bl n) - 1 + j) = bl (bl n) - 1 - j by omega]
theorem lbit_2o {n : Int} (hn : 1 ≤ n ∧ n < 2147483648) : lbit 2 n (bl (bl n) - 1) = 1 := by
  have hb := bl_rg hn
  have hb2 := bl_rg (n := bl n) (by omega)
  have h := lbit_2k (j := 0) hn (by omega)
  rw [Int.add_zero, Int.sub_zero, bl_top (n := bl n) (by omega)] at h
  exact h
theorem lbit_2n {n j : Int} (hn : 1 ≤ n ∧ n < 2147483648) (hj : 0 ≤ j ∧ j < bl n - 1) : lbit 2 n (2 * bl (bl n) - 1 + j) = (n - 2 ^ (bl n - 1).toNat) / 2 ^ (bl n - 1 - 1 - j).toNat % 2 := by
  have hb := bl_rg hn
  have hb2 := bl_rg (n := bl n) (by omega)
  unfold lbit
  rw [if_neg (by omega), if_neg (by omega), if_neg (by omega), if_neg (by omega), bnr_01 (by omega) (by omega), show bl n + 2 * bl (bl n) - 3 - (2 * bl (bl n) - 1 + j) = bl n - 1 - 1 - j by omega]
  have e : (2 : Int) ^ (bl n - 1).toNat = 2 ^ (bl n - 1 - 1 - j).toNat * (2 * 2 ^ j.toNat) := by
    rw [show (bl n - 1).toNat = (bl n - 1 - 1 - j).toNat + (1 + j.toNat) by omega, Int.pow_add, Int.pow_add, Int.pow_one]
  rw [e]
  have hp : (0 : Int) < 2 ^ (bl n - 1 - 1 - j).toNat := Int.pow_pos (by omega)
  generalize (2 : Int) ^ (bl n - 1 - 1 - j).toNat = p at hp
  generalize (2 : Int) ^ j.toNat = q
  rw [show n - p * (2 * q) = n + (-(2 * q)) * p by rw [Int.neg_mul, Int.mul_comm p]; omega, Int.add_mul_ediv_right _ _ (by omega)]
  omega
theorem lbit_rest {n : Int} (hn : 1 ≤ n ∧ n < 2147483648) : 0 ≤ n - 2 ^ (bl n - 1).toNat ∧ n - 2 ^ (bl n - 1).toNat < 2 ^ (bl n - 1).toNat := by
  have h1 := bl_pow hn
  have hb := bl_rg hn
  have e : (2 : Int) ^ (bl n).toNat = 2 ^ (bl n - 1).toNat * 2 := by rw [show bl n = bl n - 1 + 1 by omega, toNat_succ (by omega), Int.pow_succ, show bl n - 1 + 1 - 1 = bl n - 1 by omega]
  rw [e] at h1
  omega
theorem shl_1 {i : Int} (h : 0 ≤ i ∧ i < 31) : iI 1 <<< (iI i &&& 31) = iI (2 ^ i.toNat) := by
  have h1 : ∀ k : Nat, k < 31 → iI 1 <<< (iI (k : Int) &&& 31) = iI (2 ^ k) := by decide +kernel
  have := h1 i.toNat (by omega)
  rwa [Int.toNat_of_nonneg h.1] at this
/-- the bits of a sign -/
theorem sbit {lc s n j : Int} (hs : 0 ≤ s ∧ s ≤ 9) (hj : 0 ≤ j ∧ j < 5) : brun lc s n j = s / 2 ^ (5 - 1 - j).toNat % 2 := by
  unfold brun sb
  rw [if_neg (by omega : ¬ s = 10), if_neg (by omega), if_neg (by omega), bnr_01 (by omega) (by omega), show (5 : Int) - 1 - j = 4 - j by omega]
theorem sbit0 {lc s n : Int} (hs : 0 ≤ s ∧ s ≤ 10) : (s = 10 → brun lc s n 0 = 1) ∧ (¬ s = 10 → brun lc s n 0 = 0) := by
  refine ⟨fun q => ?_, fun q => ?_⟩
  · unfold brun sb
    rw [if_pos q, if_neg (by omega), if_pos q]
  · rw [sbit (by omega) (by omega)]
    show s / 16 % 2 = 0
    omega
theorem brun_len {lc s n j : Int} (hj : 0 ≤ j) : brun lc s n (sb s + j) = lbit lc n j := by
  unfold brun
  rw [if_pos (by omega), show sb s + j - sb s = j by omega]
theorem d_L_stream_0 : decode b_L_stream 0 = .ok (.iconst 0, 1) := by decide +kernel
theorem d_L_stream_1 : decode b_L_stream 1 = .ok (.istore_n 1, 1) := by decide +kernel
theorem d_L_stream_2 : decode b_L_stream 2 = .ok (.aload_n 0, 1) := by decide +kernel
theorem d_L_stream_3 : decode b_L_stream 3 = .ok (.bipush 9, 2) := by decide +kernel
theorem d_L_stream_5 : decode b_L_stream 5 = .ok (.invokevirtual 11, 3) := by decide +kernel
theorem d_L_stream_8 : decode b_L_stream 8 = .ok (.istore_n 2, 1) := by decide +kernel
theorem d_L_stream_9 : decode b_L_stream 9 = .ok (.iconst 0, 1) := by decide +kernel
theorem d_L_stream_10 : decode b_L_stream 10 = .ok (.istore_n 3, 1) := by decide +kernel
theorem d_L_stream_11 : decode b_L_stream 11 = .ok (.iload_n 3, 1) := by decide +kernel
theorem d_L_stream_12 : decode b_L_stream 12 = .ok (.aload_n 0, 1) := by decide +kernel
theorem d_L_stream_13 : decode b_L_stream 13 = .ok (.iconst 1, 1) := by decide +kernel
theorem d_L_stream_14 : decode b_L_stream 14 = .ok (.invokevirtual 11, 3) := by decide +kernel
theorem d_L_stream_17 : decode b_L_stream 17 = .ok (.if_icmp .ge 204, 3) := by decide +kernel
theorem d_L_stream_20 : decode b_L_stream 20 = .ok (.aload_n 0, 1) := by decide +kernel
theorem d_L_stream_21 : decode b_L_stream 21 = .ok (.iload_n 1, 1) := by decide +kernel
theorem d_L_stream_22 : decode b_L_stream 22 = .ok (.invokevirtual 61, 3) := by decide +kernel
theorem d_L_stream_25 : decode b_L_stream 25 = .ok (.iconst 1, 1) := by decide +kernel
theorem d_L_stream_26 : decode b_L_stream 26 = .ok (.if_icmp .ne 7, 3) := by decide +kernel
theorem d_L_stream_29 : decode b_L_stream 29 = .ok (.iconst 1, 1) := by decide +kernel
theorem d_L_stream_30 : decode b_L_stream 30 = .ok (.goto 4, 3) := by decide +kernel
theorem d_L_stream_33 : decode b_L_stream 33 = .ok (.iconst 0, 1) := by decide +kernel
theorem d_L_stream_34 : decode b_L_stream 34 = .ok (.istore 4, 2) := by decide +kernel
theorem d_L_stream_36 : decode b_L_stream 36 = .ok (.iload 4, 2) := by decide +kernel
theorem d_L_stream_38 : decode b_L_stream 38 = .ok (.ifCond .eq 8, 3) := by decide +kernel
theorem d_L_stream_41 : decode b_L_stream 41 = .ok (.bipush 10, 2) := by decide +kernel
theorem d_L_stream_43 : decode b_L_stream 43 = .ok (.goto 9, 3) := by decide +kernel
theorem d_L_stream_46 : decode b_L_stream 46 = .ok (.aload_n 0, 1) := by decide +kernel
theorem d_L_stream_47 : decode b_L_stream 47 = .ok (.iload_n 1, 1) := by decide +kernel
theorem d_L_stream_48 : decode b_L_stream 48 = .ok (.iconst 5, 1) := by decide +kernel
theorem d_L_stream_49 : decode b_L_stream 49 = .ok (.invokestatic 102, 3) := by decide +kernel
theorem d_L_stream_52 : decode b_L_stream 52 = .ok (.istore 5, 2) := by decide +kernel
theorem d_L_stream_54 : decode b_L_stream 54 = .ok (.iload_n 1, 1) := by decide +kernel
theorem d_L_stream_55 : decode b_L_stream 55 = .ok (.iload 4, 2) := by decide +kernel
theorem d_L_stream_57 : decode b_L_stream 57 = .ok (.ifCond .eq 7, 3) := by decide +kernel
theorem d_L_stream_60 : decode b_L_stream 60 = .ok (.iconst 1, 1) := by decide +kernel
theorem d_L_stream_61 : decode b_L_stream 61 = .ok (.goto 4, 3) := by decide +kernel
theorem d_L_stream_64 : decode b_L_stream 64 = .ok (.iconst 5, 1) := by decide +kernel
theorem d_L_stream_65 : decode b_L_stream 65 = .ok (.iadd, 1) := by decide +kernel
theorem d_L_stream_66 : decode b_L_stream 66 = .ok (.istore_n 1, 1) := by decide +kernel
theorem d_L_stream_67 : decode b_L_stream 67 = .ok (.iconst 0, 1) := by decide +kernel
theorem d_L_stream_68 : decode b_L_stream 68 = .ok (.istore 6, 2) := by decide +kernel
theorem d_L_stream_70 : decode b_L_stream 70 = .ok (.iload_n 2, 1) := by decide +kernel
theorem d_L_stream_71 : decode b_L_stream 71 = .ok (.ifCond .ne 18, 3) := by decide +kernel
theorem d_L_stream_74 : decode b_L_stream 74 = .ok (.aload_n 0, 1) := by decide +kernel
theorem d_L_stream_75 : decode b_L_stream 75 = .ok (.iload_n 1, 1) := by decide +kernel
theorem d_L_stream_76 : decode b_L_stream 76 = .ok (.bipush 12, 2) := by decide +kernel
theorem d_L_stream_78 : decode b_L_stream 78 = .ok (.invokestatic 102, 3) := by decide +kernel
theorem d_L_stream_81 : decode b_L_stream 81 = .ok (.istore 6, 2) := by decide +kernel
theorem d_L_stream_83 : decode b_L_stream 83 = .ok (.iinc 1 12, 3) := by decide +kernel
theorem d_L_stream_86 : decode b_L_stream 86 = .ok (.goto 105, 3) := by decide +kernel
theorem d_L_stream_89 : decode b_L_stream 89 = .ok (.aload_n 0, 1) := by decide +kernel
theorem d_L_stream_90 : decode b_L_stream 90 = .ok (.iload_n 1, 1) := by decide +kernel
theorem d_L_stream_91 : decode b_L_stream 91 = .ok (.invokestatic 106, 3) := by decide +kernel
theorem d_L_stream_94 : decode b_L_stream 94 = .ok (.istore 7, 2) := by decide +kernel
theorem d_L_stream_96 : decode b_L_stream 96 = .ok (.iload_n 2, 1) := by decide +kernel
theorem d_L_stream_97 : decode b_L_stream 97 = .ok (.iconst 1, 1) := by decide +kernel
theorem d_L_stream_98 : decode b_L_stream 98 = .ok (.if_icmp .ne 10, 3) := by decide +kernel
theorem d_L_stream_101 : decode b_L_stream 101 = .ok (.iload 7, 2) := by decide +kernel
theorem d_L_stream_103 : decode b_L_stream 103 = .ok (.iconst 1, 1) := by decide +kernel
theorem d_L_stream_104 : decode b_L_stream 104 = .ok (.iadd, 1) := by decide +kernel
theorem d_L_stream_105 : decode b_L_stream 105 = .ok (.goto 15, 3) := by decide +kernel
theorem d_L_stream_108 : decode b_L_stream 108 = .ok (.aload_n 0, 1) := by decide +kernel
theorem d_L_stream_109 : decode b_L_stream 109 = .ok (.iload_n 1, 1) := by decide +kernel
theorem d_L_stream_110 : decode b_L_stream 110 = .ok (.iload 7, 2) := by decide +kernel
theorem d_L_stream_112 : decode b_L_stream 112 = .ok (.iadd, 1) := by decide +kernel
theorem d_L_stream_113 : decode b_L_stream 113 = .ok (.iload 7, 2) := by decide +kernel
theorem d_L_stream_115 : decode b_L_stream 115 = .ok (.iconst 1, 1) := by decide +kernel
theorem d_L_stream_116 : decode b_L_stream 116 = .ok (.iadd, 1) := by decide +kernel
theorem d_L_stream_117 : decode b_L_stream 117 = .ok (.invokestatic 102, 3) := by decide +kernel
theorem d_L_stream_120 : decode b_L_stream 120 = .ok (.istore 8, 2) := by decide +kernel
theorem d_L_stream_122 : decode b_L_stream 122 = .ok (.iload_n 1, 1) := by decide +kernel
theorem d_L_stream_123 : decode b_L_stream 123 = .ok (.iload_n 2, 1) := by decide +kernel
theorem d_L_stream_124 : decode b_L_stream 124 = .ok (.iconst 1, 1) := by decide +kernel
theorem d_L_stream_125 : decode b_L_stream 125 = .ok (.if_icmp .ne 8, 3) := by decide +kernel
theorem d_L_stream_128 : decode b_L_stream 128 = .ok (.iload 7, 2) := by decide +kernel
theorem d_L_stream_130 : decode b_L_stream 130 = .ok (.goto 9, 3) := by decide +kernel
theorem d_L_stream_133 : decode b_L_stream 133 = .ok (.iconst 2, 1) := by decide +kernel
theorem d_L_stream_134 : decode b_L_stream 134 = .ok (.iload 7, 2) := by decide +kernel
theorem d_L_stream_136 : decode b_L_stream 136 = .ok (.imul, 1) := by decide +kernel
theorem d_L_stream_137 : decode b_L_stream 137 = .ok (.iconst 1, 1) := by decide +kernel
theorem d_L_stream_138 : decode b_L_stream 138 = .ok (.iadd, 1) := by decide +kernel
theorem d_L_stream_139 : decode b_L_stream 139 = .ok (.iadd, 1) := by decide +kernel
theorem d_L_stream_140 : decode b_L_stream 140 = .ok (.istore_n 1, 1) := by decide +kernel
theorem d_L_stream_141 : decode b_L_stream 141 = .ok (.iload_n 2, 1) := by decide +kernel
theorem d_L_stream_142 : decode b_L_stream 142 = .ok (.iconst 1, 1) := by decide +kernel
theorem d_L_stream_143 : decode b_L_stream 143 = .ok (.if_icmp .ne 13, 3) := by decide +kernel
theorem d_L_stream_146 : decode b_L_stream 146 = .ok (.aload_n 0, 1) := by decide +kernel
theorem d_L_stream_147 : decode b_L_stream 147 = .ok (.iload_n 1, 1) := by decide +kernel
theorem d_L_stream_148 : decode b_L_stream 148 = .ok (.iload 8, 2) := by decide +kernel
theorem d_L_stream_150 : decode b_L_stream 150 = .ok (.invokestatic 102, 3) := by decide +kernel
theorem d_L_stream_153 : decode b_L_stream 153 = .ok (.goto 19, 3) := by decide +kernel
theorem d_L_stream_156 : decode b_L_stream 156 = .ok (.iconst 1, 1) := by decide +kernel
theorem d_L_stream_157 : decode b_L_stream 157 = .ok (.iload 8, 2) := by decide +kernel
theorem d_L_stream_159 : decode b_L_stream 159 = .ok (.iconst 1, 1) := by decide +kernel
theorem d_L_stream_160 : decode b_L_stream 160 = .ok (.isub, 1) := by decide +kernel
theorem d_L_stream_161 : decode b_L_stream 161 = .ok (.ishl, 1) := by decide +kernel
theorem d_L_stream_162 : decode b_L_stream 162 = .ok (.aload_n 0, 1) := by decide +kernel
theorem d_L_stream_163 : decode b_L_stream 163 = .ok (.iload_n 1, 1) := by decide +kernel
theorem d_L_stream_164 : decode b_L_stream 164 = .ok (.iload 8, 2) := by decide +kernel
theorem d_L_stream_166 : decode b_L_stream 166 = .ok (.iconst 1, 1) := by decide +kernel
theorem d_L_stream_167 : decode b_L_stream 167 = .ok (.isub, 1) := by decide +kernel
theorem d_L_stream_168 : decode b_L_stream 168 = .ok (.invokestatic 102, 3) := by decide +kernel
theorem d_L_stream_171 : decode b_L_stream 171 = .ok (.iadd, 1) := by decide +kernel
theorem d_L_stream_172 : decode b_L_stream 172 = .ok (.istore 6, 2) := by decide +kernel
theorem d_L_stream_174 : decode b_L_stream 174 = .ok (.iload_n 1, 1) := by decide +kernel
theorem d_L_stream_175 : decode b_L_stream 175 = .ok (.iload_n 2, 1) := by decide +kernel
theorem d_L_stream_176 : decode b_L_stream 176 = .ok (.iconst 1, 1) := by decide +kernel
theorem d_L_stream_177 : decode b_L_stream 177 = .ok (.if_icmp .ne 8, 3) := by decide +kernel
theorem d_L_stream_180 : decode b_L_stream 180 = .ok (.iload 8, 2) := by decide +kernel
theorem d_L_stream_182 : decode b_L_stream 182 = .ok (.goto 7, 3) := by decide +kernel
theorem d_L_stream_185 : decode b_L_stream 185 = .ok (.iload 8, 2) := by decide +kernel
theorem d_L_stream_187 : decode b_L_stream 187 = .ok (.iconst 1, 1) := by decide +kernel
theorem d_L_stream_188 : decode b_L_stream 188 = .ok (.isub, 1) := by decide +kernel
theorem d_L_stream_189 : decode b_L_stream 189 = .ok (.iadd, 1) := by decide +kernel
theorem d_L_stream_190 : decode b_L_stream 190 = .ok (.istore_n 1, 1) := by decide +kernel
theorem d_L_stream_191 : decode b_L_stream 191 = .ok (.iload 5, 2) := by decide +kernel
theorem d_L_stream_193 : decode b_L_stream 193 = .ok (.aload_n 0, 1) := by decide +kernel
theorem d_L_stream_194 : decode b_L_stream 194 = .ok (.iload_n 3, 1) := by decide +kernel
theorem d_L_stream_195 : decode b_L_stream 195 = .ok (.iconst 0, 1) := by decide +kernel
theorem d_L_stream_196 : decode b_L_stream 196 = .ok (.invokevirtual 17, 3) := by decide +kernel
theorem d_L_stream_199 : decode b_L_stream 199 = .ok (.if_icmp .ne 14, 3) := by decide +kernel
theorem d_L_stream_202 : decode b_L_stream 202 = .ok (.iload 6, 2) := by decide +kernel
theorem d_L_stream_204 : decode b_L_stream 204 = .ok (.aload_n 0, 1) := by decide +kernel
theorem d_L_stream_205 : decode b_L_stream 205 = .ok (.iload_n 3, 1) := by decide +kernel
theorem d_L_stream_206 : decode b_L_stream 206 = .ok (.iconst 2, 1) := by decide +kernel
theorem d_L_stream_207 : decode b_L_stream 207 = .ok (.invokevirtual 17, 3) := by decide +kernel
theorem d_L_stream_210 : decode b_L_stream 210 = .ok (.if_icmp .eq 5, 3) := by decide +kernel
theorem d_L_stream_213 : decode b_L_stream 213 = .ok (.iconst 0, 1) := by decide +kernel
theorem d_L_stream_214 : decode b_L_stream 214 = .ok (.ireturn, 1) := by decide +kernel
theorem d_L_stream_215 : decode b_L_stream 215 = .ok (.iinc 3 1, 3) := by decide +kernel
theorem d_L_stream_218 : decode b_L_stream 218 = .ok (.goto (-207), 3) := by decide +kernel
theorem d_L_stream_221 : decode b_L_stream 221 = .ok (.iload_n 1, 1) := by decide +kernel
theorem d_L_stream_222 : decode b_L_stream 222 = .ok (.aload_n 0, 1) := by decide +kernel
theorem d_L_stream_223 : decode b_L_stream 223 = .ok (.iconst 3, 1) := by decide +kernel
theorem d_L_stream_224 : decode b_L_stream 224 = .ok (.invokevirtual 11, 3) := by decide +kernel
theorem d_L_stream_227 : decode b_L_stream 227 = .ok (.if_icmp .ne 7, 3) := by decide +kernel
theorem d_L_stream_230 : decode b_L_stream 230 = .ok (.iconst 1, 1) := by decide +kernel
theorem d_L_stream_231 : decode b_L_stream 231 = .ok (.goto 4, 3) := by decide +kernel
theorem d_L_stream_234 : decode b_L_stream 234 = .ok (.iconst 0, 1) := by decide +kernel
theorem d_L_stream_235 : decode b_L_stream 235 = .ok (.ireturn, 1) := by decide +kernel
set_option maxHeartbeats 4000000 in
set_option maxRecDepth 20000 in
theorem c_L_stream {l : Launch} {G : va_G} {tys : List (ClassId × FieldType)} {cI cO cZ : ClassId} (hT : TY tys cI cO cZ) (o : Nat) (A : AS)  : CTA l G tys cI cO cZ y_L_stream b_L_stream 9 .boolean 6 140 o [.ref o] A (fun z A' => A' = A ∧ z = 1) := by
  refine mkAZ (by decide) (Nat.le_of_ble_eq_true rfl) ?_
  rintro X rfl rfl rfl hRm C kret H ls w hl
  have hl : lv_has ls 9 [(0, .ref o)] := hl
  generalize ([] : List Loc) = locs at w ⊢
  obtain ⟨⟨lc, sd, r, sg, ln, N, v⟩, hist, rcd, slot, uf, T, m⟩ := A
  have hK := w.ok
  have hR : RwOk lc sd r sg ln N v := hK.1
  have hrcd : 0 ≤ rcd ∧ rcd ≤ 6 := hK.2.1
  have hm80 : 0 ≤ m ∧ m ≤ 80 := hK.2.2.2.2.1
  obtain ⟨hO, hr50, hN3, hlc, hsd⟩ := hR
  have hr0 := hO.1
  have hN0 := hO.n0
  refine r_iconst (pc := 0) C d_L_stream_0 ?_
  refine r_istore_n (pc := 1) (lv' := [(1, .int (iI 0)), (0, .ref o)]) C d_L_stream_1 rfl hl (by decide) rfl (fun ls hl => ?_)
  refine r_aload_n (pc := 2) C d_L_stream_2 rfl (lv_at hl 1 rfl) ?_
  refine r_bipush (pc := 3) C d_L_stream_3 (by decide) ?_
  refine l_callE (pc := 5) (As := [.int (iI 9)]) (rest := []) (x := lc) (fun _ _ h => q_count_9 h) C w (fun ws hA => c_D_count hT o _ ws hA 9 (by omega)) ml_L_11 im_D_count se_D_count cd_D_count hd_D_count rfl (by rw [hRm]; exact ⟨⟨Nat.le_of_ble_eq_true rfl, Nat.le_of_ble_eq_true rfl⟩, Nat.le_of_ble_eq_true rfl, Nat.le_of_ble_eq_true rfl⟩) hl.1 rfl (Nat.le_of_ble_eq_true rfl) d_L_stream_5 (fun H locs w => ?_)
  refine r_istore_n (pc := 8) (lv' := [(2, .int (iI lc)), (1, .int (iI 0)), (0, .ref o)]) C d_L_stream_8 rfl hl (by decide) rfl (fun ls hl => ?_)
  refine r_iconst (pc := 9) C d_L_stream_9 ?_
  refine r_istore_n (pc := 10) (lv' := [(3, .int (iI 0)), (2, .int (iI lc)), (1, .int (iI 0)), (0, .ref o)]) C d_L_stream_10 rfl hl (by decide) rfl (fun ls hl => ?_)
  have L11 : ∀ (fuel : Nat), ∀ (k : Int) (pos : Int), 0 ≤ k ∧ k ≤ r → pos = ps (rbf lc sg ln) k → (r - k) < (fuel : Int) → ∀ (H : Heap) (locs : List Loc) (ls : Array Slot), LW X cI cO cZ o ((lc, sd, r, sg, ln, N, v), hist, rcd, slot, uf, T, m) H locs → lv_has ls 9 [(3, .int (iI k)), (1, .int (iI pos)), (2, .int (iI lc)), (0, .ref o)] → GG X 0 0 H locs 11 ls [] := by
    intro fuel
    induction fuel with
    | zero =>
      intro k pos hk hp hfuel
      exact absurd hfuel (by omega)
    | succ fuel ih11 =>
      intro k pos hk hp hfuel H locs ls w hl
      refine r_iload_n (pc := 11) C d_L_stream_11 rfl (lv_at hl 0 rfl) ?_
      refine r_aload_n (pc := 12) C d_L_stream_12 rfl (lv_at hl 3 rfl) ?_
      refine r_iconst (pc := 13) C d_L_stream_13 ?_
      refine l_callE (pc := 14) (As := [.int (iI 1)]) (rest := [.int (iI k)]) (x := r) (fun _ _ h => q_count_1 h) C w (fun ws hA => c_D_count hT o _ ws hA 1 (by omega)) ml_L_11 im_D_count se_D_count cd_D_count hd_D_count rfl (by rw [hRm]; exact ⟨⟨Nat.le_of_ble_eq_true rfl, Nat.le_of_ble_eq_true rfl⟩, Nat.le_of_ble_eq_true rfl, Nat.le_of_ble_eq_true rfl⟩) hl.1 rfl (Nat.le_of_ble_eq_true rfl) d_L_stream_14 (fun H locs w => ?_)
      refine r_icmp_ge (pc := 17) (tgt := 221) C (by omega) d_L_stream_17 (by decide) (fun c_17 => ?_) (fun c_17 => ?_)
      · skip
        have hkr : k = r := by omega
        rw [hkr] at hp
        have hb9 := allBits_rg (code := lc) hO hN3 (k := r) hr0 (by omega)
        refine r_iload_n (pc := 221) C d_L_stream_221 rfl (lv_at hl 1 rfl) ?_
        refine r_aload_n (pc := 222) C d_L_stream_222 rfl (lv_at hl 3 rfl) ?_
        refine r_iconst (pc := 223) C d_L_stream_223 ?_
        refine l_callE (pc := 224) (As := [.int (iI 3)]) (rest := [.int (iI pos)]) (x := (ps (rbf lc sg ln) r)) (fun _ _ h => q_count_3 h) C w (fun ws hA => c_D_count hT o _ ws hA 3 (by omega)) ml_L_11 im_D_count se_D_count cd_D_count hd_D_count rfl (by rw [hRm]; exact ⟨⟨Nat.le_of_ble_eq_true rfl, Nat.le_of_ble_eq_true rfl⟩, Nat.le_of_ble_eq_true rfl, Nat.le_of_ble_eq_true rfl⟩) hl.1 rfl (Nat.le_of_ble_eq_true rfl) d_L_stream_224 (fun H locs w => ?_)
        refine r_icmp_ne (pc := 227) (tgt := 234) C (by omega) d_L_stream_227 (by decide) (fun c_227 => ?_) (fun c_227 => ?_)
        · skip
          exact absurd hp c_227
        · skip
          refine r_iconst (pc := 230) C d_L_stream_230 ?_
          refine r_goto (pc := 231) (tgt := 235) C d_L_stream_231 (by decide) ?_
          exact kret _ _ _ _ 1 _ d_L_stream_235 w (by omega) (⟨rfl, rfl⟩)
      · skip
        have g := hO.run (k := k) (by omega) (by omega)
        have hb0 := allBits_rg (code := lc) hO hN3 (k := k) (by omega) (by omega)
        have hst := ps_succ (rbf lc sg ln) (k := k) (by omega)
        have hst : ps (rbf lc sg ln) (k + 1) = ps (rbf lc sg ln) k + (sb (sg k) + lb lc (ln k)) := hst
        have hsb := sb_cases (sg k)
        have hlb := lb_cases lc (ln k)
        have hl1 := bl_le (n := ln k) (by omega)
        have hl2 := bl_le (n := bl (ln k)) (by omega)
        have hbit : ∀ j z, 0 ≤ j → j < sb (sg k) + lb lc (ln k) → BitAt lc r sg ln (pos + j) z → z = brun lc (sg k) (ln k) j := fun j z j1 j2 h => bit_in hO hN3 (by omega) (by omega) ⟨j1, j2⟩ (by rw [← hp]; exact h)
        refine r_aload_n (pc := 20) C d_L_stream_20 rfl (lv_at hl 3 rfl) ?_
        have J191 : ∀ (p3 : Int) (sn : Int) (nn : Int), p3 = ps (rbf lc sg ln) (k + 1) → sn = sg k → nn = ln k → ∀ (H : Heap) (locs : List Loc) (ls : Array Slot), LW X cI cO cZ o ((lc, sd, r, sg, ln, N, v), hist, rcd, slot, uf, T, m) H locs → lv_has ls 9 [(6, .int (iI nn)), (5, .int (iI sn)), (1, .int (iI p3)), (3, .int (iI k)), (2, .int (iI lc)), (0, .ref o)] → GG X 0 0 H locs 191 ls [] := by
          intro p3 sn nn hp3 hsn hnn H locs ls w hl
          refine r_iload (pc := 191) C d_L_stream_191 (lv_at hl 1 rfl) ?_
          refine r_aload_n (pc := 193) C d_L_stream_193 rfl (lv_at hl 5 rfl) ?_
          refine r_iload_n (pc := 194) C d_L_stream_194 rfl (lv_at hl 3 rfl) ?_
          refine r_iconst (pc := 195) C d_L_stream_195 ?_
          refine l_callE (pc := 196) (As := [.int (iI k), .int (iI 0)]) (rest := [.int (iI sn)]) (x := (sg k)) (fun _ _ h => q_ofRun_0 (by omega) h) C w (fun ws hA => c_D_ofRun hT o _ ws hA k 0 ⟨by omega, by omega⟩) ml_L_17 im_D_ofRun se_D_ofRun cd_D_ofRun hd_D_ofRun rfl (by rw [hRm]; exact ⟨⟨Nat.le_of_ble_eq_true rfl, Nat.le_of_ble_eq_true rfl⟩, Nat.le_of_ble_eq_true rfl, Nat.le_of_ble_eq_true rfl⟩) hl.1 rfl (Nat.le_of_ble_eq_true rfl) d_L_stream_196 (fun H locs w => ?_)
          refine r_icmp_ne (pc := 199) (tgt := 213) C (by omega) d_L_stream_199 (by decide) (fun c_199 => ?_) (fun c_199 => ?_)
          · skip
            exact absurd hsn c_199
          · skip
            refine r_iload (pc := 202) C d_L_stream_202 (lv_at hl 0 rfl) ?_
            refine r_aload_n (pc := 204) C d_L_stream_204 rfl (lv_at hl 5 rfl) ?_
            refine r_iload_n (pc := 205) C d_L_stream_205 rfl (lv_at hl 3 rfl) ?_
            refine r_iconst (pc := 206) C d_L_stream_206 ?_
            refine l_callE (pc := 207) (As := [.int (iI k), .int (iI 2)]) (rest := [.int (iI nn)]) (x := (ln k)) (fun _ _ h => q_ofRun_2 (by omega) h) C w (fun ws hA => c_D_ofRun hT o _ ws hA k 2 ⟨by omega, by omega⟩) ml_L_17 im_D_ofRun se_D_ofRun cd_D_ofRun hd_D_ofRun rfl (by rw [hRm]; exact ⟨⟨Nat.le_of_ble_eq_true rfl, Nat.le_of_ble_eq_true rfl⟩, Nat.le_of_ble_eq_true rfl, Nat.le_of_ble_eq_true rfl⟩) hl.1 rfl (Nat.le_of_ble_eq_true rfl) d_L_stream_207 (fun H locs w => ?_)
            refine r_icmp_eq (pc := 210) (tgt := 215) C (by omega) d_L_stream_210 (by decide) (fun c_210 => ?_) (fun c_210 => ?_)
            · skip
              refine r_iinc (pc := 215) (j := 3) (lv' := [(3, .int (iI (k + 1))), (6, .int (iI nn)), (5, .int (iI sn)), (1, .int (iI p3)), (2, .int (iI lc)), (0, .ref o)]) C d_L_stream_215 hl rfl (by decide) rfl (fun ls hl => ?_)
              refine r_goto (pc := 218) (tgt := 11) C d_L_stream_218 (by decide) ?_
              exact ih11 (k + 1) p3 (by omega) (by omega) (by omega) _ _ _ w (lv_sub hl [0, 3, 4, 5] rfl)
            · skip
              exact absurd hnn c_210
        have J67 : ∀ (p2 : Int) (sn : Int), p2 = pos + sb (sg k) → sn = sg k → ∀ (H : Heap) (locs : List Loc) (ls : Array Slot), LW X cI cO cZ o ((lc, sd, r, sg, ln, N, v), hist, rcd, slot, uf, T, m) H locs → lv_has ls 9 [(5, .int (iI sn)), (1, .int (iI p2)), (3, .int (iI k)), (2, .int (iI lc)), (0, .ref o)] → GG X 0 0 H locs 67 ls [] := by
          intro p2 sn hp2 hsn H locs ls w hl
          have hlen : ∀ j z, 0 ≤ j → j < lb lc (ln k) → BitAt lc r sg ln (p2 + j) z → z = lbit lc (ln k) j := fun j z j1 j2 h => by
            rw [hbit (sb (sg k) + j) z (by omega) (by omega) (by rw [← Int.add_assoc, ← hp2]; exact h), brun_len j1]
          refine r_iconst (pc := 67) C d_L_stream_67 ?_
          refine r_istore (pc := 68) (lv' := [(6, .int (iI 0)), (5, .int (iI sn)), (1, .int (iI p2)), (3, .int (iI k)), (2, .int (iI lc)), (0, .ref o)]) C d_L_stream_68 hl (by decide) rfl (fun ls hl => ?_)
          refine r_iload_n (pc := 70) C d_L_stream_70 rfl (lv_at hl 4 rfl) ?_
          refine r_if_ne (pc := 71) (tgt := 89) C (by omega) d_L_stream_71 (by decide) (fun c_71 => ?_) (fun c_71 => ?_)
          · skip
            obtain ⟨cz, hcz1, hcz2⟩ : ∃ cz : Int, (lc = 1 → cz = bl (ln k) - 1) ∧ (¬ lc = 1 → cz = bl (bl (ln k)) - 1) := by
              by_cases q : lc = 1
              · exact ⟨bl (ln k) - 1, fun _ => rfl, fun h => absurd q h⟩
              · exact ⟨bl (bl (ln k)) - 1, fun h => absurd h q, fun _ => rfl⟩
            have hz0 : ∀ j z, 0 ≤ j → j < cz → BitAt lc r sg ln (p2 + j) z → z = 0 := fun j z j1 j2 h => by
              have h2 := hlen j z j1 (by omega) h
              by_cases q : lc = 1
              · rw [q] at h2
                rw [h2, lbit_1z (by omega)]
              · rw [show lc = 2 by omega] at h2
                rw [h2, lbit_2z (by omega)]
            have hz1 : ∀ z, BitAt lc r sg ln (p2 + cz) z → z = 1 := fun z h => by
              have h2 := hlen cz z (by omega) (by omega) h
              by_cases q : lc = 1
              · rw [q, hcz1 q] at h2
                rw [h2, lbit_1o (by omega)]
              · rw [hcz2 q, show lc = 2 by omega] at h2
                rw [h2, lbit_2o (by omega)]
            refine r_aload_n (pc := 89) C d_L_stream_89 rfl (lv_at hl 5 rfl) ?_
            refine r_iload_n (pc := 90) C d_L_stream_90 rfl (lv_at hl 2 rfl) ?_
            refine l_callT (pc := 91) (As := [.ref o, .int (iI p2)]) (rest := []) (x := cz) (fun _ _ h => h) C w (c_L_zeros hT o lc sd r sg ln N v hist rcd slot uf T m p2 cz (by omega) (by omega) hz0 hz1) ml_L_106 st_L_zeros ini_L cd_L_zeros hd_L_zeros rfl (by rw [hRm]; exact ⟨⟨Nat.le_of_ble_eq_true rfl, Nat.le_of_ble_eq_true rfl⟩, Nat.le_of_ble_eq_true rfl, Nat.le_of_ble_eq_true rfl⟩) hl.1 rfl (Nat.le_of_ble_eq_true rfl) d_L_stream_91 (fun H locs w => ?_)
            refine r_istore (pc := 94) (lv' := [(7, .int (iI cz)), (6, .int (iI 0)), (5, .int (iI sn)), (1, .int (iI p2)), (3, .int (iI k)), (2, .int (iI lc)), (0, .ref o)]) C d_L_stream_94 hl (by decide) rfl (fun ls hl => ?_)
            refine r_iload_n (pc := 96) C d_L_stream_96 rfl (lv_at hl 5 rfl) ?_
            refine r_iconst (pc := 97) C d_L_stream_97 ?_
            refine r_icmp_ne (pc := 98) (tgt := 108) C (by omega) d_L_stream_98 (by decide) (fun c_98 => ?_) (fun c_98 => ?_)
            · skip
              have hk2 : ∀ j z, 0 ≤ j → j < cz + 1 → BitAt lc r sg ln (p2 + cz + j) z → z = bl (ln k) / 2 ^ (cz + 1 - 1 - j).toNat % 2 := fun j z j1 j2 h => by
                have h2 := hlen (cz + j) z (by omega) (by omega) (by rw [← Int.add_assoc]; exact h)
                rw [show lc = 2 by omega, show cz + j = bl (bl (ln k)) - 1 + j by omega] at h2
                rw [h2, lbit_2k (by omega) (by omega), show cz + 1 - 1 - j = bl (bl (ln k)) - 1 - j by omega]
              refine r_aload_n (pc := 108) C d_L_stream_108 rfl (lv_at hl 6 rfl) ?_
              refine r_iload_n (pc := 109) C d_L_stream_109 rfl (lv_at hl 3 rfl) ?_
              refine r_iload (pc := 110) C d_L_stream_110 (lv_at hl 0 rfl) ?_
              refine r_iadd (pc := 112) C d_L_stream_112 ?_
              refine r_iload (pc := 113) C d_L_stream_113 (lv_at hl 0 rfl) ?_
              refine r_iconst (pc := 115) C d_L_stream_115 ?_
              refine r_iadd (pc := 116) C d_L_stream_116 ?_
              refine l_callT (pc := 117) (As := [.ref o, .int (iI (p2 + cz)), .int (iI (cz + 1))]) (rest := []) (x := (bl (ln k))) (fun _ _ h => h) C w (c_L_number hT o lc sd r sg ln N v hist rcd slot uf T m (p2 + cz) (cz + 1) (bl (ln k)) (by omega) (by omega) (by have h := bl_pow (n := bl (ln k)) (by omega); rw [show cz + 1 = bl (bl (ln k)) by omega]; omega) (hk2)) ml_L_102 st_L_number ini_L cd_L_number hd_L_number rfl (by rw [hRm]; exact ⟨⟨Nat.le_of_ble_eq_true rfl, Nat.le_of_ble_eq_true rfl⟩, Nat.le_of_ble_eq_true rfl, Nat.le_of_ble_eq_true rfl⟩) hl.1 rfl (Nat.le_of_ble_eq_true rfl) d_L_stream_117 (fun H locs w => ?_)
              refine r_istore (pc := 120) (lv' := [(8, .int (iI (bl (ln k)))), (7, .int (iI cz)), (6, .int (iI 0)), (5, .int (iI sn)), (1, .int (iI p2)), (3, .int (iI k)), (2, .int (iI lc)), (0, .ref o)]) C d_L_stream_120 hl (by decide) rfl (fun ls hl => ?_)
              refine r_iload_n (pc := 122) C d_L_stream_122 rfl (lv_at hl 4 rfl) ?_
              refine r_iload_n (pc := 123) C d_L_stream_123 rfl (lv_at hl 6 rfl) ?_
              refine r_iconst (pc := 124) C d_L_stream_124 ?_
              refine r_icmp_ne (pc := 125) (tgt := 133) C (by omega) d_L_stream_125 (by decide) (fun c_125 => ?_) (fun c_125 => ?_)
              · skip
                refine r_iconst (pc := 133) C d_L_stream_133 ?_
                refine r_iload (pc := 134) C d_L_stream_134 (lv_at hl 1 rfl) ?_
                refine r_imul (pc := 136) C d_L_stream_136 ?_
                refine r_iconst (pc := 137) C d_L_stream_137 ?_
                refine r_iadd (pc := 138) C d_L_stream_138 ?_
                refine r_iadd (pc := 139) C d_L_stream_139 ?_
                refine r_istore_n (pc := 140) (lv' := [(1, .int (iI (p2 + ((2 * cz) + 1)))), (8, .int (iI (bl (ln k)))), (7, .int (iI cz)), (6, .int (iI 0)), (5, .int (iI sn)), (3, .int (iI k)), (2, .int (iI lc)), (0, .ref o)]) C d_L_stream_140 rfl hl (by decide) rfl (fun ls hl => ?_)
                refine r_iload_n (pc := 141) C d_L_stream_141 rfl (lv_at hl 6 rfl) ?_
                refine r_iconst (pc := 142) C d_L_stream_142 ?_
                refine r_icmp_ne (pc := 143) (tgt := 156) C (by omega) d_L_stream_143 (by decide) (fun c_143 => ?_) (fun c_143 => ?_)
                · skip
                  have hn2 : ∀ j z, 0 ≤ j → j < bl (ln k) - 1 → BitAt lc r sg ln (p2 + (2 * cz + 1) + j) z → z = (ln k - 2 ^ (bl (ln k) - 1).toNat) / 2 ^ (bl (ln k) - 1 - 1 - j).toNat % 2 := fun j z j1 j2 h => by
                    have h2 := hlen (2 * cz + 1 + j) z (by omega) (by omega) (by rw [← Int.add_assoc]; exact h)
                    rw [show lc = 2 by omega, show 2 * cz + 1 + j = 2 * bl (bl (ln k)) - 1 + j by omega] at h2
                    rw [h2, lbit_2n (by omega) (by omega)]
                  refine r_iconst (pc := 156) C d_L_stream_156 ?_
                  refine r_iload (pc := 157) C d_L_stream_157 (lv_at hl 1 rfl) ?_
                  refine r_iconst (pc := 159) C d_L_stream_159 ?_
                  refine r_isub (pc := 160) C d_L_stream_160 ?_
                  refine r_ishl (pc := 161) C d_L_stream_161 ?_
                  refine r_top (y := iI (2 ^ ((bl (ln k)) - 1).toNat)) (shl_1 (by omega)) ?_
                  refine r_aload_n (pc := 162) C d_L_stream_162 rfl (lv_at hl 7 rfl) ?_
                  refine r_iload_n (pc := 163) C d_L_stream_163 rfl (lv_at hl 0 rfl) ?_
                  refine r_iload (pc := 164) C d_L_stream_164 (lv_at hl 1 rfl) ?_
                  refine r_iconst (pc := 166) C d_L_stream_166 ?_
                  refine r_isub (pc := 167) C d_L_stream_167 ?_
                  refine l_callT (pc := 168) (As := [.ref o, .int (iI (p2 + ((2 * cz) + 1))), .int (iI ((bl (ln k)) - 1))]) (rest := [.int (iI (2 ^ ((bl (ln k)) - 1).toNat))]) (x := (ln k - 2 ^ (bl (ln k) - 1).toNat)) (fun _ _ h => h) C w (c_L_number hT o lc sd r sg ln N v hist rcd slot uf T m (p2 + ((2 * cz) + 1)) ((bl (ln k)) - 1) (ln k - 2 ^ (bl (ln k) - 1).toNat) (by omega) (by omega) (lbit_rest (by omega)) (hn2)) ml_L_102 st_L_number ini_L cd_L_number hd_L_number rfl (by rw [hRm]; exact ⟨⟨Nat.le_of_ble_eq_true rfl, Nat.le_of_ble_eq_true rfl⟩, Nat.le_of_ble_eq_true rfl, Nat.le_of_ble_eq_true rfl⟩) hl.1 rfl (Nat.le_of_ble_eq_true rfl) d_L_stream_168 (fun H locs w => ?_)
                  refine r_iadd (pc := 171) C d_L_stream_171 ?_
                  refine r_istore (pc := 172) (lv' := [(6, .int (iI ((2 ^ ((bl (ln k)) - 1).toNat) + (ln k - 2 ^ (bl (ln k) - 1).toNat)))), (1, .int (iI (p2 + ((2 * cz) + 1)))), (8, .int (iI (bl (ln k)))), (7, .int (iI cz)), (5, .int (iI sn)), (3, .int (iI k)), (2, .int (iI lc)), (0, .ref o)]) C d_L_stream_172 hl (by decide) rfl (fun ls hl => ?_)
                  refine r_iload_n (pc := 174) C d_L_stream_174 rfl (lv_at hl 1 rfl) ?_
                  refine r_iload_n (pc := 175) C d_L_stream_175 rfl (lv_at hl 6 rfl) ?_
                  refine r_iconst (pc := 176) C d_L_stream_176 ?_
                  refine r_icmp_ne (pc := 177) (tgt := 185) C (by omega) d_L_stream_177 (by decide) (fun c_177 => ?_) (fun c_177 => ?_)
                  · skip
                    refine r_iload (pc := 185) C d_L_stream_185 (lv_at hl 2 rfl) ?_
                    refine r_iconst (pc := 187) C d_L_stream_187 ?_
                    refine r_isub (pc := 188) C d_L_stream_188 ?_
                    refine r_iadd (pc := 189) C d_L_stream_189 ?_
                    refine r_istore_n (pc := 190) (lv' := [(1, .int (iI ((p2 + ((2 * cz) + 1)) + ((bl (ln k)) - 1)))), (6, .int (iI ((2 ^ ((bl (ln k)) - 1).toNat) + (ln k - 2 ^ (bl (ln k) - 1).toNat)))), (8, .int (iI (bl (ln k)))), (7, .int (iI cz)), (5, .int (iI sn)), (3, .int (iI k)), (2, .int (iI lc)), (0, .ref o)]) C d_L_stream_190 rfl hl (by decide) rfl (fun ls hl => ?_)
                    exact J191 ((p2 + ((2 * cz) + 1)) + ((bl (ln k)) - 1)) sn ((2 ^ ((bl (ln k)) - 1).toNat) + (ln k - 2 ^ (bl (ln k) - 1).toNat)) (by omega) (by omega) (by omega) _ _ _ w (lv_sub hl [1, 4, 0, 5, 6, 7] rfl)
                  · skip
                    exact absurd c_177 (by omega)
                · skip
                  exact absurd c_143 (by omega)
              · skip
                exact absurd c_125 (by omega)
            · skip
              have hn1 : ∀ j z, 0 ≤ j → j < cz + 1 → BitAt lc r sg ln (p2 + cz + j) z → z = ln k / 2 ^ (cz + 1 - 1 - j).toNat % 2 := fun j z j1 j2 h => by
                have h2 := hlen (cz + j) z (by omega) (by omega) (by rw [← Int.add_assoc]; exact h)
                rw [show lc = 1 by omega, show cz + j = bl (ln k) - 1 + j by omega] at h2
                rw [h2, lbit_1n (by omega) (by omega), show cz + 1 - 1 - j = bl (ln k) - 1 - j by omega]
              refine r_iload (pc := 101) C d_L_stream_101 (lv_at hl 0 rfl) ?_
              refine r_iconst (pc := 103) C d_L_stream_103 ?_
              refine r_iadd (pc := 104) C d_L_stream_104 ?_
              refine r_goto (pc := 105) (tgt := 120) C d_L_stream_105 (by decide) ?_
              refine r_istore (pc := 120) (lv' := [(8, .int (iI (cz + 1))), (7, .int (iI cz)), (6, .int (iI 0)), (5, .int (iI sn)), (1, .int (iI p2)), (3, .int (iI k)), (2, .int (iI lc)), (0, .ref o)]) C d_L_stream_120 hl (by decide) rfl (fun ls hl => ?_)
              refine r_iload_n (pc := 122) C d_L_stream_122 rfl (lv_at hl 4 rfl) ?_
              refine r_iload_n (pc := 123) C d_L_stream_123 rfl (lv_at hl 6 rfl) ?_
              refine r_iconst (pc := 124) C d_L_stream_124 ?_
              refine r_icmp_ne (pc := 125) (tgt := 133) C (by omega) d_L_stream_125 (by decide) (fun c_125 => ?_) (fun c_125 => ?_)
              · skip
                exact absurd c_125 (by omega)
              · skip
                refine r_iload (pc := 128) C d_L_stream_128 (lv_at hl 1 rfl) ?_
                refine r_goto (pc := 130) (tgt := 139) C d_L_stream_130 (by decide) ?_
                refine r_iadd (pc := 139) C d_L_stream_139 ?_
                refine r_istore_n (pc := 140) (lv' := [(1, .int (iI (p2 + cz))), (8, .int (iI (cz + 1))), (7, .int (iI cz)), (6, .int (iI 0)), (5, .int (iI sn)), (3, .int (iI k)), (2, .int (iI lc)), (0, .ref o)]) C d_L_stream_140 rfl hl (by decide) rfl (fun ls hl => ?_)
                refine r_iload_n (pc := 141) C d_L_stream_141 rfl (lv_at hl 6 rfl) ?_
                refine r_iconst (pc := 142) C d_L_stream_142 ?_
                refine r_icmp_ne (pc := 143) (tgt := 156) C (by omega) d_L_stream_143 (by decide) (fun c_143 => ?_) (fun c_143 => ?_)
                · skip
                  exact absurd c_143 (by omega)
                · skip
                  refine r_aload_n (pc := 146) C d_L_stream_146 rfl (lv_at hl 7 rfl) ?_
                  refine r_iload_n (pc := 147) C d_L_stream_147 rfl (lv_at hl 0 rfl) ?_
                  refine r_iload (pc := 148) C d_L_stream_148 (lv_at hl 1 rfl) ?_
                  refine l_callT (pc := 150) (As := [.ref o, .int (iI (p2 + cz)), .int (iI (cz + 1))]) (rest := []) (x := (ln k)) (fun _ _ h => h) C w (c_L_number hT o lc sd r sg ln N v hist rcd slot uf T m (p2 + cz) (cz + 1) (ln k) (by omega) (by omega) (by have h := bl_pow (n := ln k) (by omega); rw [show cz + 1 = bl (ln k) by omega]; omega) (hn1)) ml_L_102 st_L_number ini_L cd_L_number hd_L_number rfl (by rw [hRm]; exact ⟨⟨Nat.le_of_ble_eq_true rfl, Nat.le_of_ble_eq_true rfl⟩, Nat.le_of_ble_eq_true rfl, Nat.le_of_ble_eq_true rfl⟩) hl.1 rfl (Nat.le_of_ble_eq_true rfl) d_L_stream_150 (fun H locs w => ?_)
                  refine r_goto (pc := 153) (tgt := 172) C d_L_stream_153 (by decide) ?_
                  refine r_istore (pc := 172) (lv' := [(6, .int (iI (ln k))), (1, .int (iI (p2 + cz))), (8, .int (iI (cz + 1))), (7, .int (iI cz)), (5, .int (iI sn)), (3, .int (iI k)), (2, .int (iI lc)), (0, .ref o)]) C d_L_stream_172 hl (by decide) rfl (fun ls hl => ?_)
                  refine r_iload_n (pc := 174) C d_L_stream_174 rfl (lv_at hl 1 rfl) ?_
                  refine r_iload_n (pc := 175) C d_L_stream_175 rfl (lv_at hl 6 rfl) ?_
                  refine r_iconst (pc := 176) C d_L_stream_176 ?_
                  refine r_icmp_ne (pc := 177) (tgt := 185) C (by omega) d_L_stream_177 (by decide) (fun c_177 => ?_) (fun c_177 => ?_)
                  · skip
                    exact absurd c_177 (by omega)
                  · skip
                    refine r_iload (pc := 180) C d_L_stream_180 (lv_at hl 2 rfl) ?_
                    refine r_goto (pc := 182) (tgt := 189) C d_L_stream_182 (by decide) ?_
                    refine r_iadd (pc := 189) C d_L_stream_189 ?_
                    refine r_istore_n (pc := 190) (lv' := [(1, .int (iI ((p2 + cz) + (cz + 1)))), (6, .int (iI (ln k))), (8, .int (iI (cz + 1))), (7, .int (iI cz)), (5, .int (iI sn)), (3, .int (iI k)), (2, .int (iI lc)), (0, .ref o)]) C d_L_stream_190 rfl hl (by decide) rfl (fun ls hl => ?_)
                    exact J191 ((p2 + cz) + (cz + 1)) sn (ln k) (by omega) (by omega) (by omega) _ _ _ w (lv_sub hl [1, 4, 0, 5, 6, 7] rfl)
          · skip
            have hlc0 : lc = 0 := by omega
            have hn12 : ∀ j z, 0 ≤ j → j < 12 → BitAt lc r sg ln (p2 + j) z → z = ln k / 2 ^ (12 - 1 - j).toNat % 2 := fun j z j1 j2 h => by
              have h2 := hlen j z j1 (by omega) h
              rw [hlc0] at h2
              rw [h2, lbit_0 (by omega) ⟨j1, j2⟩]
            refine r_aload_n (pc := 74) C d_L_stream_74 rfl (lv_at hl 5 rfl) ?_
            refine r_iload_n (pc := 75) C d_L_stream_75 rfl (lv_at hl 2 rfl) ?_
            refine r_bipush (pc := 76) C d_L_stream_76 (by decide) ?_
            refine l_callT (pc := 78) (As := [.ref o, .int (iI p2), .int (iI 12)]) (rest := []) (x := (ln k)) (fun _ _ h => h) C w (c_L_number hT o lc sd r sg ln N v hist rcd slot uf T m p2 12 (ln k) (by omega) (by omega) (by refine ⟨by omega, ?_⟩; show ln k < 4096; omega) (hn12)) ml_L_102 st_L_number ini_L cd_L_number hd_L_number rfl (by rw [hRm]; exact ⟨⟨Nat.le_of_ble_eq_true rfl, Nat.le_of_ble_eq_true rfl⟩, Nat.le_of_ble_eq_true rfl, Nat.le_of_ble_eq_true rfl⟩) hl.1 rfl (Nat.le_of_ble_eq_true rfl) d_L_stream_78 (fun H locs w => ?_)
            refine r_istore (pc := 81) (lv' := [(6, .int (iI (ln k))), (5, .int (iI sn)), (1, .int (iI p2)), (3, .int (iI k)), (2, .int (iI lc)), (0, .ref o)]) C d_L_stream_81 hl (by decide) rfl (fun ls hl => ?_)
            refine r_iinc (pc := 83) (j := 2) (lv' := [(1, .int (iI (p2 + 12))), (6, .int (iI (ln k))), (5, .int (iI sn)), (3, .int (iI k)), (2, .int (iI lc)), (0, .ref o)]) C d_L_stream_83 hl rfl (by decide) rfl (fun ls hl => ?_)
            refine r_goto (pc := 86) (tgt := 191) C d_L_stream_86 (by decide) ?_
            exact J191 (p2 + 12) sn (ln k) (by omega) (by omega) (by omega) _ _ _ w (lv_sub hl [1, 2, 0, 3, 4, 5] rfl)
        refine r_iload_n (pc := 21) C d_L_stream_21 rfl (lv_at hl 1 rfl) ?_
        have hfi : ∀ z, BitAt lc r sg ln pos z → (sg k = 10 → z = 1) ∧ (¬ sg k = 10 → z = 0) := fun z h => by
          have h2 := hbit 0 z (by omega) (by omega) (by rw [Int.add_zero]; exact h)
          have h3 := sbit0 (lc := lc) (s := sg k) (n := ln k) (by omega)
          exact ⟨fun q => by rw [h2, h3.1 q], fun q => by rw [h2, h3.2 q]⟩
        refine l_callQ (pc := 22) (As := [.int (iI pos)]) (rest := []) (P := fun z => (sg k = 10 → z = 1) ∧ (¬ sg k = 10 → z = 0)) (fun _ _ h => ⟨h.1, hfi _ h.2⟩) C w (fun ws hA => c_D_bit hT o _ ws hA pos (by omega)) ml_L_61 im_D_bit se_D_bit cd_D_bit hd_D_bit rfl (by rw [hRm]; exact ⟨⟨Nat.le_of_ble_eq_true rfl, Nat.le_of_ble_eq_true rfl⟩, Nat.le_of_ble_eq_true rfl, Nat.le_of_ble_eq_true rfl⟩) hl.1 rfl (Nat.le_of_ble_eq_true rfl) d_L_stream_22 (fun z_22 H locs hz_22 w => ?_)
        refine r_iconst (pc := 25) C d_L_stream_25 ?_
        refine r_icmp_ne (pc := 26) (tgt := 33) C (by omega) d_L_stream_26 (by decide) (fun c_26 => ?_) (fun c_26 => ?_)
        · skip
          refine r_iconst (pc := 33) C d_L_stream_33 ?_
          refine r_istore (pc := 34) (lv' := [(4, .int (iI 0)), (3, .int (iI k)), (1, .int (iI pos)), (2, .int (iI lc)), (0, .ref o)]) C d_L_stream_34 hl (by decide) rfl (fun ls hl => ?_)
          refine r_iload (pc := 36) C d_L_stream_36 (lv_at hl 0 rfl) ?_
          refine r_if_eq (pc := 38) (tgt := 46) C (by omega) d_L_stream_38 (by decide) (fun c_38 => ?_) (fun c_38 => absurd c_38 (by omega))
          refine r_aload_n (pc := 46) C d_L_stream_46 rfl (lv_at hl 4 rfl) ?_
          refine r_iload_n (pc := 47) C d_L_stream_47 rfl (lv_at hl 2 rfl) ?_
          refine r_iconst (pc := 48) C d_L_stream_48 ?_
          have hn5 : ∀ j z, 0 ≤ j → j < 5 → BitAt lc r sg ln (pos + j) z → z = sg k / 2 ^ (5 - 1 - j).toNat % 2 := fun j z j1 j2 h => by rw [hbit j z j1 (by omega) h, sbit (by omega) ⟨j1, j2⟩]
          refine l_callT (pc := 49) (As := [.ref o, .int (iI pos), .int (iI 5)]) (rest := []) (x := (sg k)) (fun _ _ h => h) C w (c_L_number hT o lc sd r sg ln N v hist rcd slot uf T m pos 5 (sg k) (by omega) (by omega) (by refine ⟨by omega, ?_⟩; show sg k < 32; omega) (hn5)) ml_L_102 st_L_number ini_L cd_L_number hd_L_number rfl (by rw [hRm]; exact ⟨⟨Nat.le_of_ble_eq_true rfl, Nat.le_of_ble_eq_true rfl⟩, Nat.le_of_ble_eq_true rfl, Nat.le_of_ble_eq_true rfl⟩) hl.1 rfl (Nat.le_of_ble_eq_true rfl) d_L_stream_49 (fun H locs w => ?_)
          refine r_istore (pc := 52) (lv' := [(5, .int (iI (sg k))), (4, .int (iI 0)), (3, .int (iI k)), (1, .int (iI pos)), (2, .int (iI lc)), (0, .ref o)]) C d_L_stream_52 hl (by decide) rfl (fun ls hl => ?_)
          refine r_iload_n (pc := 54) C d_L_stream_54 rfl (lv_at hl 3 rfl) ?_
          refine r_iload (pc := 55) C d_L_stream_55 (lv_at hl 1 rfl) ?_
          refine r_if_eq (pc := 57) (tgt := 64) C (by omega) d_L_stream_57 (by decide) (fun c_57 => ?_) (fun c_57 => absurd c_57 (by omega))
          refine r_iconst (pc := 64) C d_L_stream_64 ?_
          refine r_iadd (pc := 65) C d_L_stream_65 ?_
          refine r_istore_n (pc := 66) (lv' := [(1, .int (iI (pos + 5))), (5, .int (iI (sg k))), (4, .int (iI 0)), (3, .int (iI k)), (2, .int (iI lc)), (0, .ref o)]) C d_L_stream_66 rfl hl (by decide) rfl (fun ls hl => ?_)
          exact J67 (pos + 5) (sg k) (by omega) (by omega) _ _ _ w (lv_sub hl [1, 0, 3, 4, 5] rfl)
        · skip
          refine r_iconst (pc := 29) C d_L_stream_29 ?_
          refine r_goto (pc := 30) (tgt := 34) C d_L_stream_30 (by decide) ?_
          refine r_istore (pc := 34) (lv' := [(4, .int (iI 1)), (3, .int (iI k)), (1, .int (iI pos)), (2, .int (iI lc)), (0, .ref o)]) C d_L_stream_34 hl (by decide) rfl (fun ls hl => ?_)
          refine r_iload (pc := 36) C d_L_stream_36 (lv_at hl 0 rfl) ?_
          refine r_if_eq (pc := 38) (tgt := 46) C (by omega) d_L_stream_38 (by decide) (fun c_38 => absurd c_38 (by omega)) (fun c_38 => ?_)
          refine r_bipush (pc := 41) C d_L_stream_41 (by decide) ?_
          refine r_goto (pc := 43) (tgt := 52) C d_L_stream_43 (by decide) ?_
          refine r_istore (pc := 52) (lv' := [(5, .int (iI 10)), (4, .int (iI 1)), (3, .int (iI k)), (1, .int (iI pos)), (2, .int (iI lc)), (0, .ref o)]) C d_L_stream_52 hl (by decide) rfl (fun ls hl => ?_)
          refine r_iload_n (pc := 54) C d_L_stream_54 rfl (lv_at hl 3 rfl) ?_
          refine r_iload (pc := 55) C d_L_stream_55 (lv_at hl 1 rfl) ?_
          refine r_if_eq (pc := 57) (tgt := 64) C (by omega) d_L_stream_57 (by decide) (fun c_57 => absurd c_57 (by omega)) (fun c_57 => ?_)
          refine r_iconst (pc := 60) C d_L_stream_60 ?_
          refine r_goto (pc := 61) (tgt := 65) C d_L_stream_61 (by decide) ?_
          refine r_iadd (pc := 65) C d_L_stream_65 ?_
          refine r_istore_n (pc := 66) (lv' := [(1, .int (iI (pos + 1))), (5, .int (iI 10)), (4, .int (iI 1)), (3, .int (iI k)), (2, .int (iI lc)), (0, .ref o)]) C d_L_stream_66 rfl hl (by decide) rfl (fun ls hl => ?_)
          exact J67 (pos + 1) 10 (by omega) (by omega) _ _ _ w (lv_sub hl [1, 0, 3, 4, 5] rfl)
  exact L11 ((r - 0) + 1 : Int).toNat 0 0 (by first | omega | rfl) (by first | omega | rfl) (by omega) _ _ _ w (lv_sub hl [0, 2, 1, 3] rfl)
