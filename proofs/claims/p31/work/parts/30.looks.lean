/-! stretches, patterns, the mirror -/
/-- a pattern of one or two digits begins at x -/
def Hit (v : Int → Int) (N p x : Int) : Prop := (p < 10 ∧ v x = p) ∨ (10 ≤ p ∧ x + 1 < N ∧ v x = p / 10 ∧ v (x + 1) = p % 10)
theorem mt_lo {v : Int → Int} {p e : Int} (hp : 1 ≤ p ∧ p ≤ 99) : (dl p = 1 ∧ p < 10 ∧ (Mt v p e ↔ v e = p)) ∨ (dl p = 2 ∧ 10 ≤ p ∧ (Mt v p e ↔ (v e = p % 10 ∧ v (e - 1) = p / 10))) := by
  have d0 : dgt p 0 = p % 10 := by unfold dgt; rw [pq_zero]
  have d1 : dgt p 1 = p / 10 % 10 := by unfold dgt; rw [show (1 : Int) = 0 + 1 by omega, pq_succ p (by omega), pq_zero]
  rcases dl_cases (n := p) (by omega) with ⟨h1, h2⟩ | ⟨h1, h2, h3⟩ | ⟨h1, h2, h3⟩ | ⟨h1, h2⟩
  · refine Or.inl ⟨h2, h1, ?_⟩
    unfold Mt
    rw [h2]
    constructor
    · intro q
      have := q 0 (by omega) (by omega)
      rw [d0, Int.sub_zero] at this
      omega
    · intro q k k1 k2
      rw [show k = 0 by omega, d0, Int.sub_zero]
      omega
  · refine Or.inr ⟨h3, h1, ?_⟩
    unfold Mt
    rw [h3]
    constructor
    · intro q
      have a0 := q 0 (by omega) (by omega)
      have a1 := q 1 (by omega) (by omega)
      rw [d0, Int.sub_zero] at a0
      rw [d1] at a1
      omega
    · intro q k k1 k2
      rcases (by omega : k = 0 ∨ k = 1) with e | e
      · rw [e, d0, Int.sub_zero]; omega
      · rw [e, d1]; omega
  · omega
  · omega
theorem fnd_lo {v : Int → Int} {N p f z : Int} (hp : 1 ≤ p ∧ p ≤ 99) (hf : 0 ≤ f) (h : Fnd v N p f z) : (z = -6 ∧ ∀ x, f ≤ x → x < N → ¬ Hit v N p x) ∨ (f ≤ z ∧ z < N ∧ Hit v N p z ∧ ∀ x, f ≤ x → x < z → ¬ Hit v N p x) := by
  have key : ∀ x, f ≤ x → x < N → Hit v N p x → f + dl p ≤ (x + dl p - 1) + 1 ∧ x + dl p - 1 < N ∧ Mt v p (x + dl p - 1) := by
    intro x x1 x2 hx
    rcases mt_lo (v := v) (e := x + dl p - 1) hp with ⟨h1, h2, h3⟩ | ⟨h1, h2, h3⟩
    · rcases hx with ⟨q1, q2⟩ | ⟨q1, -⟩
      · rw [h1] at h3 ⊢
        rw [show x + 1 - 1 = x by omega] at h3 ⊢
        exact ⟨by omega, by omega, h3.mpr q2⟩
      · omega
    · rcases hx with ⟨q1, q2⟩ | ⟨q1, q2, q3, q4⟩
      · omega
      · rw [h1] at h3 ⊢
        rw [show x + 2 - 1 = x + 1 by omega] at h3 ⊢
        exact ⟨by omega, by omega, h3.mpr ⟨q4, by rw [show x + 1 - 1 = x by omega]; exact q3⟩⟩
  rcases h with ⟨h1, h2⟩ | ⟨e, h1, h2, h3, h4, h5⟩
  · refine Or.inl ⟨h1, fun x x1 x2 hx => ?_⟩
    obtain ⟨k1, k2, k3⟩ := key x x1 x2 hx
    exact h2 _ k1 k2 k3
  · refine Or.inr ?_
    have hz : Hit v N p z ∧ f ≤ z ∧ z < N := by
      rcases mt_lo (v := v) (e := e) hp with ⟨g1, g2, g3⟩ | ⟨g1, g2, g3⟩
      · have := g3.mp h3
        rw [show z = e by omega]
        exact ⟨Or.inl ⟨g2, this⟩, by omega, h2⟩
      · have := g3.mp h3
        refine ⟨Or.inr ⟨g2, by omega, ?_, ?_⟩, by omega, by omega⟩
        · rw [show z = e - 1 by omega]; exact this.2
        · rw [show z + 1 = e by omega]; exact this.1
    refine ⟨hz.2.1, hz.2.2, hz.1, fun x x1 x2 hx => ?_⟩
    obtain ⟨k1, k2, k3⟩ := key x x1 (by omega) hx
    exact h5 _ k1 (by omega) k3
theorem umf_cases (v : Int → Int) (N x : Int) : (v x = v (N - 1 - x) ∧ umf v N x = 0) ∨ (¬ v x = v (N - 1 - x) ∧ umf v N x = 1) := by
  unfold umf
  by_cases q : v x = v (N - 1 - x)
  · exact Or.inl ⟨q, by rw [if_neg (fun z => z q)]⟩
  · exact Or.inr ⟨q, by rw [if_pos q]⟩
theorem ll_run_dead {r N k : Int} {sg ln v : Int → Int} {s : Int × Int × Int} (hO : Ok r sg ln N v) (h1 : 0 ≤ k) (h2 : k < r) (hs : sg k = 10) (hl : ll v (ps ln k) = s) : ll v (ps ln (k + 1)) = (0, s.2.1, s.2.2) := by
  have g := hO.run h1 h2
  have h := ll_dead (v := v) (a := ps ln k) (by omega) (ln k - 1) (by omega) (fun x x1 x2 => by rw [hO.2.2.2.2 k h1 h2 x x1 (by omega), hs])
  rw [show ps ln k + (ln k - 1) + 1 = ps ln (k + 1) by omega, hl] at h
  exact h
theorem ll_run_live {r N k : Int} {sg ln v : Int → Int} {s : Int × Int × Int} (hO : Ok r sg ln N v) (h1 : 0 ≤ k) (h2 : k < r) (hs : ¬ sg k = 10) (hl : ll v (ps ln k) = s) : ll v (ps ln (k + 1)) = if s.2.1 < s.1 + ln k then (s.1 + ln k, s.1 + ln k, ps ln k - s.1) else (s.1 + ln k, s.2.1, s.2.2) := by
  have g := hO.run h1 h2
  have h := ll_live (v := v) (a := ps ln k) (by omega) (ln k) (by omega) (fun x x1 x2 => by rw [hO.2.2.2.2 k h1 h2 x x1 (by omega)]; exact hs)
  rw [show ps ln k + ln k = ps ln (k + 1) by omega, hl] at h
  exact h
theorem q_fir {r N : Int} {sg ln v : Int → Int} {li mo fi : Int} (hO : Ok r sg ln N v) (hr : 0 ≤ r) (h : ll v N = (li, mo, fi)) : -6 ≤ fi ∧ fi ≤ N := by
  have key : ∀ x, 0 ≤ x → -6 ≤ (ll v x).2.2 ∧ (ll v x).2.2 ≤ x := by
    refine int_ind (by rw [ll_zero]; show -6 ≤ (-6 : Int) ∧ (-6 : Int) ≤ 0; omega) (fun x hx ih => ?_)
    have hg := ll_rg v x hx
    rw [ll_succ v hx]
    split
    · exact ⟨ih.1, by show (ll v x).2.2 ≤ x + 1; omega⟩
    · split
      · show -6 ≤ x - (ll v x).1 ∧ x - (ll v x).1 ≤ x + 1
        omega
      · exact ⟨ih.1, by show (ll v x).2.2 ≤ x + 1; omega⟩
  have := key N hO.n0
  rw [h] at this
  exact this
theorem d_L_looks_0 : decode b_L_looks 0 = .ok (.aload_n 0, 1) := by decide +kernel
theorem d_L_looks_1 : decode b_L_looks 1 = .ok (.iconst 1, 1) := by decide +kernel
theorem d_L_looks_2 : decode b_L_looks 2 = .ok (.invokevirtual 11, 3) := by decide +kernel
theorem d_L_looks_5 : decode b_L_looks 5 = .ok (.istore_n 2, 1) := by decide +kernel
theorem d_L_looks_6 : decode b_L_looks 6 = .ok (.bipush (-6), 2) := by decide +kernel
theorem d_L_looks_8 : decode b_L_looks 8 = .ok (.istore_n 3, 1) := by decide +kernel
theorem d_L_looks_9 : decode b_L_looks 9 = .ok (.iconst 0, 1) := by decide +kernel
theorem d_L_looks_10 : decode b_L_looks 10 = .ok (.istore 4, 2) := by decide +kernel
theorem d_L_looks_12 : decode b_L_looks 12 = .ok (.iconst 0, 1) := by decide +kernel
theorem d_L_looks_13 : decode b_L_looks 13 = .ok (.istore 5, 2) := by decide +kernel
theorem d_L_looks_15 : decode b_L_looks 15 = .ok (.iconst 0, 1) := by decide +kernel
theorem d_L_looks_16 : decode b_L_looks 16 = .ok (.istore 6, 2) := by decide +kernel
theorem d_L_looks_18 : decode b_L_looks 18 = .ok (.iconst 0, 1) := by decide +kernel
theorem d_L_looks_19 : decode b_L_looks 19 = .ok (.istore 7, 2) := by decide +kernel
theorem d_L_looks_21 : decode b_L_looks 21 = .ok (.iload 7, 2) := by decide +kernel
theorem d_L_looks_23 : decode b_L_looks 23 = .ok (.iload_n 2, 1) := by decide +kernel
theorem d_L_looks_24 : decode b_L_looks 24 = .ok (.if_icmp .ge 88, 3) := by decide +kernel
theorem d_L_looks_27 : decode b_L_looks 27 = .ok (.aload_n 0, 1) := by decide +kernel
theorem d_L_looks_28 : decode b_L_looks 28 = .ok (.iload 7, 2) := by decide +kernel
theorem d_L_looks_30 : decode b_L_looks 30 = .ok (.iconst 0, 1) := by decide +kernel
theorem d_L_looks_31 : decode b_L_looks 31 = .ok (.invokevirtual 17, 3) := by decide +kernel
theorem d_L_looks_34 : decode b_L_looks 34 = .ok (.bipush 10, 2) := by decide +kernel
theorem d_L_looks_36 : decode b_L_looks 36 = .ok (.if_icmp .ne 9, 3) := by decide +kernel
theorem d_L_looks_39 : decode b_L_looks 39 = .ok (.iconst 0, 1) := by decide +kernel
theorem d_L_looks_40 : decode b_L_looks 40 = .ok (.istore 6, 2) := by decide +kernel
theorem d_L_looks_42 : decode b_L_looks 42 = .ok (.goto 64, 3) := by decide +kernel
theorem d_L_looks_45 : decode b_L_looks 45 = .ok (.iload 6, 2) := by decide +kernel
theorem d_L_looks_47 : decode b_L_looks 47 = .ok (.ifCond .ne 13, 3) := by decide +kernel
theorem d_L_looks_50 : decode b_L_looks 50 = .ok (.aload_n 0, 1) := by decide +kernel
theorem d_L_looks_51 : decode b_L_looks 51 = .ok (.iload 7, 2) := by decide +kernel
theorem d_L_looks_53 : decode b_L_looks 53 = .ok (.iconst 1, 1) := by decide +kernel
theorem d_L_looks_54 : decode b_L_looks 54 = .ok (.invokevirtual 17, 3) := by decide +kernel
theorem d_L_looks_57 : decode b_L_looks 57 = .ok (.goto 5, 3) := by decide +kernel
theorem d_L_looks_60 : decode b_L_looks 60 = .ok (.iload 5, 2) := by decide +kernel
theorem d_L_looks_62 : decode b_L_looks 62 = .ok (.istore 5, 2) := by decide +kernel
theorem d_L_looks_64 : decode b_L_looks 64 = .ok (.iload 6, 2) := by decide +kernel
theorem d_L_looks_66 : decode b_L_looks 66 = .ok (.aload_n 0, 1) := by decide +kernel
theorem d_L_looks_67 : decode b_L_looks 67 = .ok (.iload 7, 2) := by decide +kernel
theorem d_L_looks_69 : decode b_L_looks 69 = .ok (.iconst 2, 1) := by decide +kernel
theorem d_L_looks_70 : decode b_L_looks 70 = .ok (.invokevirtual 17, 3) := by decide +kernel
theorem d_L_looks_73 : decode b_L_looks 73 = .ok (.iadd, 1) := by decide +kernel
theorem d_L_looks_74 : decode b_L_looks 74 = .ok (.istore 6, 2) := by decide +kernel
theorem d_L_looks_76 : decode b_L_looks 76 = .ok (.iload 6, 2) := by decide +kernel
theorem d_L_looks_78 : decode b_L_looks 78 = .ok (.iload 4, 2) := by decide +kernel
theorem d_L_looks_80 : decode b_L_looks 80 = .ok (.if_icmp .le 8, 3) := by decide +kernel
theorem d_L_looks_83 : decode b_L_looks 83 = .ok (.iload 5, 2) := by decide +kernel
theorem d_L_looks_85 : decode b_L_looks 85 = .ok (.goto 4, 3) := by decide +kernel
theorem d_L_looks_88 : decode b_L_looks 88 = .ok (.iload_n 3, 1) := by decide +kernel
theorem d_L_looks_89 : decode b_L_looks 89 = .ok (.istore_n 3, 1) := by decide +kernel
theorem d_L_looks_90 : decode b_L_looks 90 = .ok (.iload 6, 2) := by decide +kernel
theorem d_L_looks_92 : decode b_L_looks 92 = .ok (.iload 4, 2) := by decide +kernel
theorem d_L_looks_94 : decode b_L_looks 94 = .ok (.if_icmp .le 8, 3) := by decide +kernel
theorem d_L_looks_97 : decode b_L_looks 97 = .ok (.iload 6, 2) := by decide +kernel
theorem d_L_looks_99 : decode b_L_looks 99 = .ok (.goto 5, 3) := by decide +kernel
theorem d_L_looks_102 : decode b_L_looks 102 = .ok (.iload 4, 2) := by decide +kernel
theorem d_L_looks_104 : decode b_L_looks 104 = .ok (.istore 4, 2) := by decide +kernel
theorem d_L_looks_106 : decode b_L_looks 106 = .ok (.iinc 7 1, 3) := by decide +kernel
theorem d_L_looks_109 : decode b_L_looks 109 = .ok (.goto (-88), 3) := by decide +kernel
theorem d_L_looks_112 : decode b_L_looks 112 = .ok (.aload_n 0, 1) := by decide +kernel
theorem d_L_looks_113 : decode b_L_looks 113 = .ok (.iconst 0, 1) := by decide +kernel
theorem d_L_looks_114 : decode b_L_looks 114 = .ok (.invokevirtual 70, 3) := by decide +kernel
theorem d_L_looks_117 : decode b_L_looks 117 = .ok (.iload_n 3, 1) := by decide +kernel
theorem d_L_looks_118 : decode b_L_looks 118 = .ok (.if_icmp .ne 23, 3) := by decide +kernel
theorem d_L_looks_121 : decode b_L_looks 121 = .ok (.aload_n 0, 1) := by decide +kernel
theorem d_L_looks_122 : decode b_L_looks 122 = .ok (.iconst 1, 1) := by decide +kernel
theorem d_L_looks_123 : decode b_L_looks 123 = .ok (.invokevirtual 70, 3) := by decide +kernel
theorem d_L_looks_126 : decode b_L_looks 126 = .ok (.iload 4, 2) := by decide +kernel
theorem d_L_looks_128 : decode b_L_looks 128 = .ok (.ifCond .ne 8, 3) := by decide +kernel
theorem d_L_looks_131 : decode b_L_looks 131 = .ok (.bipush (-6), 2) := by decide +kernel
theorem d_L_looks_133 : decode b_L_looks 133 = .ok (.goto 5, 3) := by decide +kernel
theorem d_L_looks_136 : decode b_L_looks 136 = .ok (.iload 4, 2) := by decide +kernel
theorem d_L_looks_138 : decode b_L_looks 138 = .ok (.if_icmp .eq 5, 3) := by decide +kernel
theorem d_L_looks_141 : decode b_L_looks 141 = .ok (.iconst 0, 1) := by decide +kernel
theorem d_L_looks_142 : decode b_L_looks 142 = .ok (.ireturn, 1) := by decide +kernel
theorem d_L_looks_143 : decode b_L_looks 143 = .ok (.iconst 1, 1) := by decide +kernel
theorem d_L_looks_144 : decode b_L_looks 144 = .ok (.iload_n 1, 1) := by decide +kernel
theorem d_L_looks_145 : decode b_L_looks 145 = .ok (.bipush 99, 2) := by decide +kernel
theorem d_L_looks_147 : decode b_L_looks 147 = .ok (.invokestatic 122, 3) := by decide +kernel
theorem d_L_looks_150 : decode b_L_looks 150 = .ok (.iadd, 1) := by decide +kernel
theorem d_L_looks_151 : decode b_L_looks 151 = .ok (.istore 7, 2) := by decide +kernel
theorem d_L_looks_153 : decode b_L_looks 153 = .ok (.iload_n 1, 1) := by decide +kernel
theorem d_L_looks_154 : decode b_L_looks 154 = .ok (.bipush 8, 2) := by decide +kernel
theorem d_L_looks_156 : decode b_L_looks 156 = .ok (.ishr, 1) := by decide +kernel
theorem d_L_looks_157 : decode b_L_looks 157 = .ok (.bipush 40, 2) := by decide +kernel
theorem d_L_looks_159 : decode b_L_looks 159 = .ok (.invokestatic 122, 3) := by decide +kernel
theorem d_L_looks_162 : decode b_L_looks 162 = .ok (.istore 8, 2) := by decide +kernel
theorem d_L_looks_164 : decode b_L_looks 164 = .ok (.aload_n 0, 1) := by decide +kernel
theorem d_L_looks_165 : decode b_L_looks 165 = .ok (.iload 8, 2) := by decide +kernel
theorem d_L_looks_167 : decode b_L_looks 167 = .ok (.iload 7, 2) := by decide +kernel
theorem d_L_looks_169 : decode b_L_looks 169 = .ok (.invokevirtual 73, 3) := by decide +kernel
theorem d_L_looks_172 : decode b_L_looks 172 = .ok (.istore 9, 2) := by decide +kernel
theorem d_L_looks_174 : decode b_L_looks 174 = .ok (.iload 9, 2) := by decide +kernel
theorem d_L_looks_176 : decode b_L_looks 176 = .ok (.ifCond .ge 11, 3) := by decide +kernel
theorem d_L_looks_179 : decode b_L_looks 179 = .ok (.aload_n 0, 1) := by decide +kernel
theorem d_L_looks_180 : decode b_L_looks 180 = .ok (.iconst 0, 1) := by decide +kernel
theorem d_L_looks_181 : decode b_L_looks 181 = .ok (.invokevirtual 11, 3) := by decide +kernel
theorem d_L_looks_184 : decode b_L_looks 184 = .ok (.goto 5, 3) := by decide +kernel
theorem d_L_looks_187 : decode b_L_looks 187 = .ok (.iload 9, 2) := by decide +kernel
theorem d_L_looks_189 : decode b_L_looks 189 = .ok (.istore 10, 2) := by decide +kernel
theorem d_L_looks_191 : decode b_L_looks 191 = .ok (.iload 8, 2) := by decide +kernel
theorem d_L_looks_193 : decode b_L_looks 193 = .ok (.istore 11, 2) := by decide +kernel
theorem d_L_looks_195 : decode b_L_looks 195 = .ok (.iload 11, 2) := by decide +kernel
theorem d_L_looks_197 : decode b_L_looks 197 = .ok (.iload 10, 2) := by decide +kernel
theorem d_L_looks_199 : decode b_L_looks 199 = .ok (.if_icmp .ge 90, 3) := by decide +kernel
theorem d_L_looks_202 : decode b_L_looks 202 = .ok (.iload 11, 2) := by decide +kernel
theorem d_L_looks_204 : decode b_L_looks 204 = .ok (.iload 8, 2) := by decide +kernel
theorem d_L_looks_206 : decode b_L_looks 206 = .ok (.sipush 300, 3) := by decide +kernel
theorem d_L_looks_209 : decode b_L_looks 209 = .ok (.iadd, 1) := by decide +kernel
theorem d_L_looks_210 : decode b_L_looks 210 = .ok (.if_icmp .ge 79, 3) := by decide +kernel
theorem d_L_looks_213 : decode b_L_looks 213 = .ok (.iload 7, 2) := by decide +kernel
theorem d_L_looks_215 : decode b_L_looks 215 = .ok (.bipush 10, 2) := by decide +kernel
theorem d_L_looks_217 : decode b_L_looks 217 = .ok (.if_icmp .ge 22, 3) := by decide +kernel
theorem d_L_looks_220 : decode b_L_looks 220 = .ok (.aload_n 0, 1) := by decide +kernel
theorem d_L_looks_221 : decode b_L_looks 221 = .ok (.iload 11, 2) := by decide +kernel
theorem d_L_looks_223 : decode b_L_looks 223 = .ok (.invokevirtual 58, 3) := by decide +kernel
theorem d_L_looks_226 : decode b_L_looks 226 = .ok (.iload 7, 2) := by decide +kernel
theorem d_L_looks_228 : decode b_L_looks 228 = .ok (.if_icmp .ne 7, 3) := by decide +kernel
theorem d_L_looks_231 : decode b_L_looks 231 = .ok (.iconst 1, 1) := by decide +kernel
theorem d_L_looks_232 : decode b_L_looks 232 = .ok (.goto 42, 3) := by decide +kernel
theorem d_L_looks_235 : decode b_L_looks 235 = .ok (.iconst 0, 1) := by decide +kernel
theorem d_L_looks_236 : decode b_L_looks 236 = .ok (.goto 38, 3) := by decide +kernel
theorem d_L_looks_239 : decode b_L_looks 239 = .ok (.aload_n 0, 1) := by decide +kernel
theorem d_L_looks_240 : decode b_L_looks 240 = .ok (.iload 11, 2) := by decide +kernel
theorem d_L_looks_242 : decode b_L_looks 242 = .ok (.invokevirtual 58, 3) := by decide +kernel
theorem d_L_looks_245 : decode b_L_looks 245 = .ok (.iload 7, 2) := by decide +kernel
theorem d_L_looks_247 : decode b_L_looks 247 = .ok (.bipush 10, 2) := by decide +kernel
theorem d_L_looks_249 : decode b_L_looks 249 = .ok (.idiv, 1) := by decide +kernel
theorem d_L_looks_250 : decode b_L_looks 250 = .ok (.if_icmp .ne 23, 3) := by decide +kernel
theorem d_L_looks_253 : decode b_L_looks 253 = .ok (.aload_n 0, 1) := by decide +kernel
theorem d_L_looks_254 : decode b_L_looks 254 = .ok (.iload 11, 2) := by decide +kernel
theorem d_L_looks_256 : decode b_L_looks 256 = .ok (.iconst 1, 1) := by decide +kernel
theorem d_L_looks_257 : decode b_L_looks 257 = .ok (.iadd, 1) := by decide +kernel
theorem d_L_looks_258 : decode b_L_looks 258 = .ok (.invokevirtual 58, 3) := by decide +kernel
theorem d_L_looks_261 : decode b_L_looks 261 = .ok (.iload 7, 2) := by decide +kernel
theorem d_L_looks_263 : decode b_L_looks 263 = .ok (.bipush 10, 2) := by decide +kernel
theorem d_L_looks_265 : decode b_L_looks 265 = .ok (.irem, 1) := by decide +kernel
theorem d_L_looks_266 : decode b_L_looks 266 = .ok (.if_icmp .ne 7, 3) := by decide +kernel
theorem d_L_looks_269 : decode b_L_looks 269 = .ok (.iconst 1, 1) := by decide +kernel
theorem d_L_looks_270 : decode b_L_looks 270 = .ok (.goto 4, 3) := by decide +kernel
theorem d_L_looks_273 : decode b_L_looks 273 = .ok (.iconst 0, 1) := by decide +kernel
theorem d_L_looks_274 : decode b_L_looks 274 = .ok (.istore 12, 2) := by decide +kernel
theorem d_L_looks_276 : decode b_L_looks 276 = .ok (.iload 12, 2) := by decide +kernel
theorem d_L_looks_278 : decode b_L_looks 278 = .ok (.ifCond .eq 5, 3) := by decide +kernel
theorem d_L_looks_281 : decode b_L_looks 281 = .ok (.iconst 0, 1) := by decide +kernel
theorem d_L_looks_282 : decode b_L_looks 282 = .ok (.ireturn, 1) := by decide +kernel
theorem d_L_looks_283 : decode b_L_looks 283 = .ok (.iinc 11 1, 3) := by decide +kernel
theorem d_L_looks_286 : decode b_L_looks 286 = .ok (.goto (-91), 3) := by decide +kernel
theorem d_L_looks_289 : decode b_L_looks 289 = .ok (.iload 9, 2) := by decide +kernel
theorem d_L_looks_291 : decode b_L_looks 291 = .ok (.ifCond .lt 61, 3) := by decide +kernel
theorem d_L_looks_294 : decode b_L_looks 294 = .ok (.iload 9, 2) := by decide +kernel
theorem d_L_looks_296 : decode b_L_looks 296 = .ok (.iload 8, 2) := by decide +kernel
theorem d_L_looks_298 : decode b_L_looks 298 = .ok (.if_icmp .lt 52, 3) := by decide +kernel
theorem d_L_looks_301 : decode b_L_looks 301 = .ok (.aload_n 0, 1) := by decide +kernel
theorem d_L_looks_302 : decode b_L_looks 302 = .ok (.iload 9, 2) := by decide +kernel
theorem d_L_looks_304 : decode b_L_looks 304 = .ok (.invokevirtual 58, 3) := by decide +kernel
theorem d_L_looks_307 : decode b_L_looks 307 = .ok (.iload 7, 2) := by decide +kernel
theorem d_L_looks_309 : decode b_L_looks 309 = .ok (.bipush 10, 2) := by decide +kernel
theorem d_L_looks_311 : decode b_L_looks 311 = .ok (.if_icmp .ge 8, 3) := by decide +kernel
theorem d_L_looks_314 : decode b_L_looks 314 = .ok (.iload 7, 2) := by decide +kernel
theorem d_L_looks_316 : decode b_L_looks 316 = .ok (.goto 8, 3) := by decide +kernel
theorem d_L_looks_319 : decode b_L_looks 319 = .ok (.iload 7, 2) := by decide +kernel
theorem d_L_looks_321 : decode b_L_looks 321 = .ok (.bipush 10, 2) := by decide +kernel
theorem d_L_looks_323 : decode b_L_looks 323 = .ok (.idiv, 1) := by decide +kernel
theorem d_L_looks_324 : decode b_L_looks 324 = .ok (.if_icmp .ne 26, 3) := by decide +kernel
theorem d_L_looks_327 : decode b_L_looks 327 = .ok (.iload 7, 2) := by decide +kernel
theorem d_L_looks_329 : decode b_L_looks 329 = .ok (.bipush 9, 2) := by decide +kernel
theorem d_L_looks_331 : decode b_L_looks 331 = .ok (.if_icmp .le 21, 3) := by decide +kernel
theorem d_L_looks_334 : decode b_L_looks 334 = .ok (.aload_n 0, 1) := by decide +kernel
theorem d_L_looks_335 : decode b_L_looks 335 = .ok (.iload 9, 2) := by decide +kernel
theorem d_L_looks_337 : decode b_L_looks 337 = .ok (.iconst 1, 1) := by decide +kernel
theorem d_L_looks_338 : decode b_L_looks 338 = .ok (.iadd, 1) := by decide +kernel
theorem d_L_looks_339 : decode b_L_looks 339 = .ok (.invokevirtual 58, 3) := by decide +kernel
theorem d_L_looks_342 : decode b_L_looks 342 = .ok (.iload 7, 2) := by decide +kernel
theorem d_L_looks_344 : decode b_L_looks 344 = .ok (.bipush 10, 2) := by decide +kernel
theorem d_L_looks_346 : decode b_L_looks 346 = .ok (.irem, 1) := by decide +kernel
theorem d_L_looks_347 : decode b_L_looks 347 = .ok (.if_icmp .eq 5, 3) := by decide +kernel
theorem d_L_looks_350 : decode b_L_looks 350 = .ok (.iconst 0, 1) := by decide +kernel
theorem d_L_looks_351 : decode b_L_looks 351 = .ok (.ireturn, 1) := by decide +kernel
theorem d_L_looks_352 : decode b_L_looks 352 = .ok (.iconst 0, 1) := by decide +kernel
theorem d_L_looks_353 : decode b_L_looks 353 = .ok (.istore 11, 2) := by decide +kernel
theorem d_L_looks_355 : decode b_L_looks 355 = .ok (.aload_n 0, 1) := by decide +kernel
theorem d_L_looks_356 : decode b_L_looks 356 = .ok (.iconst 0, 1) := by decide +kernel
theorem d_L_looks_357 : decode b_L_looks 357 = .ok (.invokevirtual 11, 3) := by decide +kernel
theorem d_L_looks_360 : decode b_L_looks 360 = .ok (.istore 12, 2) := by decide +kernel
theorem d_L_looks_362 : decode b_L_looks 362 = .ok (.iconst 0, 1) := by decide +kernel
theorem d_L_looks_363 : decode b_L_looks 363 = .ok (.istore 13, 2) := by decide +kernel
theorem d_L_looks_365 : decode b_L_looks 365 = .ok (.iload 13, 2) := by decide +kernel
theorem d_L_looks_367 : decode b_L_looks 367 = .ok (.iload 12, 2) := by decide +kernel
theorem d_L_looks_369 : decode b_L_looks 369 = .ok (.if_icmp .ge 47, 3) := by decide +kernel
theorem d_L_looks_372 : decode b_L_looks 372 = .ok (.iload 12, 2) := by decide +kernel
theorem d_L_looks_374 : decode b_L_looks 374 = .ok (.sipush 200, 3) := by decide +kernel
theorem d_L_looks_377 : decode b_L_looks 377 = .ok (.if_icmp .ge 39, 3) := by decide +kernel
theorem d_L_looks_380 : decode b_L_looks 380 = .ok (.iload 11, 2) := by decide +kernel
theorem d_L_looks_382 : decode b_L_looks 382 = .ok (.aload_n 0, 1) := by decide +kernel
theorem d_L_looks_383 : decode b_L_looks 383 = .ok (.iload 13, 2) := by decide +kernel
theorem d_L_looks_385 : decode b_L_looks 385 = .ok (.invokevirtual 58, 3) := by decide +kernel
theorem d_L_looks_388 : decode b_L_looks 388 = .ok (.aload_n 0, 1) := by decide +kernel
theorem d_L_looks_389 : decode b_L_looks 389 = .ok (.iload 12, 2) := by decide +kernel
theorem d_L_looks_391 : decode b_L_looks 391 = .ok (.iconst 1, 1) := by decide +kernel
theorem d_L_looks_392 : decode b_L_looks 392 = .ok (.isub, 1) := by decide +kernel
theorem d_L_looks_393 : decode b_L_looks 393 = .ok (.iload 13, 2) := by decide +kernel
theorem d_L_looks_395 : decode b_L_looks 395 = .ok (.isub, 1) := by decide +kernel
theorem d_L_looks_396 : decode b_L_looks 396 = .ok (.invokevirtual 58, 3) := by decide +kernel
theorem d_L_looks_399 : decode b_L_looks 399 = .ok (.if_icmp .eq 7, 3) := by decide +kernel
theorem d_L_looks_402 : decode b_L_looks 402 = .ok (.iconst 1, 1) := by decide +kernel
theorem d_L_looks_403 : decode b_L_looks 403 = .ok (.goto 4, 3) := by decide +kernel
theorem d_L_looks_406 : decode b_L_looks 406 = .ok (.iconst 0, 1) := by decide +kernel
theorem d_L_looks_407 : decode b_L_looks 407 = .ok (.iadd, 1) := by decide +kernel
theorem d_L_looks_408 : decode b_L_looks 408 = .ok (.istore 11, 2) := by decide +kernel
theorem d_L_looks_410 : decode b_L_looks 410 = .ok (.iinc 13 1, 3) := by decide +kernel
theorem d_L_looks_413 : decode b_L_looks 413 = .ok (.goto (-48), 3) := by decide +kernel
theorem d_L_looks_416 : decode b_L_looks 416 = .ok (.iload 12, 2) := by decide +kernel
theorem d_L_looks_418 : decode b_L_looks 418 = .ok (.sipush 199, 3) := by decide +kernel
theorem d_L_looks_421 : decode b_L_looks 421 = .ok (.if_icmp .gt 12, 3) := by decide +kernel
theorem d_L_looks_424 : decode b_L_looks 424 = .ok (.aload_n 0, 1) := by decide +kernel
theorem d_L_looks_425 : decode b_L_looks 425 = .ok (.invokevirtual 125, 3) := by decide +kernel
theorem d_L_looks_428 : decode b_L_looks 428 = .ok (.iload 11, 2) := by decide +kernel
theorem d_L_looks_430 : decode b_L_looks 430 = .ok (.if_icmp .ne 7, 3) := by decide +kernel
theorem d_L_looks_433 : decode b_L_looks 433 = .ok (.iconst 1, 1) := by decide +kernel
theorem d_L_looks_434 : decode b_L_looks 434 = .ok (.goto 4, 3) := by decide +kernel
theorem d_L_looks_437 : decode b_L_looks 437 = .ok (.iconst 0, 1) := by decide +kernel
theorem d_L_looks_438 : decode b_L_looks 438 = .ok (.ireturn, 1) := by decide +kernel
set_option maxHeartbeats 4000000 in
set_option maxRecDepth 20000 in
theorem c_L_looks {l : Launch} {G : va_G} {tys : List (ClassId × FieldType)} {cI cO cZ : ClassId} (hT : TY tys cI cO cZ) (o : Nat) (A : AS) (q : Int)  : CTA l G tys cI cO cZ y_L_looks b_L_looks 14 .boolean 5 112 o [.ref o, .int (iI q)] A (fun z A' => A' = A ∧ z = 1) := by
  refine mkAZ (by decide) (Nat.le_of_ble_eq_true rfl) ?_
  rintro X rfl rfl rfl hRm C kret H ls w hl
  have hl : lv_has ls 14 [(0, .ref o), (1, .int (iI q))] := hl
  generalize ([] : List Loc) = locs at w ⊢
  obtain ⟨⟨lc, sd, r, sg, ln, N, v⟩, hist, rcd, slot, uf, T, m⟩ := A
  have hK := w.ok
  have hR : RwOk lc sd r sg ln N v := hK.1
  have hrcd : 0 ≤ rcd ∧ rcd ≤ 6 := hK.2.1
  have hm80 : 0 ≤ m ∧ m ≤ 80 := hK.2.2.2.2.1
  obtain ⟨hO, hr50, hN3, hlc, hsd⟩ := hR
  have hr0 := hO.1
  have hN0 := hO.n0
  refine r_aload_n (pc := 0) C d_L_looks_0 rfl (lv_at hl 0 rfl) ?_
  refine r_iconst (pc := 1) C d_L_looks_1 ?_
  refine l_callE (pc := 2) (As := [.int (iI 1)]) (rest := []) (x := r) (fun _ _ h => q_count_1 h) C w (fun ws hA => c_D_count hT o _ ws hA 1 (by omega)) ml_L_11 im_D_count se_D_count cd_D_count hd_D_count rfl (by rw [hRm]; exact ⟨⟨Nat.le_of_ble_eq_true rfl, Nat.le_of_ble_eq_true rfl⟩, Nat.le_of_ble_eq_true rfl, Nat.le_of_ble_eq_true rfl⟩) hl.1 rfl (Nat.le_of_ble_eq_true rfl) d_L_looks_2 (fun H locs w => ?_)
  refine r_istore_n (pc := 5) (lv' := [(2, .int (iI r)), (0, .ref o), (1, .int (iI q))]) C d_L_looks_5 rfl hl (by decide) rfl (fun ls hl => ?_)
  refine r_bipush (pc := 6) C d_L_looks_6 (by decide) ?_
  refine r_istore_n (pc := 8) (lv' := [(3, .int (iI (-6))), (2, .int (iI r)), (0, .ref o), (1, .int (iI q))]) C d_L_looks_8 rfl hl (by decide) rfl (fun ls hl => ?_)
  refine r_iconst (pc := 9) C d_L_looks_9 ?_
  refine r_istore (pc := 10) (lv' := [(4, .int (iI 0)), (3, .int (iI (-6))), (2, .int (iI r)), (0, .ref o), (1, .int (iI q))]) C d_L_looks_10 hl (by decide) rfl (fun ls hl => ?_)
  refine r_iconst (pc := 12) C d_L_looks_12 ?_
  refine r_istore (pc := 13) (lv' := [(5, .int (iI 0)), (4, .int (iI 0)), (3, .int (iI (-6))), (2, .int (iI r)), (0, .ref o), (1, .int (iI q))]) C d_L_looks_13 hl (by decide) rfl (fun ls hl => ?_)
  refine r_iconst (pc := 15) C d_L_looks_15 ?_
  refine r_istore (pc := 16) (lv' := [(6, .int (iI 0)), (5, .int (iI 0)), (4, .int (iI 0)), (3, .int (iI (-6))), (2, .int (iI r)), (0, .ref o), (1, .int (iI q))]) C d_L_looks_16 hl (by decide) rfl (fun ls hl => ?_)
  refine r_iconst (pc := 18) C d_L_looks_18 ?_
  refine r_istore (pc := 19) (lv' := [(7, .int (iI 0)), (6, .int (iI 0)), (5, .int (iI 0)), (4, .int (iI 0)), (3, .int (iI (-6))), (2, .int (iI r)), (0, .ref o), (1, .int (iI q))]) C d_L_looks_19 hl (by decide) rfl (fun ls hl => ?_)
  have L21 : ∀ (fuel : Nat), ∀ (k : Int) (li : Int) (fr : Int) (mo : Int) (fi : Int), 0 ≤ k ∧ k ≤ r → ll v (ps ln k) = (li, mo, fi) → li = 0 ∨ fr = ps ln k - li → (r - k) < (fuel : Int) → ∀ (H : Heap) (locs : List Loc) (ls : Array Slot), LW X cI cO cZ o ((lc, sd, r, sg, ln, N, v), hist, rcd, slot, uf, T, m) H locs → lv_has ls 14 [(7, .int (iI k)), (6, .int (iI li)), (5, .int (iI fr)), (4, .int (iI mo)), (3, .int (iI fi)), (2, .int (iI r)), (1, .int (iI q)), (0, .ref o)] → GG X 0 0 H locs 21 ls [] := by
    intro fuel
    induction fuel with
    | zero =>
      intro k li fr mo fi hk hll hfr hfuel
      exact absurd hfuel (by omega)
    | succ fuel ih21 =>
      intro k li fr mo fi hk hll hfr hfuel H locs ls w hl
      refine r_iload (pc := 21) C d_L_looks_21 (lv_at hl 0 rfl) ?_
      refine r_iload_n (pc := 23) C d_L_looks_23 rfl (lv_at hl 5 rfl) ?_
      refine r_icmp_ge (pc := 24) (tgt := 112) C (by omega) d_L_looks_24 (by decide) (fun c_24 => ?_) (fun c_24 => ?_)
      · skip
        have hkr : k = r := by omega
        rw [hkr, hO.2.2.2.1] at hll
        have hlr := ll_rg v N (by omega)
        rw [hll] at hlr
        have hlr : 0 ≤ li ∧ li ≤ mo ∧ mo ≤ N ∧ (mo = 0 → fi = -6) ∧ (mo ≠ 0 → 0 ≤ fi) ∧ li ≤ N := hlr
        have hL0 : (if (ll v N).2.1 = 0 then -6 else (ll v N).2.2) = fi := by
          rw [hll]
          show (if mo = 0 then -6 else fi) = fi
          split <;> omega
        obtain ⟨m1, hL1, hm1⟩ : ∃ m1, (if (ll v N).2.1 = 0 then -6 else (ll v N).2.1) = m1 ∧ ((mo = 0 ∧ m1 = -6) ∨ (mo ≠ 0 ∧ m1 = mo)) := by
          rw [hll]
          refine ⟨_, rfl, ?_⟩
          show (mo = 0 ∧ (if mo = 0 then -6 else mo) = -6) ∨ (mo ≠ 0 ∧ (if mo = 0 then -6 else mo) = mo)
          split <;> omega
        have hfr2 : -6 ≤ fi ∧ fi < 2147483648 := by
          have h2 := q_fir hO hr0 hll
          omega
        refine r_aload_n (pc := 112) C d_L_looks_112 rfl (lv_at hl 7 rfl) ?_
        have J143 : ∀ (H : Heap) (locs : List Loc) (ls : Array Slot), LW X cI cO cZ o ((lc, sd, r, sg, ln, N, v), hist, rcd, slot, uf, T, m) H locs → lv_has ls 14 [(1, .int (iI q)), (0, .ref o)] → GG X 0 0 H locs 143 ls [] := by
          intro   H locs ls w hl
          have J352 : ∀ (H : Heap) (locs : List Loc) (ls : Array Slot), LW X cI cO cZ o ((lc, sd, r, sg, ln, N, v), hist, rcd, slot, uf, T, m) H locs → lv_has ls 14 [(0, .ref o)] → GG X 0 0 H locs 352 ls [] := by
            intro   H locs ls w hl
            refine r_iconst (pc := 352) C d_L_looks_352 ?_
            refine r_istore (pc := 353) (lv' := [(11, .int (iI 0)), (0, .ref o)]) C d_L_looks_353 hl (by decide) rfl (fun ls hl => ?_)
            refine r_aload_n (pc := 355) C d_L_looks_355 rfl (lv_at hl 1 rfl) ?_
            refine r_iconst (pc := 356) C d_L_looks_356 ?_
            refine l_callE (pc := 357) (As := [.int (iI 0)]) (rest := []) (x := N) (fun _ _ h => q_count_0 h) C w (fun ws hA => c_D_count hT o _ ws hA 0 (by omega)) ml_L_11 im_D_count se_D_count cd_D_count hd_D_count rfl (by rw [hRm]; exact ⟨⟨Nat.le_of_ble_eq_true rfl, Nat.le_of_ble_eq_true rfl⟩, Nat.le_of_ble_eq_true rfl, Nat.le_of_ble_eq_true rfl⟩) hl.1 rfl (Nat.le_of_ble_eq_true rfl) d_L_looks_357 (fun H locs w => ?_)
            refine r_istore (pc := 360) (lv' := [(12, .int (iI N)), (11, .int (iI 0)), (0, .ref o)]) C d_L_looks_360 hl (by decide) rfl (fun ls hl => ?_)
            refine r_iconst (pc := 362) C d_L_looks_362 ?_
            refine r_istore (pc := 363) (lv' := [(13, .int (iI 0)), (12, .int (iI N)), (11, .int (iI 0)), (0, .ref o)]) C d_L_looks_363 hl (by decide) rfl (fun ls hl => ?_)
            have L365 : ∀ (fuel : Nat), ∀ (kk : Int) (un : Int), 0 ≤ kk ∧ kk ≤ N → un = ps (umf v N) kk → (N - kk) < (fuel : Int) → ∀ (H : Heap) (locs : List Loc) (ls : Array Slot), LW X cI cO cZ o ((lc, sd, r, sg, ln, N, v), hist, rcd, slot, uf, T, m) H locs → lv_has ls 14 [(13, .int (iI kk)), (12, .int (iI N)), (11, .int (iI un)), (0, .ref o)] → GG X 0 0 H locs 365 ls [] := by
              intro fuel
              induction fuel with
              | zero =>
                intro kk un hkk hun hfuel
                exact absurd hfuel (by omega)
              | succ fuel ih365 =>
                intro kk un hkk hun hfuel H locs ls w hl
                have hub := ps_bound (f := umf v N) (lo := 0) (hi := 1) kk (by omega) (fun j _ _ => by have := umf_cases v N j; omega)
                have hub2 := ps_bound (f := umf v N) (lo := 0) (hi := 1) N (by omega) (fun j _ _ => by have := umf_cases v N j; omega)
                refine r_iload (pc := 365) C d_L_looks_365 (lv_at hl 0 rfl) ?_
                refine r_iload (pc := 367) C d_L_looks_367 (lv_at hl 1 rfl) ?_
                refine r_icmp_ge (pc := 369) (tgt := 416) C (by omega) d_L_looks_369 (by decide) (fun c_369 => ?_) (fun c_369 => ?_)
                · skip
                  refine r_iload (pc := 416) C d_L_looks_416 (lv_at hl 1 rfl) ?_
                  refine r_sipush (pc := 418) C d_L_looks_418 (by decide) ?_
                  refine r_icmp_gt (pc := 421) (tgt := 433) C (by omega) d_L_looks_421 (by decide) (fun c_421 => ?_) (fun c_421 => ?_)
                  · skip
                    refine r_iconst (pc := 433) C d_L_looks_433 ?_
                    refine r_goto (pc := 434) (tgt := 438) C d_L_looks_434 (by decide) ?_
                    exact kret _ _ _ _ 1 _ d_L_looks_438 w (by omega) (⟨rfl, rfl⟩)
                  · skip
                    refine r_aload_n (pc := 424) C d_L_looks_424 rfl (lv_at hl 3 rfl) ?_
                    refine l_callE (pc := 425) (As := []) (rest := []) (x := (ps (umf v N) N)) (fun _ _ h => h) C w (fun ws hA => c_D_unlikeMirror hT o _ ws hA) ml_L_125 im_D_unlikeMirror se_D_unlikeMirror cd_D_unlikeMirror hd_D_unlikeMirror rfl (by rw [hRm]; exact ⟨⟨Nat.le_of_ble_eq_true rfl, Nat.le_of_ble_eq_true rfl⟩, Nat.le_of_ble_eq_true rfl, Nat.le_of_ble_eq_true rfl⟩) hl.1 rfl (Nat.le_of_ble_eq_true rfl) d_L_looks_425 (fun H locs w => ?_)
                    refine r_iload (pc := 428) C d_L_looks_428 (lv_at hl 2 rfl) ?_
                    refine r_icmp_ne (pc := 430) (tgt := 437) C (by omega) d_L_looks_430 (by decide) (fun c_430 => ?_) (fun c_430 => ?_)
                    · skip
                      exact absurd (by have h5 : kk = N := (by omega); rw [h5] at hun; exact hun.symm) c_430
                    · skip
                      refine r_iconst (pc := 433) C d_L_looks_433 ?_
                      refine r_goto (pc := 434) (tgt := 438) C d_L_looks_434 (by decide) ?_
                      exact kret _ _ _ _ 1 _ d_L_looks_438 w (by omega) (⟨rfl, rfl⟩)
                · skip
                  refine r_iload (pc := 372) C d_L_looks_372 (lv_at hl 1 rfl) ?_
                  refine r_sipush (pc := 374) C d_L_looks_374 (by decide) ?_
                  refine r_icmp_ge (pc := 377) (tgt := 416) C (by omega) d_L_looks_377 (by decide) (fun c_377 => ?_) (fun c_377 => ?_)
                  · skip
                    refine r_iload (pc := 416) C d_L_looks_416 (lv_at hl 1 rfl) ?_
                    refine r_sipush (pc := 418) C d_L_looks_418 (by decide) ?_
                    refine r_icmp_gt (pc := 421) (tgt := 433) C (by omega) d_L_looks_421 (by decide) (fun c_421 => ?_) (fun c_421 => ?_)
                    · skip
                      refine r_iconst (pc := 433) C d_L_looks_433 ?_
                      refine r_goto (pc := 434) (tgt := 438) C d_L_looks_434 (by decide) ?_
                      exact kret _ _ _ _ 1 _ d_L_looks_438 w (by omega) (⟨rfl, rfl⟩)
                    · skip
                      refine r_aload_n (pc := 424) C d_L_looks_424 rfl (lv_at hl 3 rfl) ?_
                      refine l_callE (pc := 425) (As := []) (rest := []) (x := (ps (umf v N) N)) (fun _ _ h => h) C w (fun ws hA => c_D_unlikeMirror hT o _ ws hA) ml_L_125 im_D_unlikeMirror se_D_unlikeMirror cd_D_unlikeMirror hd_D_unlikeMirror rfl (by rw [hRm]; exact ⟨⟨Nat.le_of_ble_eq_true rfl, Nat.le_of_ble_eq_true rfl⟩, Nat.le_of_ble_eq_true rfl, Nat.le_of_ble_eq_true rfl⟩) hl.1 rfl (Nat.le_of_ble_eq_true rfl) d_L_looks_425 (fun H locs w => ?_)
                      refine r_iload (pc := 428) C d_L_looks_428 (lv_at hl 2 rfl) ?_
                      refine r_icmp_ne (pc := 430) (tgt := 437) C (by omega) d_L_looks_430 (by decide) (fun c_430 => ?_) (fun c_430 => ?_)
                      · skip
                        exact absurd (by have h5 : kk = N := (by omega); rw [h5] at hun; exact hun.symm) c_430
                      · skip
                        refine r_iconst (pc := 433) C d_L_looks_433 ?_
                        refine r_goto (pc := 434) (tgt := 438) C d_L_looks_434 (by decide) ?_
                        exact kret _ _ _ _ 1 _ d_L_looks_438 w (by omega) (⟨rfl, rfl⟩)
                  · skip
                    have huc := umf_cases v N kk
                    have hva := hO.v_rg kk (by omega) (by omega)
                    have hvb := hO.v_rg (N - 1 - kk) (by omega) (by omega)
                    refine r_iload (pc := 380) C d_L_looks_380 (lv_at hl 2 rfl) ?_
                    refine r_aload_n (pc := 382) C d_L_looks_382 rfl (lv_at hl 3 rfl) ?_
                    refine r_iload (pc := 383) C d_L_looks_383 (lv_at hl 0 rfl) ?_
                    refine l_callE (pc := 385) (As := [.int (iI kk)]) (rest := [.int (iI un)]) (x := (v kk)) (fun _ _ h => q_sign (by omega) h) C w (fun ws hA => c_D_sign hT o _ ws hA kk (by omega)) ml_L_58 im_D_sign se_D_sign cd_D_sign hd_D_sign rfl (by rw [hRm]; exact ⟨⟨Nat.le_of_ble_eq_true rfl, Nat.le_of_ble_eq_true rfl⟩, Nat.le_of_ble_eq_true rfl, Nat.le_of_ble_eq_true rfl⟩) hl.1 rfl (Nat.le_of_ble_eq_true rfl) d_L_looks_385 (fun H locs w => ?_)
                    refine r_aload_n (pc := 388) C d_L_looks_388 rfl (lv_at hl 3 rfl) ?_
                    refine r_iload (pc := 389) C d_L_looks_389 (lv_at hl 1 rfl) ?_
                    refine r_iconst (pc := 391) C d_L_looks_391 ?_
                    refine r_isub (pc := 392) C d_L_looks_392 ?_
                    refine r_iload (pc := 393) C d_L_looks_393 (lv_at hl 0 rfl) ?_
                    refine r_isub (pc := 395) C d_L_looks_395 ?_
                    refine l_callE (pc := 396) (As := [.int (iI ((N - 1) - kk))]) (rest := [.int (iI (v kk)), .int (iI un)]) (x := (v ((N - 1) - kk))) (fun _ _ h => q_sign (by omega) h) C w (fun ws hA => c_D_sign hT o _ ws hA ((N - 1) - kk) (by omega)) ml_L_58 im_D_sign se_D_sign cd_D_sign hd_D_sign rfl (by rw [hRm]; exact ⟨⟨Nat.le_of_ble_eq_true rfl, Nat.le_of_ble_eq_true rfl⟩, Nat.le_of_ble_eq_true rfl, Nat.le_of_ble_eq_true rfl⟩) hl.1 rfl (Nat.le_of_ble_eq_true rfl) d_L_looks_396 (fun H locs w => ?_)
                    refine r_icmp_eq (pc := 399) (tgt := 406) C (by omega) d_L_looks_399 (by decide) (fun c_399 => ?_) (fun c_399 => ?_)
                    · skip
                      refine r_iconst (pc := 406) C d_L_looks_406 ?_
                      refine r_iadd (pc := 407) C d_L_looks_407 ?_
                      refine r_istore (pc := 408) (lv' := [(11, .int (iI (un + 0))), (13, .int (iI kk)), (12, .int (iI N)), (0, .ref o)]) C d_L_looks_408 hl (by decide) rfl (fun ls hl => ?_)
                      refine r_iinc (pc := 410) (j := 1) (lv' := [(13, .int (iI (kk + 1))), (11, .int (iI (un + 0))), (12, .int (iI N)), (0, .ref o)]) C d_L_looks_410 hl rfl (by decide) rfl (fun ls hl => ?_)
                      refine r_goto (pc := 413) (tgt := 365) C d_L_looks_413 (by decide) ?_
                      exact ih365 (kk + 1) (un + 0) (by omega) (by rw [ps_succ _ (by omega)]; omega) (by omega) _ _ _ w (lv_sub hl [0, 2, 1, 3] rfl)
                    · skip
                      refine r_iconst (pc := 402) C d_L_looks_402 ?_
                      refine r_goto (pc := 403) (tgt := 407) C d_L_looks_403 (by decide) ?_
                      refine r_iadd (pc := 407) C d_L_looks_407 ?_
                      refine r_istore (pc := 408) (lv' := [(11, .int (iI (un + 1))), (13, .int (iI kk)), (12, .int (iI N)), (0, .ref o)]) C d_L_looks_408 hl (by decide) rfl (fun ls hl => ?_)
                      refine r_iinc (pc := 410) (j := 1) (lv' := [(13, .int (iI (kk + 1))), (11, .int (iI (un + 1))), (12, .int (iI N)), (0, .ref o)]) C d_L_looks_410 hl rfl (by decide) rfl (fun ls hl => ?_)
                      refine r_goto (pc := 413) (tgt := 365) C d_L_looks_413 (by decide) ?_
                      exact ih365 (kk + 1) (un + 1) (by omega) (by rw [ps_succ _ (by omega)]; omega) (by omega) _ _ _ w (lv_sub hl [0, 2, 1, 3] rfl)
            exact L365 ((N - 0) + 1 : Int).toNat 0 0 (by first | omega | rfl) (by first | omega | rfl) (by omega) _ _ _ w (lv_sub hl [0, 1, 2, 3] rfl)
          refine r_iconst (pc := 143) C d_L_looks_143 ?_
          refine r_iload_n (pc := 144) C d_L_looks_144 rfl (lv_at hl 0 rfl) ?_
          refine r_bipush (pc := 145) C d_L_looks_145 (by decide) ?_
          refine l_callP (pc := 147) (As := [.int (iI q), .int (iI 99)]) (rest := [.int (iI 1)]) C w (c_L_up _ 99 (by omega)) ml_L_122 st_L_up ini_L cd_L_up hd_L_up rfl (by rw [hRm]; exact ⟨⟨Nat.le_of_ble_eq_true rfl, Nat.le_of_ble_eq_true rfl⟩, Nat.le_of_ble_eq_true rfl, Nat.le_of_ble_eq_true rfl⟩) hl.1 rfl (Nat.le_of_ble_eq_true rfl) d_L_looks_147 (fun z_147 H locs hz_147 w => ?_)
          refine r_iadd (pc := 150) C d_L_looks_150 ?_
          refine r_istore (pc := 151) (lv' := [(7, .int (iI (1 + z_147))), (1, .int (iI q)), (0, .ref o)]) C d_L_looks_151 hl (by decide) rfl (fun ls hl => ?_)
          refine r_iload_n (pc := 153) C d_L_looks_153 rfl (lv_at hl 1 rfl) ?_
          refine r_bipush (pc := 154) C d_L_looks_154 (by decide) ?_
          refine r_ishr (pc := 156) C d_L_looks_156 ?_
          refine r_top (y := iI ((iI q >>> (iI 8 &&& 31)).toInt)) ((iI_of _).symm) ?_
          refine r_bipush (pc := 157) C d_L_looks_157 (by decide) ?_
          refine l_callP (pc := 159) (As := [.int (iI ((iI q >>> (iI 8 &&& 31)).toInt)), .int (iI 40)]) (rest := []) C w (c_L_up _ 40 (by omega)) ml_L_122 st_L_up ini_L cd_L_up hd_L_up rfl (by rw [hRm]; exact ⟨⟨Nat.le_of_ble_eq_true rfl, Nat.le_of_ble_eq_true rfl⟩, Nat.le_of_ble_eq_true rfl, Nat.le_of_ble_eq_true rfl⟩) hl.1 rfl (Nat.le_of_ble_eq_true rfl) d_L_looks_159 (fun z_159 H locs hz_159 w => ?_)
          refine r_istore (pc := 162) (lv' := [(8, .int (iI z_159)), (7, .int (iI (1 + z_147))), (1, .int (iI q)), (0, .ref o)]) C d_L_looks_162 hl (by decide) rfl (fun ls hl => ?_)
          refine r_aload_n (pc := 164) C d_L_looks_164 rfl (lv_at hl 3 rfl) ?_
          refine r_iload (pc := 165) C d_L_looks_165 (lv_at hl 0 rfl) ?_
          refine r_iload (pc := 167) C d_L_looks_167 (lv_at hl 1 rfl) ?_
          refine l_callQ (pc := 169) (As := [.int (iI z_159), .int (iI (1 + z_147))]) (rest := []) (P := fun z => Fnd v N (1 + z_147) z_159 z) (fun _ _ h => q_find (by omega) h) C w (fun ws hA => c_D_find hT o _ ws hA z_159 (1 + z_147) ⟨by omega, by omega⟩) ml_L_73 im_D_find se_D_find cd_D_find hd_D_find rfl (by rw [hRm]; exact ⟨⟨Nat.le_of_ble_eq_true rfl, Nat.le_of_ble_eq_true rfl⟩, Nat.le_of_ble_eq_true rfl, Nat.le_of_ble_eq_true rfl⟩) hl.1 rfl (Nat.le_of_ble_eq_true rfl) d_L_looks_169 (fun z_169 H locs hz_169 w => ?_)
          have hfnd := fnd_lo (by omega) (by omega) hz_169
          have hzr : -6 ≤ z_169 ∧ z_169 < N + 1 := by rcases hfnd with ⟨f1, f2⟩ | ⟨f1, f2, f3, f4⟩ <;> omega
          refine r_istore (pc := 172) (lv' := [(9, .int (iI z_169)), (8, .int (iI z_159)), (7, .int (iI (1 + z_147))), (1, .int (iI q)), (0, .ref o)]) C d_L_looks_172 hl (by decide) rfl (fun ls hl => ?_)
          have J189 : ∀ (en : Int), 0 ≤ en ∧ en ≤ N → (∀ x, z_159 ≤ x → x < en → ¬ Hit v N (1 + z_147) x) → ∀ (H : Heap) (locs : List Loc) (ls : Array Slot), LW X cI cO cZ o ((lc, sd, r, sg, ln, N, v), hist, rcd, slot, uf, T, m) H locs → lv_has ls 14 [(9, .int (iI z_169)), (8, .int (iI z_159)), (7, .int (iI (1 + z_147))), (0, .ref o)] → GG X 0 0 H locs 189 ls [.int (iI en)] := by
            intro en hen hno H locs ls w hl
            refine r_istore (pc := 189) (lv' := [(10, .int (iI en)), (9, .int (iI z_169)), (8, .int (iI z_159)), (7, .int (iI (1 + z_147))), (0, .ref o)]) C d_L_looks_189 hl (by decide) rfl (fun ls hl => ?_)
            refine r_iload (pc := 191) C d_L_looks_191 (lv_at hl 2 rfl) ?_
            refine r_istore (pc := 193) (lv' := [(11, .int (iI z_159)), (10, .int (iI en)), (9, .int (iI z_169)), (8, .int (iI z_159)), (7, .int (iI (1 + z_147))), (0, .ref o)]) C d_L_looks_193 hl (by decide) rfl (fun ls hl => ?_)
            have L195 : ∀ (fuel : Nat), ∀ (kk : Int), z_159 ≤ kk ∧ kk ≤ z_159 + 300 → (z_159 + 300 - kk) < (fuel : Int) → ∀ (H : Heap) (locs : List Loc) (ls : Array Slot), LW X cI cO cZ o ((lc, sd, r, sg, ln, N, v), hist, rcd, slot, uf, T, m) H locs → lv_has ls 14 [(11, .int (iI kk)), (10, .int (iI en)), (9, .int (iI z_169)), (8, .int (iI z_159)), (7, .int (iI (1 + z_147))), (0, .ref o)] → GG X 0 0 H locs 195 ls [] := by
              intro fuel
              induction fuel with
              | zero =>
                intro kk hkk hfuel
                exact absurd hfuel (by omega)
              | succ fuel ih195 =>
                intro kk hkk hfuel H locs ls w hl
                refine r_iload (pc := 195) C d_L_looks_195 (lv_at hl 0 rfl) ?_
                refine r_iload (pc := 197) C d_L_looks_197 (lv_at hl 1 rfl) ?_
                refine r_icmp_ge (pc := 199) (tgt := 289) C (by omega) d_L_looks_199 (by decide) (fun c_199 => ?_) (fun c_199 => ?_)
                · skip
                  refine r_iload (pc := 289) C d_L_looks_289 (lv_at hl 2 rfl) ?_
                  refine r_if_lt (pc := 291) (tgt := 352) C (by omega) d_L_looks_291 (by decide) (fun c_291 => ?_) (fun c_291 => ?_)
                  · skip
                    exact J352   _ _ _ w (lv_sub hl [5] rfl)
                  · skip
                    refine r_iload (pc := 294) C d_L_looks_294 (lv_at hl 2 rfl) ?_
                    refine r_iload (pc := 296) C d_L_looks_296 (lv_at hl 3 rfl) ?_
                    refine r_icmp_lt (pc := 298) (tgt := 350) C (by omega) d_L_looks_298 (by decide) (fun c_298 => ?_) (fun c_298 => ?_)
                    · skip
                      exact absurd c_298 (by omega)
                    · skip
                      have hhit : Hit v N (1 + z_147) z_169 ∧ z_169 < N := by
                        rcases hfnd with ⟨f1, f2⟩ | ⟨f1, f2, f3, f4⟩
                        · exact absurd c_298 (by omega)
                        · exact ⟨f3, f2⟩
                      obtain ⟨hhit, hhn⟩ := hhit
                      refine r_aload_n (pc := 301) C d_L_looks_301 rfl (lv_at hl 5 rfl) ?_
                      refine r_iload (pc := 302) C d_L_looks_302 (lv_at hl 2 rfl) ?_
                      have hvz := hO.v_rg z_169 (by omega) (by omega)
                      refine l_callE (pc := 304) (As := [.int (iI z_169)]) (rest := []) (x := (v z_169)) (fun _ _ h => q_sign (by omega) h) C w (fun ws hA => c_D_sign hT o _ ws hA z_169 (by omega)) ml_L_58 im_D_sign se_D_sign cd_D_sign hd_D_sign rfl (by rw [hRm]; exact ⟨⟨Nat.le_of_ble_eq_true rfl, Nat.le_of_ble_eq_true rfl⟩, Nat.le_of_ble_eq_true rfl, Nat.le_of_ble_eq_true rfl⟩) hl.1 rfl (Nat.le_of_ble_eq_true rfl) d_L_looks_304 (fun H locs w => ?_)
                      refine r_iload (pc := 307) C d_L_looks_307 (lv_at hl 4 rfl) ?_
                      refine r_bipush (pc := 309) C d_L_looks_309 (by decide) ?_
                      refine r_icmp_ge (pc := 311) (tgt := 319) C (by omega) d_L_looks_311 (by decide) (fun c_311 => ?_) (fun c_311 => ?_)
                      · skip
                        refine r_iload (pc := 319) C d_L_looks_319 (lv_at hl 4 rfl) ?_
                        refine r_bipush (pc := 321) C d_L_looks_321 (by decide) ?_
                        refine r_idiv (pc := 323) C d_L_looks_323 (by omega) ?_
                        refine r_icmp_ne (pc := 324) (tgt := 350) C (by omega) d_L_looks_324 (by decide) (fun c_324 => ?_) (fun c_324 => ?_)
                        · skip
                          exact absurd (by rcases hhit with ⟨u1, u2⟩ | ⟨u1, u2, u3, u4⟩ <;> omega) c_324
                        · skip
                          refine r_iload (pc := 327) C d_L_looks_327 (lv_at hl 4 rfl) ?_
                          refine r_bipush (pc := 329) C d_L_looks_329 (by decide) ?_
                          refine r_icmp_le (pc := 331) (tgt := 352) C (by omega) d_L_looks_331 (by decide) (fun c_331 => ?_) (fun c_331 => ?_)
                          · skip
                            exact J352   _ _ _ w (lv_sub hl [5] rfl)
                          · skip
                            refine r_aload_n (pc := 334) C d_L_looks_334 rfl (lv_at hl 5 rfl) ?_
                            refine r_iload (pc := 335) C d_L_looks_335 (lv_at hl 2 rfl) ?_
                            refine r_iconst (pc := 337) C d_L_looks_337 ?_
                            refine r_iadd (pc := 338) C d_L_looks_338 ?_
                            have hvz1 : z_169 + 1 < N → 0 ≤ v (z_169 + 1) ∧ v (z_169 + 1) ≤ 10 := fun q => hO.v_rg _ (by omega) q
                            refine l_callQ (pc := 339) (As := [.int (iI (z_169 + 1))]) (rest := []) (P := fun z => ((z_169 + 1) < N → z = v (z_169 + 1)) ∧ (¬ (z_169 + 1) < N → z = -1)) (fun _ _ h => ⟨h.1, fun q => (q_sign (by omega) h).2, fun q => (q_sign_X (by omega) h).2⟩) C w (fun ws hA => c_D_sign hT o _ ws hA (z_169 + 1) (by omega)) ml_L_58 im_D_sign se_D_sign cd_D_sign hd_D_sign rfl (by rw [hRm]; exact ⟨⟨Nat.le_of_ble_eq_true rfl, Nat.le_of_ble_eq_true rfl⟩, Nat.le_of_ble_eq_true rfl, Nat.le_of_ble_eq_true rfl⟩) hl.1 rfl (Nat.le_of_ble_eq_true rfl) d_L_looks_339 (fun z_339 H locs hz_339 w => ?_)
                            refine r_iload (pc := 342) C d_L_looks_342 (lv_at hl 4 rfl) ?_
                            refine r_bipush (pc := 344) C d_L_looks_344 (by decide) ?_
                            refine r_irem (pc := 346) C d_L_looks_346 (by omega) ?_
                            refine r_icmp_eq (pc := 347) (tgt := 352) C (by omega) d_L_looks_347 (by decide) (fun c_347 => ?_) (fun c_347 => ?_)
                            · skip
                              exact J352   _ _ _ w (lv_sub hl [5] rfl)
                            · skip
                              exact absurd (by rcases hhit with ⟨u1, u2⟩ | ⟨u1, u2, u3, u4⟩ <;> first | (exfalso; omega) | (rw [hz_339.1 u2]; exact u4)) c_347
                      · skip
                        refine r_iload (pc := 314) C d_L_looks_314 (lv_at hl 4 rfl) ?_
                        refine r_goto (pc := 316) (tgt := 324) C d_L_looks_316 (by decide) ?_
                        refine r_icmp_ne (pc := 324) (tgt := 350) C (by omega) d_L_looks_324 (by decide) (fun c_324 => ?_) (fun c_324 => ?_)
                        · skip
                          exact absurd (by rcases hhit with ⟨u1, u2⟩ | ⟨u1, u2, u3, u4⟩ <;> omega) c_324
                        · skip
                          refine r_iload (pc := 327) C d_L_looks_327 (lv_at hl 4 rfl) ?_
                          refine r_bipush (pc := 329) C d_L_looks_329 (by decide) ?_
                          refine r_icmp_le (pc := 331) (tgt := 352) C (by omega) d_L_looks_331 (by decide) (fun c_331 => ?_) (fun c_331 => ?_)
                          · skip
                            exact J352   _ _ _ w (lv_sub hl [5] rfl)
                          · skip
                            refine r_aload_n (pc := 334) C d_L_looks_334 rfl (lv_at hl 5 rfl) ?_
                            refine r_iload (pc := 335) C d_L_looks_335 (lv_at hl 2 rfl) ?_
                            refine r_iconst (pc := 337) C d_L_looks_337 ?_
                            refine r_iadd (pc := 338) C d_L_looks_338 ?_
                            have hvz1 : z_169 + 1 < N → 0 ≤ v (z_169 + 1) ∧ v (z_169 + 1) ≤ 10 := fun q => hO.v_rg _ (by omega) q
                            refine l_callQ (pc := 339) (As := [.int (iI (z_169 + 1))]) (rest := []) (P := fun z => ((z_169 + 1) < N → z = v (z_169 + 1)) ∧ (¬ (z_169 + 1) < N → z = -1)) (fun _ _ h => ⟨h.1, fun q => (q_sign (by omega) h).2, fun q => (q_sign_X (by omega) h).2⟩) C w (fun ws hA => c_D_sign hT o _ ws hA (z_169 + 1) (by omega)) ml_L_58 im_D_sign se_D_sign cd_D_sign hd_D_sign rfl (by rw [hRm]; exact ⟨⟨Nat.le_of_ble_eq_true rfl, Nat.le_of_ble_eq_true rfl⟩, Nat.le_of_ble_eq_true rfl, Nat.le_of_ble_eq_true rfl⟩) hl.1 rfl (Nat.le_of_ble_eq_true rfl) d_L_looks_339 (fun z_339 H locs hz_339 w => ?_)
                            refine r_iload (pc := 342) C d_L_looks_342 (lv_at hl 4 rfl) ?_
                            refine r_bipush (pc := 344) C d_L_looks_344 (by decide) ?_
                            refine r_irem (pc := 346) C d_L_looks_346 (by omega) ?_
                            refine r_icmp_eq (pc := 347) (tgt := 352) C (by omega) d_L_looks_347 (by decide) (fun c_347 => ?_) (fun c_347 => ?_)
                            · skip
                              exact J352   _ _ _ w (lv_sub hl [5] rfl)
                            · skip
                              exact absurd (by rcases hhit with ⟨u1, u2⟩ | ⟨u1, u2, u3, u4⟩ <;> first | (exfalso; omega) | (rw [hz_339.1 u2]; exact u4)) c_347
                · skip
                  refine r_iload (pc := 202) C d_L_looks_202 (lv_at hl 0 rfl) ?_
                  refine r_iload (pc := 204) C d_L_looks_204 (lv_at hl 3 rfl) ?_
                  refine r_sipush (pc := 206) C d_L_looks_206 (by decide) ?_
                  refine r_iadd (pc := 209) C d_L_looks_209 ?_
                  refine r_icmp_ge (pc := 210) (tgt := 289) C (by omega) d_L_looks_210 (by decide) (fun c_210 => ?_) (fun c_210 => ?_)
                  · skip
                    refine r_iload (pc := 289) C d_L_looks_289 (lv_at hl 2 rfl) ?_
                    refine r_if_lt (pc := 291) (tgt := 352) C (by omega) d_L_looks_291 (by decide) (fun c_291 => ?_) (fun c_291 => ?_)
                    · skip
                      exact J352   _ _ _ w (lv_sub hl [5] rfl)
                    · skip
                      refine r_iload (pc := 294) C d_L_looks_294 (lv_at hl 2 rfl) ?_
                      refine r_iload (pc := 296) C d_L_looks_296 (lv_at hl 3 rfl) ?_
                      refine r_icmp_lt (pc := 298) (tgt := 350) C (by omega) d_L_looks_298 (by decide) (fun c_298 => ?_) (fun c_298 => ?_)
                      · skip
                        exact absurd c_298 (by omega)
                      · skip
                        have hhit : Hit v N (1 + z_147) z_169 ∧ z_169 < N := by
                          rcases hfnd with ⟨f1, f2⟩ | ⟨f1, f2, f3, f4⟩
                          · exact absurd c_298 (by omega)
                          · exact ⟨f3, f2⟩
                        obtain ⟨hhit, hhn⟩ := hhit
                        refine r_aload_n (pc := 301) C d_L_looks_301 rfl (lv_at hl 5 rfl) ?_
                        refine r_iload (pc := 302) C d_L_looks_302 (lv_at hl 2 rfl) ?_
                        have hvz := hO.v_rg z_169 (by omega) (by omega)
                        refine l_callE (pc := 304) (As := [.int (iI z_169)]) (rest := []) (x := (v z_169)) (fun _ _ h => q_sign (by omega) h) C w (fun ws hA => c_D_sign hT o _ ws hA z_169 (by omega)) ml_L_58 im_D_sign se_D_sign cd_D_sign hd_D_sign rfl (by rw [hRm]; exact ⟨⟨Nat.le_of_ble_eq_true rfl, Nat.le_of_ble_eq_true rfl⟩, Nat.le_of_ble_eq_true rfl, Nat.le_of_ble_eq_true rfl⟩) hl.1 rfl (Nat.le_of_ble_eq_true rfl) d_L_looks_304 (fun H locs w => ?_)
                        refine r_iload (pc := 307) C d_L_looks_307 (lv_at hl 4 rfl) ?_
                        refine r_bipush (pc := 309) C d_L_looks_309 (by decide) ?_
                        refine r_icmp_ge (pc := 311) (tgt := 319) C (by omega) d_L_looks_311 (by decide) (fun c_311 => ?_) (fun c_311 => ?_)
                        · skip
                          refine r_iload (pc := 319) C d_L_looks_319 (lv_at hl 4 rfl) ?_
                          refine r_bipush (pc := 321) C d_L_looks_321 (by decide) ?_
                          refine r_idiv (pc := 323) C d_L_looks_323 (by omega) ?_
                          refine r_icmp_ne (pc := 324) (tgt := 350) C (by omega) d_L_looks_324 (by decide) (fun c_324 => ?_) (fun c_324 => ?_)
                          · skip
                            exact absurd (by rcases hhit with ⟨u1, u2⟩ | ⟨u1, u2, u3, u4⟩ <;> omega) c_324
                          · skip
                            refine r_iload (pc := 327) C d_L_looks_327 (lv_at hl 4 rfl) ?_
                            refine r_bipush (pc := 329) C d_L_looks_329 (by decide) ?_
                            refine r_icmp_le (pc := 331) (tgt := 352) C (by omega) d_L_looks_331 (by decide) (fun c_331 => ?_) (fun c_331 => ?_)
                            · skip
                              exact J352   _ _ _ w (lv_sub hl [5] rfl)
                            · skip
                              refine r_aload_n (pc := 334) C d_L_looks_334 rfl (lv_at hl 5 rfl) ?_
                              refine r_iload (pc := 335) C d_L_looks_335 (lv_at hl 2 rfl) ?_
                              refine r_iconst (pc := 337) C d_L_looks_337 ?_
                              refine r_iadd (pc := 338) C d_L_looks_338 ?_
                              have hvz1 : z_169 + 1 < N → 0 ≤ v (z_169 + 1) ∧ v (z_169 + 1) ≤ 10 := fun q => hO.v_rg _ (by omega) q
                              refine l_callQ (pc := 339) (As := [.int (iI (z_169 + 1))]) (rest := []) (P := fun z => ((z_169 + 1) < N → z = v (z_169 + 1)) ∧ (¬ (z_169 + 1) < N → z = -1)) (fun _ _ h => ⟨h.1, fun q => (q_sign (by omega) h).2, fun q => (q_sign_X (by omega) h).2⟩) C w (fun ws hA => c_D_sign hT o _ ws hA (z_169 + 1) (by omega)) ml_L_58 im_D_sign se_D_sign cd_D_sign hd_D_sign rfl (by rw [hRm]; exact ⟨⟨Nat.le_of_ble_eq_true rfl, Nat.le_of_ble_eq_true rfl⟩, Nat.le_of_ble_eq_true rfl, Nat.le_of_ble_eq_true rfl⟩) hl.1 rfl (Nat.le_of_ble_eq_true rfl) d_L_looks_339 (fun z_339 H locs hz_339 w => ?_)
                              refine r_iload (pc := 342) C d_L_looks_342 (lv_at hl 4 rfl) ?_
                              refine r_bipush (pc := 344) C d_L_looks_344 (by decide) ?_
                              refine r_irem (pc := 346) C d_L_looks_346 (by omega) ?_
                              refine r_icmp_eq (pc := 347) (tgt := 352) C (by omega) d_L_looks_347 (by decide) (fun c_347 => ?_) (fun c_347 => ?_)
                              · skip
                                exact J352   _ _ _ w (lv_sub hl [5] rfl)
                              · skip
                                exact absurd (by rcases hhit with ⟨u1, u2⟩ | ⟨u1, u2, u3, u4⟩ <;> first | (exfalso; omega) | (rw [hz_339.1 u2]; exact u4)) c_347
                        · skip
                          refine r_iload (pc := 314) C d_L_looks_314 (lv_at hl 4 rfl) ?_
                          refine r_goto (pc := 316) (tgt := 324) C d_L_looks_316 (by decide) ?_
                          refine r_icmp_ne (pc := 324) (tgt := 350) C (by omega) d_L_looks_324 (by decide) (fun c_324 => ?_) (fun c_324 => ?_)
                          · skip
                            exact absurd (by rcases hhit with ⟨u1, u2⟩ | ⟨u1, u2, u3, u4⟩ <;> omega) c_324
                          · skip
                            refine r_iload (pc := 327) C d_L_looks_327 (lv_at hl 4 rfl) ?_
                            refine r_bipush (pc := 329) C d_L_looks_329 (by decide) ?_
                            refine r_icmp_le (pc := 331) (tgt := 352) C (by omega) d_L_looks_331 (by decide) (fun c_331 => ?_) (fun c_331 => ?_)
                            · skip
                              exact J352   _ _ _ w (lv_sub hl [5] rfl)
                            · skip
                              refine r_aload_n (pc := 334) C d_L_looks_334 rfl (lv_at hl 5 rfl) ?_
                              refine r_iload (pc := 335) C d_L_looks_335 (lv_at hl 2 rfl) ?_
                              refine r_iconst (pc := 337) C d_L_looks_337 ?_
                              refine r_iadd (pc := 338) C d_L_looks_338 ?_
                              have hvz1 : z_169 + 1 < N → 0 ≤ v (z_169 + 1) ∧ v (z_169 + 1) ≤ 10 := fun q => hO.v_rg _ (by omega) q
                              refine l_callQ (pc := 339) (As := [.int (iI (z_169 + 1))]) (rest := []) (P := fun z => ((z_169 + 1) < N → z = v (z_169 + 1)) ∧ (¬ (z_169 + 1) < N → z = -1)) (fun _ _ h => ⟨h.1, fun q => (q_sign (by omega) h).2, fun q => (q_sign_X (by omega) h).2⟩) C w (fun ws hA => c_D_sign hT o _ ws hA (z_169 + 1) (by omega)) ml_L_58 im_D_sign se_D_sign cd_D_sign hd_D_sign rfl (by rw [hRm]; exact ⟨⟨Nat.le_of_ble_eq_true rfl, Nat.le_of_ble_eq_true rfl⟩, Nat.le_of_ble_eq_true rfl, Nat.le_of_ble_eq_true rfl⟩) hl.1 rfl (Nat.le_of_ble_eq_true rfl) d_L_looks_339 (fun z_339 H locs hz_339 w => ?_)
                              refine r_iload (pc := 342) C d_L_looks_342 (lv_at hl 4 rfl) ?_
                              refine r_bipush (pc := 344) C d_L_looks_344 (by decide) ?_
                              refine r_irem (pc := 346) C d_L_looks_346 (by omega) ?_
                              refine r_icmp_eq (pc := 347) (tgt := 352) C (by omega) d_L_looks_347 (by decide) (fun c_347 => ?_) (fun c_347 => ?_)
                              · skip
                                exact J352   _ _ _ w (lv_sub hl [5] rfl)
                              · skip
                                exact absurd (by rcases hhit with ⟨u1, u2⟩ | ⟨u1, u2, u3, u4⟩ <;> first | (exfalso; omega) | (rw [hz_339.1 u2]; exact u4)) c_347
                  · skip
                    refine r_iload (pc := 213) C d_L_looks_213 (lv_at hl 4 rfl) ?_
                    refine r_bipush (pc := 215) C d_L_looks_215 (by decide) ?_
                    refine r_icmp_ge (pc := 217) (tgt := 239) C (by omega) d_L_looks_217 (by decide) (fun c_217 => ?_) (fun c_217 => ?_)
                    · skip
                      refine r_aload_n (pc := 239) C d_L_looks_239 rfl (lv_at hl 5 rfl) ?_
                      refine r_iload (pc := 240) C d_L_looks_240 (lv_at hl 0 rfl) ?_
                      have hvk := hO.v_rg kk (by omega) (by omega)
                      refine l_callE (pc := 242) (As := [.int (iI kk)]) (rest := []) (x := (v kk)) (fun _ _ h => q_sign (by omega) h) C w (fun ws hA => c_D_sign hT o _ ws hA kk (by omega)) ml_L_58 im_D_sign se_D_sign cd_D_sign hd_D_sign rfl (by rw [hRm]; exact ⟨⟨Nat.le_of_ble_eq_true rfl, Nat.le_of_ble_eq_true rfl⟩, Nat.le_of_ble_eq_true rfl, Nat.le_of_ble_eq_true rfl⟩) hl.1 rfl (Nat.le_of_ble_eq_true rfl) d_L_looks_242 (fun H locs w => ?_)
                      refine r_iload (pc := 245) C d_L_looks_245 (lv_at hl 4 rfl) ?_
                      refine r_bipush (pc := 247) C d_L_looks_247 (by decide) ?_
                      refine r_idiv (pc := 249) C d_L_looks_249 (by omega) ?_
                      refine r_icmp_ne (pc := 250) (tgt := 273) C (by omega) d_L_looks_250 (by decide) (fun c_250 => ?_) (fun c_250 => ?_)
                      · skip
                        refine r_iconst (pc := 273) C d_L_looks_273 ?_
                        refine r_istore (pc := 274) (lv' := [(12, .int (iI 0)), (11, .int (iI kk)), (10, .int (iI en)), (9, .int (iI z_169)), (8, .int (iI z_159)), (7, .int (iI (1 + z_147))), (0, .ref o)]) C d_L_looks_274 hl (by decide) rfl (fun ls hl => ?_)
                        refine r_iload (pc := 276) C d_L_looks_276 (lv_at hl 0 rfl) ?_
                        refine r_if_eq (pc := 278) (tgt := 283) C (by omega) d_L_looks_278 (by decide) (fun c_278 => ?_) (fun c_278 => absurd c_278 (by omega))
                        refine r_iinc (pc := 283) (j := 1) (lv' := [(11, .int (iI (kk + 1))), (12, .int (iI 0)), (10, .int (iI en)), (9, .int (iI z_169)), (8, .int (iI z_159)), (7, .int (iI (1 + z_147))), (0, .ref o)]) C d_L_looks_283 hl rfl (by decide) rfl (fun ls hl => ?_)
                        refine r_goto (pc := 286) (tgt := 195) C d_L_looks_286 (by decide) ?_
                        exact ih195 (kk + 1) (by omega) (by omega) _ _ _ w (lv_sub hl [0, 2, 3, 4, 5, 6] rfl)
                      · skip
                        refine r_aload_n (pc := 253) C d_L_looks_253 rfl (lv_at hl 5 rfl) ?_
                        refine r_iload (pc := 254) C d_L_looks_254 (lv_at hl 0 rfl) ?_
                        refine r_iconst (pc := 256) C d_L_looks_256 ?_
                        refine r_iadd (pc := 257) C d_L_looks_257 ?_
                        have hvk1 : kk + 1 < N → 0 ≤ v (kk + 1) ∧ v (kk + 1) ≤ 10 := fun q => hO.v_rg _ (by omega) q
                        refine l_callQ (pc := 258) (As := [.int (iI (kk + 1))]) (rest := []) (P := fun z => ((kk + 1) < N → z = v (kk + 1)) ∧ (¬ (kk + 1) < N → z = -1)) (fun _ _ h => ⟨h.1, fun q => (q_sign (by omega) h).2, fun q => (q_sign_X (by omega) h).2⟩) C w (fun ws hA => c_D_sign hT o _ ws hA (kk + 1) (by omega)) ml_L_58 im_D_sign se_D_sign cd_D_sign hd_D_sign rfl (by rw [hRm]; exact ⟨⟨Nat.le_of_ble_eq_true rfl, Nat.le_of_ble_eq_true rfl⟩, Nat.le_of_ble_eq_true rfl, Nat.le_of_ble_eq_true rfl⟩) hl.1 rfl (Nat.le_of_ble_eq_true rfl) d_L_looks_258 (fun z_258 H locs hz_258 w => ?_)
                        refine r_iload (pc := 261) C d_L_looks_261 (lv_at hl 4 rfl) ?_
                        refine r_bipush (pc := 263) C d_L_looks_263 (by decide) ?_
                        refine r_irem (pc := 265) C d_L_looks_265 (by omega) ?_
                        refine r_icmp_ne (pc := 266) (tgt := 273) C (by omega) d_L_looks_266 (by decide) (fun c_266 => ?_) (fun c_266 => ?_)
                        · skip
                          refine r_iconst (pc := 273) C d_L_looks_273 ?_
                          refine r_istore (pc := 274) (lv' := [(12, .int (iI 0)), (11, .int (iI kk)), (10, .int (iI en)), (9, .int (iI z_169)), (8, .int (iI z_159)), (7, .int (iI (1 + z_147))), (0, .ref o)]) C d_L_looks_274 hl (by decide) rfl (fun ls hl => ?_)
                          refine r_iload (pc := 276) C d_L_looks_276 (lv_at hl 0 rfl) ?_
                          refine r_if_eq (pc := 278) (tgt := 283) C (by omega) d_L_looks_278 (by decide) (fun c_278 => ?_) (fun c_278 => absurd c_278 (by omega))
                          refine r_iinc (pc := 283) (j := 1) (lv' := [(11, .int (iI (kk + 1))), (12, .int (iI 0)), (10, .int (iI en)), (9, .int (iI z_169)), (8, .int (iI z_159)), (7, .int (iI (1 + z_147))), (0, .ref o)]) C d_L_looks_283 hl rfl (by decide) rfl (fun ls hl => ?_)
                          refine r_goto (pc := 286) (tgt := 195) C d_L_looks_286 (by decide) ?_
                          exact ih195 (kk + 1) (by omega) (by omega) _ _ _ w (lv_sub hl [0, 2, 3, 4, 5, 6] rfl)
                        · skip
                          exact absurd (Or.inr ⟨by omega, by omega, c_250 , by rw [← hz_258.1 (by omega)]; exact c_266⟩) (hno kk (by omega) (by omega))
                    · skip
                      refine r_aload_n (pc := 220) C d_L_looks_220 rfl (lv_at hl 5 rfl) ?_
                      refine r_iload (pc := 221) C d_L_looks_221 (lv_at hl 0 rfl) ?_
                      have hvk := hO.v_rg kk (by omega) (by omega)
                      refine l_callE (pc := 223) (As := [.int (iI kk)]) (rest := []) (x := (v kk)) (fun _ _ h => q_sign (by omega) h) C w (fun ws hA => c_D_sign hT o _ ws hA kk (by omega)) ml_L_58 im_D_sign se_D_sign cd_D_sign hd_D_sign rfl (by rw [hRm]; exact ⟨⟨Nat.le_of_ble_eq_true rfl, Nat.le_of_ble_eq_true rfl⟩, Nat.le_of_ble_eq_true rfl, Nat.le_of_ble_eq_true rfl⟩) hl.1 rfl (Nat.le_of_ble_eq_true rfl) d_L_looks_223 (fun H locs w => ?_)
                      refine r_iload (pc := 226) C d_L_looks_226 (lv_at hl 4 rfl) ?_
                      refine r_icmp_ne (pc := 228) (tgt := 235) C (by omega) d_L_looks_228 (by decide) (fun c_228 => ?_) (fun c_228 => ?_)
                      · skip
                        refine r_iconst (pc := 235) C d_L_looks_235 ?_
                        refine r_goto (pc := 236) (tgt := 274) C d_L_looks_236 (by decide) ?_
                        refine r_istore (pc := 274) (lv' := [(12, .int (iI 0)), (11, .int (iI kk)), (10, .int (iI en)), (9, .int (iI z_169)), (8, .int (iI z_159)), (7, .int (iI (1 + z_147))), (0, .ref o)]) C d_L_looks_274 hl (by decide) rfl (fun ls hl => ?_)
                        refine r_iload (pc := 276) C d_L_looks_276 (lv_at hl 0 rfl) ?_
                        refine r_if_eq (pc := 278) (tgt := 283) C (by omega) d_L_looks_278 (by decide) (fun c_278 => ?_) (fun c_278 => absurd c_278 (by omega))
                        refine r_iinc (pc := 283) (j := 1) (lv' := [(11, .int (iI (kk + 1))), (12, .int (iI 0)), (10, .int (iI en)), (9, .int (iI z_169)), (8, .int (iI z_159)), (7, .int (iI (1 + z_147))), (0, .ref o)]) C d_L_looks_283 hl rfl (by decide) rfl (fun ls hl => ?_)
                        refine r_goto (pc := 286) (tgt := 195) C d_L_looks_286 (by decide) ?_
                        exact ih195 (kk + 1) (by omega) (by omega) _ _ _ w (lv_sub hl [0, 2, 3, 4, 5, 6] rfl)
                      · skip
                        exact absurd (Or.inl ⟨by omega, c_228⟩) (hno kk (by omega) (by omega))
            exact L195 ((z_159 + 300 - z_159) + 1 : Int).toNat z_159 (by first | omega | rfl) (by omega) _ _ _ w (lv_sub hl [0, 1, 2, 3, 4, 5] rfl)
          refine r_iload (pc := 174) C d_L_looks_174 (lv_at hl 0 rfl) ?_
          refine r_if_ge (pc := 176) (tgt := 187) C (by omega) d_L_looks_176 (by decide) (fun c_176 => ?_) (fun c_176 => ?_)
          · skip
            refine r_iload (pc := 187) C d_L_looks_187 (lv_at hl 0 rfl) ?_
            exact J189 z_169 (by omega) (fun x x1 x2 => by rcases hfnd with ⟨f1, f2⟩ | ⟨f1, f2, f3, f4⟩ <;> first | exact f2 x x1 x2 | exact f4 x x1 x2 | (exfalso; omega)) _ _ _ w (lv_sub hl [0, 1, 2, 4] rfl)
          · skip
            refine r_aload_n (pc := 179) C d_L_looks_179 rfl (lv_at hl 4 rfl) ?_
            refine r_iconst (pc := 180) C d_L_looks_180 ?_
            refine l_callE (pc := 181) (As := [.int (iI 0)]) (rest := []) (x := N) (fun _ _ h => q_count_0 h) C w (fun ws hA => c_D_count hT o _ ws hA 0 (by omega)) ml_L_11 im_D_count se_D_count cd_D_count hd_D_count rfl (by rw [hRm]; exact ⟨⟨Nat.le_of_ble_eq_true rfl, Nat.le_of_ble_eq_true rfl⟩, Nat.le_of_ble_eq_true rfl, Nat.le_of_ble_eq_true rfl⟩) hl.1 rfl (Nat.le_of_ble_eq_true rfl) d_L_looks_181 (fun H locs w => ?_)
            refine r_goto (pc := 184) (tgt := 189) C d_L_looks_184 (by decide) ?_
            exact J189 N (by omega) (fun x x1 x2 => by rcases hfnd with ⟨f1, f2⟩ | ⟨f1, f2, f3, f4⟩ <;> first | exact f2 x x1 x2 | exact f4 x x1 x2 | (exfalso; omega)) _ _ _ w (lv_sub hl [0, 1, 2, 4] rfl)
        refine r_iconst (pc := 113) C d_L_looks_113 ?_
        refine l_callE (pc := 114) (As := [.int (iI 0)]) (rest := []) (x := fi) (fun _ _ h => ⟨(q_live_0 h).1, by rw [(q_live_0 h).2]; exact hL0⟩) C w (fun ws hA => c_D_longestLive hT o _ ws hA 0 (by omega)) ml_L_70 im_D_longestLive se_D_longestLive cd_D_longestLive hd_D_longestLive rfl (by rw [hRm]; exact ⟨⟨Nat.le_of_ble_eq_true rfl, Nat.le_of_ble_eq_true rfl⟩, Nat.le_of_ble_eq_true rfl, Nat.le_of_ble_eq_true rfl⟩) hl.1 rfl (Nat.le_of_ble_eq_true rfl) d_L_looks_114 (fun H locs w => ?_)
        refine r_iload_n (pc := 117) C d_L_looks_117 rfl (lv_at hl 4 rfl) ?_
        refine r_icmp_ne (pc := 118) (tgt := 141) C (by omega) d_L_looks_118 (by decide) (fun c_118 => ?_) (fun c_118 => ?_)
        · skip
          exact absurd rfl c_118
        · skip
          refine r_aload_n (pc := 121) C d_L_looks_121 rfl (lv_at hl 7 rfl) ?_
          refine r_iconst (pc := 122) C d_L_looks_122 ?_
          refine l_callE (pc := 123) (As := [.int (iI 1)]) (rest := []) (x := m1) (fun _ _ h => ⟨(q_live_1 h).1, by rw [(q_live_1 h).2]; exact hL1⟩) C w (fun ws hA => c_D_longestLive hT o _ ws hA 1 (by omega)) ml_L_70 im_D_longestLive se_D_longestLive cd_D_longestLive hd_D_longestLive rfl (by rw [hRm]; exact ⟨⟨Nat.le_of_ble_eq_true rfl, Nat.le_of_ble_eq_true rfl⟩, Nat.le_of_ble_eq_true rfl, Nat.le_of_ble_eq_true rfl⟩) hl.1 rfl (Nat.le_of_ble_eq_true rfl) d_L_looks_123 (fun H locs w => ?_)
          refine r_iload (pc := 126) C d_L_looks_126 (lv_at hl 3 rfl) ?_
          refine r_if_ne (pc := 128) (tgt := 136) C (by omega) d_L_looks_128 (by decide) (fun c_128 => ?_) (fun c_128 => ?_)
          · skip
            refine r_iload (pc := 136) C d_L_looks_136 (lv_at hl 3 rfl) ?_
            refine r_icmp_eq (pc := 138) (tgt := 143) C (by omega) d_L_looks_138 (by decide) (fun c_138 => ?_) (fun c_138 => ?_)
            · skip
              exact J143   _ _ _ w (lv_sub hl [6, 7] rfl)
            · skip
              exact absurd (by omega) c_138
          · skip
            refine r_bipush (pc := 131) C d_L_looks_131 (by decide) ?_
            refine r_goto (pc := 133) (tgt := 138) C d_L_looks_133 (by decide) ?_
            refine r_icmp_eq (pc := 138) (tgt := 143) C (by omega) d_L_looks_138 (by decide) (fun c_138 => ?_) (fun c_138 => ?_)
            · skip
              exact J143   _ _ _ w (lv_sub hl [6, 7] rfl)
            · skip
              exact absurd (by omega) c_138
      · skip
        have g := hO.run (k := k) (by omega) (by omega)
        have hlr := ll_rg v (ps ln k) (by omega)
        rw [hll] at hlr
        have hlr : 0 ≤ li ∧ li ≤ mo ∧ mo ≤ ps ln k ∧ (mo = 0 → fi = -6) ∧ (mo ≠ 0 → 0 ≤ fi) ∧ li ≤ ps ln k := hlr
        refine r_aload_n (pc := 27) C d_L_looks_27 rfl (lv_at hl 7 rfl) ?_
        refine r_iload (pc := 28) C d_L_looks_28 (lv_at hl 0 rfl) ?_
        refine r_iconst (pc := 30) C d_L_looks_30 ?_
        refine l_callE (pc := 31) (As := [.int (iI k), .int (iI 0)]) (rest := []) (x := (sg k)) (fun _ _ h => q_ofRun_0 (by omega) h) C w (fun ws hA => c_D_ofRun hT o _ ws hA k 0 ⟨by omega, by omega⟩) ml_L_17 im_D_ofRun se_D_ofRun cd_D_ofRun hd_D_ofRun rfl (by rw [hRm]; exact ⟨⟨Nat.le_of_ble_eq_true rfl, Nat.le_of_ble_eq_true rfl⟩, Nat.le_of_ble_eq_true rfl, Nat.le_of_ble_eq_true rfl⟩) hl.1 rfl (Nat.le_of_ble_eq_true rfl) d_L_looks_31 (fun H locs w => ?_)
        refine r_bipush (pc := 34) C d_L_looks_34 (by decide) ?_
        refine r_icmp_ne (pc := 36) (tgt := 45) C (by omega) d_L_looks_36 (by decide) (fun c_36 => ?_) (fun c_36 => ?_)
        · skip
          have J62 : ∀ (f2 : Int), f2 = ps ln k - li → ∀ (H : Heap) (locs : List Loc) (ls : Array Slot), LW X cI cO cZ o ((lc, sd, r, sg, ln, N, v), hist, rcd, slot, uf, T, m) H locs → lv_has ls 14 [(7, .int (iI k)), (6, .int (iI li)), (4, .int (iI mo)), (3, .int (iI fi)), (2, .int (iI r)), (1, .int (iI q)), (0, .ref o)] → GG X 0 0 H locs 62 ls [.int (iI f2)] := by
            intro f2 hf2 H locs ls w hl
            refine r_istore (pc := 62) (lv' := [(5, .int (iI f2)), (7, .int (iI k)), (6, .int (iI li)), (4, .int (iI mo)), (3, .int (iI fi)), (2, .int (iI r)), (1, .int (iI q)), (0, .ref o)]) C d_L_looks_62 hl (by decide) rfl (fun ls hl => ?_)
            refine r_iload (pc := 64) C d_L_looks_64 (lv_at hl 2 rfl) ?_
            refine r_aload_n (pc := 66) C d_L_looks_66 rfl (lv_at hl 7 rfl) ?_
            refine r_iload (pc := 67) C d_L_looks_67 (lv_at hl 1 rfl) ?_
            refine r_iconst (pc := 69) C d_L_looks_69 ?_
            refine l_callE (pc := 70) (As := [.int (iI k), .int (iI 2)]) (rest := [.int (iI li)]) (x := (ln k)) (fun _ _ h => q_ofRun_2 (by omega) h) C w (fun ws hA => c_D_ofRun hT o _ ws hA k 2 ⟨by omega, by omega⟩) ml_L_17 im_D_ofRun se_D_ofRun cd_D_ofRun hd_D_ofRun rfl (by rw [hRm]; exact ⟨⟨Nat.le_of_ble_eq_true rfl, Nat.le_of_ble_eq_true rfl⟩, Nat.le_of_ble_eq_true rfl, Nat.le_of_ble_eq_true rfl⟩) hl.1 rfl (Nat.le_of_ble_eq_true rfl) d_L_looks_70 (fun H locs w => ?_)
            refine r_iadd (pc := 73) C d_L_looks_73 ?_
            refine r_istore (pc := 74) (lv' := [(6, .int (iI (li + (ln k)))), (5, .int (iI f2)), (7, .int (iI k)), (4, .int (iI mo)), (3, .int (iI fi)), (2, .int (iI r)), (1, .int (iI q)), (0, .ref o)]) C d_L_looks_74 hl (by decide) rfl (fun ls hl => ?_)
            refine r_iload (pc := 76) C d_L_looks_76 (lv_at hl 0 rfl) ?_
            refine r_iload (pc := 78) C d_L_looks_78 (lv_at hl 3 rfl) ?_
            refine r_icmp_le (pc := 80) (tgt := 88) C (by omega) d_L_looks_80 (by decide) (fun c_80 => ?_) (fun c_80 => ?_)
            · skip
              refine r_iload_n (pc := 88) C d_L_looks_88 rfl (lv_at hl 4 rfl) ?_
              refine r_istore_n (pc := 89) (lv' := [(3, .int (iI fi)), (6, .int (iI (li + (ln k)))), (5, .int (iI f2)), (7, .int (iI k)), (4, .int (iI mo)), (2, .int (iI r)), (1, .int (iI q)), (0, .ref o)]) C d_L_looks_89 rfl hl (by decide) rfl (fun ls hl => ?_)
              refine r_iload (pc := 90) C d_L_looks_90 (lv_at hl 1 rfl) ?_
              refine r_iload (pc := 92) C d_L_looks_92 (lv_at hl 4 rfl) ?_
              refine r_icmp_le (pc := 94) (tgt := 102) C (by omega) d_L_looks_94 (by decide) (fun c_94 => ?_) (fun c_94 => ?_)
              · skip
                refine r_iload (pc := 102) C d_L_looks_102 (lv_at hl 4 rfl) ?_
                refine r_istore (pc := 104) (lv' := [(4, .int (iI mo)), (3, .int (iI fi)), (6, .int (iI (li + (ln k)))), (5, .int (iI f2)), (7, .int (iI k)), (2, .int (iI r)), (1, .int (iI q)), (0, .ref o)]) C d_L_looks_104 hl (by decide) rfl (fun ls hl => ?_)
                refine r_iinc (pc := 106) (j := 4) (lv' := [(7, .int (iI (k + 1))), (4, .int (iI mo)), (3, .int (iI fi)), (6, .int (iI (li + (ln k)))), (5, .int (iI f2)), (2, .int (iI r)), (1, .int (iI q)), (0, .ref o)]) C d_L_looks_106 hl rfl (by decide) rfl (fun ls hl => ?_)
                refine r_goto (pc := 109) (tgt := 21) C d_L_looks_109 (by decide) ?_
                exact ih21 (k + 1) (li + (ln k)) f2 mo fi (by omega) (by first | exact ll_run_dead hO (by omega) (by omega) (by omega) hll | (rw [ll_run_live hO (by omega) (by omega) (by omega) hll]; show (if mo < li + ln k then (li + ln k, li + ln k, ps ln k - li) else (li + ln k, mo, fi)) = _; (try rw [hf2]); first | (exfalso; omega) | rw [if_pos (by omega)] | rw [if_neg (by omega)])) (by omega) (by omega) _ _ _ w (lv_sub hl [0, 3, 4, 1, 2, 5, 6, 7] rfl)
              · skip
                refine r_iload (pc := 97) C d_L_looks_97 (lv_at hl 1 rfl) ?_
                refine r_goto (pc := 99) (tgt := 104) C d_L_looks_99 (by decide) ?_
                refine r_istore (pc := 104) (lv' := [(4, .int (iI (li + (ln k)))), (3, .int (iI fi)), (6, .int (iI (li + (ln k)))), (5, .int (iI f2)), (7, .int (iI k)), (2, .int (iI r)), (1, .int (iI q)), (0, .ref o)]) C d_L_looks_104 hl (by decide) rfl (fun ls hl => ?_)
                refine r_iinc (pc := 106) (j := 4) (lv' := [(7, .int (iI (k + 1))), (4, .int (iI (li + (ln k)))), (3, .int (iI fi)), (6, .int (iI (li + (ln k)))), (5, .int (iI f2)), (2, .int (iI r)), (1, .int (iI q)), (0, .ref o)]) C d_L_looks_106 hl rfl (by decide) rfl (fun ls hl => ?_)
                refine r_goto (pc := 109) (tgt := 21) C d_L_looks_109 (by decide) ?_
                exact ih21 (k + 1) (li + (ln k)) f2 (li + (ln k)) fi (by omega) (by first | exact ll_run_dead hO (by omega) (by omega) (by omega) hll | (rw [ll_run_live hO (by omega) (by omega) (by omega) hll]; show (if mo < li + ln k then (li + ln k, li + ln k, ps ln k - li) else (li + ln k, mo, fi)) = _; (try rw [hf2]); first | (exfalso; omega) | rw [if_pos (by omega)] | rw [if_neg (by omega)])) (by omega) (by omega) _ _ _ w (lv_sub hl [0, 3, 4, 1, 2, 5, 6, 7] rfl)
            · skip
              refine r_iload (pc := 83) C d_L_looks_83 (lv_at hl 1 rfl) ?_
              refine r_goto (pc := 85) (tgt := 89) C d_L_looks_85 (by decide) ?_
              refine r_istore_n (pc := 89) (lv' := [(3, .int (iI f2)), (6, .int (iI (li + (ln k)))), (5, .int (iI f2)), (7, .int (iI k)), (4, .int (iI mo)), (2, .int (iI r)), (1, .int (iI q)), (0, .ref o)]) C d_L_looks_89 rfl hl (by decide) rfl (fun ls hl => ?_)
              refine r_iload (pc := 90) C d_L_looks_90 (lv_at hl 1 rfl) ?_
              refine r_iload (pc := 92) C d_L_looks_92 (lv_at hl 4 rfl) ?_
              refine r_icmp_le (pc := 94) (tgt := 102) C (by omega) d_L_looks_94 (by decide) (fun c_94 => ?_) (fun c_94 => ?_)
              · skip
                refine r_iload (pc := 102) C d_L_looks_102 (lv_at hl 4 rfl) ?_
                refine r_istore (pc := 104) (lv' := [(4, .int (iI mo)), (3, .int (iI f2)), (6, .int (iI (li + (ln k)))), (5, .int (iI f2)), (7, .int (iI k)), (2, .int (iI r)), (1, .int (iI q)), (0, .ref o)]) C d_L_looks_104 hl (by decide) rfl (fun ls hl => ?_)
                refine r_iinc (pc := 106) (j := 4) (lv' := [(7, .int (iI (k + 1))), (4, .int (iI mo)), (3, .int (iI f2)), (6, .int (iI (li + (ln k)))), (5, .int (iI f2)), (2, .int (iI r)), (1, .int (iI q)), (0, .ref o)]) C d_L_looks_106 hl rfl (by decide) rfl (fun ls hl => ?_)
                refine r_goto (pc := 109) (tgt := 21) C d_L_looks_109 (by decide) ?_
                exact ih21 (k + 1) (li + (ln k)) f2 mo f2 (by omega) (by first | exact ll_run_dead hO (by omega) (by omega) (by omega) hll | (rw [ll_run_live hO (by omega) (by omega) (by omega) hll]; show (if mo < li + ln k then (li + ln k, li + ln k, ps ln k - li) else (li + ln k, mo, fi)) = _; (try rw [hf2]); first | (exfalso; omega) | rw [if_pos (by omega)] | rw [if_neg (by omega)])) (by omega) (by omega) _ _ _ w (lv_sub hl [0, 3, 4, 1, 2, 5, 6, 7] rfl)
              · skip
                refine r_iload (pc := 97) C d_L_looks_97 (lv_at hl 1 rfl) ?_
                refine r_goto (pc := 99) (tgt := 104) C d_L_looks_99 (by decide) ?_
                refine r_istore (pc := 104) (lv' := [(4, .int (iI (li + (ln k)))), (3, .int (iI f2)), (6, .int (iI (li + (ln k)))), (5, .int (iI f2)), (7, .int (iI k)), (2, .int (iI r)), (1, .int (iI q)), (0, .ref o)]) C d_L_looks_104 hl (by decide) rfl (fun ls hl => ?_)
                refine r_iinc (pc := 106) (j := 4) (lv' := [(7, .int (iI (k + 1))), (4, .int (iI (li + (ln k)))), (3, .int (iI f2)), (6, .int (iI (li + (ln k)))), (5, .int (iI f2)), (2, .int (iI r)), (1, .int (iI q)), (0, .ref o)]) C d_L_looks_106 hl rfl (by decide) rfl (fun ls hl => ?_)
                refine r_goto (pc := 109) (tgt := 21) C d_L_looks_109 (by decide) ?_
                exact ih21 (k + 1) (li + (ln k)) f2 (li + (ln k)) f2 (by omega) (by first | exact ll_run_dead hO (by omega) (by omega) (by omega) hll | (rw [ll_run_live hO (by omega) (by omega) (by omega) hll]; show (if mo < li + ln k then (li + ln k, li + ln k, ps ln k - li) else (li + ln k, mo, fi)) = _; (try rw [hf2]); first | (exfalso; omega) | rw [if_pos (by omega)] | rw [if_neg (by omega)])) (by omega) (by omega) _ _ _ w (lv_sub hl [0, 3, 4, 1, 2, 5, 6, 7] rfl)
          refine r_iload (pc := 45) C d_L_looks_45 (lv_at hl 1 rfl) ?_
          refine r_if_ne (pc := 47) (tgt := 60) C (by omega) d_L_looks_47 (by decide) (fun c_47 => ?_) (fun c_47 => ?_)
          · skip
            refine r_iload (pc := 60) C d_L_looks_60 (lv_at hl 2 rfl) ?_
            exact J62 fr (by omega) _ _ _ w (lv_sub hl [0, 1, 3, 4, 5, 6, 7] rfl)
          · skip
            refine r_aload_n (pc := 50) C d_L_looks_50 rfl (lv_at hl 7 rfl) ?_
            refine r_iload (pc := 51) C d_L_looks_51 (lv_at hl 0 rfl) ?_
            refine r_iconst (pc := 53) C d_L_looks_53 ?_
            refine l_callE (pc := 54) (As := [.int (iI k), .int (iI 1)]) (rest := []) (x := (ps ln k)) (fun _ _ h => q_ofRun_1 (by omega) h) C w (fun ws hA => c_D_ofRun hT o _ ws hA k 1 ⟨by omega, by omega⟩) ml_L_17 im_D_ofRun se_D_ofRun cd_D_ofRun hd_D_ofRun rfl (by rw [hRm]; exact ⟨⟨Nat.le_of_ble_eq_true rfl, Nat.le_of_ble_eq_true rfl⟩, Nat.le_of_ble_eq_true rfl, Nat.le_of_ble_eq_true rfl⟩) hl.1 rfl (Nat.le_of_ble_eq_true rfl) d_L_looks_54 (fun H locs w => ?_)
            refine r_goto (pc := 57) (tgt := 62) C d_L_looks_57 (by decide) ?_
            exact J62 (ps ln k) (by omega) _ _ _ w (lv_sub hl [0, 1, 3, 4, 5, 6, 7] rfl)
        · skip
          refine r_iconst (pc := 39) C d_L_looks_39 ?_
          refine r_istore (pc := 40) (lv' := [(6, .int (iI 0)), (7, .int (iI k)), (5, .int (iI fr)), (4, .int (iI mo)), (3, .int (iI fi)), (2, .int (iI r)), (1, .int (iI q)), (0, .ref o)]) C d_L_looks_40 hl (by decide) rfl (fun ls hl => ?_)
          refine r_goto (pc := 42) (tgt := 106) C d_L_looks_42 (by decide) ?_
          refine r_iinc (pc := 106) (j := 1) (lv' := [(7, .int (iI (k + 1))), (6, .int (iI 0)), (5, .int (iI fr)), (4, .int (iI mo)), (3, .int (iI fi)), (2, .int (iI r)), (1, .int (iI q)), (0, .ref o)]) C d_L_looks_106 hl rfl (by decide) rfl (fun ls hl => ?_)
          refine r_goto (pc := 109) (tgt := 21) C d_L_looks_109 (by decide) ?_
          exact ih21 (k + 1) 0 fr mo fi (by omega) (by first | exact ll_run_dead hO (by omega) (by omega) (by omega) hll | (rw [ll_run_live hO (by omega) (by omega) (by omega) hll]; show (if mo < li + ln k then (li + ln k, li + ln k, ps ln k - li) else (li + ln k, mo, fi)) = _; (try rw [hf2]); first | (exfalso; omega) | rw [if_pos (by omega)] | rw [if_neg (by omega)])) (by omega) (by omega) _ _ _ w (lv_sub hl [0, 1, 2, 3, 4, 5, 6, 7] rfl)
  exact L21 ((r - 0) + 1 : Int).toNat 0 0 0 0 (-6) (by first | omega | rfl) (rfl) (by first | omega | rfl) (by omega) _ _ _ w (lv_sub hl [0, 1, 2, 3, 4, 5, 7, 6] rfl)
