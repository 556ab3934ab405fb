/-! runs, sizes -/
theorem cn_self (v : Int → Int) (s f : Int) : cn v s f f = 0 := by unfold cn; omega
theorem cn_run {r N k : Int} {sg ln v : Int → Int} (hO : Ok r sg ln N v) (h1 : 0 ≤ k) (h2 : k < r) : cn v (sg k) (ps ln k) (ps ln k + ln k) = ln k := by
  have g := hO.run h1 h2
  have h := count_in (f := ps ln k) (e := ps ln k + ln k) hO h1 h2 (by omega) rfl rfl rfl
  rw [show max (ps ln k) (min (ps ln k + ln k) (ps ln k + ln k)) = ps ln k + ln k by omega, show max (ps ln k) (min (ps ln k) (ps ln k + ln k)) = ps ln k by omega, cn_self] at h
  omega
theorem cn_dead {r N k : Int} {sg ln v : Int → Int} (hO : Ok r sg ln N v) (h1 : 0 ≤ k) (h2 : k < r) : (sg k = 10 → cn v 10 0 (ps ln (k + 1)) = cn v 10 0 (ps ln k) + ln k) ∧ (¬ sg k = 10 → cn v 10 0 (ps ln (k + 1)) = cn v 10 0 (ps ln k)) := by
  have g := hO.run h1 h2
  refine ⟨fun q => ?_, fun q => ?_⟩
  · have h := count_in (f := 0) (e := ps ln k + ln k) hO h1 h2 (by omega) rfl q rfl
    rw [show max 0 (min (ps ln k + ln k) (ps ln k + ln k)) = ps ln (k + 1) by omega, show max 0 (min (ps ln k) (ps ln k + ln k)) = ps ln k by omega] at h
    omega
  · have h := count_out (f := 0) (e := ps ln k + ln k) hO h1 h2 (by omega) rfl q
    rw [show max 0 (min (ps ln k + ln k) (ps ln k + ln k)) = ps ln (k + 1) by omega, show max 0 (min (ps ln k) (ps ln k + ln k)) = ps ln k by omega] at h
    omega
theorem smf_cases (sg ln : Int → Int) (k : Int) : (sg k = 10 → smf sg ln k = 0) ∧ (¬ sg k = 10 → smf sg ln k = sg k * ln k) := by
  unfold smf
  refine ⟨fun q => by rw [if_pos q], fun q => by rw [if_neg q]⟩
theorem smf_rg {r N : Int} {sg ln v : Int → Int} (hO : Ok r sg ln N v) : ∀ k, 0 ≤ k → k ≤ r → 0 ≤ ps (smf sg ln) k ∧ ps (smf sg ln) k ≤ 9 * ps ln k := by
  refine int_ind (fun _ => by rw [ps_zero, ps_zero]; omega) (fun k hk ih h2 => ?_)
  have g := hO.run hk (by omega : k < r)
  have i1 := ih (by omega)
  have c := smf_cases sg ln k
  rw [ps_succ (smf sg ln) hk]
  by_cases q : sg k = 10
  · have := c.1 q; omega
  · have e := c.2 q
    have a1 : 0 ≤ sg k * ln k := Int.mul_nonneg (by omega) (by omega)
    have a2 : sg k * ln k ≤ 9 * ln k := Int.mul_le_mul_of_nonneg_right (by omega) (by omega)
    omega
theorem rbf_step (code : Int) (sg ln : Int → Int) {k : Int} (hk : 0 ≤ k) : ps (rbf code sg ln) (k + 1) = ps (rbf code sg ln) k + rb code (sg k) (ln k) := ps_succ _ hk
theorem d_L_runs_0 : decode b_L_runs 0 = .ok (.iconst 0, 1) := by decide +kernel
theorem d_L_runs_1 : decode b_L_runs 1 = .ok (.istore_n 1, 1) := by decide +kernel
theorem d_L_runs_2 : decode b_L_runs 2 = .ok (.iconst 0, 1) := by decide +kernel
theorem d_L_runs_3 : decode b_L_runs 3 = .ok (.istore_n 2, 1) := by decide +kernel
theorem d_L_runs_4 : decode b_L_runs 4 = .ok (.iconst 0, 1) := by decide +kernel
theorem d_L_runs_5 : decode b_L_runs 5 = .ok (.istore_n 3, 1) := by decide +kernel
theorem d_L_runs_6 : decode b_L_runs 6 = .ok (.iconst 0, 1) := by decide +kernel
theorem d_L_runs_7 : decode b_L_runs 7 = .ok (.istore 4, 2) := by decide +kernel
theorem d_L_runs_9 : decode b_L_runs 9 = .ok (.iconst 0, 1) := by decide +kernel
theorem d_L_runs_10 : decode b_L_runs 10 = .ok (.istore 5, 2) := by decide +kernel
theorem d_L_runs_12 : decode b_L_runs 12 = .ok (.iconst 0, 1) := by decide +kernel
theorem d_L_runs_13 : decode b_L_runs 13 = .ok (.istore 6, 2) := by decide +kernel
theorem d_L_runs_15 : decode b_L_runs 15 = .ok (.iconst 0, 1) := by decide +kernel
theorem d_L_runs_16 : decode b_L_runs 16 = .ok (.istore 7, 2) := by decide +kernel
theorem d_L_runs_18 : decode b_L_runs 18 = .ok (.iconst (-1), 1) := by decide +kernel
theorem d_L_runs_19 : decode b_L_runs 19 = .ok (.istore 8, 2) := by decide +kernel
theorem d_L_runs_21 : decode b_L_runs 21 = .ok (.aload_n 0, 1) := by decide +kernel
theorem d_L_runs_22 : decode b_L_runs 22 = .ok (.iconst 1, 1) := by decide +kernel
theorem d_L_runs_23 : decode b_L_runs 23 = .ok (.invokevirtual 11, 3) := by decide +kernel
theorem d_L_runs_26 : decode b_L_runs 26 = .ok (.istore 9, 2) := by decide +kernel
theorem d_L_runs_28 : decode b_L_runs 28 = .ok (.iconst 0, 1) := by decide +kernel
theorem d_L_runs_29 : decode b_L_runs 29 = .ok (.istore 10, 2) := by decide +kernel
theorem d_L_runs_31 : decode b_L_runs 31 = .ok (.iload 10, 2) := by decide +kernel
theorem d_L_runs_33 : decode b_L_runs 33 = .ok (.iload 9, 2) := by decide +kernel
theorem d_L_runs_35 : decode b_L_runs 35 = .ok (.if_icmp .ge 226, 3) := by decide +kernel
theorem d_L_runs_38 : decode b_L_runs 38 = .ok (.aload_n 0, 1) := by decide +kernel
theorem d_L_runs_39 : decode b_L_runs 39 = .ok (.iload 10, 2) := by decide +kernel
theorem d_L_runs_41 : decode b_L_runs 41 = .ok (.iconst 0, 1) := by decide +kernel
theorem d_L_runs_42 : decode b_L_runs 42 = .ok (.invokevirtual 17, 3) := by decide +kernel
theorem d_L_runs_45 : decode b_L_runs 45 = .ok (.istore 11, 2) := by decide +kernel
theorem d_L_runs_47 : decode b_L_runs 47 = .ok (.aload_n 0, 1) := by decide +kernel
theorem d_L_runs_48 : decode b_L_runs 48 = .ok (.iload 10, 2) := by decide +kernel
theorem d_L_runs_50 : decode b_L_runs 50 = .ok (.iconst 2, 1) := by decide +kernel
theorem d_L_runs_51 : decode b_L_runs 51 = .ok (.invokevirtual 17, 3) := by decide +kernel
theorem d_L_runs_54 : decode b_L_runs 54 = .ok (.istore 12, 2) := by decide +kernel
theorem d_L_runs_56 : decode b_L_runs 56 = .ok (.iload 11, 2) := by decide +kernel
theorem d_L_runs_58 : decode b_L_runs 58 = .ok (.ifCond .lt 96, 3) := by decide +kernel
theorem d_L_runs_61 : decode b_L_runs 61 = .ok (.iload 11, 2) := by decide +kernel
theorem d_L_runs_63 : decode b_L_runs 63 = .ok (.bipush 10, 2) := by decide +kernel
theorem d_L_runs_65 : decode b_L_runs 65 = .ok (.if_icmp .gt 89, 3) := by decide +kernel
theorem d_L_runs_68 : decode b_L_runs 68 = .ok (.iload 11, 2) := by decide +kernel
theorem d_L_runs_70 : decode b_L_runs 70 = .ok (.iload 8, 2) := by decide +kernel
theorem d_L_runs_72 : decode b_L_runs 72 = .ok (.if_icmp .eq 82, 3) := by decide +kernel
theorem d_L_runs_75 : decode b_L_runs 75 = .ok (.iload 12, 2) := by decide +kernel
theorem d_L_runs_77 : decode b_L_runs 77 = .ok (.iconst 1, 1) := by decide +kernel
theorem d_L_runs_78 : decode b_L_runs 78 = .ok (.if_icmp .lt 76, 3) := by decide +kernel
theorem d_L_runs_81 : decode b_L_runs 81 = .ok (.aload_n 0, 1) := by decide +kernel
theorem d_L_runs_82 : decode b_L_runs 82 = .ok (.iload 10, 2) := by decide +kernel
theorem d_L_runs_84 : decode b_L_runs 84 = .ok (.iconst 1, 1) := by decide +kernel
theorem d_L_runs_85 : decode b_L_runs 85 = .ok (.invokevirtual 17, 3) := by decide +kernel
theorem d_L_runs_88 : decode b_L_runs 88 = .ok (.iload_n 1, 1) := by decide +kernel
theorem d_L_runs_89 : decode b_L_runs 89 = .ok (.if_icmp .ne 65, 3) := by decide +kernel
theorem d_L_runs_92 : decode b_L_runs 92 = .ok (.aload_n 0, 1) := by decide +kernel
theorem d_L_runs_93 : decode b_L_runs 93 = .ok (.iload_n 1, 1) := by decide +kernel
theorem d_L_runs_94 : decode b_L_runs 94 = .ok (.invokevirtual 58, 3) := by decide +kernel
theorem d_L_runs_97 : decode b_L_runs 97 = .ok (.iload 11, 2) := by decide +kernel
theorem d_L_runs_99 : decode b_L_runs 99 = .ok (.if_icmp .ne 55, 3) := by decide +kernel
theorem d_L_runs_102 : decode b_L_runs 102 = .ok (.aload_n 0, 1) := by decide +kernel
theorem d_L_runs_103 : decode b_L_runs 103 = .ok (.iload_n 1, 1) := by decide +kernel
theorem d_L_runs_104 : decode b_L_runs 104 = .ok (.iload 12, 2) := by decide +kernel
theorem d_L_runs_106 : decode b_L_runs 106 = .ok (.iadd, 1) := by decide +kernel
theorem d_L_runs_107 : decode b_L_runs 107 = .ok (.iconst 1, 1) := by decide +kernel
theorem d_L_runs_108 : decode b_L_runs 108 = .ok (.isub, 1) := by decide +kernel
theorem d_L_runs_109 : decode b_L_runs 109 = .ok (.invokevirtual 58, 3) := by decide +kernel
theorem d_L_runs_112 : decode b_L_runs 112 = .ok (.iload 11, 2) := by decide +kernel
theorem d_L_runs_114 : decode b_L_runs 114 = .ok (.if_icmp .ne 40, 3) := by decide +kernel
theorem d_L_runs_117 : decode b_L_runs 117 = .ok (.aload_n 0, 1) := by decide +kernel
theorem d_L_runs_118 : decode b_L_runs 118 = .ok (.iload_n 1, 1) := by decide +kernel
theorem d_L_runs_119 : decode b_L_runs 119 = .ok (.iload 12, 2) := by decide +kernel
theorem d_L_runs_121 : decode b_L_runs 121 = .ok (.iload 11, 2) := by decide +kernel
theorem d_L_runs_123 : decode b_L_runs 123 = .ok (.invokevirtual 55, 3) := by decide +kernel
theorem d_L_runs_126 : decode b_L_runs 126 = .ok (.iload 12, 2) := by decide +kernel
theorem d_L_runs_128 : decode b_L_runs 128 = .ok (.if_icmp .ne 26, 3) := by decide +kernel
theorem d_L_runs_131 : decode b_L_runs 131 = .ok (.aload_n 0, 1) := by decide +kernel
theorem d_L_runs_132 : decode b_L_runs 132 = .ok (.iload 10, 2) := by decide +kernel
theorem d_L_runs_134 : decode b_L_runs 134 = .ok (.iconst 3, 1) := by decide +kernel
theorem d_L_runs_135 : decode b_L_runs 135 = .ok (.invokevirtual 17, 3) := by decide +kernel
theorem d_L_runs_138 : decode b_L_runs 138 = .ok (.iload 11, 2) := by decide +kernel
theorem d_L_runs_140 : decode b_L_runs 140 = .ok (.iload 12, 2) := by decide +kernel
theorem d_L_runs_142 : decode b_L_runs 142 = .ok (.aload_n 0, 1) := by decide +kernel
theorem d_L_runs_143 : decode b_L_runs 143 = .ok (.bipush 9, 2) := by decide +kernel
theorem d_L_runs_145 : decode b_L_runs 145 = .ok (.invokevirtual 11, 3) := by decide +kernel
theorem d_L_runs_148 : decode b_L_runs 148 = .ok (.invokestatic 95, 3) := by decide +kernel
theorem d_L_runs_151 : decode b_L_runs 151 = .ok (.if_icmp .eq 5, 3) := by decide +kernel
theorem d_L_runs_154 : decode b_L_runs 154 = .ok (.iconst 0, 1) := by decide +kernel
theorem d_L_runs_155 : decode b_L_runs 155 = .ok (.ireturn, 1) := by decide +kernel
theorem d_L_runs_156 : decode b_L_runs 156 = .ok (.iload_n 1, 1) := by decide +kernel
theorem d_L_runs_157 : decode b_L_runs 157 = .ok (.iload 12, 2) := by decide +kernel
theorem d_L_runs_159 : decode b_L_runs 159 = .ok (.iadd, 1) := by decide +kernel
theorem d_L_runs_160 : decode b_L_runs 160 = .ok (.istore_n 1, 1) := by decide +kernel
theorem d_L_runs_161 : decode b_L_runs 161 = .ok (.iload_n 2, 1) := by decide +kernel
theorem d_L_runs_162 : decode b_L_runs 162 = .ok (.iload 11, 2) := by decide +kernel
theorem d_L_runs_164 : decode b_L_runs 164 = .ok (.bipush 10, 2) := by decide +kernel
theorem d_L_runs_166 : decode b_L_runs 166 = .ok (.if_icmp .ne 8, 3) := by decide +kernel
theorem d_L_runs_169 : decode b_L_runs 169 = .ok (.iload 12, 2) := by decide +kernel
theorem d_L_runs_171 : decode b_L_runs 171 = .ok (.goto 4, 3) := by decide +kernel
theorem d_L_runs_174 : decode b_L_runs 174 = .ok (.iconst 0, 1) := by decide +kernel
theorem d_L_runs_175 : decode b_L_runs 175 = .ok (.iadd, 1) := by decide +kernel
theorem d_L_runs_176 : decode b_L_runs 176 = .ok (.istore_n 2, 1) := by decide +kernel
theorem d_L_runs_177 : decode b_L_runs 177 = .ok (.iload_n 3, 1) := by decide +kernel
theorem d_L_runs_178 : decode b_L_runs 178 = .ok (.iload 11, 2) := by decide +kernel
theorem d_L_runs_180 : decode b_L_runs 180 = .ok (.bipush 10, 2) := by decide +kernel
theorem d_L_runs_182 : decode b_L_runs 182 = .ok (.if_icmp .ne 7, 3) := by decide +kernel
theorem d_L_runs_185 : decode b_L_runs 185 = .ok (.iconst 0, 1) := by decide +kernel
theorem d_L_runs_186 : decode b_L_runs 186 = .ok (.goto 8, 3) := by decide +kernel
theorem d_L_runs_189 : decode b_L_runs 189 = .ok (.iload 11, 2) := by decide +kernel
theorem d_L_runs_191 : decode b_L_runs 191 = .ok (.iload 12, 2) := by decide +kernel
theorem d_L_runs_193 : decode b_L_runs 193 = .ok (.imul, 1) := by decide +kernel
theorem d_L_runs_194 : decode b_L_runs 194 = .ok (.iadd, 1) := by decide +kernel
theorem d_L_runs_195 : decode b_L_runs 195 = .ok (.istore_n 3, 1) := by decide +kernel
theorem d_L_runs_196 : decode b_L_runs 196 = .ok (.iload 12, 2) := by decide +kernel
theorem d_L_runs_198 : decode b_L_runs 198 = .ok (.iload 4, 2) := by decide +kernel
theorem d_L_runs_200 : decode b_L_runs 200 = .ok (.if_icmp .le 8, 3) := by decide +kernel
theorem d_L_runs_203 : decode b_L_runs 203 = .ok (.iload 12, 2) := by decide +kernel
theorem d_L_runs_205 : decode b_L_runs 205 = .ok (.goto 5, 3) := by decide +kernel
theorem d_L_runs_208 : decode b_L_runs 208 = .ok (.iload 4, 2) := by decide +kernel
theorem d_L_runs_210 : decode b_L_runs 210 = .ok (.istore 4, 2) := by decide +kernel
theorem d_L_runs_212 : decode b_L_runs 212 = .ok (.iload 5, 2) := by decide +kernel
theorem d_L_runs_214 : decode b_L_runs 214 = .ok (.iload 11, 2) := by decide +kernel
theorem d_L_runs_216 : decode b_L_runs 216 = .ok (.iload 12, 2) := by decide +kernel
theorem d_L_runs_218 : decode b_L_runs 218 = .ok (.iconst 0, 1) := by decide +kernel
theorem d_L_runs_219 : decode b_L_runs 219 = .ok (.invokestatic 95, 3) := by decide +kernel
theorem d_L_runs_222 : decode b_L_runs 222 = .ok (.iadd, 1) := by decide +kernel
theorem d_L_runs_223 : decode b_L_runs 223 = .ok (.istore 5, 2) := by decide +kernel
theorem d_L_runs_225 : decode b_L_runs 225 = .ok (.iload 6, 2) := by decide +kernel
theorem d_L_runs_227 : decode b_L_runs 227 = .ok (.iload 11, 2) := by decide +kernel
theorem d_L_runs_229 : decode b_L_runs 229 = .ok (.iload 12, 2) := by decide +kernel
theorem d_L_runs_231 : decode b_L_runs 231 = .ok (.iconst 1, 1) := by decide +kernel
theorem d_L_runs_232 : decode b_L_runs 232 = .ok (.invokestatic 95, 3) := by decide +kernel
theorem d_L_runs_235 : decode b_L_runs 235 = .ok (.iadd, 1) := by decide +kernel
theorem d_L_runs_236 : decode b_L_runs 236 = .ok (.istore 6, 2) := by decide +kernel
theorem d_L_runs_238 : decode b_L_runs 238 = .ok (.iload 7, 2) := by decide +kernel
theorem d_L_runs_240 : decode b_L_runs 240 = .ok (.iload 11, 2) := by decide +kernel
theorem d_L_runs_242 : decode b_L_runs 242 = .ok (.iload 12, 2) := by decide +kernel
theorem d_L_runs_244 : decode b_L_runs 244 = .ok (.iconst 2, 1) := by decide +kernel
theorem d_L_runs_245 : decode b_L_runs 245 = .ok (.invokestatic 95, 3) := by decide +kernel
theorem d_L_runs_248 : decode b_L_runs 248 = .ok (.iadd, 1) := by decide +kernel
theorem d_L_runs_249 : decode b_L_runs 249 = .ok (.istore 7, 2) := by decide +kernel
theorem d_L_runs_251 : decode b_L_runs 251 = .ok (.iload 11, 2) := by decide +kernel
theorem d_L_runs_253 : decode b_L_runs 253 = .ok (.istore 8, 2) := by decide +kernel
theorem d_L_runs_255 : decode b_L_runs 255 = .ok (.iinc 10 1, 3) := by decide +kernel
theorem d_L_runs_258 : decode b_L_runs 258 = .ok (.goto (-227), 3) := by decide +kernel
theorem d_L_runs_261 : decode b_L_runs 261 = .ok (.aload_n 0, 1) := by decide +kernel
theorem d_L_runs_262 : decode b_L_runs 262 = .ok (.bipush 9, 2) := by decide +kernel
theorem d_L_runs_264 : decode b_L_runs 264 = .ok (.invokevirtual 11, 3) := by decide +kernel
theorem d_L_runs_267 : decode b_L_runs 267 = .ok (.istore 10, 2) := by decide +kernel
theorem d_L_runs_269 : decode b_L_runs 269 = .ok (.iload 6, 2) := by decide +kernel
theorem d_L_runs_271 : decode b_L_runs 271 = .ok (.iload 5, 2) := by decide +kernel
theorem d_L_runs_273 : decode b_L_runs 273 = .ok (.if_icmp .ge 18, 3) := by decide +kernel
theorem d_L_runs_276 : decode b_L_runs 276 = .ok (.iload 7, 2) := by decide +kernel
theorem d_L_runs_278 : decode b_L_runs 278 = .ok (.iload 6, 2) := by decide +kernel
theorem d_L_runs_280 : decode b_L_runs 280 = .ok (.if_icmp .ge 7, 3) := by decide +kernel
theorem d_L_runs_283 : decode b_L_runs 283 = .ok (.iconst 2, 1) := by decide +kernel
theorem d_L_runs_284 : decode b_L_runs 284 = .ok (.goto 19, 3) := by decide +kernel
theorem d_L_runs_287 : decode b_L_runs 287 = .ok (.iconst 1, 1) := by decide +kernel
theorem d_L_runs_288 : decode b_L_runs 288 = .ok (.goto 15, 3) := by decide +kernel
theorem d_L_runs_291 : decode b_L_runs 291 = .ok (.iload 7, 2) := by decide +kernel
theorem d_L_runs_293 : decode b_L_runs 293 = .ok (.iload 5, 2) := by decide +kernel
theorem d_L_runs_295 : decode b_L_runs 295 = .ok (.if_icmp .ge 7, 3) := by decide +kernel
theorem d_L_runs_298 : decode b_L_runs 298 = .ok (.iconst 2, 1) := by decide +kernel
theorem d_L_runs_299 : decode b_L_runs 299 = .ok (.goto 4, 3) := by decide +kernel
theorem d_L_runs_302 : decode b_L_runs 302 = .ok (.iconst 0, 1) := by decide +kernel
theorem d_L_runs_303 : decode b_L_runs 303 = .ok (.istore 11, 2) := by decide +kernel
theorem d_L_runs_305 : decode b_L_runs 305 = .ok (.iload 9, 2) := by decide +kernel
theorem d_L_runs_307 : decode b_L_runs 307 = .ok (.bipush 50, 2) := by decide +kernel
theorem d_L_runs_309 : decode b_L_runs 309 = .ok (.if_icmp .gt 122, 3) := by decide +kernel
theorem d_L_runs_312 : decode b_L_runs 312 = .ok (.iload_n 1, 1) := by decide +kernel
theorem d_L_runs_313 : decode b_L_runs 313 = .ok (.sipush 3000, 3) := by decide +kernel
theorem d_L_runs_316 : decode b_L_runs 316 = .ok (.if_icmp .gt 115, 3) := by decide +kernel
theorem d_L_runs_319 : decode b_L_runs 319 = .ok (.aload_n 0, 1) := by decide +kernel
theorem d_L_runs_320 : decode b_L_runs 320 = .ok (.iconst 0, 1) := by decide +kernel
theorem d_L_runs_321 : decode b_L_runs 321 = .ok (.invokevirtual 11, 3) := by decide +kernel
theorem d_L_runs_324 : decode b_L_runs 324 = .ok (.iload_n 1, 1) := by decide +kernel
theorem d_L_runs_325 : decode b_L_runs 325 = .ok (.if_icmp .ne 106, 3) := by decide +kernel
theorem d_L_runs_328 : decode b_L_runs 328 = .ok (.aload_n 0, 1) := by decide +kernel
theorem d_L_runs_329 : decode b_L_runs 329 = .ok (.iconst 2, 1) := by decide +kernel
theorem d_L_runs_330 : decode b_L_runs 330 = .ok (.invokevirtual 11, 3) := by decide +kernel
theorem d_L_runs_333 : decode b_L_runs 333 = .ok (.iload_n 2, 1) := by decide +kernel
theorem d_L_runs_334 : decode b_L_runs 334 = .ok (.if_icmp .ne 97, 3) := by decide +kernel
theorem d_L_runs_337 : decode b_L_runs 337 = .ok (.aload_n 0, 1) := by decide +kernel
theorem d_L_runs_338 : decode b_L_runs 338 = .ok (.iconst 5, 1) := by decide +kernel
theorem d_L_runs_339 : decode b_L_runs 339 = .ok (.invokevirtual 11, 3) := by decide +kernel
theorem d_L_runs_342 : decode b_L_runs 342 = .ok (.iload_n 3, 1) := by decide +kernel
theorem d_L_runs_343 : decode b_L_runs 343 = .ok (.if_icmp .ne 88, 3) := by decide +kernel
theorem d_L_runs_346 : decode b_L_runs 346 = .ok (.aload_n 0, 1) := by decide +kernel
theorem d_L_runs_347 : decode b_L_runs 347 = .ok (.bipush 6, 2) := by decide +kernel
theorem d_L_runs_349 : decode b_L_runs 349 = .ok (.invokevirtual 11, 3) := by decide +kernel
theorem d_L_runs_352 : decode b_L_runs 352 = .ok (.iload 4, 2) := by decide +kernel
theorem d_L_runs_354 : decode b_L_runs 354 = .ok (.if_icmp .ne 77, 3) := by decide +kernel
theorem d_L_runs_357 : decode b_L_runs 357 = .ok (.aload_n 0, 1) := by decide +kernel
theorem d_L_runs_358 : decode b_L_runs 358 = .ok (.iconst 0, 1) := by decide +kernel
theorem d_L_runs_359 : decode b_L_runs 359 = .ok (.invokevirtual 67, 3) := by decide +kernel
theorem d_L_runs_362 : decode b_L_runs 362 = .ok (.iload 5, 2) := by decide +kernel
theorem d_L_runs_364 : decode b_L_runs 364 = .ok (.if_icmp .ne 67, 3) := by decide +kernel
theorem d_L_runs_367 : decode b_L_runs 367 = .ok (.aload_n 0, 1) := by decide +kernel
theorem d_L_runs_368 : decode b_L_runs 368 = .ok (.iconst 1, 1) := by decide +kernel
theorem d_L_runs_369 : decode b_L_runs 369 = .ok (.invokevirtual 67, 3) := by decide +kernel
theorem d_L_runs_372 : decode b_L_runs 372 = .ok (.iload 6, 2) := by decide +kernel
theorem d_L_runs_374 : decode b_L_runs 374 = .ok (.if_icmp .ne 57, 3) := by decide +kernel
theorem d_L_runs_377 : decode b_L_runs 377 = .ok (.aload_n 0, 1) := by decide +kernel
theorem d_L_runs_378 : decode b_L_runs 378 = .ok (.iconst 2, 1) := by decide +kernel
theorem d_L_runs_379 : decode b_L_runs 379 = .ok (.invokevirtual 67, 3) := by decide +kernel
theorem d_L_runs_382 : decode b_L_runs 382 = .ok (.iload 7, 2) := by decide +kernel
theorem d_L_runs_384 : decode b_L_runs 384 = .ok (.if_icmp .ne 47, 3) := by decide +kernel
theorem d_L_runs_387 : decode b_L_runs 387 = .ok (.aload_n 0, 1) := by decide +kernel
theorem d_L_runs_388 : decode b_L_runs 388 = .ok (.iconst 3, 1) := by decide +kernel
theorem d_L_runs_389 : decode b_L_runs 389 = .ok (.invokevirtual 11, 3) := by decide +kernel
theorem d_L_runs_392 : decode b_L_runs 392 = .ok (.iload 10, 2) := by decide +kernel
theorem d_L_runs_394 : decode b_L_runs 394 = .ok (.ifCond .ne 8, 3) := by decide +kernel
theorem d_L_runs_397 : decode b_L_runs 397 = .ok (.iload 5, 2) := by decide +kernel
theorem d_L_runs_399 : decode b_L_runs 399 = .ok (.goto 16, 3) := by decide +kernel
theorem d_L_runs_402 : decode b_L_runs 402 = .ok (.iload 10, 2) := by decide +kernel
theorem d_L_runs_404 : decode b_L_runs 404 = .ok (.iconst 1, 1) := by decide +kernel
theorem d_L_runs_405 : decode b_L_runs 405 = .ok (.if_icmp .ne 8, 3) := by decide +kernel
theorem d_L_runs_408 : decode b_L_runs 408 = .ok (.iload 6, 2) := by decide +kernel
theorem d_L_runs_410 : decode b_L_runs 410 = .ok (.goto 5, 3) := by decide +kernel
theorem d_L_runs_413 : decode b_L_runs 413 = .ok (.iload 7, 2) := by decide +kernel
theorem d_L_runs_415 : decode b_L_runs 415 = .ok (.if_icmp .ne 16, 3) := by decide +kernel
theorem d_L_runs_418 : decode b_L_runs 418 = .ok (.aload_n 0, 1) := by decide +kernel
theorem d_L_runs_419 : decode b_L_runs 419 = .ok (.invokevirtual 98, 3) := by decide +kernel
theorem d_L_runs_422 : decode b_L_runs 422 = .ok (.iload 11, 2) := by decide +kernel
theorem d_L_runs_424 : decode b_L_runs 424 = .ok (.if_icmp .ne 7, 3) := by decide +kernel
theorem d_L_runs_427 : decode b_L_runs 427 = .ok (.iconst 1, 1) := by decide +kernel
theorem d_L_runs_428 : decode b_L_runs 428 = .ok (.goto 4, 3) := by decide +kernel
theorem d_L_runs_431 : decode b_L_runs 431 = .ok (.iconst 0, 1) := by decide +kernel
theorem d_L_runs_432 : decode b_L_runs 432 = .ok (.ireturn, 1) := by decide +kernel
set_option maxHeartbeats 4000000 in
set_option maxRecDepth 20000 in
theorem c_L_runs {l : Launch} {G : va_G} {tys : List (ClassId × FieldType)} {cI cO cZ : ClassId} (hT : TY tys cI cO cZ) (o : Nat) (A : AS)  : CTA l G tys cI cO cZ y_L_runs b_L_runs 13 .boolean 5 112 o [.ref o] A (fun z A' => A' = A ∧ z = 1) := by
  refine mkAZ (by decide) (Nat.le_of_ble_eq_true rfl) ?_
  rintro X rfl rfl rfl hRm C kret H ls w hl
  have hl : lv_has ls 13 [(0, .ref o)] := hl
  generalize ([] : List Loc) = locs at w ⊢
  obtain ⟨⟨lc, sd, r, sg, ln, N, v⟩, hist, rcd, slot, uf, T, m⟩ := A
  have hK := w.ok
  have hR : RwOk lc sd r sg ln N v := hK.1
  have hrcd : 0 ≤ rcd ∧ rcd ≤ 6 := hK.2.1
  have hm80 : 0 ≤ m ∧ m ≤ 80 := hK.2.2.2.2.1
  obtain ⟨hO, hr50, hN3, hlc, hsd⟩ := hR
  have hr0 := hO.1
  have hN0 := hO.n0
  refine r_iconst (pc := 0) C d_L_runs_0 ?_
  refine r_istore_n (pc := 1) (lv' := [(1, .int (iI 0)), (0, .ref o)]) C d_L_runs_1 rfl hl (by decide) rfl (fun ls hl => ?_)
  refine r_iconst (pc := 2) C d_L_runs_2 ?_
  refine r_istore_n (pc := 3) (lv' := [(2, .int (iI 0)), (1, .int (iI 0)), (0, .ref o)]) C d_L_runs_3 rfl hl (by decide) rfl (fun ls hl => ?_)
  refine r_iconst (pc := 4) C d_L_runs_4 ?_
  refine r_istore_n (pc := 5) (lv' := [(3, .int (iI 0)), (2, .int (iI 0)), (1, .int (iI 0)), (0, .ref o)]) C d_L_runs_5 rfl hl (by decide) rfl (fun ls hl => ?_)
  refine r_iconst (pc := 6) C d_L_runs_6 ?_
  refine r_istore (pc := 7) (lv' := [(4, .int (iI 0)), (3, .int (iI 0)), (2, .int (iI 0)), (1, .int (iI 0)), (0, .ref o)]) C d_L_runs_7 hl (by decide) rfl (fun ls hl => ?_)
  refine r_iconst (pc := 9) C d_L_runs_9 ?_
  refine r_istore (pc := 10) (lv' := [(5, .int (iI 0)), (4, .int (iI 0)), (3, .int (iI 0)), (2, .int (iI 0)), (1, .int (iI 0)), (0, .ref o)]) C d_L_runs_10 hl (by decide) rfl (fun ls hl => ?_)
  refine r_iconst (pc := 12) C d_L_runs_12 ?_
  refine r_istore (pc := 13) (lv' := [(6, .int (iI 0)), (5, .int (iI 0)), (4, .int (iI 0)), (3, .int (iI 0)), (2, .int (iI 0)), (1, .int (iI 0)), (0, .ref o)]) C d_L_runs_13 hl (by decide) rfl (fun ls hl => ?_)
  refine r_iconst (pc := 15) C d_L_runs_15 ?_
  refine r_istore (pc := 16) (lv' := [(7, .int (iI 0)), (6, .int (iI 0)), (5, .int (iI 0)), (4, .int (iI 0)), (3, .int (iI 0)), (2, .int (iI 0)), (1, .int (iI 0)), (0, .ref o)]) C d_L_runs_16 hl (by decide) rfl (fun ls hl => ?_)
  refine r_iconst (pc := 18) C d_L_runs_18 ?_
  refine r_istore (pc := 19) (lv' := [(8, .int (iI (-1))), (7, .int (iI 0)), (6, .int (iI 0)), (5, .int (iI 0)), (4, .int (iI 0)), (3, .int (iI 0)), (2, .int (iI 0)), (1, .int (iI 0)), (0, .ref o)]) C d_L_runs_19 hl (by decide) rfl (fun ls hl => ?_)
  refine r_aload_n (pc := 21) C d_L_runs_21 rfl (lv_at hl 8 rfl) ?_
  refine r_iconst (pc := 22) C d_L_runs_22 ?_
  refine l_callE (pc := 23) (As := [.int (iI 1)]) (rest := []) (x := r) (fun _ _ h => q_count_1 h) C w (fun ws hA => c_D_count hT o _ ws hA 1 (by omega)) ml_L_11 im_D_count se_D_count cd_D_count hd_D_count rfl (by rw [hRm]; exact ⟨⟨Nat.le_of_ble_eq_true rfl, Nat.le_of_ble_eq_true rfl⟩, Nat.le_of_ble_eq_true rfl, Nat.le_of_ble_eq_true rfl⟩) hl.1 rfl (Nat.le_of_ble_eq_true rfl) d_L_runs_23 (fun H locs w => ?_)
  refine r_istore (pc := 26) (lv' := [(9, .int (iI r)), (8, .int (iI (-1))), (7, .int (iI 0)), (6, .int (iI 0)), (5, .int (iI 0)), (4, .int (iI 0)), (3, .int (iI 0)), (2, .int (iI 0)), (1, .int (iI 0)), (0, .ref o)]) C d_L_runs_26 hl (by decide) rfl (fun ls hl => ?_)
  refine r_iconst (pc := 28) C d_L_runs_28 ?_
  refine r_istore (pc := 29) (lv' := [(10, .int (iI 0)), (9, .int (iI r)), (8, .int (iI (-1))), (7, .int (iI 0)), (6, .int (iI 0)), (5, .int (iI 0)), (4, .int (iI 0)), (3, .int (iI 0)), (2, .int (iI 0)), (1, .int (iI 0)), (0, .ref o)]) C d_L_runs_29 hl (by decide) rfl (fun ls hl => ?_)
  have L31 : ∀ (fuel : Nat), ∀ (k : Int) (fi : Int) (de : Int) (su : Int) (lo : Int) (s0 : Int) (s1 : Int) (s2 : Int) (bf : Int), 0 ≤ k ∧ k ≤ r → fi = ps ln k → de = cn v 10 0 (ps ln k) → su = ps (smf sg ln) k → lo = mx ln k → 0 ≤ lo ∧ lo ≤ 3000 → s0 = ps (rbf 0 sg ln) k → s1 = ps (rbf 1 sg ln) k → s2 = ps (rbf 2 sg ln) k → (k = 0 ∧ bf = -1) ∨ (1 ≤ k ∧ bf = sg (k - 1)) → (r - k) < (fuel : Int) → ∀ (H : Heap) (locs : List Loc) (ls : Array Slot), LW X cI cO cZ o ((lc, sd, r, sg, ln, N, v), hist, rcd, slot, uf, T, m) H locs → lv_has ls 13 [(10, .int (iI k)), (8, .int (iI bf)), (7, .int (iI s2)), (6, .int (iI s1)), (5, .int (iI s0)), (4, .int (iI lo)), (3, .int (iI su)), (2, .int (iI de)), (1, .int (iI fi)), (9, .int (iI r)), (0, .ref o)] → GG X 0 0 H locs 31 ls [] := by
    intro fuel
    induction fuel with
    | zero =>
      intro k fi de su lo s0 s1 s2 bf hk hfi hde hsu hlo hlo3 hs0 hs1 hs2 hbf hfuel
      exact absurd hfuel (by omega)
    | succ fuel ih31 =>
      intro k fi de su lo s0 s1 s2 bf hk hfi hde hsu hlo hlo3 hs0 hs1 hs2 hbf hfuel H locs ls w hl
      refine r_iload (pc := 31) C d_L_runs_31 (lv_at hl 0 rfl) ?_
      refine r_iload (pc := 33) C d_L_runs_33 (lv_at hl 9 rfl) ?_
      refine r_icmp_ge (pc := 35) (tgt := 261) C (by omega) d_L_runs_35 (by decide) (fun c_35 => ?_) (fun c_35 => ?_)
      · skip
        have hkr : k = r := by omega
        have hpr := hO.2.2.2.1
        rw [hkr] at hfi hsu hlo hs0 hs1 hs2
        rw [hkr, hpr] at hde
        have hb0 := allBits_rg (code := 0) hO hN3 (k := r) hr0 (by omega)
        have hb1 := allBits_rg (code := 1) hO hN3 (k := r) hr0 (by omega)
        have hb2 := allBits_rg (code := 2) hO hN3 (k := r) hr0 (by omega)
        have hb9 := allBits_rg (code := lc) hO hN3 (k := r) hr0 (by omega)
        have hsr := smf_rg hO r hr0 (by omega)
        have hcr := cn_rg (v := v) (s := 10) (f := 0) (e := N) (by omega) (by omega)
        have hbcr : 0 ≤ bestC (ps (rbf 0 sg ln) r) (ps (rbf 1 sg ln) r) (ps (rbf 2 sg ln) r) ∧ bestC (ps (rbf 0 sg ln) r) (ps (rbf 1 sg ln) r) (ps (rbf 2 sg ln) r) ≤ 2 := by unfold bestC; (repeat' split) <;> omega
        clear hbf
        refine r_aload_n (pc := 261) C d_L_runs_261 rfl (lv_at hl 10 rfl) ?_
        refine r_bipush (pc := 262) C d_L_runs_262 (by decide) ?_
        refine l_callE (pc := 264) (As := [.int (iI 9)]) (rest := []) (x := lc) (fun _ _ h => q_count_9 h) C w (fun ws hA => c_D_count hT o _ ws hA 9 (by omega)) ml_L_11 im_D_count se_D_count cd_D_count hd_D_count rfl (by rw [hRm]; exact ⟨⟨Nat.le_of_ble_eq_true rfl, Nat.le_of_ble_eq_true rfl⟩, Nat.le_of_ble_eq_true rfl, Nat.le_of_ble_eq_true rfl⟩) hl.1 rfl (Nat.le_of_ble_eq_true rfl) d_L_runs_264 (fun H locs w => ?_)
        refine r_istore (pc := 267) (lv' := [(10, .int (iI lc)), (8, .int (iI bf)), (7, .int (iI s2)), (6, .int (iI s1)), (5, .int (iI s0)), (4, .int (iI lo)), (3, .int (iI su)), (2, .int (iI de)), (1, .int (iI fi)), (9, .int (iI r)), (0, .ref o)]) C d_L_runs_267 hl (by decide) rfl (fun ls hl => ?_)
        have J305 : ∀ (bc : Int), bc = bestC (ps (rbf 0 sg ln) r) (ps (rbf 1 sg ln) r) (ps (rbf 2 sg ln) r) → ∀ (H : Heap) (locs : List Loc) (ls : Array Slot), LW X cI cO cZ o ((lc, sd, r, sg, ln, N, v), hist, rcd, slot, uf, T, m) H locs → lv_has ls 13 [(11, .int (iI bc)), (10, .int (iI lc)), (8, .int (iI bf)), (7, .int (iI s2)), (6, .int (iI s1)), (5, .int (iI s0)), (4, .int (iI lo)), (3, .int (iI su)), (2, .int (iI de)), (1, .int (iI fi)), (9, .int (iI r)), (0, .ref o)] → GG X 0 0 H locs 305 ls [] := by
          intro bc hbc H locs ls w hl
          refine r_iload (pc := 305) C d_L_runs_305 (lv_at hl 10 rfl) ?_
          refine r_bipush (pc := 307) C d_L_runs_307 (by decide) ?_
          refine r_icmp_gt (pc := 309) (tgt := 431) C (by omega) d_L_runs_309 (by decide) (fun c_309 => ?_) (fun c_309 => ?_)
          · skip
            exact absurd c_309 (by omega)
          · skip
            refine r_iload_n (pc := 312) C d_L_runs_312 rfl (lv_at hl 9 rfl) ?_
            refine r_sipush (pc := 313) C d_L_runs_313 (by decide) ?_
            refine r_icmp_gt (pc := 316) (tgt := 431) C (by omega) d_L_runs_316 (by decide) (fun c_316 => ?_) (fun c_316 => ?_)
            · skip
              exact absurd c_316 (by omega)
            · skip
              refine r_aload_n (pc := 319) C d_L_runs_319 rfl (lv_at hl 11 rfl) ?_
              refine r_iconst (pc := 320) C d_L_runs_320 ?_
              refine l_callE (pc := 321) (As := [.int (iI 0)]) (rest := []) (x := N) (fun _ _ h => q_count_0 h) C w (fun ws hA => c_D_count hT o _ ws hA 0 (by omega)) ml_L_11 im_D_count se_D_count cd_D_count hd_D_count rfl (by rw [hRm]; exact ⟨⟨Nat.le_of_ble_eq_true rfl, Nat.le_of_ble_eq_true rfl⟩, Nat.le_of_ble_eq_true rfl, Nat.le_of_ble_eq_true rfl⟩) hl.1 rfl (Nat.le_of_ble_eq_true rfl) d_L_runs_321 (fun H locs w => ?_)
              refine r_iload_n (pc := 324) C d_L_runs_324 rfl (lv_at hl 9 rfl) ?_
              refine r_icmp_ne (pc := 325) (tgt := 431) C (by omega) d_L_runs_325 (by decide) (fun c_325 => ?_) (fun c_325 => ?_)
              · skip
                exact absurd (by omega) c_325
              · skip
                refine r_aload_n (pc := 328) C d_L_runs_328 rfl (lv_at hl 11 rfl) ?_
                refine r_iconst (pc := 329) C d_L_runs_329 ?_
                refine l_callE (pc := 330) (As := [.int (iI 2)]) (rest := []) (x := (cn v 10 0 N)) (fun _ _ h => q_count_2 h) C w (fun ws hA => c_D_count hT o _ ws hA 2 (by omega)) ml_L_11 im_D_count se_D_count cd_D_count hd_D_count rfl (by rw [hRm]; exact ⟨⟨Nat.le_of_ble_eq_true rfl, Nat.le_of_ble_eq_true rfl⟩, Nat.le_of_ble_eq_true rfl, Nat.le_of_ble_eq_true rfl⟩) hl.1 rfl (Nat.le_of_ble_eq_true rfl) d_L_runs_330 (fun H locs w => ?_)
                refine r_iload_n (pc := 333) C d_L_runs_333 rfl (lv_at hl 8 rfl) ?_
                refine r_icmp_ne (pc := 334) (tgt := 431) C (by omega) d_L_runs_334 (by decide) (fun c_334 => ?_) (fun c_334 => ?_)
                · skip
                  exact absurd (by omega) c_334
                · skip
                  refine r_aload_n (pc := 337) C d_L_runs_337 rfl (lv_at hl 11 rfl) ?_
                  refine r_iconst (pc := 338) C d_L_runs_338 ?_
                  refine l_callE (pc := 339) (As := [.int (iI 5)]) (rest := []) (x := (ps (smf sg ln) r)) (fun _ _ h => q_count_5 h) C w (fun ws hA => c_D_count hT o _ ws hA 5 (by omega)) ml_L_11 im_D_count se_D_count cd_D_count hd_D_count rfl (by rw [hRm]; exact ⟨⟨Nat.le_of_ble_eq_true rfl, Nat.le_of_ble_eq_true rfl⟩, Nat.le_of_ble_eq_true rfl, Nat.le_of_ble_eq_true rfl⟩) hl.1 rfl (Nat.le_of_ble_eq_true rfl) d_L_runs_339 (fun H locs w => ?_)
                  refine r_iload_n (pc := 342) C d_L_runs_342 rfl (lv_at hl 7 rfl) ?_
                  refine r_icmp_ne (pc := 343) (tgt := 431) C (by omega) d_L_runs_343 (by decide) (fun c_343 => ?_) (fun c_343 => ?_)
                  · skip
                    exact absurd (by omega) c_343
                  · skip
                    refine r_aload_n (pc := 346) C d_L_runs_346 rfl (lv_at hl 11 rfl) ?_
                    refine r_bipush (pc := 347) C d_L_runs_347 (by decide) ?_
                    refine l_callE (pc := 349) (As := [.int (iI 6)]) (rest := []) (x := (mx ln r)) (fun _ _ h => q_count_6 h) C w (fun ws hA => c_D_count hT o _ ws hA 6 (by omega)) ml_L_11 im_D_count se_D_count cd_D_count hd_D_count rfl (by rw [hRm]; exact ⟨⟨Nat.le_of_ble_eq_true rfl, Nat.le_of_ble_eq_true rfl⟩, Nat.le_of_ble_eq_true rfl, Nat.le_of_ble_eq_true rfl⟩) hl.1 rfl (Nat.le_of_ble_eq_true rfl) d_L_runs_349 (fun H locs w => ?_)
                    refine r_iload (pc := 352) C d_L_runs_352 (lv_at hl 6 rfl) ?_
                    refine r_icmp_ne (pc := 354) (tgt := 431) C (by omega) d_L_runs_354 (by decide) (fun c_354 => ?_) (fun c_354 => ?_)
                    · skip
                      exact absurd (by omega) c_354
                    · skip
                      refine r_aload_n (pc := 357) C d_L_runs_357 rfl (lv_at hl 11 rfl) ?_
                      refine r_iconst (pc := 358) C d_L_runs_358 ?_
                      refine l_callE (pc := 359) (As := [.int (iI 0)]) (rest := []) (x := (ps (rbf 0 sg ln) r)) (fun _ _ h => q_size (by omega) h) C w (fun ws hA => c_D_size hT o _ ws hA 0 (by omega)) ml_L_67 im_D_size se_D_size cd_D_size hd_D_size rfl (by rw [hRm]; exact ⟨⟨Nat.le_of_ble_eq_true rfl, Nat.le_of_ble_eq_true rfl⟩, Nat.le_of_ble_eq_true rfl, Nat.le_of_ble_eq_true rfl⟩) hl.1 rfl (Nat.le_of_ble_eq_true rfl) d_L_runs_359 (fun H locs w => ?_)
                      refine r_iload (pc := 362) C d_L_runs_362 (lv_at hl 5 rfl) ?_
                      refine r_icmp_ne (pc := 364) (tgt := 431) C (by omega) d_L_runs_364 (by decide) (fun c_364 => ?_) (fun c_364 => ?_)
                      · skip
                        exact absurd (by omega) c_364
                      · skip
                        refine r_aload_n (pc := 367) C d_L_runs_367 rfl (lv_at hl 11 rfl) ?_
                        refine r_iconst (pc := 368) C d_L_runs_368 ?_
                        refine l_callE (pc := 369) (As := [.int (iI 1)]) (rest := []) (x := (ps (rbf 1 sg ln) r)) (fun _ _ h => q_size (by omega) h) C w (fun ws hA => c_D_size hT o _ ws hA 1 (by omega)) ml_L_67 im_D_size se_D_size cd_D_size hd_D_size rfl (by rw [hRm]; exact ⟨⟨Nat.le_of_ble_eq_true rfl, Nat.le_of_ble_eq_true rfl⟩, Nat.le_of_ble_eq_true rfl, Nat.le_of_ble_eq_true rfl⟩) hl.1 rfl (Nat.le_of_ble_eq_true rfl) d_L_runs_369 (fun H locs w => ?_)
                        refine r_iload (pc := 372) C d_L_runs_372 (lv_at hl 4 rfl) ?_
                        refine r_icmp_ne (pc := 374) (tgt := 431) C (by omega) d_L_runs_374 (by decide) (fun c_374 => ?_) (fun c_374 => ?_)
                        · skip
                          exact absurd (by omega) c_374
                        · skip
                          refine r_aload_n (pc := 377) C d_L_runs_377 rfl (lv_at hl 11 rfl) ?_
                          refine r_iconst (pc := 378) C d_L_runs_378 ?_
                          refine l_callE (pc := 379) (As := [.int (iI 2)]) (rest := []) (x := (ps (rbf 2 sg ln) r)) (fun _ _ h => q_size (by omega) h) C w (fun ws hA => c_D_size hT o _ ws hA 2 (by omega)) ml_L_67 im_D_size se_D_size cd_D_size hd_D_size rfl (by rw [hRm]; exact ⟨⟨Nat.le_of_ble_eq_true rfl, Nat.le_of_ble_eq_true rfl⟩, Nat.le_of_ble_eq_true rfl, Nat.le_of_ble_eq_true rfl⟩) hl.1 rfl (Nat.le_of_ble_eq_true rfl) d_L_runs_379 (fun H locs w => ?_)
                          refine r_iload (pc := 382) C d_L_runs_382 (lv_at hl 3 rfl) ?_
                          refine r_icmp_ne (pc := 384) (tgt := 431) C (by omega) d_L_runs_384 (by decide) (fun c_384 => ?_) (fun c_384 => ?_)
                          · skip
                            exact absurd (by omega) c_384
                          · skip
                            refine r_aload_n (pc := 387) C d_L_runs_387 rfl (lv_at hl 11 rfl) ?_
                            refine r_iconst (pc := 388) C d_L_runs_388 ?_
                            refine l_callE (pc := 389) (As := [.int (iI 3)]) (rest := []) (x := (ps (rbf lc sg ln) r)) (fun _ _ h => q_count_3 h) C w (fun ws hA => c_D_count hT o _ ws hA 3 (by omega)) ml_L_11 im_D_count se_D_count cd_D_count hd_D_count rfl (by rw [hRm]; exact ⟨⟨Nat.le_of_ble_eq_true rfl, Nat.le_of_ble_eq_true rfl⟩, Nat.le_of_ble_eq_true rfl, Nat.le_of_ble_eq_true rfl⟩) hl.1 rfl (Nat.le_of_ble_eq_true rfl) d_L_runs_389 (fun H locs w => ?_)
                            refine r_iload (pc := 392) C d_L_runs_392 (lv_at hl 1 rfl) ?_
                            refine r_if_ne (pc := 394) (tgt := 402) C (by omega) d_L_runs_394 (by decide) (fun c_394 => ?_) (fun c_394 => ?_)
                            · skip
                              refine r_iload (pc := 402) C d_L_runs_402 (lv_at hl 1 rfl) ?_
                              refine r_iconst (pc := 404) C d_L_runs_404 ?_
                              refine r_icmp_ne (pc := 405) (tgt := 413) C (by omega) d_L_runs_405 (by decide) (fun c_405 => ?_) (fun c_405 => ?_)
                              · skip
                                refine r_iload (pc := 413) C d_L_runs_413 (lv_at hl 3 rfl) ?_
                                refine r_icmp_ne (pc := 415) (tgt := 431) C (by omega) d_L_runs_415 (by decide) (fun c_415 => ?_) (fun c_415 => ?_)
                                · skip
                                  exact absurd (by first | (rw [show lc = 0 by omega]; omega) | (rw [show lc = 1 by omega]; omega) | (rw [show lc = 2 by omega]; omega)) c_415
                                · skip
                                  refine r_aload_n (pc := 418) C d_L_runs_418 rfl (lv_at hl 11 rfl) ?_
                                  refine l_callE (pc := 419) (As := []) (rest := []) (x := (bestC (ps (rbf 0 sg ln) r) (ps (rbf 1 sg ln) r) (ps (rbf 2 sg ln) r))) (fun _ _ h => h) C w (fun ws hA => c_D_bestCode hT o _ ws hA) ml_L_98 im_D_bestCode se_D_bestCode cd_D_bestCode hd_D_bestCode rfl (by rw [hRm]; exact ⟨⟨Nat.le_of_ble_eq_true rfl, Nat.le_of_ble_eq_true rfl⟩, Nat.le_of_ble_eq_true rfl, Nat.le_of_ble_eq_true rfl⟩) hl.1 rfl (Nat.le_of_ble_eq_true rfl) d_L_runs_419 (fun H locs w => ?_)
                                  refine r_iload (pc := 422) C d_L_runs_422 (lv_at hl 0 rfl) ?_
                                  refine r_icmp_ne (pc := 424) (tgt := 431) C (by omega) d_L_runs_424 (by decide) (fun c_424 => ?_) (fun c_424 => ?_)
                                  · skip
                                    exact absurd hbc.symm c_424
                                  · skip
                                    refine r_iconst (pc := 427) C d_L_runs_427 ?_
                                    refine r_goto (pc := 428) (tgt := 432) C d_L_runs_428 (by decide) ?_
                                    exact kret _ _ _ _ 1 _ d_L_runs_432 w (by omega) (⟨rfl, rfl⟩)
                              · skip
                                refine r_iload (pc := 408) C d_L_runs_408 (lv_at hl 4 rfl) ?_
                                refine r_goto (pc := 410) (tgt := 415) C d_L_runs_410 (by decide) ?_
                                refine r_icmp_ne (pc := 415) (tgt := 431) C (by omega) d_L_runs_415 (by decide) (fun c_415 => ?_) (fun c_415 => ?_)
                                · skip
                                  exact absurd (by first | (rw [show lc = 0 by omega]; omega) | (rw [show lc = 1 by omega]; omega) | (rw [show lc = 2 by omega]; omega)) c_415
                                · skip
                                  refine r_aload_n (pc := 418) C d_L_runs_418 rfl (lv_at hl 11 rfl) ?_
                                  refine l_callE (pc := 419) (As := []) (rest := []) (x := (bestC (ps (rbf 0 sg ln) r) (ps (rbf 1 sg ln) r) (ps (rbf 2 sg ln) r))) (fun _ _ h => h) C w (fun ws hA => c_D_bestCode hT o _ ws hA) ml_L_98 im_D_bestCode se_D_bestCode cd_D_bestCode hd_D_bestCode rfl (by rw [hRm]; exact ⟨⟨Nat.le_of_ble_eq_true rfl, Nat.le_of_ble_eq_true rfl⟩, Nat.le_of_ble_eq_true rfl, Nat.le_of_ble_eq_true rfl⟩) hl.1 rfl (Nat.le_of_ble_eq_true rfl) d_L_runs_419 (fun H locs w => ?_)
                                  refine r_iload (pc := 422) C d_L_runs_422 (lv_at hl 0 rfl) ?_
                                  refine r_icmp_ne (pc := 424) (tgt := 431) C (by omega) d_L_runs_424 (by decide) (fun c_424 => ?_) (fun c_424 => ?_)
                                  · skip
                                    exact absurd hbc.symm c_424
                                  · skip
                                    refine r_iconst (pc := 427) C d_L_runs_427 ?_
                                    refine r_goto (pc := 428) (tgt := 432) C d_L_runs_428 (by decide) ?_
                                    exact kret _ _ _ _ 1 _ d_L_runs_432 w (by omega) (⟨rfl, rfl⟩)
                            · skip
                              refine r_iload (pc := 397) C d_L_runs_397 (lv_at hl 5 rfl) ?_
                              refine r_goto (pc := 399) (tgt := 415) C d_L_runs_399 (by decide) ?_
                              refine r_icmp_ne (pc := 415) (tgt := 431) C (by omega) d_L_runs_415 (by decide) (fun c_415 => ?_) (fun c_415 => ?_)
                              · skip
                                exact absurd (by first | (rw [show lc = 0 by omega]; omega) | (rw [show lc = 1 by omega]; omega) | (rw [show lc = 2 by omega]; omega)) c_415
                              · skip
                                refine r_aload_n (pc := 418) C d_L_runs_418 rfl (lv_at hl 11 rfl) ?_
                                refine l_callE (pc := 419) (As := []) (rest := []) (x := (bestC (ps (rbf 0 sg ln) r) (ps (rbf 1 sg ln) r) (ps (rbf 2 sg ln) r))) (fun _ _ h => h) C w (fun ws hA => c_D_bestCode hT o _ ws hA) ml_L_98 im_D_bestCode se_D_bestCode cd_D_bestCode hd_D_bestCode rfl (by rw [hRm]; exact ⟨⟨Nat.le_of_ble_eq_true rfl, Nat.le_of_ble_eq_true rfl⟩, Nat.le_of_ble_eq_true rfl, Nat.le_of_ble_eq_true rfl⟩) hl.1 rfl (Nat.le_of_ble_eq_true rfl) d_L_runs_419 (fun H locs w => ?_)
                                refine r_iload (pc := 422) C d_L_runs_422 (lv_at hl 0 rfl) ?_
                                refine r_icmp_ne (pc := 424) (tgt := 431) C (by omega) d_L_runs_424 (by decide) (fun c_424 => ?_) (fun c_424 => ?_)
                                · skip
                                  exact absurd hbc.symm c_424
                                · skip
                                  refine r_iconst (pc := 427) C d_L_runs_427 ?_
                                  refine r_goto (pc := 428) (tgt := 432) C d_L_runs_428 (by decide) ?_
                                  exact kret _ _ _ _ 1 _ d_L_runs_432 w (by omega) (⟨rfl, rfl⟩)
        refine r_iload (pc := 269) C d_L_runs_269 (lv_at hl 3 rfl) ?_
        refine r_iload (pc := 271) C d_L_runs_271 (lv_at hl 4 rfl) ?_
        refine r_icmp_ge (pc := 273) (tgt := 291) C (by omega) d_L_runs_273 (by decide) (fun c_273 => ?_) (fun c_273 => ?_)
        · skip
          refine r_iload (pc := 291) C d_L_runs_291 (lv_at hl 2 rfl) ?_
          refine r_iload (pc := 293) C d_L_runs_293 (lv_at hl 4 rfl) ?_
          refine r_icmp_ge (pc := 295) (tgt := 302) C (by omega) d_L_runs_295 (by decide) (fun c_295 => ?_) (fun c_295 => ?_)
          · skip
            refine r_iconst (pc := 302) C d_L_runs_302 ?_
            refine r_istore (pc := 303) (lv' := [(11, .int (iI 0)), (10, .int (iI lc)), (8, .int (iI bf)), (7, .int (iI s2)), (6, .int (iI s1)), (5, .int (iI s0)), (4, .int (iI lo)), (3, .int (iI su)), (2, .int (iI de)), (1, .int (iI fi)), (9, .int (iI r)), (0, .ref o)]) C d_L_runs_303 hl (by decide) rfl (fun ls hl => ?_)
            exact J305 0 (by unfold bestC; (repeat' split) <;> omega) _ _ _ w (lv_sub hl [0, 1, 2, 3, 4, 5, 6, 7, 8, 9, 10, 11] rfl)
          · skip
            refine r_iconst (pc := 298) C d_L_runs_298 ?_
            refine r_goto (pc := 299) (tgt := 303) C d_L_runs_299 (by decide) ?_
            refine r_istore (pc := 303) (lv' := [(11, .int (iI 2)), (10, .int (iI lc)), (8, .int (iI bf)), (7, .int (iI s2)), (6, .int (iI s1)), (5, .int (iI s0)), (4, .int (iI lo)), (3, .int (iI su)), (2, .int (iI de)), (1, .int (iI fi)), (9, .int (iI r)), (0, .ref o)]) C d_L_runs_303 hl (by decide) rfl (fun ls hl => ?_)
            exact J305 2 (by unfold bestC; (repeat' split) <;> omega) _ _ _ w (lv_sub hl [0, 1, 2, 3, 4, 5, 6, 7, 8, 9, 10, 11] rfl)
        · skip
          refine r_iload (pc := 276) C d_L_runs_276 (lv_at hl 2 rfl) ?_
          refine r_iload (pc := 278) C d_L_runs_278 (lv_at hl 3 rfl) ?_
          refine r_icmp_ge (pc := 280) (tgt := 287) C (by omega) d_L_runs_280 (by decide) (fun c_280 => ?_) (fun c_280 => ?_)
          · skip
            refine r_iconst (pc := 287) C d_L_runs_287 ?_
            refine r_goto (pc := 288) (tgt := 303) C d_L_runs_288 (by decide) ?_
            refine r_istore (pc := 303) (lv' := [(11, .int (iI 1)), (10, .int (iI lc)), (8, .int (iI bf)), (7, .int (iI s2)), (6, .int (iI s1)), (5, .int (iI s0)), (4, .int (iI lo)), (3, .int (iI su)), (2, .int (iI de)), (1, .int (iI fi)), (9, .int (iI r)), (0, .ref o)]) C d_L_runs_303 hl (by decide) rfl (fun ls hl => ?_)
            exact J305 1 (by unfold bestC; (repeat' split) <;> omega) _ _ _ w (lv_sub hl [0, 1, 2, 3, 4, 5, 6, 7, 8, 9, 10, 11] rfl)
          · skip
            refine r_iconst (pc := 283) C d_L_runs_283 ?_
            refine r_goto (pc := 284) (tgt := 303) C d_L_runs_284 (by decide) ?_
            refine r_istore (pc := 303) (lv' := [(11, .int (iI 2)), (10, .int (iI lc)), (8, .int (iI bf)), (7, .int (iI s2)), (6, .int (iI s1)), (5, .int (iI s0)), (4, .int (iI lo)), (3, .int (iI su)), (2, .int (iI de)), (1, .int (iI fi)), (9, .int (iI r)), (0, .ref o)]) C d_L_runs_303 hl (by decide) rfl (fun ls hl => ?_)
            exact J305 2 (by unfold bestC; (repeat' split) <;> omega) _ _ _ w (lv_sub hl [0, 1, 2, 3, 4, 5, 6, 7, 8, 9, 10, 11] rfl)
      · skip
        have g := hO.run (k := k) (by omega) (by omega)
        have hne : 1 ≤ k → sg k ≠ sg (k - 1) := fun q => hO.2.2.1 k q (by omega)
        have hsp : 1 ≤ k → 0 ≤ sg (k - 1) ∧ sg (k - 1) ≤ 10 := fun q => hO.sg (by omega) (by omega)
        have hv1 : v fi = sg k := by rw [hfi]; exact hO.2.2.2.2 k (by omega) (by omega) _ (by omega) (by omega)
        have hv2 : v ((fi + (ln k)) - 1) = sg k := by rw [hfi]; exact hO.2.2.2.2 k (by omega) (by omega) _ (by omega) (by omega)
        have hcn : cn v (sg k) fi (fi + (ln k)) = ln k := by rw [hfi]; exact cn_run hO (by omega) (by omega)
        have hrb := rb_rg (code := lc) (s := sg k) (n := ln k) (by omega)
        refine r_aload_n (pc := 38) C d_L_runs_38 rfl (lv_at hl 10 rfl) ?_
        refine r_iload (pc := 39) C d_L_runs_39 (lv_at hl 0 rfl) ?_
        refine r_iconst (pc := 41) C d_L_runs_41 ?_
        refine l_callE (pc := 42) (As := [.int (iI k), .int (iI 0)]) (rest := []) (x := (sg k)) (fun _ _ h => q_ofRun_0 (by omega) h) C w (fun ws hA => c_D_ofRun hT o _ ws hA k 0 ⟨by omega, by omega⟩) ml_L_17 im_D_ofRun se_D_ofRun cd_D_ofRun hd_D_ofRun rfl (by rw [hRm]; exact ⟨⟨Nat.le_of_ble_eq_true rfl, Nat.le_of_ble_eq_true rfl⟩, Nat.le_of_ble_eq_true rfl, Nat.le_of_ble_eq_true rfl⟩) hl.1 rfl (Nat.le_of_ble_eq_true rfl) d_L_runs_42 (fun H locs w => ?_)
        refine r_istore (pc := 45) (lv' := [(11, .int (iI (sg k))), (10, .int (iI k)), (8, .int (iI bf)), (7, .int (iI s2)), (6, .int (iI s1)), (5, .int (iI s0)), (4, .int (iI lo)), (3, .int (iI su)), (2, .int (iI de)), (1, .int (iI fi)), (9, .int (iI r)), (0, .ref o)]) C d_L_runs_45 hl (by decide) rfl (fun ls hl => ?_)
        refine r_aload_n (pc := 47) C d_L_runs_47 rfl (lv_at hl 11 rfl) ?_
        refine r_iload (pc := 48) C d_L_runs_48 (lv_at hl 1 rfl) ?_
        refine r_iconst (pc := 50) C d_L_runs_50 ?_
        refine l_callE (pc := 51) (As := [.int (iI k), .int (iI 2)]) (rest := []) (x := (ln k)) (fun _ _ h => q_ofRun_2 (by omega) h) C w (fun ws hA => c_D_ofRun hT o _ ws hA k 2 ⟨by omega, by omega⟩) ml_L_17 im_D_ofRun se_D_ofRun cd_D_ofRun hd_D_ofRun rfl (by rw [hRm]; exact ⟨⟨Nat.le_of_ble_eq_true rfl, Nat.le_of_ble_eq_true rfl⟩, Nat.le_of_ble_eq_true rfl, Nat.le_of_ble_eq_true rfl⟩) hl.1 rfl (Nat.le_of_ble_eq_true rfl) d_L_runs_51 (fun H locs w => ?_)
        refine r_istore (pc := 54) (lv' := [(12, .int (iI (ln k))), (11, .int (iI (sg k))), (10, .int (iI k)), (8, .int (iI bf)), (7, .int (iI s2)), (6, .int (iI s1)), (5, .int (iI s0)), (4, .int (iI lo)), (3, .int (iI su)), (2, .int (iI de)), (1, .int (iI fi)), (9, .int (iI r)), (0, .ref o)]) C d_L_runs_54 hl (by decide) rfl (fun ls hl => ?_)
        refine r_iload (pc := 56) C d_L_runs_56 (lv_at hl 1 rfl) ?_
        refine r_if_lt (pc := 58) (tgt := 154) C (by omega) d_L_runs_58 (by decide) (fun c_58 => ?_) (fun c_58 => ?_)
        · skip
          exact absurd c_58 (by omega)
        · skip
          refine r_iload (pc := 61) C d_L_runs_61 (lv_at hl 1 rfl) ?_
          refine r_bipush (pc := 63) C d_L_runs_63 (by decide) ?_
          refine r_icmp_gt (pc := 65) (tgt := 154) C (by omega) d_L_runs_65 (by decide) (fun c_65 => ?_) (fun c_65 => ?_)
          · skip
            exact absurd c_65 (by omega)
          · skip
            refine r_iload (pc := 68) C d_L_runs_68 (lv_at hl 1 rfl) ?_
            refine r_iload (pc := 70) C d_L_runs_70 (lv_at hl 3 rfl) ?_
            refine r_icmp_eq (pc := 72) (tgt := 154) C (by omega) d_L_runs_72 (by decide) (fun c_72 => ?_) (fun c_72 => ?_)
            · skip
              exfalso
              omega
            · skip
              refine r_iload (pc := 75) C d_L_runs_75 (lv_at hl 0 rfl) ?_
              refine r_iconst (pc := 77) C d_L_runs_77 ?_
              refine r_icmp_lt (pc := 78) (tgt := 154) C (by omega) d_L_runs_78 (by decide) (fun c_78 => ?_) (fun c_78 => ?_)
              · skip
                exact absurd c_78 (by omega)
              · skip
                refine r_aload_n (pc := 81) C d_L_runs_81 rfl (lv_at hl 12 rfl) ?_
                refine r_iload (pc := 82) C d_L_runs_82 (lv_at hl 2 rfl) ?_
                refine r_iconst (pc := 84) C d_L_runs_84 ?_
                refine l_callE (pc := 85) (As := [.int (iI k), .int (iI 1)]) (rest := []) (x := (ps ln k)) (fun _ _ h => q_ofRun_1 (by omega) h) C w (fun ws hA => c_D_ofRun hT o _ ws hA k 1 ⟨by omega, by omega⟩) ml_L_17 im_D_ofRun se_D_ofRun cd_D_ofRun hd_D_ofRun rfl (by rw [hRm]; exact ⟨⟨Nat.le_of_ble_eq_true rfl, Nat.le_of_ble_eq_true rfl⟩, Nat.le_of_ble_eq_true rfl, Nat.le_of_ble_eq_true rfl⟩) hl.1 rfl (Nat.le_of_ble_eq_true rfl) d_L_runs_85 (fun H locs w => ?_)
                refine r_iload_n (pc := 88) C d_L_runs_88 rfl (lv_at hl 10 rfl) ?_
                refine r_icmp_ne (pc := 89) (tgt := 154) C (by omega) d_L_runs_89 (by decide) (fun c_89 => ?_) (fun c_89 => ?_)
                · skip
                  exact absurd hfi.symm c_89
                · skip
                  refine r_aload_n (pc := 92) C d_L_runs_92 rfl (lv_at hl 12 rfl) ?_
                  refine r_iload_n (pc := 93) C d_L_runs_93 rfl (lv_at hl 10 rfl) ?_
                  refine l_callE (pc := 94) (As := [.int (iI fi)]) (rest := []) (x := (v fi)) (fun _ _ h => q_sign (by omega) h) C w (fun ws hA => c_D_sign hT o _ ws hA fi (by omega)) ml_L_58 im_D_sign se_D_sign cd_D_sign hd_D_sign rfl (by rw [hRm]; exact ⟨⟨Nat.le_of_ble_eq_true rfl, Nat.le_of_ble_eq_true rfl⟩, Nat.le_of_ble_eq_true rfl, Nat.le_of_ble_eq_true rfl⟩) hl.1 rfl (Nat.le_of_ble_eq_true rfl) d_L_runs_94 (fun H locs w => ?_)
                  refine r_iload (pc := 97) C d_L_runs_97 (lv_at hl 1 rfl) ?_
                  refine r_icmp_ne (pc := 99) (tgt := 154) C (by omega) d_L_runs_99 (by decide) (fun c_99 => ?_) (fun c_99 => ?_)
                  · skip
                    exact absurd hv1 c_99
                  · skip
                    refine r_aload_n (pc := 102) C d_L_runs_102 rfl (lv_at hl 12 rfl) ?_
                    refine r_iload_n (pc := 103) C d_L_runs_103 rfl (lv_at hl 10 rfl) ?_
                    refine r_iload (pc := 104) C d_L_runs_104 (lv_at hl 0 rfl) ?_
                    refine r_iadd (pc := 106) C d_L_runs_106 ?_
                    refine r_iconst (pc := 107) C d_L_runs_107 ?_
                    refine r_isub (pc := 108) C d_L_runs_108 ?_
                    refine l_callE (pc := 109) (As := [.int (iI ((fi + (ln k)) - 1))]) (rest := []) (x := (v ((fi + (ln k)) - 1))) (fun _ _ h => q_sign (by omega) h) C w (fun ws hA => c_D_sign hT o _ ws hA ((fi + (ln k)) - 1) (by omega)) ml_L_58 im_D_sign se_D_sign cd_D_sign hd_D_sign rfl (by rw [hRm]; exact ⟨⟨Nat.le_of_ble_eq_true rfl, Nat.le_of_ble_eq_true rfl⟩, Nat.le_of_ble_eq_true rfl, Nat.le_of_ble_eq_true rfl⟩) hl.1 rfl (Nat.le_of_ble_eq_true rfl) d_L_runs_109 (fun H locs w => ?_)
                    refine r_iload (pc := 112) C d_L_runs_112 (lv_at hl 1 rfl) ?_
                    refine r_icmp_ne (pc := 114) (tgt := 154) C (by omega) d_L_runs_114 (by decide) (fun c_114 => ?_) (fun c_114 => ?_)
                    · skip
                      exact absurd hv2 c_114
                    · skip
                      refine r_aload_n (pc := 117) C d_L_runs_117 rfl (lv_at hl 12 rfl) ?_
                      refine r_iload_n (pc := 118) C d_L_runs_118 rfl (lv_at hl 10 rfl) ?_
                      refine r_iload (pc := 119) C d_L_runs_119 (lv_at hl 0 rfl) ?_
                      refine r_iload (pc := 121) C d_L_runs_121 (lv_at hl 1 rfl) ?_
                      refine l_callE (pc := 123) (As := [.int (iI fi), .int (iI (ln k)), .int (iI (sg k))]) (rest := []) (x := (cn v (sg k) fi (fi + (ln k)))) (fun _ _ h => q_howMany (by omega) h) C w (fun ws hA => c_D_howMany hT o _ ws hA fi (ln k) (sg k) ⟨by omega, by omega, by omega⟩) ml_L_55 im_D_howMany se_D_howMany cd_D_howMany hd_D_howMany rfl (by rw [hRm]; exact ⟨⟨Nat.le_of_ble_eq_true rfl, Nat.le_of_ble_eq_true rfl⟩, Nat.le_of_ble_eq_true rfl, Nat.le_of_ble_eq_true rfl⟩) hl.1 rfl (Nat.le_of_ble_eq_true rfl) d_L_runs_123 (fun H locs w => ?_)
                      refine r_iload (pc := 126) C d_L_runs_126 (lv_at hl 0 rfl) ?_
                      refine r_icmp_ne (pc := 128) (tgt := 154) C (by omega) d_L_runs_128 (by decide) (fun c_128 => ?_) (fun c_128 => ?_)
                      · skip
                        exact absurd hcn c_128
                      · skip
                        refine r_aload_n (pc := 131) C d_L_runs_131 rfl (lv_at hl 12 rfl) ?_
                        refine r_iload (pc := 132) C d_L_runs_132 (lv_at hl 2 rfl) ?_
                        refine r_iconst (pc := 134) C d_L_runs_134 ?_
                        refine l_callE (pc := 135) (As := [.int (iI k), .int (iI 3)]) (rest := []) (x := (rb lc (sg k) (ln k))) (fun _ _ h => q_ofRun_3 (by omega) h) C w (fun ws hA => c_D_ofRun hT o _ ws hA k 3 ⟨by omega, by omega⟩) ml_L_17 im_D_ofRun se_D_ofRun cd_D_ofRun hd_D_ofRun rfl (by rw [hRm]; exact ⟨⟨Nat.le_of_ble_eq_true rfl, Nat.le_of_ble_eq_true rfl⟩, Nat.le_of_ble_eq_true rfl, Nat.le_of_ble_eq_true rfl⟩) hl.1 rfl (Nat.le_of_ble_eq_true rfl) d_L_runs_135 (fun H locs w => ?_)
                        refine r_iload (pc := 138) C d_L_runs_138 (lv_at hl 1 rfl) ?_
                        refine r_iload (pc := 140) C d_L_runs_140 (lv_at hl 0 rfl) ?_
                        refine r_aload_n (pc := 142) C d_L_runs_142 rfl (lv_at hl 12 rfl) ?_
                        refine r_bipush (pc := 143) C d_L_runs_143 (by decide) ?_
                        refine l_callE (pc := 145) (As := [.int (iI 9)]) (rest := [.int (iI (ln k)), .int (iI (sg k)), .int (iI (rb lc (sg k) (ln k)))]) (x := lc) (fun _ _ h => q_count_9 h) C w (fun ws hA => c_D_count hT o _ ws hA 9 (by omega)) ml_L_11 im_D_count se_D_count cd_D_count hd_D_count rfl (by rw [hRm]; exact ⟨⟨Nat.le_of_ble_eq_true rfl, Nat.le_of_ble_eq_true rfl⟩, Nat.le_of_ble_eq_true rfl, Nat.le_of_ble_eq_true rfl⟩) hl.1 rfl (Nat.le_of_ble_eq_true rfl) d_L_runs_145 (fun H locs w => ?_)
                        refine l_callP (pc := 148) (As := [.int (iI (sg k)), .int (iI (ln k)), .int (iI lc)]) (rest := [.int (iI (rb lc (sg k) (ln k)))]) C w (c_L_bits (sg k) (ln k) lc (by omega) (by omega) (by omega)) ml_L_95 st_L_bits ini_L cd_L_bits hd_L_bits rfl (by rw [hRm]; exact ⟨⟨Nat.le_of_ble_eq_true rfl, Nat.le_of_ble_eq_true rfl⟩, Nat.le_of_ble_eq_true rfl, Nat.le_of_ble_eq_true rfl⟩) hl.1 rfl (Nat.le_of_ble_eq_true rfl) d_L_runs_148 (fun z_148 H locs hz_148 w => ?_)
                        subst hz_148
                        refine r_icmp_eq (pc := 151) (tgt := 156) C (by omega) d_L_runs_151 (by decide) (fun c_151 => ?_) (fun c_151 => ?_)
                        · skip
                          have hde2 := cn_dead hO (k := k) (by omega) (by omega)
                          have hsm := smf_cases sg ln k
                          have hsu2 := ps_succ (smf sg ln) (k := k) (by omega)
                          have hlo2 := mx_succ ln (k := k) (by omega)
                          have hs02 := rbf_step 0 sg ln (k := k) (by omega)
                          have hs12 := rbf_step 1 sg ln (k := k) (by omega)
                          have hs22 := rbf_step 2 sg ln (k := k) (by omega)
                          clear hv1 hv2 hcn hrb hbf hne hsp
                          refine r_iload_n (pc := 156) C d_L_runs_156 rfl (lv_at hl 10 rfl) ?_
                          refine r_iload (pc := 157) C d_L_runs_157 (lv_at hl 0 rfl) ?_
                          refine r_iadd (pc := 159) C d_L_runs_159 ?_
                          refine r_istore_n (pc := 160) (lv' := [(1, .int (iI (fi + (ln k)))), (12, .int (iI (ln k))), (11, .int (iI (sg k))), (10, .int (iI k)), (8, .int (iI bf)), (7, .int (iI s2)), (6, .int (iI s1)), (5, .int (iI s0)), (4, .int (iI lo)), (3, .int (iI su)), (2, .int (iI de)), (9, .int (iI r)), (0, .ref o)]) C d_L_runs_160 rfl hl (by decide) rfl (fun ls hl => ?_)
                          refine r_iload_n (pc := 161) C d_L_runs_161 rfl (lv_at hl 10 rfl) ?_
                          refine r_iload (pc := 162) C d_L_runs_162 (lv_at hl 2 rfl) ?_
                          refine r_bipush (pc := 164) C d_L_runs_164 (by decide) ?_
                          refine r_icmp_ne (pc := 166) (tgt := 174) C (by omega) d_L_runs_166 (by decide) (fun c_166 => ?_) (fun c_166 => ?_)
                          · skip
                            refine r_iconst (pc := 174) C d_L_runs_174 ?_
                            refine r_iadd (pc := 175) C d_L_runs_175 ?_
                            refine r_istore_n (pc := 176) (lv' := [(2, .int (iI (de + 0))), (1, .int (iI (fi + (ln k)))), (12, .int (iI (ln k))), (11, .int (iI (sg k))), (10, .int (iI k)), (8, .int (iI bf)), (7, .int (iI s2)), (6, .int (iI s1)), (5, .int (iI s0)), (4, .int (iI lo)), (3, .int (iI su)), (9, .int (iI r)), (0, .ref o)]) C d_L_runs_176 rfl hl (by decide) rfl (fun ls hl => ?_)
                            refine r_iload_n (pc := 177) C d_L_runs_177 rfl (lv_at hl 10 rfl) ?_
                            refine r_iload (pc := 178) C d_L_runs_178 (lv_at hl 3 rfl) ?_
                            refine r_bipush (pc := 180) C d_L_runs_180 (by decide) ?_
                            refine r_icmp_ne (pc := 182) (tgt := 189) C (by omega) d_L_runs_182 (by decide) (fun c_182 => ?_) (fun c_182 => ?_)
                            · skip
                              refine r_iload (pc := 189) C d_L_runs_189 (lv_at hl 3 rfl) ?_
                              refine r_iload (pc := 191) C d_L_runs_191 (lv_at hl 2 rfl) ?_
                              refine r_imul (pc := 193) C d_L_runs_193 ?_
                              refine r_iadd (pc := 194) C d_L_runs_194 ?_
                              refine r_istore_n (pc := 195) (lv' := [(3, .int (iI (su + ((sg k) * (ln k))))), (2, .int (iI (de + 0))), (1, .int (iI (fi + (ln k)))), (12, .int (iI (ln k))), (11, .int (iI (sg k))), (10, .int (iI k)), (8, .int (iI bf)), (7, .int (iI s2)), (6, .int (iI s1)), (5, .int (iI s0)), (4, .int (iI lo)), (9, .int (iI r)), (0, .ref o)]) C d_L_runs_195 rfl hl (by decide) rfl (fun ls hl => ?_)
                              refine r_iload (pc := 196) C d_L_runs_196 (lv_at hl 3 rfl) ?_
                              refine r_iload (pc := 198) C d_L_runs_198 (lv_at hl 10 rfl) ?_
                              refine r_icmp_le (pc := 200) (tgt := 208) C (by omega) d_L_runs_200 (by decide) (fun c_200 => ?_) (fun c_200 => ?_)
                              · skip
                                refine r_iload (pc := 208) C d_L_runs_208 (lv_at hl 10 rfl) ?_
                                refine r_istore (pc := 210) (lv' := [(4, .int (iI lo)), (3, .int (iI (su + ((sg k) * (ln k))))), (2, .int (iI (de + 0))), (1, .int (iI (fi + (ln k)))), (12, .int (iI (ln k))), (11, .int (iI (sg k))), (10, .int (iI k)), (8, .int (iI bf)), (7, .int (iI s2)), (6, .int (iI s1)), (5, .int (iI s0)), (9, .int (iI r)), (0, .ref o)]) C d_L_runs_210 hl (by decide) rfl (fun ls hl => ?_)
                                refine r_iload (pc := 212) C d_L_runs_212 (lv_at hl 10 rfl) ?_
                                refine r_iload (pc := 214) C d_L_runs_214 (lv_at hl 5 rfl) ?_
                                refine r_iload (pc := 216) C d_L_runs_216 (lv_at hl 4 rfl) ?_
                                refine r_iconst (pc := 218) C d_L_runs_218 ?_
                                refine l_callP (pc := 219) (As := [.int (iI (sg k)), .int (iI (ln k)), .int (iI 0)]) (rest := [.int (iI s0)]) C w (c_L_bits (sg k) (ln k) 0 (by omega) (by omega) (by omega)) ml_L_95 st_L_bits ini_L cd_L_bits hd_L_bits rfl (by rw [hRm]; exact ⟨⟨Nat.le_of_ble_eq_true rfl, Nat.le_of_ble_eq_true rfl⟩, Nat.le_of_ble_eq_true rfl, Nat.le_of_ble_eq_true rfl⟩) hl.1 rfl (Nat.le_of_ble_eq_true rfl) d_L_runs_219 (fun z_219 H locs hz_219 w => ?_)
                                subst hz_219
                                refine r_iadd (pc := 222) C d_L_runs_222 ?_
                                refine r_istore (pc := 223) (lv' := [(5, .int (iI (s0 + (rb 0 (sg k) (ln k))))), (4, .int (iI lo)), (3, .int (iI (su + ((sg k) * (ln k))))), (2, .int (iI (de + 0))), (1, .int (iI (fi + (ln k)))), (12, .int (iI (ln k))), (11, .int (iI (sg k))), (10, .int (iI k)), (8, .int (iI bf)), (7, .int (iI s2)), (6, .int (iI s1)), (9, .int (iI r)), (0, .ref o)]) C d_L_runs_223 hl (by decide) rfl (fun ls hl => ?_)
                                refine r_iload (pc := 225) C d_L_runs_225 (lv_at hl 10 rfl) ?_
                                refine r_iload (pc := 227) C d_L_runs_227 (lv_at hl 6 rfl) ?_
                                refine r_iload (pc := 229) C d_L_runs_229 (lv_at hl 5 rfl) ?_
                                refine r_iconst (pc := 231) C d_L_runs_231 ?_
                                refine l_callP (pc := 232) (As := [.int (iI (sg k)), .int (iI (ln k)), .int (iI 1)]) (rest := [.int (iI s1)]) C w (c_L_bits (sg k) (ln k) 1 (by omega) (by omega) (by omega)) ml_L_95 st_L_bits ini_L cd_L_bits hd_L_bits rfl (by rw [hRm]; exact ⟨⟨Nat.le_of_ble_eq_true rfl, Nat.le_of_ble_eq_true rfl⟩, Nat.le_of_ble_eq_true rfl, Nat.le_of_ble_eq_true rfl⟩) hl.1 rfl (Nat.le_of_ble_eq_true rfl) d_L_runs_232 (fun z_232 H locs hz_232 w => ?_)
                                subst hz_232
                                refine r_iadd (pc := 235) C d_L_runs_235 ?_
                                refine r_istore (pc := 236) (lv' := [(6, .int (iI (s1 + (rb 1 (sg k) (ln k))))), (5, .int (iI (s0 + (rb 0 (sg k) (ln k))))), (4, .int (iI lo)), (3, .int (iI (su + ((sg k) * (ln k))))), (2, .int (iI (de + 0))), (1, .int (iI (fi + (ln k)))), (12, .int (iI (ln k))), (11, .int (iI (sg k))), (10, .int (iI k)), (8, .int (iI bf)), (7, .int (iI s2)), (9, .int (iI r)), (0, .ref o)]) C d_L_runs_236 hl (by decide) rfl (fun ls hl => ?_)
                                refine r_iload (pc := 238) C d_L_runs_238 (lv_at hl 10 rfl) ?_
                                refine r_iload (pc := 240) C d_L_runs_240 (lv_at hl 7 rfl) ?_
                                refine r_iload (pc := 242) C d_L_runs_242 (lv_at hl 6 rfl) ?_
                                refine r_iconst (pc := 244) C d_L_runs_244 ?_
                                refine l_callP (pc := 245) (As := [.int (iI (sg k)), .int (iI (ln k)), .int (iI 2)]) (rest := [.int (iI s2)]) C w (c_L_bits (sg k) (ln k) 2 (by omega) (by omega) (by omega)) ml_L_95 st_L_bits ini_L cd_L_bits hd_L_bits rfl (by rw [hRm]; exact ⟨⟨Nat.le_of_ble_eq_true rfl, Nat.le_of_ble_eq_true rfl⟩, Nat.le_of_ble_eq_true rfl, Nat.le_of_ble_eq_true rfl⟩) hl.1 rfl (Nat.le_of_ble_eq_true rfl) d_L_runs_245 (fun z_245 H locs hz_245 w => ?_)
                                subst hz_245
                                refine r_iadd (pc := 248) C d_L_runs_248 ?_
                                refine r_istore (pc := 249) (lv' := [(7, .int (iI (s2 + (rb 2 (sg k) (ln k))))), (6, .int (iI (s1 + (rb 1 (sg k) (ln k))))), (5, .int (iI (s0 + (rb 0 (sg k) (ln k))))), (4, .int (iI lo)), (3, .int (iI (su + ((sg k) * (ln k))))), (2, .int (iI (de + 0))), (1, .int (iI (fi + (ln k)))), (12, .int (iI (ln k))), (11, .int (iI (sg k))), (10, .int (iI k)), (8, .int (iI bf)), (9, .int (iI r)), (0, .ref o)]) C d_L_runs_249 hl (by decide) rfl (fun ls hl => ?_)
                                refine r_iload (pc := 251) C d_L_runs_251 (lv_at hl 8 rfl) ?_
                                refine r_istore (pc := 253) (lv' := [(8, .int (iI (sg k))), (7, .int (iI (s2 + (rb 2 (sg k) (ln k))))), (6, .int (iI (s1 + (rb 1 (sg k) (ln k))))), (5, .int (iI (s0 + (rb 0 (sg k) (ln k))))), (4, .int (iI lo)), (3, .int (iI (su + ((sg k) * (ln k))))), (2, .int (iI (de + 0))), (1, .int (iI (fi + (ln k)))), (12, .int (iI (ln k))), (11, .int (iI (sg k))), (10, .int (iI k)), (9, .int (iI r)), (0, .ref o)]) C d_L_runs_253 hl (by decide) rfl (fun ls hl => ?_)
                                refine r_iinc (pc := 255) (j := 10) (lv' := [(10, .int (iI (k + 1))), (8, .int (iI (sg k))), (7, .int (iI (s2 + (rb 2 (sg k) (ln k))))), (6, .int (iI (s1 + (rb 1 (sg k) (ln k))))), (5, .int (iI (s0 + (rb 0 (sg k) (ln k))))), (4, .int (iI lo)), (3, .int (iI (su + ((sg k) * (ln k))))), (2, .int (iI (de + 0))), (1, .int (iI (fi + (ln k)))), (12, .int (iI (ln k))), (11, .int (iI (sg k))), (9, .int (iI r)), (0, .ref o)]) C d_L_runs_255 hl rfl (by decide) rfl (fun ls hl => ?_)
                                refine r_goto (pc := 258) (tgt := 31) C d_L_runs_258 (by decide) ?_
                                exact ih31 (k + 1) (fi + (ln k)) (de + 0) (su + ((sg k) * (ln k))) lo (s0 + (rb 0 (sg k) (ln k))) (s1 + (rb 1 (sg k) (ln k))) (s2 + (rb 2 (sg k) (ln k))) (sg k) (by omega) (by omega) (by omega) (by omega) (by omega) (by omega) (by omega) (by omega) (by omega) (Or.inr ⟨by omega, by rw [show k + 1 - 1 = k by omega]⟩) (by omega) _ _ _ w (lv_sub hl [0, 1, 2, 3, 4, 5, 6, 7, 8, 11, 12] rfl)
                              · skip
                                refine r_iload (pc := 203) C d_L_runs_203 (lv_at hl 3 rfl) ?_
                                refine r_goto (pc := 205) (tgt := 210) C d_L_runs_205 (by decide) ?_
                                refine r_istore (pc := 210) (lv' := [(4, .int (iI (ln k))), (3, .int (iI (su + ((sg k) * (ln k))))), (2, .int (iI (de + 0))), (1, .int (iI (fi + (ln k)))), (12, .int (iI (ln k))), (11, .int (iI (sg k))), (10, .int (iI k)), (8, .int (iI bf)), (7, .int (iI s2)), (6, .int (iI s1)), (5, .int (iI s0)), (9, .int (iI r)), (0, .ref o)]) C d_L_runs_210 hl (by decide) rfl (fun ls hl => ?_)
                                refine r_iload (pc := 212) C d_L_runs_212 (lv_at hl 10 rfl) ?_
                                refine r_iload (pc := 214) C d_L_runs_214 (lv_at hl 5 rfl) ?_
                                refine r_iload (pc := 216) C d_L_runs_216 (lv_at hl 4 rfl) ?_
                                refine r_iconst (pc := 218) C d_L_runs_218 ?_
                                refine l_callP (pc := 219) (As := [.int (iI (sg k)), .int (iI (ln k)), .int (iI 0)]) (rest := [.int (iI s0)]) C w (c_L_bits (sg k) (ln k) 0 (by omega) (by omega) (by omega)) ml_L_95 st_L_bits ini_L cd_L_bits hd_L_bits rfl (by rw [hRm]; exact ⟨⟨Nat.le_of_ble_eq_true rfl, Nat.le_of_ble_eq_true rfl⟩, Nat.le_of_ble_eq_true rfl, Nat.le_of_ble_eq_true rfl⟩) hl.1 rfl (Nat.le_of_ble_eq_true rfl) d_L_runs_219 (fun z_219 H locs hz_219 w => ?_)
                                subst hz_219
                                refine r_iadd (pc := 222) C d_L_runs_222 ?_
                                refine r_istore (pc := 223) (lv' := [(5, .int (iI (s0 + (rb 0 (sg k) (ln k))))), (4, .int (iI (ln k))), (3, .int (iI (su + ((sg k) * (ln k))))), (2, .int (iI (de + 0))), (1, .int (iI (fi + (ln k)))), (12, .int (iI (ln k))), (11, .int (iI (sg k))), (10, .int (iI k)), (8, .int (iI bf)), (7, .int (iI s2)), (6, .int (iI s1)), (9, .int (iI r)), (0, .ref o)]) C d_L_runs_223 hl (by decide) rfl (fun ls hl => ?_)
                                refine r_iload (pc := 225) C d_L_runs_225 (lv_at hl 10 rfl) ?_
                                refine r_iload (pc := 227) C d_L_runs_227 (lv_at hl 6 rfl) ?_
                                refine r_iload (pc := 229) C d_L_runs_229 (lv_at hl 5 rfl) ?_
                                refine r_iconst (pc := 231) C d_L_runs_231 ?_
                                refine l_callP (pc := 232) (As := [.int (iI (sg k)), .int (iI (ln k)), .int (iI 1)]) (rest := [.int (iI s1)]) C w (c_L_bits (sg k) (ln k) 1 (by omega) (by omega) (by omega)) ml_L_95 st_L_bits ini_L cd_L_bits hd_L_bits rfl (by rw [hRm]; exact ⟨⟨Nat.le_of_ble_eq_true rfl, Nat.le_of_ble_eq_true rfl⟩, Nat.le_of_ble_eq_true rfl, Nat.le_of_ble_eq_true rfl⟩) hl.1 rfl (Nat.le_of_ble_eq_true rfl) d_L_runs_232 (fun z_232 H locs hz_232 w => ?_)
                                subst hz_232
                                refine r_iadd (pc := 235) C d_L_runs_235 ?_
                                refine r_istore (pc := 236) (lv' := [(6, .int (iI (s1 + (rb 1 (sg k) (ln k))))), (5, .int (iI (s0 + (rb 0 (sg k) (ln k))))), (4, .int (iI (ln k))), (3, .int (iI (su + ((sg k) * (ln k))))), (2, .int (iI (de + 0))), (1, .int (iI (fi + (ln k)))), (12, .int (iI (ln k))), (11, .int (iI (sg k))), (10, .int (iI k)), (8, .int (iI bf)), (7, .int (iI s2)), (9, .int (iI r)), (0, .ref o)]) C d_L_runs_236 hl (by decide) rfl (fun ls hl => ?_)
                                refine r_iload (pc := 238) C d_L_runs_238 (lv_at hl 10 rfl) ?_
                                refine r_iload (pc := 240) C d_L_runs_240 (lv_at hl 7 rfl) ?_
                                refine r_iload (pc := 242) C d_L_runs_242 (lv_at hl 6 rfl) ?_
                                refine r_iconst (pc := 244) C d_L_runs_244 ?_
                                refine l_callP (pc := 245) (As := [.int (iI (sg k)), .int (iI (ln k)), .int (iI 2)]) (rest := [.int (iI s2)]) C w (c_L_bits (sg k) (ln k) 2 (by omega) (by omega) (by omega)) ml_L_95 st_L_bits ini_L cd_L_bits hd_L_bits rfl (by rw [hRm]; exact ⟨⟨Nat.le_of_ble_eq_true rfl, Nat.le_of_ble_eq_true rfl⟩, Nat.le_of_ble_eq_true rfl, Nat.le_of_ble_eq_true rfl⟩) hl.1 rfl (Nat.le_of_ble_eq_true rfl) d_L_runs_245 (fun z_245 H locs hz_245 w => ?_)
                                subst hz_245
                                refine r_iadd (pc := 248) C d_L_runs_248 ?_
                                refine r_istore (pc := 249) (lv' := [(7, .int (iI (s2 + (rb 2 (sg k) (ln k))))), (6, .int (iI (s1 + (rb 1 (sg k) (ln k))))), (5, .int (iI (s0 + (rb 0 (sg k) (ln k))))), (4, .int (iI (ln k))), (3, .int (iI (su + ((sg k) * (ln k))))), (2, .int (iI (de + 0))), (1, .int (iI (fi + (ln k)))), (12, .int (iI (ln k))), (11, .int (iI (sg k))), (10, .int (iI k)), (8, .int (iI bf)), (9, .int (iI r)), (0, .ref o)]) C d_L_runs_249 hl (by decide) rfl (fun ls hl => ?_)
                                refine r_iload (pc := 251) C d_L_runs_251 (lv_at hl 8 rfl) ?_
                                refine r_istore (pc := 253) (lv' := [(8, .int (iI (sg k))), (7, .int (iI (s2 + (rb 2 (sg k) (ln k))))), (6, .int (iI (s1 + (rb 1 (sg k) (ln k))))), (5, .int (iI (s0 + (rb 0 (sg k) (ln k))))), (4, .int (iI (ln k))), (3, .int (iI (su + ((sg k) * (ln k))))), (2, .int (iI (de + 0))), (1, .int (iI (fi + (ln k)))), (12, .int (iI (ln k))), (11, .int (iI (sg k))), (10, .int (iI k)), (9, .int (iI r)), (0, .ref o)]) C d_L_runs_253 hl (by decide) rfl (fun ls hl => ?_)
                                refine r_iinc (pc := 255) (j := 10) (lv' := [(10, .int (iI (k + 1))), (8, .int (iI (sg k))), (7, .int (iI (s2 + (rb 2 (sg k) (ln k))))), (6, .int (iI (s1 + (rb 1 (sg k) (ln k))))), (5, .int (iI (s0 + (rb 0 (sg k) (ln k))))), (4, .int (iI (ln k))), (3, .int (iI (su + ((sg k) * (ln k))))), (2, .int (iI (de + 0))), (1, .int (iI (fi + (ln k)))), (12, .int (iI (ln k))), (11, .int (iI (sg k))), (9, .int (iI r)), (0, .ref o)]) C d_L_runs_255 hl rfl (by decide) rfl (fun ls hl => ?_)
                                refine r_goto (pc := 258) (tgt := 31) C d_L_runs_258 (by decide) ?_
                                exact ih31 (k + 1) (fi + (ln k)) (de + 0) (su + ((sg k) * (ln k))) (ln k) (s0 + (rb 0 (sg k) (ln k))) (s1 + (rb 1 (sg k) (ln k))) (s2 + (rb 2 (sg k) (ln k))) (sg k) (by omega) (by omega) (by omega) (by omega) (by omega) (by omega) (by omega) (by omega) (by omega) (Or.inr ⟨by omega, by rw [show k + 1 - 1 = k by omega]⟩) (by omega) _ _ _ w (lv_sub hl [0, 1, 2, 3, 4, 5, 6, 7, 8, 11, 12] rfl)
                            · skip
                              refine r_iconst (pc := 185) C d_L_runs_185 ?_
                              refine r_goto (pc := 186) (tgt := 194) C d_L_runs_186 (by decide) ?_
                              refine r_iadd (pc := 194) C d_L_runs_194 ?_
                              refine r_istore_n (pc := 195) (lv' := [(3, .int (iI (su + 0))), (2, .int (iI (de + 0))), (1, .int (iI (fi + (ln k)))), (12, .int (iI (ln k))), (11, .int (iI (sg k))), (10, .int (iI k)), (8, .int (iI bf)), (7, .int (iI s2)), (6, .int (iI s1)), (5, .int (iI s0)), (4, .int (iI lo)), (9, .int (iI r)), (0, .ref o)]) C d_L_runs_195 rfl hl (by decide) rfl (fun ls hl => ?_)
                              refine r_iload (pc := 196) C d_L_runs_196 (lv_at hl 3 rfl) ?_
                              refine r_iload (pc := 198) C d_L_runs_198 (lv_at hl 10 rfl) ?_
                              refine r_icmp_le (pc := 200) (tgt := 208) C (by omega) d_L_runs_200 (by decide) (fun c_200 => ?_) (fun c_200 => ?_)
                              · skip
                                refine r_iload (pc := 208) C d_L_runs_208 (lv_at hl 10 rfl) ?_
                                refine r_istore (pc := 210) (lv' := [(4, .int (iI lo)), (3, .int (iI (su + 0))), (2, .int (iI (de + 0))), (1, .int (iI (fi + (ln k)))), (12, .int (iI (ln k))), (11, .int (iI (sg k))), (10, .int (iI k)), (8, .int (iI bf)), (7, .int (iI s2)), (6, .int (iI s1)), (5, .int (iI s0)), (9, .int (iI r)), (0, .ref o)]) C d_L_runs_210 hl (by decide) rfl (fun ls hl => ?_)
                                refine r_iload (pc := 212) C d_L_runs_212 (lv_at hl 10 rfl) ?_
                                refine r_iload (pc := 214) C d_L_runs_214 (lv_at hl 5 rfl) ?_
                                refine r_iload (pc := 216) C d_L_runs_216 (lv_at hl 4 rfl) ?_
                                refine r_iconst (pc := 218) C d_L_runs_218 ?_
                                refine l_callP (pc := 219) (As := [.int (iI (sg k)), .int (iI (ln k)), .int (iI 0)]) (rest := [.int (iI s0)]) C w (c_L_bits (sg k) (ln k) 0 (by omega) (by omega) (by omega)) ml_L_95 st_L_bits ini_L cd_L_bits hd_L_bits rfl (by rw [hRm]; exact ⟨⟨Nat.le_of_ble_eq_true rfl, Nat.le_of_ble_eq_true rfl⟩, Nat.le_of_ble_eq_true rfl, Nat.le_of_ble_eq_true rfl⟩) hl.1 rfl (Nat.le_of_ble_eq_true rfl) d_L_runs_219 (fun z_219 H locs hz_219 w => ?_)
                                subst hz_219
                                refine r_iadd (pc := 222) C d_L_runs_222 ?_
                                refine r_istore (pc := 223) (lv' := [(5, .int (iI (s0 + (rb 0 (sg k) (ln k))))), (4, .int (iI lo)), (3, .int (iI (su + 0))), (2, .int (iI (de + 0))), (1, .int (iI (fi + (ln k)))), (12, .int (iI (ln k))), (11, .int (iI (sg k))), (10, .int (iI k)), (8, .int (iI bf)), (7, .int (iI s2)), (6, .int (iI s1)), (9, .int (iI r)), (0, .ref o)]) C d_L_runs_223 hl (by decide) rfl (fun ls hl => ?_)
                                refine r_iload (pc := 225) C d_L_runs_225 (lv_at hl 10 rfl) ?_
                                refine r_iload (pc := 227) C d_L_runs_227 (lv_at hl 6 rfl) ?_
                                refine r_iload (pc := 229) C d_L_runs_229 (lv_at hl 5 rfl) ?_
                                refine r_iconst (pc := 231) C d_L_runs_231 ?_
                                refine l_callP (pc := 232) (As := [.int (iI (sg k)), .int (iI (ln k)), .int (iI 1)]) (rest := [.int (iI s1)]) C w (c_L_bits (sg k) (ln k) 1 (by omega) (by omega) (by omega)) ml_L_95 st_L_bits ini_L cd_L_bits hd_L_bits rfl (by rw [hRm]; exact ⟨⟨Nat.le_of_ble_eq_true rfl, Nat.le_of_ble_eq_true rfl⟩, Nat.le_of_ble_eq_true rfl, Nat.le_of_ble_eq_true rfl⟩) hl.1 rfl (Nat.le_of_ble_eq_true rfl) d_L_runs_232 (fun z_232 H locs hz_232 w => ?_)
                                subst hz_232
                                refine r_iadd (pc := 235) C d_L_runs_235 ?_
                                refine r_istore (pc := 236) (lv' := [(6, .int (iI (s1 + (rb 1 (sg k) (ln k))))), (5, .int (iI (s0 + (rb 0 (sg k) (ln k))))), (4, .int (iI lo)), (3, .int (iI (su + 0))), (2, .int (iI (de + 0))), (1, .int (iI (fi + (ln k)))), (12, .int (iI (ln k))), (11, .int (iI (sg k))), (10, .int (iI k)), (8, .int (iI bf)), (7, .int (iI s2)), (9, .int (iI r)), (0, .ref o)]) C d_L_runs_236 hl (by decide) rfl (fun ls hl => ?_)
                                refine r_iload (pc := 238) C d_L_runs_238 (lv_at hl 10 rfl) ?_
                                refine r_iload (pc := 240) C d_L_runs_240 (lv_at hl 7 rfl) ?_
                                refine r_iload (pc := 242) C d_L_runs_242 (lv_at hl 6 rfl) ?_
                                refine r_iconst (pc := 244) C d_L_runs_244 ?_
                                refine l_callP (pc := 245) (As := [.int (iI (sg k)), .int (iI (ln k)), .int (iI 2)]) (rest := [.int (iI s2)]) C w (c_L_bits (sg k) (ln k) 2 (by omega) (by omega) (by omega)) ml_L_95 st_L_bits ini_L cd_L_bits hd_L_bits rfl (by rw [hRm]; exact ⟨⟨Nat.le_of_ble_eq_true rfl, Nat.le_of_ble_eq_true rfl⟩, Nat.le_of_ble_eq_true rfl, Nat.le_of_ble_eq_true rfl⟩) hl.1 rfl (Nat.le_of_ble_eq_true rfl) d_L_runs_245 (fun z_245 H locs hz_245 w => ?_)
                                subst hz_245
                                refine r_iadd (pc := 248) C d_L_runs_248 ?_
                                refine r_istore (pc := 249) (lv' := [(7, .int (iI (s2 + (rb 2 (sg k) (ln k))))), (6, .int (iI (s1 + (rb 1 (sg k) (ln k))))), (5, .int (iI (s0 + (rb 0 (sg k) (ln k))))), (4, .int (iI lo)), (3, .int (iI (su + 0))), (2, .int (iI (de + 0))), (1, .int (iI (fi + (ln k)))), (12, .int (iI (ln k))), (11, .int (iI (sg k))), (10, .int (iI k)), (8, .int (iI bf)), (9, .int (iI r)), (0, .ref o)]) C d_L_runs_249 hl (by decide) rfl (fun ls hl => ?_)
                                refine r_iload (pc := 251) C d_L_runs_251 (lv_at hl 8 rfl) ?_
                                refine r_istore (pc := 253) (lv' := [(8, .int (iI (sg k))), (7, .int (iI (s2 + (rb 2 (sg k) (ln k))))), (6, .int (iI (s1 + (rb 1 (sg k) (ln k))))), (5, .int (iI (s0 + (rb 0 (sg k) (ln k))))), (4, .int (iI lo)), (3, .int (iI (su + 0))), (2, .int (iI (de + 0))), (1, .int (iI (fi + (ln k)))), (12, .int (iI (ln k))), (11, .int (iI (sg k))), (10, .int (iI k)), (9, .int (iI r)), (0, .ref o)]) C d_L_runs_253 hl (by decide) rfl (fun ls hl => ?_)
                                refine r_iinc (pc := 255) (j := 10) (lv' := [(10, .int (iI (k + 1))), (8, .int (iI (sg k))), (7, .int (iI (s2 + (rb 2 (sg k) (ln k))))), (6, .int (iI (s1 + (rb 1 (sg k) (ln k))))), (5, .int (iI (s0 + (rb 0 (sg k) (ln k))))), (4, .int (iI lo)), (3, .int (iI (su + 0))), (2, .int (iI (de + 0))), (1, .int (iI (fi + (ln k)))), (12, .int (iI (ln k))), (11, .int (iI (sg k))), (9, .int (iI r)), (0, .ref o)]) C d_L_runs_255 hl rfl (by decide) rfl (fun ls hl => ?_)
                                refine r_goto (pc := 258) (tgt := 31) C d_L_runs_258 (by decide) ?_
                                exact ih31 (k + 1) (fi + (ln k)) (de + 0) (su + 0) lo (s0 + (rb 0 (sg k) (ln k))) (s1 + (rb 1 (sg k) (ln k))) (s2 + (rb 2 (sg k) (ln k))) (sg k) (by omega) (by omega) (by omega) (by omega) (by omega) (by omega) (by omega) (by omega) (by omega) (Or.inr ⟨by omega, by rw [show k + 1 - 1 = k by omega]⟩) (by omega) _ _ _ w (lv_sub hl [0, 1, 2, 3, 4, 5, 6, 7, 8, 11, 12] rfl)
                              · skip
                                refine r_iload (pc := 203) C d_L_runs_203 (lv_at hl 3 rfl) ?_
                                refine r_goto (pc := 205) (tgt := 210) C d_L_runs_205 (by decide) ?_
                                refine r_istore (pc := 210) (lv' := [(4, .int (iI (ln k))), (3, .int (iI (su + 0))), (2, .int (iI (de + 0))), (1, .int (iI (fi + (ln k)))), (12, .int (iI (ln k))), (11, .int (iI (sg k))), (10, .int (iI k)), (8, .int (iI bf)), (7, .int (iI s2)), (6, .int (iI s1)), (5, .int (iI s0)), (9, .int (iI r)), (0, .ref o)]) C d_L_runs_210 hl (by decide) rfl (fun ls hl => ?_)
                                refine r_iload (pc := 212) C d_L_runs_212 (lv_at hl 10 rfl) ?_
                                refine r_iload (pc := 214) C d_L_runs_214 (lv_at hl 5 rfl) ?_
                                refine r_iload (pc := 216) C d_L_runs_216 (lv_at hl 4 rfl) ?_
                                refine r_iconst (pc := 218) C d_L_runs_218 ?_
                                refine l_callP (pc := 219) (As := [.int (iI (sg k)), .int (iI (ln k)), .int (iI 0)]) (rest := [.int (iI s0)]) C w (c_L_bits (sg k) (ln k) 0 (by omega) (by omega) (by omega)) ml_L_95 st_L_bits ini_L cd_L_bits hd_L_bits rfl (by rw [hRm]; exact ⟨⟨Nat.le_of_ble_eq_true rfl, Nat.le_of_ble_eq_true rfl⟩, Nat.le_of_ble_eq_true rfl, Nat.le_of_ble_eq_true rfl⟩) hl.1 rfl (Nat.le_of_ble_eq_true rfl) d_L_runs_219 (fun z_219 H locs hz_219 w => ?_)
                                subst hz_219
                                refine r_iadd (pc := 222) C d_L_runs_222 ?_
                                refine r_istore (pc := 223) (lv' := [(5, .int (iI (s0 + (rb 0 (sg k) (ln k))))), (4, .int (iI (ln k))), (3, .int (iI (su + 0))), (2, .int (iI (de + 0))), (1, .int (iI (fi + (ln k)))), (12, .int (iI (ln k))), (11, .int (iI (sg k))), (10, .int (iI k)), (8, .int (iI bf)), (7, .int (iI s2)), (6, .int (iI s1)), (9, .int (iI r)), (0, .ref o)]) C d_L_runs_223 hl (by decide) rfl (fun ls hl => ?_)
                                refine r_iload (pc := 225) C d_L_runs_225 (lv_at hl 10 rfl) ?_
                                refine r_iload (pc := 227) C d_L_runs_227 (lv_at hl 6 rfl) ?_
                                refine r_iload (pc := 229) C d_L_runs_229 (lv_at hl 5 rfl) ?_
                                refine r_iconst (pc := 231) C d_L_runs_231 ?_
                                refine l_callP (pc := 232) (As := [.int (iI (sg k)), .int (iI (ln k)), .int (iI 1)]) (rest := [.int (iI s1)]) C w (c_L_bits (sg k) (ln k) 1 (by omega) (by omega) (by omega)) ml_L_95 st_L_bits ini_L cd_L_bits hd_L_bits rfl (by rw [hRm]; exact ⟨⟨Nat.le_of_ble_eq_true rfl, Nat.le_of_ble_eq_true rfl⟩, Nat.le_of_ble_eq_true rfl, Nat.le_of_ble_eq_true rfl⟩) hl.1 rfl (Nat.le_of_ble_eq_true rfl) d_L_runs_232 (fun z_232 H locs hz_232 w => ?_)
                                subst hz_232
                                refine r_iadd (pc := 235) C d_L_runs_235 ?_
                                refine r_istore (pc := 236) (lv' := [(6, .int (iI (s1 + (rb 1 (sg k) (ln k))))), (5, .int (iI (s0 + (rb 0 (sg k) (ln k))))), (4, .int (iI (ln k))), (3, .int (iI (su + 0))), (2, .int (iI (de + 0))), (1, .int (iI (fi + (ln k)))), (12, .int (iI (ln k))), (11, .int (iI (sg k))), (10, .int (iI k)), (8, .int (iI bf)), (7, .int (iI s2)), (9, .int (iI r)), (0, .ref o)]) C d_L_runs_236 hl (by decide) rfl (fun ls hl => ?_)
                                refine r_iload (pc := 238) C d_L_runs_238 (lv_at hl 10 rfl) ?_
                                refine r_iload (pc := 240) C d_L_runs_240 (lv_at hl 7 rfl) ?_
                                refine r_iload (pc := 242) C d_L_runs_242 (lv_at hl 6 rfl) ?_
                                refine r_iconst (pc := 244) C d_L_runs_244 ?_
                                refine l_callP (pc := 245) (As := [.int (iI (sg k)), .int (iI (ln k)), .int (iI 2)]) (rest := [.int (iI s2)]) C w (c_L_bits (sg k) (ln k) 2 (by omega) (by omega) (by omega)) ml_L_95 st_L_bits ini_L cd_L_bits hd_L_bits rfl (by rw [hRm]; exact ⟨⟨Nat.le_of_ble_eq_true rfl, Nat.le_of_ble_eq_true rfl⟩, Nat.le_of_ble_eq_true rfl, Nat.le_of_ble_eq_true rfl⟩) hl.1 rfl (Nat.le_of_ble_eq_true rfl) d_L_runs_245 (fun z_245 H locs hz_245 w => ?_)
                                subst hz_245
                                refine r_iadd (pc := 248) C d_L_runs_248 ?_
                                refine r_istore (pc := 249) (lv' := [(7, .int (iI (s2 + (rb 2 (sg k) (ln k))))), (6, .int (iI (s1 + (rb 1 (sg k) (ln k))))), (5, .int (iI (s0 + (rb 0 (sg k) (ln k))))), (4, .int (iI (ln k))), (3, .int (iI (su + 0))), (2, .int (iI (de + 0))), (1, .int (iI (fi + (ln k)))), (12, .int (iI (ln k))), (11, .int (iI (sg k))), (10, .int (iI k)), (8, .int (iI bf)), (9, .int (iI r)), (0, .ref o)]) C d_L_runs_249 hl (by decide) rfl (fun ls hl => ?_)
                                refine r_iload (pc := 251) C d_L_runs_251 (lv_at hl 8 rfl) ?_
                                refine r_istore (pc := 253) (lv' := [(8, .int (iI (sg k))), (7, .int (iI (s2 + (rb 2 (sg k) (ln k))))), (6, .int (iI (s1 + (rb 1 (sg k) (ln k))))), (5, .int (iI (s0 + (rb 0 (sg k) (ln k))))), (4, .int (iI (ln k))), (3, .int (iI (su + 0))), (2, .int (iI (de + 0))), (1, .int (iI (fi + (ln k)))), (12, .int (iI (ln k))), (11, .int (iI (sg k))), (10, .int (iI k)), (9, .int (iI r)), (0, .ref o)]) C d_L_runs_253 hl (by decide) rfl (fun ls hl => ?_)
                                refine r_iinc (pc := 255) (j := 10) (lv' := [(10, .int (iI (k + 1))), (8, .int (iI (sg k))), (7, .int (iI (s2 + (rb 2 (sg k) (ln k))))), (6, .int (iI (s1 + (rb 1 (sg k) (ln k))))), (5, .int (iI (s0 + (rb 0 (sg k) (ln k))))), (4, .int (iI (ln k))), (3, .int (iI (su + 0))), (2, .int (iI (de + 0))), (1, .int (iI (fi + (ln k)))), (12, .int (iI (ln k))), (11, .int (iI (sg k))), (9, .int (iI r)), (0, .ref o)]) C d_L_runs_255 hl rfl (by decide) rfl (fun ls hl => ?_)
                                refine r_goto (pc := 258) (tgt := 31) C d_L_runs_258 (by decide) ?_
                                exact ih31 (k + 1) (fi + (ln k)) (de + 0) (su + 0) (ln k) (s0 + (rb 0 (sg k) (ln k))) (s1 + (rb 1 (sg k) (ln k))) (s2 + (rb 2 (sg k) (ln k))) (sg k) (by omega) (by omega) (by omega) (by omega) (by omega) (by omega) (by omega) (by omega) (by omega) (Or.inr ⟨by omega, by rw [show k + 1 - 1 = k by omega]⟩) (by omega) _ _ _ w (lv_sub hl [0, 1, 2, 3, 4, 5, 6, 7, 8, 11, 12] rfl)
                          · skip
                            refine r_iload (pc := 169) C d_L_runs_169 (lv_at hl 1 rfl) ?_
                            refine r_goto (pc := 171) (tgt := 175) C d_L_runs_171 (by decide) ?_
                            refine r_iadd (pc := 175) C d_L_runs_175 ?_
                            refine r_istore_n (pc := 176) (lv' := [(2, .int (iI (de + (ln k)))), (1, .int (iI (fi + (ln k)))), (12, .int (iI (ln k))), (11, .int (iI (sg k))), (10, .int (iI k)), (8, .int (iI bf)), (7, .int (iI s2)), (6, .int (iI s1)), (5, .int (iI s0)), (4, .int (iI lo)), (3, .int (iI su)), (9, .int (iI r)), (0, .ref o)]) C d_L_runs_176 rfl hl (by decide) rfl (fun ls hl => ?_)
                            refine r_iload_n (pc := 177) C d_L_runs_177 rfl (lv_at hl 10 rfl) ?_
                            refine r_iload (pc := 178) C d_L_runs_178 (lv_at hl 3 rfl) ?_
                            refine r_bipush (pc := 180) C d_L_runs_180 (by decide) ?_
                            refine r_icmp_ne (pc := 182) (tgt := 189) C (by omega) d_L_runs_182 (by decide) (fun c_182 => ?_) (fun c_182 => ?_)
                            · skip
                              refine r_iload (pc := 189) C d_L_runs_189 (lv_at hl 3 rfl) ?_
                              refine r_iload (pc := 191) C d_L_runs_191 (lv_at hl 2 rfl) ?_
                              refine r_imul (pc := 193) C d_L_runs_193 ?_
                              refine r_iadd (pc := 194) C d_L_runs_194 ?_
                              refine r_istore_n (pc := 195) (lv' := [(3, .int (iI (su + ((sg k) * (ln k))))), (2, .int (iI (de + (ln k)))), (1, .int (iI (fi + (ln k)))), (12, .int (iI (ln k))), (11, .int (iI (sg k))), (10, .int (iI k)), (8, .int (iI bf)), (7, .int (iI s2)), (6, .int (iI s1)), (5, .int (iI s0)), (4, .int (iI lo)), (9, .int (iI r)), (0, .ref o)]) C d_L_runs_195 rfl hl (by decide) rfl (fun ls hl => ?_)
                              refine r_iload (pc := 196) C d_L_runs_196 (lv_at hl 3 rfl) ?_
                              refine r_iload (pc := 198) C d_L_runs_198 (lv_at hl 10 rfl) ?_
                              refine r_icmp_le (pc := 200) (tgt := 208) C (by omega) d_L_runs_200 (by decide) (fun c_200 => ?_) (fun c_200 => ?_)
                              · skip
                                refine r_iload (pc := 208) C d_L_runs_208 (lv_at hl 10 rfl) ?_
                                refine r_istore (pc := 210) (lv' := [(4, .int (iI lo)), (3, .int (iI (su + ((sg k) * (ln k))))), (2, .int (iI (de + (ln k)))), (1, .int (iI (fi + (ln k)))), (12, .int (iI (ln k))), (11, .int (iI (sg k))), (10, .int (iI k)), (8, .int (iI bf)), (7, .int (iI s2)), (6, .int (iI s1)), (5, .int (iI s0)), (9, .int (iI r)), (0, .ref o)]) C d_L_runs_210 hl (by decide) rfl (fun ls hl => ?_)
                                refine r_iload (pc := 212) C d_L_runs_212 (lv_at hl 10 rfl) ?_
                                refine r_iload (pc := 214) C d_L_runs_214 (lv_at hl 5 rfl) ?_
                                refine r_iload (pc := 216) C d_L_runs_216 (lv_at hl 4 rfl) ?_
                                refine r_iconst (pc := 218) C d_L_runs_218 ?_
                                refine l_callP (pc := 219) (As := [.int (iI (sg k)), .int (iI (ln k)), .int (iI 0)]) (rest := [.int (iI s0)]) C w (c_L_bits (sg k) (ln k) 0 (by omega) (by omega) (by omega)) ml_L_95 st_L_bits ini_L cd_L_bits hd_L_bits rfl (by rw [hRm]; exact ⟨⟨Nat.le_of_ble_eq_true rfl, Nat.le_of_ble_eq_true rfl⟩, Nat.le_of_ble_eq_true rfl, Nat.le_of_ble_eq_true rfl⟩) hl.1 rfl (Nat.le_of_ble_eq_true rfl) d_L_runs_219 (fun z_219 H locs hz_219 w => ?_)
                                subst hz_219
                                refine r_iadd (pc := 222) C d_L_runs_222 ?_
                                refine r_istore (pc := 223) (lv' := [(5, .int (iI (s0 + (rb 0 (sg k) (ln k))))), (4, .int (iI lo)), (3, .int (iI (su + ((sg k) * (ln k))))), (2, .int (iI (de + (ln k)))), (1, .int (iI (fi + (ln k)))), (12, .int (iI (ln k))), (11, .int (iI (sg k))), (10, .int (iI k)), (8, .int (iI bf)), (7, .int (iI s2)), (6, .int (iI s1)), (9, .int (iI r)), (0, .ref o)]) C d_L_runs_223 hl (by decide) rfl (fun ls hl => ?_)
                                refine r_iload (pc := 225) C d_L_runs_225 (lv_at hl 10 rfl) ?_
                                refine r_iload (pc := 227) C d_L_runs_227 (lv_at hl 6 rfl) ?_
                                refine r_iload (pc := 229) C d_L_runs_229 (lv_at hl 5 rfl) ?_
                                refine r_iconst (pc := 231) C d_L_runs_231 ?_
                                refine l_callP (pc := 232) (As := [.int (iI (sg k)), .int (iI (ln k)), .int (iI 1)]) (rest := [.int (iI s1)]) C w (c_L_bits (sg k) (ln k) 1 (by omega) (by omega) (by omega)) ml_L_95 st_L_bits ini_L cd_L_bits hd_L_bits rfl (by rw [hRm]; exact ⟨⟨Nat.le_of_ble_eq_true rfl, Nat.le_of_ble_eq_true rfl⟩, Nat.le_of_ble_eq_true rfl, Nat.le_of_ble_eq_true rfl⟩) hl.1 rfl (Nat.le_of_ble_eq_true rfl) d_L_runs_232 (fun z_232 H locs hz_232 w => ?_)
                                subst hz_232
                                refine r_iadd (pc := 235) C d_L_runs_235 ?_
                                refine r_istore (pc := 236) (lv' := [(6, .int (iI (s1 + (rb 1 (sg k) (ln k))))), (5, .int (iI (s0 + (rb 0 (sg k) (ln k))))), (4, .int (iI lo)), (3, .int (iI (su + ((sg k) * (ln k))))), (2, .int (iI (de + (ln k)))), (1, .int (iI (fi + (ln k)))), (12, .int (iI (ln k))), (11, .int (iI (sg k))), (10, .int (iI k)), (8, .int (iI bf)), (7, .int (iI s2)), (9, .int (iI r)), (0, .ref o)]) C d_L_runs_236 hl (by decide) rfl (fun ls hl => ?_)
                                refine r_iload (pc := 238) C d_L_runs_238 (lv_at hl 10 rfl) ?_
                                refine r_iload (pc := 240) C d_L_runs_240 (lv_at hl 7 rfl) ?_
                                refine r_iload (pc := 242) C d_L_runs_242 (lv_at hl 6 rfl) ?_
                                refine r_iconst (pc := 244) C d_L_runs_244 ?_
                                refine l_callP (pc := 245) (As := [.int (iI (sg k)), .int (iI (ln k)), .int (iI 2)]) (rest := [.int (iI s2)]) C w (c_L_bits (sg k) (ln k) 2 (by omega) (by omega) (by omega)) ml_L_95 st_L_bits ini_L cd_L_bits hd_L_bits rfl (by rw [hRm]; exact ⟨⟨Nat.le_of_ble_eq_true rfl, Nat.le_of_ble_eq_true rfl⟩, Nat.le_of_ble_eq_true rfl, Nat.le_of_ble_eq_true rfl⟩) hl.1 rfl (Nat.le_of_ble_eq_true rfl) d_L_runs_245 (fun z_245 H locs hz_245 w => ?_)
                                subst hz_245
                                refine r_iadd (pc := 248) C d_L_runs_248 ?_
                                refine r_istore (pc := 249) (lv' := [(7, .int (iI (s2 + (rb 2 (sg k) (ln k))))), (6, .int (iI (s1 + (rb 1 (sg k) (ln k))))), (5, .int (iI (s0 + (rb 0 (sg k) (ln k))))), (4, .int (iI lo)), (3, .int (iI (su + ((sg k) * (ln k))))), (2, .int (iI (de + (ln k)))), (1, .int (iI (fi + (ln k)))), (12, .int (iI (ln k))), (11, .int (iI (sg k))), (10, .int (iI k)), (8, .int (iI bf)), (9, .int (iI r)), (0, .ref o)]) C d_L_runs_249 hl (by decide) rfl (fun ls hl => ?_)
                                refine r_iload (pc := 251) C d_L_runs_251 (lv_at hl 8 rfl) ?_
                                refine r_istore (pc := 253) (lv' := [(8, .int (iI (sg k))), (7, .int (iI (s2 + (rb 2 (sg k) (ln k))))), (6, .int (iI (s1 + (rb 1 (sg k) (ln k))))), (5, .int (iI (s0 + (rb 0 (sg k) (ln k))))), (4, .int (iI lo)), (3, .int (iI (su + ((sg k) * (ln k))))), (2, .int (iI (de + (ln k)))), (1, .int (iI (fi + (ln k)))), (12, .int (iI (ln k))), (11, .int (iI (sg k))), (10, .int (iI k)), (9, .int (iI r)), (0, .ref o)]) C d_L_runs_253 hl (by decide) rfl (fun ls hl => ?_)
                                refine r_iinc (pc := 255) (j := 10) (lv' := [(10, .int (iI (k + 1))), (8, .int (iI (sg k))), (7, .int (iI (s2 + (rb 2 (sg k) (ln k))))), (6, .int (iI (s1 + (rb 1 (sg k) (ln k))))), (5, .int (iI (s0 + (rb 0 (sg k) (ln k))))), (4, .int (iI lo)), (3, .int (iI (su + ((sg k) * (ln k))))), (2, .int (iI (de + (ln k)))), (1, .int (iI (fi + (ln k)))), (12, .int (iI (ln k))), (11, .int (iI (sg k))), (9, .int (iI r)), (0, .ref o)]) C d_L_runs_255 hl rfl (by decide) rfl (fun ls hl => ?_)
                                refine r_goto (pc := 258) (tgt := 31) C d_L_runs_258 (by decide) ?_
                                exact ih31 (k + 1) (fi + (ln k)) (de + (ln k)) (su + ((sg k) * (ln k))) lo (s0 + (rb 0 (sg k) (ln k))) (s1 + (rb 1 (sg k) (ln k))) (s2 + (rb 2 (sg k) (ln k))) (sg k) (by omega) (by omega) (by omega) (by omega) (by omega) (by omega) (by omega) (by omega) (by omega) (Or.inr ⟨by omega, by rw [show k + 1 - 1 = k by omega]⟩) (by omega) _ _ _ w (lv_sub hl [0, 1, 2, 3, 4, 5, 6, 7, 8, 11, 12] rfl)
                              · skip
                                refine r_iload (pc := 203) C d_L_runs_203 (lv_at hl 3 rfl) ?_
                                refine r_goto (pc := 205) (tgt := 210) C d_L_runs_205 (by decide) ?_
                                refine r_istore (pc := 210) (lv' := [(4, .int (iI (ln k))), (3, .int (iI (su + ((sg k) * (ln k))))), (2, .int (iI (de + (ln k)))), (1, .int (iI (fi + (ln k)))), (12, .int (iI (ln k))), (11, .int (iI (sg k))), (10, .int (iI k)), (8, .int (iI bf)), (7, .int (iI s2)), (6, .int (iI s1)), (5, .int (iI s0)), (9, .int (iI r)), (0, .ref o)]) C d_L_runs_210 hl (by decide) rfl (fun ls hl => ?_)
                                refine r_iload (pc := 212) C d_L_runs_212 (lv_at hl 10 rfl) ?_
                                refine r_iload (pc := 214) C d_L_runs_214 (lv_at hl 5 rfl) ?_
                                refine r_iload (pc := 216) C d_L_runs_216 (lv_at hl 4 rfl) ?_
                                refine r_iconst (pc := 218) C d_L_runs_218 ?_
                                refine l_callP (pc := 219) (As := [.int (iI (sg k)), .int (iI (ln k)), .int (iI 0)]) (rest := [.int (iI s0)]) C w (c_L_bits (sg k) (ln k) 0 (by omega) (by omega) (by omega)) ml_L_95 st_L_bits ini_L cd_L_bits hd_L_bits rfl (by rw [hRm]; exact ⟨⟨Nat.le_of_ble_eq_true rfl, Nat.le_of_ble_eq_true rfl⟩, Nat.le_of_ble_eq_true rfl, Nat.le_of_ble_eq_true rfl⟩) hl.1 rfl (Nat.le_of_ble_eq_true rfl) d_L_runs_219 (fun z_219 H locs hz_219 w => ?_)
                                subst hz_219
                                refine r_iadd (pc := 222) C d_L_runs_222 ?_
                                refine r_istore (pc := 223) (lv' := [(5, .int (iI (s0 + (rb 0 (sg k) (ln k))))), (4, .int (iI (ln k))), (3, .int (iI (su + ((sg k) * (ln k))))), (2, .int (iI (de + (ln k)))), (1, .int (iI (fi + (ln k)))), (12, .int (iI (ln k))), (11, .int (iI (sg k))), (10, .int (iI k)), (8, .int (iI bf)), (7, .int (iI s2)), (6, .int (iI s1)), (9, .int (iI r)), (0, .ref o)]) C d_L_runs_223 hl (by decide) rfl (fun ls hl => ?_)
                                refine r_iload (pc := 225) C d_L_runs_225 (lv_at hl 10 rfl) ?_
                                refine r_iload (pc := 227) C d_L_runs_227 (lv_at hl 6 rfl) ?_
                                refine r_iload (pc := 229) C d_L_runs_229 (lv_at hl 5 rfl) ?_
                                refine r_iconst (pc := 231) C d_L_runs_231 ?_
                                refine l_callP (pc := 232) (As := [.int (iI (sg k)), .int (iI (ln k)), .int (iI 1)]) (rest := [.int (iI s1)]) C w (c_L_bits (sg k) (ln k) 1 (by omega) (by omega) (by omega)) ml_L_95 st_L_bits ini_L cd_L_bits hd_L_bits rfl (by rw [hRm]; exact ⟨⟨Nat.le_of_ble_eq_true rfl, Nat.le_of_ble_eq_true rfl⟩, Nat.le_of_ble_eq_true rfl, Nat.le_of_ble_eq_true rfl⟩) hl.1 rfl (Nat.le_of_ble_eq_true rfl) d_L_runs_232 (fun z_232 H locs hz_232 w => ?_)
                                subst hz_232
                                refine r_iadd (pc := 235) C d_L_runs_235 ?_
                                refine r_istore (pc := 236) (lv' := [(6, .int (iI (s1 + (rb 1 (sg k) (ln k))))), (5, .int (iI (s0 + (rb 0 (sg k) (ln k))))), (4, .int (iI (ln k))), (3, .int (iI (su + ((sg k) * (ln k))))), (2, .int (iI (de + (ln k)))), (1, .int (iI (fi + (ln k)))), (12, .int (iI (ln k))), (11, .int (iI (sg k))), (10, .int (iI k)), (8, .int (iI bf)), (7, .int (iI s2)), (9, .int (iI r)), (0, .ref o)]) C d_L_runs_236 hl (by decide) rfl (fun ls hl => ?_)
                                refine r_iload (pc := 238) C d_L_runs_238 (lv_at hl 10 rfl) ?_
                                refine r_iload (pc := 240) C d_L_runs_240 (lv_at hl 7 rfl) ?_
                                refine r_iload (pc := 242) C d_L_runs_242 (lv_at hl 6 rfl) ?_
                                refine r_iconst (pc := 244) C d_L_runs_244 ?_
                                refine l_callP (pc := 245) (As := [.int (iI (sg k)), .int (iI (ln k)), .int (iI 2)]) (rest := [.int (iI s2)]) C w (c_L_bits (sg k) (ln k) 2 (by omega) (by omega) (by omega)) ml_L_95 st_L_bits ini_L cd_L_bits hd_L_bits rfl (by rw [hRm]; exact ⟨⟨Nat.le_of_ble_eq_true rfl, Nat.le_of_ble_eq_true rfl⟩, Nat.le_of_ble_eq_true rfl, Nat.le_of_ble_eq_true rfl⟩) hl.1 rfl (Nat.le_of_ble_eq_true rfl) d_L_runs_245 (fun z_245 H locs hz_245 w => ?_)
                                subst hz_245
                                refine r_iadd (pc := 248) C d_L_runs_248 ?_
                                refine r_istore (pc := 249) (lv' := [(7, .int (iI (s2 + (rb 2 (sg k) (ln k))))), (6, .int (iI (s1 + (rb 1 (sg k) (ln k))))), (5, .int (iI (s0 + (rb 0 (sg k) (ln k))))), (4, .int (iI (ln k))), (3, .int (iI (su + ((sg k) * (ln k))))), (2, .int (iI (de + (ln k)))), (1, .int (iI (fi + (ln k)))), (12, .int (iI (ln k))), (11, .int (iI (sg k))), (10, .int (iI k)), (8, .int (iI bf)), (9, .int (iI r)), (0, .ref o)]) C d_L_runs_249 hl (by decide) rfl (fun ls hl => ?_)
                                refine r_iload (pc := 251) C d_L_runs_251 (lv_at hl 8 rfl) ?_
                                refine r_istore (pc := 253) (lv' := [(8, .int (iI (sg k))), (7, .int (iI (s2 + (rb 2 (sg k) (ln k))))), (6, .int (iI (s1 + (rb 1 (sg k) (ln k))))), (5, .int (iI (s0 + (rb 0 (sg k) (ln k))))), (4, .int (iI (ln k))), (3, .int (iI (su + ((sg k) * (ln k))))), (2, .int (iI (de + (ln k)))), (1, .int (iI (fi + (ln k)))), (12, .int (iI (ln k))), (11, .int (iI (sg k))), (10, .int (iI k)), (9, .int (iI r)), (0, .ref o)]) C d_L_runs_253 hl (by decide) rfl (fun ls hl => ?_)
                                refine r_iinc (pc := 255) (j := 10) (lv' := [(10, .int (iI (k + 1))), (8, .int (iI (sg k))), (7, .int (iI (s2 + (rb 2 (sg k) (ln k))))), (6, .int (iI (s1 + (rb 1 (sg k) (ln k))))), (5, .int (iI (s0 + (rb 0 (sg k) (ln k))))), (4, .int (iI (ln k))), (3, .int (iI (su + ((sg k) * (ln k))))), (2, .int (iI (de + (ln k)))), (1, .int (iI (fi + (ln k)))), (12, .int (iI (ln k))), (11, .int (iI (sg k))), (9, .int (iI r)), (0, .ref o)]) C d_L_runs_255 hl rfl (by decide) rfl (fun ls hl => ?_)
                                refine r_goto (pc := 258) (tgt := 31) C d_L_runs_258 (by decide) ?_
                                exact ih31 (k + 1) (fi + (ln k)) (de + (ln k)) (su + ((sg k) * (ln k))) (ln k) (s0 + (rb 0 (sg k) (ln k))) (s1 + (rb 1 (sg k) (ln k))) (s2 + (rb 2 (sg k) (ln k))) (sg k) (by omega) (by omega) (by omega) (by omega) (by omega) (by omega) (by omega) (by omega) (by omega) (Or.inr ⟨by omega, by rw [show k + 1 - 1 = k by omega]⟩) (by omega) _ _ _ w (lv_sub hl [0, 1, 2, 3, 4, 5, 6, 7, 8, 11, 12] rfl)
                            · skip
                              refine r_iconst (pc := 185) C d_L_runs_185 ?_
                              refine r_goto (pc := 186) (tgt := 194) C d_L_runs_186 (by decide) ?_
                              refine r_iadd (pc := 194) C d_L_runs_194 ?_
                              refine r_istore_n (pc := 195) (lv' := [(3, .int (iI (su + 0))), (2, .int (iI (de + (ln k)))), (1, .int (iI (fi + (ln k)))), (12, .int (iI (ln k))), (11, .int (iI (sg k))), (10, .int (iI k)), (8, .int (iI bf)), (7, .int (iI s2)), (6, .int (iI s1)), (5, .int (iI s0)), (4, .int (iI lo)), (9, .int (iI r)), (0, .ref o)]) C d_L_runs_195 rfl hl (by decide) rfl (fun ls hl => ?_)
                              refine r_iload (pc := 196) C d_L_runs_196 (lv_at hl 3 rfl) ?_
                              refine r_iload (pc := 198) C d_L_runs_198 (lv_at hl 10 rfl) ?_
                              refine r_icmp_le (pc := 200) (tgt := 208) C (by omega) d_L_runs_200 (by decide) (fun c_200 => ?_) (fun c_200 => ?_)
                              · skip
                                refine r_iload (pc := 208) C d_L_runs_208 (lv_at hl 10 rfl) ?_
                                refine r_istore (pc := 210) (lv' := [(4, .int (iI lo)), (3, .int (iI (su + 0))), (2, .int (iI (de + (ln k)))), (1, .int (iI (fi + (ln k)))), (12, .int (iI (ln k))), (11, .int (iI (sg k))), (10, .int (iI k)), (8, .int (iI bf)), (7, .int (iI s2)), (6, .int (iI s1)), (5, .int (iI s0)), (9, .int (iI r)), (0, .ref o)]) C d_L_runs_210 hl (by decide) rfl (fun ls hl => ?_)
                                refine r_iload (pc := 212) C d_L_runs_212 (lv_at hl 10 rfl) ?_
                                refine r_iload (pc := 214) C d_L_runs_214 (lv_at hl 5 rfl) ?_
                                refine r_iload (pc := 216) C d_L_runs_216 (lv_at hl 4 rfl) ?_
                                refine r_iconst (pc := 218) C d_L_runs_218 ?_
                                refine l_callP (pc := 219) (As := [.int (iI (sg k)), .int (iI (ln k)), .int (iI 0)]) (rest := [.int (iI s0)]) C w (c_L_bits (sg k) (ln k) 0 (by omega) (by omega) (by omega)) ml_L_95 st_L_bits ini_L cd_L_bits hd_L_bits rfl (by rw [hRm]; exact ⟨⟨Nat.le_of_ble_eq_true rfl, Nat.le_of_ble_eq_true rfl⟩, Nat.le_of_ble_eq_true rfl, Nat.le_of_ble_eq_true rfl⟩) hl.1 rfl (Nat.le_of_ble_eq_true rfl) d_L_runs_219 (fun z_219 H locs hz_219 w => ?_)
                                subst hz_219
                                refine r_iadd (pc := 222) C d_L_runs_222 ?_
                                refine r_istore (pc := 223) (lv' := [(5, .int (iI (s0 + (rb 0 (sg k) (ln k))))), (4, .int (iI lo)), (3, .int (iI (su + 0))), (2, .int (iI (de + (ln k)))), (1, .int (iI (fi + (ln k)))), (12, .int (iI (ln k))), (11, .int (iI (sg k))), (10, .int (iI k)), (8, .int (iI bf)), (7, .int (iI s2)), (6, .int (iI s1)), (9, .int (iI r)), (0, .ref o)]) C d_L_runs_223 hl (by decide) rfl (fun ls hl => ?_)
                                refine r_iload (pc := 225) C d_L_runs_225 (lv_at hl 10 rfl) ?_
                                refine r_iload (pc := 227) C d_L_runs_227 (lv_at hl 6 rfl) ?_
                                refine r_iload (pc := 229) C d_L_runs_229 (lv_at hl 5 rfl) ?_
                                refine r_iconst (pc := 231) C d_L_runs_231 ?_
                                refine l_callP (pc := 232) (As := [.int (iI (sg k)), .int (iI (ln k)), .int (iI 1)]) (rest := [.int (iI s1)]) C w (c_L_bits (sg k) (ln k) 1 (by omega) (by omega) (by omega)) ml_L_95 st_L_bits ini_L cd_L_bits hd_L_bits rfl (by rw [hRm]; exact ⟨⟨Nat.le_of_ble_eq_true rfl, Nat.le_of_ble_eq_true rfl⟩, Nat.le_of_ble_eq_true rfl, Nat.le_of_ble_eq_true rfl⟩) hl.1 rfl (Nat.le_of_ble_eq_true rfl) d_L_runs_232 (fun z_232 H locs hz_232 w => ?_)
                                subst hz_232
                                refine r_iadd (pc := 235) C d_L_runs_235 ?_
                                refine r_istore (pc := 236) (lv' := [(6, .int (iI (s1 + (rb 1 (sg k) (ln k))))), (5, .int (iI (s0 + (rb 0 (sg k) (ln k))))), (4, .int (iI lo)), (3, .int (iI (su + 0))), (2, .int (iI (de + (ln k)))), (1, .int (iI (fi + (ln k)))), (12, .int (iI (ln k))), (11, .int (iI (sg k))), (10, .int (iI k)), (8, .int (iI bf)), (7, .int (iI s2)), (9, .int (iI r)), (0, .ref o)]) C d_L_runs_236 hl (by decide) rfl (fun ls hl => ?_)
                                refine r_iload (pc := 238) C d_L_runs_238 (lv_at hl 10 rfl) ?_
                                refine r_iload (pc := 240) C d_L_runs_240 (lv_at hl 7 rfl) ?_
                                refine r_iload (pc := 242) C d_L_runs_242 (lv_at hl 6 rfl) ?_
                                refine r_iconst (pc := 244) C d_L_runs_244 ?_
                                refine l_callP (pc := 245) (As := [.int (iI (sg k)), .int (iI (ln k)), .int (iI 2)]) (rest := [.int (iI s2)]) C w (c_L_bits (sg k) (ln k) 2 (by omega) (by omega) (by omega)) ml_L_95 st_L_bits ini_L cd_L_bits hd_L_bits rfl (by rw [hRm]; exact ⟨⟨Nat.le_of_ble_eq_true rfl, Nat.le_of_ble_eq_true rfl⟩, Nat.le_of_ble_eq_true rfl, Nat.le_of_ble_eq_true rfl⟩) hl.1 rfl (Nat.le_of_ble_eq_true rfl) d_L_runs_245 (fun z_245 H locs hz_245 w => ?_)
                                subst hz_245
                                refine r_iadd (pc := 248) C d_L_runs_248 ?_
                                refine r_istore (pc := 249) (lv' := [(7, .int (iI (s2 + (rb 2 (sg k) (ln k))))), (6, .int (iI (s1 + (rb 1 (sg k) (ln k))))), (5, .int (iI (s0 + (rb 0 (sg k) (ln k))))), (4, .int (iI lo)), (3, .int (iI (su + 0))), (2, .int (iI (de + (ln k)))), (1, .int (iI (fi + (ln k)))), (12, .int (iI (ln k))), (11, .int (iI (sg k))), (10, .int (iI k)), (8, .int (iI bf)), (9, .int (iI r)), (0, .ref o)]) C d_L_runs_249 hl (by decide) rfl (fun ls hl => ?_)
                                refine r_iload (pc := 251) C d_L_runs_251 (lv_at hl 8 rfl) ?_
                                refine r_istore (pc := 253) (lv' := [(8, .int (iI (sg k))), (7, .int (iI (s2 + (rb 2 (sg k) (ln k))))), (6, .int (iI (s1 + (rb 1 (sg k) (ln k))))), (5, .int (iI (s0 + (rb 0 (sg k) (ln k))))), (4, .int (iI lo)), (3, .int (iI (su + 0))), (2, .int (iI (de + (ln k)))), (1, .int (iI (fi + (ln k)))), (12, .int (iI (ln k))), (11, .int (iI (sg k))), (10, .int (iI k)), (9, .int (iI r)), (0, .ref o)]) C d_L_runs_253 hl (by decide) rfl (fun ls hl => ?_)
                                refine r_iinc (pc := 255) (j := 10) (lv' := [(10, .int (iI (k + 1))), (8, .int (iI (sg k))), (7, .int (iI (s2 + (rb 2 (sg k) (ln k))))), (6, .int (iI (s1 + (rb 1 (sg k) (ln k))))), (5, .int (iI (s0 + (rb 0 (sg k) (ln k))))), (4, .int (iI lo)), (3, .int (iI (su + 0))), (2, .int (iI (de + (ln k)))), (1, .int (iI (fi + (ln k)))), (12, .int (iI (ln k))), (11, .int (iI (sg k))), (9, .int (iI r)), (0, .ref o)]) C d_L_runs_255 hl rfl (by decide) rfl (fun ls hl => ?_)
                                refine r_goto (pc := 258) (tgt := 31) C d_L_runs_258 (by decide) ?_
                                exact ih31 (k + 1) (fi + (ln k)) (de + (ln k)) (su + 0) lo (s0 + (rb 0 (sg k) (ln k))) (s1 + (rb 1 (sg k) (ln k))) (s2 + (rb 2 (sg k) (ln k))) (sg k) (by omega) (by omega) (by omega) (by omega) (by omega) (by omega) (by omega) (by omega) (by omega) (Or.inr ⟨by omega, by rw [show k + 1 - 1 = k by omega]⟩) (by omega) _ _ _ w (lv_sub hl [0, 1, 2, 3, 4, 5, 6, 7, 8, 11, 12] rfl)
                              · skip
                                refine r_iload (pc := 203) C d_L_runs_203 (lv_at hl 3 rfl) ?_
                                refine r_goto (pc := 205) (tgt := 210) C d_L_runs_205 (by decide) ?_
                                refine r_istore (pc := 210) (lv' := [(4, .int (iI (ln k))), (3, .int (iI (su + 0))), (2, .int (iI (de + (ln k)))), (1, .int (iI (fi + (ln k)))), (12, .int (iI (ln k))), (11, .int (iI (sg k))), (10, .int (iI k)), (8, .int (iI bf)), (7, .int (iI s2)), (6, .int (iI s1)), (5, .int (iI s0)), (9, .int (iI r)), (0, .ref o)]) C d_L_runs_210 hl (by decide) rfl (fun ls hl => ?_)
                                refine r_iload (pc := 212) C d_L_runs_212 (lv_at hl 10 rfl) ?_
                                refine r_iload (pc := 214) C d_L_runs_214 (lv_at hl 5 rfl) ?_
                                refine r_iload (pc := 216) C d_L_runs_216 (lv_at hl 4 rfl) ?_
                                refine r_iconst (pc := 218) C d_L_runs_218 ?_
                                refine l_callP (pc := 219) (As := [.int (iI (sg k)), .int (iI (ln k)), .int (iI 0)]) (rest := [.int (iI s0)]) C w (c_L_bits (sg k) (ln k) 0 (by omega) (by omega) (by omega)) ml_L_95 st_L_bits ini_L cd_L_bits hd_L_bits rfl (by rw [hRm]; exact ⟨⟨Nat.le_of_ble_eq_true rfl, Nat.le_of_ble_eq_true rfl⟩, Nat.le_of_ble_eq_true rfl, Nat.le_of_ble_eq_true rfl⟩) hl.1 rfl (Nat.le_of_ble_eq_true rfl) d_L_runs_219 (fun z_219 H locs hz_219 w => ?_)
                                subst hz_219
                                refine r_iadd (pc := 222) C d_L_runs_222 ?_
                                refine r_istore (pc := 223) (lv' := [(5, .int (iI (s0 + (rb 0 (sg k) (ln k))))), (4, .int (iI (ln k))), (3, .int (iI (su + 0))), (2, .int (iI (de + (ln k)))), (1, .int (iI (fi + (ln k)))), (12, .int (iI (ln k))), (11, .int (iI (sg k))), (10, .int (iI k)), (8, .int (iI bf)), (7, .int (iI s2)), (6, .int (iI s1)), (9, .int (iI r)), (0, .ref o)]) C d_L_runs_223 hl (by decide) rfl (fun ls hl => ?_)
                                refine r_iload (pc := 225) C d_L_runs_225 (lv_at hl 10 rfl) ?_
                                refine r_iload (pc := 227) C d_L_runs_227 (lv_at hl 6 rfl) ?_
                                refine r_iload (pc := 229) C d_L_runs_229 (lv_at hl 5 rfl) ?_
                                refine r_iconst (pc := 231) C d_L_runs_231 ?_
                                refine l_callP (pc := 232) (As := [.int (iI (sg k)), .int (iI (ln k)), .int (iI 1)]) (rest := [.int (iI s1)]) C w (c_L_bits (sg k) (ln k) 1 (by omega) (by omega) (by omega)) ml_L_95 st_L_bits ini_L cd_L_bits hd_L_bits rfl (by rw [hRm]; exact ⟨⟨Nat.le_of_ble_eq_true rfl, Nat.le_of_ble_eq_true rfl⟩, Nat.le_of_ble_eq_true rfl, Nat.le_of_ble_eq_true rfl⟩) hl.1 rfl (Nat.le_of_ble_eq_true rfl) d_L_runs_232 (fun z_232 H locs hz_232 w => ?_)
                                subst hz_232
                                refine r_iadd (pc := 235) C d_L_runs_235 ?_
                                refine r_istore (pc := 236) (lv' := [(6, .int (iI (s1 + (rb 1 (sg k) (ln k))))), (5, .int (iI (s0 + (rb 0 (sg k) (ln k))))), (4, .int (iI (ln k))), (3, .int (iI (su + 0))), (2, .int (iI (de + (ln k)))), (1, .int (iI (fi + (ln k)))), (12, .int (iI (ln k))), (11, .int (iI (sg k))), (10, .int (iI k)), (8, .int (iI bf)), (7, .int (iI s2)), (9, .int (iI r)), (0, .ref o)]) C d_L_runs_236 hl (by decide) rfl (fun ls hl => ?_)
                                refine r_iload (pc := 238) C d_L_runs_238 (lv_at hl 10 rfl) ?_
                                refine r_iload (pc := 240) C d_L_runs_240 (lv_at hl 7 rfl) ?_
                                refine r_iload (pc := 242) C d_L_runs_242 (lv_at hl 6 rfl) ?_
                                refine r_iconst (pc := 244) C d_L_runs_244 ?_
                                refine l_callP (pc := 245) (As := [.int (iI (sg k)), .int (iI (ln k)), .int (iI 2)]) (rest := [.int (iI s2)]) C w (c_L_bits (sg k) (ln k) 2 (by omega) (by omega) (by omega)) ml_L_95 st_L_bits ini_L cd_L_bits hd_L_bits rfl (by rw [hRm]; exact ⟨⟨Nat.le_of_ble_eq_true rfl, Nat.le_of_ble_eq_true rfl⟩, Nat.le_of_ble_eq_true rfl, Nat.le_of_ble_eq_true rfl⟩) hl.1 rfl (Nat.le_of_ble_eq_true rfl) d_L_runs_245 (fun z_245 H locs hz_245 w => ?_)
                                subst hz_245
                                refine r_iadd (pc := 248) C d_L_runs_248 ?_
                                refine r_istore (pc := 249) (lv' := [(7, .int (iI (s2 + (rb 2 (sg k) (ln k))))), (6, .int (iI (s1 + (rb 1 (sg k) (ln k))))), (5, .int (iI (s0 + (rb 0 (sg k) (ln k))))), (4, .int (iI (ln k))), (3, .int (iI (su + 0))), (2, .int (iI (de + (ln k)))), (1, .int (iI (fi + (ln k)))), (12, .int (iI (ln k))), (11, .int (iI (sg k))), (10, .int (iI k)), (8, .int (iI bf)), (9, .int (iI r)), (0, .ref o)]) C d_L_runs_249 hl (by decide) rfl (fun ls hl => ?_)
                                refine r_iload (pc := 251) C d_L_runs_251 (lv_at hl 8 rfl) ?_
                                refine r_istore (pc := 253) (lv' := [(8, .int (iI (sg k))), (7, .int (iI (s2 + (rb 2 (sg k) (ln k))))), (6, .int (iI (s1 + (rb 1 (sg k) (ln k))))), (5, .int (iI (s0 + (rb 0 (sg k) (ln k))))), (4, .int (iI (ln k))), (3, .int (iI (su + 0))), (2, .int (iI (de + (ln k)))), (1, .int (iI (fi + (ln k)))), (12, .int (iI (ln k))), (11, .int (iI (sg k))), (10, .int (iI k)), (9, .int (iI r)), (0, .ref o)]) C d_L_runs_253 hl (by decide) rfl (fun ls hl => ?_)
                                refine r_iinc (pc := 255) (j := 10) (lv' := [(10, .int (iI (k + 1))), (8, .int (iI (sg k))), (7, .int (iI (s2 + (rb 2 (sg k) (ln k))))), (6, .int (iI (s1 + (rb 1 (sg k) (ln k))))), (5, .int (iI (s0 + (rb 0 (sg k) (ln k))))), (4, .int (iI (ln k))), (3, .int (iI (su + 0))), (2, .int (iI (de + (ln k)))), (1, .int (iI (fi + (ln k)))), (12, .int (iI (ln k))), (11, .int (iI (sg k))), (9, .int (iI r)), (0, .ref o)]) C d_L_runs_255 hl rfl (by decide) rfl (fun ls hl => ?_)
                                refine r_goto (pc := 258) (tgt := 31) C d_L_runs_258 (by decide) ?_
                                exact ih31 (k + 1) (fi + (ln k)) (de + (ln k)) (su + 0) (ln k) (s0 + (rb 0 (sg k) (ln k))) (s1 + (rb 1 (sg k) (ln k))) (s2 + (rb 2 (sg k) (ln k))) (sg k) (by omega) (by omega) (by omega) (by omega) (by omega) (by omega) (by omega) (by omega) (by omega) (Or.inr ⟨by omega, by rw [show k + 1 - 1 = k by omega]⟩) (by omega) _ _ _ w (lv_sub hl [0, 1, 2, 3, 4, 5, 6, 7, 8, 11, 12] rfl)
                        · skip
                          exact absurd rfl c_151
  exact L31 ((r - 0) + 1 : Int).toNat 0 0 0 0 0 0 0 0 (-1) (by first | omega | rfl) (by first | omega | rfl) (by first | omega | rfl) (by first | omega | rfl) (by first | omega | rfl) (by first | omega | rfl) (by first | omega | rfl) (by first | omega | rfl) (by first | omega | rfl) (by first | omega | rfl) (by omega) _ _ _ w (lv_sub hl [0, 2, 3, 4, 5, 6, 7, 8, 9, 1, 10] rfl)
