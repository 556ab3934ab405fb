/-! the law's walk -/
theorem flt_0 (T : Int → Int) : Flt T 0 0 := Or.inr (Or.inr ⟨fun j j1 j2 => by omega, by rw [pst_zero]; rintro (h | h) <;> exact absurd h (by decide), rfl⟩)
section SP5
variable {lc sd r : Int} {sg ln : Int → Int} {N : Int} {v : Int → Int} {hist : Int → Rw} {rcd : Int} {slot : Int → Rw} {uf T : Int → Int} {m z : Int} {A' : AS}
theorem q_undo_X (h : Sp_undo ((lc, sd, r, sg, ln, N, v), hist, 0, slot, uf, T, m) z A') : A' = ((lc, sd, r, sg, ln, N, v), hist, 0, slot, uf, T, m) ∧ z = -5 := by
  rcases h with ⟨-, h2, h3⟩ | ⟨h1, -⟩
  · exact ⟨h3, h2⟩
  · omega
theorem q_fault_0 (h : Sp_fault ((lc, sd, r, sg, ln, N, v), hist, rcd, slot, uf, T, 0) z A') : A' = ((lc, sd, r, sg, ln, N, v), hist, rcd, slot, uf, T, 0) ∧ z = 0 := ⟨h.1, h.2.uniq (flt_0 T)⟩
theorem q_load_0 (h : Sp_load ((lc, sd, r, sg, ln, N, v), hist, rcd, slot, uf, T, 0) z A') : A' = ((lc, sd, r, sg, ln, N, v), hist, rcd, slot, uf, T, 0) ∧ z = -3 := by
  rcases h with ⟨f, -, -, h3, h4⟩ | ⟨h1, -⟩ | ⟨h1, -⟩
  · exact ⟨h4, h3⟩
  · exact absurd (h1.uniq (flt_0 T)) (by decide)
  · exact absurd (h1.uniq (flt_0 T)) (by decide)
theorem q_find_0 (h : Sp_find 0 7 ((lc, sd, r, sg, ln, 0, v), hist, rcd, slot, uf, T, m) z A') : A' = ((lc, sd, r, sg, ln, 0, v), hist, rcd, slot, uf, T, m) ∧ z = -6 := by
  obtain ⟨h1, h2⟩ := h
  refine ⟨h1, ?_⟩
  rcases h2 with h2 | ⟨-, ⟨h2, -⟩ | ⟨e, h2, h3, -⟩⟩
  · omega
  · exact h2
  · have := dl_pos (n := 7) (by omega)
    omega
theorem q_save_0 (h : Sp_save 0 ((lc, sd, r, sg, ln, N, v), hist, rcd, slot, uf, T, m) z A') : z = N ∧ ∃ sg' ln' : Int → Int, RwOk lc sd r sg' ln' N v ∧ A' = ((lc, sd, r, sg, ln, N, v), hist, rcd, up slot 0 (lc, sd, r, sg', ln', N, v), up uf 0 1, T, m) := by
  rcases h with ⟨h1, -⟩ | ⟨-, h2, h3⟩
  · omega
  · exact ⟨h2, h3⟩
/-- an edit after which slots are as before -/
theorem q_slots {err lc1 sd1 N1 ans : Int} {v1 : Int → Int} (hR : RwOk lc sd r sg ln N v) (hrc : 0 ≤ rcd ∧ rcd ≤ 6) (h : SpE ((lc, sd, r, sg, ln, N, v), hist, rcd, slot, uf, T, m) z A' err lc1 sd1 N1 v1 ans) : ∃ (lc2 sd2 r2 : Int) (sg2 ln2 : Int → Int) (N2 : Int) (v2 : Int → Int) (hist2 : Int → Rw) (rcd2 : Int), A' = ((lc2, sd2, r2, sg2, ln2, N2, v2), hist2, rcd2, slot, uf, T, m) ∧ RwOk lc2 sd2 r2 sg2 ln2 N2 v2 := by
  rcases h with ⟨-, -, h3⟩ | ⟨-, -, -, h3⟩ | ⟨-, -, -, h3⟩
  · exact ⟨_, _, _, _, _, _, _, _, _, h3, hR⟩
  · exact ⟨_, _, _, _, _, _, _, _, _, h3, hR⟩
  · obtain ⟨r1, sg1, ln1, hist1, rcd1, e1, e2, -⟩ := pushed_undo hrc h3
    exact ⟨_, _, _, _, _, _, _, _, _, e1, e2⟩
theorem q_ins (hN : 0 ≤ N) (h : Sp_insert 0 10 1 ((lc, sd, r, sg, ln, N, v), hist, rcd, slot, uf, T, m) z A') : (-5 ≤ z ∧ z ≤ N + 1) ∧ z ≠ 0 := by
  have he : errIns N 0 10 1 = 0 := by unfold errIns; rw [if_pos (by omega), if_pos (by omega)]
  rcases h with ⟨h1, -⟩ | ⟨-, -, h2, -⟩ | ⟨-, -, h2, -⟩
  · exact absurd he h1
  · omega
  · omega
theorem q_set2 (hR : RwOk lc sd r sg ln N v) (h : Sp_set 0 2 ((lc, sd, r, sg, ln, N, v), hist, rcd, slot, uf, T, m) z A') : 0 ≤ z ∧ z ≤ 2 := by
  have he : errSet 0 2 = 0 := by decide
  obtain ⟨hO, hr50, hN3, hlc, hsd⟩ := hR
  have hf : fits_ N v := ⟨hN3, by rw [hO.rcE]; exact hr50⟩
  rcases h with ⟨h1, -⟩ | ⟨-, h1, -⟩ | ⟨-, -, h2, -⟩
  · exact absurd he h1
  · exact absurd hf h1
  · have h2 : z = lc := h2
    omega
theorem q_rest {lc1 sd1 r1 : Int} {sg1 ln1 : Int → Int} {N1 : Int} {v1 : Int → Int} (hu : uf 0 = 1) (hs : slot 0 = (lc1, sd1, r1, sg1, ln1, N1, v1)) (hR : RwOk lc1 sd1 r1 sg1 ln1 N1 v1) (hrc : 0 ≤ rcd ∧ rcd ≤ 6) (h : Sp_restore 0 ((lc, sd, r, sg, ln, N, v), hist, rcd, slot, uf, T, m) z A') : z = N1 ∧ ∃ (r2 : Int) (sg2 ln2 : Int → Int) (hist2 : Int → Rw) (rcd2 : Int), A' = ((lc1, sd1, r2, sg2, ln2, N1, v1), hist2, rcd2, slot, uf, T, m) ∧ RwOk lc1 sd1 r2 sg2 ln2 N1 v1 := by
  have h : SpE ((lc, sd, r, sg, ln, N, v), hist, rcd, slot, uf, T, m) z A' (errRe 0 (uf 0)) (slot 0).1 (slot 0).2.1 (slot 0).2.2.2.2.2.1 (slot 0).2.2.2.2.2.2 (slot 0).2.2.2.2.2.1 := h
  rw [hs, hu] at h
  have h : SpE ((lc, sd, r, sg, ln, N, v), hist, rcd, slot, uf, T, m) z A' (errRe 0 1) lc1 sd1 N1 v1 N1 := h
  obtain ⟨hO, hr50, hN3, hlc, hsd⟩ := hR
  obtain ⟨h1, h2⟩ := q_ok h (by decide) ⟨hN3, by rw [hO.rcE]; exact hr50⟩
  obtain ⟨r2, sg2, ln2, hist2, rcd2, e1, e2, -⟩ := pushed_undo hrc h2
  exact ⟨h1, r2, sg2, ln2, hist2, rcd2, e1, e2⟩
end SP5
theorem d_L_law_0 : decode code 0 = .ok (.new 12, 3) := by decide +kernel
theorem d_L_law_3 : decode code 3 = .ok (.dup, 1) := by decide +kernel
theorem d_L_law_4 : decode code 4 = .ok (.invokespecial 142, 3) := by decide +kernel
theorem d_L_law_7 : decode code 7 = .ok (.astore_n 1, 1) := by decide +kernel
theorem d_L_law_8 : decode code 8 = .ok (.aload_n 1, 1) := by decide +kernel
theorem d_L_law_9 : decode code 9 = .ok (.invokevirtual 119, 3) := by decide +kernel
theorem d_L_law_12 : decode code 12 = .ok (.bipush (-5), 2) := by decide +kernel
theorem d_L_law_14 : decode code 14 = .ok (.if_icmp .ne 82, 3) := by decide +kernel
theorem d_L_law_17 : decode code 17 = .ok (.aload_n 1, 1) := by decide +kernel
theorem d_L_law_18 : decode code 18 = .ok (.iconst 0, 1) := by decide +kernel
theorem d_L_law_19 : decode code 19 = .ok (.invokevirtual 89, 3) := by decide +kernel
theorem d_L_law_22 : decode code 22 = .ok (.bipush (-5), 2) := by decide +kernel
theorem d_L_law_24 : decode code 24 = .ok (.if_icmp .ne 72, 3) := by decide +kernel
theorem d_L_law_27 : decode code 27 = .ok (.aload_n 1, 1) := by decide +kernel
theorem d_L_law_28 : decode code 28 = .ok (.invokevirtual 113, 3) := by decide +kernel
theorem d_L_law_31 : decode code 31 = .ok (.ifCond .ne 65, 3) := by decide +kernel
theorem d_L_law_34 : decode code 34 = .ok (.aload_n 1, 1) := by decide +kernel
theorem d_L_law_35 : decode code 35 = .ok (.invokevirtual 116, 3) := by decide +kernel
theorem d_L_law_38 : decode code 38 = .ok (.bipush (-3), 2) := by decide +kernel
theorem d_L_law_40 : decode code 40 = .ok (.if_icmp .ne 56, 3) := by decide +kernel
theorem d_L_law_43 : decode code 43 = .ok (.aload_n 1, 1) := by decide +kernel
theorem d_L_law_44 : decode code 44 = .ok (.bipush 10, 2) := by decide +kernel
theorem d_L_law_46 : decode code 46 = .ok (.invokevirtual 11, 3) := by decide +kernel
theorem d_L_law_49 : decode code 49 = .ok (.iconst 1, 1) := by decide +kernel
theorem d_L_law_50 : decode code 50 = .ok (.if_icmp .ne 46, 3) := by decide +kernel
theorem d_L_law_53 : decode code 53 = .ok (.aload_n 1, 1) := by decide +kernel
theorem d_L_law_54 : decode code 54 = .ok (.invokevirtual 98, 3) := by decide +kernel
theorem d_L_law_57 : decode code 57 = .ok (.ifCond .ne 39, 3) := by decide +kernel
theorem d_L_law_60 : decode code 60 = .ok (.aload_n 1, 1) := by decide +kernel
theorem d_L_law_61 : decode code 61 = .ok (.invokevirtual 125, 3) := by decide +kernel
theorem d_L_law_64 : decode code 64 = .ok (.ifCond .ne 32, 3) := by decide +kernel
theorem d_L_law_67 : decode code 67 = .ok (.aload_n 1, 1) := by decide +kernel
theorem d_L_law_68 : decode code 68 = .ok (.iconst 0, 1) := by decide +kernel
theorem d_L_law_69 : decode code 69 = .ok (.bipush 7, 2) := by decide +kernel
theorem d_L_law_71 : decode code 71 = .ok (.invokevirtual 73, 3) := by decide +kernel
theorem d_L_law_74 : decode code 74 = .ok (.bipush (-6), 2) := by decide +kernel
theorem d_L_law_76 : decode code 76 = .ok (.if_icmp .ne 20, 3) := by decide +kernel
theorem d_L_law_79 : decode code 79 = .ok (.aload_n 1, 1) := by decide +kernel
theorem d_L_law_80 : decode code 80 = .ok (.iconst 1, 1) := by decide +kernel
theorem d_L_law_81 : decode code 81 = .ok (.invokevirtual 70, 3) := by decide +kernel
theorem d_L_law_84 : decode code 84 = .ok (.bipush (-6), 2) := by decide +kernel
theorem d_L_law_86 : decode code 86 = .ok (.if_icmp .ne 10, 3) := by decide +kernel
theorem d_L_law_89 : decode code 89 = .ok (.aload_n 1, 1) := by decide +kernel
theorem d_L_law_90 : decode code 90 = .ok (.invokestatic 143, 3) := by decide +kernel
theorem d_L_law_93 : decode code 93 = .ok (.ifCond .ne 5, 3) := by decide +kernel
theorem d_L_law_96 : decode code 96 = .ok (.iconst 0, 1) := by decide +kernel
theorem d_L_law_97 : decode code 97 = .ok (.ireturn, 1) := by decide +kernel
theorem d_L_law_98 : decode code 98 = .ok (.iconst 0, 1) := by decide +kernel
theorem d_L_law_99 : decode code 99 = .ok (.istore_n 2, 1) := by decide +kernel
theorem d_L_law_100 : decode code 100 = .ok (.iload_n 2, 1) := by decide +kernel
theorem d_L_law_101 : decode code 101 = .ok (.bipush 24, 2) := by decide +kernel
theorem d_L_law_103 : decode code 103 = .ok (.if_icmp .ge 139, 3) := by decide +kernel
theorem d_L_law_106 : decode code 106 = .ok (.aload_n 0, 1) := by decide +kernel
theorem d_L_law_107 : decode code 107 = .ok (.iload_n 2, 1) := by decide +kernel
theorem d_L_law_108 : decode code 108 = .ok (.invokestatic 146, 3) := by decide +kernel
theorem d_L_law_111 : decode code 111 = .ok (.istore_n 3, 1) := by decide +kernel
theorem d_L_law_112 : decode code 112 = .ok (.aload_n 1, 1) := by decide +kernel
theorem d_L_law_113 : decode code 113 = .ok (.bipush 8, 2) := by decide +kernel
theorem d_L_law_115 : decode code 115 = .ok (.invokevirtual 11, 3) := by decide +kernel
theorem d_L_law_118 : decode code 118 = .ok (.istore 4, 2) := by decide +kernel
theorem d_L_law_120 : decode code 120 = .ok (.aload_n 1, 1) := by decide +kernel
theorem d_L_law_121 : decode code 121 = .ok (.invokestatic 21, 3) := by decide +kernel
theorem d_L_law_124 : decode code 124 = .ok (.lstore 5, 2) := by decide +kernel
theorem d_L_law_126 : decode code 126 = .ok (.aload_n 1, 1) := by decide +kernel
theorem d_L_law_127 : decode code 127 = .ok (.iload_n 3, 1) := by decide +kernel
theorem d_L_law_128 : decode code 128 = .ok (.aload_n 0, 1) := by decide +kernel
theorem d_L_law_129 : decode code 129 = .ok (.bipush 24, 2) := by decide +kernel
theorem d_L_law_131 : decode code 131 = .ok (.iload_n 2, 1) := by decide +kernel
theorem d_L_law_132 : decode code 132 = .ok (.iadd, 1) := by decide +kernel
theorem d_L_law_133 : decode code 133 = .ok (.invokestatic 146, 3) := by decide +kernel
theorem d_L_law_136 : decode code 136 = .ok (.invokestatic 150, 3) := by decide +kernel
theorem d_L_law_139 : decode code 139 = .ok (.istore 7, 2) := by decide +kernel
theorem d_L_law_141 : decode code 141 = .ok (.iload 7, 2) := by decide +kernel
theorem d_L_law_143 : decode code 143 = .ok (.ifCond .ge 27, 3) := by decide +kernel
theorem d_L_law_146 : decode code 146 = .ok (.aload_n 1, 1) := by decide +kernel
theorem d_L_law_147 : decode code 147 = .ok (.invokestatic 21, 3) := by decide +kernel
theorem d_L_law_150 : decode code 150 = .ok (.lload 5, 2) := by decide +kernel
theorem d_L_law_152 : decode code 152 = .ok (.lcmp, 1) := by decide +kernel
theorem d_L_law_153 : decode code 153 = .ok (.ifCond .ne 81, 3) := by decide +kernel
theorem d_L_law_156 : decode code 156 = .ok (.aload_n 1, 1) := by decide +kernel
theorem d_L_law_157 : decode code 157 = .ok (.bipush 8, 2) := by decide +kernel
theorem d_L_law_159 : decode code 159 = .ok (.invokevirtual 11, 3) := by decide +kernel
theorem d_L_law_162 : decode code 162 = .ok (.iload 4, 2) := by decide +kernel
theorem d_L_law_164 : decode code 164 = .ok (.if_icmp .eq 72, 3) := by decide +kernel
theorem d_L_law_167 : decode code 167 = .ok (.goto 67, 3) := by decide +kernel
theorem d_L_law_170 : decode code 170 = .ok (.aload_n 1, 1) := by decide +kernel
theorem d_L_law_171 : decode code 171 = .ok (.bipush 8, 2) := by decide +kernel
theorem d_L_law_173 : decode code 173 = .ok (.invokevirtual 11, 3) := by decide +kernel
theorem d_L_law_176 : decode code 176 = .ok (.iload 4, 2) := by decide +kernel
theorem d_L_law_178 : decode code 178 = .ok (.bipush 6, 2) := by decide +kernel
theorem d_L_law_180 : decode code 180 = .ok (.if_icmp .ge 10, 3) := by decide +kernel
theorem d_L_law_183 : decode code 183 = .ok (.iload 4, 2) := by decide +kernel
theorem d_L_law_185 : decode code 185 = .ok (.iconst 1, 1) := by decide +kernel
theorem d_L_law_186 : decode code 186 = .ok (.iadd, 1) := by decide +kernel
theorem d_L_law_187 : decode code 187 = .ok (.goto 5, 3) := by decide +kernel
theorem d_L_law_190 : decode code 190 = .ok (.bipush 6, 2) := by decide +kernel
theorem d_L_law_192 : decode code 192 = .ok (.if_icmp .ne 42, 3) := by decide +kernel
theorem d_L_law_195 : decode code 195 = .ok (.iload_n 3, 1) := by decide +kernel
theorem d_L_law_196 : decode code 196 = .ok (.bipush 24, 2) := by decide +kernel
theorem d_L_law_198 : decode code 198 = .ok (.ishr, 1) := by decide +kernel
theorem d_L_law_199 : decode code 199 = .ok (.iconst 3, 1) := by decide +kernel
theorem d_L_law_200 : decode code 200 = .ok (.iand, 1) := by decide +kernel
theorem d_L_law_201 : decode code 201 = .ok (.ifCond .ne 35, 3) := by decide +kernel
theorem d_L_law_204 : decode code 204 = .ok (.aload_n 1, 1) := by decide +kernel
theorem d_L_law_205 : decode code 205 = .ok (.invokevirtual 119, 3) := by decide +kernel
theorem d_L_law_208 : decode code 208 = .ok (.iload 4, 2) := by decide +kernel
theorem d_L_law_210 : decode code 210 = .ok (.bipush 6, 2) := by decide +kernel
theorem d_L_law_212 : decode code 212 = .ok (.if_icmp .ge 8, 3) := by decide +kernel
theorem d_L_law_215 : decode code 215 = .ok (.iload 4, 2) := by decide +kernel
theorem d_L_law_217 : decode code 217 = .ok (.goto 4, 3) := by decide +kernel
theorem d_L_law_220 : decode code 220 = .ok (.iconst 5, 1) := by decide +kernel
theorem d_L_law_221 : decode code 221 = .ok (.if_icmp .ne 13, 3) := by decide +kernel
theorem d_L_law_224 : decode code 224 = .ok (.aload_n 1, 1) := by decide +kernel
theorem d_L_law_225 : decode code 225 = .ok (.invokestatic 21, 3) := by decide +kernel
theorem d_L_law_228 : decode code 228 = .ok (.lload 5, 2) := by decide +kernel
theorem d_L_law_230 : decode code 230 = .ok (.lcmp, 1) := by decide +kernel
theorem d_L_law_231 : decode code 231 = .ok (.ifCond .eq 5, 3) := by decide +kernel
theorem d_L_law_234 : decode code 234 = .ok (.iconst 0, 1) := by decide +kernel
theorem d_L_law_235 : decode code 235 = .ok (.ireturn, 1) := by decide +kernel
theorem d_L_law_236 : decode code 236 = .ok (.iinc 2 1, 3) := by decide +kernel
theorem d_L_law_239 : decode code 239 = .ok (.goto (-139), 3) := by decide +kernel
theorem d_L_law_242 : decode code 242 = .ok (.aload_n 1, 1) := by decide +kernel
theorem d_L_law_243 : decode code 243 = .ok (.aload_n 0, 1) := by decide +kernel
theorem d_L_law_244 : decode code 244 = .ok (.bipush 48, 2) := by decide +kernel
theorem d_L_law_246 : decode code 246 = .ok (.invokestatic 146, 3) := by decide +kernel
theorem d_L_law_249 : decode code 249 = .ok (.invokestatic 153, 3) := by decide +kernel
theorem d_L_law_252 : decode code 252 = .ok (.ifCond .eq 23, 3) := by decide +kernel
theorem d_L_law_255 : decode code 255 = .ok (.aload_n 1, 1) := by decide +kernel
theorem d_L_law_256 : decode code 256 = .ok (.aload_n 0, 1) := by decide +kernel
theorem d_L_law_257 : decode code 257 = .ok (.bipush 49, 2) := by decide +kernel
theorem d_L_law_259 : decode code 259 = .ok (.invokestatic 146, 3) := by decide +kernel
theorem d_L_law_262 : decode code 262 = .ok (.invokestatic 156, 3) := by decide +kernel
theorem d_L_law_265 : decode code 265 = .ok (.ifCond .eq 10, 3) := by decide +kernel
theorem d_L_law_268 : decode code 268 = .ok (.aload_n 1, 1) := by decide +kernel
theorem d_L_law_269 : decode code 269 = .ok (.invokestatic 143, 3) := by decide +kernel
theorem d_L_law_272 : decode code 272 = .ok (.ifCond .ne 5, 3) := by decide +kernel
theorem d_L_law_275 : decode code 275 = .ok (.iconst 0, 1) := by decide +kernel
theorem d_L_law_276 : decode code 276 = .ok (.ireturn, 1) := by decide +kernel
theorem d_L_law_277 : decode code 277 = .ok (.aload_n 1, 1) := by decide +kernel
theorem d_L_law_278 : decode code 278 = .ok (.invokestatic 21, 3) := by decide +kernel
theorem d_L_law_281 : decode code 281 = .ok (.lstore_n 2, 1) := by decide +kernel
theorem d_L_law_282 : decode code 282 = .ok (.aload_n 1, 1) := by decide +kernel
theorem d_L_law_283 : decode code 283 = .ok (.iconst 0, 1) := by decide +kernel
theorem d_L_law_284 : decode code 284 = .ok (.invokevirtual 11, 3) := by decide +kernel
theorem d_L_law_287 : decode code 287 = .ok (.istore 4, 2) := by decide +kernel
theorem d_L_law_289 : decode code 289 = .ok (.aload_n 1, 1) := by decide +kernel
theorem d_L_law_290 : decode code 290 = .ok (.iconst 0, 1) := by decide +kernel
theorem d_L_law_291 : decode code 291 = .ok (.invokevirtual 86, 3) := by decide +kernel
theorem d_L_law_294 : decode code 294 = .ok (.iload 4, 2) := by decide +kernel
theorem d_L_law_296 : decode code 296 = .ok (.if_icmp .ne 59, 3) := by decide +kernel
theorem d_L_law_299 : decode code 299 = .ok (.aload_n 1, 1) := by decide +kernel
theorem d_L_law_300 : decode code 300 = .ok (.iconst 0, 1) := by decide +kernel
theorem d_L_law_301 : decode code 301 = .ok (.bipush 10, 2) := by decide +kernel
theorem d_L_law_303 : decode code 303 = .ok (.iconst 1, 1) := by decide +kernel
theorem d_L_law_304 : decode code 304 = .ok (.invokevirtual 30, 3) := by decide +kernel
theorem d_L_law_307 : decode code 307 = .ok (.ifCond .eq 48, 3) := by decide +kernel
theorem d_L_law_310 : decode code 310 = .ok (.aload_n 1, 1) := by decide +kernel
theorem d_L_law_311 : decode code 311 = .ok (.iconst 0, 1) := by decide +kernel
theorem d_L_law_312 : decode code 312 = .ok (.iconst 2, 1) := by decide +kernel
theorem d_L_law_313 : decode code 313 = .ok (.invokevirtual 27, 3) := by decide +kernel
theorem d_L_law_316 : decode code 316 = .ok (.ifCond .lt 39, 3) := by decide +kernel
theorem d_L_law_319 : decode code 319 = .ok (.aload_n 1, 1) := by decide +kernel
theorem d_L_law_320 : decode code 320 = .ok (.iconst 0, 1) := by decide +kernel
theorem d_L_law_321 : decode code 321 = .ok (.invokevirtual 89, 3) := by decide +kernel
theorem d_L_law_324 : decode code 324 = .ok (.iload 4, 2) := by decide +kernel
theorem d_L_law_326 : decode code 326 = .ok (.if_icmp .ne 29, 3) := by decide +kernel
theorem d_L_law_329 : decode code 329 = .ok (.aload_n 1, 1) := by decide +kernel
theorem d_L_law_330 : decode code 330 = .ok (.invokestatic 21, 3) := by decide +kernel
theorem d_L_law_333 : decode code 333 = .ok (.lload_n 2, 1) := by decide +kernel
theorem d_L_law_334 : decode code 334 = .ok (.lcmp, 1) := by decide +kernel
theorem d_L_law_335 : decode code 335 = .ok (.ifCond .ne 20, 3) := by decide +kernel
theorem d_L_law_338 : decode code 338 = .ok (.aload_n 1, 1) := by decide +kernel
theorem d_L_law_339 : decode code 339 = .ok (.aload_n 0, 1) := by decide +kernel
theorem d_L_law_340 : decode code 340 = .ok (.bipush 50, 2) := by decide +kernel
theorem d_L_law_342 : decode code 342 = .ok (.invokestatic 146, 3) := by decide +kernel
theorem d_L_law_345 : decode code 345 = .ok (.invokestatic 153, 3) := by decide +kernel
theorem d_L_law_348 : decode code 348 = .ok (.ifCond .eq 7, 3) := by decide +kernel
theorem d_L_law_351 : decode code 351 = .ok (.iconst 1, 1) := by decide +kernel
theorem d_L_law_352 : decode code 352 = .ok (.goto 4, 3) := by decide +kernel
theorem d_L_law_355 : decode code 355 = .ok (.iconst 0, 1) := by decide +kernel
theorem d_L_law_356 : decode code 356 = .ok (.ireturn, 1) := by decide +kernel
set_option maxHeartbeats 8000000 in
set_option maxRecDepth 20000 in
theorem law_walk {X : Ev} (C : Cx code "DeadRunsLaw" 8 X) {cI cO cZ : ClassId} (hT : TY (Xtys X) cI cO cZ) {b L o : Nat} {xi : Int → Int} (hL : L ≤ 2048) (hX : XScr X b L xi) (hxr : ∀ j, -2147483648 ≤ xi j ∧ xi j < 2147483648) (hRm : XR X = room_1) (hend : ∀ (A : AS) (H : Heap) (locs : List Loc) (ls : Array Slot), LW X cI cO cZ o A H locs → GG X 39 1277 H locs 356 ls [.int (iI 1)]) {H : Heap} {locs : List Loc} {ls : Array Slot} (w : LW X cI cO cZ o ((0, 1, 0, (fun _ => 0), (fun _ => 0), 0, (fun _ => 0)), (fun _ => Rw0), 0, (fun _ => Rw0), (fun _ => 0), (fun _ => 0), 0) H locs) (hl : lv_has ls 8 [(1, .ref o), (0, .ref b)]) : GG X 39 1277 H locs 8 ls [] := by
  refine r_aload_n (pc := 8) C d_L_law_8 rfl (lv_at hl 0 rfl) ?_
  refine l_callE (pc := 9) (As := []) (rest := []) (x := (-5)) (fun _ _ h => q_undo_X h) C w (fun ws hA => c_D_undo hT o _ ws hA) ml_L_119 im_D_undo se_D_undo cd_D_undo hd_D_undo rfl (by rw [hRm]; exact ⟨⟨Nat.le_of_ble_eq_true rfl, Nat.le_of_ble_eq_true rfl⟩, Nat.le_of_ble_eq_true rfl, Nat.le_of_ble_eq_true rfl⟩) hl.1 rfl (Nat.le_of_ble_eq_true rfl) d_L_law_9 (fun H locs w => ?_)
  refine r_bipush (pc := 12) C d_L_law_12 (by decide) ?_
  refine r_icmp_ne (pc := 14) (tgt := 96) C (by omega) d_L_law_14 (by decide) (fun c_14 => absurd c_14 (by omega)) (fun c_14 => ?_)
  refine r_aload_n (pc := 17) C d_L_law_17 rfl (lv_at hl 0 rfl) ?_
  refine r_iconst (pc := 18) C d_L_law_18 ?_
  refine l_callE (pc := 19) (As := [.int (iI 0)]) (rest := []) (x := (-5)) (fun _ _ h => q_err (x := (-5)) h (by decide) (by omega)) C w (fun ws hA => c_D_restore hT o _ ws hA 0 (by omega)) ml_L_89 im_D_restore se_D_restore cd_D_restore hd_D_restore rfl (by rw [hRm]; exact ⟨⟨Nat.le_of_ble_eq_true rfl, Nat.le_of_ble_eq_true rfl⟩, Nat.le_of_ble_eq_true rfl, Nat.le_of_ble_eq_true rfl⟩) hl.1 rfl (Nat.le_of_ble_eq_true rfl) d_L_law_19 (fun H locs w => ?_)
  refine r_bipush (pc := 22) C d_L_law_22 (by decide) ?_
  refine r_icmp_ne (pc := 24) (tgt := 96) C (by omega) d_L_law_24 (by decide) (fun c_24 => absurd c_24 (by omega)) (fun c_24 => ?_)
  refine r_aload_n (pc := 27) C d_L_law_27 rfl (lv_at hl 0 rfl) ?_
  refine l_callE (pc := 28) (As := []) (rest := []) (x := 0) (fun _ _ h => q_fault_0 h) C w (fun ws hA => c_D_fault hT o _ ws hA) ml_L_113 im_D_fault se_D_fault cd_D_fault hd_D_fault rfl (by rw [hRm]; exact ⟨⟨Nat.le_of_ble_eq_true rfl, Nat.le_of_ble_eq_true rfl⟩, Nat.le_of_ble_eq_true rfl, Nat.le_of_ble_eq_true rfl⟩) hl.1 rfl (Nat.le_of_ble_eq_true rfl) d_L_law_28 (fun H locs w => ?_)
  refine r_if_ne (pc := 31) (tgt := 96) C (by omega) d_L_law_31 (by decide) (fun c_31 => absurd c_31 (by omega)) (fun c_31 => ?_)
  refine r_aload_n (pc := 34) C d_L_law_34 rfl (lv_at hl 0 rfl) ?_
  refine l_callE (pc := 35) (As := []) (rest := []) (x := (-3)) (fun _ _ h => q_load_0 h) C w (fun ws hA => c_D_load hT o _ ws hA) ml_L_116 im_D_load se_D_load cd_D_load hd_D_load rfl (by rw [hRm]; exact ⟨⟨Nat.le_of_ble_eq_true rfl, Nat.le_of_ble_eq_true rfl⟩, Nat.le_of_ble_eq_true rfl, Nat.le_of_ble_eq_true rfl⟩) hl.1 rfl (Nat.le_of_ble_eq_true rfl) d_L_law_35 (fun H locs w => ?_)
  refine r_bipush (pc := 38) C d_L_law_38 (by decide) ?_
  refine r_icmp_ne (pc := 40) (tgt := 96) C (by omega) d_L_law_40 (by decide) (fun c_40 => absurd c_40 (by omega)) (fun c_40 => ?_)
  refine r_aload_n (pc := 43) C d_L_law_43 rfl (lv_at hl 0 rfl) ?_
  refine r_bipush (pc := 44) C d_L_law_44 (by decide) ?_
  refine l_callE (pc := 46) (As := [.int (iI 10)]) (rest := []) (x := 1) (fun _ _ h => q_count_10 h) C w (fun ws hA => c_D_count hT o _ ws hA 10 (by omega)) ml_L_11 im_D_count se_D_count cd_D_count hd_D_count rfl (by rw [hRm]; exact ⟨⟨Nat.le_of_ble_eq_true rfl, Nat.le_of_ble_eq_true rfl⟩, Nat.le_of_ble_eq_true rfl, Nat.le_of_ble_eq_true rfl⟩) hl.1 rfl (Nat.le_of_ble_eq_true rfl) d_L_law_46 (fun H locs w => ?_)
  refine r_iconst (pc := 49) C d_L_law_49 ?_
  refine r_icmp_ne (pc := 50) (tgt := 96) C (by omega) d_L_law_50 (by decide) (fun c_50 => absurd c_50 (by omega)) (fun c_50 => ?_)
  refine r_aload_n (pc := 53) C d_L_law_53 rfl (lv_at hl 0 rfl) ?_
  refine l_callE (pc := 54) (As := []) (rest := []) (x := 0) (fun _ _ h => ⟨h.1, by rw [h.2]; rfl⟩) C w (fun ws hA => c_D_bestCode hT o _ ws hA) ml_L_98 im_D_bestCode se_D_bestCode cd_D_bestCode hd_D_bestCode rfl (by rw [hRm]; exact ⟨⟨Nat.le_of_ble_eq_true rfl, Nat.le_of_ble_eq_true rfl⟩, Nat.le_of_ble_eq_true rfl, Nat.le_of_ble_eq_true rfl⟩) hl.1 rfl (Nat.le_of_ble_eq_true rfl) d_L_law_54 (fun H locs w => ?_)
  refine r_if_ne (pc := 57) (tgt := 96) C (by omega) d_L_law_57 (by decide) (fun c_57 => absurd c_57 (by omega)) (fun c_57 => ?_)
  refine r_aload_n (pc := 60) C d_L_law_60 rfl (lv_at hl 0 rfl) ?_
  refine l_callE (pc := 61) (As := []) (rest := []) (x := 0) (fun _ _ h => ⟨h.1, by rw [h.2]; rfl⟩) C w (fun ws hA => c_D_unlikeMirror hT o _ ws hA) ml_L_125 im_D_unlikeMirror se_D_unlikeMirror cd_D_unlikeMirror hd_D_unlikeMirror rfl (by rw [hRm]; exact ⟨⟨Nat.le_of_ble_eq_true rfl, Nat.le_of_ble_eq_true rfl⟩, Nat.le_of_ble_eq_true rfl, Nat.le_of_ble_eq_true rfl⟩) hl.1 rfl (Nat.le_of_ble_eq_true rfl) d_L_law_61 (fun H locs w => ?_)
  refine r_if_ne (pc := 64) (tgt := 96) C (by omega) d_L_law_64 (by decide) (fun c_64 => absurd c_64 (by omega)) (fun c_64 => ?_)
  refine r_aload_n (pc := 67) C d_L_law_67 rfl (lv_at hl 0 rfl) ?_
  refine r_iconst (pc := 68) C d_L_law_68 ?_
  refine r_bipush (pc := 69) C d_L_law_69 (by decide) ?_
  refine l_callE (pc := 71) (As := [.int (iI 0), .int (iI 7)]) (rest := []) (x := (-6)) (fun _ _ h => q_find_0 h) C w (fun ws hA => c_D_find hT o _ ws hA 0 7 ⟨by omega, by omega⟩) ml_L_73 im_D_find se_D_find cd_D_find hd_D_find rfl (by rw [hRm]; exact ⟨⟨Nat.le_of_ble_eq_true rfl, Nat.le_of_ble_eq_true rfl⟩, Nat.le_of_ble_eq_true rfl, Nat.le_of_ble_eq_true rfl⟩) hl.1 rfl (Nat.le_of_ble_eq_true rfl) d_L_law_71 (fun H locs w => ?_)
  refine r_bipush (pc := 74) C d_L_law_74 (by decide) ?_
  refine r_icmp_ne (pc := 76) (tgt := 96) C (by omega) d_L_law_76 (by decide) (fun c_76 => absurd c_76 (by omega)) (fun c_76 => ?_)
  refine r_aload_n (pc := 79) C d_L_law_79 rfl (lv_at hl 0 rfl) ?_
  refine r_iconst (pc := 80) C d_L_law_80 ?_
  refine l_callE (pc := 81) (As := [.int (iI 1)]) (rest := []) (x := (-6)) (fun _ _ h => ⟨(q_live_1 h).1, by rw [(q_live_1 h).2]; rfl⟩) C w (fun ws hA => c_D_longestLive hT o _ ws hA 1 (by omega)) ml_L_70 im_D_longestLive se_D_longestLive cd_D_longestLive hd_D_longestLive rfl (by rw [hRm]; exact ⟨⟨Nat.le_of_ble_eq_true rfl, Nat.le_of_ble_eq_true rfl⟩, Nat.le_of_ble_eq_true rfl, Nat.le_of_ble_eq_true rfl⟩) hl.1 rfl (Nat.le_of_ble_eq_true rfl) d_L_law_81 (fun H locs w => ?_)
  refine r_bipush (pc := 84) C d_L_law_84 (by decide) ?_
  refine r_icmp_ne (pc := 86) (tgt := 96) C (by omega) d_L_law_86 (by decide) (fun c_86 => absurd c_86 (by omega)) (fun c_86 => ?_)
  refine r_aload_n (pc := 89) C d_L_law_89 rfl (lv_at hl 0 rfl) ?_
  refine l_callT (pc := 90) (As := [.ref o]) (rest := []) (x := 1) (fun _ _ h => h) C w (c_L_fails hT o _) ml_L_143 st_L_fails ini_L cd_L_fails hd_L_fails rfl (by rw [hRm]; exact ⟨⟨Nat.le_of_ble_eq_true rfl, Nat.le_of_ble_eq_true rfl⟩, Nat.le_of_ble_eq_true rfl, Nat.le_of_ble_eq_true rfl⟩) hl.1 rfl (Nat.le_of_ble_eq_true rfl) d_L_law_90 (fun H locs w => ?_)
  refine r_if_ne (pc := 93) (tgt := 98) C (by omega) d_L_law_93 (by decide) (fun c_93 => ?_) (fun c_93 => absurd c_93 (by omega))
  refine r_iconst (pc := 98) C d_L_law_98 ?_
  refine r_istore_n (pc := 99) (lv' := [(2, .int (iI 0)), (1, .ref o), (0, .ref b)]) C d_L_law_99 rfl hl (by decide) rfl (fun ls hl => ?_)
  have L100 : ∀ (fuel : Nat), ∀ (i : Int) (A : AS), 0 ≤ i ∧ i ≤ 24 → (24 - i) < (fuel : Int) → ∀ (H : Heap) (locs : List Loc) (ls : Array Slot), LW X cI cO cZ o A H locs → lv_has ls 8 [(2, .int (iI i)), (1, .ref o), (0, .ref b)] → GG X 39 1277 H locs 100 ls [] := by
    intro fuel
    induction fuel with
    | zero =>
      intro i A hi hfuel
      exact absurd hfuel (by omega)
    | succ fuel ih100 =>
      intro i A hi hfuel H locs ls w hl
      refine r_iload_n (pc := 100) C d_L_law_100 rfl (lv_at hl 0 rfl) ?_
      refine r_bipush (pc := 101) C d_L_law_101 (by decide) ?_
      refine r_icmp_ge (pc := 103) (tgt := 242) C (by omega) d_L_law_103 (by decide) (fun c_103 => ?_) (fun c_103 => ?_)
      · skip
        refine r_aload_n (pc := 242) C d_L_law_242 rfl (lv_at hl 1 rfl) ?_
        refine r_aload_n (pc := 243) C d_L_law_243 rfl (lv_at hl 2 rfl) ?_
        refine r_bipush (pc := 244) C d_L_law_244 (by decide) ?_
        refine l_callX (pc := 246) (As := [.ref b, .int (iI 48)]) (rest := [.ref o]) C w hX (c_L_cell b L hL xi hxr 48 (by omega)) ml_L_146 st_L_cell ini_L cd_L_cell hd_L_cell rfl (by rw [hRm]; exact ⟨⟨Nat.le_of_ble_eq_true rfl, Nat.le_of_ble_eq_true rfl⟩, Nat.le_of_ble_eq_true rfl, Nat.le_of_ble_eq_true rfl⟩) hl.1 rfl (Nat.le_of_ble_eq_true rfl) d_L_law_246 (fun z_246 H locs hz_246 w => ?_)
        refine l_callS (pc := 249) (As := [.ref o, .int (iI z_246)]) (rest := []) C w (c_L_sound hT o _ z_246) ml_L_153 st_L_sound ini_L cd_L_sound hd_L_sound rfl (by rw [hRm]; exact ⟨⟨Nat.le_of_ble_eq_true rfl, Nat.le_of_ble_eq_true rfl⟩, Nat.le_of_ble_eq_true rfl, Nat.le_of_ble_eq_true rfl⟩) hl.1 rfl (Nat.le_of_ble_eq_true rfl) d_L_law_249 (fun z_249 A_249 H locs hz_249 w => ?_)
        subst hz_249
        refine r_if_eq (pc := 252) (tgt := 275) C (by omega) d_L_law_252 (by decide) (fun c_252 => absurd c_252 (by omega)) (fun c_252 => ?_)
        refine r_aload_n (pc := 255) C d_L_law_255 rfl (lv_at hl 1 rfl) ?_
        refine r_aload_n (pc := 256) C d_L_law_256 rfl (lv_at hl 2 rfl) ?_
        refine r_bipush (pc := 257) C d_L_law_257 (by decide) ?_
        refine l_callX (pc := 259) (As := [.ref b, .int (iI 49)]) (rest := [.ref o]) C w hX (c_L_cell b L hL xi hxr 49 (by omega)) ml_L_146 st_L_cell ini_L cd_L_cell hd_L_cell rfl (by rw [hRm]; exact ⟨⟨Nat.le_of_ble_eq_true rfl, Nat.le_of_ble_eq_true rfl⟩, Nat.le_of_ble_eq_true rfl, Nat.le_of_ble_eq_true rfl⟩) hl.1 rfl (Nat.le_of_ble_eq_true rfl) d_L_law_259 (fun z_259 H locs hz_259 w => ?_)
        refine l_callS (pc := 262) (As := [.ref o, .int (iI z_259)]) (rest := []) C w (c_L_saves hT o _ z_259) ml_L_156 st_L_saves ini_L cd_L_saves hd_L_saves rfl (by rw [hRm]; exact ⟨⟨Nat.le_of_ble_eq_true rfl, Nat.le_of_ble_eq_true rfl⟩, Nat.le_of_ble_eq_true rfl, Nat.le_of_ble_eq_true rfl⟩) hl.1 rfl (Nat.le_of_ble_eq_true rfl) d_L_law_262 (fun z_262 A_262 H locs hz_262 w => ?_)
        subst hz_262
        refine r_if_eq (pc := 265) (tgt := 275) C (by omega) d_L_law_265 (by decide) (fun c_265 => absurd c_265 (by omega)) (fun c_265 => ?_)
        refine r_aload_n (pc := 268) C d_L_law_268 rfl (lv_at hl 1 rfl) ?_
        refine l_callT (pc := 269) (As := [.ref o]) (rest := []) (x := 1) (fun _ _ h => h) C w (c_L_fails hT o _) ml_L_143 st_L_fails ini_L cd_L_fails hd_L_fails rfl (by rw [hRm]; exact ⟨⟨Nat.le_of_ble_eq_true rfl, Nat.le_of_ble_eq_true rfl⟩, Nat.le_of_ble_eq_true rfl, Nat.le_of_ble_eq_true rfl⟩) hl.1 rfl (Nat.le_of_ble_eq_true rfl) d_L_law_269 (fun H locs w => ?_)
        refine r_if_ne (pc := 272) (tgt := 277) C (by omega) d_L_law_272 (by decide) (fun c_272 => ?_) (fun c_272 => absurd c_272 (by omega))
        obtain ⟨⟨lc, sd, r, sg, ln, N, v⟩, hist, rcd, slot, uf, T, m⟩ := A_262
        have hK := w.ok
        have hR : RwOk lc sd r sg ln N v := hK.1
        have hrcd : 0 ≤ rcd ∧ rcd ≤ 6 := hK.2.1
        have hO := hR.1
        have hN0 := hO.n0
        have hN3 := hR.2.2.1
        refine r_aload_n (pc := 277) C d_L_law_277 rfl (lv_at hl 1 rfl) ?_
        refine l_callL (pc := 278) (As := [.ref o]) (rest := []) (x := mkR (lc, sd, r, sg, ln, N, v)) (fun _ _ h => h) C w (c_L_mark hT o _) ml_L_21 st_L_mark ini_L cd_L_mark hd_L_mark rfl (by rw [hRm]; exact ⟨⟨Nat.le_of_ble_eq_true rfl, Nat.le_of_ble_eq_true rfl⟩, Nat.le_of_ble_eq_true rfl, Nat.le_of_ble_eq_true rfl⟩) hl.1 rfl (Nat.le_of_ble_eq_true rfl) d_L_law_278 (fun H locs w => ?_)
        refine r_lstore_n (pc := 281) (lv' := [(2, .long (mkR (lc, sd, r, sg, ln, N, v))), (1, .ref o), (0, .ref b)]) C d_L_law_281 rfl hl (by decide) rfl (fun ls hl => ?_)
        refine r_aload_n (pc := 282) C d_L_law_282 rfl (lv_at hl 1 rfl) ?_
        refine r_iconst (pc := 283) C d_L_law_283 ?_
        refine l_callE (pc := 284) (As := [.int (iI 0)]) (rest := []) (x := N) (fun _ _ h => q_count_0 h) C w (fun ws hA => c_D_count hT o _ ws hA 0 (by omega)) ml_L_11 im_D_count se_D_count cd_D_count hd_D_count rfl (by rw [hRm]; exact ⟨⟨Nat.le_of_ble_eq_true rfl, Nat.le_of_ble_eq_true rfl⟩, Nat.le_of_ble_eq_true rfl, Nat.le_of_ble_eq_true rfl⟩) hl.1 rfl (Nat.le_of_ble_eq_true rfl) d_L_law_284 (fun H locs w => ?_)
        refine r_istore (pc := 287) (lv' := [(4, .int (iI N)), (2, .long (mkR (lc, sd, r, sg, ln, N, v))), (1, .ref o), (0, .ref b)]) C d_L_law_287 hl (by decide) rfl (fun ls hl => ?_)
        refine r_aload_n (pc := 289) C d_L_law_289 rfl (lv_at hl 2 rfl) ?_
        refine r_iconst (pc := 290) C d_L_law_290 ?_
        refine l_callV (pc := 291) (As := [.int (iI 0)]) (rest := []) C w (fun ws hA => c_D_save hT o _ ws hA 0 (by omega)) ml_L_86 im_D_save se_D_save cd_D_save hd_D_save rfl (by rw [hRm]; exact ⟨⟨Nat.le_of_ble_eq_true rfl, Nat.le_of_ble_eq_true rfl⟩, Nat.le_of_ble_eq_true rfl, Nat.le_of_ble_eq_true rfl⟩) hl.1 rfl (Nat.le_of_ble_eq_true rfl) d_L_law_291 (fun z_291 A_291 H locs hz_291 w => ?_)
        obtain ⟨e1_291, sg2, ln2, hR2, e2_291⟩ := q_save_0 hz_291
        subst e2_291
        refine r_iload (pc := 294) C d_L_law_294 (lv_at hl 0 rfl) ?_
        refine r_icmp_ne (pc := 296) (tgt := 355) C (by omega) d_L_law_296 (by decide) (fun c_296 => ?_) (fun c_296 => ?_)
        · skip
          exact absurd e1_291 c_296
        · skip
          refine r_aload_n (pc := 299) C d_L_law_299 rfl (lv_at hl 2 rfl) ?_
          refine r_iconst (pc := 300) C d_L_law_300 ?_
          refine r_bipush (pc := 301) C d_L_law_301 (by decide) ?_
          refine r_iconst (pc := 303) C d_L_law_303 ?_
          refine l_callV (pc := 304) (As := [.int (iI 0), .int (iI 10), .int (iI 1)]) (rest := []) C w (fun ws hA => c_D_insert hT o _ ws hA 0 10 1 ⟨by omega, by omega, by omega⟩) ml_L_30 im_D_insert se_D_insert cd_D_insert hd_D_insert rfl (by rw [hRm]; exact ⟨⟨Nat.le_of_ble_eq_true rfl, Nat.le_of_ble_eq_true rfl⟩, Nat.le_of_ble_eq_true rfl, Nat.le_of_ble_eq_true rfl⟩) hl.1 rfl (Nat.le_of_ble_eq_true rfl) d_L_law_304 (fun z_304 A_304 H locs hz_304 w => ?_)
          have hin := q_ins hN0 hz_304
          obtain ⟨lc3, sd3, r3, sg3, ln3, N3, v3, hist3, rcd3, e2_304, hR3⟩ := q_slots hR hrcd hz_304
          subst e2_304
          have hrcd3 : 0 ≤ rcd3 ∧ rcd3 ≤ 6 := w.ok.2.1
          refine r_if_eq (pc := 307) (tgt := 355) C (by omega) d_L_law_307 (by decide) (fun c_307 => ?_) (fun c_307 => ?_)
          · skip
            exact absurd c_307 hin.2
          · skip
            refine r_aload_n (pc := 310) C d_L_law_310 rfl (lv_at hl 2 rfl) ?_
            refine r_iconst (pc := 311) C d_L_law_311 ?_
            refine r_iconst (pc := 312) C d_L_law_312 ?_
            refine l_callV (pc := 313) (As := [.int (iI 0), .int (iI 2)]) (rest := []) C w (fun ws hA => c_D_set hT o _ ws hA 0 2 ⟨by omega, by omega⟩) ml_L_27 im_D_set se_D_set cd_D_set hd_D_set rfl (by rw [hRm]; exact ⟨⟨Nat.le_of_ble_eq_true rfl, Nat.le_of_ble_eq_true rfl⟩, Nat.le_of_ble_eq_true rfl, Nat.le_of_ble_eq_true rfl⟩) hl.1 rfl (Nat.le_of_ble_eq_true rfl) d_L_law_313 (fun z_313 A_313 H locs hz_313 w => ?_)
            have hst := q_set2 hR3 hz_313
            obtain ⟨lc4, sd4, r4, sg4, ln4, N4, v4, hist4, rcd4, e2_313, hR4⟩ := q_slots hR3 hrcd3 hz_313
            subst e2_313
            have hrcd4 : 0 ≤ rcd4 ∧ rcd4 ≤ 6 := w.ok.2.1
            refine r_if_lt (pc := 316) (tgt := 355) C (by omega) d_L_law_316 (by decide) (fun c_316 => ?_) (fun c_316 => ?_)
            · skip
              exact absurd c_316 (by omega)
            · skip
              refine r_aload_n (pc := 319) C d_L_law_319 rfl (lv_at hl 2 rfl) ?_
              refine r_iconst (pc := 320) C d_L_law_320 ?_
              refine l_callV (pc := 321) (As := [.int (iI 0)]) (rest := []) C w (fun ws hA => c_D_restore hT o _ ws hA 0 (by omega)) ml_L_89 im_D_restore se_D_restore cd_D_restore hd_D_restore rfl (by rw [hRm]; exact ⟨⟨Nat.le_of_ble_eq_true rfl, Nat.le_of_ble_eq_true rfl⟩, Nat.le_of_ble_eq_true rfl, Nat.le_of_ble_eq_true rfl⟩) hl.1 rfl (Nat.le_of_ble_eq_true rfl) d_L_law_321 (fun z_321 A_321 H locs hz_321 w => ?_)
              obtain ⟨e1_321, r5, sg5, ln5, hist5, rcd5, e2_321, hR5⟩ := q_rest (up_eq _ _ _) (up_eq _ _ _) hR2 hrcd4 hz_321
              subst e2_321
              have hmk5 : mkR (lc, sd, r5, sg5, ln5, N, v) = mkR (lc, sd, r, sg, ln, N, v) := mkR_eq hO hR5.1 (fun _ _ _ => rfl)
              refine r_iload (pc := 324) C d_L_law_324 (lv_at hl 0 rfl) ?_
              refine r_icmp_ne (pc := 326) (tgt := 355) C (by omega) d_L_law_326 (by decide) (fun c_326 => ?_) (fun c_326 => ?_)
              · skip
                exact absurd e1_321 c_326
              · skip
                refine r_aload_n (pc := 329) C d_L_law_329 rfl (lv_at hl 2 rfl) ?_
                refine l_callL (pc := 330) (As := [.ref o]) (rest := []) (x := mkR (lc, sd, r5, sg5, ln5, N, v)) (fun _ _ h => h) C w (c_L_mark hT o _) ml_L_21 st_L_mark ini_L cd_L_mark hd_L_mark rfl (by rw [hRm]; exact ⟨⟨Nat.le_of_ble_eq_true rfl, Nat.le_of_ble_eq_true rfl⟩, Nat.le_of_ble_eq_true rfl, Nat.le_of_ble_eq_true rfl⟩) hl.1 rfl (Nat.le_of_ble_eq_true rfl) d_L_law_330 (fun H locs w => ?_)
                refine r_lload_n (pc := 333) C d_L_law_333 rfl (lv_at hl 1 rfl) ?_
                refine r_lcmp_same (pc := 334) (h := (hmk5)) C d_L_law_334 ?_
                refine r_if_ne (pc := 335) (tgt := 355) C (by omega) d_L_law_335 (by decide) (fun c_335 => absurd c_335 (by omega)) (fun c_335 => ?_)
                refine r_aload_n (pc := 338) C d_L_law_338 rfl (lv_at hl 2 rfl) ?_
                refine r_aload_n (pc := 339) C d_L_law_339 rfl (lv_at hl 3 rfl) ?_
                refine r_bipush (pc := 340) C d_L_law_340 (by decide) ?_
                refine l_callX (pc := 342) (As := [.ref b, .int (iI 50)]) (rest := [.ref o]) C w hX (c_L_cell b L hL xi hxr 50 (by omega)) ml_L_146 st_L_cell ini_L cd_L_cell hd_L_cell rfl (by rw [hRm]; exact ⟨⟨Nat.le_of_ble_eq_true rfl, Nat.le_of_ble_eq_true rfl⟩, Nat.le_of_ble_eq_true rfl, Nat.le_of_ble_eq_true rfl⟩) hl.1 rfl (Nat.le_of_ble_eq_true rfl) d_L_law_342 (fun z_342 H locs hz_342 w => ?_)
                refine l_callS (pc := 345) (As := [.ref o, .int (iI z_342)]) (rest := []) C w (c_L_sound hT o _ z_342) ml_L_153 st_L_sound ini_L cd_L_sound hd_L_sound rfl (by rw [hRm]; exact ⟨⟨Nat.le_of_ble_eq_true rfl, Nat.le_of_ble_eq_true rfl⟩, Nat.le_of_ble_eq_true rfl, Nat.le_of_ble_eq_true rfl⟩) hl.1 rfl (Nat.le_of_ble_eq_true rfl) d_L_law_345 (fun z_345 A_345 H locs hz_345 w => ?_)
                subst hz_345
                refine r_if_eq (pc := 348) (tgt := 355) C (by omega) d_L_law_348 (by decide) (fun c_348 => absurd c_348 (by omega)) (fun c_348 => ?_)
                refine r_iconst (pc := 351) C d_L_law_351 ?_
                refine r_goto (pc := 352) (tgt := 356) C d_L_law_352 (by decide) ?_
                exact hend A_345 _ _ _ w
      · skip
        obtain ⟨⟨lc, sd, r, sg, ln, N, v⟩, hist, rcd, slot, uf, T, m⟩ := A
        have hK := w.ok
        have hR : RwOk lc sd r sg ln N v := hK.1
        have hrcd : 0 ≤ rcd ∧ rcd ≤ 6 := hK.2.1
        have hO := hR.1
        have hN0 := hO.n0
        have hN3 := hR.2.2.1
        refine r_aload_n (pc := 106) C d_L_law_106 rfl (lv_at hl 2 rfl) ?_
        refine r_iload_n (pc := 107) C d_L_law_107 rfl (lv_at hl 0 rfl) ?_
        refine l_callX (pc := 108) (As := [.ref b, .int (iI i)]) (rest := []) C w hX (c_L_cell b L hL xi hxr i (by omega)) ml_L_146 st_L_cell ini_L cd_L_cell hd_L_cell rfl (by rw [hRm]; exact ⟨⟨Nat.le_of_ble_eq_true rfl, Nat.le_of_ble_eq_true rfl⟩, Nat.le_of_ble_eq_true rfl, Nat.le_of_ble_eq_true rfl⟩) hl.1 rfl (Nat.le_of_ble_eq_true rfl) d_L_law_108 (fun z_108 H locs hz_108 w => ?_)
        refine r_istore_n (pc := 111) (lv' := [(3, .int (iI z_108)), (2, .int (iI i)), (1, .ref o), (0, .ref b)]) C d_L_law_111 rfl hl (by decide) rfl (fun ls hl => ?_)
        refine r_aload_n (pc := 112) C d_L_law_112 rfl (lv_at hl 2 rfl) ?_
        refine r_bipush (pc := 113) C d_L_law_113 (by decide) ?_
        refine l_callE (pc := 115) (As := [.int (iI 8)]) (rest := []) (x := rcd) (fun _ _ h => q_count_8 h) C w (fun ws hA => c_D_count hT o _ ws hA 8 (by omega)) ml_L_11 im_D_count se_D_count cd_D_count hd_D_count rfl (by rw [hRm]; exact ⟨⟨Nat.le_of_ble_eq_true rfl, Nat.le_of_ble_eq_true rfl⟩, Nat.le_of_ble_eq_true rfl, Nat.le_of_ble_eq_true rfl⟩) hl.1 rfl (Nat.le_of_ble_eq_true rfl) d_L_law_115 (fun H locs w => ?_)
        refine r_istore (pc := 118) (lv' := [(4, .int (iI rcd)), (3, .int (iI z_108)), (2, .int (iI i)), (1, .ref o), (0, .ref b)]) C d_L_law_118 hl (by decide) rfl (fun ls hl => ?_)
        refine r_aload_n (pc := 120) C d_L_law_120 rfl (lv_at hl 3 rfl) ?_
        refine l_callL (pc := 121) (As := [.ref o]) (rest := []) (x := mkR (lc, sd, r, sg, ln, N, v)) (fun _ _ h => h) C w (c_L_mark hT o _) ml_L_21 st_L_mark ini_L cd_L_mark hd_L_mark rfl (by rw [hRm]; exact ⟨⟨Nat.le_of_ble_eq_true rfl, Nat.le_of_ble_eq_true rfl⟩, Nat.le_of_ble_eq_true rfl, Nat.le_of_ble_eq_true rfl⟩) hl.1 rfl (Nat.le_of_ble_eq_true rfl) d_L_law_121 (fun H locs w => ?_)
        refine r_lstore (pc := 124) (lv' := [(5, .long (mkR (lc, sd, r, sg, ln, N, v))), (4, .int (iI rcd)), (3, .int (iI z_108)), (2, .int (iI i)), (1, .ref o), (0, .ref b)]) C d_L_law_124 hl (by decide) rfl (fun ls hl => ?_)
        refine r_aload_n (pc := 126) C d_L_law_126 rfl (lv_at hl 4 rfl) ?_
        refine r_iload_n (pc := 127) C d_L_law_127 rfl (lv_at hl 2 rfl) ?_
        refine r_aload_n (pc := 128) C d_L_law_128 rfl (lv_at hl 5 rfl) ?_
        refine r_bipush (pc := 129) C d_L_law_129 (by decide) ?_
        refine r_iload_n (pc := 131) C d_L_law_131 rfl (lv_at hl 3 rfl) ?_
        refine r_iadd (pc := 132) C d_L_law_132 ?_
        refine l_callX (pc := 133) (As := [.ref b, .int (iI (24 + i))]) (rest := [.int (iI z_108), .ref o]) C w hX (c_L_cell b L hL xi hxr (24 + i) (by omega)) ml_L_146 st_L_cell ini_L cd_L_cell hd_L_cell rfl (by rw [hRm]; exact ⟨⟨Nat.le_of_ble_eq_true rfl, Nat.le_of_ble_eq_true rfl⟩, Nat.le_of_ble_eq_true rfl, Nat.le_of_ble_eq_true rfl⟩) hl.1 rfl (Nat.le_of_ble_eq_true rfl) d_L_law_133 (fun z_133 H locs hz_133 w => ?_)
        refine l_callS (pc := 136) (As := [.ref o, .int (iI z_108), .int (iI z_133)]) (rest := []) C w (c_L_act hT o _ z_108 z_133) ml_L_150 st_L_act ini_L cd_L_act hd_L_act rfl (by rw [hRm]; exact ⟨⟨Nat.le_of_ble_eq_true rfl, Nat.le_of_ble_eq_true rfl⟩, Nat.le_of_ble_eq_true rfl, Nat.le_of_ble_eq_true rfl⟩) hl.1 rfl (Nat.le_of_ble_eq_true rfl) d_L_law_136 (fun z_136 A_136 H locs hz_136 w => ?_)
        obtain ⟨hzr, hz_136⟩ := hz_136
        refine r_istore (pc := 139) (lv' := [(7, .int (iI z_136)), (5, .long (mkR (lc, sd, r, sg, ln, N, v))), (4, .int (iI rcd)), (3, .int (iI z_108)), (2, .int (iI i)), (1, .ref o), (0, .ref b)]) C d_L_law_139 hl (by decide) rfl (fun ls hl => ?_)
        refine r_iload (pc := 141) C d_L_law_141 (lv_at hl 0 rfl) ?_
        refine r_if_ge (pc := 143) (tgt := 170) C (by omega) d_L_law_143 (by decide) (fun c_143 => ?_) (fun c_143 => ?_)
        · skip
          obtain ⟨lc1, sd1, N1, v1, hpu⟩ : ∃ (lc1 sd1 N1 : Int) (v1 : Int → Int), Pushed ((lc, sd, r, sg, ln, N, v), hist, rcd, slot, uf, T, m) A_136 lc1 sd1 N1 v1 := by
            rcases hz_136 with ⟨u1, -⟩ | ⟨-, u2⟩
            · omega
            · exact u2
          obtain ⟨r1, sg1, ln1, hist1, rcd1, hpe, -, hu1, hu2, hu3⟩ := pushed_undo hrcd hpu
          subst hpe
          refine r_aload_n (pc := 170) C d_L_law_170 rfl (lv_at hl 5 rfl) ?_
          refine r_bipush (pc := 171) C d_L_law_171 (by decide) ?_
          refine l_callE (pc := 173) (As := [.int (iI 8)]) (rest := []) (x := rcd1) (fun _ _ h => q_count_8 h) C w (fun ws hA => c_D_count hT o _ ws hA 8 (by omega)) ml_L_11 im_D_count se_D_count cd_D_count hd_D_count rfl (by rw [hRm]; exact ⟨⟨Nat.le_of_ble_eq_true rfl, Nat.le_of_ble_eq_true rfl⟩, Nat.le_of_ble_eq_true rfl, Nat.le_of_ble_eq_true rfl⟩) hl.1 rfl (Nat.le_of_ble_eq_true rfl) d_L_law_173 (fun H locs w => ?_)
          refine r_iload (pc := 176) C d_L_law_176 (lv_at hl 2 rfl) ?_
          refine r_bipush (pc := 178) C d_L_law_178 (by decide) ?_
          refine r_icmp_ge (pc := 180) (tgt := 190) C (by omega) d_L_law_180 (by decide) (fun c_180 => ?_) (fun c_180 => ?_)
          · skip
            refine r_bipush (pc := 190) C d_L_law_190 (by decide) ?_
            refine r_icmp_ne (pc := 192) (tgt := 234) C (by omega) d_L_law_192 (by decide) (fun c_192 => ?_) (fun c_192 => ?_)
            · skip
              exfalso
              omega
            · skip
              refine r_iload_n (pc := 195) C d_L_law_195 rfl (lv_at hl 3 rfl) ?_
              refine r_bipush (pc := 196) C d_L_law_196 (by decide) ?_
              refine r_ishr (pc := 198) C d_L_law_198 ?_
              refine r_top (y := iI ((iI z_108 >>> (iI 24 &&& 31)).toInt)) ((iI_of _).symm) ?_
              refine r_iconst (pc := 199) C d_L_law_199 ?_
              refine r_iand (pc := 200) C d_L_law_200 ?_
              refine r_top (y := iI ((iI ((iI z_108 >>> (iI 24 &&& 31)).toInt) &&& iI 3).toInt)) ((iI_of _).symm) ?_
              refine r_if_ne (pc := 201) (tgt := 236) C (iI_rg _) d_L_law_201 (by decide) (fun c_201 => ?_) (fun c_201 => ?_)
              · skip
                refine r_iinc (pc := 236) (j := 4) (lv' := [(2, .int (iI (i + 1))), (7, .int (iI z_136)), (5, .long (mkR (lc, sd, r, sg, ln, N, v))), (4, .int (iI rcd)), (3, .int (iI z_108)), (1, .ref o), (0, .ref b)]) C d_L_law_236 hl rfl (by decide) rfl (fun ls hl => ?_)
                refine r_goto (pc := 239) (tgt := 100) C d_L_law_239 (by decide) ?_
                exact ih100 (i + 1) ((lc1, sd1, r1, sg1, ln1, N1, v1), hist1, rcd1, slot, uf, T, m) (by omega) (by omega) _ _ _ w (lv_sub hl [0, 5, 6] rfl)
              · skip
                refine r_aload_n (pc := 204) C d_L_law_204 rfl (lv_at hl 5 rfl) ?_
                refine l_callV (pc := 205) (As := []) (rest := []) C w (fun ws hA => c_D_undo hT o _ ws hA) ml_L_119 im_D_undo se_D_undo cd_D_undo hd_D_undo rfl (by rw [hRm]; exact ⟨⟨Nat.le_of_ble_eq_true rfl, Nat.le_of_ble_eq_true rfl⟩, Nat.le_of_ble_eq_true rfl, Nat.le_of_ble_eq_true rfl⟩) hl.1 rfl (Nat.le_of_ble_eq_true rfl) d_L_law_205 (fun z_205 A_205 H locs hz_205 w => ?_)
                obtain ⟨e1_205, e2_205⟩ := q_undo hu1 hu2 hz_205
                subst e2_205
                refine r_iload (pc := 208) C d_L_law_208 (lv_at hl 2 rfl) ?_
                refine r_bipush (pc := 210) C d_L_law_210 (by decide) ?_
                refine r_icmp_ge (pc := 212) (tgt := 220) C (by omega) d_L_law_212 (by decide) (fun c_212 => ?_) (fun c_212 => ?_)
                · skip
                  refine r_iconst (pc := 220) C d_L_law_220 ?_
                  refine r_icmp_ne (pc := 221) (tgt := 234) C (by omega) d_L_law_221 (by decide) (fun c_221 => ?_) (fun c_221 => ?_)
                  · skip
                    exfalso
                    omega
                  · skip
                    refine r_aload_n (pc := 224) C d_L_law_224 rfl (lv_at hl 5 rfl) ?_
                    refine l_callL (pc := 225) (As := [.ref o]) (rest := []) (x := mkR (lc, sd, r, sg, ln, N, v)) (fun _ _ h => h) C w (c_L_mark hT o _) ml_L_21 st_L_mark ini_L cd_L_mark hd_L_mark rfl (by rw [hRm]; exact ⟨⟨Nat.le_of_ble_eq_true rfl, Nat.le_of_ble_eq_true rfl⟩, Nat.le_of_ble_eq_true rfl, Nat.le_of_ble_eq_true rfl⟩) hl.1 rfl (Nat.le_of_ble_eq_true rfl) d_L_law_225 (fun H locs w => ?_)
                    refine r_lload (pc := 228) C d_L_law_228 (lv_at hl 1 rfl) ?_
                    refine r_lcmp_same (pc := 230) (h := (rfl)) C d_L_law_230 ?_
                    refine r_if_eq (pc := 231) (tgt := 236) C (by omega) d_L_law_231 (by decide) (fun c_231 => ?_) (fun c_231 => absurd c_231 (by omega))
                    refine r_iinc (pc := 236) (j := 4) (lv' := [(2, .int (iI (i + 1))), (7, .int (iI z_136)), (5, .long (mkR (lc, sd, r, sg, ln, N, v))), (4, .int (iI rcd)), (3, .int (iI z_108)), (1, .ref o), (0, .ref b)]) C d_L_law_236 hl rfl (by decide) rfl (fun ls hl => ?_)
                    refine r_goto (pc := 239) (tgt := 100) C d_L_law_239 (by decide) ?_
                    exact ih100 (i + 1) ((lc, sd, r, sg, ln, N, v), hist1, (rcd1 - 1), slot, uf, T, m) (by omega) (by omega) _ _ _ w (lv_sub hl [0, 5, 6] rfl)
                · skip
                  refine r_iload (pc := 215) C d_L_law_215 (lv_at hl 2 rfl) ?_
                  refine r_goto (pc := 217) (tgt := 221) C d_L_law_217 (by decide) ?_
                  refine r_icmp_ne (pc := 221) (tgt := 234) C (by omega) d_L_law_221 (by decide) (fun c_221 => ?_) (fun c_221 => ?_)
                  · skip
                    exfalso
                    omega
                  · skip
                    refine r_aload_n (pc := 224) C d_L_law_224 rfl (lv_at hl 5 rfl) ?_
                    refine l_callL (pc := 225) (As := [.ref o]) (rest := []) (x := mkR (lc, sd, r, sg, ln, N, v)) (fun _ _ h => h) C w (c_L_mark hT o _) ml_L_21 st_L_mark ini_L cd_L_mark hd_L_mark rfl (by rw [hRm]; exact ⟨⟨Nat.le_of_ble_eq_true rfl, Nat.le_of_ble_eq_true rfl⟩, Nat.le_of_ble_eq_true rfl, Nat.le_of_ble_eq_true rfl⟩) hl.1 rfl (Nat.le_of_ble_eq_true rfl) d_L_law_225 (fun H locs w => ?_)
                    refine r_lload (pc := 228) C d_L_law_228 (lv_at hl 1 rfl) ?_
                    refine r_lcmp_same (pc := 230) (h := (rfl)) C d_L_law_230 ?_
                    refine r_if_eq (pc := 231) (tgt := 236) C (by omega) d_L_law_231 (by decide) (fun c_231 => ?_) (fun c_231 => absurd c_231 (by omega))
                    refine r_iinc (pc := 236) (j := 4) (lv' := [(2, .int (iI (i + 1))), (7, .int (iI z_136)), (5, .long (mkR (lc, sd, r, sg, ln, N, v))), (4, .int (iI rcd)), (3, .int (iI z_108)), (1, .ref o), (0, .ref b)]) C d_L_law_236 hl rfl (by decide) rfl (fun ls hl => ?_)
                    refine r_goto (pc := 239) (tgt := 100) C d_L_law_239 (by decide) ?_
                    exact ih100 (i + 1) ((lc, sd, r, sg, ln, N, v), hist1, (rcd1 - 1), slot, uf, T, m) (by omega) (by omega) _ _ _ w (lv_sub hl [0, 5, 6] rfl)
          · skip
            refine r_iload (pc := 183) C d_L_law_183 (lv_at hl 2 rfl) ?_
            refine r_iconst (pc := 185) C d_L_law_185 ?_
            refine r_iadd (pc := 186) C d_L_law_186 ?_
            refine r_goto (pc := 187) (tgt := 192) C d_L_law_187 (by decide) ?_
            refine r_icmp_ne (pc := 192) (tgt := 234) C (by omega) d_L_law_192 (by decide) (fun c_192 => ?_) (fun c_192 => ?_)
            · skip
              exfalso
              omega
            · skip
              refine r_iload_n (pc := 195) C d_L_law_195 rfl (lv_at hl 3 rfl) ?_
              refine r_bipush (pc := 196) C d_L_law_196 (by decide) ?_
              refine r_ishr (pc := 198) C d_L_law_198 ?_
              refine r_top (y := iI ((iI z_108 >>> (iI 24 &&& 31)).toInt)) ((iI_of _).symm) ?_
              refine r_iconst (pc := 199) C d_L_law_199 ?_
              refine r_iand (pc := 200) C d_L_law_200 ?_
              refine r_top (y := iI ((iI ((iI z_108 >>> (iI 24 &&& 31)).toInt) &&& iI 3).toInt)) ((iI_of _).symm) ?_
              refine r_if_ne (pc := 201) (tgt := 236) C (iI_rg _) d_L_law_201 (by decide) (fun c_201 => ?_) (fun c_201 => ?_)
              · skip
                refine r_iinc (pc := 236) (j := 4) (lv' := [(2, .int (iI (i + 1))), (7, .int (iI z_136)), (5, .long (mkR (lc, sd, r, sg, ln, N, v))), (4, .int (iI rcd)), (3, .int (iI z_108)), (1, .ref o), (0, .ref b)]) C d_L_law_236 hl rfl (by decide) rfl (fun ls hl => ?_)
                refine r_goto (pc := 239) (tgt := 100) C d_L_law_239 (by decide) ?_
                exact ih100 (i + 1) ((lc1, sd1, r1, sg1, ln1, N1, v1), hist1, rcd1, slot, uf, T, m) (by omega) (by omega) _ _ _ w (lv_sub hl [0, 5, 6] rfl)
              · skip
                refine r_aload_n (pc := 204) C d_L_law_204 rfl (lv_at hl 5 rfl) ?_
                refine l_callV (pc := 205) (As := []) (rest := []) C w (fun ws hA => c_D_undo hT o _ ws hA) ml_L_119 im_D_undo se_D_undo cd_D_undo hd_D_undo rfl (by rw [hRm]; exact ⟨⟨Nat.le_of_ble_eq_true rfl, Nat.le_of_ble_eq_true rfl⟩, Nat.le_of_ble_eq_true rfl, Nat.le_of_ble_eq_true rfl⟩) hl.1 rfl (Nat.le_of_ble_eq_true rfl) d_L_law_205 (fun z_205 A_205 H locs hz_205 w => ?_)
                obtain ⟨e1_205, e2_205⟩ := q_undo hu1 hu2 hz_205
                subst e2_205
                refine r_iload (pc := 208) C d_L_law_208 (lv_at hl 2 rfl) ?_
                refine r_bipush (pc := 210) C d_L_law_210 (by decide) ?_
                refine r_icmp_ge (pc := 212) (tgt := 220) C (by omega) d_L_law_212 (by decide) (fun c_212 => ?_) (fun c_212 => ?_)
                · skip
                  refine r_iconst (pc := 220) C d_L_law_220 ?_
                  refine r_icmp_ne (pc := 221) (tgt := 234) C (by omega) d_L_law_221 (by decide) (fun c_221 => ?_) (fun c_221 => ?_)
                  · skip
                    exfalso
                    omega
                  · skip
                    refine r_aload_n (pc := 224) C d_L_law_224 rfl (lv_at hl 5 rfl) ?_
                    refine l_callL (pc := 225) (As := [.ref o]) (rest := []) (x := mkR (lc, sd, r, sg, ln, N, v)) (fun _ _ h => h) C w (c_L_mark hT o _) ml_L_21 st_L_mark ini_L cd_L_mark hd_L_mark rfl (by rw [hRm]; exact ⟨⟨Nat.le_of_ble_eq_true rfl, Nat.le_of_ble_eq_true rfl⟩, Nat.le_of_ble_eq_true rfl, Nat.le_of_ble_eq_true rfl⟩) hl.1 rfl (Nat.le_of_ble_eq_true rfl) d_L_law_225 (fun H locs w => ?_)
                    refine r_lload (pc := 228) C d_L_law_228 (lv_at hl 1 rfl) ?_
                    refine r_lcmp_same (pc := 230) (h := (rfl)) C d_L_law_230 ?_
                    refine r_if_eq (pc := 231) (tgt := 236) C (by omega) d_L_law_231 (by decide) (fun c_231 => ?_) (fun c_231 => absurd c_231 (by omega))
                    refine r_iinc (pc := 236) (j := 4) (lv' := [(2, .int (iI (i + 1))), (7, .int (iI z_136)), (5, .long (mkR (lc, sd, r, sg, ln, N, v))), (4, .int (iI rcd)), (3, .int (iI z_108)), (1, .ref o), (0, .ref b)]) C d_L_law_236 hl rfl (by decide) rfl (fun ls hl => ?_)
                    refine r_goto (pc := 239) (tgt := 100) C d_L_law_239 (by decide) ?_
                    exact ih100 (i + 1) ((lc, sd, r, sg, ln, N, v), hist1, (rcd1 - 1), slot, uf, T, m) (by omega) (by omega) _ _ _ w (lv_sub hl [0, 5, 6] rfl)
                · skip
                  refine r_iload (pc := 215) C d_L_law_215 (lv_at hl 2 rfl) ?_
                  refine r_goto (pc := 217) (tgt := 221) C d_L_law_217 (by decide) ?_
                  refine r_icmp_ne (pc := 221) (tgt := 234) C (by omega) d_L_law_221 (by decide) (fun c_221 => ?_) (fun c_221 => ?_)
                  · skip
                    exfalso
                    omega
                  · skip
                    refine r_aload_n (pc := 224) C d_L_law_224 rfl (lv_at hl 5 rfl) ?_
                    refine l_callL (pc := 225) (As := [.ref o]) (rest := []) (x := mkR (lc, sd, r, sg, ln, N, v)) (fun _ _ h => h) C w (c_L_mark hT o _) ml_L_21 st_L_mark ini_L cd_L_mark hd_L_mark rfl (by rw [hRm]; exact ⟨⟨Nat.le_of_ble_eq_true rfl, Nat.le_of_ble_eq_true rfl⟩, Nat.le_of_ble_eq_true rfl, Nat.le_of_ble_eq_true rfl⟩) hl.1 rfl (Nat.le_of_ble_eq_true rfl) d_L_law_225 (fun H locs w => ?_)
                    refine r_lload (pc := 228) C d_L_law_228 (lv_at hl 1 rfl) ?_
                    refine r_lcmp_same (pc := 230) (h := (rfl)) C d_L_law_230 ?_
                    refine r_if_eq (pc := 231) (tgt := 236) C (by omega) d_L_law_231 (by decide) (fun c_231 => ?_) (fun c_231 => absurd c_231 (by omega))
                    refine r_iinc (pc := 236) (j := 4) (lv' := [(2, .int (iI (i + 1))), (7, .int (iI z_136)), (5, .long (mkR (lc, sd, r, sg, ln, N, v))), (4, .int (iI rcd)), (3, .int (iI z_108)), (1, .ref o), (0, .ref b)]) C d_L_law_236 hl rfl (by decide) rfl (fun ls hl => ?_)
                    refine r_goto (pc := 239) (tgt := 100) C d_L_law_239 (by decide) ?_
                    exact ih100 (i + 1) ((lc, sd, r, sg, ln, N, v), hist1, (rcd1 - 1), slot, uf, T, m) (by omega) (by omega) _ _ _ w (lv_sub hl [0, 5, 6] rfl)
        · skip
          have hsm : A_136 = ((lc, sd, r, sg, ln, N, v), hist, rcd, slot, uf, T, m) := by
            rcases hz_136 with ⟨u1, u2⟩ | ⟨u1, -⟩
            · exact u2
            · omega
          subst hsm
          refine r_aload_n (pc := 146) C d_L_law_146 rfl (lv_at hl 5 rfl) ?_
          refine l_callL (pc := 147) (As := [.ref o]) (rest := []) (x := mkR (lc, sd, r, sg, ln, N, v)) (fun _ _ h => h) C w (c_L_mark hT o _) ml_L_21 st_L_mark ini_L cd_L_mark hd_L_mark rfl (by rw [hRm]; exact ⟨⟨Nat.le_of_ble_eq_true rfl, Nat.le_of_ble_eq_true rfl⟩, Nat.le_of_ble_eq_true rfl, Nat.le_of_ble_eq_true rfl⟩) hl.1 rfl (Nat.le_of_ble_eq_true rfl) d_L_law_147 (fun H locs w => ?_)
          refine r_lload (pc := 150) C d_L_law_150 (lv_at hl 1 rfl) ?_
          refine r_lcmp_same (pc := 152) (h := (rfl)) C d_L_law_152 ?_
          refine r_if_ne (pc := 153) (tgt := 234) C (by omega) d_L_law_153 (by decide) (fun c_153 => absurd c_153 (by omega)) (fun c_153 => ?_)
          refine r_aload_n (pc := 156) C d_L_law_156 rfl (lv_at hl 5 rfl) ?_
          refine r_bipush (pc := 157) C d_L_law_157 (by decide) ?_
          refine l_callE (pc := 159) (As := [.int (iI 8)]) (rest := []) (x := rcd) (fun _ _ h => q_count_8 h) C w (fun ws hA => c_D_count hT o _ ws hA 8 (by omega)) ml_L_11 im_D_count se_D_count cd_D_count hd_D_count rfl (by rw [hRm]; exact ⟨⟨Nat.le_of_ble_eq_true rfl, Nat.le_of_ble_eq_true rfl⟩, Nat.le_of_ble_eq_true rfl, Nat.le_of_ble_eq_true rfl⟩) hl.1 rfl (Nat.le_of_ble_eq_true rfl) d_L_law_159 (fun H locs w => ?_)
          refine r_iload (pc := 162) C d_L_law_162 (lv_at hl 2 rfl) ?_
          refine r_icmp_eq (pc := 164) (tgt := 236) C (by omega) d_L_law_164 (by decide) (fun c_164 => ?_) (fun c_164 => ?_)
          · skip
            refine r_iinc (pc := 236) (j := 4) (lv' := [(2, .int (iI (i + 1))), (7, .int (iI z_136)), (5, .long (mkR (lc, sd, r, sg, ln, N, v))), (4, .int (iI rcd)), (3, .int (iI z_108)), (1, .ref o), (0, .ref b)]) C d_L_law_236 hl rfl (by decide) rfl (fun ls hl => ?_)
            refine r_goto (pc := 239) (tgt := 100) C d_L_law_239 (by decide) ?_
            exact ih100 (i + 1) ((lc, sd, r, sg, ln, N, v), hist, rcd, slot, uf, T, m) (by omega) (by omega) _ _ _ w (lv_sub hl [0, 5, 6] rfl)
          · skip
            exact absurd rfl c_164
  exact L100 ((24 - 0) + 1 : Int).toNat 0 ((0, 1, 0, (fun _ => 0), (fun _ => 0), 0, (fun _ => 0)), (fun _ => Rw0), 0, (fun _ => Rw0), (fun _ => 0), (fun _ => 0), 0) (by first | omega | rfl) (by omega) _ _ _ w (lv_sub hl [0, 1, 2] rfl)
