/-! text -/
theorem d_L_text_0 : decode b_L_text 0 = .ok (.iconst 0, 1) := by decide +kernel
theorem d_L_text_1 : decode b_L_text 1 = .ok (.istore_n 1, 1) := by decide +kernel
theorem d_L_text_2 : decode b_L_text 2 = .ok (.iconst 0, 1) := by decide +kernel
theorem d_L_text_3 : decode b_L_text 3 = .ok (.istore_n 2, 1) := by decide +kernel
theorem d_L_text_4 : decode b_L_text 4 = .ok (.iload_n 2, 1) := by decide +kernel
theorem d_L_text_5 : decode b_L_text 5 = .ok (.aload_n 0, 1) := by decide +kernel
theorem d_L_text_6 : decode b_L_text 6 = .ok (.iconst 1, 1) := by decide +kernel
theorem d_L_text_7 : decode b_L_text 7 = .ok (.invokevirtual 11, 3) := by decide +kernel
theorem d_L_text_10 : decode b_L_text 10 = .ok (.if_icmp .ge 178, 3) := by decide +kernel
theorem d_L_text_13 : decode b_L_text 13 = .ok (.aload_n 0, 1) := by decide +kernel
theorem d_L_text_14 : decode b_L_text 14 = .ok (.iload_n 2, 1) := by decide +kernel
theorem d_L_text_15 : decode b_L_text 15 = .ok (.iconst 2, 1) := by decide +kernel
theorem d_L_text_16 : decode b_L_text 16 = .ok (.invokevirtual 17, 3) := by decide +kernel
theorem d_L_text_19 : decode b_L_text 19 = .ok (.istore_n 3, 1) := by decide +kernel
theorem d_L_text_20 : decode b_L_text 20 = .ok (.aload_n 0, 1) := by decide +kernel
theorem d_L_text_21 : decode b_L_text 21 = .ok (.iload_n 2, 1) := by decide +kernel
theorem d_L_text_22 : decode b_L_text 22 = .ok (.iconst 0, 1) := by decide +kernel
theorem d_L_text_23 : decode b_L_text 23 = .ok (.invokevirtual 17, 3) := by decide +kernel
theorem d_L_text_26 : decode b_L_text 26 = .ok (.istore 4, 2) := by decide +kernel
theorem d_L_text_28 : decode b_L_text 28 = .ok (.iload_n 2, 1) := by decide +kernel
theorem d_L_text_29 : decode b_L_text 29 = .ok (.ifCond .le 15, 3) := by decide +kernel
theorem d_L_text_32 : decode b_L_text 32 = .ok (.aload_n 0, 1) := by decide +kernel
theorem d_L_text_33 : decode b_L_text 33 = .ok (.iload_n 1, 1) := by decide +kernel
theorem d_L_text_34 : decode b_L_text 34 = .ok (.invokevirtual 64, 3) := by decide +kernel
theorem d_L_text_37 : decode b_L_text 37 = .ok (.bipush 59, 2) := by decide +kernel
theorem d_L_text_39 : decode b_L_text 39 = .ok (.if_icmp .eq 5, 3) := by decide +kernel
theorem d_L_text_42 : decode b_L_text 42 = .ok (.iconst 0, 1) := by decide +kernel
theorem d_L_text_43 : decode b_L_text 43 = .ok (.ireturn, 1) := by decide +kernel
theorem d_L_text_44 : decode b_L_text 44 = .ok (.iload_n 1, 1) := by decide +kernel
theorem d_L_text_45 : decode b_L_text 45 = .ok (.iload_n 2, 1) := by decide +kernel
theorem d_L_text_46 : decode b_L_text 46 = .ok (.ifCond .le 7, 3) := by decide +kernel
theorem d_L_text_49 : decode b_L_text 49 = .ok (.iconst 1, 1) := by decide +kernel
theorem d_L_text_50 : decode b_L_text 50 = .ok (.goto 4, 3) := by decide +kernel
theorem d_L_text_53 : decode b_L_text 53 = .ok (.iconst 0, 1) := by decide +kernel
theorem d_L_text_54 : decode b_L_text 54 = .ok (.iadd, 1) := by decide +kernel
theorem d_L_text_55 : decode b_L_text 55 = .ok (.istore_n 1, 1) := by decide +kernel
theorem d_L_text_56 : decode b_L_text 56 = .ok (.aload_n 0, 1) := by decide +kernel
theorem d_L_text_57 : decode b_L_text 57 = .ok (.iload_n 1, 1) := by decide +kernel
theorem d_L_text_58 : decode b_L_text 58 = .ok (.invokevirtual 64, 3) := by decide +kernel
theorem d_L_text_61 : decode b_L_text 61 = .ok (.iload 4, 2) := by decide +kernel
theorem d_L_text_63 : decode b_L_text 63 = .ok (.bipush 10, 2) := by decide +kernel
theorem d_L_text_65 : decode b_L_text 65 = .ok (.if_icmp .ne 8, 3) := by decide +kernel
theorem d_L_text_68 : decode b_L_text 68 = .ok (.bipush 120, 2) := by decide +kernel
theorem d_L_text_70 : decode b_L_text 70 = .ok (.goto 8, 3) := by decide +kernel
theorem d_L_text_73 : decode b_L_text 73 = .ok (.bipush 48, 2) := by decide +kernel
theorem d_L_text_75 : decode b_L_text 75 = .ok (.iload 4, 2) := by decide +kernel
theorem d_L_text_77 : decode b_L_text 77 = .ok (.iadd, 1) := by decide +kernel
theorem d_L_text_78 : decode b_L_text 78 = .ok (.if_icmp .ne 20, 3) := by decide +kernel
theorem d_L_text_81 : decode b_L_text 81 = .ok (.iload_n 3, 1) := by decide +kernel
theorem d_L_text_82 : decode b_L_text 82 = .ok (.iconst 1, 1) := by decide +kernel
theorem d_L_text_83 : decode b_L_text 83 = .ok (.if_icmp .le 17, 3) := by decide +kernel
theorem d_L_text_86 : decode b_L_text 86 = .ok (.aload_n 0, 1) := by decide +kernel
theorem d_L_text_87 : decode b_L_text 87 = .ok (.iload_n 1, 1) := by decide +kernel
theorem d_L_text_88 : decode b_L_text 88 = .ok (.iconst 1, 1) := by decide +kernel
theorem d_L_text_89 : decode b_L_text 89 = .ok (.iadd, 1) := by decide +kernel
theorem d_L_text_90 : decode b_L_text 90 = .ok (.invokevirtual 64, 3) := by decide +kernel
theorem d_L_text_93 : decode b_L_text 93 = .ok (.bipush 42, 2) := by decide +kernel
theorem d_L_text_95 : decode b_L_text 95 = .ok (.if_icmp .eq 5, 3) := by decide +kernel
theorem d_L_text_98 : decode b_L_text 98 = .ok (.iconst 0, 1) := by decide +kernel
theorem d_L_text_99 : decode b_L_text 99 = .ok (.ireturn, 1) := by decide +kernel
theorem d_L_text_100 : decode b_L_text 100 = .ok (.iload_n 1, 1) := by decide +kernel
theorem d_L_text_101 : decode b_L_text 101 = .ok (.iload_n 3, 1) := by decide +kernel
theorem d_L_text_102 : decode b_L_text 102 = .ok (.iconst 1, 1) := by decide +kernel
theorem d_L_text_103 : decode b_L_text 103 = .ok (.if_icmp .le 7, 3) := by decide +kernel
theorem d_L_text_106 : decode b_L_text 106 = .ok (.iconst 2, 1) := by decide +kernel
theorem d_L_text_107 : decode b_L_text 107 = .ok (.goto 4, 3) := by decide +kernel
theorem d_L_text_110 : decode b_L_text 110 = .ok (.iconst 1, 1) := by decide +kernel
theorem d_L_text_111 : decode b_L_text 111 = .ok (.iadd, 1) := by decide +kernel
theorem d_L_text_112 : decode b_L_text 112 = .ok (.istore_n 1, 1) := by decide +kernel
theorem d_L_text_113 : decode b_L_text 113 = .ok (.iconst 0, 1) := by decide +kernel
theorem d_L_text_114 : decode b_L_text 114 = .ok (.istore 5, 2) := by decide +kernel
theorem d_L_text_116 : decode b_L_text 116 = .ok (.iload_n 3, 1) := by decide +kernel
theorem d_L_text_117 : decode b_L_text 117 = .ok (.iconst 1, 1) := by decide +kernel
theorem d_L_text_118 : decode b_L_text 118 = .ok (.if_icmp .le 51, 3) := by decide +kernel
theorem d_L_text_121 : decode b_L_text 121 = .ok (.iload 5, 2) := by decide +kernel
theorem d_L_text_123 : decode b_L_text 123 = .ok (.iload_n 3, 1) := by decide +kernel
theorem d_L_text_124 : decode b_L_text 124 = .ok (.if_icmp .ge 45, 3) := by decide +kernel
theorem d_L_text_127 : decode b_L_text 127 = .ok (.aload_n 0, 1) := by decide +kernel
theorem d_L_text_128 : decode b_L_text 128 = .ok (.iload_n 1, 1) := by decide +kernel
theorem d_L_text_129 : decode b_L_text 129 = .ok (.invokevirtual 64, 3) := by decide +kernel
theorem d_L_text_132 : decode b_L_text 132 = .ok (.bipush 48, 2) := by decide +kernel
theorem d_L_text_134 : decode b_L_text 134 = .ok (.if_icmp .lt 35, 3) := by decide +kernel
theorem d_L_text_137 : decode b_L_text 137 = .ok (.aload_n 0, 1) := by decide +kernel
theorem d_L_text_138 : decode b_L_text 138 = .ok (.iload_n 1, 1) := by decide +kernel
theorem d_L_text_139 : decode b_L_text 139 = .ok (.invokevirtual 64, 3) := by decide +kernel
theorem d_L_text_142 : decode b_L_text 142 = .ok (.bipush 57, 2) := by decide +kernel
theorem d_L_text_144 : decode b_L_text 144 = .ok (.if_icmp .gt 25, 3) := by decide +kernel
theorem d_L_text_147 : decode b_L_text 147 = .ok (.bipush 10, 2) := by decide +kernel
theorem d_L_text_149 : decode b_L_text 149 = .ok (.iload 5, 2) := by decide +kernel
theorem d_L_text_151 : decode b_L_text 151 = .ok (.imul, 1) := by decide +kernel
theorem d_L_text_152 : decode b_L_text 152 = .ok (.aload_n 0, 1) := by decide +kernel
theorem d_L_text_153 : decode b_L_text 153 = .ok (.iload_n 1, 1) := by decide +kernel
theorem d_L_text_154 : decode b_L_text 154 = .ok (.invokevirtual 64, 3) := by decide +kernel
theorem d_L_text_157 : decode b_L_text 157 = .ok (.iadd, 1) := by decide +kernel
theorem d_L_text_158 : decode b_L_text 158 = .ok (.bipush 48, 2) := by decide +kernel
theorem d_L_text_160 : decode b_L_text 160 = .ok (.isub, 1) := by decide +kernel
theorem d_L_text_161 : decode b_L_text 161 = .ok (.istore 5, 2) := by decide +kernel
theorem d_L_text_163 : decode b_L_text 163 = .ok (.iinc 1 1, 3) := by decide +kernel
theorem d_L_text_166 : decode b_L_text 166 = .ok (.goto (-50), 3) := by decide +kernel
theorem d_L_text_169 : decode b_L_text 169 = .ok (.iload_n 3, 1) := by decide +kernel
theorem d_L_text_170 : decode b_L_text 170 = .ok (.iconst 1, 1) := by decide +kernel
theorem d_L_text_171 : decode b_L_text 171 = .ok (.if_icmp .le 11, 3) := by decide +kernel
theorem d_L_text_174 : decode b_L_text 174 = .ok (.iload 5, 2) := by decide +kernel
theorem d_L_text_176 : decode b_L_text 176 = .ok (.iload_n 3, 1) := by decide +kernel
theorem d_L_text_177 : decode b_L_text 177 = .ok (.if_icmp .eq 5, 3) := by decide +kernel
theorem d_L_text_180 : decode b_L_text 180 = .ok (.iconst 0, 1) := by decide +kernel
theorem d_L_text_181 : decode b_L_text 181 = .ok (.ireturn, 1) := by decide +kernel
theorem d_L_text_182 : decode b_L_text 182 = .ok (.iinc 2 1, 3) := by decide +kernel
theorem d_L_text_185 : decode b_L_text 185 = .ok (.goto (-181), 3) := by decide +kernel
theorem d_L_text_188 : decode b_L_text 188 = .ok (.iload_n 1, 1) := by decide +kernel
theorem d_L_text_189 : decode b_L_text 189 = .ok (.aload_n 0, 1) := by decide +kernel
theorem d_L_text_190 : decode b_L_text 190 = .ok (.iconst 4, 1) := by decide +kernel
theorem d_L_text_191 : decode b_L_text 191 = .ok (.invokevirtual 11, 3) := by decide +kernel
theorem d_L_text_194 : decode b_L_text 194 = .ok (.if_icmp .eq 5, 3) := by decide +kernel
theorem d_L_text_197 : decode b_L_text 197 = .ok (.iconst 0, 1) := by decide +kernel
theorem d_L_text_198 : decode b_L_text 198 = .ok (.ireturn, 1) := by decide +kernel
theorem d_L_text_199 : decode b_L_text 199 = .ok (.iload_n 1, 1) := by decide +kernel
theorem d_L_text_200 : decode b_L_text 200 = .ok (.ifCond .eq 9, 3) := by decide +kernel
theorem d_L_text_203 : decode b_L_text 203 = .ok (.iload_n 1, 1) := by decide +kernel
theorem d_L_text_204 : decode b_L_text 204 = .ok (.bipush 80, 2) := by decide +kernel
theorem d_L_text_206 : decode b_L_text 206 = .ok (.if_icmp .le 5, 3) := by decide +kernel
theorem d_L_text_209 : decode b_L_text 209 = .ok (.iconst 1, 1) := by decide +kernel
theorem d_L_text_210 : decode b_L_text 210 = .ok (.ireturn, 1) := by decide +kernel
theorem d_L_text_211 : decode b_L_text 211 = .ok (.aload_n 0, 1) := by decide +kernel
theorem d_L_text_212 : decode b_L_text 212 = .ok (.invokevirtual 110, 3) := by decide +kernel
theorem d_L_text_215 : decode b_L_text 215 = .ok (.istore_n 2, 1) := by decide +kernel
theorem d_L_text_216 : decode b_L_text 216 = .ok (.iconst 0, 1) := by decide +kernel
theorem d_L_text_217 : decode b_L_text 217 = .ok (.istore_n 3, 1) := by decide +kernel
theorem d_L_text_218 : decode b_L_text 218 = .ok (.iload_n 3, 1) := by decide +kernel
theorem d_L_text_219 : decode b_L_text 219 = .ok (.iload_n 1, 1) := by decide +kernel
theorem d_L_text_220 : decode b_L_text 220 = .ok (.if_icmp .ge 20, 3) := by decide +kernel
theorem d_L_text_223 : decode b_L_text 223 = .ok (.aload_n 0, 1) := by decide +kernel
theorem d_L_text_224 : decode b_L_text 224 = .ok (.aload_n 0, 1) := by decide +kernel
theorem d_L_text_225 : decode b_L_text 225 = .ok (.iload_n 3, 1) := by decide +kernel
theorem d_L_text_226 : decode b_L_text 226 = .ok (.invokevirtual 64, 3) := by decide +kernel
theorem d_L_text_229 : decode b_L_text 229 = .ok (.i2l, 1) := by decide +kernel
theorem d_L_text_230 : decode b_L_text 230 = .ok (.invokevirtual 80, 3) := by decide +kernel
theorem d_L_text_233 : decode b_L_text 233 = .ok (.istore_n 2, 1) := by decide +kernel
theorem d_L_text_234 : decode b_L_text 234 = .ok (.iinc 3 1, 3) := by decide +kernel
theorem d_L_text_237 : decode b_L_text 237 = .ok (.goto (-19), 3) := by decide +kernel
theorem d_L_text_240 : decode b_L_text 240 = .ok (.aload_n 0, 1) := by decide +kernel
theorem d_L_text_241 : decode b_L_text 241 = .ok (.invokestatic 21, 3) := by decide +kernel
theorem d_L_text_244 : decode b_L_text 244 = .ok (.lstore_n 3, 1) := by decide +kernel
theorem d_L_text_245 : decode b_L_text 245 = .ok (.aload_n 0, 1) := by decide +kernel
theorem d_L_text_246 : decode b_L_text 246 = .ok (.iconst 1, 1) := by decide +kernel
theorem d_L_text_247 : decode b_L_text 247 = .ok (.invokevirtual 11, 3) := by decide +kernel
theorem d_L_text_250 : decode b_L_text 250 = .ok (.istore 5, 2) := by decide +kernel
theorem d_L_text_252 : decode b_L_text 252 = .ok (.iload_n 2, 1) := by decide +kernel
theorem d_L_text_253 : decode b_L_text 253 = .ok (.iload_n 1, 1) := by decide +kernel
theorem d_L_text_254 : decode b_L_text 254 = .ok (.if_icmp .ne 59, 3) := by decide +kernel
theorem d_L_text_257 : decode b_L_text 257 = .ok (.aload_n 0, 1) := by decide +kernel
theorem d_L_text_258 : decode b_L_text 258 = .ok (.invokevirtual 113, 3) := by decide +kernel
theorem d_L_text_261 : decode b_L_text 261 = .ok (.bipush (-6), 2) := by decide +kernel
theorem d_L_text_263 : decode b_L_text 263 = .ok (.if_icmp .ne 50, 3) := by decide +kernel
theorem d_L_text_266 : decode b_L_text 266 = .ok (.aload_n 0, 1) := by decide +kernel
theorem d_L_text_267 : decode b_L_text 267 = .ok (.invokevirtual 116, 3) := by decide +kernel
theorem d_L_text_270 : decode b_L_text 270 = .ok (.iload 5, 2) := by decide +kernel
theorem d_L_text_272 : decode b_L_text 272 = .ok (.if_icmp .ne 41, 3) := by decide +kernel
theorem d_L_text_275 : decode b_L_text 275 = .ok (.aload_n 0, 1) := by decide +kernel
theorem d_L_text_276 : decode b_L_text 276 = .ok (.bipush 7, 2) := by decide +kernel
theorem d_L_text_278 : decode b_L_text 278 = .ok (.invokevirtual 11, 3) := by decide +kernel
theorem d_L_text_281 : decode b_L_text 281 = .ok (.ifCond .ne 32, 3) := by decide +kernel
theorem d_L_text_284 : decode b_L_text 284 = .ok (.aload_n 0, 1) := by decide +kernel
theorem d_L_text_285 : decode b_L_text 285 = .ok (.invokestatic 21, 3) := by decide +kernel
theorem d_L_text_288 : decode b_L_text 288 = .ok (.lload_n 3, 1) := by decide +kernel
theorem d_L_text_289 : decode b_L_text 289 = .ok (.lcmp, 1) := by decide +kernel
theorem d_L_text_290 : decode b_L_text 290 = .ok (.ifCond .ne 23, 3) := by decide +kernel
theorem d_L_text_293 : decode b_L_text 293 = .ok (.aload_n 0, 1) := by decide +kernel
theorem d_L_text_294 : decode b_L_text 294 = .ok (.invokevirtual 119, 3) := by decide +kernel
theorem d_L_text_297 : decode b_L_text 297 = .ok (.ifCond .lt 16, 3) := by decide +kernel
theorem d_L_text_300 : decode b_L_text 300 = .ok (.aload_n 0, 1) := by decide +kernel
theorem d_L_text_301 : decode b_L_text 301 = .ok (.invokestatic 21, 3) := by decide +kernel
theorem d_L_text_304 : decode b_L_text 304 = .ok (.lload_n 3, 1) := by decide +kernel
theorem d_L_text_305 : decode b_L_text 305 = .ok (.lcmp, 1) := by decide +kernel
theorem d_L_text_306 : decode b_L_text 306 = .ok (.ifCond .ne 7, 3) := by decide +kernel
theorem d_L_text_309 : decode b_L_text 309 = .ok (.iconst 1, 1) := by decide +kernel
theorem d_L_text_310 : decode b_L_text 310 = .ok (.goto 4, 3) := by decide +kernel
theorem d_L_text_313 : decode b_L_text 313 = .ok (.iconst 0, 1) := by decide +kernel
theorem d_L_text_314 : decode b_L_text 314 = .ok (.ireturn, 1) := by decide +kernel
set_option maxHeartbeats 4000000 in
set_option maxRecDepth 20000 in
theorem c_L_text {l : Launch} {G : va_G} {tys : List (ClassId × FieldType)} {cI cO cZ : ClassId} (hT : TY tys cI cO cZ) (o : Nat) (A : AS)  : CTA l G tys cI cO cZ y_L_text b_L_text 6 .boolean 6 134 o [.ref o] A (fun z A' => z = 1) := by
  refine mkAZ (by decide) (Nat.le_of_ble_eq_true rfl) ?_
  rintro X rfl rfl rfl hRm C kret H ls w hl
  have hl : lv_has ls 6 [(0, .ref o)] := hl
  generalize ([] : List Loc) = locs at w ⊢
  obtain ⟨⟨lc, sd, r, sg, ln, N, v⟩, hist, rcd, slot, uf, T, m⟩ := A
  have hK := w.ok
  have hR : RwOk lc sd r sg ln N v := hK.1
  have hrcd : 0 ≤ rcd ∧ rcd ≤ 6 := hK.2.1
  have hm80 : 0 ≤ m ∧ m ≤ 80 := hK.2.2.2.2.1
  obtain ⟨hO, hr50, hN3, hlc, hsd⟩ := hR
  have hr0 := hO.1
  have hN0 := hO.n0
  have hcm := crf_mono hO hN3 (j := r) (k := r) hr0 (by omega) (by omega)
  have hcu : ps (crf ln) r ≤ 6 * r := (ps_bound (lo := 0) (hi := 6) r hr0 (fun j j1 j2 => by have := crf_pos hO hN3 j1 j2; omega)).2
  refine r_iconst (pc := 0) C d_L_text_0 ?_
  refine r_istore_n (pc := 1) (lv' := [(1, .int (iI 0)), (0, .ref o)]) C d_L_text_1 rfl hl (by decide) rfl (fun ls hl => ?_)
  refine r_iconst (pc := 2) C d_L_text_2 ?_
  refine r_istore_n (pc := 3) (lv' := [(2, .int (iI 0)), (1, .int (iI 0)), (0, .ref o)]) C d_L_text_3 rfl hl (by decide) rfl (fun ls hl => ?_)
  have L4 : ∀ (fuel : Nat), ∀ (k : Int) (pa : Int), 0 ≤ k ∧ k ≤ r → pa = ps (crf ln) k + max 0 (k - 1) → (r - k) < (fuel : Int) → ∀ (H : Heap) (locs : List Loc) (ls : Array Slot), LW X cI cO cZ o ((lc, sd, r, sg, ln, N, v), hist, rcd, slot, uf, T, m) H locs → lv_has ls 6 [(2, .int (iI k)), (1, .int (iI pa)), (0, .ref o)] → GG X 0 0 H locs 4 ls [] := by
    intro fuel
    induction fuel with
    | zero =>
      intro k pa hk hpa hfuel
      exact absurd hfuel (by omega)
    | succ fuel ih4 =>
      intro k pa hk hpa hfuel H locs ls w hl
      refine r_iload_n (pc := 4) C d_L_text_4 rfl (lv_at hl 0 rfl) ?_
      refine r_aload_n (pc := 5) C d_L_text_5 rfl (lv_at hl 2 rfl) ?_
      refine r_iconst (pc := 6) C d_L_text_6 ?_
      refine l_callE (pc := 7) (As := [.int (iI 1)]) (rest := [.int (iI k)]) (x := r) (fun _ _ h => q_count_1 h) C w (fun ws hA => c_D_count hT o _ ws hA 1 (by omega)) ml_L_11 im_D_count se_D_count cd_D_count hd_D_count rfl (by rw [hRm]; exact ⟨⟨Nat.le_of_ble_eq_true rfl, Nat.le_of_ble_eq_true rfl⟩, Nat.le_of_ble_eq_true rfl, Nat.le_of_ble_eq_true rfl⟩) hl.1 rfl (Nat.le_of_ble_eq_true rfl) d_L_text_7 (fun H locs w => ?_)
      refine r_icmp_ge (pc := 10) (tgt := 188) C (by omega) d_L_text_10 (by decide) (fun c_10 => ?_) (fun c_10 => ?_)
      · skip
        have hkr : k = r := by omega
        rw [hkr] at hpa
        refine r_iload_n (pc := 188) C d_L_text_188 rfl (lv_at hl 1 rfl) ?_
        refine r_aload_n (pc := 189) C d_L_text_189 rfl (lv_at hl 2 rfl) ?_
        refine r_iconst (pc := 190) C d_L_text_190 ?_
        refine l_callE (pc := 191) (As := [.int (iI 4)]) (rest := [.int (iI pa)]) (x := (max 0 (r - 1) + ps (crf ln) r)) (fun _ _ h => q_count_4 h) C w (fun ws hA => c_D_count hT o _ ws hA 4 (by omega)) ml_L_11 im_D_count se_D_count cd_D_count hd_D_count rfl (by rw [hRm]; exact ⟨⟨Nat.le_of_ble_eq_true rfl, Nat.le_of_ble_eq_true rfl⟩, Nat.le_of_ble_eq_true rfl, Nat.le_of_ble_eq_true rfl⟩) hl.1 rfl (Nat.le_of_ble_eq_true rfl) d_L_text_191 (fun H locs w => ?_)
        refine r_icmp_eq (pc := 194) (tgt := 199) C (by omega) d_L_text_194 (by decide) (fun c_194 => ?_) (fun c_194 => ?_)
        · skip
          refine r_iload_n (pc := 199) C d_L_text_199 rfl (lv_at hl 1 rfl) ?_
          refine r_if_eq (pc := 200) (tgt := 209) C (by omega) d_L_text_200 (by decide) (fun c_200 => ?_) (fun c_200 => ?_)
          · skip
            refine r_iconst (pc := 209) C d_L_text_209 ?_
            exact kret _ _ _ _ 1 _ d_L_text_210 w (by omega) (rfl)
          · skip
            refine r_iload_n (pc := 203) C d_L_text_203 rfl (lv_at hl 1 rfl) ?_
            refine r_bipush (pc := 204) C d_L_text_204 (by decide) ?_
            refine r_icmp_le (pc := 206) (tgt := 211) C (by omega) d_L_text_206 (by decide) (fun c_206 => ?_) (fun c_206 => ?_)
            · skip
              have hrp : 1 ≤ r := by
                by_cases q : r = 0
                · rw [q, ps_zero] at hpa; omega
                · omega
              refine r_aload_n (pc := 211) C d_L_text_211 rfl (lv_at hl 2 rfl) ?_
              refine l_callV (pc := 212) (As := []) (rest := []) C w (fun ws hA => c_D_wipe hT o _ ws hA) ml_L_110 im_D_wipe se_D_wipe cd_D_wipe hd_D_wipe rfl (by rw [hRm]; exact ⟨⟨Nat.le_of_ble_eq_true rfl, Nat.le_of_ble_eq_true rfl⟩, Nat.le_of_ble_eq_true rfl, Nat.le_of_ble_eq_true rfl⟩) hl.1 rfl (Nat.le_of_ble_eq_true rfl) d_L_text_212 (fun z_212 A_212 H locs hz_212 w => ?_)
              obtain ⟨e1_212, e2_212⟩ := hz_212
              subst e2_212
              refine r_istore_n (pc := 215) (lv' := [(2, .int (iI z_212)), (1, .int (iI pa)), (0, .ref o)]) C d_L_text_215 rfl hl (by decide) rfl (fun ls hl => ?_)
              refine r_iconst (pc := 216) C d_L_text_216 ?_
              refine r_istore_n (pc := 217) (lv' := [(3, .int (iI 0)), (2, .int (iI z_212)), (1, .int (iI pa)), (0, .ref o)]) C d_L_text_217 rfl hl (by decide) rfl (fun ls hl => ?_)
              have L218 : ∀ (fuel : Nat), ∀ (kk : Int) (had : Int) (T1 : Int → Int), 0 ≤ kk ∧ kk ≤ pa → kk = 0 ∨ had = kk → (∀ x, 0 ≤ x → x < kk → T1 x = tx sg ln r x) → (pa - kk) < (fuel : Int) → ∀ (H : Heap) (locs : List Loc) (ls : Array Slot), LW X cI cO cZ o ((lc, sd, r, sg, ln, N, v), hist, rcd, slot, uf, T1, kk) H locs → lv_has ls 6 [(3, .int (iI kk)), (2, .int (iI had)), (1, .int (iI pa)), (0, .ref o)] → GG X 0 0 H locs 218 ls [] := by
                intro fuel
                induction fuel with
                | zero =>
                  intro kk had T1 hkk hhad hTx hfuel
                  exact absurd hfuel (by omega)
                | succ fuel ih218 =>
                  intro kk had T1 hkk hhad hTx hfuel H locs ls w hl
                  refine r_iload_n (pc := 218) C d_L_text_218 rfl (lv_at hl 0 rfl) ?_
                  refine r_iload_n (pc := 219) C d_L_text_219 rfl (lv_at hl 2 rfl) ?_
                  refine r_icmp_ge (pc := 220) (tgt := 240) C (by omega) d_L_text_220 (by decide) (fun c_220 => ?_) (fun c_220 => ?_)
                  · skip
                    have hkp : kk = pa := by omega
                    have hkm : kk = max 0 (r - 1) + ps (crf ln) r := by omega
                    refine r_aload_n (pc := 240) C d_L_text_240 rfl (lv_at hl 3 rfl) ?_
                    refine l_callL (pc := 241) (As := [.ref o]) (rest := []) (x := mkR (lc, sd, r, sg, ln, N, v)) (fun _ _ h => h) C w (c_L_mark hT o _) ml_L_21 st_L_mark ini_L cd_L_mark hd_L_mark rfl (by rw [hRm]; exact ⟨⟨Nat.le_of_ble_eq_true rfl, Nat.le_of_ble_eq_true rfl⟩, Nat.le_of_ble_eq_true rfl, Nat.le_of_ble_eq_true rfl⟩) hl.1 rfl (Nat.le_of_ble_eq_true rfl) d_L_text_241 (fun H locs w => ?_)
                    refine r_lstore_n (pc := 244) (lv' := [(3, .long (mkR (lc, sd, r, sg, ln, N, v))), (2, .int (iI had)), (1, .int (iI pa)), (0, .ref o)]) C d_L_text_244 rfl hl (by decide) rfl (fun ls hl => ?_)
                    refine r_aload_n (pc := 245) C d_L_text_245 rfl (lv_at hl 3 rfl) ?_
                    refine r_iconst (pc := 246) C d_L_text_246 ?_
                    refine l_callE (pc := 247) (As := [.int (iI 1)]) (rest := []) (x := r) (fun _ _ h => q_count_1 h) C w (fun ws hA => c_D_count hT o _ ws hA 1 (by omega)) ml_L_11 im_D_count se_D_count cd_D_count hd_D_count rfl (by rw [hRm]; exact ⟨⟨Nat.le_of_ble_eq_true rfl, Nat.le_of_ble_eq_true rfl⟩, Nat.le_of_ble_eq_true rfl, Nat.le_of_ble_eq_true rfl⟩) hl.1 rfl (Nat.le_of_ble_eq_true rfl) d_L_text_247 (fun H locs w => ?_)
                    refine r_istore (pc := 250) (lv' := [(5, .int (iI r)), (3, .long (mkR (lc, sd, r, sg, ln, N, v))), (2, .int (iI had)), (1, .int (iI pa)), (0, .ref o)]) C d_L_text_250 hl (by decide) rfl (fun ls hl => ?_)
                    refine r_iload_n (pc := 252) C d_L_text_252 rfl (lv_at hl 2 rfl) ?_
                    refine r_iload_n (pc := 253) C d_L_text_253 rfl (lv_at hl 3 rfl) ?_
                    refine r_icmp_ne (pc := 254) (tgt := 313) C (by omega) d_L_text_254 (by decide) (fun c_254 => ?_) (fun c_254 => ?_)
                    · skip
                      exact absurd (by omega) c_254
                    · skip
                      refine r_aload_n (pc := 257) C d_L_text_257 rfl (lv_at hl 4 rfl) ?_
                      refine l_callE (pc := 258) (As := []) (rest := []) (x := (-6)) (fun _ _ h => q_fault hO hN3 hrp hkm hTx h) C w (fun ws hA => c_D_fault hT o _ ws hA) ml_L_113 im_D_fault se_D_fault cd_D_fault hd_D_fault rfl (by rw [hRm]; exact ⟨⟨Nat.le_of_ble_eq_true rfl, Nat.le_of_ble_eq_true rfl⟩, Nat.le_of_ble_eq_true rfl, Nat.le_of_ble_eq_true rfl⟩) hl.1 rfl (Nat.le_of_ble_eq_true rfl) d_L_text_258 (fun H locs w => ?_)
                      refine r_bipush (pc := 261) C d_L_text_261 (by decide) ?_
                      refine r_icmp_ne (pc := 263) (tgt := 313) C (by omega) d_L_text_263 (by decide) (fun c_263 => absurd c_263 (by omega)) (fun c_263 => ?_)
                      refine r_aload_n (pc := 266) C d_L_text_266 rfl (lv_at hl 4 rfl) ?_
                      refine l_callV (pc := 267) (As := []) (rest := []) C w (fun ws hA => c_D_load hT o _ ws hA) ml_L_116 im_D_load se_D_load cd_D_load hd_D_load rfl (by rw [hRm]; exact ⟨⟨Nat.le_of_ble_eq_true rfl, Nat.le_of_ble_eq_true rfl⟩, Nat.le_of_ble_eq_true rfl, Nat.le_of_ble_eq_true rfl⟩) hl.1 rfl (Nat.le_of_ble_eq_true rfl) d_L_text_267 (fun z_267 A_267 H locs hz_267 w => ?_)
                      obtain ⟨e1_267, r1, sg1, ln1, v1, hist1, rcd1, e2_267, hmk, hu1, hu2⟩ := q_load hO hr50 hN3 hrp hrcd hkm hTx hz_267
                      subst e2_267
                      have hrcd1 : 0 ≤ rcd1 ∧ rcd1 ≤ 6 := w.ok.2.1
                      refine r_iload (pc := 270) C d_L_text_270 (lv_at hl 0 rfl) ?_
                      refine r_icmp_ne (pc := 272) (tgt := 313) C (by omega) d_L_text_272 (by decide) (fun c_272 => ?_) (fun c_272 => ?_)
                      · skip
                        exact absurd e1_267 c_272
                      · skip
                        refine r_aload_n (pc := 275) C d_L_text_275 rfl (lv_at hl 4 rfl) ?_
                        refine r_bipush (pc := 276) C d_L_text_276 (by decide) ?_
                        refine l_callE (pc := 278) (As := [.int (iI 7)]) (rest := []) (x := 0) (fun _ _ h => q_count_7 h) C w (fun ws hA => c_D_count hT o _ ws hA 7 (by omega)) ml_L_11 im_D_count se_D_count cd_D_count hd_D_count rfl (by rw [hRm]; exact ⟨⟨Nat.le_of_ble_eq_true rfl, Nat.le_of_ble_eq_true rfl⟩, Nat.le_of_ble_eq_true rfl, Nat.le_of_ble_eq_true rfl⟩) hl.1 rfl (Nat.le_of_ble_eq_true rfl) d_L_text_278 (fun H locs w => ?_)
                        refine r_if_ne (pc := 281) (tgt := 313) C (by omega) d_L_text_281 (by decide) (fun c_281 => absurd c_281 (by omega)) (fun c_281 => ?_)
                        refine r_aload_n (pc := 284) C d_L_text_284 rfl (lv_at hl 4 rfl) ?_
                        refine l_callL (pc := 285) (As := [.ref o]) (rest := []) (x := mkR (lc, sd, r1, sg1, ln1, N, v1)) (fun _ _ h => h) C w (c_L_mark hT o _) ml_L_21 st_L_mark ini_L cd_L_mark hd_L_mark rfl (by rw [hRm]; exact ⟨⟨Nat.le_of_ble_eq_true rfl, Nat.le_of_ble_eq_true rfl⟩, Nat.le_of_ble_eq_true rfl, Nat.le_of_ble_eq_true rfl⟩) hl.1 rfl (Nat.le_of_ble_eq_true rfl) d_L_text_285 (fun H locs w => ?_)
                        refine r_lload_n (pc := 288) C d_L_text_288 rfl (lv_at hl 1 rfl) ?_
                        refine r_lcmp_same (pc := 289) (h := (hmk)) C d_L_text_289 ?_
                        refine r_if_ne (pc := 290) (tgt := 313) C (by omega) d_L_text_290 (by decide) (fun c_290 => absurd c_290 (by omega)) (fun c_290 => ?_)
                        refine r_aload_n (pc := 293) C d_L_text_293 rfl (lv_at hl 4 rfl) ?_
                        refine l_callV (pc := 294) (As := []) (rest := []) C w (fun ws hA => c_D_undo hT o _ ws hA) ml_L_119 im_D_undo se_D_undo cd_D_undo hd_D_undo rfl (by rw [hRm]; exact ⟨⟨Nat.le_of_ble_eq_true rfl, Nat.le_of_ble_eq_true rfl⟩, Nat.le_of_ble_eq_true rfl, Nat.le_of_ble_eq_true rfl⟩) hl.1 rfl (Nat.le_of_ble_eq_true rfl) d_L_text_294 (fun z_294 A_294 H locs hz_294 w => ?_)
                        obtain ⟨e1_294, e2_294⟩ := q_undo hu1 hu2 hz_294
                        subst e2_294
                        refine r_if_lt (pc := 297) (tgt := 313) C (by omega) d_L_text_297 (by decide) (fun c_297 => ?_) (fun c_297 => ?_)
                        · skip
                          exact absurd c_297 (by omega)
                        · skip
                          refine r_aload_n (pc := 300) C d_L_text_300 rfl (lv_at hl 4 rfl) ?_
                          refine l_callL (pc := 301) (As := [.ref o]) (rest := []) (x := mkR (lc, sd, r, sg, ln, N, v)) (fun _ _ h => h) C w (c_L_mark hT o _) ml_L_21 st_L_mark ini_L cd_L_mark hd_L_mark rfl (by rw [hRm]; exact ⟨⟨Nat.le_of_ble_eq_true rfl, Nat.le_of_ble_eq_true rfl⟩, Nat.le_of_ble_eq_true rfl, Nat.le_of_ble_eq_true rfl⟩) hl.1 rfl (Nat.le_of_ble_eq_true rfl) d_L_text_301 (fun H locs w => ?_)
                          refine r_lload_n (pc := 304) C d_L_text_304 rfl (lv_at hl 1 rfl) ?_
                          refine r_lcmp_same (pc := 305) (h := (rfl)) C d_L_text_305 ?_
                          refine r_if_ne (pc := 306) (tgt := 313) C (by omega) d_L_text_306 (by decide) (fun c_306 => absurd c_306 (by omega)) (fun c_306 => ?_)
                          refine r_iconst (pc := 309) C d_L_text_309 ?_
                          refine r_goto (pc := 310) (tgt := 314) C d_L_text_310 (by decide) ?_
                          exact kret _ _ _ _ 1 _ d_L_text_314 w (by omega) (rfl)
                  · skip
                    have hta := tx_all hO hN3 (x := kk) (by omega)
                    refine r_aload_n (pc := 223) C d_L_text_223 rfl (lv_at hl 3 rfl) ?_
                    refine r_aload_n (pc := 224) C d_L_text_224 rfl (lv_at hl 3 rfl) ?_
                    refine r_iload_n (pc := 225) C d_L_text_225 rfl (lv_at hl 0 rfl) ?_
                    refine l_callE (pc := 226) (As := [.int (iI kk)]) (rest := [.ref o]) (x := (tx sg ln r kk)) (fun _ _ h => q_char hO hN3 (by omega) h) C w (fun ws hA => c_D_character hT o _ ws hA kk (by omega)) ml_L_64 im_D_character se_D_character cd_D_character hd_D_character rfl (by rw [hRm]; exact ⟨⟨Nat.le_of_ble_eq_true rfl, Nat.le_of_ble_eq_true rfl⟩, Nat.le_of_ble_eq_true rfl, Nat.le_of_ble_eq_true rfl⟩) hl.1 rfl (Nat.le_of_ble_eq_true rfl) d_L_text_226 (fun H locs w => ?_)
                    refine r_i2lx (pc := 229) C d_L_text_229 ?_
                    refine r_topl (y := iL (tx sg ln r kk)) (iL_ofI (by omega)) ?_
                    refine l_callV (pc := 230) (As := [.long (iL (tx sg ln r kk))]) (rest := []) C w (fun ws hA => c_D_put hT o _ ws hA (tx sg ln r kk) (by omega)) ml_L_80 im_D_put se_D_put cd_D_put hd_D_put rfl (by rw [hRm]; exact ⟨⟨Nat.le_of_ble_eq_true rfl, Nat.le_of_ble_eq_true rfl⟩, Nat.le_of_ble_eq_true rfl, Nat.le_of_ble_eq_true rfl⟩) hl.1 rfl (Nat.le_of_ble_eq_true rfl) d_L_text_230 (fun z_230 A_230 H locs hz_230 w => ?_)
                    obtain ⟨e1_230, T2, hTa, hTb, e2_230⟩ := q_put_1 (by omega) (by omega) hz_230
                    subst e2_230
                    refine r_istore_n (pc := 233) (lv' := [(2, .int (iI z_230)), (3, .int (iI kk)), (1, .int (iI pa)), (0, .ref o)]) C d_L_text_233 rfl hl (by decide) rfl (fun ls hl => ?_)
                    refine r_iinc (pc := 234) (j := 1) (lv' := [(3, .int (iI (kk + 1))), (2, .int (iI z_230)), (1, .int (iI pa)), (0, .ref o)]) C d_L_text_234 hl rfl (by decide) rfl (fun ls hl => ?_)
                    refine r_goto (pc := 237) (tgt := 218) C d_L_text_237 (by decide) ?_
                    exact ih218 (kk + 1) z_230 T2 (by omega) (by omega) (fun x x1 x2 => if q : x = kk then by rw [q, hTb] else by rw [hTa x x1 (by omega)]; exact hTx x x1 (by omega)) (by omega) _ _ _ w (lv_sub hl [0, 1, 2, 3] rfl)
              exact L218 ((pa - 0) + 1 : Int).toNat 0 z_212 T (by first | omega | rfl) (by first | omega | rfl) (fun x x1 x2 => by omega) (by omega) _ _ _ w (lv_sub hl [0, 1, 2, 3] rfl)
            · skip
              refine r_iconst (pc := 209) C d_L_text_209 ?_
              exact kret _ _ _ _ 1 _ d_L_text_210 w (by omega) (rfl)
        · skip
          exact absurd (by omega) c_194
      · skip
        have g := hO.run (k := k) (by omega) (by omega)
        obtain ⟨f1, f2, f3, f4⟩ := crf_pos hO hN3 (k := k) (by omega) (by omega)
        have hc1 := crf_mono hO hN3 (j := k) (k := k) (by omega) (by omega) (by omega)
        have hc2 := crf_mono hO hN3 (j := k + 1) (k := r) (by omega) (by omega) (by omega)
        have hcr := crl_cases (ln k)
        have hdp := dl_pos (n := ln k) (by omega)
        have hdr := dl_rg (ln k)
        obtain ⟨hch, hse⟩ := tx_at hO hN3 r hr0 (by omega) k (by omega) (by omega)
        refine r_aload_n (pc := 13) C d_L_text_13 rfl (lv_at hl 2 rfl) ?_
        refine r_iload_n (pc := 14) C d_L_text_14 rfl (lv_at hl 0 rfl) ?_
        refine r_iconst (pc := 15) C d_L_text_15 ?_
        refine l_callE (pc := 16) (As := [.int (iI k), .int (iI 2)]) (rest := []) (x := (ln k)) (fun _ _ h => q_ofRun_2 (by omega) h) C w (fun ws hA => c_D_ofRun hT o _ ws hA k 2 ⟨by omega, by omega⟩) ml_L_17 im_D_ofRun se_D_ofRun cd_D_ofRun hd_D_ofRun rfl (by rw [hRm]; exact ⟨⟨Nat.le_of_ble_eq_true rfl, Nat.le_of_ble_eq_true rfl⟩, Nat.le_of_ble_eq_true rfl, Nat.le_of_ble_eq_true rfl⟩) hl.1 rfl (Nat.le_of_ble_eq_true rfl) d_L_text_16 (fun H locs w => ?_)
        refine r_istore_n (pc := 19) (lv' := [(3, .int (iI (ln k))), (2, .int (iI k)), (1, .int (iI pa)), (0, .ref o)]) C d_L_text_19 rfl hl (by decide) rfl (fun ls hl => ?_)
        refine r_aload_n (pc := 20) C d_L_text_20 rfl (lv_at hl 3 rfl) ?_
        have J56 : ∀ (p : Int), p = ps (crf ln) k + k → ∀ (H : Heap) (locs : List Loc) (ls : Array Slot), LW X cI cO cZ o ((lc, sd, r, sg, ln, N, v), hist, rcd, slot, uf, T, m) H locs → lv_has ls 6 [(4, .int (iI (sg k))), (3, .int (iI (ln k))), (2, .int (iI k)), (1, .int (iI p)), (0, .ref o)] → GG X 0 0 H locs 56 ls [] := by
          intro p hp H locs ls w hl
          refine r_aload_n (pc := 56) C d_L_text_56 rfl (lv_at hl 4 rfl) ?_
          have J113 : ∀ (p2 : Int), (ln k ≤ 1 ∧ p2 = p + 1) ∨ (1 < ln k ∧ p2 = p + 2) → ∀ (H : Heap) (locs : List Loc) (ls : Array Slot), LW X cI cO cZ o ((lc, sd, r, sg, ln, N, v), hist, rcd, slot, uf, T, m) H locs → lv_has ls 6 [(4, .int (iI (sg k))), (3, .int (iI (ln k))), (2, .int (iI k)), (1, .int (iI p2)), (0, .ref o)] → GG X 0 0 H locs 113 ls [] := by
            intro p2 hp2 H locs ls w hl
            refine r_iconst (pc := 113) C d_L_text_113 ?_
            refine r_istore (pc := 114) (lv' := [(5, .int (iI 0)), (4, .int (iI (sg k))), (3, .int (iI (ln k))), (2, .int (iI k)), (1, .int (iI p2)), (0, .ref o)]) C d_L_text_114 hl (by decide) rfl (fun ls hl => ?_)
            have L116 : ∀ (fuel : Nat), ∀ (d : Int) (p3 : Int) (vv : Int), 0 ≤ d ∧ d ≤ dl (ln k) → (ln k ≤ 1 ∧ p3 = p + 1 ∧ vv = 0) ∨ (1 < ln k ∧ 0 ≤ d ∧ d ≤ dl (ln k) ∧ p3 = p + 2 + d ∧ vv = ln k / 10 ^ (dl (ln k) - d).toNat) → (dl (ln k) - d) < (fuel : Int) → ∀ (H : Heap) (locs : List Loc) (ls : Array Slot), LW X cI cO cZ o ((lc, sd, r, sg, ln, N, v), hist, rcd, slot, uf, T, m) H locs → lv_has ls 6 [(5, .int (iI vv)), (4, .int (iI (sg k))), (3, .int (iI (ln k))), (2, .int (iI k)), (1, .int (iI p3)), (0, .ref o)] → GG X 0 0 H locs 116 ls [] := by
              intro fuel
              induction fuel with
              | zero =>
                intro d p3 vv hd0 hd hfuel
                exact absurd hfuel (by omega)
              | succ fuel ih116 =>
                intro d p3 vv hd0 hd hfuel H locs ls w hl
                have hvr := dig_le (n := ln k) (i := dl (ln k) - d) (by omega)
                refine r_iload_n (pc := 116) C d_L_text_116 rfl (lv_at hl 2 rfl) ?_
                refine r_iconst (pc := 117) C d_L_text_117 ?_
                refine r_icmp_le (pc := 118) (tgt := 169) C (by omega) d_L_text_118 (by decide) (fun c_118 => ?_) (fun c_118 => ?_)
                · skip
                  refine r_iload_n (pc := 169) C d_L_text_169 rfl (lv_at hl 2 rfl) ?_
                  refine r_iconst (pc := 170) C d_L_text_170 ?_
                  refine r_icmp_le (pc := 171) (tgt := 182) C (by omega) d_L_text_171 (by decide) (fun c_171 => ?_) (fun c_171 => ?_)
                  · skip
                    have hfin : p3 = ps (crf ln) (k + 1) + k := by
                      rcases hd with hd | hd
                      · omega
                      · by_cases q : d = dl (ln k)
                        · omega
                        · exfalso
                          have hy := dig_le (n := ln k) (i := dl (ln k) - 1 - d) (by omega)
                          have hy2 := div_pow10 (n := ln k) (i := dl (ln k) - 1 - d) (by omega)
                          rw [show dl (ln k) - 1 - d + 1 = dl (ln k) - d by omega] at hy2
                          omega
                    refine r_iinc (pc := 182) (j := 3) (lv' := [(2, .int (iI (k + 1))), (5, .int (iI vv)), (4, .int (iI (sg k))), (3, .int (iI (ln k))), (1, .int (iI p3)), (0, .ref o)]) C d_L_text_182 hl rfl (by decide) rfl (fun ls hl => ?_)
                    refine r_goto (pc := 185) (tgt := 4) C d_L_text_185 (by decide) ?_
                    exact ih4 (k + 1) p3 (by omega) (by omega) (by omega) _ _ _ w (lv_sub hl [0, 4, 5] rfl)
                  · skip
                    refine r_iload (pc := 174) C d_L_text_174 (lv_at hl 0 rfl) ?_
                    refine r_iload_n (pc := 176) C d_L_text_176 rfl (lv_at hl 2 rfl) ?_
                    refine r_icmp_eq (pc := 177) (tgt := 182) C (by omega) d_L_text_177 (by decide) (fun c_177 => ?_) (fun c_177 => ?_)
                    · skip
                      have hfin : p3 = ps (crf ln) (k + 1) + k := by
                        rcases hd with hd | hd
                        · omega
                        · by_cases q : d = dl (ln k)
                          · omega
                          · exfalso
                            have hy := dig_le (n := ln k) (i := dl (ln k) - 1 - d) (by omega)
                            have hy2 := div_pow10 (n := ln k) (i := dl (ln k) - 1 - d) (by omega)
                            rw [show dl (ln k) - 1 - d + 1 = dl (ln k) - d by omega] at hy2
                            omega
                      refine r_iinc (pc := 182) (j := 3) (lv' := [(2, .int (iI (k + 1))), (5, .int (iI vv)), (4, .int (iI (sg k))), (3, .int (iI (ln k))), (1, .int (iI p3)), (0, .ref o)]) C d_L_text_182 hl rfl (by decide) rfl (fun ls hl => ?_)
                      refine r_goto (pc := 185) (tgt := 4) C d_L_text_185 (by decide) ?_
                      exact ih4 (k + 1) p3 (by omega) (by omega) (by omega) _ _ _ w (lv_sub hl [0, 4, 5] rfl)
                    · skip
                      exfalso
                      rcases hd with hd | hd
                      · omega
                      · have hl : d = dl (ln k) := by
                          by_cases q : d = dl (ln k)
                          · exact q
                          · have hy := dig_le (n := ln k) (i := dl (ln k) - 1 - d) (by omega)
                            have hy2 := div_pow10 (n := ln k) (i := dl (ln k) - 1 - d) (by omega)
                            rw [show dl (ln k) - 1 - d + 1 = dl (ln k) - d by omega] at hy2
                            omega
                        rw [hl, show dl (ln k) - dl (ln k) = 0 by omega, show ln k / 10 ^ (0 : Int).toNat = ln k by simp] at hd
                        omega
                · skip
                  refine r_iload (pc := 121) C d_L_text_121 (lv_at hl 0 rfl) ?_
                  refine r_iload_n (pc := 123) C d_L_text_123 rfl (lv_at hl 2 rfl) ?_
                  refine r_icmp_ge (pc := 124) (tgt := 169) C (by omega) d_L_text_124 (by decide) (fun c_124 => ?_) (fun c_124 => ?_)
                  · skip
                    refine r_iload_n (pc := 169) C d_L_text_169 rfl (lv_at hl 2 rfl) ?_
                    refine r_iconst (pc := 170) C d_L_text_170 ?_
                    refine r_icmp_le (pc := 171) (tgt := 182) C (by omega) d_L_text_171 (by decide) (fun c_171 => ?_) (fun c_171 => ?_)
                    · skip
                      have hfin : p3 = ps (crf ln) (k + 1) + k := by
                        rcases hd with hd | hd
                        · omega
                        · by_cases q : d = dl (ln k)
                          · omega
                          · exfalso
                            have hy := dig_le (n := ln k) (i := dl (ln k) - 1 - d) (by omega)
                            have hy2 := div_pow10 (n := ln k) (i := dl (ln k) - 1 - d) (by omega)
                            rw [show dl (ln k) - 1 - d + 1 = dl (ln k) - d by omega] at hy2
                            omega
                      refine r_iinc (pc := 182) (j := 3) (lv' := [(2, .int (iI (k + 1))), (5, .int (iI vv)), (4, .int (iI (sg k))), (3, .int (iI (ln k))), (1, .int (iI p3)), (0, .ref o)]) C d_L_text_182 hl rfl (by decide) rfl (fun ls hl => ?_)
                      refine r_goto (pc := 185) (tgt := 4) C d_L_text_185 (by decide) ?_
                      exact ih4 (k + 1) p3 (by omega) (by omega) (by omega) _ _ _ w (lv_sub hl [0, 4, 5] rfl)
                    · skip
                      refine r_iload (pc := 174) C d_L_text_174 (lv_at hl 0 rfl) ?_
                      refine r_iload_n (pc := 176) C d_L_text_176 rfl (lv_at hl 2 rfl) ?_
                      refine r_icmp_eq (pc := 177) (tgt := 182) C (by omega) d_L_text_177 (by decide) (fun c_177 => ?_) (fun c_177 => ?_)
                      · skip
                        have hfin : p3 = ps (crf ln) (k + 1) + k := by
                          rcases hd with hd | hd
                          · omega
                          · by_cases q : d = dl (ln k)
                            · omega
                            · exfalso
                              have hy := dig_le (n := ln k) (i := dl (ln k) - 1 - d) (by omega)
                              have hy2 := div_pow10 (n := ln k) (i := dl (ln k) - 1 - d) (by omega)
                              rw [show dl (ln k) - 1 - d + 1 = dl (ln k) - d by omega] at hy2
                              omega
                        refine r_iinc (pc := 182) (j := 3) (lv' := [(2, .int (iI (k + 1))), (5, .int (iI vv)), (4, .int (iI (sg k))), (3, .int (iI (ln k))), (1, .int (iI p3)), (0, .ref o)]) C d_L_text_182 hl rfl (by decide) rfl (fun ls hl => ?_)
                        refine r_goto (pc := 185) (tgt := 4) C d_L_text_185 (by decide) ?_
                        exact ih4 (k + 1) p3 (by omega) (by omega) (by omega) _ _ _ w (lv_sub hl [0, 4, 5] rfl)
                      · skip
                        exfalso
                        rcases hd with hd | hd
                        · omega
                        · have hl : d = dl (ln k) := by
                            by_cases q : d = dl (ln k)
                            · exact q
                            · have hy := dig_le (n := ln k) (i := dl (ln k) - 1 - d) (by omega)
                              have hy2 := div_pow10 (n := ln k) (i := dl (ln k) - 1 - d) (by omega)
                              rw [show dl (ln k) - 1 - d + 1 = dl (ln k) - d by omega] at hy2
                              omega
                          rw [hl, show dl (ln k) - dl (ln k) = 0 by omega, show ln k / 10 ^ (0 : Int).toNat = ln k by simp] at hd
                          omega
                  · skip
                    have hdd : d < dl (ln k) := by
                      rcases hd with hd | hd
                      · omega
                      · by_cases q : d = dl (ln k)
                        · rw [q, show dl (ln k) - dl (ln k) = 0 by omega, show ln k / 10 ^ (0 : Int).toNat = ln k by simp] at hd
                          omega
                        · omega
                    have hd2 : 0 ≤ d ∧ p3 = p + 2 + d ∧ vv = ln k / 10 ^ (dl (ln k) - d).toNat := by omega
                    have hcd : tx sg ln r p3 = 48 + ln k / 10 ^ (dl (ln k) - 1 - d).toNat % 10 := by
                      have h0 := hch (2 + d) (by omega) (by omega)
                      rw [show ps (crf ln) k + k + (2 + d) = p3 by omega] at h0
                      rw [h0]
                      unfold chr_
                      rw [if_neg (by omega), if_neg (by omega), show dl (ln k) + 1 - (2 + d) = dl (ln k) - 1 - d by omega]
                    have hy := dig_le (n := ln k) (i := dl (ln k) - 1 - d) (by omega)
                    have hy2 := div_pow10 (n := ln k) (i := dl (ln k) - 1 - d) (by omega)
                    rw [show dl (ln k) - 1 - d + 1 = dl (ln k) - d by omega] at hy2
                    refine r_aload_n (pc := 127) C d_L_text_127 rfl (lv_at hl 5 rfl) ?_
                    refine r_iload_n (pc := 128) C d_L_text_128 rfl (lv_at hl 4 rfl) ?_
                    refine l_callE (pc := 129) (As := [.int (iI p3)]) (rest := []) (x := (tx sg ln r p3)) (fun _ _ h => q_char hO hN3 (by omega) h) C w (fun ws hA => c_D_character hT o _ ws hA p3 (by omega)) ml_L_64 im_D_character se_D_character cd_D_character hd_D_character rfl (by rw [hRm]; exact ⟨⟨Nat.le_of_ble_eq_true rfl, Nat.le_of_ble_eq_true rfl⟩, Nat.le_of_ble_eq_true rfl, Nat.le_of_ble_eq_true rfl⟩) hl.1 rfl (Nat.le_of_ble_eq_true rfl) d_L_text_129 (fun H locs w => ?_)
                    refine r_bipush (pc := 132) C d_L_text_132 (by decide) ?_
                    refine r_icmp_lt (pc := 134) (tgt := 169) C (by omega) d_L_text_134 (by decide) (fun c_134 => ?_) (fun c_134 => ?_)
                    · skip
                      exact absurd c_134 (by omega)
                    · skip
                      refine r_aload_n (pc := 137) C d_L_text_137 rfl (lv_at hl 5 rfl) ?_
                      refine r_iload_n (pc := 138) C d_L_text_138 rfl (lv_at hl 4 rfl) ?_
                      refine l_callE (pc := 139) (As := [.int (iI p3)]) (rest := []) (x := (tx sg ln r p3)) (fun _ _ h => q_char hO hN3 (by omega) h) C w (fun ws hA => c_D_character hT o _ ws hA p3 (by omega)) ml_L_64 im_D_character se_D_character cd_D_character hd_D_character rfl (by rw [hRm]; exact ⟨⟨Nat.le_of_ble_eq_true rfl, Nat.le_of_ble_eq_true rfl⟩, Nat.le_of_ble_eq_true rfl, Nat.le_of_ble_eq_true rfl⟩) hl.1 rfl (Nat.le_of_ble_eq_true rfl) d_L_text_139 (fun H locs w => ?_)
                      refine r_bipush (pc := 142) C d_L_text_142 (by decide) ?_
                      refine r_icmp_gt (pc := 144) (tgt := 169) C (by omega) d_L_text_144 (by decide) (fun c_144 => ?_) (fun c_144 => ?_)
                      · skip
                        exact absurd c_144 (by omega)
                      · skip
                        refine r_bipush (pc := 147) C d_L_text_147 (by decide) ?_
                        refine r_iload (pc := 149) C d_L_text_149 (lv_at hl 0 rfl) ?_
                        refine r_imul (pc := 151) C d_L_text_151 ?_
                        refine r_aload_n (pc := 152) C d_L_text_152 rfl (lv_at hl 5 rfl) ?_
                        refine r_iload_n (pc := 153) C d_L_text_153 rfl (lv_at hl 4 rfl) ?_
                        refine l_callE (pc := 154) (As := [.int (iI p3)]) (rest := [.int (iI (10 * vv))]) (x := (tx sg ln r p3)) (fun _ _ h => q_char hO hN3 (by omega) h) C w (fun ws hA => c_D_character hT o _ ws hA p3 (by omega)) ml_L_64 im_D_character se_D_character cd_D_character hd_D_character rfl (by rw [hRm]; exact ⟨⟨Nat.le_of_ble_eq_true rfl, Nat.le_of_ble_eq_true rfl⟩, Nat.le_of_ble_eq_true rfl, Nat.le_of_ble_eq_true rfl⟩) hl.1 rfl (Nat.le_of_ble_eq_true rfl) d_L_text_154 (fun H locs w => ?_)
                        refine r_iadd (pc := 157) C d_L_text_157 ?_
                        refine r_bipush (pc := 158) C d_L_text_158 (by decide) ?_
                        refine r_isub (pc := 160) C d_L_text_160 ?_
                        refine r_istore (pc := 161) (lv' := [(5, .int (iI (((10 * vv) + (tx sg ln r p3)) - 48))), (4, .int (iI (sg k))), (3, .int (iI (ln k))), (2, .int (iI k)), (1, .int (iI p3)), (0, .ref o)]) C d_L_text_161 hl (by decide) rfl (fun ls hl => ?_)
                        refine r_iinc (pc := 163) (j := 4) (lv' := [(1, .int (iI (p3 + 1))), (5, .int (iI (((10 * vv) + (tx sg ln r p3)) - 48))), (4, .int (iI (sg k))), (3, .int (iI (ln k))), (2, .int (iI k)), (0, .ref o)]) C d_L_text_163 hl rfl (by decide) rfl (fun ls hl => ?_)
                        refine r_goto (pc := 166) (tgt := 116) C d_L_text_166 (by decide) ?_
                        exact ih116 (d + 1) (p3 + 1) (((10 * vv) + (tx sg ln r p3)) - 48) (by omega) (by refine Or.inr ⟨by omega, by omega, by omega, by omega, ?_⟩; rw [show dl (ln k) - (d + 1) = dl (ln k) - 1 - d by omega]; omega) (by omega) _ _ _ w (lv_sub hl [1, 2, 3, 4, 0, 5] rfl)
            exact L116 ((dl (ln k) - 0) + 1 : Int).toNat 0 p2 0 (by first | omega | rfl) (by have hzd := dig_zero (n := ln k) (by omega); rw [Int.sub_zero]; omega) (by omega) _ _ _ w (lv_sub hl [0, 1, 2, 3, 4, 5] rfl)
          have hc0 : (sg k = 10 → tx sg ln r p = 120) ∧ (¬ sg k = 10 → tx sg ln r p = 48 + sg k) := by
            have h0 := hch 0 (by omega) (by omega)
            rw [Int.add_zero, ← hp] at h0
            rw [h0]
            unfold chr_
            exact ⟨fun q => by rw [if_pos rfl, if_pos q], fun q => by rw [if_pos rfl, if_neg q]⟩
          refine r_iload_n (pc := 57) C d_L_text_57 rfl (lv_at hl 3 rfl) ?_
          refine l_callE (pc := 58) (As := [.int (iI p)]) (rest := []) (x := (tx sg ln r p)) (fun _ _ h => q_char hO hN3 (by omega) h) C w (fun ws hA => c_D_character hT o _ ws hA p (by omega)) ml_L_64 im_D_character se_D_character cd_D_character hd_D_character rfl (by rw [hRm]; exact ⟨⟨Nat.le_of_ble_eq_true rfl, Nat.le_of_ble_eq_true rfl⟩, Nat.le_of_ble_eq_true rfl, Nat.le_of_ble_eq_true rfl⟩) hl.1 rfl (Nat.le_of_ble_eq_true rfl) d_L_text_58 (fun H locs w => ?_)
          refine r_iload (pc := 61) C d_L_text_61 (lv_at hl 0 rfl) ?_
          refine r_bipush (pc := 63) C d_L_text_63 (by decide) ?_
          refine r_icmp_ne (pc := 65) (tgt := 73) C (by omega) d_L_text_65 (by decide) (fun c_65 => ?_) (fun c_65 => ?_)
          · skip
            refine r_bipush (pc := 73) C d_L_text_73 (by decide) ?_
            refine r_iload (pc := 75) C d_L_text_75 (lv_at hl 0 rfl) ?_
            refine r_iadd (pc := 77) C d_L_text_77 ?_
            refine r_icmp_ne (pc := 78) (tgt := 98) C (by omega) d_L_text_78 (by decide) (fun c_78 => ?_) (fun c_78 => ?_)
            · skip
              exact absurd (by omega) c_78
            · skip
              refine r_iload_n (pc := 81) C d_L_text_81 rfl (lv_at hl 1 rfl) ?_
              refine r_iconst (pc := 82) C d_L_text_82 ?_
              refine r_icmp_le (pc := 83) (tgt := 100) C (by omega) d_L_text_83 (by decide) (fun c_83 => ?_) (fun c_83 => ?_)
              · skip
                refine r_iload_n (pc := 100) C d_L_text_100 rfl (lv_at hl 3 rfl) ?_
                refine r_iload_n (pc := 101) C d_L_text_101 rfl (lv_at hl 1 rfl) ?_
                refine r_iconst (pc := 102) C d_L_text_102 ?_
                refine r_icmp_le (pc := 103) (tgt := 110) C (by omega) d_L_text_103 (by decide) (fun c_103 => ?_) (fun c_103 => ?_)
                · skip
                  refine r_iconst (pc := 110) C d_L_text_110 ?_
                  refine r_iadd (pc := 111) C d_L_text_111 ?_
                  refine r_istore_n (pc := 112) (lv' := [(1, .int (iI (p + 1))), (4, .int (iI (sg k))), (3, .int (iI (ln k))), (2, .int (iI k)), (0, .ref o)]) C d_L_text_112 rfl hl (by decide) rfl (fun ls hl => ?_)
                  exact J113 (p + 1) (by omega) _ _ _ w (lv_sub hl [1, 2, 3, 0, 4] rfl)
                · skip
                  refine r_iconst (pc := 106) C d_L_text_106 ?_
                  refine r_goto (pc := 107) (tgt := 111) C d_L_text_107 (by decide) ?_
                  refine r_iadd (pc := 111) C d_L_text_111 ?_
                  refine r_istore_n (pc := 112) (lv' := [(1, .int (iI (p + 2))), (4, .int (iI (sg k))), (3, .int (iI (ln k))), (2, .int (iI k)), (0, .ref o)]) C d_L_text_112 rfl hl (by decide) rfl (fun ls hl => ?_)
                  exact J113 (p + 2) (by omega) _ _ _ w (lv_sub hl [1, 2, 3, 0, 4] rfl)
              · skip
                have hst1 : tx sg ln r (p + 1) = 42 := by
                  have h0 := hch 1 (by omega) (by omega)
                  rw [← hp] at h0
                  rw [h0]
                  unfold chr_
                  rw [if_neg (by omega), if_pos rfl]
                refine r_aload_n (pc := 86) C d_L_text_86 rfl (lv_at hl 4 rfl) ?_
                refine r_iload_n (pc := 87) C d_L_text_87 rfl (lv_at hl 3 rfl) ?_
                refine r_iconst (pc := 88) C d_L_text_88 ?_
                refine r_iadd (pc := 89) C d_L_text_89 ?_
                refine l_callE (pc := 90) (As := [.int (iI (p + 1))]) (rest := []) (x := (tx sg ln r (p + 1))) (fun _ _ h => q_char hO hN3 (by omega) h) C w (fun ws hA => c_D_character hT o _ ws hA (p + 1) (by omega)) ml_L_64 im_D_character se_D_character cd_D_character hd_D_character rfl (by rw [hRm]; exact ⟨⟨Nat.le_of_ble_eq_true rfl, Nat.le_of_ble_eq_true rfl⟩, Nat.le_of_ble_eq_true rfl, Nat.le_of_ble_eq_true rfl⟩) hl.1 rfl (Nat.le_of_ble_eq_true rfl) d_L_text_90 (fun H locs w => ?_)
                refine r_bipush (pc := 93) C d_L_text_93 (by decide) ?_
                refine r_icmp_eq (pc := 95) (tgt := 100) C (by omega) d_L_text_95 (by decide) (fun c_95 => ?_) (fun c_95 => ?_)
                · skip
                  refine r_iload_n (pc := 100) C d_L_text_100 rfl (lv_at hl 3 rfl) ?_
                  refine r_iload_n (pc := 101) C d_L_text_101 rfl (lv_at hl 1 rfl) ?_
                  refine r_iconst (pc := 102) C d_L_text_102 ?_
                  refine r_icmp_le (pc := 103) (tgt := 110) C (by omega) d_L_text_103 (by decide) (fun c_103 => ?_) (fun c_103 => ?_)
                  · skip
                    refine r_iconst (pc := 110) C d_L_text_110 ?_
                    refine r_iadd (pc := 111) C d_L_text_111 ?_
                    refine r_istore_n (pc := 112) (lv' := [(1, .int (iI (p + 1))), (4, .int (iI (sg k))), (3, .int (iI (ln k))), (2, .int (iI k)), (0, .ref o)]) C d_L_text_112 rfl hl (by decide) rfl (fun ls hl => ?_)
                    exact J113 (p + 1) (by omega) _ _ _ w (lv_sub hl [1, 2, 3, 0, 4] rfl)
                  · skip
                    refine r_iconst (pc := 106) C d_L_text_106 ?_
                    refine r_goto (pc := 107) (tgt := 111) C d_L_text_107 (by decide) ?_
                    refine r_iadd (pc := 111) C d_L_text_111 ?_
                    refine r_istore_n (pc := 112) (lv' := [(1, .int (iI (p + 2))), (4, .int (iI (sg k))), (3, .int (iI (ln k))), (2, .int (iI k)), (0, .ref o)]) C d_L_text_112 rfl hl (by decide) rfl (fun ls hl => ?_)
                    exact J113 (p + 2) (by omega) _ _ _ w (lv_sub hl [1, 2, 3, 0, 4] rfl)
                · skip
                  exact absurd hst1 c_95
          · skip
            refine r_bipush (pc := 68) C d_L_text_68 (by decide) ?_
            refine r_goto (pc := 70) (tgt := 78) C d_L_text_70 (by decide) ?_
            refine r_icmp_ne (pc := 78) (tgt := 98) C (by omega) d_L_text_78 (by decide) (fun c_78 => ?_) (fun c_78 => ?_)
            · skip
              exact absurd (by omega) c_78
            · skip
              refine r_iload_n (pc := 81) C d_L_text_81 rfl (lv_at hl 1 rfl) ?_
              refine r_iconst (pc := 82) C d_L_text_82 ?_
              refine r_icmp_le (pc := 83) (tgt := 100) C (by omega) d_L_text_83 (by decide) (fun c_83 => ?_) (fun c_83 => ?_)
              · skip
                refine r_iload_n (pc := 100) C d_L_text_100 rfl (lv_at hl 3 rfl) ?_
                refine r_iload_n (pc := 101) C d_L_text_101 rfl (lv_at hl 1 rfl) ?_
                refine r_iconst (pc := 102) C d_L_text_102 ?_
                refine r_icmp_le (pc := 103) (tgt := 110) C (by omega) d_L_text_103 (by decide) (fun c_103 => ?_) (fun c_103 => ?_)
                · skip
                  refine r_iconst (pc := 110) C d_L_text_110 ?_
                  refine r_iadd (pc := 111) C d_L_text_111 ?_
                  refine r_istore_n (pc := 112) (lv' := [(1, .int (iI (p + 1))), (4, .int (iI (sg k))), (3, .int (iI (ln k))), (2, .int (iI k)), (0, .ref o)]) C d_L_text_112 rfl hl (by decide) rfl (fun ls hl => ?_)
                  exact J113 (p + 1) (by omega) _ _ _ w (lv_sub hl [1, 2, 3, 0, 4] rfl)
                · skip
                  refine r_iconst (pc := 106) C d_L_text_106 ?_
                  refine r_goto (pc := 107) (tgt := 111) C d_L_text_107 (by decide) ?_
                  refine r_iadd (pc := 111) C d_L_text_111 ?_
                  refine r_istore_n (pc := 112) (lv' := [(1, .int (iI (p + 2))), (4, .int (iI (sg k))), (3, .int (iI (ln k))), (2, .int (iI k)), (0, .ref o)]) C d_L_text_112 rfl hl (by decide) rfl (fun ls hl => ?_)
                  exact J113 (p + 2) (by omega) _ _ _ w (lv_sub hl [1, 2, 3, 0, 4] rfl)
              · skip
                have hst1 : tx sg ln r (p + 1) = 42 := by
                  have h0 := hch 1 (by omega) (by omega)
                  rw [← hp] at h0
                  rw [h0]
                  unfold chr_
                  rw [if_neg (by omega), if_pos rfl]
                refine r_aload_n (pc := 86) C d_L_text_86 rfl (lv_at hl 4 rfl) ?_
                refine r_iload_n (pc := 87) C d_L_text_87 rfl (lv_at hl 3 rfl) ?_
                refine r_iconst (pc := 88) C d_L_text_88 ?_
                refine r_iadd (pc := 89) C d_L_text_89 ?_
                refine l_callE (pc := 90) (As := [.int (iI (p + 1))]) (rest := []) (x := (tx sg ln r (p + 1))) (fun _ _ h => q_char hO hN3 (by omega) h) C w (fun ws hA => c_D_character hT o _ ws hA (p + 1) (by omega)) ml_L_64 im_D_character se_D_character cd_D_character hd_D_character rfl (by rw [hRm]; exact ⟨⟨Nat.le_of_ble_eq_true rfl, Nat.le_of_ble_eq_true rfl⟩, Nat.le_of_ble_eq_true rfl, Nat.le_of_ble_eq_true rfl⟩) hl.1 rfl (Nat.le_of_ble_eq_true rfl) d_L_text_90 (fun H locs w => ?_)
                refine r_bipush (pc := 93) C d_L_text_93 (by decide) ?_
                refine r_icmp_eq (pc := 95) (tgt := 100) C (by omega) d_L_text_95 (by decide) (fun c_95 => ?_) (fun c_95 => ?_)
                · skip
                  refine r_iload_n (pc := 100) C d_L_text_100 rfl (lv_at hl 3 rfl) ?_
                  refine r_iload_n (pc := 101) C d_L_text_101 rfl (lv_at hl 1 rfl) ?_
                  refine r_iconst (pc := 102) C d_L_text_102 ?_
                  refine r_icmp_le (pc := 103) (tgt := 110) C (by omega) d_L_text_103 (by decide) (fun c_103 => ?_) (fun c_103 => ?_)
                  · skip
                    refine r_iconst (pc := 110) C d_L_text_110 ?_
                    refine r_iadd (pc := 111) C d_L_text_111 ?_
                    refine r_istore_n (pc := 112) (lv' := [(1, .int (iI (p + 1))), (4, .int (iI (sg k))), (3, .int (iI (ln k))), (2, .int (iI k)), (0, .ref o)]) C d_L_text_112 rfl hl (by decide) rfl (fun ls hl => ?_)
                    exact J113 (p + 1) (by omega) _ _ _ w (lv_sub hl [1, 2, 3, 0, 4] rfl)
                  · skip
                    refine r_iconst (pc := 106) C d_L_text_106 ?_
                    refine r_goto (pc := 107) (tgt := 111) C d_L_text_107 (by decide) ?_
                    refine r_iadd (pc := 111) C d_L_text_111 ?_
                    refine r_istore_n (pc := 112) (lv' := [(1, .int (iI (p + 2))), (4, .int (iI (sg k))), (3, .int (iI (ln k))), (2, .int (iI k)), (0, .ref o)]) C d_L_text_112 rfl hl (by decide) rfl (fun ls hl => ?_)
                    exact J113 (p + 2) (by omega) _ _ _ w (lv_sub hl [1, 2, 3, 0, 4] rfl)
                · skip
                  exact absurd hst1 c_95
        refine r_iload_n (pc := 21) C d_L_text_21 rfl (lv_at hl 1 rfl) ?_
        refine r_iconst (pc := 22) C d_L_text_22 ?_
        refine l_callE (pc := 23) (As := [.int (iI k), .int (iI 0)]) (rest := []) (x := (sg k)) (fun _ _ h => q_ofRun_0 (by omega) h) C w (fun ws hA => c_D_ofRun hT o _ ws hA k 0 ⟨by omega, by omega⟩) ml_L_17 im_D_ofRun se_D_ofRun cd_D_ofRun hd_D_ofRun rfl (by rw [hRm]; exact ⟨⟨Nat.le_of_ble_eq_true rfl, Nat.le_of_ble_eq_true rfl⟩, Nat.le_of_ble_eq_true rfl, Nat.le_of_ble_eq_true rfl⟩) hl.1 rfl (Nat.le_of_ble_eq_true rfl) d_L_text_23 (fun H locs w => ?_)
        refine r_istore (pc := 26) (lv' := [(4, .int (iI (sg k))), (3, .int (iI (ln k))), (2, .int (iI k)), (1, .int (iI pa)), (0, .ref o)]) C d_L_text_26 hl (by decide) rfl (fun ls hl => ?_)
        refine r_iload_n (pc := 28) C d_L_text_28 rfl (lv_at hl 2 rfl) ?_
        refine r_if_le (pc := 29) (tgt := 44) C (by omega) d_L_text_29 (by decide) (fun c_29 => ?_) (fun c_29 => ?_)
        · skip
          refine r_iload_n (pc := 44) C d_L_text_44 rfl (lv_at hl 3 rfl) ?_
          refine r_iload_n (pc := 45) C d_L_text_45 rfl (lv_at hl 2 rfl) ?_
          refine r_if_le (pc := 46) (tgt := 53) C (by omega) d_L_text_46 (by decide) (fun c_46 => ?_) (fun c_46 => ?_)
          · skip
            refine r_iconst (pc := 53) C d_L_text_53 ?_
            refine r_iadd (pc := 54) C d_L_text_54 ?_
            refine r_istore_n (pc := 55) (lv' := [(1, .int (iI (pa + 0))), (4, .int (iI (sg k))), (3, .int (iI (ln k))), (2, .int (iI k)), (0, .ref o)]) C d_L_text_55 rfl hl (by decide) rfl (fun ls hl => ?_)
            exact J56 (pa + 0) (by omega) _ _ _ w (lv_sub hl [1, 2, 3, 0, 4] rfl)
          · skip
            refine r_iconst (pc := 49) C d_L_text_49 ?_
            refine r_goto (pc := 50) (tgt := 54) C d_L_text_50 (by decide) ?_
            refine r_iadd (pc := 54) C d_L_text_54 ?_
            refine r_istore_n (pc := 55) (lv' := [(1, .int (iI (pa + 1))), (4, .int (iI (sg k))), (3, .int (iI (ln k))), (2, .int (iI k)), (0, .ref o)]) C d_L_text_55 rfl hl (by decide) rfl (fun ls hl => ?_)
            exact J56 (pa + 1) (by omega) _ _ _ w (lv_sub hl [1, 2, 3, 0, 4] rfl)
        · skip
          refine r_aload_n (pc := 32) C d_L_text_32 rfl (lv_at hl 4 rfl) ?_
          have hse1 : tx sg ln r pa = 59 := by rw [show pa = ps (crf ln) k + k - 1 by omega]; exact hse (by omega)
          refine r_iload_n (pc := 33) C d_L_text_33 rfl (lv_at hl 3 rfl) ?_
          refine l_callE (pc := 34) (As := [.int (iI pa)]) (rest := []) (x := (tx sg ln r pa)) (fun _ _ h => q_char hO hN3 (by omega) h) C w (fun ws hA => c_D_character hT o _ ws hA pa (by omega)) ml_L_64 im_D_character se_D_character cd_D_character hd_D_character rfl (by rw [hRm]; exact ⟨⟨Nat.le_of_ble_eq_true rfl, Nat.le_of_ble_eq_true rfl⟩, Nat.le_of_ble_eq_true rfl, Nat.le_of_ble_eq_true rfl⟩) hl.1 rfl (Nat.le_of_ble_eq_true rfl) d_L_text_34 (fun H locs w => ?_)
          refine r_bipush (pc := 37) C d_L_text_37 (by decide) ?_
          refine r_icmp_eq (pc := 39) (tgt := 44) C (by omega) d_L_text_39 (by decide) (fun c_39 => ?_) (fun c_39 => ?_)
          · skip
            refine r_iload_n (pc := 44) C d_L_text_44 rfl (lv_at hl 3 rfl) ?_
            refine r_iload_n (pc := 45) C d_L_text_45 rfl (lv_at hl 2 rfl) ?_
            refine r_if_le (pc := 46) (tgt := 53) C (by omega) d_L_text_46 (by decide) (fun c_46 => ?_) (fun c_46 => ?_)
            · skip
              refine r_iconst (pc := 53) C d_L_text_53 ?_
              refine r_iadd (pc := 54) C d_L_text_54 ?_
              refine r_istore_n (pc := 55) (lv' := [(1, .int (iI (pa + 0))), (4, .int (iI (sg k))), (3, .int (iI (ln k))), (2, .int (iI k)), (0, .ref o)]) C d_L_text_55 rfl hl (by decide) rfl (fun ls hl => ?_)
              exact J56 (pa + 0) (by omega) _ _ _ w (lv_sub hl [1, 2, 3, 0, 4] rfl)
            · skip
              refine r_iconst (pc := 49) C d_L_text_49 ?_
              refine r_goto (pc := 50) (tgt := 54) C d_L_text_50 (by decide) ?_
              refine r_iadd (pc := 54) C d_L_text_54 ?_
              refine r_istore_n (pc := 55) (lv' := [(1, .int (iI (pa + 1))), (4, .int (iI (sg k))), (3, .int (iI (ln k))), (2, .int (iI k)), (0, .ref o)]) C d_L_text_55 rfl hl (by decide) rfl (fun ls hl => ?_)
              exact J56 (pa + 1) (by omega) _ _ _ w (lv_sub hl [1, 2, 3, 0, 4] rfl)
          · skip
            exact absurd hse1 c_39
  exact L4 ((r - 0) + 1 : Int).toNat 0 0 (by first | omega | rfl) (by rw [ps_zero]; omega) (by omega) _ _ _ w (lv_sub hl [0, 1, 2] rfl)
