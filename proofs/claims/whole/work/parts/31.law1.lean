theorem d_L_law_160 : decode code 160 = .ok (.aload_n 1, 1) := by decide +kernel
theorem d_L_law_161 : decode code 161 = .ok (.aload_n 0, 1) := by decide +kernel
theorem d_L_law_162 : decode code 162 = .ok (.iload_n 3, 1) := by decide +kernel
theorem d_L_law_163 : decode code 163 = .ok (.iconst 1, 1) := by decide +kernel
theorem d_L_law_164 : decode code 164 = .ok (.iadd, 1) := by decide +kernel
theorem d_L_law_165 : decode code 165 = .ok (.iaload, 1) := by decide +kernel
theorem d_L_law_166 : decode code 166 = .ok (.aload_n 0, 1) := by decide +kernel
theorem d_L_law_167 : decode code 167 = .ok (.iload_n 3, 1) := by decide +kernel
theorem d_L_law_168 : decode code 168 = .ok (.iconst 2, 1) := by decide +kernel
theorem d_L_law_169 : decode code 169 = .ok (.iadd, 1) := by decide +kernel
theorem d_L_law_170 : decode code 170 = .ok (.iaload, 1) := by decide +kernel
theorem d_L_law_171 : decode code 171 = .ok (.invokevirtual 13, 3) := by decide +kernel
theorem d_L_law_174 : decode code 174 = .ok (.aload_n 2, 1) := by decide +kernel
theorem d_L_law_175 : decode code 175 = .ok (.aload_n 0, 1) := by decide +kernel
theorem d_L_law_176 : decode code 176 = .ok (.iload_n 3, 1) := by decide +kernel
theorem d_L_law_177 : decode code 177 = .ok (.iconst 1, 1) := by decide +kernel
theorem d_L_law_178 : decode code 178 = .ok (.iadd, 1) := by decide +kernel
theorem d_L_law_179 : decode code 179 = .ok (.iaload, 1) := by decide +kernel
theorem d_L_law_180 : decode code 180 = .ok (.aload_n 0, 1) := by decide +kernel
theorem d_L_law_181 : decode code 181 = .ok (.iload_n 3, 1) := by decide +kernel
theorem d_L_law_182 : decode code 182 = .ok (.iconst 2, 1) := by decide +kernel
theorem d_L_law_183 : decode code 183 = .ok (.iadd, 1) := by decide +kernel
theorem d_L_law_184 : decode code 184 = .ok (.iaload, 1) := by decide +kernel
theorem d_L_law_185 : decode code 185 = .ok (.invokevirtual 17, 3) := by decide +kernel
theorem d_L_law_188 : decode code 188 = .ok (.if_icmp .eq 756, 3) := by decide +kernel
theorem d_L_law_191 : decode code 191 = .ok (.iconst 0, 1) := by decide +kernel
theorem d_L_law_192 : decode code 192 = .ok (.ireturn, 1) := by decide +kernel
theorem d_L_law_193 : decode code 193 = .ok (.aload_n 1, 1) := by decide +kernel
theorem d_L_law_194 : decode code 194 = .ok (.aload_n 0, 1) := by decide +kernel
theorem d_L_law_195 : decode code 195 = .ok (.iload_n 3, 1) := by decide +kernel
theorem d_L_law_196 : decode code 196 = .ok (.iconst 1, 1) := by decide +kernel
theorem d_L_law_197 : decode code 197 = .ok (.iadd, 1) := by decide +kernel
theorem d_L_law_198 : decode code 198 = .ok (.iaload, 1) := by decide +kernel
theorem d_L_law_199 : decode code 199 = .ok (.aload_n 0, 1) := by decide +kernel
theorem d_L_law_200 : decode code 200 = .ok (.iload_n 3, 1) := by decide +kernel
theorem d_L_law_201 : decode code 201 = .ok (.iconst 2, 1) := by decide +kernel
theorem d_L_law_202 : decode code 202 = .ok (.iadd, 1) := by decide +kernel
theorem d_L_law_203 : decode code 203 = .ok (.iaload, 1) := by decide +kernel
theorem d_L_law_204 : decode code 204 = .ok (.aload_n 0, 1) := by decide +kernel
theorem d_L_law_205 : decode code 205 = .ok (.iload_n 3, 1) := by decide +kernel
theorem d_L_law_206 : decode code 206 = .ok (.iconst 3, 1) := by decide +kernel
theorem d_L_law_207 : decode code 207 = .ok (.iadd, 1) := by decide +kernel
theorem d_L_law_208 : decode code 208 = .ok (.iaload, 1) := by decide +kernel
theorem d_L_law_209 : decode code 209 = .ok (.invokevirtual 18, 3) := by decide +kernel
theorem d_L_law_212 : decode code 212 = .ok (.aload_n 2, 1) := by decide +kernel
theorem d_L_law_213 : decode code 213 = .ok (.aload_n 0, 1) := by decide +kernel
theorem d_L_law_214 : decode code 214 = .ok (.iload_n 3, 1) := by decide +kernel
theorem d_L_law_215 : decode code 215 = .ok (.iconst 1, 1) := by decide +kernel
theorem d_L_law_216 : decode code 216 = .ok (.iadd, 1) := by decide +kernel
theorem d_L_law_217 : decode code 217 = .ok (.iaload, 1) := by decide +kernel
theorem d_L_law_218 : decode code 218 = .ok (.aload_n 0, 1) := by decide +kernel
theorem d_L_law_219 : decode code 219 = .ok (.iload_n 3, 1) := by decide +kernel
theorem d_L_law_220 : decode code 220 = .ok (.iconst 2, 1) := by decide +kernel
theorem d_L_law_221 : decode code 221 = .ok (.iadd, 1) := by decide +kernel
theorem d_L_law_222 : decode code 222 = .ok (.iaload, 1) := by decide +kernel
theorem d_L_law_223 : decode code 223 = .ok (.aload_n 0, 1) := by decide +kernel
theorem d_L_law_224 : decode code 224 = .ok (.iload_n 3, 1) := by decide +kernel
theorem d_L_law_225 : decode code 225 = .ok (.iconst 3, 1) := by decide +kernel
theorem d_L_law_226 : decode code 226 = .ok (.iadd, 1) := by decide +kernel
theorem d_L_law_227 : decode code 227 = .ok (.iaload, 1) := by decide +kernel
theorem d_L_law_228 : decode code 228 = .ok (.invokevirtual 22, 3) := by decide +kernel
theorem d_L_law_231 : decode code 231 = .ok (.if_icmp .eq 713, 3) := by decide +kernel
theorem d_L_law_234 : decode code 234 = .ok (.iconst 0, 1) := by decide +kernel
theorem d_L_law_235 : decode code 235 = .ok (.ireturn, 1) := by decide +kernel
theorem d_L_law_236 : decode code 236 = .ok (.aload_n 1, 1) := by decide +kernel
theorem d_L_law_237 : decode code 237 = .ok (.aload_n 0, 1) := by decide +kernel
theorem d_L_law_238 : decode code 238 = .ok (.iload_n 3, 1) := by decide +kernel
theorem d_L_law_239 : decode code 239 = .ok (.iconst 1, 1) := by decide +kernel
theorem d_L_law_240 : decode code 240 = .ok (.iadd, 1) := by decide +kernel
theorem d_L_law_241 : decode code 241 = .ok (.iaload, 1) := by decide +kernel
theorem d_L_law_242 : decode code 242 = .ok (.aload_n 0, 1) := by decide +kernel
theorem d_L_law_243 : decode code 243 = .ok (.iload_n 3, 1) := by decide +kernel
theorem d_L_law_244 : decode code 244 = .ok (.iconst 2, 1) := by decide +kernel
theorem d_L_law_245 : decode code 245 = .ok (.iadd, 1) := by decide +kernel
theorem d_L_law_246 : decode code 246 = .ok (.iaload, 1) := by decide +kernel
theorem d_L_law_247 : decode code 247 = .ok (.invokevirtual 23, 3) := by decide +kernel
theorem d_L_law_250 : decode code 250 = .ok (.aload_n 2, 1) := by decide +kernel
theorem d_L_law_251 : decode code 251 = .ok (.aload_n 0, 1) := by decide +kernel
theorem d_L_law_252 : decode code 252 = .ok (.iload_n 3, 1) := by decide +kernel
theorem d_L_law_253 : decode code 253 = .ok (.iconst 1, 1) := by decide +kernel
theorem d_L_law_254 : decode code 254 = .ok (.iadd, 1) := by decide +kernel
theorem d_L_law_255 : decode code 255 = .ok (.iaload, 1) := by decide +kernel
theorem d_L_law_256 : decode code 256 = .ok (.aload_n 0, 1) := by decide +kernel
theorem d_L_law_257 : decode code 257 = .ok (.iload_n 3, 1) := by decide +kernel
theorem d_L_law_258 : decode code 258 = .ok (.iconst 2, 1) := by decide +kernel
theorem d_L_law_259 : decode code 259 = .ok (.iadd, 1) := by decide +kernel
theorem d_L_law_260 : decode code 260 = .ok (.iaload, 1) := by decide +kernel
theorem d_L_law_261 : decode code 261 = .ok (.invokevirtual 26, 3) := by decide +kernel
theorem d_L_law_264 : decode code 264 = .ok (.if_icmp .eq 680, 3) := by decide +kernel
theorem d_L_law_267 : decode code 267 = .ok (.iconst 0, 1) := by decide +kernel
theorem d_L_law_268 : decode code 268 = .ok (.ireturn, 1) := by decide +kernel
theorem d_L_law_269 : decode code 269 = .ok (.aload_n 1, 1) := by decide +kernel
theorem d_L_law_270 : decode code 270 = .ok (.aload_n 0, 1) := by decide +kernel
theorem d_L_law_271 : decode code 271 = .ok (.iload_n 3, 1) := by decide +kernel
theorem d_L_law_272 : decode code 272 = .ok (.iconst 1, 1) := by decide +kernel
theorem d_L_law_273 : decode code 273 = .ok (.iadd, 1) := by decide +kernel
theorem d_L_law_274 : decode code 274 = .ok (.iaload, 1) := by decide +kernel
theorem d_L_law_275 : decode code 275 = .ok (.aload_n 0, 1) := by decide +kernel
theorem d_L_law_276 : decode code 276 = .ok (.iload_n 3, 1) := by decide +kernel
theorem d_L_law_277 : decode code 277 = .ok (.iconst 2, 1) := by decide +kernel
theorem d_L_law_278 : decode code 278 = .ok (.iadd, 1) := by decide +kernel
theorem d_L_law_279 : decode code 279 = .ok (.iaload, 1) := by decide +kernel
theorem d_L_law_280 : decode code 280 = .ok (.aload_n 0, 1) := by decide +kernel
theorem d_L_law_281 : decode code 281 = .ok (.iload_n 3, 1) := by decide +kernel
theorem d_L_law_282 : decode code 282 = .ok (.iconst 3, 1) := by decide +kernel
theorem d_L_law_283 : decode code 283 = .ok (.iadd, 1) := by decide +kernel
theorem d_L_law_284 : decode code 284 = .ok (.iaload, 1) := by decide +kernel
theorem d_L_law_285 : decode code 285 = .ok (.invokevirtual 27, 3) := by decide +kernel
theorem d_L_law_288 : decode code 288 = .ok (.aload_n 2, 1) := by decide +kernel
theorem d_L_law_289 : decode code 289 = .ok (.aload_n 0, 1) := by decide +kernel
theorem d_L_law_290 : decode code 290 = .ok (.iload_n 3, 1) := by decide +kernel
theorem d_L_law_291 : decode code 291 = .ok (.iconst 1, 1) := by decide +kernel
theorem d_L_law_292 : decode code 292 = .ok (.iadd, 1) := by decide +kernel
theorem d_L_law_293 : decode code 293 = .ok (.iaload, 1) := by decide +kernel
theorem d_L_law_294 : decode code 294 = .ok (.aload_n 0, 1) := by decide +kernel
theorem d_L_law_295 : decode code 295 = .ok (.iload_n 3, 1) := by decide +kernel
theorem d_L_law_296 : decode code 296 = .ok (.iconst 2, 1) := by decide +kernel
theorem d_L_law_297 : decode code 297 = .ok (.iadd, 1) := by decide +kernel
theorem d_L_law_298 : decode code 298 = .ok (.iaload, 1) := by decide +kernel
theorem d_L_law_299 : decode code 299 = .ok (.aload_n 0, 1) := by decide +kernel
theorem d_L_law_300 : decode code 300 = .ok (.iload_n 3, 1) := by decide +kernel
theorem d_L_law_301 : decode code 301 = .ok (.iconst 3, 1) := by decide +kernel
theorem d_L_law_302 : decode code 302 = .ok (.iadd, 1) := by decide +kernel
theorem d_L_law_303 : decode code 303 = .ok (.iaload, 1) := by decide +kernel
theorem d_L_law_304 : decode code 304 = .ok (.invokevirtual 30, 3) := by decide +kernel
theorem d_L_law_307 : decode code 307 = .ok (.if_icmp .eq 637, 3) := by decide +kernel
theorem d_L_law_310 : decode code 310 = .ok (.iconst 0, 1) := by decide +kernel
theorem d_L_law_311 : decode code 311 = .ok (.ireturn, 1) := by decide +kernel
theorem d_L_law_312 : decode code 312 = .ok (.aload_n 1, 1) := by decide +kernel
theorem d_L_law_313 : decode code 313 = .ok (.aload_n 0, 1) := by decide +kernel
theorem d_L_law_314 : decode code 314 = .ok (.iload_n 3, 1) := by decide +kernel
theorem d_L_law_315 : decode code 315 = .ok (.iconst 1, 1) := by decide +kernel
theorem d_L_law_316 : decode code 316 = .ok (.iadd, 1) := by decide +kernel
theorem d_L_law_317 : decode code 317 = .ok (.iaload, 1) := by decide +kernel
theorem d_L_law_318 : decode code 318 = .ok (.aload_n 0, 1) := by decide +kernel
theorem d_L_law_319 : decode code 319 = .ok (.iload_n 3, 1) := by decide +kernel
theorem d_L_law_320 : decode code 320 = .ok (.iconst 2, 1) := by decide +kernel
theorem d_L_law_321 : decode code 321 = .ok (.iadd, 1) := by decide +kernel
theorem d_L_law_322 : decode code 322 = .ok (.iaload, 1) := by decide +kernel
theorem d_L_law_323 : decode code 323 = .ok (.aload_n 0, 1) := by decide +kernel
theorem d_L_law_324 : decode code 324 = .ok (.iload_n 3, 1) := by decide +kernel
theorem d_L_law_325 : decode code 325 = .ok (.iconst 3, 1) := by decide +kernel
theorem d_L_law_326 : decode code 326 = .ok (.iadd, 1) := by decide +kernel
theorem d_L_law_327 : decode code 327 = .ok (.iaload, 1) := by decide +kernel
theorem d_L_law_328 : decode code 328 = .ok (.invokevirtual 31, 3) := by decide +kernel
theorem d_L_law_331 : decode code 331 = .ok (.aload_n 2, 1) := by decide +kernel
theorem d_L_law_332 : decode code 332 = .ok (.aload_n 0, 1) := by decide +kernel
theorem d_L_law_333 : decode code 333 = .ok (.iload_n 3, 1) := by decide +kernel
theorem d_L_law_334 : decode code 334 = .ok (.iconst 1, 1) := by decide +kernel
theorem d_L_law_335 : decode code 335 = .ok (.iadd, 1) := by decide +kernel
theorem d_L_law_336 : decode code 336 = .ok (.iaload, 1) := by decide +kernel
theorem d_L_law_337 : decode code 337 = .ok (.aload_n 0, 1) := by decide +kernel
theorem d_L_law_338 : decode code 338 = .ok (.iload_n 3, 1) := by decide +kernel
theorem d_L_law_339 : decode code 339 = .ok (.iconst 2, 1) := by decide +kernel
theorem d_L_law_340 : decode code 340 = .ok (.iadd, 1) := by decide +kernel
theorem d_L_law_341 : decode code 341 = .ok (.iaload, 1) := by decide +kernel
theorem d_L_law_342 : decode code 342 = .ok (.aload_n 0, 1) := by decide +kernel
theorem d_L_law_343 : decode code 343 = .ok (.iload_n 3, 1) := by decide +kernel
theorem d_L_law_344 : decode code 344 = .ok (.iconst 3, 1) := by decide +kernel
theorem d_L_law_345 : decode code 345 = .ok (.iadd, 1) := by decide +kernel
theorem d_L_law_346 : decode code 346 = .ok (.iaload, 1) := by decide +kernel
theorem d_L_law_347 : decode code 347 = .ok (.invokevirtual 34, 3) := by decide +kernel
theorem d_L_law_350 : decode code 350 = .ok (.if_icmp .eq 594, 3) := by decide +kernel
theorem d_L_law_353 : decode code 353 = .ok (.iconst 0, 1) := by decide +kernel
theorem d_L_law_354 : decode code 354 = .ok (.ireturn, 1) := by decide +kernel
set_option maxHeartbeats 2000000 in
theorem law_set {X : Ev} {k n : Nat} (C : Cx code "DeadRunsLaw" 4 X) {cI cO cZ : ClassId} (hT : TY (Xtys X) cI cO cZ) {b o q0 L : Nat} {xi : Int → Int} (hX : XScr X b L xi) (hxr : xrg xi) (hR : (8 ≤ (XR X).frames ∧ 280 ≤ (XR X).locals) ∧ k ≤ (XR X).cells ∧ n ≤ (XR X).slots) {A : AS} {w1 w2 : va_W} (hA : CW cI cO cZ o A w1) (hM : MW cI q0 A w2) {i : Int} (hi : 0 ≤ i ∧ i + 4 ≤ L ∧ L ≤ 2048) {H : Heap} {locs : List Loc} {ls : Array Slot} (w : Wd X (w1 ++ w2) H locs) (hl : lv_has ls 4 [(3, .int (iI i)), (2, .ref q0), (1, .ref o), (0, .ref b)])
    (kk : ∀ (A' : AS) (w1' w2' : va_W) (H : Heap) (locs : List Loc), CW cI cO cZ o A' w1' → MW cI q0 A' w2' → Wd X (w1' ++ w2') H locs → GG X k n H locs 944 ls []) : GG X k n H locs 160 ls [] := by
  obtain ⟨f1, hr1⟩ := hA.recv
  obtain ⟨f2, hr2⟩ := hM.recv
  refine r_aload_n (pc := 160) C d_L_law_160 rfl (lv_at hl 2 rfl) ?_
  refine r_ld (pc := 161) C w hX hl (by omega) d_L_law_161 d_L_law_162 d_L_law_163 d_L_law_164 d_L_law_165 ?_
  refine r_ld (pc := 166) C w hX hl (by omega) d_L_law_166 d_L_law_167 d_L_law_168 d_L_law_169 d_L_law_170 ?_
  refine r_callVI (pc := 171) (As := [.int (iI (xi (i + 1))), .int (iI (xi (i + 2)))]) (rest := []) (wr := w2) C w (c_D_set hT o A w1 hA (xi (i + 1)) (xi (i + 2)) ⟨hxr _, hxr _⟩) ml_L_13 im_D_set se_D_set ini_D cd_D_set hd_D_set rfl ⟨⟨Nat.le_trans (Nat.le_of_ble_eq_true rfl) hR.1.1, Nat.le_trans (Nat.le_of_ble_eq_true rfl) hR.1.2⟩, hR.2⟩ hl.1 _ _ (cut_app w1 w2) 0 rfl hr1 rfl (Nat.le_of_ble_eq_true rfl) d_L_law_171 (fun z u1 H locs hz w => ?_)
  obtain ⟨A', hA', hS⟩ := hz
  refine r_aload_n (pc := 174) C d_L_law_174 rfl (lv_at hl 1 rfl) ?_
  refine r_ld (pc := 175) C w hX hl (by omega) d_L_law_175 d_L_law_176 d_L_law_177 d_L_law_178 d_L_law_179 ?_
  refine r_ld (pc := 180) C w hX hl (by omega) d_L_law_180 d_L_law_181 d_L_law_182 d_L_law_183 d_L_law_184 ?_
  refine r_callVI (pc := 185) (As := [.int (iI (xi (i + 1))), .int (iI (xi (i + 2)))]) (rest := [.int (iI z)]) (wr := u1) C w (c_M_set hT q0 A A' z w2 hM (xi (i + 1)) (xi (i + 2)) ⟨hxr _, hxr _⟩ hS) ml_L_17 im_M_set se_M_set ini_M cd_M_set hd_M_set rfl ⟨⟨Nat.le_trans (Nat.le_of_ble_eq_true rfl) hR.1.1, Nat.le_trans (Nat.le_of_ble_eq_true rfl) hR.1.2⟩, hR.2⟩ hl.1 _ _ (cut_app w2 u1) 0 rfl hr2 rfl (Nat.le_of_ble_eq_true rfl) d_L_law_185 (fun z2 u2 H locs hz2 w => ?_)
  obtain ⟨e2, hM'⟩ := hz2
  subst e2
  refine r_icmp_same (pc := 188) (tgt := 944) C d_L_law_188 (by decide) ?_
  exact kk A' u1 u2 H locs hA' hM' w
set_option maxHeartbeats 2000000 in
theorem law_insert {X : Ev} {k n : Nat} (C : Cx code "DeadRunsLaw" 4 X) {cI cO cZ : ClassId} (hT : TY (Xtys X) cI cO cZ) {b o q0 L : Nat} {xi : Int → Int} (hX : XScr X b L xi) (hxr : xrg xi) (hR : (8 ≤ (XR X).frames ∧ 280 ≤ (XR X).locals) ∧ k ≤ (XR X).cells ∧ n ≤ (XR X).slots) {A : AS} {w1 w2 : va_W} (hA : CW cI cO cZ o A w1) (hM : MW cI q0 A w2) {i : Int} (hi : 0 ≤ i ∧ i + 4 ≤ L ∧ L ≤ 2048) {H : Heap} {locs : List Loc} {ls : Array Slot} (w : Wd X (w1 ++ w2) H locs) (hl : lv_has ls 4 [(3, .int (iI i)), (2, .ref q0), (1, .ref o), (0, .ref b)])
    (kk : ∀ (A' : AS) (w1' w2' : va_W) (H : Heap) (locs : List Loc), CW cI cO cZ o A' w1' → MW cI q0 A' w2' → Wd X (w1' ++ w2') H locs → GG X k n H locs 944 ls []) : GG X k n H locs 193 ls [] := by
  obtain ⟨f1, hr1⟩ := hA.recv
  obtain ⟨f2, hr2⟩ := hM.recv
  refine r_aload_n (pc := 193) C d_L_law_193 rfl (lv_at hl 2 rfl) ?_
  refine r_ld (pc := 194) C w hX hl (by omega) d_L_law_194 d_L_law_195 d_L_law_196 d_L_law_197 d_L_law_198 ?_
  refine r_ld (pc := 199) C w hX hl (by omega) d_L_law_199 d_L_law_200 d_L_law_201 d_L_law_202 d_L_law_203 ?_
  refine r_ld (pc := 204) C w hX hl (by omega) d_L_law_204 d_L_law_205 d_L_law_206 d_L_law_207 d_L_law_208 ?_
  refine r_callVI (pc := 209) (As := [.int (iI (xi (i + 1))), .int (iI (xi (i + 2))), .int (iI (xi (i + 3)))]) (rest := []) (wr := w2) C w (c_D_insert hT o A w1 hA (xi (i + 1)) (xi (i + 2)) (xi (i + 3)) ⟨hxr _, hxr _, hxr _⟩) ml_L_18 im_D_insert se_D_insert ini_D cd_D_insert hd_D_insert rfl ⟨⟨Nat.le_trans (Nat.le_of_ble_eq_true rfl) hR.1.1, Nat.le_trans (Nat.le_of_ble_eq_true rfl) hR.1.2⟩, hR.2⟩ hl.1 _ _ (cut_app w1 w2) 0 rfl hr1 rfl (Nat.le_of_ble_eq_true rfl) d_L_law_209 (fun z u1 H locs hz w => ?_)
  obtain ⟨A', hA', hS⟩ := hz
  refine r_aload_n (pc := 212) C d_L_law_212 rfl (lv_at hl 1 rfl) ?_
  refine r_ld (pc := 213) C w hX hl (by omega) d_L_law_213 d_L_law_214 d_L_law_215 d_L_law_216 d_L_law_217 ?_
  refine r_ld (pc := 218) C w hX hl (by omega) d_L_law_218 d_L_law_219 d_L_law_220 d_L_law_221 d_L_law_222 ?_
  refine r_ld (pc := 223) C w hX hl (by omega) d_L_law_223 d_L_law_224 d_L_law_225 d_L_law_226 d_L_law_227 ?_
  refine r_callVI (pc := 228) (As := [.int (iI (xi (i + 1))), .int (iI (xi (i + 2))), .int (iI (xi (i + 3)))]) (rest := [.int (iI z)]) (wr := u1) C w (c_M_insert hT q0 A A' z w2 hM (xi (i + 1)) (xi (i + 2)) (xi (i + 3)) ⟨hxr _, hxr _, hxr _⟩ hS) ml_L_22 im_M_insert se_M_insert ini_M cd_M_insert hd_M_insert rfl ⟨⟨Nat.le_trans (Nat.le_of_ble_eq_true rfl) hR.1.1, Nat.le_trans (Nat.le_of_ble_eq_true rfl) hR.1.2⟩, hR.2⟩ hl.1 _ _ (cut_app w2 u1) 0 rfl hr2 rfl (Nat.le_of_ble_eq_true rfl) d_L_law_228 (fun z2 u2 H locs hz2 w => ?_)
  obtain ⟨e2, hM'⟩ := hz2
  subst e2
  refine r_icmp_same (pc := 231) (tgt := 944) C d_L_law_231 (by decide) ?_
  exact kk A' u1 u2 H locs hA' hM' w
set_option maxHeartbeats 2000000 in
theorem law_erase {X : Ev} {k n : Nat} (C : Cx code "DeadRunsLaw" 4 X) {cI cO cZ : ClassId} (hT : TY (Xtys X) cI cO cZ) {b o q0 L : Nat} {xi : Int → Int} (hX : XScr X b L xi) (hxr : xrg xi) (hR : (8 ≤ (XR X).frames ∧ 280 ≤ (XR X).locals) ∧ k ≤ (XR X).cells ∧ n ≤ (XR X).slots) {A : AS} {w1 w2 : va_W} (hA : CW cI cO cZ o A w1) (hM : MW cI q0 A w2) {i : Int} (hi : 0 ≤ i ∧ i + 4 ≤ L ∧ L ≤ 2048) {H : Heap} {locs : List Loc} {ls : Array Slot} (w : Wd X (w1 ++ w2) H locs) (hl : lv_has ls 4 [(3, .int (iI i)), (2, .ref q0), (1, .ref o), (0, .ref b)])
    (kk : ∀ (A' : AS) (w1' w2' : va_W) (H : Heap) (locs : List Loc), CW cI cO cZ o A' w1' → MW cI q0 A' w2' → Wd X (w1' ++ w2') H locs → GG X k n H locs 944 ls []) : GG X k n H locs 236 ls [] := by
  obtain ⟨f1, hr1⟩ := hA.recv
  obtain ⟨f2, hr2⟩ := hM.recv
  refine r_aload_n (pc := 236) C d_L_law_236 rfl (lv_at hl 2 rfl) ?_
  refine r_ld (pc := 237) C w hX hl (by omega) d_L_law_237 d_L_law_238 d_L_law_239 d_L_law_240 d_L_law_241 ?_
  refine r_ld (pc := 242) C w hX hl (by omega) d_L_law_242 d_L_law_243 d_L_law_244 d_L_law_245 d_L_law_246 ?_
  refine r_callVI (pc := 247) (As := [.int (iI (xi (i + 1))), .int (iI (xi (i + 2)))]) (rest := []) (wr := w2) C w (c_D_erase hT o A w1 hA (xi (i + 1)) (xi (i + 2)) ⟨hxr _, hxr _⟩) ml_L_23 im_D_erase se_D_erase ini_D cd_D_erase hd_D_erase rfl ⟨⟨Nat.le_trans (Nat.le_of_ble_eq_true rfl) hR.1.1, Nat.le_trans (Nat.le_of_ble_eq_true rfl) hR.1.2⟩, hR.2⟩ hl.1 _ _ (cut_app w1 w2) 0 rfl hr1 rfl (Nat.le_of_ble_eq_true rfl) d_L_law_247 (fun z u1 H locs hz w => ?_)
  obtain ⟨A', hA', hS⟩ := hz
  refine r_aload_n (pc := 250) C d_L_law_250 rfl (lv_at hl 1 rfl) ?_
  refine r_ld (pc := 251) C w hX hl (by omega) d_L_law_251 d_L_law_252 d_L_law_253 d_L_law_254 d_L_law_255 ?_
  refine r_ld (pc := 256) C w hX hl (by omega) d_L_law_256 d_L_law_257 d_L_law_258 d_L_law_259 d_L_law_260 ?_
  refine r_callVI (pc := 261) (As := [.int (iI (xi (i + 1))), .int (iI (xi (i + 2)))]) (rest := [.int (iI z)]) (wr := u1) C w (c_M_erase hT q0 A A' z w2 hM (xi (i + 1)) (xi (i + 2)) ⟨hxr _, hxr _⟩ hS) ml_L_26 im_M_erase se_M_erase ini_M cd_M_erase hd_M_erase rfl ⟨⟨Nat.le_trans (Nat.le_of_ble_eq_true rfl) hR.1.1, Nat.le_trans (Nat.le_of_ble_eq_true rfl) hR.1.2⟩, hR.2⟩ hl.1 _ _ (cut_app w2 u1) 0 rfl hr2 rfl (Nat.le_of_ble_eq_true rfl) d_L_law_261 (fun z2 u2 H locs hz2 w => ?_)
  obtain ⟨e2, hM'⟩ := hz2
  subst e2
  refine r_icmp_same (pc := 264) (tgt := 944) C d_L_law_264 (by decide) ?_
  exact kk A' u1 u2 H locs hA' hM' w
set_option maxHeartbeats 2000000 in
theorem law_write {X : Ev} {k n : Nat} (C : Cx code "DeadRunsLaw" 4 X) {cI cO cZ : ClassId} (hT : TY (Xtys X) cI cO cZ) {b o q0 L : Nat} {xi : Int → Int} (hX : XScr X b L xi) (hxr : xrg xi) (hR : (8 ≤ (XR X).frames ∧ 280 ≤ (XR X).locals) ∧ k ≤ (XR X).cells ∧ n ≤ (XR X).slots) {A : AS} {w1 w2 : va_W} (hA : CW cI cO cZ o A w1) (hM : MW cI q0 A w2) {i : Int} (hi : 0 ≤ i ∧ i + 4 ≤ L ∧ L ≤ 2048) {H : Heap} {locs : List Loc} {ls : Array Slot} (w : Wd X (w1 ++ w2) H locs) (hl : lv_has ls 4 [(3, .int (iI i)), (2, .ref q0), (1, .ref o), (0, .ref b)])
    (kk : ∀ (A' : AS) (w1' w2' : va_W) (H : Heap) (locs : List Loc), CW cI cO cZ o A' w1' → MW cI q0 A' w2' → Wd X (w1' ++ w2') H locs → GG X k n H locs 944 ls []) : GG X k n H locs 269 ls [] := by
  obtain ⟨f1, hr1⟩ := hA.recv
  obtain ⟨f2, hr2⟩ := hM.recv
  refine r_aload_n (pc := 269) C d_L_law_269 rfl (lv_at hl 2 rfl) ?_
  refine r_ld (pc := 270) C w hX hl (by omega) d_L_law_270 d_L_law_271 d_L_law_272 d_L_law_273 d_L_law_274 ?_
  refine r_ld (pc := 275) C w hX hl (by omega) d_L_law_275 d_L_law_276 d_L_law_277 d_L_law_278 d_L_law_279 ?_
  refine r_ld (pc := 280) C w hX hl (by omega) d_L_law_280 d_L_law_281 d_L_law_282 d_L_law_283 d_L_law_284 ?_
  refine r_callVI (pc := 285) (As := [.int (iI (xi (i + 1))), .int (iI (xi (i + 2))), .int (iI (xi (i + 3)))]) (rest := []) (wr := w2) C w (c_D_write hT o A w1 hA (xi (i + 1)) (xi (i + 2)) (xi (i + 3)) ⟨hxr _, hxr _, hxr _⟩) ml_L_27 im_D_write se_D_write ini_D cd_D_write hd_D_write rfl ⟨⟨Nat.le_trans (Nat.le_of_ble_eq_true rfl) hR.1.1, Nat.le_trans (Nat.le_of_ble_eq_true rfl) hR.1.2⟩, hR.2⟩ hl.1 _ _ (cut_app w1 w2) 0 rfl hr1 rfl (Nat.le_of_ble_eq_true rfl) d_L_law_285 (fun z u1 H locs hz w => ?_)
  obtain ⟨A', hA', hS⟩ := hz
  refine r_aload_n (pc := 288) C d_L_law_288 rfl (lv_at hl 1 rfl) ?_
  refine r_ld (pc := 289) C w hX hl (by omega) d_L_law_289 d_L_law_290 d_L_law_291 d_L_law_292 d_L_law_293 ?_
  refine r_ld (pc := 294) C w hX hl (by omega) d_L_law_294 d_L_law_295 d_L_law_296 d_L_law_297 d_L_law_298 ?_
  refine r_ld (pc := 299) C w hX hl (by omega) d_L_law_299 d_L_law_300 d_L_law_301 d_L_law_302 d_L_law_303 ?_
  refine r_callVI (pc := 304) (As := [.int (iI (xi (i + 1))), .int (iI (xi (i + 2))), .int (iI (xi (i + 3)))]) (rest := [.int (iI z)]) (wr := u1) C w (c_M_write hT q0 A A' z w2 hM (xi (i + 1)) (xi (i + 2)) (xi (i + 3)) ⟨hxr _, hxr _, hxr _⟩ hS) ml_L_30 im_M_write se_M_write ini_M cd_M_write hd_M_write rfl ⟨⟨Nat.le_trans (Nat.le_of_ble_eq_true rfl) hR.1.1, Nat.le_trans (Nat.le_of_ble_eq_true rfl) hR.1.2⟩, hR.2⟩ hl.1 _ _ (cut_app w2 u1) 0 rfl hr2 rfl (Nat.le_of_ble_eq_true rfl) d_L_law_304 (fun z2 u2 H locs hz2 w => ?_)
  obtain ⟨e2, hM'⟩ := hz2
  subst e2
  refine r_icmp_same (pc := 307) (tgt := 944) C d_L_law_307 (by decide) ?_
  exact kk A' u1 u2 H locs hA' hM' w
set_option maxHeartbeats 2000000 in
theorem law_add {X : Ev} {k n : Nat} (C : Cx code "DeadRunsLaw" 4 X) {cI cO cZ : ClassId} (hT : TY (Xtys X) cI cO cZ) {b o q0 L : Nat} {xi : Int → Int} (hX : XScr X b L xi) (hxr : xrg xi) (hR : (8 ≤ (XR X).frames ∧ 280 ≤ (XR X).locals) ∧ k ≤ (XR X).cells ∧ n ≤ (XR X).slots) {A : AS} {w1 w2 : va_W} (hA : CW cI cO cZ o A w1) (hM : MW cI q0 A w2) {i : Int} (hi : 0 ≤ i ∧ i + 4 ≤ L ∧ L ≤ 2048) {H : Heap} {locs : List Loc} {ls : Array Slot} (w : Wd X (w1 ++ w2) H locs) (hl : lv_has ls 4 [(3, .int (iI i)), (2, .ref q0), (1, .ref o), (0, .ref b)])
    (kk : ∀ (A' : AS) (w1' w2' : va_W) (H : Heap) (locs : List Loc), CW cI cO cZ o A' w1' → MW cI q0 A' w2' → Wd X (w1' ++ w2') H locs → GG X k n H locs 944 ls []) : GG X k n H locs 312 ls [] := by
  obtain ⟨f1, hr1⟩ := hA.recv
  obtain ⟨f2, hr2⟩ := hM.recv
  refine r_aload_n (pc := 312) C d_L_law_312 rfl (lv_at hl 2 rfl) ?_
  refine r_ld (pc := 313) C w hX hl (by omega) d_L_law_313 d_L_law_314 d_L_law_315 d_L_law_316 d_L_law_317 ?_
  refine r_ld (pc := 318) C w hX hl (by omega) d_L_law_318 d_L_law_319 d_L_law_320 d_L_law_321 d_L_law_322 ?_
  refine r_ld (pc := 323) C w hX hl (by omega) d_L_law_323 d_L_law_324 d_L_law_325 d_L_law_326 d_L_law_327 ?_
  refine r_callVI (pc := 328) (As := [.int (iI (xi (i + 1))), .int (iI (xi (i + 2))), .int (iI (xi (i + 3)))]) (rest := []) (wr := w2) C w (c_D_add hT o A w1 hA (xi (i + 1)) (xi (i + 2)) (xi (i + 3)) ⟨hxr _, hxr _, hxr _⟩) ml_L_31 im_D_add se_D_add ini_D cd_D_add hd_D_add rfl ⟨⟨Nat.le_trans (Nat.le_of_ble_eq_true rfl) hR.1.1, Nat.le_trans (Nat.le_of_ble_eq_true rfl) hR.1.2⟩, hR.2⟩ hl.1 _ _ (cut_app w1 w2) 0 rfl hr1 rfl (Nat.le_of_ble_eq_true rfl) d_L_law_328 (fun z u1 H locs hz w => ?_)
  obtain ⟨A', hA', hS⟩ := hz
  refine r_aload_n (pc := 331) C d_L_law_331 rfl (lv_at hl 1 rfl) ?_
  refine r_ld (pc := 332) C w hX hl (by omega) d_L_law_332 d_L_law_333 d_L_law_334 d_L_law_335 d_L_law_336 ?_
  refine r_ld (pc := 337) C w hX hl (by omega) d_L_law_337 d_L_law_338 d_L_law_339 d_L_law_340 d_L_law_341 ?_
  refine r_ld (pc := 342) C w hX hl (by omega) d_L_law_342 d_L_law_343 d_L_law_344 d_L_law_345 d_L_law_346 ?_
  refine r_callVI (pc := 347) (As := [.int (iI (xi (i + 1))), .int (iI (xi (i + 2))), .int (iI (xi (i + 3)))]) (rest := [.int (iI z)]) (wr := u1) C w (c_M_add hT q0 A A' z w2 hM (xi (i + 1)) (xi (i + 2)) (xi (i + 3)) ⟨hxr _, hxr _, hxr _⟩ hS) ml_L_34 im_M_add se_M_add ini_M cd_M_add hd_M_add rfl ⟨⟨Nat.le_trans (Nat.le_of_ble_eq_true rfl) hR.1.1, Nat.le_trans (Nat.le_of_ble_eq_true rfl) hR.1.2⟩, hR.2⟩ hl.1 _ _ (cut_app w2 u1) 0 rfl hr2 rfl (Nat.le_of_ble_eq_true rfl) d_L_law_347 (fun z2 u2 H locs hz2 w => ?_)
  obtain ⟨e2, hM'⟩ := hz2
  subst e2
  refine r_icmp_same (pc := 350) (tgt := 944) C d_L_law_350 (by decide) ?_
  exact kk A' u1 u2 H locs hA' hM' w
