/-! calls that are refused -/
theorem d_L_fails_0 : decode b_L_fails 0 = .ok (.aload_n 0, 1) := by decide +kernel
theorem d_L_fails_1 : decode b_L_fails 1 = .ok (.invokestatic 21, 3) := by decide +kernel
theorem d_L_fails_4 : decode b_L_fails 4 = .ok (.lstore_n 1, 1) := by decide +kernel
theorem d_L_fails_5 : decode b_L_fails 5 = .ok (.aload_n 0, 1) := by decide +kernel
theorem d_L_fails_6 : decode b_L_fails 6 = .ok (.bipush 8, 2) := by decide +kernel
theorem d_L_fails_8 : decode b_L_fails 8 = .ok (.invokevirtual 11, 3) := by decide +kernel
theorem d_L_fails_11 : decode b_L_fails 11 = .ok (.istore_n 3, 1) := by decide +kernel
theorem d_L_fails_12 : decode b_L_fails 12 = .ok (.aload_n 0, 1) := by decide +kernel
theorem d_L_fails_13 : decode b_L_fails 13 = .ok (.iconst 0, 1) := by decide +kernel
theorem d_L_fails_14 : decode b_L_fails 14 = .ok (.invokevirtual 11, 3) := by decide +kernel
theorem d_L_fails_17 : decode b_L_fails 17 = .ok (.istore 4, 2) := by decide +kernel
theorem d_L_fails_19 : decode b_L_fails 19 = .ok (.aload_n 0, 1) := by decide +kernel
theorem d_L_fails_20 : decode b_L_fails 20 = .ok (.iconst 2, 1) := by decide +kernel
theorem d_L_fails_21 : decode b_L_fails 21 = .ok (.iconst 0, 1) := by decide +kernel
theorem d_L_fails_22 : decode b_L_fails 22 = .ok (.invokevirtual 27, 3) := by decide +kernel
theorem d_L_fails_25 : decode b_L_fails 25 = .ok (.bipush (-2), 2) := by decide +kernel
theorem d_L_fails_27 : decode b_L_fails 27 = .ok (.if_icmp .ne 219, 3) := by decide +kernel
theorem d_L_fails_30 : decode b_L_fails 30 = .ok (.aload_n 0, 1) := by decide +kernel
theorem d_L_fails_31 : decode b_L_fails 31 = .ok (.iconst 0, 1) := by decide +kernel
theorem d_L_fails_32 : decode b_L_fails 32 = .ok (.iconst 3, 1) := by decide +kernel
theorem d_L_fails_33 : decode b_L_fails 33 = .ok (.invokevirtual 27, 3) := by decide +kernel
theorem d_L_fails_36 : decode b_L_fails 36 = .ok (.bipush (-2), 2) := by decide +kernel
theorem d_L_fails_38 : decode b_L_fails 38 = .ok (.if_icmp .ne 208, 3) := by decide +kernel
theorem d_L_fails_41 : decode b_L_fails 41 = .ok (.aload_n 0, 1) := by decide +kernel
theorem d_L_fails_42 : decode b_L_fails 42 = .ok (.iconst 1, 1) := by decide +kernel
theorem d_L_fails_43 : decode b_L_fails 43 = .ok (.iconst 2, 1) := by decide +kernel
theorem d_L_fails_44 : decode b_L_fails 44 = .ok (.invokevirtual 27, 3) := by decide +kernel
theorem d_L_fails_47 : decode b_L_fails 47 = .ok (.bipush (-2), 2) := by decide +kernel
theorem d_L_fails_49 : decode b_L_fails 49 = .ok (.if_icmp .ne 197, 3) := by decide +kernel
theorem d_L_fails_52 : decode b_L_fails 52 = .ok (.aload_n 0, 1) := by decide +kernel
theorem d_L_fails_53 : decode b_L_fails 53 = .ok (.iconst 0, 1) := by decide +kernel
theorem d_L_fails_54 : decode b_L_fails 54 = .ok (.iconst (-1), 1) := by decide +kernel
theorem d_L_fails_55 : decode b_L_fails 55 = .ok (.invokevirtual 27, 3) := by decide +kernel
theorem d_L_fails_58 : decode b_L_fails 58 = .ok (.bipush (-2), 2) := by decide +kernel
theorem d_L_fails_60 : decode b_L_fails 60 = .ok (.if_icmp .ne 186, 3) := by decide +kernel
theorem d_L_fails_63 : decode b_L_fails 63 = .ok (.aload_n 0, 1) := by decide +kernel
theorem d_L_fails_64 : decode b_L_fails 64 = .ok (.iconst (-1), 1) := by decide +kernel
theorem d_L_fails_65 : decode b_L_fails 65 = .ok (.iconst 1, 1) := by decide +kernel
theorem d_L_fails_66 : decode b_L_fails 66 = .ok (.iconst 1, 1) := by decide +kernel
theorem d_L_fails_67 : decode b_L_fails 67 = .ok (.invokevirtual 30, 3) := by decide +kernel
theorem d_L_fails_70 : decode b_L_fails 70 = .ok (.iconst (-1), 1) := by decide +kernel
theorem d_L_fails_71 : decode b_L_fails 71 = .ok (.if_icmp .ne 175, 3) := by decide +kernel
theorem d_L_fails_74 : decode b_L_fails 74 = .ok (.aload_n 0, 1) := by decide +kernel
theorem d_L_fails_75 : decode b_L_fails 75 = .ok (.iload 4, 2) := by decide +kernel
theorem d_L_fails_77 : decode b_L_fails 77 = .ok (.iconst 1, 1) := by decide +kernel
theorem d_L_fails_78 : decode b_L_fails 78 = .ok (.iadd, 1) := by decide +kernel
theorem d_L_fails_79 : decode b_L_fails 79 = .ok (.iconst 1, 1) := by decide +kernel
theorem d_L_fails_80 : decode b_L_fails 80 = .ok (.iconst 1, 1) := by decide +kernel
theorem d_L_fails_81 : decode b_L_fails 81 = .ok (.invokevirtual 30, 3) := by decide +kernel
theorem d_L_fails_84 : decode b_L_fails 84 = .ok (.iconst (-1), 1) := by decide +kernel
theorem d_L_fails_85 : decode b_L_fails 85 = .ok (.if_icmp .ne 161, 3) := by decide +kernel
theorem d_L_fails_88 : decode b_L_fails 88 = .ok (.aload_n 0, 1) := by decide +kernel
theorem d_L_fails_89 : decode b_L_fails 89 = .ok (.iconst 0, 1) := by decide +kernel
theorem d_L_fails_90 : decode b_L_fails 90 = .ok (.bipush 11, 2) := by decide +kernel
theorem d_L_fails_92 : decode b_L_fails 92 = .ok (.iconst 1, 1) := by decide +kernel
theorem d_L_fails_93 : decode b_L_fails 93 = .ok (.invokevirtual 30, 3) := by decide +kernel
theorem d_L_fails_96 : decode b_L_fails 96 = .ok (.bipush (-2), 2) := by decide +kernel
theorem d_L_fails_98 : decode b_L_fails 98 = .ok (.if_icmp .ne 148, 3) := by decide +kernel
theorem d_L_fails_101 : decode b_L_fails 101 = .ok (.aload_n 0, 1) := by decide +kernel
theorem d_L_fails_102 : decode b_L_fails 102 = .ok (.iconst 0, 1) := by decide +kernel
theorem d_L_fails_103 : decode b_L_fails 103 = .ok (.iconst 1, 1) := by decide +kernel
theorem d_L_fails_104 : decode b_L_fails 104 = .ok (.iconst 0, 1) := by decide +kernel
theorem d_L_fails_105 : decode b_L_fails 105 = .ok (.invokevirtual 30, 3) := by decide +kernel
theorem d_L_fails_108 : decode b_L_fails 108 = .ok (.bipush (-2), 2) := by decide +kernel
theorem d_L_fails_110 : decode b_L_fails 110 = .ok (.if_icmp .ne 136, 3) := by decide +kernel
theorem d_L_fails_113 : decode b_L_fails 113 = .ok (.aload_n 0, 1) := by decide +kernel
theorem d_L_fails_114 : decode b_L_fails 114 = .ok (.iconst 0, 1) := by decide +kernel
theorem d_L_fails_115 : decode b_L_fails 115 = .ok (.iconst 1, 1) := by decide +kernel
theorem d_L_fails_116 : decode b_L_fails 116 = .ok (.sipush 3001, 3) := by decide +kernel
theorem d_L_fails_119 : decode b_L_fails 119 = .ok (.invokevirtual 30, 3) := by decide +kernel
theorem d_L_fails_122 : decode b_L_fails 122 = .ok (.bipush (-2), 2) := by decide +kernel
theorem d_L_fails_124 : decode b_L_fails 124 = .ok (.if_icmp .ne 122, 3) := by decide +kernel
theorem d_L_fails_127 : decode b_L_fails 127 = .ok (.aload_n 0, 1) := by decide +kernel
theorem d_L_fails_128 : decode b_L_fails 128 = .ok (.iload 4, 2) := by decide +kernel
theorem d_L_fails_130 : decode b_L_fails 130 = .ok (.iconst 1, 1) := by decide +kernel
theorem d_L_fails_131 : decode b_L_fails 131 = .ok (.invokevirtual 34, 3) := by decide +kernel
theorem d_L_fails_134 : decode b_L_fails 134 = .ok (.iconst (-1), 1) := by decide +kernel
theorem d_L_fails_135 : decode b_L_fails 135 = .ok (.if_icmp .ne 111, 3) := by decide +kernel
theorem d_L_fails_138 : decode b_L_fails 138 = .ok (.aload_n 0, 1) := by decide +kernel
theorem d_L_fails_139 : decode b_L_fails 139 = .ok (.iconst (-1), 1) := by decide +kernel
theorem d_L_fails_140 : decode b_L_fails 140 = .ok (.iconst 1, 1) := by decide +kernel
theorem d_L_fails_141 : decode b_L_fails 141 = .ok (.invokevirtual 34, 3) := by decide +kernel
theorem d_L_fails_144 : decode b_L_fails 144 = .ok (.iconst (-1), 1) := by decide +kernel
theorem d_L_fails_145 : decode b_L_fails 145 = .ok (.if_icmp .ne 101, 3) := by decide +kernel
theorem d_L_fails_148 : decode b_L_fails 148 = .ok (.aload_n 0, 1) := by decide +kernel
theorem d_L_fails_149 : decode b_L_fails 149 = .ok (.iconst 0, 1) := by decide +kernel
theorem d_L_fails_150 : decode b_L_fails 150 = .ok (.iload 4, 2) := by decide +kernel
theorem d_L_fails_152 : decode b_L_fails 152 = .ok (.iconst 1, 1) := by decide +kernel
theorem d_L_fails_153 : decode b_L_fails 153 = .ok (.iadd, 1) := by decide +kernel
theorem d_L_fails_154 : decode b_L_fails 154 = .ok (.invokevirtual 34, 3) := by decide +kernel
theorem d_L_fails_157 : decode b_L_fails 157 = .ok (.iconst (-1), 1) := by decide +kernel
theorem d_L_fails_158 : decode b_L_fails 158 = .ok (.if_icmp .ne 88, 3) := by decide +kernel
theorem d_L_fails_161 : decode b_L_fails 161 = .ok (.aload_n 0, 1) := by decide +kernel
theorem d_L_fails_162 : decode b_L_fails 162 = .ok (.iconst 0, 1) := by decide +kernel
theorem d_L_fails_163 : decode b_L_fails 163 = .ok (.iconst 0, 1) := by decide +kernel
theorem d_L_fails_164 : decode b_L_fails 164 = .ok (.invokevirtual 34, 3) := by decide +kernel
theorem d_L_fails_167 : decode b_L_fails 167 = .ok (.iconst (-1), 1) := by decide +kernel
theorem d_L_fails_168 : decode b_L_fails 168 = .ok (.if_icmp .ne 78, 3) := by decide +kernel
theorem d_L_fails_171 : decode b_L_fails 171 = .ok (.aload_n 0, 1) := by decide +kernel
theorem d_L_fails_172 : decode b_L_fails 172 = .ok (.iload 4, 2) := by decide +kernel
theorem d_L_fails_174 : decode b_L_fails 174 = .ok (.iconst 1, 1) := by decide +kernel
theorem d_L_fails_175 : decode b_L_fails 175 = .ok (.iconst 1, 1) := by decide +kernel
theorem d_L_fails_176 : decode b_L_fails 176 = .ok (.invokevirtual 37, 3) := by decide +kernel
theorem d_L_fails_179 : decode b_L_fails 179 = .ok (.iconst (-1), 1) := by decide +kernel
theorem d_L_fails_180 : decode b_L_fails 180 = .ok (.if_icmp .ne 66, 3) := by decide +kernel
theorem d_L_fails_183 : decode b_L_fails 183 = .ok (.aload_n 0, 1) := by decide +kernel
theorem d_L_fails_184 : decode b_L_fails 184 = .ok (.iload 4, 2) := by decide +kernel
theorem d_L_fails_186 : decode b_L_fails 186 = .ok (.iconst 1, 1) := by decide +kernel
theorem d_L_fails_187 : decode b_L_fails 187 = .ok (.iconst 1, 1) := by decide +kernel
theorem d_L_fails_188 : decode b_L_fails 188 = .ok (.invokevirtual 40, 3) := by decide +kernel
theorem d_L_fails_191 : decode b_L_fails 191 = .ok (.iconst (-1), 1) := by decide +kernel
theorem d_L_fails_192 : decode b_L_fails 192 = .ok (.if_icmp .ne 54, 3) := by decide +kernel
theorem d_L_fails_195 : decode b_L_fails 195 = .ok (.aload_n 0, 1) := by decide +kernel
theorem d_L_fails_196 : decode b_L_fails 196 = .ok (.iconst 0, 1) := by decide +kernel
theorem d_L_fails_197 : decode b_L_fails 197 = .ok (.iload 4, 2) := by decide +kernel
theorem d_L_fails_199 : decode b_L_fails 199 = .ok (.iconst 1, 1) := by decide +kernel
theorem d_L_fails_200 : decode b_L_fails 200 = .ok (.iadd, 1) := by decide +kernel
theorem d_L_fails_201 : decode b_L_fails 201 = .ok (.invokevirtual 43, 3) := by decide +kernel
theorem d_L_fails_204 : decode b_L_fails 204 = .ok (.iconst (-1), 1) := by decide +kernel
theorem d_L_fails_205 : decode b_L_fails 205 = .ok (.if_icmp .ne 41, 3) := by decide +kernel
theorem d_L_fails_208 : decode b_L_fails 208 = .ok (.aload_n 0, 1) := by decide +kernel
theorem d_L_fails_209 : decode b_L_fails 209 = .ok (.iload 4, 2) := by decide +kernel
theorem d_L_fails_211 : decode b_L_fails 211 = .ok (.iconst 1, 1) := by decide +kernel
theorem d_L_fails_212 : decode b_L_fails 212 = .ok (.invokevirtual 46, 3) := by decide +kernel
theorem d_L_fails_215 : decode b_L_fails 215 = .ok (.iconst (-1), 1) := by decide +kernel
theorem d_L_fails_216 : decode b_L_fails 216 = .ok (.if_icmp .ne 30, 3) := by decide +kernel
theorem d_L_fails_219 : decode b_L_fails 219 = .ok (.aload_n 0, 1) := by decide +kernel
theorem d_L_fails_220 : decode b_L_fails 220 = .ok (.iload 4, 2) := by decide +kernel
theorem d_L_fails_222 : decode b_L_fails 222 = .ok (.iconst 1, 1) := by decide +kernel
theorem d_L_fails_223 : decode b_L_fails 223 = .ok (.invokevirtual 49, 3) := by decide +kernel
theorem d_L_fails_226 : decode b_L_fails 226 = .ok (.iconst (-1), 1) := by decide +kernel
theorem d_L_fails_227 : decode b_L_fails 227 = .ok (.if_icmp .ne 19, 3) := by decide +kernel
theorem d_L_fails_230 : decode b_L_fails 230 = .ok (.aload_n 0, 1) := by decide +kernel
theorem d_L_fails_231 : decode b_L_fails 231 = .ok (.iload 4, 2) := by decide +kernel
theorem d_L_fails_233 : decode b_L_fails 233 = .ok (.iconst 1, 1) := by decide +kernel
theorem d_L_fails_234 : decode b_L_fails 234 = .ok (.iconst 0, 1) := by decide +kernel
theorem d_L_fails_235 : decode b_L_fails 235 = .ok (.invokevirtual 52, 3) := by decide +kernel
theorem d_L_fails_238 : decode b_L_fails 238 = .ok (.iconst (-1), 1) := by decide +kernel
theorem d_L_fails_239 : decode b_L_fails 239 = .ok (.if_icmp .ne 7, 3) := by decide +kernel
theorem d_L_fails_242 : decode b_L_fails 242 = .ok (.iconst 1, 1) := by decide +kernel
theorem d_L_fails_243 : decode b_L_fails 243 = .ok (.goto 4, 3) := by decide +kernel
theorem d_L_fails_246 : decode b_L_fails 246 = .ok (.iconst 0, 1) := by decide +kernel
theorem d_L_fails_247 : decode b_L_fails 247 = .ok (.istore 5, 2) := by decide +kernel
theorem d_L_fails_249 : decode b_L_fails 249 = .ok (.iload 5, 2) := by decide +kernel
theorem d_L_fails_251 : decode b_L_fails 251 = .ok (.ifCond .eq 321, 3) := by decide +kernel
theorem d_L_fails_254 : decode b_L_fails 254 = .ok (.iload 4, 2) := by decide +kernel
theorem d_L_fails_256 : decode b_L_fails 256 = .ok (.ifCond .eq 115, 3) := by decide +kernel
theorem d_L_fails_259 : decode b_L_fails 259 = .ok (.aload_n 0, 1) := by decide +kernel
theorem d_L_fails_260 : decode b_L_fails 260 = .ok (.iconst 0, 1) := by decide +kernel
theorem d_L_fails_261 : decode b_L_fails 261 = .ok (.iconst 1, 1) := by decide +kernel
theorem d_L_fails_262 : decode b_L_fails 262 = .ok (.bipush 10, 2) := by decide +kernel
theorem d_L_fails_264 : decode b_L_fails 264 = .ok (.invokevirtual 37, 3) := by decide +kernel
theorem d_L_fails_267 : decode b_L_fails 267 = .ok (.bipush (-2), 2) := by decide +kernel
theorem d_L_fails_269 : decode b_L_fails 269 = .ok (.if_icmp .ne 303, 3) := by decide +kernel
theorem d_L_fails_272 : decode b_L_fails 272 = .ok (.aload_n 0, 1) := by decide +kernel
theorem d_L_fails_273 : decode b_L_fails 273 = .ok (.iconst 0, 1) := by decide +kernel
theorem d_L_fails_274 : decode b_L_fails 274 = .ok (.iconst 1, 1) := by decide +kernel
theorem d_L_fails_275 : decode b_L_fails 275 = .ok (.iconst (-1), 1) := by decide +kernel
theorem d_L_fails_276 : decode b_L_fails 276 = .ok (.invokevirtual 37, 3) := by decide +kernel
theorem d_L_fails_279 : decode b_L_fails 279 = .ok (.bipush (-2), 2) := by decide +kernel
theorem d_L_fails_281 : decode b_L_fails 281 = .ok (.if_icmp .ne 291, 3) := by decide +kernel
theorem d_L_fails_284 : decode b_L_fails 284 = .ok (.aload_n 0, 1) := by decide +kernel
theorem d_L_fails_285 : decode b_L_fails 285 = .ok (.iconst 0, 1) := by decide +kernel
theorem d_L_fails_286 : decode b_L_fails 286 = .ok (.iconst 1, 1) := by decide +kernel
theorem d_L_fails_287 : decode b_L_fails 287 = .ok (.iconst 0, 1) := by decide +kernel
theorem d_L_fails_288 : decode b_L_fails 288 = .ok (.invokevirtual 40, 3) := by decide +kernel
theorem d_L_fails_291 : decode b_L_fails 291 = .ok (.bipush (-2), 2) := by decide +kernel
theorem d_L_fails_293 : decode b_L_fails 293 = .ok (.if_icmp .ne 279, 3) := by decide +kernel
theorem d_L_fails_296 : decode b_L_fails 296 = .ok (.aload_n 0, 1) := by decide +kernel
theorem d_L_fails_297 : decode b_L_fails 297 = .ok (.iconst 0, 1) := by decide +kernel
theorem d_L_fails_298 : decode b_L_fails 298 = .ok (.iconst 1, 1) := by decide +kernel
theorem d_L_fails_299 : decode b_L_fails 299 = .ok (.bipush 10, 2) := by decide +kernel
theorem d_L_fails_301 : decode b_L_fails 301 = .ok (.invokevirtual 40, 3) := by decide +kernel
theorem d_L_fails_304 : decode b_L_fails 304 = .ok (.bipush (-2), 2) := by decide +kernel
theorem d_L_fails_306 : decode b_L_fails 306 = .ok (.if_icmp .ne 266, 3) := by decide +kernel
theorem d_L_fails_309 : decode b_L_fails 309 = .ok (.aload_n 0, 1) := by decide +kernel
theorem d_L_fails_310 : decode b_L_fails 310 = .ok (.iconst 0, 1) := by decide +kernel
theorem d_L_fails_311 : decode b_L_fails 311 = .ok (.iconst 1, 1) := by decide +kernel
theorem d_L_fails_312 : decode b_L_fails 312 = .ok (.iload 4, 2) := by decide +kernel
theorem d_L_fails_314 : decode b_L_fails 314 = .ok (.invokevirtual 52, 3) := by decide +kernel
theorem d_L_fails_317 : decode b_L_fails 317 = .ok (.bipush (-2), 2) := by decide +kernel
theorem d_L_fails_319 : decode b_L_fails 319 = .ok (.if_icmp .ne 253, 3) := by decide +kernel
theorem d_L_fails_322 : decode b_L_fails 322 = .ok (.aload_n 0, 1) := by decide +kernel
theorem d_L_fails_323 : decode b_L_fails 323 = .ok (.iconst 0, 1) := by decide +kernel
theorem d_L_fails_324 : decode b_L_fails 324 = .ok (.iload 4, 2) := by decide +kernel
theorem d_L_fails_326 : decode b_L_fails 326 = .ok (.iconst 1, 1) := by decide +kernel
theorem d_L_fails_327 : decode b_L_fails 327 = .ok (.invokevirtual 52, 3) := by decide +kernel
theorem d_L_fails_330 : decode b_L_fails 330 = .ok (.bipush (-2), 2) := by decide +kernel
theorem d_L_fails_332 : decode b_L_fails 332 = .ok (.if_icmp .ne 240, 3) := by decide +kernel
theorem d_L_fails_335 : decode b_L_fails 335 = .ok (.aload_n 0, 1) := by decide +kernel
theorem d_L_fails_336 : decode b_L_fails 336 = .ok (.iconst 0, 1) := by decide +kernel
theorem d_L_fails_337 : decode b_L_fails 337 = .ok (.iconst 1, 1) := by decide +kernel
theorem d_L_fails_338 : decode b_L_fails 338 = .ok (.iconst (-1), 1) := by decide +kernel
theorem d_L_fails_339 : decode b_L_fails 339 = .ok (.invokevirtual 52, 3) := by decide +kernel
theorem d_L_fails_342 : decode b_L_fails 342 = .ok (.bipush (-2), 2) := by decide +kernel
theorem d_L_fails_344 : decode b_L_fails 344 = .ok (.if_icmp .ne 228, 3) := by decide +kernel
theorem d_L_fails_347 : decode b_L_fails 347 = .ok (.aload_n 0, 1) := by decide +kernel
theorem d_L_fails_348 : decode b_L_fails 348 = .ok (.iconst 0, 1) := by decide +kernel
theorem d_L_fails_349 : decode b_L_fails 349 = .ok (.iconst 1, 1) := by decide +kernel
theorem d_L_fails_350 : decode b_L_fails 350 = .ok (.bipush 11, 2) := by decide +kernel
theorem d_L_fails_352 : decode b_L_fails 352 = .ok (.invokevirtual 55, 3) := by decide +kernel
theorem d_L_fails_355 : decode b_L_fails 355 = .ok (.bipush (-2), 2) := by decide +kernel
theorem d_L_fails_357 : decode b_L_fails 357 = .ok (.if_icmp .ne 215, 3) := by decide +kernel
theorem d_L_fails_360 : decode b_L_fails 360 = .ok (.aload_n 0, 1) := by decide +kernel
theorem d_L_fails_361 : decode b_L_fails 361 = .ok (.iconst 0, 1) := by decide +kernel
theorem d_L_fails_362 : decode b_L_fails 362 = .ok (.iconst 4, 1) := by decide +kernel
theorem d_L_fails_363 : decode b_L_fails 363 = .ok (.invokevirtual 17, 3) := by decide +kernel
theorem d_L_fails_366 : decode b_L_fails 366 = .ok (.bipush (-2), 2) := by decide +kernel
theorem d_L_fails_368 : decode b_L_fails 368 = .ok (.if_icmp .ne 204, 3) := by decide +kernel
theorem d_L_fails_371 : decode b_L_fails 371 = .ok (.aload_n 0, 1) := by decide +kernel
theorem d_L_fails_372 : decode b_L_fails 372 = .ok (.iload 4, 2) := by decide +kernel
theorem d_L_fails_374 : decode b_L_fails 374 = .ok (.invokevirtual 58, 3) := by decide +kernel
theorem d_L_fails_377 : decode b_L_fails 377 = .ok (.iconst (-1), 1) := by decide +kernel
theorem d_L_fails_378 : decode b_L_fails 378 = .ok (.if_icmp .ne 194, 3) := by decide +kernel
theorem d_L_fails_381 : decode b_L_fails 381 = .ok (.aload_n 0, 1) := by decide +kernel
theorem d_L_fails_382 : decode b_L_fails 382 = .ok (.iconst (-1), 1) := by decide +kernel
theorem d_L_fails_383 : decode b_L_fails 383 = .ok (.invokevirtual 58, 3) := by decide +kernel
theorem d_L_fails_386 : decode b_L_fails 386 = .ok (.iconst (-1), 1) := by decide +kernel
theorem d_L_fails_387 : decode b_L_fails 387 = .ok (.if_icmp .ne 185, 3) := by decide +kernel
theorem d_L_fails_390 : decode b_L_fails 390 = .ok (.aload_n 0, 1) := by decide +kernel
theorem d_L_fails_391 : decode b_L_fails 391 = .ok (.aload_n 0, 1) := by decide +kernel
theorem d_L_fails_392 : decode b_L_fails 392 = .ok (.iconst 1, 1) := by decide +kernel
theorem d_L_fails_393 : decode b_L_fails 393 = .ok (.invokevirtual 11, 3) := by decide +kernel
theorem d_L_fails_396 : decode b_L_fails 396 = .ok (.iconst 0, 1) := by decide +kernel
theorem d_L_fails_397 : decode b_L_fails 397 = .ok (.invokevirtual 17, 3) := by decide +kernel
theorem d_L_fails_400 : decode b_L_fails 400 = .ok (.iconst (-1), 1) := by decide +kernel
theorem d_L_fails_401 : decode b_L_fails 401 = .ok (.if_icmp .ne 171, 3) := by decide +kernel
theorem d_L_fails_404 : decode b_L_fails 404 = .ok (.aload_n 0, 1) := by decide +kernel
theorem d_L_fails_405 : decode b_L_fails 405 = .ok (.bipush 11, 2) := by decide +kernel
theorem d_L_fails_407 : decode b_L_fails 407 = .ok (.invokevirtual 11, 3) := by decide +kernel
theorem d_L_fails_410 : decode b_L_fails 410 = .ok (.bipush (-2), 2) := by decide +kernel
theorem d_L_fails_412 : decode b_L_fails 412 = .ok (.if_icmp .ne 160, 3) := by decide +kernel
theorem d_L_fails_415 : decode b_L_fails 415 = .ok (.aload_n 0, 1) := by decide +kernel
theorem d_L_fails_416 : decode b_L_fails 416 = .ok (.iload 4, 2) := by decide +kernel
theorem d_L_fails_418 : decode b_L_fails 418 = .ok (.iconst 1, 1) := by decide +kernel
theorem d_L_fails_419 : decode b_L_fails 419 = .ok (.iconst 1, 1) := by decide +kernel
theorem d_L_fails_420 : decode b_L_fails 420 = .ok (.invokevirtual 55, 3) := by decide +kernel
theorem d_L_fails_423 : decode b_L_fails 423 = .ok (.iconst (-1), 1) := by decide +kernel
theorem d_L_fails_424 : decode b_L_fails 424 = .ok (.if_icmp .ne 148, 3) := by decide +kernel
theorem d_L_fails_427 : decode b_L_fails 427 = .ok (.aload_n 0, 1) := by decide +kernel
theorem d_L_fails_428 : decode b_L_fails 428 = .ok (.aload_n 0, 1) := by decide +kernel
theorem d_L_fails_429 : decode b_L_fails 429 = .ok (.iconst 3, 1) := by decide +kernel
theorem d_L_fails_430 : decode b_L_fails 430 = .ok (.invokevirtual 11, 3) := by decide +kernel
theorem d_L_fails_433 : decode b_L_fails 433 = .ok (.invokevirtual 61, 3) := by decide +kernel
theorem d_L_fails_436 : decode b_L_fails 436 = .ok (.iconst (-1), 1) := by decide +kernel
theorem d_L_fails_437 : decode b_L_fails 437 = .ok (.if_icmp .ne 135, 3) := by decide +kernel
theorem d_L_fails_440 : decode b_L_fails 440 = .ok (.aload_n 0, 1) := by decide +kernel
theorem d_L_fails_441 : decode b_L_fails 441 = .ok (.iconst (-1), 1) := by decide +kernel
theorem d_L_fails_442 : decode b_L_fails 442 = .ok (.invokevirtual 61, 3) := by decide +kernel
theorem d_L_fails_445 : decode b_L_fails 445 = .ok (.iconst (-1), 1) := by decide +kernel
theorem d_L_fails_446 : decode b_L_fails 446 = .ok (.if_icmp .ne 126, 3) := by decide +kernel
theorem d_L_fails_449 : decode b_L_fails 449 = .ok (.aload_n 0, 1) := by decide +kernel
theorem d_L_fails_450 : decode b_L_fails 450 = .ok (.aload_n 0, 1) := by decide +kernel
theorem d_L_fails_451 : decode b_L_fails 451 = .ok (.iconst 4, 1) := by decide +kernel
theorem d_L_fails_452 : decode b_L_fails 452 = .ok (.invokevirtual 11, 3) := by decide +kernel
theorem d_L_fails_455 : decode b_L_fails 455 = .ok (.invokevirtual 64, 3) := by decide +kernel
theorem d_L_fails_458 : decode b_L_fails 458 = .ok (.iconst (-1), 1) := by decide +kernel
theorem d_L_fails_459 : decode b_L_fails 459 = .ok (.if_icmp .ne 113, 3) := by decide +kernel
theorem d_L_fails_462 : decode b_L_fails 462 = .ok (.aload_n 0, 1) := by decide +kernel
theorem d_L_fails_463 : decode b_L_fails 463 = .ok (.iconst 3, 1) := by decide +kernel
theorem d_L_fails_464 : decode b_L_fails 464 = .ok (.invokevirtual 67, 3) := by decide +kernel
theorem d_L_fails_467 : decode b_L_fails 467 = .ok (.bipush (-2), 2) := by decide +kernel
theorem d_L_fails_469 : decode b_L_fails 469 = .ok (.if_icmp .ne 103, 3) := by decide +kernel
theorem d_L_fails_472 : decode b_L_fails 472 = .ok (.aload_n 0, 1) := by decide +kernel
theorem d_L_fails_473 : decode b_L_fails 473 = .ok (.iconst 2, 1) := by decide +kernel
theorem d_L_fails_474 : decode b_L_fails 474 = .ok (.invokevirtual 70, 3) := by decide +kernel
theorem d_L_fails_477 : decode b_L_fails 477 = .ok (.bipush (-2), 2) := by decide +kernel
theorem d_L_fails_479 : decode b_L_fails 479 = .ok (.if_icmp .ne 93, 3) := by decide +kernel
theorem d_L_fails_482 : decode b_L_fails 482 = .ok (.aload_n 0, 1) := by decide +kernel
theorem d_L_fails_483 : decode b_L_fails 483 = .ok (.iconst (-1), 1) := by decide +kernel
theorem d_L_fails_484 : decode b_L_fails 484 = .ok (.iconst 1, 1) := by decide +kernel
theorem d_L_fails_485 : decode b_L_fails 485 = .ok (.invokevirtual 73, 3) := by decide +kernel
theorem d_L_fails_488 : decode b_L_fails 488 = .ok (.bipush (-2), 2) := by decide +kernel
theorem d_L_fails_490 : decode b_L_fails 490 = .ok (.if_icmp .ne 82, 3) := by decide +kernel
theorem d_L_fails_493 : decode b_L_fails 493 = .ok (.aload_n 0, 1) := by decide +kernel
theorem d_L_fails_494 : decode b_L_fails 494 = .ok (.iconst 0, 1) := by decide +kernel
theorem d_L_fails_495 : decode b_L_fails 495 = .ok (.iconst 0, 1) := by decide +kernel
theorem d_L_fails_496 : decode b_L_fails 496 = .ok (.invokevirtual 73, 3) := by decide +kernel
theorem d_L_fails_499 : decode b_L_fails 499 = .ok (.bipush (-2), 2) := by decide +kernel
theorem d_L_fails_501 : decode b_L_fails 501 = .ok (.if_icmp .ne 71, 3) := by decide +kernel
theorem d_L_fails_504 : decode b_L_fails 504 = .ok (.aload_n 0, 1) := by decide +kernel
theorem d_L_fails_505 : decode b_L_fails 505 = .ok (.iconst 0, 1) := by decide +kernel
theorem d_L_fails_506 : decode b_L_fails 506 = .ok (.ldc 76, 2) := by decide +kernel
theorem d_L_fails_508 : decode b_L_fails 508 = .ok (.invokevirtual 73, 3) := by decide +kernel
theorem d_L_fails_511 : decode b_L_fails 511 = .ok (.bipush (-2), 2) := by decide +kernel
theorem d_L_fails_513 : decode b_L_fails 513 = .ok (.if_icmp .ne 59, 3) := by decide +kernel
theorem d_L_fails_516 : decode b_L_fails 516 = .ok (.aload_n 0, 1) := by decide +kernel
theorem d_L_fails_517 : decode b_L_fails 517 = .ok (.iconst 3, 1) := by decide +kernel
theorem d_L_fails_518 : decode b_L_fails 518 = .ok (.invokevirtual 77, 3) := by decide +kernel
theorem d_L_fails_521 : decode b_L_fails 521 = .ok (.bipush (-2), 2) := by decide +kernel
theorem d_L_fails_523 : decode b_L_fails 523 = .ok (.if_icmp .ne 49, 3) := by decide +kernel
theorem d_L_fails_526 : decode b_L_fails 526 = .ok (.aload_n 0, 1) := by decide +kernel
theorem d_L_fails_527 : decode b_L_fails 527 = .ok (.lconst 0, 1) := by decide +kernel
theorem d_L_fails_528 : decode b_L_fails 528 = .ok (.invokevirtual 80, 3) := by decide +kernel
theorem d_L_fails_531 : decode b_L_fails 531 = .ok (.bipush (-2), 2) := by decide +kernel
theorem d_L_fails_533 : decode b_L_fails 533 = .ok (.if_icmp .ne 39, 3) := by decide +kernel
theorem d_L_fails_536 : decode b_L_fails 536 = .ok (.aload_n 0, 1) := by decide +kernel
theorem d_L_fails_537 : decode b_L_fails 537 = .ok (.ldc2_w 84, 3) := by decide +kernel
theorem d_L_fails_540 : decode b_L_fails 540 = .ok (.invokevirtual 80, 3) := by decide +kernel
theorem d_L_fails_543 : decode b_L_fails 543 = .ok (.bipush (-2), 2) := by decide +kernel
theorem d_L_fails_545 : decode b_L_fails 545 = .ok (.if_icmp .ne 27, 3) := by decide +kernel
theorem d_L_fails_548 : decode b_L_fails 548 = .ok (.aload_n 0, 1) := by decide +kernel
theorem d_L_fails_549 : decode b_L_fails 549 = .ok (.iconst 2, 1) := by decide +kernel
theorem d_L_fails_550 : decode b_L_fails 550 = .ok (.invokevirtual 86, 3) := by decide +kernel
theorem d_L_fails_553 : decode b_L_fails 553 = .ok (.bipush (-2), 2) := by decide +kernel
theorem d_L_fails_555 : decode b_L_fails 555 = .ok (.if_icmp .ne 17, 3) := by decide +kernel
theorem d_L_fails_558 : decode b_L_fails 558 = .ok (.aload_n 0, 1) := by decide +kernel
theorem d_L_fails_559 : decode b_L_fails 559 = .ok (.iconst 2, 1) := by decide +kernel
theorem d_L_fails_560 : decode b_L_fails 560 = .ok (.invokevirtual 89, 3) := by decide +kernel
theorem d_L_fails_563 : decode b_L_fails 563 = .ok (.bipush (-2), 2) := by decide +kernel
theorem d_L_fails_565 : decode b_L_fails 565 = .ok (.if_icmp .ne 7, 3) := by decide +kernel
theorem d_L_fails_568 : decode b_L_fails 568 = .ok (.iconst 1, 1) := by decide +kernel
theorem d_L_fails_569 : decode b_L_fails 569 = .ok (.goto 4, 3) := by decide +kernel
theorem d_L_fails_572 : decode b_L_fails 572 = .ok (.iconst 0, 1) := by decide +kernel
theorem d_L_fails_573 : decode b_L_fails 573 = .ok (.istore 5, 2) := by decide +kernel
theorem d_L_fails_575 : decode b_L_fails 575 = .ok (.iload 5, 2) := by decide +kernel
theorem d_L_fails_577 : decode b_L_fails 577 = .ok (.ifCond .eq 26, 3) := by decide +kernel
theorem d_L_fails_580 : decode b_L_fails 580 = .ok (.aload_n 0, 1) := by decide +kernel
theorem d_L_fails_581 : decode b_L_fails 581 = .ok (.invokestatic 21, 3) := by decide +kernel
theorem d_L_fails_584 : decode b_L_fails 584 = .ok (.lload_n 1, 1) := by decide +kernel
theorem d_L_fails_585 : decode b_L_fails 585 = .ok (.lcmp, 1) := by decide +kernel
theorem d_L_fails_586 : decode b_L_fails 586 = .ok (.ifCond .ne 17, 3) := by decide +kernel
theorem d_L_fails_589 : decode b_L_fails 589 = .ok (.aload_n 0, 1) := by decide +kernel
theorem d_L_fails_590 : decode b_L_fails 590 = .ok (.bipush 8, 2) := by decide +kernel
theorem d_L_fails_592 : decode b_L_fails 592 = .ok (.invokevirtual 11, 3) := by decide +kernel
theorem d_L_fails_595 : decode b_L_fails 595 = .ok (.iload_n 3, 1) := by decide +kernel
theorem d_L_fails_596 : decode b_L_fails 596 = .ok (.if_icmp .ne 7, 3) := by decide +kernel
theorem d_L_fails_599 : decode b_L_fails 599 = .ok (.iconst 1, 1) := by decide +kernel
theorem d_L_fails_600 : decode b_L_fails 600 = .ok (.goto 4, 3) := by decide +kernel
theorem d_L_fails_603 : decode b_L_fails 603 = .ok (.iconst 0, 1) := by decide +kernel
theorem d_L_fails_604 : decode b_L_fails 604 = .ok (.ireturn, 1) := by decide +kernel
set_option maxHeartbeats 4000000 in
set_option maxRecDepth 20000 in
theorem c_L_fails {l : Launch} {G : va_G} {tys : List (ClassId × FieldType)} {cI cO cZ : ClassId} (hT : TY tys cI cO cZ) (o : Nat) (A : AS)  : CTA l G tys cI cO cZ y_L_fails b_L_fails 6 .boolean 6 140 o [.ref o] A (fun z A' => A' = A ∧ z = 1) := by
  refine mkAZ (by decide) (Nat.le_of_ble_eq_true rfl) ?_
  rintro X rfl rfl rfl hRm C kret H ls w hl
  have hl : lv_has ls 6 [(0, .ref o)] := hl
  generalize ([] : List Loc) = locs at w ⊢
  obtain ⟨⟨lc, sd, r, sg, ln, N, v⟩, hist, rcd, slot, uf, T, m⟩ := A
  have hK := w.ok
  have hR : RwOk lc sd r sg ln N v := hK.1
  have hrcd : 0 ≤ rcd ∧ rcd ≤ 6 := hK.2.1
  have hm80 : 0 ≤ m ∧ m ≤ 80 := hK.2.2.2.2.1
  obtain ⟨hO, hr50, hN3, hlc, hsd⟩ := hR
  have hr0 := hO.1
  have hN0 := hO.n0
  have hab := allBits_rg (code := lc) hO hN3 (k := r) hr0 (by omega)
  have hcm := crf_mono hO hN3 (j := r) (k := r) hr0 (by omega) (by omega)
  have hcu : ps (crf ln) r ≤ 6 * r := (ps_bound (lo := 0) (hi := 6) r hr0 (fun j j1 j2 => by have := crf_pos hO hN3 j1 j2; omega)).2
  have hnz := hO.n_zero
  refine r_aload_n (pc := 0) C d_L_fails_0 rfl (lv_at hl 0 rfl) ?_
  refine l_callL (pc := 1) (As := [.ref o]) (rest := []) (x := mkR (lc, sd, r, sg, ln, N, v)) (fun _ _ h => h) C w (c_L_mark hT o _) ml_L_21 st_L_mark ini_L cd_L_mark hd_L_mark rfl (by rw [hRm]; exact ⟨⟨Nat.le_of_ble_eq_true rfl, Nat.le_of_ble_eq_true rfl⟩, Nat.le_of_ble_eq_true rfl, Nat.le_of_ble_eq_true rfl⟩) hl.1 rfl (Nat.le_of_ble_eq_true rfl) d_L_fails_1 (fun H locs w => ?_)
  refine r_lstore_n (pc := 4) (lv' := [(1, .long (mkR (lc, sd, r, sg, ln, N, v))), (0, .ref o)]) C d_L_fails_4 rfl hl (by decide) rfl (fun ls hl => ?_)
  refine r_aload_n (pc := 5) C d_L_fails_5 rfl (lv_at hl 1 rfl) ?_
  refine r_bipush (pc := 6) C d_L_fails_6 (by decide) ?_
  refine l_callE (pc := 8) (As := [.int (iI 8)]) (rest := []) (x := rcd) (fun _ _ h => q_count_8 h) C w (fun ws hA => c_D_count hT o _ ws hA 8 (by omega)) ml_L_11 im_D_count se_D_count cd_D_count hd_D_count rfl (by rw [hRm]; exact ⟨⟨Nat.le_of_ble_eq_true rfl, Nat.le_of_ble_eq_true rfl⟩, Nat.le_of_ble_eq_true rfl, Nat.le_of_ble_eq_true rfl⟩) hl.1 rfl (Nat.le_of_ble_eq_true rfl) d_L_fails_8 (fun H locs w => ?_)
  refine r_istore_n (pc := 11) (lv' := [(3, .int (iI rcd)), (1, .long (mkR (lc, sd, r, sg, ln, N, v))), (0, .ref o)]) C d_L_fails_11 rfl hl (by decide) rfl (fun ls hl => ?_)
  refine r_aload_n (pc := 12) C d_L_fails_12 rfl (lv_at hl 2 rfl) ?_
  refine r_iconst (pc := 13) C d_L_fails_13 ?_
  refine l_callE (pc := 14) (As := [.int (iI 0)]) (rest := []) (x := N) (fun _ _ h => q_count_0 h) C w (fun ws hA => c_D_count hT o _ ws hA 0 (by omega)) ml_L_11 im_D_count se_D_count cd_D_count hd_D_count rfl (by rw [hRm]; exact ⟨⟨Nat.le_of_ble_eq_true rfl, Nat.le_of_ble_eq_true rfl⟩, Nat.le_of_ble_eq_true rfl, Nat.le_of_ble_eq_true rfl⟩) hl.1 rfl (Nat.le_of_ble_eq_true rfl) d_L_fails_14 (fun H locs w => ?_)
  refine r_istore (pc := 17) (lv' := [(4, .int (iI N)), (3, .int (iI rcd)), (1, .long (mkR (lc, sd, r, sg, ln, N, v))), (0, .ref o)]) C d_L_fails_17 hl (by decide) rfl (fun ls hl => ?_)
  refine r_aload_n (pc := 19) C d_L_fails_19 rfl (lv_at hl 3 rfl) ?_
  refine r_iconst (pc := 20) C d_L_fails_20 ?_
  refine r_iconst (pc := 21) C d_L_fails_21 ?_
  refine l_callE (pc := 22) (As := [.int (iI 2), .int (iI 0)]) (rest := []) (x := (-2)) (fun _ _ h => q_err (x := (-2)) h (by unfold errSet; (repeat' split) <;> omega) (by omega)) C w (fun ws hA => c_D_set hT o _ ws hA 2 0 ⟨by omega, by omega⟩) ml_L_27 im_D_set se_D_set cd_D_set hd_D_set rfl (by rw [hRm]; exact ⟨⟨Nat.le_of_ble_eq_true rfl, Nat.le_of_ble_eq_true rfl⟩, Nat.le_of_ble_eq_true rfl, Nat.le_of_ble_eq_true rfl⟩) hl.1 rfl (Nat.le_of_ble_eq_true rfl) d_L_fails_22 (fun H locs w => ?_)
  refine r_bipush (pc := 25) C d_L_fails_25 (by decide) ?_
  refine r_icmp_ne (pc := 27) (tgt := 246) C (by omega) d_L_fails_27 (by decide) (fun c_27 => absurd c_27 (by omega)) (fun c_27 => ?_)
  refine r_aload_n (pc := 30) C d_L_fails_30 rfl (lv_at hl 3 rfl) ?_
  refine r_iconst (pc := 31) C d_L_fails_31 ?_
  refine r_iconst (pc := 32) C d_L_fails_32 ?_
  refine l_callE (pc := 33) (As := [.int (iI 0), .int (iI 3)]) (rest := []) (x := (-2)) (fun _ _ h => q_err (x := (-2)) h (by unfold errSet; (repeat' split) <;> omega) (by omega)) C w (fun ws hA => c_D_set hT o _ ws hA 0 3 ⟨by omega, by omega⟩) ml_L_27 im_D_set se_D_set cd_D_set hd_D_set rfl (by rw [hRm]; exact ⟨⟨Nat.le_of_ble_eq_true rfl, Nat.le_of_ble_eq_true rfl⟩, Nat.le_of_ble_eq_true rfl, Nat.le_of_ble_eq_true rfl⟩) hl.1 rfl (Nat.le_of_ble_eq_true rfl) d_L_fails_33 (fun H locs w => ?_)
  refine r_bipush (pc := 36) C d_L_fails_36 (by decide) ?_
  refine r_icmp_ne (pc := 38) (tgt := 246) C (by omega) d_L_fails_38 (by decide) (fun c_38 => absurd c_38 (by omega)) (fun c_38 => ?_)
  refine r_aload_n (pc := 41) C d_L_fails_41 rfl (lv_at hl 3 rfl) ?_
  refine r_iconst (pc := 42) C d_L_fails_42 ?_
  refine r_iconst (pc := 43) C d_L_fails_43 ?_
  refine l_callE (pc := 44) (As := [.int (iI 1), .int (iI 2)]) (rest := []) (x := (-2)) (fun _ _ h => q_err (x := (-2)) h (by unfold errSet; (repeat' split) <;> omega) (by omega)) C w (fun ws hA => c_D_set hT o _ ws hA 1 2 ⟨by omega, by omega⟩) ml_L_27 im_D_set se_D_set cd_D_set hd_D_set rfl (by rw [hRm]; exact ⟨⟨Nat.le_of_ble_eq_true rfl, Nat.le_of_ble_eq_true rfl⟩, Nat.le_of_ble_eq_true rfl, Nat.le_of_ble_eq_true rfl⟩) hl.1 rfl (Nat.le_of_ble_eq_true rfl) d_L_fails_44 (fun H locs w => ?_)
  refine r_bipush (pc := 47) C d_L_fails_47 (by decide) ?_
  refine r_icmp_ne (pc := 49) (tgt := 246) C (by omega) d_L_fails_49 (by decide) (fun c_49 => absurd c_49 (by omega)) (fun c_49 => ?_)
  refine r_aload_n (pc := 52) C d_L_fails_52 rfl (lv_at hl 3 rfl) ?_
  refine r_iconst (pc := 53) C d_L_fails_53 ?_
  refine r_iconst (pc := 54) C d_L_fails_54 ?_
  refine l_callE (pc := 55) (As := [.int (iI 0), .int (iI (-1))]) (rest := []) (x := (-2)) (fun _ _ h => q_err (x := (-2)) h (by unfold errSet; (repeat' split) <;> omega) (by omega)) C w (fun ws hA => c_D_set hT o _ ws hA 0 (-1) ⟨by omega, by omega⟩) ml_L_27 im_D_set se_D_set cd_D_set hd_D_set rfl (by rw [hRm]; exact ⟨⟨Nat.le_of_ble_eq_true rfl, Nat.le_of_ble_eq_true rfl⟩, Nat.le_of_ble_eq_true rfl, Nat.le_of_ble_eq_true rfl⟩) hl.1 rfl (Nat.le_of_ble_eq_true rfl) d_L_fails_55 (fun H locs w => ?_)
  refine r_bipush (pc := 58) C d_L_fails_58 (by decide) ?_
  refine r_icmp_ne (pc := 60) (tgt := 246) C (by omega) d_L_fails_60 (by decide) (fun c_60 => absurd c_60 (by omega)) (fun c_60 => ?_)
  refine r_aload_n (pc := 63) C d_L_fails_63 rfl (lv_at hl 3 rfl) ?_
  refine r_iconst (pc := 64) C d_L_fails_64 ?_
  refine r_iconst (pc := 65) C d_L_fails_65 ?_
  refine r_iconst (pc := 66) C d_L_fails_66 ?_
  refine l_callE (pc := 67) (As := [.int (iI (-1)), .int (iI 1), .int (iI 1)]) (rest := []) (x := (-1)) (fun _ _ h => q_err (x := (-1)) h (by unfold errIns; (repeat' split) <;> omega) (by omega)) C w (fun ws hA => c_D_insert hT o _ ws hA (-1) 1 1 ⟨by omega, by omega, by omega⟩) ml_L_30 im_D_insert se_D_insert cd_D_insert hd_D_insert rfl (by rw [hRm]; exact ⟨⟨Nat.le_of_ble_eq_true rfl, Nat.le_of_ble_eq_true rfl⟩, Nat.le_of_ble_eq_true rfl, Nat.le_of_ble_eq_true rfl⟩) hl.1 rfl (Nat.le_of_ble_eq_true rfl) d_L_fails_67 (fun H locs w => ?_)
  refine r_iconst (pc := 70) C d_L_fails_70 ?_
  refine r_icmp_ne (pc := 71) (tgt := 246) C (by omega) d_L_fails_71 (by decide) (fun c_71 => absurd c_71 (by omega)) (fun c_71 => ?_)
  refine r_aload_n (pc := 74) C d_L_fails_74 rfl (lv_at hl 3 rfl) ?_
  refine r_iload (pc := 75) C d_L_fails_75 (lv_at hl 0 rfl) ?_
  refine r_iconst (pc := 77) C d_L_fails_77 ?_
  refine r_iadd (pc := 78) C d_L_fails_78 ?_
  refine r_iconst (pc := 79) C d_L_fails_79 ?_
  refine r_iconst (pc := 80) C d_L_fails_80 ?_
  refine l_callE (pc := 81) (As := [.int (iI (N + 1)), .int (iI 1), .int (iI 1)]) (rest := []) (x := (-1)) (fun _ _ h => q_err (x := (-1)) h (by unfold errIns; (repeat' split) <;> omega) (by omega)) C w (fun ws hA => c_D_insert hT o _ ws hA (N + 1) 1 1 ⟨by omega, by omega, by omega⟩) ml_L_30 im_D_insert se_D_insert cd_D_insert hd_D_insert rfl (by rw [hRm]; exact ⟨⟨Nat.le_of_ble_eq_true rfl, Nat.le_of_ble_eq_true rfl⟩, Nat.le_of_ble_eq_true rfl, Nat.le_of_ble_eq_true rfl⟩) hl.1 rfl (Nat.le_of_ble_eq_true rfl) d_L_fails_81 (fun H locs w => ?_)
  refine r_iconst (pc := 84) C d_L_fails_84 ?_
  refine r_icmp_ne (pc := 85) (tgt := 246) C (by omega) d_L_fails_85 (by decide) (fun c_85 => absurd c_85 (by omega)) (fun c_85 => ?_)
  refine r_aload_n (pc := 88) C d_L_fails_88 rfl (lv_at hl 3 rfl) ?_
  refine r_iconst (pc := 89) C d_L_fails_89 ?_
  refine r_bipush (pc := 90) C d_L_fails_90 (by decide) ?_
  refine r_iconst (pc := 92) C d_L_fails_92 ?_
  refine l_callE (pc := 93) (As := [.int (iI 0), .int (iI 11), .int (iI 1)]) (rest := []) (x := (-2)) (fun _ _ h => q_err (x := (-2)) h (by unfold errIns; (repeat' split) <;> omega) (by omega)) C w (fun ws hA => c_D_insert hT o _ ws hA 0 11 1 ⟨by omega, by omega, by omega⟩) ml_L_30 im_D_insert se_D_insert cd_D_insert hd_D_insert rfl (by rw [hRm]; exact ⟨⟨Nat.le_of_ble_eq_true rfl, Nat.le_of_ble_eq_true rfl⟩, Nat.le_of_ble_eq_true rfl, Nat.le_of_ble_eq_true rfl⟩) hl.1 rfl (Nat.le_of_ble_eq_true rfl) d_L_fails_93 (fun H locs w => ?_)
  refine r_bipush (pc := 96) C d_L_fails_96 (by decide) ?_
  refine r_icmp_ne (pc := 98) (tgt := 246) C (by omega) d_L_fails_98 (by decide) (fun c_98 => absurd c_98 (by omega)) (fun c_98 => ?_)
  refine r_aload_n (pc := 101) C d_L_fails_101 rfl (lv_at hl 3 rfl) ?_
  refine r_iconst (pc := 102) C d_L_fails_102 ?_
  refine r_iconst (pc := 103) C d_L_fails_103 ?_
  refine r_iconst (pc := 104) C d_L_fails_104 ?_
  refine l_callE (pc := 105) (As := [.int (iI 0), .int (iI 1), .int (iI 0)]) (rest := []) (x := (-2)) (fun _ _ h => q_err (x := (-2)) h (by unfold errIns; (repeat' split) <;> omega) (by omega)) C w (fun ws hA => c_D_insert hT o _ ws hA 0 1 0 ⟨by omega, by omega, by omega⟩) ml_L_30 im_D_insert se_D_insert cd_D_insert hd_D_insert rfl (by rw [hRm]; exact ⟨⟨Nat.le_of_ble_eq_true rfl, Nat.le_of_ble_eq_true rfl⟩, Nat.le_of_ble_eq_true rfl, Nat.le_of_ble_eq_true rfl⟩) hl.1 rfl (Nat.le_of_ble_eq_true rfl) d_L_fails_105 (fun H locs w => ?_)
  refine r_bipush (pc := 108) C d_L_fails_108 (by decide) ?_
  refine r_icmp_ne (pc := 110) (tgt := 246) C (by omega) d_L_fails_110 (by decide) (fun c_110 => absurd c_110 (by omega)) (fun c_110 => ?_)
  refine r_aload_n (pc := 113) C d_L_fails_113 rfl (lv_at hl 3 rfl) ?_
  refine r_iconst (pc := 114) C d_L_fails_114 ?_
  refine r_iconst (pc := 115) C d_L_fails_115 ?_
  refine r_sipush (pc := 116) C d_L_fails_116 (by decide) ?_
  refine l_callE (pc := 119) (As := [.int (iI 0), .int (iI 1), .int (iI 3001)]) (rest := []) (x := (-2)) (fun _ _ h => q_err (x := (-2)) h (by unfold errIns; (repeat' split) <;> omega) (by omega)) C w (fun ws hA => c_D_insert hT o _ ws hA 0 1 3001 ⟨by omega, by omega, by omega⟩) ml_L_30 im_D_insert se_D_insert cd_D_insert hd_D_insert rfl (by rw [hRm]; exact ⟨⟨Nat.le_of_ble_eq_true rfl, Nat.le_of_ble_eq_true rfl⟩, Nat.le_of_ble_eq_true rfl, Nat.le_of_ble_eq_true rfl⟩) hl.1 rfl (Nat.le_of_ble_eq_true rfl) d_L_fails_119 (fun H locs w => ?_)
  refine r_bipush (pc := 122) C d_L_fails_122 (by decide) ?_
  refine r_icmp_ne (pc := 124) (tgt := 246) C (by omega) d_L_fails_124 (by decide) (fun c_124 => absurd c_124 (by omega)) (fun c_124 => ?_)
  refine r_aload_n (pc := 127) C d_L_fails_127 rfl (lv_at hl 3 rfl) ?_
  refine r_iload (pc := 128) C d_L_fails_128 (lv_at hl 0 rfl) ?_
  refine r_iconst (pc := 130) C d_L_fails_130 ?_
  refine l_callE (pc := 131) (As := [.int (iI N), .int (iI 1)]) (rest := []) (x := (-1)) (fun _ _ h => q_err (x := (-1)) h (by unfold errEr; (repeat' split) <;> omega) (by omega)) C w (fun ws hA => c_D_erase hT o _ ws hA N 1 ⟨by omega, by omega⟩) ml_L_34 im_D_erase se_D_erase cd_D_erase hd_D_erase rfl (by rw [hRm]; exact ⟨⟨Nat.le_of_ble_eq_true rfl, Nat.le_of_ble_eq_true rfl⟩, Nat.le_of_ble_eq_true rfl, Nat.le_of_ble_eq_true rfl⟩) hl.1 rfl (Nat.le_of_ble_eq_true rfl) d_L_fails_131 (fun H locs w => ?_)
  refine r_iconst (pc := 134) C d_L_fails_134 ?_
  refine r_icmp_ne (pc := 135) (tgt := 246) C (by omega) d_L_fails_135 (by decide) (fun c_135 => absurd c_135 (by omega)) (fun c_135 => ?_)
  refine r_aload_n (pc := 138) C d_L_fails_138 rfl (lv_at hl 3 rfl) ?_
  refine r_iconst (pc := 139) C d_L_fails_139 ?_
  refine r_iconst (pc := 140) C d_L_fails_140 ?_
  refine l_callE (pc := 141) (As := [.int (iI (-1)), .int (iI 1)]) (rest := []) (x := (-1)) (fun _ _ h => q_err (x := (-1)) h (by unfold errEr; (repeat' split) <;> omega) (by omega)) C w (fun ws hA => c_D_erase hT o _ ws hA (-1) 1 ⟨by omega, by omega⟩) ml_L_34 im_D_erase se_D_erase cd_D_erase hd_D_erase rfl (by rw [hRm]; exact ⟨⟨Nat.le_of_ble_eq_true rfl, Nat.le_of_ble_eq_true rfl⟩, Nat.le_of_ble_eq_true rfl, Nat.le_of_ble_eq_true rfl⟩) hl.1 rfl (Nat.le_of_ble_eq_true rfl) d_L_fails_141 (fun H locs w => ?_)
  refine r_iconst (pc := 144) C d_L_fails_144 ?_
  refine r_icmp_ne (pc := 145) (tgt := 246) C (by omega) d_L_fails_145 (by decide) (fun c_145 => absurd c_145 (by omega)) (fun c_145 => ?_)
  refine r_aload_n (pc := 148) C d_L_fails_148 rfl (lv_at hl 3 rfl) ?_
  refine r_iconst (pc := 149) C d_L_fails_149 ?_
  refine r_iload (pc := 150) C d_L_fails_150 (lv_at hl 0 rfl) ?_
  refine r_iconst (pc := 152) C d_L_fails_152 ?_
  refine r_iadd (pc := 153) C d_L_fails_153 ?_
  refine l_callE (pc := 154) (As := [.int (iI 0), .int (iI (N + 1))]) (rest := []) (x := (-1)) (fun _ _ h => q_err (x := (-1)) h (by unfold errEr; (repeat' split) <;> omega) (by omega)) C w (fun ws hA => c_D_erase hT o _ ws hA 0 (N + 1) ⟨by omega, by omega⟩) ml_L_34 im_D_erase se_D_erase cd_D_erase hd_D_erase rfl (by rw [hRm]; exact ⟨⟨Nat.le_of_ble_eq_true rfl, Nat.le_of_ble_eq_true rfl⟩, Nat.le_of_ble_eq_true rfl, Nat.le_of_ble_eq_true rfl⟩) hl.1 rfl (Nat.le_of_ble_eq_true rfl) d_L_fails_154 (fun H locs w => ?_)
  refine r_iconst (pc := 157) C d_L_fails_157 ?_
  refine r_icmp_ne (pc := 158) (tgt := 246) C (by omega) d_L_fails_158 (by decide) (fun c_158 => absurd c_158 (by omega)) (fun c_158 => ?_)
  refine r_aload_n (pc := 161) C d_L_fails_161 rfl (lv_at hl 3 rfl) ?_
  refine r_iconst (pc := 162) C d_L_fails_162 ?_
  refine r_iconst (pc := 163) C d_L_fails_163 ?_
  refine l_callE (pc := 164) (As := [.int (iI 0), .int (iI 0)]) (rest := []) (x := (-1)) (fun _ _ h => q_err (x := (-1)) h (by unfold errEr; (repeat' split) <;> omega) (by omega)) C w (fun ws hA => c_D_erase hT o _ ws hA 0 0 ⟨by omega, by omega⟩) ml_L_34 im_D_erase se_D_erase cd_D_erase hd_D_erase rfl (by rw [hRm]; exact ⟨⟨Nat.le_of_ble_eq_true rfl, Nat.le_of_ble_eq_true rfl⟩, Nat.le_of_ble_eq_true rfl, Nat.le_of_ble_eq_true rfl⟩) hl.1 rfl (Nat.le_of_ble_eq_true rfl) d_L_fails_164 (fun H locs w => ?_)
  refine r_iconst (pc := 167) C d_L_fails_167 ?_
  refine r_icmp_ne (pc := 168) (tgt := 246) C (by omega) d_L_fails_168 (by decide) (fun c_168 => absurd c_168 (by omega)) (fun c_168 => ?_)
  refine r_aload_n (pc := 171) C d_L_fails_171 rfl (lv_at hl 3 rfl) ?_
  refine r_iload (pc := 172) C d_L_fails_172 (lv_at hl 0 rfl) ?_
  refine r_iconst (pc := 174) C d_L_fails_174 ?_
  refine r_iconst (pc := 175) C d_L_fails_175 ?_
  refine l_callE (pc := 176) (As := [.int (iI N), .int (iI 1), .int (iI 1)]) (rest := []) (x := (-1)) (fun _ _ h => q_err (x := (-1)) h (by unfold errWr; (repeat' split) <;> omega) (by omega)) C w (fun ws hA => c_D_write hT o _ ws hA N 1 1 ⟨by omega, by omega, by omega⟩) ml_L_37 im_D_write se_D_write cd_D_write hd_D_write rfl (by rw [hRm]; exact ⟨⟨Nat.le_of_ble_eq_true rfl, Nat.le_of_ble_eq_true rfl⟩, Nat.le_of_ble_eq_true rfl, Nat.le_of_ble_eq_true rfl⟩) hl.1 rfl (Nat.le_of_ble_eq_true rfl) d_L_fails_176 (fun H locs w => ?_)
  refine r_iconst (pc := 179) C d_L_fails_179 ?_
  refine r_icmp_ne (pc := 180) (tgt := 246) C (by omega) d_L_fails_180 (by decide) (fun c_180 => absurd c_180 (by omega)) (fun c_180 => ?_)
  refine r_aload_n (pc := 183) C d_L_fails_183 rfl (lv_at hl 3 rfl) ?_
  refine r_iload (pc := 184) C d_L_fails_184 (lv_at hl 0 rfl) ?_
  refine r_iconst (pc := 186) C d_L_fails_186 ?_
  refine r_iconst (pc := 187) C d_L_fails_187 ?_
  refine l_callE (pc := 188) (As := [.int (iI N), .int (iI 1), .int (iI 1)]) (rest := []) (x := (-1)) (fun _ _ h => q_err (x := (-1)) h (by unfold errWr; (repeat' split) <;> omega) (by omega)) C w (fun ws hA => c_D_add hT o _ ws hA N 1 1 ⟨by omega, by omega, by omega⟩) ml_L_40 im_D_add se_D_add cd_D_add hd_D_add rfl (by rw [hRm]; exact ⟨⟨Nat.le_of_ble_eq_true rfl, Nat.le_of_ble_eq_true rfl⟩, Nat.le_of_ble_eq_true rfl, Nat.le_of_ble_eq_true rfl⟩) hl.1 rfl (Nat.le_of_ble_eq_true rfl) d_L_fails_188 (fun H locs w => ?_)
  refine r_iconst (pc := 191) C d_L_fails_191 ?_
  refine r_icmp_ne (pc := 192) (tgt := 246) C (by omega) d_L_fails_192 (by decide) (fun c_192 => absurd c_192 (by omega)) (fun c_192 => ?_)
  refine r_aload_n (pc := 195) C d_L_fails_195 rfl (lv_at hl 3 rfl) ?_
  refine r_iconst (pc := 196) C d_L_fails_196 ?_
  refine r_iload (pc := 197) C d_L_fails_197 (lv_at hl 0 rfl) ?_
  refine r_iconst (pc := 199) C d_L_fails_199 ?_
  refine r_iadd (pc := 200) C d_L_fails_200 ?_
  refine l_callE (pc := 201) (As := [.int (iI 0), .int (iI (N + 1))]) (rest := []) (x := (-1)) (fun _ _ h => q_err (x := (-1)) h (by unfold pieceE; (repeat' split) <;> omega) (by omega)) C w (fun ws hA => c_D_kill hT o _ ws hA 0 (N + 1) ⟨by omega, by omega⟩) ml_L_43 im_D_kill se_D_kill cd_D_kill hd_D_kill rfl (by rw [hRm]; exact ⟨⟨Nat.le_of_ble_eq_true rfl, Nat.le_of_ble_eq_true rfl⟩, Nat.le_of_ble_eq_true rfl, Nat.le_of_ble_eq_true rfl⟩) hl.1 rfl (Nat.le_of_ble_eq_true rfl) d_L_fails_201 (fun H locs w => ?_)
  refine r_iconst (pc := 204) C d_L_fails_204 ?_
  refine r_icmp_ne (pc := 205) (tgt := 246) C (by omega) d_L_fails_205 (by decide) (fun c_205 => absurd c_205 (by omega)) (fun c_205 => ?_)
  refine r_aload_n (pc := 208) C d_L_fails_208 rfl (lv_at hl 3 rfl) ?_
  refine r_iload (pc := 209) C d_L_fails_209 (lv_at hl 0 rfl) ?_
  refine r_iconst (pc := 211) C d_L_fails_211 ?_
  refine l_callE (pc := 212) (As := [.int (iI N), .int (iI 1)]) (rest := []) (x := (-1)) (fun _ _ h => q_err (x := (-1)) h (by unfold pieceE; (repeat' split) <;> omega) (by omega)) C w (fun ws hA => c_D_revive hT o _ ws hA N 1 ⟨by omega, by omega⟩) ml_L_46 im_D_revive se_D_revive cd_D_revive hd_D_revive rfl (by rw [hRm]; exact ⟨⟨Nat.le_of_ble_eq_true rfl, Nat.le_of_ble_eq_true rfl⟩, Nat.le_of_ble_eq_true rfl, Nat.le_of_ble_eq_true rfl⟩) hl.1 rfl (Nat.le_of_ble_eq_true rfl) d_L_fails_212 (fun H locs w => ?_)
  refine r_iconst (pc := 215) C d_L_fails_215 ?_
  refine r_icmp_ne (pc := 216) (tgt := 246) C (by omega) d_L_fails_216 (by decide) (fun c_216 => absurd c_216 (by omega)) (fun c_216 => ?_)
  refine r_aload_n (pc := 219) C d_L_fails_219 rfl (lv_at hl 3 rfl) ?_
  refine r_iload (pc := 220) C d_L_fails_220 (lv_at hl 0 rfl) ?_
  refine r_iconst (pc := 222) C d_L_fails_222 ?_
  refine l_callE (pc := 223) (As := [.int (iI N), .int (iI 1)]) (rest := []) (x := (-1)) (fun _ _ h => q_err (x := (-1)) h (by unfold pieceE; (repeat' split) <;> omega) (by omega)) C w (fun ws hA => c_D_turn hT o _ ws hA N 1 ⟨by omega, by omega⟩) ml_L_49 im_D_turn se_D_turn cd_D_turn hd_D_turn rfl (by rw [hRm]; exact ⟨⟨Nat.le_of_ble_eq_true rfl, Nat.le_of_ble_eq_true rfl⟩, Nat.le_of_ble_eq_true rfl, Nat.le_of_ble_eq_true rfl⟩) hl.1 rfl (Nat.le_of_ble_eq_true rfl) d_L_fails_223 (fun H locs w => ?_)
  refine r_iconst (pc := 226) C d_L_fails_226 ?_
  refine r_icmp_ne (pc := 227) (tgt := 246) C (by omega) d_L_fails_227 (by decide) (fun c_227 => absurd c_227 (by omega)) (fun c_227 => ?_)
  refine r_aload_n (pc := 230) C d_L_fails_230 rfl (lv_at hl 3 rfl) ?_
  refine r_iload (pc := 231) C d_L_fails_231 (lv_at hl 0 rfl) ?_
  refine r_iconst (pc := 233) C d_L_fails_233 ?_
  refine r_iconst (pc := 234) C d_L_fails_234 ?_
  refine l_callE (pc := 235) (As := [.int (iI N), .int (iI 1), .int (iI 0)]) (rest := []) (x := (-1)) (fun _ _ h => q_err (x := (-1)) h (by unfold errMv; (repeat' split) <;> omega) (by omega)) C w (fun ws hA => c_D_move hT o _ ws hA N 1 0 ⟨by omega, by omega, by omega⟩) ml_L_52 im_D_move se_D_move cd_D_move hd_D_move rfl (by rw [hRm]; exact ⟨⟨Nat.le_of_ble_eq_true rfl, Nat.le_of_ble_eq_true rfl⟩, Nat.le_of_ble_eq_true rfl, Nat.le_of_ble_eq_true rfl⟩) hl.1 rfl (Nat.le_of_ble_eq_true rfl) d_L_fails_235 (fun H locs w => ?_)
  refine r_iconst (pc := 238) C d_L_fails_238 ?_
  refine r_icmp_ne (pc := 239) (tgt := 246) C (by omega) d_L_fails_239 (by decide) (fun c_239 => absurd c_239 (by omega)) (fun c_239 => ?_)
  refine r_iconst (pc := 242) C d_L_fails_242 ?_
  refine r_goto (pc := 243) (tgt := 247) C d_L_fails_243 (by decide) ?_
  refine r_istore (pc := 247) (lv' := [(5, .int (iI 1)), (4, .int (iI N)), (3, .int (iI rcd)), (1, .long (mkR (lc, sd, r, sg, ln, N, v))), (0, .ref o)]) C d_L_fails_247 hl (by decide) rfl (fun ls hl => ?_)
  refine r_iload (pc := 249) C d_L_fails_249 (lv_at hl 0 rfl) ?_
  refine r_if_eq (pc := 251) (tgt := 572) C (by omega) d_L_fails_251 (by decide) (fun c_251 => absurd c_251 (by omega)) (fun c_251 => ?_)
  have J371 : ∀ (H : Heap) (locs : List Loc) (ls : Array Slot), LW X cI cO cZ o ((lc, sd, r, sg, ln, N, v), hist, rcd, slot, uf, T, m) H locs → lv_has ls 6 [(0, .ref o), (1, .long (mkR (lc, sd, r, sg, ln, N, v))), (3, .int (iI rcd)), (4, .int (iI N)), (5, .int (iI 1))] → GG X 0 0 H locs 371 ls [] := by
    intro   H locs ls w hl
    refine r_aload_n (pc := 371) C d_L_fails_371 rfl (lv_at hl 0 rfl) ?_
    refine r_iload (pc := 372) C d_L_fails_372 (lv_at hl 3 rfl) ?_
    refine l_callE (pc := 374) (As := [.int (iI N)]) (rest := []) (x := (-1)) (fun _ _ h => q_sign_X (by omega) h) C w (fun ws hA => c_D_sign hT o _ ws hA N (by omega)) ml_L_58 im_D_sign se_D_sign cd_D_sign hd_D_sign rfl (by rw [hRm]; exact ⟨⟨Nat.le_of_ble_eq_true rfl, Nat.le_of_ble_eq_true rfl⟩, Nat.le_of_ble_eq_true rfl, Nat.le_of_ble_eq_true rfl⟩) hl.1 rfl (Nat.le_of_ble_eq_true rfl) d_L_fails_374 (fun H locs w => ?_)
    refine r_iconst (pc := 377) C d_L_fails_377 ?_
    refine r_icmp_ne (pc := 378) (tgt := 572) C (by omega) d_L_fails_378 (by decide) (fun c_378 => absurd c_378 (by omega)) (fun c_378 => ?_)
    refine r_aload_n (pc := 381) C d_L_fails_381 rfl (lv_at hl 0 rfl) ?_
    refine r_iconst (pc := 382) C d_L_fails_382 ?_
    refine l_callE (pc := 383) (As := [.int (iI (-1))]) (rest := []) (x := (-1)) (fun _ _ h => q_sign_X (by omega) h) C w (fun ws hA => c_D_sign hT o _ ws hA (-1) (by omega)) ml_L_58 im_D_sign se_D_sign cd_D_sign hd_D_sign rfl (by rw [hRm]; exact ⟨⟨Nat.le_of_ble_eq_true rfl, Nat.le_of_ble_eq_true rfl⟩, Nat.le_of_ble_eq_true rfl, Nat.le_of_ble_eq_true rfl⟩) hl.1 rfl (Nat.le_of_ble_eq_true rfl) d_L_fails_383 (fun H locs w => ?_)
    refine r_iconst (pc := 386) C d_L_fails_386 ?_
    refine r_icmp_ne (pc := 387) (tgt := 572) C (by omega) d_L_fails_387 (by decide) (fun c_387 => absurd c_387 (by omega)) (fun c_387 => ?_)
    refine r_aload_n (pc := 390) C d_L_fails_390 rfl (lv_at hl 0 rfl) ?_
    refine r_aload_n (pc := 391) C d_L_fails_391 rfl (lv_at hl 0 rfl) ?_
    refine r_iconst (pc := 392) C d_L_fails_392 ?_
    refine l_callE (pc := 393) (As := [.int (iI 1)]) (rest := [.ref o]) (x := r) (fun _ _ h => q_count_1 h) C w (fun ws hA => c_D_count hT o _ ws hA 1 (by omega)) ml_L_11 im_D_count se_D_count cd_D_count hd_D_count rfl (by rw [hRm]; exact ⟨⟨Nat.le_of_ble_eq_true rfl, Nat.le_of_ble_eq_true rfl⟩, Nat.le_of_ble_eq_true rfl, Nat.le_of_ble_eq_true rfl⟩) hl.1 rfl (Nat.le_of_ble_eq_true rfl) d_L_fails_393 (fun H locs w => ?_)
    refine r_iconst (pc := 396) C d_L_fails_396 ?_
    refine l_callE (pc := 397) (As := [.int (iI r), .int (iI 0)]) (rest := []) (x := (-1)) (fun _ _ h => q_ofRun_X (by omega) h) C w (fun ws hA => c_D_ofRun hT o _ ws hA r 0 ⟨by omega, by omega⟩) ml_L_17 im_D_ofRun se_D_ofRun cd_D_ofRun hd_D_ofRun rfl (by rw [hRm]; exact ⟨⟨Nat.le_of_ble_eq_true rfl, Nat.le_of_ble_eq_true rfl⟩, Nat.le_of_ble_eq_true rfl, Nat.le_of_ble_eq_true rfl⟩) hl.1 rfl (Nat.le_of_ble_eq_true rfl) d_L_fails_397 (fun H locs w => ?_)
    refine r_iconst (pc := 400) C d_L_fails_400 ?_
    refine r_icmp_ne (pc := 401) (tgt := 572) C (by omega) d_L_fails_401 (by decide) (fun c_401 => absurd c_401 (by omega)) (fun c_401 => ?_)
    refine r_aload_n (pc := 404) C d_L_fails_404 rfl (lv_at hl 0 rfl) ?_
    refine r_bipush (pc := 405) C d_L_fails_405 (by decide) ?_
    refine l_callE (pc := 407) (As := [.int (iI 11)]) (rest := []) (x := (-2)) (fun _ _ h => q_count_11 h) C w (fun ws hA => c_D_count hT o _ ws hA 11 (by omega)) ml_L_11 im_D_count se_D_count cd_D_count hd_D_count rfl (by rw [hRm]; exact ⟨⟨Nat.le_of_ble_eq_true rfl, Nat.le_of_ble_eq_true rfl⟩, Nat.le_of_ble_eq_true rfl, Nat.le_of_ble_eq_true rfl⟩) hl.1 rfl (Nat.le_of_ble_eq_true rfl) d_L_fails_407 (fun H locs w => ?_)
    refine r_bipush (pc := 410) C d_L_fails_410 (by decide) ?_
    refine r_icmp_ne (pc := 412) (tgt := 572) C (by omega) d_L_fails_412 (by decide) (fun c_412 => absurd c_412 (by omega)) (fun c_412 => ?_)
    refine r_aload_n (pc := 415) C d_L_fails_415 rfl (lv_at hl 0 rfl) ?_
    refine r_iload (pc := 416) C d_L_fails_416 (lv_at hl 3 rfl) ?_
    refine r_iconst (pc := 418) C d_L_fails_418 ?_
    refine r_iconst (pc := 419) C d_L_fails_419 ?_
    refine l_callE (pc := 420) (As := [.int (iI N), .int (iI 1), .int (iI 1)]) (rest := []) (x := (-1)) (fun _ _ h => q_howMany_X (by omega) h) C w (fun ws hA => c_D_howMany hT o _ ws hA N 1 1 ⟨by omega, by omega, by omega⟩) ml_L_55 im_D_howMany se_D_howMany cd_D_howMany hd_D_howMany rfl (by rw [hRm]; exact ⟨⟨Nat.le_of_ble_eq_true rfl, Nat.le_of_ble_eq_true rfl⟩, Nat.le_of_ble_eq_true rfl, Nat.le_of_ble_eq_true rfl⟩) hl.1 rfl (Nat.le_of_ble_eq_true rfl) d_L_fails_420 (fun H locs w => ?_)
    refine r_iconst (pc := 423) C d_L_fails_423 ?_
    refine r_icmp_ne (pc := 424) (tgt := 572) C (by omega) d_L_fails_424 (by decide) (fun c_424 => absurd c_424 (by omega)) (fun c_424 => ?_)
    refine r_aload_n (pc := 427) C d_L_fails_427 rfl (lv_at hl 0 rfl) ?_
    refine r_aload_n (pc := 428) C d_L_fails_428 rfl (lv_at hl 0 rfl) ?_
    refine r_iconst (pc := 429) C d_L_fails_429 ?_
    refine l_callE (pc := 430) (As := [.int (iI 3)]) (rest := [.ref o]) (x := (ps (rbf lc sg ln) r)) (fun _ _ h => q_count_3 h) C w (fun ws hA => c_D_count hT o _ ws hA 3 (by omega)) ml_L_11 im_D_count se_D_count cd_D_count hd_D_count rfl (by rw [hRm]; exact ⟨⟨Nat.le_of_ble_eq_true rfl, Nat.le_of_ble_eq_true rfl⟩, Nat.le_of_ble_eq_true rfl, Nat.le_of_ble_eq_true rfl⟩) hl.1 rfl (Nat.le_of_ble_eq_true rfl) d_L_fails_430 (fun H locs w => ?_)
    refine l_callE (pc := 433) (As := [.int (iI (ps (rbf lc sg ln) r))]) (rest := []) (x := (-1)) (fun _ _ h => q_bit_X hO (by omega) h) C w (fun ws hA => c_D_bit hT o _ ws hA (ps (rbf lc sg ln) r) (by omega)) ml_L_61 im_D_bit se_D_bit cd_D_bit hd_D_bit rfl (by rw [hRm]; exact ⟨⟨Nat.le_of_ble_eq_true rfl, Nat.le_of_ble_eq_true rfl⟩, Nat.le_of_ble_eq_true rfl, Nat.le_of_ble_eq_true rfl⟩) hl.1 rfl (Nat.le_of_ble_eq_true rfl) d_L_fails_433 (fun H locs w => ?_)
    refine r_iconst (pc := 436) C d_L_fails_436 ?_
    refine r_icmp_ne (pc := 437) (tgt := 572) C (by omega) d_L_fails_437 (by decide) (fun c_437 => absurd c_437 (by omega)) (fun c_437 => ?_)
    refine r_aload_n (pc := 440) C d_L_fails_440 rfl (lv_at hl 0 rfl) ?_
    refine r_iconst (pc := 441) C d_L_fails_441 ?_
    refine l_callE (pc := 442) (As := [.int (iI (-1))]) (rest := []) (x := (-1)) (fun _ _ h => q_bit_X hO (by omega) h) C w (fun ws hA => c_D_bit hT o _ ws hA (-1) (by omega)) ml_L_61 im_D_bit se_D_bit cd_D_bit hd_D_bit rfl (by rw [hRm]; exact ⟨⟨Nat.le_of_ble_eq_true rfl, Nat.le_of_ble_eq_true rfl⟩, Nat.le_of_ble_eq_true rfl, Nat.le_of_ble_eq_true rfl⟩) hl.1 rfl (Nat.le_of_ble_eq_true rfl) d_L_fails_442 (fun H locs w => ?_)
    refine r_iconst (pc := 445) C d_L_fails_445 ?_
    refine r_icmp_ne (pc := 446) (tgt := 572) C (by omega) d_L_fails_446 (by decide) (fun c_446 => absurd c_446 (by omega)) (fun c_446 => ?_)
    refine r_aload_n (pc := 449) C d_L_fails_449 rfl (lv_at hl 0 rfl) ?_
    refine r_aload_n (pc := 450) C d_L_fails_450 rfl (lv_at hl 0 rfl) ?_
    refine r_iconst (pc := 451) C d_L_fails_451 ?_
    refine l_callE (pc := 452) (As := [.int (iI 4)]) (rest := [.ref o]) (x := (max 0 (r - 1) + ps (crf ln) r)) (fun _ _ h => q_count_4 h) C w (fun ws hA => c_D_count hT o _ ws hA 4 (by omega)) ml_L_11 im_D_count se_D_count cd_D_count hd_D_count rfl (by rw [hRm]; exact ⟨⟨Nat.le_of_ble_eq_true rfl, Nat.le_of_ble_eq_true rfl⟩, Nat.le_of_ble_eq_true rfl, Nat.le_of_ble_eq_true rfl⟩) hl.1 rfl (Nat.le_of_ble_eq_true rfl) d_L_fails_452 (fun H locs w => ?_)
    refine l_callE (pc := 455) (As := [.int (iI (max 0 (r - 1) + ps (crf ln) r))]) (rest := []) (x := (-1)) (fun _ _ h => q_char_X hO hN3 (by omega) h) C w (fun ws hA => c_D_character hT o _ ws hA (max 0 (r - 1) + ps (crf ln) r) (by omega)) ml_L_64 im_D_character se_D_character cd_D_character hd_D_character rfl (by rw [hRm]; exact ⟨⟨Nat.le_of_ble_eq_true rfl, Nat.le_of_ble_eq_true rfl⟩, Nat.le_of_ble_eq_true rfl, Nat.le_of_ble_eq_true rfl⟩) hl.1 rfl (Nat.le_of_ble_eq_true rfl) d_L_fails_455 (fun H locs w => ?_)
    refine r_iconst (pc := 458) C d_L_fails_458 ?_
    refine r_icmp_ne (pc := 459) (tgt := 572) C (by omega) d_L_fails_459 (by decide) (fun c_459 => absurd c_459 (by omega)) (fun c_459 => ?_)
    refine r_aload_n (pc := 462) C d_L_fails_462 rfl (lv_at hl 0 rfl) ?_
    refine r_iconst (pc := 463) C d_L_fails_463 ?_
    refine l_callE (pc := 464) (As := [.int (iI 3)]) (rest := []) (x := (-2)) (fun _ _ h => q_size_X (by omega) h) C w (fun ws hA => c_D_size hT o _ ws hA 3 (by omega)) ml_L_67 im_D_size se_D_size cd_D_size hd_D_size rfl (by rw [hRm]; exact ⟨⟨Nat.le_of_ble_eq_true rfl, Nat.le_of_ble_eq_true rfl⟩, Nat.le_of_ble_eq_true rfl, Nat.le_of_ble_eq_true rfl⟩) hl.1 rfl (Nat.le_of_ble_eq_true rfl) d_L_fails_464 (fun H locs w => ?_)
    refine r_bipush (pc := 467) C d_L_fails_467 (by decide) ?_
    refine r_icmp_ne (pc := 469) (tgt := 572) C (by omega) d_L_fails_469 (by decide) (fun c_469 => absurd c_469 (by omega)) (fun c_469 => ?_)
    refine r_aload_n (pc := 472) C d_L_fails_472 rfl (lv_at hl 0 rfl) ?_
    refine r_iconst (pc := 473) C d_L_fails_473 ?_
    refine l_callE (pc := 474) (As := [.int (iI 2)]) (rest := []) (x := (-2)) (fun _ _ h => q_live_X (by omega) h) C w (fun ws hA => c_D_longestLive hT o _ ws hA 2 (by omega)) ml_L_70 im_D_longestLive se_D_longestLive cd_D_longestLive hd_D_longestLive rfl (by rw [hRm]; exact ⟨⟨Nat.le_of_ble_eq_true rfl, Nat.le_of_ble_eq_true rfl⟩, Nat.le_of_ble_eq_true rfl, Nat.le_of_ble_eq_true rfl⟩) hl.1 rfl (Nat.le_of_ble_eq_true rfl) d_L_fails_474 (fun H locs w => ?_)
    refine r_bipush (pc := 477) C d_L_fails_477 (by decide) ?_
    refine r_icmp_ne (pc := 479) (tgt := 572) C (by omega) d_L_fails_479 (by decide) (fun c_479 => absurd c_479 (by omega)) (fun c_479 => ?_)
    refine r_aload_n (pc := 482) C d_L_fails_482 rfl (lv_at hl 0 rfl) ?_
    refine r_iconst (pc := 483) C d_L_fails_483 ?_
    refine r_iconst (pc := 484) C d_L_fails_484 ?_
    refine l_callE (pc := 485) (As := [.int (iI (-1)), .int (iI 1)]) (rest := []) (x := (-2)) (fun _ _ h => q_find_X (by omega) h) C w (fun ws hA => c_D_find hT o _ ws hA (-1) 1 ⟨by omega, by omega⟩) ml_L_73 im_D_find se_D_find cd_D_find hd_D_find rfl (by rw [hRm]; exact ⟨⟨Nat.le_of_ble_eq_true rfl, Nat.le_of_ble_eq_true rfl⟩, Nat.le_of_ble_eq_true rfl, Nat.le_of_ble_eq_true rfl⟩) hl.1 rfl (Nat.le_of_ble_eq_true rfl) d_L_fails_485 (fun H locs w => ?_)
    refine r_bipush (pc := 488) C d_L_fails_488 (by decide) ?_
    refine r_icmp_ne (pc := 490) (tgt := 572) C (by omega) d_L_fails_490 (by decide) (fun c_490 => absurd c_490 (by omega)) (fun c_490 => ?_)
    refine r_aload_n (pc := 493) C d_L_fails_493 rfl (lv_at hl 0 rfl) ?_
    refine r_iconst (pc := 494) C d_L_fails_494 ?_
    refine r_iconst (pc := 495) C d_L_fails_495 ?_
    refine l_callE (pc := 496) (As := [.int (iI 0), .int (iI 0)]) (rest := []) (x := (-2)) (fun _ _ h => q_find_X (by omega) h) C w (fun ws hA => c_D_find hT o _ ws hA 0 0 ⟨by omega, by omega⟩) ml_L_73 im_D_find se_D_find cd_D_find hd_D_find rfl (by rw [hRm]; exact ⟨⟨Nat.le_of_ble_eq_true rfl, Nat.le_of_ble_eq_true rfl⟩, Nat.le_of_ble_eq_true rfl, Nat.le_of_ble_eq_true rfl⟩) hl.1 rfl (Nat.le_of_ble_eq_true rfl) d_L_fails_496 (fun H locs w => ?_)
    refine r_bipush (pc := 499) C d_L_fails_499 (by decide) ?_
    refine r_icmp_ne (pc := 501) (tgt := 572) C (by omega) d_L_fails_501 (by decide) (fun c_501 => absurd c_501 (by omega)) (fun c_501 => ?_)
    refine r_aload_n (pc := 504) C d_L_fails_504 rfl (lv_at hl 0 rfl) ?_
    refine r_iconst (pc := 505) C d_L_fails_505 ?_
    refine r_ldc (pc := 506) (z := 1000000000) C kc_L_76 (by decide) d_L_fails_506 ?_
    refine l_callE (pc := 508) (As := [.int (iI 0), .int (iI 1000000000)]) (rest := []) (x := (-2)) (fun _ _ h => q_find_X (by omega) h) C w (fun ws hA => c_D_find hT o _ ws hA 0 1000000000 ⟨by omega, by omega⟩) ml_L_73 im_D_find se_D_find cd_D_find hd_D_find rfl (by rw [hRm]; exact ⟨⟨Nat.le_of_ble_eq_true rfl, Nat.le_of_ble_eq_true rfl⟩, Nat.le_of_ble_eq_true rfl, Nat.le_of_ble_eq_true rfl⟩) hl.1 rfl (Nat.le_of_ble_eq_true rfl) d_L_fails_508 (fun H locs w => ?_)
    refine r_bipush (pc := 511) C d_L_fails_511 (by decide) ?_
    refine r_icmp_ne (pc := 513) (tgt := 572) C (by omega) d_L_fails_513 (by decide) (fun c_513 => absurd c_513 (by omega)) (fun c_513 => ?_)
    refine r_aload_n (pc := 516) C d_L_fails_516 rfl (lv_at hl 0 rfl) ?_
    refine r_iconst (pc := 517) C d_L_fails_517 ?_
    refine l_callE (pc := 518) (As := [.int (iI 3)]) (rest := []) (x := (-2)) (fun _ _ h => q_best_X (by omega) h) C w (fun ws hA => c_D_bestWrite hT o _ ws hA 3 (by omega)) ml_L_77 im_D_bestWrite se_D_bestWrite cd_D_bestWrite hd_D_bestWrite rfl (by rw [hRm]; exact ⟨⟨Nat.le_of_ble_eq_true rfl, Nat.le_of_ble_eq_true rfl⟩, Nat.le_of_ble_eq_true rfl, Nat.le_of_ble_eq_true rfl⟩) hl.1 rfl (Nat.le_of_ble_eq_true rfl) d_L_fails_518 (fun H locs w => ?_)
    refine r_bipush (pc := 521) C d_L_fails_521 (by decide) ?_
    refine r_icmp_ne (pc := 523) (tgt := 572) C (by omega) d_L_fails_523 (by decide) (fun c_523 => absurd c_523 (by omega)) (fun c_523 => ?_)
    refine r_aload_n (pc := 526) C d_L_fails_526 rfl (lv_at hl 0 rfl) ?_
    refine r_lconst (pc := 527) (z := 0) C d_L_fails_527 rfl ?_
    refine l_callE (pc := 528) (As := [.long (iL 0)]) (rest := []) (x := (-2)) (fun _ _ h => q_put_X (by omega) h) C w (fun ws hA => c_D_put hT o _ ws hA 0 (by omega)) ml_L_80 im_D_put se_D_put cd_D_put hd_D_put rfl (by rw [hRm]; exact ⟨⟨Nat.le_of_ble_eq_true rfl, Nat.le_of_ble_eq_true rfl⟩, Nat.le_of_ble_eq_true rfl, Nat.le_of_ble_eq_true rfl⟩) hl.1 rfl (Nat.le_of_ble_eq_true rfl) d_L_fails_528 (fun H locs w => ?_)
    refine r_bipush (pc := 531) C d_L_fails_531 (by decide) ?_
    refine r_icmp_ne (pc := 533) (tgt := 572) C (by omega) d_L_fails_533 (by decide) (fun c_533 => absurd c_533 (by omega)) (fun c_533 => ?_)
    refine r_aload_n (pc := 536) C d_L_fails_536 rfl (lv_at hl 0 rfl) ?_
    refine r_ldc2 (pc := 537) (z := 32) C kc_L_84 (by decide +kernel) d_L_fails_537 ?_
    refine l_callE (pc := 540) (As := [.long (iL 32)]) (rest := []) (x := (-2)) (fun _ _ h => q_put_X (by omega) h) C w (fun ws hA => c_D_put hT o _ ws hA 32 (by omega)) ml_L_80 im_D_put se_D_put cd_D_put hd_D_put rfl (by rw [hRm]; exact ⟨⟨Nat.le_of_ble_eq_true rfl, Nat.le_of_ble_eq_true rfl⟩, Nat.le_of_ble_eq_true rfl, Nat.le_of_ble_eq_true rfl⟩) hl.1 rfl (Nat.le_of_ble_eq_true rfl) d_L_fails_540 (fun H locs w => ?_)
    refine r_bipush (pc := 543) C d_L_fails_543 (by decide) ?_
    refine r_icmp_ne (pc := 545) (tgt := 572) C (by omega) d_L_fails_545 (by decide) (fun c_545 => absurd c_545 (by omega)) (fun c_545 => ?_)
    refine r_aload_n (pc := 548) C d_L_fails_548 rfl (lv_at hl 0 rfl) ?_
    refine r_iconst (pc := 549) C d_L_fails_549 ?_
    refine l_callE (pc := 550) (As := [.int (iI 2)]) (rest := []) (x := (-2)) (fun _ _ h => q_save_X (by omega) h) C w (fun ws hA => c_D_save hT o _ ws hA 2 (by omega)) ml_L_86 im_D_save se_D_save cd_D_save hd_D_save rfl (by rw [hRm]; exact ⟨⟨Nat.le_of_ble_eq_true rfl, Nat.le_of_ble_eq_true rfl⟩, Nat.le_of_ble_eq_true rfl, Nat.le_of_ble_eq_true rfl⟩) hl.1 rfl (Nat.le_of_ble_eq_true rfl) d_L_fails_550 (fun H locs w => ?_)
    refine r_bipush (pc := 553) C d_L_fails_553 (by decide) ?_
    refine r_icmp_ne (pc := 555) (tgt := 572) C (by omega) d_L_fails_555 (by decide) (fun c_555 => absurd c_555 (by omega)) (fun c_555 => ?_)
    refine r_aload_n (pc := 558) C d_L_fails_558 rfl (lv_at hl 0 rfl) ?_
    refine r_iconst (pc := 559) C d_L_fails_559 ?_
    refine l_callE (pc := 560) (As := [.int (iI 2)]) (rest := []) (x := (-2)) (fun _ _ h => q_err (x := (-2)) h (by unfold errRe; (repeat' split) <;> omega) (by omega)) C w (fun ws hA => c_D_restore hT o _ ws hA 2 (by omega)) ml_L_89 im_D_restore se_D_restore cd_D_restore hd_D_restore rfl (by rw [hRm]; exact ⟨⟨Nat.le_of_ble_eq_true rfl, Nat.le_of_ble_eq_true rfl⟩, Nat.le_of_ble_eq_true rfl, Nat.le_of_ble_eq_true rfl⟩) hl.1 rfl (Nat.le_of_ble_eq_true rfl) d_L_fails_560 (fun H locs w => ?_)
    refine r_bipush (pc := 563) C d_L_fails_563 (by decide) ?_
    refine r_icmp_ne (pc := 565) (tgt := 572) C (by omega) d_L_fails_565 (by decide) (fun c_565 => absurd c_565 (by omega)) (fun c_565 => ?_)
    refine r_iconst (pc := 568) C d_L_fails_568 ?_
    refine r_goto (pc := 569) (tgt := 573) C d_L_fails_569 (by decide) ?_
    refine r_istore (pc := 573) (lv' := [(5, .int (iI 1)), (0, .ref o), (1, .long (mkR (lc, sd, r, sg, ln, N, v))), (3, .int (iI rcd)), (4, .int (iI N))]) C d_L_fails_573 hl (by decide) rfl (fun ls hl => ?_)
    refine r_iload (pc := 575) C d_L_fails_575 (lv_at hl 0 rfl) ?_
    refine r_if_eq (pc := 577) (tgt := 603) C (by omega) d_L_fails_577 (by decide) (fun c_577 => absurd c_577 (by omega)) (fun c_577 => ?_)
    refine r_aload_n (pc := 580) C d_L_fails_580 rfl (lv_at hl 1 rfl) ?_
    refine l_callL (pc := 581) (As := [.ref o]) (rest := []) (x := mkR (lc, sd, r, sg, ln, N, v)) (fun _ _ h => h) C w (c_L_mark hT o _) ml_L_21 st_L_mark ini_L cd_L_mark hd_L_mark rfl (by rw [hRm]; exact ⟨⟨Nat.le_of_ble_eq_true rfl, Nat.le_of_ble_eq_true rfl⟩, Nat.le_of_ble_eq_true rfl, Nat.le_of_ble_eq_true rfl⟩) hl.1 rfl (Nat.le_of_ble_eq_true rfl) d_L_fails_581 (fun H locs w => ?_)
    refine r_lload_n (pc := 584) C d_L_fails_584 rfl (lv_at hl 2 rfl) ?_
    refine r_lcmp_same (pc := 585) (h := (rfl)) C d_L_fails_585 ?_
    refine r_if_ne (pc := 586) (tgt := 603) C (by omega) d_L_fails_586 (by decide) (fun c_586 => absurd c_586 (by omega)) (fun c_586 => ?_)
    refine r_aload_n (pc := 589) C d_L_fails_589 rfl (lv_at hl 1 rfl) ?_
    refine r_bipush (pc := 590) C d_L_fails_590 (by decide) ?_
    refine l_callE (pc := 592) (As := [.int (iI 8)]) (rest := []) (x := rcd) (fun _ _ h => q_count_8 h) C w (fun ws hA => c_D_count hT o _ ws hA 8 (by omega)) ml_L_11 im_D_count se_D_count cd_D_count hd_D_count rfl (by rw [hRm]; exact ⟨⟨Nat.le_of_ble_eq_true rfl, Nat.le_of_ble_eq_true rfl⟩, Nat.le_of_ble_eq_true rfl, Nat.le_of_ble_eq_true rfl⟩) hl.1 rfl (Nat.le_of_ble_eq_true rfl) d_L_fails_592 (fun H locs w => ?_)
    refine r_iload_n (pc := 595) C d_L_fails_595 rfl (lv_at hl 3 rfl) ?_
    refine r_icmp_ne (pc := 596) (tgt := 603) C (by omega) d_L_fails_596 (by decide) (fun c_596 => ?_) (fun c_596 => ?_)
    · skip
      exact absurd rfl c_596
    · skip
      refine r_iconst (pc := 599) C d_L_fails_599 ?_
      refine r_goto (pc := 600) (tgt := 604) C d_L_fails_600 (by decide) ?_
      exact kret _ _ _ _ 1 _ d_L_fails_604 w (by omega) (⟨rfl, rfl⟩)
  refine r_iload (pc := 254) C d_L_fails_254 (lv_at hl 1 rfl) ?_
  refine r_if_eq (pc := 256) (tgt := 371) C (by omega) d_L_fails_256 (by decide) (fun c_256 => ?_) (fun c_256 => ?_)
  · skip
    exact J371   _ _ _ w (lv_sub hl [4, 3, 2, 1, 0] rfl)
  · skip
    refine r_aload_n (pc := 259) C d_L_fails_259 rfl (lv_at hl 4 rfl) ?_
    refine r_iconst (pc := 260) C d_L_fails_260 ?_
    refine r_iconst (pc := 261) C d_L_fails_261 ?_
    refine r_bipush (pc := 262) C d_L_fails_262 (by decide) ?_
    refine l_callE (pc := 264) (As := [.int (iI 0), .int (iI 1), .int (iI 10)]) (rest := []) (x := (-2)) (fun _ _ h => q_err (x := (-2)) h (by unfold errWr; (repeat' split) <;> omega) (by omega)) C w (fun ws hA => c_D_write hT o _ ws hA 0 1 10 ⟨by omega, by omega, by omega⟩) ml_L_37 im_D_write se_D_write cd_D_write hd_D_write rfl (by rw [hRm]; exact ⟨⟨Nat.le_of_ble_eq_true rfl, Nat.le_of_ble_eq_true rfl⟩, Nat.le_of_ble_eq_true rfl, Nat.le_of_ble_eq_true rfl⟩) hl.1 rfl (Nat.le_of_ble_eq_true rfl) d_L_fails_264 (fun H locs w => ?_)
    refine r_bipush (pc := 267) C d_L_fails_267 (by decide) ?_
    refine r_icmp_ne (pc := 269) (tgt := 572) C (by omega) d_L_fails_269 (by decide) (fun c_269 => absurd c_269 (by omega)) (fun c_269 => ?_)
    refine r_aload_n (pc := 272) C d_L_fails_272 rfl (lv_at hl 4 rfl) ?_
    refine r_iconst (pc := 273) C d_L_fails_273 ?_
    refine r_iconst (pc := 274) C d_L_fails_274 ?_
    refine r_iconst (pc := 275) C d_L_fails_275 ?_
    refine l_callE (pc := 276) (As := [.int (iI 0), .int (iI 1), .int (iI (-1))]) (rest := []) (x := (-2)) (fun _ _ h => q_err (x := (-2)) h (by unfold errWr; (repeat' split) <;> omega) (by omega)) C w (fun ws hA => c_D_write hT o _ ws hA 0 1 (-1) ⟨by omega, by omega, by omega⟩) ml_L_37 im_D_write se_D_write cd_D_write hd_D_write rfl (by rw [hRm]; exact ⟨⟨Nat.le_of_ble_eq_true rfl, Nat.le_of_ble_eq_true rfl⟩, Nat.le_of_ble_eq_true rfl, Nat.le_of_ble_eq_true rfl⟩) hl.1 rfl (Nat.le_of_ble_eq_true rfl) d_L_fails_276 (fun H locs w => ?_)
    refine r_bipush (pc := 279) C d_L_fails_279 (by decide) ?_
    refine r_icmp_ne (pc := 281) (tgt := 572) C (by omega) d_L_fails_281 (by decide) (fun c_281 => absurd c_281 (by omega)) (fun c_281 => ?_)
    refine r_aload_n (pc := 284) C d_L_fails_284 rfl (lv_at hl 4 rfl) ?_
    refine r_iconst (pc := 285) C d_L_fails_285 ?_
    refine r_iconst (pc := 286) C d_L_fails_286 ?_
    refine r_iconst (pc := 287) C d_L_fails_287 ?_
    refine l_callE (pc := 288) (As := [.int (iI 0), .int (iI 1), .int (iI 0)]) (rest := []) (x := (-2)) (fun _ _ h => q_err (x := (-2)) h (by unfold errWr; (repeat' split) <;> omega) (by omega)) C w (fun ws hA => c_D_add hT o _ ws hA 0 1 0 ⟨by omega, by omega, by omega⟩) ml_L_40 im_D_add se_D_add cd_D_add hd_D_add rfl (by rw [hRm]; exact ⟨⟨Nat.le_of_ble_eq_true rfl, Nat.le_of_ble_eq_true rfl⟩, Nat.le_of_ble_eq_true rfl, Nat.le_of_ble_eq_true rfl⟩) hl.1 rfl (Nat.le_of_ble_eq_true rfl) d_L_fails_288 (fun H locs w => ?_)
    refine r_bipush (pc := 291) C d_L_fails_291 (by decide) ?_
    refine r_icmp_ne (pc := 293) (tgt := 572) C (by omega) d_L_fails_293 (by decide) (fun c_293 => absurd c_293 (by omega)) (fun c_293 => ?_)
    refine r_aload_n (pc := 296) C d_L_fails_296 rfl (lv_at hl 4 rfl) ?_
    refine r_iconst (pc := 297) C d_L_fails_297 ?_
    refine r_iconst (pc := 298) C d_L_fails_298 ?_
    refine r_bipush (pc := 299) C d_L_fails_299 (by decide) ?_
    refine l_callE (pc := 301) (As := [.int (iI 0), .int (iI 1), .int (iI 10)]) (rest := []) (x := (-2)) (fun _ _ h => q_err (x := (-2)) h (by unfold errWr; (repeat' split) <;> omega) (by omega)) C w (fun ws hA => c_D_add hT o _ ws hA 0 1 10 ⟨by omega, by omega, by omega⟩) ml_L_40 im_D_add se_D_add cd_D_add hd_D_add rfl (by rw [hRm]; exact ⟨⟨Nat.le_of_ble_eq_true rfl, Nat.le_of_ble_eq_true rfl⟩, Nat.le_of_ble_eq_true rfl, Nat.le_of_ble_eq_true rfl⟩) hl.1 rfl (Nat.le_of_ble_eq_true rfl) d_L_fails_301 (fun H locs w => ?_)
    refine r_bipush (pc := 304) C d_L_fails_304 (by decide) ?_
    refine r_icmp_ne (pc := 306) (tgt := 572) C (by omega) d_L_fails_306 (by decide) (fun c_306 => absurd c_306 (by omega)) (fun c_306 => ?_)
    refine r_aload_n (pc := 309) C d_L_fails_309 rfl (lv_at hl 4 rfl) ?_
    refine r_iconst (pc := 310) C d_L_fails_310 ?_
    refine r_iconst (pc := 311) C d_L_fails_311 ?_
    refine r_iload (pc := 312) C d_L_fails_312 (lv_at hl 1 rfl) ?_
    refine l_callE (pc := 314) (As := [.int (iI 0), .int (iI 1), .int (iI N)]) (rest := []) (x := (-2)) (fun _ _ h => q_err (x := (-2)) h (by unfold errMv; (repeat' split) <;> omega) (by omega)) C w (fun ws hA => c_D_move hT o _ ws hA 0 1 N ⟨by omega, by omega, by omega⟩) ml_L_52 im_D_move se_D_move cd_D_move hd_D_move rfl (by rw [hRm]; exact ⟨⟨Nat.le_of_ble_eq_true rfl, Nat.le_of_ble_eq_true rfl⟩, Nat.le_of_ble_eq_true rfl, Nat.le_of_ble_eq_true rfl⟩) hl.1 rfl (Nat.le_of_ble_eq_true rfl) d_L_fails_314 (fun H locs w => ?_)
    refine r_bipush (pc := 317) C d_L_fails_317 (by decide) ?_
    refine r_icmp_ne (pc := 319) (tgt := 572) C (by omega) d_L_fails_319 (by decide) (fun c_319 => absurd c_319 (by omega)) (fun c_319 => ?_)
    refine r_aload_n (pc := 322) C d_L_fails_322 rfl (lv_at hl 4 rfl) ?_
    refine r_iconst (pc := 323) C d_L_fails_323 ?_
    refine r_iload (pc := 324) C d_L_fails_324 (lv_at hl 1 rfl) ?_
    refine r_iconst (pc := 326) C d_L_fails_326 ?_
    refine l_callE (pc := 327) (As := [.int (iI 0), .int (iI N), .int (iI 1)]) (rest := []) (x := (-2)) (fun _ _ h => q_err (x := (-2)) h (by unfold errMv; (repeat' split) <;> omega) (by omega)) C w (fun ws hA => c_D_move hT o _ ws hA 0 N 1 ⟨by omega, by omega, by omega⟩) ml_L_52 im_D_move se_D_move cd_D_move hd_D_move rfl (by rw [hRm]; exact ⟨⟨Nat.le_of_ble_eq_true rfl, Nat.le_of_ble_eq_true rfl⟩, Nat.le_of_ble_eq_true rfl, Nat.le_of_ble_eq_true rfl⟩) hl.1 rfl (Nat.le_of_ble_eq_true rfl) d_L_fails_327 (fun H locs w => ?_)
    refine r_bipush (pc := 330) C d_L_fails_330 (by decide) ?_
    refine r_icmp_ne (pc := 332) (tgt := 572) C (by omega) d_L_fails_332 (by decide) (fun c_332 => absurd c_332 (by omega)) (fun c_332 => ?_)
    refine r_aload_n (pc := 335) C d_L_fails_335 rfl (lv_at hl 4 rfl) ?_
    refine r_iconst (pc := 336) C d_L_fails_336 ?_
    refine r_iconst (pc := 337) C d_L_fails_337 ?_
    refine r_iconst (pc := 338) C d_L_fails_338 ?_
    refine l_callE (pc := 339) (As := [.int (iI 0), .int (iI 1), .int (iI (-1))]) (rest := []) (x := (-2)) (fun _ _ h => q_err (x := (-2)) h (by unfold errMv; (repeat' split) <;> omega) (by omega)) C w (fun ws hA => c_D_move hT o _ ws hA 0 1 (-1) ⟨by omega, by omega, by omega⟩) ml_L_52 im_D_move se_D_move cd_D_move hd_D_move rfl (by rw [hRm]; exact ⟨⟨Nat.le_of_ble_eq_true rfl, Nat.le_of_ble_eq_true rfl⟩, Nat.le_of_ble_eq_true rfl, Nat.le_of_ble_eq_true rfl⟩) hl.1 rfl (Nat.le_of_ble_eq_true rfl) d_L_fails_339 (fun H locs w => ?_)
    refine r_bipush (pc := 342) C d_L_fails_342 (by decide) ?_
    refine r_icmp_ne (pc := 344) (tgt := 572) C (by omega) d_L_fails_344 (by decide) (fun c_344 => absurd c_344 (by omega)) (fun c_344 => ?_)
    refine r_aload_n (pc := 347) C d_L_fails_347 rfl (lv_at hl 4 rfl) ?_
    refine r_iconst (pc := 348) C d_L_fails_348 ?_
    refine r_iconst (pc := 349) C d_L_fails_349 ?_
    refine r_bipush (pc := 350) C d_L_fails_350 (by decide) ?_
    refine l_callE (pc := 352) (As := [.int (iI 0), .int (iI 1), .int (iI 11)]) (rest := []) (x := (-2)) (fun _ _ h => q_howMany_2 (by omega) h) C w (fun ws hA => c_D_howMany hT o _ ws hA 0 1 11 ⟨by omega, by omega, by omega⟩) ml_L_55 im_D_howMany se_D_howMany cd_D_howMany hd_D_howMany rfl (by rw [hRm]; exact ⟨⟨Nat.le_of_ble_eq_true rfl, Nat.le_of_ble_eq_true rfl⟩, Nat.le_of_ble_eq_true rfl, Nat.le_of_ble_eq_true rfl⟩) hl.1 rfl (Nat.le_of_ble_eq_true rfl) d_L_fails_352 (fun H locs w => ?_)
    refine r_bipush (pc := 355) C d_L_fails_355 (by decide) ?_
    refine r_icmp_ne (pc := 357) (tgt := 572) C (by omega) d_L_fails_357 (by decide) (fun c_357 => absurd c_357 (by omega)) (fun c_357 => ?_)
    refine r_aload_n (pc := 360) C d_L_fails_360 rfl (lv_at hl 4 rfl) ?_
    refine r_iconst (pc := 361) C d_L_fails_361 ?_
    refine r_iconst (pc := 362) C d_L_fails_362 ?_
    refine l_callE (pc := 363) (As := [.int (iI 0), .int (iI 4)]) (rest := []) (x := (-2)) (fun _ _ h => q_ofRun_4 (by omega) h) C w (fun ws hA => c_D_ofRun hT o _ ws hA 0 4 ⟨by omega, by omega⟩) ml_L_17 im_D_ofRun se_D_ofRun cd_D_ofRun hd_D_ofRun rfl (by rw [hRm]; exact ⟨⟨Nat.le_of_ble_eq_true rfl, Nat.le_of_ble_eq_true rfl⟩, Nat.le_of_ble_eq_true rfl, Nat.le_of_ble_eq_true rfl⟩) hl.1 rfl (Nat.le_of_ble_eq_true rfl) d_L_fails_363 (fun H locs w => ?_)
    refine r_bipush (pc := 366) C d_L_fails_366 (by decide) ?_
    refine r_icmp_ne (pc := 368) (tgt := 572) C (by omega) d_L_fails_368 (by decide) (fun c_368 => absurd c_368 (by omega)) (fun c_368 => ?_)
    exact J371   _ _ _ w (lv_sub hl [4, 3, 2, 1, 0] rfl)
