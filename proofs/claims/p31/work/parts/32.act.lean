/-! all that is told, and one edit -/
theorem edc_nonneg (f e ed num : Int) (u : Int → Int) {N : Int} (hN : 0 ≤ N) (hN3 : N ≤ 3000) : 0 ≤ ps (edc f e ed num u) N ∧ ps (edc f e ed num u) N ≤ 100000 := by
  have := ps_bound (f := edc f e ed num u) (lo := 0) (hi := 1) N hN (fun j _ _ => by unfold edc; split <;> omega)
  omega
theorem rc_rg (v : Int → Int) {N : Int} (hN : 0 ≤ N) (hN3 : N ≤ 3000) : 0 ≤ rc v N ∧ rc v N ≤ 100000 := by
  have h1 := rc_nonneg v N hN
  have h2 := rc_le v N hN
  omega
/-- an edit is refused and changes nothing, or it is recorded -/
theorem q_act {A A' : AS} {z err lc1 sd1 N1 ans : Int} {v1 : Int → Int} (h : SpE A z A' err lc1 sd1 N1 v1 ans) (he : -5 ≤ err ∧ err ≤ 0) (ha : err = 0 → 0 ≤ ans ∧ ans ≤ 100000) : (-5 ≤ z ∧ z ≤ 100000) ∧ ((z < 0 ∧ A' = A) ∨ (0 ≤ z ∧ ∃ (lc1 sd1 N1 : Int) (v1 : Int → Int), Pushed A A' lc1 sd1 N1 v1)) := by
  rcases h with ⟨h1, h2, h3⟩ | ⟨h1, -, h2, h3⟩ | ⟨h1, -, h2, h3⟩
  · exact ⟨by omega, Or.inl ⟨by omega, h3⟩⟩
  · exact ⟨by omega, Or.inl ⟨by omega, h3⟩⟩
  · have := ha h1
    exact ⟨by omega, Or.inr ⟨by omega, _, _, _, _, h3⟩⟩
theorem d_L_sound_0 : decode b_L_sound 0 = .ok (.aload_n 0, 1) := by decide +kernel
theorem d_L_sound_1 : decode b_L_sound 1 = .ok (.invokestatic 128, 3) := by decide +kernel
theorem d_L_sound_4 : decode b_L_sound 4 = .ok (.ifCond .eq 29, 3) := by decide +kernel
theorem d_L_sound_7 : decode b_L_sound 7 = .ok (.aload_n 0, 1) := by decide +kernel
theorem d_L_sound_8 : decode b_L_sound 8 = .ok (.invokestatic 132, 3) := by decide +kernel
theorem d_L_sound_11 : decode b_L_sound 11 = .ok (.ifCond .eq 22, 3) := by decide +kernel
theorem d_L_sound_14 : decode b_L_sound 14 = .ok (.aload_n 0, 1) := by decide +kernel
theorem d_L_sound_15 : decode b_L_sound 15 = .ok (.invokestatic 135, 3) := by decide +kernel
theorem d_L_sound_18 : decode b_L_sound 18 = .ok (.ifCond .eq 15, 3) := by decide +kernel
theorem d_L_sound_21 : decode b_L_sound 21 = .ok (.aload_n 0, 1) := by decide +kernel
theorem d_L_sound_22 : decode b_L_sound 22 = .ok (.iload_n 1, 1) := by decide +kernel
theorem d_L_sound_23 : decode b_L_sound 23 = .ok (.invokestatic 138, 3) := by decide +kernel
theorem d_L_sound_26 : decode b_L_sound 26 = .ok (.ifCond .eq 7, 3) := by decide +kernel
theorem d_L_sound_29 : decode b_L_sound 29 = .ok (.iconst 1, 1) := by decide +kernel
theorem d_L_sound_30 : decode b_L_sound 30 = .ok (.goto 4, 3) := by decide +kernel
theorem d_L_sound_33 : decode b_L_sound 33 = .ok (.iconst 0, 1) := by decide +kernel
theorem d_L_sound_34 : decode b_L_sound 34 = .ok (.ireturn, 1) := by decide +kernel
set_option maxHeartbeats 4000000 in
set_option maxRecDepth 20000 in
theorem c_L_sound {l : Launch} {G : va_G} {tys : List (ClassId × FieldType)} {cI cO cZ : ClassId} (hT : TY tys cI cO cZ) (o : Nat) (A : AS) (q : Int)  : CTA l G tys cI cO cZ y_L_sound b_L_sound 2 .boolean 7 168 o [.ref o, .int (iI q)] A (fun z A' => z = 1) := by
  refine mkAZ (by decide) (Nat.le_of_ble_eq_true rfl) ?_
  rintro X rfl rfl rfl hRm C kret H ls w hl
  have hl : lv_has ls 2 [(0, .ref o), (1, .int (iI q))] := hl
  generalize ([] : List Loc) = locs at w ⊢
  refine r_aload_n (pc := 0) C d_L_sound_0 rfl (lv_at hl 0 rfl) ?_
  refine l_callT (pc := 1) (As := [.ref o]) (rest := []) (x := 1) (fun _ _ h => h) C w (c_L_runs hT o _) ml_L_128 st_L_runs ini_L cd_L_runs hd_L_runs rfl (by rw [hRm]; exact ⟨⟨Nat.le_of_ble_eq_true rfl, Nat.le_of_ble_eq_true rfl⟩, Nat.le_of_ble_eq_true rfl, Nat.le_of_ble_eq_true rfl⟩) hl.1 rfl (Nat.le_of_ble_eq_true rfl) d_L_sound_1 (fun H locs w => ?_)
  refine r_if_eq (pc := 4) (tgt := 33) C (by omega) d_L_sound_4 (by decide) (fun c_4 => absurd c_4 (by omega)) (fun c_4 => ?_)
  refine r_aload_n (pc := 7) C d_L_sound_7 rfl (lv_at hl 0 rfl) ?_
  refine l_callT (pc := 8) (As := [.ref o]) (rest := []) (x := 1) (fun _ _ h => h) C w (c_L_stream hT o _) ml_L_132 st_L_stream ini_L cd_L_stream hd_L_stream rfl (by rw [hRm]; exact ⟨⟨Nat.le_of_ble_eq_true rfl, Nat.le_of_ble_eq_true rfl⟩, Nat.le_of_ble_eq_true rfl, Nat.le_of_ble_eq_true rfl⟩) hl.1 rfl (Nat.le_of_ble_eq_true rfl) d_L_sound_8 (fun H locs w => ?_)
  refine r_if_eq (pc := 11) (tgt := 33) C (by omega) d_L_sound_11 (by decide) (fun c_11 => absurd c_11 (by omega)) (fun c_11 => ?_)
  refine r_aload_n (pc := 14) C d_L_sound_14 rfl (lv_at hl 0 rfl) ?_
  refine l_callS (pc := 15) (As := [.ref o]) (rest := []) C w (c_L_text hT o _) ml_L_135 st_L_text ini_L cd_L_text hd_L_text rfl (by rw [hRm]; exact ⟨⟨Nat.le_of_ble_eq_true rfl, Nat.le_of_ble_eq_true rfl⟩, Nat.le_of_ble_eq_true rfl, Nat.le_of_ble_eq_true rfl⟩) hl.1 rfl (Nat.le_of_ble_eq_true rfl) d_L_sound_15 (fun z_15 A_15 H locs hz_15 w => ?_)
  subst hz_15
  refine r_if_eq (pc := 18) (tgt := 33) C (by omega) d_L_sound_18 (by decide) (fun c_18 => absurd c_18 (by omega)) (fun c_18 => ?_)
  refine r_aload_n (pc := 21) C d_L_sound_21 rfl (lv_at hl 0 rfl) ?_
  refine r_iload_n (pc := 22) C d_L_sound_22 rfl (lv_at hl 1 rfl) ?_
  refine l_callT (pc := 23) (As := [.ref o, .int (iI q)]) (rest := []) (x := 1) (fun _ _ h => h) C w (c_L_looks hT o _ q) ml_L_138 st_L_looks ini_L cd_L_looks hd_L_looks rfl (by rw [hRm]; exact ⟨⟨Nat.le_of_ble_eq_true rfl, Nat.le_of_ble_eq_true rfl⟩, Nat.le_of_ble_eq_true rfl, Nat.le_of_ble_eq_true rfl⟩) hl.1 rfl (Nat.le_of_ble_eq_true rfl) d_L_sound_23 (fun H locs w => ?_)
  refine r_if_eq (pc := 26) (tgt := 33) C (by omega) d_L_sound_26 (by decide) (fun c_26 => absurd c_26 (by omega)) (fun c_26 => ?_)
  refine r_iconst (pc := 29) C d_L_sound_29 ?_
  refine r_goto (pc := 30) (tgt := 34) C d_L_sound_30 (by decide) ?_
  exact kret _ _ _ _ 1 _ d_L_sound_34 w (by omega) (rfl)
theorem d_L_act_0 : decode b_L_act 0 = .ok (.aload_n 0, 1) := by decide +kernel
theorem d_L_act_1 : decode b_L_act 1 = .ok (.iconst 0, 1) := by decide +kernel
theorem d_L_act_2 : decode b_L_act 2 = .ok (.invokevirtual 11, 3) := by decide +kernel
theorem d_L_act_5 : decode b_L_act 5 = .ok (.istore_n 3, 1) := by decide +kernel
theorem d_L_act_6 : decode b_L_act 6 = .ok (.iload_n 2, 1) := by decide +kernel
theorem d_L_act_7 : decode b_L_act 7 = .ok (.iload_n 3, 1) := by decide +kernel
theorem d_L_act_8 : decode b_L_act 8 = .ok (.iconst 1, 1) := by decide +kernel
theorem d_L_act_9 : decode b_L_act 9 = .ok (.iadd, 1) := by decide +kernel
theorem d_L_act_10 : decode b_L_act 10 = .ok (.invokestatic 122, 3) := by decide +kernel
theorem d_L_act_13 : decode b_L_act 13 = .ok (.istore 4, 2) := by decide +kernel
theorem d_L_act_15 : decode b_L_act 15 = .ok (.iconst 1, 1) := by decide +kernel
theorem d_L_act_16 : decode b_L_act 16 = .ok (.iload_n 2, 1) := by decide +kernel
theorem d_L_act_17 : decode b_L_act 17 = .ok (.bipush 9, 2) := by decide +kernel
theorem d_L_act_19 : decode b_L_act 19 = .ok (.ishr, 1) := by decide +kernel
theorem d_L_act_20 : decode b_L_act 20 = .ok (.iload_n 2, 1) := by decide +kernel
theorem d_L_act_21 : decode b_L_act 21 = .ok (.bipush 20, 2) := by decide +kernel
theorem d_L_act_23 : decode b_L_act 23 = .ok (.ishr, 1) := by decide +kernel
theorem d_L_act_24 : decode b_L_act 24 = .ok (.iconst 3, 1) := by decide +kernel
theorem d_L_act_25 : decode b_L_act 25 = .ok (.iand, 1) := by decide +kernel
theorem d_L_act_26 : decode b_L_act 26 = .ok (.ifCond .ne 9, 3) := by decide +kernel
theorem d_L_act_29 : decode b_L_act 29 = .ok (.sipush 200, 3) := by decide +kernel
theorem d_L_act_32 : decode b_L_act 32 = .ok (.goto 5, 3) := by decide +kernel
theorem d_L_act_35 : decode b_L_act 35 = .ok (.bipush 9, 2) := by decide +kernel
theorem d_L_act_37 : decode b_L_act 37 = .ok (.invokestatic 122, 3) := by decide +kernel
theorem d_L_act_40 : decode b_L_act 40 = .ok (.iadd, 1) := by decide +kernel
theorem d_L_act_41 : decode b_L_act 41 = .ok (.istore 5, 2) := by decide +kernel
theorem d_L_act_43 : decode b_L_act 43 = .ok (.iload_n 1, 1) := by decide +kernel
theorem d_L_act_44 : decode b_L_act 44 = .ok (.bipush 12, 2) := by decide +kernel
theorem d_L_act_46 : decode b_L_act 46 = .ok (.invokestatic 122, 3) := by decide +kernel
theorem d_L_act_49 : decode b_L_act 49 = .ok (.tableswitch 166 0 10 #[59, 59, 59, 76, 85, 85, 102, 121, 130, 139, 148], 59) := by decide +kernel
theorem d_L_act_108 : decode b_L_act 108 = .ok (.aload_n 0, 1) := by decide +kernel
theorem d_L_act_109 : decode b_L_act 109 = .ok (.iload 4, 2) := by decide +kernel
theorem d_L_act_111 : decode b_L_act 111 = .ok (.iload_n 1, 1) := by decide +kernel
theorem d_L_act_112 : decode b_L_act 112 = .ok (.iconst 4, 1) := by decide +kernel
theorem d_L_act_113 : decode b_L_act 113 = .ok (.ishr, 1) := by decide +kernel
theorem d_L_act_114 : decode b_L_act 114 = .ok (.bipush 11, 2) := by decide +kernel
theorem d_L_act_116 : decode b_L_act 116 = .ok (.invokestatic 122, 3) := by decide +kernel
theorem d_L_act_119 : decode b_L_act 119 = .ok (.iload 5, 2) := by decide +kernel
theorem d_L_act_121 : decode b_L_act 121 = .ok (.invokevirtual 30, 3) := by decide +kernel
theorem d_L_act_124 : decode b_L_act 124 = .ok (.ireturn, 1) := by decide +kernel
theorem d_L_act_125 : decode b_L_act 125 = .ok (.aload_n 0, 1) := by decide +kernel
theorem d_L_act_126 : decode b_L_act 126 = .ok (.iload 4, 2) := by decide +kernel
theorem d_L_act_128 : decode b_L_act 128 = .ok (.iload 5, 2) := by decide +kernel
theorem d_L_act_130 : decode b_L_act 130 = .ok (.invokevirtual 34, 3) := by decide +kernel
theorem d_L_act_133 : decode b_L_act 133 = .ok (.ireturn, 1) := by decide +kernel
theorem d_L_act_134 : decode b_L_act 134 = .ok (.aload_n 0, 1) := by decide +kernel
theorem d_L_act_135 : decode b_L_act 135 = .ok (.iload 4, 2) := by decide +kernel
theorem d_L_act_137 : decode b_L_act 137 = .ok (.iload 5, 2) := by decide +kernel
theorem d_L_act_139 : decode b_L_act 139 = .ok (.iload_n 1, 1) := by decide +kernel
theorem d_L_act_140 : decode b_L_act 140 = .ok (.iconst 4, 1) := by decide +kernel
theorem d_L_act_141 : decode b_L_act 141 = .ok (.ishr, 1) := by decide +kernel
theorem d_L_act_142 : decode b_L_act 142 = .ok (.bipush 10, 2) := by decide +kernel
theorem d_L_act_144 : decode b_L_act 144 = .ok (.invokestatic 122, 3) := by decide +kernel
theorem d_L_act_147 : decode b_L_act 147 = .ok (.invokevirtual 37, 3) := by decide +kernel
theorem d_L_act_150 : decode b_L_act 150 = .ok (.ireturn, 1) := by decide +kernel
theorem d_L_act_151 : decode b_L_act 151 = .ok (.aload_n 0, 1) := by decide +kernel
theorem d_L_act_152 : decode b_L_act 152 = .ok (.iload 4, 2) := by decide +kernel
theorem d_L_act_154 : decode b_L_act 154 = .ok (.iload 5, 2) := by decide +kernel
theorem d_L_act_156 : decode b_L_act 156 = .ok (.iconst 1, 1) := by decide +kernel
theorem d_L_act_157 : decode b_L_act 157 = .ok (.iload_n 1, 1) := by decide +kernel
theorem d_L_act_158 : decode b_L_act 158 = .ok (.iconst 4, 1) := by decide +kernel
theorem d_L_act_159 : decode b_L_act 159 = .ok (.ishr, 1) := by decide +kernel
theorem d_L_act_160 : decode b_L_act 160 = .ok (.bipush 9, 2) := by decide +kernel
theorem d_L_act_162 : decode b_L_act 162 = .ok (.invokestatic 122, 3) := by decide +kernel
theorem d_L_act_165 : decode b_L_act 165 = .ok (.iadd, 1) := by decide +kernel
theorem d_L_act_166 : decode b_L_act 166 = .ok (.invokevirtual 40, 3) := by decide +kernel
theorem d_L_act_169 : decode b_L_act 169 = .ok (.ireturn, 1) := by decide +kernel
theorem d_L_act_170 : decode b_L_act 170 = .ok (.aload_n 0, 1) := by decide +kernel
theorem d_L_act_171 : decode b_L_act 171 = .ok (.iload 4, 2) := by decide +kernel
theorem d_L_act_173 : decode b_L_act 173 = .ok (.iload 5, 2) := by decide +kernel
theorem d_L_act_175 : decode b_L_act 175 = .ok (.invokevirtual 43, 3) := by decide +kernel
theorem d_L_act_178 : decode b_L_act 178 = .ok (.ireturn, 1) := by decide +kernel
theorem d_L_act_179 : decode b_L_act 179 = .ok (.aload_n 0, 1) := by decide +kernel
theorem d_L_act_180 : decode b_L_act 180 = .ok (.iload 4, 2) := by decide +kernel
theorem d_L_act_182 : decode b_L_act 182 = .ok (.iload 5, 2) := by decide +kernel
theorem d_L_act_184 : decode b_L_act 184 = .ok (.invokevirtual 46, 3) := by decide +kernel
theorem d_L_act_187 : decode b_L_act 187 = .ok (.ireturn, 1) := by decide +kernel
theorem d_L_act_188 : decode b_L_act 188 = .ok (.aload_n 0, 1) := by decide +kernel
theorem d_L_act_189 : decode b_L_act 189 = .ok (.iload 4, 2) := by decide +kernel
theorem d_L_act_191 : decode b_L_act 191 = .ok (.iload 5, 2) := by decide +kernel
theorem d_L_act_193 : decode b_L_act 193 = .ok (.invokevirtual 49, 3) := by decide +kernel
theorem d_L_act_196 : decode b_L_act 196 = .ok (.ireturn, 1) := by decide +kernel
theorem d_L_act_197 : decode b_L_act 197 = .ok (.aload_n 0, 1) := by decide +kernel
theorem d_L_act_198 : decode b_L_act 198 = .ok (.iload 4, 2) := by decide +kernel
theorem d_L_act_200 : decode b_L_act 200 = .ok (.iload 5, 2) := by decide +kernel
theorem d_L_act_202 : decode b_L_act 202 = .ok (.iload_n 1, 1) := by decide +kernel
theorem d_L_act_203 : decode b_L_act 203 = .ok (.iconst 4, 1) := by decide +kernel
theorem d_L_act_204 : decode b_L_act 204 = .ok (.ishr, 1) := by decide +kernel
theorem d_L_act_205 : decode b_L_act 205 = .ok (.iload_n 3, 1) := by decide +kernel
theorem d_L_act_206 : decode b_L_act 206 = .ok (.iconst 1, 1) := by decide +kernel
theorem d_L_act_207 : decode b_L_act 207 = .ok (.iadd, 1) := by decide +kernel
theorem d_L_act_208 : decode b_L_act 208 = .ok (.invokestatic 122, 3) := by decide +kernel
theorem d_L_act_211 : decode b_L_act 211 = .ok (.invokevirtual 52, 3) := by decide +kernel
theorem d_L_act_214 : decode b_L_act 214 = .ok (.ireturn, 1) := by decide +kernel
theorem d_L_act_215 : decode b_L_act 215 = .ok (.aload_n 0, 1) := by decide +kernel
theorem d_L_act_216 : decode b_L_act 216 = .ok (.iload_n 1, 1) := by decide +kernel
theorem d_L_act_217 : decode b_L_act 217 = .ok (.iconst 4, 1) := by decide +kernel
theorem d_L_act_218 : decode b_L_act 218 = .ok (.ishr, 1) := by decide +kernel
theorem d_L_act_219 : decode b_L_act 219 = .ok (.iconst 1, 1) := by decide +kernel
theorem d_L_act_220 : decode b_L_act 220 = .ok (.iand, 1) := by decide +kernel
theorem d_L_act_221 : decode b_L_act 221 = .ok (.iload_n 1, 1) := by decide +kernel
theorem d_L_act_222 : decode b_L_act 222 = .ok (.iconst 5, 1) := by decide +kernel
theorem d_L_act_223 : decode b_L_act 223 = .ok (.ishr, 1) := by decide +kernel
theorem d_L_act_224 : decode b_L_act 224 = .ok (.iconst 3, 1) := by decide +kernel
theorem d_L_act_225 : decode b_L_act 225 = .ok (.invokestatic 122, 3) := by decide +kernel
theorem d_L_act_228 : decode b_L_act 228 = .ok (.invokevirtual 27, 3) := by decide +kernel
theorem d_L_act_231 : decode b_L_act 231 = .ok (.ireturn, 1) := by decide +kernel
set_option maxHeartbeats 4000000 in
set_option maxRecDepth 20000 in
theorem c_L_act {l : Launch} {G : va_G} {tys : List (ClassId × FieldType)} {cI cO cZ : ClassId} (hT : TY tys cI cO cZ) (o : Nat) (A : AS) (q p : Int)  : CTA l G tys cI cO cZ y_L_act b_L_act 6 .int 5 122 o [.ref o, .int (iI q), .int (iI p)] A (fun z A' => (-5 ≤ z ∧ z ≤ 100000) ∧ ((z < 0 ∧ A' = A) ∨ (0 ≤ z ∧ ∃ (lc1 sd1 N1 : Int) (v1 : Int → Int), Pushed A A' lc1 sd1 N1 v1))) := by
  refine mkAI (by decide) (Nat.le_of_ble_eq_true rfl) ?_
  rintro X rfl rfl rfl hRm C kret H ls w hl
  have hl : lv_has ls 6 [(0, .ref o), (1, .int (iI q)), (2, .int (iI p))] := hl
  generalize ([] : List Loc) = locs at w ⊢
  obtain ⟨⟨lc, sd, r, sg, ln, N, v⟩, hist, rcd, slot, uf, T, m⟩ := A
  have hK := w.ok
  have hR : RwOk lc sd r sg ln N v := hK.1
  have hrcd : 0 ≤ rcd ∧ rcd ≤ 6 := hK.2.1
  have hm80 : 0 ≤ m ∧ m ≤ 80 := hK.2.2.2.2.1
  obtain ⟨hO, hr50, hN3, hlc, hsd⟩ := hR
  have hr0 := hO.1
  have hN0 := hO.n0
  refine r_aload_n (pc := 0) C d_L_act_0 rfl (lv_at hl 0 rfl) ?_
  refine r_iconst (pc := 1) C d_L_act_1 ?_
  refine l_callE (pc := 2) (As := [.int (iI 0)]) (rest := []) (x := N) (fun _ _ h => q_count_0 h) C w (fun ws hA => c_D_count hT o _ ws hA 0 (by omega)) ml_L_11 im_D_count se_D_count cd_D_count hd_D_count rfl (by rw [hRm]; exact ⟨⟨Nat.le_of_ble_eq_true rfl, Nat.le_of_ble_eq_true rfl⟩, Nat.le_of_ble_eq_true rfl, Nat.le_of_ble_eq_true rfl⟩) hl.1 rfl (Nat.le_of_ble_eq_true rfl) d_L_act_2 (fun H locs w => ?_)
  refine r_istore_n (pc := 5) (lv' := [(3, .int (iI N)), (0, .ref o), (1, .int (iI q)), (2, .int (iI p))]) C d_L_act_5 rfl hl (by decide) rfl (fun ls hl => ?_)
  refine r_iload_n (pc := 6) C d_L_act_6 rfl (lv_at hl 3 rfl) ?_
  refine r_iload_n (pc := 7) C d_L_act_7 rfl (lv_at hl 0 rfl) ?_
  refine r_iconst (pc := 8) C d_L_act_8 ?_
  refine r_iadd (pc := 9) C d_L_act_9 ?_
  refine l_callP (pc := 10) (As := [.int (iI p), .int (iI (N + 1))]) (rest := []) C w (c_L_up _ (N + 1) (by omega)) ml_L_122 st_L_up ini_L cd_L_up hd_L_up rfl (by rw [hRm]; exact ⟨⟨Nat.le_of_ble_eq_true rfl, Nat.le_of_ble_eq_true rfl⟩, Nat.le_of_ble_eq_true rfl, Nat.le_of_ble_eq_true rfl⟩) hl.1 rfl (Nat.le_of_ble_eq_true rfl) d_L_act_10 (fun z_10 H locs hz_10 w => ?_)
  refine r_istore (pc := 13) (lv' := [(4, .int (iI z_10)), (3, .int (iI N)), (0, .ref o), (1, .int (iI q)), (2, .int (iI p))]) C d_L_act_13 hl (by decide) rfl (fun ls hl => ?_)
  have J43 : ∀ (mn : Int), 1 ≤ mn ∧ mn ≤ 200 → ∀ (H : Heap) (locs : List Loc) (ls : Array Slot), LW X cI cO cZ o ((lc, sd, r, sg, ln, N, v), hist, rcd, slot, uf, T, m) H locs → lv_has ls 6 [(5, .int (iI mn)), (4, .int (iI z_10)), (3, .int (iI N)), (2, .int (iI p)), (1, .int (iI q)), (0, .ref o)] → GG X 0 0 H locs 43 ls [] := by
    intro mn hmn H locs ls w hl
    refine r_iload_n (pc := 43) C d_L_act_43 rfl (lv_at hl 4 rfl) ?_
    refine r_bipush (pc := 44) C d_L_act_44 (by decide) ?_
    refine l_callP (pc := 46) (As := [.int (iI q), .int (iI 12)]) (rest := []) C w (c_L_up _ 12 (by omega)) ml_L_122 st_L_up ini_L cd_L_up hd_L_up rfl (by rw [hRm]; exact ⟨⟨Nat.le_of_ble_eq_true rfl, Nat.le_of_ble_eq_true rfl⟩, Nat.le_of_ble_eq_true rfl, Nat.le_of_ble_eq_true rfl⟩) hl.1 rfl (Nat.le_of_ble_eq_true rfl) d_L_act_46 (fun z_46 H locs hz_46 w => ?_)
    have hsw : z_46 = 0 ∨ z_46 = 1 ∨ z_46 = 2 ∨ z_46 = 3 ∨ z_46 = 4 ∨ z_46 = 5 ∨ z_46 = 6 ∨ z_46 = 7 ∨ z_46 = 8 ∨ z_46 = 9 ∨ z_46 = 10 ∨ (z_46 < 0 ∨ 10 < z_46) := by omega
    rcases hsw with hsw | hsw | hsw | hsw | hsw | hsw | hsw | hsw | hsw | hsw | hsw | hsw
    · skip
      refine r_switchIn (pc := 49) (off := 59) (tgt := 108) C (by omega) (by omega) (by rw [hsw]; rfl) (by decide) d_L_act_49 ?_
      refine r_aload_n (pc := 108) C d_L_act_108 rfl (lv_at hl 5 rfl) ?_
      refine r_iload (pc := 109) C d_L_act_109 (lv_at hl 1 rfl) ?_
      refine r_iload_n (pc := 111) C d_L_act_111 rfl (lv_at hl 4 rfl) ?_
      refine r_iconst (pc := 112) C d_L_act_112 ?_
      refine r_ishr (pc := 113) C d_L_act_113 ?_
      refine r_top (y := iI ((iI q >>> (iI 4 &&& 31)).toInt)) ((iI_of _).symm) ?_
      refine r_bipush (pc := 114) C d_L_act_114 (by decide) ?_
      refine l_callP (pc := 116) (As := [.int (iI ((iI q >>> (iI 4 &&& 31)).toInt)), .int (iI 11)]) (rest := [.int (iI z_10), .ref o]) C w (c_L_up _ 11 (by omega)) ml_L_122 st_L_up ini_L cd_L_up hd_L_up rfl (by rw [hRm]; exact ⟨⟨Nat.le_of_ble_eq_true rfl, Nat.le_of_ble_eq_true rfl⟩, Nat.le_of_ble_eq_true rfl, Nat.le_of_ble_eq_true rfl⟩) hl.1 rfl (Nat.le_of_ble_eq_true rfl) d_L_act_116 (fun z_116 H locs hz_116 w => ?_)
      refine r_iload (pc := 119) C d_L_act_119 (lv_at hl 0 rfl) ?_
      refine l_callV (pc := 121) (As := [.int (iI z_10), .int (iI z_116), .int (iI mn)]) (rest := []) C w (fun ws hA => c_D_insert hT o _ ws hA z_10 z_116 mn ⟨by omega, by omega, by omega⟩) ml_L_30 im_D_insert se_D_insert cd_D_insert hd_D_insert rfl (by rw [hRm]; exact ⟨⟨Nat.le_of_ble_eq_true rfl, Nat.le_of_ble_eq_true rfl⟩, Nat.le_of_ble_eq_true rfl, Nat.le_of_ble_eq_true rfl⟩) hl.1 rfl (Nat.le_of_ble_eq_true rfl) d_L_act_121 (fun z_121 A_121 H locs hz_121 w => ?_)
      exact kret _ _ _ _ z_121 _ d_L_act_124 w (q_act hz_121 (by unfold errIns; (repeat' split) <;> omega) (fun _ => by omega))
    · skip
      refine r_switchIn (pc := 49) (off := 59) (tgt := 108) C (by omega) (by omega) (by rw [hsw]; rfl) (by decide) d_L_act_49 ?_
      refine r_aload_n (pc := 108) C d_L_act_108 rfl (lv_at hl 5 rfl) ?_
      refine r_iload (pc := 109) C d_L_act_109 (lv_at hl 1 rfl) ?_
      refine r_iload_n (pc := 111) C d_L_act_111 rfl (lv_at hl 4 rfl) ?_
      refine r_iconst (pc := 112) C d_L_act_112 ?_
      refine r_ishr (pc := 113) C d_L_act_113 ?_
      refine r_top (y := iI ((iI q >>> (iI 4 &&& 31)).toInt)) ((iI_of _).symm) ?_
      refine r_bipush (pc := 114) C d_L_act_114 (by decide) ?_
      refine l_callP (pc := 116) (As := [.int (iI ((iI q >>> (iI 4 &&& 31)).toInt)), .int (iI 11)]) (rest := [.int (iI z_10), .ref o]) C w (c_L_up _ 11 (by omega)) ml_L_122 st_L_up ini_L cd_L_up hd_L_up rfl (by rw [hRm]; exact ⟨⟨Nat.le_of_ble_eq_true rfl, Nat.le_of_ble_eq_true rfl⟩, Nat.le_of_ble_eq_true rfl, Nat.le_of_ble_eq_true rfl⟩) hl.1 rfl (Nat.le_of_ble_eq_true rfl) d_L_act_116 (fun z_116 H locs hz_116 w => ?_)
      refine r_iload (pc := 119) C d_L_act_119 (lv_at hl 0 rfl) ?_
      refine l_callV (pc := 121) (As := [.int (iI z_10), .int (iI z_116), .int (iI mn)]) (rest := []) C w (fun ws hA => c_D_insert hT o _ ws hA z_10 z_116 mn ⟨by omega, by omega, by omega⟩) ml_L_30 im_D_insert se_D_insert cd_D_insert hd_D_insert rfl (by rw [hRm]; exact ⟨⟨Nat.le_of_ble_eq_true rfl, Nat.le_of_ble_eq_true rfl⟩, Nat.le_of_ble_eq_true rfl, Nat.le_of_ble_eq_true rfl⟩) hl.1 rfl (Nat.le_of_ble_eq_true rfl) d_L_act_121 (fun z_121 A_121 H locs hz_121 w => ?_)
      exact kret _ _ _ _ z_121 _ d_L_act_124 w (q_act hz_121 (by unfold errIns; (repeat' split) <;> omega) (fun _ => by omega))
    · skip
      refine r_switchIn (pc := 49) (off := 59) (tgt := 108) C (by omega) (by omega) (by rw [hsw]; rfl) (by decide) d_L_act_49 ?_
      refine r_aload_n (pc := 108) C d_L_act_108 rfl (lv_at hl 5 rfl) ?_
      refine r_iload (pc := 109) C d_L_act_109 (lv_at hl 1 rfl) ?_
      refine r_iload_n (pc := 111) C d_L_act_111 rfl (lv_at hl 4 rfl) ?_
      refine r_iconst (pc := 112) C d_L_act_112 ?_
      refine r_ishr (pc := 113) C d_L_act_113 ?_
      refine r_top (y := iI ((iI q >>> (iI 4 &&& 31)).toInt)) ((iI_of _).symm) ?_
      refine r_bipush (pc := 114) C d_L_act_114 (by decide) ?_
      refine l_callP (pc := 116) (As := [.int (iI ((iI q >>> (iI 4 &&& 31)).toInt)), .int (iI 11)]) (rest := [.int (iI z_10), .ref o]) C w (c_L_up _ 11 (by omega)) ml_L_122 st_L_up ini_L cd_L_up hd_L_up rfl (by rw [hRm]; exact ⟨⟨Nat.le_of_ble_eq_true rfl, Nat.le_of_ble_eq_true rfl⟩, Nat.le_of_ble_eq_true rfl, Nat.le_of_ble_eq_true rfl⟩) hl.1 rfl (Nat.le_of_ble_eq_true rfl) d_L_act_116 (fun z_116 H locs hz_116 w => ?_)
      refine r_iload (pc := 119) C d_L_act_119 (lv_at hl 0 rfl) ?_
      refine l_callV (pc := 121) (As := [.int (iI z_10), .int (iI z_116), .int (iI mn)]) (rest := []) C w (fun ws hA => c_D_insert hT o _ ws hA z_10 z_116 mn ⟨by omega, by omega, by omega⟩) ml_L_30 im_D_insert se_D_insert cd_D_insert hd_D_insert rfl (by rw [hRm]; exact ⟨⟨Nat.le_of_ble_eq_true rfl, Nat.le_of_ble_eq_true rfl⟩, Nat.le_of_ble_eq_true rfl, Nat.le_of_ble_eq_true rfl⟩) hl.1 rfl (Nat.le_of_ble_eq_true rfl) d_L_act_121 (fun z_121 A_121 H locs hz_121 w => ?_)
      exact kret _ _ _ _ z_121 _ d_L_act_124 w (q_act hz_121 (by unfold errIns; (repeat' split) <;> omega) (fun _ => by omega))
    · skip
      refine r_switchIn (pc := 49) (off := 76) (tgt := 125) C (by omega) (by omega) (by rw [hsw]; rfl) (by decide) d_L_act_49 ?_
      refine r_aload_n (pc := 125) C d_L_act_125 rfl (lv_at hl 5 rfl) ?_
      refine r_iload (pc := 126) C d_L_act_126 (lv_at hl 1 rfl) ?_
      refine r_iload (pc := 128) C d_L_act_128 (lv_at hl 0 rfl) ?_
      refine l_callV (pc := 130) (As := [.int (iI z_10), .int (iI mn)]) (rest := []) C w (fun ws hA => c_D_erase hT o _ ws hA z_10 mn ⟨by omega, by omega⟩) ml_L_34 im_D_erase se_D_erase cd_D_erase hd_D_erase rfl (by rw [hRm]; exact ⟨⟨Nat.le_of_ble_eq_true rfl, Nat.le_of_ble_eq_true rfl⟩, Nat.le_of_ble_eq_true rfl, Nat.le_of_ble_eq_true rfl⟩) hl.1 rfl (Nat.le_of_ble_eq_true rfl) d_L_act_130 (fun z_130 A_130 H locs hz_130 w => ?_)
      exact kret _ _ _ _ z_130 _ d_L_act_133 w (q_act hz_130 (by unfold errEr; (repeat' split) <;> omega) (fun q9 => by unfold errEr at q9; (repeat' split at q9) <;> omega))
    · skip
      refine r_switchIn (pc := 49) (off := 85) (tgt := 134) C (by omega) (by omega) (by rw [hsw]; rfl) (by decide) d_L_act_49 ?_
      refine r_aload_n (pc := 134) C d_L_act_134 rfl (lv_at hl 5 rfl) ?_
      refine r_iload (pc := 135) C d_L_act_135 (lv_at hl 1 rfl) ?_
      refine r_iload (pc := 137) C d_L_act_137 (lv_at hl 0 rfl) ?_
      refine r_iload_n (pc := 139) C d_L_act_139 rfl (lv_at hl 4 rfl) ?_
      refine r_iconst (pc := 140) C d_L_act_140 ?_
      refine r_ishr (pc := 141) C d_L_act_141 ?_
      refine r_top (y := iI ((iI q >>> (iI 4 &&& 31)).toInt)) ((iI_of _).symm) ?_
      refine r_bipush (pc := 142) C d_L_act_142 (by decide) ?_
      refine l_callP (pc := 144) (As := [.int (iI ((iI q >>> (iI 4 &&& 31)).toInt)), .int (iI 10)]) (rest := [.int (iI mn), .int (iI z_10), .ref o]) C w (c_L_up _ 10 (by omega)) ml_L_122 st_L_up ini_L cd_L_up hd_L_up rfl (by rw [hRm]; exact ⟨⟨Nat.le_of_ble_eq_true rfl, Nat.le_of_ble_eq_true rfl⟩, Nat.le_of_ble_eq_true rfl, Nat.le_of_ble_eq_true rfl⟩) hl.1 rfl (Nat.le_of_ble_eq_true rfl) d_L_act_144 (fun z_144 H locs hz_144 w => ?_)
      refine l_callV (pc := 147) (As := [.int (iI z_10), .int (iI mn), .int (iI z_144)]) (rest := []) C w (fun ws hA => c_D_write hT o _ ws hA z_10 mn z_144 ⟨by omega, by omega, by omega⟩) ml_L_37 im_D_write se_D_write cd_D_write hd_D_write rfl (by rw [hRm]; exact ⟨⟨Nat.le_of_ble_eq_true rfl, Nat.le_of_ble_eq_true rfl⟩, Nat.le_of_ble_eq_true rfl, Nat.le_of_ble_eq_true rfl⟩) hl.1 rfl (Nat.le_of_ble_eq_true rfl) d_L_act_147 (fun z_147 A_147 H locs hz_147 w => ?_)
      exact kret _ _ _ _ z_147 _ d_L_act_150 w (q_act hz_147 (by unfold errWr; (repeat' split) <;> omega) (fun _ => edc_nonneg _ _ _ _ _ hN0 hN3))
    · skip
      refine r_switchIn (pc := 49) (off := 85) (tgt := 134) C (by omega) (by omega) (by rw [hsw]; rfl) (by decide) d_L_act_49 ?_
      refine r_aload_n (pc := 134) C d_L_act_134 rfl (lv_at hl 5 rfl) ?_
      refine r_iload (pc := 135) C d_L_act_135 (lv_at hl 1 rfl) ?_
      refine r_iload (pc := 137) C d_L_act_137 (lv_at hl 0 rfl) ?_
      refine r_iload_n (pc := 139) C d_L_act_139 rfl (lv_at hl 4 rfl) ?_
      refine r_iconst (pc := 140) C d_L_act_140 ?_
      refine r_ishr (pc := 141) C d_L_act_141 ?_
      refine r_top (y := iI ((iI q >>> (iI 4 &&& 31)).toInt)) ((iI_of _).symm) ?_
      refine r_bipush (pc := 142) C d_L_act_142 (by decide) ?_
      refine l_callP (pc := 144) (As := [.int (iI ((iI q >>> (iI 4 &&& 31)).toInt)), .int (iI 10)]) (rest := [.int (iI mn), .int (iI z_10), .ref o]) C w (c_L_up _ 10 (by omega)) ml_L_122 st_L_up ini_L cd_L_up hd_L_up rfl (by rw [hRm]; exact ⟨⟨Nat.le_of_ble_eq_true rfl, Nat.le_of_ble_eq_true rfl⟩, Nat.le_of_ble_eq_true rfl, Nat.le_of_ble_eq_true rfl⟩) hl.1 rfl (Nat.le_of_ble_eq_true rfl) d_L_act_144 (fun z_144 H locs hz_144 w => ?_)
      refine l_callV (pc := 147) (As := [.int (iI z_10), .int (iI mn), .int (iI z_144)]) (rest := []) C w (fun ws hA => c_D_write hT o _ ws hA z_10 mn z_144 ⟨by omega, by omega, by omega⟩) ml_L_37 im_D_write se_D_write cd_D_write hd_D_write rfl (by rw [hRm]; exact ⟨⟨Nat.le_of_ble_eq_true rfl, Nat.le_of_ble_eq_true rfl⟩, Nat.le_of_ble_eq_true rfl, Nat.le_of_ble_eq_true rfl⟩) hl.1 rfl (Nat.le_of_ble_eq_true rfl) d_L_act_147 (fun z_147 A_147 H locs hz_147 w => ?_)
      exact kret _ _ _ _ z_147 _ d_L_act_150 w (q_act hz_147 (by unfold errWr; (repeat' split) <;> omega) (fun _ => edc_nonneg _ _ _ _ _ hN0 hN3))
    · skip
      refine r_switchIn (pc := 49) (off := 102) (tgt := 151) C (by omega) (by omega) (by rw [hsw]; rfl) (by decide) d_L_act_49 ?_
      refine r_aload_n (pc := 151) C d_L_act_151 rfl (lv_at hl 5 rfl) ?_
      refine r_iload (pc := 152) C d_L_act_152 (lv_at hl 1 rfl) ?_
      refine r_iload (pc := 154) C d_L_act_154 (lv_at hl 0 rfl) ?_
      refine r_iconst (pc := 156) C d_L_act_156 ?_
      refine r_iload_n (pc := 157) C d_L_act_157 rfl (lv_at hl 4 rfl) ?_
      refine r_iconst (pc := 158) C d_L_act_158 ?_
      refine r_ishr (pc := 159) C d_L_act_159 ?_
      refine r_top (y := iI ((iI q >>> (iI 4 &&& 31)).toInt)) ((iI_of _).symm) ?_
      refine r_bipush (pc := 160) C d_L_act_160 (by decide) ?_
      refine l_callP (pc := 162) (As := [.int (iI ((iI q >>> (iI 4 &&& 31)).toInt)), .int (iI 9)]) (rest := [.int (iI 1), .int (iI mn), .int (iI z_10), .ref o]) C w (c_L_up _ 9 (by omega)) ml_L_122 st_L_up ini_L cd_L_up hd_L_up rfl (by rw [hRm]; exact ⟨⟨Nat.le_of_ble_eq_true rfl, Nat.le_of_ble_eq_true rfl⟩, Nat.le_of_ble_eq_true rfl, Nat.le_of_ble_eq_true rfl⟩) hl.1 rfl (Nat.le_of_ble_eq_true rfl) d_L_act_162 (fun z_162 H locs hz_162 w => ?_)
      refine r_iadd (pc := 165) C d_L_act_165 ?_
      refine l_callV (pc := 166) (As := [.int (iI z_10), .int (iI mn), .int (iI (1 + z_162))]) (rest := []) C w (fun ws hA => c_D_add hT o _ ws hA z_10 mn (1 + z_162) ⟨by omega, by omega, by omega⟩) ml_L_40 im_D_add se_D_add cd_D_add hd_D_add rfl (by rw [hRm]; exact ⟨⟨Nat.le_of_ble_eq_true rfl, Nat.le_of_ble_eq_true rfl⟩, Nat.le_of_ble_eq_true rfl, Nat.le_of_ble_eq_true rfl⟩) hl.1 rfl (Nat.le_of_ble_eq_true rfl) d_L_act_166 (fun z_166 A_166 H locs hz_166 w => ?_)
      exact kret _ _ _ _ z_166 _ d_L_act_169 w (q_act hz_166 (by unfold errWr; (repeat' split) <;> omega) (fun _ => edc_nonneg _ _ _ _ _ hN0 hN3))
    · skip
      refine r_switchIn (pc := 49) (off := 121) (tgt := 170) C (by omega) (by omega) (by rw [hsw]; rfl) (by decide) d_L_act_49 ?_
      refine r_aload_n (pc := 170) C d_L_act_170 rfl (lv_at hl 5 rfl) ?_
      refine r_iload (pc := 171) C d_L_act_171 (lv_at hl 1 rfl) ?_
      refine r_iload (pc := 173) C d_L_act_173 (lv_at hl 0 rfl) ?_
      refine l_callV (pc := 175) (As := [.int (iI z_10), .int (iI mn)]) (rest := []) C w (fun ws hA => c_D_kill hT o _ ws hA z_10 mn ⟨by omega, by omega⟩) ml_L_43 im_D_kill se_D_kill cd_D_kill hd_D_kill rfl (by rw [hRm]; exact ⟨⟨Nat.le_of_ble_eq_true rfl, Nat.le_of_ble_eq_true rfl⟩, Nat.le_of_ble_eq_true rfl, Nat.le_of_ble_eq_true rfl⟩) hl.1 rfl (Nat.le_of_ble_eq_true rfl) d_L_act_175 (fun z_175 A_175 H locs hz_175 w => ?_)
      exact kret _ _ _ _ z_175 _ d_L_act_178 w (q_act hz_175 (by unfold pieceE; (repeat' split) <;> omega) (fun _ => edc_nonneg _ _ _ _ _ hN0 hN3))
    · skip
      refine r_switchIn (pc := 49) (off := 130) (tgt := 179) C (by omega) (by omega) (by rw [hsw]; rfl) (by decide) d_L_act_49 ?_
      refine r_aload_n (pc := 179) C d_L_act_179 rfl (lv_at hl 5 rfl) ?_
      refine r_iload (pc := 180) C d_L_act_180 (lv_at hl 1 rfl) ?_
      refine r_iload (pc := 182) C d_L_act_182 (lv_at hl 0 rfl) ?_
      refine l_callV (pc := 184) (As := [.int (iI z_10), .int (iI mn)]) (rest := []) C w (fun ws hA => c_D_revive hT o _ ws hA z_10 mn ⟨by omega, by omega⟩) ml_L_46 im_D_revive se_D_revive cd_D_revive hd_D_revive rfl (by rw [hRm]; exact ⟨⟨Nat.le_of_ble_eq_true rfl, Nat.le_of_ble_eq_true rfl⟩, Nat.le_of_ble_eq_true rfl, Nat.le_of_ble_eq_true rfl⟩) hl.1 rfl (Nat.le_of_ble_eq_true rfl) d_L_act_184 (fun z_184 A_184 H locs hz_184 w => ?_)
      exact kret _ _ _ _ z_184 _ d_L_act_187 w (q_act hz_184 (by unfold pieceE; (repeat' split) <;> omega) (fun _ => edc_nonneg _ _ _ _ _ hN0 hN3))
    · skip
      refine r_switchIn (pc := 49) (off := 139) (tgt := 188) C (by omega) (by omega) (by rw [hsw]; rfl) (by decide) d_L_act_49 ?_
      refine r_aload_n (pc := 188) C d_L_act_188 rfl (lv_at hl 5 rfl) ?_
      refine r_iload (pc := 189) C d_L_act_189 (lv_at hl 1 rfl) ?_
      refine r_iload (pc := 191) C d_L_act_191 (lv_at hl 0 rfl) ?_
      refine l_callV (pc := 193) (As := [.int (iI z_10), .int (iI mn)]) (rest := []) C w (fun ws hA => c_D_turn hT o _ ws hA z_10 mn ⟨by omega, by omega⟩) ml_L_49 im_D_turn se_D_turn cd_D_turn hd_D_turn rfl (by rw [hRm]; exact ⟨⟨Nat.le_of_ble_eq_true rfl, Nat.le_of_ble_eq_true rfl⟩, Nat.le_of_ble_eq_true rfl, Nat.le_of_ble_eq_true rfl⟩) hl.1 rfl (Nat.le_of_ble_eq_true rfl) d_L_act_193 (fun z_193 A_193 H locs hz_193 w => ?_)
      exact kret _ _ _ _ z_193 _ d_L_act_196 w (q_act hz_193 (by unfold pieceE; (repeat' split) <;> omega) (fun _ => rc_rg _ hN0 hN3))
    · skip
      refine r_switchIn (pc := 49) (off := 148) (tgt := 197) C (by omega) (by omega) (by rw [hsw]; rfl) (by decide) d_L_act_49 ?_
      refine r_aload_n (pc := 197) C d_L_act_197 rfl (lv_at hl 5 rfl) ?_
      refine r_iload (pc := 198) C d_L_act_198 (lv_at hl 1 rfl) ?_
      refine r_iload (pc := 200) C d_L_act_200 (lv_at hl 0 rfl) ?_
      refine r_iload_n (pc := 202) C d_L_act_202 rfl (lv_at hl 4 rfl) ?_
      refine r_iconst (pc := 203) C d_L_act_203 ?_
      refine r_ishr (pc := 204) C d_L_act_204 ?_
      refine r_top (y := iI ((iI q >>> (iI 4 &&& 31)).toInt)) ((iI_of _).symm) ?_
      refine r_iload_n (pc := 205) C d_L_act_205 rfl (lv_at hl 2 rfl) ?_
      refine r_iconst (pc := 206) C d_L_act_206 ?_
      refine r_iadd (pc := 207) C d_L_act_207 ?_
      refine l_callP (pc := 208) (As := [.int (iI ((iI q >>> (iI 4 &&& 31)).toInt)), .int (iI (N + 1))]) (rest := [.int (iI mn), .int (iI z_10), .ref o]) C w (c_L_up _ (N + 1) (by omega)) ml_L_122 st_L_up ini_L cd_L_up hd_L_up rfl (by rw [hRm]; exact ⟨⟨Nat.le_of_ble_eq_true rfl, Nat.le_of_ble_eq_true rfl⟩, Nat.le_of_ble_eq_true rfl, Nat.le_of_ble_eq_true rfl⟩) hl.1 rfl (Nat.le_of_ble_eq_true rfl) d_L_act_208 (fun z_208 H locs hz_208 w => ?_)
      refine l_callV (pc := 211) (As := [.int (iI z_10), .int (iI mn), .int (iI z_208)]) (rest := []) C w (fun ws hA => c_D_move hT o _ ws hA z_10 mn z_208 ⟨by omega, by omega, by omega⟩) ml_L_52 im_D_move se_D_move cd_D_move hd_D_move rfl (by rw [hRm]; exact ⟨⟨Nat.le_of_ble_eq_true rfl, Nat.le_of_ble_eq_true rfl⟩, Nat.le_of_ble_eq_true rfl, Nat.le_of_ble_eq_true rfl⟩) hl.1 rfl (Nat.le_of_ble_eq_true rfl) d_L_act_211 (fun z_211 A_211 H locs hz_211 w => ?_)
      exact kret _ _ _ _ z_211 _ d_L_act_214 w (q_act hz_211 (by unfold errMv; (repeat' split) <;> omega) (fun _ => rc_rg _ hN0 hN3))
    · skip
      refine r_switchOut (pc := 49) (tgt := 215) C (by omega) hsw (by decide) d_L_act_49 ?_
      refine r_aload_n (pc := 215) C d_L_act_215 rfl (lv_at hl 5 rfl) ?_
      refine r_iload_n (pc := 216) C d_L_act_216 rfl (lv_at hl 4 rfl) ?_
      refine r_iconst (pc := 217) C d_L_act_217 ?_
      refine r_ishr (pc := 218) C d_L_act_218 ?_
      refine r_top (y := iI ((iI q >>> (iI 4 &&& 31)).toInt)) ((iI_of _).symm) ?_
      refine r_iconst (pc := 219) C d_L_act_219 ?_
      refine r_iand (pc := 220) C d_L_act_220 ?_
      refine r_top (y := iI ((iI ((iI q >>> (iI 4 &&& 31)).toInt) &&& iI 1).toInt)) ((iI_of _).symm) ?_
      refine r_iload_n (pc := 221) C d_L_act_221 rfl (lv_at hl 4 rfl) ?_
      refine r_iconst (pc := 222) C d_L_act_222 ?_
      refine r_ishr (pc := 223) C d_L_act_223 ?_
      refine r_top (y := iI ((iI q >>> (iI 5 &&& 31)).toInt)) ((iI_of _).symm) ?_
      refine r_iconst (pc := 224) C d_L_act_224 ?_
      refine l_callP (pc := 225) (As := [.int (iI ((iI q >>> (iI 5 &&& 31)).toInt)), .int (iI 3)]) (rest := [.int (iI ((iI ((iI q >>> (iI 4 &&& 31)).toInt) &&& iI 1).toInt)), .ref o]) C w (c_L_up _ 3 (by omega)) ml_L_122 st_L_up ini_L cd_L_up hd_L_up rfl (by rw [hRm]; exact ⟨⟨Nat.le_of_ble_eq_true rfl, Nat.le_of_ble_eq_true rfl⟩, Nat.le_of_ble_eq_true rfl, Nat.le_of_ble_eq_true rfl⟩) hl.1 rfl (Nat.le_of_ble_eq_true rfl) d_L_act_225 (fun z_225 H locs hz_225 w => ?_)
      refine l_callV (pc := 228) (As := [.int (iI ((iI ((iI q >>> (iI 4 &&& 31)).toInt) &&& iI 1).toInt)), .int (iI z_225)]) (rest := []) C w (fun ws hA => c_D_set hT o _ ws hA ((iI ((iI q >>> (iI 4 &&& 31)).toInt) &&& iI 1).toInt) z_225 ⟨iI_rg _, by omega⟩) ml_L_27 im_D_set se_D_set cd_D_set hd_D_set rfl (by rw [hRm]; exact ⟨⟨Nat.le_of_ble_eq_true rfl, Nat.le_of_ble_eq_true rfl⟩, Nat.le_of_ble_eq_true rfl, Nat.le_of_ble_eq_true rfl⟩) hl.1 rfl (Nat.le_of_ble_eq_true rfl) d_L_act_228 (fun z_228 A_228 H locs hz_228 w => ?_)
      exact kret _ _ _ _ z_228 _ d_L_act_231 w (q_act hz_228 (by unfold errSet; (repeat' split) <;> omega) (fun _ => by split <;> omega))
  refine r_iconst (pc := 15) C d_L_act_15 ?_
  refine r_iload_n (pc := 16) C d_L_act_16 rfl (lv_at hl 4 rfl) ?_
  refine r_bipush (pc := 17) C d_L_act_17 (by decide) ?_
  refine r_ishr (pc := 19) C d_L_act_19 ?_
  refine r_iload_n (pc := 20) C d_L_act_20 rfl (lv_at hl 4 rfl) ?_
  refine r_bipush (pc := 21) C d_L_act_21 (by decide) ?_
  refine r_ishr (pc := 23) C d_L_act_23 ?_
  refine r_top (y := iI ((iI p >>> (iI 20 &&& 31)).toInt)) ((iI_of _).symm) ?_
  refine r_iconst (pc := 24) C d_L_act_24 ?_
  refine r_iand (pc := 25) C d_L_act_25 ?_
  refine r_top (y := iI ((iI ((iI p >>> (iI 20 &&& 31)).toInt) &&& iI 3).toInt)) ((iI_of _).symm) ?_
  refine r_if_ne (pc := 26) (tgt := 35) C (iI_rg _) d_L_act_26 (by decide) (fun c_26 => ?_) (fun c_26 => ?_)
  · skip
    refine r_bipush (pc := 35) C d_L_act_35 (by decide) ?_
    refine l_callP (pc := 37) (As := [.int ((iI p) >>> ((iI 9) &&& 31)), .int (iI 9)]) (rest := [.int (iI 1)]) C w (c_L_up _ 9 (by omega)) ml_L_122 st_L_up ini_L cd_L_up hd_L_up rfl (by rw [hRm]; exact ⟨⟨Nat.le_of_ble_eq_true rfl, Nat.le_of_ble_eq_true rfl⟩, Nat.le_of_ble_eq_true rfl, Nat.le_of_ble_eq_true rfl⟩) hl.1 rfl (Nat.le_of_ble_eq_true rfl) d_L_act_37 (fun z_37 H locs hz_37 w => ?_)
    refine r_iadd (pc := 40) C d_L_act_40 ?_
    refine r_istore (pc := 41) (lv' := [(5, .int (iI (1 + z_37))), (4, .int (iI z_10)), (3, .int (iI N)), (0, .ref o), (1, .int (iI q)), (2, .int (iI p))]) C d_L_act_41 hl (by decide) rfl (fun ls hl => ?_)
    exact J43 (1 + z_37) (by omega) _ _ _ w (lv_sub hl [0, 1, 2, 5, 4, 3] rfl)
  · skip
    refine r_sipush (pc := 29) C d_L_act_29 (by decide) ?_
    refine r_goto (pc := 32) (tgt := 37) C d_L_act_32 (by decide) ?_
    refine l_callP (pc := 37) (As := [.int ((iI p) >>> ((iI 9) &&& 31)), .int (iI 200)]) (rest := [.int (iI 1)]) C w (c_L_up _ 200 (by omega)) ml_L_122 st_L_up ini_L cd_L_up hd_L_up rfl (by rw [hRm]; exact ⟨⟨Nat.le_of_ble_eq_true rfl, Nat.le_of_ble_eq_true rfl⟩, Nat.le_of_ble_eq_true rfl, Nat.le_of_ble_eq_true rfl⟩) hl.1 rfl (Nat.le_of_ble_eq_true rfl) d_L_act_37 (fun z_37 H locs hz_37 w => ?_)
    refine r_iadd (pc := 40) C d_L_act_40 ?_
    refine r_istore (pc := 41) (lv' := [(5, .int (iI (1 + z_37))), (4, .int (iI z_10)), (3, .int (iI N)), (0, .ref o), (1, .int (iI q)), (2, .int (iI p))]) C d_L_act_41 hl (by decide) rfl (fun ls hl => ?_)
    exact J43 (1 + z_37) (by omega) _ _ _ w (lv_sub hl [0, 1, 2, 5, 4, 3] rfl)
