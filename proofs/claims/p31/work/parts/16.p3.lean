/-! the pad of the class reads its text -/
def padw (cI : ClassId) (pa co : Nat) (m : Int) (T : Int → Int) : va_W := [(pa, .inr (2, [.ref co, .int (iI m)])), (co, aI cI 80 T)]
def dnR (p : PS_) : Int := if p.1 = 0 then p.2.1 else p.2.1 - 1
def RVp (r pl ov : Int) (sg ln : Int → Int) (p : PS_) : Prop := RV r pl ov sg ln (ps p.2.2.2 (dnR p)) (ex p.2.2.1 p.2.2.2 (dnR p))
theorem RVp.move {r pl ov d : Int} {sg ln S L S' L' : Int → Int} (h : RV r pl ov sg ln (ps L d) (ex S L d)) (hd : 0 ≤ d) (hc : ∀ j, 0 ≤ j → j < d → S j = S' j ∧ L j = L' j) : RV r pl ov sg ln (ps L' d) (ex S' L' d) := by
  rw [← ps_congr (f := L) (g := L') d hd (fun j j1 j2 => (hc j j1 j2).2), ← ex_congr d hd hc]
  exact h
theorem RVp.add {r pl ov d s l : Int} {sg ln S L : Int → Int} (h : RV r pl ov sg ln (ps L d + max 0 l) (app (ex S L d) (ps L d) s)) (hd : 0 ≤ d) (hl : l = L d) (hs : s = S d) (h1 : 0 ≤ L d) : RV r pl ov sg ln (ps L (d + 1)) (ex S L (d + 1)) := by
  subst hl hs
  rw [ps_succ L hd, ex_succ S L hd]
  rw [show ps L d + max 0 (L d) = ps L d + L d by omega] at h
  exact h
theorem d_P_isDigit_0 : decode b_P_isDigit 0 = .ok (.iload_n 0, 1) := by decide +kernel
theorem d_P_isDigit_1 : decode b_P_isDigit 1 = .ok (.bipush 48, 2) := by decide +kernel
theorem d_P_isDigit_3 : decode b_P_isDigit 3 = .ok (.if_icmp .lt 13, 3) := by decide +kernel
theorem d_P_isDigit_6 : decode b_P_isDigit 6 = .ok (.iload_n 0, 1) := by decide +kernel
theorem d_P_isDigit_7 : decode b_P_isDigit 7 = .ok (.bipush 57, 2) := by decide +kernel
theorem d_P_isDigit_9 : decode b_P_isDigit 9 = .ok (.if_icmp .gt 7, 3) := by decide +kernel
theorem d_P_isDigit_12 : decode b_P_isDigit 12 = .ok (.iconst 1, 1) := by decide +kernel
theorem d_P_isDigit_13 : decode b_P_isDigit 13 = .ok (.goto 4, 3) := by decide +kernel
theorem d_P_isDigit_16 : decode b_P_isDigit 16 = .ok (.iconst 0, 1) := by decide +kernel
theorem d_P_isDigit_17 : decode b_P_isDigit 17 = .ok (.ireturn, 1) := by decide +kernel
set_option maxHeartbeats 4000000 in
set_option maxRecDepth 20000 in
theorem c_P_isDigit {l : Launch} {G : va_G} {tys : List (ClassId × FieldType)} (c : Int) (h : -2147483648 ≤ c ∧ c < 2147483648) : CTP l G tys y_P_isDigit b_P_isDigit 1 .boolean 0 0 [.int (iI c)] (fun z => (z = 1 ∧ (48 ≤ c ∧ c ≤ 57)) ∨ (z = 0 ∧ ¬ (48 ≤ c ∧ c ≤ 57))) := by
  unfold CTP
  refine mkZ (by decide) (Nat.le_of_ble_eq_true rfl) ?_
  rintro X rfl rfl rfl hRm C kret H ls w hl
  have hl : lv_has ls 1 [(0, .int (iI c))] := hl
  have w : Wd X ([]) H [] := w
  generalize ([] : List Loc) = locs at w ⊢
  refine r_iload_n (pc := 0) C d_P_isDigit_0 rfl (lv_at hl 0 rfl) ?_
  refine r_bipush (pc := 1) C d_P_isDigit_1 (by decide) ?_
  refine r_icmp_lt (pc := 3) (tgt := 16) C (by omega) d_P_isDigit_3 (by decide) (fun c_3 => ?_) (fun c_3 => ?_)
  · skip
    refine r_iconst (pc := 16) C d_P_isDigit_16 ?_
    exact kret _ _ _ _ 0 _ d_P_isDigit_17 w (by omega) (⟨rfl, by omega⟩)
  · skip
    refine r_iload_n (pc := 6) C d_P_isDigit_6 rfl (lv_at hl 0 rfl) ?_
    refine r_bipush (pc := 7) C d_P_isDigit_7 (by decide) ?_
    refine r_icmp_gt (pc := 9) (tgt := 16) C (by omega) d_P_isDigit_9 (by decide) (fun c_9 => ?_) (fun c_9 => ?_)
    · skip
      refine r_iconst (pc := 16) C d_P_isDigit_16 ?_
      exact kret _ _ _ _ 0 _ d_P_isDigit_17 w (by omega) (⟨rfl, by omega⟩)
    · skip
      refine r_iconst (pc := 12) C d_P_isDigit_12 ?_
      refine r_goto (pc := 13) (tgt := 17) C d_P_isDigit_13 (by decide) ?_
      exact kret _ _ _ _ 1 _ d_P_isDigit_17 w (by omega) (⟨rfl, by omega⟩)
theorem d_P_mayEnd_0 : decode b_P_mayEnd 0 = .ok (.iload_n 0, 1) := by decide +kernel
theorem d_P_mayEnd_1 : decode b_P_mayEnd 1 = .ok (.iconst 1, 1) := by decide +kernel
theorem d_P_mayEnd_2 : decode b_P_mayEnd 2 = .ok (.if_icmp .eq 8, 3) := by decide +kernel
theorem d_P_mayEnd_5 : decode b_P_mayEnd 5 = .ok (.iload_n 0, 1) := by decide +kernel
theorem d_P_mayEnd_6 : decode b_P_mayEnd 6 = .ok (.iconst 3, 1) := by decide +kernel
theorem d_P_mayEnd_7 : decode b_P_mayEnd 7 = .ok (.if_icmp .ne 7, 3) := by decide +kernel
theorem d_P_mayEnd_10 : decode b_P_mayEnd 10 = .ok (.iconst 1, 1) := by decide +kernel
theorem d_P_mayEnd_11 : decode b_P_mayEnd 11 = .ok (.goto 4, 3) := by decide +kernel
theorem d_P_mayEnd_14 : decode b_P_mayEnd 14 = .ok (.iconst 0, 1) := by decide +kernel
theorem d_P_mayEnd_15 : decode b_P_mayEnd 15 = .ok (.ireturn, 1) := by decide +kernel
set_option maxHeartbeats 4000000 in
set_option maxRecDepth 20000 in
theorem c_P_mayEnd {l : Launch} {G : va_G} {tys : List (ClassId × FieldType)} (c : Int) (h : 0 ≤ c ∧ c ≤ 3) : CTP l G tys y_P_mayEnd b_P_mayEnd 1 .boolean 0 0 [.int (iI c)] (fun z => (z = 1 ∧ (c = 1 ∨ c = 3)) ∨ (z = 0 ∧ ¬ (c = 1 ∨ c = 3))) := by
  unfold CTP
  refine mkZ (by decide) (Nat.le_of_ble_eq_true rfl) ?_
  rintro X rfl rfl rfl hRm C kret H ls w hl
  have hl : lv_has ls 1 [(0, .int (iI c))] := hl
  have w : Wd X ([]) H [] := w
  generalize ([] : List Loc) = locs at w ⊢
  refine r_iload_n (pc := 0) C d_P_mayEnd_0 rfl (lv_at hl 0 rfl) ?_
  refine r_iconst (pc := 1) C d_P_mayEnd_1 ?_
  refine r_icmp_eq (pc := 2) (tgt := 10) C (by omega) d_P_mayEnd_2 (by decide) (fun c_2 => ?_) (fun c_2 => ?_)
  · skip
    refine r_iconst (pc := 10) C d_P_mayEnd_10 ?_
    refine r_goto (pc := 11) (tgt := 15) C d_P_mayEnd_11 (by decide) ?_
    exact kret _ _ _ _ 1 _ d_P_mayEnd_15 w (by omega) (⟨rfl, by omega⟩)
  · skip
    refine r_iload_n (pc := 5) C d_P_mayEnd_5 rfl (lv_at hl 0 rfl) ?_
    refine r_iconst (pc := 6) C d_P_mayEnd_6 ?_
    refine r_icmp_ne (pc := 7) (tgt := 14) C (by omega) d_P_mayEnd_7 (by decide) (fun c_7 => ?_) (fun c_7 => ?_)
    · skip
      refine r_iconst (pc := 14) C d_P_mayEnd_14 ?_
      exact kret _ _ _ _ 0 _ d_P_mayEnd_15 w (by omega) (⟨rfl, by omega⟩)
    · skip
      refine r_iconst (pc := 10) C d_P_mayEnd_10 ?_
      refine r_goto (pc := 11) (tgt := 15) C d_P_mayEnd_11 (by decide) ?_
      exact kret _ _ _ _ 1 _ d_P_mayEnd_15 w (by omega) (⟨rfl, by omega⟩)
theorem d_P_continuesNumber_0 : decode b_P_continuesNumber 0 = .ok (.iload_n 1, 1) := by decide +kernel
theorem d_P_continuesNumber_1 : decode b_P_continuesNumber 1 = .ok (.invokestatic 25, 3) := by decide +kernel
theorem d_P_continuesNumber_4 : decode b_P_continuesNumber 4 = .ok (.ifCond .eq 26, 3) := by decide +kernel
theorem d_P_continuesNumber_7 : decode b_P_continuesNumber 7 = .ok (.iload_n 0, 1) := by decide +kernel
theorem d_P_continuesNumber_8 : decode b_P_continuesNumber 8 = .ok (.bipush 10, 2) := by decide +kernel
theorem d_P_continuesNumber_10 : decode b_P_continuesNumber 10 = .ok (.imul, 1) := by decide +kernel
theorem d_P_continuesNumber_11 : decode b_P_continuesNumber 11 = .ok (.iload_n 1, 1) := by decide +kernel
theorem d_P_continuesNumber_12 : decode b_P_continuesNumber 12 = .ok (.iadd, 1) := by decide +kernel
theorem d_P_continuesNumber_13 : decode b_P_continuesNumber 13 = .ok (.bipush 48, 2) := by decide +kernel
theorem d_P_continuesNumber_15 : decode b_P_continuesNumber 15 = .ok (.isub, 1) := by decide +kernel
theorem d_P_continuesNumber_16 : decode b_P_continuesNumber 16 = .ok (.iconst 1, 1) := by decide +kernel
theorem d_P_continuesNumber_17 : decode b_P_continuesNumber 17 = .ok (.sipush 3000, 3) := by decide +kernel
theorem d_P_continuesNumber_20 : decode b_P_continuesNumber 20 = .ok (.invokestatic 42, 3) := by decide +kernel
theorem d_P_continuesNumber_23 : decode b_P_continuesNumber 23 = .ok (.ifCond .eq 7, 3) := by decide +kernel
theorem d_P_continuesNumber_26 : decode b_P_continuesNumber 26 = .ok (.iconst 1, 1) := by decide +kernel
theorem d_P_continuesNumber_27 : decode b_P_continuesNumber 27 = .ok (.goto 4, 3) := by decide +kernel
theorem d_P_continuesNumber_30 : decode b_P_continuesNumber 30 = .ok (.iconst 0, 1) := by decide +kernel
theorem d_P_continuesNumber_31 : decode b_P_continuesNumber 31 = .ok (.ireturn, 1) := by decide +kernel
set_option maxHeartbeats 4000000 in
set_option maxRecDepth 20000 in
theorem c_P_continuesNumber {l : Launch} {G : va_G} {tys : List (ClassId × FieldType)} (n c : Int) (h : 0 ≤ n ∧ n ≤ 3000) (hc : 0 ≤ c ∧ c ≤ 255) : CTP l G tys y_P_continuesNumber b_P_continuesNumber 2 .boolean 1 22 [.int (iI n), .int (iI c)] (fun z => (z = 1 ∧ (48 ≤ c ∧ c ≤ 57 ∧ 1 ≤ n * 10 + c - 48 ∧ n * 10 + c - 48 ≤ 3000)) ∨ (z = 0 ∧ ¬ (48 ≤ c ∧ c ≤ 57 ∧ 1 ≤ n * 10 + c - 48 ∧ n * 10 + c - 48 ≤ 3000))) := by
  unfold CTP
  refine mkZ (by decide) (Nat.le_of_ble_eq_true rfl) ?_
  rintro X rfl rfl rfl hRm C kret H ls w hl
  have hl : lv_has ls 2 [(0, .int (iI n)), (1, .int (iI c))] := hl
  have w : Wd X ([]) H [] := w
  generalize ([] : List Loc) = locs at w ⊢
  refine r_iload_n (pc := 0) C d_P_continuesNumber_0 rfl (lv_at hl 1 rfl) ?_
  refine r_callP (pc := 1) (As := [.int (iI c)]) (rest := []) C w (c_P_isDigit c (by omega)) ml_P_25 st_P_isDigit ini_P cd_P_isDigit hd_P_isDigit rfl (by rw [hRm]; exact ⟨⟨Nat.le_of_ble_eq_true rfl, Nat.le_of_ble_eq_true rfl⟩, Nat.le_of_ble_eq_true rfl, Nat.le_of_ble_eq_true rfl⟩) hl.1 rfl (Nat.le_of_ble_eq_true rfl) d_P_continuesNumber_1 (fun z_1 H locs hz_1 w => ?_)
  refine r_if_eq (pc := 4) (tgt := 30) C (by omega) d_P_continuesNumber_4 (by decide) (fun c_4 => ?_) (fun c_4 => ?_)
  · skip
    have hb_4 : ¬ (48 ≤ c ∧ c ≤ 57) := by omega
    clear hz_1 c_4
    refine r_iconst (pc := 30) C d_P_continuesNumber_30 ?_
    exact kret _ _ _ _ 0 _ d_P_continuesNumber_31 w (by omega) (⟨rfl, by omega⟩)
  · skip
    have hb_4 : 48 ≤ c ∧ c ≤ 57 := by omega
    clear hz_1 c_4
    refine r_iload_n (pc := 7) C d_P_continuesNumber_7 rfl (lv_at hl 0 rfl) ?_
    refine r_bipush (pc := 8) C d_P_continuesNumber_8 (by decide) ?_
    refine r_imul (pc := 10) C d_P_continuesNumber_10 ?_
    refine r_iload_n (pc := 11) C d_P_continuesNumber_11 rfl (lv_at hl 1 rfl) ?_
    refine r_iadd (pc := 12) C d_P_continuesNumber_12 ?_
    refine r_bipush (pc := 13) C d_P_continuesNumber_13 (by decide) ?_
    refine r_isub (pc := 15) C d_P_continuesNumber_15 ?_
    refine r_iconst (pc := 16) C d_P_continuesNumber_16 ?_
    refine r_sipush (pc := 17) C d_P_continuesNumber_17 (by decide) ?_
    refine r_callPN (pc := 20) (As := [.int (iI (((n * 10) + c) - 48)), .int (iI 1), .int (iI 3000)]) (rest := []) C w (c_D_isWithin (((n * 10) + c) - 48) 1 3000 (by omega)) rfl (by rw [hRm]; exact ⟨⟨Nat.le_of_ble_eq_true rfl, Nat.le_of_ble_eq_true rfl⟩, Nat.le_of_ble_eq_true rfl, Nat.le_of_ble_eq_true rfl⟩) hl.1 rfl (Nat.le_of_ble_eq_true rfl) d_P_continuesNumber_20 (fun z_20 H locs hz_20 w => ?_)
    refine r_if_eq (pc := 23) (tgt := 30) C (by omega) d_P_continuesNumber_23 (by decide) (fun c_23 => ?_) (fun c_23 => ?_)
    · skip
      have hb_23 : ¬ (1 ≤ (((n * 10) + c) - 48) ∧ (((n * 10) + c) - 48) ≤ 3000) := by omega
      clear hz_20 c_23
      refine r_iconst (pc := 30) C d_P_continuesNumber_30 ?_
      exact kret _ _ _ _ 0 _ d_P_continuesNumber_31 w (by omega) (⟨rfl, by omega⟩)
    · skip
      have hb_23 : 1 ≤ (((n * 10) + c) - 48) ∧ (((n * 10) + c) - 48) ≤ 3000 := by omega
      clear hz_20 c_23
      refine r_iconst (pc := 26) C d_P_continuesNumber_26 ?_
      refine r_goto (pc := 27) (tgt := 31) C d_P_continuesNumber_27 (by decide) ?_
      exact kret _ _ _ _ 1 _ d_P_continuesNumber_31 w (by omega) (⟨rfl, by omega⟩)
theorem d_P_readInto_0 : decode b_P_readInto 0 = .ok (.iconst 0, 1) := by decide +kernel
theorem d_P_readInto_1 : decode b_P_readInto 1 = .ok (.istore_n 2, 1) := by decide +kernel
theorem d_P_readInto_2 : decode b_P_readInto 2 = .ok (.iconst 0, 1) := by decide +kernel
theorem d_P_readInto_3 : decode b_P_readInto 3 = .ok (.istore_n 3, 1) := by decide +kernel
theorem d_P_readInto_4 : decode b_P_readInto 4 = .ok (.iconst 0, 1) := by decide +kernel
theorem d_P_readInto_5 : decode b_P_readInto 5 = .ok (.istore 4, 2) := by decide +kernel
theorem d_P_readInto_7 : decode b_P_readInto 7 = .ok (.iconst 0, 1) := by decide +kernel
theorem d_P_readInto_8 : decode b_P_readInto 8 = .ok (.istore 5, 2) := by decide +kernel
theorem d_P_readInto_10 : decode b_P_readInto 10 = .ok (.iload 5, 2) := by decide +kernel
theorem d_P_readInto_12 : decode b_P_readInto 12 = .ok (.aload_n 0, 1) := by decide +kernel
theorem d_P_readInto_13 : decode b_P_readInto 13 = .ok (.getfield 15, 3) := by decide +kernel
theorem d_P_readInto_16 : decode b_P_readInto 16 = .ok (.if_icmp .ge 145, 3) := by decide +kernel
theorem d_P_readInto_19 : decode b_P_readInto 19 = .ok (.aload_n 0, 1) := by decide +kernel
theorem d_P_readInto_20 : decode b_P_readInto 20 = .ok (.getfield 11, 3) := by decide +kernel
theorem d_P_readInto_23 : decode b_P_readInto 23 = .ok (.iload 5, 2) := by decide +kernel
theorem d_P_readInto_25 : decode b_P_readInto 25 = .ok (.iaload, 1) := by decide +kernel
theorem d_P_readInto_26 : decode b_P_readInto 26 = .ok (.istore 6, 2) := by decide +kernel
theorem d_P_readInto_28 : decode b_P_readInto 28 = .ok (.iload_n 2, 1) := by decide +kernel
theorem d_P_readInto_29 : decode b_P_readInto 29 = .ok (.ifCond .ne 44, 3) := by decide +kernel
theorem d_P_readInto_32 : decode b_P_readInto 32 = .ok (.iload 6, 2) := by decide +kernel
theorem d_P_readInto_34 : decode b_P_readInto 34 = .ok (.bipush 120, 2) := by decide +kernel
theorem d_P_readInto_36 : decode b_P_readInto 36 = .ok (.if_icmp .eq 11, 3) := by decide +kernel
theorem d_P_readInto_39 : decode b_P_readInto 39 = .ok (.iload 6, 2) := by decide +kernel
theorem d_P_readInto_41 : decode b_P_readInto 41 = .ok (.invokestatic 25, 3) := by decide +kernel
theorem d_P_readInto_44 : decode b_P_readInto 44 = .ok (.ifCond .eq 29, 3) := by decide +kernel
theorem d_P_readInto_47 : decode b_P_readInto 47 = .ok (.iload 6, 2) := by decide +kernel
theorem d_P_readInto_49 : decode b_P_readInto 49 = .ok (.bipush 120, 2) := by decide +kernel
theorem d_P_readInto_51 : decode b_P_readInto 51 = .ok (.if_icmp .ne 8, 3) := by decide +kernel
theorem d_P_readInto_54 : decode b_P_readInto 54 = .ok (.bipush 10, 2) := by decide +kernel
theorem d_P_readInto_56 : decode b_P_readInto 56 = .ok (.goto 8, 3) := by decide +kernel
theorem d_P_readInto_59 : decode b_P_readInto 59 = .ok (.iload 6, 2) := by decide +kernel
theorem d_P_readInto_61 : decode b_P_readInto 61 = .ok (.bipush 48, 2) := by decide +kernel
theorem d_P_readInto_63 : decode b_P_readInto 63 = .ok (.isub, 1) := by decide +kernel
theorem d_P_readInto_64 : decode b_P_readInto 64 = .ok (.istore_n 3, 1) := by decide +kernel
theorem d_P_readInto_65 : decode b_P_readInto 65 = .ok (.iconst 1, 1) := by decide +kernel
theorem d_P_readInto_66 : decode b_P_readInto 66 = .ok (.istore 4, 2) := by decide +kernel
theorem d_P_readInto_68 : decode b_P_readInto 68 = .ok (.iconst 1, 1) := by decide +kernel
theorem d_P_readInto_69 : decode b_P_readInto 69 = .ok (.istore_n 2, 1) := by decide +kernel
theorem d_P_readInto_70 : decode b_P_readInto 70 = .ok (.goto 85, 3) := by decide +kernel
theorem d_P_readInto_73 : decode b_P_readInto 73 = .ok (.iload 6, 2) := by decide +kernel
theorem d_P_readInto_75 : decode b_P_readInto 75 = .ok (.bipush 42, 2) := by decide +kernel
theorem d_P_readInto_77 : decode b_P_readInto 77 = .ok (.if_icmp .ne 16, 3) := by decide +kernel
theorem d_P_readInto_80 : decode b_P_readInto 80 = .ok (.iload_n 2, 1) := by decide +kernel
theorem d_P_readInto_81 : decode b_P_readInto 81 = .ok (.iconst 1, 1) := by decide +kernel
theorem d_P_readInto_82 : decode b_P_readInto 82 = .ok (.if_icmp .ne 11, 3) := by decide +kernel
theorem d_P_readInto_85 : decode b_P_readInto 85 = .ok (.iconst 0, 1) := by decide +kernel
theorem d_P_readInto_86 : decode b_P_readInto 86 = .ok (.istore 4, 2) := by decide +kernel
theorem d_P_readInto_88 : decode b_P_readInto 88 = .ok (.iconst 2, 1) := by decide +kernel
theorem d_P_readInto_89 : decode b_P_readInto 89 = .ok (.istore_n 2, 1) := by decide +kernel
theorem d_P_readInto_90 : decode b_P_readInto 90 = .ok (.goto 65, 3) := by decide +kernel
theorem d_P_readInto_93 : decode b_P_readInto 93 = .ok (.iload 6, 2) := by decide +kernel
theorem d_P_readInto_95 : decode b_P_readInto 95 = .ok (.bipush 59, 2) := by decide +kernel
theorem d_P_readInto_97 : decode b_P_readInto 97 = .ok (.if_icmp .ne 22, 3) := by decide +kernel
theorem d_P_readInto_100 : decode b_P_readInto 100 = .ok (.iload_n 2, 1) := by decide +kernel
theorem d_P_readInto_101 : decode b_P_readInto 101 = .ok (.invokestatic 29, 3) := by decide +kernel
theorem d_P_readInto_104 : decode b_P_readInto 104 = .ok (.ifCond .eq 15, 3) := by decide +kernel
theorem d_P_readInto_107 : decode b_P_readInto 107 = .ok (.aload_n 1, 1) := by decide +kernel
theorem d_P_readInto_108 : decode b_P_readInto 108 = .ok (.iload_n 3, 1) := by decide +kernel
theorem d_P_readInto_109 : decode b_P_readInto 109 = .ok (.iload 4, 2) := by decide +kernel
theorem d_P_readInto_111 : decode b_P_readInto 111 = .ok (.invokevirtual 32, 3) := by decide +kernel
theorem d_P_readInto_114 : decode b_P_readInto 114 = .ok (.iconst 0, 1) := by decide +kernel
theorem d_P_readInto_115 : decode b_P_readInto 115 = .ok (.istore_n 2, 1) := by decide +kernel
theorem d_P_readInto_116 : decode b_P_readInto 116 = .ok (.goto 39, 3) := by decide +kernel
theorem d_P_readInto_119 : decode b_P_readInto 119 = .ok (.iload_n 2, 1) := by decide +kernel
theorem d_P_readInto_120 : decode b_P_readInto 120 = .ok (.iconst 2, 1) := by decide +kernel
theorem d_P_readInto_121 : decode b_P_readInto 121 = .ok (.if_icmp .lt 31, 3) := by decide +kernel
theorem d_P_readInto_124 : decode b_P_readInto 124 = .ok (.iload 4, 2) := by decide +kernel
theorem d_P_readInto_126 : decode b_P_readInto 126 = .ok (.iload 6, 2) := by decide +kernel
theorem d_P_readInto_128 : decode b_P_readInto 128 = .ok (.invokestatic 38, 3) := by decide +kernel
theorem d_P_readInto_131 : decode b_P_readInto 131 = .ok (.ifCond .eq 21, 3) := by decide +kernel
theorem d_P_readInto_134 : decode b_P_readInto 134 = .ok (.iload 4, 2) := by decide +kernel
theorem d_P_readInto_136 : decode b_P_readInto 136 = .ok (.bipush 10, 2) := by decide +kernel
theorem d_P_readInto_138 : decode b_P_readInto 138 = .ok (.imul, 1) := by decide +kernel
theorem d_P_readInto_139 : decode b_P_readInto 139 = .ok (.iload 6, 2) := by decide +kernel
theorem d_P_readInto_141 : decode b_P_readInto 141 = .ok (.iadd, 1) := by decide +kernel
theorem d_P_readInto_142 : decode b_P_readInto 142 = .ok (.bipush 48, 2) := by decide +kernel
theorem d_P_readInto_144 : decode b_P_readInto 144 = .ok (.isub, 1) := by decide +kernel
theorem d_P_readInto_145 : decode b_P_readInto 145 = .ok (.istore 4, 2) := by decide +kernel
theorem d_P_readInto_147 : decode b_P_readInto 147 = .ok (.iconst 3, 1) := by decide +kernel
theorem d_P_readInto_148 : decode b_P_readInto 148 = .ok (.istore_n 2, 1) := by decide +kernel
theorem d_P_readInto_149 : decode b_P_readInto 149 = .ok (.goto 6, 3) := by decide +kernel
theorem d_P_readInto_152 : decode b_P_readInto 152 = .ok (.iload 5, 2) := by decide +kernel
theorem d_P_readInto_154 : decode b_P_readInto 154 = .ok (.ireturn, 1) := by decide +kernel
theorem d_P_readInto_155 : decode b_P_readInto 155 = .ok (.iinc 5 1, 3) := by decide +kernel
theorem d_P_readInto_158 : decode b_P_readInto 158 = .ok (.goto (-148), 3) := by decide +kernel
theorem d_P_readInto_161 : decode b_P_readInto 161 = .ok (.iload_n 2, 1) := by decide +kernel
theorem d_P_readInto_162 : decode b_P_readInto 162 = .ok (.invokestatic 29, 3) := by decide +kernel
theorem d_P_readInto_165 : decode b_P_readInto 165 = .ok (.ifCond .ne 8, 3) := by decide +kernel
theorem d_P_readInto_168 : decode b_P_readInto 168 = .ok (.aload_n 0, 1) := by decide +kernel
theorem d_P_readInto_169 : decode b_P_readInto 169 = .ok (.getfield 15, 3) := by decide +kernel
theorem d_P_readInto_172 : decode b_P_readInto 172 = .ok (.ireturn, 1) := by decide +kernel
theorem d_P_readInto_173 : decode b_P_readInto 173 = .ok (.aload_n 1, 1) := by decide +kernel
theorem d_P_readInto_174 : decode b_P_readInto 174 = .ok (.iload_n 3, 1) := by decide +kernel
theorem d_P_readInto_175 : decode b_P_readInto 175 = .ok (.iload 4, 2) := by decide +kernel
theorem d_P_readInto_177 : decode b_P_readInto 177 = .ok (.invokevirtual 32, 3) := by decide +kernel
theorem d_P_readInto_180 : decode b_P_readInto 180 = .ok (.bipush (-6), 2) := by decide +kernel
theorem d_P_readInto_182 : decode b_P_readInto 182 = .ok (.ireturn, 1) := by decide +kernel
set_option maxHeartbeats 4000000 in
set_option maxRecDepth 20000 in
theorem c_P_readInto {l : Launch} {G : va_G} {tys : List (ClassId × FieldType)} {cI cO cZ : ClassId} (hT : TY tys cI cO cZ) (pa co : Nat) (m : Int) (T : Int → Int) (q a b : Nat) (sg ln : Int → Int) (r pl ov lc sd : Int) (v0 : Int → Int) (hV : RV r pl ov sg ln 0 v0) (hm8 : 0 ≤ m ∧ m ≤ 80) (hTr : ∀ x, 0 ≤ x → x < m → 33 ≤ T x ∧ T x ≤ 126) : CTI l G tys y_P_readInto b_P_readInto 7 .int 2 43 [.ref pa, .ref q] (padw cI pa co m T ++ sw cI q a b sg ln r pl ov lc sd) (fun z u => Flt T m z ∧ ∃ (sg' ln' : Int → Int) (r' pl' ov' : Int), u = padw cI pa co m T ++ sw cI q a b sg' ln' r' pl' ov' lc sd ∧ (z = -6 → RV r' pl' ov' sg' ln' (ps (pst T m).2.2.2 (pst T m).2.1) (ex (pst T m).2.2.1 (pst T m).2.2.2 (pst T m).2.1))) := by
  refine mkI (by decide) (Nat.le_of_ble_eq_true rfl) ?_
  rintro X rfl rfl rfl hRm C kret H ls w hl
  have hl : lv_has ls 7 [(0, .ref pa), (1, .ref q)] := hl
  have w : Wd X (padw cI pa co m T ++ sw cI q a b sg ln r pl ov lc sd) H [] := w
  generalize ([] : List Loc) = locs at w ⊢
  refine r_iconst (pc := 0) C d_P_readInto_0 ?_
  refine r_istore_n (pc := 1) (lv' := [(2, .int (iI 0)), (0, .ref pa), (1, .ref q)]) C d_P_readInto_1 rfl hl (by decide) rfl (fun ls hl => ?_)
  refine r_iconst (pc := 2) C d_P_readInto_2 ?_
  refine r_istore_n (pc := 3) (lv' := [(3, .int (iI 0)), (2, .int (iI 0)), (0, .ref pa), (1, .ref q)]) C d_P_readInto_3 rfl hl (by decide) rfl (fun ls hl => ?_)
  refine r_iconst (pc := 4) C d_P_readInto_4 ?_
  refine r_istore (pc := 5) (lv' := [(4, .int (iI 0)), (3, .int (iI 0)), (2, .int (iI 0)), (0, .ref pa), (1, .ref q)]) C d_P_readInto_5 hl (by decide) rfl (fun ls hl => ?_)
  refine r_iconst (pc := 7) C d_P_readInto_7 ?_
  refine r_istore (pc := 8) (lv' := [(5, .int (iI 0)), (4, .int (iI 0)), (3, .int (iI 0)), (2, .int (iI 0)), (0, .ref pa), (1, .ref q)]) C d_P_readInto_8 hl (by decide) rfl (fun ls hl => ?_)
  have L10 : ∀ (fuel : Nat), ∀ (k : Int) (step : Int) (sign : Int) (num : Int) (sg1 : Int → Int) (ln1 : Int → Int) (r1 : Int) (pl1 : Int) (ov1 : Int), 0 ≤ k ∧ k ≤ m → lgs T k → step = (pst T k).1 → (∀ (st cT : Int) (ST LT : Int → Int), (st, cT, ST, LT) = pst T k → (st ≠ 0 → sign = ST (cT - 1)) ∧ ((st = 1 ∨ st = 3) → num = LT (cT - 1)) ∧ (st = 2 → num = 0)) → RVp r1 pl1 ov1 sg1 ln1 (pst T k) → (m - k) < (fuel : Int) → ∀ (H : Heap) (locs : List Loc) (ls : Array Slot), Wd X (padw cI pa co m T ++ sw cI q a b sg1 ln1 r1 pl1 ov1 lc sd) H locs → lv_has ls 7 [(0, .ref pa), (1, .ref q), (2, .int (iI step)), (3, .int (iI sign)), (4, .int (iI num)), (5, .int (iI k))] → GG X 0 0 H locs 10 ls [] := by
    intro fuel
    induction fuel with
    | zero =>
      intro k step sign num sg1 ln1 r1 pl1 ov1 h0 hlg hst hsn hV1 hfuel
      exact absurd hfuel (by omega)
    | succ fuel ih10 =>
      intro k step sign num sg1 ln1 r1 pl1 ov1 h0 hlg hst hsn hV1 hfuel H locs ls w hl
      refine r_iload (pc := 10) C d_P_readInto_10 (lv_at hl 5 rfl) ?_
      refine r_aload_n (pc := 12) C d_P_readInto_12 rfl (lv_at hl 0 rfl) ?_
      refine r_get (pc := 13) (v := .int (iI m)) C w i_P rfl 0 rfl 1 (by decide) fl_P_15 rfl rfl d_P_readInto_13 ?_
      refine r_icmp_ge (pc := 16) (tgt := 161) C (by omega) d_P_readInto_16 (by decide) (fun c_16 => ?_) (fun c_16 => ?_)
      · skip
        obtain ⟨⟨sT, cT, ST, LT⟩, hP⟩ : ∃ p : PS_, p = pst T k := ⟨_, rfl⟩
        have hpk := pok_at k (by omega) hlg
        rw [← hP] at hpk hst hV1
        have hst : step = sT := hst
        have p1 : sT = 0 ∨ sT = 1 ∨ sT = 2 ∨ sT = 3 := hpk.1
        have p2 : 0 ≤ cT ∧ cT ≤ k := ⟨hpk.2.1, hpk.2.2.1⟩
        have p4 : sT ≠ 0 → 1 ≤ cT := hpk.2.2.2.1
        have p5 : ∀ j, 0 ≤ j → j < cT → 1 ≤ LT j ∧ LT j ≤ 3000 ∧ 0 ≤ ST j ∧ ST j ≤ 10 := hpk.2.2.2.2
        have hsn := hsn _ _ _ _ hP
        have hkm : k = m := by omega
        have hVs : sT ≠ 0 → RV r1 pl1 ov1 sg1 ln1 (ps LT (cT - 1)) (ex ST LT (cT - 1)) := fun q => by have h9 : RVp r1 pl1 ov1 sg1 ln1 (sT, cT, ST, LT) := hV1; unfold RVp dnR at h9; rw [if_neg q] at h9; exact h9
        refine r_iload_n (pc := 161) C d_P_readInto_161 rfl (lv_at hl 2 rfl) ?_
        refine r_callP (pc := 162) (As := [.int (iI step)]) (rest := []) C w (c_P_mayEnd step (by omega)) ml_P_29 st_P_mayEnd ini_P cd_P_mayEnd hd_P_mayEnd rfl (by rw [hRm]; exact ⟨⟨Nat.le_of_ble_eq_true rfl, Nat.le_of_ble_eq_true rfl⟩, Nat.le_of_ble_eq_true rfl, Nat.le_of_ble_eq_true rfl⟩) hl.1 rfl (Nat.le_of_ble_eq_true rfl) d_P_readInto_162 (fun z_162 H locs hz_162 w => ?_)
        refine r_if_ne (pc := 165) (tgt := 173) C (by omega) d_P_readInto_165 (by decide) (fun c_165 => ?_) (fun c_165 => ?_)
        · skip
          have hVd := hVs (by omega)
          have p4 := p4 (by omega)
          have p6 := p5 (cT - 1) (by omega) (by omega)
          have q1 := hsn.1 (by omega)
          have q2 := hsn.2.1 (by omega)
          refine r_aload_n (pc := 173) C d_P_readInto_173 rfl (lv_at hl 1 rfl) ?_
          refine r_iload_n (pc := 174) C d_P_readInto_174 rfl (lv_at hl 3 rfl) ?_
          refine r_iload (pc := 175) C d_P_readInto_175 (lv_at hl 4 rfl) ?_
          refine r_callVV (pc := 177) (As := [.int (iI sign), .int (iI num)]) (rest := []) (wr := (padw cI pa co m T)) C w (c_S_append hT q a b sg1 ln1 r1 pl1 ov1 lc sd sign num _ _ hVd (by omega) (by omega)) ml_P_32 im_S_append se_S_append ini_S cd_S_append hd_S_append rfl (by rw [hRm]; exact ⟨⟨Nat.le_of_ble_eq_true rfl, Nat.le_of_ble_eq_true rfl⟩, Nat.le_of_ble_eq_true rfl, Nat.le_of_ble_eq_true rfl⟩) hl.1 [2, 3, 4] [0, 1] ⟨rfl, rfl, by decide, by decide, by decide⟩ 0 rfl rfl rfl (Nat.le_of_ble_eq_true rfl) d_P_readInto_177 (fun u_177 H locs hz_177 w => ?_)
          obtain ⟨sg_177, ln_177, r_177, pl_177, ov_177, rfl, hV_177⟩ := hz_177
          have w : Wd X (padw cI pa co m T ++ sw cI q a b sg_177 ln_177 r_177 pl_177 ov_177 lc sd) H locs := w.sub [0, 1, 2, 3, 4] rfl (by decide)
          refine r_bipush (pc := 180) C d_P_readInto_180 (by decide) ?_
          exact kret _ _ _ _ (-6) _ d_P_readInto_182 w (⟨Or.inr (Or.inl ⟨by rw [← hkm]; exact hlg, by rw [← hkm, ← hP]; show sT = 1 ∨ sT = 3; omega, rfl⟩), _, _, _, _, _, rfl, fun q => by rw [← hkm, ← hP]; have h9 := RVp.add hV_177 (by omega) q2 q1 (by omega); rw [show cT - 1 + 1 = cT by omega] at h9; exact h9⟩)
        · skip
          refine r_aload_n (pc := 168) C d_P_readInto_168 rfl (lv_at hl 0 rfl) ?_
          refine r_get (pc := 169) (v := .int (iI m)) C w i_P rfl 0 rfl 1 (by decide) fl_P_15 rfl rfl d_P_readInto_169 ?_
          exact kret _ _ _ _ m _ d_P_readInto_172 w (⟨Or.inr (Or.inr ⟨by rw [← hkm]; exact hlg, by rw [← hkm, ← hP]; show ¬ (sT = 1 ∨ sT = 3); omega, rfl⟩), _, _, _, _, _, rfl, fun q => by omega⟩)
      · skip
        refine r_aload_n (pc := 19) C d_P_readInto_19 rfl (lv_at hl 0 rfl) ?_
        refine r_get (pc := 20) (v := .ref co) C w i_P rfl 0 rfl 0 (by decide) fl_P_11 rfl rfl d_P_readInto_20 ?_
        refine r_iload (pc := 23) C d_P_readInto_23 (lv_at hl 5 rfl) ?_
        refine r_iald (pc := 25) (f := T) (i := k) C w 0 1 rfl hT.1 (by omega) d_P_readInto_25 ?_
        refine r_istore (pc := 26) (lv' := [(6, .int (iI (T k))), (0, .ref pa), (1, .ref q), (2, .int (iI step)), (3, .int (iI sign)), (4, .int (iI num)), (5, .int (iI k))]) C d_P_readInto_26 hl (by decide) rfl (fun ls hl => ?_)
        obtain ⟨⟨sT, cT, ST, LT⟩, hP⟩ : ∃ p : PS_, p = pst T k := ⟨_, rfl⟩
        have hpk := pok_at k (by omega) hlg
        rw [← hP] at hpk hst hV1
        have hst : step = sT := hst
        have p1 : sT = 0 ∨ sT = 1 ∨ sT = 2 ∨ sT = 3 := hpk.1
        have p2 : 0 ≤ cT ∧ cT ≤ k := ⟨hpk.2.1, hpk.2.2.1⟩
        have p4 : sT ≠ 0 → 1 ≤ cT := hpk.2.2.2.1
        have p5 : ∀ j, 0 ≤ j → j < cT → 1 ≤ LT j ∧ LT j ≤ 3000 ∧ 0 ≤ ST j ∧ ST j ≤ 10 := hpk.2.2.2.2
        have hsn := hsn _ _ _ _ hP
        have hpc := hTr k (by omega) (by omega)
        have hVr : sT = 0 → RV r1 pl1 ov1 sg1 ln1 (ps LT cT) (ex ST LT cT) := fun q => by have h9 : RVp r1 pl1 ov1 sg1 ln1 (sT, cT, ST, LT) := hV1; unfold RVp dnR at h9; rw [if_pos q] at h9; exact h9
        have hVs : sT ≠ 0 → RV r1 pl1 ov1 sg1 ln1 (ps LT (cT - 1)) (ex ST LT (cT - 1)) := fun q => by have h9 : RVp r1 pl1 ov1 sg1 ln1 (sT, cT, ST, LT) := hV1; unfold RVp dnR at h9; rw [if_neg q] at h9; exact h9
        refine r_iload_n (pc := 28) C d_P_readInto_28 rfl (lv_at hl 3 rfl) ?_
        refine r_if_ne (pc := 29) (tgt := 73) C (by omega) d_P_readInto_29 (by decide) (fun c_29 => ?_) (fun c_29 => ?_)
        · skip
          refine r_iload (pc := 73) C d_P_readInto_73 (lv_at hl 0 rfl) ?_
          refine r_bipush (pc := 75) C d_P_readInto_75 (by decide) ?_
          refine r_icmp_ne (pc := 77) (tgt := 93) C (by omega) d_P_readInto_77 (by decide) (fun c_77 => ?_) (fun c_77 => ?_)
          · skip
            refine r_iload (pc := 93) C d_P_readInto_93 (lv_at hl 0 rfl) ?_
            refine r_bipush (pc := 95) C d_P_readInto_95 (by decide) ?_
            refine r_icmp_ne (pc := 97) (tgt := 119) C (by omega) d_P_readInto_97 (by decide) (fun c_97 => ?_) (fun c_97 => ?_)
            · skip
              refine r_iload_n (pc := 119) C d_P_readInto_119 rfl (lv_at hl 3 rfl) ?_
              refine r_iconst (pc := 120) C d_P_readInto_120 ?_
              refine r_icmp_lt (pc := 121) (tgt := 152) C (by omega) d_P_readInto_121 (by decide) (fun c_121 => ?_) (fun c_121 => ?_)
              · skip
                refine r_iload (pc := 152) C d_P_readInto_152 (lv_at hl 6 rfl) ?_
                exact kret _ _ _ _ k _ d_P_readInto_154 w (⟨Or.inl ⟨k, by omega, by omega, hlg, by rw [← hP]; show ¬ lg (T k) sT (LT (cT - 1)); unfold lg; omega, rfl⟩, _, _, _, _, _, rfl, fun q => by omega⟩)
              · skip
                have p4 := p4 (by omega)
                have p6 := p5 (cT - 1) (by omega) (by omega)
                have q2 := hsn.2.1
                have q3 := hsn.2.2
                have q4 : 0 ≤ num ∧ num ≤ 3000 ∧ ((sT = 2 ∧ num = 0) ∨ (sT = 3 ∧ num = LT (cT - 1))) := by omega
                refine r_iload (pc := 124) C d_P_readInto_124 (lv_at hl 5 rfl) ?_
                refine r_iload (pc := 126) C d_P_readInto_126 (lv_at hl 0 rfl) ?_
                refine r_callP (pc := 128) (As := [.int (iI num), .int (iI (T k))]) (rest := []) C w (c_P_continuesNumber num (T k) (by omega) (by omega)) ml_P_38 st_P_continuesNumber ini_P cd_P_continuesNumber hd_P_continuesNumber rfl (by rw [hRm]; exact ⟨⟨Nat.le_of_ble_eq_true rfl, Nat.le_of_ble_eq_true rfl⟩, Nat.le_of_ble_eq_true rfl, Nat.le_of_ble_eq_true rfl⟩) hl.1 rfl (Nat.le_of_ble_eq_true rfl) d_P_readInto_128 (fun z_128 H locs hz_128 w => ?_)
                refine r_if_eq (pc := 131) (tgt := 152) C (by omega) d_P_readInto_131 (by decide) (fun c_131 => ?_) (fun c_131 => ?_)
                · skip
                  refine r_iload (pc := 152) C d_P_readInto_152 (lv_at hl 6 rfl) ?_
                  exact kret _ _ _ _ k _ d_P_readInto_154 w (⟨Or.inl ⟨k, by omega, by omega, hlg, by rw [← hP]; show ¬ lg (T k) sT (LT (cT - 1)); unfold lg; omega, rfl⟩, _, _, _, _, _, rfl, fun q => by omega⟩)
                · skip
                  refine r_iload (pc := 134) C d_P_readInto_134 (lv_at hl 5 rfl) ?_
                  refine r_bipush (pc := 136) C d_P_readInto_136 (by decide) ?_
                  refine r_imul (pc := 138) C d_P_readInto_138 ?_
                  refine r_iload (pc := 139) C d_P_readInto_139 (lv_at hl 0 rfl) ?_
                  refine r_iadd (pc := 141) C d_P_readInto_141 ?_
                  refine r_bipush (pc := 142) C d_P_readInto_142 (by decide) ?_
                  refine r_isub (pc := 144) C d_P_readInto_144 ?_
                  refine r_istore (pc := 145) (lv' := [(4, .int (iI (((num * 10) + (T k)) - 48))), (6, .int (iI (T k))), (0, .ref pa), (1, .ref q), (2, .int (iI step)), (3, .int (iI sign)), (5, .int (iI k))]) C d_P_readInto_145 hl (by decide) rfl (fun ls hl => ?_)
                  have hN : pst T (k + 1) = (3, cT, ST, up LT (cT - 1) (num * 10 + T k - 48)) := by
                    rw [pst_succ T (by omega), ← hP]
                    unfold pnx
                    show (if sT = 0 then _ else if T k = 42 then _ else if T k = 59 then _ else if sT = 2 then _ else _) = _
                    rw [if_neg (by omega), if_neg (by omega), if_neg (by omega)]
                    by_cases e : sT = 2
                    · rw [if_pos e, show num * 10 + T k - 48 = T k - 48 by omega]
                    · rw [if_neg e, show num * 10 + T k - 48 = 10 * LT (cT - 1) + T k - 48 by omega]
                  have hVn : RVp r1 pl1 ov1 sg1 ln1 (3, cT, ST, up LT (cT - 1) (num * 10 + T k - 48)) := by
                    unfold RVp dnR
                    rw [if_neg (show ¬ (3 : Int) = 0 by omega)]
                    exact RVp.move (hVs (by omega)) (by show 0 ≤ cT - 1; omega) (fun j j1 j2 => ⟨rfl, (up_ne _ _ (by have j2 : j < cT - 1 := j2; omega)).symm⟩)
                  refine r_iconst (pc := 147) C d_P_readInto_147 ?_
                  refine r_istore_n (pc := 148) (lv' := [(2, .int (iI 3)), (4, .int (iI (((num * 10) + (T k)) - 48))), (6, .int (iI (T k))), (0, .ref pa), (1, .ref q), (3, .int (iI sign)), (5, .int (iI k))]) C d_P_readInto_148 rfl hl (by decide) rfl (fun ls hl => ?_)
                  refine r_goto (pc := 149) (tgt := 155) C d_P_readInto_149 (by decide) ?_
                  refine r_iinc (pc := 155) (j := 6) (lv' := [(5, .int (iI (k + 1))), (2, .int (iI 3)), (4, .int (iI (((num * 10) + (T k)) - 48))), (6, .int (iI (T k))), (0, .ref pa), (1, .ref q), (3, .int (iI sign))]) C d_P_readInto_155 hl rfl (by decide) rfl (fun ls hl => ?_)
                  refine r_goto (pc := 158) (tgt := 10) C d_P_readInto_158 (by decide) ?_
                  exact ih10 (k + 1) 3 sign (((num * 10) + (T k)) - 48) sg1 ln1 r1 pl1 ov1 (by omega) ((lgs_succ hlg (by rw [← hP]; show lg (T k) sT (LT (cT - 1)); unfold lg; omega))) ((by rw [hN] <;> omega)) ((fun st c3 S3 L3 e => by rw [hN] at e; injection e with e1 e; injection e with e2 e; injection e with e3 e4; subst e1 e2 e3 e4; first | exact ⟨fun q => absurd rfl q, fun q => absurd q (by omega), fun q => absurd q (by omega)⟩ | exact ⟨fun _ => hsn.1 (by omega), fun q => absurd q (by omega), fun _ => rfl⟩ | (rw [show cT + 1 - 1 = cT by omega, up_eq, up_eq]; exact ⟨fun _ => by split <;> omega, fun _ => rfl, fun q => absurd q (by omega)⟩) | (rw [up_eq]; exact ⟨fun _ => hsn.1 (by omega), fun _ => rfl, fun q => absurd q (by omega)⟩))) ((by rw [hN]; exact hVn)) (by omega) _ _ _ w (lv_sub hl [4, 5, 1, 6, 2, 0] rfl)
            · skip
              refine r_iload_n (pc := 100) C d_P_readInto_100 rfl (lv_at hl 3 rfl) ?_
              refine r_callP (pc := 101) (As := [.int (iI step)]) (rest := []) C w (c_P_mayEnd step (by omega)) ml_P_29 st_P_mayEnd ini_P cd_P_mayEnd hd_P_mayEnd rfl (by rw [hRm]; exact ⟨⟨Nat.le_of_ble_eq_true rfl, Nat.le_of_ble_eq_true rfl⟩, Nat.le_of_ble_eq_true rfl, Nat.le_of_ble_eq_true rfl⟩) hl.1 rfl (Nat.le_of_ble_eq_true rfl) d_P_readInto_101 (fun z_101 H locs hz_101 w => ?_)
              refine r_if_eq (pc := 104) (tgt := 119) C (by omega) d_P_readInto_104 (by decide) (fun c_104 => ?_) (fun c_104 => ?_)
              · skip
                refine r_iload_n (pc := 119) C d_P_readInto_119 rfl (lv_at hl 3 rfl) ?_
                refine r_iconst (pc := 120) C d_P_readInto_120 ?_
                refine r_icmp_lt (pc := 121) (tgt := 152) C (by omega) d_P_readInto_121 (by decide) (fun c_121 => ?_) (fun c_121 => ?_)
                · skip
                  refine r_iload (pc := 152) C d_P_readInto_152 (lv_at hl 6 rfl) ?_
                  exact kret _ _ _ _ k _ d_P_readInto_154 w (⟨Or.inl ⟨k, by omega, by omega, hlg, by rw [← hP]; show ¬ lg (T k) sT (LT (cT - 1)); unfold lg; omega, rfl⟩, _, _, _, _, _, rfl, fun q => by omega⟩)
                · skip
                  have p4 := p4 (by omega)
                  have p6 := p5 (cT - 1) (by omega) (by omega)
                  have q2 := hsn.2.1
                  have q3 := hsn.2.2
                  have q4 : 0 ≤ num ∧ num ≤ 3000 ∧ ((sT = 2 ∧ num = 0) ∨ (sT = 3 ∧ num = LT (cT - 1))) := by omega
                  refine r_iload (pc := 124) C d_P_readInto_124 (lv_at hl 5 rfl) ?_
                  refine r_iload (pc := 126) C d_P_readInto_126 (lv_at hl 0 rfl) ?_
                  refine r_callP (pc := 128) (As := [.int (iI num), .int (iI (T k))]) (rest := []) C w (c_P_continuesNumber num (T k) (by omega) (by omega)) ml_P_38 st_P_continuesNumber ini_P cd_P_continuesNumber hd_P_continuesNumber rfl (by rw [hRm]; exact ⟨⟨Nat.le_of_ble_eq_true rfl, Nat.le_of_ble_eq_true rfl⟩, Nat.le_of_ble_eq_true rfl, Nat.le_of_ble_eq_true rfl⟩) hl.1 rfl (Nat.le_of_ble_eq_true rfl) d_P_readInto_128 (fun z_128 H locs hz_128 w => ?_)
                  refine r_if_eq (pc := 131) (tgt := 152) C (by omega) d_P_readInto_131 (by decide) (fun c_131 => ?_) (fun c_131 => ?_)
                  · skip
                    refine r_iload (pc := 152) C d_P_readInto_152 (lv_at hl 6 rfl) ?_
                    exact kret _ _ _ _ k _ d_P_readInto_154 w (⟨Or.inl ⟨k, by omega, by omega, hlg, by rw [← hP]; show ¬ lg (T k) sT (LT (cT - 1)); unfold lg; omega, rfl⟩, _, _, _, _, _, rfl, fun q => by omega⟩)
                  · skip
                    refine r_iload (pc := 134) C d_P_readInto_134 (lv_at hl 5 rfl) ?_
                    refine r_bipush (pc := 136) C d_P_readInto_136 (by decide) ?_
                    refine r_imul (pc := 138) C d_P_readInto_138 ?_
                    refine r_iload (pc := 139) C d_P_readInto_139 (lv_at hl 0 rfl) ?_
                    refine r_iadd (pc := 141) C d_P_readInto_141 ?_
                    refine r_bipush (pc := 142) C d_P_readInto_142 (by decide) ?_
                    refine r_isub (pc := 144) C d_P_readInto_144 ?_
                    refine r_istore (pc := 145) (lv' := [(4, .int (iI (((num * 10) + (T k)) - 48))), (6, .int (iI (T k))), (0, .ref pa), (1, .ref q), (2, .int (iI step)), (3, .int (iI sign)), (5, .int (iI k))]) C d_P_readInto_145 hl (by decide) rfl (fun ls hl => ?_)
                    have hN : pst T (k + 1) = (3, cT, ST, up LT (cT - 1) (num * 10 + T k - 48)) := by
                      rw [pst_succ T (by omega), ← hP]
                      unfold pnx
                      show (if sT = 0 then _ else if T k = 42 then _ else if T k = 59 then _ else if sT = 2 then _ else _) = _
                      rw [if_neg (by omega), if_neg (by omega), if_neg (by omega)]
                      by_cases e : sT = 2
                      · rw [if_pos e, show num * 10 + T k - 48 = T k - 48 by omega]
                      · rw [if_neg e, show num * 10 + T k - 48 = 10 * LT (cT - 1) + T k - 48 by omega]
                    have hVn : RVp r1 pl1 ov1 sg1 ln1 (3, cT, ST, up LT (cT - 1) (num * 10 + T k - 48)) := by
                      unfold RVp dnR
                      rw [if_neg (show ¬ (3 : Int) = 0 by omega)]
                      exact RVp.move (hVs (by omega)) (by show 0 ≤ cT - 1; omega) (fun j j1 j2 => ⟨rfl, (up_ne _ _ (by have j2 : j < cT - 1 := j2; omega)).symm⟩)
                    refine r_iconst (pc := 147) C d_P_readInto_147 ?_
                    refine r_istore_n (pc := 148) (lv' := [(2, .int (iI 3)), (4, .int (iI (((num * 10) + (T k)) - 48))), (6, .int (iI (T k))), (0, .ref pa), (1, .ref q), (3, .int (iI sign)), (5, .int (iI k))]) C d_P_readInto_148 rfl hl (by decide) rfl (fun ls hl => ?_)
                    refine r_goto (pc := 149) (tgt := 155) C d_P_readInto_149 (by decide) ?_
                    refine r_iinc (pc := 155) (j := 6) (lv' := [(5, .int (iI (k + 1))), (2, .int (iI 3)), (4, .int (iI (((num * 10) + (T k)) - 48))), (6, .int (iI (T k))), (0, .ref pa), (1, .ref q), (3, .int (iI sign))]) C d_P_readInto_155 hl rfl (by decide) rfl (fun ls hl => ?_)
                    refine r_goto (pc := 158) (tgt := 10) C d_P_readInto_158 (by decide) ?_
                    exact ih10 (k + 1) 3 sign (((num * 10) + (T k)) - 48) sg1 ln1 r1 pl1 ov1 (by omega) ((lgs_succ hlg (by rw [← hP]; show lg (T k) sT (LT (cT - 1)); unfold lg; omega))) ((by rw [hN] <;> omega)) ((fun st c3 S3 L3 e => by rw [hN] at e; injection e with e1 e; injection e with e2 e; injection e with e3 e4; subst e1 e2 e3 e4; first | exact ⟨fun q => absurd rfl q, fun q => absurd q (by omega), fun q => absurd q (by omega)⟩ | exact ⟨fun _ => hsn.1 (by omega), fun q => absurd q (by omega), fun _ => rfl⟩ | (rw [show cT + 1 - 1 = cT by omega, up_eq, up_eq]; exact ⟨fun _ => by split <;> omega, fun _ => rfl, fun q => absurd q (by omega)⟩) | (rw [up_eq]; exact ⟨fun _ => hsn.1 (by omega), fun _ => rfl, fun q => absurd q (by omega)⟩))) ((by rw [hN]; exact hVn)) (by omega) _ _ _ w (lv_sub hl [4, 5, 1, 6, 2, 0] rfl)
              · skip
                have hVd := hVs (by omega)
                have p4 := p4 (by omega)
                have p6 := p5 (cT - 1) (by omega) (by omega)
                have q1 := hsn.1 (by omega)
                have q2 := hsn.2.1 (by omega)
                refine r_aload_n (pc := 107) C d_P_readInto_107 rfl (lv_at hl 2 rfl) ?_
                refine r_iload_n (pc := 108) C d_P_readInto_108 rfl (lv_at hl 4 rfl) ?_
                refine r_iload (pc := 109) C d_P_readInto_109 (lv_at hl 5 rfl) ?_
                refine r_callVV (pc := 111) (As := [.int (iI sign), .int (iI num)]) (rest := []) (wr := (padw cI pa co m T)) C w (c_S_append hT q a b sg1 ln1 r1 pl1 ov1 lc sd sign num _ _ hVd (by omega) (by omega)) ml_P_32 im_S_append se_S_append ini_S cd_S_append hd_S_append rfl (by rw [hRm]; exact ⟨⟨Nat.le_of_ble_eq_true rfl, Nat.le_of_ble_eq_true rfl⟩, Nat.le_of_ble_eq_true rfl, Nat.le_of_ble_eq_true rfl⟩) hl.1 [2, 3, 4] [0, 1] ⟨rfl, rfl, by decide, by decide, by decide⟩ 0 rfl rfl rfl (Nat.le_of_ble_eq_true rfl) d_P_readInto_111 (fun u_111 H locs hz_111 w => ?_)
                obtain ⟨sg_111, ln_111, r_111, pl_111, ov_111, rfl, hV_111⟩ := hz_111
                have w : Wd X (padw cI pa co m T ++ sw cI q a b sg_111 ln_111 r_111 pl_111 ov_111 lc sd) H locs := w.sub [0, 1, 2, 3, 4] rfl (by decide)
                have hN : pst T (k + 1) = (0, cT, ST, LT) := by
                  rw [pst_succ T (by omega), ← hP]
                  unfold pnx
                  show (if sT = 0 then _ else if T k = 42 then _ else if T k = 59 then _ else if sT = 2 then _ else _) = _
                  rw [if_neg (by omega), if_neg (by omega), if_pos (by omega)]
                have hVn : RVp r_111 pl_111 ov_111 sg_111 ln_111 (0, cT, ST, LT) := by
                  unfold RVp dnR
                  rw [if_pos rfl]
                  have h9 := RVp.add hV_111 (by omega) q2 q1 (by omega)
                  rw [show cT - 1 + 1 = cT by omega] at h9
                  exact h9
                refine r_iconst (pc := 114) C d_P_readInto_114 ?_
                refine r_istore_n (pc := 115) (lv' := [(2, .int (iI 0)), (6, .int (iI (T k))), (0, .ref pa), (1, .ref q), (3, .int (iI sign)), (4, .int (iI num)), (5, .int (iI k))]) C d_P_readInto_115 rfl hl (by decide) rfl (fun ls hl => ?_)
                refine r_goto (pc := 116) (tgt := 155) C d_P_readInto_116 (by decide) ?_
                refine r_iinc (pc := 155) (j := 6) (lv' := [(5, .int (iI (k + 1))), (2, .int (iI 0)), (6, .int (iI (T k))), (0, .ref pa), (1, .ref q), (3, .int (iI sign)), (4, .int (iI num))]) C d_P_readInto_155 hl rfl (by decide) rfl (fun ls hl => ?_)
                refine r_goto (pc := 158) (tgt := 10) C d_P_readInto_158 (by decide) ?_
                exact ih10 (k + 1) 0 sign num sg_111 ln_111 r_111 pl_111 ov_111 (by omega) ((lgs_succ hlg (by rw [← hP]; show lg (T k) sT (LT (cT - 1)); unfold lg; omega))) ((by rw [hN] <;> omega)) ((fun st c3 S3 L3 e => by rw [hN] at e; injection e with e1 e; injection e with e2 e; injection e with e3 e4; subst e1 e2 e3 e4; first | exact ⟨fun q => absurd rfl q, fun q => absurd q (by omega), fun q => absurd q (by omega)⟩ | exact ⟨fun _ => hsn.1 (by omega), fun q => absurd q (by omega), fun _ => rfl⟩ | (rw [show cT + 1 - 1 = cT by omega, up_eq, up_eq]; exact ⟨fun _ => by split <;> omega, fun _ => rfl, fun q => absurd q (by omega)⟩) | (rw [up_eq]; exact ⟨fun _ => hsn.1 (by omega), fun _ => rfl, fun q => absurd q (by omega)⟩))) ((by rw [hN]; exact hVn)) (by omega) _ _ _ w (lv_sub hl [3, 4, 1, 5, 6, 0] rfl)
          · skip
            refine r_iload_n (pc := 80) C d_P_readInto_80 rfl (lv_at hl 3 rfl) ?_
            refine r_iconst (pc := 81) C d_P_readInto_81 ?_
            refine r_icmp_ne (pc := 82) (tgt := 93) C (by omega) d_P_readInto_82 (by decide) (fun c_82 => ?_) (fun c_82 => ?_)
            · skip
              refine r_iload (pc := 93) C d_P_readInto_93 (lv_at hl 0 rfl) ?_
              refine r_bipush (pc := 95) C d_P_readInto_95 (by decide) ?_
              refine r_icmp_ne (pc := 97) (tgt := 119) C (by omega) d_P_readInto_97 (by decide) (fun c_97 => ?_) (fun c_97 => ?_)
              · skip
                refine r_iload_n (pc := 119) C d_P_readInto_119 rfl (lv_at hl 3 rfl) ?_
                refine r_iconst (pc := 120) C d_P_readInto_120 ?_
                refine r_icmp_lt (pc := 121) (tgt := 152) C (by omega) d_P_readInto_121 (by decide) (fun c_121 => ?_) (fun c_121 => ?_)
                · skip
                  refine r_iload (pc := 152) C d_P_readInto_152 (lv_at hl 6 rfl) ?_
                  exact kret _ _ _ _ k _ d_P_readInto_154 w (⟨Or.inl ⟨k, by omega, by omega, hlg, by rw [← hP]; show ¬ lg (T k) sT (LT (cT - 1)); unfold lg; omega, rfl⟩, _, _, _, _, _, rfl, fun q => by omega⟩)
                · skip
                  have p4 := p4 (by omega)
                  have p6 := p5 (cT - 1) (by omega) (by omega)
                  have q2 := hsn.2.1
                  have q3 := hsn.2.2
                  have q4 : 0 ≤ num ∧ num ≤ 3000 ∧ ((sT = 2 ∧ num = 0) ∨ (sT = 3 ∧ num = LT (cT - 1))) := by omega
                  refine r_iload (pc := 124) C d_P_readInto_124 (lv_at hl 5 rfl) ?_
                  refine r_iload (pc := 126) C d_P_readInto_126 (lv_at hl 0 rfl) ?_
                  refine r_callP (pc := 128) (As := [.int (iI num), .int (iI (T k))]) (rest := []) C w (c_P_continuesNumber num (T k) (by omega) (by omega)) ml_P_38 st_P_continuesNumber ini_P cd_P_continuesNumber hd_P_continuesNumber rfl (by rw [hRm]; exact ⟨⟨Nat.le_of_ble_eq_true rfl, Nat.le_of_ble_eq_true rfl⟩, Nat.le_of_ble_eq_true rfl, Nat.le_of_ble_eq_true rfl⟩) hl.1 rfl (Nat.le_of_ble_eq_true rfl) d_P_readInto_128 (fun z_128 H locs hz_128 w => ?_)
                  refine r_if_eq (pc := 131) (tgt := 152) C (by omega) d_P_readInto_131 (by decide) (fun c_131 => ?_) (fun c_131 => ?_)
                  · skip
                    refine r_iload (pc := 152) C d_P_readInto_152 (lv_at hl 6 rfl) ?_
                    exact kret _ _ _ _ k _ d_P_readInto_154 w (⟨Or.inl ⟨k, by omega, by omega, hlg, by rw [← hP]; show ¬ lg (T k) sT (LT (cT - 1)); unfold lg; omega, rfl⟩, _, _, _, _, _, rfl, fun q => by omega⟩)
                  · skip
                    refine r_iload (pc := 134) C d_P_readInto_134 (lv_at hl 5 rfl) ?_
                    refine r_bipush (pc := 136) C d_P_readInto_136 (by decide) ?_
                    refine r_imul (pc := 138) C d_P_readInto_138 ?_
                    refine r_iload (pc := 139) C d_P_readInto_139 (lv_at hl 0 rfl) ?_
                    refine r_iadd (pc := 141) C d_P_readInto_141 ?_
                    refine r_bipush (pc := 142) C d_P_readInto_142 (by decide) ?_
                    refine r_isub (pc := 144) C d_P_readInto_144 ?_
                    refine r_istore (pc := 145) (lv' := [(4, .int (iI (((num * 10) + (T k)) - 48))), (6, .int (iI (T k))), (0, .ref pa), (1, .ref q), (2, .int (iI step)), (3, .int (iI sign)), (5, .int (iI k))]) C d_P_readInto_145 hl (by decide) rfl (fun ls hl => ?_)
                    have hN : pst T (k + 1) = (3, cT, ST, up LT (cT - 1) (num * 10 + T k - 48)) := by
                      rw [pst_succ T (by omega), ← hP]
                      unfold pnx
                      show (if sT = 0 then _ else if T k = 42 then _ else if T k = 59 then _ else if sT = 2 then _ else _) = _
                      rw [if_neg (by omega), if_neg (by omega), if_neg (by omega)]
                      by_cases e : sT = 2
                      · rw [if_pos e, show num * 10 + T k - 48 = T k - 48 by omega]
                      · rw [if_neg e, show num * 10 + T k - 48 = 10 * LT (cT - 1) + T k - 48 by omega]
                    have hVn : RVp r1 pl1 ov1 sg1 ln1 (3, cT, ST, up LT (cT - 1) (num * 10 + T k - 48)) := by
                      unfold RVp dnR
                      rw [if_neg (show ¬ (3 : Int) = 0 by omega)]
                      exact RVp.move (hVs (by omega)) (by show 0 ≤ cT - 1; omega) (fun j j1 j2 => ⟨rfl, (up_ne _ _ (by have j2 : j < cT - 1 := j2; omega)).symm⟩)
                    refine r_iconst (pc := 147) C d_P_readInto_147 ?_
                    refine r_istore_n (pc := 148) (lv' := [(2, .int (iI 3)), (4, .int (iI (((num * 10) + (T k)) - 48))), (6, .int (iI (T k))), (0, .ref pa), (1, .ref q), (3, .int (iI sign)), (5, .int (iI k))]) C d_P_readInto_148 rfl hl (by decide) rfl (fun ls hl => ?_)
                    refine r_goto (pc := 149) (tgt := 155) C d_P_readInto_149 (by decide) ?_
                    refine r_iinc (pc := 155) (j := 6) (lv' := [(5, .int (iI (k + 1))), (2, .int (iI 3)), (4, .int (iI (((num * 10) + (T k)) - 48))), (6, .int (iI (T k))), (0, .ref pa), (1, .ref q), (3, .int (iI sign))]) C d_P_readInto_155 hl rfl (by decide) rfl (fun ls hl => ?_)
                    refine r_goto (pc := 158) (tgt := 10) C d_P_readInto_158 (by decide) ?_
                    exact ih10 (k + 1) 3 sign (((num * 10) + (T k)) - 48) sg1 ln1 r1 pl1 ov1 (by omega) ((lgs_succ hlg (by rw [← hP]; show lg (T k) sT (LT (cT - 1)); unfold lg; omega))) ((by rw [hN] <;> omega)) ((fun st c3 S3 L3 e => by rw [hN] at e; injection e with e1 e; injection e with e2 e; injection e with e3 e4; subst e1 e2 e3 e4; first | exact ⟨fun q => absurd rfl q, fun q => absurd q (by omega), fun q => absurd q (by omega)⟩ | exact ⟨fun _ => hsn.1 (by omega), fun q => absurd q (by omega), fun _ => rfl⟩ | (rw [show cT + 1 - 1 = cT by omega, up_eq, up_eq]; exact ⟨fun _ => by split <;> omega, fun _ => rfl, fun q => absurd q (by omega)⟩) | (rw [up_eq]; exact ⟨fun _ => hsn.1 (by omega), fun _ => rfl, fun q => absurd q (by omega)⟩))) ((by rw [hN]; exact hVn)) (by omega) _ _ _ w (lv_sub hl [4, 5, 1, 6, 2, 0] rfl)
              · skip
                refine r_iload_n (pc := 100) C d_P_readInto_100 rfl (lv_at hl 3 rfl) ?_
                refine r_callP (pc := 101) (As := [.int (iI step)]) (rest := []) C w (c_P_mayEnd step (by omega)) ml_P_29 st_P_mayEnd ini_P cd_P_mayEnd hd_P_mayEnd rfl (by rw [hRm]; exact ⟨⟨Nat.le_of_ble_eq_true rfl, Nat.le_of_ble_eq_true rfl⟩, Nat.le_of_ble_eq_true rfl, Nat.le_of_ble_eq_true rfl⟩) hl.1 rfl (Nat.le_of_ble_eq_true rfl) d_P_readInto_101 (fun z_101 H locs hz_101 w => ?_)
                refine r_if_eq (pc := 104) (tgt := 119) C (by omega) d_P_readInto_104 (by decide) (fun c_104 => ?_) (fun c_104 => ?_)
                · skip
                  refine r_iload_n (pc := 119) C d_P_readInto_119 rfl (lv_at hl 3 rfl) ?_
                  refine r_iconst (pc := 120) C d_P_readInto_120 ?_
                  refine r_icmp_lt (pc := 121) (tgt := 152) C (by omega) d_P_readInto_121 (by decide) (fun c_121 => ?_) (fun c_121 => ?_)
                  · skip
                    refine r_iload (pc := 152) C d_P_readInto_152 (lv_at hl 6 rfl) ?_
                    exact kret _ _ _ _ k _ d_P_readInto_154 w (⟨Or.inl ⟨k, by omega, by omega, hlg, by rw [← hP]; show ¬ lg (T k) sT (LT (cT - 1)); unfold lg; omega, rfl⟩, _, _, _, _, _, rfl, fun q => by omega⟩)
                  · skip
                    have p4 := p4 (by omega)
                    have p6 := p5 (cT - 1) (by omega) (by omega)
                    have q2 := hsn.2.1
                    have q3 := hsn.2.2
                    have q4 : 0 ≤ num ∧ num ≤ 3000 ∧ ((sT = 2 ∧ num = 0) ∨ (sT = 3 ∧ num = LT (cT - 1))) := by omega
                    refine r_iload (pc := 124) C d_P_readInto_124 (lv_at hl 5 rfl) ?_
                    refine r_iload (pc := 126) C d_P_readInto_126 (lv_at hl 0 rfl) ?_
                    refine r_callP (pc := 128) (As := [.int (iI num), .int (iI (T k))]) (rest := []) C w (c_P_continuesNumber num (T k) (by omega) (by omega)) ml_P_38 st_P_continuesNumber ini_P cd_P_continuesNumber hd_P_continuesNumber rfl (by rw [hRm]; exact ⟨⟨Nat.le_of_ble_eq_true rfl, Nat.le_of_ble_eq_true rfl⟩, Nat.le_of_ble_eq_true rfl, Nat.le_of_ble_eq_true rfl⟩) hl.1 rfl (Nat.le_of_ble_eq_true rfl) d_P_readInto_128 (fun z_128 H locs hz_128 w => ?_)
                    refine r_if_eq (pc := 131) (tgt := 152) C (by omega) d_P_readInto_131 (by decide) (fun c_131 => ?_) (fun c_131 => ?_)
                    · skip
                      refine r_iload (pc := 152) C d_P_readInto_152 (lv_at hl 6 rfl) ?_
                      exact kret _ _ _ _ k _ d_P_readInto_154 w (⟨Or.inl ⟨k, by omega, by omega, hlg, by rw [← hP]; show ¬ lg (T k) sT (LT (cT - 1)); unfold lg; omega, rfl⟩, _, _, _, _, _, rfl, fun q => by omega⟩)
                    · skip
                      refine r_iload (pc := 134) C d_P_readInto_134 (lv_at hl 5 rfl) ?_
                      refine r_bipush (pc := 136) C d_P_readInto_136 (by decide) ?_
                      refine r_imul (pc := 138) C d_P_readInto_138 ?_
                      refine r_iload (pc := 139) C d_P_readInto_139 (lv_at hl 0 rfl) ?_
                      refine r_iadd (pc := 141) C d_P_readInto_141 ?_
                      refine r_bipush (pc := 142) C d_P_readInto_142 (by decide) ?_
                      refine r_isub (pc := 144) C d_P_readInto_144 ?_
                      refine r_istore (pc := 145) (lv' := [(4, .int (iI (((num * 10) + (T k)) - 48))), (6, .int (iI (T k))), (0, .ref pa), (1, .ref q), (2, .int (iI step)), (3, .int (iI sign)), (5, .int (iI k))]) C d_P_readInto_145 hl (by decide) rfl (fun ls hl => ?_)
                      have hN : pst T (k + 1) = (3, cT, ST, up LT (cT - 1) (num * 10 + T k - 48)) := by
                        rw [pst_succ T (by omega), ← hP]
                        unfold pnx
                        show (if sT = 0 then _ else if T k = 42 then _ else if T k = 59 then _ else if sT = 2 then _ else _) = _
                        rw [if_neg (by omega), if_neg (by omega), if_neg (by omega)]
                        by_cases e : sT = 2
                        · rw [if_pos e, show num * 10 + T k - 48 = T k - 48 by omega]
                        · rw [if_neg e, show num * 10 + T k - 48 = 10 * LT (cT - 1) + T k - 48 by omega]
                      have hVn : RVp r1 pl1 ov1 sg1 ln1 (3, cT, ST, up LT (cT - 1) (num * 10 + T k - 48)) := by
                        unfold RVp dnR
                        rw [if_neg (show ¬ (3 : Int) = 0 by omega)]
                        exact RVp.move (hVs (by omega)) (by show 0 ≤ cT - 1; omega) (fun j j1 j2 => ⟨rfl, (up_ne _ _ (by have j2 : j < cT - 1 := j2; omega)).symm⟩)
                      refine r_iconst (pc := 147) C d_P_readInto_147 ?_
                      refine r_istore_n (pc := 148) (lv' := [(2, .int (iI 3)), (4, .int (iI (((num * 10) + (T k)) - 48))), (6, .int (iI (T k))), (0, .ref pa), (1, .ref q), (3, .int (iI sign)), (5, .int (iI k))]) C d_P_readInto_148 rfl hl (by decide) rfl (fun ls hl => ?_)
                      refine r_goto (pc := 149) (tgt := 155) C d_P_readInto_149 (by decide) ?_
                      refine r_iinc (pc := 155) (j := 6) (lv' := [(5, .int (iI (k + 1))), (2, .int (iI 3)), (4, .int (iI (((num * 10) + (T k)) - 48))), (6, .int (iI (T k))), (0, .ref pa), (1, .ref q), (3, .int (iI sign))]) C d_P_readInto_155 hl rfl (by decide) rfl (fun ls hl => ?_)
                      refine r_goto (pc := 158) (tgt := 10) C d_P_readInto_158 (by decide) ?_
                      exact ih10 (k + 1) 3 sign (((num * 10) + (T k)) - 48) sg1 ln1 r1 pl1 ov1 (by omega) ((lgs_succ hlg (by rw [← hP]; show lg (T k) sT (LT (cT - 1)); unfold lg; omega))) ((by rw [hN] <;> omega)) ((fun st c3 S3 L3 e => by rw [hN] at e; injection e with e1 e; injection e with e2 e; injection e with e3 e4; subst e1 e2 e3 e4; first | exact ⟨fun q => absurd rfl q, fun q => absurd q (by omega), fun q => absurd q (by omega)⟩ | exact ⟨fun _ => hsn.1 (by omega), fun q => absurd q (by omega), fun _ => rfl⟩ | (rw [show cT + 1 - 1 = cT by omega, up_eq, up_eq]; exact ⟨fun _ => by split <;> omega, fun _ => rfl, fun q => absurd q (by omega)⟩) | (rw [up_eq]; exact ⟨fun _ => hsn.1 (by omega), fun _ => rfl, fun q => absurd q (by omega)⟩))) ((by rw [hN]; exact hVn)) (by omega) _ _ _ w (lv_sub hl [4, 5, 1, 6, 2, 0] rfl)
                · skip
                  have hVd := hVs (by omega)
                  have p4 := p4 (by omega)
                  have p6 := p5 (cT - 1) (by omega) (by omega)
                  have q1 := hsn.1 (by omega)
                  have q2 := hsn.2.1 (by omega)
                  refine r_aload_n (pc := 107) C d_P_readInto_107 rfl (lv_at hl 2 rfl) ?_
                  refine r_iload_n (pc := 108) C d_P_readInto_108 rfl (lv_at hl 4 rfl) ?_
                  refine r_iload (pc := 109) C d_P_readInto_109 (lv_at hl 5 rfl) ?_
                  refine r_callVV (pc := 111) (As := [.int (iI sign), .int (iI num)]) (rest := []) (wr := (padw cI pa co m T)) C w (c_S_append hT q a b sg1 ln1 r1 pl1 ov1 lc sd sign num _ _ hVd (by omega) (by omega)) ml_P_32 im_S_append se_S_append ini_S cd_S_append hd_S_append rfl (by rw [hRm]; exact ⟨⟨Nat.le_of_ble_eq_true rfl, Nat.le_of_ble_eq_true rfl⟩, Nat.le_of_ble_eq_true rfl, Nat.le_of_ble_eq_true rfl⟩) hl.1 [2, 3, 4] [0, 1] ⟨rfl, rfl, by decide, by decide, by decide⟩ 0 rfl rfl rfl (Nat.le_of_ble_eq_true rfl) d_P_readInto_111 (fun u_111 H locs hz_111 w => ?_)
                  obtain ⟨sg_111, ln_111, r_111, pl_111, ov_111, rfl, hV_111⟩ := hz_111
                  have w : Wd X (padw cI pa co m T ++ sw cI q a b sg_111 ln_111 r_111 pl_111 ov_111 lc sd) H locs := w.sub [0, 1, 2, 3, 4] rfl (by decide)
                  have hN : pst T (k + 1) = (0, cT, ST, LT) := by
                    rw [pst_succ T (by omega), ← hP]
                    unfold pnx
                    show (if sT = 0 then _ else if T k = 42 then _ else if T k = 59 then _ else if sT = 2 then _ else _) = _
                    rw [if_neg (by omega), if_neg (by omega), if_pos (by omega)]
                  have hVn : RVp r_111 pl_111 ov_111 sg_111 ln_111 (0, cT, ST, LT) := by
                    unfold RVp dnR
                    rw [if_pos rfl]
                    have h9 := RVp.add hV_111 (by omega) q2 q1 (by omega)
                    rw [show cT - 1 + 1 = cT by omega] at h9
                    exact h9
                  refine r_iconst (pc := 114) C d_P_readInto_114 ?_
                  refine r_istore_n (pc := 115) (lv' := [(2, .int (iI 0)), (6, .int (iI (T k))), (0, .ref pa), (1, .ref q), (3, .int (iI sign)), (4, .int (iI num)), (5, .int (iI k))]) C d_P_readInto_115 rfl hl (by decide) rfl (fun ls hl => ?_)
                  refine r_goto (pc := 116) (tgt := 155) C d_P_readInto_116 (by decide) ?_
                  refine r_iinc (pc := 155) (j := 6) (lv' := [(5, .int (iI (k + 1))), (2, .int (iI 0)), (6, .int (iI (T k))), (0, .ref pa), (1, .ref q), (3, .int (iI sign)), (4, .int (iI num))]) C d_P_readInto_155 hl rfl (by decide) rfl (fun ls hl => ?_)
                  refine r_goto (pc := 158) (tgt := 10) C d_P_readInto_158 (by decide) ?_
                  exact ih10 (k + 1) 0 sign num sg_111 ln_111 r_111 pl_111 ov_111 (by omega) ((lgs_succ hlg (by rw [← hP]; show lg (T k) sT (LT (cT - 1)); unfold lg; omega))) ((by rw [hN] <;> omega)) ((fun st c3 S3 L3 e => by rw [hN] at e; injection e with e1 e; injection e with e2 e; injection e with e3 e4; subst e1 e2 e3 e4; first | exact ⟨fun q => absurd rfl q, fun q => absurd q (by omega), fun q => absurd q (by omega)⟩ | exact ⟨fun _ => hsn.1 (by omega), fun q => absurd q (by omega), fun _ => rfl⟩ | (rw [show cT + 1 - 1 = cT by omega, up_eq, up_eq]; exact ⟨fun _ => by split <;> omega, fun _ => rfl, fun q => absurd q (by omega)⟩) | (rw [up_eq]; exact ⟨fun _ => hsn.1 (by omega), fun _ => rfl, fun q => absurd q (by omega)⟩))) ((by rw [hN]; exact hVn)) (by omega) _ _ _ w (lv_sub hl [3, 4, 1, 5, 6, 0] rfl)
            · skip
              refine r_iconst (pc := 85) C d_P_readInto_85 ?_
              refine r_istore (pc := 86) (lv' := [(4, .int (iI 0)), (6, .int (iI (T k))), (0, .ref pa), (1, .ref q), (2, .int (iI step)), (3, .int (iI sign)), (5, .int (iI k))]) C d_P_readInto_86 hl (by decide) rfl (fun ls hl => ?_)
              have hN : pst T (k + 1) = (2, cT, ST, LT) := by
                rw [pst_succ T (by omega), ← hP]
                unfold pnx
                show (if sT = 0 then _ else if T k = 42 then _ else if T k = 59 then _ else if sT = 2 then _ else _) = _
                rw [if_neg (by omega), if_pos (by omega)]
              have hVn : RVp r1 pl1 ov1 sg1 ln1 (2, cT, ST, LT) := by
                unfold RVp dnR
                rw [if_neg (show ¬ (2 : Int) = 0 by omega)]
                exact hVs (by omega)
              refine r_iconst (pc := 88) C d_P_readInto_88 ?_
              refine r_istore_n (pc := 89) (lv' := [(2, .int (iI 2)), (4, .int (iI 0)), (6, .int (iI (T k))), (0, .ref pa), (1, .ref q), (3, .int (iI sign)), (5, .int (iI k))]) C d_P_readInto_89 rfl hl (by decide) rfl (fun ls hl => ?_)
              refine r_goto (pc := 90) (tgt := 155) C d_P_readInto_90 (by decide) ?_
              refine r_iinc (pc := 155) (j := 6) (lv' := [(5, .int (iI (k + 1))), (2, .int (iI 2)), (4, .int (iI 0)), (6, .int (iI (T k))), (0, .ref pa), (1, .ref q), (3, .int (iI sign))]) C d_P_readInto_155 hl rfl (by decide) rfl (fun ls hl => ?_)
              refine r_goto (pc := 158) (tgt := 10) C d_P_readInto_158 (by decide) ?_
              exact ih10 (k + 1) 2 sign 0 sg1 ln1 r1 pl1 ov1 (by omega) ((lgs_succ hlg (by rw [← hP]; show lg (T k) sT (LT (cT - 1)); unfold lg; omega))) ((by rw [hN] <;> omega)) ((fun st c3 S3 L3 e => by rw [hN] at e; injection e with e1 e; injection e with e2 e; injection e with e3 e4; subst e1 e2 e3 e4; first | exact ⟨fun q => absurd rfl q, fun q => absurd q (by omega), fun q => absurd q (by omega)⟩ | exact ⟨fun _ => hsn.1 (by omega), fun q => absurd q (by omega), fun _ => rfl⟩ | (rw [show cT + 1 - 1 = cT by omega, up_eq, up_eq]; exact ⟨fun _ => by split <;> omega, fun _ => rfl, fun q => absurd q (by omega)⟩) | (rw [up_eq]; exact ⟨fun _ => hsn.1 (by omega), fun _ => rfl, fun q => absurd q (by omega)⟩))) ((by rw [hN]; exact hVn)) (by omega) _ _ _ w (lv_sub hl [4, 5, 1, 6, 2, 0] rfl)
        · skip
          refine r_iload (pc := 32) C d_P_readInto_32 (lv_at hl 0 rfl) ?_
          refine r_bipush (pc := 34) C d_P_readInto_34 (by decide) ?_
          refine r_icmp_eq (pc := 36) (tgt := 47) C (by omega) d_P_readInto_36 (by decide) (fun c_36 => ?_) (fun c_36 => ?_)
          · skip
            refine r_iload (pc := 47) C d_P_readInto_47 (lv_at hl 0 rfl) ?_
            refine r_bipush (pc := 49) C d_P_readInto_49 (by decide) ?_
            refine r_icmp_ne (pc := 51) (tgt := 59) C (by omega) d_P_readInto_51 (by decide) (fun c_51 => ?_) (fun c_51 => ?_)
            · skip
              refine r_iload (pc := 59) C d_P_readInto_59 (lv_at hl 0 rfl) ?_
              refine r_bipush (pc := 61) C d_P_readInto_61 (by decide) ?_
              refine r_isub (pc := 63) C d_P_readInto_63 ?_
              refine r_istore_n (pc := 64) (lv' := [(3, .int (iI ((T k) - 48))), (6, .int (iI (T k))), (0, .ref pa), (1, .ref q), (2, .int (iI step)), (4, .int (iI num)), (5, .int (iI k))]) C d_P_readInto_64 rfl hl (by decide) rfl (fun ls hl => ?_)
              refine r_iconst (pc := 65) C d_P_readInto_65 ?_
              refine r_istore (pc := 66) (lv' := [(4, .int (iI 1)), (3, .int (iI ((T k) - 48))), (6, .int (iI (T k))), (0, .ref pa), (1, .ref q), (2, .int (iI step)), (5, .int (iI k))]) C d_P_readInto_66 hl (by decide) rfl (fun ls hl => ?_)
              have hN : pst T (k + 1) = (1, cT + 1, up ST cT (if T k = 120 then 10 else T k - 48), up LT cT 1) := by
                rw [pst_succ T (by omega), ← hP]
                unfold pnx
                show (if sT = 0 then _ else if T k = 42 then _ else if T k = 59 then _ else if sT = 2 then _ else _) = _
                rw [if_pos (by omega)]
              have hVn : RVp r1 pl1 ov1 sg1 ln1 (1, cT + 1, up ST cT (if T k = 120 then 10 else T k - 48), up LT cT 1) := by
                unfold RVp dnR
                rw [if_neg (show ¬ (1 : Int) = 0 by omega)]
                show RV r1 pl1 ov1 sg1 ln1 (ps (up LT cT 1) (cT + 1 - 1)) (ex (up ST cT (if T k = 120 then 10 else T k - 48)) (up LT cT 1) (cT + 1 - 1))
                rw [show cT + 1 - 1 = cT by omega]
                exact RVp.move (hVr (by omega)) p2.1 (fun j j1 j2 => ⟨(up_ne _ _ (by omega)).symm, (up_ne _ _ (by omega)).symm⟩)
              refine r_iconst (pc := 68) C d_P_readInto_68 ?_
              refine r_istore_n (pc := 69) (lv' := [(2, .int (iI 1)), (4, .int (iI 1)), (3, .int (iI ((T k) - 48))), (6, .int (iI (T k))), (0, .ref pa), (1, .ref q), (5, .int (iI k))]) C d_P_readInto_69 rfl hl (by decide) rfl (fun ls hl => ?_)
              refine r_goto (pc := 70) (tgt := 155) C d_P_readInto_70 (by decide) ?_
              refine r_iinc (pc := 155) (j := 6) (lv' := [(5, .int (iI (k + 1))), (2, .int (iI 1)), (4, .int (iI 1)), (3, .int (iI ((T k) - 48))), (6, .int (iI (T k))), (0, .ref pa), (1, .ref q)]) C d_P_readInto_155 hl rfl (by decide) rfl (fun ls hl => ?_)
              refine r_goto (pc := 158) (tgt := 10) C d_P_readInto_158 (by decide) ?_
              exact ih10 (k + 1) 1 ((T k) - 48) 1 sg1 ln1 r1 pl1 ov1 (by omega) ((lgs_succ hlg (by rw [← hP]; show lg (T k) sT (LT (cT - 1)); unfold lg; omega))) ((by rw [hN] <;> omega)) ((fun st c3 S3 L3 e => by rw [hN] at e; injection e with e1 e; injection e with e2 e; injection e with e3 e4; subst e1 e2 e3 e4; first | exact ⟨fun q => absurd rfl q, fun q => absurd q (by omega), fun q => absurd q (by omega)⟩ | exact ⟨fun _ => hsn.1 (by omega), fun q => absurd q (by omega), fun _ => rfl⟩ | (rw [show cT + 1 - 1 = cT by omega, up_eq, up_eq]; exact ⟨fun _ => by split <;> omega, fun _ => rfl, fun q => absurd q (by omega)⟩) | (rw [up_eq]; exact ⟨fun _ => hsn.1 (by omega), fun _ => rfl, fun q => absurd q (by omega)⟩))) ((by rw [hN]; exact hVn)) (by omega) _ _ _ w (lv_sub hl [5, 6, 1, 3, 2, 0] rfl)
            · skip
              refine r_bipush (pc := 54) C d_P_readInto_54 (by decide) ?_
              refine r_goto (pc := 56) (tgt := 64) C d_P_readInto_56 (by decide) ?_
              refine r_istore_n (pc := 64) (lv' := [(3, .int (iI 10)), (6, .int (iI (T k))), (0, .ref pa), (1, .ref q), (2, .int (iI step)), (4, .int (iI num)), (5, .int (iI k))]) C d_P_readInto_64 rfl hl (by decide) rfl (fun ls hl => ?_)
              refine r_iconst (pc := 65) C d_P_readInto_65 ?_
              refine r_istore (pc := 66) (lv' := [(4, .int (iI 1)), (3, .int (iI 10)), (6, .int (iI (T k))), (0, .ref pa), (1, .ref q), (2, .int (iI step)), (5, .int (iI k))]) C d_P_readInto_66 hl (by decide) rfl (fun ls hl => ?_)
              have hN : pst T (k + 1) = (1, cT + 1, up ST cT (if T k = 120 then 10 else T k - 48), up LT cT 1) := by
                rw [pst_succ T (by omega), ← hP]
                unfold pnx
                show (if sT = 0 then _ else if T k = 42 then _ else if T k = 59 then _ else if sT = 2 then _ else _) = _
                rw [if_pos (by omega)]
              have hVn : RVp r1 pl1 ov1 sg1 ln1 (1, cT + 1, up ST cT (if T k = 120 then 10 else T k - 48), up LT cT 1) := by
                unfold RVp dnR
                rw [if_neg (show ¬ (1 : Int) = 0 by omega)]
                show RV r1 pl1 ov1 sg1 ln1 (ps (up LT cT 1) (cT + 1 - 1)) (ex (up ST cT (if T k = 120 then 10 else T k - 48)) (up LT cT 1) (cT + 1 - 1))
                rw [show cT + 1 - 1 = cT by omega]
                exact RVp.move (hVr (by omega)) p2.1 (fun j j1 j2 => ⟨(up_ne _ _ (by omega)).symm, (up_ne _ _ (by omega)).symm⟩)
              refine r_iconst (pc := 68) C d_P_readInto_68 ?_
              refine r_istore_n (pc := 69) (lv' := [(2, .int (iI 1)), (4, .int (iI 1)), (3, .int (iI 10)), (6, .int (iI (T k))), (0, .ref pa), (1, .ref q), (5, .int (iI k))]) C d_P_readInto_69 rfl hl (by decide) rfl (fun ls hl => ?_)
              refine r_goto (pc := 70) (tgt := 155) C d_P_readInto_70 (by decide) ?_
              refine r_iinc (pc := 155) (j := 6) (lv' := [(5, .int (iI (k + 1))), (2, .int (iI 1)), (4, .int (iI 1)), (3, .int (iI 10)), (6, .int (iI (T k))), (0, .ref pa), (1, .ref q)]) C d_P_readInto_155 hl rfl (by decide) rfl (fun ls hl => ?_)
              refine r_goto (pc := 158) (tgt := 10) C d_P_readInto_158 (by decide) ?_
              exact ih10 (k + 1) 1 10 1 sg1 ln1 r1 pl1 ov1 (by omega) ((lgs_succ hlg (by rw [← hP]; show lg (T k) sT (LT (cT - 1)); unfold lg; omega))) ((by rw [hN] <;> omega)) ((fun st c3 S3 L3 e => by rw [hN] at e; injection e with e1 e; injection e with e2 e; injection e with e3 e4; subst e1 e2 e3 e4; first | exact ⟨fun q => absurd rfl q, fun q => absurd q (by omega), fun q => absurd q (by omega)⟩ | exact ⟨fun _ => hsn.1 (by omega), fun q => absurd q (by omega), fun _ => rfl⟩ | (rw [show cT + 1 - 1 = cT by omega, up_eq, up_eq]; exact ⟨fun _ => by split <;> omega, fun _ => rfl, fun q => absurd q (by omega)⟩) | (rw [up_eq]; exact ⟨fun _ => hsn.1 (by omega), fun _ => rfl, fun q => absurd q (by omega)⟩))) ((by rw [hN]; exact hVn)) (by omega) _ _ _ w (lv_sub hl [5, 6, 1, 3, 2, 0] rfl)
          · skip
            refine r_iload (pc := 39) C d_P_readInto_39 (lv_at hl 0 rfl) ?_
            refine r_callP (pc := 41) (As := [.int (iI (T k))]) (rest := []) C w (c_P_isDigit (T k) (by omega)) ml_P_25 st_P_isDigit ini_P cd_P_isDigit hd_P_isDigit rfl (by rw [hRm]; exact ⟨⟨Nat.le_of_ble_eq_true rfl, Nat.le_of_ble_eq_true rfl⟩, Nat.le_of_ble_eq_true rfl, Nat.le_of_ble_eq_true rfl⟩) hl.1 rfl (Nat.le_of_ble_eq_true rfl) d_P_readInto_41 (fun z_41 H locs hz_41 w => ?_)
            refine r_if_eq (pc := 44) (tgt := 73) C (by omega) d_P_readInto_44 (by decide) (fun c_44 => ?_) (fun c_44 => ?_)
            · skip
              refine r_iload (pc := 73) C d_P_readInto_73 (lv_at hl 0 rfl) ?_
              refine r_bipush (pc := 75) C d_P_readInto_75 (by decide) ?_
              refine r_icmp_ne (pc := 77) (tgt := 93) C (by omega) d_P_readInto_77 (by decide) (fun c_77 => ?_) (fun c_77 => ?_)
              · skip
                refine r_iload (pc := 93) C d_P_readInto_93 (lv_at hl 0 rfl) ?_
                refine r_bipush (pc := 95) C d_P_readInto_95 (by decide) ?_
                refine r_icmp_ne (pc := 97) (tgt := 119) C (by omega) d_P_readInto_97 (by decide) (fun c_97 => ?_) (fun c_97 => ?_)
                · skip
                  refine r_iload_n (pc := 119) C d_P_readInto_119 rfl (lv_at hl 3 rfl) ?_
                  refine r_iconst (pc := 120) C d_P_readInto_120 ?_
                  refine r_icmp_lt (pc := 121) (tgt := 152) C (by omega) d_P_readInto_121 (by decide) (fun c_121 => ?_) (fun c_121 => ?_)
                  · skip
                    refine r_iload (pc := 152) C d_P_readInto_152 (lv_at hl 6 rfl) ?_
                    exact kret _ _ _ _ k _ d_P_readInto_154 w (⟨Or.inl ⟨k, by omega, by omega, hlg, by rw [← hP]; show ¬ lg (T k) sT (LT (cT - 1)); unfold lg; omega, rfl⟩, _, _, _, _, _, rfl, fun q => by omega⟩)
                  · skip
                    have p4 := p4 (by omega)
                    have p6 := p5 (cT - 1) (by omega) (by omega)
                    have q2 := hsn.2.1
                    have q3 := hsn.2.2
                    have q4 : 0 ≤ num ∧ num ≤ 3000 ∧ ((sT = 2 ∧ num = 0) ∨ (sT = 3 ∧ num = LT (cT - 1))) := by omega
                    refine r_iload (pc := 124) C d_P_readInto_124 (lv_at hl 5 rfl) ?_
                    refine r_iload (pc := 126) C d_P_readInto_126 (lv_at hl 0 rfl) ?_
                    refine r_callP (pc := 128) (As := [.int (iI num), .int (iI (T k))]) (rest := []) C w (c_P_continuesNumber num (T k) (by omega) (by omega)) ml_P_38 st_P_continuesNumber ini_P cd_P_continuesNumber hd_P_continuesNumber rfl (by rw [hRm]; exact ⟨⟨Nat.le_of_ble_eq_true rfl, Nat.le_of_ble_eq_true rfl⟩, Nat.le_of_ble_eq_true rfl, Nat.le_of_ble_eq_true rfl⟩) hl.1 rfl (Nat.le_of_ble_eq_true rfl) d_P_readInto_128 (fun z_128 H locs hz_128 w => ?_)
                    refine r_if_eq (pc := 131) (tgt := 152) C (by omega) d_P_readInto_131 (by decide) (fun c_131 => ?_) (fun c_131 => ?_)
                    · skip
                      refine r_iload (pc := 152) C d_P_readInto_152 (lv_at hl 6 rfl) ?_
                      exact kret _ _ _ _ k _ d_P_readInto_154 w (⟨Or.inl ⟨k, by omega, by omega, hlg, by rw [← hP]; show ¬ lg (T k) sT (LT (cT - 1)); unfold lg; omega, rfl⟩, _, _, _, _, _, rfl, fun q => by omega⟩)
                    · skip
                      refine r_iload (pc := 134) C d_P_readInto_134 (lv_at hl 5 rfl) ?_
                      refine r_bipush (pc := 136) C d_P_readInto_136 (by decide) ?_
                      refine r_imul (pc := 138) C d_P_readInto_138 ?_
                      refine r_iload (pc := 139) C d_P_readInto_139 (lv_at hl 0 rfl) ?_
                      refine r_iadd (pc := 141) C d_P_readInto_141 ?_
                      refine r_bipush (pc := 142) C d_P_readInto_142 (by decide) ?_
                      refine r_isub (pc := 144) C d_P_readInto_144 ?_
                      refine r_istore (pc := 145) (lv' := [(4, .int (iI (((num * 10) + (T k)) - 48))), (6, .int (iI (T k))), (0, .ref pa), (1, .ref q), (2, .int (iI step)), (3, .int (iI sign)), (5, .int (iI k))]) C d_P_readInto_145 hl (by decide) rfl (fun ls hl => ?_)
                      have hN : pst T (k + 1) = (3, cT, ST, up LT (cT - 1) (num * 10 + T k - 48)) := by
                        rw [pst_succ T (by omega), ← hP]
                        unfold pnx
                        show (if sT = 0 then _ else if T k = 42 then _ else if T k = 59 then _ else if sT = 2 then _ else _) = _
                        rw [if_neg (by omega), if_neg (by omega), if_neg (by omega)]
                        by_cases e : sT = 2
                        · rw [if_pos e, show num * 10 + T k - 48 = T k - 48 by omega]
                        · rw [if_neg e, show num * 10 + T k - 48 = 10 * LT (cT - 1) + T k - 48 by omega]
                      have hVn : RVp r1 pl1 ov1 sg1 ln1 (3, cT, ST, up LT (cT - 1) (num * 10 + T k - 48)) := by
                        unfold RVp dnR
                        rw [if_neg (show ¬ (3 : Int) = 0 by omega)]
                        exact RVp.move (hVs (by omega)) (by show 0 ≤ cT - 1; omega) (fun j j1 j2 => ⟨rfl, (up_ne _ _ (by have j2 : j < cT - 1 := j2; omega)).symm⟩)
                      refine r_iconst (pc := 147) C d_P_readInto_147 ?_
                      refine r_istore_n (pc := 148) (lv' := [(2, .int (iI 3)), (4, .int (iI (((num * 10) + (T k)) - 48))), (6, .int (iI (T k))), (0, .ref pa), (1, .ref q), (3, .int (iI sign)), (5, .int (iI k))]) C d_P_readInto_148 rfl hl (by decide) rfl (fun ls hl => ?_)
                      refine r_goto (pc := 149) (tgt := 155) C d_P_readInto_149 (by decide) ?_
                      refine r_iinc (pc := 155) (j := 6) (lv' := [(5, .int (iI (k + 1))), (2, .int (iI 3)), (4, .int (iI (((num * 10) + (T k)) - 48))), (6, .int (iI (T k))), (0, .ref pa), (1, .ref q), (3, .int (iI sign))]) C d_P_readInto_155 hl rfl (by decide) rfl (fun ls hl => ?_)
                      refine r_goto (pc := 158) (tgt := 10) C d_P_readInto_158 (by decide) ?_
                      exact ih10 (k + 1) 3 sign (((num * 10) + (T k)) - 48) sg1 ln1 r1 pl1 ov1 (by omega) ((lgs_succ hlg (by rw [← hP]; show lg (T k) sT (LT (cT - 1)); unfold lg; omega))) ((by rw [hN] <;> omega)) ((fun st c3 S3 L3 e => by rw [hN] at e; injection e with e1 e; injection e with e2 e; injection e with e3 e4; subst e1 e2 e3 e4; first | exact ⟨fun q => absurd rfl q, fun q => absurd q (by omega), fun q => absurd q (by omega)⟩ | exact ⟨fun _ => hsn.1 (by omega), fun q => absurd q (by omega), fun _ => rfl⟩ | (rw [show cT + 1 - 1 = cT by omega, up_eq, up_eq]; exact ⟨fun _ => by split <;> omega, fun _ => rfl, fun q => absurd q (by omega)⟩) | (rw [up_eq]; exact ⟨fun _ => hsn.1 (by omega), fun _ => rfl, fun q => absurd q (by omega)⟩))) ((by rw [hN]; exact hVn)) (by omega) _ _ _ w (lv_sub hl [4, 5, 1, 6, 2, 0] rfl)
                · skip
                  refine r_iload_n (pc := 100) C d_P_readInto_100 rfl (lv_at hl 3 rfl) ?_
                  refine r_callP (pc := 101) (As := [.int (iI step)]) (rest := []) C w (c_P_mayEnd step (by omega)) ml_P_29 st_P_mayEnd ini_P cd_P_mayEnd hd_P_mayEnd rfl (by rw [hRm]; exact ⟨⟨Nat.le_of_ble_eq_true rfl, Nat.le_of_ble_eq_true rfl⟩, Nat.le_of_ble_eq_true rfl, Nat.le_of_ble_eq_true rfl⟩) hl.1 rfl (Nat.le_of_ble_eq_true rfl) d_P_readInto_101 (fun z_101 H locs hz_101 w => ?_)
                  refine r_if_eq (pc := 104) (tgt := 119) C (by omega) d_P_readInto_104 (by decide) (fun c_104 => ?_) (fun c_104 => ?_)
                  · skip
                    refine r_iload_n (pc := 119) C d_P_readInto_119 rfl (lv_at hl 3 rfl) ?_
                    refine r_iconst (pc := 120) C d_P_readInto_120 ?_
                    refine r_icmp_lt (pc := 121) (tgt := 152) C (by omega) d_P_readInto_121 (by decide) (fun c_121 => ?_) (fun c_121 => ?_)
                    · skip
                      refine r_iload (pc := 152) C d_P_readInto_152 (lv_at hl 6 rfl) ?_
                      exact kret _ _ _ _ k _ d_P_readInto_154 w (⟨Or.inl ⟨k, by omega, by omega, hlg, by rw [← hP]; show ¬ lg (T k) sT (LT (cT - 1)); unfold lg; omega, rfl⟩, _, _, _, _, _, rfl, fun q => by omega⟩)
                    · skip
                      have p4 := p4 (by omega)
                      have p6 := p5 (cT - 1) (by omega) (by omega)
                      have q2 := hsn.2.1
                      have q3 := hsn.2.2
                      have q4 : 0 ≤ num ∧ num ≤ 3000 ∧ ((sT = 2 ∧ num = 0) ∨ (sT = 3 ∧ num = LT (cT - 1))) := by omega
                      refine r_iload (pc := 124) C d_P_readInto_124 (lv_at hl 5 rfl) ?_
                      refine r_iload (pc := 126) C d_P_readInto_126 (lv_at hl 0 rfl) ?_
                      refine r_callP (pc := 128) (As := [.int (iI num), .int (iI (T k))]) (rest := []) C w (c_P_continuesNumber num (T k) (by omega) (by omega)) ml_P_38 st_P_continuesNumber ini_P cd_P_continuesNumber hd_P_continuesNumber rfl (by rw [hRm]; exact ⟨⟨Nat.le_of_ble_eq_true rfl, Nat.le_of_ble_eq_true rfl⟩, Nat.le_of_ble_eq_true rfl, Nat.le_of_ble_eq_true rfl⟩) hl.1 rfl (Nat.le_of_ble_eq_true rfl) d_P_readInto_128 (fun z_128 H locs hz_128 w => ?_)
                      refine r_if_eq (pc := 131) (tgt := 152) C (by omega) d_P_readInto_131 (by decide) (fun c_131 => ?_) (fun c_131 => ?_)
                      · skip
                        refine r_iload (pc := 152) C d_P_readInto_152 (lv_at hl 6 rfl) ?_
                        exact kret _ _ _ _ k _ d_P_readInto_154 w (⟨Or.inl ⟨k, by omega, by omega, hlg, by rw [← hP]; show ¬ lg (T k) sT (LT (cT - 1)); unfold lg; omega, rfl⟩, _, _, _, _, _, rfl, fun q => by omega⟩)
                      · skip
                        refine r_iload (pc := 134) C d_P_readInto_134 (lv_at hl 5 rfl) ?_
                        refine r_bipush (pc := 136) C d_P_readInto_136 (by decide) ?_
                        refine r_imul (pc := 138) C d_P_readInto_138 ?_
                        refine r_iload (pc := 139) C d_P_readInto_139 (lv_at hl 0 rfl) ?_
                        refine r_iadd (pc := 141) C d_P_readInto_141 ?_
                        refine r_bipush (pc := 142) C d_P_readInto_142 (by decide) ?_
                        refine r_isub (pc := 144) C d_P_readInto_144 ?_
                        refine r_istore (pc := 145) (lv' := [(4, .int (iI (((num * 10) + (T k)) - 48))), (6, .int (iI (T k))), (0, .ref pa), (1, .ref q), (2, .int (iI step)), (3, .int (iI sign)), (5, .int (iI k))]) C d_P_readInto_145 hl (by decide) rfl (fun ls hl => ?_)
                        have hN : pst T (k + 1) = (3, cT, ST, up LT (cT - 1) (num * 10 + T k - 48)) := by
                          rw [pst_succ T (by omega), ← hP]
                          unfold pnx
                          show (if sT = 0 then _ else if T k = 42 then _ else if T k = 59 then _ else if sT = 2 then _ else _) = _
                          rw [if_neg (by omega), if_neg (by omega), if_neg (by omega)]
                          by_cases e : sT = 2
                          · rw [if_pos e, show num * 10 + T k - 48 = T k - 48 by omega]
                          · rw [if_neg e, show num * 10 + T k - 48 = 10 * LT (cT - 1) + T k - 48 by omega]
                        have hVn : RVp r1 pl1 ov1 sg1 ln1 (3, cT, ST, up LT (cT - 1) (num * 10 + T k - 48)) := by
                          unfold RVp dnR
                          rw [if_neg (show ¬ (3 : Int) = 0 by omega)]
                          exact RVp.move (hVs (by omega)) (by show 0 ≤ cT - 1; omega) (fun j j1 j2 => ⟨rfl, (up_ne _ _ (by have j2 : j < cT - 1 := j2; omega)).symm⟩)
                        refine r_iconst (pc := 147) C d_P_readInto_147 ?_
                        refine r_istore_n (pc := 148) (lv' := [(2, .int (iI 3)), (4, .int (iI (((num * 10) + (T k)) - 48))), (6, .int (iI (T k))), (0, .ref pa), (1, .ref q), (3, .int (iI sign)), (5, .int (iI k))]) C d_P_readInto_148 rfl hl (by decide) rfl (fun ls hl => ?_)
                        refine r_goto (pc := 149) (tgt := 155) C d_P_readInto_149 (by decide) ?_
                        refine r_iinc (pc := 155) (j := 6) (lv' := [(5, .int (iI (k + 1))), (2, .int (iI 3)), (4, .int (iI (((num * 10) + (T k)) - 48))), (6, .int (iI (T k))), (0, .ref pa), (1, .ref q), (3, .int (iI sign))]) C d_P_readInto_155 hl rfl (by decide) rfl (fun ls hl => ?_)
                        refine r_goto (pc := 158) (tgt := 10) C d_P_readInto_158 (by decide) ?_
                        exact ih10 (k + 1) 3 sign (((num * 10) + (T k)) - 48) sg1 ln1 r1 pl1 ov1 (by omega) ((lgs_succ hlg (by rw [← hP]; show lg (T k) sT (LT (cT - 1)); unfold lg; omega))) ((by rw [hN] <;> omega)) ((fun st c3 S3 L3 e => by rw [hN] at e; injection e with e1 e; injection e with e2 e; injection e with e3 e4; subst e1 e2 e3 e4; first | exact ⟨fun q => absurd rfl q, fun q => absurd q (by omega), fun q => absurd q (by omega)⟩ | exact ⟨fun _ => hsn.1 (by omega), fun q => absurd q (by omega), fun _ => rfl⟩ | (rw [show cT + 1 - 1 = cT by omega, up_eq, up_eq]; exact ⟨fun _ => by split <;> omega, fun _ => rfl, fun q => absurd q (by omega)⟩) | (rw [up_eq]; exact ⟨fun _ => hsn.1 (by omega), fun _ => rfl, fun q => absurd q (by omega)⟩))) ((by rw [hN]; exact hVn)) (by omega) _ _ _ w (lv_sub hl [4, 5, 1, 6, 2, 0] rfl)
                  · skip
                    have hVd := hVs (by omega)
                    have p4 := p4 (by omega)
                    have p6 := p5 (cT - 1) (by omega) (by omega)
                    have q1 := hsn.1 (by omega)
                    have q2 := hsn.2.1 (by omega)
                    refine r_aload_n (pc := 107) C d_P_readInto_107 rfl (lv_at hl 2 rfl) ?_
                    refine r_iload_n (pc := 108) C d_P_readInto_108 rfl (lv_at hl 4 rfl) ?_
                    refine r_iload (pc := 109) C d_P_readInto_109 (lv_at hl 5 rfl) ?_
                    refine r_callVV (pc := 111) (As := [.int (iI sign), .int (iI num)]) (rest := []) (wr := (padw cI pa co m T)) C w (c_S_append hT q a b sg1 ln1 r1 pl1 ov1 lc sd sign num _ _ hVd (by omega) (by omega)) ml_P_32 im_S_append se_S_append ini_S cd_S_append hd_S_append rfl (by rw [hRm]; exact ⟨⟨Nat.le_of_ble_eq_true rfl, Nat.le_of_ble_eq_true rfl⟩, Nat.le_of_ble_eq_true rfl, Nat.le_of_ble_eq_true rfl⟩) hl.1 [2, 3, 4] [0, 1] ⟨rfl, rfl, by decide, by decide, by decide⟩ 0 rfl rfl rfl (Nat.le_of_ble_eq_true rfl) d_P_readInto_111 (fun u_111 H locs hz_111 w => ?_)
                    obtain ⟨sg_111, ln_111, r_111, pl_111, ov_111, rfl, hV_111⟩ := hz_111
                    have w : Wd X (padw cI pa co m T ++ sw cI q a b sg_111 ln_111 r_111 pl_111 ov_111 lc sd) H locs := w.sub [0, 1, 2, 3, 4] rfl (by decide)
                    have hN : pst T (k + 1) = (0, cT, ST, LT) := by
                      rw [pst_succ T (by omega), ← hP]
                      unfold pnx
                      show (if sT = 0 then _ else if T k = 42 then _ else if T k = 59 then _ else if sT = 2 then _ else _) = _
                      rw [if_neg (by omega), if_neg (by omega), if_pos (by omega)]
                    have hVn : RVp r_111 pl_111 ov_111 sg_111 ln_111 (0, cT, ST, LT) := by
                      unfold RVp dnR
                      rw [if_pos rfl]
                      have h9 := RVp.add hV_111 (by omega) q2 q1 (by omega)
                      rw [show cT - 1 + 1 = cT by omega] at h9
                      exact h9
                    refine r_iconst (pc := 114) C d_P_readInto_114 ?_
                    refine r_istore_n (pc := 115) (lv' := [(2, .int (iI 0)), (6, .int (iI (T k))), (0, .ref pa), (1, .ref q), (3, .int (iI sign)), (4, .int (iI num)), (5, .int (iI k))]) C d_P_readInto_115 rfl hl (by decide) rfl (fun ls hl => ?_)
                    refine r_goto (pc := 116) (tgt := 155) C d_P_readInto_116 (by decide) ?_
                    refine r_iinc (pc := 155) (j := 6) (lv' := [(5, .int (iI (k + 1))), (2, .int (iI 0)), (6, .int (iI (T k))), (0, .ref pa), (1, .ref q), (3, .int (iI sign)), (4, .int (iI num))]) C d_P_readInto_155 hl rfl (by decide) rfl (fun ls hl => ?_)
                    refine r_goto (pc := 158) (tgt := 10) C d_P_readInto_158 (by decide) ?_
                    exact ih10 (k + 1) 0 sign num sg_111 ln_111 r_111 pl_111 ov_111 (by omega) ((lgs_succ hlg (by rw [← hP]; show lg (T k) sT (LT (cT - 1)); unfold lg; omega))) ((by rw [hN] <;> omega)) ((fun st c3 S3 L3 e => by rw [hN] at e; injection e with e1 e; injection e with e2 e; injection e with e3 e4; subst e1 e2 e3 e4; first | exact ⟨fun q => absurd rfl q, fun q => absurd q (by omega), fun q => absurd q (by omega)⟩ | exact ⟨fun _ => hsn.1 (by omega), fun q => absurd q (by omega), fun _ => rfl⟩ | (rw [show cT + 1 - 1 = cT by omega, up_eq, up_eq]; exact ⟨fun _ => by split <;> omega, fun _ => rfl, fun q => absurd q (by omega)⟩) | (rw [up_eq]; exact ⟨fun _ => hsn.1 (by omega), fun _ => rfl, fun q => absurd q (by omega)⟩))) ((by rw [hN]; exact hVn)) (by omega) _ _ _ w (lv_sub hl [3, 4, 1, 5, 6, 0] rfl)
              · skip
                refine r_iload_n (pc := 80) C d_P_readInto_80 rfl (lv_at hl 3 rfl) ?_
                refine r_iconst (pc := 81) C d_P_readInto_81 ?_
                refine r_icmp_ne (pc := 82) (tgt := 93) C (by omega) d_P_readInto_82 (by decide) (fun c_82 => ?_) (fun c_82 => ?_)
                · skip
                  refine r_iload (pc := 93) C d_P_readInto_93 (lv_at hl 0 rfl) ?_
                  refine r_bipush (pc := 95) C d_P_readInto_95 (by decide) ?_
                  refine r_icmp_ne (pc := 97) (tgt := 119) C (by omega) d_P_readInto_97 (by decide) (fun c_97 => ?_) (fun c_97 => ?_)
                  · skip
                    refine r_iload_n (pc := 119) C d_P_readInto_119 rfl (lv_at hl 3 rfl) ?_
                    refine r_iconst (pc := 120) C d_P_readInto_120 ?_
                    refine r_icmp_lt (pc := 121) (tgt := 152) C (by omega) d_P_readInto_121 (by decide) (fun c_121 => ?_) (fun c_121 => ?_)
                    · skip
                      refine r_iload (pc := 152) C d_P_readInto_152 (lv_at hl 6 rfl) ?_
                      exact kret _ _ _ _ k _ d_P_readInto_154 w (⟨Or.inl ⟨k, by omega, by omega, hlg, by rw [← hP]; show ¬ lg (T k) sT (LT (cT - 1)); unfold lg; omega, rfl⟩, _, _, _, _, _, rfl, fun q => by omega⟩)
                    · skip
                      have p4 := p4 (by omega)
                      have p6 := p5 (cT - 1) (by omega) (by omega)
                      have q2 := hsn.2.1
                      have q3 := hsn.2.2
                      have q4 : 0 ≤ num ∧ num ≤ 3000 ∧ ((sT = 2 ∧ num = 0) ∨ (sT = 3 ∧ num = LT (cT - 1))) := by omega
                      refine r_iload (pc := 124) C d_P_readInto_124 (lv_at hl 5 rfl) ?_
                      refine r_iload (pc := 126) C d_P_readInto_126 (lv_at hl 0 rfl) ?_
                      refine r_callP (pc := 128) (As := [.int (iI num), .int (iI (T k))]) (rest := []) C w (c_P_continuesNumber num (T k) (by omega) (by omega)) ml_P_38 st_P_continuesNumber ini_P cd_P_continuesNumber hd_P_continuesNumber rfl (by rw [hRm]; exact ⟨⟨Nat.le_of_ble_eq_true rfl, Nat.le_of_ble_eq_true rfl⟩, Nat.le_of_ble_eq_true rfl, Nat.le_of_ble_eq_true rfl⟩) hl.1 rfl (Nat.le_of_ble_eq_true rfl) d_P_readInto_128 (fun z_128 H locs hz_128 w => ?_)
                      refine r_if_eq (pc := 131) (tgt := 152) C (by omega) d_P_readInto_131 (by decide) (fun c_131 => ?_) (fun c_131 => ?_)
                      · skip
                        refine r_iload (pc := 152) C d_P_readInto_152 (lv_at hl 6 rfl) ?_
                        exact kret _ _ _ _ k _ d_P_readInto_154 w (⟨Or.inl ⟨k, by omega, by omega, hlg, by rw [← hP]; show ¬ lg (T k) sT (LT (cT - 1)); unfold lg; omega, rfl⟩, _, _, _, _, _, rfl, fun q => by omega⟩)
                      · skip
                        refine r_iload (pc := 134) C d_P_readInto_134 (lv_at hl 5 rfl) ?_
                        refine r_bipush (pc := 136) C d_P_readInto_136 (by decide) ?_
                        refine r_imul (pc := 138) C d_P_readInto_138 ?_
                        refine r_iload (pc := 139) C d_P_readInto_139 (lv_at hl 0 rfl) ?_
                        refine r_iadd (pc := 141) C d_P_readInto_141 ?_
                        refine r_bipush (pc := 142) C d_P_readInto_142 (by decide) ?_
                        refine r_isub (pc := 144) C d_P_readInto_144 ?_
                        refine r_istore (pc := 145) (lv' := [(4, .int (iI (((num * 10) + (T k)) - 48))), (6, .int (iI (T k))), (0, .ref pa), (1, .ref q), (2, .int (iI step)), (3, .int (iI sign)), (5, .int (iI k))]) C d_P_readInto_145 hl (by decide) rfl (fun ls hl => ?_)
                        have hN : pst T (k + 1) = (3, cT, ST, up LT (cT - 1) (num * 10 + T k - 48)) := by
                          rw [pst_succ T (by omega), ← hP]
                          unfold pnx
                          show (if sT = 0 then _ else if T k = 42 then _ else if T k = 59 then _ else if sT = 2 then _ else _) = _
                          rw [if_neg (by omega), if_neg (by omega), if_neg (by omega)]
                          by_cases e : sT = 2
                          · rw [if_pos e, show num * 10 + T k - 48 = T k - 48 by omega]
                          · rw [if_neg e, show num * 10 + T k - 48 = 10 * LT (cT - 1) + T k - 48 by omega]
                        have hVn : RVp r1 pl1 ov1 sg1 ln1 (3, cT, ST, up LT (cT - 1) (num * 10 + T k - 48)) := by
                          unfold RVp dnR
                          rw [if_neg (show ¬ (3 : Int) = 0 by omega)]
                          exact RVp.move (hVs (by omega)) (by show 0 ≤ cT - 1; omega) (fun j j1 j2 => ⟨rfl, (up_ne _ _ (by have j2 : j < cT - 1 := j2; omega)).symm⟩)
                        refine r_iconst (pc := 147) C d_P_readInto_147 ?_
                        refine r_istore_n (pc := 148) (lv' := [(2, .int (iI 3)), (4, .int (iI (((num * 10) + (T k)) - 48))), (6, .int (iI (T k))), (0, .ref pa), (1, .ref q), (3, .int (iI sign)), (5, .int (iI k))]) C d_P_readInto_148 rfl hl (by decide) rfl (fun ls hl => ?_)
                        refine r_goto (pc := 149) (tgt := 155) C d_P_readInto_149 (by decide) ?_
                        refine r_iinc (pc := 155) (j := 6) (lv' := [(5, .int (iI (k + 1))), (2, .int (iI 3)), (4, .int (iI (((num * 10) + (T k)) - 48))), (6, .int (iI (T k))), (0, .ref pa), (1, .ref q), (3, .int (iI sign))]) C d_P_readInto_155 hl rfl (by decide) rfl (fun ls hl => ?_)
                        refine r_goto (pc := 158) (tgt := 10) C d_P_readInto_158 (by decide) ?_
                        exact ih10 (k + 1) 3 sign (((num * 10) + (T k)) - 48) sg1 ln1 r1 pl1 ov1 (by omega) ((lgs_succ hlg (by rw [← hP]; show lg (T k) sT (LT (cT - 1)); unfold lg; omega))) ((by rw [hN] <;> omega)) ((fun st c3 S3 L3 e => by rw [hN] at e; injection e with e1 e; injection e with e2 e; injection e with e3 e4; subst e1 e2 e3 e4; first | exact ⟨fun q => absurd rfl q, fun q => absurd q (by omega), fun q => absurd q (by omega)⟩ | exact ⟨fun _ => hsn.1 (by omega), fun q => absurd q (by omega), fun _ => rfl⟩ | (rw [show cT + 1 - 1 = cT by omega, up_eq, up_eq]; exact ⟨fun _ => by split <;> omega, fun _ => rfl, fun q => absurd q (by omega)⟩) | (rw [up_eq]; exact ⟨fun _ => hsn.1 (by omega), fun _ => rfl, fun q => absurd q (by omega)⟩))) ((by rw [hN]; exact hVn)) (by omega) _ _ _ w (lv_sub hl [4, 5, 1, 6, 2, 0] rfl)
                  · skip
                    refine r_iload_n (pc := 100) C d_P_readInto_100 rfl (lv_at hl 3 rfl) ?_
                    refine r_callP (pc := 101) (As := [.int (iI step)]) (rest := []) C w (c_P_mayEnd step (by omega)) ml_P_29 st_P_mayEnd ini_P cd_P_mayEnd hd_P_mayEnd rfl (by rw [hRm]; exact ⟨⟨Nat.le_of_ble_eq_true rfl, Nat.le_of_ble_eq_true rfl⟩, Nat.le_of_ble_eq_true rfl, Nat.le_of_ble_eq_true rfl⟩) hl.1 rfl (Nat.le_of_ble_eq_true rfl) d_P_readInto_101 (fun z_101 H locs hz_101 w => ?_)
                    refine r_if_eq (pc := 104) (tgt := 119) C (by omega) d_P_readInto_104 (by decide) (fun c_104 => ?_) (fun c_104 => ?_)
                    · skip
                      refine r_iload_n (pc := 119) C d_P_readInto_119 rfl (lv_at hl 3 rfl) ?_
                      refine r_iconst (pc := 120) C d_P_readInto_120 ?_
                      refine r_icmp_lt (pc := 121) (tgt := 152) C (by omega) d_P_readInto_121 (by decide) (fun c_121 => ?_) (fun c_121 => ?_)
                      · skip
                        refine r_iload (pc := 152) C d_P_readInto_152 (lv_at hl 6 rfl) ?_
                        exact kret _ _ _ _ k _ d_P_readInto_154 w (⟨Or.inl ⟨k, by omega, by omega, hlg, by rw [← hP]; show ¬ lg (T k) sT (LT (cT - 1)); unfold lg; omega, rfl⟩, _, _, _, _, _, rfl, fun q => by omega⟩)
                      · skip
                        have p4 := p4 (by omega)
                        have p6 := p5 (cT - 1) (by omega) (by omega)
                        have q2 := hsn.2.1
                        have q3 := hsn.2.2
                        have q4 : 0 ≤ num ∧ num ≤ 3000 ∧ ((sT = 2 ∧ num = 0) ∨ (sT = 3 ∧ num = LT (cT - 1))) := by omega
                        refine r_iload (pc := 124) C d_P_readInto_124 (lv_at hl 5 rfl) ?_
                        refine r_iload (pc := 126) C d_P_readInto_126 (lv_at hl 0 rfl) ?_
                        refine r_callP (pc := 128) (As := [.int (iI num), .int (iI (T k))]) (rest := []) C w (c_P_continuesNumber num (T k) (by omega) (by omega)) ml_P_38 st_P_continuesNumber ini_P cd_P_continuesNumber hd_P_continuesNumber rfl (by rw [hRm]; exact ⟨⟨Nat.le_of_ble_eq_true rfl, Nat.le_of_ble_eq_true rfl⟩, Nat.le_of_ble_eq_true rfl, Nat.le_of_ble_eq_true rfl⟩) hl.1 rfl (Nat.le_of_ble_eq_true rfl) d_P_readInto_128 (fun z_128 H locs hz_128 w => ?_)
                        refine r_if_eq (pc := 131) (tgt := 152) C (by omega) d_P_readInto_131 (by decide) (fun c_131 => ?_) (fun c_131 => ?_)
                        · skip
                          refine r_iload (pc := 152) C d_P_readInto_152 (lv_at hl 6 rfl) ?_
                          exact kret _ _ _ _ k _ d_P_readInto_154 w (⟨Or.inl ⟨k, by omega, by omega, hlg, by rw [← hP]; show ¬ lg (T k) sT (LT (cT - 1)); unfold lg; omega, rfl⟩, _, _, _, _, _, rfl, fun q => by omega⟩)
                        · skip
                          refine r_iload (pc := 134) C d_P_readInto_134 (lv_at hl 5 rfl) ?_
                          refine r_bipush (pc := 136) C d_P_readInto_136 (by decide) ?_
                          refine r_imul (pc := 138) C d_P_readInto_138 ?_
                          refine r_iload (pc := 139) C d_P_readInto_139 (lv_at hl 0 rfl) ?_
                          refine r_iadd (pc := 141) C d_P_readInto_141 ?_
                          refine r_bipush (pc := 142) C d_P_readInto_142 (by decide) ?_
                          refine r_isub (pc := 144) C d_P_readInto_144 ?_
                          refine r_istore (pc := 145) (lv' := [(4, .int (iI (((num * 10) + (T k)) - 48))), (6, .int (iI (T k))), (0, .ref pa), (1, .ref q), (2, .int (iI step)), (3, .int (iI sign)), (5, .int (iI k))]) C d_P_readInto_145 hl (by decide) rfl (fun ls hl => ?_)
                          have hN : pst T (k + 1) = (3, cT, ST, up LT (cT - 1) (num * 10 + T k - 48)) := by
                            rw [pst_succ T (by omega), ← hP]
                            unfold pnx
                            show (if sT = 0 then _ else if T k = 42 then _ else if T k = 59 then _ else if sT = 2 then _ else _) = _
                            rw [if_neg (by omega), if_neg (by omega), if_neg (by omega)]
                            by_cases e : sT = 2
                            · rw [if_pos e, show num * 10 + T k - 48 = T k - 48 by omega]
                            · rw [if_neg e, show num * 10 + T k - 48 = 10 * LT (cT - 1) + T k - 48 by omega]
                          have hVn : RVp r1 pl1 ov1 sg1 ln1 (3, cT, ST, up LT (cT - 1) (num * 10 + T k - 48)) := by
                            unfold RVp dnR
                            rw [if_neg (show ¬ (3 : Int) = 0 by omega)]
                            exact RVp.move (hVs (by omega)) (by show 0 ≤ cT - 1; omega) (fun j j1 j2 => ⟨rfl, (up_ne _ _ (by have j2 : j < cT - 1 := j2; omega)).symm⟩)
                          refine r_iconst (pc := 147) C d_P_readInto_147 ?_
                          refine r_istore_n (pc := 148) (lv' := [(2, .int (iI 3)), (4, .int (iI (((num * 10) + (T k)) - 48))), (6, .int (iI (T k))), (0, .ref pa), (1, .ref q), (3, .int (iI sign)), (5, .int (iI k))]) C d_P_readInto_148 rfl hl (by decide) rfl (fun ls hl => ?_)
                          refine r_goto (pc := 149) (tgt := 155) C d_P_readInto_149 (by decide) ?_
                          refine r_iinc (pc := 155) (j := 6) (lv' := [(5, .int (iI (k + 1))), (2, .int (iI 3)), (4, .int (iI (((num * 10) + (T k)) - 48))), (6, .int (iI (T k))), (0, .ref pa), (1, .ref q), (3, .int (iI sign))]) C d_P_readInto_155 hl rfl (by decide) rfl (fun ls hl => ?_)
                          refine r_goto (pc := 158) (tgt := 10) C d_P_readInto_158 (by decide) ?_
                          exact ih10 (k + 1) 3 sign (((num * 10) + (T k)) - 48) sg1 ln1 r1 pl1 ov1 (by omega) ((lgs_succ hlg (by rw [← hP]; show lg (T k) sT (LT (cT - 1)); unfold lg; omega))) ((by rw [hN] <;> omega)) ((fun st c3 S3 L3 e => by rw [hN] at e; injection e with e1 e; injection e with e2 e; injection e with e3 e4; subst e1 e2 e3 e4; first | exact ⟨fun q => absurd rfl q, fun q => absurd q (by omega), fun q => absurd q (by omega)⟩ | exact ⟨fun _ => hsn.1 (by omega), fun q => absurd q (by omega), fun _ => rfl⟩ | (rw [show cT + 1 - 1 = cT by omega, up_eq, up_eq]; exact ⟨fun _ => by split <;> omega, fun _ => rfl, fun q => absurd q (by omega)⟩) | (rw [up_eq]; exact ⟨fun _ => hsn.1 (by omega), fun _ => rfl, fun q => absurd q (by omega)⟩))) ((by rw [hN]; exact hVn)) (by omega) _ _ _ w (lv_sub hl [4, 5, 1, 6, 2, 0] rfl)
                    · skip
                      have hVd := hVs (by omega)
                      have p4 := p4 (by omega)
                      have p6 := p5 (cT - 1) (by omega) (by omega)
                      have q1 := hsn.1 (by omega)
                      have q2 := hsn.2.1 (by omega)
                      refine r_aload_n (pc := 107) C d_P_readInto_107 rfl (lv_at hl 2 rfl) ?_
                      refine r_iload_n (pc := 108) C d_P_readInto_108 rfl (lv_at hl 4 rfl) ?_
                      refine r_iload (pc := 109) C d_P_readInto_109 (lv_at hl 5 rfl) ?_
                      refine r_callVV (pc := 111) (As := [.int (iI sign), .int (iI num)]) (rest := []) (wr := (padw cI pa co m T)) C w (c_S_append hT q a b sg1 ln1 r1 pl1 ov1 lc sd sign num _ _ hVd (by omega) (by omega)) ml_P_32 im_S_append se_S_append ini_S cd_S_append hd_S_append rfl (by rw [hRm]; exact ⟨⟨Nat.le_of_ble_eq_true rfl, Nat.le_of_ble_eq_true rfl⟩, Nat.le_of_ble_eq_true rfl, Nat.le_of_ble_eq_true rfl⟩) hl.1 [2, 3, 4] [0, 1] ⟨rfl, rfl, by decide, by decide, by decide⟩ 0 rfl rfl rfl (Nat.le_of_ble_eq_true rfl) d_P_readInto_111 (fun u_111 H locs hz_111 w => ?_)
                      obtain ⟨sg_111, ln_111, r_111, pl_111, ov_111, rfl, hV_111⟩ := hz_111
                      have w : Wd X (padw cI pa co m T ++ sw cI q a b sg_111 ln_111 r_111 pl_111 ov_111 lc sd) H locs := w.sub [0, 1, 2, 3, 4] rfl (by decide)
                      have hN : pst T (k + 1) = (0, cT, ST, LT) := by
                        rw [pst_succ T (by omega), ← hP]
                        unfold pnx
                        show (if sT = 0 then _ else if T k = 42 then _ else if T k = 59 then _ else if sT = 2 then _ else _) = _
                        rw [if_neg (by omega), if_neg (by omega), if_pos (by omega)]
                      have hVn : RVp r_111 pl_111 ov_111 sg_111 ln_111 (0, cT, ST, LT) := by
                        unfold RVp dnR
                        rw [if_pos rfl]
                        have h9 := RVp.add hV_111 (by omega) q2 q1 (by omega)
                        rw [show cT - 1 + 1 = cT by omega] at h9
                        exact h9
                      refine r_iconst (pc := 114) C d_P_readInto_114 ?_
                      refine r_istore_n (pc := 115) (lv' := [(2, .int (iI 0)), (6, .int (iI (T k))), (0, .ref pa), (1, .ref q), (3, .int (iI sign)), (4, .int (iI num)), (5, .int (iI k))]) C d_P_readInto_115 rfl hl (by decide) rfl (fun ls hl => ?_)
                      refine r_goto (pc := 116) (tgt := 155) C d_P_readInto_116 (by decide) ?_
                      refine r_iinc (pc := 155) (j := 6) (lv' := [(5, .int (iI (k + 1))), (2, .int (iI 0)), (6, .int (iI (T k))), (0, .ref pa), (1, .ref q), (3, .int (iI sign)), (4, .int (iI num))]) C d_P_readInto_155 hl rfl (by decide) rfl (fun ls hl => ?_)
                      refine r_goto (pc := 158) (tgt := 10) C d_P_readInto_158 (by decide) ?_
                      exact ih10 (k + 1) 0 sign num sg_111 ln_111 r_111 pl_111 ov_111 (by omega) ((lgs_succ hlg (by rw [← hP]; show lg (T k) sT (LT (cT - 1)); unfold lg; omega))) ((by rw [hN] <;> omega)) ((fun st c3 S3 L3 e => by rw [hN] at e; injection e with e1 e; injection e with e2 e; injection e with e3 e4; subst e1 e2 e3 e4; first | exact ⟨fun q => absurd rfl q, fun q => absurd q (by omega), fun q => absurd q (by omega)⟩ | exact ⟨fun _ => hsn.1 (by omega), fun q => absurd q (by omega), fun _ => rfl⟩ | (rw [show cT + 1 - 1 = cT by omega, up_eq, up_eq]; exact ⟨fun _ => by split <;> omega, fun _ => rfl, fun q => absurd q (by omega)⟩) | (rw [up_eq]; exact ⟨fun _ => hsn.1 (by omega), fun _ => rfl, fun q => absurd q (by omega)⟩))) ((by rw [hN]; exact hVn)) (by omega) _ _ _ w (lv_sub hl [3, 4, 1, 5, 6, 0] rfl)
                · skip
                  refine r_iconst (pc := 85) C d_P_readInto_85 ?_
                  refine r_istore (pc := 86) (lv' := [(4, .int (iI 0)), (6, .int (iI (T k))), (0, .ref pa), (1, .ref q), (2, .int (iI step)), (3, .int (iI sign)), (5, .int (iI k))]) C d_P_readInto_86 hl (by decide) rfl (fun ls hl => ?_)
                  have hN : pst T (k + 1) = (2, cT, ST, LT) := by
                    rw [pst_succ T (by omega), ← hP]
                    unfold pnx
                    show (if sT = 0 then _ else if T k = 42 then _ else if T k = 59 then _ else if sT = 2 then _ else _) = _
                    rw [if_neg (by omega), if_pos (by omega)]
                  have hVn : RVp r1 pl1 ov1 sg1 ln1 (2, cT, ST, LT) := by
                    unfold RVp dnR
                    rw [if_neg (show ¬ (2 : Int) = 0 by omega)]
                    exact hVs (by omega)
                  refine r_iconst (pc := 88) C d_P_readInto_88 ?_
                  refine r_istore_n (pc := 89) (lv' := [(2, .int (iI 2)), (4, .int (iI 0)), (6, .int (iI (T k))), (0, .ref pa), (1, .ref q), (3, .int (iI sign)), (5, .int (iI k))]) C d_P_readInto_89 rfl hl (by decide) rfl (fun ls hl => ?_)
                  refine r_goto (pc := 90) (tgt := 155) C d_P_readInto_90 (by decide) ?_
                  refine r_iinc (pc := 155) (j := 6) (lv' := [(5, .int (iI (k + 1))), (2, .int (iI 2)), (4, .int (iI 0)), (6, .int (iI (T k))), (0, .ref pa), (1, .ref q), (3, .int (iI sign))]) C d_P_readInto_155 hl rfl (by decide) rfl (fun ls hl => ?_)
                  refine r_goto (pc := 158) (tgt := 10) C d_P_readInto_158 (by decide) ?_
                  exact ih10 (k + 1) 2 sign 0 sg1 ln1 r1 pl1 ov1 (by omega) ((lgs_succ hlg (by rw [← hP]; show lg (T k) sT (LT (cT - 1)); unfold lg; omega))) ((by rw [hN] <;> omega)) ((fun st c3 S3 L3 e => by rw [hN] at e; injection e with e1 e; injection e with e2 e; injection e with e3 e4; subst e1 e2 e3 e4; first | exact ⟨fun q => absurd rfl q, fun q => absurd q (by omega), fun q => absurd q (by omega)⟩ | exact ⟨fun _ => hsn.1 (by omega), fun q => absurd q (by omega), fun _ => rfl⟩ | (rw [show cT + 1 - 1 = cT by omega, up_eq, up_eq]; exact ⟨fun _ => by split <;> omega, fun _ => rfl, fun q => absurd q (by omega)⟩) | (rw [up_eq]; exact ⟨fun _ => hsn.1 (by omega), fun _ => rfl, fun q => absurd q (by omega)⟩))) ((by rw [hN]; exact hVn)) (by omega) _ _ _ w (lv_sub hl [4, 5, 1, 6, 2, 0] rfl)
            · skip
              refine r_iload (pc := 47) C d_P_readInto_47 (lv_at hl 0 rfl) ?_
              refine r_bipush (pc := 49) C d_P_readInto_49 (by decide) ?_
              refine r_icmp_ne (pc := 51) (tgt := 59) C (by omega) d_P_readInto_51 (by decide) (fun c_51 => ?_) (fun c_51 => ?_)
              · skip
                refine r_iload (pc := 59) C d_P_readInto_59 (lv_at hl 0 rfl) ?_
                refine r_bipush (pc := 61) C d_P_readInto_61 (by decide) ?_
                refine r_isub (pc := 63) C d_P_readInto_63 ?_
                refine r_istore_n (pc := 64) (lv' := [(3, .int (iI ((T k) - 48))), (6, .int (iI (T k))), (0, .ref pa), (1, .ref q), (2, .int (iI step)), (4, .int (iI num)), (5, .int (iI k))]) C d_P_readInto_64 rfl hl (by decide) rfl (fun ls hl => ?_)
                refine r_iconst (pc := 65) C d_P_readInto_65 ?_
                refine r_istore (pc := 66) (lv' := [(4, .int (iI 1)), (3, .int (iI ((T k) - 48))), (6, .int (iI (T k))), (0, .ref pa), (1, .ref q), (2, .int (iI step)), (5, .int (iI k))]) C d_P_readInto_66 hl (by decide) rfl (fun ls hl => ?_)
                have hN : pst T (k + 1) = (1, cT + 1, up ST cT (if T k = 120 then 10 else T k - 48), up LT cT 1) := by
                  rw [pst_succ T (by omega), ← hP]
                  unfold pnx
                  show (if sT = 0 then _ else if T k = 42 then _ else if T k = 59 then _ else if sT = 2 then _ else _) = _
                  rw [if_pos (by omega)]
                have hVn : RVp r1 pl1 ov1 sg1 ln1 (1, cT + 1, up ST cT (if T k = 120 then 10 else T k - 48), up LT cT 1) := by
                  unfold RVp dnR
                  rw [if_neg (show ¬ (1 : Int) = 0 by omega)]
                  show RV r1 pl1 ov1 sg1 ln1 (ps (up LT cT 1) (cT + 1 - 1)) (ex (up ST cT (if T k = 120 then 10 else T k - 48)) (up LT cT 1) (cT + 1 - 1))
                  rw [show cT + 1 - 1 = cT by omega]
                  exact RVp.move (hVr (by omega)) p2.1 (fun j j1 j2 => ⟨(up_ne _ _ (by omega)).symm, (up_ne _ _ (by omega)).symm⟩)
                refine r_iconst (pc := 68) C d_P_readInto_68 ?_
                refine r_istore_n (pc := 69) (lv' := [(2, .int (iI 1)), (4, .int (iI 1)), (3, .int (iI ((T k) - 48))), (6, .int (iI (T k))), (0, .ref pa), (1, .ref q), (5, .int (iI k))]) C d_P_readInto_69 rfl hl (by decide) rfl (fun ls hl => ?_)
                refine r_goto (pc := 70) (tgt := 155) C d_P_readInto_70 (by decide) ?_
                refine r_iinc (pc := 155) (j := 6) (lv' := [(5, .int (iI (k + 1))), (2, .int (iI 1)), (4, .int (iI 1)), (3, .int (iI ((T k) - 48))), (6, .int (iI (T k))), (0, .ref pa), (1, .ref q)]) C d_P_readInto_155 hl rfl (by decide) rfl (fun ls hl => ?_)
                refine r_goto (pc := 158) (tgt := 10) C d_P_readInto_158 (by decide) ?_
                exact ih10 (k + 1) 1 ((T k) - 48) 1 sg1 ln1 r1 pl1 ov1 (by omega) ((lgs_succ hlg (by rw [← hP]; show lg (T k) sT (LT (cT - 1)); unfold lg; omega))) ((by rw [hN] <;> omega)) ((fun st c3 S3 L3 e => by rw [hN] at e; injection e with e1 e; injection e with e2 e; injection e with e3 e4; subst e1 e2 e3 e4; first | exact ⟨fun q => absurd rfl q, fun q => absurd q (by omega), fun q => absurd q (by omega)⟩ | exact ⟨fun _ => hsn.1 (by omega), fun q => absurd q (by omega), fun _ => rfl⟩ | (rw [show cT + 1 - 1 = cT by omega, up_eq, up_eq]; exact ⟨fun _ => by split <;> omega, fun _ => rfl, fun q => absurd q (by omega)⟩) | (rw [up_eq]; exact ⟨fun _ => hsn.1 (by omega), fun _ => rfl, fun q => absurd q (by omega)⟩))) ((by rw [hN]; exact hVn)) (by omega) _ _ _ w (lv_sub hl [5, 6, 1, 3, 2, 0] rfl)
              · skip
                refine r_bipush (pc := 54) C d_P_readInto_54 (by decide) ?_
                refine r_goto (pc := 56) (tgt := 64) C d_P_readInto_56 (by decide) ?_
                refine r_istore_n (pc := 64) (lv' := [(3, .int (iI 10)), (6, .int (iI (T k))), (0, .ref pa), (1, .ref q), (2, .int (iI step)), (4, .int (iI num)), (5, .int (iI k))]) C d_P_readInto_64 rfl hl (by decide) rfl (fun ls hl => ?_)
                refine r_iconst (pc := 65) C d_P_readInto_65 ?_
                refine r_istore (pc := 66) (lv' := [(4, .int (iI 1)), (3, .int (iI 10)), (6, .int (iI (T k))), (0, .ref pa), (1, .ref q), (2, .int (iI step)), (5, .int (iI k))]) C d_P_readInto_66 hl (by decide) rfl (fun ls hl => ?_)
                have hN : pst T (k + 1) = (1, cT + 1, up ST cT (if T k = 120 then 10 else T k - 48), up LT cT 1) := by
                  rw [pst_succ T (by omega), ← hP]
                  unfold pnx
                  show (if sT = 0 then _ else if T k = 42 then _ else if T k = 59 then _ else if sT = 2 then _ else _) = _
                  rw [if_pos (by omega)]
                have hVn : RVp r1 pl1 ov1 sg1 ln1 (1, cT + 1, up ST cT (if T k = 120 then 10 else T k - 48), up LT cT 1) := by
                  unfold RVp dnR
                  rw [if_neg (show ¬ (1 : Int) = 0 by omega)]
                  show RV r1 pl1 ov1 sg1 ln1 (ps (up LT cT 1) (cT + 1 - 1)) (ex (up ST cT (if T k = 120 then 10 else T k - 48)) (up LT cT 1) (cT + 1 - 1))
                  rw [show cT + 1 - 1 = cT by omega]
                  exact RVp.move (hVr (by omega)) p2.1 (fun j j1 j2 => ⟨(up_ne _ _ (by omega)).symm, (up_ne _ _ (by omega)).symm⟩)
                refine r_iconst (pc := 68) C d_P_readInto_68 ?_
                refine r_istore_n (pc := 69) (lv' := [(2, .int (iI 1)), (4, .int (iI 1)), (3, .int (iI 10)), (6, .int (iI (T k))), (0, .ref pa), (1, .ref q), (5, .int (iI k))]) C d_P_readInto_69 rfl hl (by decide) rfl (fun ls hl => ?_)
                refine r_goto (pc := 70) (tgt := 155) C d_P_readInto_70 (by decide) ?_
                refine r_iinc (pc := 155) (j := 6) (lv' := [(5, .int (iI (k + 1))), (2, .int (iI 1)), (4, .int (iI 1)), (3, .int (iI 10)), (6, .int (iI (T k))), (0, .ref pa), (1, .ref q)]) C d_P_readInto_155 hl rfl (by decide) rfl (fun ls hl => ?_)
                refine r_goto (pc := 158) (tgt := 10) C d_P_readInto_158 (by decide) ?_
                exact ih10 (k + 1) 1 10 1 sg1 ln1 r1 pl1 ov1 (by omega) ((lgs_succ hlg (by rw [← hP]; show lg (T k) sT (LT (cT - 1)); unfold lg; omega))) ((by rw [hN] <;> omega)) ((fun st c3 S3 L3 e => by rw [hN] at e; injection e with e1 e; injection e with e2 e; injection e with e3 e4; subst e1 e2 e3 e4; first | exact ⟨fun q => absurd rfl q, fun q => absurd q (by omega), fun q => absurd q (by omega)⟩ | exact ⟨fun _ => hsn.1 (by omega), fun q => absurd q (by omega), fun _ => rfl⟩ | (rw [show cT + 1 - 1 = cT by omega, up_eq, up_eq]; exact ⟨fun _ => by split <;> omega, fun _ => rfl, fun q => absurd q (by omega)⟩) | (rw [up_eq]; exact ⟨fun _ => hsn.1 (by omega), fun _ => rfl, fun q => absurd q (by omega)⟩))) ((by rw [hN]; exact hVn)) (by omega) _ _ _ w (lv_sub hl [5, 6, 1, 3, 2, 0] rfl)
  exact L10 ((m - 0) + 1 : Int).toNat 0 0 0 0 sg ln r pl ov (by first | omega | rfl) ((fun j j1 j2 => by omega)) (rfl) ((fun st cT ST LT e => by have e1 : st = 0 := congrArg (·.1) e; omega)) ((hV.to rfl (fun x x1 x2 => by omega))) (by omega) _ _ _ w (lv_sub hl [4, 5, 3, 2, 1, 0] rfl)
