/-! put of both -/
theorem d_P_charactersIn_0 : decode b_P_charactersIn 0 = .ok (.lload_n 0, 1) := by decide +kernel
theorem d_P_charactersIn_1 : decode b_P_charactersIn 1 = .ok (.lstore_n 2, 1) := by decide +kernel
theorem d_P_charactersIn_2 : decode b_P_charactersIn 2 = .ok (.iconst 0, 1) := by decide +kernel
theorem d_P_charactersIn_3 : decode b_P_charactersIn 3 = .ok (.istore 4, 2) := by decide +kernel
theorem d_P_charactersIn_5 : decode b_P_charactersIn 5 = .ok (.iconst 0, 1) := by decide +kernel
theorem d_P_charactersIn_6 : decode b_P_charactersIn 6 = .ok (.istore 5, 2) := by decide +kernel
theorem d_P_charactersIn_8 : decode b_P_charactersIn 8 = .ok (.iload 5, 2) := by decide +kernel
theorem d_P_charactersIn_10 : decode b_P_charactersIn 10 = .ok (.bipush 8, 2) := by decide +kernel
theorem d_P_charactersIn_12 : decode b_P_charactersIn 12 = .ok (.if_icmp .ge 54, 3) := by decide +kernel
theorem d_P_charactersIn_15 : decode b_P_charactersIn 15 = .ok (.lload_n 2, 1) := by decide +kernel
theorem d_P_charactersIn_16 : decode b_P_charactersIn 16 = .ok (.ldc2_w 19, 3) := by decide +kernel
theorem d_P_charactersIn_19 : decode b_P_charactersIn 19 = .ok (.land, 1) := by decide +kernel
theorem d_P_charactersIn_20 : decode b_P_charactersIn 20 = .ok (.lconst 0, 1) := by decide +kernel
theorem d_P_charactersIn_21 : decode b_P_charactersIn 21 = .ok (.lcmp, 1) := by decide +kernel
theorem d_P_charactersIn_22 : decode b_P_charactersIn 22 = .ok (.ifCond .eq 44, 3) := by decide +kernel
theorem d_P_charactersIn_25 : decode b_P_charactersIn 25 = .ok (.lload_n 2, 1) := by decide +kernel
theorem d_P_charactersIn_26 : decode b_P_charactersIn 26 = .ok (.ldc2_w 19, 3) := by decide +kernel
theorem d_P_charactersIn_29 : decode b_P_charactersIn 29 = .ok (.land, 1) := by decide +kernel
theorem d_P_charactersIn_30 : decode b_P_charactersIn 30 = .ok (.lstore 6, 2) := by decide +kernel
theorem d_P_charactersIn_32 : decode b_P_charactersIn 32 = .ok (.lload 6, 2) := by decide +kernel
theorem d_P_charactersIn_34 : decode b_P_charactersIn 34 = .ok (.ldc2_w 21, 3) := by decide +kernel
theorem d_P_charactersIn_37 : decode b_P_charactersIn 37 = .ok (.lcmp, 1) := by decide +kernel
theorem d_P_charactersIn_38 : decode b_P_charactersIn 38 = .ok (.ifCond .lt 12, 3) := by decide +kernel
theorem d_P_charactersIn_41 : decode b_P_charactersIn 41 = .ok (.lload 6, 2) := by decide +kernel
theorem d_P_charactersIn_43 : decode b_P_charactersIn 43 = .ok (.ldc2_w 23, 3) := by decide +kernel
theorem d_P_charactersIn_46 : decode b_P_charactersIn 46 = .ok (.lcmp, 1) := by decide +kernel
theorem d_P_charactersIn_47 : decode b_P_charactersIn 47 = .ok (.ifCond .le 5, 3) := by decide +kernel
theorem d_P_charactersIn_50 : decode b_P_charactersIn 50 = .ok (.iconst 0, 1) := by decide +kernel
theorem d_P_charactersIn_51 : decode b_P_charactersIn 51 = .ok (.ireturn, 1) := by decide +kernel
theorem d_P_charactersIn_52 : decode b_P_charactersIn 52 = .ok (.lload_n 2, 1) := by decide +kernel
theorem d_P_charactersIn_53 : decode b_P_charactersIn 53 = .ok (.bipush 8, 2) := by decide +kernel
theorem d_P_charactersIn_55 : decode b_P_charactersIn 55 = .ok (.lushr, 1) := by decide +kernel
theorem d_P_charactersIn_56 : decode b_P_charactersIn 56 = .ok (.lstore_n 2, 1) := by decide +kernel
theorem d_P_charactersIn_57 : decode b_P_charactersIn 57 = .ok (.iinc 4 1, 3) := by decide +kernel
theorem d_P_charactersIn_60 : decode b_P_charactersIn 60 = .ok (.iinc 5 1, 3) := by decide +kernel
theorem d_P_charactersIn_63 : decode b_P_charactersIn 63 = .ok (.goto (-55), 3) := by decide +kernel
theorem d_P_charactersIn_66 : decode b_P_charactersIn 66 = .ok (.lload_n 2, 1) := by decide +kernel
theorem d_P_charactersIn_67 : decode b_P_charactersIn 67 = .ok (.lconst 0, 1) := by decide +kernel
theorem d_P_charactersIn_68 : decode b_P_charactersIn 68 = .ok (.lcmp, 1) := by decide +kernel
theorem d_P_charactersIn_69 : decode b_P_charactersIn 69 = .ok (.ifCond .ne 8, 3) := by decide +kernel
theorem d_P_charactersIn_72 : decode b_P_charactersIn 72 = .ok (.iload 4, 2) := by decide +kernel
theorem d_P_charactersIn_74 : decode b_P_charactersIn 74 = .ok (.goto 4, 3) := by decide +kernel
theorem d_P_charactersIn_77 : decode b_P_charactersIn 77 = .ok (.iconst 0, 1) := by decide +kernel
theorem d_P_charactersIn_78 : decode b_P_charactersIn 78 = .ok (.ireturn, 1) := by decide +kernel
set_option maxHeartbeats 4000000 in
set_option maxRecDepth 20000 in
theorem c_P_charactersIn {l : Launch} {G : va_G} {tys : List (ClassId × FieldType)} (pk : Int) (hlr : 0 ≤ pk ∧ pk < 18446744073709551616) : CTP l G tys y_P_charactersIn b_P_charactersIn 8 .int 0 0 [.long (iL pk)] (fun z => (1 ≤ z ∧ Cn pk z) ∨ (z = 0 ∧ ∀ n, 1 ≤ n → ¬ Cn pk n)) := by
  unfold CTP
  refine mkI (by decide) (Nat.le_of_ble_eq_true rfl) ?_
  rintro X rfl rfl rfl hRm C kret H ls w hl
  have hl : lv_has ls 8 [(0, .long (iL pk))] := hl
  have w : Wd X ([]) H [] := w
  generalize ([] : List Loc) = locs at w ⊢
  refine r_lload_n (pc := 0) C d_P_charactersIn_0 rfl (lv_at hl 0 rfl) ?_
  refine r_lstore_n (pc := 1) (lv' := [(2, .long (iL pk)), (0, .long (iL pk))]) C d_P_charactersIn_1 rfl hl (by decide) rfl (fun ls hl => ?_)
  refine r_iconst (pc := 2) C d_P_charactersIn_2 ?_
  refine r_istore (pc := 3) (lv' := [(4, .int (iI 0)), (2, .long (iL pk)), (0, .long (iL pk))]) C d_P_charactersIn_3 hl (by decide) rfl (fun ls hl => ?_)
  refine r_iconst (pc := 5) C d_P_charactersIn_5 ?_
  refine r_istore (pc := 6) (lv' := [(5, .int (iI 0)), (4, .int (iI 0)), (2, .long (iL pk)), (0, .long (iL pk))]) C d_P_charactersIn_6 hl (by decide) rfl (fun ls hl => ?_)
  have L8 : ∀ (fuel : Nat), ∀ (i : Int) (rr : Int), 0 ≤ i ∧ i ≤ 8 → rr = sR pk i → (∀ j, 0 ≤ j → j < i → 33 ≤ sR pk j % 256 ∧ sR pk j % 256 ≤ 126) → (8 - i) < (fuel : Int) → ∀ (H : Heap) (locs : List Loc) (ls : Array Slot), Wd X ([]) H locs → lv_has ls 8 [(0, .long (iL pk)), (2, .long (iL rr)), (4, .int (iI i)), (5, .int (iI i))] → GG X 0 0 H locs 8 ls [] := by
    intro fuel
    induction fuel with
    | zero =>
      intro i rr h0 hr hb hfuel
      exact absurd hfuel (by omega)
    | succ fuel ih8 =>
      intro i rr h0 hr hb hfuel H locs ls w hl
      have hrr := sR_rg hlr i (by omega)
      rw [← hr] at hrr
      refine r_iload (pc := 8) C d_P_charactersIn_8 (lv_at hl 3 rfl) ?_
      refine r_bipush (pc := 10) C d_P_charactersIn_10 (by decide) ?_
      refine r_icmp_ge (pc := 12) (tgt := 66) C (by omega) d_P_charactersIn_12 (by decide) (fun c_12 => ?_) (fun c_12 => ?_)
      · skip
        have hr8 : rr = 0 := by rw [hr, show i = 8 by omega]; exact sR_8 hlr
        refine r_lload_n (pc := 66) C d_P_charactersIn_66 rfl (lv_at hl 1 rfl) ?_
        refine r_lconst (pc := 67) (z := 0) C d_P_charactersIn_67 rfl ?_
        refine r_lcmpE (pc := 68) C (by omega) d_P_charactersIn_68 (fun z_68 hz_68 hy_68 => ?_)
        refine r_if_ne (pc := 69) (tgt := 77) C (by omega) d_P_charactersIn_69 (by decide) (fun c_69 => ?_) (fun c_69 => ?_)
        · skip
          refine r_iconst (pc := 77) C d_P_charactersIn_77 ?_
          exact kret _ _ _ _ 0 _ d_P_charactersIn_78 w (⟨rfl, Or.inr ⟨rfl, fun n _ => Cn.not_of (i := i) (by omega) (by rw [← hr]; omega) (by rw [← hr]; omega) n⟩⟩)
        · skip
          refine r_iload (pc := 72) C d_P_charactersIn_72 (lv_at hl 2 rfl) ?_
          refine r_goto (pc := 74) (tgt := 78) C d_P_charactersIn_74 (by decide) ?_
          exact kret _ _ _ _ i _ d_P_charactersIn_78 w (⟨rfl, by have hc : Cn pk i := ⟨h0, hb, by rw [← hr]; omega⟩; rcases (by omega : 1 ≤ i ∨ i = 0) with e | e; exact Or.inl ⟨e, hc⟩; exact Or.inr ⟨e, fun n hn q => by have := hc.uniq q; omega⟩⟩)
      · skip
        refine r_lload_n (pc := 15) C d_P_charactersIn_15 rfl (lv_at hl 1 rfl) ?_
        refine r_ldc2 (pc := 16) (z := 255) C kc_P_19 (by decide +kernel) d_P_charactersIn_16 ?_
        refine r_land8 (pc := 19) C (by omega) d_P_charactersIn_19 ?_
        refine r_lconst (pc := 20) (z := 0) C d_P_charactersIn_20 rfl ?_
        refine r_lcmp (pc := 21) C (by omega) d_P_charactersIn_21 (fun z_21 hz_21 hy_21 => ?_)
        refine r_if_eq (pc := 22) (tgt := 66) C (by omega) d_P_charactersIn_22 (by decide) (fun c_22 => ?_) (fun c_22 => ?_)
        · skip
          refine r_lload_n (pc := 66) C d_P_charactersIn_66 rfl (lv_at hl 1 rfl) ?_
          refine r_lconst (pc := 67) (z := 0) C d_P_charactersIn_67 rfl ?_
          refine r_lcmpE (pc := 68) C (by omega) d_P_charactersIn_68 (fun z_68 hz_68 hy_68 => ?_)
          refine r_if_ne (pc := 69) (tgt := 77) C (by omega) d_P_charactersIn_69 (by decide) (fun c_69 => ?_) (fun c_69 => ?_)
          · skip
            refine r_iconst (pc := 77) C d_P_charactersIn_77 ?_
            exact kret _ _ _ _ 0 _ d_P_charactersIn_78 w (⟨rfl, Or.inr ⟨rfl, fun n _ => Cn.not_of (i := i) (by omega) (by rw [← hr]; omega) (by rw [← hr]; omega) n⟩⟩)
          · skip
            refine r_iload (pc := 72) C d_P_charactersIn_72 (lv_at hl 2 rfl) ?_
            refine r_goto (pc := 74) (tgt := 78) C d_P_charactersIn_74 (by decide) ?_
            exact kret _ _ _ _ i _ d_P_charactersIn_78 w (⟨rfl, by have hc : Cn pk i := ⟨h0, hb, by rw [← hr]; omega⟩; rcases (by omega : 1 ≤ i ∨ i = 0) with e | e; exact Or.inl ⟨e, hc⟩; exact Or.inr ⟨e, fun n hn q => by have := hc.uniq q; omega⟩⟩)
        · skip
          refine r_lload_n (pc := 25) C d_P_charactersIn_25 rfl (lv_at hl 1 rfl) ?_
          refine r_ldc2 (pc := 26) (z := 255) C kc_P_19 (by decide +kernel) d_P_charactersIn_26 ?_
          refine r_land8 (pc := 29) C (by omega) d_P_charactersIn_29 ?_
          refine r_lstore (pc := 30) (lv' := [(6, .long (iL (rr % 256))), (0, .long (iL pk)), (2, .long (iL rr)), (4, .int (iI i)), (5, .int (iI i))]) C d_P_charactersIn_30 hl (by decide) rfl (fun ls hl => ?_)
          refine r_lload (pc := 32) C d_P_charactersIn_32 (lv_at hl 0 rfl) ?_
          refine r_ldc2 (pc := 34) (z := 33) C kc_P_21 (by decide +kernel) d_P_charactersIn_34 ?_
          refine r_lcmp (pc := 37) C (by omega) d_P_charactersIn_37 (fun z_37 hz_37 hy_37 => ?_)
          refine r_if_lt (pc := 38) (tgt := 50) C (by omega) d_P_charactersIn_38 (by decide) (fun c_38 => ?_) (fun c_38 => ?_)
          · skip
            refine r_iconst (pc := 50) C d_P_charactersIn_50 ?_
            exact kret _ _ _ _ 0 _ d_P_charactersIn_51 w (⟨rfl, Or.inr ⟨rfl, fun n _ => Cn.not_of (i := i) (by omega) (by rw [← hr]; omega) (by rw [← hr]; omega) n⟩⟩)
          · skip
            refine r_lload (pc := 41) C d_P_charactersIn_41 (lv_at hl 0 rfl) ?_
            refine r_ldc2 (pc := 43) (z := 126) C kc_P_23 (by decide +kernel) d_P_charactersIn_43 ?_
            refine r_lcmp (pc := 46) C (by omega) d_P_charactersIn_46 (fun z_46 hz_46 hy_46 => ?_)
            refine r_if_le (pc := 47) (tgt := 52) C (by omega) d_P_charactersIn_47 (by decide) (fun c_47 => ?_) (fun c_47 => ?_)
            · skip
              refine r_lload_n (pc := 52) C d_P_charactersIn_52 rfl (lv_at hl 2 rfl) ?_
              refine r_bipush (pc := 53) C d_P_charactersIn_53 (by decide) ?_
              refine r_lushr (pc := 55) C (by omega) d_P_charactersIn_55 ?_
              refine r_topl (y := iL (rr / 256)) (rfl) ?_
              refine r_lstore_n (pc := 56) (lv' := [(2, .long (iL (rr / 256))), (6, .long (iL (rr % 256))), (0, .long (iL pk)), (4, .int (iI i)), (5, .int (iI i))]) C d_P_charactersIn_56 rfl hl (by decide) rfl (fun ls hl => ?_)
              refine r_iinc (pc := 57) (j := 3) (lv' := [(4, .int (iI (i + 1))), (2, .long (iL (rr / 256))), (6, .long (iL (rr % 256))), (0, .long (iL pk)), (5, .int (iI i))]) C d_P_charactersIn_57 hl rfl (by decide) rfl (fun ls hl => ?_)
              refine r_iinc (pc := 60) (j := 4) (lv' := [(5, .int (iI (i + 1))), (4, .int (iI (i + 1))), (2, .long (iL (rr / 256))), (6, .long (iL (rr % 256))), (0, .long (iL pk))]) C d_P_charactersIn_60 hl rfl (by decide) rfl (fun ls hl => ?_)
              refine r_goto (pc := 63) (tgt := 8) C d_P_charactersIn_63 (by decide) ?_
              exact ih8 (i + 1) (rr / 256) (by omega) ((by rw [sR_256 pk (by omega), ← hr])) ((fun j j1 j2 => if e : j = i then (by subst e; rw [← hr]; omega) else hb j j1 (by omega))) (by omega) _ _ _ w (lv_sub hl [4, 2, 1, 0] rfl)
            · skip
              refine r_iconst (pc := 50) C d_P_charactersIn_50 ?_
              exact kret _ _ _ _ 0 _ d_P_charactersIn_51 w (⟨rfl, Or.inr ⟨rfl, fun n _ => Cn.not_of (i := i) (by omega) (by rw [← hr]; omega) (by rw [← hr]; omega) n⟩⟩)
  exact L8 ((8 - 0) + 1 : Int).toNat 0 pk (by first | omega | rfl) ((sR_zero pk).symm) ((fun j j1 j2 => by omega)) (by omega) _ _ _ w (lv_sub hl [3, 2, 1, 0] rfl)
theorem d_P_tookIn_0 : decode b_P_tookIn 0 = .ok (.iload_n 3, 1) := by decide +kernel
theorem d_P_tookIn_1 : decode b_P_tookIn 1 = .ok (.bipush 80, 2) := by decide +kernel
theorem d_P_tookIn_3 : decode b_P_tookIn 3 = .ok (.aload_n 0, 1) := by decide +kernel
theorem d_P_tookIn_4 : decode b_P_tookIn 4 = .ok (.getfield 15, 3) := by decide +kernel
theorem d_P_tookIn_7 : decode b_P_tookIn 7 = .ok (.isub, 1) := by decide +kernel
theorem d_P_tookIn_8 : decode b_P_tookIn 8 = .ok (.if_icmp .le 5, 3) := by decide +kernel
theorem d_P_tookIn_11 : decode b_P_tookIn 11 = .ok (.iconst 0, 1) := by decide +kernel
theorem d_P_tookIn_12 : decode b_P_tookIn 12 = .ok (.ireturn, 1) := by decide +kernel
theorem d_P_tookIn_13 : decode b_P_tookIn 13 = .ok (.iload_n 3, 1) := by decide +kernel
theorem d_P_tookIn_14 : decode b_P_tookIn 14 = .ok (.iconst 1, 1) := by decide +kernel
theorem d_P_tookIn_15 : decode b_P_tookIn 15 = .ok (.isub, 1) := by decide +kernel
theorem d_P_tookIn_16 : decode b_P_tookIn 16 = .ok (.istore 4, 2) := by decide +kernel
theorem d_P_tookIn_18 : decode b_P_tookIn 18 = .ok (.iload 4, 2) := by decide +kernel
theorem d_P_tookIn_20 : decode b_P_tookIn 20 = .ok (.ifCond .lt 40, 3) := by decide +kernel
theorem d_P_tookIn_23 : decode b_P_tookIn 23 = .ok (.aload_n 0, 1) := by decide +kernel
theorem d_P_tookIn_24 : decode b_P_tookIn 24 = .ok (.getfield 11, 3) := by decide +kernel
theorem d_P_tookIn_27 : decode b_P_tookIn 27 = .ok (.aload_n 0, 1) := by decide +kernel
theorem d_P_tookIn_28 : decode b_P_tookIn 28 = .ok (.getfield 15, 3) := by decide +kernel
theorem d_P_tookIn_31 : decode b_P_tookIn 31 = .ok (.lload_n 1, 1) := by decide +kernel
theorem d_P_tookIn_32 : decode b_P_tookIn 32 = .ok (.bipush 8, 2) := by decide +kernel
theorem d_P_tookIn_34 : decode b_P_tookIn 34 = .ok (.iload 4, 2) := by decide +kernel
theorem d_P_tookIn_36 : decode b_P_tookIn 36 = .ok (.imul, 1) := by decide +kernel
theorem d_P_tookIn_37 : decode b_P_tookIn 37 = .ok (.lushr, 1) := by decide +kernel
theorem d_P_tookIn_38 : decode b_P_tookIn 38 = .ok (.ldc2_w 19, 3) := by decide +kernel
theorem d_P_tookIn_41 : decode b_P_tookIn 41 = .ok (.land, 1) := by decide +kernel
theorem d_P_tookIn_42 : decode b_P_tookIn 42 = .ok (.l2i, 1) := by decide +kernel
theorem d_P_tookIn_43 : decode b_P_tookIn 43 = .ok (.iastore, 1) := by decide +kernel
theorem d_P_tookIn_44 : decode b_P_tookIn 44 = .ok (.aload_n 0, 1) := by decide +kernel
theorem d_P_tookIn_45 : decode b_P_tookIn 45 = .ok (.dup, 1) := by decide +kernel
theorem d_P_tookIn_46 : decode b_P_tookIn 46 = .ok (.getfield 15, 3) := by decide +kernel
theorem d_P_tookIn_49 : decode b_P_tookIn 49 = .ok (.iconst 1, 1) := by decide +kernel
theorem d_P_tookIn_50 : decode b_P_tookIn 50 = .ok (.iadd, 1) := by decide +kernel
theorem d_P_tookIn_51 : decode b_P_tookIn 51 = .ok (.putfield 15, 3) := by decide +kernel
theorem d_P_tookIn_54 : decode b_P_tookIn 54 = .ok (.iinc 4 (-1), 3) := by decide +kernel
theorem d_P_tookIn_57 : decode b_P_tookIn 57 = .ok (.goto (-39), 3) := by decide +kernel
theorem d_P_tookIn_60 : decode b_P_tookIn 60 = .ok (.iconst 1, 1) := by decide +kernel
theorem d_P_tookIn_61 : decode b_P_tookIn 61 = .ok (.ireturn, 1) := by decide +kernel
set_option maxHeartbeats 4000000 in
set_option maxRecDepth 20000 in
theorem c_P_tookIn {l : Launch} {G : va_G} {tys : List (ClassId × FieldType)} {cI cO cZ : ClassId} (hT : TY tys cI cO cZ) (pa co : Nat) (m : Int) (T : Int → Int) (pk n : Int) (hlr : 0 ≤ pk ∧ pk < 18446744073709551616) (hn : 1 ≤ n ∧ n ≤ 8) (hm8 : 0 ≤ m ∧ m ≤ 80) : CTI l G tys y_P_tookIn b_P_tookIn 5 .boolean 0 0 [.ref pa, .long (iL pk), .int (iI n)] (padw cI pa co m T) (fun z u => ∃ (T' : Int → Int) (m' : Int), u = padw cI pa co m' T' ∧ ((80 < m + n ∧ z = 0 ∧ m' = m ∧ T' = T) ∨ (m + n ≤ 80 ∧ z = 1 ∧ m' = m + n ∧ (∀ x, 0 ≤ x → x < m → T' x = T x) ∧ ∀ j, 0 ≤ j → j < n → T' (m + j) = sR pk (n - 1 - j) % 256))) := by
  refine mkZ (by decide) (Nat.le_of_ble_eq_true rfl) ?_
  rintro X rfl rfl rfl hRm C kret H ls w hl
  have hl : lv_has ls 5 [(0, .ref pa), (1, .long (iL pk)), (3, .int (iI n))] := hl
  have w : Wd X (padw cI pa co m T) H [] := w
  generalize ([] : List Loc) = locs at w ⊢
  refine r_iload_n (pc := 0) C d_P_tookIn_0 rfl (lv_at hl 2 rfl) ?_
  refine r_bipush (pc := 1) C d_P_tookIn_1 (by decide) ?_
  refine r_aload_n (pc := 3) C d_P_tookIn_3 rfl (lv_at hl 0 rfl) ?_
  refine r_get (pc := 4) (v := .int (iI m)) C w i_P rfl 0 rfl 1 (by decide) fl_P_15 rfl rfl d_P_tookIn_4 ?_
  refine r_isub (pc := 7) C d_P_tookIn_7 ?_
  refine r_icmp_le (pc := 8) (tgt := 13) C (by omega) d_P_tookIn_8 (by decide) (fun c_8 => ?_) (fun c_8 => ?_)
  · skip
    refine r_iload_n (pc := 13) C d_P_tookIn_13 rfl (lv_at hl 2 rfl) ?_
    refine r_iconst (pc := 14) C d_P_tookIn_14 ?_
    refine r_isub (pc := 15) C d_P_tookIn_15 ?_
    refine r_istore (pc := 16) (lv' := [(4, .int (iI (n - 1))), (0, .ref pa), (1, .long (iL pk)), (3, .int (iI n))]) C d_P_tookIn_16 hl (by decide) rfl (fun ls hl => ?_)
    have L18 : ∀ (fuel : Nat), ∀ (i : Int) (mm : Int) (T1 : Int → Int), -1 ≤ i ∧ i ≤ n - 1 → mm = m + (n - 1 - i) → (∀ x, 0 ≤ x → x < m → T1 x = T x) → (∀ j, 0 ≤ j → j < n - 1 - i → T1 (m + j) = sR pk (n - 1 - j) % 256) → (i + 1) < (fuel : Int) → ∀ (H : Heap) (locs : List Loc) (ls : Array Slot), Wd X (padw cI pa co mm T1) H locs → lv_has ls 5 [(0, .ref pa), (1, .long (iL pk)), (3, .int (iI n)), (4, .int (iI i))] → GG X 0 0 H locs 18 ls [] := by
      intro fuel
      induction fuel with
      | zero =>
        intro i mm T1 h0 hmm hT1 hj hfuel
        exact absurd hfuel (by omega)
      | succ fuel ih18 =>
        intro i mm T1 h0 hmm hT1 hj hfuel H locs ls w hl
        refine r_iload (pc := 18) C d_P_tookIn_18 (lv_at hl 3 rfl) ?_
        refine r_if_lt (pc := 20) (tgt := 60) C (by omega) d_P_tookIn_20 (by decide) (fun c_20 => ?_) (fun c_20 => ?_)
        · skip
          refine r_iconst (pc := 60) C d_P_tookIn_60 ?_
          exact kret _ _ _ _ 1 _ d_P_tookIn_61 w (by omega) (⟨_, _, rfl, Or.inr ⟨by omega, rfl, by omega, hT1, fun j j1 j2 => hj j j1 (by omega)⟩⟩)
        · skip
          have hsr := sR_rg hlr i (by omega)
          refine r_aload_n (pc := 23) C d_P_tookIn_23 rfl (lv_at hl 0 rfl) ?_
          refine r_get (pc := 24) (v := .ref co) C w i_P rfl 0 rfl 0 (by decide) fl_P_11 rfl rfl d_P_tookIn_24 ?_
          refine r_aload_n (pc := 27) C d_P_tookIn_27 rfl (lv_at hl 0 rfl) ?_
          refine r_get (pc := 28) (v := .int (iI mm)) C w i_P rfl 0 rfl 1 (by decide) fl_P_15 rfl rfl d_P_tookIn_28 ?_
          refine r_lload_n (pc := 31) C d_P_tookIn_31 rfl (lv_at hl 1 rfl) ?_
          refine r_bipush (pc := 32) C d_P_tookIn_32 (by decide) ?_
          refine r_iload (pc := 34) C d_P_tookIn_34 (lv_at hl 3 rfl) ?_
          refine r_imul (pc := 36) C d_P_tookIn_36 ?_
          refine r_lushr (pc := 37) C (by omega) d_P_tookIn_37 ?_
          refine r_topl (y := iL (sR pk i)) (rfl) ?_
          refine r_ldc2 (pc := 38) (z := 255) C kc_P_19 (by decide +kernel) d_P_tookIn_38 ?_
          refine r_land8 (pc := 41) C (by omega) d_P_tookIn_41 ?_
          refine r_l2i (pc := 42) C (by omega) d_P_tookIn_42 ?_
          refine r_iast (pc := 43) (f := T1) (i := mm) (v := ((sR pk i) % 256)) (ws' := padw cI pa co mm (up T1 mm ((sR pk i) % 256))) C w 0 1 rfl hT.1 (by omega) rfl d_P_tookIn_43 (fun H locs w => ?_)
          refine r_aload_n (pc := 44) C d_P_tookIn_44 rfl (lv_at hl 0 rfl) ?_
          refine r_dup (pc := 45) C d_P_tookIn_45 rfl ?_
          refine r_get (pc := 46) (v := .int (iI mm)) C w i_P rfl 0 rfl 1 (by decide) fl_P_15 rfl rfl d_P_tookIn_46 ?_
          refine r_iconst (pc := 49) C d_P_tookIn_49 ?_
          refine r_iadd (pc := 50) C d_P_tookIn_50 ?_
          refine r_put (pc := 51) (ws' := padw cI pa co (mm + 1) (up T1 mm ((sR pk i) % 256))) C w i_P t_P t_P_ok n_P rfl 0 rfl 1 (by decide) fl_P_15 rfl rfl rfl rfl (Nat.le_of_ble_eq_true rfl) rfl d_P_tookIn_51 (fun H locs w => ?_)
          refine r_iinc (pc := 54) (j := 3) (lv' := [(4, .int (iI (i + (-1)))), (0, .ref pa), (1, .long (iL pk)), (3, .int (iI n))]) C d_P_tookIn_54 hl rfl (by decide) rfl (fun ls hl => ?_)
          refine r_goto (pc := 57) (tgt := 18) C d_P_tookIn_57 (by decide) ?_
          exact ih18 (i + (-1)) (mm + 1) (up T1 mm ((sR pk i) % 256)) (by omega) (by omega) ((fun x h1 h2 => by rw [up_ne _ _ (by omega)]; exact hT1 x h1 h2)) ((fun j j1 j2 => if e : m + j = mm then (by rw [e, up_eq, show n - 1 - j = i by omega]) else (by rw [up_ne _ _ e]; exact hj j j1 (by omega)))) (by omega) _ _ _ w (lv_sub hl [1, 2, 3, 0] rfl)
    exact L18 (((n - 1) + 1) + 1 : Int).toNat (n - 1) m T (by first | omega | rfl) ((by omega)) ((fun _ _ _ => rfl)) ((fun j j1 j2 => by omega)) (by omega) _ _ _ w (lv_sub hl [1, 2, 3, 0] rfl)
  · skip
    refine r_iconst (pc := 11) C d_P_tookIn_11 ?_
    exact kret _ _ _ _ 0 _ d_P_tookIn_12 w (by omega) (⟨_, _, rfl, Or.inl ⟨by omega, rfl, rfl, rfl⟩⟩)
def Sp_put (pk : Int) (A : AS) (z : Int) (A' : AS) : Prop := match A with | ((lc, sd, r, sg, ln, N, v), hist, rcd, slot, uf, T, m) => ((∀ n, 1 ≤ n → ¬ Cn pk n) ∧ z = -2 ∧ A' = ((lc, sd, r, sg, ln, N, v), hist, rcd, slot, uf, T, m)) ∨ (∃ n, 1 ≤ n ∧ Cn pk n ∧ 80 < m + n ∧ z = -4 ∧ A' = ((lc, sd, r, sg, ln, N, v), hist, rcd, slot, uf, T, m)) ∨ (∃ (n : Int) (T' : Int → Int), 1 ≤ n ∧ Cn pk n ∧ m + n ≤ 80 ∧ z = m + n ∧ (∀ x, 0 ≤ x → x < m → T' x = T x) ∧ (∀ j, 0 ≤ j → j < n → T' (m + j) = sR pk (n - 1 - j) % 256) ∧ A' = ((lc, sd, r, sg, ln, N, v), hist, rcd, slot, uf, T', m + n))
theorem d_D_put_0 : decode b_D_put 0 = .ok (.lload_n 1, 1) := by decide +kernel
theorem d_D_put_1 : decode b_D_put 1 = .ok (.invokestatic 154, 3) := by decide +kernel
theorem d_D_put_4 : decode b_D_put 4 = .ok (.istore_n 3, 1) := by decide +kernel
theorem d_D_put_5 : decode b_D_put 5 = .ok (.iload_n 3, 1) := by decide +kernel
theorem d_D_put_6 : decode b_D_put 6 = .ok (.iconst 1, 1) := by decide +kernel
theorem d_D_put_7 : decode b_D_put 7 = .ok (.if_icmp .ge 6, 3) := by decide +kernel
theorem d_D_put_10 : decode b_D_put 10 = .ok (.bipush (-2), 2) := by decide +kernel
theorem d_D_put_12 : decode b_D_put 12 = .ok (.ireturn, 1) := by decide +kernel
theorem d_D_put_13 : decode b_D_put 13 = .ok (.aload_n 0, 1) := by decide +kernel
theorem d_D_put_14 : decode b_D_put 14 = .ok (.getfield 40, 3) := by decide +kernel
theorem d_D_put_17 : decode b_D_put 17 = .ok (.lload_n 1, 1) := by decide +kernel
theorem d_D_put_18 : decode b_D_put 18 = .ok (.iload_n 3, 1) := by decide +kernel
theorem d_D_put_19 : decode b_D_put 19 = .ok (.invokevirtual 158, 3) := by decide +kernel
theorem d_D_put_22 : decode b_D_put 22 = .ok (.ifCond .eq 13, 3) := by decide +kernel
theorem d_D_put_25 : decode b_D_put 25 = .ok (.aload_n 0, 1) := by decide +kernel
theorem d_D_put_26 : decode b_D_put 26 = .ok (.getfield 40, 3) := by decide +kernel
theorem d_D_put_29 : decode b_D_put 29 = .ok (.getfield 131, 3) := by decide +kernel
theorem d_D_put_32 : decode b_D_put 32 = .ok (.goto 5, 3) := by decide +kernel
theorem d_D_put_35 : decode b_D_put 35 = .ok (.bipush (-4), 2) := by decide +kernel
theorem d_D_put_37 : decode b_D_put 37 = .ok (.ireturn, 1) := by decide +kernel
set_option maxHeartbeats 4000000 in
set_option maxRecDepth 20000 in
theorem c_D_put {l : Launch} {G : va_G} {tys : List (ClassId × FieldType)} {cI cO cZ : ClassId} (hT : TY tys cI cO cZ) (o : Nat) (A : AS) (ws : va_W) (hA : CW cI cO cZ o A ws) (pk : Int) (hlr : 0 ≤ pk ∧ pk < 18446744073709551616) : CTI l G tys y_D_put b_D_put 4 .int 1 27 [.ref o, .long (iL pk)] ws (fun z u => ∃ A' : AS, CW cI cO cZ o A' u ∧ Sp_put pk A z A') := by
  obtain ⟨⟨lc, sd, r, sg, ln, N, v⟩, hist, rcd, slot, uf, T, m⟩ := A
  obtain ⟨hR, h, sl, us, pd, co, hf, sf, q, a, b, ov, q2, a2, b2, sg2, ln2, r2, pl2, ov2, lc2, sd2, q3, a3, b3, sg3, ln3, r3, pl3, ov3, lc3, sd3, st, rfl, hC⟩ := hA
  have hO := hR.1
  have hr5 := hR.2.1
  have hN3 := hR.2.2.1
  have hN0 := hO.n0
  have hr0 := hO.1
  have hlcd := hR.2.2.2
  have hm80 := hC.2.2.2.2.2.1
  have hrcd6 := hC.2.2.1
  refine mkI (by decide) (Nat.le_of_ble_eq_true rfl) ?_
  rintro X rfl rfl rfl hRm C kret H ls w hl
  have hl : lv_has ls 4 [(0, .ref o), (1, .long (iL pk))] := hl
  have w : Wd X (dcore cI cO cZ o h sl us pd co q q2 q3 hf rcd sf uf T m ++ sw cI q a b sg ln r N ov lc sd ++ sw cI q2 a2 b2 sg2 ln2 r2 pl2 ov2 lc2 sd2 ++ sw cI q3 a3 b3 sg3 ln3 r3 pl3 ov3 lc3 sd3 ++ hst cI st) H [] := w
  generalize ([] : List Loc) = locs at w ⊢
  refine r_lload_n (pc := 0) C d_D_put_0 rfl (lv_at hl 1 rfl) ?_
  refine r_callP (pc := 1) (As := [.long (iL pk)]) (rest := []) C w (c_P_charactersIn pk (by omega)) ml_D_154 st_P_charactersIn ini_P cd_P_charactersIn hd_P_charactersIn rfl (by rw [hRm]; exact ⟨⟨Nat.le_of_ble_eq_true rfl, Nat.le_of_ble_eq_true rfl⟩, Nat.le_of_ble_eq_true rfl, Nat.le_of_ble_eq_true rfl⟩) hl.1 rfl (Nat.le_of_ble_eq_true rfl) d_D_put_1 (fun z_1 H locs hz_1 w => ?_)
  have hzr_1 : 0 ≤ z_1 ∧ z_1 ≤ 8 := by rcases hz_1 with ⟨a, b⟩ | ⟨a, -⟩; have := b.1; omega; omega
  refine r_istore_n (pc := 4) (lv' := [(3, .int (iI z_1)), (0, .ref o), (1, .long (iL pk))]) C d_D_put_4 rfl hl (by decide) rfl (fun ls hl => ?_)
  refine r_iload_n (pc := 5) C d_D_put_5 rfl (lv_at hl 0 rfl) ?_
  refine r_iconst (pc := 6) C d_D_put_6 ?_
  refine r_icmp_ge (pc := 7) (tgt := 13) C (by omega) d_D_put_7 (by decide) (fun c_7 => ?_) (fun c_7 => ?_)
  · skip
    have hCn : Cn pk z_1 := by rcases hz_1 with ⟨-, b⟩ | ⟨a, -⟩; exact b; omega
    refine r_aload_n (pc := 13) C d_D_put_13 rfl (lv_at hl 1 rfl) ?_
    refine r_get (pc := 14) (v := .ref pd) C w i_D rfl 0 rfl 7 (by decide) fl_D_40 rfl rfl d_D_put_14 ?_
    refine r_lload_n (pc := 17) C d_D_put_17 rfl (lv_at hl 2 rfl) ?_
    refine r_iload_n (pc := 18) C d_D_put_18 rfl (lv_at hl 0 rfl) ?_
    refine r_callVI (pc := 19) (As := [.long (iL pk), .int (iI z_1)]) (rest := []) (wr := (([(o, .inr (0, [.ref q, .ref q2, .ref q3, .ref h, .int (iI rcd), .ref sl, .ref us, .ref pd])), (h, aR cO 6 hf), (sl, aR cO 2 sf), (us, aI cZ 2 uf)] : va_W) ++ sw cI q a b sg ln r N ov lc sd ++ sw cI q2 a2 b2 sg2 ln2 r2 pl2 ov2 lc2 sd2 ++ sw cI q3 a3 b3 sg3 ln3 r3 pl3 ov3 lc3 sd3 ++ hst cI st)) C w (c_P_tookIn hT pd co m T pk z_1 hlr (by omega) (by omega)) ml_D_158 im_P_tookIn se_P_tookIn ini_P cd_P_tookIn hd_P_tookIn rfl (by rw [hRm]; exact ⟨⟨Nat.le_of_ble_eq_true rfl, Nat.le_of_ble_eq_true rfl⟩, Nat.le_of_ble_eq_true rfl, Nat.le_of_ble_eq_true rfl⟩) hl.1 [4, 5] [0, 1, 2, 3, 6, 7, 8, 9, 10, 11, 12, 13, 14, 15, 16, 17, 18, 19, 20, 21, 22, 23, 24, 25, 26, 27, 28, 29, 30, 31, 32, 33, 34, 35, 36, 37, 38] ⟨rfl, rfl, by decide, by decide, by decide⟩ 0 rfl rfl rfl (Nat.le_of_ble_eq_true rfl) d_D_put_19 (fun z_19 u_19 H locs hz_19 w => ?_)
    obtain ⟨T_19, m_19, rfl, hz_19⟩ := hz_19
    have w : Wd X (dcore cI cO cZ o h sl us pd co q q2 q3 hf rcd sf uf T_19 m_19 ++ sw cI q a b sg ln r N ov lc sd ++ sw cI q2 a2 b2 sg2 ln2 r2 pl2 ov2 lc2 sd2 ++ sw cI q3 a3 b3 sg3 ln3 r3 pl3 ov3 lc3 sd3 ++ hst cI st) H locs := w.sub [0, 1, 2, 3, 37, 38, 4, 5, 6, 7, 8, 9, 10, 11, 12, 13, 14, 15, 16, 17, 18, 19, 20, 21, 22, 23, 24, 25, 26, 27, 28, 29, 30, 31, 32, 33, 34, 35, 36] rfl (by decide)
    refine r_if_eq (pc := 22) (tgt := 35) C (by omega) d_D_put_22 (by decide) (fun c_22 => ?_) (fun c_22 => ?_)
    · skip
      refine r_bipush (pc := 35) C d_D_put_35 (by decide) ?_
      exact kret _ _ _ _ (-4) _ d_D_put_37 w (by rcases hz_19 with ⟨b1, -, rfl, rfl⟩ | ⟨-, e, -⟩; exact ⟨_, cw_mk hR hC, Or.inr (Or.inl ⟨z_1, by omega, hCn, b1, rfl, rfl⟩)⟩; omega)
    · skip
      refine r_aload_n (pc := 25) C d_D_put_25 rfl (lv_at hl 1 rfl) ?_
      refine r_get (pc := 26) (v := .ref pd) C w i_D rfl 0 rfl 7 (by decide) fl_D_40 rfl rfl d_D_put_26 ?_
      refine r_get (pc := 29) (v := .int (iI m_19)) C w i_P rfl 4 rfl 1 (by decide) fl_D_131 rfl rfl d_D_put_29 ?_
      refine r_goto (pc := 32) (tgt := 37) C d_D_put_32 (by decide) ?_
      exact kret _ _ _ _ m_19 _ d_D_put_37 w (by rcases hz_19 with ⟨-, a, -⟩ | ⟨a1, a2, a3, a4, a5⟩; omega; subst a3; exact ⟨_, cw_mk hR ⟨hC.1, hC.2.1, hC.2.2.1, hC.2.2.2.1, hC.2.2.2.2.1, by omega, (fun x x1 x2 => if e : x < m then (by rw [a4 x x1 e]; exact hC.2.2.2.2.2.2 x x1 e) else (by have h8 := a5 (x - m) (by omega) (by omega); rw [show m + (x - m) = x by omega] at h8; rw [h8]; exact hCn.2.1 _ (by omega) (by omega)))⟩, Or.inr (Or.inr ⟨z_1, T_19, by omega, hCn, a1, rfl, a4, a5, rfl⟩)⟩)
  · skip
    refine r_bipush (pc := 10) C d_D_put_10 (by decide) ?_
    exact kret _ _ _ _ (-2) _ d_D_put_12 w (⟨_, cw_mk hR hC, Or.inl ⟨by rcases hz_1 with ⟨a, b⟩ | ⟨a, b⟩; omega; exact b, rfl, rfl⟩⟩)
