section
-- ===== PART A: goes FIRST, ahead of the names: the tables' words, and 'selects' of the private methods out of them =====
/-- a private method of a class that the tables say can be made, by its rows of tables_1 -/
def lw_okq (q : MethodName × Nat) : Prop := (q.1.cls ≠ "java/lang/invoke/MethodHandle" ∧ q.1.cls ≠ "java/lang/invoke/VarHandle") ∧ Cond.instantiable q.1.cls q.2 ∈ tables_1 ∧ Cond.privateMethod q.1 ∈ tables_1 ∧ Cond.instanceMethod q.1 ∈ tables_1
theorem lw_p0 : lw_okq (⟨"DeadRuns", "accepted", "(I)I"⟩, 8) := ⟨⟨by decide +kernel, by decide +kernel⟩, List.mem_of_getElem? (i := 9) (by decide +kernel), List.mem_of_getElem? (i := 124) (by decide +kernel), List.mem_of_getElem? (i := 125) (by decide +kernel)⟩
theorem lw_p1 : lw_okq (⟨"DeadRuns", "dropOldest", "()V"⟩, 8) := ⟨⟨by decide +kernel, by decide +kernel⟩, List.mem_of_getElem? (i := 9) (by decide +kernel), List.mem_of_getElem? (i := 128) (by decide +kernel), List.mem_of_getElem? (i := 129) (by decide +kernel)⟩
theorem lw_p2 : lw_okq (⟨"DeadRuns", "isPiece", "(II)Z"⟩, 8) := ⟨⟨by decide +kernel, by decide +kernel⟩, List.mem_of_getElem? (i := 9) (by decide +kernel), List.mem_of_getElem? (i := 143) (by decide +kernel), List.mem_of_getElem? (i := 144) (by decide +kernel)⟩
theorem lw_p3 : lw_okq (⟨"DeadRuns", "edited", "(IIII)I"⟩, 8) := ⟨⟨by decide +kernel, by decide +kernel⟩, List.mem_of_getElem? (i := 9) (by decide +kernel), List.mem_of_getElem? (i := 159) (by decide +kernel), List.mem_of_getElem? (i := 160) (by decide +kernel)⟩
theorem lw_p4 : lw_okq (⟨"DeadRunsModel", "records", "()V"⟩, 15) := ⟨⟨by decide +kernel, by decide +kernel⟩, List.mem_of_getElem? (i := 397) (by decide +kernel), List.mem_of_getElem? (i := 456) (by decide +kernel), List.mem_of_getElem? (i := 457) (by decide +kernel)⟩
theorem lw_p5 : lw_okq (⟨"DeadRunsModel", "laysOut", "()V"⟩, 15) := ⟨⟨by decide +kernel, by decide +kernel⟩, List.mem_of_getElem? (i := 397) (by decide +kernel), List.mem_of_getElem? (i := 467) (by decide +kernel), List.mem_of_getElem? (i := 468) (by decide +kernel)⟩
theorem lw_p6 : lw_okq (⟨"DeadRunsModel", "lengthOf", "(I)I"⟩, 15) := ⟨⟨by decide +kernel, by decide +kernel⟩, List.mem_of_getElem? (i := 397) (by decide +kernel), List.mem_of_getElem? (i := 471) (by decide +kernel), List.mem_of_getElem? (i := 472) (by decide +kernel)⟩
theorem lw_p7 : lw_okq (⟨"DeadRunsModel", "signOf", "(I)I"⟩, 15) := ⟨⟨by decide +kernel, by decide +kernel⟩, List.mem_of_getElem? (i := 397) (by decide +kernel), List.mem_of_getElem? (i := 475) (by decide +kernel), List.mem_of_getElem? (i := 476) (by decide +kernel)⟩
theorem lw_p8 : lw_okq (⟨"DeadRunsModel", "ends", "(I)I"⟩, 15) := ⟨⟨by decide +kernel, by decide +kernel⟩, List.mem_of_getElem? (i := 397) (by decide +kernel), List.mem_of_getElem? (i := 479) (by decide +kernel), List.mem_of_getElem? (i := 480) (by decide +kernel)⟩
theorem lw_p9 : lw_okq (⟨"DeadRunsModel", "isTooMuch", "()Z"⟩, 15) := ⟨⟨by decide +kernel, by decide +kernel⟩, List.mem_of_getElem? (i := 397) (by decide +kernel), List.mem_of_getElem? (i := 483) (by decide +kernel), List.mem_of_getElem? (i := 484) (by decide +kernel)⟩
theorem lw_p10 : lw_okq (⟨"DeadRunsModel", "runsOfLine", "()I"⟩, 15) := ⟨⟨by decide +kernel, by decide +kernel⟩, List.mem_of_getElem? (i := 397) (by decide +kernel), List.mem_of_getElem? (i := 487) (by decide +kernel), List.mem_of_getElem? (i := 488) (by decide +kernel)⟩
theorem lw_p11 : lw_okq (⟨"DeadRunsModel", "takesIn", "()V"⟩, 15) := ⟨⟨by decide +kernel, by decide +kernel⟩, List.mem_of_getElem? (i := 397) (by decide +kernel), List.mem_of_getElem? (i := 491) (by decide +kernel), List.mem_of_getElem? (i := 492) (by decide +kernel)⟩
theorem lw_p12 : lw_okq (⟨"DeadRunsModel", "hasPiece", "(II)Z"⟩, 15) := ⟨⟨by decide +kernel, by decide +kernel⟩, List.mem_of_getElem? (i := 397) (by decide +kernel), List.mem_of_getElem? (i := 499) (by decide +kernel), List.mem_of_getElem? (i := 500) (by decide +kernel)⟩
theorem lw_p13 : lw_okq (⟨"DeadRunsModel", "countIn", "(III)I"⟩, 15) := ⟨⟨by decide +kernel, by decide +kernel⟩, List.mem_of_getElem? (i := 397) (by decide +kernel), List.mem_of_getElem? (i := 503) (by decide +kernel), List.mem_of_getElem? (i := 504) (by decide +kernel)⟩
theorem lw_p14 : lw_okq (⟨"DeadRunsModel", "firstOf", "(I)I"⟩, 15) := ⟨⟨by decide +kernel, by decide +kernel⟩, List.mem_of_getElem? (i := 397) (by decide +kernel), List.mem_of_getElem? (i := 539) (by decide +kernel), List.mem_of_getElem? (i := 540) (by decide +kernel)⟩
theorem lw_p15 : lw_okq (⟨"DeadRunsModel", "writesAll", "()V"⟩, 15) := ⟨⟨by decide +kernel, by decide +kernel⟩, List.mem_of_getElem? (i := 397) (by decide +kernel), List.mem_of_getElem? (i := 556) (by decide +kernel), List.mem_of_getElem? (i := 557) (by decide +kernel)⟩
def lw_privs_1 : List (MethodName × Nat) := [(⟨"DeadRuns", "accepted", "(I)I"⟩, 8), (⟨"DeadRuns", "dropOldest", "()V"⟩, 8), (⟨"DeadRuns", "isPiece", "(II)Z"⟩, 8), (⟨"DeadRuns", "edited", "(IIII)I"⟩, 8), (⟨"DeadRunsModel", "records", "()V"⟩, 15), (⟨"DeadRunsModel", "laysOut", "()V"⟩, 15), (⟨"DeadRunsModel", "lengthOf", "(I)I"⟩, 15), (⟨"DeadRunsModel", "signOf", "(I)I"⟩, 15), (⟨"DeadRunsModel", "ends", "(I)I"⟩, 15), (⟨"DeadRunsModel", "isTooMuch", "()Z"⟩, 15), (⟨"DeadRunsModel", "runsOfLine", "()I"⟩, 15), (⟨"DeadRunsModel", "takesIn", "()V"⟩, 15), (⟨"DeadRunsModel", "hasPiece", "(II)Z"⟩, 15), (⟨"DeadRunsModel", "countIn", "(III)I"⟩, 15), (⟨"DeadRunsModel", "firstOf", "(I)I"⟩, 15), (⟨"DeadRunsModel", "writesAll", "()V"⟩, 15)]
theorem lw_r1 : ∀ q ∈ lw_privs_1, lw_okq q := List.forall_mem_cons.mpr ⟨lw_p0, List.forall_mem_cons.mpr ⟨lw_p1, List.forall_mem_cons.mpr ⟨lw_p2, List.forall_mem_cons.mpr ⟨lw_p3, List.forall_mem_cons.mpr ⟨lw_p4, List.forall_mem_cons.mpr ⟨lw_p5, List.forall_mem_cons.mpr ⟨lw_p6, List.forall_mem_cons.mpr ⟨lw_p7, List.forall_mem_cons.mpr ⟨lw_p8, List.forall_mem_cons.mpr ⟨lw_p9, List.forall_mem_cons.mpr ⟨lw_p10, List.forall_mem_cons.mpr ⟨lw_p11, List.forall_mem_cons.mpr ⟨lw_p12, List.forall_mem_cons.mpr ⟨lw_p13, List.forall_mem_cons.mpr ⟨lw_p14, List.forall_mem_cons.mpr ⟨lw_p15, fun _ h => absurd h List.not_mem_nil⟩⟩⟩⟩⟩⟩⟩⟩⟩⟩⟩⟩⟩⟩⟩⟩
theorem lw_p16 : lw_okq (⟨"DeadRunsModel", "writes", "(I)V"⟩, 15) := ⟨⟨by decide +kernel, by decide +kernel⟩, List.mem_of_getElem? (i := 397) (by decide +kernel), List.mem_of_getElem? (i := 560) (by decide +kernel), List.mem_of_getElem? (i := 561) (by decide +kernel)⟩
theorem lw_p17 : lw_okq (⟨"DeadRunsModel", "sizeBy", "(I)I"⟩, 15) := ⟨⟨by decide +kernel, by decide +kernel⟩, List.mem_of_getElem? (i := 397) (by decide +kernel), List.mem_of_getElem? (i := 564) (by decide +kernel), List.mem_of_getElem? (i := 565) (by decide +kernel)⟩
theorem lw_p18 : lw_okq (⟨"DeadRunsModel", "sumLive", "()I"⟩, 15) := ⟨⟨by decide +kernel, by decide +kernel⟩, List.mem_of_getElem? (i := 397) (by decide +kernel), List.mem_of_getElem? (i := 568) (by decide +kernel), List.mem_of_getElem? (i := 569) (by decide +kernel)⟩
theorem lw_p19 : lw_okq (⟨"DeadRunsModel", "longest", "()I"⟩, 15) := ⟨⟨by decide +kernel, by decide +kernel⟩, List.mem_of_getElem? (i := 397) (by decide +kernel), List.mem_of_getElem? (i := 572) (by decide +kernel), List.mem_of_getElem? (i := 573) (by decide +kernel)⟩
theorem lw_p20 : lw_okq (⟨"DeadRunsModel", "lengthBit", "(II)I"⟩, 15) := ⟨⟨by decide +kernel, by decide +kernel⟩, List.mem_of_getElem? (i := 397) (by decide +kernel), List.mem_of_getElem? (i := 584) (by decide +kernel), List.mem_of_getElem? (i := 585) (by decide +kernel)⟩
theorem lw_p21 : lw_okq (⟨"DeadRunsModel", "endsAt", "(II)Z"⟩, 15) := ⟨⟨by decide +kernel, by decide +kernel⟩, List.mem_of_getElem? (i := 397) (by decide +kernel), List.mem_of_getElem? (i := 612) (by decide +kernel), List.mem_of_getElem? (i := 613) (by decide +kernel)⟩
theorem lw_p22 : lw_okq (⟨"DeadRunsModel", "savedBy", "(II)I"⟩, 15) := ⟨⟨by decide +kernel, by decide +kernel⟩, List.mem_of_getElem? (i := 397) (by decide +kernel), List.mem_of_getElem? (i := 620) (by decide +kernel), List.mem_of_getElem? (i := 621) (by decide +kernel)⟩
theorem lw_p23 : lw_okq (⟨"DeadRunsModel", "faultOf", "()I"⟩, 15) := ⟨⟨by decide +kernel, by decide +kernel⟩, List.mem_of_getElem? (i := 397) (by decide +kernel), List.mem_of_getElem? (i := 641) (by decide +kernel), List.mem_of_getElem? (i := 642) (by decide +kernel)⟩
theorem lw_p24 : lw_okq (⟨"DeadRunsModel", "lengthAll", "()I"⟩, 15) := ⟨⟨by decide +kernel, by decide +kernel⟩, List.mem_of_getElem? (i := 397) (by decide +kernel), List.mem_of_getElem? (i := 657) (by decide +kernel), List.mem_of_getElem? (i := 658) (by decide +kernel)⟩
def lw_privs_2 : List (MethodName × Nat) := [(⟨"DeadRunsModel", "writes", "(I)V"⟩, 15), (⟨"DeadRunsModel", "sizeBy", "(I)I"⟩, 15), (⟨"DeadRunsModel", "sumLive", "()I"⟩, 15), (⟨"DeadRunsModel", "longest", "()I"⟩, 15), (⟨"DeadRunsModel", "lengthBit", "(II)I"⟩, 15), (⟨"DeadRunsModel", "endsAt", "(II)Z"⟩, 15), (⟨"DeadRunsModel", "savedBy", "(II)I"⟩, 15), (⟨"DeadRunsModel", "faultOf", "()I"⟩, 15), (⟨"DeadRunsModel", "lengthAll", "()I"⟩, 15)]
theorem lw_r2 : ∀ q ∈ lw_privs_2, lw_okq q := List.forall_mem_cons.mpr ⟨lw_p16, List.forall_mem_cons.mpr ⟨lw_p17, List.forall_mem_cons.mpr ⟨lw_p18, List.forall_mem_cons.mpr ⟨lw_p19, List.forall_mem_cons.mpr ⟨lw_p20, List.forall_mem_cons.mpr ⟨lw_p21, List.forall_mem_cons.mpr ⟨lw_p22, List.forall_mem_cons.mpr ⟨lw_p23, List.forall_mem_cons.mpr ⟨lw_p24, fun _ h => absurd h List.not_mem_nil⟩⟩⟩⟩⟩⟩⟩⟩⟩
def lw_privs : List (MethodName × Nat) := lw_privs_1 ++ (lw_privs_2)
def lw_tbl : List Cond := k2_sels lw_privs ++ tables_1
theorem lw_privs_ok : ∀ q ∈ lw_privs, lw_okq q := by
  show ∀ q ∈ lw_privs_1 ++ (lw_privs_2), lw_okq q
  exact List.forall_mem_append.mpr ⟨lw_r1, lw_r2⟩

-- ===== names =====
abbrev R_D : String := "DeadRuns"
abbrev R_S : String := "DeadRuns$State"
abbrev R_P : String := "DeadRuns$Pad"
abbrev R_C : String := "DeadRuns$Codes"
abbrev R_X : String := "DeadRuns$Texts"
abbrev R_M : String := "DeadRunsModel"
abbrev R_L : String := "DeadRunsLaw"
abbrev b_D_init : ByteArray := prog_1_method_1_code
abbrev b_S_init : ByteArray := prog_4_method_1_code
abbrev b_P_init : ByteArray := prog_3_method_1_code
abbrev b_D_set : ByteArray := prog_1_method_2_code
abbrev b_D_isWithin : ByteArray := prog_1_method_30_code
abbrev b_S_becomeCopyOf : ByteArray := prog_4_method_3_code
abbrev b_S_startLike : ByteArray := prog_4_method_2_code
abbrev b_S_appendPiece : ByteArray := prog_4_method_5_code
abbrev b_S_shared : ByteArray := prog_4_method_11_code
abbrev b_S_append : ByteArray := prog_4_method_4_code
abbrev b_D_accepted : ByteArray := prog_1_method_33_code
abbrev b_D_dropOldest : ByteArray := prog_1_method_34_code
abbrev b_D_insert : ByteArray := prog_1_method_3_code
abbrev b_D_erase : ByteArray := prog_1_method_4_code
abbrev b_D_isPiece : ByteArray := prog_1_method_31_code
abbrev b_S_alikeIn : ByteArray := prog_4_method_17_code
abbrev b_S_appendAllBut : ByteArray := prog_4_method_6_code
abbrev b_D_write : ByteArray := prog_1_method_5_code
abbrev b_D_edited : ByteArray := prog_1_method_32_code
abbrev b_S_appendEdited : ByteArray := prog_4_method_9_code
abbrev b_S_signAfter : ByteArray := prog_4_method_10_code
abbrev b_D_add : ByteArray := prog_1_method_6_code
abbrev b_D_kill : ByteArray := prog_1_method_7_code
abbrev b_D_revive : ByteArray := prog_1_method_8_code
abbrev b_D_turn : ByteArray := prog_1_method_9_code
abbrev b_S_appendTurned : ByteArray := prog_4_method_7_code
abbrev b_S_appendLiveFrom : ByteArray := prog_4_method_8_code
abbrev b_D_move : ByteArray := prog_1_method_10_code
abbrev b_D_sign : ByteArray := prog_1_method_11_code
abbrev b_S_signAt : ByteArray := prog_4_method_16_code
abbrev b_D_ofRun : ByteArray := prog_1_method_12_code
abbrev b_S_signOf : ByteArray := prog_4_method_12_code
abbrev b_S_firstOf : ByteArray := prog_4_method_15_code
abbrev b_S_lengthOf : ByteArray := prog_4_method_13_code
abbrev b_S_bitsOf : ByteArray := prog_4_method_14_code
abbrev b_C_bitsOfRun : ByteArray := prog_2_method_2_code
abbrev b_C_bitsOfSign : ByteArray := prog_2_method_4_code
abbrev b_C_bitsOfLength : ByteArray := prog_2_method_5_code
abbrev b_C_widthOf : ByteArray := prog_2_method_8_code
abbrev b_D_count : ByteArray := prog_1_method_13_code
abbrev b_S_allBits : ByteArray := prog_4_method_20_code
abbrev b_S_allCharacters : ByteArray := prog_4_method_22_code
abbrev b_X_charactersOfRun : ByteArray := prog_5_method_2_code
abbrev b_X_digitsOf : ByteArray := prog_5_method_4_code
abbrev b_S_sumOfValues : ByteArray := prog_4_method_18_code
abbrev b_S_longestRun : ByteArray := prog_4_method_19_code
abbrev b_D_howMany : ByteArray := prog_1_method_14_code
abbrev b_D_bit : ByteArray := prog_1_method_15_code
abbrev b_S_bitAt : ByteArray := prog_4_method_21_code
abbrev b_C_bitOfRun : ByteArray := prog_2_method_3_code
abbrev b_C_bitOfLength : ByteArray := prog_2_method_6_code
abbrev b_C_bitOfNumber : ByteArray := prog_2_method_7_code
abbrev b_D_character : ByteArray := prog_1_method_16_code
abbrev b_S_characterAt : ByteArray := prog_4_method_23_code
abbrev b_X_characterOfRun : ByteArray := prog_5_method_3_code
abbrev b_D_size : ByteArray := prog_1_method_17_code
abbrev b_D_bestCode : ByteArray := prog_1_method_18_code
abbrev b_D_longestLive : ByteArray := prog_1_method_19_code
abbrev b_S_longestLiveStretch : ByteArray := prog_4_method_24_code
abbrev b_D_find : ByteArray := prog_1_method_20_code
abbrev b_S_firstMatch : ByteArray := prog_4_method_25_code
abbrev b_X_inGroupsOf4Bits : ByteArray := prog_5_method_5_code
abbrev b_D_bestWrite : ByteArray := prog_1_method_21_code
abbrev b_S_savedByWriting : ByteArray := prog_4_method_26_code
abbrev b_D_unlikeMirror : ByteArray := prog_1_method_22_code
abbrev b_S_unlikeTurned : ByteArray := prog_4_method_27_code
abbrev b_D_put : ByteArray := prog_1_method_23_code
abbrev b_P_charactersIn : ByteArray := prog_3_method_2_code
abbrev b_P_tookIn : ByteArray := prog_3_method_3_code
abbrev b_D_wipe : ByteArray := prog_1_method_24_code
abbrev b_D_fault : ByteArray := prog_1_method_25_code
abbrev b_P_readInto : ByteArray := prog_3_method_4_code
abbrev b_P_isDigit : ByteArray := prog_3_method_6_code
abbrev b_P_mayEnd : ByteArray := prog_3_method_5_code
abbrev b_P_continuesNumber : ByteArray := prog_3_method_7_code
abbrev b_D_load : ByteArray := prog_1_method_26_code
abbrev b_D_undo : ByteArray := prog_1_method_27_code
abbrev b_D_save : ByteArray := prog_1_method_28_code
abbrev b_D_restore : ByteArray := prog_1_method_29_code
abbrev b_M_init : ByteArray := prog_7_method_1_code
abbrev b_M_set : ByteArray := prog_7_method_16_code
abbrev b_M_in : ByteArray := prog_7_method_2_code
abbrev b_M_records : ByteArray := prog_7_method_4_code
abbrev b_M_copies : ByteArray := prog_7_method_3_code
abbrev b_M_insert : ByteArray := prog_7_method_17_code
abbrev b_M_laysOut : ByteArray := prog_7_method_9_code
abbrev b_M_lengthOf : ByteArray := prog_7_method_6_code
abbrev b_M_signOf : ByteArray := prog_7_method_5_code
abbrev b_M_ends : ByteArray := prog_7_method_13_code
abbrev b_M_isTooMuch : ByteArray := prog_7_method_11_code
abbrev b_M_runsOfLine : ByteArray := prog_7_method_10_code
abbrev b_M_takesIn : ByteArray := prog_7_method_12_code
abbrev b_M_erase : ByteArray := prog_7_method_18_code
abbrev b_M_hasPiece : ByteArray := prog_7_method_14_code
abbrev b_M_countIn : ByteArray := prog_7_method_15_code
abbrev b_M_write : ByteArray := prog_7_method_19_code
abbrev b_M_add : ByteArray := prog_7_method_20_code
abbrev b_M_kill : ByteArray := prog_7_method_21_code
abbrev b_M_revive : ByteArray := prog_7_method_22_code
abbrev b_M_turn : ByteArray := prog_7_method_23_code
abbrev b_M_move : ByteArray := prog_7_method_24_code
abbrev b_M_sign : ByteArray := prog_7_method_25_code
abbrev b_M_ofRun : ByteArray := prog_7_method_30_code
abbrev b_M_firstOf : ByteArray := prog_7_method_7_code
abbrev b_M_runBits : ByteArray := prog_7_method_28_code
abbrev b_M_lengthBits : ByteArray := prog_7_method_27_code
abbrev b_M_bitsOf : ByteArray := prog_7_method_26_code
abbrev b_M_count : ByteArray := prog_7_method_35_code
abbrev b_M_writesAll : ByteArray := prog_7_method_32_code
abbrev b_M_writes : ByteArray := prog_7_method_31_code
abbrev b_M_sizeBy : ByteArray := prog_7_method_29_code
abbrev b_M_sumLive : ByteArray := prog_7_method_34_code
abbrev b_M_longest : ByteArray := prog_7_method_33_code
abbrev b_M_howMany : ByteArray := prog_7_method_36_code
abbrev b_M_bit : ByteArray := prog_7_method_39_code
abbrev b_M_lengthBit : ByteArray := prog_7_method_38_code
abbrev b_M_bitAt : ByteArray := prog_7_method_37_code
abbrev b_M_character : ByteArray := prog_7_method_40_code
abbrev b_M_size : ByteArray := prog_7_method_41_code
abbrev b_M_bestCode : ByteArray := prog_7_method_42_code
abbrev b_M_longestLive : ByteArray := prog_7_method_43_code
abbrev b_M_find : ByteArray := prog_7_method_45_code
abbrev b_M_endsAt : ByteArray := prog_7_method_44_code
abbrev b_M_bestWrite : ByteArray := prog_7_method_47_code
abbrev b_M_savedBy : ByteArray := prog_7_method_46_code
abbrev b_M_unlikeMirror : ByteArray := prog_7_method_48_code
abbrev b_M_put : ByteArray := prog_7_method_49_code
abbrev b_M_wipe : ByteArray := prog_7_method_50_code
abbrev b_M_fault : ByteArray := prog_7_method_52_code
abbrev b_M_faultOf : ByteArray := prog_7_method_51_code
abbrev b_M_load : ByteArray := prog_7_method_53_code
abbrev b_M_undo : ByteArray := prog_7_method_54_code
abbrev b_M_save : ByteArray := prog_7_method_55_code
abbrev b_M_lengthAll : ByteArray := prog_7_method_8_code
abbrev b_M_restore : ByteArray := prog_7_method_56_code
def y_D_init : MethodName := ⟨"DeadRuns", "<init>", "()V"⟩
def y_D_set : MethodName := ⟨"DeadRuns", "set", "(II)I"⟩
def y_D_insert : MethodName := ⟨"DeadRuns", "insert", "(III)I"⟩
def y_D_erase : MethodName := ⟨"DeadRuns", "erase", "(II)I"⟩
def y_D_write : MethodName := ⟨"DeadRuns", "write", "(III)I"⟩
def y_D_add : MethodName := ⟨"DeadRuns", "add", "(III)I"⟩
def y_D_kill : MethodName := ⟨"DeadRuns", "kill", "(II)I"⟩
def y_D_revive : MethodName := ⟨"DeadRuns", "revive", "(II)I"⟩
def y_D_turn : MethodName := ⟨"DeadRuns", "turn", "(II)I"⟩
def y_D_move : MethodName := ⟨"DeadRuns", "move", "(III)I"⟩
def y_D_sign : MethodName := ⟨"DeadRuns", "sign", "(I)I"⟩
def y_D_ofRun : MethodName := ⟨"DeadRuns", "ofRun", "(II)I"⟩
def y_D_count : MethodName := ⟨"DeadRuns", "count", "(I)I"⟩
def y_D_howMany : MethodName := ⟨"DeadRuns", "howMany", "(III)I"⟩
def y_D_bit : MethodName := ⟨"DeadRuns", "bit", "(I)I"⟩
def y_D_character : MethodName := ⟨"DeadRuns", "character", "(I)I"⟩
def y_D_size : MethodName := ⟨"DeadRuns", "size", "(I)I"⟩
def y_D_bestCode : MethodName := ⟨"DeadRuns", "bestCode", "()I"⟩
def y_D_longestLive : MethodName := ⟨"DeadRuns", "longestLive", "(I)I"⟩
def y_D_find : MethodName := ⟨"DeadRuns", "find", "(II)I"⟩
def y_D_bestWrite : MethodName := ⟨"DeadRuns", "bestWrite", "(I)I"⟩
def y_D_unlikeMirror : MethodName := ⟨"DeadRuns", "unlikeMirror", "()I"⟩
def y_D_put : MethodName := ⟨"DeadRuns", "put", "(J)I"⟩
def y_D_wipe : MethodName := ⟨"DeadRuns", "wipe", "()I"⟩
def y_D_fault : MethodName := ⟨"DeadRuns", "fault", "()I"⟩
def y_D_load : MethodName := ⟨"DeadRuns", "load", "()I"⟩
def y_D_undo : MethodName := ⟨"DeadRuns", "undo", "()I"⟩
def y_D_save : MethodName := ⟨"DeadRuns", "save", "(I)I"⟩
def y_D_restore : MethodName := ⟨"DeadRuns", "restore", "(I)I"⟩
def y_D_isWithin : MethodName := ⟨"DeadRuns", "isWithin", "(III)Z"⟩
def y_D_isPiece : MethodName := ⟨"DeadRuns", "isPiece", "(II)Z"⟩
def y_D_edited : MethodName := ⟨"DeadRuns", "edited", "(IIII)I"⟩
def y_D_accepted : MethodName := ⟨"DeadRuns", "accepted", "(I)I"⟩
def y_D_dropOldest : MethodName := ⟨"DeadRuns", "dropOldest", "()V"⟩
def y_M_init : MethodName := ⟨"DeadRunsModel", "<init>", "()V"⟩
def y_M_in : MethodName := ⟨"DeadRunsModel", "in", "(III)Z"⟩
def y_M_copies : MethodName := ⟨"DeadRunsModel", "copies", "([II[II)V"⟩
def y_M_records : MethodName := ⟨"DeadRunsModel", "records", "()V"⟩
def y_M_signOf : MethodName := ⟨"DeadRunsModel", "signOf", "(I)I"⟩
def y_M_lengthOf : MethodName := ⟨"DeadRunsModel", "lengthOf", "(I)I"⟩
def y_M_firstOf : MethodName := ⟨"DeadRunsModel", "firstOf", "(I)I"⟩
def y_M_lengthAll : MethodName := ⟨"DeadRunsModel", "lengthAll", "()I"⟩
def y_M_laysOut : MethodName := ⟨"DeadRunsModel", "laysOut", "()V"⟩
def y_M_runsOfLine : MethodName := ⟨"DeadRunsModel", "runsOfLine", "()I"⟩
def y_M_isTooMuch : MethodName := ⟨"DeadRunsModel", "isTooMuch", "()Z"⟩
def y_M_takesIn : MethodName := ⟨"DeadRunsModel", "takesIn", "()V"⟩
def y_M_ends : MethodName := ⟨"DeadRunsModel", "ends", "(I)I"⟩
def y_M_hasPiece : MethodName := ⟨"DeadRunsModel", "hasPiece", "(II)Z"⟩
def y_M_countIn : MethodName := ⟨"DeadRunsModel", "countIn", "(III)I"⟩
def y_M_set : MethodName := ⟨"DeadRunsModel", "set", "(II)I"⟩
def y_M_insert : MethodName := ⟨"DeadRunsModel", "insert", "(III)I"⟩
def y_M_erase : MethodName := ⟨"DeadRunsModel", "erase", "(II)I"⟩
def y_M_write : MethodName := ⟨"DeadRunsModel", "write", "(III)I"⟩
def y_M_add : MethodName := ⟨"DeadRunsModel", "add", "(III)I"⟩
def y_M_kill : MethodName := ⟨"DeadRunsModel", "kill", "(II)I"⟩
def y_M_revive : MethodName := ⟨"DeadRunsModel", "revive", "(II)I"⟩
def y_M_turn : MethodName := ⟨"DeadRunsModel", "turn", "(II)I"⟩
def y_M_move : MethodName := ⟨"DeadRunsModel", "move", "(III)I"⟩
def y_M_sign : MethodName := ⟨"DeadRunsModel", "sign", "(I)I"⟩
def y_M_bitsOf : MethodName := ⟨"DeadRunsModel", "bitsOf", "(I)I"⟩
def y_M_lengthBits : MethodName := ⟨"DeadRunsModel", "lengthBits", "(II)I"⟩
def y_M_runBits : MethodName := ⟨"DeadRunsModel", "runBits", "(III)I"⟩
def y_M_sizeBy : MethodName := ⟨"DeadRunsModel", "sizeBy", "(I)I"⟩
def y_M_ofRun : MethodName := ⟨"DeadRunsModel", "ofRun", "(II)I"⟩
def y_M_writes : MethodName := ⟨"DeadRunsModel", "writes", "(I)V"⟩
def y_M_writesAll : MethodName := ⟨"DeadRunsModel", "writesAll", "()V"⟩
def y_M_longest : MethodName := ⟨"DeadRunsModel", "longest", "()I"⟩
def y_M_sumLive : MethodName := ⟨"DeadRunsModel", "sumLive", "()I"⟩
def y_M_count : MethodName := ⟨"DeadRunsModel", "count", "(I)I"⟩
def y_M_howMany : MethodName := ⟨"DeadRunsModel", "howMany", "(III)I"⟩
def y_M_bitAt : MethodName := ⟨"DeadRunsModel", "bitAt", "(III)I"⟩
def y_M_lengthBit : MethodName := ⟨"DeadRunsModel", "lengthBit", "(II)I"⟩
def y_M_bit : MethodName := ⟨"DeadRunsModel", "bit", "(I)I"⟩
def y_M_character : MethodName := ⟨"DeadRunsModel", "character", "(I)I"⟩
def y_M_size : MethodName := ⟨"DeadRunsModel", "size", "(I)I"⟩
def y_M_bestCode : MethodName := ⟨"DeadRunsModel", "bestCode", "()I"⟩
def y_M_longestLive : MethodName := ⟨"DeadRunsModel", "longestLive", "(I)I"⟩
def y_M_endsAt : MethodName := ⟨"DeadRunsModel", "endsAt", "(II)Z"⟩
def y_M_find : MethodName := ⟨"DeadRunsModel", "find", "(II)I"⟩
def y_M_savedBy : MethodName := ⟨"DeadRunsModel", "savedBy", "(II)I"⟩
def y_M_bestWrite : MethodName := ⟨"DeadRunsModel", "bestWrite", "(I)I"⟩
def y_M_unlikeMirror : MethodName := ⟨"DeadRunsModel", "unlikeMirror", "()I"⟩
def y_M_put : MethodName := ⟨"DeadRunsModel", "put", "(J)I"⟩
def y_M_wipe : MethodName := ⟨"DeadRunsModel", "wipe", "()I"⟩
def y_M_faultOf : MethodName := ⟨"DeadRunsModel", "faultOf", "()I"⟩
def y_M_fault : MethodName := ⟨"DeadRunsModel", "fault", "()I"⟩
def y_M_load : MethodName := ⟨"DeadRunsModel", "load", "()I"⟩
def y_M_undo : MethodName := ⟨"DeadRunsModel", "undo", "()I"⟩
def y_M_save : MethodName := ⟨"DeadRunsModel", "save", "(I)I"⟩
def y_M_restore : MethodName := ⟨"DeadRunsModel", "restore", "(I)I"⟩
def y_C_bitsOfRun : MethodName := ⟨"DeadRuns$Codes", "bitsOfRun", "(III)I"⟩
def y_C_bitOfRun : MethodName := ⟨"DeadRuns$Codes", "bitOfRun", "(IIII)I"⟩
def y_C_bitsOfSign : MethodName := ⟨"DeadRuns$Codes", "bitsOfSign", "(I)I"⟩
def y_C_bitsOfLength : MethodName := ⟨"DeadRuns$Codes", "bitsOfLength", "(II)I"⟩
def y_C_bitOfLength : MethodName := ⟨"DeadRuns$Codes", "bitOfLength", "(III)I"⟩
def y_C_bitOfNumber : MethodName := ⟨"DeadRuns$Codes", "bitOfNumber", "(III)I"⟩
def y_C_widthOf : MethodName := ⟨"DeadRuns$Codes", "widthOf", "(I)I"⟩
def y_P_init : MethodName := ⟨"DeadRuns$Pad", "<init>", "()V"⟩
def y_P_charactersIn : MethodName := ⟨"DeadRuns$Pad", "charactersIn", "(J)I"⟩
def y_P_tookIn : MethodName := ⟨"DeadRuns$Pad", "tookIn", "(JI)Z"⟩
def y_P_readInto : MethodName := ⟨"DeadRuns$Pad", "readInto", "(LDeadRuns$State;)I"⟩
def y_P_mayEnd : MethodName := ⟨"DeadRuns$Pad", "mayEnd", "(I)Z"⟩
def y_P_isDigit : MethodName := ⟨"DeadRuns$Pad", "isDigit", "(I)Z"⟩
def y_P_continuesNumber : MethodName := ⟨"DeadRuns$Pad", "continuesNumber", "(II)Z"⟩
def y_S_init : MethodName := ⟨"DeadRuns$State", "<init>", "()V"⟩
def y_S_startLike : MethodName := ⟨"DeadRuns$State", "startLike", "(LDeadRuns$State;)V"⟩
def y_S_becomeCopyOf : MethodName := ⟨"DeadRuns$State", "becomeCopyOf", "(LDeadRuns$State;)V"⟩
def y_S_append : MethodName := ⟨"DeadRuns$State", "append", "(II)V"⟩
def y_S_appendPiece : MethodName := ⟨"DeadRuns$State", "appendPiece", "(LDeadRuns$State;II)V"⟩
def y_S_appendAllBut : MethodName := ⟨"DeadRuns$State", "appendAllBut", "(LDeadRuns$State;II)V"⟩
def y_S_appendTurned : MethodName := ⟨"DeadRuns$State", "appendTurned", "(LDeadRuns$State;IIZ)V"⟩
def y_S_appendLiveFrom : MethodName := ⟨"DeadRuns$State", "appendLiveFrom", "(LDeadRuns$State;LDeadRuns$State;II)V"⟩
def y_S_appendEdited : MethodName := ⟨"DeadRuns$State", "appendEdited", "(LDeadRuns$State;IIII)I"⟩
def y_S_signAfter : MethodName := ⟨"DeadRuns$State", "signAfter", "(III)I"⟩
def y_S_shared : MethodName := ⟨"DeadRuns$State", "shared", "(IIII)I"⟩
def y_S_signOf : MethodName := ⟨"DeadRuns$State", "signOf", "(I)I"⟩
def y_S_lengthOf : MethodName := ⟨"DeadRuns$State", "lengthOf", "(I)I"⟩
def y_S_bitsOf : MethodName := ⟨"DeadRuns$State", "bitsOf", "(II)I"⟩
def y_S_firstOf : MethodName := ⟨"DeadRuns$State", "firstOf", "(I)I"⟩
def y_S_signAt : MethodName := ⟨"DeadRuns$State", "signAt", "(I)I"⟩
def y_S_alikeIn : MethodName := ⟨"DeadRuns$State", "alikeIn", "(III)I"⟩
def y_S_sumOfValues : MethodName := ⟨"DeadRuns$State", "sumOfValues", "()I"⟩
def y_S_longestRun : MethodName := ⟨"DeadRuns$State", "longestRun", "()I"⟩
def y_S_allBits : MethodName := ⟨"DeadRuns$State", "allBits", "(I)I"⟩
def y_S_bitAt : MethodName := ⟨"DeadRuns$State", "bitAt", "(I)I"⟩
def y_S_allCharacters : MethodName := ⟨"DeadRuns$State", "allCharacters", "()I"⟩
def y_S_characterAt : MethodName := ⟨"DeadRuns$State", "characterAt", "(I)I"⟩
def y_S_longestLiveStretch : MethodName := ⟨"DeadRuns$State", "longestLiveStretch", "(Z)I"⟩
def y_S_firstMatch : MethodName := ⟨"DeadRuns$State", "firstMatch", "(II)I"⟩
def y_S_savedByWriting : MethodName := ⟨"DeadRuns$State", "savedByWriting", "(II)I"⟩
def y_S_unlikeTurned : MethodName := ⟨"DeadRuns$State", "unlikeTurned", "()I"⟩
def y_X_charactersOfRun : MethodName := ⟨"DeadRuns$Texts", "charactersOfRun", "(I)I"⟩
def y_X_characterOfRun : MethodName := ⟨"DeadRuns$Texts", "characterOfRun", "(III)I"⟩
def y_X_digitsOf : MethodName := ⟨"DeadRuns$Texts", "digitsOf", "(I)I"⟩
def y_X_inGroupsOf4Bits : MethodName := ⟨"DeadRuns$Texts", "inGroupsOf4Bits", "(I)J"⟩
def y_L_law : MethodName := ⟨"DeadRunsLaw", "law", "([I)Z"⟩
def F_S : u_T := fun k => match k with
  | 0 => ("DeadRuns$State", "signs", "[I", true)
  | 1 => ("DeadRuns$State", "lengths", "[I", true)
  | 2 => ("DeadRuns$State", "runs", "I", false)
  | 3 => ("DeadRuns$State", "places", "I", false)
  | 4 => ("DeadRuns$State", "overfull", "Z", false)
  | 5 => ("DeadRuns$State", "lengthCode", "I", false)
  | _ => ("DeadRuns$State", "saveDead", "I", false)
def t_S : Nat → FieldType := fun k => match k with
  | 0 => .array .int
  | 1 => .array .int
  | 2 => .int
  | 3 => .int
  | 4 => .boolean
  | 5 => .int
  | _ => .int
theorem n_S : ∀ a, a < 7 → ∀ b, b < 7 → a ≠ b → (F_S a).2.1 ≠ (F_S b).2.1 := by decide +kernel
theorem t_S_ok : ∀ k, k < 7 → parseFieldDescriptor (F_S k).2.2.1 = some (t_S k) := by decide +kernel
def F_P : u_T := fun k => match k with
  | 0 => ("DeadRuns$Pad", "codes", "[I", true)
  | _ => ("DeadRuns$Pad", "used", "I", false)
def t_P : Nat → FieldType := fun k => match k with
  | 0 => .array .int
  | _ => .int
theorem n_P : ∀ a, a < 2 → ∀ b, b < 2 → a ≠ b → (F_P a).2.1 ≠ (F_P b).2.1 := by decide +kernel
theorem t_P_ok : ∀ k, k < 2 → parseFieldDescriptor (F_P k).2.2.1 = some (t_P k) := by decide +kernel
def F_D : u_T := fun k => match k with
  | 0 => ("DeadRuns", "now", "LDeadRuns$State;", false)
  | 1 => ("DeadRuns", "next", "LDeadRuns$State;", false)
  | 2 => ("DeadRuns", "aside", "LDeadRuns$State;", true)
  | 3 => ("DeadRuns", "history", "[LDeadRuns$State;", true)
  | 4 => ("DeadRuns", "recorded", "I", false)
  | 5 => ("DeadRuns", "slots", "[LDeadRuns$State;", true)
  | 6 => ("DeadRuns", "slotUsed", "[Z", true)
  | _ => ("DeadRuns", "pad", "LDeadRuns$Pad;", true)
def t_D : Nat → FieldType := fun k => match k with
  | 0 => .object "DeadRuns$State"
  | 1 => .object "DeadRuns$State"
  | 2 => .object "DeadRuns$State"
  | 3 => .array (.object "DeadRuns$State")
  | 4 => .int
  | 5 => .array (.object "DeadRuns$State")
  | 6 => .array .boolean
  | _ => .object "DeadRuns$Pad"
theorem n_D : ∀ a, a < 8 → ∀ b, b < 8 → a ≠ b → (F_D a).2.1 ≠ (F_D b).2.1 := by decide +kernel
theorem t_D_ok : ∀ k, k < 8 → parseFieldDescriptor (F_D k).2.2.1 = some (t_D k) := by decide +kernel
def F_M : u_T := fun k => match k with
  | 0 => ("DeadRunsModel", "now", "[I", true)
  | 1 => ("DeadRunsModel", "past", "[I", true)
  | 2 => ("DeadRunsModel", "pasts", "I", false)
  | 3 => ("DeadRunsModel", "slots", "[I", true)
  | 4 => ("DeadRunsModel", "saved", "I", false)
  | 5 => ("DeadRunsModel", "line", "[I", true)
  | 6 => ("DeadRunsModel", "other", "[I", true)
  | 7 => ("DeadRunsModel", "length", "I", false)
  | 8 => ("DeadRunsModel", "pad", "[I", true)
  | 9 => ("DeadRunsModel", "typed", "I", false)
  | 10 => ("DeadRunsModel", "written", "[I", true)
  | 11 => ("DeadRunsModel", "writtenMany", "I", false)
  | 12 => ("DeadRunsModel", "signs", "[I", true)
  | 13 => ("DeadRunsModel", "lengths", "[I", true)
  | _ => ("DeadRunsModel", "readMany", "I", false)
def t_M : Nat → FieldType := fun k => match k with
  | 0 => .array .int
  | 1 => .array .int
  | 2 => .int
  | 3 => .array .int
  | 4 => .int
  | 5 => .array .int
  | 6 => .array .int
  | 7 => .int
  | 8 => .array .int
  | 9 => .int
  | 10 => .array .int
  | 11 => .int
  | 12 => .array .int
  | 13 => .array .int
  | _ => .int
theorem n_M : ∀ a, a < 15 → ∀ b, b < 15 → a ≠ b → (F_M a).2.1 ≠ (F_M b).2.1 := by decide +kernel
theorem t_M_ok : ∀ k, k < 15 → parseFieldDescriptor (F_M k).2.2.1 = some (t_M k) := by decide +kernel
abbrev classes : List vw_C := [(R_D, F_D, 8), (R_S, F_S, 7), (R_P, F_P, 2), (R_M, F_M, 15)]
def TB : List Cond := lw_tbl.filter goodWord
theorem tb_of {w : Cond} (i : Nat) (h : lw_tbl[i]? = some w) (g : goodWord w = true) : w ∈ TB := List.mem_filter.mpr ⟨List.mem_of_getElem? h, g⟩
theorem tb_good {w : Cond} (h : w ∈ TB) : w ∈ TB ∧ ((w.onTables && w.keeps) = true ∨ ∃ ty, w = .arrayClass ty) := ⟨h, good_of_word (List.mem_filter.mp h).2⟩
theorem lw_in {w : Cond} (i : Nat) (h : lw_tbl[i]? = some w) : w ∈ lw_tbl := List.mem_of_getElem? h
theorem ini_L : Cond.initialized "DeadRunsLaw" ∈ TB := tb_of 25 (by decide +kernel) (by decide +kernel)
theorem ini_D : Cond.initialized "DeadRuns" ∈ TB := tb_of 26 (by decide +kernel) (by decide +kernel)
theorem ini_S : Cond.initialized "DeadRuns$State" ∈ TB := tb_of 27 (by decide +kernel) (by decide +kernel)
theorem ini_P : Cond.initialized "DeadRuns$Pad" ∈ TB := tb_of 28 (by decide +kernel) (by decide +kernel)
theorem ini_M : Cond.initialized "DeadRunsModel" ∈ TB := tb_of 29 (by decide +kernel) (by decide +kernel)
theorem ini_Math : Cond.initialized "java/lang/Math" ∈ TB := tb_of 30 (by decide +kernel) (by decide +kernel)
theorem ini_C : Cond.initialized "DeadRuns$Codes" ∈ TB := tb_of 31 (by decide +kernel) (by decide +kernel)
theorem ini_X : Cond.initialized "DeadRuns$Texts" ∈ TB := tb_of 32 (by decide +kernel) (by decide +kernel)
theorem cl_L_7 : Cond.classLink "DeadRunsLaw" 7 "DeadRuns" ∈ TB := tb_of 33 (by decide +kernel) (by decide +kernel)
theorem ib_D : Cond.instantiable "DeadRuns" 8 ∈ TB := tb_of 34 (by decide +kernel) (by decide +kernel)
theorem ml_L_9 : Cond.methodLink "DeadRunsLaw" 9 y_D_init ∈ TB := tb_of 35 (by decide +kernel) (by decide +kernel)
theorem im_D_init : Cond.instanceMethod y_D_init ∈ TB := tb_of 36 (by decide +kernel) (by decide +kernel)
theorem cd_D_init : Cond.code y_D_init b_D_init 2 none ∈ TB := tb_of 37 (by decide +kernel) (by decide +kernel)
theorem ml_D_1 : Cond.methodLink "DeadRuns" 1 objectInit ∈ TB := tb_of 38 (by decide +kernel) (by decide +kernel)
theorem im_Obj_init : Cond.instanceMethod objectInit ∈ TB := tb_of 39 (by decide +kernel) (by decide +kernel)
theorem cd_Obj_init : Cond.code objectInit object_method_1_code 1 none ∈ TB := tb_of 40 (by decide +kernel) (by decide +kernel)
theorem cl_D_7 : Cond.classLink "DeadRuns" 7 "DeadRuns$State" ∈ TB := tb_of 41 (by decide +kernel) (by decide +kernel)
theorem ib_S : Cond.instantiable "DeadRuns$State" 7 ∈ TB := tb_of 42 (by decide +kernel) (by decide +kernel)
theorem mln_D_9 : Cond.methodLinkNest "DeadRuns" 9 y_S_init "DeadRuns" ∈ lw_tbl := lw_in 43 (by decide +kernel)
theorem im_S_init : Cond.instanceMethod y_S_init ∈ TB := tb_of 44 (by decide +kernel) (by decide +kernel)
theorem cd_S_init : Cond.code y_S_init b_S_init 1 none ∈ TB := tb_of 45 (by decide +kernel) (by decide +kernel)
theorem ml_S_3 : Cond.methodLink "DeadRuns$State" 3 objectInit ∈ TB := tb_of 46 (by decide +kernel) (by decide +kernel)
theorem fl_S_9 : Cond.fieldLink "DeadRuns$State" 9 "DeadRuns$State" "signs" "[I" ∈ TB := tb_of 47 (by decide +kernel) (by decide +kernel)
theorem fl_S_15 : Cond.fieldLink "DeadRuns$State" 15 "DeadRuns$State" "lengths" "[I" ∈ TB := tb_of 48 (by decide +kernel) (by decide +kernel)
theorem fl_S_18 : Cond.fieldLink "DeadRuns$State" 18 "DeadRuns$State" "runs" "I" ∈ TB := tb_of 49 (by decide +kernel) (by decide +kernel)
theorem fl_D_99 : Cond.fieldLink "DeadRuns" 99 "DeadRuns$State" "runs" "I" ∈ TB := tb_of 50 (by decide +kernel) (by decide +kernel)
theorem fl_S_22 : Cond.fieldLink "DeadRuns$State" 22 "DeadRuns$State" "places" "I" ∈ TB := tb_of 51 (by decide +kernel) (by decide +kernel)
theorem fl_D_62 : Cond.fieldLink "DeadRuns" 62 "DeadRuns$State" "places" "I" ∈ TB := tb_of 52 (by decide +kernel) (by decide +kernel)
theorem fl_S_25 : Cond.fieldLink "DeadRuns$State" 25 "DeadRuns$State" "overfull" "Z" ∈ TB := tb_of 53 (by decide +kernel) (by decide +kernel)
theorem fl_D_170 : Cond.fieldLink "DeadRuns" 170 "DeadRuns$State" "overfull" "Z" ∈ TB := tb_of 54 (by decide +kernel) (by decide +kernel)
theorem fl_S_29 : Cond.fieldLink "DeadRuns$State" 29 "DeadRuns$State" "lengthCode" "I" ∈ TB := tb_of 55 (by decide +kernel) (by decide +kernel)
theorem fl_D_52 : Cond.fieldLink "DeadRuns" 52 "DeadRuns$State" "lengthCode" "I" ∈ TB := tb_of 56 (by decide +kernel) (by decide +kernel)
theorem fl_S_32 : Cond.fieldLink "DeadRuns$State" 32 "DeadRuns$State" "saveDead" "I" ∈ TB := tb_of 57 (by decide +kernel) (by decide +kernel)
theorem fl_D_59 : Cond.fieldLink "DeadRuns" 59 "DeadRuns$State" "saveDead" "I" ∈ TB := tb_of 58 (by decide +kernel) (by decide +kernel)
theorem ly_S_signs : Cond.laysFinal "DeadRuns$State" "DeadRuns$State" "signs" "[I" ∈ TB := tb_of 59 (by decide +kernel) (by decide +kernel)
theorem ly_S_lengths : Cond.laysFinal "DeadRuns$State" "DeadRuns$State" "lengths" "[I" ∈ TB := tb_of 61 (by decide +kernel) (by decide +kernel)
theorem ly_S_runs : Cond.lays "DeadRuns$State" "DeadRuns$State" "runs" "I" ∈ TB := tb_of 63 (by decide +kernel) (by decide +kernel)
theorem ly_S_places : Cond.lays "DeadRuns$State" "DeadRuns$State" "places" "I" ∈ TB := tb_of 65 (by decide +kernel) (by decide +kernel)
theorem ly_S_overfull : Cond.lays "DeadRuns$State" "DeadRuns$State" "overfull" "Z" ∈ TB := tb_of 67 (by decide +kernel) (by decide +kernel)
theorem ly_S_lengthCode : Cond.lays "DeadRuns$State" "DeadRuns$State" "lengthCode" "I" ∈ TB := tb_of 69 (by decide +kernel) (by decide +kernel)
theorem ly_S_saveDead : Cond.lays "DeadRuns$State" "DeadRuns$State" "saveDead" "I" ∈ TB := tb_of 71 (by decide +kernel) (by decide +kernel)
theorem ac_int : Cond.arrayClass .int ∈ TB := tb_of 74 (by decide +kernel) (by decide +kernel)
theorem ao_S : Cond.arrayOver (.object "DeadRuns$State") ∈ lw_tbl := lw_in 75 (by decide +kernel)
theorem cl_D_37 : Cond.classLink "DeadRuns" 37 "DeadRuns$Pad" ∈ TB := tb_of 76 (by decide +kernel) (by decide +kernel)
theorem ib_P : Cond.instantiable "DeadRuns$Pad" 2 ∈ TB := tb_of 77 (by decide +kernel) (by decide +kernel)
theorem mln_D_39 : Cond.methodLinkNest "DeadRuns" 39 y_P_init "DeadRuns" ∈ lw_tbl := lw_in 78 (by decide +kernel)
theorem im_P_init : Cond.instanceMethod y_P_init ∈ TB := tb_of 79 (by decide +kernel) (by decide +kernel)
theorem cd_P_init : Cond.code y_P_init b_P_init 1 none ∈ TB := tb_of 80 (by decide +kernel) (by decide +kernel)
theorem ml_P_3 : Cond.methodLink "DeadRuns$Pad" 3 objectInit ∈ TB := tb_of 81 (by decide +kernel) (by decide +kernel)
theorem fl_P_11 : Cond.fieldLink "DeadRuns$Pad" 11 "DeadRuns$Pad" "codes" "[I" ∈ TB := tb_of 82 (by decide +kernel) (by decide +kernel)
theorem fl_P_15 : Cond.fieldLink "DeadRuns$Pad" 15 "DeadRuns$Pad" "used" "I" ∈ TB := tb_of 83 (by decide +kernel) (by decide +kernel)
theorem fl_D_131 : Cond.fieldLink "DeadRuns" 131 "DeadRuns$Pad" "used" "I" ∈ TB := tb_of 84 (by decide +kernel) (by decide +kernel)
theorem ly_P_codes : Cond.laysFinal "DeadRuns$Pad" "DeadRuns$Pad" "codes" "[I" ∈ TB := tb_of 85 (by decide +kernel) (by decide +kernel)
theorem ly_P_used : Cond.lays "DeadRuns$Pad" "DeadRuns$Pad" "used" "I" ∈ TB := tb_of 87 (by decide +kernel) (by decide +kernel)
theorem ac_boolean : Cond.arrayClass .boolean ∈ TB := tb_of 90 (by decide +kernel) (by decide +kernel)
theorem fl_D_10 : Cond.fieldLink "DeadRuns" 10 "DeadRuns" "now" "LDeadRuns$State;" ∈ TB := tb_of 91 (by decide +kernel) (by decide +kernel)
theorem fl_D_16 : Cond.fieldLink "DeadRuns" 16 "DeadRuns" "next" "LDeadRuns$State;" ∈ TB := tb_of 92 (by decide +kernel) (by decide +kernel)
theorem fl_D_19 : Cond.fieldLink "DeadRuns" 19 "DeadRuns" "aside" "LDeadRuns$State;" ∈ TB := tb_of 93 (by decide +kernel) (by decide +kernel)
theorem fl_D_22 : Cond.fieldLink "DeadRuns" 22 "DeadRuns" "history" "[LDeadRuns$State;" ∈ TB := tb_of 94 (by decide +kernel) (by decide +kernel)
theorem fl_D_26 : Cond.fieldLink "DeadRuns" 26 "DeadRuns" "recorded" "I" ∈ TB := tb_of 95 (by decide +kernel) (by decide +kernel)
theorem fl_D_30 : Cond.fieldLink "DeadRuns" 30 "DeadRuns" "slots" "[LDeadRuns$State;" ∈ TB := tb_of 96 (by decide +kernel) (by decide +kernel)
theorem fl_D_33 : Cond.fieldLink "DeadRuns" 33 "DeadRuns" "slotUsed" "[Z" ∈ TB := tb_of 97 (by decide +kernel) (by decide +kernel)
theorem fl_D_40 : Cond.fieldLink "DeadRuns" 40 "DeadRuns" "pad" "LDeadRuns$Pad;" ∈ TB := tb_of 98 (by decide +kernel) (by decide +kernel)
theorem ly_D_now : Cond.lays "DeadRuns" "DeadRuns" "now" "LDeadRuns$State;" ∈ TB := tb_of 99 (by decide +kernel) (by decide +kernel)
theorem ly_D_next : Cond.lays "DeadRuns" "DeadRuns" "next" "LDeadRuns$State;" ∈ TB := tb_of 101 (by decide +kernel) (by decide +kernel)
theorem ly_D_aside : Cond.laysFinal "DeadRuns" "DeadRuns" "aside" "LDeadRuns$State;" ∈ TB := tb_of 103 (by decide +kernel) (by decide +kernel)
theorem ly_D_history : Cond.laysFinal "DeadRuns" "DeadRuns" "history" "[LDeadRuns$State;" ∈ TB := tb_of 105 (by decide +kernel) (by decide +kernel)
theorem ly_D_recorded : Cond.lays "DeadRuns" "DeadRuns" "recorded" "I" ∈ TB := tb_of 107 (by decide +kernel) (by decide +kernel)
theorem ly_D_slots : Cond.laysFinal "DeadRuns" "DeadRuns" "slots" "[LDeadRuns$State;" ∈ TB := tb_of 109 (by decide +kernel) (by decide +kernel)
theorem ly_D_slotUsed : Cond.laysFinal "DeadRuns" "DeadRuns" "slotUsed" "[Z" ∈ TB := tb_of 111 (by decide +kernel) (by decide +kernel)
theorem ly_D_pad : Cond.laysFinal "DeadRuns" "DeadRuns" "pad" "LDeadRuns$Pad;" ∈ TB := tb_of 113 (by decide +kernel) (by decide +kernel)
theorem ml_L_13 : Cond.methodLink "DeadRunsLaw" 13 y_D_set ∈ TB := tb_of 116 (by decide +kernel) (by decide +kernel)
theorem im_D_set : Cond.instanceMethod y_D_set ∈ TB := tb_of 117 (by decide +kernel) (by decide +kernel)
theorem se_D_set : Cond.selects "DeadRuns" y_D_set y_D_set ∈ TB := tb_of 118 (by decide +kernel) (by decide +kernel)
theorem cd_D_set : Cond.code y_D_set b_D_set 3 (some .int) ∈ TB := tb_of 119 (by decide +kernel) (by decide +kernel)
theorem ml_D_44 : Cond.methodLink "DeadRuns" 44 y_D_isWithin ∈ TB := tb_of 120 (by decide +kernel) (by decide +kernel)
theorem st_D_isWithin : Cond.static y_D_isWithin ∈ TB := tb_of 121 (by decide +kernel) (by decide +kernel)
theorem cd_D_isWithin : Cond.code y_D_isWithin b_D_isWithin 3 (some .boolean) ∈ TB := tb_of 122 (by decide +kernel) (by decide +kernel)
theorem ml_D_48 : Cond.methodLink "DeadRuns" 48 y_S_becomeCopyOf ∈ TB := tb_of 123 (by decide +kernel) (by decide +kernel)
theorem im_S_becomeCopyOf : Cond.instanceMethod y_S_becomeCopyOf ∈ TB := tb_of 124 (by decide +kernel) (by decide +kernel)
theorem se_S_becomeCopyOf : Cond.selects "DeadRuns$State" y_S_becomeCopyOf y_S_becomeCopyOf ∈ TB := tb_of 125 (by decide +kernel) (by decide +kernel)
theorem cd_S_becomeCopyOf : Cond.code y_S_becomeCopyOf b_S_becomeCopyOf 2 none ∈ TB := tb_of 126 (by decide +kernel) (by decide +kernel)
theorem ml_S_35 : Cond.methodLink "DeadRuns$State" 35 y_S_startLike ∈ TB := tb_of 127 (by decide +kernel) (by decide +kernel)
theorem im_S_startLike : Cond.instanceMethod y_S_startLike ∈ TB := tb_of 128 (by decide +kernel) (by decide +kernel)
theorem se_S_startLike : Cond.selects "DeadRuns$State" y_S_startLike y_S_startLike ∈ TB := tb_of 129 (by decide +kernel) (by decide +kernel)
theorem cd_S_startLike : Cond.code y_S_startLike b_S_startLike 2 none ∈ TB := tb_of 130 (by decide +kernel) (by decide +kernel)
theorem ml_S_39 : Cond.methodLink "DeadRuns$State" 39 y_S_appendPiece ∈ TB := tb_of 131 (by decide +kernel) (by decide +kernel)
theorem im_S_appendPiece : Cond.instanceMethod y_S_appendPiece ∈ TB := tb_of 132 (by decide +kernel) (by decide +kernel)
theorem se_S_appendPiece : Cond.selects "DeadRuns$State" y_S_appendPiece y_S_appendPiece ∈ TB := tb_of 133 (by decide +kernel) (by decide +kernel)
theorem cd_S_appendPiece : Cond.code y_S_appendPiece b_S_appendPiece 6 none ∈ TB := tb_of 134 (by decide +kernel) (by decide +kernel)
theorem ml_S_43 : Cond.methodLink "DeadRuns$State" 43 y_S_shared ∈ TB := tb_of 135 (by decide +kernel) (by decide +kernel)
theorem st_S_shared : Cond.static y_S_shared ∈ TB := tb_of 136 (by decide +kernel) (by decide +kernel)
theorem cd_S_shared : Cond.code y_S_shared b_S_shared 4 (some .int) ∈ TB := tb_of 137 (by decide +kernel) (by decide +kernel)
theorem ml_S_55 : Cond.methodLink "DeadRuns$State" 55 Lib.Math.min.name ∈ TB := tb_of 138 (by decide +kernel) (by decide +kernel)
theorem st_Math_min : Cond.static Lib.Math.min.name ∈ TB := tb_of 139 (by decide +kernel) (by decide +kernel)
theorem cd_Math_min : Cond.code Lib.Math.min.name Lib.Math.min.code 2 (some .int) ∈ TB := tb_of 140 (by decide +kernel) (by decide +kernel)
theorem ml_S_61 : Cond.methodLink "DeadRuns$State" 61 Lib.Math.max.name ∈ TB := tb_of 141 (by decide +kernel) (by decide +kernel)
theorem st_Math_max : Cond.static Lib.Math.max.name ∈ TB := tb_of 142 (by decide +kernel) (by decide +kernel)
theorem cd_Math_max : Cond.code Lib.Math.max.name Lib.Math.max.code 2 (some .int) ∈ TB := tb_of 143 (by decide +kernel) (by decide +kernel)
theorem ml_S_47 : Cond.methodLink "DeadRuns$State" 47 y_S_append ∈ TB := tb_of 144 (by decide +kernel) (by decide +kernel)
theorem im_S_append : Cond.instanceMethod y_S_append ∈ TB := tb_of 145 (by decide +kernel) (by decide +kernel)
theorem se_S_append : Cond.selects "DeadRuns$State" y_S_append y_S_append ∈ TB := tb_of 146 (by decide +kernel) (by decide +kernel)
theorem cd_S_append : Cond.code y_S_append b_S_append 4 none ∈ TB := tb_of 147 (by decide +kernel) (by decide +kernel)
theorem ml_D_55 : Cond.methodLink "DeadRuns" 55 y_D_accepted ∈ TB := tb_of 148 (by decide +kernel) (by decide +kernel)
theorem im_D_accepted : Cond.instanceMethod y_D_accepted ∈ TB := tb_of 150 (by decide +kernel) (by decide +kernel)
theorem cd_D_accepted : Cond.code y_D_accepted b_D_accepted 3 (some .int) ∈ TB := tb_of 151 (by decide +kernel) (by decide +kernel)
theorem ml_D_174 : Cond.methodLink "DeadRuns" 174 y_D_dropOldest ∈ TB := tb_of 152 (by decide +kernel) (by decide +kernel)
theorem im_D_dropOldest : Cond.instanceMethod y_D_dropOldest ∈ TB := tb_of 154 (by decide +kernel) (by decide +kernel)
theorem cd_D_dropOldest : Cond.code y_D_dropOldest b_D_dropOldest 3 none ∈ TB := tb_of 155 (by decide +kernel) (by decide +kernel)
theorem ml_L_18 : Cond.methodLink "DeadRunsLaw" 18 y_D_insert ∈ TB := tb_of 156 (by decide +kernel) (by decide +kernel)
theorem im_D_insert : Cond.instanceMethod y_D_insert ∈ TB := tb_of 157 (by decide +kernel) (by decide +kernel)
theorem se_D_insert : Cond.selects "DeadRuns" y_D_insert y_D_insert ∈ TB := tb_of 158 (by decide +kernel) (by decide +kernel)
theorem cd_D_insert : Cond.code y_D_insert b_D_insert 4 (some .int) ∈ TB := tb_of 159 (by decide +kernel) (by decide +kernel)
theorem ml_D_65 : Cond.methodLink "DeadRuns" 65 y_S_startLike ∈ TB := tb_of 160 (by decide +kernel) (by decide +kernel)
theorem ml_D_68 : Cond.methodLink "DeadRuns" 68 y_S_appendPiece ∈ TB := tb_of 161 (by decide +kernel) (by decide +kernel)
theorem ml_D_72 : Cond.methodLink "DeadRuns" 72 y_S_append ∈ TB := tb_of 162 (by decide +kernel) (by decide +kernel)
theorem ml_L_23 : Cond.methodLink "DeadRunsLaw" 23 y_D_erase ∈ TB := tb_of 163 (by decide +kernel) (by decide +kernel)
theorem im_D_erase : Cond.instanceMethod y_D_erase ∈ TB := tb_of 164 (by decide +kernel) (by decide +kernel)
theorem se_D_erase : Cond.selects "DeadRuns" y_D_erase y_D_erase ∈ TB := tb_of 165 (by decide +kernel) (by decide +kernel)
theorem cd_D_erase : Cond.code y_D_erase b_D_erase 3 (some .int) ∈ TB := tb_of 166 (by decide +kernel) (by decide +kernel)
theorem ml_D_76 : Cond.methodLink "DeadRuns" 76 y_D_isPiece ∈ TB := tb_of 167 (by decide +kernel) (by decide +kernel)
theorem im_D_isPiece : Cond.instanceMethod y_D_isPiece ∈ TB := tb_of 169 (by decide +kernel) (by decide +kernel)
theorem cd_D_isPiece : Cond.code y_D_isPiece b_D_isPiece 3 (some .boolean) ∈ TB := tb_of 170 (by decide +kernel) (by decide +kernel)
theorem ml_D_80 : Cond.methodLink "DeadRuns" 80 y_S_alikeIn ∈ TB := tb_of 171 (by decide +kernel) (by decide +kernel)
theorem im_S_alikeIn : Cond.instanceMethod y_S_alikeIn ∈ TB := tb_of 172 (by decide +kernel) (by decide +kernel)
theorem se_S_alikeIn : Cond.selects "DeadRuns$State" y_S_alikeIn y_S_alikeIn ∈ TB := tb_of 173 (by decide +kernel) (by decide +kernel)
theorem cd_S_alikeIn : Cond.code y_S_alikeIn b_S_alikeIn 7 (some .int) ∈ TB := tb_of 174 (by decide +kernel) (by decide +kernel)
theorem ml_D_84 : Cond.methodLink "DeadRuns" 84 y_S_appendAllBut ∈ TB := tb_of 175 (by decide +kernel) (by decide +kernel)
theorem im_S_appendAllBut : Cond.instanceMethod y_S_appendAllBut ∈ TB := tb_of 176 (by decide +kernel) (by decide +kernel)
theorem se_S_appendAllBut : Cond.selects "DeadRuns$State" y_S_appendAllBut y_S_appendAllBut ∈ TB := tb_of 177 (by decide +kernel) (by decide +kernel)
theorem cd_S_appendAllBut : Cond.code y_S_appendAllBut b_S_appendAllBut 4 none ∈ TB := tb_of 178 (by decide +kernel) (by decide +kernel)
theorem ml_L_27 : Cond.methodLink "DeadRunsLaw" 27 y_D_write ∈ TB := tb_of 179 (by decide +kernel) (by decide +kernel)
theorem im_D_write : Cond.instanceMethod y_D_write ∈ TB := tb_of 180 (by decide +kernel) (by decide +kernel)
theorem se_D_write : Cond.selects "DeadRuns" y_D_write y_D_write ∈ TB := tb_of 181 (by decide +kernel) (by decide +kernel)
theorem cd_D_write : Cond.code y_D_write b_D_write 4 (some .int) ∈ TB := tb_of 182 (by decide +kernel) (by decide +kernel)
theorem ml_D_87 : Cond.methodLink "DeadRuns" 87 y_D_edited ∈ TB := tb_of 183 (by decide +kernel) (by decide +kernel)
theorem im_D_edited : Cond.instanceMethod y_D_edited ∈ TB := tb_of 185 (by decide +kernel) (by decide +kernel)
theorem cd_D_edited : Cond.code y_D_edited b_D_edited 6 (some .int) ∈ TB := tb_of 186 (by decide +kernel) (by decide +kernel)
theorem ml_D_166 : Cond.methodLink "DeadRuns" 166 y_S_appendEdited ∈ TB := tb_of 187 (by decide +kernel) (by decide +kernel)
theorem im_S_appendEdited : Cond.instanceMethod y_S_appendEdited ∈ TB := tb_of 188 (by decide +kernel) (by decide +kernel)
theorem se_S_appendEdited : Cond.selects "DeadRuns$State" y_S_appendEdited y_S_appendEdited ∈ TB := tb_of 189 (by decide +kernel) (by decide +kernel)
theorem cd_S_appendEdited : Cond.code y_S_appendEdited b_S_appendEdited 13 (some .int) ∈ TB := tb_of 190 (by decide +kernel) (by decide +kernel)
theorem ml_S_51 : Cond.methodLink "DeadRuns$State" 51 y_S_signAfter ∈ TB := tb_of 191 (by decide +kernel) (by decide +kernel)
theorem st_S_signAfter : Cond.static y_S_signAfter ∈ TB := tb_of 192 (by decide +kernel) (by decide +kernel)
theorem cd_S_signAfter : Cond.code y_S_signAfter b_S_signAfter 3 (some .int) ∈ TB := tb_of 193 (by decide +kernel) (by decide +kernel)
theorem ml_L_31 : Cond.methodLink "DeadRunsLaw" 31 y_D_add ∈ TB := tb_of 194 (by decide +kernel) (by decide +kernel)
theorem im_D_add : Cond.instanceMethod y_D_add ∈ TB := tb_of 195 (by decide +kernel) (by decide +kernel)
theorem se_D_add : Cond.selects "DeadRuns" y_D_add y_D_add ∈ TB := tb_of 196 (by decide +kernel) (by decide +kernel)
theorem cd_D_add : Cond.code y_D_add b_D_add 4 (some .int) ∈ TB := tb_of 197 (by decide +kernel) (by decide +kernel)
theorem ml_L_35 : Cond.methodLink "DeadRunsLaw" 35 y_D_kill ∈ TB := tb_of 198 (by decide +kernel) (by decide +kernel)
theorem im_D_kill : Cond.instanceMethod y_D_kill ∈ TB := tb_of 199 (by decide +kernel) (by decide +kernel)
theorem se_D_kill : Cond.selects "DeadRuns" y_D_kill y_D_kill ∈ TB := tb_of 200 (by decide +kernel) (by decide +kernel)
theorem cd_D_kill : Cond.code y_D_kill b_D_kill 3 (some .int) ∈ TB := tb_of 201 (by decide +kernel) (by decide +kernel)
theorem ml_L_39 : Cond.methodLink "DeadRunsLaw" 39 y_D_revive ∈ TB := tb_of 202 (by decide +kernel) (by decide +kernel)
theorem im_D_revive : Cond.instanceMethod y_D_revive ∈ TB := tb_of 203 (by decide +kernel) (by decide +kernel)
theorem se_D_revive : Cond.selects "DeadRuns" y_D_revive y_D_revive ∈ TB := tb_of 204 (by decide +kernel) (by decide +kernel)
theorem cd_D_revive : Cond.code y_D_revive b_D_revive 3 (some .int) ∈ TB := tb_of 205 (by decide +kernel) (by decide +kernel)
theorem ml_L_43 : Cond.methodLink "DeadRunsLaw" 43 y_D_turn ∈ TB := tb_of 206 (by decide +kernel) (by decide +kernel)
theorem im_D_turn : Cond.instanceMethod y_D_turn ∈ TB := tb_of 207 (by decide +kernel) (by decide +kernel)
theorem se_D_turn : Cond.selects "DeadRuns" y_D_turn y_D_turn ∈ TB := tb_of 208 (by decide +kernel) (by decide +kernel)
theorem cd_D_turn : Cond.code y_D_turn b_D_turn 4 (some .int) ∈ TB := tb_of 209 (by decide +kernel) (by decide +kernel)
theorem ml_D_91 : Cond.methodLink "DeadRuns" 91 y_S_appendTurned ∈ TB := tb_of 210 (by decide +kernel) (by decide +kernel)
theorem im_S_appendTurned : Cond.instanceMethod y_S_appendTurned ∈ TB := tb_of 211 (by decide +kernel) (by decide +kernel)
theorem se_S_appendTurned : Cond.selects "DeadRuns$State" y_S_appendTurned y_S_appendTurned ∈ TB := tb_of 212 (by decide +kernel) (by decide +kernel)
theorem cd_S_appendTurned : Cond.code y_S_appendTurned b_S_appendTurned 7 none ∈ TB := tb_of 213 (by decide +kernel) (by decide +kernel)
theorem ml_D_95 : Cond.methodLink "DeadRuns" 95 y_S_appendLiveFrom ∈ TB := tb_of 214 (by decide +kernel) (by decide +kernel)
theorem im_S_appendLiveFrom : Cond.instanceMethod y_S_appendLiveFrom ∈ TB := tb_of 215 (by decide +kernel) (by decide +kernel)
theorem se_S_appendLiveFrom : Cond.selects "DeadRuns$State" y_S_appendLiveFrom y_S_appendLiveFrom ∈ TB := tb_of 216 (by decide +kernel) (by decide +kernel)
theorem cd_S_appendLiveFrom : Cond.code y_S_appendLiveFrom b_S_appendLiveFrom 9 none ∈ TB := tb_of 217 (by decide +kernel) (by decide +kernel)
theorem ml_L_47 : Cond.methodLink "DeadRunsLaw" 47 y_D_move ∈ TB := tb_of 218 (by decide +kernel) (by decide +kernel)
theorem im_D_move : Cond.instanceMethod y_D_move ∈ TB := tb_of 219 (by decide +kernel) (by decide +kernel)
theorem se_D_move : Cond.selects "DeadRuns" y_D_move y_D_move ∈ TB := tb_of 220 (by decide +kernel) (by decide +kernel)
theorem cd_D_move : Cond.code y_D_move b_D_move 4 (some .int) ∈ TB := tb_of 221 (by decide +kernel) (by decide +kernel)
theorem ml_L_51 : Cond.methodLink "DeadRunsLaw" 51 y_D_sign ∈ TB := tb_of 222 (by decide +kernel) (by decide +kernel)
theorem im_D_sign : Cond.instanceMethod y_D_sign ∈ TB := tb_of 223 (by decide +kernel) (by decide +kernel)
theorem se_D_sign : Cond.selects "DeadRuns" y_D_sign y_D_sign ∈ TB := tb_of 224 (by decide +kernel) (by decide +kernel)
theorem cd_D_sign : Cond.code y_D_sign b_D_sign 2 (some .int) ∈ TB := tb_of 225 (by decide +kernel) (by decide +kernel)
theorem ml_D_102 : Cond.methodLink "DeadRuns" 102 y_S_signAt ∈ TB := tb_of 226 (by decide +kernel) (by decide +kernel)
theorem im_S_signAt : Cond.instanceMethod y_S_signAt ∈ TB := tb_of 227 (by decide +kernel) (by decide +kernel)
theorem se_S_signAt : Cond.selects "DeadRuns$State" y_S_signAt y_S_signAt ∈ TB := tb_of 228 (by decide +kernel) (by decide +kernel)
theorem cd_S_signAt : Cond.code y_S_signAt b_S_signAt 4 (some .int) ∈ TB := tb_of 229 (by decide +kernel) (by decide +kernel)
theorem ml_L_56 : Cond.methodLink "DeadRunsLaw" 56 y_D_ofRun ∈ TB := tb_of 230 (by decide +kernel) (by decide +kernel)
theorem im_D_ofRun : Cond.instanceMethod y_D_ofRun ∈ TB := tb_of 231 (by decide +kernel) (by decide +kernel)
theorem se_D_ofRun : Cond.selects "DeadRuns" y_D_ofRun y_D_ofRun ∈ TB := tb_of 232 (by decide +kernel) (by decide +kernel)
theorem cd_D_ofRun : Cond.code y_D_ofRun b_D_ofRun 3 (some .int) ∈ TB := tb_of 233 (by decide +kernel) (by decide +kernel)
theorem ml_D_105 : Cond.methodLink "DeadRuns" 105 y_S_signOf ∈ TB := tb_of 234 (by decide +kernel) (by decide +kernel)
theorem im_S_signOf : Cond.instanceMethod y_S_signOf ∈ TB := tb_of 235 (by decide +kernel) (by decide +kernel)
theorem se_S_signOf : Cond.selects "DeadRuns$State" y_S_signOf y_S_signOf ∈ TB := tb_of 236 (by decide +kernel) (by decide +kernel)
theorem cd_S_signOf : Cond.code y_S_signOf b_S_signOf 2 (some .int) ∈ TB := tb_of 237 (by decide +kernel) (by decide +kernel)
theorem ml_D_108 : Cond.methodLink "DeadRuns" 108 y_S_firstOf ∈ TB := tb_of 238 (by decide +kernel) (by decide +kernel)
theorem im_S_firstOf : Cond.instanceMethod y_S_firstOf ∈ TB := tb_of 239 (by decide +kernel) (by decide +kernel)
theorem se_S_firstOf : Cond.selects "DeadRuns$State" y_S_firstOf y_S_firstOf ∈ TB := tb_of 240 (by decide +kernel) (by decide +kernel)
theorem cd_S_firstOf : Cond.code y_S_firstOf b_S_firstOf 4 (some .int) ∈ TB := tb_of 241 (by decide +kernel) (by decide +kernel)
theorem ml_D_111 : Cond.methodLink "DeadRuns" 111 y_S_lengthOf ∈ TB := tb_of 242 (by decide +kernel) (by decide +kernel)
theorem im_S_lengthOf : Cond.instanceMethod y_S_lengthOf ∈ TB := tb_of 243 (by decide +kernel) (by decide +kernel)
theorem se_S_lengthOf : Cond.selects "DeadRuns$State" y_S_lengthOf y_S_lengthOf ∈ TB := tb_of 244 (by decide +kernel) (by decide +kernel)
theorem cd_S_lengthOf : Cond.code y_S_lengthOf b_S_lengthOf 2 (some .int) ∈ TB := tb_of 245 (by decide +kernel) (by decide +kernel)
theorem ml_D_114 : Cond.methodLink "DeadRuns" 114 y_S_bitsOf ∈ TB := tb_of 246 (by decide +kernel) (by decide +kernel)
theorem im_S_bitsOf : Cond.instanceMethod y_S_bitsOf ∈ TB := tb_of 247 (by decide +kernel) (by decide +kernel)
theorem se_S_bitsOf : Cond.selects "DeadRuns$State" y_S_bitsOf y_S_bitsOf ∈ TB := tb_of 248 (by decide +kernel) (by decide +kernel)
theorem cd_S_bitsOf : Cond.code y_S_bitsOf b_S_bitsOf 3 (some .int) ∈ TB := tb_of 249 (by decide +kernel) (by decide +kernel)
theorem ml_S_64 : Cond.methodLink "DeadRuns$State" 64 y_C_bitsOfRun ∈ TB := tb_of 250 (by decide +kernel) (by decide +kernel)
theorem st_C_bitsOfRun : Cond.static y_C_bitsOfRun ∈ TB := tb_of 251 (by decide +kernel) (by decide +kernel)
theorem cd_C_bitsOfRun : Cond.code y_C_bitsOfRun b_C_bitsOfRun 3 (some .int) ∈ TB := tb_of 252 (by decide +kernel) (by decide +kernel)
theorem ml_C_9 : Cond.methodLink "DeadRuns$Codes" 9 y_C_bitsOfSign ∈ TB := tb_of 253 (by decide +kernel) (by decide +kernel)
theorem st_C_bitsOfSign : Cond.static y_C_bitsOfSign ∈ TB := tb_of 254 (by decide +kernel) (by decide +kernel)
theorem cd_C_bitsOfSign : Cond.code y_C_bitsOfSign b_C_bitsOfSign 1 (some .int) ∈ TB := tb_of 255 (by decide +kernel) (by decide +kernel)
theorem ml_C_15 : Cond.methodLink "DeadRuns$Codes" 15 y_C_bitsOfLength ∈ TB := tb_of 256 (by decide +kernel) (by decide +kernel)
theorem st_C_bitsOfLength : Cond.static y_C_bitsOfLength ∈ TB := tb_of 257 (by decide +kernel) (by decide +kernel)
theorem cd_C_bitsOfLength : Cond.code y_C_bitsOfLength b_C_bitsOfLength 4 (some .int) ∈ TB := tb_of 258 (by decide +kernel) (by decide +kernel)
theorem ml_C_26 : Cond.methodLink "DeadRuns$Codes" 26 y_C_widthOf ∈ TB := tb_of 259 (by decide +kernel) (by decide +kernel)
theorem st_C_widthOf : Cond.static y_C_widthOf ∈ TB := tb_of 260 (by decide +kernel) (by decide +kernel)
theorem cd_C_widthOf : Cond.code y_C_widthOf b_C_widthOf 3 (some .int) ∈ TB := tb_of 261 (by decide +kernel) (by decide +kernel)
theorem ml_L_60 : Cond.methodLink "DeadRunsLaw" 60 y_D_count ∈ TB := tb_of 262 (by decide +kernel) (by decide +kernel)
theorem im_D_count : Cond.instanceMethod y_D_count ∈ TB := tb_of 263 (by decide +kernel) (by decide +kernel)
theorem se_D_count : Cond.selects "DeadRuns" y_D_count y_D_count ∈ TB := tb_of 264 (by decide +kernel) (by decide +kernel)
theorem cd_D_count : Cond.code y_D_count b_D_count 2 (some .int) ∈ TB := tb_of 265 (by decide +kernel) (by decide +kernel)
theorem ml_D_118 : Cond.methodLink "DeadRuns" 118 y_S_allBits ∈ TB := tb_of 266 (by decide +kernel) (by decide +kernel)
theorem im_S_allBits : Cond.instanceMethod y_S_allBits ∈ TB := tb_of 267 (by decide +kernel) (by decide +kernel)
theorem se_S_allBits : Cond.selects "DeadRuns$State" y_S_allBits y_S_allBits ∈ TB := tb_of 268 (by decide +kernel) (by decide +kernel)
theorem cd_S_allBits : Cond.code y_S_allBits b_S_allBits 4 (some .int) ∈ TB := tb_of 269 (by decide +kernel) (by decide +kernel)
theorem ml_D_121 : Cond.methodLink "DeadRuns" 121 y_S_allCharacters ∈ TB := tb_of 270 (by decide +kernel) (by decide +kernel)
theorem im_S_allCharacters : Cond.instanceMethod y_S_allCharacters ∈ TB := tb_of 271 (by decide +kernel) (by decide +kernel)
theorem se_S_allCharacters : Cond.selects "DeadRuns$State" y_S_allCharacters y_S_allCharacters ∈ TB := tb_of 272 (by decide +kernel) (by decide +kernel)
theorem cd_S_allCharacters : Cond.code y_S_allCharacters b_S_allCharacters 3 (some .int) ∈ TB := tb_of 273 (by decide +kernel) (by decide +kernel)
theorem ml_S_72 : Cond.methodLink "DeadRuns$State" 72 y_X_charactersOfRun ∈ TB := tb_of 274 (by decide +kernel) (by decide +kernel)
theorem st_X_charactersOfRun : Cond.static y_X_charactersOfRun ∈ TB := tb_of 275 (by decide +kernel) (by decide +kernel)
theorem cd_X_charactersOfRun : Cond.code y_X_charactersOfRun b_X_charactersOfRun 1 (some .int) ∈ TB := tb_of 276 (by decide +kernel) (by decide +kernel)
theorem ml_X_9 : Cond.methodLink "DeadRuns$Texts" 9 y_X_digitsOf ∈ TB := tb_of 277 (by decide +kernel) (by decide +kernel)
theorem st_X_digitsOf : Cond.static y_X_digitsOf ∈ TB := tb_of 278 (by decide +kernel) (by decide +kernel)
theorem cd_X_digitsOf : Cond.code y_X_digitsOf b_X_digitsOf 4 (some .int) ∈ TB := tb_of 279 (by decide +kernel) (by decide +kernel)
theorem ml_D_125 : Cond.methodLink "DeadRuns" 125 y_S_sumOfValues ∈ TB := tb_of 280 (by decide +kernel) (by decide +kernel)
theorem im_S_sumOfValues : Cond.instanceMethod y_S_sumOfValues ∈ TB := tb_of 281 (by decide +kernel) (by decide +kernel)
theorem se_S_sumOfValues : Cond.selects "DeadRuns$State" y_S_sumOfValues y_S_sumOfValues ∈ TB := tb_of 282 (by decide +kernel) (by decide +kernel)
theorem cd_S_sumOfValues : Cond.code y_S_sumOfValues b_S_sumOfValues 3 (some .int) ∈ TB := tb_of 283 (by decide +kernel) (by decide +kernel)
theorem ml_D_128 : Cond.methodLink "DeadRuns" 128 y_S_longestRun ∈ TB := tb_of 284 (by decide +kernel) (by decide +kernel)
theorem im_S_longestRun : Cond.instanceMethod y_S_longestRun ∈ TB := tb_of 285 (by decide +kernel) (by decide +kernel)
theorem se_S_longestRun : Cond.selects "DeadRuns$State" y_S_longestRun y_S_longestRun ∈ TB := tb_of 286 (by decide +kernel) (by decide +kernel)
theorem cd_S_longestRun : Cond.code y_S_longestRun b_S_longestRun 3 (some .int) ∈ TB := tb_of 287 (by decide +kernel) (by decide +kernel)
theorem ml_L_64 : Cond.methodLink "DeadRunsLaw" 64 y_D_howMany ∈ TB := tb_of 288 (by decide +kernel) (by decide +kernel)
theorem im_D_howMany : Cond.instanceMethod y_D_howMany ∈ TB := tb_of 289 (by decide +kernel) (by decide +kernel)
theorem se_D_howMany : Cond.selects "DeadRuns" y_D_howMany y_D_howMany ∈ TB := tb_of 290 (by decide +kernel) (by decide +kernel)
theorem cd_D_howMany : Cond.code y_D_howMany b_D_howMany 4 (some .int) ∈ TB := tb_of 291 (by decide +kernel) (by decide +kernel)
theorem ml_L_68 : Cond.methodLink "DeadRunsLaw" 68 y_D_bit ∈ TB := tb_of 292 (by decide +kernel) (by decide +kernel)
theorem im_D_bit : Cond.instanceMethod y_D_bit ∈ TB := tb_of 293 (by decide +kernel) (by decide +kernel)
theorem se_D_bit : Cond.selects "DeadRuns" y_D_bit y_D_bit ∈ TB := tb_of 294 (by decide +kernel) (by decide +kernel)
theorem cd_D_bit : Cond.code y_D_bit b_D_bit 2 (some .int) ∈ TB := tb_of 295 (by decide +kernel) (by decide +kernel)
theorem ml_D_134 : Cond.methodLink "DeadRuns" 134 y_S_bitAt ∈ TB := tb_of 296 (by decide +kernel) (by decide +kernel)
theorem im_S_bitAt : Cond.instanceMethod y_S_bitAt ∈ TB := tb_of 297 (by decide +kernel) (by decide +kernel)
theorem se_S_bitAt : Cond.selects "DeadRuns$State" y_S_bitAt y_S_bitAt ∈ TB := tb_of 298 (by decide +kernel) (by decide +kernel)
theorem cd_S_bitAt : Cond.code y_S_bitAt b_S_bitAt 5 (some .int) ∈ TB := tb_of 299 (by decide +kernel) (by decide +kernel)
theorem ml_S_69 : Cond.methodLink "DeadRuns$State" 69 y_C_bitOfRun ∈ TB := tb_of 300 (by decide +kernel) (by decide +kernel)
theorem st_C_bitOfRun : Cond.static y_C_bitOfRun ∈ TB := tb_of 301 (by decide +kernel) (by decide +kernel)
theorem cd_C_bitOfRun : Cond.code y_C_bitOfRun b_C_bitOfRun 5 (some .int) ∈ TB := tb_of 302 (by decide +kernel) (by decide +kernel)
theorem ml_C_19 : Cond.methodLink "DeadRuns$Codes" 19 y_C_bitOfLength ∈ TB := tb_of 303 (by decide +kernel) (by decide +kernel)
theorem st_C_bitOfLength : Cond.static y_C_bitOfLength ∈ TB := tb_of 304 (by decide +kernel) (by decide +kernel)
theorem cd_C_bitOfLength : Cond.code y_C_bitOfLength b_C_bitOfLength 6 (some .int) ∈ TB := tb_of 305 (by decide +kernel) (by decide +kernel)
theorem ml_C_23 : Cond.methodLink "DeadRuns$Codes" 23 y_C_bitOfNumber ∈ TB := tb_of 306 (by decide +kernel) (by decide +kernel)
theorem st_C_bitOfNumber : Cond.static y_C_bitOfNumber ∈ TB := tb_of 307 (by decide +kernel) (by decide +kernel)
theorem cd_C_bitOfNumber : Cond.code y_C_bitOfNumber b_C_bitOfNumber 3 (some .int) ∈ TB := tb_of 308 (by decide +kernel) (by decide +kernel)
theorem ml_L_72 : Cond.methodLink "DeadRunsLaw" 72 y_D_character ∈ TB := tb_of 309 (by decide +kernel) (by decide +kernel)
theorem im_D_character : Cond.instanceMethod y_D_character ∈ TB := tb_of 310 (by decide +kernel) (by decide +kernel)
theorem se_D_character : Cond.selects "DeadRuns" y_D_character y_D_character ∈ TB := tb_of 311 (by decide +kernel) (by decide +kernel)
theorem cd_D_character : Cond.code y_D_character b_D_character 2 (some .int) ∈ TB := tb_of 312 (by decide +kernel) (by decide +kernel)
theorem ml_D_137 : Cond.methodLink "DeadRuns" 137 y_S_characterAt ∈ TB := tb_of 313 (by decide +kernel) (by decide +kernel)
theorem im_S_characterAt : Cond.instanceMethod y_S_characterAt ∈ TB := tb_of 314 (by decide +kernel) (by decide +kernel)
theorem se_S_characterAt : Cond.selects "DeadRuns$State" y_S_characterAt y_S_characterAt ∈ TB := tb_of 315 (by decide +kernel) (by decide +kernel)
theorem cd_S_characterAt : Cond.code y_S_characterAt b_S_characterAt 5 (some .int) ∈ TB := tb_of 316 (by decide +kernel) (by decide +kernel)
theorem ml_S_78 : Cond.methodLink "DeadRuns$State" 78 y_X_characterOfRun ∈ TB := tb_of 317 (by decide +kernel) (by decide +kernel)
theorem st_X_characterOfRun : Cond.static y_X_characterOfRun ∈ TB := tb_of 318 (by decide +kernel) (by decide +kernel)
theorem cd_X_characterOfRun : Cond.code y_X_characterOfRun b_X_characterOfRun 5 (some .int) ∈ TB := tb_of 319 (by decide +kernel) (by decide +kernel)
theorem ml_L_76 : Cond.methodLink "DeadRunsLaw" 76 y_D_size ∈ TB := tb_of 320 (by decide +kernel) (by decide +kernel)
theorem im_D_size : Cond.instanceMethod y_D_size ∈ TB := tb_of 321 (by decide +kernel) (by decide +kernel)
theorem se_D_size : Cond.selects "DeadRuns" y_D_size y_D_size ∈ TB := tb_of 322 (by decide +kernel) (by decide +kernel)
theorem cd_D_size : Cond.code y_D_size b_D_size 2 (some .int) ∈ TB := tb_of 323 (by decide +kernel) (by decide +kernel)
theorem ml_L_80 : Cond.methodLink "DeadRunsLaw" 80 y_D_bestCode ∈ TB := tb_of 324 (by decide +kernel) (by decide +kernel)
theorem im_D_bestCode : Cond.instanceMethod y_D_bestCode ∈ TB := tb_of 325 (by decide +kernel) (by decide +kernel)
theorem se_D_bestCode : Cond.selects "DeadRuns" y_D_bestCode y_D_bestCode ∈ TB := tb_of 326 (by decide +kernel) (by decide +kernel)
theorem cd_D_bestCode : Cond.code y_D_bestCode b_D_bestCode 3 (some .int) ∈ TB := tb_of 327 (by decide +kernel) (by decide +kernel)
theorem ml_L_85 : Cond.methodLink "DeadRunsLaw" 85 y_D_longestLive ∈ TB := tb_of 328 (by decide +kernel) (by decide +kernel)
theorem im_D_longestLive : Cond.instanceMethod y_D_longestLive ∈ TB := tb_of 329 (by decide +kernel) (by decide +kernel)
theorem se_D_longestLive : Cond.selects "DeadRuns" y_D_longestLive y_D_longestLive ∈ TB := tb_of 330 (by decide +kernel) (by decide +kernel)
theorem cd_D_longestLive : Cond.code y_D_longestLive b_D_longestLive 2 (some .int) ∈ TB := tb_of 331 (by decide +kernel) (by decide +kernel)
theorem ml_D_140 : Cond.methodLink "DeadRuns" 140 y_S_longestLiveStretch ∈ TB := tb_of 332 (by decide +kernel) (by decide +kernel)
theorem im_S_longestLiveStretch : Cond.instanceMethod y_S_longestLiveStretch ∈ TB := tb_of 333 (by decide +kernel) (by decide +kernel)
theorem se_S_longestLiveStretch : Cond.selects "DeadRuns$State" y_S_longestLiveStretch y_S_longestLiveStretch ∈ TB := tb_of 334 (by decide +kernel) (by decide +kernel)
theorem cd_S_longestLiveStretch : Cond.code y_S_longestLiveStretch b_S_longestLiveStretch 7 (some .int) ∈ TB := tb_of 335 (by decide +kernel) (by decide +kernel)
theorem ml_L_89 : Cond.methodLink "DeadRunsLaw" 89 y_D_find ∈ TB := tb_of 336 (by decide +kernel) (by decide +kernel)
theorem im_D_find : Cond.instanceMethod y_D_find ∈ TB := tb_of 337 (by decide +kernel) (by decide +kernel)
theorem se_D_find : Cond.selects "DeadRuns" y_D_find y_D_find ∈ TB := tb_of 338 (by decide +kernel) (by decide +kernel)
theorem cd_D_find : Cond.code y_D_find b_D_find 3 (some .int) ∈ TB := tb_of 339 (by decide +kernel) (by decide +kernel)
theorem kc_D_144 : Cond.constant "DeadRuns" 144 (999999999 : Int32) ∈ TB := tb_of 340 (by decide +kernel) (by decide +kernel)
theorem ml_D_145 : Cond.methodLink "DeadRuns" 145 y_S_firstMatch ∈ TB := tb_of 341 (by decide +kernel) (by decide +kernel)
theorem im_S_firstMatch : Cond.instanceMethod y_S_firstMatch ∈ TB := tb_of 342 (by decide +kernel) (by decide +kernel)
theorem se_S_firstMatch : Cond.selects "DeadRuns$State" y_S_firstMatch y_S_firstMatch ∈ TB := tb_of 343 (by decide +kernel) (by decide +kernel)
theorem cd_S_firstMatch : Cond.code y_S_firstMatch b_S_firstMatch 15 (some .int) ∈ TB := tb_of 344 (by decide +kernel) (by decide +kernel)
theorem ml_S_81 : Cond.methodLink "DeadRuns$State" 81 y_X_digitsOf ∈ TB := tb_of 345 (by decide +kernel) (by decide +kernel)
theorem ml_S_84 : Cond.methodLink "DeadRuns$State" 84 y_X_inGroupsOf4Bits ∈ TB := tb_of 346 (by decide +kernel) (by decide +kernel)
theorem st_X_inGroupsOf4Bits : Cond.static y_X_inGroupsOf4Bits ∈ TB := tb_of 347 (by decide +kernel) (by decide +kernel)
theorem cd_X_inGroupsOf4Bits : Cond.code y_X_inGroupsOf4Bits b_X_inGroupsOf4Bits 5 (some .long) ∈ TB := tb_of 348 (by decide +kernel) (by decide +kernel)
theorem kc_S_88 : Cond.constantLong "DeadRuns$State" 88 (-1 : Int64) ∈ TB := tb_of 349 (by decide +kernel) (by decide +kernel)
theorem ml_L_93 : Cond.methodLink "DeadRunsLaw" 93 y_D_bestWrite ∈ TB := tb_of 350 (by decide +kernel) (by decide +kernel)
theorem im_D_bestWrite : Cond.instanceMethod y_D_bestWrite ∈ TB := tb_of 351 (by decide +kernel) (by decide +kernel)
theorem se_D_bestWrite : Cond.selects "DeadRuns" y_D_bestWrite y_D_bestWrite ∈ TB := tb_of 352 (by decide +kernel) (by decide +kernel)
theorem cd_D_bestWrite : Cond.code y_D_bestWrite b_D_bestWrite 8 (some .int) ∈ TB := tb_of 353 (by decide +kernel) (by decide +kernel)
theorem ml_D_148 : Cond.methodLink "DeadRuns" 148 y_S_savedByWriting ∈ TB := tb_of 354 (by decide +kernel) (by decide +kernel)
theorem im_S_savedByWriting : Cond.instanceMethod y_S_savedByWriting ∈ TB := tb_of 355 (by decide +kernel) (by decide +kernel)
theorem se_S_savedByWriting : Cond.selects "DeadRuns$State" y_S_savedByWriting y_S_savedByWriting ∈ TB := tb_of 356 (by decide +kernel) (by decide +kernel)
theorem cd_S_savedByWriting : Cond.code y_S_savedByWriting b_S_savedByWriting 5 (some .int) ∈ TB := tb_of 357 (by decide +kernel) (by decide +kernel)
theorem ml_S_90 : Cond.methodLink "DeadRuns$State" 90 y_S_bitsOf ∈ TB := tb_of 358 (by decide +kernel) (by decide +kernel)
theorem ml_L_97 : Cond.methodLink "DeadRunsLaw" 97 y_D_unlikeMirror ∈ TB := tb_of 359 (by decide +kernel) (by decide +kernel)
theorem im_D_unlikeMirror : Cond.instanceMethod y_D_unlikeMirror ∈ TB := tb_of 360 (by decide +kernel) (by decide +kernel)
theorem se_D_unlikeMirror : Cond.selects "DeadRuns" y_D_unlikeMirror y_D_unlikeMirror ∈ TB := tb_of 361 (by decide +kernel) (by decide +kernel)
theorem cd_D_unlikeMirror : Cond.code y_D_unlikeMirror b_D_unlikeMirror 1 (some .int) ∈ TB := tb_of 362 (by decide +kernel) (by decide +kernel)
theorem ml_D_151 : Cond.methodLink "DeadRuns" 151 y_S_unlikeTurned ∈ TB := tb_of 363 (by decide +kernel) (by decide +kernel)
theorem im_S_unlikeTurned : Cond.instanceMethod y_S_unlikeTurned ∈ TB := tb_of 364 (by decide +kernel) (by decide +kernel)
theorem se_S_unlikeTurned : Cond.selects "DeadRuns$State" y_S_unlikeTurned y_S_unlikeTurned ∈ TB := tb_of 365 (by decide +kernel) (by decide +kernel)
theorem cd_S_unlikeTurned : Cond.code y_S_unlikeTurned b_S_unlikeTurned 5 (some .int) ∈ TB := tb_of 366 (by decide +kernel) (by decide +kernel)
theorem ml_S_93 : Cond.methodLink "DeadRuns$State" 93 y_S_alikeIn ∈ TB := tb_of 367 (by decide +kernel) (by decide +kernel)
theorem ml_L_103 : Cond.methodLink "DeadRunsLaw" 103 y_D_put ∈ TB := tb_of 368 (by decide +kernel) (by decide +kernel)
theorem im_D_put : Cond.instanceMethod y_D_put ∈ TB := tb_of 369 (by decide +kernel) (by decide +kernel)
theorem se_D_put : Cond.selects "DeadRuns" y_D_put y_D_put ∈ TB := tb_of 370 (by decide +kernel) (by decide +kernel)
theorem cd_D_put : Cond.code y_D_put b_D_put 4 (some .int) ∈ TB := tb_of 371 (by decide +kernel) (by decide +kernel)
theorem ml_D_154 : Cond.methodLink "DeadRuns" 154 y_P_charactersIn ∈ TB := tb_of 372 (by decide +kernel) (by decide +kernel)
theorem st_P_charactersIn : Cond.static y_P_charactersIn ∈ TB := tb_of 373 (by decide +kernel) (by decide +kernel)
theorem cd_P_charactersIn : Cond.code y_P_charactersIn b_P_charactersIn 8 (some .int) ∈ TB := tb_of 374 (by decide +kernel) (by decide +kernel)
theorem kc_P_19 : Cond.constantLong "DeadRuns$Pad" 19 (255 : Int64) ∈ TB := tb_of 375 (by decide +kernel) (by decide +kernel)
theorem kc_P_21 : Cond.constantLong "DeadRuns$Pad" 21 (33 : Int64) ∈ TB := tb_of 376 (by decide +kernel) (by decide +kernel)
theorem kc_P_23 : Cond.constantLong "DeadRuns$Pad" 23 (126 : Int64) ∈ TB := tb_of 377 (by decide +kernel) (by decide +kernel)
theorem ml_D_158 : Cond.methodLink "DeadRuns" 158 y_P_tookIn ∈ TB := tb_of 378 (by decide +kernel) (by decide +kernel)
theorem im_P_tookIn : Cond.instanceMethod y_P_tookIn ∈ TB := tb_of 379 (by decide +kernel) (by decide +kernel)
theorem se_P_tookIn : Cond.selects "DeadRuns$Pad" y_P_tookIn y_P_tookIn ∈ TB := tb_of 380 (by decide +kernel) (by decide +kernel)
theorem cd_P_tookIn : Cond.code y_P_tookIn b_P_tookIn 5 (some .boolean) ∈ TB := tb_of 381 (by decide +kernel) (by decide +kernel)
theorem ml_L_108 : Cond.methodLink "DeadRunsLaw" 108 y_D_wipe ∈ TB := tb_of 382 (by decide +kernel) (by decide +kernel)
theorem im_D_wipe : Cond.instanceMethod y_D_wipe ∈ TB := tb_of 383 (by decide +kernel) (by decide +kernel)
theorem se_D_wipe : Cond.selects "DeadRuns" y_D_wipe y_D_wipe ∈ TB := tb_of 384 (by decide +kernel) (by decide +kernel)
theorem cd_D_wipe : Cond.code y_D_wipe b_D_wipe 2 (some .int) ∈ TB := tb_of 385 (by decide +kernel) (by decide +kernel)
theorem ml_L_112 : Cond.methodLink "DeadRunsLaw" 112 y_D_fault ∈ TB := tb_of 386 (by decide +kernel) (by decide +kernel)
theorem im_D_fault : Cond.instanceMethod y_D_fault ∈ TB := tb_of 387 (by decide +kernel) (by decide +kernel)
theorem se_D_fault : Cond.selects "DeadRuns" y_D_fault y_D_fault ∈ TB := tb_of 388 (by decide +kernel) (by decide +kernel)
theorem cd_D_fault : Cond.code y_D_fault b_D_fault 1 (some .int) ∈ TB := tb_of 389 (by decide +kernel) (by decide +kernel)
theorem ml_D_162 : Cond.methodLink "DeadRuns" 162 y_P_readInto ∈ TB := tb_of 390 (by decide +kernel) (by decide +kernel)
theorem im_P_readInto : Cond.instanceMethod y_P_readInto ∈ TB := tb_of 391 (by decide +kernel) (by decide +kernel)
theorem se_P_readInto : Cond.selects "DeadRuns$Pad" y_P_readInto y_P_readInto ∈ TB := tb_of 392 (by decide +kernel) (by decide +kernel)
theorem cd_P_readInto : Cond.code y_P_readInto b_P_readInto 7 (some .int) ∈ TB := tb_of 393 (by decide +kernel) (by decide +kernel)
theorem ml_P_25 : Cond.methodLink "DeadRuns$Pad" 25 y_P_isDigit ∈ TB := tb_of 394 (by decide +kernel) (by decide +kernel)
theorem st_P_isDigit : Cond.static y_P_isDigit ∈ TB := tb_of 395 (by decide +kernel) (by decide +kernel)
theorem cd_P_isDigit : Cond.code y_P_isDigit b_P_isDigit 1 (some .boolean) ∈ TB := tb_of 396 (by decide +kernel) (by decide +kernel)
theorem ml_P_29 : Cond.methodLink "DeadRuns$Pad" 29 y_P_mayEnd ∈ TB := tb_of 397 (by decide +kernel) (by decide +kernel)
theorem st_P_mayEnd : Cond.static y_P_mayEnd ∈ TB := tb_of 398 (by decide +kernel) (by decide +kernel)
theorem cd_P_mayEnd : Cond.code y_P_mayEnd b_P_mayEnd 1 (some .boolean) ∈ TB := tb_of 399 (by decide +kernel) (by decide +kernel)
theorem ml_P_32 : Cond.methodLink "DeadRuns$Pad" 32 y_S_append ∈ TB := tb_of 400 (by decide +kernel) (by decide +kernel)
theorem ml_P_38 : Cond.methodLink "DeadRuns$Pad" 38 y_P_continuesNumber ∈ TB := tb_of 401 (by decide +kernel) (by decide +kernel)
theorem st_P_continuesNumber : Cond.static y_P_continuesNumber ∈ TB := tb_of 402 (by decide +kernel) (by decide +kernel)
theorem cd_P_continuesNumber : Cond.code y_P_continuesNumber b_P_continuesNumber 2 (some .boolean) ∈ TB := tb_of 403 (by decide +kernel) (by decide +kernel)
theorem mln_P_42 : Cond.methodLinkNest "DeadRuns$Pad" 42 y_D_isWithin "DeadRuns" ∈ lw_tbl := lw_in 404 (by decide +kernel)
theorem ml_L_116 : Cond.methodLink "DeadRunsLaw" 116 y_D_load ∈ TB := tb_of 405 (by decide +kernel) (by decide +kernel)
theorem im_D_load : Cond.instanceMethod y_D_load ∈ TB := tb_of 406 (by decide +kernel) (by decide +kernel)
theorem se_D_load : Cond.selects "DeadRuns" y_D_load y_D_load ∈ TB := tb_of 407 (by decide +kernel) (by decide +kernel)
theorem cd_D_load : Cond.code y_D_load b_D_load 2 (some .int) ∈ TB := tb_of 408 (by decide +kernel) (by decide +kernel)
theorem ml_L_120 : Cond.methodLink "DeadRunsLaw" 120 y_D_undo ∈ TB := tb_of 409 (by decide +kernel) (by decide +kernel)
theorem im_D_undo : Cond.instanceMethod y_D_undo ∈ TB := tb_of 410 (by decide +kernel) (by decide +kernel)
theorem se_D_undo : Cond.selects "DeadRuns" y_D_undo y_D_undo ∈ TB := tb_of 411 (by decide +kernel) (by decide +kernel)
theorem cd_D_undo : Cond.code y_D_undo b_D_undo 2 (some .int) ∈ TB := tb_of 412 (by decide +kernel) (by decide +kernel)
theorem ml_L_124 : Cond.methodLink "DeadRunsLaw" 124 y_D_save ∈ TB := tb_of 413 (by decide +kernel) (by decide +kernel)
theorem im_D_save : Cond.instanceMethod y_D_save ∈ TB := tb_of 414 (by decide +kernel) (by decide +kernel)
theorem se_D_save : Cond.selects "DeadRuns" y_D_save y_D_save ∈ TB := tb_of 415 (by decide +kernel) (by decide +kernel)
theorem cd_D_save : Cond.code y_D_save b_D_save 2 (some .int) ∈ TB := tb_of 416 (by decide +kernel) (by decide +kernel)
theorem ml_L_128 : Cond.methodLink "DeadRunsLaw" 128 y_D_restore ∈ TB := tb_of 417 (by decide +kernel) (by decide +kernel)
theorem im_D_restore : Cond.instanceMethod y_D_restore ∈ TB := tb_of 418 (by decide +kernel) (by decide +kernel)
theorem se_D_restore : Cond.selects "DeadRuns" y_D_restore y_D_restore ∈ TB := tb_of 419 (by decide +kernel) (by decide +kernel)
theorem cd_D_restore : Cond.code y_D_restore b_D_restore 2 (some .int) ∈ TB := tb_of 420 (by decide +kernel) (by decide +kernel)
theorem cl_L_10 : Cond.classLink "DeadRunsLaw" 10 "DeadRunsModel" ∈ TB := tb_of 421 (by decide +kernel) (by decide +kernel)
theorem ib_M : Cond.instantiable "DeadRunsModel" 15 ∈ TB := tb_of 422 (by decide +kernel) (by decide +kernel)
theorem ml_L_12 : Cond.methodLink "DeadRunsLaw" 12 y_M_init ∈ TB := tb_of 423 (by decide +kernel) (by decide +kernel)
theorem im_M_init : Cond.instanceMethod y_M_init ∈ TB := tb_of 424 (by decide +kernel) (by decide +kernel)
theorem cd_M_init : Cond.code y_M_init b_M_init 1 none ∈ TB := tb_of 425 (by decide +kernel) (by decide +kernel)
theorem ml_M_1 : Cond.methodLink "DeadRunsModel" 1 objectInit ∈ TB := tb_of 426 (by decide +kernel) (by decide +kernel)
theorem fl_M_7 : Cond.fieldLink "DeadRunsModel" 7 "DeadRunsModel" "now" "[I" ∈ TB := tb_of 427 (by decide +kernel) (by decide +kernel)
theorem fl_M_13 : Cond.fieldLink "DeadRunsModel" 13 "DeadRunsModel" "past" "[I" ∈ TB := tb_of 428 (by decide +kernel) (by decide +kernel)
theorem fl_M_37 : Cond.fieldLink "DeadRunsModel" 37 "DeadRunsModel" "pasts" "I" ∈ TB := tb_of 429 (by decide +kernel) (by decide +kernel)
theorem fl_M_16 : Cond.fieldLink "DeadRunsModel" 16 "DeadRunsModel" "slots" "[I" ∈ TB := tb_of 430 (by decide +kernel) (by decide +kernel)
theorem fl_M_143 : Cond.fieldLink "DeadRunsModel" 143 "DeadRunsModel" "saved" "I" ∈ TB := tb_of 431 (by decide +kernel) (by decide +kernel)
theorem fl_M_19 : Cond.fieldLink "DeadRunsModel" 19 "DeadRunsModel" "line" "[I" ∈ TB := tb_of 432 (by decide +kernel) (by decide +kernel)
theorem fl_M_22 : Cond.fieldLink "DeadRunsModel" 22 "DeadRunsModel" "other" "[I" ∈ TB := tb_of 433 (by decide +kernel) (by decide +kernel)
theorem fl_M_52 : Cond.fieldLink "DeadRunsModel" 52 "DeadRunsModel" "length" "I" ∈ TB := tb_of 434 (by decide +kernel) (by decide +kernel)
theorem fl_M_25 : Cond.fieldLink "DeadRunsModel" 25 "DeadRunsModel" "pad" "[I" ∈ TB := tb_of 435 (by decide +kernel) (by decide +kernel)
theorem fl_M_119 : Cond.fieldLink "DeadRunsModel" 119 "DeadRunsModel" "typed" "I" ∈ TB := tb_of 436 (by decide +kernel) (by decide +kernel)
theorem fl_M_28 : Cond.fieldLink "DeadRunsModel" 28 "DeadRunsModel" "written" "[I" ∈ TB := tb_of 437 (by decide +kernel) (by decide +kernel)
theorem fl_M_100 : Cond.fieldLink "DeadRunsModel" 100 "DeadRunsModel" "writtenMany" "I" ∈ TB := tb_of 438 (by decide +kernel) (by decide +kernel)
theorem fl_M_31 : Cond.fieldLink "DeadRunsModel" 31 "DeadRunsModel" "signs" "[I" ∈ TB := tb_of 439 (by decide +kernel) (by decide +kernel)
theorem fl_M_34 : Cond.fieldLink "DeadRunsModel" 34 "DeadRunsModel" "lengths" "[I" ∈ TB := tb_of 440 (by decide +kernel) (by decide +kernel)
theorem fl_M_137 : Cond.fieldLink "DeadRunsModel" 137 "DeadRunsModel" "readMany" "I" ∈ TB := tb_of 441 (by decide +kernel) (by decide +kernel)
theorem ly_M_now : Cond.laysFinal "DeadRunsModel" "DeadRunsModel" "now" "[I" ∈ TB := tb_of 442 (by decide +kernel) (by decide +kernel)
theorem ly_M_past : Cond.laysFinal "DeadRunsModel" "DeadRunsModel" "past" "[I" ∈ TB := tb_of 444 (by decide +kernel) (by decide +kernel)
theorem ly_M_pasts : Cond.lays "DeadRunsModel" "DeadRunsModel" "pasts" "I" ∈ TB := tb_of 446 (by decide +kernel) (by decide +kernel)
theorem ly_M_slots : Cond.laysFinal "DeadRunsModel" "DeadRunsModel" "slots" "[I" ∈ TB := tb_of 448 (by decide +kernel) (by decide +kernel)
theorem ly_M_saved : Cond.lays "DeadRunsModel" "DeadRunsModel" "saved" "I" ∈ TB := tb_of 450 (by decide +kernel) (by decide +kernel)
theorem ly_M_line : Cond.laysFinal "DeadRunsModel" "DeadRunsModel" "line" "[I" ∈ TB := tb_of 452 (by decide +kernel) (by decide +kernel)
theorem ly_M_other : Cond.laysFinal "DeadRunsModel" "DeadRunsModel" "other" "[I" ∈ TB := tb_of 454 (by decide +kernel) (by decide +kernel)
theorem ly_M_length : Cond.lays "DeadRunsModel" "DeadRunsModel" "length" "I" ∈ TB := tb_of 456 (by decide +kernel) (by decide +kernel)
theorem ly_M_pad : Cond.laysFinal "DeadRunsModel" "DeadRunsModel" "pad" "[I" ∈ TB := tb_of 458 (by decide +kernel) (by decide +kernel)
theorem ly_M_typed : Cond.lays "DeadRunsModel" "DeadRunsModel" "typed" "I" ∈ TB := tb_of 460 (by decide +kernel) (by decide +kernel)
theorem ly_M_written : Cond.laysFinal "DeadRunsModel" "DeadRunsModel" "written" "[I" ∈ TB := tb_of 462 (by decide +kernel) (by decide +kernel)
theorem ly_M_writtenMany : Cond.lays "DeadRunsModel" "DeadRunsModel" "writtenMany" "I" ∈ TB := tb_of 464 (by decide +kernel) (by decide +kernel)
theorem ly_M_signs : Cond.laysFinal "DeadRunsModel" "DeadRunsModel" "signs" "[I" ∈ TB := tb_of 466 (by decide +kernel) (by decide +kernel)
theorem ly_M_lengths : Cond.laysFinal "DeadRunsModel" "DeadRunsModel" "lengths" "[I" ∈ TB := tb_of 468 (by decide +kernel) (by decide +kernel)
theorem ly_M_readMany : Cond.lays "DeadRunsModel" "DeadRunsModel" "readMany" "I" ∈ TB := tb_of 470 (by decide +kernel) (by decide +kernel)
theorem ml_L_17 : Cond.methodLink "DeadRunsLaw" 17 y_M_set ∈ TB := tb_of 473 (by decide +kernel) (by decide +kernel)
theorem im_M_set : Cond.instanceMethod y_M_set ∈ TB := tb_of 474 (by decide +kernel) (by decide +kernel)
theorem se_M_set : Cond.selects "DeadRunsModel" y_M_set y_M_set ∈ TB := tb_of 475 (by decide +kernel) (by decide +kernel)
theorem cd_M_set : Cond.code y_M_set b_M_set 4 (some .int) ∈ TB := tb_of 476 (by decide +kernel) (by decide +kernel)
theorem ml_M_75 : Cond.methodLink "DeadRunsModel" 75 y_M_in ∈ TB := tb_of 477 (by decide +kernel) (by decide +kernel)
theorem st_M_in : Cond.static y_M_in ∈ TB := tb_of 478 (by decide +kernel) (by decide +kernel)
theorem cd_M_in : Cond.code y_M_in b_M_in 3 (some .boolean) ∈ TB := tb_of 479 (by decide +kernel) (by decide +kernel)
theorem ml_M_62 : Cond.methodLink "DeadRunsModel" 62 y_M_records ∈ TB := tb_of 480 (by decide +kernel) (by decide +kernel)
theorem im_M_records : Cond.instanceMethod y_M_records ∈ TB := tb_of 482 (by decide +kernel) (by decide +kernel)
theorem cd_M_records : Cond.code y_M_records b_M_records 2 none ∈ TB := tb_of 483 (by decide +kernel) (by decide +kernel)
theorem ml_M_41 : Cond.methodLink "DeadRunsModel" 41 y_M_copies ∈ TB := tb_of 484 (by decide +kernel) (by decide +kernel)
theorem st_M_copies : Cond.static y_M_copies ∈ TB := tb_of 485 (by decide +kernel) (by decide +kernel)
theorem cd_M_copies : Cond.code y_M_copies b_M_copies 5 none ∈ TB := tb_of 486 (by decide +kernel) (by decide +kernel)
theorem ml_L_22 : Cond.methodLink "DeadRunsLaw" 22 y_M_insert ∈ TB := tb_of 487 (by decide +kernel) (by decide +kernel)
theorem im_M_insert : Cond.instanceMethod y_M_insert ∈ TB := tb_of 488 (by decide +kernel) (by decide +kernel)
theorem se_M_insert : Cond.selects "DeadRunsModel" y_M_insert y_M_insert ∈ TB := tb_of 489 (by decide +kernel) (by decide +kernel)
theorem cd_M_insert : Cond.code y_M_insert b_M_insert 5 (some .int) ∈ TB := tb_of 490 (by decide +kernel) (by decide +kernel)
theorem ml_M_72 : Cond.methodLink "DeadRunsModel" 72 y_M_laysOut ∈ TB := tb_of 491 (by decide +kernel) (by decide +kernel)
theorem im_M_laysOut : Cond.instanceMethod y_M_laysOut ∈ TB := tb_of 493 (by decide +kernel) (by decide +kernel)
theorem cd_M_laysOut : Cond.code y_M_laysOut b_M_laysOut 3 none ∈ TB := tb_of 494 (by decide +kernel) (by decide +kernel)
theorem ml_M_45 : Cond.methodLink "DeadRunsModel" 45 y_M_lengthOf ∈ TB := tb_of 495 (by decide +kernel) (by decide +kernel)
theorem im_M_lengthOf : Cond.instanceMethod y_M_lengthOf ∈ TB := tb_of 497 (by decide +kernel) (by decide +kernel)
theorem cd_M_lengthOf : Cond.code y_M_lengthOf b_M_lengthOf 2 (some .int) ∈ TB := tb_of 498 (by decide +kernel) (by decide +kernel)
theorem ml_M_55 : Cond.methodLink "DeadRunsModel" 55 y_M_signOf ∈ TB := tb_of 499 (by decide +kernel) (by decide +kernel)
theorem im_M_signOf : Cond.instanceMethod y_M_signOf ∈ TB := tb_of 501 (by decide +kernel) (by decide +kernel)
theorem cd_M_signOf : Cond.code y_M_signOf b_M_signOf 2 (some .int) ∈ TB := tb_of 502 (by decide +kernel) (by decide +kernel)
theorem ml_M_79 : Cond.methodLink "DeadRunsModel" 79 y_M_ends ∈ TB := tb_of 503 (by decide +kernel) (by decide +kernel)
theorem im_M_ends : Cond.instanceMethod y_M_ends ∈ TB := tb_of 505 (by decide +kernel) (by decide +kernel)
theorem cd_M_ends : Cond.code y_M_ends b_M_ends 2 (some .int) ∈ TB := tb_of 506 (by decide +kernel) (by decide +kernel)
theorem ml_M_65 : Cond.methodLink "DeadRunsModel" 65 y_M_isTooMuch ∈ TB := tb_of 507 (by decide +kernel) (by decide +kernel)
theorem im_M_isTooMuch : Cond.instanceMethod y_M_isTooMuch ∈ TB := tb_of 509 (by decide +kernel) (by decide +kernel)
theorem cd_M_isTooMuch : Cond.code y_M_isTooMuch b_M_isTooMuch 1 (some .boolean) ∈ TB := tb_of 510 (by decide +kernel) (by decide +kernel)
theorem ml_M_58 : Cond.methodLink "DeadRunsModel" 58 y_M_runsOfLine ∈ TB := tb_of 511 (by decide +kernel) (by decide +kernel)
theorem im_M_runsOfLine : Cond.instanceMethod y_M_runsOfLine ∈ TB := tb_of 513 (by decide +kernel) (by decide +kernel)
theorem cd_M_runsOfLine : Cond.code y_M_runsOfLine b_M_runsOfLine 3 (some .int) ∈ TB := tb_of 514 (by decide +kernel) (by decide +kernel)
theorem ml_M_69 : Cond.methodLink "DeadRunsModel" 69 y_M_takesIn ∈ TB := tb_of 515 (by decide +kernel) (by decide +kernel)
theorem im_M_takesIn : Cond.instanceMethod y_M_takesIn ∈ TB := tb_of 517 (by decide +kernel) (by decide +kernel)
theorem cd_M_takesIn : Cond.code y_M_takesIn b_M_takesIn 3 none ∈ TB := tb_of 518 (by decide +kernel) (by decide +kernel)
theorem ml_L_26 : Cond.methodLink "DeadRunsLaw" 26 y_M_erase ∈ TB := tb_of 519 (by decide +kernel) (by decide +kernel)
theorem im_M_erase : Cond.instanceMethod y_M_erase ∈ TB := tb_of 520 (by decide +kernel) (by decide +kernel)
theorem se_M_erase : Cond.selects "DeadRunsModel" y_M_erase y_M_erase ∈ TB := tb_of 521 (by decide +kernel) (by decide +kernel)
theorem cd_M_erase : Cond.code y_M_erase b_M_erase 5 (some .int) ∈ TB := tb_of 522 (by decide +kernel) (by decide +kernel)
theorem ml_M_82 : Cond.methodLink "DeadRunsModel" 82 y_M_hasPiece ∈ TB := tb_of 523 (by decide +kernel) (by decide +kernel)
theorem im_M_hasPiece : Cond.instanceMethod y_M_hasPiece ∈ TB := tb_of 525 (by decide +kernel) (by decide +kernel)
theorem cd_M_hasPiece : Cond.code y_M_hasPiece b_M_hasPiece 3 (some .boolean) ∈ TB := tb_of 526 (by decide +kernel) (by decide +kernel)
theorem ml_M_86 : Cond.methodLink "DeadRunsModel" 86 y_M_countIn ∈ TB := tb_of 527 (by decide +kernel) (by decide +kernel)
theorem im_M_countIn : Cond.instanceMethod y_M_countIn ∈ TB := tb_of 529 (by decide +kernel) (by decide +kernel)
theorem cd_M_countIn : Cond.code y_M_countIn b_M_countIn 6 (some .int) ∈ TB := tb_of 530 (by decide +kernel) (by decide +kernel)
theorem ml_L_30 : Cond.methodLink "DeadRunsLaw" 30 y_M_write ∈ TB := tb_of 531 (by decide +kernel) (by decide +kernel)
theorem im_M_write : Cond.instanceMethod y_M_write ∈ TB := tb_of 532 (by decide +kernel) (by decide +kernel)
theorem se_M_write : Cond.selects "DeadRunsModel" y_M_write y_M_write ∈ TB := tb_of 533 (by decide +kernel) (by decide +kernel)
theorem cd_M_write : Cond.code y_M_write b_M_write 6 (some .int) ∈ TB := tb_of 534 (by decide +kernel) (by decide +kernel)
theorem ml_L_34 : Cond.methodLink "DeadRunsLaw" 34 y_M_add ∈ TB := tb_of 535 (by decide +kernel) (by decide +kernel)
theorem im_M_add : Cond.instanceMethod y_M_add ∈ TB := tb_of 536 (by decide +kernel) (by decide +kernel)
theorem se_M_add : Cond.selects "DeadRunsModel" y_M_add y_M_add ∈ TB := tb_of 537 (by decide +kernel) (by decide +kernel)
theorem cd_M_add : Cond.code y_M_add b_M_add 6 (some .int) ∈ TB := tb_of 538 (by decide +kernel) (by decide +kernel)
theorem ml_L_38 : Cond.methodLink "DeadRunsLaw" 38 y_M_kill ∈ TB := tb_of 539 (by decide +kernel) (by decide +kernel)
theorem im_M_kill : Cond.instanceMethod y_M_kill ∈ TB := tb_of 540 (by decide +kernel) (by decide +kernel)
theorem se_M_kill : Cond.selects "DeadRunsModel" y_M_kill y_M_kill ∈ TB := tb_of 541 (by decide +kernel) (by decide +kernel)
theorem cd_M_kill : Cond.code y_M_kill b_M_kill 5 (some .int) ∈ TB := tb_of 542 (by decide +kernel) (by decide +kernel)
theorem ml_L_42 : Cond.methodLink "DeadRunsLaw" 42 y_M_revive ∈ TB := tb_of 543 (by decide +kernel) (by decide +kernel)
theorem im_M_revive : Cond.instanceMethod y_M_revive ∈ TB := tb_of 544 (by decide +kernel) (by decide +kernel)
theorem se_M_revive : Cond.selects "DeadRunsModel" y_M_revive y_M_revive ∈ TB := tb_of 545 (by decide +kernel) (by decide +kernel)
theorem cd_M_revive : Cond.code y_M_revive b_M_revive 5 (some .int) ∈ TB := tb_of 546 (by decide +kernel) (by decide +kernel)
theorem ml_L_46 : Cond.methodLink "DeadRunsLaw" 46 y_M_turn ∈ TB := tb_of 547 (by decide +kernel) (by decide +kernel)
theorem im_M_turn : Cond.instanceMethod y_M_turn ∈ TB := tb_of 548 (by decide +kernel) (by decide +kernel)
theorem se_M_turn : Cond.selects "DeadRunsModel" y_M_turn y_M_turn ∈ TB := tb_of 549 (by decide +kernel) (by decide +kernel)
theorem cd_M_turn : Cond.code y_M_turn b_M_turn 5 (some .int) ∈ TB := tb_of 550 (by decide +kernel) (by decide +kernel)
theorem ml_L_50 : Cond.methodLink "DeadRunsLaw" 50 y_M_move ∈ TB := tb_of 551 (by decide +kernel) (by decide +kernel)
theorem im_M_move : Cond.instanceMethod y_M_move ∈ TB := tb_of 552 (by decide +kernel) (by decide +kernel)
theorem se_M_move : Cond.selects "DeadRunsModel" y_M_move y_M_move ∈ TB := tb_of 553 (by decide +kernel) (by decide +kernel)
theorem cd_M_move : Cond.code y_M_move b_M_move 7 (some .int) ∈ TB := tb_of 554 (by decide +kernel) (by decide +kernel)
theorem ml_L_55 : Cond.methodLink "DeadRunsLaw" 55 y_M_sign ∈ TB := tb_of 555 (by decide +kernel) (by decide +kernel)
theorem im_M_sign : Cond.instanceMethod y_M_sign ∈ TB := tb_of 556 (by decide +kernel) (by decide +kernel)
theorem se_M_sign : Cond.selects "DeadRunsModel" y_M_sign y_M_sign ∈ TB := tb_of 557 (by decide +kernel) (by decide +kernel)
theorem cd_M_sign : Cond.code y_M_sign b_M_sign 2 (some .int) ∈ TB := tb_of 558 (by decide +kernel) (by decide +kernel)
theorem ml_L_59 : Cond.methodLink "DeadRunsLaw" 59 y_M_ofRun ∈ TB := tb_of 559 (by decide +kernel) (by decide +kernel)
theorem im_M_ofRun : Cond.instanceMethod y_M_ofRun ∈ TB := tb_of 560 (by decide +kernel) (by decide +kernel)
theorem se_M_ofRun : Cond.selects "DeadRunsModel" y_M_ofRun y_M_ofRun ∈ TB := tb_of 561 (by decide +kernel) (by decide +kernel)
theorem cd_M_ofRun : Cond.code y_M_ofRun b_M_ofRun 3 (some .int) ∈ TB := tb_of 562 (by decide +kernel) (by decide +kernel)
theorem ml_M_49 : Cond.methodLink "DeadRunsModel" 49 y_M_firstOf ∈ TB := tb_of 563 (by decide +kernel) (by decide +kernel)
theorem im_M_firstOf : Cond.instanceMethod y_M_firstOf ∈ TB := tb_of 565 (by decide +kernel) (by decide +kernel)
theorem cd_M_firstOf : Cond.code y_M_firstOf b_M_firstOf 4 (some .int) ∈ TB := tb_of 566 (by decide +kernel) (by decide +kernel)
theorem ml_M_97 : Cond.methodLink "DeadRunsModel" 97 y_M_runBits ∈ TB := tb_of 567 (by decide +kernel) (by decide +kernel)
theorem st_M_runBits : Cond.static y_M_runBits ∈ TB := tb_of 568 (by decide +kernel) (by decide +kernel)
theorem cd_M_runBits : Cond.code y_M_runBits b_M_runBits 3 (some .int) ∈ TB := tb_of 569 (by decide +kernel) (by decide +kernel)
theorem ml_M_93 : Cond.methodLink "DeadRunsModel" 93 y_M_lengthBits ∈ TB := tb_of 570 (by decide +kernel) (by decide +kernel)
theorem st_M_lengthBits : Cond.static y_M_lengthBits ∈ TB := tb_of 571 (by decide +kernel) (by decide +kernel)
theorem cd_M_lengthBits : Cond.code y_M_lengthBits b_M_lengthBits 3 (some .int) ∈ TB := tb_of 572 (by decide +kernel) (by decide +kernel)
theorem ml_M_90 : Cond.methodLink "DeadRunsModel" 90 y_M_bitsOf ∈ TB := tb_of 573 (by decide +kernel) (by decide +kernel)
theorem st_M_bitsOf : Cond.static y_M_bitsOf ∈ TB := tb_of 574 (by decide +kernel) (by decide +kernel)
theorem cd_M_bitsOf : Cond.code y_M_bitsOf b_M_bitsOf 3 (some .int) ∈ TB := tb_of 575 (by decide +kernel) (by decide +kernel)
theorem ml_L_63 : Cond.methodLink "DeadRunsLaw" 63 y_M_count ∈ TB := tb_of 576 (by decide +kernel) (by decide +kernel)
theorem im_M_count : Cond.instanceMethod y_M_count ∈ TB := tb_of 577 (by decide +kernel) (by decide +kernel)
theorem se_M_count : Cond.selects "DeadRunsModel" y_M_count y_M_count ∈ TB := tb_of 578 (by decide +kernel) (by decide +kernel)
theorem cd_M_count : Cond.code y_M_count b_M_count 2 (some .int) ∈ TB := tb_of 579 (by decide +kernel) (by decide +kernel)
theorem ml_M_107 : Cond.methodLink "DeadRunsModel" 107 y_M_writesAll ∈ TB := tb_of 580 (by decide +kernel) (by decide +kernel)
theorem im_M_writesAll : Cond.instanceMethod y_M_writesAll ∈ TB := tb_of 582 (by decide +kernel) (by decide +kernel)
theorem cd_M_writesAll : Cond.code y_M_writesAll b_M_writesAll 4 none ∈ TB := tb_of 583 (by decide +kernel) (by decide +kernel)
theorem ml_M_103 : Cond.methodLink "DeadRunsModel" 103 y_M_writes ∈ TB := tb_of 584 (by decide +kernel) (by decide +kernel)
theorem im_M_writes : Cond.instanceMethod y_M_writes ∈ TB := tb_of 586 (by decide +kernel) (by decide +kernel)
theorem cd_M_writes : Cond.code y_M_writes b_M_writes 2 none ∈ TB := tb_of 587 (by decide +kernel) (by decide +kernel)
theorem ml_M_110 : Cond.methodLink "DeadRunsModel" 110 y_M_sizeBy ∈ TB := tb_of 588 (by decide +kernel) (by decide +kernel)
theorem im_M_sizeBy : Cond.instanceMethod y_M_sizeBy ∈ TB := tb_of 590 (by decide +kernel) (by decide +kernel)
theorem cd_M_sizeBy : Cond.code y_M_sizeBy b_M_sizeBy 4 (some .int) ∈ TB := tb_of 591 (by decide +kernel) (by decide +kernel)
theorem ml_M_113 : Cond.methodLink "DeadRunsModel" 113 y_M_sumLive ∈ TB := tb_of 592 (by decide +kernel) (by decide +kernel)
theorem im_M_sumLive : Cond.instanceMethod y_M_sumLive ∈ TB := tb_of 594 (by decide +kernel) (by decide +kernel)
theorem cd_M_sumLive : Cond.code y_M_sumLive b_M_sumLive 3 (some .int) ∈ TB := tb_of 595 (by decide +kernel) (by decide +kernel)
theorem ml_M_116 : Cond.methodLink "DeadRunsModel" 116 y_M_longest ∈ TB := tb_of 596 (by decide +kernel) (by decide +kernel)
theorem im_M_longest : Cond.instanceMethod y_M_longest ∈ TB := tb_of 598 (by decide +kernel) (by decide +kernel)
theorem cd_M_longest : Cond.code y_M_longest b_M_longest 3 (some .int) ∈ TB := tb_of 599 (by decide +kernel) (by decide +kernel)
theorem ml_L_67 : Cond.methodLink "DeadRunsLaw" 67 y_M_howMany ∈ TB := tb_of 600 (by decide +kernel) (by decide +kernel)
theorem im_M_howMany : Cond.instanceMethod y_M_howMany ∈ TB := tb_of 601 (by decide +kernel) (by decide +kernel)
theorem se_M_howMany : Cond.selects "DeadRunsModel" y_M_howMany y_M_howMany ∈ TB := tb_of 602 (by decide +kernel) (by decide +kernel)
theorem cd_M_howMany : Cond.code y_M_howMany b_M_howMany 4 (some .int) ∈ TB := tb_of 603 (by decide +kernel) (by decide +kernel)
theorem ml_L_71 : Cond.methodLink "DeadRunsLaw" 71 y_M_bit ∈ TB := tb_of 604 (by decide +kernel) (by decide +kernel)
theorem im_M_bit : Cond.instanceMethod y_M_bit ∈ TB := tb_of 605 (by decide +kernel) (by decide +kernel)
theorem se_M_bit : Cond.selects "DeadRunsModel" y_M_bit y_M_bit ∈ TB := tb_of 606 (by decide +kernel) (by decide +kernel)
theorem cd_M_bit : Cond.code y_M_bit b_M_bit 5 (some .int) ∈ TB := tb_of 607 (by decide +kernel) (by decide +kernel)
theorem ml_M_125 : Cond.methodLink "DeadRunsModel" 125 y_M_lengthBit ∈ TB := tb_of 608 (by decide +kernel) (by decide +kernel)
theorem im_M_lengthBit : Cond.instanceMethod y_M_lengthBit ∈ TB := tb_of 610 (by decide +kernel) (by decide +kernel)
theorem cd_M_lengthBit : Cond.code y_M_lengthBit b_M_lengthBit 5 (some .int) ∈ TB := tb_of 611 (by decide +kernel) (by decide +kernel)
theorem ml_M_122 : Cond.methodLink "DeadRunsModel" 122 y_M_bitAt ∈ TB := tb_of 612 (by decide +kernel) (by decide +kernel)
theorem st_M_bitAt : Cond.static y_M_bitAt ∈ TB := tb_of 613 (by decide +kernel) (by decide +kernel)
theorem cd_M_bitAt : Cond.code y_M_bitAt b_M_bitAt 3 (some .int) ∈ TB := tb_of 614 (by decide +kernel) (by decide +kernel)
theorem ml_L_75 : Cond.methodLink "DeadRunsLaw" 75 y_M_character ∈ TB := tb_of 615 (by decide +kernel) (by decide +kernel)
theorem im_M_character : Cond.instanceMethod y_M_character ∈ TB := tb_of 616 (by decide +kernel) (by decide +kernel)
theorem se_M_character : Cond.selects "DeadRunsModel" y_M_character y_M_character ∈ TB := tb_of 617 (by decide +kernel) (by decide +kernel)
theorem cd_M_character : Cond.code y_M_character b_M_character 2 (some .int) ∈ TB := tb_of 618 (by decide +kernel) (by decide +kernel)
theorem ml_L_79 : Cond.methodLink "DeadRunsLaw" 79 y_M_size ∈ TB := tb_of 619 (by decide +kernel) (by decide +kernel)
theorem im_M_size : Cond.instanceMethod y_M_size ∈ TB := tb_of 620 (by decide +kernel) (by decide +kernel)
theorem se_M_size : Cond.selects "DeadRunsModel" y_M_size y_M_size ∈ TB := tb_of 621 (by decide +kernel) (by decide +kernel)
theorem cd_M_size : Cond.code y_M_size b_M_size 2 (some .int) ∈ TB := tb_of 622 (by decide +kernel) (by decide +kernel)
theorem ml_L_84 : Cond.methodLink "DeadRunsLaw" 84 y_M_bestCode ∈ TB := tb_of 623 (by decide +kernel) (by decide +kernel)
theorem im_M_bestCode : Cond.instanceMethod y_M_bestCode ∈ TB := tb_of 624 (by decide +kernel) (by decide +kernel)
theorem se_M_bestCode : Cond.selects "DeadRunsModel" y_M_bestCode y_M_bestCode ∈ TB := tb_of 625 (by decide +kernel) (by decide +kernel)
theorem cd_M_bestCode : Cond.code y_M_bestCode b_M_bestCode 3 (some .int) ∈ TB := tb_of 626 (by decide +kernel) (by decide +kernel)
theorem ml_L_88 : Cond.methodLink "DeadRunsLaw" 88 y_M_longestLive ∈ TB := tb_of 627 (by decide +kernel) (by decide +kernel)
theorem im_M_longestLive : Cond.instanceMethod y_M_longestLive ∈ TB := tb_of 628 (by decide +kernel) (by decide +kernel)
theorem se_M_longestLive : Cond.selects "DeadRunsModel" y_M_longestLive y_M_longestLive ∈ TB := tb_of 629 (by decide +kernel) (by decide +kernel)
theorem cd_M_longestLive : Cond.code y_M_longestLive b_M_longestLive 6 (some .int) ∈ TB := tb_of 630 (by decide +kernel) (by decide +kernel)
theorem ml_L_92 : Cond.methodLink "DeadRunsLaw" 92 y_M_find ∈ TB := tb_of 631 (by decide +kernel) (by decide +kernel)
theorem im_M_find : Cond.instanceMethod y_M_find ∈ TB := tb_of 632 (by decide +kernel) (by decide +kernel)
theorem se_M_find : Cond.selects "DeadRunsModel" y_M_find y_M_find ∈ TB := tb_of 633 (by decide +kernel) (by decide +kernel)
theorem cd_M_find : Cond.code y_M_find b_M_find 5 (some .int) ∈ TB := tb_of 634 (by decide +kernel) (by decide +kernel)
theorem kc_M_128 : Cond.constant "DeadRunsModel" 128 (999999999 : Int32) ∈ TB := tb_of 635 (by decide +kernel) (by decide +kernel)
theorem ml_M_129 : Cond.methodLink "DeadRunsModel" 129 y_M_endsAt ∈ TB := tb_of 636 (by decide +kernel) (by decide +kernel)
theorem im_M_endsAt : Cond.instanceMethod y_M_endsAt ∈ TB := tb_of 638 (by decide +kernel) (by decide +kernel)
theorem cd_M_endsAt : Cond.code y_M_endsAt b_M_endsAt 5 (some .boolean) ∈ TB := tb_of 639 (by decide +kernel) (by decide +kernel)
theorem ml_L_96 : Cond.methodLink "DeadRunsLaw" 96 y_M_bestWrite ∈ TB := tb_of 640 (by decide +kernel) (by decide +kernel)
theorem im_M_bestWrite : Cond.instanceMethod y_M_bestWrite ∈ TB := tb_of 641 (by decide +kernel) (by decide +kernel)
theorem se_M_bestWrite : Cond.selects "DeadRunsModel" y_M_bestWrite y_M_bestWrite ∈ TB := tb_of 642 (by decide +kernel) (by decide +kernel)
theorem cd_M_bestWrite : Cond.code y_M_bestWrite b_M_bestWrite 7 (some .int) ∈ TB := tb_of 643 (by decide +kernel) (by decide +kernel)
theorem ml_M_132 : Cond.methodLink "DeadRunsModel" 132 y_M_savedBy ∈ TB := tb_of 644 (by decide +kernel) (by decide +kernel)
theorem im_M_savedBy : Cond.instanceMethod y_M_savedBy ∈ TB := tb_of 646 (by decide +kernel) (by decide +kernel)
theorem cd_M_savedBy : Cond.code y_M_savedBy b_M_savedBy 7 (some .int) ∈ TB := tb_of 647 (by decide +kernel) (by decide +kernel)
theorem ml_L_100 : Cond.methodLink "DeadRunsLaw" 100 y_M_unlikeMirror ∈ TB := tb_of 648 (by decide +kernel) (by decide +kernel)
theorem im_M_unlikeMirror : Cond.instanceMethod y_M_unlikeMirror ∈ TB := tb_of 649 (by decide +kernel) (by decide +kernel)
theorem se_M_unlikeMirror : Cond.selects "DeadRunsModel" y_M_unlikeMirror y_M_unlikeMirror ∈ TB := tb_of 650 (by decide +kernel) (by decide +kernel)
theorem cd_M_unlikeMirror : Cond.code y_M_unlikeMirror b_M_unlikeMirror 3 (some .int) ∈ TB := tb_of 651 (by decide +kernel) (by decide +kernel)
theorem ml_L_107 : Cond.methodLink "DeadRunsLaw" 107 y_M_put ∈ TB := tb_of 652 (by decide +kernel) (by decide +kernel)
theorem im_M_put : Cond.instanceMethod y_M_put ∈ TB := tb_of 653 (by decide +kernel) (by decide +kernel)
theorem se_M_put : Cond.selects "DeadRunsModel" y_M_put y_M_put ∈ TB := tb_of 654 (by decide +kernel) (by decide +kernel)
theorem cd_M_put : Cond.code y_M_put b_M_put 5 (some .int) ∈ TB := tb_of 655 (by decide +kernel) (by decide +kernel)
theorem kc_M_135 : Cond.constantLong "DeadRunsModel" 135 (255 : Int64) ∈ TB := tb_of 656 (by decide +kernel) (by decide +kernel)
theorem ml_L_111 : Cond.methodLink "DeadRunsLaw" 111 y_M_wipe ∈ TB := tb_of 657 (by decide +kernel) (by decide +kernel)
theorem im_M_wipe : Cond.instanceMethod y_M_wipe ∈ TB := tb_of 658 (by decide +kernel) (by decide +kernel)
theorem se_M_wipe : Cond.selects "DeadRunsModel" y_M_wipe y_M_wipe ∈ TB := tb_of 659 (by decide +kernel) (by decide +kernel)
theorem cd_M_wipe : Cond.code y_M_wipe b_M_wipe 2 (some .int) ∈ TB := tb_of 660 (by decide +kernel) (by decide +kernel)
theorem ml_L_115 : Cond.methodLink "DeadRunsLaw" 115 y_M_fault ∈ TB := tb_of 661 (by decide +kernel) (by decide +kernel)
theorem im_M_fault : Cond.instanceMethod y_M_fault ∈ TB := tb_of 662 (by decide +kernel) (by decide +kernel)
theorem se_M_fault : Cond.selects "DeadRunsModel" y_M_fault y_M_fault ∈ TB := tb_of 663 (by decide +kernel) (by decide +kernel)
theorem cd_M_fault : Cond.code y_M_fault b_M_fault 1 (some .int) ∈ TB := tb_of 664 (by decide +kernel) (by decide +kernel)
theorem ml_M_140 : Cond.methodLink "DeadRunsModel" 140 y_M_faultOf ∈ TB := tb_of 665 (by decide +kernel) (by decide +kernel)
theorem im_M_faultOf : Cond.instanceMethod y_M_faultOf ∈ TB := tb_of 667 (by decide +kernel) (by decide +kernel)
theorem cd_M_faultOf : Cond.code y_M_faultOf b_M_faultOf 5 (some .int) ∈ TB := tb_of 668 (by decide +kernel) (by decide +kernel)
theorem ml_L_119 : Cond.methodLink "DeadRunsLaw" 119 y_M_load ∈ TB := tb_of 669 (by decide +kernel) (by decide +kernel)
theorem im_M_load : Cond.instanceMethod y_M_load ∈ TB := tb_of 670 (by decide +kernel) (by decide +kernel)
theorem se_M_load : Cond.selects "DeadRunsModel" y_M_load y_M_load ∈ TB := tb_of 671 (by decide +kernel) (by decide +kernel)
theorem cd_M_load : Cond.code y_M_load b_M_load 3 (some .int) ∈ TB := tb_of 672 (by decide +kernel) (by decide +kernel)
theorem ml_L_123 : Cond.methodLink "DeadRunsLaw" 123 y_M_undo ∈ TB := tb_of 673 (by decide +kernel) (by decide +kernel)
theorem im_M_undo : Cond.instanceMethod y_M_undo ∈ TB := tb_of 674 (by decide +kernel) (by decide +kernel)
theorem se_M_undo : Cond.selects "DeadRunsModel" y_M_undo y_M_undo ∈ TB := tb_of 675 (by decide +kernel) (by decide +kernel)
theorem cd_M_undo : Cond.code y_M_undo b_M_undo 1 (some .int) ∈ TB := tb_of 676 (by decide +kernel) (by decide +kernel)
theorem ml_L_127 : Cond.methodLink "DeadRunsLaw" 127 y_M_save ∈ TB := tb_of 677 (by decide +kernel) (by decide +kernel)
theorem im_M_save : Cond.instanceMethod y_M_save ∈ TB := tb_of 678 (by decide +kernel) (by decide +kernel)
theorem se_M_save : Cond.selects "DeadRunsModel" y_M_save y_M_save ∈ TB := tb_of 679 (by decide +kernel) (by decide +kernel)
theorem cd_M_save : Cond.code y_M_save b_M_save 2 (some .int) ∈ TB := tb_of 680 (by decide +kernel) (by decide +kernel)
theorem ml_M_146 : Cond.methodLink "DeadRunsModel" 146 y_M_lengthAll ∈ TB := tb_of 681 (by decide +kernel) (by decide +kernel)
theorem im_M_lengthAll : Cond.instanceMethod y_M_lengthAll ∈ TB := tb_of 683 (by decide +kernel) (by decide +kernel)
theorem cd_M_lengthAll : Cond.code y_M_lengthAll b_M_lengthAll 1 (some .int) ∈ TB := tb_of 684 (by decide +kernel) (by decide +kernel)
theorem ml_L_131 : Cond.methodLink "DeadRunsLaw" 131 y_M_restore ∈ TB := tb_of 685 (by decide +kernel) (by decide +kernel)
theorem im_M_restore : Cond.instanceMethod y_M_restore ∈ TB := tb_of 686 (by decide +kernel) (by decide +kernel)
theorem se_M_restore : Cond.selects "DeadRunsModel" y_M_restore y_M_restore ∈ TB := tb_of 687 (by decide +kernel) (by decide +kernel)
theorem cd_M_restore : Cond.code y_M_restore b_M_restore 2 (some .int) ∈ TB := tb_of 688 (by decide +kernel) (by decide +kernel)
theorem kc_L_101 : Cond.constantLong "DeadRunsLaw" 101 (4294967295 : Int64) ∈ TB := tb_of 689 (by decide +kernel) (by decide +kernel)
theorem se_D_accepted : Cond.selects "DeadRuns" y_D_accepted y_D_accepted ∈ TB := tb_of 0 (by decide +kernel) (by decide +kernel)
theorem se_D_dropOldest : Cond.selects "DeadRuns" y_D_dropOldest y_D_dropOldest ∈ TB := tb_of 1 (by decide +kernel) (by decide +kernel)
theorem se_D_isPiece : Cond.selects "DeadRuns" y_D_isPiece y_D_isPiece ∈ TB := tb_of 2 (by decide +kernel) (by decide +kernel)
theorem se_D_edited : Cond.selects "DeadRuns" y_D_edited y_D_edited ∈ TB := tb_of 3 (by decide +kernel) (by decide +kernel)
theorem se_M_records : Cond.selects "DeadRunsModel" y_M_records y_M_records ∈ TB := tb_of 4 (by decide +kernel) (by decide +kernel)
theorem se_M_laysOut : Cond.selects "DeadRunsModel" y_M_laysOut y_M_laysOut ∈ TB := tb_of 5 (by decide +kernel) (by decide +kernel)
theorem se_M_lengthOf : Cond.selects "DeadRunsModel" y_M_lengthOf y_M_lengthOf ∈ TB := tb_of 6 (by decide +kernel) (by decide +kernel)
theorem se_M_signOf : Cond.selects "DeadRunsModel" y_M_signOf y_M_signOf ∈ TB := tb_of 7 (by decide +kernel) (by decide +kernel)
theorem se_M_ends : Cond.selects "DeadRunsModel" y_M_ends y_M_ends ∈ TB := tb_of 8 (by decide +kernel) (by decide +kernel)
theorem se_M_isTooMuch : Cond.selects "DeadRunsModel" y_M_isTooMuch y_M_isTooMuch ∈ TB := tb_of 9 (by decide +kernel) (by decide +kernel)
theorem se_M_runsOfLine : Cond.selects "DeadRunsModel" y_M_runsOfLine y_M_runsOfLine ∈ TB := tb_of 10 (by decide +kernel) (by decide +kernel)
theorem se_M_takesIn : Cond.selects "DeadRunsModel" y_M_takesIn y_M_takesIn ∈ TB := tb_of 11 (by decide +kernel) (by decide +kernel)
theorem se_M_hasPiece : Cond.selects "DeadRunsModel" y_M_hasPiece y_M_hasPiece ∈ TB := tb_of 12 (by decide +kernel) (by decide +kernel)
theorem se_M_countIn : Cond.selects "DeadRunsModel" y_M_countIn y_M_countIn ∈ TB := tb_of 13 (by decide +kernel) (by decide +kernel)
theorem se_M_firstOf : Cond.selects "DeadRunsModel" y_M_firstOf y_M_firstOf ∈ TB := tb_of 14 (by decide +kernel) (by decide +kernel)
theorem se_M_writesAll : Cond.selects "DeadRunsModel" y_M_writesAll y_M_writesAll ∈ TB := tb_of 15 (by decide +kernel) (by decide +kernel)
theorem se_M_writes : Cond.selects "DeadRunsModel" y_M_writes y_M_writes ∈ TB := tb_of 16 (by decide +kernel) (by decide +kernel)
theorem se_M_sizeBy : Cond.selects "DeadRunsModel" y_M_sizeBy y_M_sizeBy ∈ TB := tb_of 17 (by decide +kernel) (by decide +kernel)
theorem se_M_sumLive : Cond.selects "DeadRunsModel" y_M_sumLive y_M_sumLive ∈ TB := tb_of 18 (by decide +kernel) (by decide +kernel)
theorem se_M_longest : Cond.selects "DeadRunsModel" y_M_longest y_M_longest ∈ TB := tb_of 19 (by decide +kernel) (by decide +kernel)
theorem se_M_lengthBit : Cond.selects "DeadRunsModel" y_M_lengthBit y_M_lengthBit ∈ TB := tb_of 20 (by decide +kernel) (by decide +kernel)
theorem se_M_endsAt : Cond.selects "DeadRunsModel" y_M_endsAt y_M_endsAt ∈ TB := tb_of 21 (by decide +kernel) (by decide +kernel)
theorem se_M_savedBy : Cond.selects "DeadRunsModel" y_M_savedBy y_M_savedBy ∈ TB := tb_of 22 (by decide +kernel) (by decide +kernel)
theorem se_M_faultOf : Cond.selects "DeadRunsModel" y_M_faultOf y_M_faultOf ∈ TB := tb_of 23 (by decide +kernel) (by decide +kernel)
theorem se_M_lengthAll : Cond.selects "DeadRunsModel" y_M_lengthAll y_M_lengthAll ∈ TB := tb_of 24 (by decide +kernel) (by decide +kernel)
theorem i_S : ∀ w ∈ u_ws R_S F_S 7, w ∈ TB := by
  intro w hw
  obtain ⟨k, hk, rfl⟩ := List.mem_map.mp hw
  have hk := List.mem_range.mp hk
  match k, hk with
  | 0, _ => exact ly_S_signs
  | 1, _ => exact ly_S_lengths
  | 2, _ => exact ly_S_runs
  | 3, _ => exact ly_S_places
  | 4, _ => exact ly_S_overfull
  | 5, _ => exact ly_S_lengthCode
  | 6, _ => exact ly_S_saveDead
  | k + 7, hk => exact absurd hk (by omega)
theorem i_P : ∀ w ∈ u_ws R_P F_P 2, w ∈ TB := by
  intro w hw
  obtain ⟨k, hk, rfl⟩ := List.mem_map.mp hw
  have hk := List.mem_range.mp hk
  match k, hk with
  | 0, _ => exact ly_P_codes
  | 1, _ => exact ly_P_used
  | k + 2, hk => exact absurd hk (by omega)
theorem i_D : ∀ w ∈ u_ws R_D F_D 8, w ∈ TB := by
  intro w hw
  obtain ⟨k, hk, rfl⟩ := List.mem_map.mp hw
  have hk := List.mem_range.mp hk
  match k, hk with
  | 0, _ => exact ly_D_now
  | 1, _ => exact ly_D_next
  | 2, _ => exact ly_D_aside
  | 3, _ => exact ly_D_history
  | 4, _ => exact ly_D_recorded
  | 5, _ => exact ly_D_slots
  | 6, _ => exact ly_D_slotUsed
  | 7, _ => exact ly_D_pad
  | k + 8, hk => exact absurd hk (by omega)
theorem i_M : ∀ w ∈ u_ws R_M F_M 15, w ∈ TB := by
  intro w hw
  obtain ⟨k, hk, rfl⟩ := List.mem_map.mp hw
  have hk := List.mem_range.mp hk
  match k, hk with
  | 0, _ => exact ly_M_now
  | 1, _ => exact ly_M_past
  | 2, _ => exact ly_M_pasts
  | 3, _ => exact ly_M_slots
  | 4, _ => exact ly_M_saved
  | 5, _ => exact ly_M_line
  | 6, _ => exact ly_M_other
  | 7, _ => exact ly_M_length
  | 8, _ => exact ly_M_pad
  | 9, _ => exact ly_M_typed
  | 10, _ => exact ly_M_written
  | 11, _ => exact ly_M_writtenMany
  | 12, _ => exact ly_M_signs
  | 13, _ => exact ly_M_lengths
  | 14, _ => exact ly_M_readMany
  | k + 15, hk => exact absurd hk (by omega)
end
section
/-! a second storey over the kit: ints as images of whole numbers, one bundle for the frame, one for the world -/
def iI (z : Int) : Int32 := Int32.ofInt z
theorem iI_add (a b : Int) : iI a + iI b = iI (a + b) := (Int32.ofInt_add a b).symm
theorem iI_sub (a b : Int) : iI a - iI b = iI (a - b) := (Int32.ofInt_sub a b).symm
theorem iI_mul (a b : Int) : iI a * iI b = iI (a * b) := (Int32.ofInt_mul a b).symm
theorem iI_of (x : Int32) : iI x.toInt = x := Int32.ofInt_toInt x
theorem iI_rg (x : Int32) : -2147483648 ≤ x.toInt ∧ x.toInt < 2147483648 := ⟨Int32.le_toInt x, Int32.toInt_lt x⟩
theorem iI_toInt {a : Int} (h : -2147483648 ≤ a ∧ a < 2147483648) : (iI a).toInt = a := Int32.toInt_ofInt_of_le h.1 h.2
theorem iI_eq {a b : Int} (h : (-2147483648 ≤ a ∧ a < 2147483648) ∧ (-2147483648 ≤ b ∧ b < 2147483648)) : iI a = iI b ↔ a = b := by
  rw [← Int32.toInt_inj, iI_toInt h.1, iI_toInt h.2]
theorem iI_lt {a b : Int} (h : (-2147483648 ≤ a ∧ a < 2147483648) ∧ (-2147483648 ≤ b ∧ b < 2147483648)) : iI a < iI b ↔ a < b := by
  rw [Int32.lt_iff_toInt_lt, iI_toInt h.1, iI_toInt h.2]
theorem iI_le {a b : Int} (h : (-2147483648 ≤ a ∧ a < 2147483648) ∧ (-2147483648 ≤ b ∧ b < 2147483648)) : iI a ≤ iI b ↔ a ≤ b := by
  rw [Int32.le_iff_toInt_le, iI_toInt h.1, iI_toInt h.2]
theorem iI_zero : (0 : Int32) = iI 0 := rfl
theorem iI_nat {a : Int} (h : 0 ≤ a ∧ a < 2147483648) : (iI a).toNatClampNeg = a.toNat := by
  show (iI a).toInt.toNat = _
  rw [iI_toInt (by omega)]
theorem iI_in {a : Int} {n : Nat} (h : 0 ≤ a ∧ a < n ∧ a < 2147483648) : vp_in (iI a) n := by
  intro q
  rcases q with q | q
  · rw [iI_zero, iI_lt (by omega)] at q
    omega
  · rw [iI_nat (by omega)] at q
    omega
theorem iI_div {a b : Int} (h : 0 ≤ a ∧ a < 2147483648 ∧ 0 < b ∧ b < 2147483648) : iI a / iI b = iI (a / b) := by
  show Int32.ofInt a / Int32.ofInt b = Int32.ofInt (a / b)
  rw [← Int32.ofInt_tdiv (by show (-2147483648 : Int) ≤ _; omega) (by show _ ≤ (2147483647 : Int); omega) (by show (-2147483648 : Int) ≤ _; omega) (by show _ ≤ (2147483647 : Int); omega), Int.tdiv_eq_ediv_of_nonneg h.1]
theorem iI_mod {a b : Int} (h : 0 ≤ a ∧ a < 2147483648 ∧ 0 < b ∧ b < 2147483648) : iI a % iI b = iI (a % b) := by
  show Int32.ofInt a % Int32.ofInt b = Int32.ofInt (a % b)
  rw [← Int32.ofInt_tmod (by show (-2147483648 : Int) ≤ _; omega) (by show _ ≤ (2147483647 : Int); omega) (by show (-2147483648 : Int) ≤ _; omega) (by show _ ≤ (2147483647 : Int); omega), Int.tmod_eq_emod_of_nonneg h.1]
theorem iI_b {n : Int} (h : -128 ≤ n ∧ n < 128) : (Int8.ofInt n).toInt32 = iI n := by
  apply Int32.toInt_inj.mp
  rw [iI_toInt (by omega), Int8.toInt_toInt32, Int8.toInt_ofInt_of_le (by omega) (by omega)]
theorem iI_s {n : Int} (h : -32768 ≤ n ∧ n < 32768) : (Int16.ofInt n).toInt32 = iI n := by
  apply Int32.toInt_inj.mp
  rw [iI_toInt (by omega), Int16.toInt_toInt32, Int16.toInt_ofInt_of_le (by omega) (by omega)]
/-- an int array of n places with contents f; a row of a function with one place changed -/
abbrev aI (c : ClassId) (n : Nat) (f : Int → Int) : va_E := .inl (c, n, .inl (fun j : Nat => iI (f (j : Int))))
abbrev aR (c : ClassId) (n : Nat) (f : Int → Nat) : va_E := .inl (c, n, .inr (.inr (.inr (.inr (fun j : Nat => some (f (j : Int)))))))
def up {α : Type} (f : Int → α) (k : Int) (v : α) : Int → α := fun j => if j = k then v else f j
theorem up_eq {α : Type} (f : Int → α) (k : Int) (v : α) : up f k v k = v := by simp [up]
theorem up_ne {α : Type} (f : Int → α) {k j : Int} (v : α) (h : j ≠ k) : up f k v j = f j := by simp [up, h]
abbrev Ev : Type := Program × Launch × Env × Room × State × MethodId × Array Value × List Frame × Method × Code × (State → Prop) × (Nat → Prop) × va_G × List (ClassId × FieldType)
def GG (X : Ev) (k n : Nat) (H : Heap) (locs : List Loc) (pc : Nat) (ls : Array Slot) (st : List Value) : Prop := match X with
  | (p, l, e, R, s, m, args, below, meth, c, Q, _, _, _) => W p l e R s m args below meth c H locs k n Q (F0 m pc ls st)
def Cx (cc : ByteArray) (own : String) (nL : Nat) (X : Ev) : Prop := match X with
  | (p, _, _, _, s, m, args, _, _, c, _, _, _, _) => p.tables.exec = Jvm.exec ∧ c.code = cc ∧ c.maxLocals = nL ∧ s.vm.findClass own = some m.cls ∧ ∀ w ∈ TB, w.before args s = true
def nestW : Cond := Cond.methodLinkNest "DeadRuns$Pad" 42 y_D_isWithin "DeadRuns"
def KK (G : va_G) (tys : List (ClassId × FieldType)) (U : State) : Prop := va_K G classes tys U ∧ va_Nw nestW U
theorem KK.warm {G : va_G} {tys : List (ClassId × FieldType)} {s U : State} (hW : s.WarmedH U.vm) (h : KK G tys s) : KK G tys U := ⟨va_K.moved hW.alike h.1, va_Nw.warmM hW h.2⟩
def Wd (X : Ev) (ws : va_W) (H : Heap) (locs : List Loc) : Prop := match X with
  | (_, _, _, _, s, _, _, _, _, _, _, A, G, tys) => KK G tys s ∧ va_P G classes ws H ∧ va_D A ws ∧ va_S A s.heap H locs ∧ ∀ q, s.heap.size ≤ q → A q
def Xtys (X : Ev) : List (ClassId × FieldType) := match X with
  | (_, _, _, _, _, _, _, _, _, _, _, _, _, tys) => tys
def XG (X : Ev) : va_G := match X with
  | (_, _, _, _, _, _, _, _, _, _, _, _, G, _) => G
def Xl (X : Ev) : Launch := match X with
  | (_, l, _, _, _, _, _, _, _, _, _, _, _, _) => l
def XR (X : Ev) : Room := match X with
  | (_, _, _, R, _, _, _, _, _, _, _, _, _, _) => R
theorem Wd.sub {X : Ev} {ws ws' : va_W} {H : Heap} {locs : List Loc} (w : Wd X ws H locs) (is : List Nat) (hs : is.map (fun i => ws[i]?) = ws'.map some) (hn : va_nd is = true) : Wd X ws' H locs := by
  obtain ⟨p, l, e, R, s, m, args, below, meth, c, Q, A, G, tys⟩ := X
  obtain ⟨hK, hP, hD, hS, hA⟩ := w
  refine ⟨hK, hP.sub is ?_, hD.sub is hn hs, hS, hA⟩
  have h1 : ∀ (l : List Nat) (w2 : va_W), l.map (fun i => ws[i]?) = w2.map some → l.filterMap (fun i => ws[i]?) = w2 := by
    intro l
    induction l with
    | nil => intro w2 h; cases w2 with
      | nil => rfl
      | cons a b => simp at h
    | cons a b ih => intro w2 h; cases w2 with
      | nil => simp at h
      | cons x y =>
        simp only [List.map_cons, List.cons.injEq] at h
        rw [List.filterMap_cons, h.1]
        simp [ih y h.2]
  exact h1 is ws' hs
section R2
variable {X : Ev} {k n : Nat} {H : Heap} {locs : List Loc} {pc nL : Nat} {ls : Array Slot} {rest : List Value} {cc : ByteArray} {own : String}
theorem r_iconst (C : Cx cc own nL X) {z : Int} (d : decode cc pc = .ok (.iconst z, 1)) (kk : GG X k n H locs (pc + 1) ls (.int (iI z) :: rest)) : GG X k n H locs pc ls rest := by
  obtain ⟨p, l, e, R, s, m, args, below, meth, c, Q, A, G, tys⟩ := X
  exact lv_iconst C.1 C.2.1 d rfl kk
theorem r_bipush (C : Cx cc own nL X) {z : Int} (d : decode cc pc = .ok (.bipush z, 2)) (h : -128 ≤ z ∧ z < 128) (kk : GG X k n H locs (pc + 2) ls (.int (iI z) :: rest)) : GG X k n H locs pc ls rest := by
  obtain ⟨p, l, e, R, s, m, args, below, meth, c, Q, A, G, tys⟩ := X
  exact lv_bipush C.1 C.2.1 d (iI_b h) kk
theorem r_sipush (C : Cx cc own nL X) {z : Int} (d : decode cc pc = .ok (.sipush z, 3)) (h : -32768 ≤ z ∧ z < 32768) (kk : GG X k n H locs (pc + 3) ls (.int (iI z) :: rest)) : GG X k n H locs pc ls rest := by
  obtain ⟨p, l, e, R, s, m, args, below, meth, c, Q, A, G, tys⟩ := X
  exact lv_sipush C.1 C.2.1 d (iI_s h) kk
theorem r_iload_n (C : Cx cc own nL X) {q : Fin 4} {i : Nat} {x : Int32} (d : decode cc pc = .ok (.iload_n q, 1)) (hi : (q : Nat) = i) (hl : ls[i]? = some (.val (.int x))) (kk : GG X k n H locs (pc + 1) ls (.int x :: rest)) : GG X k n H locs pc ls rest := by
  obtain ⟨p, l, e, R, s, m, args, below, meth, c, Q, A, G, tys⟩ := X
  exact lv_iload_n C.1 C.2.1 d hi hl kk
theorem r_iload (C : Cx cc own nL X) {i : Nat} {x : Int32} (d : decode cc pc = .ok (.iload i, 2)) (hl : ls[i]? = some (.val (.int x))) (kk : GG X k n H locs (pc + 2) ls (.int x :: rest)) : GG X k n H locs pc ls rest := by
  obtain ⟨p, l, e, R, s, m, args, below, meth, c, Q, A, G, tys⟩ := X
  exact lv_iload C.1 C.2.1 d hl kk
theorem r_aload_n (C : Cx cc own nL X) {q : Fin 4} {i : Nat} {x : Nat} (d : decode cc pc = .ok (.aload_n q, 1)) (hi : (q : Nat) = i) (hl : ls[i]? = some (.val (.ref x))) (kk : GG X k n H locs (pc + 1) ls (.ref x :: rest)) : GG X k n H locs pc ls rest := by
  obtain ⟨p, l, e, R, s, m, args, below, meth, c, Q, A, G, tys⟩ := X
  exact lv_aload_n C.1 C.2.1 d hi hl kk
theorem r_istore_n (C : Cx cc own nL X) {q : Fin 4} {i : Nat} {x : Int32} {lv lv' : List (Nat × Value)} (d : decode cc pc = .ok (.istore_n q, 1)) (hi : (q : Nat) = i) (h : lv_has ls nL lv) (hn : i < nL) (hl : (i, Value.int x) :: lv.filter (fun q => !(q.1 == i) && !(q.1 + 1 == i && q.2.category == 2)) = lv')
    (kk : ∀ ls' : Array Slot, lv_has ls' nL lv' → GG X k n H locs (pc + 1) ls' rest) : GG X k n H locs pc ls (.int x :: rest) := by
  obtain ⟨p, l, e, R, s, m, args, below, meth, c, Q, A, G, tys⟩ := X
  exact lv_istore_n C.1 C.2.1 d hi h hn hl kk
theorem r_istore (C : Cx cc own nL X) {i : Nat} {x : Int32} {lv lv' : List (Nat × Value)} (d : decode cc pc = .ok (.istore i, 2)) (h : lv_has ls nL lv) (hn : i < nL) (hl : (i, Value.int x) :: lv.filter (fun q => !(q.1 == i) && !(q.1 + 1 == i && q.2.category == 2)) = lv')
    (kk : ∀ ls' : Array Slot, lv_has ls' nL lv' → GG X k n H locs (pc + 2) ls' rest) : GG X k n H locs pc ls (.int x :: rest) := by
  obtain ⟨p, l, e, R, s, m, args, below, meth, c, Q, A, G, tys⟩ := X
  exact lv_istore C.1 C.2.1 d h hn hl kk
theorem r_astore_n (C : Cx cc own nL X) {q : Fin 4} {i : Nat} {x : Nat} {lv lv' : List (Nat × Value)} (d : decode cc pc = .ok (.astore_n q, 1)) (hi : (q : Nat) = i) (h : lv_has ls nL lv) (hn : i < nL) (hl : (i, Value.ref x) :: lv.filter (fun q => !(q.1 == i) && !(q.1 + 1 == i && q.2.category == 2)) = lv')
    (kk : ∀ ls' : Array Slot, lv_has ls' nL lv' → GG X k n H locs (pc + 1) ls' rest) : GG X k n H locs pc ls (.ref x :: rest) := by
  obtain ⟨p, l, e, R, s, m, args, below, meth, c, Q, A, G, tys⟩ := X
  exact lv_astore_n C.1 C.2.1 d hi h hn hl kk
theorem r_iinc (C : Cx cc own nL X) {i j : Nat} {z a : Int} {lv lv' : List (Nat × Value)} (d : decode cc pc = .ok (.iinc i z, 3)) (h : lv_has ls nL lv) (hk : lv[j]? = some (i, .int (iI a))) (hn : i < nL) (hl : (i, Value.int (iI (a + z))) :: lv.filter (fun q => !(q.1 == i) && !(q.1 + 1 == i && q.2.category == 2)) = lv')
    (kk : ∀ ls' : Array Slot, lv_has ls' nL lv' → GG X k n H locs (pc + 3) ls' rest) : GG X k n H locs pc ls rest := by
  obtain ⟨p, l, e, R, s, m, args, below, meth, c, Q, A, G, tys⟩ := X
  exact lv_iinc C.1 C.2.1 d h hk (iI_add a z) hn hl kk
theorem r_iadd (C : Cx cc own nL X) {a b : Int} (d : decode cc pc = .ok (.iadd, 1)) (kk : GG X k n H locs (pc + 1) ls (.int (iI (a + b)) :: rest)) : GG X k n H locs pc ls (.int (iI b) :: .int (iI a) :: rest) := by
  obtain ⟨p, l, e, R, s, m, args, below, meth, c, Q, A, G, tys⟩ := X
  refine lv_iadd C.1 C.2.1 d ?_
  rw [iI_add]
  exact kk
theorem r_isub (C : Cx cc own nL X) {a b : Int} (d : decode cc pc = .ok (.isub, 1)) (kk : GG X k n H locs (pc + 1) ls (.int (iI (a - b)) :: rest)) : GG X k n H locs pc ls (.int (iI b) :: .int (iI a) :: rest) := by
  obtain ⟨p, l, e, R, s, m, args, below, meth, c, Q, A, G, tys⟩ := X
  refine lv_isub C.1 C.2.1 d ?_
  rw [iI_sub]
  exact kk
theorem r_imul (C : Cx cc own nL X) {a b : Int} (d : decode cc pc = .ok (.imul, 1)) (kk : GG X k n H locs (pc + 1) ls (.int (iI (a * b)) :: rest)) : GG X k n H locs pc ls (.int (iI b) :: .int (iI a) :: rest) := by
  obtain ⟨p, l, e, R, s, m, args, below, meth, c, Q, A, G, tys⟩ := X
  refine lv_imul C.1 C.2.1 d ?_
  rw [iI_mul]
  exact kk
theorem r_idiv (C : Cx cc own nL X) {a b : Int} (d : decode cc pc = .ok (.idiv, 1)) (h : 0 ≤ a ∧ a < 2147483648 ∧ 0 < b ∧ b < 2147483648) (kk : GG X k n H locs (pc + 1) ls (.int (iI (a / b)) :: rest)) : GG X k n H locs pc ls (.int (iI b) :: .int (iI a) :: rest) := by
  obtain ⟨p, l, e, R, s, m, args, below, meth, c, Q, A, G, tys⟩ := X
  refine lv_idiv C.1 C.2.1 d (by rw [iI_zero, iI_eq (by omega)]; omega) ?_
  rw [iI_div h]
  exact kk
theorem r_irem (C : Cx cc own nL X) {a b : Int} (d : decode cc pc = .ok (.irem, 1)) (h : 0 ≤ a ∧ a < 2147483648 ∧ 0 < b ∧ b < 2147483648) (kk : GG X k n H locs (pc + 1) ls (.int (iI (a % b)) :: rest)) : GG X k n H locs pc ls (.int (iI b) :: .int (iI a) :: rest) := by
  obtain ⟨p, l, e, R, s, m, args, below, meth, c, Q, A, G, tys⟩ := X
  refine lv_irem C.1 C.2.1 d (by rw [iI_zero, iI_eq (by omega)]; omega) ?_
  rw [iI_div h, iI_mul, iI_sub, show a - a / b * b = a % b by rw [Int.emod_def, Int.mul_comm]]
  exact kk
theorem r_ishr (C : Cx cc own nL X) {x y : Int32} (d : decode cc pc = .ok (.ishr, 1)) (kk : GG X k n H locs (pc + 1) ls (.int (x >>> (y &&& 31)) :: rest)) : GG X k n H locs pc ls (.int y :: .int x :: rest) := by
  obtain ⟨p, l, e, R, s, m, args, below, meth, c, Q, A, G, tys⟩ := X
  exact lv_ishr C.1 C.2.1 d kk
theorem r_ishl (C : Cx cc own nL X) {x y : Int32} (d : decode cc pc = .ok (.ishl, 1)) (kk : GG X k n H locs (pc + 1) ls (.int (x <<< (y &&& 31)) :: rest)) : GG X k n H locs pc ls (.int y :: .int x :: rest) := by
  obtain ⟨p, l, e, R, s, m, args, below, meth, c, Q, A, G, tys⟩ := X
  exact lv_ishl C.1 C.2.1 d kk
theorem r_iand (C : Cx cc own nL X) {x y : Int32} (d : decode cc pc = .ok (.iand, 1)) (kk : GG X k n H locs (pc + 1) ls (.int (x &&& y) :: rest)) : GG X k n H locs pc ls (.int y :: .int x :: rest) := by
  obtain ⟨p, l, e, R, s, m, args, below, meth, c, Q, A, G, tys⟩ := X
  exact lv_iand C.1 C.2.1 d kk
theorem r_ior (C : Cx cc own nL X) {x y : Int32} (d : decode cc pc = .ok (.ior, 1)) (kk : GG X k n H locs (pc + 1) ls (.int (x ||| y) :: rest)) : GG X k n H locs pc ls (.int y :: .int x :: rest) := by
  obtain ⟨p, l, e, R, s, m, args, below, meth, c, Q, A, G, tys⟩ := X
  exact lv_ior C.1 C.2.1 d kk
/-- another word for the int on top -/
theorem r_top {x y : Int32} (h : x = y) (kk : GG X k n H locs pc ls (.int y :: rest)) : GG X k n H locs pc ls (.int x :: rest) := h ▸ kk
theorem r_goto (C : Cx cc own nL X) {off : Int} {tgt : Nat} (d : decode cc pc = .ok (.goto off, 3)) (ht : (pc : Int) + off = (tgt : Int)) (kk : GG X k n H locs tgt ls rest) : GG X k n H locs pc ls rest := by
  obtain ⟨p, l, e, R, s, m, args, below, meth, c, Q, A, G, tys⟩ := X
  exact lv_goto C.1 C.2.1 d ht kk
theorem r_dup (C : Cx cc own nL X) {v : Value} (d : decode cc pc = .ok (.dup, 1)) (hv : v.category = 1) (kk : GG X k n H locs (pc + 1) ls (v :: v :: rest)) : GG X k n H locs pc ls (v :: rest) := by
  obtain ⟨p, l, e, R, s, m, args, below, meth, c, Q, A, G, tys⟩ := X
  exact lv_dup C.1 C.2.1 d hv kk
theorem r_dup2 (C : Cx cc own nL X) {v u : Value} (d : decode cc pc = .ok (.dup2, 1)) (hv : v.category = 1) (hu : u.category = 1) (kk : GG X k n H locs (pc + 1) ls (v :: u :: v :: u :: rest)) : GG X k n H locs pc ls (v :: u :: rest) := by
  obtain ⟨p, l, e, R, s, m, args, below, meth, c, Q, A, G, tys⟩ := X
  exact lv_dup2_11 C.1 C.2.1 d hv hu kk
theorem r_get (C : Cx cc own nL X) {ws : va_W} (w : Wd X ws H locs) {cn ref : String} {T : u_T} {N ci index a : Nat} (hin : ∀ w ∈ u_ws cn T N, w ∈ TB) (hc : classes[ci]? = some (cn, T, N)) (q0 : Nat) {fs : List Value} (he : ws[q0]? = some (a, .inr (ci, fs))) (j : Nat) (hk : j < N) (hl : Cond.fieldLink own index ref (T j).2.1 (T j).2.2.1 ∈ TB) (hr : ref = (T j).1) {v : Value} (hv : fs[j]? = some v) (d : decode cc pc = .ok (.getfield index, 3))
    (kk : GG X k n H locs (pc + 3) ls (v :: rest)) : GG X k n H locs pc ls (.ref a :: rest) := by
  obtain ⟨p, l, e, R, s, m, args, below, meth, c, Q, A, G, tys⟩ := X
  exact va_get C.1 C.2.1 C.2.2.2.2 hin C.2.2.2.1 w.1.1 w.2.1 q0 he hc j hk (C.2.2.2.2 _ hl) (fun _ h => by rw [hr]; exact h) hv d kk
theorem r_put (C : Cx cc own nL X) {ws ws' : va_W} (w : Wd X ws H locs) {cn ref : String} {T : u_T} {N ci index a : Nat} (hin : ∀ w ∈ u_ws cn T N, w ∈ TB) (ty0 : Nat → FieldType) (hty : ∀ k, k < N → parseFieldDescriptor (T k).2.2.1 = some (ty0 k)) (hnm : ∀ a, a < N → ∀ b, b < N → a ≠ b → (T a).2.1 ≠ (T b).2.1) (hc : classes[ci]? = some (cn, T, N)) (q0 : Nat) {fs : List Value} (he : ws[q0]? = some (a, .inr (ci, fs))) (j : Nat) (hk : j < N) (hl : Cond.fieldLink own index ref (T j).2.1 (T j).2.2.1 ∈ TB) (hr : ref = (T j).1) (hfin : (T j).2.2.2 = false) {v : Value} (hn : narrow (ty0 j) v = v) (hfit : fits (ty0 j) v = true) (hj : j < fs.length) (hw : ws.set q0 (a, .inr (ci, fs.set j v)) = ws') (d : decode cc pc = .ok (.putfield index, 3))
    (kk : ∀ (H1 : Heap) (locs1 : List Loc), Wd X ws' H1 locs1 → GG X k n H1 locs1 (pc + 3) ls rest) : GG X k n H locs pc ls (v :: .ref a :: rest) := by
  obtain ⟨p, l, e, R, s, m, args, below, meth, c, Q, A, G, tys⟩ := X
  subst hw
  exact va_put C.1 C.2.1 C.2.2.2.2 hin ty0 hty hnm C.2.2.2.1 w.1.1 w.2.1 w.2.2.1 w.2.2.2.1 q0 he hc j hk (C.2.2.2.2 _ hl) (fun _ h => by rw [hr]; exact h) hfin (hty j hk) hn hfit hj d (fun H1 locs1 hP hD hS => kk H1 locs1 ⟨w.1, hP, hD, hS, w.2.2.2.2⟩)
theorem r_iald (C : Cx cc own nL X) {ws : va_W} (w : Wd X ws H locs) (t0 : Nat) (q0 : Nat) {cA : ClassId} {N a : Nat} {f : Int → Int} (ha : ws[q0]? = some (a, aI cA N f)) (ht : (Xtys X)[t0]? = some (cA, .int)) {i : Int} (hi : 0 ≤ i ∧ i < N ∧ i < 2147483648) (d : decode cc pc = .ok (.iaload, 1))
    (kk : GG X k n H locs (pc + 1) ls (.int (iI (f i)) :: rest)) : GG X k n H locs pc ls (.int (iI i) :: .ref a :: rest) := by
  obtain ⟨p, l, e, R, s, m, args, below, meth, c, Q, A, G, tys⟩ := X
  refine va_iald C.1 C.2.1 w.1.1 w.2.1 q0 t0 ha ht (iI_in hi) d ?_
  rw [iI_nat (by omega)]
  show W p l e R s m args below meth c H locs k n Q (F0 m (pc + 1) ls (.int (iI (f ((i.toNat : Nat) : Int))) :: rest))
  rw [Int.toNat_of_nonneg hi.1]
  exact kk
theorem r_iast (C : Cx cc own nL X) {ws ws' : va_W} (w : Wd X ws H locs) (t0 : Nat) (q0 : Nat) {cA : ClassId} {N a : Nat} {f : Int → Int} (ha : ws[q0]? = some (a, aI cA N f)) (ht : (Xtys X)[t0]? = some (cA, .int)) {i v : Int} (hi : 0 ≤ i ∧ i < N ∧ i < 2147483648) (hw : ws.set q0 (a, aI cA N (up f i v)) = ws') (d : decode cc pc = .ok (.iastore, 1))
    (kk : ∀ (H1 : Heap) (locs1 : List Loc), Wd X ws' H1 locs1 → GG X k n H1 locs1 (pc + 1) ls rest) : GG X k n H locs pc ls (.int (iI v) :: .int (iI i) :: .ref a :: rest) := by
  obtain ⟨p, l, e, R, s, m, args, below, meth, c, Q, A, G, tys⟩ := X
  subst hw
  have hf : upd (fun j : Nat => iI (f (j : Int))) (iI i).toNatClampNeg (iI v) = fun j : Nat => iI (up f i v (j : Int)) := by
    funext j
    rw [iI_nat (by omega)]
    unfold upd up
    by_cases h : j = i.toNat
    · rw [if_pos h, if_pos (by omega)]
    · rw [if_neg h, if_neg (by omega)]
  refine va_iast C.1 C.2.1 w.1.1 w.2.1 w.2.2.1 w.2.2.2.1 q0 t0 ha ht (iI_in hi) d (fun H1 locs1 hP hD hS => ?_)
  rw [hf] at hP hD
  exact kk H1 locs1 ⟨w.1, hP, hD, hS, w.2.2.2.2⟩
theorem r_aald (C : Cx cc own nL X) {ws : va_W} (w : Wd X ws H locs) (t0 : Nat) (q0 : Nat) {cA : ClassId} {N a : Nat} {cn : String} {f : Int → Nat} (ha : ws[q0]? = some (a, aR cA N f)) (ht : (Xtys X)[t0]? = some (cA, .object cn)) {i : Int} (hi : 0 ≤ i ∧ i < N ∧ i < 2147483648) (d : decode cc pc = .ok (.aaload, 1))
    (kk : GG X k n H locs (pc + 1) ls (.ref (f i) :: rest)) : GG X k n H locs pc ls (.int (iI i) :: .ref a :: rest) := by
  obtain ⟨p, l, e, R, s, m, args, below, meth, c, Q, A, G, tys⟩ := X
  refine va_aldq C.1 C.2.1 w.1.1 w.2.1 q0 t0 ha ht (iI_in hi) d ?_
  rw [iI_nat (by omega)]
  show W p l e R s m args below meth c H locs k n Q (F0 m (pc + 1) ls (.ref (f ((i.toNat : Nat) : Int)) :: rest))
  rw [Int.toNat_of_nonneg hi.1]
  exact kk
theorem r_aast (C : Cx cc own nL X) {ws ws' : va_W} (w : Wd X ws H locs) (t0 : Nat) (q0 qk ci : Nat) {r : vw_C} {cA : ClassId} {N a v : Nat} {vs : List Value} {f : Int → Nat} (ha : ws[q0]? = some (a, aR cA N f)) (ht : (Xtys X)[t0]? = some (cA, .object r.1)) (hv : ws[qk]? = some (v, .inr (ci, vs))) (hc : classes[ci]? = some r) {i : Int} (hi : 0 ≤ i ∧ i < N ∧ i < 2147483648) (hw : ws.set q0 (a, aR cA N (up f i v)) = ws') (d : decode cc pc = .ok (.aastore, 1))
    (kk : ∀ (H1 : Heap) (locs1 : List Loc), Wd X ws' H1 locs1 → GG X k n H1 locs1 (pc + 1) ls rest) : GG X k n H locs pc ls (.ref v :: .int (iI i) :: .ref a :: rest) := by
  obtain ⟨p, l, e, R, s, m, args, below, meth, c, Q, A, G, tys⟩ := X
  subst hw
  have hf : va_up (fun j : Nat => some (f (j : Int))) (iI i).toNatClampNeg (some v) = fun j : Nat => some (up f i v (j : Int)) := by
    funext j
    rw [iI_nat (by omega)]
    unfold va_up up
    by_cases h : j = i.toNat
    · rw [if_pos h, if_pos (by omega)]
    · rw [if_neg h, if_neg (by omega)]
  refine va_astq C.1 C.2.1 w.1.1 w.2.1 w.2.2.1 w.2.2.2.1 q0 t0 qk ci ha ht hv hc (iI_in hi) d (fun H1 locs1 hP hD hS => ?_)
  rw [hf] at hP hD
  exact kk H1 locs1 ⟨w.1, hP, hD, hS, w.2.2.2.2⟩
theorem r_zald (C : Cx cc own nL X) {ws : va_W} (w : Wd X ws H locs) (t0 : Nat) (q0 : Nat) {cA : ClassId} {N a : Nat} {f : Int → Int} (ha : ws[q0]? = some (a, aI cA N f)) (ht : (Xtys X)[t0]? = some (cA, .boolean)) {i : Int} (hi : 0 ≤ i ∧ i < N ∧ i < 2147483648) (d : decode cc pc = .ok (.baload, 1))
    (kk : GG X k n H locs (pc + 1) ls (.int (iI (f i)) :: rest)) : GG X k n H locs pc ls (.int (iI i) :: .ref a :: rest) := by
  obtain ⟨p, l, e, R, s, m, args, below, meth, c, Q, A, G, tys⟩ := X
  refine va_zald C.1 C.2.1 w.1.1 w.2.1 q0 t0 ha ht (iI_in hi) d ?_
  rw [iI_nat (by omega)]
  show W p l e R s m args below meth c H locs k n Q (F0 m (pc + 1) ls (.int (iI (f ((i.toNat : Nat) : Int))) :: rest))
  rw [Int.toNat_of_nonneg hi.1]
  exact kk
theorem r_zast (C : Cx cc own nL X) {ws ws' : va_W} (w : Wd X ws H locs) (t0 : Nat) (q0 : Nat) {cA : ClassId} {N a : Nat} {f : Int → Int} (ha : ws[q0]? = some (a, aI cA N f)) (ht : (Xtys X)[t0]? = some (cA, .boolean)) {i : Int} (hi : 0 ≤ i ∧ i < N ∧ i < 2147483648) (hw : ws.set q0 (a, aI cA N (up f i 1)) = ws') (d : decode cc pc = .ok (.bastore, 1))
    (kk : ∀ (H1 : Heap) (locs1 : List Loc), Wd X ws' H1 locs1 → GG X k n H1 locs1 (pc + 1) ls rest) : GG X k n H locs pc ls (.int (iI 1) :: .int (iI i) :: .ref a :: rest) := by
  obtain ⟨p, l, e, R, s, m, args, below, meth, c, Q, A, G, tys⟩ := X
  subst hw
  have hf : upd (fun j : Nat => iI (f (j : Int))) (iI i).toNatClampNeg (vp_nar .boolean (iI 1)) = fun j : Nat => iI (up f i 1 (j : Int)) := by
    funext j
    rw [iI_nat (by omega), show vp_nar .boolean (iI 1) = iI 1 by decide]
    unfold upd up
    by_cases h : j = i.toNat
    · rw [if_pos h, if_pos (by omega)]
    · rw [if_neg h, if_neg (by omega)]
  refine va_zast C.1 C.2.1 w.1.1 w.2.1 w.2.2.1 w.2.2.2.1 q0 t0 ha ht (iI_in hi) d (fun H1 locs1 hP hD hS => ?_)
  rw [hf] at hP hD
  exact kk H1 locs1 ⟨w.1, hP, hD, hS, w.2.2.2.2⟩
end R2
section R3
variable {X : Ev} {k n : Nat} {H : Heap} {locs : List Loc} {pc nL : Nat} {ls : Array Slot} {rest : List Value} {cc : ByteArray} {own : String}
theorem r_icmp_eq (C : Cx cc own nL X) {a b : Int} {off : Int} {tgt : Nat} (h : (-2147483648 ≤ a ∧ a < 2147483648) ∧ (-2147483648 ≤ b ∧ b < 2147483648)) (d : decode cc pc = .ok (.if_icmp .eq off, 3)) (ht : (pc : Int) + off = (tgt : Int)) (kt : a = b → GG X k n H locs tgt ls rest) (kf : ¬ a = b → GG X k n H locs (pc + 3) ls rest) : GG X k n H locs pc ls (.int (iI b) :: .int (iI a) :: rest) := by
  obtain ⟨p, l, e, R, s, m, args, below, meth, c, Q, A, G, tys⟩ := X
  refine lv_icmp_eq C.1 C.2.1 d ht (fun q => kt ?_) (fun q => kf ?_)
  · first | (rw [iI_eq h] at q) | (rw [iI_lt h] at q) | (rw [iI_le h] at q) | (rw [iI_lt ⟨h.2, h.1⟩] at q) | (rw [iI_le ⟨h.2, h.1⟩] at q) | (simp only [ge_iff_le, gt_iff_lt, iI_lt h, iI_le h, iI_lt ⟨h.2, h.1⟩, iI_le ⟨h.2, h.1⟩] at q)
    omega
  · first | (rw [iI_eq h] at q) | (rw [iI_lt h] at q) | (rw [iI_le h] at q) | (rw [iI_lt ⟨h.2, h.1⟩] at q) | (rw [iI_le ⟨h.2, h.1⟩] at q) | (simp only [ge_iff_le, gt_iff_lt, iI_lt h, iI_le h, iI_lt ⟨h.2, h.1⟩, iI_le ⟨h.2, h.1⟩] at q)
    omega
theorem r_if_eq (C : Cx cc own nL X) {a : Int} {off : Int} {tgt : Nat} (h : (-2147483648 ≤ a ∧ a < 2147483648)) (d : decode cc pc = .ok (.ifCond .eq off, 3)) (ht : (pc : Int) + off = (tgt : Int)) (kt : a = 0 → GG X k n H locs tgt ls rest) (kf : ¬ a = 0 → GG X k n H locs (pc + 3) ls rest) : GG X k n H locs pc ls (.int (iI a) :: rest) := by
  obtain ⟨p, l, e, R, s, m, args, below, meth, c, Q, A, G, tys⟩ := X
  refine lv_if_eq C.1 C.2.1 d ht (fun q => kt ?_) (fun q => kf ?_)
  · rw [iI_zero] at q; first | (rw [iI_eq (⟨h, by omega, by omega⟩ : (-2147483648 ≤ a ∧ a < 2147483648) ∧ (-2147483648 ≤ (0:Int) ∧ (0:Int) < 2147483648))] at q) | (rw [iI_lt (⟨h, by omega, by omega⟩ : (-2147483648 ≤ a ∧ a < 2147483648) ∧ (-2147483648 ≤ (0:Int) ∧ (0:Int) < 2147483648))] at q) | (rw [iI_le (⟨h, by omega, by omega⟩ : (-2147483648 ≤ a ∧ a < 2147483648) ∧ (-2147483648 ≤ (0:Int) ∧ (0:Int) < 2147483648))] at q) | (rw [iI_lt (⟨⟨by omega, by omega⟩, h⟩ : (-2147483648 ≤ (0:Int) ∧ (0:Int) < 2147483648) ∧ (-2147483648 ≤ a ∧ a < 2147483648))] at q) | (rw [iI_le (⟨⟨by omega, by omega⟩, h⟩ : (-2147483648 ≤ (0:Int) ∧ (0:Int) < 2147483648) ∧ (-2147483648 ≤ a ∧ a < 2147483648))] at q) | (simp only [ge_iff_le, gt_iff_lt, iI_lt (⟨h, by omega, by omega⟩ : (-2147483648 ≤ a ∧ a < 2147483648) ∧ (-2147483648 ≤ (0:Int) ∧ (0:Int) < 2147483648)), iI_le (⟨h, by omega, by omega⟩ : (-2147483648 ≤ a ∧ a < 2147483648) ∧ (-2147483648 ≤ (0:Int) ∧ (0:Int) < 2147483648)), iI_lt (⟨⟨by omega, by omega⟩, h⟩ : (-2147483648 ≤ (0:Int) ∧ (0:Int) < 2147483648) ∧ (-2147483648 ≤ a ∧ a < 2147483648)), iI_le (⟨⟨by omega, by omega⟩, h⟩ : (-2147483648 ≤ (0:Int) ∧ (0:Int) < 2147483648) ∧ (-2147483648 ≤ a ∧ a < 2147483648))] at q)
    omega
  · rw [iI_zero] at q; first | (rw [iI_eq (⟨h, by omega, by omega⟩ : (-2147483648 ≤ a ∧ a < 2147483648) ∧ (-2147483648 ≤ (0:Int) ∧ (0:Int) < 2147483648))] at q) | (rw [iI_lt (⟨h, by omega, by omega⟩ : (-2147483648 ≤ a ∧ a < 2147483648) ∧ (-2147483648 ≤ (0:Int) ∧ (0:Int) < 2147483648))] at q) | (rw [iI_le (⟨h, by omega, by omega⟩ : (-2147483648 ≤ a ∧ a < 2147483648) ∧ (-2147483648 ≤ (0:Int) ∧ (0:Int) < 2147483648))] at q) | (rw [iI_lt (⟨⟨by omega, by omega⟩, h⟩ : (-2147483648 ≤ (0:Int) ∧ (0:Int) < 2147483648) ∧ (-2147483648 ≤ a ∧ a < 2147483648))] at q) | (rw [iI_le (⟨⟨by omega, by omega⟩, h⟩ : (-2147483648 ≤ (0:Int) ∧ (0:Int) < 2147483648) ∧ (-2147483648 ≤ a ∧ a < 2147483648))] at q) | (simp only [ge_iff_le, gt_iff_lt, iI_lt (⟨h, by omega, by omega⟩ : (-2147483648 ≤ a ∧ a < 2147483648) ∧ (-2147483648 ≤ (0:Int) ∧ (0:Int) < 2147483648)), iI_le (⟨h, by omega, by omega⟩ : (-2147483648 ≤ a ∧ a < 2147483648) ∧ (-2147483648 ≤ (0:Int) ∧ (0:Int) < 2147483648)), iI_lt (⟨⟨by omega, by omega⟩, h⟩ : (-2147483648 ≤ (0:Int) ∧ (0:Int) < 2147483648) ∧ (-2147483648 ≤ a ∧ a < 2147483648)), iI_le (⟨⟨by omega, by omega⟩, h⟩ : (-2147483648 ≤ (0:Int) ∧ (0:Int) < 2147483648) ∧ (-2147483648 ≤ a ∧ a < 2147483648))] at q)
    omega
theorem r_icmp_ne (C : Cx cc own nL X) {a b : Int} {off : Int} {tgt : Nat} (h : (-2147483648 ≤ a ∧ a < 2147483648) ∧ (-2147483648 ≤ b ∧ b < 2147483648)) (d : decode cc pc = .ok (.if_icmp .ne off, 3)) (ht : (pc : Int) + off = (tgt : Int)) (kt : ¬ a = b → GG X k n H locs tgt ls rest) (kf : a = b → GG X k n H locs (pc + 3) ls rest) : GG X k n H locs pc ls (.int (iI b) :: .int (iI a) :: rest) := by
  obtain ⟨p, l, e, R, s, m, args, below, meth, c, Q, A, G, tys⟩ := X
  refine lv_icmp_ne C.1 C.2.1 d ht (fun q => kt ?_) (fun q => kf ?_)
  · first | (rw [iI_eq h] at q) | (rw [iI_lt h] at q) | (rw [iI_le h] at q) | (rw [iI_lt ⟨h.2, h.1⟩] at q) | (rw [iI_le ⟨h.2, h.1⟩] at q) | (simp only [ge_iff_le, gt_iff_lt, iI_lt h, iI_le h, iI_lt ⟨h.2, h.1⟩, iI_le ⟨h.2, h.1⟩] at q)
    omega
  · first | (rw [iI_eq h] at q) | (rw [iI_lt h] at q) | (rw [iI_le h] at q) | (rw [iI_lt ⟨h.2, h.1⟩] at q) | (rw [iI_le ⟨h.2, h.1⟩] at q) | (simp only [ge_iff_le, gt_iff_lt, iI_lt h, iI_le h, iI_lt ⟨h.2, h.1⟩, iI_le ⟨h.2, h.1⟩] at q)
    omega
theorem r_if_ne (C : Cx cc own nL X) {a : Int} {off : Int} {tgt : Nat} (h : (-2147483648 ≤ a ∧ a < 2147483648)) (d : decode cc pc = .ok (.ifCond .ne off, 3)) (ht : (pc : Int) + off = (tgt : Int)) (kt : ¬ a = 0 → GG X k n H locs tgt ls rest) (kf : a = 0 → GG X k n H locs (pc + 3) ls rest) : GG X k n H locs pc ls (.int (iI a) :: rest) := by
  obtain ⟨p, l, e, R, s, m, args, below, meth, c, Q, A, G, tys⟩ := X
  refine lv_if_ne C.1 C.2.1 d ht (fun q => kt ?_) (fun q => kf ?_)
  · rw [iI_zero] at q; first | (rw [iI_eq (⟨h, by omega, by omega⟩ : (-2147483648 ≤ a ∧ a < 2147483648) ∧ (-2147483648 ≤ (0:Int) ∧ (0:Int) < 2147483648))] at q) | (rw [iI_lt (⟨h, by omega, by omega⟩ : (-2147483648 ≤ a ∧ a < 2147483648) ∧ (-2147483648 ≤ (0:Int) ∧ (0:Int) < 2147483648))] at q) | (rw [iI_le (⟨h, by omega, by omega⟩ : (-2147483648 ≤ a ∧ a < 2147483648) ∧ (-2147483648 ≤ (0:Int) ∧ (0:Int) < 2147483648))] at q) | (rw [iI_lt (⟨⟨by omega, by omega⟩, h⟩ : (-2147483648 ≤ (0:Int) ∧ (0:Int) < 2147483648) ∧ (-2147483648 ≤ a ∧ a < 2147483648))] at q) | (rw [iI_le (⟨⟨by omega, by omega⟩, h⟩ : (-2147483648 ≤ (0:Int) ∧ (0:Int) < 2147483648) ∧ (-2147483648 ≤ a ∧ a < 2147483648))] at q) | (simp only [ge_iff_le, gt_iff_lt, iI_lt (⟨h, by omega, by omega⟩ : (-2147483648 ≤ a ∧ a < 2147483648) ∧ (-2147483648 ≤ (0:Int) ∧ (0:Int) < 2147483648)), iI_le (⟨h, by omega, by omega⟩ : (-2147483648 ≤ a ∧ a < 2147483648) ∧ (-2147483648 ≤ (0:Int) ∧ (0:Int) < 2147483648)), iI_lt (⟨⟨by omega, by omega⟩, h⟩ : (-2147483648 ≤ (0:Int) ∧ (0:Int) < 2147483648) ∧ (-2147483648 ≤ a ∧ a < 2147483648)), iI_le (⟨⟨by omega, by omega⟩, h⟩ : (-2147483648 ≤ (0:Int) ∧ (0:Int) < 2147483648) ∧ (-2147483648 ≤ a ∧ a < 2147483648))] at q)
    omega
  · rw [iI_zero] at q; first | (rw [iI_eq (⟨h, by omega, by omega⟩ : (-2147483648 ≤ a ∧ a < 2147483648) ∧ (-2147483648 ≤ (0:Int) ∧ (0:Int) < 2147483648))] at q) | (rw [iI_lt (⟨h, by omega, by omega⟩ : (-2147483648 ≤ a ∧ a < 2147483648) ∧ (-2147483648 ≤ (0:Int) ∧ (0:Int) < 2147483648))] at q) | (rw [iI_le (⟨h, by omega, by omega⟩ : (-2147483648 ≤ a ∧ a < 2147483648) ∧ (-2147483648 ≤ (0:Int) ∧ (0:Int) < 2147483648))] at q) | (rw [iI_lt (⟨⟨by omega, by omega⟩, h⟩ : (-2147483648 ≤ (0:Int) ∧ (0:Int) < 2147483648) ∧ (-2147483648 ≤ a ∧ a < 2147483648))] at q) | (rw [iI_le (⟨⟨by omega, by omega⟩, h⟩ : (-2147483648 ≤ (0:Int) ∧ (0:Int) < 2147483648) ∧ (-2147483648 ≤ a ∧ a < 2147483648))] at q) | (simp only [ge_iff_le, gt_iff_lt, iI_lt (⟨h, by omega, by omega⟩ : (-2147483648 ≤ a ∧ a < 2147483648) ∧ (-2147483648 ≤ (0:Int) ∧ (0:Int) < 2147483648)), iI_le (⟨h, by omega, by omega⟩ : (-2147483648 ≤ a ∧ a < 2147483648) ∧ (-2147483648 ≤ (0:Int) ∧ (0:Int) < 2147483648)), iI_lt (⟨⟨by omega, by omega⟩, h⟩ : (-2147483648 ≤ (0:Int) ∧ (0:Int) < 2147483648) ∧ (-2147483648 ≤ a ∧ a < 2147483648)), iI_le (⟨⟨by omega, by omega⟩, h⟩ : (-2147483648 ≤ (0:Int) ∧ (0:Int) < 2147483648) ∧ (-2147483648 ≤ a ∧ a < 2147483648))] at q)
    omega
theorem r_icmp_lt (C : Cx cc own nL X) {a b : Int} {off : Int} {tgt : Nat} (h : (-2147483648 ≤ a ∧ a < 2147483648) ∧ (-2147483648 ≤ b ∧ b < 2147483648)) (d : decode cc pc = .ok (.if_icmp .lt off, 3)) (ht : (pc : Int) + off = (tgt : Int)) (kt : a < b → GG X k n H locs tgt ls rest) (kf : b ≤ a → GG X k n H locs (pc + 3) ls rest) : GG X k n H locs pc ls (.int (iI b) :: .int (iI a) :: rest) := by
  obtain ⟨p, l, e, R, s, m, args, below, meth, c, Q, A, G, tys⟩ := X
  refine lv_icmp_lt C.1 C.2.1 d ht (fun q => kt ?_) (fun q => kf ?_)
  · first | (rw [iI_eq h] at q) | (rw [iI_lt h] at q) | (rw [iI_le h] at q) | (rw [iI_lt ⟨h.2, h.1⟩] at q) | (rw [iI_le ⟨h.2, h.1⟩] at q) | (simp only [ge_iff_le, gt_iff_lt, iI_lt h, iI_le h, iI_lt ⟨h.2, h.1⟩, iI_le ⟨h.2, h.1⟩] at q)
    omega
  · first | (rw [iI_eq h] at q) | (rw [iI_lt h] at q) | (rw [iI_le h] at q) | (rw [iI_lt ⟨h.2, h.1⟩] at q) | (rw [iI_le ⟨h.2, h.1⟩] at q) | (simp only [ge_iff_le, gt_iff_lt, iI_lt h, iI_le h, iI_lt ⟨h.2, h.1⟩, iI_le ⟨h.2, h.1⟩] at q)
    omega
theorem r_if_lt (C : Cx cc own nL X) {a : Int} {off : Int} {tgt : Nat} (h : (-2147483648 ≤ a ∧ a < 2147483648)) (d : decode cc pc = .ok (.ifCond .lt off, 3)) (ht : (pc : Int) + off = (tgt : Int)) (kt : a < 0 → GG X k n H locs tgt ls rest) (kf : 0 ≤ a → GG X k n H locs (pc + 3) ls rest) : GG X k n H locs pc ls (.int (iI a) :: rest) := by
  obtain ⟨p, l, e, R, s, m, args, below, meth, c, Q, A, G, tys⟩ := X
  refine lv_if_lt C.1 C.2.1 d ht (fun q => kt ?_) (fun q => kf ?_)
  · rw [iI_zero] at q; first | (rw [iI_eq (⟨h, by omega, by omega⟩ : (-2147483648 ≤ a ∧ a < 2147483648) ∧ (-2147483648 ≤ (0:Int) ∧ (0:Int) < 2147483648))] at q) | (rw [iI_lt (⟨h, by omega, by omega⟩ : (-2147483648 ≤ a ∧ a < 2147483648) ∧ (-2147483648 ≤ (0:Int) ∧ (0:Int) < 2147483648))] at q) | (rw [iI_le (⟨h, by omega, by omega⟩ : (-2147483648 ≤ a ∧ a < 2147483648) ∧ (-2147483648 ≤ (0:Int) ∧ (0:Int) < 2147483648))] at q) | (rw [iI_lt (⟨⟨by omega, by omega⟩, h⟩ : (-2147483648 ≤ (0:Int) ∧ (0:Int) < 2147483648) ∧ (-2147483648 ≤ a ∧ a < 2147483648))] at q) | (rw [iI_le (⟨⟨by omega, by omega⟩, h⟩ : (-2147483648 ≤ (0:Int) ∧ (0:Int) < 2147483648) ∧ (-2147483648 ≤ a ∧ a < 2147483648))] at q) | (simp only [ge_iff_le, gt_iff_lt, iI_lt (⟨h, by omega, by omega⟩ : (-2147483648 ≤ a ∧ a < 2147483648) ∧ (-2147483648 ≤ (0:Int) ∧ (0:Int) < 2147483648)), iI_le (⟨h, by omega, by omega⟩ : (-2147483648 ≤ a ∧ a < 2147483648) ∧ (-2147483648 ≤ (0:Int) ∧ (0:Int) < 2147483648)), iI_lt (⟨⟨by omega, by omega⟩, h⟩ : (-2147483648 ≤ (0:Int) ∧ (0:Int) < 2147483648) ∧ (-2147483648 ≤ a ∧ a < 2147483648)), iI_le (⟨⟨by omega, by omega⟩, h⟩ : (-2147483648 ≤ (0:Int) ∧ (0:Int) < 2147483648) ∧ (-2147483648 ≤ a ∧ a < 2147483648))] at q)
    omega
  · rw [iI_zero] at q; first | (rw [iI_eq (⟨h, by omega, by omega⟩ : (-2147483648 ≤ a ∧ a < 2147483648) ∧ (-2147483648 ≤ (0:Int) ∧ (0:Int) < 2147483648))] at q) | (rw [iI_lt (⟨h, by omega, by omega⟩ : (-2147483648 ≤ a ∧ a < 2147483648) ∧ (-2147483648 ≤ (0:Int) ∧ (0:Int) < 2147483648))] at q) | (rw [iI_le (⟨h, by omega, by omega⟩ : (-2147483648 ≤ a ∧ a < 2147483648) ∧ (-2147483648 ≤ (0:Int) ∧ (0:Int) < 2147483648))] at q) | (rw [iI_lt (⟨⟨by omega, by omega⟩, h⟩ : (-2147483648 ≤ (0:Int) ∧ (0:Int) < 2147483648) ∧ (-2147483648 ≤ a ∧ a < 2147483648))] at q) | (rw [iI_le (⟨⟨by omega, by omega⟩, h⟩ : (-2147483648 ≤ (0:Int) ∧ (0:Int) < 2147483648) ∧ (-2147483648 ≤ a ∧ a < 2147483648))] at q) | (simp only [ge_iff_le, gt_iff_lt, iI_lt (⟨h, by omega, by omega⟩ : (-2147483648 ≤ a ∧ a < 2147483648) ∧ (-2147483648 ≤ (0:Int) ∧ (0:Int) < 2147483648)), iI_le (⟨h, by omega, by omega⟩ : (-2147483648 ≤ a ∧ a < 2147483648) ∧ (-2147483648 ≤ (0:Int) ∧ (0:Int) < 2147483648)), iI_lt (⟨⟨by omega, by omega⟩, h⟩ : (-2147483648 ≤ (0:Int) ∧ (0:Int) < 2147483648) ∧ (-2147483648 ≤ a ∧ a < 2147483648)), iI_le (⟨⟨by omega, by omega⟩, h⟩ : (-2147483648 ≤ (0:Int) ∧ (0:Int) < 2147483648) ∧ (-2147483648 ≤ a ∧ a < 2147483648))] at q)
    omega
theorem r_icmp_ge (C : Cx cc own nL X) {a b : Int} {off : Int} {tgt : Nat} (h : (-2147483648 ≤ a ∧ a < 2147483648) ∧ (-2147483648 ≤ b ∧ b < 2147483648)) (d : decode cc pc = .ok (.if_icmp .ge off, 3)) (ht : (pc : Int) + off = (tgt : Int)) (kt : b ≤ a → GG X k n H locs tgt ls rest) (kf : a < b → GG X k n H locs (pc + 3) ls rest) : GG X k n H locs pc ls (.int (iI b) :: .int (iI a) :: rest) := by
  obtain ⟨p, l, e, R, s, m, args, below, meth, c, Q, A, G, tys⟩ := X
  refine lv_icmp_ge C.1 C.2.1 d ht (fun q => kt ?_) (fun q => kf ?_)
  · first | (rw [iI_eq h] at q) | (rw [iI_lt h] at q) | (rw [iI_le h] at q) | (rw [iI_lt ⟨h.2, h.1⟩] at q) | (rw [iI_le ⟨h.2, h.1⟩] at q) | (simp only [ge_iff_le, gt_iff_lt, iI_lt h, iI_le h, iI_lt ⟨h.2, h.1⟩, iI_le ⟨h.2, h.1⟩] at q)
    omega
  · first | (rw [iI_eq h] at q) | (rw [iI_lt h] at q) | (rw [iI_le h] at q) | (rw [iI_lt ⟨h.2, h.1⟩] at q) | (rw [iI_le ⟨h.2, h.1⟩] at q) | (simp only [ge_iff_le, gt_iff_lt, iI_lt h, iI_le h, iI_lt ⟨h.2, h.1⟩, iI_le ⟨h.2, h.1⟩] at q)
    omega
theorem r_if_ge (C : Cx cc own nL X) {a : Int} {off : Int} {tgt : Nat} (h : (-2147483648 ≤ a ∧ a < 2147483648)) (d : decode cc pc = .ok (.ifCond .ge off, 3)) (ht : (pc : Int) + off = (tgt : Int)) (kt : 0 ≤ a → GG X k n H locs tgt ls rest) (kf : a < 0 → GG X k n H locs (pc + 3) ls rest) : GG X k n H locs pc ls (.int (iI a) :: rest) := by
  obtain ⟨p, l, e, R, s, m, args, below, meth, c, Q, A, G, tys⟩ := X
  refine lv_if_ge C.1 C.2.1 d ht (fun q => kt ?_) (fun q => kf ?_)
  · rw [iI_zero] at q; first | (rw [iI_eq (⟨h, by omega, by omega⟩ : (-2147483648 ≤ a ∧ a < 2147483648) ∧ (-2147483648 ≤ (0:Int) ∧ (0:Int) < 2147483648))] at q) | (rw [iI_lt (⟨h, by omega, by omega⟩ : (-2147483648 ≤ a ∧ a < 2147483648) ∧ (-2147483648 ≤ (0:Int) ∧ (0:Int) < 2147483648))] at q) | (rw [iI_le (⟨h, by omega, by omega⟩ : (-2147483648 ≤ a ∧ a < 2147483648) ∧ (-2147483648 ≤ (0:Int) ∧ (0:Int) < 2147483648))] at q) | (rw [iI_lt (⟨⟨by omega, by omega⟩, h⟩ : (-2147483648 ≤ (0:Int) ∧ (0:Int) < 2147483648) ∧ (-2147483648 ≤ a ∧ a < 2147483648))] at q) | (rw [iI_le (⟨⟨by omega, by omega⟩, h⟩ : (-2147483648 ≤ (0:Int) ∧ (0:Int) < 2147483648) ∧ (-2147483648 ≤ a ∧ a < 2147483648))] at q) | (simp only [ge_iff_le, gt_iff_lt, iI_lt (⟨h, by omega, by omega⟩ : (-2147483648 ≤ a ∧ a < 2147483648) ∧ (-2147483648 ≤ (0:Int) ∧ (0:Int) < 2147483648)), iI_le (⟨h, by omega, by omega⟩ : (-2147483648 ≤ a ∧ a < 2147483648) ∧ (-2147483648 ≤ (0:Int) ∧ (0:Int) < 2147483648)), iI_lt (⟨⟨by omega, by omega⟩, h⟩ : (-2147483648 ≤ (0:Int) ∧ (0:Int) < 2147483648) ∧ (-2147483648 ≤ a ∧ a < 2147483648)), iI_le (⟨⟨by omega, by omega⟩, h⟩ : (-2147483648 ≤ (0:Int) ∧ (0:Int) < 2147483648) ∧ (-2147483648 ≤ a ∧ a < 2147483648))] at q)
    omega
  · rw [iI_zero] at q; first | (rw [iI_eq (⟨h, by omega, by omega⟩ : (-2147483648 ≤ a ∧ a < 2147483648) ∧ (-2147483648 ≤ (0:Int) ∧ (0:Int) < 2147483648))] at q) | (rw [iI_lt (⟨h, by omega, by omega⟩ : (-2147483648 ≤ a ∧ a < 2147483648) ∧ (-2147483648 ≤ (0:Int) ∧ (0:Int) < 2147483648))] at q) | (rw [iI_le (⟨h, by omega, by omega⟩ : (-2147483648 ≤ a ∧ a < 2147483648) ∧ (-2147483648 ≤ (0:Int) ∧ (0:Int) < 2147483648))] at q) | (rw [iI_lt (⟨⟨by omega, by omega⟩, h⟩ : (-2147483648 ≤ (0:Int) ∧ (0:Int) < 2147483648) ∧ (-2147483648 ≤ a ∧ a < 2147483648))] at q) | (rw [iI_le (⟨⟨by omega, by omega⟩, h⟩ : (-2147483648 ≤ (0:Int) ∧ (0:Int) < 2147483648) ∧ (-2147483648 ≤ a ∧ a < 2147483648))] at q) | (simp only [ge_iff_le, gt_iff_lt, iI_lt (⟨h, by omega, by omega⟩ : (-2147483648 ≤ a ∧ a < 2147483648) ∧ (-2147483648 ≤ (0:Int) ∧ (0:Int) < 2147483648)), iI_le (⟨h, by omega, by omega⟩ : (-2147483648 ≤ a ∧ a < 2147483648) ∧ (-2147483648 ≤ (0:Int) ∧ (0:Int) < 2147483648)), iI_lt (⟨⟨by omega, by omega⟩, h⟩ : (-2147483648 ≤ (0:Int) ∧ (0:Int) < 2147483648) ∧ (-2147483648 ≤ a ∧ a < 2147483648)), iI_le (⟨⟨by omega, by omega⟩, h⟩ : (-2147483648 ≤ (0:Int) ∧ (0:Int) < 2147483648) ∧ (-2147483648 ≤ a ∧ a < 2147483648))] at q)
    omega
theorem r_icmp_gt (C : Cx cc own nL X) {a b : Int} {off : Int} {tgt : Nat} (h : (-2147483648 ≤ a ∧ a < 2147483648) ∧ (-2147483648 ≤ b ∧ b < 2147483648)) (d : decode cc pc = .ok (.if_icmp .gt off, 3)) (ht : (pc : Int) + off = (tgt : Int)) (kt : b < a → GG X k n H locs tgt ls rest) (kf : a ≤ b → GG X k n H locs (pc + 3) ls rest) : GG X k n H locs pc ls (.int (iI b) :: .int (iI a) :: rest) := by
  obtain ⟨p, l, e, R, s, m, args, below, meth, c, Q, A, G, tys⟩ := X
  refine lv_icmp_gt C.1 C.2.1 d ht (fun q => kt ?_) (fun q => kf ?_)
  · first | (rw [iI_eq h] at q) | (rw [iI_lt h] at q) | (rw [iI_le h] at q) | (rw [iI_lt ⟨h.2, h.1⟩] at q) | (rw [iI_le ⟨h.2, h.1⟩] at q) | (simp only [ge_iff_le, gt_iff_lt, iI_lt h, iI_le h, iI_lt ⟨h.2, h.1⟩, iI_le ⟨h.2, h.1⟩] at q)
    omega
  · first | (rw [iI_eq h] at q) | (rw [iI_lt h] at q) | (rw [iI_le h] at q) | (rw [iI_lt ⟨h.2, h.1⟩] at q) | (rw [iI_le ⟨h.2, h.1⟩] at q) | (simp only [ge_iff_le, gt_iff_lt, iI_lt h, iI_le h, iI_lt ⟨h.2, h.1⟩, iI_le ⟨h.2, h.1⟩] at q)
    omega
theorem r_if_gt (C : Cx cc own nL X) {a : Int} {off : Int} {tgt : Nat} (h : (-2147483648 ≤ a ∧ a < 2147483648)) (d : decode cc pc = .ok (.ifCond .gt off, 3)) (ht : (pc : Int) + off = (tgt : Int)) (kt : 0 < a → GG X k n H locs tgt ls rest) (kf : a ≤ 0 → GG X k n H locs (pc + 3) ls rest) : GG X k n H locs pc ls (.int (iI a) :: rest) := by
  obtain ⟨p, l, e, R, s, m, args, below, meth, c, Q, A, G, tys⟩ := X
  refine lv_if_gt C.1 C.2.1 d ht (fun q => kt ?_) (fun q => kf ?_)
  · rw [iI_zero] at q; first | (rw [iI_eq (⟨h, by omega, by omega⟩ : (-2147483648 ≤ a ∧ a < 2147483648) ∧ (-2147483648 ≤ (0:Int) ∧ (0:Int) < 2147483648))] at q) | (rw [iI_lt (⟨h, by omega, by omega⟩ : (-2147483648 ≤ a ∧ a < 2147483648) ∧ (-2147483648 ≤ (0:Int) ∧ (0:Int) < 2147483648))] at q) | (rw [iI_le (⟨h, by omega, by omega⟩ : (-2147483648 ≤ a ∧ a < 2147483648) ∧ (-2147483648 ≤ (0:Int) ∧ (0:Int) < 2147483648))] at q) | (rw [iI_lt (⟨⟨by omega, by omega⟩, h⟩ : (-2147483648 ≤ (0:Int) ∧ (0:Int) < 2147483648) ∧ (-2147483648 ≤ a ∧ a < 2147483648))] at q) | (rw [iI_le (⟨⟨by omega, by omega⟩, h⟩ : (-2147483648 ≤ (0:Int) ∧ (0:Int) < 2147483648) ∧ (-2147483648 ≤ a ∧ a < 2147483648))] at q) | (simp only [ge_iff_le, gt_iff_lt, iI_lt (⟨h, by omega, by omega⟩ : (-2147483648 ≤ a ∧ a < 2147483648) ∧ (-2147483648 ≤ (0:Int) ∧ (0:Int) < 2147483648)), iI_le (⟨h, by omega, by omega⟩ : (-2147483648 ≤ a ∧ a < 2147483648) ∧ (-2147483648 ≤ (0:Int) ∧ (0:Int) < 2147483648)), iI_lt (⟨⟨by omega, by omega⟩, h⟩ : (-2147483648 ≤ (0:Int) ∧ (0:Int) < 2147483648) ∧ (-2147483648 ≤ a ∧ a < 2147483648)), iI_le (⟨⟨by omega, by omega⟩, h⟩ : (-2147483648 ≤ (0:Int) ∧ (0:Int) < 2147483648) ∧ (-2147483648 ≤ a ∧ a < 2147483648))] at q)
    omega
  · rw [iI_zero] at q; first | (rw [iI_eq (⟨h, by omega, by omega⟩ : (-2147483648 ≤ a ∧ a < 2147483648) ∧ (-2147483648 ≤ (0:Int) ∧ (0:Int) < 2147483648))] at q) | (rw [iI_lt (⟨h, by omega, by omega⟩ : (-2147483648 ≤ a ∧ a < 2147483648) ∧ (-2147483648 ≤ (0:Int) ∧ (0:Int) < 2147483648))] at q) | (rw [iI_le (⟨h, by omega, by omega⟩ : (-2147483648 ≤ a ∧ a < 2147483648) ∧ (-2147483648 ≤ (0:Int) ∧ (0:Int) < 2147483648))] at q) | (rw [iI_lt (⟨⟨by omega, by omega⟩, h⟩ : (-2147483648 ≤ (0:Int) ∧ (0:Int) < 2147483648) ∧ (-2147483648 ≤ a ∧ a < 2147483648))] at q) | (rw [iI_le (⟨⟨by omega, by omega⟩, h⟩ : (-2147483648 ≤ (0:Int) ∧ (0:Int) < 2147483648) ∧ (-2147483648 ≤ a ∧ a < 2147483648))] at q) | (simp only [ge_iff_le, gt_iff_lt, iI_lt (⟨h, by omega, by omega⟩ : (-2147483648 ≤ a ∧ a < 2147483648) ∧ (-2147483648 ≤ (0:Int) ∧ (0:Int) < 2147483648)), iI_le (⟨h, by omega, by omega⟩ : (-2147483648 ≤ a ∧ a < 2147483648) ∧ (-2147483648 ≤ (0:Int) ∧ (0:Int) < 2147483648)), iI_lt (⟨⟨by omega, by omega⟩, h⟩ : (-2147483648 ≤ (0:Int) ∧ (0:Int) < 2147483648) ∧ (-2147483648 ≤ a ∧ a < 2147483648)), iI_le (⟨⟨by omega, by omega⟩, h⟩ : (-2147483648 ≤ (0:Int) ∧ (0:Int) < 2147483648) ∧ (-2147483648 ≤ a ∧ a < 2147483648))] at q)
    omega
theorem r_icmp_le (C : Cx cc own nL X) {a b : Int} {off : Int} {tgt : Nat} (h : (-2147483648 ≤ a ∧ a < 2147483648) ∧ (-2147483648 ≤ b ∧ b < 2147483648)) (d : decode cc pc = .ok (.if_icmp .le off, 3)) (ht : (pc : Int) + off = (tgt : Int)) (kt : a ≤ b → GG X k n H locs tgt ls rest) (kf : b < a → GG X k n H locs (pc + 3) ls rest) : GG X k n H locs pc ls (.int (iI b) :: .int (iI a) :: rest) := by
  obtain ⟨p, l, e, R, s, m, args, below, meth, c, Q, A, G, tys⟩ := X
  refine lv_icmp_le C.1 C.2.1 d ht (fun q => kt ?_) (fun q => kf ?_)
  · first | (rw [iI_eq h] at q) | (rw [iI_lt h] at q) | (rw [iI_le h] at q) | (rw [iI_lt ⟨h.2, h.1⟩] at q) | (rw [iI_le ⟨h.2, h.1⟩] at q) | (simp only [ge_iff_le, gt_iff_lt, iI_lt h, iI_le h, iI_lt ⟨h.2, h.1⟩, iI_le ⟨h.2, h.1⟩] at q)
    omega
  · first | (rw [iI_eq h] at q) | (rw [iI_lt h] at q) | (rw [iI_le h] at q) | (rw [iI_lt ⟨h.2, h.1⟩] at q) | (rw [iI_le ⟨h.2, h.1⟩] at q) | (simp only [ge_iff_le, gt_iff_lt, iI_lt h, iI_le h, iI_lt ⟨h.2, h.1⟩, iI_le ⟨h.2, h.1⟩] at q)
    omega
theorem r_if_le (C : Cx cc own nL X) {a : Int} {off : Int} {tgt : Nat} (h : (-2147483648 ≤ a ∧ a < 2147483648)) (d : decode cc pc = .ok (.ifCond .le off, 3)) (ht : (pc : Int) + off = (tgt : Int)) (kt : a ≤ 0 → GG X k n H locs tgt ls rest) (kf : 0 < a → GG X k n H locs (pc + 3) ls rest) : GG X k n H locs pc ls (.int (iI a) :: rest) := by
  obtain ⟨p, l, e, R, s, m, args, below, meth, c, Q, A, G, tys⟩ := X
  refine lv_if_le C.1 C.2.1 d ht (fun q => kt ?_) (fun q => kf ?_)
  · rw [iI_zero] at q; first | (rw [iI_eq (⟨h, by omega, by omega⟩ : (-2147483648 ≤ a ∧ a < 2147483648) ∧ (-2147483648 ≤ (0:Int) ∧ (0:Int) < 2147483648))] at q) | (rw [iI_lt (⟨h, by omega, by omega⟩ : (-2147483648 ≤ a ∧ a < 2147483648) ∧ (-2147483648 ≤ (0:Int) ∧ (0:Int) < 2147483648))] at q) | (rw [iI_le (⟨h, by omega, by omega⟩ : (-2147483648 ≤ a ∧ a < 2147483648) ∧ (-2147483648 ≤ (0:Int) ∧ (0:Int) < 2147483648))] at q) | (rw [iI_lt (⟨⟨by omega, by omega⟩, h⟩ : (-2147483648 ≤ (0:Int) ∧ (0:Int) < 2147483648) ∧ (-2147483648 ≤ a ∧ a < 2147483648))] at q) | (rw [iI_le (⟨⟨by omega, by omega⟩, h⟩ : (-2147483648 ≤ (0:Int) ∧ (0:Int) < 2147483648) ∧ (-2147483648 ≤ a ∧ a < 2147483648))] at q) | (simp only [ge_iff_le, gt_iff_lt, iI_lt (⟨h, by omega, by omega⟩ : (-2147483648 ≤ a ∧ a < 2147483648) ∧ (-2147483648 ≤ (0:Int) ∧ (0:Int) < 2147483648)), iI_le (⟨h, by omega, by omega⟩ : (-2147483648 ≤ a ∧ a < 2147483648) ∧ (-2147483648 ≤ (0:Int) ∧ (0:Int) < 2147483648)), iI_lt (⟨⟨by omega, by omega⟩, h⟩ : (-2147483648 ≤ (0:Int) ∧ (0:Int) < 2147483648) ∧ (-2147483648 ≤ a ∧ a < 2147483648)), iI_le (⟨⟨by omega, by omega⟩, h⟩ : (-2147483648 ≤ (0:Int) ∧ (0:Int) < 2147483648) ∧ (-2147483648 ≤ a ∧ a < 2147483648))] at q)
    omega
  · rw [iI_zero] at q; first | (rw [iI_eq (⟨h, by omega, by omega⟩ : (-2147483648 ≤ a ∧ a < 2147483648) ∧ (-2147483648 ≤ (0:Int) ∧ (0:Int) < 2147483648))] at q) | (rw [iI_lt (⟨h, by omega, by omega⟩ : (-2147483648 ≤ a ∧ a < 2147483648) ∧ (-2147483648 ≤ (0:Int) ∧ (0:Int) < 2147483648))] at q) | (rw [iI_le (⟨h, by omega, by omega⟩ : (-2147483648 ≤ a ∧ a < 2147483648) ∧ (-2147483648 ≤ (0:Int) ∧ (0:Int) < 2147483648))] at q) | (rw [iI_lt (⟨⟨by omega, by omega⟩, h⟩ : (-2147483648 ≤ (0:Int) ∧ (0:Int) < 2147483648) ∧ (-2147483648 ≤ a ∧ a < 2147483648))] at q) | (rw [iI_le (⟨⟨by omega, by omega⟩, h⟩ : (-2147483648 ≤ (0:Int) ∧ (0:Int) < 2147483648) ∧ (-2147483648 ≤ a ∧ a < 2147483648))] at q) | (simp only [ge_iff_le, gt_iff_lt, iI_lt (⟨h, by omega, by omega⟩ : (-2147483648 ≤ a ∧ a < 2147483648) ∧ (-2147483648 ≤ (0:Int) ∧ (0:Int) < 2147483648)), iI_le (⟨h, by omega, by omega⟩ : (-2147483648 ≤ a ∧ a < 2147483648) ∧ (-2147483648 ≤ (0:Int) ∧ (0:Int) < 2147483648)), iI_lt (⟨⟨by omega, by omega⟩, h⟩ : (-2147483648 ≤ (0:Int) ∧ (0:Int) < 2147483648) ∧ (-2147483648 ≤ a ∧ a < 2147483648)), iI_le (⟨⟨by omega, by omega⟩, h⟩ : (-2147483648 ≤ (0:Int) ∧ (0:Int) < 2147483648) ∧ (-2147483648 ≤ a ∧ a < 2147483648))] at q)
    omega
end R3
end
section
/-! contracts and calls of the second storey -/
def CTI (l : Launch) (G : va_G) (tys : List (ClassId × FieldType)) (y : MethodName) (b : ByteArray) (nL : Nat) (rt : FieldType) (fr lo : Nat) (av : List Value) (ws : va_W) (post : Int → va_W → Prop) : Prop :=
  ∀ sz : Nat, Met l y (.code y b nL (some rt) :: TB) ({ frames := fr, cells := 0, slots := 0, locals := lo }) (va_Pc av (fun U => U.heap.size = sz ∧ va_P G classes ws U.heap ∧ KK G tys U ∧ va_D (fun _ => True) ws)) (va_Qi (fun r (u : va_W) => ∃ z : Int, r = iI z ∧ post z u) (fun u t => va_P G classes u t.heap ∧ va_D (va_A ws sz) u) (va_A ws sz)) 0 0 (va_A ws sz)
def CTL (l : Launch) (G : va_G) (tys : List (ClassId × FieldType)) (y : MethodName) (b : ByteArray) (nL : Nat) (fr lo : Nat) (av : List Value) (ws : va_W) (post : Int64 → va_W → Prop) : Prop :=
  ∀ sz : Nat, Met l y (.code y b nL (some .long) :: TB) ({ frames := fr, cells := 0, slots := 0, locals := lo }) (va_Pc av (fun U => U.heap.size = sz ∧ va_P G classes ws U.heap ∧ KK G tys U ∧ va_D (fun _ => True) ws)) (va_Ql (fun r (u : va_W) => post r u) (fun u t => va_P G classes u t.heap ∧ va_D (va_A ws sz) u) (va_A ws sz)) 0 0 (va_A ws sz)
def CTV (l : Launch) (G : va_G) (tys : List (ClassId × FieldType)) (y : MethodName) (b : ByteArray) (nL : Nat) (fr lo : Nat) (av : List Value) (ws : va_W) (post : va_W → Prop) : Prop :=
  ∀ sz : Nat, Met l y (.code y b nL none :: TB) ({ frames := fr, cells := 0, slots := 0, locals := lo }) (va_Pc av (fun U => U.heap.size = sz ∧ va_P G classes ws U.heap ∧ KK G tys U ∧ va_D (fun _ => True) ws)) (va_Qv (fun (u : va_W) => post u) (fun u t => va_P G classes u t.heap ∧ va_D (va_A ws sz) u) (va_A ws sz)) 0 0 (va_A ws sz)
def RetI (X : Ev) (b : ByteArray) (post : Int → va_W → Prop) : Prop := ∀ (H : Heap) (locs : List Loc) (pc : Nat) (ls : Array Slot) (z : Int) (u : va_W), decode b pc = .ok (.ireturn, 1) → Wd X u H locs → post z u → GG X 0 0 H locs pc ls [.int (iI z)]
def RetZ (X : Ev) (b : ByteArray) (post : Int → va_W → Prop) : Prop := ∀ (H : Heap) (locs : List Loc) (pc : Nat) (ls : Array Slot) (z : Int) (u : va_W), decode b pc = .ok (.ireturn, 1) → Wd X u H locs → z = 0 ∨ z = 1 → post z u → GG X 0 0 H locs pc ls [.int (iI z)]
def RetL (X : Ev) (b : ByteArray) (post : Int64 → va_W → Prop) : Prop := ∀ (H : Heap) (locs : List Loc) (pc : Nat) (ls : Array Slot) (z : Int64) (u : va_W), decode b pc = .ok (.lreturn, 1) → Wd X u H locs → post z u → GG X 0 0 H locs pc ls [.long z]
def RetV (X : Ev) (b : ByteArray) (post : va_W → Prop) : Prop := ∀ (H : Heap) (locs : List Loc) (pc : Nat) (ls : Array Slot) (u : va_W), decode b pc = .ok (.return_, 1) → Wd X u H locs → post u → GG X 0 0 H locs pc ls []
theorem mkI {l : Launch} {G : va_G} {tys : List (ClassId × FieldType)} {y : MethodName} {b : ByteArray} {nL fr lo : Nat} {av : List Value} {ws : va_W} {post : Int → va_W → Prop} (hy : plainName y.cls = true) (hn : (lg_sl av).length ≤ nL)
    (body : ∀ X : Ev, Xl X = l → XG X = G → Xtys X = tys → XR X = ({ frames := fr, cells := 0, slots := 0, locals := lo } : Room) → Cx b y.cls nL X → RetI X b post → ∀ (H : Heap) (ls : Array Slot), Wd X ws H [] → lv_has ls nL (lv_args 0 av) → GG X 0 0 H [] 0 ls []) : CTI l G tys y b nL .int fr lo av ws post := by
  intro sz
  refine Met.ofW (cc := b) (maxL := nL) (ret := some .int) hy rfl ?_
  intro p e s m args below meth c s₁ B hml hv
  obtain ⟨rfl, hsz, hP, hK, hD0⟩ := hv
  subst hsz
  rw [lg_entry_eq]
  have hts := atoms_spec B.pre
  refine body (p, l, e, _, s, m, av.toArray, below, meth, c, MQ below _ av.toArray s 0 0 (va_A ws s.heap.size), va_A ws s.heap.size, G, tys) rfl rfl rfl rfl ⟨B.exec, B.bytes, hml, findClass_of_methodNamed B.named, fun w hw => hts w (List.mem_cons_of_mem _ hw)⟩ ?_ s.heap _ ⟨hK, hP, hD0.self, va_S.rf, fun q h => Or.inr h⟩ (lv_entry av hn)
  intro H locs pc ls z u d w hz
  exact W.iret (v := iI z) B.exec B.bytes B.returns (fun t ht hW => ⟨⟨iI z, u, rfl, ⟨z, rfl, hz⟩, by rw [ht]; exact w.2.1, w.2.2.1⟩, w.2.2.2.1.F ht⟩) w.2.2.2.1.2.2 d B.notSynchronized
theorem mkZ {l : Launch} {G : va_G} {tys : List (ClassId × FieldType)} {y : MethodName} {b : ByteArray} {nL fr lo : Nat} {av : List Value} {ws : va_W} {post : Int → va_W → Prop} (hy : plainName y.cls = true) (hn : (lg_sl av).length ≤ nL)
    (body : ∀ X : Ev, Xl X = l → XG X = G → Xtys X = tys → XR X = ({ frames := fr, cells := 0, slots := 0, locals := lo } : Room) → Cx b y.cls nL X → RetZ X b post → ∀ (H : Heap) (ls : Array Slot), Wd X ws H [] → lv_has ls nL (lv_args 0 av) → GG X 0 0 H [] 0 ls []) : CTI l G tys y b nL .boolean fr lo av ws post := by
  intro sz
  refine Met.ofW (cc := b) (maxL := nL) (ret := some .boolean) hy rfl ?_
  intro p e s m args below meth c s₁ B hml hv
  obtain ⟨rfl, hsz, hP, hK, hD0⟩ := hv
  subst hsz
  rw [lg_entry_eq]
  have hts := atoms_spec B.pre
  refine body (p, l, e, _, s, m, av.toArray, below, meth, c, MQ below _ av.toArray s 0 0 (va_A ws s.heap.size), va_A ws s.heap.size, G, tys) rfl rfl rfl rfl ⟨B.exec, B.bytes, hml, findClass_of_methodNamed B.named, fun w hw => hts w (List.mem_cons_of_mem _ hw)⟩ ?_ s.heap _ ⟨hK, hP, hD0.self, va_S.rf, fun q h => Or.inr h⟩ (lv_entry av hn)
  intro H locs pc ls z u d w h01 hz
  exact W.zret (v := iI z) B.exec B.bytes B.returns (by rcases h01 with rfl | rfl <;> decide) (fun t ht hW => ⟨⟨iI z, u, rfl, ⟨z, rfl, hz⟩, by rw [ht]; exact w.2.1, w.2.2.1⟩, w.2.2.2.1.F ht⟩) w.2.2.2.1.2.2 d B.notSynchronized
theorem mkL {l : Launch} {G : va_G} {tys : List (ClassId × FieldType)} {y : MethodName} {b : ByteArray} {nL fr lo : Nat} {av : List Value} {ws : va_W} {post : Int64 → va_W → Prop} (hy : plainName y.cls = true) (hn : (lg_sl av).length ≤ nL)
    (body : ∀ X : Ev, Xl X = l → XG X = G → Xtys X = tys → XR X = ({ frames := fr, cells := 0, slots := 0, locals := lo } : Room) → Cx b y.cls nL X → RetL X b post → ∀ (H : Heap) (ls : Array Slot), Wd X ws H [] → lv_has ls nL (lv_args 0 av) → GG X 0 0 H [] 0 ls []) : CTL l G tys y b nL fr lo av ws post := by
  intro sz
  refine Met.ofW (cc := b) (maxL := nL) (ret := some .long) hy rfl ?_
  intro p e s m args below meth c s₁ B hml hv
  obtain ⟨rfl, hsz, hP, hK, hD0⟩ := hv
  subst hsz
  rw [lg_entry_eq]
  have hts := atoms_spec B.pre
  refine body (p, l, e, _, s, m, av.toArray, below, meth, c, MQ below _ av.toArray s 0 0 (va_A ws s.heap.size), va_A ws s.heap.size, G, tys) rfl rfl rfl rfl ⟨B.exec, B.bytes, hml, findClass_of_methodNamed B.named, fun w hw => hts w (List.mem_cons_of_mem _ hw)⟩ ?_ s.heap _ ⟨hK, hP, hD0.self, va_S.rf, fun q h => Or.inr h⟩ (lv_entry av hn)
  intro H locs pc ls z u d w hz
  exact W.lret (v := z) B.exec B.bytes B.returns (fun t ht hW => ⟨⟨z, u, rfl, hz, by rw [ht]; exact w.2.1, w.2.2.1⟩, w.2.2.2.1.F ht⟩) w.2.2.2.1.2.2 d B.notSynchronized
theorem mkV {l : Launch} {G : va_G} {tys : List (ClassId × FieldType)} {y : MethodName} {b : ByteArray} {nL fr lo : Nat} {av : List Value} {ws : va_W} {post : va_W → Prop} (hy : plainName y.cls = true) (hn : (lg_sl av).length ≤ nL)
    (body : ∀ X : Ev, Xl X = l → XG X = G → Xtys X = tys → XR X = ({ frames := fr, cells := 0, slots := 0, locals := lo } : Room) → Cx b y.cls nL X → RetV X b post → ∀ (H : Heap) (ls : Array Slot), Wd X ws H [] → lv_has ls nL (lv_args 0 av) → GG X 0 0 H [] 0 ls []) : CTV l G tys y b nL fr lo av ws post := by
  intro sz
  refine Met.ofW (cc := b) (maxL := nL) (ret := none) hy rfl ?_
  intro p e s m args below meth c s₁ B hml hv
  obtain ⟨rfl, hsz, hP, hK, hD0⟩ := hv
  subst hsz
  rw [lg_entry_eq]
  have hts := atoms_spec B.pre
  refine body (p, l, e, _, s, m, av.toArray, below, meth, c, MQ below _ av.toArray s 0 0 (va_A ws s.heap.size), va_A ws s.heap.size, G, tys) rfl rfl rfl rfl ⟨B.exec, B.bytes, hml, findClass_of_methodNamed B.named, fun w hw => hts w (List.mem_cons_of_mem _ hw)⟩ ?_ s.heap _ ⟨hK, hP, hD0.self, va_S.rf, fun q h => Or.inr h⟩ (lv_entry av hn)
  intro H locs pc ls u d w hz
  exact W.vret B.exec B.bytes B.returns (fun t ht hW => ⟨⟨u, rfl, hz, by rw [ht]; exact w.2.1, w.2.2.1⟩, w.2.2.2.1.F ht⟩) w.2.2.2.1.2.2 d B.notSynchronized
theorem TB_in {y : MethodName} {b : ByteArray} {nL : Nat} {rt : Option FieldType} {pre : List Cond} (hp : ∀ w ∈ pre, w ∈ TB) (hcd : Cond.code y b nL rt ∈ TB) : GoodIn TB (pre ++ Cond.code y b nL rt :: TB) := by
  intro w hw
  rcases List.mem_append.mp hw with h | h
  · exact tb_good (hp w h)
  · rcases List.mem_cons.mp h with h | h
    · rw [h]; exact tb_good hcd
    · exact tb_good h
/-- what a descriptor says of a call -/
def okD (y : MethodName) (cn : String) (n : Nat) : Prop := y.cls = cn ∧ y.cls ≠ "java/lang/invoke/MethodHandle" ∧ y.cls ≠ "java/lang/invoke/VarHandle" ∧ (parseMethodDescriptor y.desc).map (fun d => d.parameters.length) = some n
/-- a cut of a world: the places of the callee's cells, those of the rest -/
def Cut (ws wc wr : va_W) (isC isR : List Nat) : Prop := isC.map (fun i => ws[i]?) = wc.map some ∧ isR.map (fun i => ws[i]?) = wr.map some ∧ va_nd isC = true ∧ va_nd isR = true ∧ ∀ i ∈ isR, i ∉ isC
theorem cut_filter {ws wc : va_W} : ∀ (l : List Nat) (w2 : va_W), l.map (fun i => ws[i]?) = w2.map some → l.filterMap (fun i => ws[i]?) = w2 := by
  intro l
  induction l with
  | nil => intro w2 h; cases w2 with
    | nil => rfl
    | cons a b => simp at h
  | cons a b ih => intro w2 h; cases w2 with
    | nil => simp at h
    | cons x y =>
      simp only [List.map_cons, List.cons.injEq] at h
      rw [List.filterMap_cons, h.1]
      simp [ih y h.2]
section CL
variable {X : Ev} {k n : Nat} {H : Heap} {locs : List Loc} {pc nL : Nat} {ls : Array Slot} {rest st0 : List Value} {cc : ByteArray} {own : String}
variable {ws wc wr : va_W} {y : MethodName} {b : ByteArray} {nLc fr lo a : Nat} {rt : FieldType} {As : List Value} {cn : String} {index nargs : Nat}
theorem r_callVI {post : Int → va_W → Prop} (C : Cx cc own nL X) (w : Wd X ws H locs) (hM : CTI (Xl X) (XG X) (Xtys X) y b nLc rt fr lo (.ref a :: As) wc post)
    (hml : Cond.methodLink own index y ∈ TB) (him : Cond.instanceMethod y ∈ TB) (hse : Cond.selects cn y y ∈ TB) (hini : Cond.initialized cn ∈ TB) (hcd : Cond.code y b nLc (some rt) ∈ TB) (hd : okD y cn nargs) (hn : As.length = nargs)
    (hR : (fr + 1 ≤ (XR X).frames ∧ 8 + (nLc + 11) + lo ≤ (XR X).locals) ∧ k ≤ (XR X).cells ∧ n ≤ (XR X).slots) (hls : ls.size = nL) (isC isR : List Nat) (hcut : Cut ws wc wr isC isR) (q0 : Nat) {ci : Nat} {T : u_T} {N : Nat} {fs : List Value} (hc : classes[ci]? = some (cn, T, N)) (he : wc[q0]? = some (a, .inr (ci, fs)))
    (hst : st0 = As.reverse ++ .ref a :: rest) (hcat : (rest.map fun v => v.category).sum ≤ 8) (d : decode cc pc = .ok (.invokevirtual index, 3))
    (kk : ∀ (z : Int) (u : va_W) (H1 : Heap) (locs1 : List Loc), post z u → Wd X (wr ++ u) H1 locs1 → GG X k n H1 locs1 (pc + 3) ls (.int (iI z) :: rest)) : GG X k n H locs pc ls st0 := by
  obtain ⟨p, l, e, R, s, m, args, below, meth, c, Q, A, G, tys⟩ := X
  obtain ⟨hC, hRr, hnc, hnr, hdis⟩ := hcut
  obtain ⟨hK, hP, hD, hS, hA⟩ := w
  have hPc := hP.sub isC (cut_filter (wc := wc) isC wc hC)
  have hDc := hD.sub isC hnc hC
  have hFc := va_free hD hS hA isC hC
  have hTB : GoodIn TB (wsV own index cn y (Cond.code y b nLc (some rt) :: TB)) := TB_in (pre := [.methodLink own index y, .instanceMethod y, .selects cn y y, .initialized cn]) (fun w hw => by
    simp only [List.mem_cons, List.not_mem_nil, or_false] at hw
    rcases hw with rfl | rfl | rfl | rfl
    · exact hml
    · exact him
    · exact hse
    · exact hini) hcd
  refine va_calli (va_runV (As := As) (rest := rest) ⟨C.1, C.2.1, C.2.2.1, C.2.2.2.1, C.2.2.2.2⟩ (hM H.size) (cwV nargs C.2.2.2.2 hTB rfl rfl rfl hd hR.1) ⟨fun a U g mk q => ?_, va_recv hK.1 hPc (ci := ci) (q0 := q0) hc he, fun U hU hW => ⟨rfl, by rw [hU], by rw [hU]; exact hPc, hK.warm hW, hDc.weaken (fun _ _ _ _ => trivial)⟩⟩ rfl hn hls hst (lv_room hcat) d ⟨hR.2.1, hR.2.2⟩) hS (fun q _ h => hFc q h) hFc (fun r u t H1 locs1 ht hvm hw hB hz1 hk1 hS1 => ?_)
  · obtain ⟨q0, q1, qP, qK, qD⟩ := q
    exact ⟨q0, q1, qP, ⟨va_K.moved (u := U) (U := U.calling g mk a) (Vm.Alike.refl U.vm) qK.1, va_Nw.same rfl (u := U) (U := U.calling g mk a) rfl qK.2⟩, qD⟩
  · obtain ⟨z, rfl, hz⟩ := hw
    obtain ⟨hP1, hD1⟩ := hB
    rw [ht] at hP1
    obtain ⟨hP2, hD2⟩ := va_join hP hD isC isR hC hRr hnr hdis hk1 hFc hP1 hD1
    exact kk z u H1 locs1 hz ⟨hK, hP2, hD2, hS1, hA⟩
theorem r_callVV {post : va_W → Prop} (C : Cx cc own nL X) (w : Wd X ws H locs) (hM : CTV (Xl X) (XG X) (Xtys X) y b nLc fr lo (.ref a :: As) wc post)
    (hml : Cond.methodLink own index y ∈ TB) (him : Cond.instanceMethod y ∈ TB) (hse : Cond.selects cn y y ∈ TB) (hini : Cond.initialized cn ∈ TB) (hcd : Cond.code y b nLc none ∈ TB) (hd : okD y cn nargs) (hn : As.length = nargs)
    (hR : (fr + 1 ≤ (XR X).frames ∧ 8 + (nLc + 11) + lo ≤ (XR X).locals) ∧ k ≤ (XR X).cells ∧ n ≤ (XR X).slots) (hls : ls.size = nL) (isC isR : List Nat) (hcut : Cut ws wc wr isC isR) (q0 : Nat) {ci : Nat} {T : u_T} {N : Nat} {fs : List Value} (hc : classes[ci]? = some (cn, T, N)) (he : wc[q0]? = some (a, .inr (ci, fs)))
    (hst : st0 = As.reverse ++ .ref a :: rest) (hcat : (rest.map fun v => v.category).sum ≤ 8) (d : decode cc pc = .ok (.invokevirtual index, 3))
    (kk : ∀ (u : va_W) (H1 : Heap) (locs1 : List Loc), post u → Wd X (wr ++ u) H1 locs1 → GG X k n H1 locs1 (pc + 3) ls rest) : GG X k n H locs pc ls st0 := by
  obtain ⟨p, l, e, R, s, m, args, below, meth, c, Q, A, G, tys⟩ := X
  obtain ⟨hC, hRr, hnc, hnr, hdis⟩ := hcut
  obtain ⟨hK, hP, hD, hS, hA⟩ := w
  have hPc := hP.sub isC (cut_filter (wc := wc) isC wc hC)
  have hDc := hD.sub isC hnc hC
  have hFc := va_free hD hS hA isC hC
  have hTB : GoodIn TB (wsV own index cn y (Cond.code y b nLc none :: TB)) := TB_in (pre := [.methodLink own index y, .instanceMethod y, .selects cn y y, .initialized cn]) (fun w hw => by
    simp only [List.mem_cons, List.not_mem_nil, or_false] at hw
    rcases hw with rfl | rfl | rfl | rfl
    · exact hml
    · exact him
    · exact hse
    · exact hini) hcd
  refine va_callv (va_runV (As := As) (rest := rest) ⟨C.1, C.2.1, C.2.2.1, C.2.2.2.1, C.2.2.2.2⟩ (hM H.size) (cwV nargs C.2.2.2.2 hTB rfl rfl rfl hd hR.1) ⟨fun a U g mk q => ?_, va_recv hK.1 hPc (ci := ci) (q0 := q0) hc he, fun U hU hW => ⟨rfl, by rw [hU], by rw [hU]; exact hPc, hK.warm hW, hDc.weaken (fun _ _ _ _ => trivial)⟩⟩ rfl hn hls hst (lv_room hcat) d ⟨hR.2.1, hR.2.2⟩) hS (fun q _ h => hFc q h) hFc (fun u t H1 locs1 ht hvm hw hB hz1 hk1 hS1 => ?_)
  · obtain ⟨q0, q1, qP, qK, qD⟩ := q
    exact ⟨q0, q1, qP, ⟨va_K.moved (u := U) (U := U.calling g mk a) (Vm.Alike.refl U.vm) qK.1, va_Nw.same rfl (u := U) (U := U.calling g mk a) rfl qK.2⟩, qD⟩
  · obtain ⟨hP1, hD1⟩ := hB
    rw [ht] at hP1
    obtain ⟨hP2, hD2⟩ := va_join hP hD isC isR hC hRr hnr hdis hk1 hFc hP1 hD1
    exact kk u H1 locs1 hw ⟨hK, hP2, hD2, hS1, hA⟩
theorem r_callSI {post : Int → va_W → Prop} (C : Cx cc own nL X) (w : Wd X ws H locs) (hM : CTI (Xl X) (XG X) (Xtys X) y b nLc rt fr lo As wc post)
    (hml : Cond.methodLink own index y ∈ TB) (him : Cond.static y ∈ TB) (hini : Cond.initialized y.cls ∈ TB) (hcd : Cond.code y b nLc (some rt) ∈ TB) (hd : okD y cn nargs) (hn : As.length = nargs)
    (hR : (fr + 1 ≤ (XR X).frames ∧ 8 + (nLc + 11) + lo ≤ (XR X).locals) ∧ k ≤ (XR X).cells ∧ n ≤ (XR X).slots) (hls : ls.size = nL) (isC isR : List Nat) (hcut : Cut ws wc wr isC isR)
    (hst : st0 = As.reverse ++ rest) (hcat : (rest.map fun v => v.category).sum ≤ 8) (d : decode cc pc = .ok (.invokestatic index, 3))
    (kk : ∀ (z : Int) (u : va_W) (H1 : Heap) (locs1 : List Loc), post z u → Wd X (wr ++ u) H1 locs1 → GG X k n H1 locs1 (pc + 3) ls (.int (iI z) :: rest)) : GG X k n H locs pc ls st0 := by
  obtain ⟨p, l, e, R, s, m, args, below, meth, c, Q, A, G, tys⟩ := X
  obtain ⟨hC, hRr, hnc, hnr, hdis⟩ := hcut
  obtain ⟨hK, hP, hD, hS, hA⟩ := w
  have hPc := hP.sub isC (cut_filter (wc := wc) isC wc hC)
  have hDc := hD.sub isC hnc hC
  have hFc := va_free hD hS hA isC hC
  have hTB : GoodIn TB (va_wsS own index y (Cond.code y b nLc (some rt) :: TB)) := TB_in (pre := [.methodLink own index y, .static y, .initialized y.cls]) (fun w hw => by
    simp only [List.mem_cons, List.not_mem_nil, or_false] at hw
    rcases hw with rfl | rfl | rfl
    · exact hml
    · exact him
    · exact hini) hcd
  refine va_calli (va_runS (As := As) (rest := rest) ⟨C.1, C.2.1, C.2.2.1, C.2.2.2.1, C.2.2.2.2⟩ (hM H.size) (va_cwS nargs C.2.2.2.2 hTB rfl rfl rfl hd.2 hR.1) ⟨fun a U g mk q => ?_, fun U hU hW => ⟨rfl, by rw [hU], by rw [hU]; exact hPc, hK.warm hW, hDc.weaken (fun _ _ _ _ => trivial)⟩⟩ rfl hn hls hst (lv_room hcat) d ⟨hR.2.1, hR.2.2⟩) hS (fun q _ h => hFc q h) hFc (fun r u t H1 locs1 ht hvm hw hB hz1 hk1 hS1 => ?_)
  · obtain ⟨q0, q1, qP, qK, qD⟩ := q
    exact ⟨q0, q1, qP, ⟨va_K.moved (u := U) (U := U.calling g mk a) (Vm.Alike.refl U.vm) qK.1, va_Nw.same rfl (u := U) (U := U.calling g mk a) rfl qK.2⟩, qD⟩
  · obtain ⟨z, rfl, hz⟩ := hw
    obtain ⟨hP1, hD1⟩ := hB
    rw [ht] at hP1
    obtain ⟨hP2, hD2⟩ := va_join hP hD isC isR hC hRr hnr hdis hk1 hFc hP1 hD1
    exact kk z u H1 locs1 hz ⟨hK, hP2, hD2, hS1, hA⟩
theorem r_callSV {post : va_W → Prop} (C : Cx cc own nL X) (w : Wd X ws H locs) (hM : CTV (Xl X) (XG X) (Xtys X) y b nLc fr lo As wc post)
    (hml : Cond.methodLink own index y ∈ TB) (him : Cond.static y ∈ TB) (hini : Cond.initialized y.cls ∈ TB) (hcd : Cond.code y b nLc none ∈ TB) (hd : okD y cn nargs) (hn : As.length = nargs)
    (hR : (fr + 1 ≤ (XR X).frames ∧ 8 + (nLc + 11) + lo ≤ (XR X).locals) ∧ k ≤ (XR X).cells ∧ n ≤ (XR X).slots) (hls : ls.size = nL) (isC isR : List Nat) (hcut : Cut ws wc wr isC isR)
    (hst : st0 = As.reverse ++ rest) (hcat : (rest.map fun v => v.category).sum ≤ 8) (d : decode cc pc = .ok (.invokestatic index, 3))
    (kk : ∀ (u : va_W) (H1 : Heap) (locs1 : List Loc), post u → Wd X (wr ++ u) H1 locs1 → GG X k n H1 locs1 (pc + 3) ls rest) : GG X k n H locs pc ls st0 := by
  obtain ⟨p, l, e, R, s, m, args, below, meth, c, Q, A, G, tys⟩ := X
  obtain ⟨hC, hRr, hnc, hnr, hdis⟩ := hcut
  obtain ⟨hK, hP, hD, hS, hA⟩ := w
  have hPc := hP.sub isC (cut_filter (wc := wc) isC wc hC)
  have hDc := hD.sub isC hnc hC
  have hFc := va_free hD hS hA isC hC
  have hTB : GoodIn TB (va_wsS own index y (Cond.code y b nLc none :: TB)) := TB_in (pre := [.methodLink own index y, .static y, .initialized y.cls]) (fun w hw => by
    simp only [List.mem_cons, List.not_mem_nil, or_false] at hw
    rcases hw with rfl | rfl | rfl
    · exact hml
    · exact him
    · exact hini) hcd
  refine va_callv (va_runS (As := As) (rest := rest) ⟨C.1, C.2.1, C.2.2.1, C.2.2.2.1, C.2.2.2.2⟩ (hM H.size) (va_cwS nargs C.2.2.2.2 hTB rfl rfl rfl hd.2 hR.1) ⟨fun a U g mk q => ?_, fun U hU hW => ⟨rfl, by rw [hU], by rw [hU]; exact hPc, hK.warm hW, hDc.weaken (fun _ _ _ _ => trivial)⟩⟩ rfl hn hls hst (lv_room hcat) d ⟨hR.2.1, hR.2.2⟩) hS (fun q _ h => hFc q h) hFc (fun u t H1 locs1 ht hvm hw hB hz1 hk1 hS1 => ?_)
  · obtain ⟨q0, q1, qP, qK, qD⟩ := q
    exact ⟨q0, q1, qP, ⟨va_K.moved (u := U) (U := U.calling g mk a) (Vm.Alike.refl U.vm) qK.1, va_Nw.same rfl (u := U) (U := U.calling g mk a) rfl qK.2⟩, qD⟩
  · obtain ⟨hP1, hD1⟩ := hB
    rw [ht] at hP1
    obtain ⟨hP2, hD2⟩ := va_join hP hD isC isR hC hRr hnr hdis hk1 hFc hP1 hD1
    exact kk u H1 locs1 hw ⟨hK, hP2, hD2, hS1, hA⟩
/-- a static method of numbers alone: the world stays -/
def CTP (l : Launch) (G : va_G) (tys : List (ClassId × FieldType)) (y : MethodName) (b : ByteArray) (nL : Nat) (rt : FieldType) (fr lo : Nat) (av : List Value) (P : Int → Prop) : Prop := CTI l G tys y b nL rt fr lo av [] (fun z u => u = [] ∧ P z)
theorem cut_none (ws : va_W) : Cut ws [] ws [] (List.range ws.length) := by
  refine ⟨rfl, ?_, rfl, ?_, fun i _ h => by cases h⟩
  · apply List.ext_getElem?
    intro i
    rw [List.getElem?_map, List.getElem?_map]
    by_cases h : i < ws.length
    · rw [List.getElem?_range h, List.getElem?_eq_getElem h]
      show some (ws[i]?) = _
      rw [List.getElem?_eq_getElem h]
      rfl
    · rw [List.getElem?_eq_none (by simpa using h), List.getElem?_eq_none (by simpa using h)]
      rfl
  · have h1 : ∀ (l : List Nat), l.Nodup → va_nd l = true := by
      intro l
      induction l with
      | nil => intro _; rfl
      | cons a b ih =>
        intro h
        have h2 := List.nodup_cons.mp h
        unfold va_nd
        simp [ih h2.2, h2.1]
    exact h1 _ List.nodup_range
theorem r_callP {P : Int → Prop} (C : Cx cc own nL X) (w : Wd X ws H locs) (hM : CTP (Xl X) (XG X) (Xtys X) y b nLc rt fr lo As P)
    (hml : Cond.methodLink own index y ∈ TB) (him : Cond.static y ∈ TB) (hini : Cond.initialized y.cls ∈ TB) (hcd : Cond.code y b nLc (some rt) ∈ TB) (hd : okD y cn nargs) (hn : As.length = nargs)
    (hR : (fr + 1 ≤ (XR X).frames ∧ 8 + (nLc + 11) + lo ≤ (XR X).locals) ∧ k ≤ (XR X).cells ∧ n ≤ (XR X).slots) (hls : ls.size = nL)
    (hst : st0 = As.reverse ++ rest) (hcat : (rest.map fun v => v.category).sum ≤ 8) (d : decode cc pc = .ok (.invokestatic index, 3))
    (kk : ∀ (z : Int) (H1 : Heap) (locs1 : List Loc), P z → Wd X ws H1 locs1 → GG X k n H1 locs1 (pc + 3) ls (.int (iI z) :: rest)) : GG X k n H locs pc ls st0 := by
  refine r_callSI C w hM hml him hini hcd hd hn hR hls [] (List.range ws.length) (cut_none ws) hst hcat d (fun z u H1 locs1 hz w1 => ?_)
  obtain ⟨rfl, hz⟩ := hz
  rw [List.append_nil] at w1
  exact kk z H1 locs1 hz w1
/-- the same, the method private in a nest mate: the one that Pad calls -/
theorem r_callPN {P : Int → Prop} (C : Cx cc "DeadRuns$Pad" nL X) (w : Wd X ws H locs) (hM : CTP (Xl X) (XG X) (Xtys X) y_D_isWithin b_D_isWithin 3 .boolean fr lo As P)
    (hn : As.length = 3)
    (hR : (fr + 1 ≤ (XR X).frames ∧ 8 + (3 + 11) + lo ≤ (XR X).locals) ∧ k ≤ (XR X).cells ∧ n ≤ (XR X).slots) (hls : ls.size = nL)
    (hst : st0 = As.reverse ++ rest) (hcat : (rest.map fun v => v.category).sum ≤ 8) (d : decode cc pc = .ok (.invokestatic 42, 3))
    (kk : ∀ (z : Int) (H1 : Heap) (locs1 : List Loc), P z → Wd X ws H1 locs1 → GG X k n H1 locs1 (pc + 3) ls (.int (iI z) :: rest)) : GG X k n H locs pc ls st0 := by
  obtain ⟨p, l, e, R, s, m, args, below, meth, c, Q, A, G, tys⟩ := X
  obtain ⟨hC, hRr, hnc, hnr, hdis⟩ := cut_none ws
  obtain ⟨hK, hP, hD, hS, hA⟩ := w
  have hPc := hP.sub (ws' := []) [] rfl
  have hDc := hD.sub (ws' := []) [] rfl rfl
  have hFc := va_free (wc := []) hD hS hA [] rfl
  have hTB : GoodIn TB (Cond.code y_D_isWithin b_D_isWithin 3 (some .boolean) :: TB) := TB_in (pre := []) (fun w hw => by cases hw) cd_D_isWithin
  refine va_calli (va_runSN (As := As) (rest := rest) ⟨C.1, C.2.1, C.2.2.1, C.2.2.2.1, C.2.2.2.2⟩ (hM H.size) ⟨va_cnB 3 C.2.2.2.2 hTB rfl rfl rfl hK.2 (C.2.2.2.2 _ ini_D) (by decide +kernel) hR.1, C.2.2.2.2 _ st_D_isWithin, trivial⟩ ⟨fun a U g mk q => ?_, fun U hU hW => ⟨rfl, by rw [hU], by rw [hU]; exact hPc, hK.warm hW, hDc.weaken (fun _ _ _ _ => trivial)⟩⟩ rfl hn hls hst (lv_room hcat) d ⟨hR.2.1, hR.2.2⟩) hS (fun q _ h => hFc q h) hFc (fun r u t H1 locs1 ht hvm hw hB hz1 hk1 hS1 => ?_)
  · obtain ⟨q0, q1, qP, qK, qD⟩ := q
    exact ⟨q0, q1, qP, ⟨va_K.moved (u := U) (U := U.calling g mk a) (Vm.Alike.refl U.vm) qK.1, va_Nw.same rfl (u := U) (U := U.calling g mk a) rfl qK.2⟩, qD⟩
  · obtain ⟨z, rfl, rfl, hz⟩ := hw
    obtain ⟨hP1, hD1⟩ := hB
    rw [ht] at hP1
    obtain ⟨hP2, hD2⟩ := va_join hP hD [] (List.range ws.length) hC hRr hnr hdis hk1 hFc hP1 hD1
    rw [List.append_nil] at hP2 hD2
    exact kk z H1 locs1 hz ⟨hK, hP2, hD2, hS1, hA⟩
theorem r_callSL {post : Int64 → va_W → Prop} (C : Cx cc own nL X) (w : Wd X ws H locs) (hM : CTL (Xl X) (XG X) (Xtys X) y b nLc fr lo As [] post)
    (hml : Cond.methodLink own index y ∈ TB) (him : Cond.static y ∈ TB) (hini : Cond.initialized y.cls ∈ TB) (hcd : Cond.code y b nLc (some .long) ∈ TB) (hd : okD y cn nargs) (hn : As.length = nargs)
    (hR : (fr + 1 ≤ (XR X).frames ∧ 8 + (nLc + 11) + lo ≤ (XR X).locals) ∧ k ≤ (XR X).cells ∧ n ≤ (XR X).slots) (hls : ls.size = nL)
    (hst : st0 = As.reverse ++ rest) (hcat : (rest.map fun v => v.category).sum ≤ 8) (d : decode cc pc = .ok (.invokestatic index, 3)) (hu : ∀ z u, post z u → u = [])
    (kk : ∀ (z : Int64) (H1 : Heap) (locs1 : List Loc), post z [] → Wd X ws H1 locs1 → GG X k n H1 locs1 (pc + 3) ls (.long z :: rest)) : GG X k n H locs pc ls st0 := by
  obtain ⟨p, l, e, R, s, m, args, below, meth, c, Q, A, G, tys⟩ := X
  obtain ⟨hC, hRr, hnc, hnr, hdis⟩ := cut_none ws
  obtain ⟨hK, hP, hD, hS, hA⟩ := w
  have hPc := hP.sub (ws' := []) [] rfl
  have hDc := hD.sub (ws' := []) [] rfl rfl
  have hFc := va_free (wc := []) hD hS hA [] rfl
  have hTB : GoodIn TB (va_wsS own index y (Cond.code y b nLc (some .long) :: TB)) := TB_in (pre := [.methodLink own index y, .static y, .initialized y.cls]) (fun w hw => by
    simp only [List.mem_cons, List.not_mem_nil, or_false] at hw
    rcases hw with rfl | rfl | rfl
    · exact hml
    · exact him
    · exact hini) hcd
  refine va_calll (va_runS (As := As) (rest := rest) ⟨C.1, C.2.1, C.2.2.1, C.2.2.2.1, C.2.2.2.2⟩ (hM H.size) (va_cwS nargs C.2.2.2.2 hTB rfl rfl rfl hd.2 hR.1) ⟨fun a U g mk q => ?_, fun U hU hW => ⟨rfl, by rw [hU], by rw [hU]; exact hPc, hK.warm hW, hDc.weaken (fun _ _ _ _ => trivial)⟩⟩ rfl hn hls hst (lv_room hcat) d ⟨hR.2.1, hR.2.2⟩) hS (fun q _ h => hFc q h) hFc (fun r u t H1 locs1 ht hvm hw hB hz1 hk1 hS1 => ?_)
  · obtain ⟨q0, q1, qP, qK, qD⟩ := q
    exact ⟨q0, q1, qP, ⟨va_K.moved (u := U) (U := U.calling g mk a) (Vm.Alike.refl U.vm) qK.1, va_Nw.same rfl (u := U) (U := U.calling g mk a) rfl qK.2⟩, qD⟩
  · have hue := hu _ _ hw
    subst hue
    obtain ⟨hP1, hD1⟩ := hB
    rw [ht] at hP1
    obtain ⟨hP2, hD2⟩ := va_join hP hD [] (List.range ws.length) hC hRr hnr hdis hk1 hFc hP1 hD1
    rw [List.append_nil] at hP2 hD2
    exact kk r H1 locs1 hw ⟨hK, hP2, hD2, hS1, hA⟩
theorem r_max {a b : Int} (C : Cx cc own nL X) (hml : Cond.methodLink own index Lib.Math.max.name ∈ TB) (h : (-2147483648 ≤ a ∧ a < 2147483648) ∧ (-2147483648 ≤ b ∧ b < 2147483648)) (hR : (1 ≤ (XR X).frames ∧ (rest.map fun v => v.category).sum + 13 ≤ (XR X).locals) ∧ k ≤ (XR X).cells ∧ n ≤ (XR X).slots) (hls : ls.size = nL) (d : decode cc pc = .ok (.invokestatic index, 3))
    (kk : GG X k n H locs (pc + 3) ls (.int (iI (max a b)) :: rest)) : GG X k n H locs pc ls (.int (iI b) :: .int (iI a) :: rest) := by
  obtain ⟨p, l, e, R, s, m, args, below, meth, c, Q, A, G, tys⟩ := X
  refine va_mmax C.1 C.2.1 (C.2.2.1.trans hls.symm) C.2.2.2.1 (C.2.2.2.2 _ hml) (C.2.2.2.2 _ st_Math_max) (C.2.2.2.2 _ ini_Math) (C.2.2.2.2 _ cd_Math_max) hR.1.1 hR.1.2 hR.2.1 hR.2.2 d ?_
  rw [show (if iI a < iI b then iI b else iI a) = iI (max a b) by
    by_cases q : a < b
    · rw [if_pos ((iI_lt h).mpr q), Int.max_eq_right (by omega)]
    · rw [if_neg (fun z => q ((iI_lt h).mp z)), Int.max_eq_left (by omega)]]
  exact kk
theorem r_min {a b : Int} (C : Cx cc own nL X) (hml : Cond.methodLink own index Lib.Math.min.name ∈ TB) (h : (-2147483648 ≤ a ∧ a < 2147483648) ∧ (-2147483648 ≤ b ∧ b < 2147483648)) (hR : (1 ≤ (XR X).frames ∧ (rest.map fun v => v.category).sum + 13 ≤ (XR X).locals) ∧ k ≤ (XR X).cells ∧ n ≤ (XR X).slots) (hls : ls.size = nL) (d : decode cc pc = .ok (.invokestatic index, 3))
    (kk : GG X k n H locs (pc + 3) ls (.int (iI (min a b)) :: rest)) : GG X k n H locs pc ls (.int (iI b) :: .int (iI a) :: rest) := by
  obtain ⟨p, l, e, R, s, m, args, below, meth, c, Q, A, G, tys⟩ := X
  refine va_mmin C.1 C.2.1 (C.2.2.1.trans hls.symm) C.2.2.2.1 (C.2.2.2.2 _ hml) (C.2.2.2.2 _ st_Math_min) (C.2.2.2.2 _ ini_Math) (C.2.2.2.2 _ cd_Math_min) hR.1.1 hR.1.2 hR.2.1 hR.2.2 d ?_
  rw [show (if iI b < iI a then iI b else iI a) = iI (min a b) by
    by_cases q : b < a
    · rw [if_pos ((iI_lt ⟨h.2, h.1⟩).mpr q), Int.min_eq_right (by omega)]
    · rw [if_neg (fun z => q ((iI_lt ⟨h.2, h.1⟩).mp z)), Int.min_eq_left (by omega)]]
  exact kk
theorem r_switchIn (C : Cx cc own nL X) {a dflt lo hi off : Int} {offs : Array Int} {len tgt : Nat} (h : -2147483648 ≤ a ∧ a < 2147483648) (h1 : lo ≤ a ∧ a ≤ hi) (ho : offs[(a - lo).toNat]? = some off) (ht : (pc : Int) + off = (tgt : Int)) (d : decode cc pc = .ok (.tableswitch dflt lo hi offs, len))
    (kk : GG X k n H locs tgt ls rest) : GG X k n H locs pc ls (.int (iI a) :: rest) := by
  obtain ⟨p, l, e, R, s, m, args, below, meth, c, Q, A, G, tys⟩ := X
  exact lv_tableIn C.1 C.2.1 d (by rw [iI_toInt h]; omega) (by rw [iI_toInt h]; omega) (by rw [iI_toInt h]; exact ho) ht kk
theorem r_switchOut (C : Cx cc own nL X) {a dflt lo hi : Int} {offs : Array Int} {len tgt : Nat} (h : -2147483648 ≤ a ∧ a < 2147483648) (h1 : a < lo ∨ hi < a) (ht : (pc : Int) + dflt = (tgt : Int)) (d : decode cc pc = .ok (.tableswitch dflt lo hi offs, len))
    (kk : GG X k n H locs tgt ls rest) : GG X k n H locs pc ls (.int (iI a) :: rest) := by
  obtain ⟨p, l, e, R, s, m, args, below, meth, c, Q, A, G, tys⟩ := X
  exact lv_tableOut C.1 C.2.1 d (by rw [iI_toInt h]; omega) ht kk
end CL
def TY (X : List (ClassId × FieldType)) (cI cO cZ : ClassId) : Prop := X[0]? = some (cI, .int) ∧ X[1]? = some (cO, .object "DeadRuns$State") ∧ X[2]? = some (cZ, .boolean)
-- okD rows
theorem hd_D_init : okD y_D_init "DeadRuns" 0 := by unfold okD; decide +kernel
theorem hd_D_set : okD y_D_set "DeadRuns" 2 := by unfold okD; decide +kernel
theorem hd_D_insert : okD y_D_insert "DeadRuns" 3 := by unfold okD; decide +kernel
theorem hd_D_erase : okD y_D_erase "DeadRuns" 2 := by unfold okD; decide +kernel
theorem hd_D_write : okD y_D_write "DeadRuns" 3 := by unfold okD; decide +kernel
theorem hd_D_add : okD y_D_add "DeadRuns" 3 := by unfold okD; decide +kernel
theorem hd_D_kill : okD y_D_kill "DeadRuns" 2 := by unfold okD; decide +kernel
theorem hd_D_revive : okD y_D_revive "DeadRuns" 2 := by unfold okD; decide +kernel
theorem hd_D_turn : okD y_D_turn "DeadRuns" 2 := by unfold okD; decide +kernel
theorem hd_D_move : okD y_D_move "DeadRuns" 3 := by unfold okD; decide +kernel
theorem hd_D_sign : okD y_D_sign "DeadRuns" 1 := by unfold okD; decide +kernel
theorem hd_D_ofRun : okD y_D_ofRun "DeadRuns" 2 := by unfold okD; decide +kernel
theorem hd_D_count : okD y_D_count "DeadRuns" 1 := by unfold okD; decide +kernel
theorem hd_D_howMany : okD y_D_howMany "DeadRuns" 3 := by unfold okD; decide +kernel
theorem hd_D_bit : okD y_D_bit "DeadRuns" 1 := by unfold okD; decide +kernel
theorem hd_D_character : okD y_D_character "DeadRuns" 1 := by unfold okD; decide +kernel
theorem hd_D_size : okD y_D_size "DeadRuns" 1 := by unfold okD; decide +kernel
theorem hd_D_bestCode : okD y_D_bestCode "DeadRuns" 0 := by unfold okD; decide +kernel
theorem hd_D_longestLive : okD y_D_longestLive "DeadRuns" 1 := by unfold okD; decide +kernel
theorem hd_D_find : okD y_D_find "DeadRuns" 2 := by unfold okD; decide +kernel
theorem hd_D_bestWrite : okD y_D_bestWrite "DeadRuns" 1 := by unfold okD; decide +kernel
theorem hd_D_unlikeMirror : okD y_D_unlikeMirror "DeadRuns" 0 := by unfold okD; decide +kernel
theorem hd_D_put : okD y_D_put "DeadRuns" 1 := by unfold okD; decide +kernel
theorem hd_D_wipe : okD y_D_wipe "DeadRuns" 0 := by unfold okD; decide +kernel
theorem hd_D_fault : okD y_D_fault "DeadRuns" 0 := by unfold okD; decide +kernel
theorem hd_D_load : okD y_D_load "DeadRuns" 0 := by unfold okD; decide +kernel
theorem hd_D_undo : okD y_D_undo "DeadRuns" 0 := by unfold okD; decide +kernel
theorem hd_D_save : okD y_D_save "DeadRuns" 1 := by unfold okD; decide +kernel
theorem hd_D_restore : okD y_D_restore "DeadRuns" 1 := by unfold okD; decide +kernel
theorem hd_D_isWithin : okD y_D_isWithin "DeadRuns" 3 := by unfold okD; decide +kernel
theorem hd_D_isPiece : okD y_D_isPiece "DeadRuns" 2 := by unfold okD; decide +kernel
theorem hd_D_edited : okD y_D_edited "DeadRuns" 4 := by unfold okD; decide +kernel
theorem hd_D_accepted : okD y_D_accepted "DeadRuns" 1 := by unfold okD; decide +kernel
theorem hd_D_dropOldest : okD y_D_dropOldest "DeadRuns" 0 := by unfold okD; decide +kernel
theorem hd_M_init : okD y_M_init "DeadRunsModel" 0 := by unfold okD; decide +kernel
theorem hd_M_in : okD y_M_in "DeadRunsModel" 3 := by unfold okD; decide +kernel
theorem hd_M_copies : okD y_M_copies "DeadRunsModel" 4 := by unfold okD; decide +kernel
theorem hd_M_records : okD y_M_records "DeadRunsModel" 0 := by unfold okD; decide +kernel
theorem hd_M_signOf : okD y_M_signOf "DeadRunsModel" 1 := by unfold okD; decide +kernel
theorem hd_M_lengthOf : okD y_M_lengthOf "DeadRunsModel" 1 := by unfold okD; decide +kernel
theorem hd_M_firstOf : okD y_M_firstOf "DeadRunsModel" 1 := by unfold okD; decide +kernel
theorem hd_M_lengthAll : okD y_M_lengthAll "DeadRunsModel" 0 := by unfold okD; decide +kernel
theorem hd_M_laysOut : okD y_M_laysOut "DeadRunsModel" 0 := by unfold okD; decide +kernel
theorem hd_M_runsOfLine : okD y_M_runsOfLine "DeadRunsModel" 0 := by unfold okD; decide +kernel
theorem hd_M_isTooMuch : okD y_M_isTooMuch "DeadRunsModel" 0 := by unfold okD; decide +kernel
theorem hd_M_takesIn : okD y_M_takesIn "DeadRunsModel" 0 := by unfold okD; decide +kernel
theorem hd_M_ends : okD y_M_ends "DeadRunsModel" 1 := by unfold okD; decide +kernel
theorem hd_M_hasPiece : okD y_M_hasPiece "DeadRunsModel" 2 := by unfold okD; decide +kernel
theorem hd_M_countIn : okD y_M_countIn "DeadRunsModel" 3 := by unfold okD; decide +kernel
theorem hd_M_set : okD y_M_set "DeadRunsModel" 2 := by unfold okD; decide +kernel
theorem hd_M_insert : okD y_M_insert "DeadRunsModel" 3 := by unfold okD; decide +kernel
theorem hd_M_erase : okD y_M_erase "DeadRunsModel" 2 := by unfold okD; decide +kernel
theorem hd_M_write : okD y_M_write "DeadRunsModel" 3 := by unfold okD; decide +kernel
theorem hd_M_add : okD y_M_add "DeadRunsModel" 3 := by unfold okD; decide +kernel
theorem hd_M_kill : okD y_M_kill "DeadRunsModel" 2 := by unfold okD; decide +kernel
theorem hd_M_revive : okD y_M_revive "DeadRunsModel" 2 := by unfold okD; decide +kernel
theorem hd_M_turn : okD y_M_turn "DeadRunsModel" 2 := by unfold okD; decide +kernel
theorem hd_M_move : okD y_M_move "DeadRunsModel" 3 := by unfold okD; decide +kernel
theorem hd_M_sign : okD y_M_sign "DeadRunsModel" 1 := by unfold okD; decide +kernel
theorem hd_M_bitsOf : okD y_M_bitsOf "DeadRunsModel" 1 := by unfold okD; decide +kernel
theorem hd_M_lengthBits : okD y_M_lengthBits "DeadRunsModel" 2 := by unfold okD; decide +kernel
theorem hd_M_runBits : okD y_M_runBits "DeadRunsModel" 3 := by unfold okD; decide +kernel
theorem hd_M_sizeBy : okD y_M_sizeBy "DeadRunsModel" 1 := by unfold okD; decide +kernel
theorem hd_M_ofRun : okD y_M_ofRun "DeadRunsModel" 2 := by unfold okD; decide +kernel
theorem hd_M_writes : okD y_M_writes "DeadRunsModel" 1 := by unfold okD; decide +kernel
theorem hd_M_writesAll : okD y_M_writesAll "DeadRunsModel" 0 := by unfold okD; decide +kernel
theorem hd_M_longest : okD y_M_longest "DeadRunsModel" 0 := by unfold okD; decide +kernel
theorem hd_M_sumLive : okD y_M_sumLive "DeadRunsModel" 0 := by unfold okD; decide +kernel
theorem hd_M_count : okD y_M_count "DeadRunsModel" 1 := by unfold okD; decide +kernel
theorem hd_M_howMany : okD y_M_howMany "DeadRunsModel" 3 := by unfold okD; decide +kernel
theorem hd_M_bitAt : okD y_M_bitAt "DeadRunsModel" 3 := by unfold okD; decide +kernel
theorem hd_M_lengthBit : okD y_M_lengthBit "DeadRunsModel" 2 := by unfold okD; decide +kernel
theorem hd_M_bit : okD y_M_bit "DeadRunsModel" 1 := by unfold okD; decide +kernel
theorem hd_M_character : okD y_M_character "DeadRunsModel" 1 := by unfold okD; decide +kernel
theorem hd_M_size : okD y_M_size "DeadRunsModel" 1 := by unfold okD; decide +kernel
theorem hd_M_bestCode : okD y_M_bestCode "DeadRunsModel" 0 := by unfold okD; decide +kernel
theorem hd_M_longestLive : okD y_M_longestLive "DeadRunsModel" 1 := by unfold okD; decide +kernel
theorem hd_M_endsAt : okD y_M_endsAt "DeadRunsModel" 2 := by unfold okD; decide +kernel
theorem hd_M_find : okD y_M_find "DeadRunsModel" 2 := by unfold okD; decide +kernel
theorem hd_M_savedBy : okD y_M_savedBy "DeadRunsModel" 2 := by unfold okD; decide +kernel
theorem hd_M_bestWrite : okD y_M_bestWrite "DeadRunsModel" 1 := by unfold okD; decide +kernel
theorem hd_M_unlikeMirror : okD y_M_unlikeMirror "DeadRunsModel" 0 := by unfold okD; decide +kernel
theorem hd_M_put : okD y_M_put "DeadRunsModel" 1 := by unfold okD; decide +kernel
theorem hd_M_wipe : okD y_M_wipe "DeadRunsModel" 0 := by unfold okD; decide +kernel
theorem hd_M_faultOf : okD y_M_faultOf "DeadRunsModel" 0 := by unfold okD; decide +kernel
theorem hd_M_fault : okD y_M_fault "DeadRunsModel" 0 := by unfold okD; decide +kernel
theorem hd_M_load : okD y_M_load "DeadRunsModel" 0 := by unfold okD; decide +kernel
theorem hd_M_undo : okD y_M_undo "DeadRunsModel" 0 := by unfold okD; decide +kernel
theorem hd_M_save : okD y_M_save "DeadRunsModel" 1 := by unfold okD; decide +kernel
theorem hd_M_restore : okD y_M_restore "DeadRunsModel" 1 := by unfold okD; decide +kernel
theorem hd_C_bitsOfRun : okD y_C_bitsOfRun "DeadRuns$Codes" 3 := by unfold okD; decide +kernel
theorem hd_C_bitOfRun : okD y_C_bitOfRun "DeadRuns$Codes" 4 := by unfold okD; decide +kernel
theorem hd_C_bitsOfSign : okD y_C_bitsOfSign "DeadRuns$Codes" 1 := by unfold okD; decide +kernel
theorem hd_C_bitsOfLength : okD y_C_bitsOfLength "DeadRuns$Codes" 2 := by unfold okD; decide +kernel
theorem hd_C_bitOfLength : okD y_C_bitOfLength "DeadRuns$Codes" 3 := by unfold okD; decide +kernel
theorem hd_C_bitOfNumber : okD y_C_bitOfNumber "DeadRuns$Codes" 3 := by unfold okD; decide +kernel
theorem hd_C_widthOf : okD y_C_widthOf "DeadRuns$Codes" 1 := by unfold okD; decide +kernel
theorem hd_P_init : okD y_P_init "DeadRuns$Pad" 0 := by unfold okD; decide +kernel
theorem hd_P_charactersIn : okD y_P_charactersIn "DeadRuns$Pad" 1 := by unfold okD; decide +kernel
theorem hd_P_tookIn : okD y_P_tookIn "DeadRuns$Pad" 2 := by unfold okD; decide +kernel
theorem hd_P_readInto : okD y_P_readInto "DeadRuns$Pad" 1 := by unfold okD; decide +kernel
theorem hd_P_mayEnd : okD y_P_mayEnd "DeadRuns$Pad" 1 := by unfold okD; decide +kernel
theorem hd_P_isDigit : okD y_P_isDigit "DeadRuns$Pad" 1 := by unfold okD; decide +kernel
theorem hd_P_continuesNumber : okD y_P_continuesNumber "DeadRuns$Pad" 2 := by unfold okD; decide +kernel
theorem hd_S_init : okD y_S_init "DeadRuns$State" 0 := by unfold okD; decide +kernel
theorem hd_S_startLike : okD y_S_startLike "DeadRuns$State" 1 := by unfold okD; decide +kernel
theorem hd_S_becomeCopyOf : okD y_S_becomeCopyOf "DeadRuns$State" 1 := by unfold okD; decide +kernel
theorem hd_S_append : okD y_S_append "DeadRuns$State" 2 := by unfold okD; decide +kernel
theorem hd_S_appendPiece : okD y_S_appendPiece "DeadRuns$State" 3 := by unfold okD; decide +kernel
theorem hd_S_appendAllBut : okD y_S_appendAllBut "DeadRuns$State" 3 := by unfold okD; decide +kernel
theorem hd_S_appendTurned : okD y_S_appendTurned "DeadRuns$State" 4 := by unfold okD; decide +kernel
theorem hd_S_appendLiveFrom : okD y_S_appendLiveFrom "DeadRuns$State" 4 := by unfold okD; decide +kernel
theorem hd_S_appendEdited : okD y_S_appendEdited "DeadRuns$State" 5 := by unfold okD; decide +kernel
theorem hd_S_signAfter : okD y_S_signAfter "DeadRuns$State" 3 := by unfold okD; decide +kernel
theorem hd_S_shared : okD y_S_shared "DeadRuns$State" 4 := by unfold okD; decide +kernel
theorem hd_S_signOf : okD y_S_signOf "DeadRuns$State" 1 := by unfold okD; decide +kernel
theorem hd_S_lengthOf : okD y_S_lengthOf "DeadRuns$State" 1 := by unfold okD; decide +kernel
theorem hd_S_bitsOf : okD y_S_bitsOf "DeadRuns$State" 2 := by unfold okD; decide +kernel
theorem hd_S_firstOf : okD y_S_firstOf "DeadRuns$State" 1 := by unfold okD; decide +kernel
theorem hd_S_signAt : okD y_S_signAt "DeadRuns$State" 1 := by unfold okD; decide +kernel
theorem hd_S_alikeIn : okD y_S_alikeIn "DeadRuns$State" 3 := by unfold okD; decide +kernel
theorem hd_S_sumOfValues : okD y_S_sumOfValues "DeadRuns$State" 0 := by unfold okD; decide +kernel
theorem hd_S_longestRun : okD y_S_longestRun "DeadRuns$State" 0 := by unfold okD; decide +kernel
theorem hd_S_allBits : okD y_S_allBits "DeadRuns$State" 1 := by unfold okD; decide +kernel
theorem hd_S_bitAt : okD y_S_bitAt "DeadRuns$State" 1 := by unfold okD; decide +kernel
theorem hd_S_allCharacters : okD y_S_allCharacters "DeadRuns$State" 0 := by unfold okD; decide +kernel
theorem hd_S_characterAt : okD y_S_characterAt "DeadRuns$State" 1 := by unfold okD; decide +kernel
theorem hd_S_longestLiveStretch : okD y_S_longestLiveStretch "DeadRuns$State" 1 := by unfold okD; decide +kernel
theorem hd_S_firstMatch : okD y_S_firstMatch "DeadRuns$State" 2 := by unfold okD; decide +kernel
theorem hd_S_savedByWriting : okD y_S_savedByWriting "DeadRuns$State" 2 := by unfold okD; decide +kernel
theorem hd_S_unlikeTurned : okD y_S_unlikeTurned "DeadRuns$State" 0 := by unfold okD; decide +kernel
theorem hd_X_charactersOfRun : okD y_X_charactersOfRun "DeadRuns$Texts" 1 := by unfold okD; decide +kernel
theorem hd_X_characterOfRun : okD y_X_characterOfRun "DeadRuns$Texts" 3 := by unfold okD; decide +kernel
theorem hd_X_digitsOf : okD y_X_digitsOf "DeadRuns$Texts" 1 := by unfold okD; decide +kernel
theorem hd_X_inGroupsOf4Bits : okD y_X_inGroupsOf4Bits "DeadRuns$Texts" 1 := by unfold okD; decide +kernel
section R4
variable {X : Ev} {k n : Nat} {H : Heap} {locs : List Loc} {pc nL : Nat} {ls : Array Slot} {rest : List Value} {cc : ByteArray} {own : String}
theorem r_ldc (C : Cx cc own nL X) {index : Nat} {v : Int32} {z : Int} (hc : Cond.constant own index v ∈ TB) (hv : v = iI z) (d : decode cc pc = .ok (.ldc index, 2)) (kk : GG X k n H locs (pc + 2) ls (.int (iI z) :: rest)) : GG X k n H locs pc ls rest := by
  obtain ⟨p, l, e, R, s, m, args, below, meth, c, Q, A, G, tys⟩ := X
  subst hv
  exact lv_ldc C.1 C.2.1 C.2.2.2.1 (C.2.2.2.2 _ hc) d kk
end R4
end
section
/-! the mathematics of rows: prefix sums, runs of a row, rows kept as runs -/
def psN (f : Int → Int) : Nat → Int
  | 0 => 0
  | k + 1 => psN f k + f (k : Int)
def ps (f : Int → Int) (k : Int) : Int := psN f k.toNat
theorem ps_zero (f : Int → Int) : ps f 0 = 0 := rfl
theorem toNat_succ {k : Int} (h : 0 ≤ k) : (k + 1).toNat = k.toNat + 1 := by omega
theorem ps_succ (f : Int → Int) {k : Int} (h : 0 ≤ k) : ps f (k + 1) = ps f k + f k := by
  unfold ps
  rw [toNat_succ h]
  show psN f k.toNat + f ((k.toNat : Nat) : Int) = _
  rw [Int.toNat_of_nonneg h]
/-- induction over whole numbers from 0 on -/
theorem int_ind {P : Int → Prop} (h0 : P 0) (hs : ∀ k, 0 ≤ k → P k → P (k + 1)) : ∀ k, 0 ≤ k → P k := by
  intro k hk
  have h : ∀ n : Nat, P (n : Int) := by
    intro n
    induction n with
    | zero => exact h0
    | succ n ih => exact hs n (by omega) ih
  rw [← Int.toNat_of_nonneg hk]
  exact h _
theorem ps_congr {f g : Int → Int} : ∀ k, 0 ≤ k → (∀ j, 0 ≤ j → j < k → f j = g j) → ps f k = ps g k := by
  refine int_ind (fun _ => rfl) (fun k hk ih h => ?_)
  rw [ps_succ f hk, ps_succ g hk, ih (fun j h1 h2 => h j h1 (by omega)), h k hk (by omega)]
theorem ps_mono {f : Int → Int} {j : Int} (hj : 0 ≤ j) : ∀ m, 0 ≤ m → (∀ i, 0 ≤ i → i < j + m → 0 ≤ f i) → ps f j ≤ ps f (j + m) := by
  refine int_ind (fun _ => by simp) (fun m hm ih h => ?_)
  rw [← Int.add_assoc, ps_succ f (by omega)]
  have h1 := ih (fun i h1 h2 => h i h1 (by omega))
  have h2 := h (j + m) (by omega) (by omega)
  omega
theorem ps_le {f : Int → Int} {j k : Int} (hj : 0 ≤ j) (hk : j ≤ k) (h : ∀ i, 0 ≤ i → i < k → 0 ≤ f i) : ps f j ≤ ps f k := by
  have := ps_mono (f := f) hj (k - j) (by omega) (fun i h1 h2 => h i h1 (by omega))
  rwa [show j + (k - j) = k by omega] at this
/-- how many runs the first n signs of v have -/
def rcN (v : Int → Int) : Nat → Int
  | 0 => 0
  | k + 1 => rcN v k + (if (k : Int) = 0 ∨ v (k : Int) ≠ v ((k : Int) - 1) then 1 else 0)
def rc (v : Int → Int) (n : Int) : Int := rcN v n.toNat
theorem rc_zero (v : Int → Int) : rc v 0 = 0 := rfl
theorem rc_succ (v : Int → Int) {k : Int} (h : 0 ≤ k) : rc v (k + 1) = rc v k + (if k = 0 ∨ v k ≠ v (k - 1) then 1 else 0) := by
  unfold rc
  rw [toNat_succ h]
  show rcN v k.toNat + (if ((k.toNat : Nat) : Int) = 0 ∨ v ((k.toNat : Nat) : Int) ≠ v (((k.toNat : Nat) : Int) - 1) then 1 else 0) = _
  rw [Int.toNat_of_nonneg h]
theorem rc_succ_le (v : Int → Int) {k : Int} (h : 0 ≤ k) : rc v k ≤ rc v (k + 1) ∧ rc v (k + 1) ≤ rc v k + 1 := by
  rw [rc_succ v h]
  split <;> omega
theorem rc_congr {v u : Int → Int} : ∀ n, 0 ≤ n → (∀ x, 0 ≤ x → x < n → v x = u x) → rc v n = rc u n := by
  refine int_ind (fun _ => rfl) (fun k hk ih h => ?_)
  rw [rc_succ v hk, rc_succ u hk, ih (fun j h1 h2 => h j h1 (by omega)), h k hk (by omega)]
  by_cases h0 : k = 0
  · simp [h0]
  · rw [h (k - 1) (by omega) (by omega)]
theorem rc_nonneg (v : Int → Int) : ∀ n, 0 ≤ n → 0 ≤ rc v n := by
  refine int_ind (by rw [rc_zero]; omega) (fun k hk ih => ?_)
  have := (rc_succ_le v hk).1
  omega
theorem rc_le (v : Int → Int) : ∀ n, 0 ≤ n → rc v n ≤ n := by
  refine int_ind (by rw [rc_zero]; omega) (fun k hk ih => ?_)
  have := (rc_succ_le v hk).2
  omega
theorem rc_mono (v : Int → Int) {a : Int} (ha : 0 ≤ a) : ∀ m, 0 ≤ m → rc v a ≤ rc v (a + m) := by
  refine int_ind (by simp) (fun m hm ih => ?_)
  have := (rc_succ_le v (k := a + m) (by omega)).1
  rw [← Int.add_assoc]
  omega
/-- one more run of m like signs -/
theorem rc_run {v : Int → Int} {a s : Int} (ha : 0 ≤ a) : ∀ m, 0 ≤ m → (∀ x, a ≤ x → x < a + m + 1 → v x = s) → rc v (a + m + 1) = rc v a + (if a = 0 ∨ v (a - 1) ≠ s then 1 else 0) := by
  refine int_ind (fun h => ?_) (fun m hm ih h => ?_)
  · rw [show a + 0 + 1 = a + 1 by omega, rc_succ v ha, h a (by omega) (by omega)]
    by_cases h0 : a = 0
    · simp [h0]
    · have : (a = 0 ∨ s ≠ v (a - 1)) ↔ (a = 0 ∨ v (a - 1) ≠ s) := by constructor <;> (intro q; rcases q with q | q; exact Or.inl q; exact Or.inr (fun z => q z.symm))
      simp only [this]
  · rw [show a + (m + 1) + 1 = (a + m + 1) + 1 by omega, rc_succ v (by omega), ih (fun x h1 h2 => h x h1 (by omega)), h (a + m + 1) (by omega) (by omega), h (a + m + 1 - 1) (by omega) (by omega)]
    rw [if_neg (by omega : ¬ (a + m + 1 = 0 ∨ s ≠ s))]
    omega
/-- v with signs s from place n on -/
def app (v : Int → Int) (n s : Int) : Int → Int := fun x => if x < n then v x else s
theorem app_lt {v : Int → Int} {n s x : Int} (h : x < n) : app v n s x = v x := by simp [app, h]
theorem app_ge {v : Int → Int} {n s x : Int} (h : n ≤ x) : app v n s x = s := by simp [app]; omega
theorem rc_app {v : Int → Int} {n s m : Int} (hn : 0 ≤ n) (hm : 1 ≤ m) : rc (app v n s) (n + m) = rc v n + (if n = 0 ∨ v (n - 1) ≠ s then 1 else 0) := by
  have h := rc_run (v := app v n s) (s := s) hn (m - 1) (by omega) (fun x h1 h2 => app_ge h1)
  rw [show n + (m - 1) + 1 = n + m by omega] at h
  rw [h, rc_congr n hn (fun x _ h2 => app_lt (s := s) h2)]
  by_cases h0 : n = 0
  · simp [h0]
  · rw [app_lt (by omega : n - 1 < n)]
/-- r runs of signs sg and lengths ln are the row v of n signs -/
def Ok (r : Int) (sg ln : Int → Int) (n : Int) (v : Int → Int) : Prop :=
  0 ≤ r ∧ (∀ k, 0 ≤ k → k < r → 1 ≤ ln k ∧ 0 ≤ sg k ∧ sg k ≤ 10) ∧ (∀ k, 1 ≤ k → k < r → sg k ≠ sg (k - 1)) ∧ ps ln r = n ∧ ∀ k, 0 ≤ k → k < r → ∀ x, ps ln k ≤ x → x < ps ln (k + 1) → v x = sg k
theorem Ok.empty (sg ln v : Int → Int) : Ok 0 sg ln 0 v := ⟨by omega, fun k _ _ => by omega, fun k _ _ => by omega, rfl, fun k _ _ => by omega⟩
theorem Ok.ln {r n : Int} {sg ln v : Int → Int} (h : Ok r sg ln n v) {k : Int} (h1 : 0 ≤ k) (h2 : k < r) : 1 ≤ ln k := (h.2.1 k h1 h2).1
theorem Ok.sg {r n : Int} {sg ln v : Int → Int} (h : Ok r sg ln n v) {k : Int} (h1 : 0 ≤ k) (h2 : k < r) : 0 ≤ sg k ∧ sg k ≤ 10 := (h.2.1 k h1 h2).2
theorem Ok.ps0 {r n : Int} {sg ln v : Int → Int} (h : Ok r sg ln n v) {k : Int} (h1 : 0 ≤ k) (h2 : k ≤ r) : 0 ≤ ps ln k ∧ ps ln k ≤ n := by
  refine ⟨?_, ?_⟩
  · have := ps_le (f := ln) (j := 0) (k := k) (by omega) h1 (fun i h3 h4 => by have := h.ln h3 (by omega); omega)
    rwa [ps_zero] at this
  · rw [← h.2.2.2.1]
    exact ps_le h1 h2 (fun i h3 h4 => by have := h.ln h3 h4; omega)
theorem Ok.n0 {r n : Int} {sg ln v : Int → Int} (h : Ok r sg ln n v) : 0 ≤ n := by
  have h1 := (h.ps0 (k := r) h.1 (by omega)).1
  have h2 := h.2.2.2.1
  omega
/-- what a run's own facts say together -/
theorem Ok.run {r n : Int} {sg ln v : Int → Int} (h : Ok r sg ln n v) {k : Int} (h1 : 0 ≤ k) (h2 : k < r) : 1 ≤ ln k ∧ 0 ≤ sg k ∧ sg k ≤ 10 ∧ 0 ≤ ps ln k ∧ ps ln (k + 1) = ps ln k + ln k ∧ ps ln (k + 1) ≤ n :=
  ⟨h.ln h1 h2, (h.sg h1 h2).1, (h.sg h1 h2).2, (h.ps0 h1 (by omega)).1, ps_succ ln h1, (h.ps0 (k := k + 1) (by omega) (by omega)).2⟩
theorem Ok.le {r n : Int} {sg ln v : Int → Int} (h : Ok r sg ln n v) : ∀ k, 0 ≤ k → k ≤ r → k ≤ ps ln k := by
  refine int_ind (fun _ => by rw [ps_zero]; omega) (fun k hk ih h2 => ?_)
  have h1 := ih (by omega)
  have h3 := h.ln hk (by omega)
  rw [ps_succ ln hk]
  omega
theorem Ok.rcs {r n : Int} {sg ln v : Int → Int} (h : Ok r sg ln n v) : ∀ k, 0 ≤ k → k ≤ r → rc v (ps ln k) = k := by
  refine int_ind (fun _ => by rw [ps_zero, rc_zero]) (fun k hk ih h2 => ?_)
  have h1 := ih (by omega)
  obtain ⟨g1, g2, g3, g4, g5, g6⟩ := h.run hk (by omega : k < r)
  have h3 := rc_run (v := v) (a := ps ln k) (s := sg k) g4 (ln k - 1) (by omega) (fun x q1 q2 => h.2.2.2.2 k hk (by omega) x q1 (by omega))
  rw [show ps ln k + (ln k - 1) + 1 = ps ln (k + 1) by omega] at h3
  rw [h3, h1]
  have h4 : ps ln k = 0 ∨ v (ps ln k - 1) ≠ sg k := by
    by_cases h0 : k = 0
    · left; rw [h0, ps_zero]
    · right
      obtain ⟨f1, f2, f3, f4, f5, f6⟩ := h.run (k := k - 1) (by omega) (by omega)
      rw [show k - 1 + 1 = k by omega] at f5
      rw [h.2.2.2.2 (k - 1) (by omega) (by omega) (ps ln k - 1) (by omega) (by rw [show k - 1 + 1 = k by omega]; omega)]
      exact fun z => h.2.2.1 k (by omega) (by omega) z.symm
  rw [if_pos h4]
theorem Ok.rcE {r n : Int} {sg ln v : Int → Int} (h : Ok r sg ln n v) : rc v n = r := by
  have := h.rcs r h.1 (by omega)
  rwa [h.2.2.2.1] at this
theorem Ok.ext {r n : Int} {sg ln v u : Int → Int} (h : Ok r sg ln n v) (hv : ∀ x, 0 ≤ x → x < n → v x = u x) : Ok r sg ln n u := by
  refine ⟨h.1, h.2.1, h.2.2.1, h.2.2.2.1, fun k h1 h2 x h3 h4 => ?_⟩
  obtain ⟨g1, g2, g3, g4, g5, g6⟩ := h.run h1 h2
  rw [← hv x (by omega) (by omega)]
  exact h.2.2.2.2 k h1 h2 x h3 h4
theorem Ok.congr {r n : Int} {sg ln sg' ln' v : Int → Int} (h : Ok r sg ln n v) (hs : ∀ k, 0 ≤ k → k < r → sg' k = sg k) (hl : ∀ k, 0 ≤ k → k < r → ln' k = ln k) : Ok r sg' ln' n v := by
  have hp : ∀ k, 0 ≤ k → k ≤ r → ps ln' k = ps ln k := fun k h1 h2 => ps_congr k h1 (fun j h3 h4 => hl j h3 (by omega))
  refine ⟨h.1, fun k h1 h2 => ?_, fun k h1 h2 => ?_, ?_, fun k h1 h2 x h3 h4 => ?_⟩
  · rw [hs k h1 h2, hl k h1 h2]; exact h.2.1 k h1 h2
  · rw [hs k (by omega) h2, hs (k - 1) (by omega) (by omega)]; exact h.2.2.1 k h1 h2
  · rw [hp r h.1 (by omega)]; exact h.2.2.2.1
  · rw [hp k h1 (by omega)] at h3
    rw [hp (k + 1) (by omega) (by omega)] at h4
    rw [hs k h1 h2]; exact h.2.2.2.2 k h1 h2 x h3 h4
/-- a longer last run -/
theorem Ok.join {r n s m : Int} {sg ln v : Int → Int} (h : Ok r sg ln n v) (h0 : 1 ≤ r) (hs : sg (r - 1) = s) (hm : 0 ≤ m) : Ok r sg (up ln (r - 1) (ln (r - 1) + m)) (n + m) (app v n s) := by
  have hp : ∀ k, 0 ≤ k → k ≤ r - 1 → ps (up ln (r - 1) (ln (r - 1) + m)) k = ps ln k := fun k h1 h2 => ps_congr k h1 (fun j h3 h4 => up_ne _ _ (by omega))
  have hr := h.run (k := r - 1) (by omega) (by omega)
  rw [show r - 1 + 1 = r by omega, h.2.2.2.1] at hr
  obtain ⟨g1, g2, g3, g4, g5, g6⟩ := hr
  have hq : ps (up ln (r - 1) (ln (r - 1) + m)) r = n + m := by
    have := ps_succ (up ln (r - 1) (ln (r - 1) + m)) (k := r - 1) (by omega)
    rw [show r - 1 + 1 = r by omega, up_eq, hp (r - 1) (by omega) (by omega)] at this
    omega
  refine ⟨h.1, fun k h1 h2 => ⟨?_, h.sg h1 h2⟩, h.2.2.1, hq, fun k h1 h2 x h3 h4 => ?_⟩
  · by_cases hk : k = r - 1
    · subst hk; rw [up_eq]; omega
    · rw [up_ne _ _ hk]; exact h.ln h1 h2
  · by_cases hk : k = r - 1
    · subst hk
      rw [hp (r - 1) (by omega) (by omega)] at h3
      by_cases hx : x < n
      · rw [app_lt hx]
        exact h.2.2.2.2 (r - 1) h1 h2 x h3 (by rw [show r - 1 + 1 = r by omega, h.2.2.2.1]; exact hx)
      · rw [app_ge (by omega), hs]
    · rw [hp k h1 (by omega)] at h3
      rw [hp (k + 1) (by omega) (by omega)] at h4
      have := (h.ps0 (k := k + 1) (by omega) (by omega)).2
      rw [app_lt (by omega)]
      exact h.2.2.2.2 k h1 h2 x h3 h4
/-- a new last run -/
theorem Ok.push {r n s m : Int} {sg ln v : Int → Int} (h : Ok r sg ln n v) (h0 : r = 0 ∨ sg (r - 1) ≠ s) (hm : 1 ≤ m) (hs : 0 ≤ s ∧ s ≤ 10) : Ok (r + 1) (up sg r s) (up ln r m) (n + m) (app v n s) := by
  have hp : ∀ k, 0 ≤ k → k ≤ r → ps (up ln r m) k = ps ln k := fun k h1 h2 => ps_congr k h1 (fun j h3 h4 => up_ne _ _ (by omega))
  have hr := h.1
  have hn := h.2.2.2.1
  have hq : ps (up ln r m) (r + 1) = n + m := by
    rw [ps_succ _ hr, up_eq, hp r hr (by omega)]
    omega
  refine ⟨by omega, fun k h1 h2 => ?_, fun k h1 h2 => ?_, hq, fun k h1 h2 x h3 h4 => ?_⟩
  · by_cases hk : k = r
    · subst hk; rw [up_eq, up_eq]; exact ⟨hm, hs⟩
    · rw [up_ne _ _ hk, up_ne _ _ hk]; exact h.2.1 k h1 (by omega)
  · by_cases hk : k = r
    · subst hk
      rw [up_eq, up_ne _ _ (by omega)]
      rcases h0 with h0 | h0
      · omega
      · exact fun z => h0 z.symm
    · rw [up_ne _ _ hk, up_ne _ _ (by omega)]; exact h.2.2.1 k h1 (by omega)
  · by_cases hk : k = r
    · subst hk
      rw [hp k h1 (by omega)] at h3
      rw [up_eq, app_ge (by omega)]
    · rw [hp k h1 (by omega)] at h3
      rw [hp (k + 1) (by omega) (by omega)] at h4
      have := (h.ps0 (k := k + 1) (by omega) (by omega)).2
      rw [app_lt (by omega), up_ne _ _ hk]
      exact h.2.2.2.2 k h1 (by omega) x h3 h4
theorem Ok.last {r n : Int} {sg ln v : Int → Int} (h : Ok r sg ln n v) (h0 : 1 ≤ r) : 1 ≤ n ∧ v (n - 1) = sg (r - 1) := by
  have hr := h.run (k := r - 1) (by omega) (by omega)
  rw [show r - 1 + 1 = r by omega, h.2.2.2.1] at hr
  exact ⟨by omega, h.2.2.2.2 (r - 1) (by omega) (by omega) (n - 1) (by omega) (by rw [show r - 1 + 1 = r by omega, h.2.2.2.1]; omega)⟩
theorem Ok.n_zero {r n : Int} {sg ln v : Int → Int} (h : Ok r sg ln n v) : r = 0 ↔ n = 0 := by
  constructor
  · intro q; have := h.2.2.2.1; rw [q, ps_zero] at this; omega
  · intro q
    have h1 := h.1
    by_cases h0 : r = 0
    · exact h0
    · have := (h.last (by omega)).1; omega
/-- the same row has the same runs -/
theorem Ok.uniq {r r' n : Int} {sg ln sg' ln' v : Int → Int} (h : Ok r sg ln n v) (h' : Ok r' sg' ln' n v) : r = r' ∧ ∀ k, 0 ≤ k → k < r → sg k = sg' k ∧ ln k = ln' k := by
  have hr : r = r' := h.rcE.symm.trans h'.rcE
  subst hr
  have hp : ∀ k, 0 ≤ k → k ≤ r → ps ln k = ps ln' k := by
    refine int_ind (fun _ => rfl) (fun k hk ih h2 => ?_)
    have ih := ih (by omega)
    have h3 := h.rcs (k + 1) (by omega) h2
    have h4 := h'.rcs (k + 1) (by omega) h2
    have a1 := h.run hk (by omega)
    have a2 := h'.run hk (by omega)
    rcases Int.lt_trichotomy (ps ln (k + 1)) (ps ln' (k + 1)) with q | q | q
    · exfalso
      have b1 := h.2.2.2.2
      by_cases e : k + 1 = r
      · rw [e, h.2.2.2.1, h'.2.2.2.1] at q; omega
      · have a3 := h.run (k := k + 1) (by omega) (by omega)
        have c1 := h'.2.2.2.2 k hk (by omega) (ps ln (k + 1)) (by omega) q
        have c2 := h'.2.2.2.2 k hk (by omega) (ps ln (k + 1) - 1) (by omega) (by omega)
        have d1 := h.2.2.2.2 (k + 1) (by omega) (by omega) (ps ln (k + 1)) (by omega) (by omega)
        have d2 := h.2.2.2.2 k hk (by omega) (ps ln (k + 1) - 1) (by omega) (by omega)
        have := h.2.2.1 (k + 1) (by omega) (by omega)
        rw [show k + 1 - 1 = k by omega] at this
        exact this (by rw [← d1, ← d2, c1, c2])
    · exact q
    · exfalso
      by_cases e : k + 1 = r
      · rw [e, h.2.2.2.1, h'.2.2.2.1] at q; omega
      · have a3 := h'.run (k := k + 1) (by omega) (by omega)
        have c1 := h.2.2.2.2 k hk (by omega) (ps ln' (k + 1)) (by omega) q
        have c2 := h.2.2.2.2 k hk (by omega) (ps ln' (k + 1) - 1) (by omega) (by omega)
        have d1 := h'.2.2.2.2 (k + 1) (by omega) (by omega) (ps ln' (k + 1)) (by omega) (by omega)
        have d2 := h'.2.2.2.2 k hk (by omega) (ps ln' (k + 1) - 1) (by omega) (by omega)
        have := h'.2.2.1 (k + 1) (by omega) (by omega)
        rw [show k + 1 - 1 = k by omega] at this
        exact this (by rw [← d1, ← d2, c1, c2])
  refine ⟨rfl, fun k h1 h2 => ?_⟩
  have e1 := hp k h1 (by omega)
  have e2 := hp (k + 1) (by omega) (by omega)
  have a1 := h.run h1 h2
  have a2 := h'.run h1 h2
  refine ⟨?_, by omega⟩
  rw [← h.2.2.2.2 k h1 h2 (ps ln k) (by omega) (by omega), ← h'.2.2.2.2 k h1 h2 (ps ln k) (by omega) (by omega)]
/-- a State holds the row v of n signs that was appended to it, as far as it fits -/
def fits_ (n : Int) (v : Int → Int) : Prop := n ≤ 3000 ∧ rc v n ≤ 50
def RV (r pl ov : Int) (sg ln : Int → Int) (n : Int) (v : Int → Int) : Prop :=
  0 ≤ n ∧ (fits_ n v → ov = 0 ∧ pl = n ∧ Ok r sg ln n v) ∧ (¬ fits_ n v → ov = 1)
theorem RV.empty (sg ln v : Int → Int) : RV 0 0 0 sg ln 0 v := ⟨by omega, fun _ => ⟨rfl, rfl, Ok.empty sg ln v⟩, fun h => absurd (show fits_ 0 v from ⟨by omega, by rw [rc_zero]; omega⟩) h⟩
theorem fits_ext {n : Int} {v u : Int → Int} (h0 : 0 ≤ n) (hv : ∀ x, 0 ≤ x → x < n → v x = u x) : fits_ n v ↔ fits_ n u := by
  unfold fits_
  rw [rc_congr n h0 hv]
theorem RV.ext {r pl ov n : Int} {sg ln v u : Int → Int} (h : RV r pl ov sg ln n v) (hv : ∀ x, 0 ≤ x → x < n → v x = u x) : RV r pl ov sg ln n u := by
  refine ⟨h.1, fun q => ?_, fun q => ?_⟩
  · obtain ⟨h1, h2, h3⟩ := h.2.1 ((fits_ext h.1 hv).mpr q)
    exact ⟨h1, h2, h3.ext hv⟩
  · exact h.2.2 (fun z => q ((fits_ext h.1 hv).mp z))
theorem RV.ov01 {r pl ov n : Int} {sg ln v : Int → Int} (h : RV r pl ov sg ln n v) : (ov = 0 ∧ pl = n ∧ Ok r sg ln n v ∧ n ≤ 3000 ∧ r ≤ 50) ∨ (ov = 1 ∧ ¬ fits_ n v) := by
  by_cases q : fits_ n v
  · obtain ⟨h1, h2, h3⟩ := h.2.1 q
    exact Or.inl ⟨h1, h2, h3, q.1, by rw [← h3.rcE]; exact q.2⟩
  · exact Or.inr ⟨h.2.2 q, q⟩
theorem fits_app {n s m : Int} {v : Int → Int} (hn : 0 ≤ n) (hm : 0 ≤ m) (h : fits_ (n + m) (app v n s)) : fits_ n v := by
  obtain ⟨h1, h2⟩ := h
  refine ⟨by omega, ?_⟩
  have h3 := rc_mono (app v n s) hn m hm
  rw [rc_congr (u := v) n hn (fun x _ h2 => app_lt (s := s) h2)] at h3
  omega
/-- append of nothing, or to a row that is too large already -/
theorem RV.noop {r pl ov n s m : Int} {sg ln v : Int → Int} (h : RV r pl ov sg ln n v) (hm : m < 1 ∨ ¬ ov = 0) : RV r pl ov sg ln (n + max 0 m) (app v n s) := by
  by_cases q : m < 1
  · rw [show n + max 0 m = n by omega]
    exact h.ext (fun x _ h2 => (app_lt h2).symm)
  · rcases h.ov01 with ⟨h1, -⟩ | ⟨h1, h2⟩
    · omega
    · have h0 := h.1
      exact ⟨by omega, fun z => absurd (fits_app h0 (by omega) z) h2, fun _ => h1⟩
theorem RV.over {r pl ov n s m : Int} {sg ln v : Int → Int} (h : RV r pl ov sg ln n v) (hm : 1 ≤ m) (h0 : ov = 0) (hx : 3000 - pl < m ∨ (50 ≤ r ∧ (r = 0 ∨ sg (r - 1) ≠ s))) : RV r pl 1 sg ln (n + max 0 m) (app v n s) := by
  rcases h.ov01 with ⟨-, h2, h3, h4, h5⟩ | ⟨h1, h2⟩
  · have hn := h.1
    rw [show n + max 0 m = n + m by omega]
    refine ⟨by omega, fun z => ?_, fun _ => rfl⟩
    exfalso
    obtain ⟨z1, z2⟩ := z
    rcases hx with hx | ⟨hx, hx2⟩
    · omega
    · rw [rc_app hn hm, h3.rcE] at z2
      have hl := h3.last (by omega)
      rw [if_pos (by rcases hx2 with q | q; exact absurd q (by omega); right; rw [hl.2]; exact q)] at z2
      omega
  · omega
theorem RV.join {r pl ov n s m : Int} {sg ln v : Int → Int} (h : RV r pl ov sg ln n v) (hm : 1 ≤ m) (h0 : ov = 0) (hx : m ≤ 3000 - pl) (h1 : 1 ≤ r) (hs : sg (r - 1) = s) : RV r (pl + m) ov sg (up ln (r - 1) (ln (r - 1) + m)) (n + max 0 m) (app v n s) := by
  rcases h.ov01 with ⟨-, h2, h3, h4, h5⟩ | ⟨q1, q2⟩
  · have hn := h.1
    rw [show n + max 0 m = n + m by omega]
    have hj := h3.join h1 hs (m := m) (by omega)
    exact ⟨by omega, fun _ => ⟨h0, by omega, hj⟩, fun z => absurd (show fits_ _ _ from ⟨by omega, by rw [hj.rcE]; exact h5⟩) z⟩
  · omega
theorem RV.push {r pl ov n s m : Int} {sg ln v : Int → Int} (h : RV r pl ov sg ln n v) (hm : 1 ≤ m) (h0 : ov = 0) (hx : m ≤ 3000 - pl) (h1 : r < 50) (hs : r = 0 ∨ sg (r - 1) ≠ s) (hs2 : 0 ≤ s ∧ s ≤ 10) : RV (r + 1) (pl + m) ov (up sg r s) (up ln r m) (n + max 0 m) (app v n s) := by
  rcases h.ov01 with ⟨-, h2, h3, h4, h5⟩ | ⟨q1, q2⟩
  · have hn := h.1
    rw [show n + max 0 m = n + m by omega]
    have hj := h3.push hs hm hs2
    exact ⟨by omega, fun _ => ⟨h0, by omega, hj⟩, fun z => absurd (show fits_ _ _ from ⟨by omega, by rw [hj.rcE]; omega⟩) z⟩
  · omega
/-- a State's three cells, and what they hold -/
abbrev SD : Type := Nat × Nat × Nat × (Int → Int) × (Int → Int) × Int × Int × Int × Int × Int
def sw (cI : ClassId) (q a b : Nat) (sg ln : Int → Int) (r pl ov lc sd : Int) : va_W := [(q, .inr (1, [.ref a, .ref b, .int (iI r), .int (iI pl), .int (iI ov), .int (iI lc), .int (iI sd)])), (a, aI cI 50 sg), (b, aI cI 50 ln)]
end
section
theorem d_D_isWithin_0 : decode b_D_isWithin 0 = .ok (.iload_n 0, 1) := by decide +kernel
theorem d_D_isWithin_1 : decode b_D_isWithin 1 = .ok (.iload_n 1, 1) := by decide +kernel
theorem d_D_isWithin_2 : decode b_D_isWithin 2 = .ok (.if_icmp .lt 12, 3) := by decide +kernel
theorem d_D_isWithin_5 : decode b_D_isWithin 5 = .ok (.iload_n 0, 1) := by decide +kernel
theorem d_D_isWithin_6 : decode b_D_isWithin 6 = .ok (.iload_n 2, 1) := by decide +kernel
theorem d_D_isWithin_7 : decode b_D_isWithin 7 = .ok (.if_icmp .gt 7, 3) := by decide +kernel
theorem d_D_isWithin_10 : decode b_D_isWithin 10 = .ok (.iconst 1, 1) := by decide +kernel
theorem d_D_isWithin_11 : decode b_D_isWithin 11 = .ok (.goto 4, 3) := by decide +kernel
theorem d_D_isWithin_14 : decode b_D_isWithin 14 = .ok (.iconst 0, 1) := by decide +kernel
theorem d_D_isWithin_15 : decode b_D_isWithin 15 = .ok (.ireturn, 1) := by decide +kernel
set_option maxHeartbeats 4000000 in
set_option maxRecDepth 20000 in
theorem c_D_isWithin {l : Launch} {G : va_G} {tys : List (ClassId × FieldType)} (a b c : Int) (h : (-2147483648 ≤ a ∧ a < 2147483648) ∧ (-2147483648 ≤ b ∧ b < 2147483648) ∧ (-2147483648 ≤ c ∧ c < 2147483648)) : CTP l G tys y_D_isWithin b_D_isWithin 3 .boolean 0 0 [.int (iI a), .int (iI b), .int (iI c)] (fun z => (z = 1 ∧ b ≤ a ∧ a ≤ c) ∨ (z = 0 ∧ ¬ (b ≤ a ∧ a ≤ c))) := by
  unfold CTP
  refine mkZ (by decide) (Nat.le_of_ble_eq_true rfl) ?_
  rintro X rfl rfl rfl hRm C kret H ls w hl
  have hl : lv_has ls 3 [(0, .int (iI a)), (1, .int (iI b)), (2, .int (iI c))] := hl
  have w : Wd X ([]) H [] := w
  generalize ([] : List Loc) = locs at w ⊢
  refine r_iload_n (pc := 0) C d_D_isWithin_0 rfl (lv_at hl 0 rfl) ?_
  refine r_iload_n (pc := 1) C d_D_isWithin_1 rfl (lv_at hl 1 rfl) ?_
  refine r_icmp_lt (pc := 2) (tgt := 14) C (by omega) d_D_isWithin_2 (by decide) (fun c_2 => ?_) (fun c_2 => ?_)
  · skip
    refine r_iconst (pc := 14) C d_D_isWithin_14 ?_
    exact kret _ _ _ _ 0 _ d_D_isWithin_15 w (by omega) (⟨rfl, by omega⟩)
  · skip
    refine r_iload_n (pc := 5) C d_D_isWithin_5 rfl (lv_at hl 0 rfl) ?_
    refine r_iload_n (pc := 6) C d_D_isWithin_6 rfl (lv_at hl 2 rfl) ?_
    refine r_icmp_gt (pc := 7) (tgt := 14) C (by omega) d_D_isWithin_7 (by decide) (fun c_7 => ?_) (fun c_7 => ?_)
    · skip
      refine r_iconst (pc := 14) C d_D_isWithin_14 ?_
      exact kret _ _ _ _ 0 _ d_D_isWithin_15 w (by omega) (⟨rfl, by omega⟩)
    · skip
      refine r_iconst (pc := 10) C d_D_isWithin_10 ?_
      refine r_goto (pc := 11) (tgt := 15) C d_D_isWithin_11 (by decide) ?_
      exact kret _ _ _ _ 1 _ d_D_isWithin_15 w (by omega) (⟨rfl, by omega⟩)
theorem d_M_in_0 : decode b_M_in 0 = .ok (.iload_n 0, 1) := by decide +kernel
theorem d_M_in_1 : decode b_M_in 1 = .ok (.iload_n 1, 1) := by decide +kernel
theorem d_M_in_2 : decode b_M_in 2 = .ok (.if_icmp .lt 12, 3) := by decide +kernel
theorem d_M_in_5 : decode b_M_in 5 = .ok (.iload_n 0, 1) := by decide +kernel
theorem d_M_in_6 : decode b_M_in 6 = .ok (.iload_n 2, 1) := by decide +kernel
theorem d_M_in_7 : decode b_M_in 7 = .ok (.if_icmp .gt 7, 3) := by decide +kernel
theorem d_M_in_10 : decode b_M_in 10 = .ok (.iconst 1, 1) := by decide +kernel
theorem d_M_in_11 : decode b_M_in 11 = .ok (.goto 4, 3) := by decide +kernel
theorem d_M_in_14 : decode b_M_in 14 = .ok (.iconst 0, 1) := by decide +kernel
theorem d_M_in_15 : decode b_M_in 15 = .ok (.ireturn, 1) := by decide +kernel
set_option maxHeartbeats 4000000 in
set_option maxRecDepth 20000 in
theorem c_M_in {l : Launch} {G : va_G} {tys : List (ClassId × FieldType)} (a b c : Int) (h : (-2147483648 ≤ a ∧ a < 2147483648) ∧ (-2147483648 ≤ b ∧ b < 2147483648) ∧ (-2147483648 ≤ c ∧ c < 2147483648)) : CTP l G tys y_M_in b_M_in 3 .boolean 0 0 [.int (iI a), .int (iI b), .int (iI c)] (fun z => (z = 1 ∧ b ≤ a ∧ a ≤ c) ∨ (z = 0 ∧ ¬ (b ≤ a ∧ a ≤ c))) := by
  unfold CTP
  refine mkZ (by decide) (Nat.le_of_ble_eq_true rfl) ?_
  rintro X rfl rfl rfl hRm C kret H ls w hl
  have hl : lv_has ls 3 [(0, .int (iI a)), (1, .int (iI b)), (2, .int (iI c))] := hl
  have w : Wd X ([]) H [] := w
  generalize ([] : List Loc) = locs at w ⊢
  refine r_iload_n (pc := 0) C d_M_in_0 rfl (lv_at hl 0 rfl) ?_
  refine r_iload_n (pc := 1) C d_M_in_1 rfl (lv_at hl 1 rfl) ?_
  refine r_icmp_lt (pc := 2) (tgt := 14) C (by omega) d_M_in_2 (by decide) (fun c_2 => ?_) (fun c_2 => ?_)
  · skip
    refine r_iconst (pc := 14) C d_M_in_14 ?_
    exact kret _ _ _ _ 0 _ d_M_in_15 w (by omega) (⟨rfl, by omega⟩)
  · skip
    refine r_iload_n (pc := 5) C d_M_in_5 rfl (lv_at hl 0 rfl) ?_
    refine r_iload_n (pc := 6) C d_M_in_6 rfl (lv_at hl 2 rfl) ?_
    refine r_icmp_gt (pc := 7) (tgt := 14) C (by omega) d_M_in_7 (by decide) (fun c_7 => ?_) (fun c_7 => ?_)
    · skip
      refine r_iconst (pc := 14) C d_M_in_14 ?_
      exact kret _ _ _ _ 0 _ d_M_in_15 w (by omega) (⟨rfl, by omega⟩)
    · skip
      refine r_iconst (pc := 10) C d_M_in_10 ?_
      refine r_goto (pc := 11) (tgt := 15) C d_M_in_11 (by decide) ?_
      exact kret _ _ _ _ 1 _ d_M_in_15 w (by omega) (⟨rfl, by omega⟩)
theorem d_S_shared_0 : decode b_S_shared 0 = .ok (.iconst 0, 1) := by decide +kernel
theorem d_S_shared_1 : decode b_S_shared 1 = .ok (.iload_n 1, 1) := by decide +kernel
theorem d_S_shared_2 : decode b_S_shared 2 = .ok (.iload_n 3, 1) := by decide +kernel
theorem d_S_shared_3 : decode b_S_shared 3 = .ok (.invokestatic 55, 3) := by decide +kernel
theorem d_S_shared_6 : decode b_S_shared 6 = .ok (.iload_n 0, 1) := by decide +kernel
theorem d_S_shared_7 : decode b_S_shared 7 = .ok (.iload_n 2, 1) := by decide +kernel
theorem d_S_shared_8 : decode b_S_shared 8 = .ok (.invokestatic 61, 3) := by decide +kernel
theorem d_S_shared_11 : decode b_S_shared 11 = .ok (.isub, 1) := by decide +kernel
theorem d_S_shared_12 : decode b_S_shared 12 = .ok (.invokestatic 61, 3) := by decide +kernel
theorem d_S_shared_15 : decode b_S_shared 15 = .ok (.ireturn, 1) := by decide +kernel
set_option maxHeartbeats 4000000 in
set_option maxRecDepth 20000 in
theorem c_S_shared {l : Launch} {G : va_G} {tys : List (ClassId × FieldType)} (a b c d : Int) (h : ((0 ≤ a ∧ a ≤ 100000000) ∧ (0 ≤ b ∧ b ≤ 100000000)) ∧ (0 ≤ c ∧ c ≤ 100000000) ∧ (0 ≤ d ∧ d ≤ 100000000)) : CTP l G tys y_S_shared b_S_shared 4 .int 1 19 [.int (iI a), .int (iI b), .int (iI c), .int (iI d)] (fun z => z = max 0 (min b d - max a c)) := by
  unfold CTP
  refine mkI (by decide) (Nat.le_of_ble_eq_true rfl) ?_
  rintro X rfl rfl rfl hRm C kret H ls w hl
  have hl : lv_has ls 4 [(0, .int (iI a)), (1, .int (iI b)), (2, .int (iI c)), (3, .int (iI d))] := hl
  have w : Wd X ([]) H [] := w
  generalize ([] : List Loc) = locs at w ⊢
  refine r_iconst (pc := 0) C d_S_shared_0 ?_
  refine r_iload_n (pc := 1) C d_S_shared_1 rfl (lv_at hl 1 rfl) ?_
  refine r_iload_n (pc := 2) C d_S_shared_2 rfl (lv_at hl 3 rfl) ?_
  refine r_min (pc := 3) C ml_S_55 (by omega) (by rw [hRm]; exact ⟨⟨Nat.le_of_ble_eq_true rfl, Nat.le_of_ble_eq_true rfl⟩, Nat.le_of_ble_eq_true rfl, Nat.le_of_ble_eq_true rfl⟩) hl.1 d_S_shared_3 ?_
  refine r_iload_n (pc := 6) C d_S_shared_6 rfl (lv_at hl 0 rfl) ?_
  refine r_iload_n (pc := 7) C d_S_shared_7 rfl (lv_at hl 2 rfl) ?_
  refine r_max (pc := 8) C ml_S_61 (by omega) (by rw [hRm]; exact ⟨⟨Nat.le_of_ble_eq_true rfl, Nat.le_of_ble_eq_true rfl⟩, Nat.le_of_ble_eq_true rfl, Nat.le_of_ble_eq_true rfl⟩) hl.1 d_S_shared_8 ?_
  refine r_isub (pc := 11) C d_S_shared_11 ?_
  refine r_max (pc := 12) C ml_S_61 (by omega) (by rw [hRm]; exact ⟨⟨Nat.le_of_ble_eq_true rfl, Nat.le_of_ble_eq_true rfl⟩, Nat.le_of_ble_eq_true rfl, Nat.le_of_ble_eq_true rfl⟩) hl.1 d_S_shared_12 ?_
  exact kret _ _ _ _ (max 0 ((min b d) - (max a c))) _ d_S_shared_15 w (⟨rfl, rfl⟩)
theorem d_S_append_0 : decode b_S_append 0 = .ok (.iload_n 2, 1) := by decide +kernel
theorem d_S_append_1 : decode b_S_append 1 = .ok (.iconst 1, 1) := by decide +kernel
theorem d_S_append_2 : decode b_S_append 2 = .ok (.if_icmp .lt 10, 3) := by decide +kernel
theorem d_S_append_5 : decode b_S_append 5 = .ok (.aload_n 0, 1) := by decide +kernel
theorem d_S_append_6 : decode b_S_append 6 = .ok (.getfield 25, 3) := by decide +kernel
theorem d_S_append_9 : decode b_S_append 9 = .ok (.ifCond .eq 4, 3) := by decide +kernel
theorem d_S_append_12 : decode b_S_append 12 = .ok (.return_, 1) := by decide +kernel
theorem d_S_append_13 : decode b_S_append 13 = .ok (.aload_n 0, 1) := by decide +kernel
theorem d_S_append_14 : decode b_S_append 14 = .ok (.getfield 18, 3) := by decide +kernel
theorem d_S_append_17 : decode b_S_append 17 = .ok (.ifCond .le 22, 3) := by decide +kernel
theorem d_S_append_20 : decode b_S_append 20 = .ok (.aload_n 0, 1) := by decide +kernel
theorem d_S_append_21 : decode b_S_append 21 = .ok (.getfield 9, 3) := by decide +kernel
theorem d_S_append_24 : decode b_S_append 24 = .ok (.aload_n 0, 1) := by decide +kernel
theorem d_S_append_25 : decode b_S_append 25 = .ok (.getfield 18, 3) := by decide +kernel
theorem d_S_append_28 : decode b_S_append 28 = .ok (.iconst 1, 1) := by decide +kernel
theorem d_S_append_29 : decode b_S_append 29 = .ok (.isub, 1) := by decide +kernel
theorem d_S_append_30 : decode b_S_append 30 = .ok (.iaload, 1) := by decide +kernel
theorem d_S_append_31 : decode b_S_append 31 = .ok (.iload_n 1, 1) := by decide +kernel
theorem d_S_append_32 : decode b_S_append 32 = .ok (.if_icmp .ne 7, 3) := by decide +kernel
theorem d_S_append_35 : decode b_S_append 35 = .ok (.iconst 1, 1) := by decide +kernel
theorem d_S_append_36 : decode b_S_append 36 = .ok (.goto 4, 3) := by decide +kernel
theorem d_S_append_39 : decode b_S_append 39 = .ok (.iconst 0, 1) := by decide +kernel
theorem d_S_append_40 : decode b_S_append 40 = .ok (.istore_n 3, 1) := by decide +kernel
theorem d_S_append_41 : decode b_S_append 41 = .ok (.iload_n 2, 1) := by decide +kernel
theorem d_S_append_42 : decode b_S_append 42 = .ok (.sipush 3000, 3) := by decide +kernel
theorem d_S_append_45 : decode b_S_append 45 = .ok (.aload_n 0, 1) := by decide +kernel
theorem d_S_append_46 : decode b_S_append 46 = .ok (.getfield 22, 3) := by decide +kernel
theorem d_S_append_49 : decode b_S_append 49 = .ok (.isub, 1) := by decide +kernel
theorem d_S_append_50 : decode b_S_append 50 = .ok (.if_icmp .gt 16, 3) := by decide +kernel
theorem d_S_append_53 : decode b_S_append 53 = .ok (.iload_n 3, 1) := by decide +kernel
theorem d_S_append_54 : decode b_S_append 54 = .ok (.ifCond .ne 18, 3) := by decide +kernel
theorem d_S_append_57 : decode b_S_append 57 = .ok (.aload_n 0, 1) := by decide +kernel
theorem d_S_append_58 : decode b_S_append 58 = .ok (.getfield 18, 3) := by decide +kernel
theorem d_S_append_61 : decode b_S_append 61 = .ok (.bipush 50, 2) := by decide +kernel
theorem d_S_append_63 : decode b_S_append 63 = .ok (.if_icmp .lt 9, 3) := by decide +kernel
theorem d_S_append_66 : decode b_S_append 66 = .ok (.aload_n 0, 1) := by decide +kernel
theorem d_S_append_67 : decode b_S_append 67 = .ok (.iconst 1, 1) := by decide +kernel
theorem d_S_append_68 : decode b_S_append 68 = .ok (.putfield 25, 3) := by decide +kernel
theorem d_S_append_71 : decode b_S_append 71 = .ok (.return_, 1) := by decide +kernel
theorem d_S_append_72 : decode b_S_append 72 = .ok (.iload_n 3, 1) := by decide +kernel
theorem d_S_append_73 : decode b_S_append 73 = .ok (.ifCond .eq 21, 3) := by decide +kernel
theorem d_S_append_76 : decode b_S_append 76 = .ok (.aload_n 0, 1) := by decide +kernel
theorem d_S_append_77 : decode b_S_append 77 = .ok (.getfield 15, 3) := by decide +kernel
theorem d_S_append_80 : decode b_S_append 80 = .ok (.aload_n 0, 1) := by decide +kernel
theorem d_S_append_81 : decode b_S_append 81 = .ok (.getfield 18, 3) := by decide +kernel
theorem d_S_append_84 : decode b_S_append 84 = .ok (.iconst 1, 1) := by decide +kernel
theorem d_S_append_85 : decode b_S_append 85 = .ok (.isub, 1) := by decide +kernel
theorem d_S_append_86 : decode b_S_append 86 = .ok (.dup2, 1) := by decide +kernel
theorem d_S_append_87 : decode b_S_append 87 = .ok (.iaload, 1) := by decide +kernel
theorem d_S_append_88 : decode b_S_append 88 = .ok (.iload_n 2, 1) := by decide +kernel
theorem d_S_append_89 : decode b_S_append 89 = .ok (.iadd, 1) := by decide +kernel
theorem d_S_append_90 : decode b_S_append 90 = .ok (.iastore, 1) := by decide +kernel
theorem d_S_append_91 : decode b_S_append 91 = .ok (.goto 33, 3) := by decide +kernel
theorem d_S_append_94 : decode b_S_append 94 = .ok (.aload_n 0, 1) := by decide +kernel
theorem d_S_append_95 : decode b_S_append 95 = .ok (.getfield 9, 3) := by decide +kernel
theorem d_S_append_98 : decode b_S_append 98 = .ok (.aload_n 0, 1) := by decide +kernel
theorem d_S_append_99 : decode b_S_append 99 = .ok (.getfield 18, 3) := by decide +kernel
theorem d_S_append_102 : decode b_S_append 102 = .ok (.iload_n 1, 1) := by decide +kernel
theorem d_S_append_103 : decode b_S_append 103 = .ok (.iastore, 1) := by decide +kernel
theorem d_S_append_104 : decode b_S_append 104 = .ok (.aload_n 0, 1) := by decide +kernel
theorem d_S_append_105 : decode b_S_append 105 = .ok (.getfield 15, 3) := by decide +kernel
theorem d_S_append_108 : decode b_S_append 108 = .ok (.aload_n 0, 1) := by decide +kernel
theorem d_S_append_109 : decode b_S_append 109 = .ok (.getfield 18, 3) := by decide +kernel
theorem d_S_append_112 : decode b_S_append 112 = .ok (.iload_n 2, 1) := by decide +kernel
theorem d_S_append_113 : decode b_S_append 113 = .ok (.iastore, 1) := by decide +kernel
theorem d_S_append_114 : decode b_S_append 114 = .ok (.aload_n 0, 1) := by decide +kernel
theorem d_S_append_115 : decode b_S_append 115 = .ok (.dup, 1) := by decide +kernel
theorem d_S_append_116 : decode b_S_append 116 = .ok (.getfield 18, 3) := by decide +kernel
theorem d_S_append_119 : decode b_S_append 119 = .ok (.iconst 1, 1) := by decide +kernel
theorem d_S_append_120 : decode b_S_append 120 = .ok (.iadd, 1) := by decide +kernel
theorem d_S_append_121 : decode b_S_append 121 = .ok (.putfield 18, 3) := by decide +kernel
theorem d_S_append_124 : decode b_S_append 124 = .ok (.aload_n 0, 1) := by decide +kernel
theorem d_S_append_125 : decode b_S_append 125 = .ok (.dup, 1) := by decide +kernel
theorem d_S_append_126 : decode b_S_append 126 = .ok (.getfield 22, 3) := by decide +kernel
theorem d_S_append_129 : decode b_S_append 129 = .ok (.iload_n 2, 1) := by decide +kernel
theorem d_S_append_130 : decode b_S_append 130 = .ok (.iadd, 1) := by decide +kernel
theorem d_S_append_131 : decode b_S_append 131 = .ok (.putfield 22, 3) := by decide +kernel
theorem d_S_append_134 : decode b_S_append 134 = .ok (.return_, 1) := by decide +kernel
set_option maxHeartbeats 4000000 in
set_option maxRecDepth 20000 in
theorem c_S_append {l : Launch} {G : va_G} {tys : List (ClassId × FieldType)} {cI cO cZ : ClassId} (hT : TY tys cI cO cZ) (q a b : Nat) (sg ln : Int → Int) (r pl ov lc sd s m n : Int) (v : Int → Int) (hV : RV r pl ov sg ln n v) (hs : 0 ≤ s ∧ s ≤ 10) (hm : -2147483648 ≤ m ∧ m < 2147483648) : CTV l G tys y_S_append b_S_append 4 0 0 [.ref q, .int (iI s), .int (iI m)] (sw cI q a b sg ln r pl ov lc sd) (fun u => ∃ (sg' ln' : Int → Int) (r' pl' ov' : Int), u = sw cI q a b sg' ln' r' pl' ov' lc sd ∧ RV r' pl' ov' sg' ln' (n + max 0 m) (app v n s)) := by
  refine mkV (by decide) (Nat.le_of_ble_eq_true rfl) ?_
  rintro X rfl rfl rfl hRm C kret H ls w hl
  have hl : lv_has ls 4 [(0, .ref q), (1, .int (iI s)), (2, .int (iI m))] := hl
  have w : Wd X (sw cI q a b sg ln r pl ov lc sd) H [] := w
  generalize ([] : List Loc) = locs at w ⊢
  have hov := hV.ov01
  refine r_iload_n (pc := 0) C d_S_append_0 rfl (lv_at hl 2 rfl) ?_
  refine r_iconst (pc := 1) C d_S_append_1 ?_
  refine r_icmp_lt (pc := 2) (tgt := 12) C (by omega) d_S_append_2 (by decide) (fun c_2 => ?_) (fun c_2 => ?_)
  · skip
    exact kret _ _ _ _ _ d_S_append_12 w (⟨sg, ln, r, pl, ov, rfl, hV.noop (by omega)⟩)
  · skip
    refine r_aload_n (pc := 5) C d_S_append_5 rfl (lv_at hl 0 rfl) ?_
    refine r_get (pc := 6) (v := .int (iI ov)) C w i_S rfl 0 rfl 4 (by decide) fl_S_25 rfl rfl d_S_append_6 ?_
    refine r_if_eq (pc := 9) (tgt := 13) C (by omega) d_S_append_9 (by decide) (fun c_9 => ?_) (fun c_9 => ?_)
    · skip
      have hx : pl = n ∧ Ok r sg ln n v ∧ n ≤ 3000 ∧ r ≤ 50 ∧ 0 ≤ n := by
        rcases hov with ⟨h1, h2, h3, h4, h5⟩ | ⟨h1, h2⟩
        · exact ⟨h2, h3, h4, h5, hV.1⟩
        · omega
      obtain ⟨hpl, hO, hn3, hr5, hn0⟩ := hx
      have hr0 := hO.1
      clear hov
      refine r_aload_n (pc := 13) C d_S_append_13 rfl (lv_at hl 0 rfl) ?_
      refine r_get (pc := 14) (v := .int (iI r)) C w i_S rfl 0 rfl 2 (by decide) fl_S_18 rfl rfl d_S_append_14 ?_
      refine r_if_le (pc := 17) (tgt := 39) C (by omega) d_S_append_17 (by decide) (fun c_17 => ?_) (fun c_17 => ?_)
      · skip
        refine r_iconst (pc := 39) C d_S_append_39 ?_
        refine r_istore_n (pc := 40) (lv' := [(3, .int (iI 0)), (0, .ref q), (1, .int (iI s)), (2, .int (iI m))]) C d_S_append_40 rfl hl (by decide) rfl (fun ls hl => ?_)
        refine r_iload_n (pc := 41) C d_S_append_41 rfl (lv_at hl 3 rfl) ?_
        refine r_sipush (pc := 42) C d_S_append_42 (by decide) ?_
        refine r_aload_n (pc := 45) C d_S_append_45 rfl (lv_at hl 1 rfl) ?_
        refine r_get (pc := 46) (v := .int (iI pl)) C w i_S rfl 0 rfl 3 (by decide) fl_S_22 rfl rfl d_S_append_46 ?_
        refine r_isub (pc := 49) C d_S_append_49 ?_
        refine r_icmp_gt (pc := 50) (tgt := 66) C (by omega) d_S_append_50 (by decide) (fun c_50 => ?_) (fun c_50 => ?_)
        · skip
          refine r_aload_n (pc := 66) C d_S_append_66 rfl (lv_at hl 1 rfl) ?_
          refine r_iconst (pc := 67) C d_S_append_67 ?_
          refine r_put (pc := 68) (ws' := sw cI q a b sg ln r pl 1 lc sd) C w i_S t_S t_S_ok n_S rfl 0 rfl 4 (by decide) fl_S_25 rfl rfl (by decide) (by decide) (Nat.le_of_ble_eq_true rfl) rfl d_S_append_68 (fun H locs w => ?_)
          exact kret _ _ _ _ _ d_S_append_71 w (⟨_, _, _, _, _, rfl, hV.over (by omega) (by omega) (by omega)⟩)
        · skip
          refine r_iload_n (pc := 53) C d_S_append_53 rfl (lv_at hl 0 rfl) ?_
          refine r_if_ne (pc := 54) (tgt := 72) C (by omega) d_S_append_54 (by decide) (fun c_54 => absurd c_54 (by omega)) (fun c_54 => ?_)
          refine r_aload_n (pc := 57) C d_S_append_57 rfl (lv_at hl 1 rfl) ?_
          refine r_get (pc := 58) (v := .int (iI r)) C w i_S rfl 0 rfl 2 (by decide) fl_S_18 rfl rfl d_S_append_58 ?_
          refine r_bipush (pc := 61) C d_S_append_61 (by decide) ?_
          refine r_icmp_lt (pc := 63) (tgt := 72) C (by omega) d_S_append_63 (by decide) (fun c_63 => ?_) (fun c_63 => ?_)
          · skip
            refine r_iload_n (pc := 72) C d_S_append_72 rfl (lv_at hl 0 rfl) ?_
            refine r_if_eq (pc := 73) (tgt := 94) C (by omega) d_S_append_73 (by decide) (fun c_73 => ?_) (fun c_73 => absurd c_73 (by omega))
            refine r_aload_n (pc := 94) C d_S_append_94 rfl (lv_at hl 1 rfl) ?_
            refine r_get (pc := 95) (v := .ref a) C w i_S rfl 0 rfl 0 (by decide) fl_S_9 rfl rfl d_S_append_95 ?_
            refine r_aload_n (pc := 98) C d_S_append_98 rfl (lv_at hl 1 rfl) ?_
            refine r_get (pc := 99) (v := .int (iI r)) C w i_S rfl 0 rfl 2 (by decide) fl_S_18 rfl rfl d_S_append_99 ?_
            refine r_iload_n (pc := 102) C d_S_append_102 rfl (lv_at hl 2 rfl) ?_
            refine r_iast (pc := 103) (f := sg) (i := r) (v := s) (ws' := sw cI q a b (up sg r s) ln r pl ov lc sd) C w 0 1 rfl hT.1 (by omega) rfl d_S_append_103 (fun H locs w => ?_)
            refine r_aload_n (pc := 104) C d_S_append_104 rfl (lv_at hl 1 rfl) ?_
            refine r_get (pc := 105) (v := .ref b) C w i_S rfl 0 rfl 1 (by decide) fl_S_15 rfl rfl d_S_append_105 ?_
            refine r_aload_n (pc := 108) C d_S_append_108 rfl (lv_at hl 1 rfl) ?_
            refine r_get (pc := 109) (v := .int (iI r)) C w i_S rfl 0 rfl 2 (by decide) fl_S_18 rfl rfl d_S_append_109 ?_
            refine r_iload_n (pc := 112) C d_S_append_112 rfl (lv_at hl 3 rfl) ?_
            refine r_iast (pc := 113) (f := ln) (i := r) (v := m) (ws' := sw cI q a b (up sg r s) (up ln r m) r pl ov lc sd) C w 0 2 rfl hT.1 (by omega) rfl d_S_append_113 (fun H locs w => ?_)
            refine r_aload_n (pc := 114) C d_S_append_114 rfl (lv_at hl 1 rfl) ?_
            refine r_dup (pc := 115) C d_S_append_115 rfl ?_
            refine r_get (pc := 116) (v := .int (iI r)) C w i_S rfl 0 rfl 2 (by decide) fl_S_18 rfl rfl d_S_append_116 ?_
            refine r_iconst (pc := 119) C d_S_append_119 ?_
            refine r_iadd (pc := 120) C d_S_append_120 ?_
            refine r_put (pc := 121) (ws' := sw cI q a b (up sg r s) (up ln r m) (r + 1) pl ov lc sd) C w i_S t_S t_S_ok n_S rfl 0 rfl 2 (by decide) fl_S_18 rfl rfl rfl rfl (Nat.le_of_ble_eq_true rfl) rfl d_S_append_121 (fun H locs w => ?_)
            refine r_aload_n (pc := 124) C d_S_append_124 rfl (lv_at hl 1 rfl) ?_
            refine r_dup (pc := 125) C d_S_append_125 rfl ?_
            refine r_get (pc := 126) (v := .int (iI pl)) C w i_S rfl 0 rfl 3 (by decide) fl_S_22 rfl rfl d_S_append_126 ?_
            refine r_iload_n (pc := 129) C d_S_append_129 rfl (lv_at hl 3 rfl) ?_
            refine r_iadd (pc := 130) C d_S_append_130 ?_
            refine r_put (pc := 131) (ws' := sw cI q a b (up sg r s) (up ln r m) (r + 1) (pl + m) ov lc sd) C w i_S t_S t_S_ok n_S rfl 0 rfl 3 (by decide) fl_S_22 rfl rfl rfl rfl (Nat.le_of_ble_eq_true rfl) rfl d_S_append_131 (fun H locs w => ?_)
            exact kret _ _ _ _ _ d_S_append_134 w (⟨_, _, _, _, _, rfl, by first | exact hV.join (by omega) (by omega) (by omega) (by omega) (by omega) | exact hV.push (by omega) (by omega) (by omega) (by omega) (by omega) hs⟩)
          · skip
            refine r_aload_n (pc := 66) C d_S_append_66 rfl (lv_at hl 1 rfl) ?_
            refine r_iconst (pc := 67) C d_S_append_67 ?_
            refine r_put (pc := 68) (ws' := sw cI q a b sg ln r pl 1 lc sd) C w i_S t_S t_S_ok n_S rfl 0 rfl 4 (by decide) fl_S_25 rfl rfl (by decide) (by decide) (Nat.le_of_ble_eq_true rfl) rfl d_S_append_68 (fun H locs w => ?_)
            exact kret _ _ _ _ _ d_S_append_71 w (⟨_, _, _, _, _, rfl, hV.over (by omega) (by omega) (by omega)⟩)
      · skip
        refine r_aload_n (pc := 20) C d_S_append_20 rfl (lv_at hl 0 rfl) ?_
        refine r_get (pc := 21) (v := .ref a) C w i_S rfl 0 rfl 0 (by decide) fl_S_9 rfl rfl d_S_append_21 ?_
        refine r_aload_n (pc := 24) C d_S_append_24 rfl (lv_at hl 0 rfl) ?_
        refine r_get (pc := 25) (v := .int (iI r)) C w i_S rfl 0 rfl 2 (by decide) fl_S_18 rfl rfl d_S_append_25 ?_
        refine r_iconst (pc := 28) C d_S_append_28 ?_
        refine r_isub (pc := 29) C d_S_append_29 ?_
        refine r_iald (pc := 30) (f := sg) (i := (r - 1)) C w 0 1 rfl hT.1 (by omega) d_S_append_30 ?_
        refine r_iload_n (pc := 31) C d_S_append_31 rfl (lv_at hl 1 rfl) ?_
        have hsr := hO.sg (k := r - 1) (by omega) (by omega)
        refine r_icmp_ne (pc := 32) (tgt := 39) C (by omega) d_S_append_32 (by decide) (fun c_32 => ?_) (fun c_32 => ?_)
        · skip
          refine r_iconst (pc := 39) C d_S_append_39 ?_
          refine r_istore_n (pc := 40) (lv' := [(3, .int (iI 0)), (0, .ref q), (1, .int (iI s)), (2, .int (iI m))]) C d_S_append_40 rfl hl (by decide) rfl (fun ls hl => ?_)
          refine r_iload_n (pc := 41) C d_S_append_41 rfl (lv_at hl 3 rfl) ?_
          refine r_sipush (pc := 42) C d_S_append_42 (by decide) ?_
          refine r_aload_n (pc := 45) C d_S_append_45 rfl (lv_at hl 1 rfl) ?_
          refine r_get (pc := 46) (v := .int (iI pl)) C w i_S rfl 0 rfl 3 (by decide) fl_S_22 rfl rfl d_S_append_46 ?_
          refine r_isub (pc := 49) C d_S_append_49 ?_
          refine r_icmp_gt (pc := 50) (tgt := 66) C (by omega) d_S_append_50 (by decide) (fun c_50 => ?_) (fun c_50 => ?_)
          · skip
            refine r_aload_n (pc := 66) C d_S_append_66 rfl (lv_at hl 1 rfl) ?_
            refine r_iconst (pc := 67) C d_S_append_67 ?_
            refine r_put (pc := 68) (ws' := sw cI q a b sg ln r pl 1 lc sd) C w i_S t_S t_S_ok n_S rfl 0 rfl 4 (by decide) fl_S_25 rfl rfl (by decide) (by decide) (Nat.le_of_ble_eq_true rfl) rfl d_S_append_68 (fun H locs w => ?_)
            exact kret _ _ _ _ _ d_S_append_71 w (⟨_, _, _, _, _, rfl, hV.over (by omega) (by omega) (by omega)⟩)
          · skip
            refine r_iload_n (pc := 53) C d_S_append_53 rfl (lv_at hl 0 rfl) ?_
            refine r_if_ne (pc := 54) (tgt := 72) C (by omega) d_S_append_54 (by decide) (fun c_54 => absurd c_54 (by omega)) (fun c_54 => ?_)
            refine r_aload_n (pc := 57) C d_S_append_57 rfl (lv_at hl 1 rfl) ?_
            refine r_get (pc := 58) (v := .int (iI r)) C w i_S rfl 0 rfl 2 (by decide) fl_S_18 rfl rfl d_S_append_58 ?_
            refine r_bipush (pc := 61) C d_S_append_61 (by decide) ?_
            refine r_icmp_lt (pc := 63) (tgt := 72) C (by omega) d_S_append_63 (by decide) (fun c_63 => ?_) (fun c_63 => ?_)
            · skip
              refine r_iload_n (pc := 72) C d_S_append_72 rfl (lv_at hl 0 rfl) ?_
              refine r_if_eq (pc := 73) (tgt := 94) C (by omega) d_S_append_73 (by decide) (fun c_73 => ?_) (fun c_73 => absurd c_73 (by omega))
              refine r_aload_n (pc := 94) C d_S_append_94 rfl (lv_at hl 1 rfl) ?_
              refine r_get (pc := 95) (v := .ref a) C w i_S rfl 0 rfl 0 (by decide) fl_S_9 rfl rfl d_S_append_95 ?_
              refine r_aload_n (pc := 98) C d_S_append_98 rfl (lv_at hl 1 rfl) ?_
              refine r_get (pc := 99) (v := .int (iI r)) C w i_S rfl 0 rfl 2 (by decide) fl_S_18 rfl rfl d_S_append_99 ?_
              refine r_iload_n (pc := 102) C d_S_append_102 rfl (lv_at hl 2 rfl) ?_
              refine r_iast (pc := 103) (f := sg) (i := r) (v := s) (ws' := sw cI q a b (up sg r s) ln r pl ov lc sd) C w 0 1 rfl hT.1 (by omega) rfl d_S_append_103 (fun H locs w => ?_)
              refine r_aload_n (pc := 104) C d_S_append_104 rfl (lv_at hl 1 rfl) ?_
              refine r_get (pc := 105) (v := .ref b) C w i_S rfl 0 rfl 1 (by decide) fl_S_15 rfl rfl d_S_append_105 ?_
              refine r_aload_n (pc := 108) C d_S_append_108 rfl (lv_at hl 1 rfl) ?_
              refine r_get (pc := 109) (v := .int (iI r)) C w i_S rfl 0 rfl 2 (by decide) fl_S_18 rfl rfl d_S_append_109 ?_
              refine r_iload_n (pc := 112) C d_S_append_112 rfl (lv_at hl 3 rfl) ?_
              refine r_iast (pc := 113) (f := ln) (i := r) (v := m) (ws' := sw cI q a b (up sg r s) (up ln r m) r pl ov lc sd) C w 0 2 rfl hT.1 (by omega) rfl d_S_append_113 (fun H locs w => ?_)
              refine r_aload_n (pc := 114) C d_S_append_114 rfl (lv_at hl 1 rfl) ?_
              refine r_dup (pc := 115) C d_S_append_115 rfl ?_
              refine r_get (pc := 116) (v := .int (iI r)) C w i_S rfl 0 rfl 2 (by decide) fl_S_18 rfl rfl d_S_append_116 ?_
              refine r_iconst (pc := 119) C d_S_append_119 ?_
              refine r_iadd (pc := 120) C d_S_append_120 ?_
              refine r_put (pc := 121) (ws' := sw cI q a b (up sg r s) (up ln r m) (r + 1) pl ov lc sd) C w i_S t_S t_S_ok n_S rfl 0 rfl 2 (by decide) fl_S_18 rfl rfl rfl rfl (Nat.le_of_ble_eq_true rfl) rfl d_S_append_121 (fun H locs w => ?_)
              refine r_aload_n (pc := 124) C d_S_append_124 rfl (lv_at hl 1 rfl) ?_
              refine r_dup (pc := 125) C d_S_append_125 rfl ?_
              refine r_get (pc := 126) (v := .int (iI pl)) C w i_S rfl 0 rfl 3 (by decide) fl_S_22 rfl rfl d_S_append_126 ?_
              refine r_iload_n (pc := 129) C d_S_append_129 rfl (lv_at hl 3 rfl) ?_
              refine r_iadd (pc := 130) C d_S_append_130 ?_
              refine r_put (pc := 131) (ws' := sw cI q a b (up sg r s) (up ln r m) (r + 1) (pl + m) ov lc sd) C w i_S t_S t_S_ok n_S rfl 0 rfl 3 (by decide) fl_S_22 rfl rfl rfl rfl (Nat.le_of_ble_eq_true rfl) rfl d_S_append_131 (fun H locs w => ?_)
              exact kret _ _ _ _ _ d_S_append_134 w (⟨_, _, _, _, _, rfl, by first | exact hV.join (by omega) (by omega) (by omega) (by omega) (by omega) | exact hV.push (by omega) (by omega) (by omega) (by omega) (by omega) hs⟩)
            · skip
              refine r_aload_n (pc := 66) C d_S_append_66 rfl (lv_at hl 1 rfl) ?_
              refine r_iconst (pc := 67) C d_S_append_67 ?_
              refine r_put (pc := 68) (ws' := sw cI q a b sg ln r pl 1 lc sd) C w i_S t_S t_S_ok n_S rfl 0 rfl 4 (by decide) fl_S_25 rfl rfl (by decide) (by decide) (Nat.le_of_ble_eq_true rfl) rfl d_S_append_68 (fun H locs w => ?_)
              exact kret _ _ _ _ _ d_S_append_71 w (⟨_, _, _, _, _, rfl, hV.over (by omega) (by omega) (by omega)⟩)
        · skip
          refine r_iconst (pc := 35) C d_S_append_35 ?_
          refine r_goto (pc := 36) (tgt := 40) C d_S_append_36 (by decide) ?_
          refine r_istore_n (pc := 40) (lv' := [(3, .int (iI 1)), (0, .ref q), (1, .int (iI s)), (2, .int (iI m))]) C d_S_append_40 rfl hl (by decide) rfl (fun ls hl => ?_)
          refine r_iload_n (pc := 41) C d_S_append_41 rfl (lv_at hl 3 rfl) ?_
          refine r_sipush (pc := 42) C d_S_append_42 (by decide) ?_
          refine r_aload_n (pc := 45) C d_S_append_45 rfl (lv_at hl 1 rfl) ?_
          refine r_get (pc := 46) (v := .int (iI pl)) C w i_S rfl 0 rfl 3 (by decide) fl_S_22 rfl rfl d_S_append_46 ?_
          refine r_isub (pc := 49) C d_S_append_49 ?_
          refine r_icmp_gt (pc := 50) (tgt := 66) C (by omega) d_S_append_50 (by decide) (fun c_50 => ?_) (fun c_50 => ?_)
          · skip
            refine r_aload_n (pc := 66) C d_S_append_66 rfl (lv_at hl 1 rfl) ?_
            refine r_iconst (pc := 67) C d_S_append_67 ?_
            refine r_put (pc := 68) (ws' := sw cI q a b sg ln r pl 1 lc sd) C w i_S t_S t_S_ok n_S rfl 0 rfl 4 (by decide) fl_S_25 rfl rfl (by decide) (by decide) (Nat.le_of_ble_eq_true rfl) rfl d_S_append_68 (fun H locs w => ?_)
            exact kret _ _ _ _ _ d_S_append_71 w (⟨_, _, _, _, _, rfl, hV.over (by omega) (by omega) (by omega)⟩)
          · skip
            refine r_iload_n (pc := 53) C d_S_append_53 rfl (lv_at hl 0 rfl) ?_
            refine r_if_ne (pc := 54) (tgt := 72) C (by omega) d_S_append_54 (by decide) (fun c_54 => ?_) (fun c_54 => absurd c_54 (by omega))
            refine r_iload_n (pc := 72) C d_S_append_72 rfl (lv_at hl 0 rfl) ?_
            refine r_if_eq (pc := 73) (tgt := 94) C (by omega) d_S_append_73 (by decide) (fun c_73 => absurd c_73 (by omega)) (fun c_73 => ?_)
            refine r_aload_n (pc := 76) C d_S_append_76 rfl (lv_at hl 1 rfl) ?_
            refine r_get (pc := 77) (v := .ref b) C w i_S rfl 0 rfl 1 (by decide) fl_S_15 rfl rfl d_S_append_77 ?_
            refine r_aload_n (pc := 80) C d_S_append_80 rfl (lv_at hl 1 rfl) ?_
            refine r_get (pc := 81) (v := .int (iI r)) C w i_S rfl 0 rfl 2 (by decide) fl_S_18 rfl rfl d_S_append_81 ?_
            refine r_iconst (pc := 84) C d_S_append_84 ?_
            refine r_isub (pc := 85) C d_S_append_85 ?_
            have hlr := (hO.run (k := r - 1) (by omega) (by omega)).1
            refine r_dup2 (pc := 86) C d_S_append_86 rfl rfl ?_
            refine r_iald (pc := 87) (f := ln) (i := (r - 1)) C w 0 2 rfl hT.1 (by omega) d_S_append_87 ?_
            refine r_iload_n (pc := 88) C d_S_append_88 rfl (lv_at hl 3 rfl) ?_
            refine r_iadd (pc := 89) C d_S_append_89 ?_
            refine r_iast (pc := 90) (f := ln) (i := (r - 1)) (v := ((ln (r - 1)) + m)) (ws' := sw cI q a b sg (up ln (r - 1) ((ln (r - 1)) + m)) r pl ov lc sd) C w 0 2 rfl hT.1 (by omega) rfl d_S_append_90 (fun H locs w => ?_)
            refine r_goto (pc := 91) (tgt := 124) C d_S_append_91 (by decide) ?_
            refine r_aload_n (pc := 124) C d_S_append_124 rfl (lv_at hl 1 rfl) ?_
            refine r_dup (pc := 125) C d_S_append_125 rfl ?_
            refine r_get (pc := 126) (v := .int (iI pl)) C w i_S rfl 0 rfl 3 (by decide) fl_S_22 rfl rfl d_S_append_126 ?_
            refine r_iload_n (pc := 129) C d_S_append_129 rfl (lv_at hl 3 rfl) ?_
            refine r_iadd (pc := 130) C d_S_append_130 ?_
            refine r_put (pc := 131) (ws' := sw cI q a b sg (up ln (r - 1) ((ln (r - 1)) + m)) r (pl + m) ov lc sd) C w i_S t_S t_S_ok n_S rfl 0 rfl 3 (by decide) fl_S_22 rfl rfl rfl rfl (Nat.le_of_ble_eq_true rfl) rfl d_S_append_131 (fun H locs w => ?_)
            exact kret _ _ _ _ _ d_S_append_134 w (⟨_, _, _, _, _, rfl, by first | exact hV.join (by omega) (by omega) (by omega) (by omega) (by omega) | exact hV.push (by omega) (by omega) (by omega) (by omega) (by omega) hs⟩)
    · skip
      exact kret _ _ _ _ _ d_S_append_12 w (⟨sg, ln, r, pl, ov, rfl, hV.noop (by omega)⟩)
end
section
/-! how a State's row is built out of another's -/
theorem RV.to {r pl ov n n' : Int} {sg ln v u : Int → Int} (h : RV r pl ov sg ln n v) (hn : n = n') (hv : ∀ x, 0 ≤ x → x < n → v x = u x) : RV r pl ov sg ln n' u := by
  subst hn
  exact h.ext hv
/-- v, then u from place f on -/
def cat (v : Int → Int) (n : Int) (u : Int → Int) (f : Int) : Int → Int := fun x => if x < n then v x else u (x - n + f)
theorem cat_lt {v u : Int → Int} {n f x : Int} (h : x < n) : cat v n u f x = v x := by simp [cat, h]
theorem cat_ge {v u : Int → Int} {n f x : Int} (h : n ≤ x) : cat v n u f x = u (x - n + f) := by simp [cat]; omega
theorem piece_step {r pl ov n N e f z S k r2 : Int} {sg ln v u sg2 ln2 : Int → Int} (hO : Ok r2 sg2 ln2 N u) (h1 : 0 ≤ k) (h2 : k < r2) (hf : 0 ≤ f) (hS : S = ps ln2 k) (h : RV r pl ov sg ln (n + max 0 (min S e - f) + max 0 z) (app (cat v n u f) (n + max 0 (min S e - f)) (sg2 k))) (hz : z = max 0 (min (S + ln2 k) e - max S f)) : RV r pl ov sg ln (n + max 0 (min (S + ln2 k) e - f)) (cat v n u f) := by
  obtain ⟨g1, g2, g3, g4, g5, g6⟩ := hO.run h1 h2
  refine h.to (by omega) (fun x q1 q2 => ?_)
  by_cases hx : x < n + max 0 (min S e - f)
  · rw [app_lt hx]
  · rw [app_ge (by omega), cat_ge (by omega)]
    exact (hO.2.2.2.2 k h1 h2 _ (by omega) (by omega)).symm

theorem d_S_startLike_0 : decode b_S_startLike 0 = .ok (.aload_n 0, 1) := by decide +kernel
theorem d_S_startLike_1 : decode b_S_startLike 1 = .ok (.iconst 0, 1) := by decide +kernel
theorem d_S_startLike_2 : decode b_S_startLike 2 = .ok (.putfield 18, 3) := by decide +kernel
theorem d_S_startLike_5 : decode b_S_startLike 5 = .ok (.aload_n 0, 1) := by decide +kernel
theorem d_S_startLike_6 : decode b_S_startLike 6 = .ok (.iconst 0, 1) := by decide +kernel
theorem d_S_startLike_7 : decode b_S_startLike 7 = .ok (.putfield 22, 3) := by decide +kernel
theorem d_S_startLike_10 : decode b_S_startLike 10 = .ok (.aload_n 0, 1) := by decide +kernel
theorem d_S_startLike_11 : decode b_S_startLike 11 = .ok (.iconst 0, 1) := by decide +kernel
theorem d_S_startLike_12 : decode b_S_startLike 12 = .ok (.putfield 25, 3) := by decide +kernel
theorem d_S_startLike_15 : decode b_S_startLike 15 = .ok (.aload_n 0, 1) := by decide +kernel
theorem d_S_startLike_16 : decode b_S_startLike 16 = .ok (.aload_n 1, 1) := by decide +kernel
theorem d_S_startLike_17 : decode b_S_startLike 17 = .ok (.getfield 29, 3) := by decide +kernel
theorem d_S_startLike_20 : decode b_S_startLike 20 = .ok (.putfield 29, 3) := by decide +kernel
theorem d_S_startLike_23 : decode b_S_startLike 23 = .ok (.aload_n 0, 1) := by decide +kernel
theorem d_S_startLike_24 : decode b_S_startLike 24 = .ok (.aload_n 1, 1) := by decide +kernel
theorem d_S_startLike_25 : decode b_S_startLike 25 = .ok (.getfield 32, 3) := by decide +kernel
theorem d_S_startLike_28 : decode b_S_startLike 28 = .ok (.putfield 32, 3) := by decide +kernel
theorem d_S_startLike_31 : decode b_S_startLike 31 = .ok (.return_, 1) := by decide +kernel
set_option maxHeartbeats 4000000 in
set_option maxRecDepth 20000 in
theorem c_S_startLike {l : Launch} {G : va_G} {tys : List (ClassId × FieldType)} {cI cO cZ : ClassId} (hT : TY tys cI cO cZ) (q a b : Nat) (sg ln : Int → Int) (r pl ov lc sd : Int) (q2 a2 b2 : Nat) (sg2 ln2 : Int → Int) (r2 pl2 ov2 lc2 sd2 : Int) : CTV l G tys y_S_startLike b_S_startLike 2 0 0 [.ref q, .ref q2] (sw cI q a b sg ln r pl ov lc sd ++ sw cI q2 a2 b2 sg2 ln2 r2 pl2 ov2 lc2 sd2) (fun u => u = sw cI q a b sg ln 0 0 0 lc2 sd2 ++ sw cI q2 a2 b2 sg2 ln2 r2 pl2 ov2 lc2 sd2) := by
  refine mkV (by decide) (Nat.le_of_ble_eq_true rfl) ?_
  rintro X rfl rfl rfl hRm C kret H ls w hl
  have hl : lv_has ls 2 [(0, .ref q), (1, .ref q2)] := hl
  have w : Wd X (sw cI q a b sg ln r pl ov lc sd ++ sw cI q2 a2 b2 sg2 ln2 r2 pl2 ov2 lc2 sd2) H [] := w
  generalize ([] : List Loc) = locs at w ⊢
  refine r_aload_n (pc := 0) C d_S_startLike_0 rfl (lv_at hl 0 rfl) ?_
  refine r_iconst (pc := 1) C d_S_startLike_1 ?_
  refine r_put (pc := 2) (ws' := sw cI q a b sg ln 0 pl ov lc sd ++ sw cI q2 a2 b2 sg2 ln2 r2 pl2 ov2 lc2 sd2) C w i_S t_S t_S_ok n_S rfl 0 rfl 2 (by decide) fl_S_18 rfl rfl rfl rfl (Nat.le_of_ble_eq_true rfl) rfl d_S_startLike_2 (fun H locs w => ?_)
  refine r_aload_n (pc := 5) C d_S_startLike_5 rfl (lv_at hl 0 rfl) ?_
  refine r_iconst (pc := 6) C d_S_startLike_6 ?_
  refine r_put (pc := 7) (ws' := sw cI q a b sg ln 0 0 ov lc sd ++ sw cI q2 a2 b2 sg2 ln2 r2 pl2 ov2 lc2 sd2) C w i_S t_S t_S_ok n_S rfl 0 rfl 3 (by decide) fl_S_22 rfl rfl rfl rfl (Nat.le_of_ble_eq_true rfl) rfl d_S_startLike_7 (fun H locs w => ?_)
  refine r_aload_n (pc := 10) C d_S_startLike_10 rfl (lv_at hl 0 rfl) ?_
  refine r_iconst (pc := 11) C d_S_startLike_11 ?_
  refine r_put (pc := 12) (ws' := sw cI q a b sg ln 0 0 0 lc sd ++ sw cI q2 a2 b2 sg2 ln2 r2 pl2 ov2 lc2 sd2) C w i_S t_S t_S_ok n_S rfl 0 rfl 4 (by decide) fl_S_25 rfl rfl (by decide) (by decide) (Nat.le_of_ble_eq_true rfl) rfl d_S_startLike_12 (fun H locs w => ?_)
  refine r_aload_n (pc := 15) C d_S_startLike_15 rfl (lv_at hl 0 rfl) ?_
  refine r_aload_n (pc := 16) C d_S_startLike_16 rfl (lv_at hl 1 rfl) ?_
  refine r_get (pc := 17) (v := .int (iI lc2)) C w i_S rfl 3 rfl 5 (by decide) fl_S_29 rfl rfl d_S_startLike_17 ?_
  refine r_put (pc := 20) (ws' := sw cI q a b sg ln 0 0 0 lc2 sd ++ sw cI q2 a2 b2 sg2 ln2 r2 pl2 ov2 lc2 sd2) C w i_S t_S t_S_ok n_S rfl 0 rfl 5 (by decide) fl_S_29 rfl rfl rfl rfl (Nat.le_of_ble_eq_true rfl) rfl d_S_startLike_20 (fun H locs w => ?_)
  refine r_aload_n (pc := 23) C d_S_startLike_23 rfl (lv_at hl 0 rfl) ?_
  refine r_aload_n (pc := 24) C d_S_startLike_24 rfl (lv_at hl 1 rfl) ?_
  refine r_get (pc := 25) (v := .int (iI sd2)) C w i_S rfl 3 rfl 6 (by decide) fl_S_32 rfl rfl d_S_startLike_25 ?_
  refine r_put (pc := 28) (ws' := sw cI q a b sg ln 0 0 0 lc2 sd2 ++ sw cI q2 a2 b2 sg2 ln2 r2 pl2 ov2 lc2 sd2) C w i_S t_S t_S_ok n_S rfl 0 rfl 6 (by decide) fl_S_32 rfl rfl rfl rfl (Nat.le_of_ble_eq_true rfl) rfl d_S_startLike_28 (fun H locs w => ?_)
  exact kret _ _ _ _ _ d_S_startLike_31 w (rfl)
theorem d_S_appendPiece_0 : decode b_S_appendPiece 0 = .ok (.iconst 0, 1) := by decide +kernel
theorem d_S_appendPiece_1 : decode b_S_appendPiece 1 = .ok (.istore 4, 2) := by decide +kernel
theorem d_S_appendPiece_3 : decode b_S_appendPiece 3 = .ok (.iconst 0, 1) := by decide +kernel
theorem d_S_appendPiece_4 : decode b_S_appendPiece 4 = .ok (.istore 5, 2) := by decide +kernel
theorem d_S_appendPiece_6 : decode b_S_appendPiece 6 = .ok (.iload 5, 2) := by decide +kernel
theorem d_S_appendPiece_8 : decode b_S_appendPiece 8 = .ok (.aload_n 1, 1) := by decide +kernel
theorem d_S_appendPiece_9 : decode b_S_appendPiece 9 = .ok (.getfield 18, 3) := by decide +kernel
theorem d_S_appendPiece_12 : decode b_S_appendPiece 12 = .ok (.if_icmp .ge 49, 3) := by decide +kernel
theorem d_S_appendPiece_15 : decode b_S_appendPiece 15 = .ok (.aload_n 0, 1) := by decide +kernel
theorem d_S_appendPiece_16 : decode b_S_appendPiece 16 = .ok (.aload_n 1, 1) := by decide +kernel
theorem d_S_appendPiece_17 : decode b_S_appendPiece 17 = .ok (.getfield 9, 3) := by decide +kernel
theorem d_S_appendPiece_20 : decode b_S_appendPiece 20 = .ok (.iload 5, 2) := by decide +kernel
theorem d_S_appendPiece_22 : decode b_S_appendPiece 22 = .ok (.iaload, 1) := by decide +kernel
theorem d_S_appendPiece_23 : decode b_S_appendPiece 23 = .ok (.iload 4, 2) := by decide +kernel
theorem d_S_appendPiece_25 : decode b_S_appendPiece 25 = .ok (.iload 4, 2) := by decide +kernel
theorem d_S_appendPiece_27 : decode b_S_appendPiece 27 = .ok (.aload_n 1, 1) := by decide +kernel
theorem d_S_appendPiece_28 : decode b_S_appendPiece 28 = .ok (.getfield 15, 3) := by decide +kernel
theorem d_S_appendPiece_31 : decode b_S_appendPiece 31 = .ok (.iload 5, 2) := by decide +kernel
theorem d_S_appendPiece_33 : decode b_S_appendPiece 33 = .ok (.iaload, 1) := by decide +kernel
theorem d_S_appendPiece_34 : decode b_S_appendPiece 34 = .ok (.iadd, 1) := by decide +kernel
theorem d_S_appendPiece_35 : decode b_S_appendPiece 35 = .ok (.iload_n 2, 1) := by decide +kernel
theorem d_S_appendPiece_36 : decode b_S_appendPiece 36 = .ok (.iload_n 3, 1) := by decide +kernel
theorem d_S_appendPiece_37 : decode b_S_appendPiece 37 = .ok (.invokestatic 43, 3) := by decide +kernel
theorem d_S_appendPiece_40 : decode b_S_appendPiece 40 = .ok (.invokevirtual 47, 3) := by decide +kernel
theorem d_S_appendPiece_43 : decode b_S_appendPiece 43 = .ok (.iload 4, 2) := by decide +kernel
theorem d_S_appendPiece_45 : decode b_S_appendPiece 45 = .ok (.aload_n 1, 1) := by decide +kernel
theorem d_S_appendPiece_46 : decode b_S_appendPiece 46 = .ok (.getfield 15, 3) := by decide +kernel
theorem d_S_appendPiece_49 : decode b_S_appendPiece 49 = .ok (.iload 5, 2) := by decide +kernel
theorem d_S_appendPiece_51 : decode b_S_appendPiece 51 = .ok (.iaload, 1) := by decide +kernel
theorem d_S_appendPiece_52 : decode b_S_appendPiece 52 = .ok (.iadd, 1) := by decide +kernel
theorem d_S_appendPiece_53 : decode b_S_appendPiece 53 = .ok (.istore 4, 2) := by decide +kernel
theorem d_S_appendPiece_55 : decode b_S_appendPiece 55 = .ok (.iinc 5 1, 3) := by decide +kernel
theorem d_S_appendPiece_58 : decode b_S_appendPiece 58 = .ok (.goto (-52), 3) := by decide +kernel
theorem d_S_appendPiece_61 : decode b_S_appendPiece 61 = .ok (.return_, 1) := by decide +kernel
set_option maxHeartbeats 4000000 in
set_option maxRecDepth 20000 in
theorem c_S_appendPiece {l : Launch} {G : va_G} {tys : List (ClassId × FieldType)} {cI cO cZ : ClassId} (hT : TY tys cI cO cZ) (q a b : Nat) (sg ln : Int → Int) (r pl ov lc sd : Int) (q2 a2 b2 : Nat) (sg2 ln2 : Int → Int) (r2 pl2 ov2 lc2 sd2 : Int) (n N e f : Int) (v u : Int → Int) (hV : RV r pl ov sg ln n v) (hO : Ok r2 sg2 ln2 N u) (hr : r2 ≤ 50) (hN : N ≤ 3000) (hf : 0 ≤ f ∧ f ≤ 100000000) (he : 0 ≤ e ∧ e ≤ 100000000) : CTV l G tys y_S_appendPiece b_S_appendPiece 6 2 42 [.ref q, .ref q2, .int (iI f), .int (iI e)] (sw cI q a b sg ln r pl ov lc sd ++ sw cI q2 a2 b2 sg2 ln2 r2 pl2 ov2 lc2 sd2) (fun w => ∃ (sg' ln' : Int → Int) (r' pl' ov' : Int), w = sw cI q a b sg' ln' r' pl' ov' lc sd ++ sw cI q2 a2 b2 sg2 ln2 r2 pl2 ov2 lc2 sd2 ∧ RV r' pl' ov' sg' ln' (n + max 0 (min N e - f)) (cat v n u f)) := by
  refine mkV (by decide) (Nat.le_of_ble_eq_true rfl) ?_
  rintro X rfl rfl rfl hRm C kret H ls w hl
  have hl : lv_has ls 6 [(0, .ref q), (1, .ref q2), (2, .int (iI f)), (3, .int (iI e))] := hl
  have w : Wd X (sw cI q a b sg ln r pl ov lc sd ++ sw cI q2 a2 b2 sg2 ln2 r2 pl2 ov2 lc2 sd2) H [] := w
  generalize ([] : List Loc) = locs at w ⊢
  have hr0 := hO.1
  have hN0 := hO.n0
  have hps := ps_zero ln2
  refine r_iconst (pc := 0) C d_S_appendPiece_0 ?_
  refine r_istore (pc := 1) (lv' := [(4, .int (iI 0)), (0, .ref q), (1, .ref q2), (2, .int (iI f)), (3, .int (iI e))]) C d_S_appendPiece_1 hl (by decide) rfl (fun ls hl => ?_)
  refine r_iconst (pc := 3) C d_S_appendPiece_3 ?_
  refine r_istore (pc := 4) (lv' := [(5, .int (iI 0)), (4, .int (iI 0)), (0, .ref q), (1, .ref q2), (2, .int (iI f)), (3, .int (iI e))]) C d_S_appendPiece_4 hl (by decide) rfl (fun ls hl => ?_)
  have L6 : ∀ (fuel : Nat), ∀ (run : Int) (start : Int) (sg1 : Int → Int) (ln1 : Int → Int) (r1 : Int) (pl1 : Int) (ov1 : Int), 0 ≤ run ∧ run ≤ r2 → start = ps ln2 run → RV r1 pl1 ov1 sg1 ln1 (n + max 0 (min start e - f)) (cat v n u f) → (r2 - run) < (fuel : Int) → ∀ (H : Heap) (locs : List Loc) (ls : Array Slot), Wd X (sw cI q a b sg1 ln1 r1 pl1 ov1 lc sd ++ sw cI q2 a2 b2 sg2 ln2 r2 pl2 ov2 lc2 sd2) H locs → lv_has ls 6 [(0, .ref q), (1, .ref q2), (2, .int (iI f)), (3, .int (iI e)), (4, .int (iI start)), (5, .int (iI run))] → GG X 0 0 H locs 6 ls [] := by
    intro fuel
    induction fuel with
    | zero =>
      intro run start sg1 ln1 r1 pl1 ov1 h0 hst hV1 hfuel
      exact absurd hfuel (by omega)
    | succ fuel ih6 =>
      intro run start sg1 ln1 r1 pl1 ov1 h0 hst hV1 hfuel H locs ls w hl
      refine r_iload (pc := 6) C d_S_appendPiece_6 (lv_at hl 5 rfl) ?_
      refine r_aload_n (pc := 8) C d_S_appendPiece_8 rfl (lv_at hl 1 rfl) ?_
      refine r_get (pc := 9) (v := .int (iI r2)) C w i_S rfl 3 rfl 2 (by decide) fl_S_18 rfl rfl d_S_appendPiece_9 ?_
      refine r_icmp_ge (pc := 12) (tgt := 61) C (by omega) d_S_appendPiece_12 (by decide) (fun c_12 => ?_) (fun c_12 => ?_)
      · skip
        exact kret _ _ _ _ _ d_S_appendPiece_61 w (⟨_, _, _, _, _, rfl, hV1.to (by rw [show start = N by rw [hst, show run = r2 by omega]; exact hO.2.2.2.1]) (fun _ _ _ => rfl)⟩)
      · skip
        have hk := hO.run (k := run) (by omega) (by omega)
        refine r_aload_n (pc := 15) C d_S_appendPiece_15 rfl (lv_at hl 0 rfl) ?_
        refine r_aload_n (pc := 16) C d_S_appendPiece_16 rfl (lv_at hl 1 rfl) ?_
        refine r_get (pc := 17) (v := .ref a2) C w i_S rfl 3 rfl 0 (by decide) fl_S_9 rfl rfl d_S_appendPiece_17 ?_
        refine r_iload (pc := 20) C d_S_appendPiece_20 (lv_at hl 5 rfl) ?_
        refine r_iald (pc := 22) (f := sg2) (i := run) C w 0 4 rfl hT.1 (by omega) d_S_appendPiece_22 ?_
        refine r_iload (pc := 23) C d_S_appendPiece_23 (lv_at hl 4 rfl) ?_
        refine r_iload (pc := 25) C d_S_appendPiece_25 (lv_at hl 4 rfl) ?_
        refine r_aload_n (pc := 27) C d_S_appendPiece_27 rfl (lv_at hl 1 rfl) ?_
        refine r_get (pc := 28) (v := .ref b2) C w i_S rfl 3 rfl 1 (by decide) fl_S_15 rfl rfl d_S_appendPiece_28 ?_
        refine r_iload (pc := 31) C d_S_appendPiece_31 (lv_at hl 5 rfl) ?_
        refine r_iald (pc := 33) (f := ln2) (i := run) C w 0 5 rfl hT.1 (by omega) d_S_appendPiece_33 ?_
        refine r_iadd (pc := 34) C d_S_appendPiece_34 ?_
        refine r_iload_n (pc := 35) C d_S_appendPiece_35 rfl (lv_at hl 2 rfl) ?_
        refine r_iload_n (pc := 36) C d_S_appendPiece_36 rfl (lv_at hl 3 rfl) ?_
        refine r_callP (pc := 37) (As := [.int (iI start), .int (iI (start + (ln2 run))), .int (iI f), .int (iI e)]) (rest := [.int (iI (sg2 run)), .ref q]) C w (c_S_shared start (start + (ln2 run)) f e (by omega)) ml_S_43 st_S_shared ini_S cd_S_shared hd_S_shared rfl (by rw [hRm]; exact ⟨⟨Nat.le_of_ble_eq_true rfl, Nat.le_of_ble_eq_true rfl⟩, Nat.le_of_ble_eq_true rfl, Nat.le_of_ble_eq_true rfl⟩) hl.1 rfl (Nat.le_of_ble_eq_true rfl) d_S_appendPiece_37 (fun z_37 H locs hz_37 w => ?_)
        refine r_callVV (pc := 40) (As := [.int (iI (sg2 run)), .int (iI z_37)]) (rest := []) (wr := (sw cI q2 a2 b2 sg2 ln2 r2 pl2 ov2 lc2 sd2)) C w (c_S_append hT q a b sg1 ln1 r1 pl1 ov1 lc sd (sg2 run) z_37 _ _ hV1 (by omega) (by omega)) ml_S_47 im_S_append se_S_append ini_S cd_S_append hd_S_append rfl (by rw [hRm]; exact ⟨⟨Nat.le_of_ble_eq_true rfl, Nat.le_of_ble_eq_true rfl⟩, Nat.le_of_ble_eq_true rfl, Nat.le_of_ble_eq_true rfl⟩) hl.1 [0, 1, 2] [3, 4, 5] ⟨rfl, rfl, by decide, by decide, by decide⟩ 0 rfl rfl rfl (Nat.le_of_ble_eq_true rfl) d_S_appendPiece_40 (fun u_40 H locs hz_40 w => ?_)
        obtain ⟨sg_40, ln_40, r_40, pl_40, ov_40, rfl, hV_40⟩ := hz_40
        have w : Wd X (sw cI q a b sg_40 ln_40 r_40 pl_40 ov_40 lc sd ++ sw cI q2 a2 b2 sg2 ln2 r2 pl2 ov2 lc2 sd2) H locs := w.sub [3, 4, 5, 0, 1, 2] rfl (by decide)
        refine r_iload (pc := 43) C d_S_appendPiece_43 (lv_at hl 4 rfl) ?_
        refine r_aload_n (pc := 45) C d_S_appendPiece_45 rfl (lv_at hl 1 rfl) ?_
        refine r_get (pc := 46) (v := .ref b2) C w i_S rfl 3 rfl 1 (by decide) fl_S_15 rfl rfl d_S_appendPiece_46 ?_
        refine r_iload (pc := 49) C d_S_appendPiece_49 (lv_at hl 5 rfl) ?_
        refine r_iald (pc := 51) (f := ln2) (i := run) C w 0 5 rfl hT.1 (by omega) d_S_appendPiece_51 ?_
        refine r_iadd (pc := 52) C d_S_appendPiece_52 ?_
        refine r_istore (pc := 53) (lv' := [(4, .int (iI (start + (ln2 run)))), (0, .ref q), (1, .ref q2), (2, .int (iI f)), (3, .int (iI e)), (5, .int (iI run))]) C d_S_appendPiece_53 hl (by decide) rfl (fun ls hl => ?_)
        refine r_iinc (pc := 55) (j := 5) (lv' := [(5, .int (iI (run + 1))), (4, .int (iI (start + (ln2 run)))), (0, .ref q), (1, .ref q2), (2, .int (iI f)), (3, .int (iI e))]) C d_S_appendPiece_55 hl rfl (by decide) rfl (fun ls hl => ?_)
        refine r_goto (pc := 58) (tgt := 6) C d_S_appendPiece_58 (by decide) ?_
        exact ih6 (run + 1) (start + (ln2 run)) sg_40 ln_40 r_40 pl_40 ov_40 (by omega) (by omega) (piece_step hO (by omega) (by omega) (by omega) hst hV_40 hz_37) (by omega) _ _ _ w (lv_sub hl [2, 3, 4, 5, 1, 0] rfl)
  exact L6 ((r2 - 0) + 1 : Int).toNat 0 0 sg ln r pl ov (by first | omega | rfl) (by first | omega | rfl) (hV.to (by omega) (fun x _ hx => (cat_lt hx).symm)) (by omega) _ _ _ w (lv_sub hl [2, 3, 4, 5, 1, 0] rfl)
theorem d_S_becomeCopyOf_0 : decode b_S_becomeCopyOf 0 = .ok (.aload_n 0, 1) := by decide +kernel
theorem d_S_becomeCopyOf_1 : decode b_S_becomeCopyOf 1 = .ok (.aload_n 1, 1) := by decide +kernel
theorem d_S_becomeCopyOf_2 : decode b_S_becomeCopyOf 2 = .ok (.invokevirtual 35, 3) := by decide +kernel
theorem d_S_becomeCopyOf_5 : decode b_S_becomeCopyOf 5 = .ok (.aload_n 0, 1) := by decide +kernel
theorem d_S_becomeCopyOf_6 : decode b_S_becomeCopyOf 6 = .ok (.aload_n 1, 1) := by decide +kernel
theorem d_S_becomeCopyOf_7 : decode b_S_becomeCopyOf 7 = .ok (.iconst 0, 1) := by decide +kernel
theorem d_S_becomeCopyOf_8 : decode b_S_becomeCopyOf 8 = .ok (.aload_n 1, 1) := by decide +kernel
theorem d_S_becomeCopyOf_9 : decode b_S_becomeCopyOf 9 = .ok (.getfield 22, 3) := by decide +kernel
theorem d_S_becomeCopyOf_12 : decode b_S_becomeCopyOf 12 = .ok (.invokevirtual 39, 3) := by decide +kernel
theorem d_S_becomeCopyOf_15 : decode b_S_becomeCopyOf 15 = .ok (.return_, 1) := by decide +kernel
set_option maxHeartbeats 4000000 in
set_option maxRecDepth 20000 in
theorem c_S_becomeCopyOf {l : Launch} {G : va_G} {tys : List (ClassId × FieldType)} {cI cO cZ : ClassId} (hT : TY tys cI cO cZ) (q a b : Nat) (sg ln : Int → Int) (r pl ov lc sd : Int) (q2 a2 b2 : Nat) (sg2 ln2 : Int → Int) (r2 pl2 ov2 lc2 sd2 : Int) (N : Int) (u : Int → Int) (hO : Ok r2 sg2 ln2 N u) (hr : r2 ≤ 50) (hN : N ≤ 3000) (hp : pl2 = N) : CTV l G tys y_S_becomeCopyOf b_S_becomeCopyOf 2 3 67 [.ref q, .ref q2] (sw cI q a b sg ln r pl ov lc sd ++ sw cI q2 a2 b2 sg2 ln2 r2 pl2 ov2 lc2 sd2) (fun w => ∃ (sg' ln' : Int → Int), w = sw cI q a b sg' ln' r2 N 0 lc2 sd2 ++ sw cI q2 a2 b2 sg2 ln2 r2 pl2 ov2 lc2 sd2 ∧ Ok r2 sg' ln' N u) := by
  refine mkV (by decide) (Nat.le_of_ble_eq_true rfl) ?_
  rintro X rfl rfl rfl hRm C kret H ls w hl
  have hl : lv_has ls 2 [(0, .ref q), (1, .ref q2)] := hl
  have w : Wd X (sw cI q a b sg ln r pl ov lc sd ++ sw cI q2 a2 b2 sg2 ln2 r2 pl2 ov2 lc2 sd2) H [] := w
  generalize ([] : List Loc) = locs at w ⊢
  have hr0 := hO.1
  have hN0 := hO.n0
  subst hp
  refine r_aload_n (pc := 0) C d_S_becomeCopyOf_0 rfl (lv_at hl 0 rfl) ?_
  refine r_aload_n (pc := 1) C d_S_becomeCopyOf_1 rfl (lv_at hl 1 rfl) ?_
  refine r_callVV (pc := 2) (As := [.ref q2]) (rest := []) (wr := ([])) C w (c_S_startLike hT q a b sg ln r pl ov lc sd q2 a2 b2 sg2 ln2 r2 pl2 ov2 lc2 sd2) ml_S_35 im_S_startLike se_S_startLike ini_S cd_S_startLike hd_S_startLike rfl (by rw [hRm]; exact ⟨⟨Nat.le_of_ble_eq_true rfl, Nat.le_of_ble_eq_true rfl⟩, Nat.le_of_ble_eq_true rfl, Nat.le_of_ble_eq_true rfl⟩) hl.1 [0, 1, 2, 3, 4, 5] [] ⟨rfl, rfl, by decide, by decide, by decide⟩ 0 rfl rfl rfl (Nat.le_of_ble_eq_true rfl) d_S_becomeCopyOf_2 (fun u_2 H locs hz_2 w => ?_)
  subst hz_2
  have w : Wd X (sw cI q a b sg ln 0 0 0 lc2 sd2 ++ sw cI q2 a2 b2 sg2 ln2 r2 pl2 ov2 lc2 sd2) H locs := w.sub [0, 1, 2, 3, 4, 5] rfl (by decide)
  refine r_aload_n (pc := 5) C d_S_becomeCopyOf_5 rfl (lv_at hl 0 rfl) ?_
  refine r_aload_n (pc := 6) C d_S_becomeCopyOf_6 rfl (lv_at hl 1 rfl) ?_
  refine r_iconst (pc := 7) C d_S_becomeCopyOf_7 ?_
  refine r_aload_n (pc := 8) C d_S_becomeCopyOf_8 rfl (lv_at hl 1 rfl) ?_
  refine r_get (pc := 9) (v := .int (iI pl2)) C w i_S rfl 3 rfl 3 (by decide) fl_S_22 rfl rfl d_S_becomeCopyOf_9 ?_
  refine r_callVV (pc := 12) (As := [.ref q2, .int (iI 0), .int (iI pl2)]) (rest := []) (wr := ([])) C w (c_S_appendPiece hT q a b sg ln 0 0 0 lc2 sd2 q2 a2 b2 sg2 ln2 r2 pl2 ov2 lc2 sd2 _ _ pl2 0 _ _ (RV.empty sg ln u) hO (by omega) (by omega) (by omega) (by omega)) ml_S_39 im_S_appendPiece se_S_appendPiece ini_S cd_S_appendPiece hd_S_appendPiece rfl (by rw [hRm]; exact ⟨⟨Nat.le_of_ble_eq_true rfl, Nat.le_of_ble_eq_true rfl⟩, Nat.le_of_ble_eq_true rfl, Nat.le_of_ble_eq_true rfl⟩) hl.1 [0, 1, 2, 3, 4, 5] [] ⟨rfl, rfl, by decide, by decide, by decide⟩ 0 rfl rfl rfl (Nat.le_of_ble_eq_true rfl) d_S_becomeCopyOf_12 (fun u_12 H locs hz_12 w => ?_)
  obtain ⟨sg_12, ln_12, r_12, pl_12, ov_12, rfl, hV_12⟩ := hz_12
  have w : Wd X (sw cI q a b sg_12 ln_12 r_12 pl_12 ov_12 lc2 sd2 ++ sw cI q2 a2 b2 sg2 ln2 r2 pl2 ov2 lc2 sd2) H locs := w.sub [0, 1, 2, 3, 4, 5] rfl (by decide)
  have hV2 := hV_12.to (u := u) (by omega : _ = pl2) (fun x h1 _ => by rw [cat_ge (by omega)]; congr 1; omega)
  rcases hV2.ov01 with ⟨e1, e2, e3, e4, e5⟩ | ⟨e1, e2⟩
  case inr => exact absurd (show fits_ pl2 u from ⟨hN, by rw [hO.rcE]; exact hr⟩) e2
  have e6 := (e3.uniq hO).1
  subst e6 e1 e2
  exact kret _ _ _ _ _ d_S_becomeCopyOf_15 w (⟨_, _, rfl, e3⟩)
theorem d_S_appendAllBut_0 : decode b_S_appendAllBut 0 = .ok (.aload_n 0, 1) := by decide +kernel
theorem d_S_appendAllBut_1 : decode b_S_appendAllBut 1 = .ok (.aload_n 1, 1) := by decide +kernel
theorem d_S_appendAllBut_2 : decode b_S_appendAllBut 2 = .ok (.iconst 0, 1) := by decide +kernel
theorem d_S_appendAllBut_3 : decode b_S_appendAllBut 3 = .ok (.iload_n 2, 1) := by decide +kernel
theorem d_S_appendAllBut_4 : decode b_S_appendAllBut 4 = .ok (.invokevirtual 39, 3) := by decide +kernel
theorem d_S_appendAllBut_7 : decode b_S_appendAllBut 7 = .ok (.aload_n 0, 1) := by decide +kernel
theorem d_S_appendAllBut_8 : decode b_S_appendAllBut 8 = .ok (.aload_n 1, 1) := by decide +kernel
theorem d_S_appendAllBut_9 : decode b_S_appendAllBut 9 = .ok (.iload_n 3, 1) := by decide +kernel
theorem d_S_appendAllBut_10 : decode b_S_appendAllBut 10 = .ok (.aload_n 1, 1) := by decide +kernel
theorem d_S_appendAllBut_11 : decode b_S_appendAllBut 11 = .ok (.getfield 22, 3) := by decide +kernel
theorem d_S_appendAllBut_14 : decode b_S_appendAllBut 14 = .ok (.invokevirtual 39, 3) := by decide +kernel
theorem d_S_appendAllBut_17 : decode b_S_appendAllBut 17 = .ok (.return_, 1) := by decide +kernel
set_option maxHeartbeats 4000000 in
set_option maxRecDepth 20000 in
theorem c_S_appendAllBut {l : Launch} {G : va_G} {tys : List (ClassId × FieldType)} {cI cO cZ : ClassId} (hT : TY tys cI cO cZ) (q a b : Nat) (sg ln : Int → Int) (r pl ov lc sd : Int) (q2 a2 b2 : Nat) (sg2 ln2 : Int → Int) (r2 pl2 ov2 lc2 sd2 : Int) (n N e f : Int) (v u : Int → Int) (hV : RV r pl ov sg ln n v) (hO : Ok r2 sg2 ln2 N u) (hr : r2 ≤ 50) (hN : N ≤ 3000) (hf : 0 ≤ f ∧ f ≤ N) (he : 0 ≤ e ∧ e ≤ N) (hp : pl2 = N) : CTV l G tys y_S_appendAllBut b_S_appendAllBut 4 3 67 [.ref q, .ref q2, .int (iI f), .int (iI e)] (sw cI q a b sg ln r pl ov lc sd ++ sw cI q2 a2 b2 sg2 ln2 r2 pl2 ov2 lc2 sd2) (fun w => ∃ (sg' ln' : Int → Int) (r' pl' ov' : Int), w = sw cI q a b sg' ln' r' pl' ov' lc sd ++ sw cI q2 a2 b2 sg2 ln2 r2 pl2 ov2 lc2 sd2 ∧ RV r' pl' ov' sg' ln' (n + f + (N - e)) (cat (cat v n u 0) (n + f) u e)) := by
  refine mkV (by decide) (Nat.le_of_ble_eq_true rfl) ?_
  rintro X rfl rfl rfl hRm C kret H ls w hl
  have hl : lv_has ls 4 [(0, .ref q), (1, .ref q2), (2, .int (iI f)), (3, .int (iI e))] := hl
  have w : Wd X (sw cI q a b sg ln r pl ov lc sd ++ sw cI q2 a2 b2 sg2 ln2 r2 pl2 ov2 lc2 sd2) H [] := w
  generalize ([] : List Loc) = locs at w ⊢
  have hr0 := hO.1
  have hN0 := hO.n0
  subst hp
  refine r_aload_n (pc := 0) C d_S_appendAllBut_0 rfl (lv_at hl 0 rfl) ?_
  refine r_aload_n (pc := 1) C d_S_appendAllBut_1 rfl (lv_at hl 1 rfl) ?_
  refine r_iconst (pc := 2) C d_S_appendAllBut_2 ?_
  refine r_iload_n (pc := 3) C d_S_appendAllBut_3 rfl (lv_at hl 2 rfl) ?_
  refine r_callVV (pc := 4) (As := [.ref q2, .int (iI 0), .int (iI f)]) (rest := []) (wr := ([])) C w (c_S_appendPiece hT q a b sg ln r pl ov lc sd q2 a2 b2 sg2 ln2 r2 pl2 ov2 lc2 sd2 _ _ f 0 _ _ hV hO (by omega) (by omega) (by omega) (by omega)) ml_S_39 im_S_appendPiece se_S_appendPiece ini_S cd_S_appendPiece hd_S_appendPiece rfl (by rw [hRm]; exact ⟨⟨Nat.le_of_ble_eq_true rfl, Nat.le_of_ble_eq_true rfl⟩, Nat.le_of_ble_eq_true rfl, Nat.le_of_ble_eq_true rfl⟩) hl.1 [0, 1, 2, 3, 4, 5] [] ⟨rfl, rfl, by decide, by decide, by decide⟩ 0 rfl rfl rfl (Nat.le_of_ble_eq_true rfl) d_S_appendAllBut_4 (fun u_4 H locs hz_4 w => ?_)
  obtain ⟨sg_4, ln_4, r_4, pl_4, ov_4, rfl, hV_4⟩ := hz_4
  have w : Wd X (sw cI q a b sg_4 ln_4 r_4 pl_4 ov_4 lc sd ++ sw cI q2 a2 b2 sg2 ln2 r2 pl2 ov2 lc2 sd2) H locs := w.sub [0, 1, 2, 3, 4, 5] rfl (by decide)
  have hV2 := hV_4.to (n' := n + f) (by omega) (fun _ _ _ => rfl)
  refine r_aload_n (pc := 7) C d_S_appendAllBut_7 rfl (lv_at hl 0 rfl) ?_
  refine r_aload_n (pc := 8) C d_S_appendAllBut_8 rfl (lv_at hl 1 rfl) ?_
  refine r_iload_n (pc := 9) C d_S_appendAllBut_9 rfl (lv_at hl 3 rfl) ?_
  refine r_aload_n (pc := 10) C d_S_appendAllBut_10 rfl (lv_at hl 1 rfl) ?_
  refine r_get (pc := 11) (v := .int (iI pl2)) C w i_S rfl 3 rfl 3 (by decide) fl_S_22 rfl rfl d_S_appendAllBut_11 ?_
  refine r_callVV (pc := 14) (As := [.ref q2, .int (iI e), .int (iI pl2)]) (rest := []) (wr := ([])) C w (c_S_appendPiece hT q a b sg_4 ln_4 r_4 pl_4 ov_4 lc sd q2 a2 b2 sg2 ln2 r2 pl2 ov2 lc2 sd2 _ _ pl2 e _ _ hV2 hO (by omega) (by omega) (by omega) (by omega)) ml_S_39 im_S_appendPiece se_S_appendPiece ini_S cd_S_appendPiece hd_S_appendPiece rfl (by rw [hRm]; exact ⟨⟨Nat.le_of_ble_eq_true rfl, Nat.le_of_ble_eq_true rfl⟩, Nat.le_of_ble_eq_true rfl, Nat.le_of_ble_eq_true rfl⟩) hl.1 [0, 1, 2, 3, 4, 5] [] ⟨rfl, rfl, by decide, by decide, by decide⟩ 0 rfl rfl rfl (Nat.le_of_ble_eq_true rfl) d_S_appendAllBut_14 (fun u_14 H locs hz_14 w => ?_)
  obtain ⟨sg_14, ln_14, r_14, pl_14, ov_14, rfl, hV_14⟩ := hz_14
  have w : Wd X (sw cI q a b sg_14 ln_14 r_14 pl_14 ov_14 lc sd ++ sw cI q2 a2 b2 sg2 ln2 r2 pl2 ov2 lc2 sd2) H locs := w.sub [0, 1, 2, 3, 4, 5] rfl (by decide)
  exact kret _ _ _ _ _ d_S_appendAllBut_17 w (⟨_, _, _, _, _, rfl, hV_14.to (by omega) (fun _ _ _ => rfl)⟩)
end
section
/-! edits: what a piece becomes -/
theorem ps_in {g : Int → Int} {a lo hi : Int} (ha : 0 ≤ a) : ∀ m, 0 ≤ m → (∀ x, a ≤ x → x < a + m → ((lo ≤ x ∧ x < hi) → g x = 1) ∧ (¬ (lo ≤ x ∧ x < hi) → g x = 0)) → ps g (a + m) = ps g a + max 0 (min (a + m) hi - max a lo) := by
  refine int_ind (fun _ => ?_) (fun m hm ih h => ?_)
  · rw [Int.add_zero]; omega
  · have h1 := ih (fun x h1 h2 => h x h1 (by omega))
    rw [← Int.add_assoc, ps_succ g (by omega), h1]
    have h2 := h (a + m) (by omega) (by omega)
    by_cases q : lo ≤ a + m ∧ a + m < hi
    · rw [h2.1 q]; omega
    · rw [h2.2 q]; omega
theorem ps_none {g : Int → Int} {a : Int} (ha : 0 ≤ a) : ∀ m, 0 ≤ m → (∀ x, a ≤ x → x < a + m → g x = 0) → ps g (a + m) = ps g a := by
  refine int_ind (fun _ => by rw [Int.add_zero]) (fun m hm ih h => ?_)
  rw [← Int.add_assoc, ps_succ g (by omega), ih (fun x h1 h2 => h x h1 (by omega)), h (a + m) (by omega) (by omega)]
  omega
theorem ps_all {g : Int → Int} {a : Int} (ha : 0 ≤ a) : ∀ m, 0 ≤ m → (∀ x, a ≤ x → x < a + m → g x = 1) → ps g (a + m) = ps g a + m := by
  refine int_ind (fun _ => by simp) (fun m hm ih h => ?_)
  rw [← Int.add_assoc, ps_succ g (by omega), ih (fun x h1 h2 => h x h1 (by omega)), h (a + m) (by omega) (by omega)]
  omega
/-- what a sign becomes: 0 writing, 1 adding, 2 killing, 3 reviving -/
def sa (ed s num : Int) : Int := if ed = 2 then 10 else if (ed = 3) ≠ (s = 10) then s else if ed = 1 then (s + num) % 10 else num
def edt (f e ed num : Int) (u : Int → Int) : Int → Int := fun x => if f ≤ x ∧ x < e then sa ed (u x) num else u x
def edc (f e ed num : Int) (u : Int → Int) : Int → Int := fun x => if (f ≤ x ∧ x < e) ∧ sa ed (u x) num ≠ u x then 1 else 0
theorem sa_cases (ed s num : Int) : (ed = 2 ∧ sa ed s num = 10) ∨ (ed ≠ 2 ∧ ((ed = 3 ∧ s ≠ 10) ∨ (ed ≠ 3 ∧ s = 10)) ∧ sa ed s num = s) ∨ (ed ≠ 2 ∧ ¬ ((ed = 3 ∧ s ≠ 10) ∨ (ed ≠ 3 ∧ s = 10)) ∧ ed = 1 ∧ sa ed s num = (s + num) % 10) ∨ (ed ≠ 2 ∧ ¬ ((ed = 3 ∧ s ≠ 10) ∨ (ed ≠ 3 ∧ s = 10)) ∧ ed ≠ 1 ∧ sa ed s num = num) := by
  unfold sa
  by_cases h2 : ed = 2
  · simp [h2]
  · by_cases h3 : ed = 3 <;> by_cases hs : s = 10 <;> by_cases h1 : ed = 1 <;> simp_all
theorem sa_range {ed s num : Int} (hs : 0 ≤ s ∧ s ≤ 10) (hn : 0 ≤ num ∧ num ≤ 10) : 0 ≤ sa ed s num ∧ sa ed s num ≤ 10 := by
  have := sa_cases ed s num
  omega
theorem edited_step {r pl ov N f e ed num S k r2 z1 z2 z3 : Int} {sg ln u sg2 ln2 : Int → Int} (hO : Ok r2 sg2 ln2 N u) (h1 : 0 ≤ k) (h2 : k < r2) (hf : 0 ≤ f ∧ f ≤ e ∧ e ≤ N) (hS : S = ps ln2 k)
    (h : RV r pl ov sg ln (S + max 0 z1 + max 0 z2 + max 0 z3) (app (app (app (edt f e ed num u) S (sg2 k)) (S + max 0 z1) (sa ed (sg2 k) num)) (S + max 0 z1 + max 0 z2) (sg2 k)))
    (hz2 : z2 = max 0 (min (S + ln2 k) e - max S f)) (hz1 : z1 = max 0 (min (S + ln2 k) f - max S 0)) (hz3 : z3 = max 0 (min (S + ln2 k) N - max S e)) : RV r pl ov sg ln (S + ln2 k) (edt f e ed num u) := by
  obtain ⟨g1, g2, g3, g4, g5, g6⟩ := hO.run h1 h2
  refine h.to (by omega) (fun x q1 q2 => ?_)
  have hu : S ≤ x → u x = sg2 k := fun q => hO.2.2.2.2 k h1 h2 x (by omega) (by omega)
  by_cases hx3 : x < S + max 0 z1 + max 0 z2
  · rw [app_lt hx3]
    by_cases hx2 : x < S + max 0 z1
    · rw [app_lt hx2]
      by_cases hx1 : x < S
      · rw [app_lt hx1]
      · rw [app_ge (by omega)]
        unfold edt
        rw [if_neg (by omega), hu (by omega)]
    · rw [app_ge (by omega)]
      unfold edt
      rw [if_pos (by omega), hu (by omega)]
  · rw [app_ge (by omega)]
    unfold edt
    rw [if_neg (by omega), hu (by omega)]
theorem edited_count {N f e ed num S k r2 z2 : Int} {u sg2 ln2 : Int → Int} (hO : Ok r2 sg2 ln2 N u) (h1 : 0 ≤ k) (h2 : k < r2) (hS : S = ps ln2 k) (hz2 : z2 = max 0 (min (S + ln2 k) e - max S f)) : ps (edc f e ed num u) (S + ln2 k) = ps (edc f e ed num u) S + (if sa ed (sg2 k) num = sg2 k then 0 else z2) := by
  obtain ⟨g1, g2, g3, g4, g5, g6⟩ := hO.run h1 h2
  have hu : ∀ x, S ≤ x → x < S + ln2 k → u x = sg2 k := fun x q1 q2 => hO.2.2.2.2 k h1 h2 x (by omega) (by omega)
  by_cases q : sa ed (sg2 k) num = sg2 k
  · rw [if_pos q, ps_none (by omega) (ln2 k) (by omega) (fun x q1 q2 => by unfold edc; rw [hu x q1 q2, if_neg (fun z => z.2 q)])]
    omega
  · rw [if_neg q, ps_in (lo := f) (hi := e) (by omega) (ln2 k) (by omega) (fun x q1 q2 => by
      unfold edc
      rw [hu x q1 q2]
      exact ⟨fun z => if_pos ⟨z, q⟩, fun z => if_neg (fun y => z y.1)⟩), hz2]
/-- pieces turned round: what the last d places below e give, behind v -/
def tnN (ol : Int) (u : Int → Int) (e n : Int) : Nat → Int
  | 0 => n
  | d + 1 => tnN ol u e n d + (if ol = 0 ∨ u (e - 1 - (d : Int)) ≠ 10 then 1 else 0)
def tvN (ol : Int) (u : Int → Int) (e n : Int) (v : Int → Int) : Nat → Int → Int
  | 0 => v
  | d + 1 => if ol = 0 ∨ u (e - 1 - (d : Int)) ≠ 10 then app (tvN ol u e n v d) (tnN ol u e n d) (u (e - 1 - (d : Int))) else tvN ol u e n v d
def tn (ol : Int) (u : Int → Int) (e n d : Int) : Int := tnN ol u e n d.toNat
def tv (ol : Int) (u : Int → Int) (e n : Int) (v : Int → Int) (d : Int) : Int → Int := tvN ol u e n v d.toNat
theorem tn_zero (ol : Int) (u : Int → Int) (e n : Int) : tn ol u e n 0 = n := rfl
theorem tv_zero (ol : Int) (u : Int → Int) (e n : Int) (v : Int → Int) : tv ol u e n v 0 = v := rfl
theorem tn_succ (ol : Int) (u : Int → Int) (e n : Int) {d : Int} (h : 0 ≤ d) : tn ol u e n (d + 1) = tn ol u e n d + (if ol = 0 ∨ u (e - 1 - d) ≠ 10 then 1 else 0) := by
  unfold tn
  rw [toNat_succ h]
  show tnN ol u e n d.toNat + (if ol = 0 ∨ u (e - 1 - ((d.toNat : Nat) : Int)) ≠ 10 then 1 else 0) = _
  rw [Int.toNat_of_nonneg h]
theorem tv_succ (ol : Int) (u : Int → Int) (e n : Int) (v : Int → Int) {d : Int} (h : 0 ≤ d) : tv ol u e n v (d + 1) = if ol = 0 ∨ u (e - 1 - d) ≠ 10 then app (tv ol u e n v d) (tn ol u e n d) (u (e - 1 - d)) else tv ol u e n v d := by
  unfold tn tv
  rw [toNat_succ h]
  show (if ol = 0 ∨ u (e - 1 - ((d.toNat : Nat) : Int)) ≠ 10 then app (tvN ol u e n v d.toNat) (tnN ol u e n d.toNat) (u (e - 1 - ((d.toNat : Nat) : Int))) else tvN ol u e n v d.toNat) = _
  rw [Int.toNat_of_nonneg h]
theorem tn_ge (ol : Int) (u : Int → Int) (e n : Int) : ∀ d, 0 ≤ d → n ≤ tn ol u e n d ∧ tn ol u e n d ≤ n + d := by
  refine int_ind (by rw [tn_zero]; omega) (fun d hd ih => ?_)
  rw [tn_succ ol u e n hd]
  split <;> omega
theorem turned_skip {ol e n d s : Int} {u v : Int → Int} (hd : 0 ≤ d) (hk : ¬ (ol = 0 ∨ s ≠ 10)) : ∀ j, 0 ≤ j → (∀ x, e - d - j ≤ x → x < e - d → u x = s) → tn ol u e n (d + j) = tn ol u e n d ∧ tv ol u e n v (d + j) = tv ol u e n v d := by
  refine int_ind (fun _ => by simp) (fun j hj ih h => ?_)
  obtain ⟨a1, a2⟩ := ih (fun x h1 h2 => h x (by omega) h2)
  rw [← Int.add_assoc, tn_succ ol u e n (by omega), tv_succ ol u e n v (by omega), h (e - 1 - (d + j)) (by omega) (by omega), if_neg hk, if_neg hk, a1, a2]
  exact ⟨by omega, rfl⟩
theorem turned_keep {ol e n d s : Int} {u v : Int → Int} (hd : 0 ≤ d) (hk : ol = 0 ∨ s ≠ 10) : ∀ j, 0 ≤ j → (∀ x, e - d - j ≤ x → x < e - d → u x = s) → tn ol u e n (d + j) = tn ol u e n d + j ∧ ∀ x, x < tn ol u e n d + j → tv ol u e n v (d + j) x = app (tv ol u e n v d) (tn ol u e n d) s x := by
  refine int_ind (fun _ => ⟨by simp, fun x hx => by rw [Int.add_zero]; rw [app_lt (by omega)]⟩) (fun j hj ih h => ?_)
  obtain ⟨a1, a2⟩ := ih (fun x h1 h2 => h x (by omega) h2)
  rw [← Int.add_assoc, tn_succ ol u e n (by omega), tv_succ ol u e n v (by omega), h (e - 1 - (d + j)) (by omega) (by omega), if_pos hk, if_pos hk, a1]
  refine ⟨by omega, fun x hx => ?_⟩
  by_cases q : x < tn ol u e n d + j
  · rw [app_lt q]
    exact a2 x q
  · rw [app_ge (by omega), app_ge (by omega)]
theorem turned_step {r pl ov n N f e ol S T z k r2 : Int} {sg ln v u sg2 ln2 : Int → Int} (hO : Ok r2 sg2 ln2 N u) (h1 : 0 ≤ k) (h2 : k < r2) (hS : S = ps ln2 (k + 1)) (hT : T = S - ln2 k) (hk : ol = 0 ∨ sg2 k ≠ 10) (hf : 0 ≤ f ∧ f ≤ e ∧ e ≤ N)
    (hz : z = max 0 (min (T + ln2 k) e - max T f)) (h : RV r pl ov sg ln (tn ol u e n (max 0 (e - max S f)) + max 0 z) (app (tv ol u e n v (max 0 (e - max S f))) (tn ol u e n (max 0 (e - max S f))) (sg2 k))) : RV r pl ov sg ln (tn ol u e n (max 0 (e - max T f))) (tv ol u e n v (max 0 (e - max T f))) := by
  obtain ⟨g1, g2, g3, g4, g5, g6⟩ := hO.run h1 h2
  have hd : max 0 (e - max T f) = max 0 (e - max S f) + z := by omega
  obtain ⟨a1, a2⟩ := turned_keep (ol := ol) (e := e) (n := n) (s := sg2 k) (u := u) (v := v) (d := max 0 (e - max S f)) (by omega) hk z (by omega) (fun x q1 q2 => hO.2.2.2.2 k h1 h2 x (by omega) (by omega))
  rw [hd]
  exact h.to (by omega) (fun x q1 q2 => (a2 x (by omega)).symm)
theorem turned_over {n N f e ol S T k r2 : Int} {v u sg2 ln2 : Int → Int} (hO : Ok r2 sg2 ln2 N u) (h1 : 0 ≤ k) (h2 : k < r2) (hS : S = ps ln2 (k + 1)) (hT : T = S - ln2 k) (hk : ¬ (ol = 0 ∨ sg2 k ≠ 10)) (hf : 0 ≤ f ∧ f ≤ e ∧ e ≤ N) : tn ol u e n (max 0 (e - max T f)) = tn ol u e n (max 0 (e - max S f)) ∧ tv ol u e n v (max 0 (e - max T f)) = tv ol u e n v (max 0 (e - max S f)) := by
  obtain ⟨g1, g2, g3, g4, g5, g6⟩ := hO.run h1 h2
  have hd : max 0 (e - max T f) = max 0 (e - max S f) + (max 0 (e - max T f) - max 0 (e - max S f)) := by omega
  rw [hd]
  exact turned_skip (by omega) hk _ (by omega) (fun x q1 q2 => hO.2.2.2.2 k h1 h2 x (by omega) (by omega))
/-- live signs in front of a place -/
def lv_ (u : Int → Int) : Int → Int := fun x => if u x = 10 then 0 else 1
theorem lv_0 (u : Int → Int) (x : Int) : 0 ≤ lv_ u x ∧ lv_ u x ≤ 1 := by unfold lv_; split <;> omega
def lfm (v : Int → Int) (n : Int) (u : Int → Int) (f : Int) (w : Int → Int) : Int → Int := fun x => if x < n then v x else if u (x - n + f) = 10 then 10 else w (ps (lv_ u) (x - n + f) - ps (lv_ u) f)
theorem live_dead {r pl ov n N e f z S k r2 : Int} {sg ln v u w sg2 ln2 : Int → Int} (hO : Ok r2 sg2 ln2 N u) (h1 : 0 ≤ k) (h2 : k < r2) (hf : 0 ≤ f ∧ f ≤ e) (hS : S = ps ln2 k) (hs : sg2 k = 10) (h : RV r pl ov sg ln (n + max 0 (min S e - f) + max 0 z) (app (lfm v n u f w) (n + max 0 (min S e - f)) 10)) (hz : z = max 0 (min (S + ln2 k) e - max S f)) : RV r pl ov sg ln (n + max 0 (min (S + ln2 k) e - f)) (lfm v n u f w) := by
  obtain ⟨g1, g2, g3, g4, g5, g6⟩ := hO.run h1 h2
  refine h.to (by omega) (fun x q1 q2 => ?_)
  by_cases hx : x < n + max 0 (min S e - f)
  · rw [app_lt hx]
  · rw [app_ge (by omega)]
    unfold lfm
    rw [if_neg (by omega), if_pos]
    rw [← hs]
    exact hO.2.2.2.2 k h1 h2 _ (by omega) (by omega)
theorem live_count_dead {N e f S k r2 : Int} {u sg2 ln2 : Int → Int} (hO : Ok r2 sg2 ln2 N u) (h1 : 0 ≤ k) (h2 : k < r2) (hf : 0 ≤ f ∧ f ≤ e) (hS : S = ps ln2 k) (hs : sg2 k = 10) : ps (lv_ u) (max f (min (S + ln2 k) e)) = ps (lv_ u) (max f (min S e)) := by
  obtain ⟨g1, g2, g3, g4, g5, g6⟩ := hO.run h1 h2
  have := ps_none (g := lv_ u) (a := max f (min S e)) (by omega) (max f (min (S + ln2 k) e) - max f (min S e)) (by omega) (fun x q1 q2 => by
    unfold lv_
    rw [if_pos]
    rw [hO.2.2.2.2 k h1 h2 x (by omega) (by omega)]
    exact hs)
  rwa [show max f (min S e) + (max f (min (S + ln2 k) e) - max f (min S e)) = max f (min (S + ln2 k) e) by omega] at this
theorem live_count_live {N e f z S k r2 : Int} {u sg2 ln2 : Int → Int} (hO : Ok r2 sg2 ln2 N u) (h1 : 0 ≤ k) (h2 : k < r2) (hf : 0 ≤ f ∧ f ≤ e) (hS : S = ps ln2 k) (hs : sg2 k ≠ 10) (hz : z = max 0 (min (S + ln2 k) e - max S f)) : ps (lv_ u) (max f (min (S + ln2 k) e)) = ps (lv_ u) (max f (min S e)) + z := by
  obtain ⟨g1, g2, g3, g4, g5, g6⟩ := hO.run h1 h2
  have := ps_all (g := lv_ u) (a := max f (min S e)) (by omega) (max f (min (S + ln2 k) e) - max f (min S e)) (by omega) (fun x q1 q2 => by
    unfold lv_
    rw [if_neg]
    rw [hO.2.2.2.2 k h1 h2 x (by omega) (by omega)]
    exact hs)
  rw [show max f (min S e) + (max f (min (S + ln2 k) e) - max f (min S e)) = max f (min (S + ln2 k) e) by omega] at this
  omega
theorem live_live {r pl ov n N e f z S k r2 m : Int} {sg ln v u w sg2 ln2 : Int → Int} (hO : Ok r2 sg2 ln2 N u) (h1 : 0 ≤ k) (h2 : k < r2) (hf : 0 ≤ f ∧ f ≤ e) (hS : S = ps ln2 k) (hs : sg2 k ≠ 10) (hz : z = max 0 (min (S + ln2 k) e - max S f)) (hm : ps (lv_ u) (max f (min S e)) - ps (lv_ u) f + z ≤ m)
    (h : RV r pl ov sg ln (n + max 0 (min S e - f) + max 0 (min m (ps (lv_ u) (max f (min S e)) - ps (lv_ u) f + z) - (ps (lv_ u) (max f (min S e)) - ps (lv_ u) f))) (cat (lfm v n u f w) (n + max 0 (min S e - f)) w (ps (lv_ u) (max f (min S e)) - ps (lv_ u) f))) : RV r pl ov sg ln (n + max 0 (min (S + ln2 k) e - f)) (lfm v n u f w) := by
  obtain ⟨g1, g2, g3, g4, g5, g6⟩ := hO.run h1 h2
  refine h.to (by omega) (fun x q1 q2 => ?_)
  by_cases hx : x < n + max 0 (min S e - f)
  · rw [cat_lt hx]
  · rw [cat_ge (by omega)]
    unfold lfm
    rw [if_neg (by omega), if_neg (by rw [hO.2.2.2.2 k h1 h2 _ (by omega) (by omega)]; exact hs)]
    have := ps_all (g := lv_ u) (a := max f (min S e)) (by omega) (x - n + f - max f (min S e)) (by omega) (fun y q1 q2 => by
      unfold lv_
      rw [if_neg]
      rw [hO.2.2.2.2 k h1 h2 y (by omega) (by omega)]
      exact hs)
    rw [show max f (min S e) + (x - n + f - max f (min S e)) = x - n + f by omega] at this
    rw [this]
    congr 1
    omega
theorem lv_le {u : Int → Int} {a b : Int} (ha : 0 ≤ a) (hb : a ≤ b) : ps (lv_ u) a ≤ ps (lv_ u) b ∧ ps (lv_ u) b ≤ ps (lv_ u) a + (b - a) := by
  have key : ∀ m, 0 ≤ m → ps (lv_ u) a ≤ ps (lv_ u) (a + m) ∧ ps (lv_ u) (a + m) ≤ ps (lv_ u) a + m := by
    refine int_ind (by simp) (fun m hm ih => ?_)
    rw [← Int.add_assoc, ps_succ _ (by omega)]
    have := lv_0 u (a + m)
    omega
  have := key (b - a) (by omega)
  rw [show a + (b - a) = b by omega] at this
  exact this

theorem d_S_signAfter_0 : decode b_S_signAfter 0 = .ok (.iload_n 0, 1) := by decide +kernel
theorem d_S_signAfter_1 : decode b_S_signAfter 1 = .ok (.iconst 2, 1) := by decide +kernel
theorem d_S_signAfter_2 : decode b_S_signAfter 2 = .ok (.if_icmp .ne 6, 3) := by decide +kernel
theorem d_S_signAfter_5 : decode b_S_signAfter 5 = .ok (.bipush 10, 2) := by decide +kernel
theorem d_S_signAfter_7 : decode b_S_signAfter 7 = .ok (.ireturn, 1) := by decide +kernel
theorem d_S_signAfter_8 : decode b_S_signAfter 8 = .ok (.iload_n 0, 1) := by decide +kernel
theorem d_S_signAfter_9 : decode b_S_signAfter 9 = .ok (.iconst 3, 1) := by decide +kernel
theorem d_S_signAfter_10 : decode b_S_signAfter 10 = .ok (.if_icmp .ne 7, 3) := by decide +kernel
theorem d_S_signAfter_13 : decode b_S_signAfter 13 = .ok (.iconst 1, 1) := by decide +kernel
theorem d_S_signAfter_14 : decode b_S_signAfter 14 = .ok (.goto 4, 3) := by decide +kernel
theorem d_S_signAfter_17 : decode b_S_signAfter 17 = .ok (.iconst 0, 1) := by decide +kernel
theorem d_S_signAfter_18 : decode b_S_signAfter 18 = .ok (.iload_n 1, 1) := by decide +kernel
theorem d_S_signAfter_19 : decode b_S_signAfter 19 = .ok (.bipush 10, 2) := by decide +kernel
theorem d_S_signAfter_21 : decode b_S_signAfter 21 = .ok (.if_icmp .ne 7, 3) := by decide +kernel
theorem d_S_signAfter_24 : decode b_S_signAfter 24 = .ok (.iconst 1, 1) := by decide +kernel
theorem d_S_signAfter_25 : decode b_S_signAfter 25 = .ok (.goto 4, 3) := by decide +kernel
theorem d_S_signAfter_28 : decode b_S_signAfter 28 = .ok (.iconst 0, 1) := by decide +kernel
theorem d_S_signAfter_29 : decode b_S_signAfter 29 = .ok (.if_icmp .eq 5, 3) := by decide +kernel
theorem d_S_signAfter_32 : decode b_S_signAfter 32 = .ok (.iload_n 1, 1) := by decide +kernel
theorem d_S_signAfter_33 : decode b_S_signAfter 33 = .ok (.ireturn, 1) := by decide +kernel
theorem d_S_signAfter_34 : decode b_S_signAfter 34 = .ok (.iload_n 0, 1) := by decide +kernel
theorem d_S_signAfter_35 : decode b_S_signAfter 35 = .ok (.iconst 1, 1) := by decide +kernel
theorem d_S_signAfter_36 : decode b_S_signAfter 36 = .ok (.if_icmp .ne 12, 3) := by decide +kernel
theorem d_S_signAfter_39 : decode b_S_signAfter 39 = .ok (.iload_n 1, 1) := by decide +kernel
theorem d_S_signAfter_40 : decode b_S_signAfter 40 = .ok (.iload_n 2, 1) := by decide +kernel
theorem d_S_signAfter_41 : decode b_S_signAfter 41 = .ok (.iadd, 1) := by decide +kernel
theorem d_S_signAfter_42 : decode b_S_signAfter 42 = .ok (.bipush 10, 2) := by decide +kernel
theorem d_S_signAfter_44 : decode b_S_signAfter 44 = .ok (.irem, 1) := by decide +kernel
theorem d_S_signAfter_45 : decode b_S_signAfter 45 = .ok (.goto 4, 3) := by decide +kernel
theorem d_S_signAfter_48 : decode b_S_signAfter 48 = .ok (.iload_n 2, 1) := by decide +kernel
theorem d_S_signAfter_49 : decode b_S_signAfter 49 = .ok (.ireturn, 1) := by decide +kernel
set_option maxHeartbeats 4000000 in
set_option maxRecDepth 20000 in
theorem c_S_signAfter {l : Launch} {G : va_G} {tys : List (ClassId × FieldType)} (ed s num : Int) (hs : 0 ≤ s ∧ s ≤ 10) (hn : 0 ≤ num ∧ num ≤ 10) (he : 0 ≤ ed ∧ ed ≤ 3) : CTP l G tys y_S_signAfter b_S_signAfter 3 .int 0 0 [.int (iI ed), .int (iI s), .int (iI num)] (fun z => z = sa ed s num) := by
  unfold CTP
  have hsa := sa_cases ed s num
  refine mkI (by decide) (Nat.le_of_ble_eq_true rfl) ?_
  rintro X rfl rfl rfl hRm C kret H ls w hl
  have hl : lv_has ls 3 [(0, .int (iI ed)), (1, .int (iI s)), (2, .int (iI num))] := hl
  have w : Wd X ([]) H [] := w
  generalize ([] : List Loc) = locs at w ⊢
  refine r_iload_n (pc := 0) C d_S_signAfter_0 rfl (lv_at hl 0 rfl) ?_
  refine r_iconst (pc := 1) C d_S_signAfter_1 ?_
  refine r_icmp_ne (pc := 2) (tgt := 8) C (by omega) d_S_signAfter_2 (by decide) (fun c_2 => ?_) (fun c_2 => ?_)
  · skip
    refine r_iload_n (pc := 8) C d_S_signAfter_8 rfl (lv_at hl 0 rfl) ?_
    refine r_iconst (pc := 9) C d_S_signAfter_9 ?_
    refine r_icmp_ne (pc := 10) (tgt := 17) C (by omega) d_S_signAfter_10 (by decide) (fun c_10 => ?_) (fun c_10 => ?_)
    · skip
      refine r_iconst (pc := 17) C d_S_signAfter_17 ?_
      refine r_iload_n (pc := 18) C d_S_signAfter_18 rfl (lv_at hl 1 rfl) ?_
      refine r_bipush (pc := 19) C d_S_signAfter_19 (by decide) ?_
      refine r_icmp_ne (pc := 21) (tgt := 28) C (by omega) d_S_signAfter_21 (by decide) (fun c_21 => ?_) (fun c_21 => ?_)
      · skip
        refine r_iconst (pc := 28) C d_S_signAfter_28 ?_
        refine r_icmp_eq (pc := 29) (tgt := 34) C (by omega) d_S_signAfter_29 (by decide) (fun c_29 => ?_) (fun c_29 => absurd c_29 (by omega))
        refine r_iload_n (pc := 34) C d_S_signAfter_34 rfl (lv_at hl 0 rfl) ?_
        refine r_iconst (pc := 35) C d_S_signAfter_35 ?_
        refine r_icmp_ne (pc := 36) (tgt := 48) C (by omega) d_S_signAfter_36 (by decide) (fun c_36 => ?_) (fun c_36 => ?_)
        · skip
          refine r_iload_n (pc := 48) C d_S_signAfter_48 rfl (lv_at hl 2 rfl) ?_
          exact kret _ _ _ _ num _ d_S_signAfter_49 w (⟨rfl, by omega⟩)
        · skip
          refine r_iload_n (pc := 39) C d_S_signAfter_39 rfl (lv_at hl 1 rfl) ?_
          refine r_iload_n (pc := 40) C d_S_signAfter_40 rfl (lv_at hl 2 rfl) ?_
          refine r_iadd (pc := 41) C d_S_signAfter_41 ?_
          refine r_bipush (pc := 42) C d_S_signAfter_42 (by decide) ?_
          refine r_irem (pc := 44) C d_S_signAfter_44 (by omega) ?_
          refine r_goto (pc := 45) (tgt := 49) C d_S_signAfter_45 (by decide) ?_
          exact kret _ _ _ _ ((s + num) % 10) _ d_S_signAfter_49 w (⟨rfl, by omega⟩)
      · skip
        refine r_iconst (pc := 24) C d_S_signAfter_24 ?_
        refine r_goto (pc := 25) (tgt := 29) C d_S_signAfter_25 (by decide) ?_
        refine r_icmp_eq (pc := 29) (tgt := 34) C (by omega) d_S_signAfter_29 (by decide) (fun c_29 => absurd c_29 (by omega)) (fun c_29 => ?_)
        refine r_iload_n (pc := 32) C d_S_signAfter_32 rfl (lv_at hl 1 rfl) ?_
        exact kret _ _ _ _ s _ d_S_signAfter_33 w (⟨rfl, by omega⟩)
    · skip
      refine r_iconst (pc := 13) C d_S_signAfter_13 ?_
      refine r_goto (pc := 14) (tgt := 18) C d_S_signAfter_14 (by decide) ?_
      refine r_iload_n (pc := 18) C d_S_signAfter_18 rfl (lv_at hl 1 rfl) ?_
      refine r_bipush (pc := 19) C d_S_signAfter_19 (by decide) ?_
      refine r_icmp_ne (pc := 21) (tgt := 28) C (by omega) d_S_signAfter_21 (by decide) (fun c_21 => ?_) (fun c_21 => ?_)
      · skip
        refine r_iconst (pc := 28) C d_S_signAfter_28 ?_
        refine r_icmp_eq (pc := 29) (tgt := 34) C (by omega) d_S_signAfter_29 (by decide) (fun c_29 => absurd c_29 (by omega)) (fun c_29 => ?_)
        refine r_iload_n (pc := 32) C d_S_signAfter_32 rfl (lv_at hl 1 rfl) ?_
        exact kret _ _ _ _ s _ d_S_signAfter_33 w (⟨rfl, by omega⟩)
      · skip
        refine r_iconst (pc := 24) C d_S_signAfter_24 ?_
        refine r_goto (pc := 25) (tgt := 29) C d_S_signAfter_25 (by decide) ?_
        refine r_icmp_eq (pc := 29) (tgt := 34) C (by omega) d_S_signAfter_29 (by decide) (fun c_29 => ?_) (fun c_29 => absurd c_29 (by omega))
        refine r_iload_n (pc := 34) C d_S_signAfter_34 rfl (lv_at hl 0 rfl) ?_
        refine r_iconst (pc := 35) C d_S_signAfter_35 ?_
        refine r_icmp_ne (pc := 36) (tgt := 48) C (by omega) d_S_signAfter_36 (by decide) (fun c_36 => ?_) (fun c_36 => ?_)
        · skip
          refine r_iload_n (pc := 48) C d_S_signAfter_48 rfl (lv_at hl 2 rfl) ?_
          exact kret _ _ _ _ num _ d_S_signAfter_49 w (⟨rfl, by omega⟩)
        · skip
          refine r_iload_n (pc := 39) C d_S_signAfter_39 rfl (lv_at hl 1 rfl) ?_
          refine r_iload_n (pc := 40) C d_S_signAfter_40 rfl (lv_at hl 2 rfl) ?_
          refine r_iadd (pc := 41) C d_S_signAfter_41 ?_
          refine r_bipush (pc := 42) C d_S_signAfter_42 (by decide) ?_
          refine r_irem (pc := 44) C d_S_signAfter_44 (by omega) ?_
          refine r_goto (pc := 45) (tgt := 49) C d_S_signAfter_45 (by decide) ?_
          exact kret _ _ _ _ ((s + num) % 10) _ d_S_signAfter_49 w (⟨rfl, by omega⟩)
  · skip
    refine r_bipush (pc := 5) C d_S_signAfter_5 (by decide) ?_
    exact kret _ _ _ _ 10 _ d_S_signAfter_7 w (⟨rfl, by omega⟩)
theorem d_S_appendEdited_0 : decode b_S_appendEdited 0 = .ok (.iconst 0, 1) := by decide +kernel
theorem d_S_appendEdited_1 : decode b_S_appendEdited 1 = .ok (.istore 6, 2) := by decide +kernel
theorem d_S_appendEdited_3 : decode b_S_appendEdited 3 = .ok (.iconst 0, 1) := by decide +kernel
theorem d_S_appendEdited_4 : decode b_S_appendEdited 4 = .ok (.istore 7, 2) := by decide +kernel
theorem d_S_appendEdited_6 : decode b_S_appendEdited 6 = .ok (.iconst 0, 1) := by decide +kernel
theorem d_S_appendEdited_7 : decode b_S_appendEdited 7 = .ok (.istore 8, 2) := by decide +kernel
theorem d_S_appendEdited_9 : decode b_S_appendEdited 9 = .ok (.iload 8, 2) := by decide +kernel
theorem d_S_appendEdited_11 : decode b_S_appendEdited 11 = .ok (.aload_n 1, 1) := by decide +kernel
theorem d_S_appendEdited_12 : decode b_S_appendEdited 12 = .ok (.getfield 18, 3) := by decide +kernel
theorem d_S_appendEdited_15 : decode b_S_appendEdited 15 = .ok (.if_icmp .ge 115, 3) := by decide +kernel
theorem d_S_appendEdited_18 : decode b_S_appendEdited 18 = .ok (.aload_n 1, 1) := by decide +kernel
theorem d_S_appendEdited_19 : decode b_S_appendEdited 19 = .ok (.getfield 9, 3) := by decide +kernel
theorem d_S_appendEdited_22 : decode b_S_appendEdited 22 = .ok (.iload 8, 2) := by decide +kernel
theorem d_S_appendEdited_24 : decode b_S_appendEdited 24 = .ok (.iaload, 1) := by decide +kernel
theorem d_S_appendEdited_25 : decode b_S_appendEdited 25 = .ok (.istore 9, 2) := by decide +kernel
theorem d_S_appendEdited_27 : decode b_S_appendEdited 27 = .ok (.iload 6, 2) := by decide +kernel
theorem d_S_appendEdited_29 : decode b_S_appendEdited 29 = .ok (.aload_n 1, 1) := by decide +kernel
theorem d_S_appendEdited_30 : decode b_S_appendEdited 30 = .ok (.getfield 15, 3) := by decide +kernel
theorem d_S_appendEdited_33 : decode b_S_appendEdited 33 = .ok (.iload 8, 2) := by decide +kernel
theorem d_S_appendEdited_35 : decode b_S_appendEdited 35 = .ok (.iaload, 1) := by decide +kernel
theorem d_S_appendEdited_36 : decode b_S_appendEdited 36 = .ok (.iadd, 1) := by decide +kernel
theorem d_S_appendEdited_37 : decode b_S_appendEdited 37 = .ok (.istore 10, 2) := by decide +kernel
theorem d_S_appendEdited_39 : decode b_S_appendEdited 39 = .ok (.iload 4, 2) := by decide +kernel
theorem d_S_appendEdited_41 : decode b_S_appendEdited 41 = .ok (.iload 9, 2) := by decide +kernel
theorem d_S_appendEdited_43 : decode b_S_appendEdited 43 = .ok (.iload 5, 2) := by decide +kernel
theorem d_S_appendEdited_45 : decode b_S_appendEdited 45 = .ok (.invokestatic 51, 3) := by decide +kernel
theorem d_S_appendEdited_48 : decode b_S_appendEdited 48 = .ok (.istore 11, 2) := by decide +kernel
theorem d_S_appendEdited_50 : decode b_S_appendEdited 50 = .ok (.iload 6, 2) := by decide +kernel
theorem d_S_appendEdited_52 : decode b_S_appendEdited 52 = .ok (.iload 10, 2) := by decide +kernel
theorem d_S_appendEdited_54 : decode b_S_appendEdited 54 = .ok (.iload_n 2, 1) := by decide +kernel
theorem d_S_appendEdited_55 : decode b_S_appendEdited 55 = .ok (.iload_n 3, 1) := by decide +kernel
theorem d_S_appendEdited_56 : decode b_S_appendEdited 56 = .ok (.invokestatic 43, 3) := by decide +kernel
theorem d_S_appendEdited_59 : decode b_S_appendEdited 59 = .ok (.istore 12, 2) := by decide +kernel
theorem d_S_appendEdited_61 : decode b_S_appendEdited 61 = .ok (.aload_n 0, 1) := by decide +kernel
theorem d_S_appendEdited_62 : decode b_S_appendEdited 62 = .ok (.iload 9, 2) := by decide +kernel
theorem d_S_appendEdited_64 : decode b_S_appendEdited 64 = .ok (.iload 6, 2) := by decide +kernel
theorem d_S_appendEdited_66 : decode b_S_appendEdited 66 = .ok (.iload 10, 2) := by decide +kernel
theorem d_S_appendEdited_68 : decode b_S_appendEdited 68 = .ok (.iconst 0, 1) := by decide +kernel
theorem d_S_appendEdited_69 : decode b_S_appendEdited 69 = .ok (.iload_n 2, 1) := by decide +kernel
theorem d_S_appendEdited_70 : decode b_S_appendEdited 70 = .ok (.invokestatic 43, 3) := by decide +kernel
theorem d_S_appendEdited_73 : decode b_S_appendEdited 73 = .ok (.invokevirtual 47, 3) := by decide +kernel
theorem d_S_appendEdited_76 : decode b_S_appendEdited 76 = .ok (.aload_n 0, 1) := by decide +kernel
theorem d_S_appendEdited_77 : decode b_S_appendEdited 77 = .ok (.iload 11, 2) := by decide +kernel
theorem d_S_appendEdited_79 : decode b_S_appendEdited 79 = .ok (.iload 12, 2) := by decide +kernel
theorem d_S_appendEdited_81 : decode b_S_appendEdited 81 = .ok (.invokevirtual 47, 3) := by decide +kernel
theorem d_S_appendEdited_84 : decode b_S_appendEdited 84 = .ok (.aload_n 0, 1) := by decide +kernel
theorem d_S_appendEdited_85 : decode b_S_appendEdited 85 = .ok (.iload 9, 2) := by decide +kernel
theorem d_S_appendEdited_87 : decode b_S_appendEdited 87 = .ok (.iload 6, 2) := by decide +kernel
theorem d_S_appendEdited_89 : decode b_S_appendEdited 89 = .ok (.iload 10, 2) := by decide +kernel
theorem d_S_appendEdited_91 : decode b_S_appendEdited 91 = .ok (.iload_n 3, 1) := by decide +kernel
theorem d_S_appendEdited_92 : decode b_S_appendEdited 92 = .ok (.aload_n 1, 1) := by decide +kernel
theorem d_S_appendEdited_93 : decode b_S_appendEdited 93 = .ok (.getfield 22, 3) := by decide +kernel
theorem d_S_appendEdited_96 : decode b_S_appendEdited 96 = .ok (.invokestatic 43, 3) := by decide +kernel
theorem d_S_appendEdited_99 : decode b_S_appendEdited 99 = .ok (.invokevirtual 47, 3) := by decide +kernel
theorem d_S_appendEdited_102 : decode b_S_appendEdited 102 = .ok (.iload 7, 2) := by decide +kernel
theorem d_S_appendEdited_104 : decode b_S_appendEdited 104 = .ok (.iload 11, 2) := by decide +kernel
theorem d_S_appendEdited_106 : decode b_S_appendEdited 106 = .ok (.iload 9, 2) := by decide +kernel
theorem d_S_appendEdited_108 : decode b_S_appendEdited 108 = .ok (.if_icmp .ne 7, 3) := by decide +kernel
theorem d_S_appendEdited_111 : decode b_S_appendEdited 111 = .ok (.iconst 0, 1) := by decide +kernel
theorem d_S_appendEdited_112 : decode b_S_appendEdited 112 = .ok (.goto 5, 3) := by decide +kernel
theorem d_S_appendEdited_115 : decode b_S_appendEdited 115 = .ok (.iload 12, 2) := by decide +kernel
theorem d_S_appendEdited_117 : decode b_S_appendEdited 117 = .ok (.iadd, 1) := by decide +kernel
theorem d_S_appendEdited_118 : decode b_S_appendEdited 118 = .ok (.istore 7, 2) := by decide +kernel
theorem d_S_appendEdited_120 : decode b_S_appendEdited 120 = .ok (.iload 10, 2) := by decide +kernel
theorem d_S_appendEdited_122 : decode b_S_appendEdited 122 = .ok (.istore 6, 2) := by decide +kernel
theorem d_S_appendEdited_124 : decode b_S_appendEdited 124 = .ok (.iinc 8 1, 3) := by decide +kernel
theorem d_S_appendEdited_127 : decode b_S_appendEdited 127 = .ok (.goto (-118), 3) := by decide +kernel
theorem d_S_appendEdited_130 : decode b_S_appendEdited 130 = .ok (.iload 7, 2) := by decide +kernel
theorem d_S_appendEdited_132 : decode b_S_appendEdited 132 = .ok (.ireturn, 1) := by decide +kernel
set_option maxHeartbeats 4000000 in
set_option maxRecDepth 20000 in
theorem c_S_appendEdited {l : Launch} {G : va_G} {tys : List (ClassId × FieldType)} {cI cO cZ : ClassId} (hT : TY tys cI cO cZ) (q a b : Nat) (sg ln : Int → Int) (r pl ov lc sd : Int) (q2 a2 b2 : Nat) (sg2 ln2 : Int → Int) (r2 pl2 ov2 lc2 sd2 : Int) (N e f ed num : Int) (v u : Int → Int) (hV : RV r pl ov sg ln 0 v) (hO : Ok r2 sg2 ln2 N u) (hr : r2 ≤ 50) (hN : N ≤ 3000) (hf : 0 ≤ f ∧ f ≤ e ∧ e ≤ N) (hed : 0 ≤ ed ∧ ed ≤ 3) (hnum : 0 ≤ num ∧ num ≤ 10) (hp : pl2 = N) : CTI l G tys y_S_appendEdited b_S_appendEdited 13 .int 2 42 [.ref q, .ref q2, .int (iI f), .int (iI e), .int (iI ed), .int (iI num)] (sw cI q a b sg ln r pl ov lc sd ++ sw cI q2 a2 b2 sg2 ln2 r2 pl2 ov2 lc2 sd2) (fun z w => z = ps (edc f e ed num u) N ∧ ∃ (sg' ln' : Int → Int) (r' pl' ov' : Int), w = sw cI q a b sg' ln' r' pl' ov' lc sd ++ sw cI q2 a2 b2 sg2 ln2 r2 pl2 ov2 lc2 sd2 ∧ RV r' pl' ov' sg' ln' N (edt f e ed num u)) := by
  refine mkI (by decide) (Nat.le_of_ble_eq_true rfl) ?_
  rintro X rfl rfl rfl hRm C kret H ls w hl
  have hl : lv_has ls 13 [(0, .ref q), (1, .ref q2), (2, .int (iI f)), (3, .int (iI e)), (4, .int (iI ed)), (5, .int (iI num))] := hl
  have w : Wd X (sw cI q a b sg ln r pl ov lc sd ++ sw cI q2 a2 b2 sg2 ln2 r2 pl2 ov2 lc2 sd2) H [] := w
  generalize ([] : List Loc) = locs at w ⊢
  have hr0 := hO.1
  have hN0 := hO.n0
  have hps := ps_zero ln2
  have hps2 := ps_zero (edc f e ed num u)
  subst hp
  refine r_iconst (pc := 0) C d_S_appendEdited_0 ?_
  refine r_istore (pc := 1) (lv' := [(6, .int (iI 0)), (0, .ref q), (1, .ref q2), (2, .int (iI f)), (3, .int (iI e)), (4, .int (iI ed)), (5, .int (iI num))]) C d_S_appendEdited_1 hl (by decide) rfl (fun ls hl => ?_)
  refine r_iconst (pc := 3) C d_S_appendEdited_3 ?_
  refine r_istore (pc := 4) (lv' := [(7, .int (iI 0)), (6, .int (iI 0)), (0, .ref q), (1, .ref q2), (2, .int (iI f)), (3, .int (iI e)), (4, .int (iI ed)), (5, .int (iI num))]) C d_S_appendEdited_4 hl (by decide) rfl (fun ls hl => ?_)
  refine r_iconst (pc := 6) C d_S_appendEdited_6 ?_
  refine r_istore (pc := 7) (lv' := [(8, .int (iI 0)), (7, .int (iI 0)), (6, .int (iI 0)), (0, .ref q), (1, .ref q2), (2, .int (iI f)), (3, .int (iI e)), (4, .int (iI ed)), (5, .int (iI num))]) C d_S_appendEdited_7 hl (by decide) rfl (fun ls hl => ?_)
  have L9 : ∀ (fuel : Nat), ∀ (run : Int) (start : Int) (chg : Int) (sg1 : Int → Int) (ln1 : Int → Int) (r1 : Int) (pl1 : Int) (ov1 : Int), 0 ≤ run ∧ run ≤ r2 → start = ps ln2 run → chg = ps (edc f e ed num u) start ∧ 0 ≤ chg ∧ chg ≤ start → RV r1 pl1 ov1 sg1 ln1 start (edt f e ed num u) → (r2 - run) < (fuel : Int) → ∀ (H : Heap) (locs : List Loc) (ls : Array Slot), Wd X (sw cI q a b sg1 ln1 r1 pl1 ov1 lc sd ++ sw cI q2 a2 b2 sg2 ln2 r2 pl2 ov2 lc2 sd2) H locs → lv_has ls 13 [(0, .ref q), (1, .ref q2), (2, .int (iI f)), (3, .int (iI e)), (4, .int (iI ed)), (5, .int (iI num)), (6, .int (iI start)), (7, .int (iI chg)), (8, .int (iI run))] → GG X 0 0 H locs 9 ls [] := by
    intro fuel
    induction fuel with
    | zero =>
      intro run start chg sg1 ln1 r1 pl1 ov1 h0 hst hch hV1 hfuel
      exact absurd hfuel (by omega)
    | succ fuel ih9 =>
      intro run start chg sg1 ln1 r1 pl1 ov1 h0 hst hch hV1 hfuel H locs ls w hl
      refine r_iload (pc := 9) C d_S_appendEdited_9 (lv_at hl 8 rfl) ?_
      refine r_aload_n (pc := 11) C d_S_appendEdited_11 rfl (lv_at hl 1 rfl) ?_
      refine r_get (pc := 12) (v := .int (iI r2)) C w i_S rfl 3 rfl 2 (by decide) fl_S_18 rfl rfl d_S_appendEdited_12 ?_
      refine r_icmp_ge (pc := 15) (tgt := 130) C (by omega) d_S_appendEdited_15 (by decide) (fun c_15 => ?_) (fun c_15 => ?_)
      · skip
        refine r_iload (pc := 130) C d_S_appendEdited_130 (lv_at hl 7 rfl) ?_
        exact kret _ _ _ _ chg _ d_S_appendEdited_132 w (⟨by rw [hch.1, show start = pl2 by rw [hst, show run = r2 by omega]; exact hO.2.2.2.1], _, _, _, _, _, rfl, hV1.to (by rw [hst, show run = r2 by omega]; exact hO.2.2.2.1) (fun _ _ _ => rfl)⟩)
      · skip
        have hk := hO.run (k := run) (by omega) (by omega)
        refine r_aload_n (pc := 18) C d_S_appendEdited_18 rfl (lv_at hl 1 rfl) ?_
        refine r_get (pc := 19) (v := .ref a2) C w i_S rfl 3 rfl 0 (by decide) fl_S_9 rfl rfl d_S_appendEdited_19 ?_
        refine r_iload (pc := 22) C d_S_appendEdited_22 (lv_at hl 8 rfl) ?_
        refine r_iald (pc := 24) (f := sg2) (i := run) C w 0 4 rfl hT.1 (by omega) d_S_appendEdited_24 ?_
        refine r_istore (pc := 25) (lv' := [(9, .int (iI (sg2 run))), (0, .ref q), (1, .ref q2), (2, .int (iI f)), (3, .int (iI e)), (4, .int (iI ed)), (5, .int (iI num)), (6, .int (iI start)), (7, .int (iI chg)), (8, .int (iI run))]) C d_S_appendEdited_25 hl (by decide) rfl (fun ls hl => ?_)
        refine r_iload (pc := 27) C d_S_appendEdited_27 (lv_at hl 7 rfl) ?_
        refine r_aload_n (pc := 29) C d_S_appendEdited_29 rfl (lv_at hl 2 rfl) ?_
        refine r_get (pc := 30) (v := .ref b2) C w i_S rfl 3 rfl 1 (by decide) fl_S_15 rfl rfl d_S_appendEdited_30 ?_
        refine r_iload (pc := 33) C d_S_appendEdited_33 (lv_at hl 9 rfl) ?_
        refine r_iald (pc := 35) (f := ln2) (i := run) C w 0 5 rfl hT.1 (by omega) d_S_appendEdited_35 ?_
        refine r_iadd (pc := 36) C d_S_appendEdited_36 ?_
        refine r_istore (pc := 37) (lv' := [(10, .int (iI (start + (ln2 run)))), (9, .int (iI (sg2 run))), (0, .ref q), (1, .ref q2), (2, .int (iI f)), (3, .int (iI e)), (4, .int (iI ed)), (5, .int (iI num)), (6, .int (iI start)), (7, .int (iI chg)), (8, .int (iI run))]) C d_S_appendEdited_37 hl (by decide) rfl (fun ls hl => ?_)
        refine r_iload (pc := 39) C d_S_appendEdited_39 (lv_at hl 6 rfl) ?_
        refine r_iload (pc := 41) C d_S_appendEdited_41 (lv_at hl 1 rfl) ?_
        refine r_iload (pc := 43) C d_S_appendEdited_43 (lv_at hl 7 rfl) ?_
        refine r_callP (pc := 45) (As := [.int (iI ed), .int (iI (sg2 run)), .int (iI num)]) (rest := []) C w (c_S_signAfter ed (sg2 run) num (by omega) (by omega) (by omega)) ml_S_51 st_S_signAfter ini_S cd_S_signAfter hd_S_signAfter rfl (by rw [hRm]; exact ⟨⟨Nat.le_of_ble_eq_true rfl, Nat.le_of_ble_eq_true rfl⟩, Nat.le_of_ble_eq_true rfl, Nat.le_of_ble_eq_true rfl⟩) hl.1 rfl (Nat.le_of_ble_eq_true rfl) d_S_appendEdited_45 (fun z_45 H locs hz_45 w => ?_)
        subst hz_45
        have hsar := sa_range (ed := ed) (s := sg2 run) (num := num) (by omega) (by omega)
        refine r_istore (pc := 48) (lv' := [(11, .int (iI (sa ed (sg2 run) num))), (10, .int (iI (start + (ln2 run)))), (9, .int (iI (sg2 run))), (0, .ref q), (1, .ref q2), (2, .int (iI f)), (3, .int (iI e)), (4, .int (iI ed)), (5, .int (iI num)), (6, .int (iI start)), (7, .int (iI chg)), (8, .int (iI run))]) C d_S_appendEdited_48 hl (by decide) rfl (fun ls hl => ?_)
        refine r_iload (pc := 50) C d_S_appendEdited_50 (lv_at hl 9 rfl) ?_
        refine r_iload (pc := 52) C d_S_appendEdited_52 (lv_at hl 1 rfl) ?_
        refine r_iload_n (pc := 54) C d_S_appendEdited_54 rfl (lv_at hl 5 rfl) ?_
        refine r_iload_n (pc := 55) C d_S_appendEdited_55 rfl (lv_at hl 6 rfl) ?_
        refine r_callP (pc := 56) (As := [.int (iI start), .int (iI (start + (ln2 run))), .int (iI f), .int (iI e)]) (rest := []) C w (c_S_shared start (start + (ln2 run)) f e (by omega)) ml_S_43 st_S_shared ini_S cd_S_shared hd_S_shared rfl (by rw [hRm]; exact ⟨⟨Nat.le_of_ble_eq_true rfl, Nat.le_of_ble_eq_true rfl⟩, Nat.le_of_ble_eq_true rfl, Nat.le_of_ble_eq_true rfl⟩) hl.1 rfl (Nat.le_of_ble_eq_true rfl) d_S_appendEdited_56 (fun z_56 H locs hz_56 w => ?_)
        refine r_istore (pc := 59) (lv' := [(12, .int (iI z_56)), (11, .int (iI (sa ed (sg2 run) num))), (10, .int (iI (start + (ln2 run)))), (9, .int (iI (sg2 run))), (0, .ref q), (1, .ref q2), (2, .int (iI f)), (3, .int (iI e)), (4, .int (iI ed)), (5, .int (iI num)), (6, .int (iI start)), (7, .int (iI chg)), (8, .int (iI run))]) C d_S_appendEdited_59 hl (by decide) rfl (fun ls hl => ?_)
        refine r_aload_n (pc := 61) C d_S_appendEdited_61 rfl (lv_at hl 4 rfl) ?_
        refine r_iload (pc := 62) C d_S_appendEdited_62 (lv_at hl 3 rfl) ?_
        refine r_iload (pc := 64) C d_S_appendEdited_64 (lv_at hl 10 rfl) ?_
        refine r_iload (pc := 66) C d_S_appendEdited_66 (lv_at hl 2 rfl) ?_
        refine r_iconst (pc := 68) C d_S_appendEdited_68 ?_
        refine r_iload_n (pc := 69) C d_S_appendEdited_69 rfl (lv_at hl 6 rfl) ?_
        refine r_callP (pc := 70) (As := [.int (iI start), .int (iI (start + (ln2 run))), .int (iI 0), .int (iI f)]) (rest := [.int (iI (sg2 run)), .ref q]) C w (c_S_shared start (start + (ln2 run)) 0 f (by omega)) ml_S_43 st_S_shared ini_S cd_S_shared hd_S_shared rfl (by rw [hRm]; exact ⟨⟨Nat.le_of_ble_eq_true rfl, Nat.le_of_ble_eq_true rfl⟩, Nat.le_of_ble_eq_true rfl, Nat.le_of_ble_eq_true rfl⟩) hl.1 rfl (Nat.le_of_ble_eq_true rfl) d_S_appendEdited_70 (fun z_70 H locs hz_70 w => ?_)
        refine r_callVV (pc := 73) (As := [.int (iI (sg2 run)), .int (iI z_70)]) (rest := []) (wr := (sw cI q2 a2 b2 sg2 ln2 r2 pl2 ov2 lc2 sd2)) C w (c_S_append hT q a b sg1 ln1 r1 pl1 ov1 lc sd (sg2 run) z_70 _ _ hV1 (by omega) (by omega)) ml_S_47 im_S_append se_S_append ini_S cd_S_append hd_S_append rfl (by rw [hRm]; exact ⟨⟨Nat.le_of_ble_eq_true rfl, Nat.le_of_ble_eq_true rfl⟩, Nat.le_of_ble_eq_true rfl, Nat.le_of_ble_eq_true rfl⟩) hl.1 [0, 1, 2] [3, 4, 5] ⟨rfl, rfl, by decide, by decide, by decide⟩ 0 rfl rfl rfl (Nat.le_of_ble_eq_true rfl) d_S_appendEdited_73 (fun u_73 H locs hz_73 w => ?_)
        obtain ⟨sg_73, ln_73, r_73, pl_73, ov_73, rfl, hV_73⟩ := hz_73
        have w : Wd X (sw cI q a b sg_73 ln_73 r_73 pl_73 ov_73 lc sd ++ sw cI q2 a2 b2 sg2 ln2 r2 pl2 ov2 lc2 sd2) H locs := w.sub [3, 4, 5, 0, 1, 2] rfl (by decide)
        refine r_aload_n (pc := 76) C d_S_appendEdited_76 rfl (lv_at hl 4 rfl) ?_
        refine r_iload (pc := 77) C d_S_appendEdited_77 (lv_at hl 1 rfl) ?_
        refine r_iload (pc := 79) C d_S_appendEdited_79 (lv_at hl 0 rfl) ?_
        refine r_callVV (pc := 81) (As := [.int (iI (sa ed (sg2 run) num)), .int (iI z_56)]) (rest := []) (wr := (sw cI q2 a2 b2 sg2 ln2 r2 pl2 ov2 lc2 sd2)) C w (c_S_append hT q a b sg_73 ln_73 r_73 pl_73 ov_73 lc sd (sa ed (sg2 run) num) z_56 _ _ hV_73 (by omega) (by omega)) ml_S_47 im_S_append se_S_append ini_S cd_S_append hd_S_append rfl (by rw [hRm]; exact ⟨⟨Nat.le_of_ble_eq_true rfl, Nat.le_of_ble_eq_true rfl⟩, Nat.le_of_ble_eq_true rfl, Nat.le_of_ble_eq_true rfl⟩) hl.1 [0, 1, 2] [3, 4, 5] ⟨rfl, rfl, by decide, by decide, by decide⟩ 0 rfl rfl rfl (Nat.le_of_ble_eq_true rfl) d_S_appendEdited_81 (fun u_81 H locs hz_81 w => ?_)
        obtain ⟨sg_81, ln_81, r_81, pl_81, ov_81, rfl, hV_81⟩ := hz_81
        have w : Wd X (sw cI q a b sg_81 ln_81 r_81 pl_81 ov_81 lc sd ++ sw cI q2 a2 b2 sg2 ln2 r2 pl2 ov2 lc2 sd2) H locs := w.sub [3, 4, 5, 0, 1, 2] rfl (by decide)
        refine r_aload_n (pc := 84) C d_S_appendEdited_84 rfl (lv_at hl 4 rfl) ?_
        refine r_iload (pc := 85) C d_S_appendEdited_85 (lv_at hl 3 rfl) ?_
        refine r_iload (pc := 87) C d_S_appendEdited_87 (lv_at hl 10 rfl) ?_
        refine r_iload (pc := 89) C d_S_appendEdited_89 (lv_at hl 2 rfl) ?_
        refine r_iload_n (pc := 91) C d_S_appendEdited_91 rfl (lv_at hl 7 rfl) ?_
        refine r_aload_n (pc := 92) C d_S_appendEdited_92 rfl (lv_at hl 5 rfl) ?_
        refine r_get (pc := 93) (v := .int (iI pl2)) C w i_S rfl 3 rfl 3 (by decide) fl_S_22 rfl rfl d_S_appendEdited_93 ?_
        refine r_callP (pc := 96) (As := [.int (iI start), .int (iI (start + (ln2 run))), .int (iI e), .int (iI pl2)]) (rest := [.int (iI (sg2 run)), .ref q]) C w (c_S_shared start (start + (ln2 run)) e pl2 (by omega)) ml_S_43 st_S_shared ini_S cd_S_shared hd_S_shared rfl (by rw [hRm]; exact ⟨⟨Nat.le_of_ble_eq_true rfl, Nat.le_of_ble_eq_true rfl⟩, Nat.le_of_ble_eq_true rfl, Nat.le_of_ble_eq_true rfl⟩) hl.1 rfl (Nat.le_of_ble_eq_true rfl) d_S_appendEdited_96 (fun z_96 H locs hz_96 w => ?_)
        refine r_callVV (pc := 99) (As := [.int (iI (sg2 run)), .int (iI z_96)]) (rest := []) (wr := (sw cI q2 a2 b2 sg2 ln2 r2 pl2 ov2 lc2 sd2)) C w (c_S_append hT q a b sg_81 ln_81 r_81 pl_81 ov_81 lc sd (sg2 run) z_96 _ _ hV_81 (by omega) (by omega)) ml_S_47 im_S_append se_S_append ini_S cd_S_append hd_S_append rfl (by rw [hRm]; exact ⟨⟨Nat.le_of_ble_eq_true rfl, Nat.le_of_ble_eq_true rfl⟩, Nat.le_of_ble_eq_true rfl, Nat.le_of_ble_eq_true rfl⟩) hl.1 [0, 1, 2] [3, 4, 5] ⟨rfl, rfl, by decide, by decide, by decide⟩ 0 rfl rfl rfl (Nat.le_of_ble_eq_true rfl) d_S_appendEdited_99 (fun u_99 H locs hz_99 w => ?_)
        obtain ⟨sg_99, ln_99, r_99, pl_99, ov_99, rfl, hV_99⟩ := hz_99
        have w : Wd X (sw cI q a b sg_99 ln_99 r_99 pl_99 ov_99 lc sd ++ sw cI q2 a2 b2 sg2 ln2 r2 pl2 ov2 lc2 sd2) H locs := w.sub [3, 4, 5, 0, 1, 2] rfl (by decide)
        have hec := edited_count (f := f) (e := e) (ed := ed) (num := num) hO (by omega) (by omega) hst hz_56
        refine r_iload (pc := 102) C d_S_appendEdited_102 (lv_at hl 11 rfl) ?_
        refine r_iload (pc := 104) C d_S_appendEdited_104 (lv_at hl 1 rfl) ?_
        refine r_iload (pc := 106) C d_S_appendEdited_106 (lv_at hl 3 rfl) ?_
        refine r_icmp_ne (pc := 108) (tgt := 115) C (by omega) d_S_appendEdited_108 (by decide) (fun c_108 => ?_) (fun c_108 => ?_)
        · skip
          rw [if_neg (by omega)] at hec
          refine r_iload (pc := 115) C d_S_appendEdited_115 (lv_at hl 0 rfl) ?_
          refine r_iadd (pc := 117) C d_S_appendEdited_117 ?_
          refine r_istore (pc := 118) (lv' := [(7, .int (iI (chg + z_56))), (12, .int (iI z_56)), (11, .int (iI (sa ed (sg2 run) num))), (10, .int (iI (start + (ln2 run)))), (9, .int (iI (sg2 run))), (0, .ref q), (1, .ref q2), (2, .int (iI f)), (3, .int (iI e)), (4, .int (iI ed)), (5, .int (iI num)), (6, .int (iI start)), (8, .int (iI run))]) C d_S_appendEdited_118 hl (by decide) rfl (fun ls hl => ?_)
          refine r_iload (pc := 120) C d_S_appendEdited_120 (lv_at hl 3 rfl) ?_
          refine r_istore (pc := 122) (lv' := [(6, .int (iI (start + (ln2 run)))), (7, .int (iI (chg + z_56))), (12, .int (iI z_56)), (11, .int (iI (sa ed (sg2 run) num))), (10, .int (iI (start + (ln2 run)))), (9, .int (iI (sg2 run))), (0, .ref q), (1, .ref q2), (2, .int (iI f)), (3, .int (iI e)), (4, .int (iI ed)), (5, .int (iI num)), (8, .int (iI run))]) C d_S_appendEdited_122 hl (by decide) rfl (fun ls hl => ?_)
          refine r_iinc (pc := 124) (j := 12) (lv' := [(8, .int (iI (run + 1))), (6, .int (iI (start + (ln2 run)))), (7, .int (iI (chg + z_56))), (12, .int (iI z_56)), (11, .int (iI (sa ed (sg2 run) num))), (10, .int (iI (start + (ln2 run)))), (9, .int (iI (sg2 run))), (0, .ref q), (1, .ref q2), (2, .int (iI f)), (3, .int (iI e)), (4, .int (iI ed)), (5, .int (iI num))]) C d_S_appendEdited_124 hl rfl (by decide) rfl (fun ls hl => ?_)
          refine r_goto (pc := 127) (tgt := 9) C d_S_appendEdited_127 (by decide) ?_
          exact ih9 (run + 1) (start + (ln2 run)) (chg + z_56) sg_99 ln_99 r_99 pl_99 ov_99 (by omega) (by omega) (by omega) (edited_step hO (by omega) (by omega) (by omega) hst hV_99 hz_56 hz_70 hz_96) (by omega) _ _ _ w (lv_sub hl [7, 8, 9, 10, 11, 12, 1, 2, 0] rfl)
        · skip
          rw [if_pos (by omega)] at hec
          refine r_iconst (pc := 111) C d_S_appendEdited_111 ?_
          refine r_goto (pc := 112) (tgt := 117) C d_S_appendEdited_112 (by decide) ?_
          refine r_iadd (pc := 117) C d_S_appendEdited_117 ?_
          refine r_istore (pc := 118) (lv' := [(7, .int (iI (chg + 0))), (12, .int (iI z_56)), (11, .int (iI (sa ed (sg2 run) num))), (10, .int (iI (start + (ln2 run)))), (9, .int (iI (sg2 run))), (0, .ref q), (1, .ref q2), (2, .int (iI f)), (3, .int (iI e)), (4, .int (iI ed)), (5, .int (iI num)), (6, .int (iI start)), (8, .int (iI run))]) C d_S_appendEdited_118 hl (by decide) rfl (fun ls hl => ?_)
          refine r_iload (pc := 120) C d_S_appendEdited_120 (lv_at hl 3 rfl) ?_
          refine r_istore (pc := 122) (lv' := [(6, .int (iI (start + (ln2 run)))), (7, .int (iI (chg + 0))), (12, .int (iI z_56)), (11, .int (iI (sa ed (sg2 run) num))), (10, .int (iI (start + (ln2 run)))), (9, .int (iI (sg2 run))), (0, .ref q), (1, .ref q2), (2, .int (iI f)), (3, .int (iI e)), (4, .int (iI ed)), (5, .int (iI num)), (8, .int (iI run))]) C d_S_appendEdited_122 hl (by decide) rfl (fun ls hl => ?_)
          refine r_iinc (pc := 124) (j := 12) (lv' := [(8, .int (iI (run + 1))), (6, .int (iI (start + (ln2 run)))), (7, .int (iI (chg + 0))), (12, .int (iI z_56)), (11, .int (iI (sa ed (sg2 run) num))), (10, .int (iI (start + (ln2 run)))), (9, .int (iI (sg2 run))), (0, .ref q), (1, .ref q2), (2, .int (iI f)), (3, .int (iI e)), (4, .int (iI ed)), (5, .int (iI num))]) C d_S_appendEdited_124 hl rfl (by decide) rfl (fun ls hl => ?_)
          refine r_goto (pc := 127) (tgt := 9) C d_S_appendEdited_127 (by decide) ?_
          exact ih9 (run + 1) (start + (ln2 run)) (chg + 0) sg_99 ln_99 r_99 pl_99 ov_99 (by omega) (by omega) (by omega) (edited_step hO (by omega) (by omega) (by omega) hst hV_99 hz_56 hz_70 hz_96) (by omega) _ _ _ w (lv_sub hl [7, 8, 9, 10, 11, 12, 1, 2, 0] rfl)
  exact L9 ((r2 - 0) + 1 : Int).toNat 0 0 0 sg ln r pl ov (by first | omega | rfl) (by first | omega | rfl) (by first | omega | rfl) (hV.to rfl (fun x _ hx => by omega)) (by omega) _ _ _ w (lv_sub hl [3, 4, 5, 6, 7, 8, 2, 1, 0] rfl)
theorem d_S_appendTurned_0 : decode b_S_appendTurned 0 = .ok (.aload_n 1, 1) := by decide +kernel
theorem d_S_appendTurned_1 : decode b_S_appendTurned 1 = .ok (.getfield 22, 3) := by decide +kernel
theorem d_S_appendTurned_4 : decode b_S_appendTurned 4 = .ok (.istore 5, 2) := by decide +kernel
theorem d_S_appendTurned_6 : decode b_S_appendTurned 6 = .ok (.aload_n 1, 1) := by decide +kernel
theorem d_S_appendTurned_7 : decode b_S_appendTurned 7 = .ok (.getfield 18, 3) := by decide +kernel
theorem d_S_appendTurned_10 : decode b_S_appendTurned 10 = .ok (.iconst 1, 1) := by decide +kernel
theorem d_S_appendTurned_11 : decode b_S_appendTurned 11 = .ok (.isub, 1) := by decide +kernel
theorem d_S_appendTurned_12 : decode b_S_appendTurned 12 = .ok (.istore 6, 2) := by decide +kernel
theorem d_S_appendTurned_14 : decode b_S_appendTurned 14 = .ok (.iload 6, 2) := by decide +kernel
theorem d_S_appendTurned_16 : decode b_S_appendTurned 16 = .ok (.ifCond .lt 66, 3) := by decide +kernel
theorem d_S_appendTurned_19 : decode b_S_appendTurned 19 = .ok (.iload 5, 2) := by decide +kernel
theorem d_S_appendTurned_21 : decode b_S_appendTurned 21 = .ok (.aload_n 1, 1) := by decide +kernel
theorem d_S_appendTurned_22 : decode b_S_appendTurned 22 = .ok (.getfield 15, 3) := by decide +kernel
theorem d_S_appendTurned_25 : decode b_S_appendTurned 25 = .ok (.iload 6, 2) := by decide +kernel
theorem d_S_appendTurned_27 : decode b_S_appendTurned 27 = .ok (.iaload, 1) := by decide +kernel
theorem d_S_appendTurned_28 : decode b_S_appendTurned 28 = .ok (.isub, 1) := by decide +kernel
theorem d_S_appendTurned_29 : decode b_S_appendTurned 29 = .ok (.istore 5, 2) := by decide +kernel
theorem d_S_appendTurned_31 : decode b_S_appendTurned 31 = .ok (.iload 4, 2) := by decide +kernel
theorem d_S_appendTurned_33 : decode b_S_appendTurned 33 = .ok (.ifCond .eq 15, 3) := by decide +kernel
theorem d_S_appendTurned_36 : decode b_S_appendTurned 36 = .ok (.aload_n 1, 1) := by decide +kernel
theorem d_S_appendTurned_37 : decode b_S_appendTurned 37 = .ok (.getfield 9, 3) := by decide +kernel
theorem d_S_appendTurned_40 : decode b_S_appendTurned 40 = .ok (.iload 6, 2) := by decide +kernel
theorem d_S_appendTurned_42 : decode b_S_appendTurned 42 = .ok (.iaload, 1) := by decide +kernel
theorem d_S_appendTurned_43 : decode b_S_appendTurned 43 = .ok (.bipush 10, 2) := by decide +kernel
theorem d_S_appendTurned_45 : decode b_S_appendTurned 45 = .ok (.if_icmp .eq 31, 3) := by decide +kernel
theorem d_S_appendTurned_48 : decode b_S_appendTurned 48 = .ok (.aload_n 0, 1) := by decide +kernel
theorem d_S_appendTurned_49 : decode b_S_appendTurned 49 = .ok (.aload_n 1, 1) := by decide +kernel
theorem d_S_appendTurned_50 : decode b_S_appendTurned 50 = .ok (.getfield 9, 3) := by decide +kernel
theorem d_S_appendTurned_53 : decode b_S_appendTurned 53 = .ok (.iload 6, 2) := by decide +kernel
theorem d_S_appendTurned_55 : decode b_S_appendTurned 55 = .ok (.iaload, 1) := by decide +kernel
theorem d_S_appendTurned_56 : decode b_S_appendTurned 56 = .ok (.iload 5, 2) := by decide +kernel
theorem d_S_appendTurned_58 : decode b_S_appendTurned 58 = .ok (.iload 5, 2) := by decide +kernel
theorem d_S_appendTurned_60 : decode b_S_appendTurned 60 = .ok (.aload_n 1, 1) := by decide +kernel
theorem d_S_appendTurned_61 : decode b_S_appendTurned 61 = .ok (.getfield 15, 3) := by decide +kernel
theorem d_S_appendTurned_64 : decode b_S_appendTurned 64 = .ok (.iload 6, 2) := by decide +kernel
theorem d_S_appendTurned_66 : decode b_S_appendTurned 66 = .ok (.iaload, 1) := by decide +kernel
theorem d_S_appendTurned_67 : decode b_S_appendTurned 67 = .ok (.iadd, 1) := by decide +kernel
theorem d_S_appendTurned_68 : decode b_S_appendTurned 68 = .ok (.iload_n 2, 1) := by decide +kernel
theorem d_S_appendTurned_69 : decode b_S_appendTurned 69 = .ok (.iload_n 3, 1) := by decide +kernel
theorem d_S_appendTurned_70 : decode b_S_appendTurned 70 = .ok (.invokestatic 43, 3) := by decide +kernel
theorem d_S_appendTurned_73 : decode b_S_appendTurned 73 = .ok (.invokevirtual 47, 3) := by decide +kernel
theorem d_S_appendTurned_76 : decode b_S_appendTurned 76 = .ok (.iinc 6 (-1), 3) := by decide +kernel
theorem d_S_appendTurned_79 : decode b_S_appendTurned 79 = .ok (.goto (-65), 3) := by decide +kernel
theorem d_S_appendTurned_82 : decode b_S_appendTurned 82 = .ok (.return_, 1) := by decide +kernel
set_option maxHeartbeats 4000000 in
set_option maxRecDepth 20000 in
theorem c_S_appendTurned {l : Launch} {G : va_G} {tys : List (ClassId × FieldType)} {cI cO cZ : ClassId} (hT : TY tys cI cO cZ) (q a b : Nat) (sg ln : Int → Int) (r pl ov lc sd : Int) (q2 a2 b2 : Nat) (sg2 ln2 : Int → Int) (r2 pl2 ov2 lc2 sd2 : Int) (n N e f ol : Int) (v u : Int → Int) (hV : RV r pl ov sg ln n v) (hO : Ok r2 sg2 ln2 N u) (hr : r2 ≤ 50) (hN : N ≤ 3000) (hf : 0 ≤ f ∧ f ≤ e ∧ e ≤ N) (hol : ol = 0 ∨ ol = 1) (hp : pl2 = N) : CTV l G tys y_S_appendTurned b_S_appendTurned 7 2 42 [.ref q, .ref q2, .int (iI f), .int (iI e), .int (iI ol)] (sw cI q a b sg ln r pl ov lc sd ++ sw cI q2 a2 b2 sg2 ln2 r2 pl2 ov2 lc2 sd2) (fun w => ∃ (sg' ln' : Int → Int) (r' pl' ov' : Int), w = sw cI q a b sg' ln' r' pl' ov' lc sd ++ sw cI q2 a2 b2 sg2 ln2 r2 pl2 ov2 lc2 sd2 ∧ RV r' pl' ov' sg' ln' (tn ol u e n (e - f)) (tv ol u e n v (e - f))) := by
  refine mkV (by decide) (Nat.le_of_ble_eq_true rfl) ?_
  rintro X rfl rfl rfl hRm C kret H ls w hl
  have hl : lv_has ls 7 [(0, .ref q), (1, .ref q2), (2, .int (iI f)), (3, .int (iI e)), (4, .int (iI ol))] := hl
  have w : Wd X (sw cI q a b sg ln r pl ov lc sd ++ sw cI q2 a2 b2 sg2 ln2 r2 pl2 ov2 lc2 sd2) H [] := w
  generalize ([] : List Loc) = locs at w ⊢
  have hr0 := hO.1
  have hN0 := hO.n0
  have hps := ps_zero ln2
  have hpr := hO.2.2.2.1
  subst hp
  refine r_aload_n (pc := 0) C d_S_appendTurned_0 rfl (lv_at hl 1 rfl) ?_
  refine r_get (pc := 1) (v := .int (iI pl2)) C w i_S rfl 3 rfl 3 (by decide) fl_S_22 rfl rfl d_S_appendTurned_1 ?_
  refine r_istore (pc := 4) (lv' := [(5, .int (iI pl2)), (0, .ref q), (1, .ref q2), (2, .int (iI f)), (3, .int (iI e)), (4, .int (iI ol))]) C d_S_appendTurned_4 hl (by decide) rfl (fun ls hl => ?_)
  refine r_aload_n (pc := 6) C d_S_appendTurned_6 rfl (lv_at hl 2 rfl) ?_
  refine r_get (pc := 7) (v := .int (iI r2)) C w i_S rfl 3 rfl 2 (by decide) fl_S_18 rfl rfl d_S_appendTurned_7 ?_
  refine r_iconst (pc := 10) C d_S_appendTurned_10 ?_
  refine r_isub (pc := 11) C d_S_appendTurned_11 ?_
  refine r_istore (pc := 12) (lv' := [(6, .int (iI (r2 - 1))), (5, .int (iI pl2)), (0, .ref q), (1, .ref q2), (2, .int (iI f)), (3, .int (iI e)), (4, .int (iI ol))]) C d_S_appendTurned_12 hl (by decide) rfl (fun ls hl => ?_)
  have L14 : ∀ (fuel : Nat), ∀ (run : Int) (start : Int) (sg1 : Int → Int) (ln1 : Int → Int) (r1 : Int) (pl1 : Int) (ov1 : Int), -1 ≤ run ∧ run < r2 → start = ps ln2 (run + 1) → RV r1 pl1 ov1 sg1 ln1 (tn ol u e n (max 0 (e - max start f))) (tv ol u e n v (max 0 (e - max start f))) → (run + 1) < (fuel : Int) → ∀ (H : Heap) (locs : List Loc) (ls : Array Slot), Wd X (sw cI q a b sg1 ln1 r1 pl1 ov1 lc sd ++ sw cI q2 a2 b2 sg2 ln2 r2 pl2 ov2 lc2 sd2) H locs → lv_has ls 7 [(0, .ref q), (1, .ref q2), (2, .int (iI f)), (3, .int (iI e)), (4, .int (iI ol)), (5, .int (iI start)), (6, .int (iI run))] → GG X 0 0 H locs 14 ls [] := by
    intro fuel
    induction fuel with
    | zero =>
      intro run start sg1 ln1 r1 pl1 ov1 h0 hst hV1 hfuel
      exact absurd hfuel (by omega)
    | succ fuel ih14 =>
      intro run start sg1 ln1 r1 pl1 ov1 h0 hst hV1 hfuel H locs ls w hl
      refine r_iload (pc := 14) C d_S_appendTurned_14 (lv_at hl 6 rfl) ?_
      refine r_if_lt (pc := 16) (tgt := 82) C (by omega) d_S_appendTurned_16 (by decide) (fun c_16 => ?_) (fun c_16 => ?_)
      · skip
        exact kret _ _ _ _ _ d_S_appendTurned_82 w (⟨_, _, _, _, _, rfl, by have hs0 : start = 0 := by { rw [hst, show run + 1 = 0 by omega]; exact hps }; rw [show max 0 (e - max start f) = e - f by omega] at hV1; exact hV1⟩)
      · skip
        have hk := hO.run (k := run) (by omega) (by omega)
        refine r_iload (pc := 19) C d_S_appendTurned_19 (lv_at hl 5 rfl) ?_
        refine r_aload_n (pc := 21) C d_S_appendTurned_21 rfl (lv_at hl 1 rfl) ?_
        refine r_get (pc := 22) (v := .ref b2) C w i_S rfl 3 rfl 1 (by decide) fl_S_15 rfl rfl d_S_appendTurned_22 ?_
        refine r_iload (pc := 25) C d_S_appendTurned_25 (lv_at hl 6 rfl) ?_
        refine r_iald (pc := 27) (f := ln2) (i := run) C w 0 5 rfl hT.1 (by omega) d_S_appendTurned_27 ?_
        refine r_isub (pc := 28) C d_S_appendTurned_28 ?_
        refine r_istore (pc := 29) (lv' := [(5, .int (iI (start - (ln2 run)))), (0, .ref q), (1, .ref q2), (2, .int (iI f)), (3, .int (iI e)), (4, .int (iI ol)), (6, .int (iI run))]) C d_S_appendTurned_29 hl (by decide) rfl (fun ls hl => ?_)
        refine r_iload (pc := 31) C d_S_appendTurned_31 (lv_at hl 5 rfl) ?_
        refine r_if_eq (pc := 33) (tgt := 48) C (by omega) d_S_appendTurned_33 (by decide) (fun c_33 => ?_) (fun c_33 => ?_)
        · skip
          refine r_aload_n (pc := 48) C d_S_appendTurned_48 rfl (lv_at hl 1 rfl) ?_
          refine r_aload_n (pc := 49) C d_S_appendTurned_49 rfl (lv_at hl 2 rfl) ?_
          refine r_get (pc := 50) (v := .ref a2) C w i_S rfl 3 rfl 0 (by decide) fl_S_9 rfl rfl d_S_appendTurned_50 ?_
          refine r_iload (pc := 53) C d_S_appendTurned_53 (lv_at hl 6 rfl) ?_
          refine r_iald (pc := 55) (f := sg2) (i := run) C w 0 4 rfl hT.1 (by omega) d_S_appendTurned_55 ?_
          refine r_iload (pc := 56) C d_S_appendTurned_56 (lv_at hl 0 rfl) ?_
          refine r_iload (pc := 58) C d_S_appendTurned_58 (lv_at hl 0 rfl) ?_
          refine r_aload_n (pc := 60) C d_S_appendTurned_60 rfl (lv_at hl 2 rfl) ?_
          refine r_get (pc := 61) (v := .ref b2) C w i_S rfl 3 rfl 1 (by decide) fl_S_15 rfl rfl d_S_appendTurned_61 ?_
          refine r_iload (pc := 64) C d_S_appendTurned_64 (lv_at hl 6 rfl) ?_
          refine r_iald (pc := 66) (f := ln2) (i := run) C w 0 5 rfl hT.1 (by omega) d_S_appendTurned_66 ?_
          refine r_iadd (pc := 67) C d_S_appendTurned_67 ?_
          refine r_iload_n (pc := 68) C d_S_appendTurned_68 rfl (lv_at hl 3 rfl) ?_
          refine r_iload_n (pc := 69) C d_S_appendTurned_69 rfl (lv_at hl 4 rfl) ?_
          refine r_callP (pc := 70) (As := [.int (iI (start - (ln2 run))), .int (iI ((start - (ln2 run)) + (ln2 run))), .int (iI f), .int (iI e)]) (rest := [.int (iI (sg2 run)), .ref q]) C w (c_S_shared (start - (ln2 run)) ((start - (ln2 run)) + (ln2 run)) f e (by omega)) ml_S_43 st_S_shared ini_S cd_S_shared hd_S_shared rfl (by rw [hRm]; exact ⟨⟨Nat.le_of_ble_eq_true rfl, Nat.le_of_ble_eq_true rfl⟩, Nat.le_of_ble_eq_true rfl, Nat.le_of_ble_eq_true rfl⟩) hl.1 rfl (Nat.le_of_ble_eq_true rfl) d_S_appendTurned_70 (fun z_70 H locs hz_70 w => ?_)
          refine r_callVV (pc := 73) (As := [.int (iI (sg2 run)), .int (iI z_70)]) (rest := []) (wr := (sw cI q2 a2 b2 sg2 ln2 r2 pl2 ov2 lc2 sd2)) C w (c_S_append hT q a b sg1 ln1 r1 pl1 ov1 lc sd (sg2 run) z_70 _ _ hV1 (by omega) (by omega)) ml_S_47 im_S_append se_S_append ini_S cd_S_append hd_S_append rfl (by rw [hRm]; exact ⟨⟨Nat.le_of_ble_eq_true rfl, Nat.le_of_ble_eq_true rfl⟩, Nat.le_of_ble_eq_true rfl, Nat.le_of_ble_eq_true rfl⟩) hl.1 [0, 1, 2] [3, 4, 5] ⟨rfl, rfl, by decide, by decide, by decide⟩ 0 rfl rfl rfl (Nat.le_of_ble_eq_true rfl) d_S_appendTurned_73 (fun u_73 H locs hz_73 w => ?_)
          obtain ⟨sg_73, ln_73, r_73, pl_73, ov_73, rfl, hV_73⟩ := hz_73
          have w : Wd X (sw cI q a b sg_73 ln_73 r_73 pl_73 ov_73 lc sd ++ sw cI q2 a2 b2 sg2 ln2 r2 pl2 ov2 lc2 sd2) H locs := w.sub [3, 4, 5, 0, 1, 2] rfl (by decide)
          refine r_iinc (pc := 76) (j := 6) (lv' := [(6, .int (iI (run + (-1)))), (5, .int (iI (start - (ln2 run)))), (0, .ref q), (1, .ref q2), (2, .int (iI f)), (3, .int (iI e)), (4, .int (iI ol))]) C d_S_appendTurned_76 hl rfl (by decide) rfl (fun ls hl => ?_)
          refine r_goto (pc := 79) (tgt := 14) C d_S_appendTurned_79 (by decide) ?_
          exact ih14 (run + (-1)) (start - (ln2 run)) sg_73 ln_73 r_73 pl_73 ov_73 (by omega) (by rw [show run + -1 + 1 = run by omega]; omega) (by first | exact turned_step hO (by omega) (by omega) hst rfl (by omega) (by omega) hz_70 hV_73 | (rw [(turned_over (n := n) (ol := ol) (v := v) hO (by omega) (by omega) hst rfl (by omega) hf).1, (turned_over (n := n) (ol := ol) (v := v) hO (by omega) (by omega) hst rfl (by omega) hf).2]; exact hV1)) (by omega) _ _ _ w (lv_sub hl [2, 3, 4, 5, 6, 1, 0] rfl)
        · skip
          refine r_aload_n (pc := 36) C d_S_appendTurned_36 rfl (lv_at hl 2 rfl) ?_
          refine r_get (pc := 37) (v := .ref a2) C w i_S rfl 3 rfl 0 (by decide) fl_S_9 rfl rfl d_S_appendTurned_37 ?_
          refine r_iload (pc := 40) C d_S_appendTurned_40 (lv_at hl 6 rfl) ?_
          refine r_iald (pc := 42) (f := sg2) (i := run) C w 0 4 rfl hT.1 (by omega) d_S_appendTurned_42 ?_
          refine r_bipush (pc := 43) C d_S_appendTurned_43 (by decide) ?_
          refine r_icmp_eq (pc := 45) (tgt := 76) C (by omega) d_S_appendTurned_45 (by decide) (fun c_45 => ?_) (fun c_45 => ?_)
          · skip
            refine r_iinc (pc := 76) (j := 6) (lv' := [(6, .int (iI (run + (-1)))), (5, .int (iI (start - (ln2 run)))), (0, .ref q), (1, .ref q2), (2, .int (iI f)), (3, .int (iI e)), (4, .int (iI ol))]) C d_S_appendTurned_76 hl rfl (by decide) rfl (fun ls hl => ?_)
            refine r_goto (pc := 79) (tgt := 14) C d_S_appendTurned_79 (by decide) ?_
            exact ih14 (run + (-1)) (start - (ln2 run)) sg1 ln1 r1 pl1 ov1 (by omega) (by rw [show run + -1 + 1 = run by omega]; omega) (by first | exact turned_step hO (by omega) (by omega) hst rfl (by omega) (by omega) hz_70 hV_73 | (rw [(turned_over (n := n) (ol := ol) (v := v) hO (by omega) (by omega) hst rfl (by omega) hf).1, (turned_over (n := n) (ol := ol) (v := v) hO (by omega) (by omega) hst rfl (by omega) hf).2]; exact hV1)) (by omega) _ _ _ w (lv_sub hl [2, 3, 4, 5, 6, 1, 0] rfl)
          · skip
            refine r_aload_n (pc := 48) C d_S_appendTurned_48 rfl (lv_at hl 1 rfl) ?_
            refine r_aload_n (pc := 49) C d_S_appendTurned_49 rfl (lv_at hl 2 rfl) ?_
            refine r_get (pc := 50) (v := .ref a2) C w i_S rfl 3 rfl 0 (by decide) fl_S_9 rfl rfl d_S_appendTurned_50 ?_
            refine r_iload (pc := 53) C d_S_appendTurned_53 (lv_at hl 6 rfl) ?_
            refine r_iald (pc := 55) (f := sg2) (i := run) C w 0 4 rfl hT.1 (by omega) d_S_appendTurned_55 ?_
            refine r_iload (pc := 56) C d_S_appendTurned_56 (lv_at hl 0 rfl) ?_
            refine r_iload (pc := 58) C d_S_appendTurned_58 (lv_at hl 0 rfl) ?_
            refine r_aload_n (pc := 60) C d_S_appendTurned_60 rfl (lv_at hl 2 rfl) ?_
            refine r_get (pc := 61) (v := .ref b2) C w i_S rfl 3 rfl 1 (by decide) fl_S_15 rfl rfl d_S_appendTurned_61 ?_
            refine r_iload (pc := 64) C d_S_appendTurned_64 (lv_at hl 6 rfl) ?_
            refine r_iald (pc := 66) (f := ln2) (i := run) C w 0 5 rfl hT.1 (by omega) d_S_appendTurned_66 ?_
            refine r_iadd (pc := 67) C d_S_appendTurned_67 ?_
            refine r_iload_n (pc := 68) C d_S_appendTurned_68 rfl (lv_at hl 3 rfl) ?_
            refine r_iload_n (pc := 69) C d_S_appendTurned_69 rfl (lv_at hl 4 rfl) ?_
            refine r_callP (pc := 70) (As := [.int (iI (start - (ln2 run))), .int (iI ((start - (ln2 run)) + (ln2 run))), .int (iI f), .int (iI e)]) (rest := [.int (iI (sg2 run)), .ref q]) C w (c_S_shared (start - (ln2 run)) ((start - (ln2 run)) + (ln2 run)) f e (by omega)) ml_S_43 st_S_shared ini_S cd_S_shared hd_S_shared rfl (by rw [hRm]; exact ⟨⟨Nat.le_of_ble_eq_true rfl, Nat.le_of_ble_eq_true rfl⟩, Nat.le_of_ble_eq_true rfl, Nat.le_of_ble_eq_true rfl⟩) hl.1 rfl (Nat.le_of_ble_eq_true rfl) d_S_appendTurned_70 (fun z_70 H locs hz_70 w => ?_)
            refine r_callVV (pc := 73) (As := [.int (iI (sg2 run)), .int (iI z_70)]) (rest := []) (wr := (sw cI q2 a2 b2 sg2 ln2 r2 pl2 ov2 lc2 sd2)) C w (c_S_append hT q a b sg1 ln1 r1 pl1 ov1 lc sd (sg2 run) z_70 _ _ hV1 (by omega) (by omega)) ml_S_47 im_S_append se_S_append ini_S cd_S_append hd_S_append rfl (by rw [hRm]; exact ⟨⟨Nat.le_of_ble_eq_true rfl, Nat.le_of_ble_eq_true rfl⟩, Nat.le_of_ble_eq_true rfl, Nat.le_of_ble_eq_true rfl⟩) hl.1 [0, 1, 2] [3, 4, 5] ⟨rfl, rfl, by decide, by decide, by decide⟩ 0 rfl rfl rfl (Nat.le_of_ble_eq_true rfl) d_S_appendTurned_73 (fun u_73 H locs hz_73 w => ?_)
            obtain ⟨sg_73, ln_73, r_73, pl_73, ov_73, rfl, hV_73⟩ := hz_73
            have w : Wd X (sw cI q a b sg_73 ln_73 r_73 pl_73 ov_73 lc sd ++ sw cI q2 a2 b2 sg2 ln2 r2 pl2 ov2 lc2 sd2) H locs := w.sub [3, 4, 5, 0, 1, 2] rfl (by decide)
            refine r_iinc (pc := 76) (j := 6) (lv' := [(6, .int (iI (run + (-1)))), (5, .int (iI (start - (ln2 run)))), (0, .ref q), (1, .ref q2), (2, .int (iI f)), (3, .int (iI e)), (4, .int (iI ol))]) C d_S_appendTurned_76 hl rfl (by decide) rfl (fun ls hl => ?_)
            refine r_goto (pc := 79) (tgt := 14) C d_S_appendTurned_79 (by decide) ?_
            exact ih14 (run + (-1)) (start - (ln2 run)) sg_73 ln_73 r_73 pl_73 ov_73 (by omega) (by rw [show run + -1 + 1 = run by omega]; omega) (by first | exact turned_step hO (by omega) (by omega) hst rfl (by omega) (by omega) hz_70 hV_73 | (rw [(turned_over (n := n) (ol := ol) (v := v) hO (by omega) (by omega) hst rfl (by omega) hf).1, (turned_over (n := n) (ol := ol) (v := v) hO (by omega) (by omega) hst rfl (by omega) hf).2]; exact hV1)) (by omega) _ _ _ w (lv_sub hl [2, 3, 4, 5, 6, 1, 0] rfl)
  exact L14 (((r2 - 1) + 1) + 1 : Int).toNat (r2 - 1) pl2 sg ln r pl ov (by first | omega | rfl) (by rw [show r2 - 1 + 1 = r2 by omega]; omega) (by rw [show max 0 (e - max pl2 f) = 0 by omega, tn_zero, tv_zero]; exact hV) (by omega) _ _ _ w (lv_sub hl [2, 3, 4, 5, 6, 1, 0] rfl)
theorem d_S_appendLiveFrom_0 : decode b_S_appendLiveFrom 0 = .ok (.iconst 0, 1) := by decide +kernel
theorem d_S_appendLiveFrom_1 : decode b_S_appendLiveFrom 1 = .ok (.istore 5, 2) := by decide +kernel
theorem d_S_appendLiveFrom_3 : decode b_S_appendLiveFrom 3 = .ok (.iconst 0, 1) := by decide +kernel
theorem d_S_appendLiveFrom_4 : decode b_S_appendLiveFrom 4 = .ok (.istore 6, 2) := by decide +kernel
theorem d_S_appendLiveFrom_6 : decode b_S_appendLiveFrom 6 = .ok (.iconst 0, 1) := by decide +kernel
theorem d_S_appendLiveFrom_7 : decode b_S_appendLiveFrom 7 = .ok (.istore 7, 2) := by decide +kernel
theorem d_S_appendLiveFrom_9 : decode b_S_appendLiveFrom 9 = .ok (.iload 7, 2) := by decide +kernel
theorem d_S_appendLiveFrom_11 : decode b_S_appendLiveFrom 11 = .ok (.aload_n 2, 1) := by decide +kernel
theorem d_S_appendLiveFrom_12 : decode b_S_appendLiveFrom 12 = .ok (.getfield 18, 3) := by decide +kernel
theorem d_S_appendLiveFrom_15 : decode b_S_appendLiveFrom 15 = .ok (.if_icmp .ge 83, 3) := by decide +kernel
theorem d_S_appendLiveFrom_18 : decode b_S_appendLiveFrom 18 = .ok (.iload 5, 2) := by decide +kernel
theorem d_S_appendLiveFrom_20 : decode b_S_appendLiveFrom 20 = .ok (.iload 5, 2) := by decide +kernel
theorem d_S_appendLiveFrom_22 : decode b_S_appendLiveFrom 22 = .ok (.aload_n 2, 1) := by decide +kernel
theorem d_S_appendLiveFrom_23 : decode b_S_appendLiveFrom 23 = .ok (.getfield 15, 3) := by decide +kernel
theorem d_S_appendLiveFrom_26 : decode b_S_appendLiveFrom 26 = .ok (.iload 7, 2) := by decide +kernel
theorem d_S_appendLiveFrom_28 : decode b_S_appendLiveFrom 28 = .ok (.iaload, 1) := by decide +kernel
theorem d_S_appendLiveFrom_29 : decode b_S_appendLiveFrom 29 = .ok (.iadd, 1) := by decide +kernel
theorem d_S_appendLiveFrom_30 : decode b_S_appendLiveFrom 30 = .ok (.iload_n 3, 1) := by decide +kernel
theorem d_S_appendLiveFrom_31 : decode b_S_appendLiveFrom 31 = .ok (.iload 4, 2) := by decide +kernel
theorem d_S_appendLiveFrom_33 : decode b_S_appendLiveFrom 33 = .ok (.invokestatic 43, 3) := by decide +kernel
theorem d_S_appendLiveFrom_36 : decode b_S_appendLiveFrom 36 = .ok (.istore 8, 2) := by decide +kernel
theorem d_S_appendLiveFrom_38 : decode b_S_appendLiveFrom 38 = .ok (.aload_n 2, 1) := by decide +kernel
theorem d_S_appendLiveFrom_39 : decode b_S_appendLiveFrom 39 = .ok (.getfield 9, 3) := by decide +kernel
theorem d_S_appendLiveFrom_42 : decode b_S_appendLiveFrom 42 = .ok (.iload 7, 2) := by decide +kernel
theorem d_S_appendLiveFrom_44 : decode b_S_appendLiveFrom 44 = .ok (.iaload, 1) := by decide +kernel
theorem d_S_appendLiveFrom_45 : decode b_S_appendLiveFrom 45 = .ok (.bipush 10, 2) := by decide +kernel
theorem d_S_appendLiveFrom_47 : decode b_S_appendLiveFrom 47 = .ok (.if_icmp .ne 14, 3) := by decide +kernel
theorem d_S_appendLiveFrom_50 : decode b_S_appendLiveFrom 50 = .ok (.aload_n 0, 1) := by decide +kernel
theorem d_S_appendLiveFrom_51 : decode b_S_appendLiveFrom 51 = .ok (.bipush 10, 2) := by decide +kernel
theorem d_S_appendLiveFrom_53 : decode b_S_appendLiveFrom 53 = .ok (.iload 8, 2) := by decide +kernel
theorem d_S_appendLiveFrom_55 : decode b_S_appendLiveFrom 55 = .ok (.invokevirtual 47, 3) := by decide +kernel
theorem d_S_appendLiveFrom_58 : decode b_S_appendLiveFrom 58 = .ok (.goto 22, 3) := by decide +kernel
theorem d_S_appendLiveFrom_61 : decode b_S_appendLiveFrom 61 = .ok (.aload_n 0, 1) := by decide +kernel
theorem d_S_appendLiveFrom_62 : decode b_S_appendLiveFrom 62 = .ok (.aload_n 1, 1) := by decide +kernel
theorem d_S_appendLiveFrom_63 : decode b_S_appendLiveFrom 63 = .ok (.iload 6, 2) := by decide +kernel
theorem d_S_appendLiveFrom_65 : decode b_S_appendLiveFrom 65 = .ok (.iload 6, 2) := by decide +kernel
theorem d_S_appendLiveFrom_67 : decode b_S_appendLiveFrom 67 = .ok (.iload 8, 2) := by decide +kernel
theorem d_S_appendLiveFrom_69 : decode b_S_appendLiveFrom 69 = .ok (.iadd, 1) := by decide +kernel
theorem d_S_appendLiveFrom_70 : decode b_S_appendLiveFrom 70 = .ok (.invokevirtual 39, 3) := by decide +kernel
theorem d_S_appendLiveFrom_73 : decode b_S_appendLiveFrom 73 = .ok (.iload 6, 2) := by decide +kernel
theorem d_S_appendLiveFrom_75 : decode b_S_appendLiveFrom 75 = .ok (.iload 8, 2) := by decide +kernel
theorem d_S_appendLiveFrom_77 : decode b_S_appendLiveFrom 77 = .ok (.iadd, 1) := by decide +kernel
theorem d_S_appendLiveFrom_78 : decode b_S_appendLiveFrom 78 = .ok (.istore 6, 2) := by decide +kernel
theorem d_S_appendLiveFrom_80 : decode b_S_appendLiveFrom 80 = .ok (.iload 5, 2) := by decide +kernel
theorem d_S_appendLiveFrom_82 : decode b_S_appendLiveFrom 82 = .ok (.aload_n 2, 1) := by decide +kernel
theorem d_S_appendLiveFrom_83 : decode b_S_appendLiveFrom 83 = .ok (.getfield 15, 3) := by decide +kernel
theorem d_S_appendLiveFrom_86 : decode b_S_appendLiveFrom 86 = .ok (.iload 7, 2) := by decide +kernel
theorem d_S_appendLiveFrom_88 : decode b_S_appendLiveFrom 88 = .ok (.iaload, 1) := by decide +kernel
theorem d_S_appendLiveFrom_89 : decode b_S_appendLiveFrom 89 = .ok (.iadd, 1) := by decide +kernel
theorem d_S_appendLiveFrom_90 : decode b_S_appendLiveFrom 90 = .ok (.istore 5, 2) := by decide +kernel
theorem d_S_appendLiveFrom_92 : decode b_S_appendLiveFrom 92 = .ok (.iinc 7 1, 3) := by decide +kernel
theorem d_S_appendLiveFrom_95 : decode b_S_appendLiveFrom 95 = .ok (.goto (-86), 3) := by decide +kernel
theorem d_S_appendLiveFrom_98 : decode b_S_appendLiveFrom 98 = .ok (.return_, 1) := by decide +kernel
set_option maxHeartbeats 4000000 in
set_option maxRecDepth 20000 in
theorem c_S_appendLiveFrom {l : Launch} {G : va_G} {tys : List (ClassId × FieldType)} {cI cO cZ : ClassId} (hT : TY tys cI cO cZ) (q a b : Nat) (sg ln : Int → Int) (r pl ov lc sd : Int) (q2 a2 b2 : Nat) (sg2 ln2 : Int → Int) (r2 pl2 ov2 lc2 sd2 : Int) (q3 a3 b3 : Nat) (sg3 ln3 : Int → Int) (r3 pl3 ov3 lc3 sd3 : Int) (n N e f m : Int) (v u wl : Int → Int) (hV : RV r pl ov sg ln n v) (hL : Ok r2 sg2 ln2 m wl) (hO : Ok r3 sg3 ln3 N u) (hrL : r2 ≤ 50) (hmL : m ≤ 3000) (hr : r3 ≤ 50) (hN : N ≤ 3000) (hf : 0 ≤ f ∧ f ≤ e ∧ e ≤ N) (hm : m = ps (lv_ u) e - ps (lv_ u) f) : CTV l G tys y_S_appendLiveFrom b_S_appendLiveFrom 9 3 67 [.ref q, .ref q2, .ref q3, .int (iI f), .int (iI e)] ((sw cI q a b sg ln r pl ov lc sd ++ sw cI q2 a2 b2 sg2 ln2 r2 pl2 ov2 lc2 sd2) ++ sw cI q3 a3 b3 sg3 ln3 r3 pl3 ov3 lc3 sd3) (fun w1 => ∃ (sg' ln' : Int → Int) (r' pl' ov' : Int), w1 = (sw cI q a b sg' ln' r' pl' ov' lc sd ++ sw cI q2 a2 b2 sg2 ln2 r2 pl2 ov2 lc2 sd2) ++ sw cI q3 a3 b3 sg3 ln3 r3 pl3 ov3 lc3 sd3 ∧ RV r' pl' ov' sg' ln' (n + (e - f)) (lfm v n u f wl)) := by
  refine mkV (by decide) (Nat.le_of_ble_eq_true rfl) ?_
  rintro X rfl rfl rfl hRm C kret H ls w hl
  have hl : lv_has ls 9 [(0, .ref q), (1, .ref q2), (2, .ref q3), (3, .int (iI f)), (4, .int (iI e))] := hl
  have w : Wd X (sw cI q a b sg ln r pl ov lc sd ++ sw cI q2 a2 b2 sg2 ln2 r2 pl2 ov2 lc2 sd2 ++ sw cI q3 a3 b3 sg3 ln3 r3 pl3 ov3 lc3 sd3) H [] := w
  generalize ([] : List Loc) = locs at w ⊢
  have hr0 := hO.1
  have hN0 := hO.n0
  have hm0 := hL.n0
  have hps := ps_zero ln3
  have hpr := hO.2.2.2.1
  refine r_iconst (pc := 0) C d_S_appendLiveFrom_0 ?_
  refine r_istore (pc := 1) (lv' := [(5, .int (iI 0)), (0, .ref q), (1, .ref q2), (2, .ref q3), (3, .int (iI f)), (4, .int (iI e))]) C d_S_appendLiveFrom_1 hl (by decide) rfl (fun ls hl => ?_)
  refine r_iconst (pc := 3) C d_S_appendLiveFrom_3 ?_
  refine r_istore (pc := 4) (lv' := [(6, .int (iI 0)), (5, .int (iI 0)), (0, .ref q), (1, .ref q2), (2, .ref q3), (3, .int (iI f)), (4, .int (iI e))]) C d_S_appendLiveFrom_4 hl (by decide) rfl (fun ls hl => ?_)
  refine r_iconst (pc := 6) C d_S_appendLiveFrom_6 ?_
  refine r_istore (pc := 7) (lv' := [(7, .int (iI 0)), (6, .int (iI 0)), (5, .int (iI 0)), (0, .ref q), (1, .ref q2), (2, .ref q3), (3, .int (iI f)), (4, .int (iI e))]) C d_S_appendLiveFrom_7 hl (by decide) rfl (fun ls hl => ?_)
  have L9 : ∀ (fuel : Nat), ∀ (run : Int) (start : Int) (taken : Int) (sg1 : Int → Int) (ln1 : Int → Int) (r1 : Int) (pl1 : Int) (ov1 : Int), 0 ≤ run ∧ run ≤ r3 → start = ps ln3 run → taken = ps (lv_ u) (max f (min start e)) - ps (lv_ u) f → RV r1 pl1 ov1 sg1 ln1 (n + max 0 (min start e - f)) (lfm v n u f wl) → (r3 - run) < (fuel : Int) → ∀ (H : Heap) (locs : List Loc) (ls : Array Slot), Wd X (sw cI q a b sg1 ln1 r1 pl1 ov1 lc sd ++ sw cI q2 a2 b2 sg2 ln2 r2 pl2 ov2 lc2 sd2 ++ sw cI q3 a3 b3 sg3 ln3 r3 pl3 ov3 lc3 sd3) H locs → lv_has ls 9 [(0, .ref q), (1, .ref q2), (2, .ref q3), (3, .int (iI f)), (4, .int (iI e)), (5, .int (iI start)), (6, .int (iI taken)), (7, .int (iI run))] → GG X 0 0 H locs 9 ls [] := by
    intro fuel
    induction fuel with
    | zero =>
      intro run start taken sg1 ln1 r1 pl1 ov1 h0 hst htk hV1 hfuel
      exact absurd hfuel (by omega)
    | succ fuel ih9 =>
      intro run start taken sg1 ln1 r1 pl1 ov1 h0 hst htk hV1 hfuel H locs ls w hl
      refine r_iload (pc := 9) C d_S_appendLiveFrom_9 (lv_at hl 7 rfl) ?_
      refine r_aload_n (pc := 11) C d_S_appendLiveFrom_11 rfl (lv_at hl 2 rfl) ?_
      refine r_get (pc := 12) (v := .int (iI r3)) C w i_S rfl 6 rfl 2 (by decide) fl_S_18 rfl rfl d_S_appendLiveFrom_12 ?_
      refine r_icmp_ge (pc := 15) (tgt := 98) C (by omega) d_S_appendLiveFrom_15 (by decide) (fun c_15 => ?_) (fun c_15 => ?_)
      · skip
        exact kret _ _ _ _ _ d_S_appendLiveFrom_98 w (⟨_, _, _, _, _, rfl, hV1.to (by have : start = N := by { rw [hst, show run = r3 by omega]; exact hpr }; omega) (fun _ _ _ => rfl)⟩)
      · skip
        have hk := hO.run (k := run) (by omega) (by omega)
        have hle1 := lv_le (u := u) (a := f) (b := max f (min start e)) (by omega) (by omega)
        have hle2 := lv_le (u := u) (a := max f (min (start + ln3 run) e)) (b := e) (by omega) (by omega)
        refine r_iload (pc := 18) C d_S_appendLiveFrom_18 (lv_at hl 5 rfl) ?_
        refine r_iload (pc := 20) C d_S_appendLiveFrom_20 (lv_at hl 5 rfl) ?_
        refine r_aload_n (pc := 22) C d_S_appendLiveFrom_22 rfl (lv_at hl 2 rfl) ?_
        refine r_get (pc := 23) (v := .ref b3) C w i_S rfl 6 rfl 1 (by decide) fl_S_15 rfl rfl d_S_appendLiveFrom_23 ?_
        refine r_iload (pc := 26) C d_S_appendLiveFrom_26 (lv_at hl 7 rfl) ?_
        refine r_iald (pc := 28) (f := ln3) (i := run) C w 0 8 rfl hT.1 (by omega) d_S_appendLiveFrom_28 ?_
        refine r_iadd (pc := 29) C d_S_appendLiveFrom_29 ?_
        refine r_iload_n (pc := 30) C d_S_appendLiveFrom_30 rfl (lv_at hl 3 rfl) ?_
        refine r_iload (pc := 31) C d_S_appendLiveFrom_31 (lv_at hl 4 rfl) ?_
        refine r_callP (pc := 33) (As := [.int (iI start), .int (iI (start + (ln3 run))), .int (iI f), .int (iI e)]) (rest := []) C w (c_S_shared start (start + (ln3 run)) f e (by omega)) ml_S_43 st_S_shared ini_S cd_S_shared hd_S_shared rfl (by rw [hRm]; exact ⟨⟨Nat.le_of_ble_eq_true rfl, Nat.le_of_ble_eq_true rfl⟩, Nat.le_of_ble_eq_true rfl, Nat.le_of_ble_eq_true rfl⟩) hl.1 rfl (Nat.le_of_ble_eq_true rfl) d_S_appendLiveFrom_33 (fun z_33 H locs hz_33 w => ?_)
        refine r_istore (pc := 36) (lv' := [(8, .int (iI z_33)), (0, .ref q), (1, .ref q2), (2, .ref q3), (3, .int (iI f)), (4, .int (iI e)), (5, .int (iI start)), (6, .int (iI taken)), (7, .int (iI run))]) C d_S_appendLiveFrom_36 hl (by decide) rfl (fun ls hl => ?_)
        refine r_aload_n (pc := 38) C d_S_appendLiveFrom_38 rfl (lv_at hl 3 rfl) ?_
        refine r_get (pc := 39) (v := .ref a3) C w i_S rfl 6 rfl 0 (by decide) fl_S_9 rfl rfl d_S_appendLiveFrom_39 ?_
        refine r_iload (pc := 42) C d_S_appendLiveFrom_42 (lv_at hl 8 rfl) ?_
        refine r_iald (pc := 44) (f := sg3) (i := run) C w 0 7 rfl hT.1 (by omega) d_S_appendLiveFrom_44 ?_
        refine r_bipush (pc := 45) C d_S_appendLiveFrom_45 (by decide) ?_
        refine r_icmp_ne (pc := 47) (tgt := 61) C (by omega) d_S_appendLiveFrom_47 (by decide) (fun c_47 => ?_) (fun c_47 => ?_)
        · skip
          have hcl := live_count_live hO (by omega) (by omega) (by omega : 0 ≤ f ∧ f ≤ e) hst (by omega) hz_33
          refine r_aload_n (pc := 61) C d_S_appendLiveFrom_61 rfl (lv_at hl 1 rfl) ?_
          refine r_aload_n (pc := 62) C d_S_appendLiveFrom_62 rfl (lv_at hl 2 rfl) ?_
          refine r_iload (pc := 63) C d_S_appendLiveFrom_63 (lv_at hl 7 rfl) ?_
          refine r_iload (pc := 65) C d_S_appendLiveFrom_65 (lv_at hl 7 rfl) ?_
          refine r_iload (pc := 67) C d_S_appendLiveFrom_67 (lv_at hl 0 rfl) ?_
          refine r_iadd (pc := 69) C d_S_appendLiveFrom_69 ?_
          refine r_callVV (pc := 70) (As := [.ref q2, .int (iI taken), .int (iI (taken + z_33))]) (rest := []) (wr := (sw cI q3 a3 b3 sg3 ln3 r3 pl3 ov3 lc3 sd3)) C w (c_S_appendPiece hT q a b sg1 ln1 r1 pl1 ov1 lc sd q2 a2 b2 sg2 ln2 r2 pl2 ov2 lc2 sd2 _ _ (taken + z_33) taken _ _ hV1 hL (by omega) (by omega) (by omega) (by omega)) ml_S_39 im_S_appendPiece se_S_appendPiece ini_S cd_S_appendPiece hd_S_appendPiece rfl (by rw [hRm]; exact ⟨⟨Nat.le_of_ble_eq_true rfl, Nat.le_of_ble_eq_true rfl⟩, Nat.le_of_ble_eq_true rfl, Nat.le_of_ble_eq_true rfl⟩) hl.1 [0, 1, 2, 3, 4, 5] [6, 7, 8] ⟨rfl, rfl, by decide, by decide, by decide⟩ 0 rfl rfl rfl (Nat.le_of_ble_eq_true rfl) d_S_appendLiveFrom_70 (fun u_70 H locs hz_70 w => ?_)
          obtain ⟨sg_70, ln_70, r_70, pl_70, ov_70, rfl, hV_70⟩ := hz_70
          have w : Wd X (sw cI q a b sg_70 ln_70 r_70 pl_70 ov_70 lc sd ++ sw cI q2 a2 b2 sg2 ln2 r2 pl2 ov2 lc2 sd2 ++ sw cI q3 a3 b3 sg3 ln3 r3 pl3 ov3 lc3 sd3) H locs := w.sub [3, 4, 5, 6, 7, 8, 0, 1, 2] rfl (by decide)
          refine r_iload (pc := 73) C d_S_appendLiveFrom_73 (lv_at hl 7 rfl) ?_
          refine r_iload (pc := 75) C d_S_appendLiveFrom_75 (lv_at hl 0 rfl) ?_
          refine r_iadd (pc := 77) C d_S_appendLiveFrom_77 ?_
          refine r_istore (pc := 78) (lv' := [(6, .int (iI (taken + z_33))), (8, .int (iI z_33)), (0, .ref q), (1, .ref q2), (2, .ref q3), (3, .int (iI f)), (4, .int (iI e)), (5, .int (iI start)), (7, .int (iI run))]) C d_S_appendLiveFrom_78 hl (by decide) rfl (fun ls hl => ?_)
          refine r_iload (pc := 80) C d_S_appendLiveFrom_80 (lv_at hl 7 rfl) ?_
          refine r_aload_n (pc := 82) C d_S_appendLiveFrom_82 rfl (lv_at hl 4 rfl) ?_
          refine r_get (pc := 83) (v := .ref b3) C w i_S rfl 6 rfl 1 (by decide) fl_S_15 rfl rfl d_S_appendLiveFrom_83 ?_
          refine r_iload (pc := 86) C d_S_appendLiveFrom_86 (lv_at hl 8 rfl) ?_
          refine r_iald (pc := 88) (f := ln3) (i := run) C w 0 8 rfl hT.1 (by omega) d_S_appendLiveFrom_88 ?_
          refine r_iadd (pc := 89) C d_S_appendLiveFrom_89 ?_
          refine r_istore (pc := 90) (lv' := [(5, .int (iI (start + (ln3 run)))), (6, .int (iI (taken + z_33))), (8, .int (iI z_33)), (0, .ref q), (1, .ref q2), (2, .ref q3), (3, .int (iI f)), (4, .int (iI e)), (7, .int (iI run))]) C d_S_appendLiveFrom_90 hl (by decide) rfl (fun ls hl => ?_)
          refine r_iinc (pc := 92) (j := 8) (lv' := [(7, .int (iI (run + 1))), (5, .int (iI (start + (ln3 run)))), (6, .int (iI (taken + z_33))), (8, .int (iI z_33)), (0, .ref q), (1, .ref q2), (2, .ref q3), (3, .int (iI f)), (4, .int (iI e))]) C d_S_appendLiveFrom_92 hl rfl (by decide) rfl (fun ls hl => ?_)
          refine r_goto (pc := 95) (tgt := 9) C d_S_appendLiveFrom_95 (by decide) ?_
          exact ih9 (run + 1) (start + (ln3 run)) (taken + z_33) sg_70 ln_70 r_70 pl_70 ov_70 (by omega) (by omega) (by omega) (by first | exact live_dead hO (by omega) (by omega) (by omega) hst (by omega) hV_55 hz_33 | (subst htk; exact live_live hO (by omega) (by omega) (by omega) hst (by omega) hz_33 (by omega) hV_70)) (by omega) _ _ _ w (lv_sub hl [4, 5, 6, 7, 8, 1, 2, 0] rfl)
        · skip
          have hcd := live_count_dead hO (by omega) (by omega) (by omega : 0 ≤ f ∧ f ≤ e) hst (by omega)
          refine r_aload_n (pc := 50) C d_S_appendLiveFrom_50 rfl (lv_at hl 1 rfl) ?_
          refine r_bipush (pc := 51) C d_S_appendLiveFrom_51 (by decide) ?_
          refine r_iload (pc := 53) C d_S_appendLiveFrom_53 (lv_at hl 0 rfl) ?_
          refine r_callVV (pc := 55) (As := [.int (iI 10), .int (iI z_33)]) (rest := []) (wr := (sw cI q2 a2 b2 sg2 ln2 r2 pl2 ov2 lc2 sd2 ++ sw cI q3 a3 b3 sg3 ln3 r3 pl3 ov3 lc3 sd3)) C w (c_S_append hT q a b sg1 ln1 r1 pl1 ov1 lc sd 10 z_33 _ _ hV1 (by omega) (by omega)) ml_S_47 im_S_append se_S_append ini_S cd_S_append hd_S_append rfl (by rw [hRm]; exact ⟨⟨Nat.le_of_ble_eq_true rfl, Nat.le_of_ble_eq_true rfl⟩, Nat.le_of_ble_eq_true rfl, Nat.le_of_ble_eq_true rfl⟩) hl.1 [0, 1, 2] [3, 4, 5, 6, 7, 8] ⟨rfl, rfl, by decide, by decide, by decide⟩ 0 rfl rfl rfl (Nat.le_of_ble_eq_true rfl) d_S_appendLiveFrom_55 (fun u_55 H locs hz_55 w => ?_)
          obtain ⟨sg_55, ln_55, r_55, pl_55, ov_55, rfl, hV_55⟩ := hz_55
          have w : Wd X (sw cI q a b sg_55 ln_55 r_55 pl_55 ov_55 lc sd ++ sw cI q2 a2 b2 sg2 ln2 r2 pl2 ov2 lc2 sd2 ++ sw cI q3 a3 b3 sg3 ln3 r3 pl3 ov3 lc3 sd3) H locs := w.sub [6, 7, 8, 0, 1, 2, 3, 4, 5] rfl (by decide)
          refine r_goto (pc := 58) (tgt := 80) C d_S_appendLiveFrom_58 (by decide) ?_
          refine r_iload (pc := 80) C d_S_appendLiveFrom_80 (lv_at hl 6 rfl) ?_
          refine r_aload_n (pc := 82) C d_S_appendLiveFrom_82 rfl (lv_at hl 3 rfl) ?_
          refine r_get (pc := 83) (v := .ref b3) C w i_S rfl 6 rfl 1 (by decide) fl_S_15 rfl rfl d_S_appendLiveFrom_83 ?_
          refine r_iload (pc := 86) C d_S_appendLiveFrom_86 (lv_at hl 8 rfl) ?_
          refine r_iald (pc := 88) (f := ln3) (i := run) C w 0 8 rfl hT.1 (by omega) d_S_appendLiveFrom_88 ?_
          refine r_iadd (pc := 89) C d_S_appendLiveFrom_89 ?_
          refine r_istore (pc := 90) (lv' := [(5, .int (iI (start + (ln3 run)))), (8, .int (iI z_33)), (0, .ref q), (1, .ref q2), (2, .ref q3), (3, .int (iI f)), (4, .int (iI e)), (6, .int (iI taken)), (7, .int (iI run))]) C d_S_appendLiveFrom_90 hl (by decide) rfl (fun ls hl => ?_)
          refine r_iinc (pc := 92) (j := 8) (lv' := [(7, .int (iI (run + 1))), (5, .int (iI (start + (ln3 run)))), (8, .int (iI z_33)), (0, .ref q), (1, .ref q2), (2, .ref q3), (3, .int (iI f)), (4, .int (iI e)), (6, .int (iI taken))]) C d_S_appendLiveFrom_92 hl rfl (by decide) rfl (fun ls hl => ?_)
          refine r_goto (pc := 95) (tgt := 9) C d_S_appendLiveFrom_95 (by decide) ?_
          exact ih9 (run + 1) (start + (ln3 run)) taken sg_55 ln_55 r_55 pl_55 ov_55 (by omega) (by omega) (by omega) (by first | exact live_dead hO (by omega) (by omega) (by omega) hst (by omega) hV_55 hz_33 | (subst htk; exact live_live hO (by omega) (by omega) (by omega) hst (by omega) hz_33 (by omega) hV_70)) (by omega) _ _ _ w (lv_sub hl [3, 4, 5, 6, 7, 1, 8, 0] rfl)
  exact L9 ((r3 - 0) + 1 : Int).toNat 0 0 0 sg ln r pl ov (by first | omega | rfl) (by first | omega | rfl) (by rw [show max f (min 0 e) = f by omega]; omega) (hV.to (by omega) (fun x _ hx => by unfold lfm; rw [if_pos hx])) (by omega) _ _ _ w (lv_sub hl [3, 4, 5, 6, 7, 2, 1, 0] rfl)
end
section
/-! the codes and the texts of a run -/
def bl (n : Int) : Int := if n ≤ 0 then 0 else (Nat.log2 n.toNat : Int) + 1
theorem bl_0 {n : Int} (h : n ≤ 0) : bl n = 0 := by unfold bl; rw [if_pos h]
theorem bl_step {n : Int} (h : 0 < n) : bl n = 1 + bl (n / 2) := by
  unfold bl
  rw [if_neg (by omega), Nat.log2_def]
  by_cases h2 : 2 ≤ n.toNat
  · rw [if_pos h2, if_neg (by omega), show (n / 2).toNat = n.toNat / 2 by omega]
    omega
  · rw [if_neg h2, if_pos (by omega)]
    rfl
theorem bl_rg {n : Int} (h : 1 ≤ n ∧ n < 2147483648) : 1 ≤ bl n ∧ bl n ≤ 31 := by
  unfold bl
  rw [if_neg (by omega)]
  have := (Nat.log2_lt (n := n.toNat) (k := 31) (by omega)).mpr (by omega)
  omega
theorem bl_le {n : Int} (h : 1 ≤ n ∧ n < 4096) : 1 ≤ bl n ∧ bl n ≤ 12 := by
  unfold bl
  rw [if_neg (by omega)]
  have := (Nat.log2_lt (n := n.toNat) (k := 12) (by omega)).mpr (by omega)
  omega
theorem shr_iI {n i : Int} (hn : 0 ≤ n ∧ n < 2147483648) (hi : 0 ≤ i ∧ i < 32) : iI n >>> (iI i &&& 31) = iI (n / 2 ^ i.toNat) := by
  have h : ∀ k : Nat, k < 32 → ((iI (k : Int) &&& 31).toBitVec.smod 32).toNat = k := by decide
  have e := pk_shr (iI n) (iI i &&& 31) i.toNat (by have := h i.toNat (by omega); rwa [Int.toNat_of_nonneg hi.1] at this)
  rw [iI_toInt (by omega), Int.shiftRight_eq_div_pow] at e
  apply Int32.toInt_inj.mp
  have h1 : 0 ≤ n / 2 ^ i.toNat := Int.ediv_nonneg hn.1 (Int.le_of_lt (Int.pow_pos (by omega)))
  have h2 : n / 2 ^ i.toNat ≤ n := Int.ediv_le_self _ hn.1
  have e' : ((2 ^ i.toNat : Nat) : Int) = (2 : Int) ^ i.toNat := by rw [Int.natCast_pow]; rfl
  rw [e'] at e
  rw [e, iI_toInt (by omega)]
theorem div_pow_succ {n : Int} {i : Int} (hi : 0 ≤ i) : n / 2 ^ (i + 1).toNat = n / 2 ^ i.toNat / 2 := by
  rw [toNat_succ hi, Int.pow_succ, Int.ediv_ediv_of_nonneg (Int.le_of_lt (Int.pow_pos (by omega)))]
/-- one bit of a number, as both sides reckon it -/
def bnr (n sh : Int) : Int := ((iI n >>> (iI sh &&& 31)) &&& iI 1).toInt
theorem bnr_i (n sh : Int) : (iI n >>> (iI sh &&& 31)) &&& iI 1 = iI (bnr n sh) := (iI_of _).symm
theorem bnr_01 {n sh : Int} (hn : 0 ≤ n ∧ n < 2147483648) (hs : 0 ≤ sh ∧ sh < 32) : bnr n sh = n / 2 ^ sh.toNat % 2 := by
  unfold bnr
  rw [shr_iI hn hs]
  have h1 : 0 ≤ n / 2 ^ sh.toNat := Int.ediv_nonneg hn.1 (Int.le_of_lt (Int.pow_pos (by omega)))
  have h2 : n / 2 ^ sh.toNat ≤ n := Int.ediv_le_self _ hn.1
  generalize n / 2 ^ sh.toNat = m at h1 h2 ⊢
  have h3 : (iI m).toBitVec.toNat = m.toNat := by
    show (BitVec.ofInt 32 m).toNat = _
    rw [BitVec.toNat_ofInt]
    omega
  have h4 : (iI m &&& iI 1).toBitVec.toNat = m.toNat % 2 := by
    rw [Int32.toBitVec_and, BitVec.toNat_and, h3]
    exact Nat.and_one_is_mod _
  have h5 : (iI m &&& iI 1).toInt = ((iI m &&& iI 1).toBitVec.toNat : Int) := by
    show (iI m &&& iI 1).toBitVec.toInt = _
    rw [BitVec.toInt_eq_toNat_of_lt (by rw [h4]; omega)]
  rw [h5, h4]
  omega
def lb (code n : Int) : Int := if code = 0 then 12 else if code = 1 then 2 * bl n - 1 else 2 * bl (bl n) - 1 + bl n - 1
def sb (s : Int) : Int := if s = 10 then 1 else 5
def rb (code s n : Int) : Int := sb s + lb code n
theorem sb_cases (s : Int) : (s = 10 ∧ sb s = 1) ∨ (s ≠ 10 ∧ sb s = 5) := by
  unfold sb
  by_cases h : s = 10 <;> simp [h]
theorem lb_cases (code n : Int) : (code = 0 ∧ lb code n = 12) ∨ (code = 1 ∧ lb code n = 2 * bl n - 1) ∨ (code ≠ 0 ∧ code ≠ 1 ∧ lb code n = 2 * bl (bl n) - 1 + bl n - 1) := by
  unfold lb
  by_cases h : code = 0
  · simp [h]
  · by_cases h1 : code = 1
    · simp [h1]
    · simp [h, h1]
theorem lb_rg {code n : Int} (h : 1 ≤ n ∧ n < 2147483648) : 1 ≤ lb code n ∧ lb code n ≤ 61 := by
  have h1 := bl_rg h
  have h2 := bl_le (n := bl n) (by omega)
  have h3 := lb_cases code n
  omega
theorem rb_rg {code s n : Int} (h : 1 ≤ n ∧ n < 2147483648) : 2 ≤ rb code s n ∧ rb code s n ≤ 66 := by
  have h1 := lb_rg (code := code) h
  have h2 := sb_cases s
  unfold rb
  omega
def lbit (code n at_ : Int) : Int := if code = 0 then bnr n (11 - at_) else if code = 1 then (if at_ < bl n - 1 then 0 else bnr n (2 * bl n - 2 - at_)) else if at_ < bl (bl n) - 1 then 0 else if at_ < 2 * bl (bl n) - 1 then bnr (bl n) (2 * bl (bl n) - 2 - at_) else bnr n (bl n + 2 * bl (bl n) - 3 - at_)
def brun (code s n at_ : Int) : Int := if sb s ≤ at_ then lbit code n (at_ - sb s) else if s = 10 then 1 else bnr s (4 - at_)
theorem bnr_top {s : Int} (h : 0 ≤ s ∧ s ≤ 9) : bnr s 4 = 0 := by
  rw [bnr_01 (by omega) (by omega)]
  show s / 16 % 2 = 0
  omega
/-- decimal digits -/
def dlN : Nat → Int → Int
  | 0, _ => 0
  | f + 1, n => if n ≤ 0 then 0 else 1 + dlN f (n / 10)
theorem dlN_stable : ∀ (f : Nat) (n : Int), n < 10 ^ f → dlN (f + 1) n = dlN f n := by
  intro f
  induction f with
  | zero =>
    intro n h
    show (if n ≤ 0 then 0 else 1 + 0) = (0 : Int)
    rw [if_pos (by omega)]
  | succ f ih =>
    intro n h
    show (if n ≤ 0 then 0 else 1 + dlN (f + 1) (n / 10)) = (if n ≤ 0 then 0 else 1 + dlN f (n / 10))
    rw [ih (n / 10) (by rw [Int.pow_succ] at h; omega)]
def dl (n : Int) : Int := dlN 11 n
theorem dl_0 {n : Int} (h : n ≤ 0) : dl n = 0 := by
  show (if n ≤ 0 then 0 else 1 + dlN 10 (n / 10)) = (0 : Int)
  rw [if_pos h]
theorem dl_step {n : Int} (h : 0 < n ∧ n < 2147483648) : dl n = 1 + dl (n / 10) := by
  show (if n ≤ 0 then 0 else 1 + dlN 10 (n / 10)) = 1 + dlN 11 (n / 10)
  rw [if_neg (by omega), dlN_stable 10 (n / 10) (by omega)]
theorem dl_rgN : ∀ (f : Nat) (n : Int), 0 ≤ dlN f n ∧ dlN f n ≤ f := by
  intro f
  induction f with
  | zero => intro n; exact ⟨Int.le_refl _, Int.le_refl _⟩
  | succ f ih =>
    intro n
    show 0 ≤ (if n ≤ 0 then 0 else 1 + dlN f (n / 10)) ∧ (if n ≤ 0 then 0 else 1 + dlN f (n / 10)) ≤ ((f + 1 : Nat) : Int)
    have := ih (n / 10)
    split <;> omega
theorem dl_rg (n : Int) : 0 ≤ dl n ∧ dl n ≤ 11 := dl_rgN 11 n
theorem dl_pos {n : Int} (h : 0 < n ∧ n < 2147483648) : 1 ≤ dl n := by
  rw [dl_step h]
  have := dl_rg (n / 10)
  omega
theorem dl_cases {n : Int} (h : 1 ≤ n ∧ n ≤ 9999) : (n < 10 ∧ dl n = 1) ∨ (10 ≤ n ∧ n < 100 ∧ dl n = 2) ∨ (100 ≤ n ∧ n < 1000 ∧ dl n = 3) ∨ (1000 ≤ n ∧ dl n = 4) := by
  have e1 := dl_step (n := n) (by omega)
  by_cases h1 : n < 10
  · rw [dl_0 (n := n / 10) (by omega)] at e1; omega
  · have e2 := dl_step (n := n / 10) (by omega)
    by_cases h2 : n < 100
    · rw [dl_0 (n := n / 10 / 10) (by omega)] at e2; omega
    · have e3 := dl_step (n := n / 10 / 10) (by omega)
      by_cases h3 : n < 1000
      · rw [dl_0 (n := n / 10 / 10 / 10) (by omega)] at e3; omega
      · have e4 := dl_step (n := n / 10 / 10 / 10) (by omega)
        rw [dl_0 (n := n / 10 / 10 / 10 / 10) (by omega)] at e4; omega
def crl (n : Int) : Int := if n = 1 then 1 else 2 + dl n
def chr_ (s n at_ : Int) : Int := if at_ = 0 then (if s = 10 then 120 else 48 + s) else if at_ = 1 then 42 else 48 + n / 10 ^ (dl n + 1 - at_).toNat % 10
theorem crl_cases (n : Int) : (n = 1 ∧ crl n = 1) ∨ (n ≠ 1 ∧ crl n = 2 + dl n) := by
  unfold crl
  by_cases h : n = 1 <;> simp [h]
theorem div_pow10 {n i : Int} (hi : 0 ≤ i) : n / 10 ^ (i + 1).toNat = n / 10 ^ i.toNat / 10 := by
  rw [toNat_succ hi, Int.pow_succ, Int.ediv_ediv_of_nonneg (Int.le_of_lt (Int.pow_pos (by omega)))]
theorem pow10_rg {n i : Int} (hn : 0 ≤ n ∧ n < 2147483648) : 0 ≤ n / 10 ^ i.toNat ∧ n / 10 ^ i.toNat < 2147483648 := by
  have h1 : 0 ≤ n / 10 ^ i.toNat := Int.ediv_nonneg hn.1 (Int.le_of_lt (Int.pow_pos (by omega)))
  have h2 : n / 10 ^ i.toNat ≤ n := Int.ediv_le_self _ hn.1
  omega

theorem d_C_widthOf_0 : decode b_C_widthOf 0 = .ok (.iconst 1, 1) := by decide +kernel
theorem d_C_widthOf_1 : decode b_C_widthOf 1 = .ok (.istore_n 1, 1) := by decide +kernel
theorem d_C_widthOf_2 : decode b_C_widthOf 2 = .ok (.iconst 1, 1) := by decide +kernel
theorem d_C_widthOf_3 : decode b_C_widthOf 3 = .ok (.istore_n 2, 1) := by decide +kernel
theorem d_C_widthOf_4 : decode b_C_widthOf 4 = .ok (.iload_n 2, 1) := by decide +kernel
theorem d_C_widthOf_5 : decode b_C_widthOf 5 = .ok (.bipush 31, 2) := by decide +kernel
theorem d_C_widthOf_7 : decode b_C_widthOf 7 = .ok (.if_icmp .ge 18, 3) := by decide +kernel
theorem d_C_widthOf_10 : decode b_C_widthOf 10 = .ok (.iload_n 0, 1) := by decide +kernel
theorem d_C_widthOf_11 : decode b_C_widthOf 11 = .ok (.iload_n 2, 1) := by decide +kernel
theorem d_C_widthOf_12 : decode b_C_widthOf 12 = .ok (.ishr, 1) := by decide +kernel
theorem d_C_widthOf_13 : decode b_C_widthOf 13 = .ok (.ifCond .le 12, 3) := by decide +kernel
theorem d_C_widthOf_16 : decode b_C_widthOf 16 = .ok (.iinc 1 1, 3) := by decide +kernel
theorem d_C_widthOf_19 : decode b_C_widthOf 19 = .ok (.iinc 2 1, 3) := by decide +kernel
theorem d_C_widthOf_22 : decode b_C_widthOf 22 = .ok (.goto (-18), 3) := by decide +kernel
theorem d_C_widthOf_25 : decode b_C_widthOf 25 = .ok (.iload_n 1, 1) := by decide +kernel
theorem d_C_widthOf_26 : decode b_C_widthOf 26 = .ok (.ireturn, 1) := by decide +kernel
set_option maxHeartbeats 4000000 in
set_option maxRecDepth 20000 in
theorem c_C_widthOf {l : Launch} {G : va_G} {tys : List (ClassId × FieldType)} (n : Int) (h : 1 ≤ n ∧ n < 2147483648) : CTP l G tys y_C_widthOf b_C_widthOf 3 .int 0 0 [.int (iI n)] (fun z => z = bl n) := by
  unfold CTP
  refine mkI (by decide) (Nat.le_of_ble_eq_true rfl) ?_
  rintro X rfl rfl rfl hRm C kret H ls w hl
  have hl : lv_has ls 3 [(0, .int (iI n))] := hl
  have w : Wd X ([]) H [] := w
  generalize ([] : List Loc) = locs at w ⊢
  have hb := bl_rg h
  refine r_iconst (pc := 0) C d_C_widthOf_0 ?_
  refine r_istore_n (pc := 1) (lv' := [(1, .int (iI 1)), (0, .int (iI n))]) C d_C_widthOf_1 rfl hl (by decide) rfl (fun ls hl => ?_)
  refine r_iconst (pc := 2) C d_C_widthOf_2 ?_
  refine r_istore_n (pc := 3) (lv' := [(2, .int (iI 1)), (1, .int (iI 1)), (0, .int (iI n))]) C d_C_widthOf_3 rfl hl (by decide) rfl (fun ls hl => ?_)
  have L4 : ∀ (fuel : Nat), ∀ (i : Int) (wd : Int), 1 ≤ i ∧ i ≤ 31 ∧ wd = i → wd + bl (n / 2 ^ i.toNat) = bl n → (31 - i) < (fuel : Int) → ∀ (H : Heap) (locs : List Loc) (ls : Array Slot), Wd X ([]) H locs → lv_has ls 3 [(0, .int (iI n)), (1, .int (iI wd)), (2, .int (iI i))] → GG X 0 0 H locs 4 ls [] := by
    intro fuel
    induction fuel with
    | zero =>
      intro i wd h0 hb1 hfuel
      exact absurd hfuel (by omega)
    | succ fuel ih4 =>
      intro i wd h0 hb1 hfuel H locs ls w hl
      refine r_iload_n (pc := 4) C d_C_widthOf_4 rfl (lv_at hl 2 rfl) ?_
      refine r_bipush (pc := 5) C d_C_widthOf_5 (by decide) ?_
      refine r_icmp_ge (pc := 7) (tgt := 25) C (by omega) d_C_widthOf_7 (by decide) (fun c_7 => ?_) (fun c_7 => ?_)
      · skip
        have hz : n / 2 ^ i.toNat ≤ 0 := by { rw [show i = 31 by omega]; show n / 2147483648 ≤ 0; omega }
        rw [bl_0 hz] at hb1
        refine r_iload_n (pc := 25) C d_C_widthOf_25 rfl (lv_at hl 1 rfl) ?_
        exact kret _ _ _ _ wd _ d_C_widthOf_26 w (⟨rfl, by omega⟩)
      · skip
        have hrg : 0 ≤ n / 2 ^ i.toNat ∧ n / 2 ^ i.toNat ≤ n := ⟨Int.ediv_nonneg (by omega) (Int.le_of_lt (Int.pow_pos (by omega))), Int.ediv_le_self _ (by omega)⟩
        refine r_iload_n (pc := 10) C d_C_widthOf_10 rfl (lv_at hl 0 rfl) ?_
        refine r_iload_n (pc := 11) C d_C_widthOf_11 rfl (lv_at hl 2 rfl) ?_
        refine r_ishr (pc := 12) C d_C_widthOf_12 ?_
        refine r_top (y := iI (n / 2 ^ i.toNat)) (shr_iI (by omega) (by omega)) ?_
        refine r_if_le (pc := 13) (tgt := 25) C (by omega) d_C_widthOf_13 (by decide) (fun c_13 => ?_) (fun c_13 => ?_)
        · skip
          rw [bl_0 (by omega)] at hb1
          refine r_iload_n (pc := 25) C d_C_widthOf_25 rfl (lv_at hl 1 rfl) ?_
          exact kret _ _ _ _ wd _ d_C_widthOf_26 w (⟨rfl, by omega⟩)
        · skip
          have hst := bl_step (n := n / 2 ^ i.toNat) (by omega)
          refine r_iinc (pc := 16) (j := 1) (lv' := [(1, .int (iI (wd + 1))), (0, .int (iI n)), (2, .int (iI i))]) C d_C_widthOf_16 hl rfl (by decide) rfl (fun ls hl => ?_)
          refine r_iinc (pc := 19) (j := 2) (lv' := [(2, .int (iI (i + 1))), (1, .int (iI (wd + 1))), (0, .int (iI n))]) C d_C_widthOf_19 hl rfl (by decide) rfl (fun ls hl => ?_)
          refine r_goto (pc := 22) (tgt := 4) C d_C_widthOf_22 (by decide) ?_
          exact ih4 (i + 1) (wd + 1) (by omega) ((by rw [div_pow_succ (by omega)]; omega)) (by omega) _ _ _ w (lv_sub hl [2, 1, 0] rfl)
  exact L4 ((31 - 1) + 1 : Int).toNat 1 1 (by first | omega | rfl) ((by have := bl_step (n := n) (by omega); show 1 + bl (n / 2) = bl n; omega)) (by omega) _ _ _ w (lv_sub hl [2, 1, 0] rfl)
theorem d_M_bitsOf_0 : decode b_M_bitsOf 0 = .ok (.iconst 0, 1) := by decide +kernel
theorem d_M_bitsOf_1 : decode b_M_bitsOf 1 = .ok (.istore_n 1, 1) := by decide +kernel
theorem d_M_bitsOf_2 : decode b_M_bitsOf 2 = .ok (.iload_n 0, 1) := by decide +kernel
theorem d_M_bitsOf_3 : decode b_M_bitsOf 3 = .ok (.istore_n 2, 1) := by decide +kernel
theorem d_M_bitsOf_4 : decode b_M_bitsOf 4 = .ok (.iload_n 2, 1) := by decide +kernel
theorem d_M_bitsOf_5 : decode b_M_bitsOf 5 = .ok (.ifCond .le 13, 3) := by decide +kernel
theorem d_M_bitsOf_8 : decode b_M_bitsOf 8 = .ok (.iinc 1 1, 3) := by decide +kernel
theorem d_M_bitsOf_11 : decode b_M_bitsOf 11 = .ok (.iload_n 2, 1) := by decide +kernel
theorem d_M_bitsOf_12 : decode b_M_bitsOf 12 = .ok (.iconst 2, 1) := by decide +kernel
theorem d_M_bitsOf_13 : decode b_M_bitsOf 13 = .ok (.idiv, 1) := by decide +kernel
theorem d_M_bitsOf_14 : decode b_M_bitsOf 14 = .ok (.istore_n 2, 1) := by decide +kernel
theorem d_M_bitsOf_15 : decode b_M_bitsOf 15 = .ok (.goto (-11), 3) := by decide +kernel
theorem d_M_bitsOf_18 : decode b_M_bitsOf 18 = .ok (.iload_n 1, 1) := by decide +kernel
theorem d_M_bitsOf_19 : decode b_M_bitsOf 19 = .ok (.ireturn, 1) := by decide +kernel
set_option maxHeartbeats 4000000 in
set_option maxRecDepth 20000 in
theorem c_M_bitsOf {l : Launch} {G : va_G} {tys : List (ClassId × FieldType)} (n : Int) (h : 0 ≤ n ∧ n < 2147483648) : CTP l G tys y_M_bitsOf b_M_bitsOf 3 .int 0 0 [.int (iI n)] (fun z => z = bl n) := by
  unfold CTP
  refine mkI (by decide) (Nat.le_of_ble_eq_true rfl) ?_
  rintro X rfl rfl rfl hRm C kret H ls w hl
  have hl : lv_has ls 3 [(0, .int (iI n))] := hl
  have w : Wd X ([]) H [] := w
  generalize ([] : List Loc) = locs at w ⊢
  refine r_iconst (pc := 0) C d_M_bitsOf_0 ?_
  refine r_istore_n (pc := 1) (lv' := [(1, .int (iI 0)), (0, .int (iI n))]) C d_M_bitsOf_1 rfl hl (by decide) rfl (fun ls hl => ?_)
  refine r_iload_n (pc := 2) C d_M_bitsOf_2 rfl (lv_at hl 1 rfl) ?_
  refine r_istore_n (pc := 3) (lv' := [(2, .int (iI n)), (1, .int (iI 0)), (0, .int (iI n))]) C d_M_bitsOf_3 rfl hl (by decide) rfl (fun ls hl => ?_)
  have L4 : ∀ (fuel : Nat), ∀ (k : Int) (left : Int), 0 ≤ left ∧ left < 2147483648 → k + bl left = bl n → left < (fuel : Int) → ∀ (H : Heap) (locs : List Loc) (ls : Array Slot), Wd X ([]) H locs → lv_has ls 3 [(0, .int (iI n)), (1, .int (iI k)), (2, .int (iI left))] → GG X 0 0 H locs 4 ls [] := by
    intro fuel
    induction fuel with
    | zero =>
      intro k left h0 hb1 hfuel
      exact absurd hfuel (by omega)
    | succ fuel ih4 =>
      intro k left h0 hb1 hfuel H locs ls w hl
      refine r_iload_n (pc := 4) C d_M_bitsOf_4 rfl (lv_at hl 2 rfl) ?_
      refine r_if_le (pc := 5) (tgt := 18) C (by omega) d_M_bitsOf_5 (by decide) (fun c_5 => ?_) (fun c_5 => ?_)
      · skip
        rw [bl_0 (by omega)] at hb1
        refine r_iload_n (pc := 18) C d_M_bitsOf_18 rfl (lv_at hl 1 rfl) ?_
        exact kret _ _ _ _ k _ d_M_bitsOf_19 w (⟨rfl, by omega⟩)
      · skip
        have hst := bl_step (n := left) (by omega)
        refine r_iinc (pc := 8) (j := 1) (lv' := [(1, .int (iI (k + 1))), (0, .int (iI n)), (2, .int (iI left))]) C d_M_bitsOf_8 hl rfl (by decide) rfl (fun ls hl => ?_)
        refine r_iload_n (pc := 11) C d_M_bitsOf_11 rfl (lv_at hl 2 rfl) ?_
        refine r_iconst (pc := 12) C d_M_bitsOf_12 ?_
        refine r_idiv (pc := 13) C d_M_bitsOf_13 (by omega) ?_
        refine r_istore_n (pc := 14) (lv' := [(2, .int (iI (left / 2))), (1, .int (iI (k + 1))), (0, .int (iI n))]) C d_M_bitsOf_14 rfl hl (by decide) rfl (fun ls hl => ?_)
        refine r_goto (pc := 15) (tgt := 4) C d_M_bitsOf_15 (by decide) ?_
        exact ih4 (k + 1) (left / 2) (by omega) (by omega) (by omega) _ _ _ w (lv_sub hl [2, 1, 0] rfl)
  exact L4 (n + 1 : Int).toNat 0 n (by first | omega | rfl) (by first | omega | rfl) (by omega) _ _ _ w (lv_sub hl [2, 1, 0] rfl)
theorem d_C_bitOfNumber_0 : decode b_C_bitOfNumber 0 = .ok (.iload_n 0, 1) := by decide +kernel
theorem d_C_bitOfNumber_1 : decode b_C_bitOfNumber 1 = .ok (.iload_n 1, 1) := by decide +kernel
theorem d_C_bitOfNumber_2 : decode b_C_bitOfNumber 2 = .ok (.iconst 1, 1) := by decide +kernel
theorem d_C_bitOfNumber_3 : decode b_C_bitOfNumber 3 = .ok (.isub, 1) := by decide +kernel
theorem d_C_bitOfNumber_4 : decode b_C_bitOfNumber 4 = .ok (.iload_n 2, 1) := by decide +kernel
theorem d_C_bitOfNumber_5 : decode b_C_bitOfNumber 5 = .ok (.isub, 1) := by decide +kernel
theorem d_C_bitOfNumber_6 : decode b_C_bitOfNumber 6 = .ok (.ishr, 1) := by decide +kernel
theorem d_C_bitOfNumber_7 : decode b_C_bitOfNumber 7 = .ok (.iconst 1, 1) := by decide +kernel
theorem d_C_bitOfNumber_8 : decode b_C_bitOfNumber 8 = .ok (.iand, 1) := by decide +kernel
theorem d_C_bitOfNumber_9 : decode b_C_bitOfNumber 9 = .ok (.ireturn, 1) := by decide +kernel
set_option maxHeartbeats 4000000 in
set_option maxRecDepth 20000 in
theorem c_C_bitOfNumber {l : Launch} {G : va_G} {tys : List (ClassId × FieldType)} (n m a : Int)  : CTP l G tys y_C_bitOfNumber b_C_bitOfNumber 3 .int 0 0 [.int (iI n), .int (iI m), .int (iI a)] (fun z => z = bnr n (m - 1 - a)) := by
  unfold CTP
  refine mkI (by decide) (Nat.le_of_ble_eq_true rfl) ?_
  rintro X rfl rfl rfl hRm C kret H ls w hl
  have hl : lv_has ls 3 [(0, .int (iI n)), (1, .int (iI m)), (2, .int (iI a))] := hl
  have w : Wd X ([]) H [] := w
  generalize ([] : List Loc) = locs at w ⊢
  refine r_iload_n (pc := 0) C d_C_bitOfNumber_0 rfl (lv_at hl 0 rfl) ?_
  refine r_iload_n (pc := 1) C d_C_bitOfNumber_1 rfl (lv_at hl 1 rfl) ?_
  refine r_iconst (pc := 2) C d_C_bitOfNumber_2 ?_
  refine r_isub (pc := 3) C d_C_bitOfNumber_3 ?_
  refine r_iload_n (pc := 4) C d_C_bitOfNumber_4 rfl (lv_at hl 2 rfl) ?_
  refine r_isub (pc := 5) C d_C_bitOfNumber_5 ?_
  refine r_ishr (pc := 6) C d_C_bitOfNumber_6 ?_
  refine r_iconst (pc := 7) C d_C_bitOfNumber_7 ?_
  refine r_iand (pc := 8) C d_C_bitOfNumber_8 ?_
  refine r_top (y := iI (bnr n (m - 1 - a))) (bnr_i n (m - 1 - a)) ?_
  exact kret _ _ _ _ (bnr n (m - 1 - a)) _ d_C_bitOfNumber_9 w (⟨rfl, rfl⟩)
theorem d_M_bitAt_0 : decode b_M_bitAt 0 = .ok (.iload_n 0, 1) := by decide +kernel
theorem d_M_bitAt_1 : decode b_M_bitAt 1 = .ok (.iload_n 1, 1) := by decide +kernel
theorem d_M_bitAt_2 : decode b_M_bitAt 2 = .ok (.iconst 1, 1) := by decide +kernel
theorem d_M_bitAt_3 : decode b_M_bitAt 3 = .ok (.isub, 1) := by decide +kernel
theorem d_M_bitAt_4 : decode b_M_bitAt 4 = .ok (.iload_n 2, 1) := by decide +kernel
theorem d_M_bitAt_5 : decode b_M_bitAt 5 = .ok (.isub, 1) := by decide +kernel
theorem d_M_bitAt_6 : decode b_M_bitAt 6 = .ok (.ishr, 1) := by decide +kernel
theorem d_M_bitAt_7 : decode b_M_bitAt 7 = .ok (.iconst 1, 1) := by decide +kernel
theorem d_M_bitAt_8 : decode b_M_bitAt 8 = .ok (.iand, 1) := by decide +kernel
theorem d_M_bitAt_9 : decode b_M_bitAt 9 = .ok (.ireturn, 1) := by decide +kernel
set_option maxHeartbeats 4000000 in
set_option maxRecDepth 20000 in
theorem c_M_bitAt {l : Launch} {G : va_G} {tys : List (ClassId × FieldType)} (n m a : Int)  : CTP l G tys y_M_bitAt b_M_bitAt 3 .int 0 0 [.int (iI n), .int (iI m), .int (iI a)] (fun z => z = bnr n (m - 1 - a)) := by
  unfold CTP
  refine mkI (by decide) (Nat.le_of_ble_eq_true rfl) ?_
  rintro X rfl rfl rfl hRm C kret H ls w hl
  have hl : lv_has ls 3 [(0, .int (iI n)), (1, .int (iI m)), (2, .int (iI a))] := hl
  have w : Wd X ([]) H [] := w
  generalize ([] : List Loc) = locs at w ⊢
  refine r_iload_n (pc := 0) C d_M_bitAt_0 rfl (lv_at hl 0 rfl) ?_
  refine r_iload_n (pc := 1) C d_M_bitAt_1 rfl (lv_at hl 1 rfl) ?_
  refine r_iconst (pc := 2) C d_M_bitAt_2 ?_
  refine r_isub (pc := 3) C d_M_bitAt_3 ?_
  refine r_iload_n (pc := 4) C d_M_bitAt_4 rfl (lv_at hl 2 rfl) ?_
  refine r_isub (pc := 5) C d_M_bitAt_5 ?_
  refine r_ishr (pc := 6) C d_M_bitAt_6 ?_
  refine r_iconst (pc := 7) C d_M_bitAt_7 ?_
  refine r_iand (pc := 8) C d_M_bitAt_8 ?_
  refine r_top (y := iI (bnr n (m - 1 - a))) (bnr_i n (m - 1 - a)) ?_
  exact kret _ _ _ _ (bnr n (m - 1 - a)) _ d_M_bitAt_9 w (⟨rfl, rfl⟩)
theorem d_C_bitsOfSign_0 : decode b_C_bitsOfSign 0 = .ok (.iload_n 0, 1) := by decide +kernel
theorem d_C_bitsOfSign_1 : decode b_C_bitsOfSign 1 = .ok (.bipush 10, 2) := by decide +kernel
theorem d_C_bitsOfSign_3 : decode b_C_bitsOfSign 3 = .ok (.if_icmp .ne 7, 3) := by decide +kernel
theorem d_C_bitsOfSign_6 : decode b_C_bitsOfSign 6 = .ok (.iconst 1, 1) := by decide +kernel
theorem d_C_bitsOfSign_7 : decode b_C_bitsOfSign 7 = .ok (.goto 4, 3) := by decide +kernel
theorem d_C_bitsOfSign_10 : decode b_C_bitsOfSign 10 = .ok (.iconst 5, 1) := by decide +kernel
theorem d_C_bitsOfSign_11 : decode b_C_bitsOfSign 11 = .ok (.ireturn, 1) := by decide +kernel
set_option maxHeartbeats 4000000 in
set_option maxRecDepth 20000 in
theorem c_C_bitsOfSign {l : Launch} {G : va_G} {tys : List (ClassId × FieldType)} (s : Int) (h : 0 ≤ s ∧ s ≤ 10) : CTP l G tys y_C_bitsOfSign b_C_bitsOfSign 1 .int 0 0 [.int (iI s)] (fun z => z = sb s) := by
  unfold CTP
  refine mkI (by decide) (Nat.le_of_ble_eq_true rfl) ?_
  rintro X rfl rfl rfl hRm C kret H ls w hl
  have hl : lv_has ls 1 [(0, .int (iI s))] := hl
  have w : Wd X ([]) H [] := w
  generalize ([] : List Loc) = locs at w ⊢
  have hs := sb_cases s
  refine r_iload_n (pc := 0) C d_C_bitsOfSign_0 rfl (lv_at hl 0 rfl) ?_
  refine r_bipush (pc := 1) C d_C_bitsOfSign_1 (by decide) ?_
  refine r_icmp_ne (pc := 3) (tgt := 10) C (by omega) d_C_bitsOfSign_3 (by decide) (fun c_3 => ?_) (fun c_3 => ?_)
  · skip
    refine r_iconst (pc := 10) C d_C_bitsOfSign_10 ?_
    exact kret _ _ _ _ 5 _ d_C_bitsOfSign_11 w (⟨rfl, by omega⟩)
  · skip
    refine r_iconst (pc := 6) C d_C_bitsOfSign_6 ?_
    refine r_goto (pc := 7) (tgt := 11) C d_C_bitsOfSign_7 (by decide) ?_
    exact kret _ _ _ _ 1 _ d_C_bitsOfSign_11 w (⟨rfl, by omega⟩)
theorem d_C_bitsOfLength_0 : decode b_C_bitsOfLength 0 = .ok (.iload_n 0, 1) := by decide +kernel
theorem d_C_bitsOfLength_1 : decode b_C_bitsOfLength 1 = .ok (.ifCond .ne 6, 3) := by decide +kernel
theorem d_C_bitsOfLength_4 : decode b_C_bitsOfLength 4 = .ok (.bipush 12, 2) := by decide +kernel
theorem d_C_bitsOfLength_6 : decode b_C_bitsOfLength 6 = .ok (.ireturn, 1) := by decide +kernel
theorem d_C_bitsOfLength_7 : decode b_C_bitsOfLength 7 = .ok (.iload_n 1, 1) := by decide +kernel
theorem d_C_bitsOfLength_8 : decode b_C_bitsOfLength 8 = .ok (.invokestatic 26, 3) := by decide +kernel
theorem d_C_bitsOfLength_11 : decode b_C_bitsOfLength 11 = .ok (.istore_n 2, 1) := by decide +kernel
theorem d_C_bitsOfLength_12 : decode b_C_bitsOfLength 12 = .ok (.iload_n 0, 1) := by decide +kernel
theorem d_C_bitsOfLength_13 : decode b_C_bitsOfLength 13 = .ok (.iconst 1, 1) := by decide +kernel
theorem d_C_bitsOfLength_14 : decode b_C_bitsOfLength 14 = .ok (.if_icmp .ne 9, 3) := by decide +kernel
theorem d_C_bitsOfLength_17 : decode b_C_bitsOfLength 17 = .ok (.iload_n 2, 1) := by decide +kernel
theorem d_C_bitsOfLength_18 : decode b_C_bitsOfLength 18 = .ok (.iconst 1, 1) := by decide +kernel
theorem d_C_bitsOfLength_19 : decode b_C_bitsOfLength 19 = .ok (.isub, 1) := by decide +kernel
theorem d_C_bitsOfLength_20 : decode b_C_bitsOfLength 20 = .ok (.iload_n 2, 1) := by decide +kernel
theorem d_C_bitsOfLength_21 : decode b_C_bitsOfLength 21 = .ok (.iadd, 1) := by decide +kernel
theorem d_C_bitsOfLength_22 : decode b_C_bitsOfLength 22 = .ok (.ireturn, 1) := by decide +kernel
theorem d_C_bitsOfLength_23 : decode b_C_bitsOfLength 23 = .ok (.iload_n 2, 1) := by decide +kernel
theorem d_C_bitsOfLength_24 : decode b_C_bitsOfLength 24 = .ok (.invokestatic 26, 3) := by decide +kernel
theorem d_C_bitsOfLength_27 : decode b_C_bitsOfLength 27 = .ok (.istore_n 3, 1) := by decide +kernel
theorem d_C_bitsOfLength_28 : decode b_C_bitsOfLength 28 = .ok (.iload_n 3, 1) := by decide +kernel
theorem d_C_bitsOfLength_29 : decode b_C_bitsOfLength 29 = .ok (.iconst 1, 1) := by decide +kernel
theorem d_C_bitsOfLength_30 : decode b_C_bitsOfLength 30 = .ok (.isub, 1) := by decide +kernel
theorem d_C_bitsOfLength_31 : decode b_C_bitsOfLength 31 = .ok (.iload_n 3, 1) := by decide +kernel
theorem d_C_bitsOfLength_32 : decode b_C_bitsOfLength 32 = .ok (.iadd, 1) := by decide +kernel
theorem d_C_bitsOfLength_33 : decode b_C_bitsOfLength 33 = .ok (.iload_n 2, 1) := by decide +kernel
theorem d_C_bitsOfLength_34 : decode b_C_bitsOfLength 34 = .ok (.iadd, 1) := by decide +kernel
theorem d_C_bitsOfLength_35 : decode b_C_bitsOfLength 35 = .ok (.iconst 1, 1) := by decide +kernel
theorem d_C_bitsOfLength_36 : decode b_C_bitsOfLength 36 = .ok (.isub, 1) := by decide +kernel
theorem d_C_bitsOfLength_37 : decode b_C_bitsOfLength 37 = .ok (.ireturn, 1) := by decide +kernel
set_option maxHeartbeats 4000000 in
set_option maxRecDepth 20000 in
theorem c_C_bitsOfLength {l : Launch} {G : va_G} {tys : List (ClassId × FieldType)} (code n : Int) (h : 1 ≤ n ∧ n < 2147483648) (hc : 0 ≤ code ∧ code ≤ 2) : CTP l G tys y_C_bitsOfLength b_C_bitsOfLength 4 .int 1 22 [.int (iI code), .int (iI n)] (fun z => z = lb code n) := by
  unfold CTP
  refine mkI (by decide) (Nat.le_of_ble_eq_true rfl) ?_
  rintro X rfl rfl rfl hRm C kret H ls w hl
  have hl : lv_has ls 4 [(0, .int (iI code)), (1, .int (iI n))] := hl
  have w : Wd X ([]) H [] := w
  generalize ([] : List Loc) = locs at w ⊢
  have hs := lb_cases code n
  refine r_iload_n (pc := 0) C d_C_bitsOfLength_0 rfl (lv_at hl 0 rfl) ?_
  refine r_if_ne (pc := 1) (tgt := 7) C (by omega) d_C_bitsOfLength_1 (by decide) (fun c_1 => ?_) (fun c_1 => ?_)
  · skip
    refine r_iload_n (pc := 7) C d_C_bitsOfLength_7 rfl (lv_at hl 1 rfl) ?_
    refine r_callP (pc := 8) (As := [.int (iI n)]) (rest := []) C w (c_C_widthOf n (by omega)) ml_C_26 st_C_widthOf ini_C cd_C_widthOf hd_C_widthOf rfl (by rw [hRm]; exact ⟨⟨Nat.le_of_ble_eq_true rfl, Nat.le_of_ble_eq_true rfl⟩, Nat.le_of_ble_eq_true rfl, Nat.le_of_ble_eq_true rfl⟩) hl.1 rfl (Nat.le_of_ble_eq_true rfl) d_C_bitsOfLength_8 (fun z_8 H locs hz_8 w => ?_)
    subst hz_8
    have hbl := bl_rg (n := n) (by omega)
    refine r_istore_n (pc := 11) (lv' := [(2, .int (iI (bl n))), (0, .int (iI code)), (1, .int (iI n))]) C d_C_bitsOfLength_11 rfl hl (by decide) rfl (fun ls hl => ?_)
    refine r_iload_n (pc := 12) C d_C_bitsOfLength_12 rfl (lv_at hl 1 rfl) ?_
    refine r_iconst (pc := 13) C d_C_bitsOfLength_13 ?_
    refine r_icmp_ne (pc := 14) (tgt := 23) C (by omega) d_C_bitsOfLength_14 (by decide) (fun c_14 => ?_) (fun c_14 => ?_)
    · skip
      refine r_iload_n (pc := 23) C d_C_bitsOfLength_23 rfl (lv_at hl 0 rfl) ?_
      refine r_callP (pc := 24) (As := [.int (iI (bl n))]) (rest := []) C w (c_C_widthOf (bl n) (by omega)) ml_C_26 st_C_widthOf ini_C cd_C_widthOf hd_C_widthOf rfl (by rw [hRm]; exact ⟨⟨Nat.le_of_ble_eq_true rfl, Nat.le_of_ble_eq_true rfl⟩, Nat.le_of_ble_eq_true rfl, Nat.le_of_ble_eq_true rfl⟩) hl.1 rfl (Nat.le_of_ble_eq_true rfl) d_C_bitsOfLength_24 (fun z_24 H locs hz_24 w => ?_)
      subst hz_24
      have hbl := bl_rg (n := (bl n)) (by omega)
      refine r_istore_n (pc := 27) (lv' := [(3, .int (iI (bl (bl n)))), (2, .int (iI (bl n))), (0, .int (iI code)), (1, .int (iI n))]) C d_C_bitsOfLength_27 rfl hl (by decide) rfl (fun ls hl => ?_)
      refine r_iload_n (pc := 28) C d_C_bitsOfLength_28 rfl (lv_at hl 0 rfl) ?_
      refine r_iconst (pc := 29) C d_C_bitsOfLength_29 ?_
      refine r_isub (pc := 30) C d_C_bitsOfLength_30 ?_
      refine r_iload_n (pc := 31) C d_C_bitsOfLength_31 rfl (lv_at hl 0 rfl) ?_
      refine r_iadd (pc := 32) C d_C_bitsOfLength_32 ?_
      refine r_iload_n (pc := 33) C d_C_bitsOfLength_33 rfl (lv_at hl 1 rfl) ?_
      refine r_iadd (pc := 34) C d_C_bitsOfLength_34 ?_
      refine r_iconst (pc := 35) C d_C_bitsOfLength_35 ?_
      refine r_isub (pc := 36) C d_C_bitsOfLength_36 ?_
      exact kret _ _ _ _ (((((bl (bl n)) - 1) + (bl (bl n))) + (bl n)) - 1) _ d_C_bitsOfLength_37 w (⟨rfl, by omega⟩)
    · skip
      refine r_iload_n (pc := 17) C d_C_bitsOfLength_17 rfl (lv_at hl 0 rfl) ?_
      refine r_iconst (pc := 18) C d_C_bitsOfLength_18 ?_
      refine r_isub (pc := 19) C d_C_bitsOfLength_19 ?_
      refine r_iload_n (pc := 20) C d_C_bitsOfLength_20 rfl (lv_at hl 0 rfl) ?_
      refine r_iadd (pc := 21) C d_C_bitsOfLength_21 ?_
      exact kret _ _ _ _ (((bl n) - 1) + (bl n)) _ d_C_bitsOfLength_22 w (⟨rfl, by omega⟩)
  · skip
    refine r_bipush (pc := 4) C d_C_bitsOfLength_4 (by decide) ?_
    exact kret _ _ _ _ 12 _ d_C_bitsOfLength_6 w (⟨rfl, by omega⟩)
theorem d_C_bitsOfRun_0 : decode b_C_bitsOfRun 0 = .ok (.iload_n 1, 1) := by decide +kernel
theorem d_C_bitsOfRun_1 : decode b_C_bitsOfRun 1 = .ok (.invokestatic 9, 3) := by decide +kernel
theorem d_C_bitsOfRun_4 : decode b_C_bitsOfRun 4 = .ok (.iload_n 0, 1) := by decide +kernel
theorem d_C_bitsOfRun_5 : decode b_C_bitsOfRun 5 = .ok (.iload_n 2, 1) := by decide +kernel
theorem d_C_bitsOfRun_6 : decode b_C_bitsOfRun 6 = .ok (.invokestatic 15, 3) := by decide +kernel
theorem d_C_bitsOfRun_9 : decode b_C_bitsOfRun 9 = .ok (.iadd, 1) := by decide +kernel
theorem d_C_bitsOfRun_10 : decode b_C_bitsOfRun 10 = .ok (.ireturn, 1) := by decide +kernel
set_option maxHeartbeats 4000000 in
set_option maxRecDepth 20000 in
theorem c_C_bitsOfRun {l : Launch} {G : va_G} {tys : List (ClassId × FieldType)} (code s n : Int) (h : 1 ≤ n ∧ n < 2147483648) (hc : 0 ≤ code ∧ code ≤ 2) (hs : 0 ≤ s ∧ s ≤ 10) : CTP l G tys y_C_bitsOfRun b_C_bitsOfRun 3 .int 2 45 [.int (iI code), .int (iI s), .int (iI n)] (fun z => z = rb code s n) := by
  unfold CTP
  refine mkI (by decide) (Nat.le_of_ble_eq_true rfl) ?_
  rintro X rfl rfl rfl hRm C kret H ls w hl
  have hl : lv_has ls 3 [(0, .int (iI code)), (1, .int (iI s)), (2, .int (iI n))] := hl
  have w : Wd X ([]) H [] := w
  generalize ([] : List Loc) = locs at w ⊢
  refine r_iload_n (pc := 0) C d_C_bitsOfRun_0 rfl (lv_at hl 1 rfl) ?_
  refine r_callP (pc := 1) (As := [.int (iI s)]) (rest := []) C w (c_C_bitsOfSign s (by omega)) ml_C_9 st_C_bitsOfSign ini_C cd_C_bitsOfSign hd_C_bitsOfSign rfl (by rw [hRm]; exact ⟨⟨Nat.le_of_ble_eq_true rfl, Nat.le_of_ble_eq_true rfl⟩, Nat.le_of_ble_eq_true rfl, Nat.le_of_ble_eq_true rfl⟩) hl.1 rfl (Nat.le_of_ble_eq_true rfl) d_C_bitsOfRun_1 (fun z_1 H locs hz_1 w => ?_)
  subst hz_1
  have hsb := sb_cases s
  refine r_iload_n (pc := 4) C d_C_bitsOfRun_4 rfl (lv_at hl 0 rfl) ?_
  refine r_iload_n (pc := 5) C d_C_bitsOfRun_5 rfl (lv_at hl 2 rfl) ?_
  refine r_callP (pc := 6) (As := [.int (iI code), .int (iI n)]) (rest := [.int (iI (sb s))]) C w (c_C_bitsOfLength code n (by omega) (by omega)) ml_C_15 st_C_bitsOfLength ini_C cd_C_bitsOfLength hd_C_bitsOfLength rfl (by rw [hRm]; exact ⟨⟨Nat.le_of_ble_eq_true rfl, Nat.le_of_ble_eq_true rfl⟩, Nat.le_of_ble_eq_true rfl, Nat.le_of_ble_eq_true rfl⟩) hl.1 rfl (Nat.le_of_ble_eq_true rfl) d_C_bitsOfRun_6 (fun z_6 H locs hz_6 w => ?_)
  subst hz_6
  have hlb := lb_rg (code := code) (n := n) (by omega)
  refine r_iadd (pc := 9) C d_C_bitsOfRun_9 ?_
  exact kret _ _ _ _ ((sb s) + (lb code n)) _ d_C_bitsOfRun_10 w (⟨rfl, rfl⟩)
theorem d_M_lengthBits_0 : decode b_M_lengthBits 0 = .ok (.iload_n 0, 1) := by decide +kernel
theorem d_M_lengthBits_1 : decode b_M_lengthBits 1 = .ok (.invokestatic 90, 3) := by decide +kernel
theorem d_M_lengthBits_4 : decode b_M_lengthBits 4 = .ok (.istore_n 2, 1) := by decide +kernel
theorem d_M_lengthBits_5 : decode b_M_lengthBits 5 = .ok (.iload_n 1, 1) := by decide +kernel
theorem d_M_lengthBits_6 : decode b_M_lengthBits 6 = .ok (.ifCond .ne 8, 3) := by decide +kernel
theorem d_M_lengthBits_9 : decode b_M_lengthBits 9 = .ok (.bipush 12, 2) := by decide +kernel
theorem d_M_lengthBits_11 : decode b_M_lengthBits 11 = .ok (.goto 28, 3) := by decide +kernel
theorem d_M_lengthBits_14 : decode b_M_lengthBits 14 = .ok (.iload_n 1, 1) := by decide +kernel
theorem d_M_lengthBits_15 : decode b_M_lengthBits 15 = .ok (.iconst 1, 1) := by decide +kernel
theorem d_M_lengthBits_16 : decode b_M_lengthBits 16 = .ok (.if_icmp .ne 11, 3) := by decide +kernel
theorem d_M_lengthBits_19 : decode b_M_lengthBits 19 = .ok (.iconst 2, 1) := by decide +kernel
theorem d_M_lengthBits_20 : decode b_M_lengthBits 20 = .ok (.iload_n 2, 1) := by decide +kernel
theorem d_M_lengthBits_21 : decode b_M_lengthBits 21 = .ok (.imul, 1) := by decide +kernel
theorem d_M_lengthBits_22 : decode b_M_lengthBits 22 = .ok (.iconst 1, 1) := by decide +kernel
theorem d_M_lengthBits_23 : decode b_M_lengthBits 23 = .ok (.isub, 1) := by decide +kernel
theorem d_M_lengthBits_24 : decode b_M_lengthBits 24 = .ok (.goto 15, 3) := by decide +kernel
theorem d_M_lengthBits_27 : decode b_M_lengthBits 27 = .ok (.iconst 2, 1) := by decide +kernel
theorem d_M_lengthBits_28 : decode b_M_lengthBits 28 = .ok (.iload_n 2, 1) := by decide +kernel
theorem d_M_lengthBits_29 : decode b_M_lengthBits 29 = .ok (.invokestatic 90, 3) := by decide +kernel
theorem d_M_lengthBits_32 : decode b_M_lengthBits 32 = .ok (.imul, 1) := by decide +kernel
theorem d_M_lengthBits_33 : decode b_M_lengthBits 33 = .ok (.iconst 1, 1) := by decide +kernel
theorem d_M_lengthBits_34 : decode b_M_lengthBits 34 = .ok (.isub, 1) := by decide +kernel
theorem d_M_lengthBits_35 : decode b_M_lengthBits 35 = .ok (.iload_n 2, 1) := by decide +kernel
theorem d_M_lengthBits_36 : decode b_M_lengthBits 36 = .ok (.iadd, 1) := by decide +kernel
theorem d_M_lengthBits_37 : decode b_M_lengthBits 37 = .ok (.iconst 1, 1) := by decide +kernel
theorem d_M_lengthBits_38 : decode b_M_lengthBits 38 = .ok (.isub, 1) := by decide +kernel
theorem d_M_lengthBits_39 : decode b_M_lengthBits 39 = .ok (.ireturn, 1) := by decide +kernel
set_option maxHeartbeats 4000000 in
set_option maxRecDepth 20000 in
theorem c_M_lengthBits {l : Launch} {G : va_G} {tys : List (ClassId × FieldType)} (n code : Int) (h : 1 ≤ n ∧ n < 2147483648) (hc : 0 ≤ code ∧ code ≤ 2) : CTP l G tys y_M_lengthBits b_M_lengthBits 3 .int 1 22 [.int (iI n), .int (iI code)] (fun z => z = lb code n) := by
  unfold CTP
  refine mkI (by decide) (Nat.le_of_ble_eq_true rfl) ?_
  rintro X rfl rfl rfl hRm C kret H ls w hl
  have hl : lv_has ls 3 [(0, .int (iI n)), (1, .int (iI code))] := hl
  have w : Wd X ([]) H [] := w
  generalize ([] : List Loc) = locs at w ⊢
  have hs := lb_cases code n
  refine r_iload_n (pc := 0) C d_M_lengthBits_0 rfl (lv_at hl 0 rfl) ?_
  refine r_callP (pc := 1) (As := [.int (iI n)]) (rest := []) C w (c_M_bitsOf n (by omega)) ml_M_90 st_M_bitsOf ini_M cd_M_bitsOf hd_M_bitsOf rfl (by rw [hRm]; exact ⟨⟨Nat.le_of_ble_eq_true rfl, Nat.le_of_ble_eq_true rfl⟩, Nat.le_of_ble_eq_true rfl, Nat.le_of_ble_eq_true rfl⟩) hl.1 rfl (Nat.le_of_ble_eq_true rfl) d_M_lengthBits_1 (fun z_1 H locs hz_1 w => ?_)
  subst hz_1
  have hbl := bl_rg (n := n) (by omega)
  refine r_istore_n (pc := 4) (lv' := [(2, .int (iI (bl n))), (0, .int (iI n)), (1, .int (iI code))]) C d_M_lengthBits_4 rfl hl (by decide) rfl (fun ls hl => ?_)
  refine r_iload_n (pc := 5) C d_M_lengthBits_5 rfl (lv_at hl 2 rfl) ?_
  refine r_if_ne (pc := 6) (tgt := 14) C (by omega) d_M_lengthBits_6 (by decide) (fun c_6 => ?_) (fun c_6 => ?_)
  · skip
    refine r_iload_n (pc := 14) C d_M_lengthBits_14 rfl (lv_at hl 2 rfl) ?_
    refine r_iconst (pc := 15) C d_M_lengthBits_15 ?_
    refine r_icmp_ne (pc := 16) (tgt := 27) C (by omega) d_M_lengthBits_16 (by decide) (fun c_16 => ?_) (fun c_16 => ?_)
    · skip
      refine r_iconst (pc := 27) C d_M_lengthBits_27 ?_
      refine r_iload_n (pc := 28) C d_M_lengthBits_28 rfl (lv_at hl 0 rfl) ?_
      refine r_callP (pc := 29) (As := [.int (iI (bl n))]) (rest := [.int (iI 2)]) C w (c_M_bitsOf (bl n) (by omega)) ml_M_90 st_M_bitsOf ini_M cd_M_bitsOf hd_M_bitsOf rfl (by rw [hRm]; exact ⟨⟨Nat.le_of_ble_eq_true rfl, Nat.le_of_ble_eq_true rfl⟩, Nat.le_of_ble_eq_true rfl, Nat.le_of_ble_eq_true rfl⟩) hl.1 rfl (Nat.le_of_ble_eq_true rfl) d_M_lengthBits_29 (fun z_29 H locs hz_29 w => ?_)
      subst hz_29
      have hbl := bl_rg (n := (bl n)) (by omega)
      refine r_imul (pc := 32) C d_M_lengthBits_32 ?_
      refine r_iconst (pc := 33) C d_M_lengthBits_33 ?_
      refine r_isub (pc := 34) C d_M_lengthBits_34 ?_
      refine r_iload_n (pc := 35) C d_M_lengthBits_35 rfl (lv_at hl 0 rfl) ?_
      refine r_iadd (pc := 36) C d_M_lengthBits_36 ?_
      refine r_iconst (pc := 37) C d_M_lengthBits_37 ?_
      refine r_isub (pc := 38) C d_M_lengthBits_38 ?_
      exact kret _ _ _ _ ((((2 * (bl (bl n))) - 1) + (bl n)) - 1) _ d_M_lengthBits_39 w (⟨rfl, by omega⟩)
    · skip
      refine r_iconst (pc := 19) C d_M_lengthBits_19 ?_
      refine r_iload_n (pc := 20) C d_M_lengthBits_20 rfl (lv_at hl 0 rfl) ?_
      refine r_imul (pc := 21) C d_M_lengthBits_21 ?_
      refine r_iconst (pc := 22) C d_M_lengthBits_22 ?_
      refine r_isub (pc := 23) C d_M_lengthBits_23 ?_
      refine r_goto (pc := 24) (tgt := 39) C d_M_lengthBits_24 (by decide) ?_
      exact kret _ _ _ _ ((2 * (bl n)) - 1) _ d_M_lengthBits_39 w (⟨rfl, by omega⟩)
  · skip
    refine r_bipush (pc := 9) C d_M_lengthBits_9 (by decide) ?_
    refine r_goto (pc := 11) (tgt := 39) C d_M_lengthBits_11 (by decide) ?_
    exact kret _ _ _ _ 12 _ d_M_lengthBits_39 w (⟨rfl, by omega⟩)
theorem d_M_runBits_0 : decode b_M_runBits 0 = .ok (.iload_n 0, 1) := by decide +kernel
theorem d_M_runBits_1 : decode b_M_runBits 1 = .ok (.bipush 10, 2) := by decide +kernel
theorem d_M_runBits_3 : decode b_M_runBits 3 = .ok (.if_icmp .ne 7, 3) := by decide +kernel
theorem d_M_runBits_6 : decode b_M_runBits 6 = .ok (.iconst 1, 1) := by decide +kernel
theorem d_M_runBits_7 : decode b_M_runBits 7 = .ok (.goto 4, 3) := by decide +kernel
theorem d_M_runBits_10 : decode b_M_runBits 10 = .ok (.iconst 5, 1) := by decide +kernel
theorem d_M_runBits_11 : decode b_M_runBits 11 = .ok (.iload_n 1, 1) := by decide +kernel
theorem d_M_runBits_12 : decode b_M_runBits 12 = .ok (.iload_n 2, 1) := by decide +kernel
theorem d_M_runBits_13 : decode b_M_runBits 13 = .ok (.invokestatic 93, 3) := by decide +kernel
theorem d_M_runBits_16 : decode b_M_runBits 16 = .ok (.iadd, 1) := by decide +kernel
theorem d_M_runBits_17 : decode b_M_runBits 17 = .ok (.ireturn, 1) := by decide +kernel
set_option maxHeartbeats 4000000 in
set_option maxRecDepth 20000 in
theorem c_M_runBits {l : Launch} {G : va_G} {tys : List (ClassId × FieldType)} (s n code : Int) (h : 1 ≤ n ∧ n < 2147483648) (hc : 0 ≤ code ∧ code ≤ 2) (hs : 0 ≤ s ∧ s ≤ 10) : CTP l G tys y_M_runBits b_M_runBits 3 .int 2 44 [.int (iI s), .int (iI n), .int (iI code)] (fun z => z = rb code s n) := by
  unfold CTP
  refine mkI (by decide) (Nat.le_of_ble_eq_true rfl) ?_
  rintro X rfl rfl rfl hRm C kret H ls w hl
  have hl : lv_has ls 3 [(0, .int (iI s)), (1, .int (iI n)), (2, .int (iI code))] := hl
  have w : Wd X ([]) H [] := w
  generalize ([] : List Loc) = locs at w ⊢
  have hs := sb_cases s
  have hrd : rb code s n = sb s + lb code n := rfl
  refine r_iload_n (pc := 0) C d_M_runBits_0 rfl (lv_at hl 0 rfl) ?_
  refine r_bipush (pc := 1) C d_M_runBits_1 (by decide) ?_
  refine r_icmp_ne (pc := 3) (tgt := 10) C (by omega) d_M_runBits_3 (by decide) (fun c_3 => ?_) (fun c_3 => ?_)
  · skip
    refine r_iconst (pc := 10) C d_M_runBits_10 ?_
    refine r_iload_n (pc := 11) C d_M_runBits_11 rfl (lv_at hl 1 rfl) ?_
    refine r_iload_n (pc := 12) C d_M_runBits_12 rfl (lv_at hl 2 rfl) ?_
    refine r_callP (pc := 13) (As := [.int (iI n), .int (iI code)]) (rest := [.int (iI 5)]) C w (c_M_lengthBits n code (by omega) (by omega)) ml_M_93 st_M_lengthBits ini_M cd_M_lengthBits hd_M_lengthBits rfl (by rw [hRm]; exact ⟨⟨Nat.le_of_ble_eq_true rfl, Nat.le_of_ble_eq_true rfl⟩, Nat.le_of_ble_eq_true rfl, Nat.le_of_ble_eq_true rfl⟩) hl.1 rfl (Nat.le_of_ble_eq_true rfl) d_M_runBits_13 (fun z_13 H locs hz_13 w => ?_)
    subst hz_13
    have hlb := lb_rg (code := code) (n := n) (by omega)
    refine r_iadd (pc := 16) C d_M_runBits_16 ?_
    exact kret _ _ _ _ (5 + (lb code n)) _ d_M_runBits_17 w (⟨rfl, by omega⟩)
  · skip
    refine r_iconst (pc := 6) C d_M_runBits_6 ?_
    refine r_goto (pc := 7) (tgt := 11) C d_M_runBits_7 (by decide) ?_
    refine r_iload_n (pc := 11) C d_M_runBits_11 rfl (lv_at hl 1 rfl) ?_
    refine r_iload_n (pc := 12) C d_M_runBits_12 rfl (lv_at hl 2 rfl) ?_
    refine r_callP (pc := 13) (As := [.int (iI n), .int (iI code)]) (rest := [.int (iI 1)]) C w (c_M_lengthBits n code (by omega) (by omega)) ml_M_93 st_M_lengthBits ini_M cd_M_lengthBits hd_M_lengthBits rfl (by rw [hRm]; exact ⟨⟨Nat.le_of_ble_eq_true rfl, Nat.le_of_ble_eq_true rfl⟩, Nat.le_of_ble_eq_true rfl, Nat.le_of_ble_eq_true rfl⟩) hl.1 rfl (Nat.le_of_ble_eq_true rfl) d_M_runBits_13 (fun z_13 H locs hz_13 w => ?_)
    subst hz_13
    have hlb := lb_rg (code := code) (n := n) (by omega)
    refine r_iadd (pc := 16) C d_M_runBits_16 ?_
    exact kret _ _ _ _ (1 + (lb code n)) _ d_M_runBits_17 w (⟨rfl, by omega⟩)
theorem d_C_bitOfLength_0 : decode b_C_bitOfLength 0 = .ok (.iload_n 0, 1) := by decide +kernel
theorem d_C_bitOfLength_1 : decode b_C_bitOfLength 1 = .ok (.ifCond .ne 11, 3) := by decide +kernel
theorem d_C_bitOfLength_4 : decode b_C_bitOfLength 4 = .ok (.iload_n 1, 1) := by decide +kernel
theorem d_C_bitOfLength_5 : decode b_C_bitOfLength 5 = .ok (.bipush 12, 2) := by decide +kernel
theorem d_C_bitOfLength_7 : decode b_C_bitOfLength 7 = .ok (.iload_n 2, 1) := by decide +kernel
theorem d_C_bitOfLength_8 : decode b_C_bitOfLength 8 = .ok (.invokestatic 23, 3) := by decide +kernel
theorem d_C_bitOfLength_11 : decode b_C_bitOfLength 11 = .ok (.ireturn, 1) := by decide +kernel
theorem d_C_bitOfLength_12 : decode b_C_bitOfLength 12 = .ok (.iload_n 1, 1) := by decide +kernel
theorem d_C_bitOfLength_13 : decode b_C_bitOfLength 13 = .ok (.invokestatic 26, 3) := by decide +kernel
theorem d_C_bitOfLength_16 : decode b_C_bitOfLength 16 = .ok (.istore_n 3, 1) := by decide +kernel
theorem d_C_bitOfLength_17 : decode b_C_bitOfLength 17 = .ok (.iload_n 0, 1) := by decide +kernel
theorem d_C_bitOfLength_18 : decode b_C_bitOfLength 18 = .ok (.iconst 1, 1) := by decide +kernel
theorem d_C_bitOfLength_19 : decode b_C_bitOfLength 19 = .ok (.if_icmp .ne 25, 3) := by decide +kernel
theorem d_C_bitOfLength_22 : decode b_C_bitOfLength 22 = .ok (.iload_n 2, 1) := by decide +kernel
theorem d_C_bitOfLength_23 : decode b_C_bitOfLength 23 = .ok (.iload_n 3, 1) := by decide +kernel
theorem d_C_bitOfLength_24 : decode b_C_bitOfLength 24 = .ok (.iconst 1, 1) := by decide +kernel
theorem d_C_bitOfLength_25 : decode b_C_bitOfLength 25 = .ok (.isub, 1) := by decide +kernel
theorem d_C_bitOfLength_26 : decode b_C_bitOfLength 26 = .ok (.if_icmp .ge 7, 3) := by decide +kernel
theorem d_C_bitOfLength_29 : decode b_C_bitOfLength 29 = .ok (.iconst 0, 1) := by decide +kernel
theorem d_C_bitOfLength_30 : decode b_C_bitOfLength 30 = .ok (.goto 13, 3) := by decide +kernel
theorem d_C_bitOfLength_33 : decode b_C_bitOfLength 33 = .ok (.iload_n 1, 1) := by decide +kernel
theorem d_C_bitOfLength_34 : decode b_C_bitOfLength 34 = .ok (.iload_n 3, 1) := by decide +kernel
theorem d_C_bitOfLength_35 : decode b_C_bitOfLength 35 = .ok (.iload_n 2, 1) := by decide +kernel
theorem d_C_bitOfLength_36 : decode b_C_bitOfLength 36 = .ok (.iload_n 3, 1) := by decide +kernel
theorem d_C_bitOfLength_37 : decode b_C_bitOfLength 37 = .ok (.iconst 1, 1) := by decide +kernel
theorem d_C_bitOfLength_38 : decode b_C_bitOfLength 38 = .ok (.isub, 1) := by decide +kernel
theorem d_C_bitOfLength_39 : decode b_C_bitOfLength 39 = .ok (.isub, 1) := by decide +kernel
theorem d_C_bitOfLength_40 : decode b_C_bitOfLength 40 = .ok (.invokestatic 23, 3) := by decide +kernel
theorem d_C_bitOfLength_43 : decode b_C_bitOfLength 43 = .ok (.ireturn, 1) := by decide +kernel
theorem d_C_bitOfLength_44 : decode b_C_bitOfLength 44 = .ok (.iload_n 3, 1) := by decide +kernel
theorem d_C_bitOfLength_45 : decode b_C_bitOfLength 45 = .ok (.invokestatic 26, 3) := by decide +kernel
theorem d_C_bitOfLength_48 : decode b_C_bitOfLength 48 = .ok (.istore 4, 2) := by decide +kernel
theorem d_C_bitOfLength_50 : decode b_C_bitOfLength 50 = .ok (.iload_n 2, 1) := by decide +kernel
theorem d_C_bitOfLength_51 : decode b_C_bitOfLength 51 = .ok (.iload 4, 2) := by decide +kernel
theorem d_C_bitOfLength_53 : decode b_C_bitOfLength 53 = .ok (.iconst 1, 1) := by decide +kernel
theorem d_C_bitOfLength_54 : decode b_C_bitOfLength 54 = .ok (.isub, 1) := by decide +kernel
theorem d_C_bitOfLength_55 : decode b_C_bitOfLength 55 = .ok (.isub, 1) := by decide +kernel
theorem d_C_bitOfLength_56 : decode b_C_bitOfLength 56 = .ok (.istore 5, 2) := by decide +kernel
theorem d_C_bitOfLength_58 : decode b_C_bitOfLength 58 = .ok (.iload 5, 2) := by decide +kernel
theorem d_C_bitOfLength_60 : decode b_C_bitOfLength 60 = .ok (.ifCond .ge 5, 3) := by decide +kernel
theorem d_C_bitOfLength_63 : decode b_C_bitOfLength 63 = .ok (.iconst 0, 1) := by decide +kernel
theorem d_C_bitOfLength_64 : decode b_C_bitOfLength 64 = .ok (.ireturn, 1) := by decide +kernel
theorem d_C_bitOfLength_65 : decode b_C_bitOfLength 65 = .ok (.iload 5, 2) := by decide +kernel
theorem d_C_bitOfLength_67 : decode b_C_bitOfLength 67 = .ok (.iload 4, 2) := by decide +kernel
theorem d_C_bitOfLength_69 : decode b_C_bitOfLength 69 = .ok (.if_icmp .ge 12, 3) := by decide +kernel
theorem d_C_bitOfLength_72 : decode b_C_bitOfLength 72 = .ok (.iload_n 3, 1) := by decide +kernel
theorem d_C_bitOfLength_73 : decode b_C_bitOfLength 73 = .ok (.iload 4, 2) := by decide +kernel
theorem d_C_bitOfLength_75 : decode b_C_bitOfLength 75 = .ok (.iload 5, 2) := by decide +kernel
theorem d_C_bitOfLength_77 : decode b_C_bitOfLength 77 = .ok (.invokestatic 23, 3) := by decide +kernel
theorem d_C_bitOfLength_80 : decode b_C_bitOfLength 80 = .ok (.ireturn, 1) := by decide +kernel
theorem d_C_bitOfLength_81 : decode b_C_bitOfLength 81 = .ok (.iload_n 1, 1) := by decide +kernel
theorem d_C_bitOfLength_82 : decode b_C_bitOfLength 82 = .ok (.iload_n 3, 1) := by decide +kernel
theorem d_C_bitOfLength_83 : decode b_C_bitOfLength 83 = .ok (.iload 5, 2) := by decide +kernel
theorem d_C_bitOfLength_85 : decode b_C_bitOfLength 85 = .ok (.iload 4, 2) := by decide +kernel
theorem d_C_bitOfLength_87 : decode b_C_bitOfLength 87 = .ok (.isub, 1) := by decide +kernel
theorem d_C_bitOfLength_88 : decode b_C_bitOfLength 88 = .ok (.iconst 1, 1) := by decide +kernel
theorem d_C_bitOfLength_89 : decode b_C_bitOfLength 89 = .ok (.iadd, 1) := by decide +kernel
theorem d_C_bitOfLength_90 : decode b_C_bitOfLength 90 = .ok (.invokestatic 23, 3) := by decide +kernel
theorem d_C_bitOfLength_93 : decode b_C_bitOfLength 93 = .ok (.ireturn, 1) := by decide +kernel
set_option maxHeartbeats 4000000 in
set_option maxRecDepth 20000 in
theorem c_C_bitOfLength {l : Launch} {G : va_G} {tys : List (ClassId × FieldType)} (code n a : Int) (h : 1 ≤ n ∧ n < 2147483648) (hc : 0 ≤ code ∧ code ≤ 2) (ha : 0 ≤ a ∧ a < 1000) : CTP l G tys y_C_bitOfLength b_C_bitOfLength 6 .int 1 22 [.int (iI code), .int (iI n), .int (iI a)] (fun z => z = lbit code n a) := by
  unfold CTP
  refine mkI (by decide) (Nat.le_of_ble_eq_true rfl) ?_
  rintro X rfl rfl rfl hRm C kret H ls w hl
  have hl : lv_has ls 6 [(0, .int (iI code)), (1, .int (iI n)), (2, .int (iI a))] := hl
  have w : Wd X ([]) H [] := w
  generalize ([] : List Loc) = locs at w ⊢
  refine r_iload_n (pc := 0) C d_C_bitOfLength_0 rfl (lv_at hl 0 rfl) ?_
  refine r_if_ne (pc := 1) (tgt := 12) C (by omega) d_C_bitOfLength_1 (by decide) (fun c_1 => ?_) (fun c_1 => ?_)
  · skip
    refine r_iload_n (pc := 12) C d_C_bitOfLength_12 rfl (lv_at hl 1 rfl) ?_
    refine r_callP (pc := 13) (As := [.int (iI n)]) (rest := []) C w (c_C_widthOf n (by omega)) ml_C_26 st_C_widthOf ini_C cd_C_widthOf hd_C_widthOf rfl (by rw [hRm]; exact ⟨⟨Nat.le_of_ble_eq_true rfl, Nat.le_of_ble_eq_true rfl⟩, Nat.le_of_ble_eq_true rfl, Nat.le_of_ble_eq_true rfl⟩) hl.1 rfl (Nat.le_of_ble_eq_true rfl) d_C_bitOfLength_13 (fun z_13 H locs hz_13 w => ?_)
    subst hz_13
    have hbl := bl_rg (n := n) (by omega)
    refine r_istore_n (pc := 16) (lv' := [(3, .int (iI (bl n))), (0, .int (iI code)), (1, .int (iI n)), (2, .int (iI a))]) C d_C_bitOfLength_16 rfl hl (by decide) rfl (fun ls hl => ?_)
    refine r_iload_n (pc := 17) C d_C_bitOfLength_17 rfl (lv_at hl 1 rfl) ?_
    refine r_iconst (pc := 18) C d_C_bitOfLength_18 ?_
    refine r_icmp_ne (pc := 19) (tgt := 44) C (by omega) d_C_bitOfLength_19 (by decide) (fun c_19 => ?_) (fun c_19 => ?_)
    · skip
      refine r_iload_n (pc := 44) C d_C_bitOfLength_44 rfl (lv_at hl 0 rfl) ?_
      refine r_callP (pc := 45) (As := [.int (iI (bl n))]) (rest := []) C w (c_C_widthOf (bl n) (by omega)) ml_C_26 st_C_widthOf ini_C cd_C_widthOf hd_C_widthOf rfl (by rw [hRm]; exact ⟨⟨Nat.le_of_ble_eq_true rfl, Nat.le_of_ble_eq_true rfl⟩, Nat.le_of_ble_eq_true rfl, Nat.le_of_ble_eq_true rfl⟩) hl.1 rfl (Nat.le_of_ble_eq_true rfl) d_C_bitOfLength_45 (fun z_45 H locs hz_45 w => ?_)
      subst hz_45
      have hbl := bl_rg (n := (bl n)) (by omega)
      refine r_istore (pc := 48) (lv' := [(4, .int (iI (bl (bl n)))), (3, .int (iI (bl n))), (0, .int (iI code)), (1, .int (iI n)), (2, .int (iI a))]) C d_C_bitOfLength_48 hl (by decide) rfl (fun ls hl => ?_)
      refine r_iload_n (pc := 50) C d_C_bitOfLength_50 rfl (lv_at hl 4 rfl) ?_
      refine r_iload (pc := 51) C d_C_bitOfLength_51 (lv_at hl 0 rfl) ?_
      refine r_iconst (pc := 53) C d_C_bitOfLength_53 ?_
      refine r_isub (pc := 54) C d_C_bitOfLength_54 ?_
      refine r_isub (pc := 55) C d_C_bitOfLength_55 ?_
      refine r_istore (pc := 56) (lv' := [(5, .int (iI (a - ((bl (bl n)) - 1)))), (4, .int (iI (bl (bl n)))), (3, .int (iI (bl n))), (0, .int (iI code)), (1, .int (iI n)), (2, .int (iI a))]) C d_C_bitOfLength_56 hl (by decide) rfl (fun ls hl => ?_)
      refine r_iload (pc := 58) C d_C_bitOfLength_58 (lv_at hl 0 rfl) ?_
      refine r_if_ge (pc := 60) (tgt := 65) C (by omega) d_C_bitOfLength_60 (by decide) (fun c_60 => ?_) (fun c_60 => ?_)
      · skip
        refine r_iload (pc := 65) C d_C_bitOfLength_65 (lv_at hl 0 rfl) ?_
        refine r_iload (pc := 67) C d_C_bitOfLength_67 (lv_at hl 1 rfl) ?_
        refine r_icmp_ge (pc := 69) (tgt := 81) C (by omega) d_C_bitOfLength_69 (by decide) (fun c_69 => ?_) (fun c_69 => ?_)
        · skip
          refine r_iload_n (pc := 81) C d_C_bitOfLength_81 rfl (lv_at hl 4 rfl) ?_
          refine r_iload_n (pc := 82) C d_C_bitOfLength_82 rfl (lv_at hl 2 rfl) ?_
          refine r_iload (pc := 83) C d_C_bitOfLength_83 (lv_at hl 0 rfl) ?_
          refine r_iload (pc := 85) C d_C_bitOfLength_85 (lv_at hl 1 rfl) ?_
          refine r_isub (pc := 87) C d_C_bitOfLength_87 ?_
          refine r_iconst (pc := 88) C d_C_bitOfLength_88 ?_
          refine r_iadd (pc := 89) C d_C_bitOfLength_89 ?_
          refine r_callP (pc := 90) (As := [.int (iI n), .int (iI (bl n)), .int (iI (((a - ((bl (bl n)) - 1)) - (bl (bl n))) + 1))]) (rest := []) C w (c_C_bitOfNumber n (bl n) (((a - ((bl (bl n)) - 1)) - (bl (bl n))) + 1) ) ml_C_23 st_C_bitOfNumber ini_C cd_C_bitOfNumber hd_C_bitOfNumber rfl (by rw [hRm]; exact ⟨⟨Nat.le_of_ble_eq_true rfl, Nat.le_of_ble_eq_true rfl⟩, Nat.le_of_ble_eq_true rfl, Nat.le_of_ble_eq_true rfl⟩) hl.1 rfl (Nat.le_of_ble_eq_true rfl) d_C_bitOfLength_90 (fun z_90 H locs hz_90 w => ?_)
          subst hz_90
          exact kret _ _ _ _ (bnr n ((bl n) - 1 - (((a - ((bl (bl n)) - 1)) - (bl (bl n))) + 1))) _ d_C_bitOfLength_93 w (⟨rfl, by unfold lbit; (repeat' split) <;> first | omega | (congr 1 <;> omega) | (exfalso; omega)⟩)
        · skip
          refine r_iload_n (pc := 72) C d_C_bitOfLength_72 rfl (lv_at hl 2 rfl) ?_
          refine r_iload (pc := 73) C d_C_bitOfLength_73 (lv_at hl 1 rfl) ?_
          refine r_iload (pc := 75) C d_C_bitOfLength_75 (lv_at hl 0 rfl) ?_
          refine r_callP (pc := 77) (As := [.int (iI (bl n)), .int (iI (bl (bl n))), .int (iI (a - ((bl (bl n)) - 1)))]) (rest := []) C w (c_C_bitOfNumber (bl n) (bl (bl n)) (a - ((bl (bl n)) - 1)) ) ml_C_23 st_C_bitOfNumber ini_C cd_C_bitOfNumber hd_C_bitOfNumber rfl (by rw [hRm]; exact ⟨⟨Nat.le_of_ble_eq_true rfl, Nat.le_of_ble_eq_true rfl⟩, Nat.le_of_ble_eq_true rfl, Nat.le_of_ble_eq_true rfl⟩) hl.1 rfl (Nat.le_of_ble_eq_true rfl) d_C_bitOfLength_77 (fun z_77 H locs hz_77 w => ?_)
          subst hz_77
          exact kret _ _ _ _ (bnr (bl n) ((bl (bl n)) - 1 - (a - ((bl (bl n)) - 1)))) _ d_C_bitOfLength_80 w (⟨rfl, by unfold lbit; (repeat' split) <;> first | omega | (congr 1 <;> omega) | (exfalso; omega)⟩)
      · skip
        refine r_iconst (pc := 63) C d_C_bitOfLength_63 ?_
        exact kret _ _ _ _ 0 _ d_C_bitOfLength_64 w (⟨rfl, by unfold lbit; (repeat' split) <;> first | omega | (congr 1 <;> omega) | (exfalso; omega)⟩)
    · skip
      refine r_iload_n (pc := 22) C d_C_bitOfLength_22 rfl (lv_at hl 3 rfl) ?_
      refine r_iload_n (pc := 23) C d_C_bitOfLength_23 rfl (lv_at hl 0 rfl) ?_
      refine r_iconst (pc := 24) C d_C_bitOfLength_24 ?_
      refine r_isub (pc := 25) C d_C_bitOfLength_25 ?_
      refine r_icmp_ge (pc := 26) (tgt := 33) C (by omega) d_C_bitOfLength_26 (by decide) (fun c_26 => ?_) (fun c_26 => ?_)
      · skip
        refine r_iload_n (pc := 33) C d_C_bitOfLength_33 rfl (lv_at hl 2 rfl) ?_
        refine r_iload_n (pc := 34) C d_C_bitOfLength_34 rfl (lv_at hl 0 rfl) ?_
        refine r_iload_n (pc := 35) C d_C_bitOfLength_35 rfl (lv_at hl 3 rfl) ?_
        refine r_iload_n (pc := 36) C d_C_bitOfLength_36 rfl (lv_at hl 0 rfl) ?_
        refine r_iconst (pc := 37) C d_C_bitOfLength_37 ?_
        refine r_isub (pc := 38) C d_C_bitOfLength_38 ?_
        refine r_isub (pc := 39) C d_C_bitOfLength_39 ?_
        refine r_callP (pc := 40) (As := [.int (iI n), .int (iI (bl n)), .int (iI (a - ((bl n) - 1)))]) (rest := []) C w (c_C_bitOfNumber n (bl n) (a - ((bl n) - 1)) ) ml_C_23 st_C_bitOfNumber ini_C cd_C_bitOfNumber hd_C_bitOfNumber rfl (by rw [hRm]; exact ⟨⟨Nat.le_of_ble_eq_true rfl, Nat.le_of_ble_eq_true rfl⟩, Nat.le_of_ble_eq_true rfl, Nat.le_of_ble_eq_true rfl⟩) hl.1 rfl (Nat.le_of_ble_eq_true rfl) d_C_bitOfLength_40 (fun z_40 H locs hz_40 w => ?_)
        subst hz_40
        exact kret _ _ _ _ (bnr n ((bl n) - 1 - (a - ((bl n) - 1)))) _ d_C_bitOfLength_43 w (⟨rfl, by unfold lbit; (repeat' split) <;> first | omega | (congr 1 <;> omega) | (exfalso; omega)⟩)
      · skip
        refine r_iconst (pc := 29) C d_C_bitOfLength_29 ?_
        refine r_goto (pc := 30) (tgt := 43) C d_C_bitOfLength_30 (by decide) ?_
        exact kret _ _ _ _ 0 _ d_C_bitOfLength_43 w (⟨rfl, by unfold lbit; (repeat' split) <;> first | omega | (congr 1 <;> omega) | (exfalso; omega)⟩)
  · skip
    refine r_iload_n (pc := 4) C d_C_bitOfLength_4 rfl (lv_at hl 1 rfl) ?_
    refine r_bipush (pc := 5) C d_C_bitOfLength_5 (by decide) ?_
    refine r_iload_n (pc := 7) C d_C_bitOfLength_7 rfl (lv_at hl 2 rfl) ?_
    refine r_callP (pc := 8) (As := [.int (iI n), .int (iI 12), .int (iI a)]) (rest := []) C w (c_C_bitOfNumber n 12 a ) ml_C_23 st_C_bitOfNumber ini_C cd_C_bitOfNumber hd_C_bitOfNumber rfl (by rw [hRm]; exact ⟨⟨Nat.le_of_ble_eq_true rfl, Nat.le_of_ble_eq_true rfl⟩, Nat.le_of_ble_eq_true rfl, Nat.le_of_ble_eq_true rfl⟩) hl.1 rfl (Nat.le_of_ble_eq_true rfl) d_C_bitOfLength_8 (fun z_8 H locs hz_8 w => ?_)
    subst hz_8
    exact kret _ _ _ _ (bnr n (12 - 1 - a)) _ d_C_bitOfLength_11 w (⟨rfl, by unfold lbit; (repeat' split) <;> first | omega | (congr 1 <;> omega) | (exfalso; omega)⟩)
theorem d_C_bitOfRun_0 : decode b_C_bitOfRun 0 = .ok (.iload_n 1, 1) := by decide +kernel
theorem d_C_bitOfRun_1 : decode b_C_bitOfRun 1 = .ok (.invokestatic 9, 3) := by decide +kernel
theorem d_C_bitOfRun_4 : decode b_C_bitOfRun 4 = .ok (.istore 4, 2) := by decide +kernel
theorem d_C_bitOfRun_6 : decode b_C_bitOfRun 6 = .ok (.iload_n 3, 1) := by decide +kernel
theorem d_C_bitOfRun_7 : decode b_C_bitOfRun 7 = .ok (.iload 4, 2) := by decide +kernel
theorem d_C_bitOfRun_9 : decode b_C_bitOfRun 9 = .ok (.if_icmp .lt 13, 3) := by decide +kernel
theorem d_C_bitOfRun_12 : decode b_C_bitOfRun 12 = .ok (.iload_n 0, 1) := by decide +kernel
theorem d_C_bitOfRun_13 : decode b_C_bitOfRun 13 = .ok (.iload_n 2, 1) := by decide +kernel
theorem d_C_bitOfRun_14 : decode b_C_bitOfRun 14 = .ok (.iload_n 3, 1) := by decide +kernel
theorem d_C_bitOfRun_15 : decode b_C_bitOfRun 15 = .ok (.iload 4, 2) := by decide +kernel
theorem d_C_bitOfRun_17 : decode b_C_bitOfRun 17 = .ok (.isub, 1) := by decide +kernel
theorem d_C_bitOfRun_18 : decode b_C_bitOfRun 18 = .ok (.invokestatic 19, 3) := by decide +kernel
theorem d_C_bitOfRun_21 : decode b_C_bitOfRun 21 = .ok (.ireturn, 1) := by decide +kernel
theorem d_C_bitOfRun_22 : decode b_C_bitOfRun 22 = .ok (.iload_n 3, 1) := by decide +kernel
theorem d_C_bitOfRun_23 : decode b_C_bitOfRun 23 = .ok (.ifCond .ne 15, 3) := by decide +kernel
theorem d_C_bitOfRun_26 : decode b_C_bitOfRun 26 = .ok (.iload_n 1, 1) := by decide +kernel
theorem d_C_bitOfRun_27 : decode b_C_bitOfRun 27 = .ok (.bipush 10, 2) := by decide +kernel
theorem d_C_bitOfRun_29 : decode b_C_bitOfRun 29 = .ok (.if_icmp .ne 7, 3) := by decide +kernel
theorem d_C_bitOfRun_32 : decode b_C_bitOfRun 32 = .ok (.iconst 1, 1) := by decide +kernel
theorem d_C_bitOfRun_33 : decode b_C_bitOfRun 33 = .ok (.goto 4, 3) := by decide +kernel
theorem d_C_bitOfRun_36 : decode b_C_bitOfRun 36 = .ok (.iconst 0, 1) := by decide +kernel
theorem d_C_bitOfRun_37 : decode b_C_bitOfRun 37 = .ok (.ireturn, 1) := by decide +kernel
theorem d_C_bitOfRun_38 : decode b_C_bitOfRun 38 = .ok (.iload_n 1, 1) := by decide +kernel
theorem d_C_bitOfRun_39 : decode b_C_bitOfRun 39 = .ok (.iload 4, 2) := by decide +kernel
theorem d_C_bitOfRun_41 : decode b_C_bitOfRun 41 = .ok (.iconst 1, 1) := by decide +kernel
theorem d_C_bitOfRun_42 : decode b_C_bitOfRun 42 = .ok (.isub, 1) := by decide +kernel
theorem d_C_bitOfRun_43 : decode b_C_bitOfRun 43 = .ok (.iload_n 3, 1) := by decide +kernel
theorem d_C_bitOfRun_44 : decode b_C_bitOfRun 44 = .ok (.iconst 1, 1) := by decide +kernel
theorem d_C_bitOfRun_45 : decode b_C_bitOfRun 45 = .ok (.isub, 1) := by decide +kernel
theorem d_C_bitOfRun_46 : decode b_C_bitOfRun 46 = .ok (.invokestatic 23, 3) := by decide +kernel
theorem d_C_bitOfRun_49 : decode b_C_bitOfRun 49 = .ok (.ireturn, 1) := by decide +kernel
set_option maxHeartbeats 4000000 in
set_option maxRecDepth 20000 in
theorem c_C_bitOfRun {l : Launch} {G : va_G} {tys : List (ClassId × FieldType)} (code s n a : Int) (h : 1 ≤ n ∧ n < 2147483648) (hc : 0 ≤ code ∧ code ≤ 2) (hs : 0 ≤ s ∧ s ≤ 10) (ha : 0 ≤ a ∧ a < 1000) : CTP l G tys y_C_bitOfRun b_C_bitOfRun 5 .int 2 47 [.int (iI code), .int (iI s), .int (iI n), .int (iI a)] (fun z => z = brun code s n a) := by
  unfold CTP
  refine mkI (by decide) (Nat.le_of_ble_eq_true rfl) ?_
  rintro X rfl rfl rfl hRm C kret H ls w hl
  have hl : lv_has ls 5 [(0, .int (iI code)), (1, .int (iI s)), (2, .int (iI n)), (3, .int (iI a))] := hl
  have w : Wd X ([]) H [] := w
  generalize ([] : List Loc) = locs at w ⊢
  refine r_iload_n (pc := 0) C d_C_bitOfRun_0 rfl (lv_at hl 1 rfl) ?_
  refine r_callP (pc := 1) (As := [.int (iI s)]) (rest := []) C w (c_C_bitsOfSign s (by omega)) ml_C_9 st_C_bitsOfSign ini_C cd_C_bitsOfSign hd_C_bitsOfSign rfl (by rw [hRm]; exact ⟨⟨Nat.le_of_ble_eq_true rfl, Nat.le_of_ble_eq_true rfl⟩, Nat.le_of_ble_eq_true rfl, Nat.le_of_ble_eq_true rfl⟩) hl.1 rfl (Nat.le_of_ble_eq_true rfl) d_C_bitOfRun_1 (fun z_1 H locs hz_1 w => ?_)
  subst hz_1
  have hsb := sb_cases s
  refine r_istore (pc := 4) (lv' := [(4, .int (iI (sb s))), (0, .int (iI code)), (1, .int (iI s)), (2, .int (iI n)), (3, .int (iI a))]) C d_C_bitOfRun_4 hl (by decide) rfl (fun ls hl => ?_)
  refine r_iload_n (pc := 6) C d_C_bitOfRun_6 rfl (lv_at hl 4 rfl) ?_
  refine r_iload (pc := 7) C d_C_bitOfRun_7 (lv_at hl 0 rfl) ?_
  refine r_icmp_lt (pc := 9) (tgt := 22) C (by omega) d_C_bitOfRun_9 (by decide) (fun c_9 => ?_) (fun c_9 => ?_)
  · skip
    refine r_iload_n (pc := 22) C d_C_bitOfRun_22 rfl (lv_at hl 4 rfl) ?_
    refine r_if_ne (pc := 23) (tgt := 38) C (by omega) d_C_bitOfRun_23 (by decide) (fun c_23 => ?_) (fun c_23 => ?_)
    · skip
      refine r_iload_n (pc := 38) C d_C_bitOfRun_38 rfl (lv_at hl 2 rfl) ?_
      refine r_iload (pc := 39) C d_C_bitOfRun_39 (lv_at hl 0 rfl) ?_
      refine r_iconst (pc := 41) C d_C_bitOfRun_41 ?_
      refine r_isub (pc := 42) C d_C_bitOfRun_42 ?_
      refine r_iload_n (pc := 43) C d_C_bitOfRun_43 rfl (lv_at hl 4 rfl) ?_
      refine r_iconst (pc := 44) C d_C_bitOfRun_44 ?_
      refine r_isub (pc := 45) C d_C_bitOfRun_45 ?_
      refine r_callP (pc := 46) (As := [.int (iI s), .int (iI ((sb s) - 1)), .int (iI (a - 1))]) (rest := []) C w (c_C_bitOfNumber s ((sb s) - 1) (a - 1) ) ml_C_23 st_C_bitOfNumber ini_C cd_C_bitOfNumber hd_C_bitOfNumber rfl (by rw [hRm]; exact ⟨⟨Nat.le_of_ble_eq_true rfl, Nat.le_of_ble_eq_true rfl⟩, Nat.le_of_ble_eq_true rfl, Nat.le_of_ble_eq_true rfl⟩) hl.1 rfl (Nat.le_of_ble_eq_true rfl) d_C_bitOfRun_46 (fun z_46 H locs hz_46 w => ?_)
      subst hz_46
      exact kret _ _ _ _ (bnr s (((sb s) - 1) - 1 - (a - 1))) _ d_C_bitOfRun_49 w (⟨rfl, by unfold brun; (repeat' split) <;> first | omega | (congr 1 <;> omega) | (exfalso; omega) | (rw [show a = 0 by omega]; exact (bnr_top (by omega)).symm)⟩)
    · skip
      refine r_iload_n (pc := 26) C d_C_bitOfRun_26 rfl (lv_at hl 2 rfl) ?_
      refine r_bipush (pc := 27) C d_C_bitOfRun_27 (by decide) ?_
      refine r_icmp_ne (pc := 29) (tgt := 36) C (by omega) d_C_bitOfRun_29 (by decide) (fun c_29 => ?_) (fun c_29 => ?_)
      · skip
        refine r_iconst (pc := 36) C d_C_bitOfRun_36 ?_
        exact kret _ _ _ _ 0 _ d_C_bitOfRun_37 w (⟨rfl, by unfold brun; (repeat' split) <;> first | omega | (congr 1 <;> omega) | (exfalso; omega) | (rw [show a = 0 by omega]; exact (bnr_top (by omega)).symm)⟩)
      · skip
        refine r_iconst (pc := 32) C d_C_bitOfRun_32 ?_
        refine r_goto (pc := 33) (tgt := 37) C d_C_bitOfRun_33 (by decide) ?_
        exact kret _ _ _ _ 1 _ d_C_bitOfRun_37 w (⟨rfl, by unfold brun; (repeat' split) <;> first | omega | (congr 1 <;> omega) | (exfalso; omega) | (rw [show a = 0 by omega]; exact (bnr_top (by omega)).symm)⟩)
  · skip
    refine r_iload_n (pc := 12) C d_C_bitOfRun_12 rfl (lv_at hl 1 rfl) ?_
    refine r_iload_n (pc := 13) C d_C_bitOfRun_13 rfl (lv_at hl 3 rfl) ?_
    refine r_iload_n (pc := 14) C d_C_bitOfRun_14 rfl (lv_at hl 4 rfl) ?_
    refine r_iload (pc := 15) C d_C_bitOfRun_15 (lv_at hl 0 rfl) ?_
    refine r_isub (pc := 17) C d_C_bitOfRun_17 ?_
    refine r_callP (pc := 18) (As := [.int (iI code), .int (iI n), .int (iI (a - (sb s)))]) (rest := []) C w (c_C_bitOfLength code n (a - (sb s)) (by omega) (by omega) (by omega)) ml_C_19 st_C_bitOfLength ini_C cd_C_bitOfLength hd_C_bitOfLength rfl (by rw [hRm]; exact ⟨⟨Nat.le_of_ble_eq_true rfl, Nat.le_of_ble_eq_true rfl⟩, Nat.le_of_ble_eq_true rfl, Nat.le_of_ble_eq_true rfl⟩) hl.1 rfl (Nat.le_of_ble_eq_true rfl) d_C_bitOfRun_18 (fun z_18 H locs hz_18 w => ?_)
    subst hz_18
    exact kret _ _ _ _ (lbit code n (a - (sb s))) _ d_C_bitOfRun_21 w (⟨rfl, by unfold brun; (repeat' split) <;> first | omega | (congr 1 <;> omega) | (exfalso; omega) | (rw [show a = 0 by omega]; exact (bnr_top (by omega)).symm)⟩)
theorem d_X_digitsOf_0 : decode b_X_digitsOf 0 = .ok (.iconst 1, 1) := by decide +kernel
theorem d_X_digitsOf_1 : decode b_X_digitsOf 1 = .ok (.istore_n 1, 1) := by decide +kernel
theorem d_X_digitsOf_2 : decode b_X_digitsOf 2 = .ok (.iload_n 0, 1) := by decide +kernel
theorem d_X_digitsOf_3 : decode b_X_digitsOf 3 = .ok (.bipush 10, 2) := by decide +kernel
theorem d_X_digitsOf_5 : decode b_X_digitsOf 5 = .ok (.idiv, 1) := by decide +kernel
theorem d_X_digitsOf_6 : decode b_X_digitsOf 6 = .ok (.istore_n 2, 1) := by decide +kernel
theorem d_X_digitsOf_7 : decode b_X_digitsOf 7 = .ok (.iconst 1, 1) := by decide +kernel
theorem d_X_digitsOf_8 : decode b_X_digitsOf 8 = .ok (.istore_n 3, 1) := by decide +kernel
theorem d_X_digitsOf_9 : decode b_X_digitsOf 9 = .ok (.iload_n 3, 1) := by decide +kernel
theorem d_X_digitsOf_10 : decode b_X_digitsOf 10 = .ok (.bipush 10, 2) := by decide +kernel
theorem d_X_digitsOf_12 : decode b_X_digitsOf 12 = .ok (.if_icmp .ge 21, 3) := by decide +kernel
theorem d_X_digitsOf_15 : decode b_X_digitsOf 15 = .ok (.iload_n 2, 1) := by decide +kernel
theorem d_X_digitsOf_16 : decode b_X_digitsOf 16 = .ok (.ifCond .le 17, 3) := by decide +kernel
theorem d_X_digitsOf_19 : decode b_X_digitsOf 19 = .ok (.iload_n 2, 1) := by decide +kernel
theorem d_X_digitsOf_20 : decode b_X_digitsOf 20 = .ok (.bipush 10, 2) := by decide +kernel
theorem d_X_digitsOf_22 : decode b_X_digitsOf 22 = .ok (.idiv, 1) := by decide +kernel
theorem d_X_digitsOf_23 : decode b_X_digitsOf 23 = .ok (.istore_n 2, 1) := by decide +kernel
theorem d_X_digitsOf_24 : decode b_X_digitsOf 24 = .ok (.iinc 1 1, 3) := by decide +kernel
theorem d_X_digitsOf_27 : decode b_X_digitsOf 27 = .ok (.iinc 3 1, 3) := by decide +kernel
theorem d_X_digitsOf_30 : decode b_X_digitsOf 30 = .ok (.goto (-21), 3) := by decide +kernel
theorem d_X_digitsOf_33 : decode b_X_digitsOf 33 = .ok (.iload_n 1, 1) := by decide +kernel
theorem d_X_digitsOf_34 : decode b_X_digitsOf 34 = .ok (.ireturn, 1) := by decide +kernel
set_option maxHeartbeats 4000000 in
set_option maxRecDepth 20000 in
theorem c_X_digitsOf {l : Launch} {G : va_G} {tys : List (ClassId × FieldType)} (n : Int) (h : 1 ≤ n ∧ n < 2147483648) : CTP l G tys y_X_digitsOf b_X_digitsOf 4 .int 0 0 [.int (iI n)] (fun z => z = dl n) := by
  unfold CTP
  refine mkI (by decide) (Nat.le_of_ble_eq_true rfl) ?_
  rintro X rfl rfl rfl hRm C kret H ls w hl
  have hl : lv_has ls 4 [(0, .int (iI n))] := hl
  have w : Wd X ([]) H [] := w
  generalize ([] : List Loc) = locs at w ⊢
  have hd := dl_step (n := n) (by omega)
  have hrg0 := dl_rg (n / 10)
  refine r_iconst (pc := 0) C d_X_digitsOf_0 ?_
  refine r_istore_n (pc := 1) (lv' := [(1, .int (iI 1)), (0, .int (iI n))]) C d_X_digitsOf_1 rfl hl (by decide) rfl (fun ls hl => ?_)
  refine r_iload_n (pc := 2) C d_X_digitsOf_2 rfl (lv_at hl 1 rfl) ?_
  refine r_bipush (pc := 3) C d_X_digitsOf_3 (by decide) ?_
  refine r_idiv (pc := 5) C d_X_digitsOf_5 (by omega) ?_
  refine r_istore_n (pc := 6) (lv' := [(2, .int (iI (n / 10))), (1, .int (iI 1)), (0, .int (iI n))]) C d_X_digitsOf_6 rfl hl (by decide) rfl (fun ls hl => ?_)
  refine r_iconst (pc := 7) C d_X_digitsOf_7 ?_
  refine r_istore_n (pc := 8) (lv' := [(3, .int (iI 1)), (2, .int (iI (n / 10))), (1, .int (iI 1)), (0, .int (iI n))]) C d_X_digitsOf_8 rfl hl (by decide) rfl (fun ls hl => ?_)
  have L9 : ∀ (fuel : Nat), ∀ (i : Int) (dg : Int) (rest : Int), 1 ≤ i ∧ i ≤ 10 ∧ dg = i ∧ 0 ≤ rest ∧ rest < 2147483648 → dg + dl rest = dl n → rest * 10 ^ i.toNat ≤ n → (10 - i) < (fuel : Int) → ∀ (H : Heap) (locs : List Loc) (ls : Array Slot), Wd X ([]) H locs → lv_has ls 4 [(0, .int (iI n)), (1, .int (iI dg)), (2, .int (iI rest)), (3, .int (iI i))] → GG X 0 0 H locs 9 ls [] := by
    intro fuel
    induction fuel with
    | zero =>
      intro i dg rest h0 hb1 hp hfuel
      exact absurd hfuel (by omega)
    | succ fuel ih9 =>
      intro i dg rest h0 hb1 hp hfuel H locs ls w hl
      refine r_iload_n (pc := 9) C d_X_digitsOf_9 rfl (lv_at hl 3 rfl) ?_
      refine r_bipush (pc := 10) C d_X_digitsOf_10 (by decide) ?_
      refine r_icmp_ge (pc := 12) (tgt := 33) C (by omega) d_X_digitsOf_12 (by decide) (fun c_12 => ?_) (fun c_12 => ?_)
      · skip
        have hz : rest ≤ 0 := by { rw [show i = 10 by omega] at hp; have hp : rest * 10000000000 ≤ n := hp; omega }
        rw [dl_0 hz] at hb1
        refine r_iload_n (pc := 33) C d_X_digitsOf_33 rfl (lv_at hl 1 rfl) ?_
        exact kret _ _ _ _ dg _ d_X_digitsOf_34 w (⟨rfl, by omega⟩)
      · skip
        refine r_iload_n (pc := 15) C d_X_digitsOf_15 rfl (lv_at hl 2 rfl) ?_
        refine r_if_le (pc := 16) (tgt := 33) C (by omega) d_X_digitsOf_16 (by decide) (fun c_16 => ?_) (fun c_16 => ?_)
        · skip
          rw [dl_0 (by omega)] at hb1
          refine r_iload_n (pc := 33) C d_X_digitsOf_33 rfl (lv_at hl 1 rfl) ?_
          exact kret _ _ _ _ dg _ d_X_digitsOf_34 w (⟨rfl, by omega⟩)
        · skip
          have hst := dl_step (n := rest) (by omega)
          refine r_iload_n (pc := 19) C d_X_digitsOf_19 rfl (lv_at hl 2 rfl) ?_
          refine r_bipush (pc := 20) C d_X_digitsOf_20 (by decide) ?_
          refine r_idiv (pc := 22) C d_X_digitsOf_22 (by omega) ?_
          refine r_istore_n (pc := 23) (lv' := [(2, .int (iI (rest / 10))), (0, .int (iI n)), (1, .int (iI dg)), (3, .int (iI i))]) C d_X_digitsOf_23 rfl hl (by decide) rfl (fun ls hl => ?_)
          refine r_iinc (pc := 24) (j := 2) (lv' := [(1, .int (iI (dg + 1))), (2, .int (iI (rest / 10))), (0, .int (iI n)), (3, .int (iI i))]) C d_X_digitsOf_24 hl rfl (by decide) rfl (fun ls hl => ?_)
          refine r_iinc (pc := 27) (j := 3) (lv' := [(3, .int (iI (i + 1))), (1, .int (iI (dg + 1))), (2, .int (iI (rest / 10))), (0, .int (iI n))]) C d_X_digitsOf_27 hl rfl (by decide) rfl (fun ls hl => ?_)
          refine r_goto (pc := 30) (tgt := 9) C d_X_digitsOf_30 (by decide) ?_
          exact ih9 (i + 1) (dg + 1) (rest / 10) (by omega) (by omega) ((by rw [toNat_succ (by omega), Int.pow_succ]; have hp1 : (0 : Int) < 10 ^ i.toNat := Int.pow_pos (by omega); generalize (10 : Int) ^ i.toNat = P at hp hp1 ⊢; have h2 : rest / 10 * 10 * P ≤ rest * P := Int.mul_le_mul_of_nonneg_right (by omega) (by omega); rw [show rest / 10 * (P * 10) = rest / 10 * 10 * P by rw [Int.mul_comm P 10, Int.mul_assoc]]; omega)) (by omega) _ _ _ w (lv_sub hl [3, 1, 2, 0] rfl)
  exact L9 ((10 - 1) + 1 : Int).toNat 1 1 (n / 10) (by first | omega | rfl) (by first | omega | rfl) ((by show n / 10 * 10 ≤ n; omega)) (by omega) _ _ _ w (lv_sub hl [3, 2, 1, 0] rfl)
theorem d_X_charactersOfRun_0 : decode b_X_charactersOfRun 0 = .ok (.iload_n 0, 1) := by decide +kernel
theorem d_X_charactersOfRun_1 : decode b_X_charactersOfRun 1 = .ok (.iconst 1, 1) := by decide +kernel
theorem d_X_charactersOfRun_2 : decode b_X_charactersOfRun 2 = .ok (.if_icmp .ne 7, 3) := by decide +kernel
theorem d_X_charactersOfRun_5 : decode b_X_charactersOfRun 5 = .ok (.iconst 1, 1) := by decide +kernel
theorem d_X_charactersOfRun_6 : decode b_X_charactersOfRun 6 = .ok (.goto 9, 3) := by decide +kernel
theorem d_X_charactersOfRun_9 : decode b_X_charactersOfRun 9 = .ok (.iconst 2, 1) := by decide +kernel
theorem d_X_charactersOfRun_10 : decode b_X_charactersOfRun 10 = .ok (.iload_n 0, 1) := by decide +kernel
theorem d_X_charactersOfRun_11 : decode b_X_charactersOfRun 11 = .ok (.invokestatic 9, 3) := by decide +kernel
theorem d_X_charactersOfRun_14 : decode b_X_charactersOfRun 14 = .ok (.iadd, 1) := by decide +kernel
theorem d_X_charactersOfRun_15 : decode b_X_charactersOfRun 15 = .ok (.ireturn, 1) := by decide +kernel
set_option maxHeartbeats 4000000 in
set_option maxRecDepth 20000 in
theorem c_X_charactersOfRun {l : Launch} {G : va_G} {tys : List (ClassId × FieldType)} (n : Int) (h : 1 ≤ n ∧ n < 2147483648) : CTP l G tys y_X_charactersOfRun b_X_charactersOfRun 1 .int 1 23 [.int (iI n)] (fun z => z = crl n) := by
  unfold CTP
  refine mkI (by decide) (Nat.le_of_ble_eq_true rfl) ?_
  rintro X rfl rfl rfl hRm C kret H ls w hl
  have hl : lv_has ls 1 [(0, .int (iI n))] := hl
  have w : Wd X ([]) H [] := w
  generalize ([] : List Loc) = locs at w ⊢
  have hs := crl_cases n
  refine r_iload_n (pc := 0) C d_X_charactersOfRun_0 rfl (lv_at hl 0 rfl) ?_
  refine r_iconst (pc := 1) C d_X_charactersOfRun_1 ?_
  refine r_icmp_ne (pc := 2) (tgt := 9) C (by omega) d_X_charactersOfRun_2 (by decide) (fun c_2 => ?_) (fun c_2 => ?_)
  · skip
    refine r_iconst (pc := 9) C d_X_charactersOfRun_9 ?_
    refine r_iload_n (pc := 10) C d_X_charactersOfRun_10 rfl (lv_at hl 0 rfl) ?_
    refine r_callP (pc := 11) (As := [.int (iI n)]) (rest := [.int (iI 2)]) C w (c_X_digitsOf n (by omega)) ml_X_9 st_X_digitsOf ini_X cd_X_digitsOf hd_X_digitsOf rfl (by rw [hRm]; exact ⟨⟨Nat.le_of_ble_eq_true rfl, Nat.le_of_ble_eq_true rfl⟩, Nat.le_of_ble_eq_true rfl, Nat.le_of_ble_eq_true rfl⟩) hl.1 rfl (Nat.le_of_ble_eq_true rfl) d_X_charactersOfRun_11 (fun z_11 H locs hz_11 w => ?_)
    subst hz_11
    have hdl := dl_rg n
    refine r_iadd (pc := 14) C d_X_charactersOfRun_14 ?_
    exact kret _ _ _ _ (2 + (dl n)) _ d_X_charactersOfRun_15 w (⟨rfl, by omega⟩)
  · skip
    refine r_iconst (pc := 5) C d_X_charactersOfRun_5 ?_
    refine r_goto (pc := 6) (tgt := 15) C d_X_charactersOfRun_6 (by decide) ?_
    exact kret _ _ _ _ 1 _ d_X_charactersOfRun_15 w (⟨rfl, by omega⟩)
theorem d_X_characterOfRun_0 : decode b_X_characterOfRun 0 = .ok (.iload_n 2, 1) := by decide +kernel
theorem d_X_characterOfRun_1 : decode b_X_characterOfRun 1 = .ok (.ifCond .ne 19, 3) := by decide +kernel
theorem d_X_characterOfRun_4 : decode b_X_characterOfRun 4 = .ok (.iload_n 0, 1) := by decide +kernel
theorem d_X_characterOfRun_5 : decode b_X_characterOfRun 5 = .ok (.bipush 10, 2) := by decide +kernel
theorem d_X_characterOfRun_7 : decode b_X_characterOfRun 7 = .ok (.if_icmp .ne 8, 3) := by decide +kernel
theorem d_X_characterOfRun_10 : decode b_X_characterOfRun 10 = .ok (.bipush 120, 2) := by decide +kernel
theorem d_X_characterOfRun_12 : decode b_X_characterOfRun 12 = .ok (.goto 7, 3) := by decide +kernel
theorem d_X_characterOfRun_15 : decode b_X_characterOfRun 15 = .ok (.bipush 48, 2) := by decide +kernel
theorem d_X_characterOfRun_17 : decode b_X_characterOfRun 17 = .ok (.iload_n 0, 1) := by decide +kernel
theorem d_X_characterOfRun_18 : decode b_X_characterOfRun 18 = .ok (.iadd, 1) := by decide +kernel
theorem d_X_characterOfRun_19 : decode b_X_characterOfRun 19 = .ok (.ireturn, 1) := by decide +kernel
theorem d_X_characterOfRun_20 : decode b_X_characterOfRun 20 = .ok (.iload_n 2, 1) := by decide +kernel
theorem d_X_characterOfRun_21 : decode b_X_characterOfRun 21 = .ok (.iconst 1, 1) := by decide +kernel
theorem d_X_characterOfRun_22 : decode b_X_characterOfRun 22 = .ok (.if_icmp .ne 6, 3) := by decide +kernel
theorem d_X_characterOfRun_25 : decode b_X_characterOfRun 25 = .ok (.bipush 42, 2) := by decide +kernel
theorem d_X_characterOfRun_27 : decode b_X_characterOfRun 27 = .ok (.ireturn, 1) := by decide +kernel
theorem d_X_characterOfRun_28 : decode b_X_characterOfRun 28 = .ok (.iload_n 1, 1) := by decide +kernel
theorem d_X_characterOfRun_29 : decode b_X_characterOfRun 29 = .ok (.istore_n 3, 1) := by decide +kernel
theorem d_X_characterOfRun_30 : decode b_X_characterOfRun 30 = .ok (.iload_n 1, 1) := by decide +kernel
theorem d_X_characterOfRun_31 : decode b_X_characterOfRun 31 = .ok (.invokestatic 9, 3) := by decide +kernel
theorem d_X_characterOfRun_34 : decode b_X_characterOfRun 34 = .ok (.iconst 1, 1) := by decide +kernel
theorem d_X_characterOfRun_35 : decode b_X_characterOfRun 35 = .ok (.iadd, 1) := by decide +kernel
theorem d_X_characterOfRun_36 : decode b_X_characterOfRun 36 = .ok (.iload_n 2, 1) := by decide +kernel
theorem d_X_characterOfRun_37 : decode b_X_characterOfRun 37 = .ok (.isub, 1) := by decide +kernel
theorem d_X_characterOfRun_38 : decode b_X_characterOfRun 38 = .ok (.istore 4, 2) := by decide +kernel
theorem d_X_characterOfRun_40 : decode b_X_characterOfRun 40 = .ok (.iload 4, 2) := by decide +kernel
theorem d_X_characterOfRun_42 : decode b_X_characterOfRun 42 = .ok (.ifCond .le 14, 3) := by decide +kernel
theorem d_X_characterOfRun_45 : decode b_X_characterOfRun 45 = .ok (.iload_n 3, 1) := by decide +kernel
theorem d_X_characterOfRun_46 : decode b_X_characterOfRun 46 = .ok (.bipush 10, 2) := by decide +kernel
theorem d_X_characterOfRun_48 : decode b_X_characterOfRun 48 = .ok (.idiv, 1) := by decide +kernel
theorem d_X_characterOfRun_49 : decode b_X_characterOfRun 49 = .ok (.istore_n 3, 1) := by decide +kernel
theorem d_X_characterOfRun_50 : decode b_X_characterOfRun 50 = .ok (.iinc 4 (-1), 3) := by decide +kernel
theorem d_X_characterOfRun_53 : decode b_X_characterOfRun 53 = .ok (.goto (-13), 3) := by decide +kernel
theorem d_X_characterOfRun_56 : decode b_X_characterOfRun 56 = .ok (.bipush 48, 2) := by decide +kernel
theorem d_X_characterOfRun_58 : decode b_X_characterOfRun 58 = .ok (.iload_n 3, 1) := by decide +kernel
theorem d_X_characterOfRun_59 : decode b_X_characterOfRun 59 = .ok (.bipush 10, 2) := by decide +kernel
theorem d_X_characterOfRun_61 : decode b_X_characterOfRun 61 = .ok (.irem, 1) := by decide +kernel
theorem d_X_characterOfRun_62 : decode b_X_characterOfRun 62 = .ok (.iadd, 1) := by decide +kernel
theorem d_X_characterOfRun_63 : decode b_X_characterOfRun 63 = .ok (.ireturn, 1) := by decide +kernel
set_option maxHeartbeats 4000000 in
set_option maxRecDepth 20000 in
theorem c_X_characterOfRun {l : Launch} {G : va_G} {tys : List (ClassId × FieldType)} (s n a : Int) (h : 1 ≤ n ∧ n < 2147483648) (hs : 0 ≤ s ∧ s ≤ 10) (ha : 0 ≤ a ∧ a < crl n) : CTP l G tys y_X_characterOfRun b_X_characterOfRun 5 .int 1 23 [.int (iI s), .int (iI n), .int (iI a)] (fun z => z = chr_ s n a) := by
  unfold CTP
  refine mkI (by decide) (Nat.le_of_ble_eq_true rfl) ?_
  rintro X rfl rfl rfl hRm C kret H ls w hl
  have hl : lv_has ls 5 [(0, .int (iI s)), (1, .int (iI n)), (2, .int (iI a))] := hl
  have w : Wd X ([]) H [] := w
  generalize ([] : List Loc) = locs at w ⊢
  have hcr := crl_cases n
  have hdl0 := dl_rg n
  refine r_iload_n (pc := 0) C d_X_characterOfRun_0 rfl (lv_at hl 2 rfl) ?_
  refine r_if_ne (pc := 1) (tgt := 20) C (by omega) d_X_characterOfRun_1 (by decide) (fun c_1 => ?_) (fun c_1 => ?_)
  · skip
    refine r_iload_n (pc := 20) C d_X_characterOfRun_20 rfl (lv_at hl 2 rfl) ?_
    refine r_iconst (pc := 21) C d_X_characterOfRun_21 ?_
    refine r_icmp_ne (pc := 22) (tgt := 28) C (by omega) d_X_characterOfRun_22 (by decide) (fun c_22 => ?_) (fun c_22 => ?_)
    · skip
      refine r_iload_n (pc := 28) C d_X_characterOfRun_28 rfl (lv_at hl 1 rfl) ?_
      refine r_istore_n (pc := 29) (lv' := [(3, .int (iI n)), (0, .int (iI s)), (1, .int (iI n)), (2, .int (iI a))]) C d_X_characterOfRun_29 rfl hl (by decide) rfl (fun ls hl => ?_)
      refine r_iload_n (pc := 30) C d_X_characterOfRun_30 rfl (lv_at hl 2 rfl) ?_
      refine r_callP (pc := 31) (As := [.int (iI n)]) (rest := []) C w (c_X_digitsOf n (by omega)) ml_X_9 st_X_digitsOf ini_X cd_X_digitsOf hd_X_digitsOf rfl (by rw [hRm]; exact ⟨⟨Nat.le_of_ble_eq_true rfl, Nat.le_of_ble_eq_true rfl⟩, Nat.le_of_ble_eq_true rfl, Nat.le_of_ble_eq_true rfl⟩) hl.1 rfl (Nat.le_of_ble_eq_true rfl) d_X_characterOfRun_31 (fun z_31 H locs hz_31 w => ?_)
      subst hz_31
      have hdl := dl_rg n
      refine r_iconst (pc := 34) C d_X_characterOfRun_34 ?_
      refine r_iadd (pc := 35) C d_X_characterOfRun_35 ?_
      refine r_iload_n (pc := 36) C d_X_characterOfRun_36 rfl (lv_at hl 3 rfl) ?_
      refine r_isub (pc := 37) C d_X_characterOfRun_37 ?_
      refine r_istore (pc := 38) (lv' := [(4, .int (iI (((dl n) + 1) - a))), (3, .int (iI n)), (0, .int (iI s)), (1, .int (iI n)), (2, .int (iI a))]) C d_X_characterOfRun_38 hl (by decide) rfl (fun ls hl => ?_)
      have L40 : ∀ (fuel : Nat), ∀ (num : Int) (b : Int), 0 ≤ b ∧ b ≤ dl n + 1 - a → 0 ≤ num ∧ num < 2147483648 → num = n / 10 ^ (dl n + 1 - a - b).toNat → b < (fuel : Int) → ∀ (H : Heap) (locs : List Loc) (ls : Array Slot), Wd X ([]) H locs → lv_has ls 5 [(0, .int (iI s)), (1, .int (iI n)), (2, .int (iI a)), (3, .int (iI num)), (4, .int (iI b))] → GG X 0 0 H locs 40 ls [] := by
        intro fuel
        induction fuel with
        | zero =>
          intro num b h0 hr hn hfuel
          exact absurd hfuel (by omega)
        | succ fuel ih40 =>
          intro num b h0 hr hn hfuel H locs ls w hl
          refine r_iload (pc := 40) C d_X_characterOfRun_40 (lv_at hl 4 rfl) ?_
          refine r_if_le (pc := 42) (tgt := 56) C (by omega) d_X_characterOfRun_42 (by decide) (fun c_42 => ?_) (fun c_42 => ?_)
          · skip
            refine r_bipush (pc := 56) C d_X_characterOfRun_56 (by decide) ?_
            refine r_iload_n (pc := 58) C d_X_characterOfRun_58 rfl (lv_at hl 3 rfl) ?_
            refine r_bipush (pc := 59) C d_X_characterOfRun_59 (by decide) ?_
            refine r_irem (pc := 61) C d_X_characterOfRun_61 (by omega) ?_
            refine r_iadd (pc := 62) C d_X_characterOfRun_62 ?_
            exact kret _ _ _ _ (48 + (num % 10)) _ d_X_characterOfRun_63 w (⟨rfl, by unfold chr_; rw [if_neg (by omega), if_neg (by omega), hn, show dl n + 1 - a - b = dl n + 1 - a by omega]⟩)
          · skip
            refine r_iload_n (pc := 45) C d_X_characterOfRun_45 rfl (lv_at hl 3 rfl) ?_
            refine r_bipush (pc := 46) C d_X_characterOfRun_46 (by decide) ?_
            refine r_idiv (pc := 48) C d_X_characterOfRun_48 (by omega) ?_
            have hq : 0 ≤ num / 10 ∧ num / 10 ≤ num := by omega
            refine r_istore_n (pc := 49) (lv' := [(3, .int (iI (num / 10))), (0, .int (iI s)), (1, .int (iI n)), (2, .int (iI a)), (4, .int (iI b))]) C d_X_characterOfRun_49 rfl hl (by decide) rfl (fun ls hl => ?_)
            refine r_iinc (pc := 50) (j := 4) (lv' := [(4, .int (iI (b + (-1)))), (3, .int (iI (num / 10))), (0, .int (iI s)), (1, .int (iI n)), (2, .int (iI a))]) C d_X_characterOfRun_50 hl rfl (by decide) rfl (fun ls hl => ?_)
            refine r_goto (pc := 53) (tgt := 40) C d_X_characterOfRun_53 (by decide) ?_
            exact ih40 (num / 10) (b + (-1)) (by omega) (by omega) ((by rw [show dl n + 1 - a - (b + -1) = (dl n + 1 - a - b) + 1 by omega, div_pow10 (by omega), hn])) (by omega) _ _ _ w (lv_sub hl [2, 3, 4, 1, 0] rfl)
      exact L40 ((((dl n) + 1) - a) + 1 : Int).toNat n (((dl n) + 1) - a) (by first | omega | rfl) (by first | omega | rfl) ((by rw [show dl n + 1 - a - (dl n + 1 - a) = 0 by omega]; show n = n / 1; omega)) (by omega) _ _ _ w (lv_sub hl [2, 3, 4, 1, 0] rfl)
    · skip
      refine r_bipush (pc := 25) C d_X_characterOfRun_25 (by decide) ?_
      exact kret _ _ _ _ 42 _ d_X_characterOfRun_27 w (⟨rfl, by unfold chr_; rw [if_neg (by omega), if_pos (by omega)]⟩)
  · skip
    refine r_iload_n (pc := 4) C d_X_characterOfRun_4 rfl (lv_at hl 0 rfl) ?_
    refine r_bipush (pc := 5) C d_X_characterOfRun_5 (by decide) ?_
    refine r_icmp_ne (pc := 7) (tgt := 15) C (by omega) d_X_characterOfRun_7 (by decide) (fun c_7 => ?_) (fun c_7 => ?_)
    · skip
      refine r_bipush (pc := 15) C d_X_characterOfRun_15 (by decide) ?_
      refine r_iload_n (pc := 17) C d_X_characterOfRun_17 rfl (lv_at hl 0 rfl) ?_
      refine r_iadd (pc := 18) C d_X_characterOfRun_18 ?_
      exact kret _ _ _ _ (48 + s) _ d_X_characterOfRun_19 w (⟨rfl, by unfold chr_; rw [if_pos (by omega)]; split <;> omega⟩)
    · skip
      refine r_bipush (pc := 10) C d_X_characterOfRun_10 (by decide) ?_
      refine r_goto (pc := 12) (tgt := 19) C d_X_characterOfRun_12 (by decide) ?_
      exact kret _ _ _ _ 120 _ d_X_characterOfRun_19 w (⟨rfl, by unfold chr_; rw [if_pos (by omega)]; split <;> omega⟩)
end
section
/-! what a row tells -/
def ic (v : Int → Int) (s : Int) : Int → Int := fun x => if v x = s then 1 else 0
def cn (v : Int → Int) (s f e : Int) : Int := ps (ic v s) e - ps (ic v s) f
theorem count_in {N e f z S k r s : Int} {v sg ln : Int → Int} (hO : Ok r sg ln N v) (h1 : 0 ≤ k) (h2 : k < r) (hf : 0 ≤ f ∧ f ≤ e) (hS : S = ps ln k) (hs : sg k = s) (hz : z = max 0 (min (S + ln k) e - max S f)) : cn v s f (max f (min (S + ln k) e)) = cn v s f (max f (min S e)) + z := by
  obtain ⟨g1, g2, g3, g4, g5, g6⟩ := hO.run h1 h2
  have := ps_all (g := ic v s) (a := max f (min S e)) (by omega) (max f (min (S + ln k) e) - max f (min S e)) (by omega) (fun x q1 q2 => by
    unfold ic
    rw [if_pos]
    rw [hO.2.2.2.2 k h1 h2 x (by omega) (by omega)]
    exact hs)
  rw [show max f (min S e) + (max f (min (S + ln k) e) - max f (min S e)) = max f (min (S + ln k) e) by omega] at this
  unfold cn
  omega
theorem count_out {N e f S k r s : Int} {v sg ln : Int → Int} (hO : Ok r sg ln N v) (h1 : 0 ≤ k) (h2 : k < r) (hf : 0 ≤ f ∧ f ≤ e) (hS : S = ps ln k) (hs : ¬ sg k = s) : cn v s f (max f (min (S + ln k) e)) = cn v s f (max f (min S e)) := by
  obtain ⟨g1, g2, g3, g4, g5, g6⟩ := hO.run h1 h2
  have := ps_none (g := ic v s) (a := max f (min S e)) (by omega) (max f (min (S + ln k) e) - max f (min S e)) (by omega) (fun x q1 q2 => by
    unfold ic
    rw [if_neg]
    rw [hO.2.2.2.2 k h1 h2 x (by omega) (by omega)]
    exact hs)
  rw [show max f (min S e) + (max f (min (S + ln k) e) - max f (min S e)) = max f (min (S + ln k) e) by omega] at this
  unfold cn
  omega
theorem cn_rg {v : Int → Int} {s f e : Int} (hf : 0 ≤ f) (he : f ≤ e) : 0 ≤ cn v s f e ∧ cn v s f e ≤ e - f := by
  have key : ∀ m, 0 ≤ m → 0 ≤ cn v s f (f + m) ∧ cn v s f (f + m) ≤ m := by
    refine int_ind (by unfold cn; rw [Int.add_zero]; omega) (fun m hm ih => ?_)
    unfold cn at ih ⊢
    rw [← Int.add_assoc, ps_succ _ (by omega)]
    have : 0 ≤ ic v s (f + m) ∧ ic v s (f + m) ≤ 1 := by unfold ic; split <;> omega
    omega
  have := key (e - f) (by omega)
  rw [show f + (e - f) = e by omega] at this
  exact this
def umf (v : Int → Int) (N : Int) : Int → Int := fun x => if v x ≠ v (N - 1 - x) then 1 else 0
theorem mirror_step {N S k r : Int} {v sg ln : Int → Int} (hO : Ok r sg ln N v) (h1 : 0 ≤ k) (h2 : k < r) (hS : S = ps ln k) : ps (umf v N) (S + ln k) = ps (umf v N) S + (ln k - cn v (sg k) (N - (S + ln k)) (N - S)) := by
  obtain ⟨g1, g2, g3, g4, g5, g6⟩ := hO.run h1 h2
  have key : ∀ m, 0 ≤ m → m ≤ ln k → ps (umf v N) (S + m) = ps (umf v N) S + (m - cn v (sg k) (N - (S + m)) (N - S)) := by
    refine int_ind (fun _ => by rw [Int.add_zero]; unfold cn; omega) (fun m hm ih h => ?_)
    have ih := ih (by omega)
    have e1 := ps_succ (umf v N) (k := S + m) (by omega)
    have e2 := ps_succ (ic v (sg k)) (k := N - (S + (m + 1))) (by omega)
    rw [show N - (S + (m + 1)) + 1 = N - (S + m) by omega] at e2
    rw [← Int.add_assoc, e1, ih]
    rw [Int.add_assoc S m 1]
    unfold cn
    have hv : v (S + m) = sg k := hO.2.2.2.2 k h1 h2 _ (by omega) (by omega)
    have e3 : umf v N (S + m) = 1 - ic v (sg k) (N - (S + (m + 1))) := by
      unfold umf ic
      rw [hv, show N - 1 - (S + m) = N - (S + (m + 1)) by omega]
      by_cases q : v (N - (S + (m + 1))) = sg k
      · rw [if_pos q, if_neg (by rw [q]; exact fun z => z rfl)]; rfl
      · rw [if_neg q, if_pos (fun z => q z.symm)]; rfl
    omega
  exact key (ln k) (by omega) (by omega)
def smf (sg ln : Int → Int) : Int → Int := fun k => if sg k = 10 then 0 else sg k * ln k
def mxN (f : Int → Int) : Nat → Int
  | 0 => 0
  | k + 1 => max (mxN f k) (f (k : Int))
def mx (f : Int → Int) (k : Int) : Int := mxN f k.toNat
theorem mx_zero (f : Int → Int) : mx f 0 = 0 := rfl
theorem mx_succ (f : Int → Int) {k : Int} (h : 0 ≤ k) : mx f (k + 1) = max (mx f k) (f k) := by
  unfold mx
  rw [toNat_succ h]
  show max (mxN f k.toNat) (f ((k.toNat : Nat) : Int)) = _
  rw [Int.toNat_of_nonneg h]
def rbf (code : Int) (sg ln : Int → Int) : Int → Int := fun k => rb code (sg k) (ln k)
def crf (ln : Int → Int) : Int → Int := fun k => crl (ln k)
theorem ps_bound {f : Int → Int} {lo hi : Int} : ∀ k, 0 ≤ k → (∀ j, 0 ≤ j → j < k → lo ≤ f j ∧ f j ≤ hi) → lo * k ≤ ps f k ∧ ps f k ≤ hi * k := by
  refine int_ind (fun _ => by rw [ps_zero]; omega) (fun k hk ih h => ?_)
  have h1 := ih (fun j h1 h2 => h j h1 (by omega))
  have h2 := h k hk (by omega)
  rw [ps_succ f hk, Int.mul_add, Int.mul_add]
  omega
theorem allBits_rg {code r N : Int} {sg ln v : Int → Int} (hO : Ok r sg ln N v) (hN : N ≤ 3000) {k : Int} (h0 : 0 ≤ k) (h1 : k ≤ r) : 0 ≤ ps (rbf code sg ln) k ∧ ps (rbf code sg ln) k ≤ 66 * k := by
  have := ps_bound (f := rbf code sg ln) (lo := 0) (hi := 66) k h0 (fun j h2 h3 => by
    have g := hO.run h2 (by omega : j < r)
    have := rb_rg (code := code) (s := sg j) (n := ln j) (by omega)
    unfold rbf
    omega)
  omega
/-- a bit of the row -/
def BitAt (code r : Int) (sg ln : Int → Int) (at_ z : Int) : Prop := ((at_ < 0 ∨ ps (rbf code sg ln) r ≤ at_) ∧ z = -1) ∨ ∃ k, 0 ≤ k ∧ k < r ∧ ps (rbf code sg ln) k ≤ at_ ∧ at_ < ps (rbf code sg ln) (k + 1) ∧ z = brun code (sg k) (ln k) (at_ - ps (rbf code sg ln) k)
/-- a character of the row: W holds its m characters -/
def Txt (W : Int → Int) (r : Int) (sg ln : Int → Int) (m : Int) : Prop := m = max 0 (r - 1) + ps (crf ln) r ∧ (∀ k, 0 ≤ k → k < r → ∀ j, 0 ≤ j → j < crl (ln k) → W (ps (crf ln) k + k + j) = chr_ (sg k) (ln k) j) ∧ ∀ k, 1 ≤ k → k < r → W (ps (crf ln) k + k - 1) = 59
theorem crf_pos {r N : Int} {sg ln v : Int → Int} (hO : Ok r sg ln N v) (hN : N ≤ 3000) {k : Int} (h0 : 0 ≤ k) (h1 : k < r) : 1 ≤ crf ln k ∧ crf ln k ≤ 6 ∧ crl (ln k) = crf ln k ∧ ps (crf ln) (k + 1) = ps (crf ln) k + crf ln k := by
  have g := hO.run h0 h1
  have c1 := crl_cases (ln k)
  have c2 := dl_cases (n := ln k) (by omega)
  refine ⟨?_, ?_, rfl, ps_succ _ h0⟩ <;> (unfold crf; omega)
theorem crf_mono {r N : Int} {sg ln v : Int → Int} (hO : Ok r sg ln N v) (hN : N ≤ 3000) {j k : Int} (h0 : 0 ≤ j) (hjk : j ≤ k) (h1 : k ≤ r) : 0 ≤ ps (crf ln) j ∧ ps (crf ln) j ≤ ps (crf ln) k := by
  have h := ps_le (f := crf ln) h0 hjk (fun i q1 q2 => by have := crf_pos hO hN q1 (by omega : i < r); omega)
  have h2 := ps_le (f := crf ln) (j := 0) (k := j) (by omega) h0 (fun i q1 q2 => by have := crf_pos hO hN q1 (by omega : i < r); omega)
  rw [ps_zero] at h2
  exact ⟨h2, h⟩
/-- the longest live stretch, place by place: length that runs, longest, its first place (-6: none) -/
def llN (v : Int → Int) : Nat → Int × Int × Int
  | 0 => (0, 0, -6)
  | x + 1 => if v (x : Int) = 10 then (0, (llN v x).2.1, (llN v x).2.2) else if (llN v x).2.1 < (llN v x).1 + 1 then ((llN v x).1 + 1, (llN v x).1 + 1, (x : Int) - (llN v x).1) else ((llN v x).1 + 1, (llN v x).2.1, (llN v x).2.2)
def ll (v : Int → Int) (x : Int) : Int × Int × Int := llN v x.toNat
theorem ll_zero (v : Int → Int) : ll v 0 = (0, 0, -6) := rfl
theorem ll_succ (v : Int → Int) {x : Int} (h : 0 ≤ x) : ll v (x + 1) = if v x = 10 then (0, (ll v x).2.1, (ll v x).2.2) else if (ll v x).2.1 < (ll v x).1 + 1 then ((ll v x).1 + 1, (ll v x).1 + 1, x - (ll v x).1) else ((ll v x).1 + 1, (ll v x).2.1, (ll v x).2.2) := by
  unfold ll
  rw [toNat_succ h]
  show (if v ((x.toNat : Nat) : Int) = 10 then _ else if _ then (_, _, ((x.toNat : Nat) : Int) - _) else _) = _
  rw [Int.toNat_of_nonneg h]
theorem ll_rg (v : Int → Int) : ∀ x, 0 ≤ x → 0 ≤ (ll v x).1 ∧ (ll v x).1 ≤ (ll v x).2.1 ∧ (ll v x).2.1 ≤ x ∧ ((ll v x).2.1 = 0 → (ll v x).2.2 = -6) ∧ ((ll v x).2.1 ≠ 0 → 0 ≤ (ll v x).2.2) ∧ (ll v x).1 ≤ x := by
  refine int_ind (by rw [ll_zero]; decide) (fun x hx ih => ?_)
  rw [ll_succ v hx]
  obtain ⟨a1, a2, a3, a4, a5, a6⟩ := ih
  by_cases h1 : v x = 10
  · rw [if_pos h1]
    exact ⟨by show (0 : Int) ≤ 0; omega, by show (0 : Int) ≤ (ll v x).2.1; omega, by show (ll v x).2.1 ≤ x + 1; omega, a4, a5, by show (0 : Int) ≤ x + 1; omega⟩
  · rw [if_neg h1]
    by_cases h2 : (ll v x).2.1 < (ll v x).1 + 1
    · rw [if_pos h2]
      exact ⟨by show 0 ≤ (ll v x).1 + 1; omega, by show (ll v x).1 + 1 ≤ (ll v x).1 + 1; omega, by show (ll v x).1 + 1 ≤ x + 1; omega, fun z => by have z : (ll v x).1 + 1 = 0 := z; omega, fun _ => by show 0 ≤ x - (ll v x).1; omega, by show (ll v x).1 + 1 ≤ x + 1; omega⟩
    · rw [if_neg h2]
      exact ⟨by show 0 ≤ (ll v x).1 + 1; omega, by show (ll v x).1 + 1 ≤ (ll v x).2.1; omega, by show (ll v x).2.1 ≤ x + 1; omega, a4, a5, by show (ll v x).1 + 1 ≤ x + 1; omega⟩
theorem ll_dead {v : Int → Int} {a : Int} (ha : 0 ≤ a) : ∀ m, 0 ≤ m → (∀ x, a ≤ x → x < a + m + 1 → v x = 10) → ll v (a + m + 1) = (0, (ll v a).2.1, (ll v a).2.2) := by
  refine int_ind (fun h => ?_) (fun m hm ih h => ?_)
  · rw [Int.add_zero, ll_succ v ha, if_pos (h a (by omega) (by omega))]
  · rw [show a + (m + 1) + 1 = (a + m + 1) + 1 by omega, ll_succ v (by omega), if_pos (h _ (by omega) (by omega)), ih (fun x h1 h2 => h x h1 (by omega))]
theorem ll_live {v : Int → Int} {a : Int} (ha : 0 ≤ a) : ∀ m, 0 ≤ m → (∀ x, a ≤ x → x < a + m → v x ≠ 10) → ll v (a + m) = if (ll v a).2.1 < (ll v a).1 + m then ((ll v a).1 + m, (ll v a).1 + m, a - (ll v a).1) else ((ll v a).1 + m, (ll v a).2.1, (ll v a).2.2) := by
  refine int_ind (fun _ => ?_) (fun m hm ih h => ?_)
  · have := ll_rg v a ha
    rw [Int.add_zero, Int.add_zero, if_neg (by omega)]
  · have ih := ih (fun x h1 h2 => h x h1 (by omega))
    rw [← Int.add_assoc, ll_succ v (by omega), if_neg (h _ (by omega) (by omega)), ih]
    by_cases q : (ll v a).2.1 < (ll v a).1 + m
    · rw [if_pos q, if_pos (by show (ll v a).1 + m < (ll v a).1 + m + 1; omega), if_pos (by omega : (ll v a).2.1 < (ll v a).1 + (m + 1))]
      show ((ll v a).1 + m + 1, (ll v a).1 + m + 1, a + m - ((ll v a).1 + m)) = _
      rw [show (ll v a).1 + m + 1 = (ll v a).1 + (m + 1) by omega, show a + m - ((ll v a).1 + m) = a - (ll v a).1 by omega]
    · rw [if_neg q]
      by_cases q2 : (ll v a).2.1 < (ll v a).1 + (m + 1)
      · rw [if_pos (by show (ll v a).2.1 < (ll v a).1 + m + 1; omega), if_pos q2]
        show ((ll v a).1 + m + 1, (ll v a).1 + m + 1, a + m - ((ll v a).1 + m)) = _
        rw [show (ll v a).1 + m + 1 = (ll v a).1 + (m + 1) by omega, show a + m - ((ll v a).1 + m) = a - (ll v a).1 by omega]
      · rw [if_neg (by show ¬ (ll v a).2.1 < (ll v a).1 + m + 1; omega), if_neg q2]
        show ((ll v a).1 + m + 1, (ll v a).2.1, (ll v a).2.2) = _
        rw [show (ll v a).1 + m + 1 = (ll v a).1 + (m + 1) by omega]
/-- bits saved by a write -/
def svd (code r : Int) (sg ln : Int → Int) (k val : Int) : Int := if sg k = 10 then 0 else rb code (sg k) (ln k) + (if 0 < k ∧ sg (k - 1) = val then rb code (sg (k - 1)) (ln (k - 1)) else 0) + (if k < r - 1 ∧ sg (k + 1) = val then rb code (sg (k + 1)) (ln (k + 1)) else 0) - rb code val (ln k + (if 0 < k ∧ sg (k - 1) = val then ln (k - 1) else 0) + (if k < r - 1 ∧ sg (k + 1) = val then ln (k + 1) else 0))

theorem d_S_signOf_0 : decode b_S_signOf 0 = .ok (.iload_n 1, 1) := by decide +kernel
theorem d_S_signOf_1 : decode b_S_signOf 1 = .ok (.ifCond .lt 20, 3) := by decide +kernel
theorem d_S_signOf_4 : decode b_S_signOf 4 = .ok (.iload_n 1, 1) := by decide +kernel
theorem d_S_signOf_5 : decode b_S_signOf 5 = .ok (.aload_n 0, 1) := by decide +kernel
theorem d_S_signOf_6 : decode b_S_signOf 6 = .ok (.getfield 18, 3) := by decide +kernel
theorem d_S_signOf_9 : decode b_S_signOf 9 = .ok (.if_icmp .ge 12, 3) := by decide +kernel
theorem d_S_signOf_12 : decode b_S_signOf 12 = .ok (.aload_n 0, 1) := by decide +kernel
theorem d_S_signOf_13 : decode b_S_signOf 13 = .ok (.getfield 9, 3) := by decide +kernel
theorem d_S_signOf_16 : decode b_S_signOf 16 = .ok (.iload_n 1, 1) := by decide +kernel
theorem d_S_signOf_17 : decode b_S_signOf 17 = .ok (.iaload, 1) := by decide +kernel
theorem d_S_signOf_18 : decode b_S_signOf 18 = .ok (.goto 4, 3) := by decide +kernel
theorem d_S_signOf_21 : decode b_S_signOf 21 = .ok (.iconst (-1), 1) := by decide +kernel
theorem d_S_signOf_22 : decode b_S_signOf 22 = .ok (.ireturn, 1) := by decide +kernel
set_option maxHeartbeats 4000000 in
set_option maxRecDepth 20000 in
theorem c_S_signOf {l : Launch} {G : va_G} {tys : List (ClassId × FieldType)} {cI cO cZ : ClassId} (hT : TY tys cI cO cZ) (q a b : Nat) (sg ln : Int → Int) (r pl ov lc sd : Int) (N : Int) (v : Int → Int) (hO : Ok r sg ln N v) (hr : r ≤ 50) (hN : N ≤ 3000) (k : Int) (hk : 0 ≤ k ∧ k < r) : CTI l G tys y_S_signOf b_S_signOf 2 .int 0 0 [.ref q, .int (iI k)] (sw cI q a b sg ln r pl ov lc sd) (fun z u => u = sw cI q a b sg ln r pl ov lc sd ∧ (z = sg k)) := by
  refine mkI (by decide) (Nat.le_of_ble_eq_true rfl) ?_
  rintro X rfl rfl rfl hRm C kret H ls w hl
  have hl : lv_has ls 2 [(0, .ref q), (1, .int (iI k))] := hl
  have w : Wd X (sw cI q a b sg ln r pl ov lc sd) H [] := w
  generalize ([] : List Loc) = locs at w ⊢
  have hr0 := hO.1
  have hN0 := hO.n0
  have hps := ps_zero ln
  have hpr := hO.2.2.2.1
  refine r_iload_n (pc := 0) C d_S_signOf_0 rfl (lv_at hl 1 rfl) ?_
  refine r_if_lt (pc := 1) (tgt := 21) C (by omega) d_S_signOf_1 (by decide) (fun c_1 => ?_) (fun c_1 => ?_)
  · skip
    refine r_iconst (pc := 21) C d_S_signOf_21 ?_
    exact kret _ _ _ _ (-1) _ d_S_signOf_22 w (⟨rfl, by first | rfl | omega⟩)
  · skip
    refine r_iload_n (pc := 4) C d_S_signOf_4 rfl (lv_at hl 1 rfl) ?_
    refine r_aload_n (pc := 5) C d_S_signOf_5 rfl (lv_at hl 0 rfl) ?_
    refine r_get (pc := 6) (v := .int (iI r)) C w i_S rfl 0 rfl 2 (by decide) fl_S_18 rfl rfl d_S_signOf_6 ?_
    refine r_icmp_ge (pc := 9) (tgt := 21) C (by omega) d_S_signOf_9 (by decide) (fun c_9 => ?_) (fun c_9 => ?_)
    · skip
      refine r_iconst (pc := 21) C d_S_signOf_21 ?_
      exact kret _ _ _ _ (-1) _ d_S_signOf_22 w (⟨rfl, by first | rfl | omega⟩)
    · skip
      refine r_aload_n (pc := 12) C d_S_signOf_12 rfl (lv_at hl 0 rfl) ?_
      refine r_get (pc := 13) (v := .ref a) C w i_S rfl 0 rfl 0 (by decide) fl_S_9 rfl rfl d_S_signOf_13 ?_
      refine r_iload_n (pc := 16) C d_S_signOf_16 rfl (lv_at hl 1 rfl) ?_
      refine r_iald (pc := 17) (f := sg) (i := k) C w 0 1 rfl hT.1 (by omega) d_S_signOf_17 ?_
      refine r_goto (pc := 18) (tgt := 22) C d_S_signOf_18 (by decide) ?_
      exact kret _ _ _ _ (sg k) _ d_S_signOf_22 w (⟨rfl, by first | rfl | omega⟩)
theorem d_S_lengthOf_0 : decode b_S_lengthOf 0 = .ok (.iload_n 1, 1) := by decide +kernel
theorem d_S_lengthOf_1 : decode b_S_lengthOf 1 = .ok (.ifCond .lt 20, 3) := by decide +kernel
theorem d_S_lengthOf_4 : decode b_S_lengthOf 4 = .ok (.iload_n 1, 1) := by decide +kernel
theorem d_S_lengthOf_5 : decode b_S_lengthOf 5 = .ok (.aload_n 0, 1) := by decide +kernel
theorem d_S_lengthOf_6 : decode b_S_lengthOf 6 = .ok (.getfield 18, 3) := by decide +kernel
theorem d_S_lengthOf_9 : decode b_S_lengthOf 9 = .ok (.if_icmp .ge 12, 3) := by decide +kernel
theorem d_S_lengthOf_12 : decode b_S_lengthOf 12 = .ok (.aload_n 0, 1) := by decide +kernel
theorem d_S_lengthOf_13 : decode b_S_lengthOf 13 = .ok (.getfield 15, 3) := by decide +kernel
theorem d_S_lengthOf_16 : decode b_S_lengthOf 16 = .ok (.iload_n 1, 1) := by decide +kernel
theorem d_S_lengthOf_17 : decode b_S_lengthOf 17 = .ok (.iaload, 1) := by decide +kernel
theorem d_S_lengthOf_18 : decode b_S_lengthOf 18 = .ok (.goto 4, 3) := by decide +kernel
theorem d_S_lengthOf_21 : decode b_S_lengthOf 21 = .ok (.iconst (-1), 1) := by decide +kernel
theorem d_S_lengthOf_22 : decode b_S_lengthOf 22 = .ok (.ireturn, 1) := by decide +kernel
set_option maxHeartbeats 4000000 in
set_option maxRecDepth 20000 in
theorem c_S_lengthOf {l : Launch} {G : va_G} {tys : List (ClassId × FieldType)} {cI cO cZ : ClassId} (hT : TY tys cI cO cZ) (q a b : Nat) (sg ln : Int → Int) (r pl ov lc sd : Int) (N : Int) (v : Int → Int) (hO : Ok r sg ln N v) (hr : r ≤ 50) (hN : N ≤ 3000) (k : Int) (hk : 0 ≤ k ∧ k < r) : CTI l G tys y_S_lengthOf b_S_lengthOf 2 .int 0 0 [.ref q, .int (iI k)] (sw cI q a b sg ln r pl ov lc sd) (fun z u => u = sw cI q a b sg ln r pl ov lc sd ∧ (z = ln k)) := by
  refine mkI (by decide) (Nat.le_of_ble_eq_true rfl) ?_
  rintro X rfl rfl rfl hRm C kret H ls w hl
  have hl : lv_has ls 2 [(0, .ref q), (1, .int (iI k))] := hl
  have w : Wd X (sw cI q a b sg ln r pl ov lc sd) H [] := w
  generalize ([] : List Loc) = locs at w ⊢
  have hr0 := hO.1
  have hN0 := hO.n0
  have hps := ps_zero ln
  have hpr := hO.2.2.2.1
  refine r_iload_n (pc := 0) C d_S_lengthOf_0 rfl (lv_at hl 1 rfl) ?_
  refine r_if_lt (pc := 1) (tgt := 21) C (by omega) d_S_lengthOf_1 (by decide) (fun c_1 => ?_) (fun c_1 => ?_)
  · skip
    refine r_iconst (pc := 21) C d_S_lengthOf_21 ?_
    exact kret _ _ _ _ (-1) _ d_S_lengthOf_22 w (⟨rfl, by first | rfl | omega⟩)
  · skip
    refine r_iload_n (pc := 4) C d_S_lengthOf_4 rfl (lv_at hl 1 rfl) ?_
    refine r_aload_n (pc := 5) C d_S_lengthOf_5 rfl (lv_at hl 0 rfl) ?_
    refine r_get (pc := 6) (v := .int (iI r)) C w i_S rfl 0 rfl 2 (by decide) fl_S_18 rfl rfl d_S_lengthOf_6 ?_
    refine r_icmp_ge (pc := 9) (tgt := 21) C (by omega) d_S_lengthOf_9 (by decide) (fun c_9 => ?_) (fun c_9 => ?_)
    · skip
      refine r_iconst (pc := 21) C d_S_lengthOf_21 ?_
      exact kret _ _ _ _ (-1) _ d_S_lengthOf_22 w (⟨rfl, by first | rfl | omega⟩)
    · skip
      refine r_aload_n (pc := 12) C d_S_lengthOf_12 rfl (lv_at hl 0 rfl) ?_
      refine r_get (pc := 13) (v := .ref b) C w i_S rfl 0 rfl 1 (by decide) fl_S_15 rfl rfl d_S_lengthOf_13 ?_
      refine r_iload_n (pc := 16) C d_S_lengthOf_16 rfl (lv_at hl 1 rfl) ?_
      refine r_iald (pc := 17) (f := ln) (i := k) C w 0 2 rfl hT.1 (by omega) d_S_lengthOf_17 ?_
      refine r_goto (pc := 18) (tgt := 22) C d_S_lengthOf_18 (by decide) ?_
      exact kret _ _ _ _ (ln k) _ d_S_lengthOf_22 w (⟨rfl, by first | rfl | omega⟩)
theorem d_S_bitsOf_0 : decode b_S_bitsOf 0 = .ok (.iload_n 1, 1) := by decide +kernel
theorem d_S_bitsOf_1 : decode b_S_bitsOf 1 = .ok (.ifCond .lt 30, 3) := by decide +kernel
theorem d_S_bitsOf_4 : decode b_S_bitsOf 4 = .ok (.iload_n 1, 1) := by decide +kernel
theorem d_S_bitsOf_5 : decode b_S_bitsOf 5 = .ok (.aload_n 0, 1) := by decide +kernel
theorem d_S_bitsOf_6 : decode b_S_bitsOf 6 = .ok (.getfield 18, 3) := by decide +kernel
theorem d_S_bitsOf_9 : decode b_S_bitsOf 9 = .ok (.if_icmp .ge 22, 3) := by decide +kernel
theorem d_S_bitsOf_12 : decode b_S_bitsOf 12 = .ok (.iload_n 2, 1) := by decide +kernel
theorem d_S_bitsOf_13 : decode b_S_bitsOf 13 = .ok (.aload_n 0, 1) := by decide +kernel
theorem d_S_bitsOf_14 : decode b_S_bitsOf 14 = .ok (.getfield 9, 3) := by decide +kernel
theorem d_S_bitsOf_17 : decode b_S_bitsOf 17 = .ok (.iload_n 1, 1) := by decide +kernel
theorem d_S_bitsOf_18 : decode b_S_bitsOf 18 = .ok (.iaload, 1) := by decide +kernel
theorem d_S_bitsOf_19 : decode b_S_bitsOf 19 = .ok (.aload_n 0, 1) := by decide +kernel
theorem d_S_bitsOf_20 : decode b_S_bitsOf 20 = .ok (.getfield 15, 3) := by decide +kernel
theorem d_S_bitsOf_23 : decode b_S_bitsOf 23 = .ok (.iload_n 1, 1) := by decide +kernel
theorem d_S_bitsOf_24 : decode b_S_bitsOf 24 = .ok (.iaload, 1) := by decide +kernel
theorem d_S_bitsOf_25 : decode b_S_bitsOf 25 = .ok (.invokestatic 64, 3) := by decide +kernel
theorem d_S_bitsOf_28 : decode b_S_bitsOf 28 = .ok (.goto 4, 3) := by decide +kernel
theorem d_S_bitsOf_31 : decode b_S_bitsOf 31 = .ok (.iconst (-1), 1) := by decide +kernel
theorem d_S_bitsOf_32 : decode b_S_bitsOf 32 = .ok (.ireturn, 1) := by decide +kernel
set_option maxHeartbeats 4000000 in
set_option maxRecDepth 20000 in
theorem c_S_bitsOf {l : Launch} {G : va_G} {tys : List (ClassId × FieldType)} {cI cO cZ : ClassId} (hT : TY tys cI cO cZ) (q a b : Nat) (sg ln : Int → Int) (r pl ov lc sd : Int) (N : Int) (v : Int → Int) (hO : Ok r sg ln N v) (hr : r ≤ 50) (hN : N ≤ 3000) (k code : Int) (hk : 0 ≤ k ∧ k < r) (hc : 0 ≤ code ∧ code ≤ 2) : CTI l G tys y_S_bitsOf b_S_bitsOf 3 .int 3 67 [.ref q, .int (iI k), .int (iI code)] (sw cI q a b sg ln r pl ov lc sd) (fun z u => u = sw cI q a b sg ln r pl ov lc sd ∧ (z = rb code (sg k) (ln k))) := by
  refine mkI (by decide) (Nat.le_of_ble_eq_true rfl) ?_
  rintro X rfl rfl rfl hRm C kret H ls w hl
  have hl : lv_has ls 3 [(0, .ref q), (1, .int (iI k)), (2, .int (iI code))] := hl
  have w : Wd X (sw cI q a b sg ln r pl ov lc sd) H [] := w
  generalize ([] : List Loc) = locs at w ⊢
  have hr0 := hO.1
  have hN0 := hO.n0
  have hps := ps_zero ln
  have hpr := hO.2.2.2.1
  refine r_iload_n (pc := 0) C d_S_bitsOf_0 rfl (lv_at hl 1 rfl) ?_
  refine r_if_lt (pc := 1) (tgt := 31) C (by omega) d_S_bitsOf_1 (by decide) (fun c_1 => ?_) (fun c_1 => ?_)
  · skip
    refine r_iconst (pc := 31) C d_S_bitsOf_31 ?_
    exact kret _ _ _ _ (-1) _ d_S_bitsOf_32 w (⟨rfl, by first | rfl | omega⟩)
  · skip
    refine r_iload_n (pc := 4) C d_S_bitsOf_4 rfl (lv_at hl 1 rfl) ?_
    refine r_aload_n (pc := 5) C d_S_bitsOf_5 rfl (lv_at hl 0 rfl) ?_
    refine r_get (pc := 6) (v := .int (iI r)) C w i_S rfl 0 rfl 2 (by decide) fl_S_18 rfl rfl d_S_bitsOf_6 ?_
    refine r_icmp_ge (pc := 9) (tgt := 31) C (by omega) d_S_bitsOf_9 (by decide) (fun c_9 => ?_) (fun c_9 => ?_)
    · skip
      refine r_iconst (pc := 31) C d_S_bitsOf_31 ?_
      exact kret _ _ _ _ (-1) _ d_S_bitsOf_32 w (⟨rfl, by first | rfl | omega⟩)
    · skip
      have hk2 := hO.run (k := k) (by omega) (by omega)
      refine r_iload_n (pc := 12) C d_S_bitsOf_12 rfl (lv_at hl 2 rfl) ?_
      refine r_aload_n (pc := 13) C d_S_bitsOf_13 rfl (lv_at hl 0 rfl) ?_
      refine r_get (pc := 14) (v := .ref a) C w i_S rfl 0 rfl 0 (by decide) fl_S_9 rfl rfl d_S_bitsOf_14 ?_
      refine r_iload_n (pc := 17) C d_S_bitsOf_17 rfl (lv_at hl 1 rfl) ?_
      refine r_iald (pc := 18) (f := sg) (i := k) C w 0 1 rfl hT.1 (by omega) d_S_bitsOf_18 ?_
      refine r_aload_n (pc := 19) C d_S_bitsOf_19 rfl (lv_at hl 0 rfl) ?_
      refine r_get (pc := 20) (v := .ref b) C w i_S rfl 0 rfl 1 (by decide) fl_S_15 rfl rfl d_S_bitsOf_20 ?_
      refine r_iload_n (pc := 23) C d_S_bitsOf_23 rfl (lv_at hl 1 rfl) ?_
      refine r_iald (pc := 24) (f := ln) (i := k) C w 0 2 rfl hT.1 (by omega) d_S_bitsOf_24 ?_
      refine r_callP (pc := 25) (As := [.int (iI code), .int (iI (sg k)), .int (iI (ln k))]) (rest := []) C w (c_C_bitsOfRun code (sg k) (ln k) (by omega) (by omega) (by omega)) ml_S_64 st_C_bitsOfRun ini_C cd_C_bitsOfRun hd_C_bitsOfRun rfl (by rw [hRm]; exact ⟨⟨Nat.le_of_ble_eq_true rfl, Nat.le_of_ble_eq_true rfl⟩, Nat.le_of_ble_eq_true rfl, Nat.le_of_ble_eq_true rfl⟩) hl.1 rfl (Nat.le_of_ble_eq_true rfl) d_S_bitsOf_25 (fun z_25 H locs hz_25 w => ?_)
      subst hz_25
      have hrb := rb_rg (code := code) (s := (sg k)) (n := (ln k)) (by omega)
      refine r_goto (pc := 28) (tgt := 32) C d_S_bitsOf_28 (by decide) ?_
      exact kret _ _ _ _ (rb code (sg k) (ln k)) _ d_S_bitsOf_32 w (⟨rfl, by first | rfl | omega⟩)
theorem d_S_firstOf_0 : decode b_S_firstOf 0 = .ok (.iconst 0, 1) := by decide +kernel
theorem d_S_firstOf_1 : decode b_S_firstOf 1 = .ok (.istore_n 2, 1) := by decide +kernel
theorem d_S_firstOf_2 : decode b_S_firstOf 2 = .ok (.iconst 0, 1) := by decide +kernel
theorem d_S_firstOf_3 : decode b_S_firstOf 3 = .ok (.istore_n 3, 1) := by decide +kernel
theorem d_S_firstOf_4 : decode b_S_firstOf 4 = .ok (.iload_n 3, 1) := by decide +kernel
theorem d_S_firstOf_5 : decode b_S_firstOf 5 = .ok (.iload_n 1, 1) := by decide +kernel
theorem d_S_firstOf_6 : decode b_S_firstOf 6 = .ok (.if_icmp .ge 26, 3) := by decide +kernel
theorem d_S_firstOf_9 : decode b_S_firstOf 9 = .ok (.iload_n 3, 1) := by decide +kernel
theorem d_S_firstOf_10 : decode b_S_firstOf 10 = .ok (.aload_n 0, 1) := by decide +kernel
theorem d_S_firstOf_11 : decode b_S_firstOf 11 = .ok (.getfield 18, 3) := by decide +kernel
theorem d_S_firstOf_14 : decode b_S_firstOf 14 = .ok (.if_icmp .ge 18, 3) := by decide +kernel
theorem d_S_firstOf_17 : decode b_S_firstOf 17 = .ok (.iload_n 2, 1) := by decide +kernel
theorem d_S_firstOf_18 : decode b_S_firstOf 18 = .ok (.aload_n 0, 1) := by decide +kernel
theorem d_S_firstOf_19 : decode b_S_firstOf 19 = .ok (.getfield 15, 3) := by decide +kernel
theorem d_S_firstOf_22 : decode b_S_firstOf 22 = .ok (.iload_n 3, 1) := by decide +kernel
theorem d_S_firstOf_23 : decode b_S_firstOf 23 = .ok (.iaload, 1) := by decide +kernel
theorem d_S_firstOf_24 : decode b_S_firstOf 24 = .ok (.iadd, 1) := by decide +kernel
theorem d_S_firstOf_25 : decode b_S_firstOf 25 = .ok (.istore_n 2, 1) := by decide +kernel
theorem d_S_firstOf_26 : decode b_S_firstOf 26 = .ok (.iinc 3 1, 3) := by decide +kernel
theorem d_S_firstOf_29 : decode b_S_firstOf 29 = .ok (.goto (-25), 3) := by decide +kernel
theorem d_S_firstOf_32 : decode b_S_firstOf 32 = .ok (.iload_n 2, 1) := by decide +kernel
theorem d_S_firstOf_33 : decode b_S_firstOf 33 = .ok (.ireturn, 1) := by decide +kernel
set_option maxHeartbeats 4000000 in
set_option maxRecDepth 20000 in
theorem c_S_firstOf {l : Launch} {G : va_G} {tys : List (ClassId × FieldType)} {cI cO cZ : ClassId} (hT : TY tys cI cO cZ) (q a b : Nat) (sg ln : Int → Int) (r pl ov lc sd : Int) (N : Int) (v : Int → Int) (hO : Ok r sg ln N v) (hr : r ≤ 50) (hN : N ≤ 3000) (k : Int) (hk : 0 ≤ k ∧ k ≤ r) : CTI l G tys y_S_firstOf b_S_firstOf 4 .int 0 0 [.ref q, .int (iI k)] (sw cI q a b sg ln r pl ov lc sd) (fun z u => u = sw cI q a b sg ln r pl ov lc sd ∧ (z = ps ln k)) := by
  refine mkI (by decide) (Nat.le_of_ble_eq_true rfl) ?_
  rintro X rfl rfl rfl hRm C kret H ls w hl
  have hl : lv_has ls 4 [(0, .ref q), (1, .int (iI k))] := hl
  have w : Wd X (sw cI q a b sg ln r pl ov lc sd) H [] := w
  generalize ([] : List Loc) = locs at w ⊢
  have hr0 := hO.1
  have hN0 := hO.n0
  have hps := ps_zero ln
  have hpr := hO.2.2.2.1
  refine r_iconst (pc := 0) C d_S_firstOf_0 ?_
  refine r_istore_n (pc := 1) (lv' := [(2, .int (iI 0)), (0, .ref q), (1, .int (iI k))]) C d_S_firstOf_1 rfl hl (by decide) rfl (fun ls hl => ?_)
  refine r_iconst (pc := 2) C d_S_firstOf_2 ?_
  refine r_istore_n (pc := 3) (lv' := [(3, .int (iI 0)), (2, .int (iI 0)), (0, .ref q), (1, .int (iI k))]) C d_S_firstOf_3 rfl hl (by decide) rfl (fun ls hl => ?_)
  have L4 : ∀ (fuel : Nat), ∀ (i : Int) (fs : Int), 0 ≤ i ∧ i ≤ k → fs = ps ln i → (k - i) < (fuel : Int) → ∀ (H : Heap) (locs : List Loc) (ls : Array Slot), Wd X (sw cI q a b sg ln r pl ov lc sd) H locs → lv_has ls 4 [(0, .ref q), (1, .int (iI k)), (2, .int (iI fs)), (3, .int (iI i))] → GG X 0 0 H locs 4 ls [] := by
    intro fuel
    induction fuel with
    | zero =>
      intro i fs h0 hf hfuel
      exact absurd hfuel (by omega)
    | succ fuel ih4 =>
      intro i fs h0 hf hfuel H locs ls w hl
      refine r_iload_n (pc := 4) C d_S_firstOf_4 rfl (lv_at hl 3 rfl) ?_
      refine r_iload_n (pc := 5) C d_S_firstOf_5 rfl (lv_at hl 1 rfl) ?_
      refine r_icmp_ge (pc := 6) (tgt := 32) C (by omega) d_S_firstOf_6 (by decide) (fun c_6 => ?_) (fun c_6 => ?_)
      · skip
        refine r_iload_n (pc := 32) C d_S_firstOf_32 rfl (lv_at hl 2 rfl) ?_
        exact kret _ _ _ _ fs _ d_S_firstOf_33 w (⟨rfl, by rw [hf, show i = k by omega]⟩)
      · skip
        refine r_iload_n (pc := 9) C d_S_firstOf_9 rfl (lv_at hl 3 rfl) ?_
        refine r_aload_n (pc := 10) C d_S_firstOf_10 rfl (lv_at hl 0 rfl) ?_
        refine r_get (pc := 11) (v := .int (iI r)) C w i_S rfl 0 rfl 2 (by decide) fl_S_18 rfl rfl d_S_firstOf_11 ?_
        refine r_icmp_ge (pc := 14) (tgt := 32) C (by omega) d_S_firstOf_14 (by decide) (fun c_14 => ?_) (fun c_14 => ?_)
        · skip
          refine r_iload_n (pc := 32) C d_S_firstOf_32 rfl (lv_at hl 2 rfl) ?_
          exact kret _ _ _ _ fs _ d_S_firstOf_33 w (⟨rfl, by rw [hf, show i = k by omega]⟩)
        · skip
          have hk2 := hO.run (k := i) (by omega) (by omega)
          refine r_iload_n (pc := 17) C d_S_firstOf_17 rfl (lv_at hl 2 rfl) ?_
          refine r_aload_n (pc := 18) C d_S_firstOf_18 rfl (lv_at hl 0 rfl) ?_
          refine r_get (pc := 19) (v := .ref b) C w i_S rfl 0 rfl 1 (by decide) fl_S_15 rfl rfl d_S_firstOf_19 ?_
          refine r_iload_n (pc := 22) C d_S_firstOf_22 rfl (lv_at hl 3 rfl) ?_
          refine r_iald (pc := 23) (f := ln) (i := i) C w 0 2 rfl hT.1 (by omega) d_S_firstOf_23 ?_
          refine r_iadd (pc := 24) C d_S_firstOf_24 ?_
          refine r_istore_n (pc := 25) (lv' := [(2, .int (iI (fs + (ln i)))), (0, .ref q), (1, .int (iI k)), (3, .int (iI i))]) C d_S_firstOf_25 rfl hl (by decide) rfl (fun ls hl => ?_)
          refine r_iinc (pc := 26) (j := 3) (lv' := [(3, .int (iI (i + 1))), (2, .int (iI (fs + (ln i)))), (0, .ref q), (1, .int (iI k))]) C d_S_firstOf_26 hl rfl (by decide) rfl (fun ls hl => ?_)
          refine r_goto (pc := 29) (tgt := 4) C d_S_firstOf_29 (by decide) ?_
          exact ih4 (i + 1) (fs + (ln i)) (by omega) (by omega) (by omega) _ _ _ w (lv_sub hl [2, 3, 1, 0] rfl)
  exact L4 ((k - 0) + 1 : Int).toNat 0 0 (by first | omega | rfl) (by first | omega | rfl) (by omega) _ _ _ w (lv_sub hl [2, 3, 1, 0] rfl)
theorem d_S_signAt_0 : decode b_S_signAt 0 = .ok (.iconst 0, 1) := by decide +kernel
theorem d_S_signAt_1 : decode b_S_signAt 1 = .ok (.istore_n 2, 1) := by decide +kernel
theorem d_S_signAt_2 : decode b_S_signAt 2 = .ok (.iconst 0, 1) := by decide +kernel
theorem d_S_signAt_3 : decode b_S_signAt 3 = .ok (.istore_n 3, 1) := by decide +kernel
theorem d_S_signAt_4 : decode b_S_signAt 4 = .ok (.iload_n 3, 1) := by decide +kernel
theorem d_S_signAt_5 : decode b_S_signAt 5 = .ok (.aload_n 0, 1) := by decide +kernel
theorem d_S_signAt_6 : decode b_S_signAt 6 = .ok (.getfield 18, 3) := by decide +kernel
theorem d_S_signAt_9 : decode b_S_signAt 9 = .ok (.if_icmp .ge 34, 3) := by decide +kernel
theorem d_S_signAt_12 : decode b_S_signAt 12 = .ok (.iload_n 1, 1) := by decide +kernel
theorem d_S_signAt_13 : decode b_S_signAt 13 = .ok (.ifCond .lt 30, 3) := by decide +kernel
theorem d_S_signAt_16 : decode b_S_signAt 16 = .ok (.iload_n 2, 1) := by decide +kernel
theorem d_S_signAt_17 : decode b_S_signAt 17 = .ok (.aload_n 0, 1) := by decide +kernel
theorem d_S_signAt_18 : decode b_S_signAt 18 = .ok (.getfield 15, 3) := by decide +kernel
theorem d_S_signAt_21 : decode b_S_signAt 21 = .ok (.iload_n 3, 1) := by decide +kernel
theorem d_S_signAt_22 : decode b_S_signAt 22 = .ok (.iaload, 1) := by decide +kernel
theorem d_S_signAt_23 : decode b_S_signAt 23 = .ok (.iadd, 1) := by decide +kernel
theorem d_S_signAt_24 : decode b_S_signAt 24 = .ok (.istore_n 2, 1) := by decide +kernel
theorem d_S_signAt_25 : decode b_S_signAt 25 = .ok (.iload_n 1, 1) := by decide +kernel
theorem d_S_signAt_26 : decode b_S_signAt 26 = .ok (.iload_n 2, 1) := by decide +kernel
theorem d_S_signAt_27 : decode b_S_signAt 27 = .ok (.if_icmp .ge 10, 3) := by decide +kernel
theorem d_S_signAt_30 : decode b_S_signAt 30 = .ok (.aload_n 0, 1) := by decide +kernel
theorem d_S_signAt_31 : decode b_S_signAt 31 = .ok (.getfield 9, 3) := by decide +kernel
theorem d_S_signAt_34 : decode b_S_signAt 34 = .ok (.iload_n 3, 1) := by decide +kernel
theorem d_S_signAt_35 : decode b_S_signAt 35 = .ok (.iaload, 1) := by decide +kernel
theorem d_S_signAt_36 : decode b_S_signAt 36 = .ok (.ireturn, 1) := by decide +kernel
theorem d_S_signAt_37 : decode b_S_signAt 37 = .ok (.iinc 3 1, 3) := by decide +kernel
theorem d_S_signAt_40 : decode b_S_signAt 40 = .ok (.goto (-36), 3) := by decide +kernel
theorem d_S_signAt_43 : decode b_S_signAt 43 = .ok (.iconst (-1), 1) := by decide +kernel
theorem d_S_signAt_44 : decode b_S_signAt 44 = .ok (.ireturn, 1) := by decide +kernel
set_option maxHeartbeats 4000000 in
set_option maxRecDepth 20000 in
theorem c_S_signAt {l : Launch} {G : va_G} {tys : List (ClassId × FieldType)} {cI cO cZ : ClassId} (hT : TY tys cI cO cZ) (q a b : Nat) (sg ln : Int → Int) (r pl ov lc sd : Int) (N : Int) (v : Int → Int) (hO : Ok r sg ln N v) (hr : r ≤ 50) (hN : N ≤ 3000) (x : Int) (hx : (-2147483648 ≤ x ∧ x < 2147483648)) : CTI l G tys y_S_signAt b_S_signAt 4 .int 0 0 [.ref q, .int (iI x)] (sw cI q a b sg ln r pl ov lc sd) (fun z u => u = sw cI q a b sg ln r pl ov lc sd ∧ (((0 ≤ x ∧ x < N) ∧ z = v x) ∨ (¬ (0 ≤ x ∧ x < N) ∧ z = -1))) := by
  refine mkI (by decide) (Nat.le_of_ble_eq_true rfl) ?_
  rintro X rfl rfl rfl hRm C kret H ls w hl
  have hl : lv_has ls 4 [(0, .ref q), (1, .int (iI x))] := hl
  have w : Wd X (sw cI q a b sg ln r pl ov lc sd) H [] := w
  generalize ([] : List Loc) = locs at w ⊢
  have hr0 := hO.1
  have hN0 := hO.n0
  have hps := ps_zero ln
  have hpr := hO.2.2.2.1
  refine r_iconst (pc := 0) C d_S_signAt_0 ?_
  refine r_istore_n (pc := 1) (lv' := [(2, .int (iI 0)), (0, .ref q), (1, .int (iI x))]) C d_S_signAt_1 rfl hl (by decide) rfl (fun ls hl => ?_)
  refine r_iconst (pc := 2) C d_S_signAt_2 ?_
  refine r_istore_n (pc := 3) (lv' := [(3, .int (iI 0)), (2, .int (iI 0)), (0, .ref q), (1, .int (iI x))]) C d_S_signAt_3 rfl hl (by decide) rfl (fun ls hl => ?_)
  have L4 : ∀ (fuel : Nat), ∀ (i : Int) (S : Int), 0 ≤ i ∧ i ≤ r → S = ps ln i ∧ (S ≤ x ∨ i = 0) → (r - i) < (fuel : Int) → ∀ (H : Heap) (locs : List Loc) (ls : Array Slot), Wd X (sw cI q a b sg ln r pl ov lc sd) H locs → lv_has ls 4 [(0, .ref q), (1, .int (iI x)), (2, .int (iI S)), (3, .int (iI i))] → GG X 0 0 H locs 4 ls [] := by
    intro fuel
    induction fuel with
    | zero =>
      intro i S h0 hf hfuel
      exact absurd hfuel (by omega)
    | succ fuel ih4 =>
      intro i S h0 hf hfuel H locs ls w hl
      have hi0 : i = 0 → ps ln i = 0 := fun q => by rw [q, ps_zero]
      refine r_iload_n (pc := 4) C d_S_signAt_4 rfl (lv_at hl 3 rfl) ?_
      refine r_aload_n (pc := 5) C d_S_signAt_5 rfl (lv_at hl 0 rfl) ?_
      refine r_get (pc := 6) (v := .int (iI r)) C w i_S rfl 0 rfl 2 (by decide) fl_S_18 rfl rfl d_S_signAt_6 ?_
      refine r_icmp_ge (pc := 9) (tgt := 43) C (by omega) d_S_signAt_9 (by decide) (fun c_9 => ?_) (fun c_9 => ?_)
      · skip
        have hiN : S = N := by { rw [hf.1, show i = r by omega]; exact hpr }
        refine r_iconst (pc := 43) C d_S_signAt_43 ?_
        exact kret _ _ _ _ (-1) _ d_S_signAt_44 w (⟨rfl, by omega⟩)
      · skip
        refine r_iload_n (pc := 12) C d_S_signAt_12 rfl (lv_at hl 1 rfl) ?_
        refine r_if_lt (pc := 13) (tgt := 43) C (by omega) d_S_signAt_13 (by decide) (fun c_13 => ?_) (fun c_13 => ?_)
        · skip
          refine r_iconst (pc := 43) C d_S_signAt_43 ?_
          exact kret _ _ _ _ (-1) _ d_S_signAt_44 w (⟨rfl, by omega⟩)
        · skip
          have hk2 := hO.run (k := i) (by omega) (by omega)
          refine r_iload_n (pc := 16) C d_S_signAt_16 rfl (lv_at hl 2 rfl) ?_
          refine r_aload_n (pc := 17) C d_S_signAt_17 rfl (lv_at hl 0 rfl) ?_
          refine r_get (pc := 18) (v := .ref b) C w i_S rfl 0 rfl 1 (by decide) fl_S_15 rfl rfl d_S_signAt_18 ?_
          refine r_iload_n (pc := 21) C d_S_signAt_21 rfl (lv_at hl 3 rfl) ?_
          refine r_iald (pc := 22) (f := ln) (i := i) C w 0 2 rfl hT.1 (by omega) d_S_signAt_22 ?_
          refine r_iadd (pc := 23) C d_S_signAt_23 ?_
          refine r_istore_n (pc := 24) (lv' := [(2, .int (iI (S + (ln i)))), (0, .ref q), (1, .int (iI x)), (3, .int (iI i))]) C d_S_signAt_24 rfl hl (by decide) rfl (fun ls hl => ?_)
          refine r_iload_n (pc := 25) C d_S_signAt_25 rfl (lv_at hl 2 rfl) ?_
          refine r_iload_n (pc := 26) C d_S_signAt_26 rfl (lv_at hl 0 rfl) ?_
          refine r_icmp_ge (pc := 27) (tgt := 37) C (by omega) d_S_signAt_27 (by decide) (fun c_27 => ?_) (fun c_27 => ?_)
          · skip
            refine r_iinc (pc := 37) (j := 3) (lv' := [(3, .int (iI (i + 1))), (2, .int (iI (S + (ln i)))), (0, .ref q), (1, .int (iI x))]) C d_S_signAt_37 hl rfl (by decide) rfl (fun ls hl => ?_)
            refine r_goto (pc := 40) (tgt := 4) C d_S_signAt_40 (by decide) ?_
            exact ih4 (i + 1) (S + (ln i)) (by omega) (by omega) (by omega) _ _ _ w (lv_sub hl [2, 3, 1, 0] rfl)
          · skip
            have hv := hO.2.2.2.2 i (by omega) (by omega) x (by omega) (by omega)
            refine r_aload_n (pc := 30) C d_S_signAt_30 rfl (lv_at hl 1 rfl) ?_
            refine r_get (pc := 31) (v := .ref a) C w i_S rfl 0 rfl 0 (by decide) fl_S_9 rfl rfl d_S_signAt_31 ?_
            refine r_iload_n (pc := 34) C d_S_signAt_34 rfl (lv_at hl 3 rfl) ?_
            refine r_iald (pc := 35) (f := sg) (i := i) C w 0 1 rfl hT.1 (by omega) d_S_signAt_35 ?_
            exact kret _ _ _ _ (sg i) _ d_S_signAt_36 w (⟨rfl, by omega⟩)
  exact L4 ((r - 0) + 1 : Int).toNat 0 0 (by first | omega | rfl) (by first | omega | rfl) (by omega) _ _ _ w (lv_sub hl [2, 3, 1, 0] rfl)
theorem d_S_alikeIn_0 : decode b_S_alikeIn 0 = .ok (.iconst 0, 1) := by decide +kernel
theorem d_S_alikeIn_1 : decode b_S_alikeIn 1 = .ok (.istore 4, 2) := by decide +kernel
theorem d_S_alikeIn_3 : decode b_S_alikeIn 3 = .ok (.iconst 0, 1) := by decide +kernel
theorem d_S_alikeIn_4 : decode b_S_alikeIn 4 = .ok (.istore 5, 2) := by decide +kernel
theorem d_S_alikeIn_6 : decode b_S_alikeIn 6 = .ok (.iconst 0, 1) := by decide +kernel
theorem d_S_alikeIn_7 : decode b_S_alikeIn 7 = .ok (.istore 6, 2) := by decide +kernel
theorem d_S_alikeIn_9 : decode b_S_alikeIn 9 = .ok (.iload 6, 2) := by decide +kernel
theorem d_S_alikeIn_11 : decode b_S_alikeIn 11 = .ok (.aload_n 0, 1) := by decide +kernel
theorem d_S_alikeIn_12 : decode b_S_alikeIn 12 = .ok (.getfield 18, 3) := by decide +kernel
theorem d_S_alikeIn_15 : decode b_S_alikeIn 15 = .ok (.if_icmp .ge 54, 3) := by decide +kernel
theorem d_S_alikeIn_18 : decode b_S_alikeIn 18 = .ok (.aload_n 0, 1) := by decide +kernel
theorem d_S_alikeIn_19 : decode b_S_alikeIn 19 = .ok (.getfield 9, 3) := by decide +kernel
theorem d_S_alikeIn_22 : decode b_S_alikeIn 22 = .ok (.iload 6, 2) := by decide +kernel
theorem d_S_alikeIn_24 : decode b_S_alikeIn 24 = .ok (.iaload, 1) := by decide +kernel
theorem d_S_alikeIn_25 : decode b_S_alikeIn 25 = .ok (.iload_n 3, 1) := by decide +kernel
theorem d_S_alikeIn_26 : decode b_S_alikeIn 26 = .ok (.if_icmp .ne 25, 3) := by decide +kernel
theorem d_S_alikeIn_29 : decode b_S_alikeIn 29 = .ok (.iload 5, 2) := by decide +kernel
theorem d_S_alikeIn_31 : decode b_S_alikeIn 31 = .ok (.iload 4, 2) := by decide +kernel
theorem d_S_alikeIn_33 : decode b_S_alikeIn 33 = .ok (.iload 4, 2) := by decide +kernel
theorem d_S_alikeIn_35 : decode b_S_alikeIn 35 = .ok (.aload_n 0, 1) := by decide +kernel
theorem d_S_alikeIn_36 : decode b_S_alikeIn 36 = .ok (.getfield 15, 3) := by decide +kernel
theorem d_S_alikeIn_39 : decode b_S_alikeIn 39 = .ok (.iload 6, 2) := by decide +kernel
theorem d_S_alikeIn_41 : decode b_S_alikeIn 41 = .ok (.iaload, 1) := by decide +kernel
theorem d_S_alikeIn_42 : decode b_S_alikeIn 42 = .ok (.iadd, 1) := by decide +kernel
theorem d_S_alikeIn_43 : decode b_S_alikeIn 43 = .ok (.iload_n 1, 1) := by decide +kernel
theorem d_S_alikeIn_44 : decode b_S_alikeIn 44 = .ok (.iload_n 2, 1) := by decide +kernel
theorem d_S_alikeIn_45 : decode b_S_alikeIn 45 = .ok (.invokestatic 43, 3) := by decide +kernel
theorem d_S_alikeIn_48 : decode b_S_alikeIn 48 = .ok (.iadd, 1) := by decide +kernel
theorem d_S_alikeIn_49 : decode b_S_alikeIn 49 = .ok (.istore 5, 2) := by decide +kernel
theorem d_S_alikeIn_51 : decode b_S_alikeIn 51 = .ok (.iload 4, 2) := by decide +kernel
theorem d_S_alikeIn_53 : decode b_S_alikeIn 53 = .ok (.aload_n 0, 1) := by decide +kernel
theorem d_S_alikeIn_54 : decode b_S_alikeIn 54 = .ok (.getfield 15, 3) := by decide +kernel
theorem d_S_alikeIn_57 : decode b_S_alikeIn 57 = .ok (.iload 6, 2) := by decide +kernel
theorem d_S_alikeIn_59 : decode b_S_alikeIn 59 = .ok (.iaload, 1) := by decide +kernel
theorem d_S_alikeIn_60 : decode b_S_alikeIn 60 = .ok (.iadd, 1) := by decide +kernel
theorem d_S_alikeIn_61 : decode b_S_alikeIn 61 = .ok (.istore 4, 2) := by decide +kernel
theorem d_S_alikeIn_63 : decode b_S_alikeIn 63 = .ok (.iinc 6 1, 3) := by decide +kernel
theorem d_S_alikeIn_66 : decode b_S_alikeIn 66 = .ok (.goto (-57), 3) := by decide +kernel
theorem d_S_alikeIn_69 : decode b_S_alikeIn 69 = .ok (.iload 5, 2) := by decide +kernel
theorem d_S_alikeIn_71 : decode b_S_alikeIn 71 = .ok (.ireturn, 1) := by decide +kernel
set_option maxHeartbeats 4000000 in
set_option maxRecDepth 20000 in
theorem c_S_alikeIn {l : Launch} {G : va_G} {tys : List (ClassId × FieldType)} {cI cO cZ : ClassId} (hT : TY tys cI cO cZ) (q a b : Nat) (sg ln : Int → Int) (r pl ov lc sd : Int) (N : Int) (v : Int → Int) (hO : Ok r sg ln N v) (hr : r ≤ 50) (hN : N ≤ 3000) (f e s : Int) (hf : 0 ≤ f ∧ f ≤ e ∧ e ≤ N) (hs : (-2147483648 ≤ s ∧ s < 2147483648)) : CTI l G tys y_S_alikeIn b_S_alikeIn 7 .int 2 42 [.ref q, .int (iI f), .int (iI e), .int (iI s)] (sw cI q a b sg ln r pl ov lc sd) (fun z u => u = sw cI q a b sg ln r pl ov lc sd ∧ (z = cn v s f e)) := by
  refine mkI (by decide) (Nat.le_of_ble_eq_true rfl) ?_
  rintro X rfl rfl rfl hRm C kret H ls w hl
  have hl : lv_has ls 7 [(0, .ref q), (1, .int (iI f)), (2, .int (iI e)), (3, .int (iI s))] := hl
  have w : Wd X (sw cI q a b sg ln r pl ov lc sd) H [] := w
  generalize ([] : List Loc) = locs at w ⊢
  have hr0 := hO.1
  have hN0 := hO.n0
  have hps := ps_zero ln
  have hpr := hO.2.2.2.1
  refine r_iconst (pc := 0) C d_S_alikeIn_0 ?_
  refine r_istore (pc := 1) (lv' := [(4, .int (iI 0)), (0, .ref q), (1, .int (iI f)), (2, .int (iI e)), (3, .int (iI s))]) C d_S_alikeIn_1 hl (by decide) rfl (fun ls hl => ?_)
  refine r_iconst (pc := 3) C d_S_alikeIn_3 ?_
  refine r_istore (pc := 4) (lv' := [(5, .int (iI 0)), (4, .int (iI 0)), (0, .ref q), (1, .int (iI f)), (2, .int (iI e)), (3, .int (iI s))]) C d_S_alikeIn_4 hl (by decide) rfl (fun ls hl => ?_)
  refine r_iconst (pc := 6) C d_S_alikeIn_6 ?_
  refine r_istore (pc := 7) (lv' := [(6, .int (iI 0)), (5, .int (iI 0)), (4, .int (iI 0)), (0, .ref q), (1, .int (iI f)), (2, .int (iI e)), (3, .int (iI s))]) C d_S_alikeIn_7 hl (by decide) rfl (fun ls hl => ?_)
  have L9 : ∀ (fuel : Nat), ∀ (i : Int) (al : Int) (S : Int), 0 ≤ i ∧ i ≤ r → S = ps ln i → al = cn v s f (max f (min S e)) → (r - i) < (fuel : Int) → ∀ (H : Heap) (locs : List Loc) (ls : Array Slot), Wd X (sw cI q a b sg ln r pl ov lc sd) H locs → lv_has ls 7 [(0, .ref q), (1, .int (iI f)), (2, .int (iI e)), (3, .int (iI s)), (4, .int (iI S)), (5, .int (iI al)), (6, .int (iI i))] → GG X 0 0 H locs 9 ls [] := by
    intro fuel
    induction fuel with
    | zero =>
      intro i al S h0 hS hal hfuel
      exact absurd hfuel (by omega)
    | succ fuel ih9 =>
      intro i al S h0 hS hal hfuel H locs ls w hl
      refine r_iload (pc := 9) C d_S_alikeIn_9 (lv_at hl 6 rfl) ?_
      refine r_aload_n (pc := 11) C d_S_alikeIn_11 rfl (lv_at hl 0 rfl) ?_
      refine r_get (pc := 12) (v := .int (iI r)) C w i_S rfl 0 rfl 2 (by decide) fl_S_18 rfl rfl d_S_alikeIn_12 ?_
      refine r_icmp_ge (pc := 15) (tgt := 69) C (by omega) d_S_alikeIn_15 (by decide) (fun c_15 => ?_) (fun c_15 => ?_)
      · skip
        refine r_iload (pc := 69) C d_S_alikeIn_69 (lv_at hl 5 rfl) ?_
        exact kret _ _ _ _ al _ d_S_alikeIn_71 w (⟨rfl, by rw [hal]; have : S = N := by { rw [hS, show i = r by omega]; exact hpr }; rw [show max f (min S e) = e by omega]⟩)
      · skip
        have hk2 := hO.run (k := i) (by omega) (by omega)
        refine r_aload_n (pc := 18) C d_S_alikeIn_18 rfl (lv_at hl 0 rfl) ?_
        refine r_get (pc := 19) (v := .ref a) C w i_S rfl 0 rfl 0 (by decide) fl_S_9 rfl rfl d_S_alikeIn_19 ?_
        refine r_iload (pc := 22) C d_S_alikeIn_22 (lv_at hl 6 rfl) ?_
        refine r_iald (pc := 24) (f := sg) (i := i) C w 0 1 rfl hT.1 (by omega) d_S_alikeIn_24 ?_
        refine r_iload_n (pc := 25) C d_S_alikeIn_25 rfl (lv_at hl 3 rfl) ?_
        refine r_icmp_ne (pc := 26) (tgt := 51) C (by omega) d_S_alikeIn_26 (by decide) (fun c_26 => ?_) (fun c_26 => ?_)
        · skip
          have hci := count_out (v := v) hO (by omega) (by omega) (by omega : 0 ≤ f ∧ f ≤ e) hS c_26
          refine r_iload (pc := 51) C d_S_alikeIn_51 (lv_at hl 4 rfl) ?_
          refine r_aload_n (pc := 53) C d_S_alikeIn_53 rfl (lv_at hl 0 rfl) ?_
          refine r_get (pc := 54) (v := .ref b) C w i_S rfl 0 rfl 1 (by decide) fl_S_15 rfl rfl d_S_alikeIn_54 ?_
          refine r_iload (pc := 57) C d_S_alikeIn_57 (lv_at hl 6 rfl) ?_
          refine r_iald (pc := 59) (f := ln) (i := i) C w 0 2 rfl hT.1 (by omega) d_S_alikeIn_59 ?_
          refine r_iadd (pc := 60) C d_S_alikeIn_60 ?_
          refine r_istore (pc := 61) (lv' := [(4, .int (iI (S + (ln i)))), (0, .ref q), (1, .int (iI f)), (2, .int (iI e)), (3, .int (iI s)), (5, .int (iI al)), (6, .int (iI i))]) C d_S_alikeIn_61 hl (by decide) rfl (fun ls hl => ?_)
          refine r_iinc (pc := 63) (j := 6) (lv' := [(6, .int (iI (i + 1))), (4, .int (iI (S + (ln i)))), (0, .ref q), (1, .int (iI f)), (2, .int (iI e)), (3, .int (iI s)), (5, .int (iI al))]) C d_S_alikeIn_63 hl rfl (by decide) rfl (fun ls hl => ?_)
          refine r_goto (pc := 66) (tgt := 9) C d_S_alikeIn_66 (by decide) ?_
          exact ih9 (i + 1) al (S + (ln i)) (by omega) (by omega) (by omega) (by omega) _ _ _ w (lv_sub hl [2, 3, 4, 5, 1, 6, 0] rfl)
        · skip
          have c_26 : sg i = s := by omega
          refine r_iload (pc := 29) C d_S_alikeIn_29 (lv_at hl 5 rfl) ?_
          refine r_iload (pc := 31) C d_S_alikeIn_31 (lv_at hl 4 rfl) ?_
          refine r_iload (pc := 33) C d_S_alikeIn_33 (lv_at hl 4 rfl) ?_
          refine r_aload_n (pc := 35) C d_S_alikeIn_35 rfl (lv_at hl 0 rfl) ?_
          refine r_get (pc := 36) (v := .ref b) C w i_S rfl 0 rfl 1 (by decide) fl_S_15 rfl rfl d_S_alikeIn_36 ?_
          refine r_iload (pc := 39) C d_S_alikeIn_39 (lv_at hl 6 rfl) ?_
          refine r_iald (pc := 41) (f := ln) (i := i) C w 0 2 rfl hT.1 (by omega) d_S_alikeIn_41 ?_
          refine r_iadd (pc := 42) C d_S_alikeIn_42 ?_
          refine r_iload_n (pc := 43) C d_S_alikeIn_43 rfl (lv_at hl 1 rfl) ?_
          refine r_iload_n (pc := 44) C d_S_alikeIn_44 rfl (lv_at hl 2 rfl) ?_
          refine r_callP (pc := 45) (As := [.int (iI S), .int (iI (S + (ln i))), .int (iI f), .int (iI e)]) (rest := [.int (iI al)]) C w (c_S_shared S (S + (ln i)) f e (by omega)) ml_S_43 st_S_shared ini_S cd_S_shared hd_S_shared rfl (by rw [hRm]; exact ⟨⟨Nat.le_of_ble_eq_true rfl, Nat.le_of_ble_eq_true rfl⟩, Nat.le_of_ble_eq_true rfl, Nat.le_of_ble_eq_true rfl⟩) hl.1 rfl (Nat.le_of_ble_eq_true rfl) d_S_alikeIn_45 (fun z_45 H locs hz_45 w => ?_)
          refine r_iadd (pc := 48) C d_S_alikeIn_48 ?_
          have hci := count_in (v := v) hO (by omega) (by omega) (by omega : 0 ≤ f ∧ f ≤ e) hS c_26 hz_45
          refine r_istore (pc := 49) (lv' := [(5, .int (iI (al + z_45))), (0, .ref q), (1, .int (iI f)), (2, .int (iI e)), (3, .int (iI s)), (4, .int (iI S)), (6, .int (iI i))]) C d_S_alikeIn_49 hl (by decide) rfl (fun ls hl => ?_)
          refine r_iload (pc := 51) C d_S_alikeIn_51 (lv_at hl 5 rfl) ?_
          refine r_aload_n (pc := 53) C d_S_alikeIn_53 rfl (lv_at hl 1 rfl) ?_
          refine r_get (pc := 54) (v := .ref b) C w i_S rfl 0 rfl 1 (by decide) fl_S_15 rfl rfl d_S_alikeIn_54 ?_
          refine r_iload (pc := 57) C d_S_alikeIn_57 (lv_at hl 6 rfl) ?_
          refine r_iald (pc := 59) (f := ln) (i := i) C w 0 2 rfl hT.1 (by omega) d_S_alikeIn_59 ?_
          refine r_iadd (pc := 60) C d_S_alikeIn_60 ?_
          refine r_istore (pc := 61) (lv' := [(4, .int (iI (S + (ln i)))), (5, .int (iI (al + z_45))), (0, .ref q), (1, .int (iI f)), (2, .int (iI e)), (3, .int (iI s)), (6, .int (iI i))]) C d_S_alikeIn_61 hl (by decide) rfl (fun ls hl => ?_)
          refine r_iinc (pc := 63) (j := 6) (lv' := [(6, .int (iI (i + 1))), (4, .int (iI (S + (ln i)))), (5, .int (iI (al + z_45))), (0, .ref q), (1, .int (iI f)), (2, .int (iI e)), (3, .int (iI s))]) C d_S_alikeIn_63 hl rfl (by decide) rfl (fun ls hl => ?_)
          refine r_goto (pc := 66) (tgt := 9) C d_S_alikeIn_66 (by decide) ?_
          exact ih9 (i + 1) (al + z_45) (S + (ln i)) (by omega) (by omega) (by omega) (by omega) _ _ _ w (lv_sub hl [3, 4, 5, 6, 1, 2, 0] rfl)
  exact L9 ((r - 0) + 1 : Int).toNat 0 0 0 (by first | omega | rfl) (by first | omega | rfl) ((by rw [show max f (min 0 e) = f by omega]; unfold cn; omega)) (by omega) _ _ _ w (lv_sub hl [3, 4, 5, 6, 2, 1, 0] rfl)
theorem d_S_sumOfValues_0 : decode b_S_sumOfValues 0 = .ok (.iconst 0, 1) := by decide +kernel
theorem d_S_sumOfValues_1 : decode b_S_sumOfValues 1 = .ok (.istore_n 1, 1) := by decide +kernel
theorem d_S_sumOfValues_2 : decode b_S_sumOfValues 2 = .ok (.iconst 0, 1) := by decide +kernel
theorem d_S_sumOfValues_3 : decode b_S_sumOfValues 3 = .ok (.istore_n 2, 1) := by decide +kernel
theorem d_S_sumOfValues_4 : decode b_S_sumOfValues 4 = .ok (.iload_n 2, 1) := by decide +kernel
theorem d_S_sumOfValues_5 : decode b_S_sumOfValues 5 = .ok (.aload_n 0, 1) := by decide +kernel
theorem d_S_sumOfValues_6 : decode b_S_sumOfValues 6 = .ok (.getfield 18, 3) := by decide +kernel
theorem d_S_sumOfValues_9 : decode b_S_sumOfValues 9 = .ok (.if_icmp .ge 40, 3) := by decide +kernel
theorem d_S_sumOfValues_12 : decode b_S_sumOfValues 12 = .ok (.iload_n 1, 1) := by decide +kernel
theorem d_S_sumOfValues_13 : decode b_S_sumOfValues 13 = .ok (.aload_n 0, 1) := by decide +kernel
theorem d_S_sumOfValues_14 : decode b_S_sumOfValues 14 = .ok (.getfield 9, 3) := by decide +kernel
theorem d_S_sumOfValues_17 : decode b_S_sumOfValues 17 = .ok (.iload_n 2, 1) := by decide +kernel
theorem d_S_sumOfValues_18 : decode b_S_sumOfValues 18 = .ok (.iaload, 1) := by decide +kernel
theorem d_S_sumOfValues_19 : decode b_S_sumOfValues 19 = .ok (.bipush 10, 2) := by decide +kernel
theorem d_S_sumOfValues_21 : decode b_S_sumOfValues 21 = .ok (.if_icmp .ne 7, 3) := by decide +kernel
theorem d_S_sumOfValues_24 : decode b_S_sumOfValues 24 = .ok (.iconst 0, 1) := by decide +kernel
theorem d_S_sumOfValues_25 : decode b_S_sumOfValues 25 = .ok (.goto 16, 3) := by decide +kernel
theorem d_S_sumOfValues_28 : decode b_S_sumOfValues 28 = .ok (.aload_n 0, 1) := by decide +kernel
theorem d_S_sumOfValues_29 : decode b_S_sumOfValues 29 = .ok (.getfield 9, 3) := by decide +kernel
theorem d_S_sumOfValues_32 : decode b_S_sumOfValues 32 = .ok (.iload_n 2, 1) := by decide +kernel
theorem d_S_sumOfValues_33 : decode b_S_sumOfValues 33 = .ok (.iaload, 1) := by decide +kernel
theorem d_S_sumOfValues_34 : decode b_S_sumOfValues 34 = .ok (.aload_n 0, 1) := by decide +kernel
theorem d_S_sumOfValues_35 : decode b_S_sumOfValues 35 = .ok (.getfield 15, 3) := by decide +kernel
theorem d_S_sumOfValues_38 : decode b_S_sumOfValues 38 = .ok (.iload_n 2, 1) := by decide +kernel
theorem d_S_sumOfValues_39 : decode b_S_sumOfValues 39 = .ok (.iaload, 1) := by decide +kernel
theorem d_S_sumOfValues_40 : decode b_S_sumOfValues 40 = .ok (.imul, 1) := by decide +kernel
theorem d_S_sumOfValues_41 : decode b_S_sumOfValues 41 = .ok (.iadd, 1) := by decide +kernel
theorem d_S_sumOfValues_42 : decode b_S_sumOfValues 42 = .ok (.istore_n 1, 1) := by decide +kernel
theorem d_S_sumOfValues_43 : decode b_S_sumOfValues 43 = .ok (.iinc 2 1, 3) := by decide +kernel
theorem d_S_sumOfValues_46 : decode b_S_sumOfValues 46 = .ok (.goto (-42), 3) := by decide +kernel
theorem d_S_sumOfValues_49 : decode b_S_sumOfValues 49 = .ok (.iload_n 1, 1) := by decide +kernel
theorem d_S_sumOfValues_50 : decode b_S_sumOfValues 50 = .ok (.ireturn, 1) := by decide +kernel
set_option maxHeartbeats 4000000 in
set_option maxRecDepth 20000 in
theorem c_S_sumOfValues {l : Launch} {G : va_G} {tys : List (ClassId × FieldType)} {cI cO cZ : ClassId} (hT : TY tys cI cO cZ) (q a b : Nat) (sg ln : Int → Int) (r pl ov lc sd : Int) (N : Int) (v : Int → Int) (hO : Ok r sg ln N v) (hr : r ≤ 50) (hN : N ≤ 3000)  : CTI l G tys y_S_sumOfValues b_S_sumOfValues 3 .int 0 0 [.ref q] (sw cI q a b sg ln r pl ov lc sd) (fun z u => u = sw cI q a b sg ln r pl ov lc sd ∧ (z = ps (smf sg ln) r)) := by
  refine mkI (by decide) (Nat.le_of_ble_eq_true rfl) ?_
  rintro X rfl rfl rfl hRm C kret H ls w hl
  have hl : lv_has ls 3 [(0, .ref q)] := hl
  have w : Wd X (sw cI q a b sg ln r pl ov lc sd) H [] := w
  generalize ([] : List Loc) = locs at w ⊢
  have hr0 := hO.1
  have hN0 := hO.n0
  have hps := ps_zero ln
  have hpr := hO.2.2.2.1
  refine r_iconst (pc := 0) C d_S_sumOfValues_0 ?_
  refine r_istore_n (pc := 1) (lv' := [(1, .int (iI 0)), (0, .ref q)]) C d_S_sumOfValues_1 rfl hl (by decide) rfl (fun ls hl => ?_)
  refine r_iconst (pc := 2) C d_S_sumOfValues_2 ?_
  refine r_istore_n (pc := 3) (lv' := [(2, .int (iI 0)), (1, .int (iI 0)), (0, .ref q)]) C d_S_sumOfValues_3 rfl hl (by decide) rfl (fun ls hl => ?_)
  have L4 : ∀ (fuel : Nat), ∀ (i : Int) (sm : Int), 0 ≤ i ∧ i ≤ r → sm = ps (smf sg ln) i → (r - i) < (fuel : Int) → ∀ (H : Heap) (locs : List Loc) (ls : Array Slot), Wd X (sw cI q a b sg ln r pl ov lc sd) H locs → lv_has ls 3 [(0, .ref q), (1, .int (iI sm)), (2, .int (iI i))] → GG X 0 0 H locs 4 ls [] := by
    intro fuel
    induction fuel with
    | zero =>
      intro i sm h0 hs hfuel
      exact absurd hfuel (by omega)
    | succ fuel ih4 =>
      intro i sm h0 hs hfuel H locs ls w hl
      refine r_iload_n (pc := 4) C d_S_sumOfValues_4 rfl (lv_at hl 2 rfl) ?_
      refine r_aload_n (pc := 5) C d_S_sumOfValues_5 rfl (lv_at hl 0 rfl) ?_
      refine r_get (pc := 6) (v := .int (iI r)) C w i_S rfl 0 rfl 2 (by decide) fl_S_18 rfl rfl d_S_sumOfValues_6 ?_
      refine r_icmp_ge (pc := 9) (tgt := 49) C (by omega) d_S_sumOfValues_9 (by decide) (fun c_9 => ?_) (fun c_9 => ?_)
      · skip
        refine r_iload_n (pc := 49) C d_S_sumOfValues_49 rfl (lv_at hl 1 rfl) ?_
        exact kret _ _ _ _ sm _ d_S_sumOfValues_50 w (⟨rfl, by rw [hs, show i = r by omega]⟩)
      · skip
        have hk2 := hO.run (k := i) (by omega) (by omega)
        refine r_iload_n (pc := 12) C d_S_sumOfValues_12 rfl (lv_at hl 1 rfl) ?_
        refine r_aload_n (pc := 13) C d_S_sumOfValues_13 rfl (lv_at hl 0 rfl) ?_
        refine r_get (pc := 14) (v := .ref a) C w i_S rfl 0 rfl 0 (by decide) fl_S_9 rfl rfl d_S_sumOfValues_14 ?_
        refine r_iload_n (pc := 17) C d_S_sumOfValues_17 rfl (lv_at hl 2 rfl) ?_
        refine r_iald (pc := 18) (f := sg) (i := i) C w 0 1 rfl hT.1 (by omega) d_S_sumOfValues_18 ?_
        refine r_bipush (pc := 19) C d_S_sumOfValues_19 (by decide) ?_
        refine r_icmp_ne (pc := 21) (tgt := 28) C (by omega) d_S_sumOfValues_21 (by decide) (fun c_21 => ?_) (fun c_21 => ?_)
        · skip
          refine r_aload_n (pc := 28) C d_S_sumOfValues_28 rfl (lv_at hl 0 rfl) ?_
          refine r_get (pc := 29) (v := .ref a) C w i_S rfl 0 rfl 0 (by decide) fl_S_9 rfl rfl d_S_sumOfValues_29 ?_
          refine r_iload_n (pc := 32) C d_S_sumOfValues_32 rfl (lv_at hl 2 rfl) ?_
          refine r_iald (pc := 33) (f := sg) (i := i) C w 0 1 rfl hT.1 (by omega) d_S_sumOfValues_33 ?_
          refine r_aload_n (pc := 34) C d_S_sumOfValues_34 rfl (lv_at hl 0 rfl) ?_
          refine r_get (pc := 35) (v := .ref b) C w i_S rfl 0 rfl 1 (by decide) fl_S_15 rfl rfl d_S_sumOfValues_35 ?_
          refine r_iload_n (pc := 38) C d_S_sumOfValues_38 rfl (lv_at hl 2 rfl) ?_
          refine r_iald (pc := 39) (f := ln) (i := i) C w 0 2 rfl hT.1 (by omega) d_S_sumOfValues_39 ?_
          refine r_imul (pc := 40) C d_S_sumOfValues_40 ?_
          refine r_iadd (pc := 41) C d_S_sumOfValues_41 ?_
          refine r_istore_n (pc := 42) (lv' := [(1, .int (iI (sm + ((sg i) * (ln i))))), (0, .ref q), (2, .int (iI i))]) C d_S_sumOfValues_42 rfl hl (by decide) rfl (fun ls hl => ?_)
          refine r_iinc (pc := 43) (j := 2) (lv' := [(2, .int (iI (i + 1))), (1, .int (iI (sm + ((sg i) * (ln i))))), (0, .ref q)]) C d_S_sumOfValues_43 hl rfl (by decide) rfl (fun ls hl => ?_)
          refine r_goto (pc := 46) (tgt := 4) C d_S_sumOfValues_46 (by decide) ?_
          exact ih4 (i + 1) (sm + ((sg i) * (ln i))) (by omega) ((by rw [ps_succ _ (by omega), hs]; unfold smf; first | rw [if_pos (by omega)] | rw [if_neg (by omega)])) (by omega) _ _ _ w (lv_sub hl [2, 1, 0] rfl)
        · skip
          refine r_iconst (pc := 24) C d_S_sumOfValues_24 ?_
          refine r_goto (pc := 25) (tgt := 41) C d_S_sumOfValues_25 (by decide) ?_
          refine r_iadd (pc := 41) C d_S_sumOfValues_41 ?_
          refine r_istore_n (pc := 42) (lv' := [(1, .int (iI (sm + 0))), (0, .ref q), (2, .int (iI i))]) C d_S_sumOfValues_42 rfl hl (by decide) rfl (fun ls hl => ?_)
          refine r_iinc (pc := 43) (j := 2) (lv' := [(2, .int (iI (i + 1))), (1, .int (iI (sm + 0))), (0, .ref q)]) C d_S_sumOfValues_43 hl rfl (by decide) rfl (fun ls hl => ?_)
          refine r_goto (pc := 46) (tgt := 4) C d_S_sumOfValues_46 (by decide) ?_
          exact ih4 (i + 1) (sm + 0) (by omega) ((by rw [ps_succ _ (by omega), hs]; unfold smf; first | rw [if_pos (by omega)] | rw [if_neg (by omega)])) (by omega) _ _ _ w (lv_sub hl [2, 1, 0] rfl)
  exact L4 ((r - 0) + 1 : Int).toNat 0 0 (by first | omega | rfl) (by first | omega | rfl) (by omega) _ _ _ w (lv_sub hl [2, 1, 0] rfl)
theorem d_S_longestRun_0 : decode b_S_longestRun 0 = .ok (.iconst 0, 1) := by decide +kernel
theorem d_S_longestRun_1 : decode b_S_longestRun 1 = .ok (.istore_n 1, 1) := by decide +kernel
theorem d_S_longestRun_2 : decode b_S_longestRun 2 = .ok (.iconst 0, 1) := by decide +kernel
theorem d_S_longestRun_3 : decode b_S_longestRun 3 = .ok (.istore_n 2, 1) := by decide +kernel
theorem d_S_longestRun_4 : decode b_S_longestRun 4 = .ok (.iload_n 2, 1) := by decide +kernel
theorem d_S_longestRun_5 : decode b_S_longestRun 5 = .ok (.aload_n 0, 1) := by decide +kernel
theorem d_S_longestRun_6 : decode b_S_longestRun 6 = .ok (.getfield 18, 3) := by decide +kernel
theorem d_S_longestRun_9 : decode b_S_longestRun 9 = .ok (.if_icmp .ge 20, 3) := by decide +kernel
theorem d_S_longestRun_12 : decode b_S_longestRun 12 = .ok (.iload_n 1, 1) := by decide +kernel
theorem d_S_longestRun_13 : decode b_S_longestRun 13 = .ok (.aload_n 0, 1) := by decide +kernel
theorem d_S_longestRun_14 : decode b_S_longestRun 14 = .ok (.getfield 15, 3) := by decide +kernel
theorem d_S_longestRun_17 : decode b_S_longestRun 17 = .ok (.iload_n 2, 1) := by decide +kernel
theorem d_S_longestRun_18 : decode b_S_longestRun 18 = .ok (.iaload, 1) := by decide +kernel
theorem d_S_longestRun_19 : decode b_S_longestRun 19 = .ok (.invokestatic 61, 3) := by decide +kernel
theorem d_S_longestRun_22 : decode b_S_longestRun 22 = .ok (.istore_n 1, 1) := by decide +kernel
theorem d_S_longestRun_23 : decode b_S_longestRun 23 = .ok (.iinc 2 1, 3) := by decide +kernel
theorem d_S_longestRun_26 : decode b_S_longestRun 26 = .ok (.goto (-22), 3) := by decide +kernel
theorem d_S_longestRun_29 : decode b_S_longestRun 29 = .ok (.iload_n 1, 1) := by decide +kernel
theorem d_S_longestRun_30 : decode b_S_longestRun 30 = .ok (.ireturn, 1) := by decide +kernel
set_option maxHeartbeats 4000000 in
set_option maxRecDepth 20000 in
theorem c_S_longestRun {l : Launch} {G : va_G} {tys : List (ClassId × FieldType)} {cI cO cZ : ClassId} (hT : TY tys cI cO cZ) (q a b : Nat) (sg ln : Int → Int) (r pl ov lc sd : Int) (N : Int) (v : Int → Int) (hO : Ok r sg ln N v) (hr : r ≤ 50) (hN : N ≤ 3000)  : CTI l G tys y_S_longestRun b_S_longestRun 3 .int 1 19 [.ref q] (sw cI q a b sg ln r pl ov lc sd) (fun z u => u = sw cI q a b sg ln r pl ov lc sd ∧ (z = mx ln r)) := by
  refine mkI (by decide) (Nat.le_of_ble_eq_true rfl) ?_
  rintro X rfl rfl rfl hRm C kret H ls w hl
  have hl : lv_has ls 3 [(0, .ref q)] := hl
  have w : Wd X (sw cI q a b sg ln r pl ov lc sd) H [] := w
  generalize ([] : List Loc) = locs at w ⊢
  have hr0 := hO.1
  have hN0 := hO.n0
  have hps := ps_zero ln
  have hpr := hO.2.2.2.1
  refine r_iconst (pc := 0) C d_S_longestRun_0 ?_
  refine r_istore_n (pc := 1) (lv' := [(1, .int (iI 0)), (0, .ref q)]) C d_S_longestRun_1 rfl hl (by decide) rfl (fun ls hl => ?_)
  refine r_iconst (pc := 2) C d_S_longestRun_2 ?_
  refine r_istore_n (pc := 3) (lv' := [(2, .int (iI 0)), (1, .int (iI 0)), (0, .ref q)]) C d_S_longestRun_3 rfl hl (by decide) rfl (fun ls hl => ?_)
  have L4 : ∀ (fuel : Nat), ∀ (i : Int) (m : Int), 0 ≤ i ∧ i ≤ r → m = mx ln i → 0 ≤ m ∧ m ≤ 3000 → (r - i) < (fuel : Int) → ∀ (H : Heap) (locs : List Loc) (ls : Array Slot), Wd X (sw cI q a b sg ln r pl ov lc sd) H locs → lv_has ls 3 [(0, .ref q), (1, .int (iI m)), (2, .int (iI i))] → GG X 0 0 H locs 4 ls [] := by
    intro fuel
    induction fuel with
    | zero =>
      intro i m h0 hs hm hfuel
      exact absurd hfuel (by omega)
    | succ fuel ih4 =>
      intro i m h0 hs hm hfuel H locs ls w hl
      refine r_iload_n (pc := 4) C d_S_longestRun_4 rfl (lv_at hl 2 rfl) ?_
      refine r_aload_n (pc := 5) C d_S_longestRun_5 rfl (lv_at hl 0 rfl) ?_
      refine r_get (pc := 6) (v := .int (iI r)) C w i_S rfl 0 rfl 2 (by decide) fl_S_18 rfl rfl d_S_longestRun_6 ?_
      refine r_icmp_ge (pc := 9) (tgt := 29) C (by omega) d_S_longestRun_9 (by decide) (fun c_9 => ?_) (fun c_9 => ?_)
      · skip
        refine r_iload_n (pc := 29) C d_S_longestRun_29 rfl (lv_at hl 1 rfl) ?_
        exact kret _ _ _ _ m _ d_S_longestRun_30 w (⟨rfl, by rw [hs, show i = r by omega]⟩)
      · skip
        have hk2 := hO.run (k := i) (by omega) (by omega)
        refine r_iload_n (pc := 12) C d_S_longestRun_12 rfl (lv_at hl 1 rfl) ?_
        refine r_aload_n (pc := 13) C d_S_longestRun_13 rfl (lv_at hl 0 rfl) ?_
        refine r_get (pc := 14) (v := .ref b) C w i_S rfl 0 rfl 1 (by decide) fl_S_15 rfl rfl d_S_longestRun_14 ?_
        refine r_iload_n (pc := 17) C d_S_longestRun_17 rfl (lv_at hl 2 rfl) ?_
        refine r_iald (pc := 18) (f := ln) (i := i) C w 0 2 rfl hT.1 (by omega) d_S_longestRun_18 ?_
        refine r_max (pc := 19) C ml_S_61 (by omega) (by rw [hRm]; exact ⟨⟨Nat.le_of_ble_eq_true rfl, Nat.le_of_ble_eq_true rfl⟩, Nat.le_of_ble_eq_true rfl, Nat.le_of_ble_eq_true rfl⟩) hl.1 d_S_longestRun_19 ?_
        refine r_istore_n (pc := 22) (lv' := [(1, .int (iI (max m (ln i)))), (0, .ref q), (2, .int (iI i))]) C d_S_longestRun_22 rfl hl (by decide) rfl (fun ls hl => ?_)
        refine r_iinc (pc := 23) (j := 2) (lv' := [(2, .int (iI (i + 1))), (1, .int (iI (max m (ln i)))), (0, .ref q)]) C d_S_longestRun_23 hl rfl (by decide) rfl (fun ls hl => ?_)
        refine r_goto (pc := 26) (tgt := 4) C d_S_longestRun_26 (by decide) ?_
        exact ih4 (i + 1) (max m (ln i)) (by omega) ((by rw [mx_succ _ (by omega), hs])) (by omega) (by omega) _ _ _ w (lv_sub hl [2, 1, 0] rfl)
  exact L4 ((r - 0) + 1 : Int).toNat 0 0 (by first | omega | rfl) (by first | omega | rfl) (by first | omega | rfl) (by omega) _ _ _ w (lv_sub hl [2, 1, 0] rfl)
theorem d_S_allBits_0 : decode b_S_allBits 0 = .ok (.iconst 0, 1) := by decide +kernel
theorem d_S_allBits_1 : decode b_S_allBits 1 = .ok (.istore_n 2, 1) := by decide +kernel
theorem d_S_allBits_2 : decode b_S_allBits 2 = .ok (.iconst 0, 1) := by decide +kernel
theorem d_S_allBits_3 : decode b_S_allBits 3 = .ok (.istore_n 3, 1) := by decide +kernel
theorem d_S_allBits_4 : decode b_S_allBits 4 = .ok (.iload_n 3, 1) := by decide +kernel
theorem d_S_allBits_5 : decode b_S_allBits 5 = .ok (.aload_n 0, 1) := by decide +kernel
theorem d_S_allBits_6 : decode b_S_allBits 6 = .ok (.getfield 18, 3) := by decide +kernel
theorem d_S_allBits_9 : decode b_S_allBits 9 = .ok (.if_icmp .ge 28, 3) := by decide +kernel
theorem d_S_allBits_12 : decode b_S_allBits 12 = .ok (.iload_n 2, 1) := by decide +kernel
theorem d_S_allBits_13 : decode b_S_allBits 13 = .ok (.iload_n 1, 1) := by decide +kernel
theorem d_S_allBits_14 : decode b_S_allBits 14 = .ok (.aload_n 0, 1) := by decide +kernel
theorem d_S_allBits_15 : decode b_S_allBits 15 = .ok (.getfield 9, 3) := by decide +kernel
theorem d_S_allBits_18 : decode b_S_allBits 18 = .ok (.iload_n 3, 1) := by decide +kernel
theorem d_S_allBits_19 : decode b_S_allBits 19 = .ok (.iaload, 1) := by decide +kernel
theorem d_S_allBits_20 : decode b_S_allBits 20 = .ok (.aload_n 0, 1) := by decide +kernel
theorem d_S_allBits_21 : decode b_S_allBits 21 = .ok (.getfield 15, 3) := by decide +kernel
theorem d_S_allBits_24 : decode b_S_allBits 24 = .ok (.iload_n 3, 1) := by decide +kernel
theorem d_S_allBits_25 : decode b_S_allBits 25 = .ok (.iaload, 1) := by decide +kernel
theorem d_S_allBits_26 : decode b_S_allBits 26 = .ok (.invokestatic 64, 3) := by decide +kernel
theorem d_S_allBits_29 : decode b_S_allBits 29 = .ok (.iadd, 1) := by decide +kernel
theorem d_S_allBits_30 : decode b_S_allBits 30 = .ok (.istore_n 2, 1) := by decide +kernel
theorem d_S_allBits_31 : decode b_S_allBits 31 = .ok (.iinc 3 1, 3) := by decide +kernel
theorem d_S_allBits_34 : decode b_S_allBits 34 = .ok (.goto (-30), 3) := by decide +kernel
theorem d_S_allBits_37 : decode b_S_allBits 37 = .ok (.iload_n 2, 1) := by decide +kernel
theorem d_S_allBits_38 : decode b_S_allBits 38 = .ok (.ireturn, 1) := by decide +kernel
set_option maxHeartbeats 4000000 in
set_option maxRecDepth 20000 in
theorem c_S_allBits {l : Launch} {G : va_G} {tys : List (ClassId × FieldType)} {cI cO cZ : ClassId} (hT : TY tys cI cO cZ) (q a b : Nat) (sg ln : Int → Int) (r pl ov lc sd : Int) (N : Int) (v : Int → Int) (hO : Ok r sg ln N v) (hr : r ≤ 50) (hN : N ≤ 3000) (code : Int) (hc : 0 ≤ code ∧ code ≤ 2) : CTI l G tys y_S_allBits b_S_allBits 4 .int 3 67 [.ref q, .int (iI code)] (sw cI q a b sg ln r pl ov lc sd) (fun z u => u = sw cI q a b sg ln r pl ov lc sd ∧ (z = ps (rbf code sg ln) r)) := by
  refine mkI (by decide) (Nat.le_of_ble_eq_true rfl) ?_
  rintro X rfl rfl rfl hRm C kret H ls w hl
  have hl : lv_has ls 4 [(0, .ref q), (1, .int (iI code))] := hl
  have w : Wd X (sw cI q a b sg ln r pl ov lc sd) H [] := w
  generalize ([] : List Loc) = locs at w ⊢
  have hr0 := hO.1
  have hN0 := hO.n0
  have hps := ps_zero ln
  have hpr := hO.2.2.2.1
  refine r_iconst (pc := 0) C d_S_allBits_0 ?_
  refine r_istore_n (pc := 1) (lv' := [(2, .int (iI 0)), (0, .ref q), (1, .int (iI code))]) C d_S_allBits_1 rfl hl (by decide) rfl (fun ls hl => ?_)
  refine r_iconst (pc := 2) C d_S_allBits_2 ?_
  refine r_istore_n (pc := 3) (lv' := [(3, .int (iI 0)), (2, .int (iI 0)), (0, .ref q), (1, .int (iI code))]) C d_S_allBits_3 rfl hl (by decide) rfl (fun ls hl => ?_)
  have L4 : ∀ (fuel : Nat), ∀ (i : Int) (bt : Int), 0 ≤ i ∧ i ≤ r → bt = ps (rbf code sg ln) i → (r - i) < (fuel : Int) → ∀ (H : Heap) (locs : List Loc) (ls : Array Slot), Wd X (sw cI q a b sg ln r pl ov lc sd) H locs → lv_has ls 4 [(0, .ref q), (1, .int (iI code)), (2, .int (iI bt)), (3, .int (iI i))] → GG X 0 0 H locs 4 ls [] := by
    intro fuel
    induction fuel with
    | zero =>
      intro i bt h0 hs hfuel
      exact absurd hfuel (by omega)
    | succ fuel ih4 =>
      intro i bt h0 hs hfuel H locs ls w hl
      refine r_iload_n (pc := 4) C d_S_allBits_4 rfl (lv_at hl 3 rfl) ?_
      refine r_aload_n (pc := 5) C d_S_allBits_5 rfl (lv_at hl 0 rfl) ?_
      refine r_get (pc := 6) (v := .int (iI r)) C w i_S rfl 0 rfl 2 (by decide) fl_S_18 rfl rfl d_S_allBits_6 ?_
      refine r_icmp_ge (pc := 9) (tgt := 37) C (by omega) d_S_allBits_9 (by decide) (fun c_9 => ?_) (fun c_9 => ?_)
      · skip
        refine r_iload_n (pc := 37) C d_S_allBits_37 rfl (lv_at hl 2 rfl) ?_
        exact kret _ _ _ _ bt _ d_S_allBits_38 w (⟨rfl, by rw [hs, show i = r by omega]⟩)
      · skip
        have hk2 := hO.run (k := i) (by omega) (by omega)
        refine r_iload_n (pc := 12) C d_S_allBits_12 rfl (lv_at hl 2 rfl) ?_
        refine r_iload_n (pc := 13) C d_S_allBits_13 rfl (lv_at hl 1 rfl) ?_
        refine r_aload_n (pc := 14) C d_S_allBits_14 rfl (lv_at hl 0 rfl) ?_
        refine r_get (pc := 15) (v := .ref a) C w i_S rfl 0 rfl 0 (by decide) fl_S_9 rfl rfl d_S_allBits_15 ?_
        refine r_iload_n (pc := 18) C d_S_allBits_18 rfl (lv_at hl 3 rfl) ?_
        refine r_iald (pc := 19) (f := sg) (i := i) C w 0 1 rfl hT.1 (by omega) d_S_allBits_19 ?_
        refine r_aload_n (pc := 20) C d_S_allBits_20 rfl (lv_at hl 0 rfl) ?_
        refine r_get (pc := 21) (v := .ref b) C w i_S rfl 0 rfl 1 (by decide) fl_S_15 rfl rfl d_S_allBits_21 ?_
        refine r_iload_n (pc := 24) C d_S_allBits_24 rfl (lv_at hl 3 rfl) ?_
        refine r_iald (pc := 25) (f := ln) (i := i) C w 0 2 rfl hT.1 (by omega) d_S_allBits_25 ?_
        refine r_callP (pc := 26) (As := [.int (iI code), .int (iI (sg i)), .int (iI (ln i))]) (rest := [.int (iI bt)]) C w (c_C_bitsOfRun code (sg i) (ln i) (by omega) (by omega) (by omega)) ml_S_64 st_C_bitsOfRun ini_C cd_C_bitsOfRun hd_C_bitsOfRun rfl (by rw [hRm]; exact ⟨⟨Nat.le_of_ble_eq_true rfl, Nat.le_of_ble_eq_true rfl⟩, Nat.le_of_ble_eq_true rfl, Nat.le_of_ble_eq_true rfl⟩) hl.1 rfl (Nat.le_of_ble_eq_true rfl) d_S_allBits_26 (fun z_26 H locs hz_26 w => ?_)
        subst hz_26
        have hrb := rb_rg (code := code) (s := (sg i)) (n := (ln i)) (by omega)
        refine r_iadd (pc := 29) C d_S_allBits_29 ?_
        refine r_istore_n (pc := 30) (lv' := [(2, .int (iI (bt + (rb code (sg i) (ln i))))), (0, .ref q), (1, .int (iI code)), (3, .int (iI i))]) C d_S_allBits_30 rfl hl (by decide) rfl (fun ls hl => ?_)
        refine r_iinc (pc := 31) (j := 3) (lv' := [(3, .int (iI (i + 1))), (2, .int (iI (bt + (rb code (sg i) (ln i))))), (0, .ref q), (1, .int (iI code))]) C d_S_allBits_31 hl rfl (by decide) rfl (fun ls hl => ?_)
        refine r_goto (pc := 34) (tgt := 4) C d_S_allBits_34 (by decide) ?_
        exact ih4 (i + 1) (bt + (rb code (sg i) (ln i))) (by omega) ((by rw [ps_succ _ (by omega), hs]; rfl)) (by omega) _ _ _ w (lv_sub hl [2, 3, 1, 0] rfl)
  exact L4 ((r - 0) + 1 : Int).toNat 0 0 (by first | omega | rfl) (by first | omega | rfl) (by omega) _ _ _ w (lv_sub hl [2, 3, 1, 0] rfl)
theorem d_S_bitAt_0 : decode b_S_bitAt 0 = .ok (.iload_n 1, 1) := by decide +kernel
theorem d_S_bitAt_1 : decode b_S_bitAt 1 = .ok (.istore_n 2, 1) := by decide +kernel
theorem d_S_bitAt_2 : decode b_S_bitAt 2 = .ok (.iconst 0, 1) := by decide +kernel
theorem d_S_bitAt_3 : decode b_S_bitAt 3 = .ok (.istore_n 3, 1) := by decide +kernel
theorem d_S_bitAt_4 : decode b_S_bitAt 4 = .ok (.iload_n 3, 1) := by decide +kernel
theorem d_S_bitAt_5 : decode b_S_bitAt 5 = .ok (.aload_n 0, 1) := by decide +kernel
theorem d_S_bitAt_6 : decode b_S_bitAt 6 = .ok (.getfield 18, 3) := by decide +kernel
theorem d_S_bitAt_9 : decode b_S_bitAt 9 = .ok (.if_icmp .ge 66, 3) := by decide +kernel
theorem d_S_bitAt_12 : decode b_S_bitAt 12 = .ok (.iload_n 2, 1) := by decide +kernel
theorem d_S_bitAt_13 : decode b_S_bitAt 13 = .ok (.ifCond .lt 62, 3) := by decide +kernel
theorem d_S_bitAt_16 : decode b_S_bitAt 16 = .ok (.aload_n 0, 1) := by decide +kernel
theorem d_S_bitAt_17 : decode b_S_bitAt 17 = .ok (.getfield 29, 3) := by decide +kernel
theorem d_S_bitAt_20 : decode b_S_bitAt 20 = .ok (.aload_n 0, 1) := by decide +kernel
theorem d_S_bitAt_21 : decode b_S_bitAt 21 = .ok (.getfield 9, 3) := by decide +kernel
theorem d_S_bitAt_24 : decode b_S_bitAt 24 = .ok (.iload_n 3, 1) := by decide +kernel
theorem d_S_bitAt_25 : decode b_S_bitAt 25 = .ok (.iaload, 1) := by decide +kernel
theorem d_S_bitAt_26 : decode b_S_bitAt 26 = .ok (.aload_n 0, 1) := by decide +kernel
theorem d_S_bitAt_27 : decode b_S_bitAt 27 = .ok (.getfield 15, 3) := by decide +kernel
theorem d_S_bitAt_30 : decode b_S_bitAt 30 = .ok (.iload_n 3, 1) := by decide +kernel
theorem d_S_bitAt_31 : decode b_S_bitAt 31 = .ok (.iaload, 1) := by decide +kernel
theorem d_S_bitAt_32 : decode b_S_bitAt 32 = .ok (.invokestatic 64, 3) := by decide +kernel
theorem d_S_bitAt_35 : decode b_S_bitAt 35 = .ok (.istore 4, 2) := by decide +kernel
theorem d_S_bitAt_37 : decode b_S_bitAt 37 = .ok (.iload_n 2, 1) := by decide +kernel
theorem d_S_bitAt_38 : decode b_S_bitAt 38 = .ok (.iload 4, 2) := by decide +kernel
theorem d_S_bitAt_40 : decode b_S_bitAt 40 = .ok (.if_icmp .ge 24, 3) := by decide +kernel
theorem d_S_bitAt_43 : decode b_S_bitAt 43 = .ok (.aload_n 0, 1) := by decide +kernel
theorem d_S_bitAt_44 : decode b_S_bitAt 44 = .ok (.getfield 29, 3) := by decide +kernel
theorem d_S_bitAt_47 : decode b_S_bitAt 47 = .ok (.aload_n 0, 1) := by decide +kernel
theorem d_S_bitAt_48 : decode b_S_bitAt 48 = .ok (.getfield 9, 3) := by decide +kernel
theorem d_S_bitAt_51 : decode b_S_bitAt 51 = .ok (.iload_n 3, 1) := by decide +kernel
theorem d_S_bitAt_52 : decode b_S_bitAt 52 = .ok (.iaload, 1) := by decide +kernel
theorem d_S_bitAt_53 : decode b_S_bitAt 53 = .ok (.aload_n 0, 1) := by decide +kernel
theorem d_S_bitAt_54 : decode b_S_bitAt 54 = .ok (.getfield 15, 3) := by decide +kernel
theorem d_S_bitAt_57 : decode b_S_bitAt 57 = .ok (.iload_n 3, 1) := by decide +kernel
theorem d_S_bitAt_58 : decode b_S_bitAt 58 = .ok (.iaload, 1) := by decide +kernel
theorem d_S_bitAt_59 : decode b_S_bitAt 59 = .ok (.iload_n 2, 1) := by decide +kernel
theorem d_S_bitAt_60 : decode b_S_bitAt 60 = .ok (.invokestatic 69, 3) := by decide +kernel
theorem d_S_bitAt_63 : decode b_S_bitAt 63 = .ok (.ireturn, 1) := by decide +kernel
theorem d_S_bitAt_64 : decode b_S_bitAt 64 = .ok (.iload_n 2, 1) := by decide +kernel
theorem d_S_bitAt_65 : decode b_S_bitAt 65 = .ok (.iload 4, 2) := by decide +kernel
theorem d_S_bitAt_67 : decode b_S_bitAt 67 = .ok (.isub, 1) := by decide +kernel
theorem d_S_bitAt_68 : decode b_S_bitAt 68 = .ok (.istore_n 2, 1) := by decide +kernel
theorem d_S_bitAt_69 : decode b_S_bitAt 69 = .ok (.iinc 3 1, 3) := by decide +kernel
theorem d_S_bitAt_72 : decode b_S_bitAt 72 = .ok (.goto (-68), 3) := by decide +kernel
theorem d_S_bitAt_75 : decode b_S_bitAt 75 = .ok (.iconst (-1), 1) := by decide +kernel
theorem d_S_bitAt_76 : decode b_S_bitAt 76 = .ok (.ireturn, 1) := by decide +kernel
set_option maxHeartbeats 4000000 in
set_option maxRecDepth 20000 in
theorem c_S_bitAt {l : Launch} {G : va_G} {tys : List (ClassId × FieldType)} {cI cO cZ : ClassId} (hT : TY tys cI cO cZ) (q a b : Nat) (sg ln : Int → Int) (r pl ov lc sd : Int) (N : Int) (v : Int → Int) (hO : Ok r sg ln N v) (hr : r ≤ 50) (hN : N ≤ 3000) (x : Int) (hx : (-2147483648 ≤ x ∧ x < 2147483648)) (hc : 0 ≤ lc ∧ lc ≤ 2) : CTI l G tys y_S_bitAt b_S_bitAt 5 .int 3 71 [.ref q, .int (iI x)] (sw cI q a b sg ln r pl ov lc sd) (fun z u => u = sw cI q a b sg ln r pl ov lc sd ∧ (BitAt lc r sg ln x z)) := by
  refine mkI (by decide) (Nat.le_of_ble_eq_true rfl) ?_
  rintro X rfl rfl rfl hRm C kret H ls w hl
  have hl : lv_has ls 5 [(0, .ref q), (1, .int (iI x))] := hl
  have w : Wd X (sw cI q a b sg ln r pl ov lc sd) H [] := w
  generalize ([] : List Loc) = locs at w ⊢
  have hr0 := hO.1
  have hN0 := hO.n0
  have hps := ps_zero ln
  have hpr := hO.2.2.2.1
  refine r_iload_n (pc := 0) C d_S_bitAt_0 rfl (lv_at hl 1 rfl) ?_
  refine r_istore_n (pc := 1) (lv' := [(2, .int (iI x)), (0, .ref q), (1, .int (iI x))]) C d_S_bitAt_1 rfl hl (by decide) rfl (fun ls hl => ?_)
  refine r_iconst (pc := 2) C d_S_bitAt_2 ?_
  refine r_istore_n (pc := 3) (lv' := [(3, .int (iI 0)), (2, .int (iI x)), (0, .ref q), (1, .int (iI x))]) C d_S_bitAt_3 rfl hl (by decide) rfl (fun ls hl => ?_)
  have L4 : ∀ (fuel : Nat), ∀ (i : Int) (rest : Int), 0 ≤ i ∧ i ≤ r → rest = x - ps (rbf lc sg ln) i ∧ (0 ≤ rest ∨ i = 0) → (r - i) < (fuel : Int) → ∀ (H : Heap) (locs : List Loc) (ls : Array Slot), Wd X (sw cI q a b sg ln r pl ov lc sd) H locs → lv_has ls 5 [(0, .ref q), (1, .int (iI x)), (2, .int (iI rest)), (3, .int (iI i))] → GG X 0 0 H locs 4 ls [] := by
    intro fuel
    induction fuel with
    | zero =>
      intro i rest h0 hs hfuel
      exact absurd hfuel (by omega)
    | succ fuel ih4 =>
      intro i rest h0 hs hfuel H locs ls w hl
      have hi0 : i = 0 → ps (rbf lc sg ln) i = 0 := fun q => by rw [q, ps_zero]
      have hab := allBits_rg (code := lc) hO hN (k := i) (by omega) (by omega)
      have habr := allBits_rg (code := lc) hO hN (k := r) (by omega) (by omega)
      refine r_iload_n (pc := 4) C d_S_bitAt_4 rfl (lv_at hl 3 rfl) ?_
      refine r_aload_n (pc := 5) C d_S_bitAt_5 rfl (lv_at hl 0 rfl) ?_
      refine r_get (pc := 6) (v := .int (iI r)) C w i_S rfl 0 rfl 2 (by decide) fl_S_18 rfl rfl d_S_bitAt_6 ?_
      refine r_icmp_ge (pc := 9) (tgt := 75) C (by omega) d_S_bitAt_9 (by decide) (fun c_9 => ?_) (fun c_9 => ?_)
      · skip
        have hir : i = r := by omega
        rw [hir] at hs hi0
        refine r_iconst (pc := 75) C d_S_bitAt_75 ?_
        exact kret _ _ _ _ (-1) _ d_S_bitAt_76 w (⟨rfl, Or.inl ⟨by omega, rfl⟩⟩)
      · skip
        refine r_iload_n (pc := 12) C d_S_bitAt_12 rfl (lv_at hl 2 rfl) ?_
        refine r_if_lt (pc := 13) (tgt := 75) C (by omega) d_S_bitAt_13 (by decide) (fun c_13 => ?_) (fun c_13 => ?_)
        · skip
          refine r_iconst (pc := 75) C d_S_bitAt_75 ?_
          exact kret _ _ _ _ (-1) _ d_S_bitAt_76 w (⟨rfl, Or.inl ⟨by omega, rfl⟩⟩)
        · skip
          have hk2 := hO.run (k := i) (by omega) (by omega)
          have hbs : ps (rbf lc sg ln) (i + 1) = ps (rbf lc sg ln) i + rb lc (sg i) (ln i) := ps_succ _ (by omega)
          refine r_aload_n (pc := 16) C d_S_bitAt_16 rfl (lv_at hl 0 rfl) ?_
          refine r_get (pc := 17) (v := .int (iI lc)) C w i_S rfl 0 rfl 5 (by decide) fl_S_29 rfl rfl d_S_bitAt_17 ?_
          refine r_aload_n (pc := 20) C d_S_bitAt_20 rfl (lv_at hl 0 rfl) ?_
          refine r_get (pc := 21) (v := .ref a) C w i_S rfl 0 rfl 0 (by decide) fl_S_9 rfl rfl d_S_bitAt_21 ?_
          refine r_iload_n (pc := 24) C d_S_bitAt_24 rfl (lv_at hl 3 rfl) ?_
          refine r_iald (pc := 25) (f := sg) (i := i) C w 0 1 rfl hT.1 (by omega) d_S_bitAt_25 ?_
          refine r_aload_n (pc := 26) C d_S_bitAt_26 rfl (lv_at hl 0 rfl) ?_
          refine r_get (pc := 27) (v := .ref b) C w i_S rfl 0 rfl 1 (by decide) fl_S_15 rfl rfl d_S_bitAt_27 ?_
          refine r_iload_n (pc := 30) C d_S_bitAt_30 rfl (lv_at hl 3 rfl) ?_
          refine r_iald (pc := 31) (f := ln) (i := i) C w 0 2 rfl hT.1 (by omega) d_S_bitAt_31 ?_
          refine r_callP (pc := 32) (As := [.int (iI lc), .int (iI (sg i)), .int (iI (ln i))]) (rest := []) C w (c_C_bitsOfRun lc (sg i) (ln i) (by omega) (by omega) (by omega)) ml_S_64 st_C_bitsOfRun ini_C cd_C_bitsOfRun hd_C_bitsOfRun rfl (by rw [hRm]; exact ⟨⟨Nat.le_of_ble_eq_true rfl, Nat.le_of_ble_eq_true rfl⟩, Nat.le_of_ble_eq_true rfl, Nat.le_of_ble_eq_true rfl⟩) hl.1 rfl (Nat.le_of_ble_eq_true rfl) d_S_bitAt_32 (fun z_32 H locs hz_32 w => ?_)
          subst hz_32
          have hrb := rb_rg (code := lc) (s := (sg i)) (n := (ln i)) (by omega)
          refine r_istore (pc := 35) (lv' := [(4, .int (iI (rb lc (sg i) (ln i)))), (0, .ref q), (1, .int (iI x)), (2, .int (iI rest)), (3, .int (iI i))]) C d_S_bitAt_35 hl (by decide) rfl (fun ls hl => ?_)
          refine r_iload_n (pc := 37) C d_S_bitAt_37 rfl (lv_at hl 3 rfl) ?_
          refine r_iload (pc := 38) C d_S_bitAt_38 (lv_at hl 0 rfl) ?_
          refine r_icmp_ge (pc := 40) (tgt := 64) C (by omega) d_S_bitAt_40 (by decide) (fun c_40 => ?_) (fun c_40 => ?_)
          · skip
            refine r_iload_n (pc := 64) C d_S_bitAt_64 rfl (lv_at hl 3 rfl) ?_
            refine r_iload (pc := 65) C d_S_bitAt_65 (lv_at hl 0 rfl) ?_
            refine r_isub (pc := 67) C d_S_bitAt_67 ?_
            refine r_istore_n (pc := 68) (lv' := [(2, .int (iI (rest - (rb lc (sg i) (ln i))))), (4, .int (iI (rb lc (sg i) (ln i)))), (0, .ref q), (1, .int (iI x)), (3, .int (iI i))]) C d_S_bitAt_68 rfl hl (by decide) rfl (fun ls hl => ?_)
            refine r_iinc (pc := 69) (j := 4) (lv' := [(3, .int (iI (i + 1))), (2, .int (iI (rest - (rb lc (sg i) (ln i))))), (4, .int (iI (rb lc (sg i) (ln i)))), (0, .ref q), (1, .int (iI x))]) C d_S_bitAt_69 hl rfl (by decide) rfl (fun ls hl => ?_)
            refine r_goto (pc := 72) (tgt := 4) C d_S_bitAt_72 (by decide) ?_
            exact ih4 (i + 1) (rest - (rb lc (sg i) (ln i))) (by omega) (by omega) (by omega) _ _ _ w (lv_sub hl [3, 4, 1, 0] rfl)
          · skip
            refine r_aload_n (pc := 43) C d_S_bitAt_43 rfl (lv_at hl 1 rfl) ?_
            refine r_get (pc := 44) (v := .int (iI lc)) C w i_S rfl 0 rfl 5 (by decide) fl_S_29 rfl rfl d_S_bitAt_44 ?_
            refine r_aload_n (pc := 47) C d_S_bitAt_47 rfl (lv_at hl 1 rfl) ?_
            refine r_get (pc := 48) (v := .ref a) C w i_S rfl 0 rfl 0 (by decide) fl_S_9 rfl rfl d_S_bitAt_48 ?_
            refine r_iload_n (pc := 51) C d_S_bitAt_51 rfl (lv_at hl 4 rfl) ?_
            refine r_iald (pc := 52) (f := sg) (i := i) C w 0 1 rfl hT.1 (by omega) d_S_bitAt_52 ?_
            refine r_aload_n (pc := 53) C d_S_bitAt_53 rfl (lv_at hl 1 rfl) ?_
            refine r_get (pc := 54) (v := .ref b) C w i_S rfl 0 rfl 1 (by decide) fl_S_15 rfl rfl d_S_bitAt_54 ?_
            refine r_iload_n (pc := 57) C d_S_bitAt_57 rfl (lv_at hl 4 rfl) ?_
            refine r_iald (pc := 58) (f := ln) (i := i) C w 0 2 rfl hT.1 (by omega) d_S_bitAt_58 ?_
            refine r_iload_n (pc := 59) C d_S_bitAt_59 rfl (lv_at hl 3 rfl) ?_
            refine r_callP (pc := 60) (As := [.int (iI lc), .int (iI (sg i)), .int (iI (ln i)), .int (iI rest)]) (rest := []) C w (c_C_bitOfRun lc (sg i) (ln i) rest (by omega) (by omega) (by omega) (by omega)) ml_S_69 st_C_bitOfRun ini_C cd_C_bitOfRun hd_C_bitOfRun rfl (by rw [hRm]; exact ⟨⟨Nat.le_of_ble_eq_true rfl, Nat.le_of_ble_eq_true rfl⟩, Nat.le_of_ble_eq_true rfl, Nat.le_of_ble_eq_true rfl⟩) hl.1 rfl (Nat.le_of_ble_eq_true rfl) d_S_bitAt_60 (fun z_60 H locs hz_60 w => ?_)
            subst hz_60
            exact kret _ _ _ _ (brun lc (sg i) (ln i) rest) _ d_S_bitAt_63 w (⟨rfl, Or.inr ⟨i, by omega, by omega, by omega, by omega, by rw [show x - ps (rbf lc sg ln) i = rest by omega]⟩⟩)
  exact L4 ((r - 0) + 1 : Int).toNat 0 x (by first | omega | rfl) ((by rw [ps_zero]; omega)) (by omega) _ _ _ w (lv_sub hl [2, 3, 1, 0] rfl)
theorem d_S_allCharacters_0 : decode b_S_allCharacters 0 = .ok (.iconst 0, 1) := by decide +kernel
theorem d_S_allCharacters_1 : decode b_S_allCharacters 1 = .ok (.aload_n 0, 1) := by decide +kernel
theorem d_S_allCharacters_2 : decode b_S_allCharacters 2 = .ok (.getfield 18, 3) := by decide +kernel
theorem d_S_allCharacters_5 : decode b_S_allCharacters 5 = .ok (.iconst 1, 1) := by decide +kernel
theorem d_S_allCharacters_6 : decode b_S_allCharacters 6 = .ok (.isub, 1) := by decide +kernel
theorem d_S_allCharacters_7 : decode b_S_allCharacters 7 = .ok (.invokestatic 61, 3) := by decide +kernel
theorem d_S_allCharacters_10 : decode b_S_allCharacters 10 = .ok (.istore_n 1, 1) := by decide +kernel
theorem d_S_allCharacters_11 : decode b_S_allCharacters 11 = .ok (.iconst 0, 1) := by decide +kernel
theorem d_S_allCharacters_12 : decode b_S_allCharacters 12 = .ok (.istore_n 2, 1) := by decide +kernel
theorem d_S_allCharacters_13 : decode b_S_allCharacters 13 = .ok (.iload_n 2, 1) := by decide +kernel
theorem d_S_allCharacters_14 : decode b_S_allCharacters 14 = .ok (.aload_n 0, 1) := by decide +kernel
theorem d_S_allCharacters_15 : decode b_S_allCharacters 15 = .ok (.getfield 18, 3) := by decide +kernel
theorem d_S_allCharacters_18 : decode b_S_allCharacters 18 = .ok (.if_icmp .ge 21, 3) := by decide +kernel
theorem d_S_allCharacters_21 : decode b_S_allCharacters 21 = .ok (.iload_n 1, 1) := by decide +kernel
theorem d_S_allCharacters_22 : decode b_S_allCharacters 22 = .ok (.aload_n 0, 1) := by decide +kernel
theorem d_S_allCharacters_23 : decode b_S_allCharacters 23 = .ok (.getfield 15, 3) := by decide +kernel
theorem d_S_allCharacters_26 : decode b_S_allCharacters 26 = .ok (.iload_n 2, 1) := by decide +kernel
theorem d_S_allCharacters_27 : decode b_S_allCharacters 27 = .ok (.iaload, 1) := by decide +kernel
theorem d_S_allCharacters_28 : decode b_S_allCharacters 28 = .ok (.invokestatic 72, 3) := by decide +kernel
theorem d_S_allCharacters_31 : decode b_S_allCharacters 31 = .ok (.iadd, 1) := by decide +kernel
theorem d_S_allCharacters_32 : decode b_S_allCharacters 32 = .ok (.istore_n 1, 1) := by decide +kernel
theorem d_S_allCharacters_33 : decode b_S_allCharacters 33 = .ok (.iinc 2 1, 3) := by decide +kernel
theorem d_S_allCharacters_36 : decode b_S_allCharacters 36 = .ok (.goto (-23), 3) := by decide +kernel
theorem d_S_allCharacters_39 : decode b_S_allCharacters 39 = .ok (.iload_n 1, 1) := by decide +kernel
theorem d_S_allCharacters_40 : decode b_S_allCharacters 40 = .ok (.ireturn, 1) := by decide +kernel
set_option maxHeartbeats 4000000 in
set_option maxRecDepth 20000 in
theorem c_S_allCharacters {l : Launch} {G : va_G} {tys : List (ClassId × FieldType)} {cI cO cZ : ClassId} (hT : TY tys cI cO cZ) (q a b : Nat) (sg ln : Int → Int) (r pl ov lc sd : Int) (N : Int) (v : Int → Int) (hO : Ok r sg ln N v) (hr : r ≤ 50) (hN : N ≤ 3000)  : CTI l G tys y_S_allCharacters b_S_allCharacters 3 .int 2 43 [.ref q] (sw cI q a b sg ln r pl ov lc sd) (fun z u => u = sw cI q a b sg ln r pl ov lc sd ∧ (z = max 0 (r - 1) + ps (crf ln) r)) := by
  refine mkI (by decide) (Nat.le_of_ble_eq_true rfl) ?_
  rintro X rfl rfl rfl hRm C kret H ls w hl
  have hl : lv_has ls 3 [(0, .ref q)] := hl
  have w : Wd X (sw cI q a b sg ln r pl ov lc sd) H [] := w
  generalize ([] : List Loc) = locs at w ⊢
  have hr0 := hO.1
  have hN0 := hO.n0
  have hps := ps_zero ln
  have hpr := hO.2.2.2.1
  refine r_iconst (pc := 0) C d_S_allCharacters_0 ?_
  refine r_aload_n (pc := 1) C d_S_allCharacters_1 rfl (lv_at hl 0 rfl) ?_
  refine r_get (pc := 2) (v := .int (iI r)) C w i_S rfl 0 rfl 2 (by decide) fl_S_18 rfl rfl d_S_allCharacters_2 ?_
  refine r_iconst (pc := 5) C d_S_allCharacters_5 ?_
  refine r_isub (pc := 6) C d_S_allCharacters_6 ?_
  refine r_max (pc := 7) C ml_S_61 (by omega) (by rw [hRm]; exact ⟨⟨Nat.le_of_ble_eq_true rfl, Nat.le_of_ble_eq_true rfl⟩, Nat.le_of_ble_eq_true rfl, Nat.le_of_ble_eq_true rfl⟩) hl.1 d_S_allCharacters_7 ?_
  refine r_istore_n (pc := 10) (lv' := [(1, .int (iI (max 0 (r - 1)))), (0, .ref q)]) C d_S_allCharacters_10 rfl hl (by decide) rfl (fun ls hl => ?_)
  refine r_iconst (pc := 11) C d_S_allCharacters_11 ?_
  refine r_istore_n (pc := 12) (lv' := [(2, .int (iI 0)), (1, .int (iI (max 0 (r - 1)))), (0, .ref q)]) C d_S_allCharacters_12 rfl hl (by decide) rfl (fun ls hl => ?_)
  have L13 : ∀ (fuel : Nat), ∀ (i : Int) (ch : Int), 0 ≤ i ∧ i ≤ r → ch = max 0 (r - 1) + ps (crf ln) i → (r - i) < (fuel : Int) → ∀ (H : Heap) (locs : List Loc) (ls : Array Slot), Wd X (sw cI q a b sg ln r pl ov lc sd) H locs → lv_has ls 3 [(0, .ref q), (1, .int (iI ch)), (2, .int (iI i))] → GG X 0 0 H locs 13 ls [] := by
    intro fuel
    induction fuel with
    | zero =>
      intro i ch h0 hs hfuel
      exact absurd hfuel (by omega)
    | succ fuel ih13 =>
      intro i ch h0 hs hfuel H locs ls w hl
      refine r_iload_n (pc := 13) C d_S_allCharacters_13 rfl (lv_at hl 2 rfl) ?_
      refine r_aload_n (pc := 14) C d_S_allCharacters_14 rfl (lv_at hl 0 rfl) ?_
      refine r_get (pc := 15) (v := .int (iI r)) C w i_S rfl 0 rfl 2 (by decide) fl_S_18 rfl rfl d_S_allCharacters_15 ?_
      refine r_icmp_ge (pc := 18) (tgt := 39) C (by omega) d_S_allCharacters_18 (by decide) (fun c_18 => ?_) (fun c_18 => ?_)
      · skip
        refine r_iload_n (pc := 39) C d_S_allCharacters_39 rfl (lv_at hl 1 rfl) ?_
        exact kret _ _ _ _ ch _ d_S_allCharacters_40 w (⟨rfl, by rw [hs, show i = r by omega]⟩)
      · skip
        have hk2 := hO.run (k := i) (by omega) (by omega)
        refine r_iload_n (pc := 21) C d_S_allCharacters_21 rfl (lv_at hl 1 rfl) ?_
        refine r_aload_n (pc := 22) C d_S_allCharacters_22 rfl (lv_at hl 0 rfl) ?_
        refine r_get (pc := 23) (v := .ref b) C w i_S rfl 0 rfl 1 (by decide) fl_S_15 rfl rfl d_S_allCharacters_23 ?_
        refine r_iload_n (pc := 26) C d_S_allCharacters_26 rfl (lv_at hl 2 rfl) ?_
        refine r_iald (pc := 27) (f := ln) (i := i) C w 0 2 rfl hT.1 (by omega) d_S_allCharacters_27 ?_
        refine r_callP (pc := 28) (As := [.int (iI (ln i))]) (rest := [.int (iI ch)]) C w (c_X_charactersOfRun (ln i) (by omega)) ml_S_72 st_X_charactersOfRun ini_X cd_X_charactersOfRun hd_X_charactersOfRun rfl (by rw [hRm]; exact ⟨⟨Nat.le_of_ble_eq_true rfl, Nat.le_of_ble_eq_true rfl⟩, Nat.le_of_ble_eq_true rfl, Nat.le_of_ble_eq_true rfl⟩) hl.1 rfl (Nat.le_of_ble_eq_true rfl) d_S_allCharacters_28 (fun z_28 H locs hz_28 w => ?_)
        subst hz_28
        have hdl := dl_rg (ln i)
        have hcr := crl_cases (ln i)
        refine r_iadd (pc := 31) C d_S_allCharacters_31 ?_
        refine r_istore_n (pc := 32) (lv' := [(1, .int (iI (ch + (crl (ln i))))), (0, .ref q), (2, .int (iI i))]) C d_S_allCharacters_32 rfl hl (by decide) rfl (fun ls hl => ?_)
        refine r_iinc (pc := 33) (j := 2) (lv' := [(2, .int (iI (i + 1))), (1, .int (iI (ch + (crl (ln i))))), (0, .ref q)]) C d_S_allCharacters_33 hl rfl (by decide) rfl (fun ls hl => ?_)
        refine r_goto (pc := 36) (tgt := 13) C d_S_allCharacters_36 (by decide) ?_
        exact ih13 (i + 1) (ch + (crl (ln i))) (by omega) ((by rw [ps_succ _ (by omega), hs]; unfold crf; omega)) (by omega) _ _ _ w (lv_sub hl [2, 1, 0] rfl)
  exact L13 ((r - 0) + 1 : Int).toNat 0 (max 0 (r - 1)) (by first | omega | rfl) ((by rw [ps_zero]; omega)) (by omega) _ _ _ w (lv_sub hl [2, 1, 0] rfl)
theorem d_S_characterAt_0 : decode b_S_characterAt 0 = .ok (.iload_n 1, 1) := by decide +kernel
theorem d_S_characterAt_1 : decode b_S_characterAt 1 = .ok (.istore_n 2, 1) := by decide +kernel
theorem d_S_characterAt_2 : decode b_S_characterAt 2 = .ok (.iconst 0, 1) := by decide +kernel
theorem d_S_characterAt_3 : decode b_S_characterAt 3 = .ok (.istore_n 3, 1) := by decide +kernel
theorem d_S_characterAt_4 : decode b_S_characterAt 4 = .ok (.iload_n 3, 1) := by decide +kernel
theorem d_S_characterAt_5 : decode b_S_characterAt 5 = .ok (.aload_n 0, 1) := by decide +kernel
theorem d_S_characterAt_6 : decode b_S_characterAt 6 = .ok (.getfield 18, 3) := by decide +kernel
theorem d_S_characterAt_9 : decode b_S_characterAt 9 = .ok (.if_icmp .ge 73, 3) := by decide +kernel
theorem d_S_characterAt_12 : decode b_S_characterAt 12 = .ok (.iload_n 2, 1) := by decide +kernel
theorem d_S_characterAt_13 : decode b_S_characterAt 13 = .ok (.ifCond .lt 69, 3) := by decide +kernel
theorem d_S_characterAt_16 : decode b_S_characterAt 16 = .ok (.aload_n 0, 1) := by decide +kernel
theorem d_S_characterAt_17 : decode b_S_characterAt 17 = .ok (.getfield 15, 3) := by decide +kernel
theorem d_S_characterAt_20 : decode b_S_characterAt 20 = .ok (.iload_n 3, 1) := by decide +kernel
theorem d_S_characterAt_21 : decode b_S_characterAt 21 = .ok (.iaload, 1) := by decide +kernel
theorem d_S_characterAt_22 : decode b_S_characterAt 22 = .ok (.invokestatic 72, 3) := by decide +kernel
theorem d_S_characterAt_25 : decode b_S_characterAt 25 = .ok (.istore 4, 2) := by decide +kernel
theorem d_S_characterAt_27 : decode b_S_characterAt 27 = .ok (.iload_n 2, 1) := by decide +kernel
theorem d_S_characterAt_28 : decode b_S_characterAt 28 = .ok (.iload 4, 2) := by decide +kernel
theorem d_S_characterAt_30 : decode b_S_characterAt 30 = .ok (.if_icmp .ge 20, 3) := by decide +kernel
theorem d_S_characterAt_33 : decode b_S_characterAt 33 = .ok (.aload_n 0, 1) := by decide +kernel
theorem d_S_characterAt_34 : decode b_S_characterAt 34 = .ok (.getfield 9, 3) := by decide +kernel
theorem d_S_characterAt_37 : decode b_S_characterAt 37 = .ok (.iload_n 3, 1) := by decide +kernel
theorem d_S_characterAt_38 : decode b_S_characterAt 38 = .ok (.iaload, 1) := by decide +kernel
theorem d_S_characterAt_39 : decode b_S_characterAt 39 = .ok (.aload_n 0, 1) := by decide +kernel
theorem d_S_characterAt_40 : decode b_S_characterAt 40 = .ok (.getfield 15, 3) := by decide +kernel
theorem d_S_characterAt_43 : decode b_S_characterAt 43 = .ok (.iload_n 3, 1) := by decide +kernel
theorem d_S_characterAt_44 : decode b_S_characterAt 44 = .ok (.iaload, 1) := by decide +kernel
theorem d_S_characterAt_45 : decode b_S_characterAt 45 = .ok (.iload_n 2, 1) := by decide +kernel
theorem d_S_characterAt_46 : decode b_S_characterAt 46 = .ok (.invokestatic 78, 3) := by decide +kernel
theorem d_S_characterAt_49 : decode b_S_characterAt 49 = .ok (.ireturn, 1) := by decide +kernel
theorem d_S_characterAt_50 : decode b_S_characterAt 50 = .ok (.iload_n 2, 1) := by decide +kernel
theorem d_S_characterAt_51 : decode b_S_characterAt 51 = .ok (.iload 4, 2) := by decide +kernel
theorem d_S_characterAt_53 : decode b_S_characterAt 53 = .ok (.if_icmp .ne 16, 3) := by decide +kernel
theorem d_S_characterAt_56 : decode b_S_characterAt 56 = .ok (.iload_n 3, 1) := by decide +kernel
theorem d_S_characterAt_57 : decode b_S_characterAt 57 = .ok (.aload_n 0, 1) := by decide +kernel
theorem d_S_characterAt_58 : decode b_S_characterAt 58 = .ok (.getfield 18, 3) := by decide +kernel
theorem d_S_characterAt_61 : decode b_S_characterAt 61 = .ok (.iconst 1, 1) := by decide +kernel
theorem d_S_characterAt_62 : decode b_S_characterAt 62 = .ok (.isub, 1) := by decide +kernel
theorem d_S_characterAt_63 : decode b_S_characterAt 63 = .ok (.if_icmp .ge 6, 3) := by decide +kernel
theorem d_S_characterAt_66 : decode b_S_characterAt 66 = .ok (.bipush 59, 2) := by decide +kernel
theorem d_S_characterAt_68 : decode b_S_characterAt 68 = .ok (.ireturn, 1) := by decide +kernel
theorem d_S_characterAt_69 : decode b_S_characterAt 69 = .ok (.iload_n 2, 1) := by decide +kernel
theorem d_S_characterAt_70 : decode b_S_characterAt 70 = .ok (.iload 4, 2) := by decide +kernel
theorem d_S_characterAt_72 : decode b_S_characterAt 72 = .ok (.iconst 1, 1) := by decide +kernel
theorem d_S_characterAt_73 : decode b_S_characterAt 73 = .ok (.iadd, 1) := by decide +kernel
theorem d_S_characterAt_74 : decode b_S_characterAt 74 = .ok (.isub, 1) := by decide +kernel
theorem d_S_characterAt_75 : decode b_S_characterAt 75 = .ok (.istore_n 2, 1) := by decide +kernel
theorem d_S_characterAt_76 : decode b_S_characterAt 76 = .ok (.iinc 3 1, 3) := by decide +kernel
theorem d_S_characterAt_79 : decode b_S_characterAt 79 = .ok (.goto (-75), 3) := by decide +kernel
theorem d_S_characterAt_82 : decode b_S_characterAt 82 = .ok (.iconst (-1), 1) := by decide +kernel
theorem d_S_characterAt_83 : decode b_S_characterAt 83 = .ok (.ireturn, 1) := by decide +kernel
set_option maxHeartbeats 4000000 in
set_option maxRecDepth 20000 in
theorem c_S_characterAt {l : Launch} {G : va_G} {tys : List (ClassId × FieldType)} {cI cO cZ : ClassId} (hT : TY tys cI cO cZ) (q a b : Nat) (sg ln : Int → Int) (r pl ov lc sd : Int) (N : Int) (v : Int → Int) (hO : Ok r sg ln N v) (hr : r ≤ 50) (hN : N ≤ 3000) (x : Int) (hx : (-2147483648 ≤ x ∧ x < 2147483648)) : CTI l G tys y_S_characterAt b_S_characterAt 5 .int 2 47 [.ref q, .int (iI x)] (sw cI q a b sg ln r pl ov lc sd) (fun z u => u = sw cI q a b sg ln r pl ov lc sd ∧ (∀ (Wt : Int → Int) (m : Int), Txt Wt r sg ln m → ((0 ≤ x ∧ x < m) ∧ z = Wt x) ∨ (¬ (0 ≤ x ∧ x < m) ∧ z = -1))) := by
  refine mkI (by decide) (Nat.le_of_ble_eq_true rfl) ?_
  rintro X rfl rfl rfl hRm C kret H ls w hl
  have hl : lv_has ls 5 [(0, .ref q), (1, .int (iI x))] := hl
  have w : Wd X (sw cI q a b sg ln r pl ov lc sd) H [] := w
  generalize ([] : List Loc) = locs at w ⊢
  have hr0 := hO.1
  have hN0 := hO.n0
  have hps := ps_zero ln
  have hpr := hO.2.2.2.1
  refine r_iload_n (pc := 0) C d_S_characterAt_0 rfl (lv_at hl 1 rfl) ?_
  refine r_istore_n (pc := 1) (lv' := [(2, .int (iI x)), (0, .ref q), (1, .int (iI x))]) C d_S_characterAt_1 rfl hl (by decide) rfl (fun ls hl => ?_)
  refine r_iconst (pc := 2) C d_S_characterAt_2 ?_
  refine r_istore_n (pc := 3) (lv' := [(3, .int (iI 0)), (2, .int (iI x)), (0, .ref q), (1, .int (iI x))]) C d_S_characterAt_3 rfl hl (by decide) rfl (fun ls hl => ?_)
  have L4 : ∀ (fuel : Nat), ∀ (i : Int) (rest : Int), 0 ≤ i ∧ i ≤ r → rest = x - (ps (crf ln) i + i) ∧ (0 ≤ rest ∨ i = 0 ∨ (i = r ∧ rest = -1)) → (r - i) < (fuel : Int) → ∀ (H : Heap) (locs : List Loc) (ls : Array Slot), Wd X (sw cI q a b sg ln r pl ov lc sd) H locs → lv_has ls 5 [(0, .ref q), (1, .int (iI x)), (2, .int (iI rest)), (3, .int (iI i))] → GG X 0 0 H locs 4 ls [] := by
    intro fuel
    induction fuel with
    | zero =>
      intro i rest h0 hs hfuel
      exact absurd hfuel (by omega)
    | succ fuel ih4 =>
      intro i rest h0 hs hfuel H locs ls w hl
      have hi0 : i = 0 → ps (crf ln) i = 0 := fun q => by rw [q, ps_zero]
      have hcm := crf_mono hO hN (j := i) (k := r) (by omega) (by omega) (by omega)
      have hcb := (ps_bound (f := crf ln) (lo := 0) (hi := 6) i (by omega) (fun j q1 q2 => by have := crf_pos hO hN q1 (by omega : j < r); omega)).2
      refine r_iload_n (pc := 4) C d_S_characterAt_4 rfl (lv_at hl 3 rfl) ?_
      refine r_aload_n (pc := 5) C d_S_characterAt_5 rfl (lv_at hl 0 rfl) ?_
      refine r_get (pc := 6) (v := .int (iI r)) C w i_S rfl 0 rfl 2 (by decide) fl_S_18 rfl rfl d_S_characterAt_6 ?_
      refine r_icmp_ge (pc := 9) (tgt := 82) C (by omega) d_S_characterAt_9 (by decide) (fun c_9 => ?_) (fun c_9 => ?_)
      · skip
        have hir : i = r := by omega
        rw [hir] at hs hi0 hcm
        refine r_iconst (pc := 82) C d_S_characterAt_82 ?_
        exact kret _ _ _ _ (-1) _ d_S_characterAt_83 w (⟨rfl, fun Wt m hW => Or.inr ⟨by have := hW.1; omega, rfl⟩⟩)
      · skip
        refine r_iload_n (pc := 12) C d_S_characterAt_12 rfl (lv_at hl 2 rfl) ?_
        refine r_if_lt (pc := 13) (tgt := 82) C (by omega) d_S_characterAt_13 (by decide) (fun c_13 => ?_) (fun c_13 => ?_)
        · skip
          refine r_iconst (pc := 82) C d_S_characterAt_82 ?_
          exact kret _ _ _ _ (-1) _ d_S_characterAt_83 w (⟨rfl, fun Wt m hW => Or.inr ⟨by have := hW.1; omega, rfl⟩⟩)
        · skip
          have hk2 := hO.run (k := i) (by omega) (by omega)
          have hcf := crf_pos hO hN (k := i) (by omega) (by omega)
          have hcm2 := crf_mono hO hN (j := i + 1) (k := r) (by omega) (by omega) (by omega)
          refine r_aload_n (pc := 16) C d_S_characterAt_16 rfl (lv_at hl 0 rfl) ?_
          refine r_get (pc := 17) (v := .ref b) C w i_S rfl 0 rfl 1 (by decide) fl_S_15 rfl rfl d_S_characterAt_17 ?_
          refine r_iload_n (pc := 20) C d_S_characterAt_20 rfl (lv_at hl 3 rfl) ?_
          refine r_iald (pc := 21) (f := ln) (i := i) C w 0 2 rfl hT.1 (by omega) d_S_characterAt_21 ?_
          refine r_callP (pc := 22) (As := [.int (iI (ln i))]) (rest := []) C w (c_X_charactersOfRun (ln i) (by omega)) ml_S_72 st_X_charactersOfRun ini_X cd_X_charactersOfRun hd_X_charactersOfRun rfl (by rw [hRm]; exact ⟨⟨Nat.le_of_ble_eq_true rfl, Nat.le_of_ble_eq_true rfl⟩, Nat.le_of_ble_eq_true rfl, Nat.le_of_ble_eq_true rfl⟩) hl.1 rfl (Nat.le_of_ble_eq_true rfl) d_S_characterAt_22 (fun z_22 H locs hz_22 w => ?_)
          subst hz_22
          have hdl := dl_rg (ln i)
          have hcr := crl_cases (ln i)
          refine r_istore (pc := 25) (lv' := [(4, .int (iI (crl (ln i)))), (0, .ref q), (1, .int (iI x)), (2, .int (iI rest)), (3, .int (iI i))]) C d_S_characterAt_25 hl (by decide) rfl (fun ls hl => ?_)
          refine r_iload_n (pc := 27) C d_S_characterAt_27 rfl (lv_at hl 3 rfl) ?_
          refine r_iload (pc := 28) C d_S_characterAt_28 (lv_at hl 0 rfl) ?_
          refine r_icmp_ge (pc := 30) (tgt := 50) C (by omega) d_S_characterAt_30 (by decide) (fun c_30 => ?_) (fun c_30 => ?_)
          · skip
            refine r_iload_n (pc := 50) C d_S_characterAt_50 rfl (lv_at hl 3 rfl) ?_
            refine r_iload (pc := 51) C d_S_characterAt_51 (lv_at hl 0 rfl) ?_
            refine r_icmp_ne (pc := 53) (tgt := 69) C (by omega) d_S_characterAt_53 (by decide) (fun c_53 => ?_) (fun c_53 => ?_)
            · skip
              refine r_iload_n (pc := 69) C d_S_characterAt_69 rfl (lv_at hl 3 rfl) ?_
              refine r_iload (pc := 70) C d_S_characterAt_70 (lv_at hl 0 rfl) ?_
              refine r_iconst (pc := 72) C d_S_characterAt_72 ?_
              refine r_iadd (pc := 73) C d_S_characterAt_73 ?_
              refine r_isub (pc := 74) C d_S_characterAt_74 ?_
              refine r_istore_n (pc := 75) (lv' := [(2, .int (iI (rest - ((crl (ln i)) + 1)))), (4, .int (iI (crl (ln i)))), (0, .ref q), (1, .int (iI x)), (3, .int (iI i))]) C d_S_characterAt_75 rfl hl (by decide) rfl (fun ls hl => ?_)
              refine r_iinc (pc := 76) (j := 4) (lv' := [(3, .int (iI (i + 1))), (2, .int (iI (rest - ((crl (ln i)) + 1)))), (4, .int (iI (crl (ln i)))), (0, .ref q), (1, .int (iI x))]) C d_S_characterAt_76 hl rfl (by decide) rfl (fun ls hl => ?_)
              refine r_goto (pc := 79) (tgt := 4) C d_S_characterAt_79 (by decide) ?_
              exact ih4 (i + 1) (rest - ((crl (ln i)) + 1)) (by omega) (by omega) (by omega) _ _ _ w (lv_sub hl [3, 4, 1, 0] rfl)
            · skip
              refine r_iload_n (pc := 56) C d_S_characterAt_56 rfl (lv_at hl 4 rfl) ?_
              refine r_aload_n (pc := 57) C d_S_characterAt_57 rfl (lv_at hl 1 rfl) ?_
              refine r_get (pc := 58) (v := .int (iI r)) C w i_S rfl 0 rfl 2 (by decide) fl_S_18 rfl rfl d_S_characterAt_58 ?_
              refine r_iconst (pc := 61) C d_S_characterAt_61 ?_
              refine r_isub (pc := 62) C d_S_characterAt_62 ?_
              refine r_icmp_ge (pc := 63) (tgt := 69) C (by omega) d_S_characterAt_63 (by decide) (fun c_63 => ?_) (fun c_63 => ?_)
              · skip
                refine r_iload_n (pc := 69) C d_S_characterAt_69 rfl (lv_at hl 3 rfl) ?_
                refine r_iload (pc := 70) C d_S_characterAt_70 (lv_at hl 0 rfl) ?_
                refine r_iconst (pc := 72) C d_S_characterAt_72 ?_
                refine r_iadd (pc := 73) C d_S_characterAt_73 ?_
                refine r_isub (pc := 74) C d_S_characterAt_74 ?_
                refine r_istore_n (pc := 75) (lv' := [(2, .int (iI (rest - ((crl (ln i)) + 1)))), (4, .int (iI (crl (ln i)))), (0, .ref q), (1, .int (iI x)), (3, .int (iI i))]) C d_S_characterAt_75 rfl hl (by decide) rfl (fun ls hl => ?_)
                refine r_iinc (pc := 76) (j := 4) (lv' := [(3, .int (iI (i + 1))), (2, .int (iI (rest - ((crl (ln i)) + 1)))), (4, .int (iI (crl (ln i)))), (0, .ref q), (1, .int (iI x))]) C d_S_characterAt_76 hl rfl (by decide) rfl (fun ls hl => ?_)
                refine r_goto (pc := 79) (tgt := 4) C d_S_characterAt_79 (by decide) ?_
                exact ih4 (i + 1) (rest - ((crl (ln i)) + 1)) (by omega) (by omega) (by omega) _ _ _ w (lv_sub hl [3, 4, 1, 0] rfl)
              · skip
                refine r_bipush (pc := 66) C d_S_characterAt_66 (by decide) ?_
                exact kret _ _ _ _ 59 _ d_S_characterAt_68 w (⟨rfl, fun Wt m hW => Or.inl ⟨by have := hW.1; omega, by rw [show x = ps (crf ln) (i + 1) + (i + 1) - 1 by omega]; exact (hW.2.2 (i + 1) (by omega) (by omega)).symm⟩⟩)
          · skip
            refine r_aload_n (pc := 33) C d_S_characterAt_33 rfl (lv_at hl 1 rfl) ?_
            refine r_get (pc := 34) (v := .ref a) C w i_S rfl 0 rfl 0 (by decide) fl_S_9 rfl rfl d_S_characterAt_34 ?_
            refine r_iload_n (pc := 37) C d_S_characterAt_37 rfl (lv_at hl 4 rfl) ?_
            refine r_iald (pc := 38) (f := sg) (i := i) C w 0 1 rfl hT.1 (by omega) d_S_characterAt_38 ?_
            refine r_aload_n (pc := 39) C d_S_characterAt_39 rfl (lv_at hl 1 rfl) ?_
            refine r_get (pc := 40) (v := .ref b) C w i_S rfl 0 rfl 1 (by decide) fl_S_15 rfl rfl d_S_characterAt_40 ?_
            refine r_iload_n (pc := 43) C d_S_characterAt_43 rfl (lv_at hl 4 rfl) ?_
            refine r_iald (pc := 44) (f := ln) (i := i) C w 0 2 rfl hT.1 (by omega) d_S_characterAt_44 ?_
            refine r_iload_n (pc := 45) C d_S_characterAt_45 rfl (lv_at hl 3 rfl) ?_
            refine r_callP (pc := 46) (As := [.int (iI (sg i)), .int (iI (ln i)), .int (iI rest)]) (rest := []) C w (c_X_characterOfRun (sg i) (ln i) rest (by omega) (by omega) (by omega)) ml_S_78 st_X_characterOfRun ini_X cd_X_characterOfRun hd_X_characterOfRun rfl (by rw [hRm]; exact ⟨⟨Nat.le_of_ble_eq_true rfl, Nat.le_of_ble_eq_true rfl⟩, Nat.le_of_ble_eq_true rfl, Nat.le_of_ble_eq_true rfl⟩) hl.1 rfl (Nat.le_of_ble_eq_true rfl) d_S_characterAt_46 (fun z_46 H locs hz_46 w => ?_)
            subst hz_46
            exact kret _ _ _ _ (chr_ (sg i) (ln i) rest) _ d_S_characterAt_49 w (⟨rfl, fun Wt m hW => Or.inl ⟨by have := hW.1; omega, by rw [show x = ps (crf ln) i + i + rest by omega]; exact (hW.2.1 i (by omega) (by omega) rest (by omega) (by omega)).symm⟩⟩)
  exact L4 ((r - 0) + 1 : Int).toNat 0 x (by first | omega | rfl) ((by rw [ps_zero]; omega)) (by omega) _ _ _ w (lv_sub hl [2, 3, 1, 0] rfl)
theorem d_S_longestLiveStretch_0 : decode b_S_longestLiveStretch 0 = .ok (.iconst 0, 1) := by decide +kernel
theorem d_S_longestLiveStretch_1 : decode b_S_longestLiveStretch 1 = .ok (.istore_n 2, 1) := by decide +kernel
theorem d_S_longestLiveStretch_2 : decode b_S_longestLiveStretch 2 = .ok (.iconst 0, 1) := by decide +kernel
theorem d_S_longestLiveStretch_3 : decode b_S_longestLiveStretch 3 = .ok (.istore_n 3, 1) := by decide +kernel
theorem d_S_longestLiveStretch_4 : decode b_S_longestLiveStretch 4 = .ok (.iconst 0, 1) := by decide +kernel
theorem d_S_longestLiveStretch_5 : decode b_S_longestLiveStretch 5 = .ok (.istore 4, 2) := by decide +kernel
theorem d_S_longestLiveStretch_7 : decode b_S_longestLiveStretch 7 = .ok (.iconst 0, 1) := by decide +kernel
theorem d_S_longestLiveStretch_8 : decode b_S_longestLiveStretch 8 = .ok (.istore 5, 2) := by decide +kernel
theorem d_S_longestLiveStretch_10 : decode b_S_longestLiveStretch 10 = .ok (.iconst 0, 1) := by decide +kernel
theorem d_S_longestLiveStretch_11 : decode b_S_longestLiveStretch 11 = .ok (.istore 6, 2) := by decide +kernel
theorem d_S_longestLiveStretch_13 : decode b_S_longestLiveStretch 13 = .ok (.iload 6, 2) := by decide +kernel
theorem d_S_longestLiveStretch_15 : decode b_S_longestLiveStretch 15 = .ok (.aload_n 0, 1) := by decide +kernel
theorem d_S_longestLiveStretch_16 : decode b_S_longestLiveStretch 16 = .ok (.getfield 18, 3) := by decide +kernel
theorem d_S_longestLiveStretch_19 : decode b_S_longestLiveStretch 19 = .ok (.if_icmp .ge 52, 3) := by decide +kernel
theorem d_S_longestLiveStretch_22 : decode b_S_longestLiveStretch 22 = .ok (.iload_n 2, 1) := by decide +kernel
theorem d_S_longestLiveStretch_23 : decode b_S_longestLiveStretch 23 = .ok (.aload_n 0, 1) := by decide +kernel
theorem d_S_longestLiveStretch_24 : decode b_S_longestLiveStretch 24 = .ok (.getfield 15, 3) := by decide +kernel
theorem d_S_longestLiveStretch_27 : decode b_S_longestLiveStretch 27 = .ok (.iload 6, 2) := by decide +kernel
theorem d_S_longestLiveStretch_29 : decode b_S_longestLiveStretch 29 = .ok (.iaload, 1) := by decide +kernel
theorem d_S_longestLiveStretch_30 : decode b_S_longestLiveStretch 30 = .ok (.iadd, 1) := by decide +kernel
theorem d_S_longestLiveStretch_31 : decode b_S_longestLiveStretch 31 = .ok (.istore_n 2, 1) := by decide +kernel
theorem d_S_longestLiveStretch_32 : decode b_S_longestLiveStretch 32 = .ok (.aload_n 0, 1) := by decide +kernel
theorem d_S_longestLiveStretch_33 : decode b_S_longestLiveStretch 33 = .ok (.getfield 9, 3) := by decide +kernel
theorem d_S_longestLiveStretch_36 : decode b_S_longestLiveStretch 36 = .ok (.iload 6, 2) := by decide +kernel
theorem d_S_longestLiveStretch_38 : decode b_S_longestLiveStretch 38 = .ok (.iaload, 1) := by decide +kernel
theorem d_S_longestLiveStretch_39 : decode b_S_longestLiveStretch 39 = .ok (.bipush 10, 2) := by decide +kernel
theorem d_S_longestLiveStretch_41 : decode b_S_longestLiveStretch 41 = .ok (.if_icmp .ne 8, 3) := by decide +kernel
theorem d_S_longestLiveStretch_44 : decode b_S_longestLiveStretch 44 = .ok (.iload_n 2, 1) := by decide +kernel
theorem d_S_longestLiveStretch_45 : decode b_S_longestLiveStretch 45 = .ok (.istore_n 3, 1) := by decide +kernel
theorem d_S_longestLiveStretch_46 : decode b_S_longestLiveStretch 46 = .ok (.goto 19, 3) := by decide +kernel
theorem d_S_longestLiveStretch_49 : decode b_S_longestLiveStretch 49 = .ok (.iload_n 2, 1) := by decide +kernel
theorem d_S_longestLiveStretch_50 : decode b_S_longestLiveStretch 50 = .ok (.iload_n 3, 1) := by decide +kernel
theorem d_S_longestLiveStretch_51 : decode b_S_longestLiveStretch 51 = .ok (.isub, 1) := by decide +kernel
theorem d_S_longestLiveStretch_52 : decode b_S_longestLiveStretch 52 = .ok (.iload 5, 2) := by decide +kernel
theorem d_S_longestLiveStretch_54 : decode b_S_longestLiveStretch 54 = .ok (.if_icmp .le 11, 3) := by decide +kernel
theorem d_S_longestLiveStretch_57 : decode b_S_longestLiveStretch 57 = .ok (.iload_n 3, 1) := by decide +kernel
theorem d_S_longestLiveStretch_58 : decode b_S_longestLiveStretch 58 = .ok (.istore 4, 2) := by decide +kernel
theorem d_S_longestLiveStretch_60 : decode b_S_longestLiveStretch 60 = .ok (.iload_n 2, 1) := by decide +kernel
theorem d_S_longestLiveStretch_61 : decode b_S_longestLiveStretch 61 = .ok (.iload_n 3, 1) := by decide +kernel
theorem d_S_longestLiveStretch_62 : decode b_S_longestLiveStretch 62 = .ok (.isub, 1) := by decide +kernel
theorem d_S_longestLiveStretch_63 : decode b_S_longestLiveStretch 63 = .ok (.istore 5, 2) := by decide +kernel
theorem d_S_longestLiveStretch_65 : decode b_S_longestLiveStretch 65 = .ok (.iinc 6 1, 3) := by decide +kernel
theorem d_S_longestLiveStretch_68 : decode b_S_longestLiveStretch 68 = .ok (.goto (-55), 3) := by decide +kernel
theorem d_S_longestLiveStretch_71 : decode b_S_longestLiveStretch 71 = .ok (.iload 5, 2) := by decide +kernel
theorem d_S_longestLiveStretch_73 : decode b_S_longestLiveStretch 73 = .ok (.ifCond .ne 6, 3) := by decide +kernel
theorem d_S_longestLiveStretch_76 : decode b_S_longestLiveStretch 76 = .ok (.bipush (-6), 2) := by decide +kernel
theorem d_S_longestLiveStretch_78 : decode b_S_longestLiveStretch 78 = .ok (.ireturn, 1) := by decide +kernel
theorem d_S_longestLiveStretch_79 : decode b_S_longestLiveStretch 79 = .ok (.iload_n 1, 1) := by decide +kernel
theorem d_S_longestLiveStretch_80 : decode b_S_longestLiveStretch 80 = .ok (.ifCond .eq 8, 3) := by decide +kernel
theorem d_S_longestLiveStretch_83 : decode b_S_longestLiveStretch 83 = .ok (.iload 5, 2) := by decide +kernel
theorem d_S_longestLiveStretch_85 : decode b_S_longestLiveStretch 85 = .ok (.goto 5, 3) := by decide +kernel
theorem d_S_longestLiveStretch_88 : decode b_S_longestLiveStretch 88 = .ok (.iload 4, 2) := by decide +kernel
theorem d_S_longestLiveStretch_90 : decode b_S_longestLiveStretch 90 = .ok (.ireturn, 1) := by decide +kernel
set_option maxHeartbeats 4000000 in
set_option maxRecDepth 20000 in
theorem c_S_longestLiveStretch {l : Launch} {G : va_G} {tys : List (ClassId × FieldType)} {cI cO cZ : ClassId} (hT : TY tys cI cO cZ) (q a b : Nat) (sg ln : Int → Int) (r pl ov lc sd : Int) (N : Int) (v : Int → Int) (hO : Ok r sg ln N v) (hr : r ≤ 50) (hN : N ≤ 3000) (itl : Int) (hi : itl = 0 ∨ itl = 1) : CTI l G tys y_S_longestLiveStretch b_S_longestLiveStretch 7 .int 0 0 [.ref q, .int (iI itl)] (sw cI q a b sg ln r pl ov lc sd) (fun z u => u = sw cI q a b sg ln r pl ov lc sd ∧ (z = if (ll v N).2.1 = 0 then -6 else if itl = 1 then (ll v N).2.1 else (ll v N).2.2)) := by
  refine mkI (by decide) (Nat.le_of_ble_eq_true rfl) ?_
  rintro X rfl rfl rfl hRm C kret H ls w hl
  have hl : lv_has ls 7 [(0, .ref q), (1, .int (iI itl))] := hl
  have w : Wd X (sw cI q a b sg ln r pl ov lc sd) H [] := w
  generalize ([] : List Loc) = locs at w ⊢
  have hr0 := hO.1
  have hN0 := hO.n0
  have hps := ps_zero ln
  have hpr := hO.2.2.2.1
  refine r_iconst (pc := 0) C d_S_longestLiveStretch_0 ?_
  refine r_istore_n (pc := 1) (lv' := [(2, .int (iI 0)), (0, .ref q), (1, .int (iI itl))]) C d_S_longestLiveStretch_1 rfl hl (by decide) rfl (fun ls hl => ?_)
  refine r_iconst (pc := 2) C d_S_longestLiveStretch_2 ?_
  refine r_istore_n (pc := 3) (lv' := [(3, .int (iI 0)), (2, .int (iI 0)), (0, .ref q), (1, .int (iI itl))]) C d_S_longestLiveStretch_3 rfl hl (by decide) rfl (fun ls hl => ?_)
  refine r_iconst (pc := 4) C d_S_longestLiveStretch_4 ?_
  refine r_istore (pc := 5) (lv' := [(4, .int (iI 0)), (3, .int (iI 0)), (2, .int (iI 0)), (0, .ref q), (1, .int (iI itl))]) C d_S_longestLiveStretch_5 hl (by decide) rfl (fun ls hl => ?_)
  refine r_iconst (pc := 7) C d_S_longestLiveStretch_7 ?_
  refine r_istore (pc := 8) (lv' := [(5, .int (iI 0)), (4, .int (iI 0)), (3, .int (iI 0)), (2, .int (iI 0)), (0, .ref q), (1, .int (iI itl))]) C d_S_longestLiveStretch_8 hl (by decide) rfl (fun ls hl => ?_)
  refine r_iconst (pc := 10) C d_S_longestLiveStretch_10 ?_
  refine r_istore (pc := 11) (lv' := [(6, .int (iI 0)), (5, .int (iI 0)), (4, .int (iI 0)), (3, .int (iI 0)), (2, .int (iI 0)), (0, .ref q), (1, .int (iI itl))]) C d_S_longestLiveStretch_11 hl (by decide) rfl (fun ls hl => ?_)
  have L13 : ∀ (fuel : Nat), ∀ (i : Int) (S : Int) (since : Int) (bf : Int) (lg : Int), 0 ≤ i ∧ i ≤ r → S = ps ln i ∧ 0 ≤ S ∧ S ≤ N → since = S - (ll v S).1 ∧ lg = (ll v S).2.1 ∧ (lg ≠ 0 → bf = (ll v S).2.2) ∧ 0 ≤ since → (r - i) < (fuel : Int) → ∀ (H : Heap) (locs : List Loc) (ls : Array Slot), Wd X (sw cI q a b sg ln r pl ov lc sd) H locs → lv_has ls 7 [(0, .ref q), (1, .int (iI itl)), (2, .int (iI S)), (3, .int (iI since)), (4, .int (iI bf)), (5, .int (iI lg)), (6, .int (iI i))] → GG X 0 0 H locs 13 ls [] := by
    intro fuel
    induction fuel with
    | zero =>
      intro i S since bf lg h0 hS hs hfuel
      exact absurd hfuel (by omega)
    | succ fuel ih13 =>
      intro i S since bf lg h0 hS hs hfuel H locs ls w hl
      refine r_iload (pc := 13) C d_S_longestLiveStretch_13 (lv_at hl 6 rfl) ?_
      refine r_aload_n (pc := 15) C d_S_longestLiveStretch_15 rfl (lv_at hl 0 rfl) ?_
      refine r_get (pc := 16) (v := .int (iI r)) C w i_S rfl 0 rfl 2 (by decide) fl_S_18 rfl rfl d_S_longestLiveStretch_16 ?_
      refine r_icmp_ge (pc := 19) (tgt := 71) C (by omega) d_S_longestLiveStretch_19 (by decide) (fun c_19 => ?_) (fun c_19 => ?_)
      · skip
        have hSN : S = N := by { rw [hS.1, show i = r by omega]; exact hpr }
        rw [hSN] at hs
        have hlr := ll_rg v N (by omega)
        refine r_iload (pc := 71) C d_S_longestLiveStretch_71 (lv_at hl 5 rfl) ?_
        refine r_if_ne (pc := 73) (tgt := 79) C (by omega) d_S_longestLiveStretch_73 (by decide) (fun c_73 => ?_) (fun c_73 => ?_)
        · skip
          refine r_iload_n (pc := 79) C d_S_longestLiveStretch_79 rfl (lv_at hl 1 rfl) ?_
          refine r_if_eq (pc := 80) (tgt := 88) C (by omega) d_S_longestLiveStretch_80 (by decide) (fun c_80 => ?_) (fun c_80 => ?_)
          · skip
            refine r_iload (pc := 88) C d_S_longestLiveStretch_88 (lv_at hl 4 rfl) ?_
            exact kret _ _ _ _ bf _ d_S_longestLiveStretch_90 w (⟨rfl, by rw [if_neg (by omega)]; first | (rw [if_pos (by omega)]; omega) | (rw [if_neg (by omega)]; exact hs.2.2.1 (by omega))⟩)
          · skip
            refine r_iload (pc := 83) C d_S_longestLiveStretch_83 (lv_at hl 5 rfl) ?_
            refine r_goto (pc := 85) (tgt := 90) C d_S_longestLiveStretch_85 (by decide) ?_
            exact kret _ _ _ _ lg _ d_S_longestLiveStretch_90 w (⟨rfl, by rw [if_neg (by omega)]; first | (rw [if_pos (by omega)]; omega) | (rw [if_neg (by omega)]; exact hs.2.2.1 (by omega))⟩)
        · skip
          refine r_bipush (pc := 76) C d_S_longestLiveStretch_76 (by decide) ?_
          exact kret _ _ _ _ (-6) _ d_S_longestLiveStretch_78 w (⟨rfl, by rw [if_pos (by omega)]⟩)
      · skip
        have hk2 := hO.run (k := i) (by omega) (by omega)
        have hlr := ll_rg v S (by omega)
        refine r_iload_n (pc := 22) C d_S_longestLiveStretch_22 rfl (lv_at hl 2 rfl) ?_
        refine r_aload_n (pc := 23) C d_S_longestLiveStretch_23 rfl (lv_at hl 0 rfl) ?_
        refine r_get (pc := 24) (v := .ref b) C w i_S rfl 0 rfl 1 (by decide) fl_S_15 rfl rfl d_S_longestLiveStretch_24 ?_
        refine r_iload (pc := 27) C d_S_longestLiveStretch_27 (lv_at hl 6 rfl) ?_
        refine r_iald (pc := 29) (f := ln) (i := i) C w 0 2 rfl hT.1 (by omega) d_S_longestLiveStretch_29 ?_
        refine r_iadd (pc := 30) C d_S_longestLiveStretch_30 ?_
        refine r_istore_n (pc := 31) (lv' := [(2, .int (iI (S + (ln i)))), (0, .ref q), (1, .int (iI itl)), (3, .int (iI since)), (4, .int (iI bf)), (5, .int (iI lg)), (6, .int (iI i))]) C d_S_longestLiveStretch_31 rfl hl (by decide) rfl (fun ls hl => ?_)
        refine r_aload_n (pc := 32) C d_S_longestLiveStretch_32 rfl (lv_at hl 1 rfl) ?_
        refine r_get (pc := 33) (v := .ref a) C w i_S rfl 0 rfl 0 (by decide) fl_S_9 rfl rfl d_S_longestLiveStretch_33 ?_
        refine r_iload (pc := 36) C d_S_longestLiveStretch_36 (lv_at hl 6 rfl) ?_
        refine r_iald (pc := 38) (f := sg) (i := i) C w 0 1 rfl hT.1 (by omega) d_S_longestLiveStretch_38 ?_
        refine r_bipush (pc := 39) C d_S_longestLiveStretch_39 (by decide) ?_
        refine r_icmp_ne (pc := 41) (tgt := 49) C (by omega) d_S_longestLiveStretch_41 (by decide) (fun c_41 => ?_) (fun c_41 => ?_)
        · skip
          have hlx := ll_live (v := v) (a := S) (by omega) (ln i) (by omega) (fun x q1 q2 => by rw [hO.2.2.2.2 i (by omega) (by omega) x (by omega) (by omega)]; omega)
          refine r_iload_n (pc := 49) C d_S_longestLiveStretch_49 rfl (lv_at hl 0 rfl) ?_
          refine r_iload_n (pc := 50) C d_S_longestLiveStretch_50 rfl (lv_at hl 3 rfl) ?_
          refine r_isub (pc := 51) C d_S_longestLiveStretch_51 ?_
          refine r_iload (pc := 52) C d_S_longestLiveStretch_52 (lv_at hl 5 rfl) ?_
          refine r_icmp_le (pc := 54) (tgt := 65) C (by omega) d_S_longestLiveStretch_54 (by decide) (fun c_54 => ?_) (fun c_54 => ?_)
          · skip
            rw [if_neg (by omega)] at hlx
            refine r_iinc (pc := 65) (j := 6) (lv' := [(6, .int (iI (i + 1))), (2, .int (iI (S + (ln i)))), (0, .ref q), (1, .int (iI itl)), (3, .int (iI since)), (4, .int (iI bf)), (5, .int (iI lg))]) C d_S_longestLiveStretch_65 hl rfl (by decide) rfl (fun ls hl => ?_)
            refine r_goto (pc := 68) (tgt := 13) C d_S_longestLiveStretch_68 (by decide) ?_
            exact ih13 (i + 1) (S + (ln i)) since bf lg (by omega) (by omega) ((by rw [hlx]; exact ⟨by show _ = _ - _; omega, by first | rfl | (show _ = (ll v S).2.1; omega) | (show _ = (ll v S).1 + ln i; omega), fun h => by first | (show _ = (ll v S).2.2; exact hs.2.2.1 (by omega)) | (show _ = S - (ll v S).1; omega), by omega⟩)) (by omega) _ _ _ w (lv_sub hl [2, 3, 1, 4, 5, 6, 0] rfl)
          · skip
            rw [if_pos (by omega)] at hlx
            refine r_iload_n (pc := 57) C d_S_longestLiveStretch_57 rfl (lv_at hl 3 rfl) ?_
            refine r_istore (pc := 58) (lv' := [(4, .int (iI since)), (2, .int (iI (S + (ln i)))), (0, .ref q), (1, .int (iI itl)), (3, .int (iI since)), (5, .int (iI lg)), (6, .int (iI i))]) C d_S_longestLiveStretch_58 hl (by decide) rfl (fun ls hl => ?_)
            refine r_iload_n (pc := 60) C d_S_longestLiveStretch_60 rfl (lv_at hl 1 rfl) ?_
            refine r_iload_n (pc := 61) C d_S_longestLiveStretch_61 rfl (lv_at hl 4 rfl) ?_
            refine r_isub (pc := 62) C d_S_longestLiveStretch_62 ?_
            refine r_istore (pc := 63) (lv' := [(5, .int (iI ((S + (ln i)) - since))), (4, .int (iI since)), (2, .int (iI (S + (ln i)))), (0, .ref q), (1, .int (iI itl)), (3, .int (iI since)), (6, .int (iI i))]) C d_S_longestLiveStretch_63 hl (by decide) rfl (fun ls hl => ?_)
            refine r_iinc (pc := 65) (j := 6) (lv' := [(6, .int (iI (i + 1))), (5, .int (iI ((S + (ln i)) - since))), (4, .int (iI since)), (2, .int (iI (S + (ln i)))), (0, .ref q), (1, .int (iI itl)), (3, .int (iI since))]) C d_S_longestLiveStretch_65 hl rfl (by decide) rfl (fun ls hl => ?_)
            refine r_goto (pc := 68) (tgt := 13) C d_S_longestLiveStretch_68 (by decide) ?_
            exact ih13 (i + 1) (S + (ln i)) since since ((S + (ln i)) - since) (by omega) (by omega) ((by rw [hlx]; exact ⟨by show _ = _ - _; omega, by first | rfl | (show _ = (ll v S).2.1; omega) | (show _ = (ll v S).1 + ln i; omega), fun h => by first | (show _ = (ll v S).2.2; exact hs.2.2.1 (by omega)) | (show _ = S - (ll v S).1; omega), by omega⟩)) (by omega) _ _ _ w (lv_sub hl [4, 5, 3, 6, 2, 1, 0] rfl)
        · skip
          have hlx := ll_dead (v := v) (a := S) (by omega) (ln i - 1) (by omega) (fun x q1 q2 => by rw [hO.2.2.2.2 i (by omega) (by omega) x (by omega) (by omega)]; omega)
          rw [show S + (ln i - 1) + 1 = S + ln i by omega] at hlx
          refine r_iload_n (pc := 44) C d_S_longestLiveStretch_44 rfl (lv_at hl 0 rfl) ?_
          refine r_istore_n (pc := 45) (lv' := [(3, .int (iI (S + (ln i)))), (2, .int (iI (S + (ln i)))), (0, .ref q), (1, .int (iI itl)), (4, .int (iI bf)), (5, .int (iI lg)), (6, .int (iI i))]) C d_S_longestLiveStretch_45 rfl hl (by decide) rfl (fun ls hl => ?_)
          refine r_goto (pc := 46) (tgt := 65) C d_S_longestLiveStretch_46 (by decide) ?_
          refine r_iinc (pc := 65) (j := 6) (lv' := [(6, .int (iI (i + 1))), (3, .int (iI (S + (ln i)))), (2, .int (iI (S + (ln i)))), (0, .ref q), (1, .int (iI itl)), (4, .int (iI bf)), (5, .int (iI lg))]) C d_S_longestLiveStretch_65 hl rfl (by decide) rfl (fun ls hl => ?_)
          refine r_goto (pc := 68) (tgt := 13) C d_S_longestLiveStretch_68 (by decide) ?_
          exact ih13 (i + 1) (S + (ln i)) (S + (ln i)) bf lg (by omega) (by omega) ((by rw [hlx]; exact ⟨by show _ = _ - _; omega, by first | rfl | (show _ = (ll v S).2.1; omega) | (show _ = (ll v S).1 + ln i; omega), fun h => by first | (show _ = (ll v S).2.2; exact hs.2.2.1 (by omega)) | (show _ = S - (ll v S).1; omega), by omega⟩)) (by omega) _ _ _ w (lv_sub hl [3, 4, 2, 1, 5, 6, 0] rfl)
  exact L13 ((r - 0) + 1 : Int).toNat 0 0 0 0 0 (by first | omega | rfl) (by first | omega | rfl) ((by rw [ll_zero]; exact ⟨rfl, rfl, fun h => absurd rfl h, by decide⟩)) (by omega) _ _ _ w (lv_sub hl [5, 6, 4, 3, 2, 1, 0] rfl)
theorem d_S_savedByWriting_0 : decode b_S_savedByWriting 0 = .ok (.iload_n 1, 1) := by decide +kernel
theorem d_S_savedByWriting_1 : decode b_S_savedByWriting 1 = .ok (.ifCond .lt 22, 3) := by decide +kernel
theorem d_S_savedByWriting_4 : decode b_S_savedByWriting 4 = .ok (.iload_n 1, 1) := by decide +kernel
theorem d_S_savedByWriting_5 : decode b_S_savedByWriting 5 = .ok (.aload_n 0, 1) := by decide +kernel
theorem d_S_savedByWriting_6 : decode b_S_savedByWriting 6 = .ok (.getfield 18, 3) := by decide +kernel
theorem d_S_savedByWriting_9 : decode b_S_savedByWriting 9 = .ok (.if_icmp .ge 14, 3) := by decide +kernel
theorem d_S_savedByWriting_12 : decode b_S_savedByWriting 12 = .ok (.aload_n 0, 1) := by decide +kernel
theorem d_S_savedByWriting_13 : decode b_S_savedByWriting 13 = .ok (.getfield 9, 3) := by decide +kernel
theorem d_S_savedByWriting_16 : decode b_S_savedByWriting 16 = .ok (.iload_n 1, 1) := by decide +kernel
theorem d_S_savedByWriting_17 : decode b_S_savedByWriting 17 = .ok (.iaload, 1) := by decide +kernel
theorem d_S_savedByWriting_18 : decode b_S_savedByWriting 18 = .ok (.bipush 10, 2) := by decide +kernel
theorem d_S_savedByWriting_20 : decode b_S_savedByWriting 20 = .ok (.if_icmp .ne 5, 3) := by decide +kernel
theorem d_S_savedByWriting_23 : decode b_S_savedByWriting 23 = .ok (.iconst 0, 1) := by decide +kernel
theorem d_S_savedByWriting_24 : decode b_S_savedByWriting 24 = .ok (.ireturn, 1) := by decide +kernel
theorem d_S_savedByWriting_25 : decode b_S_savedByWriting 25 = .ok (.aload_n 0, 1) := by decide +kernel
theorem d_S_savedByWriting_26 : decode b_S_savedByWriting 26 = .ok (.iload_n 1, 1) := by decide +kernel
theorem d_S_savedByWriting_27 : decode b_S_savedByWriting 27 = .ok (.aload_n 0, 1) := by decide +kernel
theorem d_S_savedByWriting_28 : decode b_S_savedByWriting 28 = .ok (.getfield 29, 3) := by decide +kernel
theorem d_S_savedByWriting_31 : decode b_S_savedByWriting 31 = .ok (.invokevirtual 90, 3) := by decide +kernel
theorem d_S_savedByWriting_34 : decode b_S_savedByWriting 34 = .ok (.istore_n 3, 1) := by decide +kernel
theorem d_S_savedByWriting_35 : decode b_S_savedByWriting 35 = .ok (.aload_n 0, 1) := by decide +kernel
theorem d_S_savedByWriting_36 : decode b_S_savedByWriting 36 = .ok (.getfield 15, 3) := by decide +kernel
theorem d_S_savedByWriting_39 : decode b_S_savedByWriting 39 = .ok (.iload_n 1, 1) := by decide +kernel
theorem d_S_savedByWriting_40 : decode b_S_savedByWriting 40 = .ok (.iaload, 1) := by decide +kernel
theorem d_S_savedByWriting_41 : decode b_S_savedByWriting 41 = .ok (.istore 4, 2) := by decide +kernel
theorem d_S_savedByWriting_43 : decode b_S_savedByWriting 43 = .ok (.iload_n 1, 1) := by decide +kernel
theorem d_S_savedByWriting_44 : decode b_S_savedByWriting 44 = .ok (.ifCond .le 42, 3) := by decide +kernel
theorem d_S_savedByWriting_47 : decode b_S_savedByWriting 47 = .ok (.aload_n 0, 1) := by decide +kernel
theorem d_S_savedByWriting_48 : decode b_S_savedByWriting 48 = .ok (.getfield 9, 3) := by decide +kernel
theorem d_S_savedByWriting_51 : decode b_S_savedByWriting 51 = .ok (.iload_n 1, 1) := by decide +kernel
theorem d_S_savedByWriting_52 : decode b_S_savedByWriting 52 = .ok (.iconst 1, 1) := by decide +kernel
theorem d_S_savedByWriting_53 : decode b_S_savedByWriting 53 = .ok (.isub, 1) := by decide +kernel
theorem d_S_savedByWriting_54 : decode b_S_savedByWriting 54 = .ok (.iaload, 1) := by decide +kernel
theorem d_S_savedByWriting_55 : decode b_S_savedByWriting 55 = .ok (.iload_n 2, 1) := by decide +kernel
theorem d_S_savedByWriting_56 : decode b_S_savedByWriting 56 = .ok (.if_icmp .ne 30, 3) := by decide +kernel
theorem d_S_savedByWriting_59 : decode b_S_savedByWriting 59 = .ok (.iload_n 3, 1) := by decide +kernel
theorem d_S_savedByWriting_60 : decode b_S_savedByWriting 60 = .ok (.aload_n 0, 1) := by decide +kernel
theorem d_S_savedByWriting_61 : decode b_S_savedByWriting 61 = .ok (.iload_n 1, 1) := by decide +kernel
theorem d_S_savedByWriting_62 : decode b_S_savedByWriting 62 = .ok (.iconst 1, 1) := by decide +kernel
theorem d_S_savedByWriting_63 : decode b_S_savedByWriting 63 = .ok (.isub, 1) := by decide +kernel
theorem d_S_savedByWriting_64 : decode b_S_savedByWriting 64 = .ok (.aload_n 0, 1) := by decide +kernel
theorem d_S_savedByWriting_65 : decode b_S_savedByWriting 65 = .ok (.getfield 29, 3) := by decide +kernel
theorem d_S_savedByWriting_68 : decode b_S_savedByWriting 68 = .ok (.invokevirtual 90, 3) := by decide +kernel
theorem d_S_savedByWriting_71 : decode b_S_savedByWriting 71 = .ok (.iadd, 1) := by decide +kernel
theorem d_S_savedByWriting_72 : decode b_S_savedByWriting 72 = .ok (.istore_n 3, 1) := by decide +kernel
theorem d_S_savedByWriting_73 : decode b_S_savedByWriting 73 = .ok (.iload 4, 2) := by decide +kernel
theorem d_S_savedByWriting_75 : decode b_S_savedByWriting 75 = .ok (.aload_n 0, 1) := by decide +kernel
theorem d_S_savedByWriting_76 : decode b_S_savedByWriting 76 = .ok (.getfield 15, 3) := by decide +kernel
theorem d_S_savedByWriting_79 : decode b_S_savedByWriting 79 = .ok (.iload_n 1, 1) := by decide +kernel
theorem d_S_savedByWriting_80 : decode b_S_savedByWriting 80 = .ok (.iconst 1, 1) := by decide +kernel
theorem d_S_savedByWriting_81 : decode b_S_savedByWriting 81 = .ok (.isub, 1) := by decide +kernel
theorem d_S_savedByWriting_82 : decode b_S_savedByWriting 82 = .ok (.iaload, 1) := by decide +kernel
theorem d_S_savedByWriting_83 : decode b_S_savedByWriting 83 = .ok (.iadd, 1) := by decide +kernel
theorem d_S_savedByWriting_84 : decode b_S_savedByWriting 84 = .ok (.istore 4, 2) := by decide +kernel
theorem d_S_savedByWriting_86 : decode b_S_savedByWriting 86 = .ok (.iload_n 1, 1) := by decide +kernel
theorem d_S_savedByWriting_87 : decode b_S_savedByWriting 87 = .ok (.aload_n 0, 1) := by decide +kernel
theorem d_S_savedByWriting_88 : decode b_S_savedByWriting 88 = .ok (.getfield 18, 3) := by decide +kernel
theorem d_S_savedByWriting_91 : decode b_S_savedByWriting 91 = .ok (.iconst 1, 1) := by decide +kernel
theorem d_S_savedByWriting_92 : decode b_S_savedByWriting 92 = .ok (.isub, 1) := by decide +kernel
theorem d_S_savedByWriting_93 : decode b_S_savedByWriting 93 = .ok (.if_icmp .ge 42, 3) := by decide +kernel
theorem d_S_savedByWriting_96 : decode b_S_savedByWriting 96 = .ok (.aload_n 0, 1) := by decide +kernel
theorem d_S_savedByWriting_97 : decode b_S_savedByWriting 97 = .ok (.getfield 9, 3) := by decide +kernel
theorem d_S_savedByWriting_100 : decode b_S_savedByWriting 100 = .ok (.iload_n 1, 1) := by decide +kernel
theorem d_S_savedByWriting_101 : decode b_S_savedByWriting 101 = .ok (.iconst 1, 1) := by decide +kernel
theorem d_S_savedByWriting_102 : decode b_S_savedByWriting 102 = .ok (.iadd, 1) := by decide +kernel
theorem d_S_savedByWriting_103 : decode b_S_savedByWriting 103 = .ok (.iaload, 1) := by decide +kernel
theorem d_S_savedByWriting_104 : decode b_S_savedByWriting 104 = .ok (.iload_n 2, 1) := by decide +kernel
theorem d_S_savedByWriting_105 : decode b_S_savedByWriting 105 = .ok (.if_icmp .ne 30, 3) := by decide +kernel
theorem d_S_savedByWriting_108 : decode b_S_savedByWriting 108 = .ok (.iload_n 3, 1) := by decide +kernel
theorem d_S_savedByWriting_109 : decode b_S_savedByWriting 109 = .ok (.aload_n 0, 1) := by decide +kernel
theorem d_S_savedByWriting_110 : decode b_S_savedByWriting 110 = .ok (.iload_n 1, 1) := by decide +kernel
theorem d_S_savedByWriting_111 : decode b_S_savedByWriting 111 = .ok (.iconst 1, 1) := by decide +kernel
theorem d_S_savedByWriting_112 : decode b_S_savedByWriting 112 = .ok (.iadd, 1) := by decide +kernel
theorem d_S_savedByWriting_113 : decode b_S_savedByWriting 113 = .ok (.aload_n 0, 1) := by decide +kernel
theorem d_S_savedByWriting_114 : decode b_S_savedByWriting 114 = .ok (.getfield 29, 3) := by decide +kernel
theorem d_S_savedByWriting_117 : decode b_S_savedByWriting 117 = .ok (.invokevirtual 90, 3) := by decide +kernel
theorem d_S_savedByWriting_120 : decode b_S_savedByWriting 120 = .ok (.iadd, 1) := by decide +kernel
theorem d_S_savedByWriting_121 : decode b_S_savedByWriting 121 = .ok (.istore_n 3, 1) := by decide +kernel
theorem d_S_savedByWriting_122 : decode b_S_savedByWriting 122 = .ok (.iload 4, 2) := by decide +kernel
theorem d_S_savedByWriting_124 : decode b_S_savedByWriting 124 = .ok (.aload_n 0, 1) := by decide +kernel
theorem d_S_savedByWriting_125 : decode b_S_savedByWriting 125 = .ok (.getfield 15, 3) := by decide +kernel
theorem d_S_savedByWriting_128 : decode b_S_savedByWriting 128 = .ok (.iload_n 1, 1) := by decide +kernel
theorem d_S_savedByWriting_129 : decode b_S_savedByWriting 129 = .ok (.iconst 1, 1) := by decide +kernel
theorem d_S_savedByWriting_130 : decode b_S_savedByWriting 130 = .ok (.iadd, 1) := by decide +kernel
theorem d_S_savedByWriting_131 : decode b_S_savedByWriting 131 = .ok (.iaload, 1) := by decide +kernel
theorem d_S_savedByWriting_132 : decode b_S_savedByWriting 132 = .ok (.iadd, 1) := by decide +kernel
theorem d_S_savedByWriting_133 : decode b_S_savedByWriting 133 = .ok (.istore 4, 2) := by decide +kernel
theorem d_S_savedByWriting_135 : decode b_S_savedByWriting 135 = .ok (.iload_n 3, 1) := by decide +kernel
theorem d_S_savedByWriting_136 : decode b_S_savedByWriting 136 = .ok (.aload_n 0, 1) := by decide +kernel
theorem d_S_savedByWriting_137 : decode b_S_savedByWriting 137 = .ok (.getfield 29, 3) := by decide +kernel
theorem d_S_savedByWriting_140 : decode b_S_savedByWriting 140 = .ok (.iload_n 2, 1) := by decide +kernel
theorem d_S_savedByWriting_141 : decode b_S_savedByWriting 141 = .ok (.iload 4, 2) := by decide +kernel
theorem d_S_savedByWriting_143 : decode b_S_savedByWriting 143 = .ok (.invokestatic 64, 3) := by decide +kernel
theorem d_S_savedByWriting_146 : decode b_S_savedByWriting 146 = .ok (.isub, 1) := by decide +kernel
theorem d_S_savedByWriting_147 : decode b_S_savedByWriting 147 = .ok (.ireturn, 1) := by decide +kernel
set_option maxHeartbeats 4000000 in
set_option maxRecDepth 20000 in
theorem c_S_savedByWriting {l : Launch} {G : va_G} {tys : List (ClassId × FieldType)} {cI cO cZ : ClassId} (hT : TY tys cI cO cZ) (q a b : Nat) (sg ln : Int → Int) (r pl ov lc sd : Int) (N : Int) (v : Int → Int) (hO : Ok r sg ln N v) (hr : r ≤ 50) (hN : N ≤ 3000) (k val : Int) (hk : 0 ≤ k ∧ k < r) (hv : 0 ≤ val ∧ val ≤ 9) (hc : 0 ≤ lc ∧ lc ≤ 2) : CTI l G tys y_S_savedByWriting b_S_savedByWriting 5 .int 4 89 [.ref q, .int (iI k), .int (iI val)] (sw cI q a b sg ln r pl ov lc sd) (fun z u => u = sw cI q a b sg ln r pl ov lc sd ∧ (z = svd lc r sg ln k val)) := by
  refine mkI (by decide) (Nat.le_of_ble_eq_true rfl) ?_
  rintro X rfl rfl rfl hRm C kret H ls w hl
  have hl : lv_has ls 5 [(0, .ref q), (1, .int (iI k)), (2, .int (iI val))] := hl
  have w : Wd X (sw cI q a b sg ln r pl ov lc sd) H [] := w
  generalize ([] : List Loc) = locs at w ⊢
  have hr0 := hO.1
  have hN0 := hO.n0
  have hps := ps_zero ln
  have hpr := hO.2.2.2.1
  have hk2 := hO.run (k := k) (by omega) (by omega)
  refine r_iload_n (pc := 0) C d_S_savedByWriting_0 rfl (lv_at hl 1 rfl) ?_
  refine r_if_lt (pc := 1) (tgt := 23) C (by omega) d_S_savedByWriting_1 (by decide) (fun c_1 => ?_) (fun c_1 => ?_)
  · skip
    refine r_iconst (pc := 23) C d_S_savedByWriting_23 ?_
    exact kret _ _ _ _ 0 _ d_S_savedByWriting_24 w (⟨rfl, by unfold svd; (repeat' split) <;> first | omega | (simp only [Int.add_zero] <;> omega) | (exfalso; omega)⟩)
  · skip
    refine r_iload_n (pc := 4) C d_S_savedByWriting_4 rfl (lv_at hl 1 rfl) ?_
    refine r_aload_n (pc := 5) C d_S_savedByWriting_5 rfl (lv_at hl 0 rfl) ?_
    refine r_get (pc := 6) (v := .int (iI r)) C w i_S rfl 0 rfl 2 (by decide) fl_S_18 rfl rfl d_S_savedByWriting_6 ?_
    refine r_icmp_ge (pc := 9) (tgt := 23) C (by omega) d_S_savedByWriting_9 (by decide) (fun c_9 => ?_) (fun c_9 => ?_)
    · skip
      refine r_iconst (pc := 23) C d_S_savedByWriting_23 ?_
      exact kret _ _ _ _ 0 _ d_S_savedByWriting_24 w (⟨rfl, by unfold svd; (repeat' split) <;> first | omega | (simp only [Int.add_zero] <;> omega) | (exfalso; omega)⟩)
    · skip
      refine r_aload_n (pc := 12) C d_S_savedByWriting_12 rfl (lv_at hl 0 rfl) ?_
      refine r_get (pc := 13) (v := .ref a) C w i_S rfl 0 rfl 0 (by decide) fl_S_9 rfl rfl d_S_savedByWriting_13 ?_
      refine r_iload_n (pc := 16) C d_S_savedByWriting_16 rfl (lv_at hl 1 rfl) ?_
      refine r_iald (pc := 17) (f := sg) (i := k) C w 0 1 rfl hT.1 (by omega) d_S_savedByWriting_17 ?_
      refine r_bipush (pc := 18) C d_S_savedByWriting_18 (by decide) ?_
      refine r_icmp_ne (pc := 20) (tgt := 25) C (by omega) d_S_savedByWriting_20 (by decide) (fun c_20 => ?_) (fun c_20 => ?_)
      · skip
        refine r_aload_n (pc := 25) C d_S_savedByWriting_25 rfl (lv_at hl 0 rfl) ?_
        refine r_iload_n (pc := 26) C d_S_savedByWriting_26 rfl (lv_at hl 1 rfl) ?_
        refine r_aload_n (pc := 27) C d_S_savedByWriting_27 rfl (lv_at hl 0 rfl) ?_
        refine r_get (pc := 28) (v := .int (iI lc)) C w i_S rfl 0 rfl 5 (by decide) fl_S_29 rfl rfl d_S_savedByWriting_28 ?_
        refine r_callVI (pc := 31) (As := [.int (iI k), .int (iI lc)]) (rest := []) (wr := ([])) C w (c_S_bitsOf hT q a b sg ln r pl ov lc sd _ _ hO (by omega) (by omega) k lc (by omega) (by omega)) ml_S_90 im_S_bitsOf se_S_bitsOf ini_S cd_S_bitsOf hd_S_bitsOf rfl (by rw [hRm]; exact ⟨⟨Nat.le_of_ble_eq_true rfl, Nat.le_of_ble_eq_true rfl⟩, Nat.le_of_ble_eq_true rfl, Nat.le_of_ble_eq_true rfl⟩) hl.1 [0, 1, 2] [] ⟨rfl, rfl, by decide, by decide, by decide⟩ 0 rfl rfl rfl (Nat.le_of_ble_eq_true rfl) d_S_savedByWriting_31 (fun z_31 u_31 H locs hz_31 w => ?_)
        obtain ⟨rfl, hz_31⟩ := hz_31
        have w : Wd X (sw cI q a b sg ln r pl ov lc sd) H locs := w
        subst hz_31
        have hrb := rb_rg (code := lc) (s := sg k) (n := ln k) (by omega)
        refine r_istore_n (pc := 34) (lv' := [(3, .int (iI (rb lc (sg k) (ln k)))), (0, .ref q), (1, .int (iI k)), (2, .int (iI val))]) C d_S_savedByWriting_34 rfl hl (by decide) rfl (fun ls hl => ?_)
        refine r_aload_n (pc := 35) C d_S_savedByWriting_35 rfl (lv_at hl 1 rfl) ?_
        refine r_get (pc := 36) (v := .ref b) C w i_S rfl 0 rfl 1 (by decide) fl_S_15 rfl rfl d_S_savedByWriting_36 ?_
        refine r_iload_n (pc := 39) C d_S_savedByWriting_39 rfl (lv_at hl 2 rfl) ?_
        refine r_iald (pc := 40) (f := ln) (i := k) C w 0 2 rfl hT.1 (by omega) d_S_savedByWriting_40 ?_
        refine r_istore (pc := 41) (lv' := [(4, .int (iI (ln k))), (3, .int (iI (rb lc (sg k) (ln k)))), (0, .ref q), (1, .int (iI k)), (2, .int (iI val))]) C d_S_savedByWriting_41 hl (by decide) rfl (fun ls hl => ?_)
        refine r_iload_n (pc := 43) C d_S_savedByWriting_43 rfl (lv_at hl 3 rfl) ?_
        refine r_if_le (pc := 44) (tgt := 86) C (by omega) d_S_savedByWriting_44 (by decide) (fun c_44 => ?_) (fun c_44 => ?_)
        · skip
          refine r_iload_n (pc := 86) C d_S_savedByWriting_86 rfl (lv_at hl 3 rfl) ?_
          refine r_aload_n (pc := 87) C d_S_savedByWriting_87 rfl (lv_at hl 2 rfl) ?_
          refine r_get (pc := 88) (v := .int (iI r)) C w i_S rfl 0 rfl 2 (by decide) fl_S_18 rfl rfl d_S_savedByWriting_88 ?_
          refine r_iconst (pc := 91) C d_S_savedByWriting_91 ?_
          refine r_isub (pc := 92) C d_S_savedByWriting_92 ?_
          refine r_icmp_ge (pc := 93) (tgt := 135) C (by omega) d_S_savedByWriting_93 (by decide) (fun c_93 => ?_) (fun c_93 => ?_)
          · skip
            refine r_iload_n (pc := 135) C d_S_savedByWriting_135 rfl (lv_at hl 1 rfl) ?_
            refine r_aload_n (pc := 136) C d_S_savedByWriting_136 rfl (lv_at hl 2 rfl) ?_
            refine r_get (pc := 137) (v := .int (iI lc)) C w i_S rfl 0 rfl 5 (by decide) fl_S_29 rfl rfl d_S_savedByWriting_137 ?_
            refine r_iload_n (pc := 140) C d_S_savedByWriting_140 rfl (lv_at hl 4 rfl) ?_
            refine r_iload (pc := 141) C d_S_savedByWriting_141 (lv_at hl 0 rfl) ?_
            refine r_callP (pc := 143) (As := [.int (iI lc), .int (iI val), .int (iI (ln k))]) (rest := [.int (iI (rb lc (sg k) (ln k)))]) C w (c_C_bitsOfRun lc val (ln k) (by omega) (by omega) (by omega)) ml_S_64 st_C_bitsOfRun ini_C cd_C_bitsOfRun hd_C_bitsOfRun rfl (by rw [hRm]; exact ⟨⟨Nat.le_of_ble_eq_true rfl, Nat.le_of_ble_eq_true rfl⟩, Nat.le_of_ble_eq_true rfl, Nat.le_of_ble_eq_true rfl⟩) hl.1 rfl (Nat.le_of_ble_eq_true rfl) d_S_savedByWriting_143 (fun z_143 H locs hz_143 w => ?_)
            subst hz_143
            have hrb := rb_rg (code := lc) (s := val) (n := (ln k)) (by omega)
            refine r_isub (pc := 146) C d_S_savedByWriting_146 ?_
            exact kret _ _ _ _ ((rb lc (sg k) (ln k)) - (rb lc val (ln k))) _ d_S_savedByWriting_147 w (⟨rfl, by unfold svd; (repeat' split) <;> first | omega | (simp only [Int.add_zero] <;> omega) | (exfalso; omega)⟩)
          · skip
            have hk4 := hO.run (k := k + 1) (by omega) (by omega)
            refine r_aload_n (pc := 96) C d_S_savedByWriting_96 rfl (lv_at hl 2 rfl) ?_
            refine r_get (pc := 97) (v := .ref a) C w i_S rfl 0 rfl 0 (by decide) fl_S_9 rfl rfl d_S_savedByWriting_97 ?_
            refine r_iload_n (pc := 100) C d_S_savedByWriting_100 rfl (lv_at hl 3 rfl) ?_
            refine r_iconst (pc := 101) C d_S_savedByWriting_101 ?_
            refine r_iadd (pc := 102) C d_S_savedByWriting_102 ?_
            refine r_iald (pc := 103) (f := sg) (i := (k + 1)) C w 0 1 rfl hT.1 (by omega) d_S_savedByWriting_103 ?_
            refine r_iload_n (pc := 104) C d_S_savedByWriting_104 rfl (lv_at hl 4 rfl) ?_
            refine r_icmp_ne (pc := 105) (tgt := 135) C (by omega) d_S_savedByWriting_105 (by decide) (fun c_105 => ?_) (fun c_105 => ?_)
            · skip
              refine r_iload_n (pc := 135) C d_S_savedByWriting_135 rfl (lv_at hl 1 rfl) ?_
              refine r_aload_n (pc := 136) C d_S_savedByWriting_136 rfl (lv_at hl 2 rfl) ?_
              refine r_get (pc := 137) (v := .int (iI lc)) C w i_S rfl 0 rfl 5 (by decide) fl_S_29 rfl rfl d_S_savedByWriting_137 ?_
              refine r_iload_n (pc := 140) C d_S_savedByWriting_140 rfl (lv_at hl 4 rfl) ?_
              refine r_iload (pc := 141) C d_S_savedByWriting_141 (lv_at hl 0 rfl) ?_
              refine r_callP (pc := 143) (As := [.int (iI lc), .int (iI val), .int (iI (ln k))]) (rest := [.int (iI (rb lc (sg k) (ln k)))]) C w (c_C_bitsOfRun lc val (ln k) (by omega) (by omega) (by omega)) ml_S_64 st_C_bitsOfRun ini_C cd_C_bitsOfRun hd_C_bitsOfRun rfl (by rw [hRm]; exact ⟨⟨Nat.le_of_ble_eq_true rfl, Nat.le_of_ble_eq_true rfl⟩, Nat.le_of_ble_eq_true rfl, Nat.le_of_ble_eq_true rfl⟩) hl.1 rfl (Nat.le_of_ble_eq_true rfl) d_S_savedByWriting_143 (fun z_143 H locs hz_143 w => ?_)
              subst hz_143
              have hrb := rb_rg (code := lc) (s := val) (n := (ln k)) (by omega)
              refine r_isub (pc := 146) C d_S_savedByWriting_146 ?_
              exact kret _ _ _ _ ((rb lc (sg k) (ln k)) - (rb lc val (ln k))) _ d_S_savedByWriting_147 w (⟨rfl, by unfold svd; (repeat' split) <;> first | omega | (simp only [Int.add_zero] <;> omega) | (exfalso; omega)⟩)
            · skip
              refine r_iload_n (pc := 108) C d_S_savedByWriting_108 rfl (lv_at hl 1 rfl) ?_
              refine r_aload_n (pc := 109) C d_S_savedByWriting_109 rfl (lv_at hl 2 rfl) ?_
              refine r_iload_n (pc := 110) C d_S_savedByWriting_110 rfl (lv_at hl 3 rfl) ?_
              refine r_iconst (pc := 111) C d_S_savedByWriting_111 ?_
              refine r_iadd (pc := 112) C d_S_savedByWriting_112 ?_
              refine r_aload_n (pc := 113) C d_S_savedByWriting_113 rfl (lv_at hl 2 rfl) ?_
              refine r_get (pc := 114) (v := .int (iI lc)) C w i_S rfl 0 rfl 5 (by decide) fl_S_29 rfl rfl d_S_savedByWriting_114 ?_
              refine r_callVI (pc := 117) (As := [.int (iI (k + 1)), .int (iI lc)]) (rest := [.int (iI (rb lc (sg k) (ln k)))]) (wr := ([])) C w (c_S_bitsOf hT q a b sg ln r pl ov lc sd _ _ hO (by omega) (by omega) (k + 1) lc (by omega) (by omega)) ml_S_90 im_S_bitsOf se_S_bitsOf ini_S cd_S_bitsOf hd_S_bitsOf rfl (by rw [hRm]; exact ⟨⟨Nat.le_of_ble_eq_true rfl, Nat.le_of_ble_eq_true rfl⟩, Nat.le_of_ble_eq_true rfl, Nat.le_of_ble_eq_true rfl⟩) hl.1 [0, 1, 2] [] ⟨rfl, rfl, by decide, by decide, by decide⟩ 0 rfl rfl rfl (Nat.le_of_ble_eq_true rfl) d_S_savedByWriting_117 (fun z_117 u_117 H locs hz_117 w => ?_)
              obtain ⟨rfl, hz_117⟩ := hz_117
              have w : Wd X (sw cI q a b sg ln r pl ov lc sd) H locs := w
              subst hz_117
              have hrb := rb_rg (code := lc) (s := sg (k + 1)) (n := ln (k + 1)) (by omega)
              refine r_iadd (pc := 120) C d_S_savedByWriting_120 ?_
              refine r_istore_n (pc := 121) (lv' := [(3, .int (iI ((rb lc (sg k) (ln k)) + (rb lc (sg (k + 1)) (ln (k + 1)))))), (4, .int (iI (ln k))), (0, .ref q), (1, .int (iI k)), (2, .int (iI val))]) C d_S_savedByWriting_121 rfl hl (by decide) rfl (fun ls hl => ?_)
              refine r_iload (pc := 122) C d_S_savedByWriting_122 (lv_at hl 1 rfl) ?_
              refine r_aload_n (pc := 124) C d_S_savedByWriting_124 rfl (lv_at hl 2 rfl) ?_
              refine r_get (pc := 125) (v := .ref b) C w i_S rfl 0 rfl 1 (by decide) fl_S_15 rfl rfl d_S_savedByWriting_125 ?_
              refine r_iload_n (pc := 128) C d_S_savedByWriting_128 rfl (lv_at hl 3 rfl) ?_
              refine r_iconst (pc := 129) C d_S_savedByWriting_129 ?_
              refine r_iadd (pc := 130) C d_S_savedByWriting_130 ?_
              refine r_iald (pc := 131) (f := ln) (i := (k + 1)) C w 0 2 rfl hT.1 (by omega) d_S_savedByWriting_131 ?_
              refine r_iadd (pc := 132) C d_S_savedByWriting_132 ?_
              refine r_istore (pc := 133) (lv' := [(4, .int (iI ((ln k) + (ln (k + 1))))), (3, .int (iI ((rb lc (sg k) (ln k)) + (rb lc (sg (k + 1)) (ln (k + 1)))))), (0, .ref q), (1, .int (iI k)), (2, .int (iI val))]) C d_S_savedByWriting_133 hl (by decide) rfl (fun ls hl => ?_)
              refine r_iload_n (pc := 135) C d_S_savedByWriting_135 rfl (lv_at hl 1 rfl) ?_
              refine r_aload_n (pc := 136) C d_S_savedByWriting_136 rfl (lv_at hl 2 rfl) ?_
              refine r_get (pc := 137) (v := .int (iI lc)) C w i_S rfl 0 rfl 5 (by decide) fl_S_29 rfl rfl d_S_savedByWriting_137 ?_
              refine r_iload_n (pc := 140) C d_S_savedByWriting_140 rfl (lv_at hl 4 rfl) ?_
              refine r_iload (pc := 141) C d_S_savedByWriting_141 (lv_at hl 0 rfl) ?_
              refine r_callP (pc := 143) (As := [.int (iI lc), .int (iI val), .int (iI ((ln k) + (ln (k + 1))))]) (rest := [.int (iI ((rb lc (sg k) (ln k)) + (rb lc (sg (k + 1)) (ln (k + 1)))))]) C w (c_C_bitsOfRun lc val ((ln k) + (ln (k + 1))) (by omega) (by omega) (by omega)) ml_S_64 st_C_bitsOfRun ini_C cd_C_bitsOfRun hd_C_bitsOfRun rfl (by rw [hRm]; exact ⟨⟨Nat.le_of_ble_eq_true rfl, Nat.le_of_ble_eq_true rfl⟩, Nat.le_of_ble_eq_true rfl, Nat.le_of_ble_eq_true rfl⟩) hl.1 rfl (Nat.le_of_ble_eq_true rfl) d_S_savedByWriting_143 (fun z_143 H locs hz_143 w => ?_)
              subst hz_143
              have hrb := rb_rg (code := lc) (s := val) (n := ((ln k) + (ln (k + 1)))) (by omega)
              refine r_isub (pc := 146) C d_S_savedByWriting_146 ?_
              exact kret _ _ _ _ (((rb lc (sg k) (ln k)) + (rb lc (sg (k + 1)) (ln (k + 1)))) - (rb lc val ((ln k) + (ln (k + 1))))) _ d_S_savedByWriting_147 w (⟨rfl, by unfold svd; (repeat' split) <;> first | omega | (simp only [Int.add_zero] <;> omega) | (exfalso; omega)⟩)
        · skip
          have hk3 := hO.run (k := k - 1) (by omega) (by omega)
          refine r_aload_n (pc := 47) C d_S_savedByWriting_47 rfl (lv_at hl 2 rfl) ?_
          refine r_get (pc := 48) (v := .ref a) C w i_S rfl 0 rfl 0 (by decide) fl_S_9 rfl rfl d_S_savedByWriting_48 ?_
          refine r_iload_n (pc := 51) C d_S_savedByWriting_51 rfl (lv_at hl 3 rfl) ?_
          refine r_iconst (pc := 52) C d_S_savedByWriting_52 ?_
          refine r_isub (pc := 53) C d_S_savedByWriting_53 ?_
          refine r_iald (pc := 54) (f := sg) (i := (k - 1)) C w 0 1 rfl hT.1 (by omega) d_S_savedByWriting_54 ?_
          refine r_iload_n (pc := 55) C d_S_savedByWriting_55 rfl (lv_at hl 4 rfl) ?_
          refine r_icmp_ne (pc := 56) (tgt := 86) C (by omega) d_S_savedByWriting_56 (by decide) (fun c_56 => ?_) (fun c_56 => ?_)
          · skip
            refine r_iload_n (pc := 86) C d_S_savedByWriting_86 rfl (lv_at hl 3 rfl) ?_
            refine r_aload_n (pc := 87) C d_S_savedByWriting_87 rfl (lv_at hl 2 rfl) ?_
            refine r_get (pc := 88) (v := .int (iI r)) C w i_S rfl 0 rfl 2 (by decide) fl_S_18 rfl rfl d_S_savedByWriting_88 ?_
            refine r_iconst (pc := 91) C d_S_savedByWriting_91 ?_
            refine r_isub (pc := 92) C d_S_savedByWriting_92 ?_
            refine r_icmp_ge (pc := 93) (tgt := 135) C (by omega) d_S_savedByWriting_93 (by decide) (fun c_93 => ?_) (fun c_93 => ?_)
            · skip
              refine r_iload_n (pc := 135) C d_S_savedByWriting_135 rfl (lv_at hl 1 rfl) ?_
              refine r_aload_n (pc := 136) C d_S_savedByWriting_136 rfl (lv_at hl 2 rfl) ?_
              refine r_get (pc := 137) (v := .int (iI lc)) C w i_S rfl 0 rfl 5 (by decide) fl_S_29 rfl rfl d_S_savedByWriting_137 ?_
              refine r_iload_n (pc := 140) C d_S_savedByWriting_140 rfl (lv_at hl 4 rfl) ?_
              refine r_iload (pc := 141) C d_S_savedByWriting_141 (lv_at hl 0 rfl) ?_
              refine r_callP (pc := 143) (As := [.int (iI lc), .int (iI val), .int (iI (ln k))]) (rest := [.int (iI (rb lc (sg k) (ln k)))]) C w (c_C_bitsOfRun lc val (ln k) (by omega) (by omega) (by omega)) ml_S_64 st_C_bitsOfRun ini_C cd_C_bitsOfRun hd_C_bitsOfRun rfl (by rw [hRm]; exact ⟨⟨Nat.le_of_ble_eq_true rfl, Nat.le_of_ble_eq_true rfl⟩, Nat.le_of_ble_eq_true rfl, Nat.le_of_ble_eq_true rfl⟩) hl.1 rfl (Nat.le_of_ble_eq_true rfl) d_S_savedByWriting_143 (fun z_143 H locs hz_143 w => ?_)
              subst hz_143
              have hrb := rb_rg (code := lc) (s := val) (n := (ln k)) (by omega)
              refine r_isub (pc := 146) C d_S_savedByWriting_146 ?_
              exact kret _ _ _ _ ((rb lc (sg k) (ln k)) - (rb lc val (ln k))) _ d_S_savedByWriting_147 w (⟨rfl, by unfold svd; (repeat' split) <;> first | omega | (simp only [Int.add_zero] <;> omega) | (exfalso; omega)⟩)
            · skip
              have hk4 := hO.run (k := k + 1) (by omega) (by omega)
              refine r_aload_n (pc := 96) C d_S_savedByWriting_96 rfl (lv_at hl 2 rfl) ?_
              refine r_get (pc := 97) (v := .ref a) C w i_S rfl 0 rfl 0 (by decide) fl_S_9 rfl rfl d_S_savedByWriting_97 ?_
              refine r_iload_n (pc := 100) C d_S_savedByWriting_100 rfl (lv_at hl 3 rfl) ?_
              refine r_iconst (pc := 101) C d_S_savedByWriting_101 ?_
              refine r_iadd (pc := 102) C d_S_savedByWriting_102 ?_
              refine r_iald (pc := 103) (f := sg) (i := (k + 1)) C w 0 1 rfl hT.1 (by omega) d_S_savedByWriting_103 ?_
              refine r_iload_n (pc := 104) C d_S_savedByWriting_104 rfl (lv_at hl 4 rfl) ?_
              refine r_icmp_ne (pc := 105) (tgt := 135) C (by omega) d_S_savedByWriting_105 (by decide) (fun c_105 => ?_) (fun c_105 => ?_)
              · skip
                refine r_iload_n (pc := 135) C d_S_savedByWriting_135 rfl (lv_at hl 1 rfl) ?_
                refine r_aload_n (pc := 136) C d_S_savedByWriting_136 rfl (lv_at hl 2 rfl) ?_
                refine r_get (pc := 137) (v := .int (iI lc)) C w i_S rfl 0 rfl 5 (by decide) fl_S_29 rfl rfl d_S_savedByWriting_137 ?_
                refine r_iload_n (pc := 140) C d_S_savedByWriting_140 rfl (lv_at hl 4 rfl) ?_
                refine r_iload (pc := 141) C d_S_savedByWriting_141 (lv_at hl 0 rfl) ?_
                refine r_callP (pc := 143) (As := [.int (iI lc), .int (iI val), .int (iI (ln k))]) (rest := [.int (iI (rb lc (sg k) (ln k)))]) C w (c_C_bitsOfRun lc val (ln k) (by omega) (by omega) (by omega)) ml_S_64 st_C_bitsOfRun ini_C cd_C_bitsOfRun hd_C_bitsOfRun rfl (by rw [hRm]; exact ⟨⟨Nat.le_of_ble_eq_true rfl, Nat.le_of_ble_eq_true rfl⟩, Nat.le_of_ble_eq_true rfl, Nat.le_of_ble_eq_true rfl⟩) hl.1 rfl (Nat.le_of_ble_eq_true rfl) d_S_savedByWriting_143 (fun z_143 H locs hz_143 w => ?_)
                subst hz_143
                have hrb := rb_rg (code := lc) (s := val) (n := (ln k)) (by omega)
                refine r_isub (pc := 146) C d_S_savedByWriting_146 ?_
                exact kret _ _ _ _ ((rb lc (sg k) (ln k)) - (rb lc val (ln k))) _ d_S_savedByWriting_147 w (⟨rfl, by unfold svd; (repeat' split) <;> first | omega | (simp only [Int.add_zero] <;> omega) | (exfalso; omega)⟩)
              · skip
                refine r_iload_n (pc := 108) C d_S_savedByWriting_108 rfl (lv_at hl 1 rfl) ?_
                refine r_aload_n (pc := 109) C d_S_savedByWriting_109 rfl (lv_at hl 2 rfl) ?_
                refine r_iload_n (pc := 110) C d_S_savedByWriting_110 rfl (lv_at hl 3 rfl) ?_
                refine r_iconst (pc := 111) C d_S_savedByWriting_111 ?_
                refine r_iadd (pc := 112) C d_S_savedByWriting_112 ?_
                refine r_aload_n (pc := 113) C d_S_savedByWriting_113 rfl (lv_at hl 2 rfl) ?_
                refine r_get (pc := 114) (v := .int (iI lc)) C w i_S rfl 0 rfl 5 (by decide) fl_S_29 rfl rfl d_S_savedByWriting_114 ?_
                refine r_callVI (pc := 117) (As := [.int (iI (k + 1)), .int (iI lc)]) (rest := [.int (iI (rb lc (sg k) (ln k)))]) (wr := ([])) C w (c_S_bitsOf hT q a b sg ln r pl ov lc sd _ _ hO (by omega) (by omega) (k + 1) lc (by omega) (by omega)) ml_S_90 im_S_bitsOf se_S_bitsOf ini_S cd_S_bitsOf hd_S_bitsOf rfl (by rw [hRm]; exact ⟨⟨Nat.le_of_ble_eq_true rfl, Nat.le_of_ble_eq_true rfl⟩, Nat.le_of_ble_eq_true rfl, Nat.le_of_ble_eq_true rfl⟩) hl.1 [0, 1, 2] [] ⟨rfl, rfl, by decide, by decide, by decide⟩ 0 rfl rfl rfl (Nat.le_of_ble_eq_true rfl) d_S_savedByWriting_117 (fun z_117 u_117 H locs hz_117 w => ?_)
                obtain ⟨rfl, hz_117⟩ := hz_117
                have w : Wd X (sw cI q a b sg ln r pl ov lc sd) H locs := w
                subst hz_117
                have hrb := rb_rg (code := lc) (s := sg (k + 1)) (n := ln (k + 1)) (by omega)
                refine r_iadd (pc := 120) C d_S_savedByWriting_120 ?_
                refine r_istore_n (pc := 121) (lv' := [(3, .int (iI ((rb lc (sg k) (ln k)) + (rb lc (sg (k + 1)) (ln (k + 1)))))), (4, .int (iI (ln k))), (0, .ref q), (1, .int (iI k)), (2, .int (iI val))]) C d_S_savedByWriting_121 rfl hl (by decide) rfl (fun ls hl => ?_)
                refine r_iload (pc := 122) C d_S_savedByWriting_122 (lv_at hl 1 rfl) ?_
                refine r_aload_n (pc := 124) C d_S_savedByWriting_124 rfl (lv_at hl 2 rfl) ?_
                refine r_get (pc := 125) (v := .ref b) C w i_S rfl 0 rfl 1 (by decide) fl_S_15 rfl rfl d_S_savedByWriting_125 ?_
                refine r_iload_n (pc := 128) C d_S_savedByWriting_128 rfl (lv_at hl 3 rfl) ?_
                refine r_iconst (pc := 129) C d_S_savedByWriting_129 ?_
                refine r_iadd (pc := 130) C d_S_savedByWriting_130 ?_
                refine r_iald (pc := 131) (f := ln) (i := (k + 1)) C w 0 2 rfl hT.1 (by omega) d_S_savedByWriting_131 ?_
                refine r_iadd (pc := 132) C d_S_savedByWriting_132 ?_
                refine r_istore (pc := 133) (lv' := [(4, .int (iI ((ln k) + (ln (k + 1))))), (3, .int (iI ((rb lc (sg k) (ln k)) + (rb lc (sg (k + 1)) (ln (k + 1)))))), (0, .ref q), (1, .int (iI k)), (2, .int (iI val))]) C d_S_savedByWriting_133 hl (by decide) rfl (fun ls hl => ?_)
                refine r_iload_n (pc := 135) C d_S_savedByWriting_135 rfl (lv_at hl 1 rfl) ?_
                refine r_aload_n (pc := 136) C d_S_savedByWriting_136 rfl (lv_at hl 2 rfl) ?_
                refine r_get (pc := 137) (v := .int (iI lc)) C w i_S rfl 0 rfl 5 (by decide) fl_S_29 rfl rfl d_S_savedByWriting_137 ?_
                refine r_iload_n (pc := 140) C d_S_savedByWriting_140 rfl (lv_at hl 4 rfl) ?_
                refine r_iload (pc := 141) C d_S_savedByWriting_141 (lv_at hl 0 rfl) ?_
                refine r_callP (pc := 143) (As := [.int (iI lc), .int (iI val), .int (iI ((ln k) + (ln (k + 1))))]) (rest := [.int (iI ((rb lc (sg k) (ln k)) + (rb lc (sg (k + 1)) (ln (k + 1)))))]) C w (c_C_bitsOfRun lc val ((ln k) + (ln (k + 1))) (by omega) (by omega) (by omega)) ml_S_64 st_C_bitsOfRun ini_C cd_C_bitsOfRun hd_C_bitsOfRun rfl (by rw [hRm]; exact ⟨⟨Nat.le_of_ble_eq_true rfl, Nat.le_of_ble_eq_true rfl⟩, Nat.le_of_ble_eq_true rfl, Nat.le_of_ble_eq_true rfl⟩) hl.1 rfl (Nat.le_of_ble_eq_true rfl) d_S_savedByWriting_143 (fun z_143 H locs hz_143 w => ?_)
                subst hz_143
                have hrb := rb_rg (code := lc) (s := val) (n := ((ln k) + (ln (k + 1)))) (by omega)
                refine r_isub (pc := 146) C d_S_savedByWriting_146 ?_
                exact kret _ _ _ _ (((rb lc (sg k) (ln k)) + (rb lc (sg (k + 1)) (ln (k + 1)))) - (rb lc val ((ln k) + (ln (k + 1))))) _ d_S_savedByWriting_147 w (⟨rfl, by unfold svd; (repeat' split) <;> first | omega | (simp only [Int.add_zero] <;> omega) | (exfalso; omega)⟩)
          · skip
            refine r_iload_n (pc := 59) C d_S_savedByWriting_59 rfl (lv_at hl 1 rfl) ?_
            refine r_aload_n (pc := 60) C d_S_savedByWriting_60 rfl (lv_at hl 2 rfl) ?_
            refine r_iload_n (pc := 61) C d_S_savedByWriting_61 rfl (lv_at hl 3 rfl) ?_
            refine r_iconst (pc := 62) C d_S_savedByWriting_62 ?_
            refine r_isub (pc := 63) C d_S_savedByWriting_63 ?_
            refine r_aload_n (pc := 64) C d_S_savedByWriting_64 rfl (lv_at hl 2 rfl) ?_
            refine r_get (pc := 65) (v := .int (iI lc)) C w i_S rfl 0 rfl 5 (by decide) fl_S_29 rfl rfl d_S_savedByWriting_65 ?_
            refine r_callVI (pc := 68) (As := [.int (iI (k - 1)), .int (iI lc)]) (rest := [.int (iI (rb lc (sg k) (ln k)))]) (wr := ([])) C w (c_S_bitsOf hT q a b sg ln r pl ov lc sd _ _ hO (by omega) (by omega) (k - 1) lc (by omega) (by omega)) ml_S_90 im_S_bitsOf se_S_bitsOf ini_S cd_S_bitsOf hd_S_bitsOf rfl (by rw [hRm]; exact ⟨⟨Nat.le_of_ble_eq_true rfl, Nat.le_of_ble_eq_true rfl⟩, Nat.le_of_ble_eq_true rfl, Nat.le_of_ble_eq_true rfl⟩) hl.1 [0, 1, 2] [] ⟨rfl, rfl, by decide, by decide, by decide⟩ 0 rfl rfl rfl (Nat.le_of_ble_eq_true rfl) d_S_savedByWriting_68 (fun z_68 u_68 H locs hz_68 w => ?_)
            obtain ⟨rfl, hz_68⟩ := hz_68
            have w : Wd X (sw cI q a b sg ln r pl ov lc sd) H locs := w
            subst hz_68
            have hrb := rb_rg (code := lc) (s := sg (k - 1)) (n := ln (k - 1)) (by omega)
            refine r_iadd (pc := 71) C d_S_savedByWriting_71 ?_
            refine r_istore_n (pc := 72) (lv' := [(3, .int (iI ((rb lc (sg k) (ln k)) + (rb lc (sg (k - 1)) (ln (k - 1)))))), (4, .int (iI (ln k))), (0, .ref q), (1, .int (iI k)), (2, .int (iI val))]) C d_S_savedByWriting_72 rfl hl (by decide) rfl (fun ls hl => ?_)
            refine r_iload (pc := 73) C d_S_savedByWriting_73 (lv_at hl 1 rfl) ?_
            refine r_aload_n (pc := 75) C d_S_savedByWriting_75 rfl (lv_at hl 2 rfl) ?_
            refine r_get (pc := 76) (v := .ref b) C w i_S rfl 0 rfl 1 (by decide) fl_S_15 rfl rfl d_S_savedByWriting_76 ?_
            refine r_iload_n (pc := 79) C d_S_savedByWriting_79 rfl (lv_at hl 3 rfl) ?_
            refine r_iconst (pc := 80) C d_S_savedByWriting_80 ?_
            refine r_isub (pc := 81) C d_S_savedByWriting_81 ?_
            refine r_iald (pc := 82) (f := ln) (i := (k - 1)) C w 0 2 rfl hT.1 (by omega) d_S_savedByWriting_82 ?_
            refine r_iadd (pc := 83) C d_S_savedByWriting_83 ?_
            refine r_istore (pc := 84) (lv' := [(4, .int (iI ((ln k) + (ln (k - 1))))), (3, .int (iI ((rb lc (sg k) (ln k)) + (rb lc (sg (k - 1)) (ln (k - 1)))))), (0, .ref q), (1, .int (iI k)), (2, .int (iI val))]) C d_S_savedByWriting_84 hl (by decide) rfl (fun ls hl => ?_)
            refine r_iload_n (pc := 86) C d_S_savedByWriting_86 rfl (lv_at hl 3 rfl) ?_
            refine r_aload_n (pc := 87) C d_S_savedByWriting_87 rfl (lv_at hl 2 rfl) ?_
            refine r_get (pc := 88) (v := .int (iI r)) C w i_S rfl 0 rfl 2 (by decide) fl_S_18 rfl rfl d_S_savedByWriting_88 ?_
            refine r_iconst (pc := 91) C d_S_savedByWriting_91 ?_
            refine r_isub (pc := 92) C d_S_savedByWriting_92 ?_
            refine r_icmp_ge (pc := 93) (tgt := 135) C (by omega) d_S_savedByWriting_93 (by decide) (fun c_93 => ?_) (fun c_93 => ?_)
            · skip
              refine r_iload_n (pc := 135) C d_S_savedByWriting_135 rfl (lv_at hl 1 rfl) ?_
              refine r_aload_n (pc := 136) C d_S_savedByWriting_136 rfl (lv_at hl 2 rfl) ?_
              refine r_get (pc := 137) (v := .int (iI lc)) C w i_S rfl 0 rfl 5 (by decide) fl_S_29 rfl rfl d_S_savedByWriting_137 ?_
              refine r_iload_n (pc := 140) C d_S_savedByWriting_140 rfl (lv_at hl 4 rfl) ?_
              refine r_iload (pc := 141) C d_S_savedByWriting_141 (lv_at hl 0 rfl) ?_
              refine r_callP (pc := 143) (As := [.int (iI lc), .int (iI val), .int (iI ((ln k) + (ln (k - 1))))]) (rest := [.int (iI ((rb lc (sg k) (ln k)) + (rb lc (sg (k - 1)) (ln (k - 1)))))]) C w (c_C_bitsOfRun lc val ((ln k) + (ln (k - 1))) (by omega) (by omega) (by omega)) ml_S_64 st_C_bitsOfRun ini_C cd_C_bitsOfRun hd_C_bitsOfRun rfl (by rw [hRm]; exact ⟨⟨Nat.le_of_ble_eq_true rfl, Nat.le_of_ble_eq_true rfl⟩, Nat.le_of_ble_eq_true rfl, Nat.le_of_ble_eq_true rfl⟩) hl.1 rfl (Nat.le_of_ble_eq_true rfl) d_S_savedByWriting_143 (fun z_143 H locs hz_143 w => ?_)
              subst hz_143
              have hrb := rb_rg (code := lc) (s := val) (n := ((ln k) + (ln (k - 1)))) (by omega)
              refine r_isub (pc := 146) C d_S_savedByWriting_146 ?_
              exact kret _ _ _ _ (((rb lc (sg k) (ln k)) + (rb lc (sg (k - 1)) (ln (k - 1)))) - (rb lc val ((ln k) + (ln (k - 1))))) _ d_S_savedByWriting_147 w (⟨rfl, by unfold svd; (repeat' split) <;> first | omega | (simp only [Int.add_zero] <;> omega) | (exfalso; omega)⟩)
            · skip
              have hk4 := hO.run (k := k + 1) (by omega) (by omega)
              refine r_aload_n (pc := 96) C d_S_savedByWriting_96 rfl (lv_at hl 2 rfl) ?_
              refine r_get (pc := 97) (v := .ref a) C w i_S rfl 0 rfl 0 (by decide) fl_S_9 rfl rfl d_S_savedByWriting_97 ?_
              refine r_iload_n (pc := 100) C d_S_savedByWriting_100 rfl (lv_at hl 3 rfl) ?_
              refine r_iconst (pc := 101) C d_S_savedByWriting_101 ?_
              refine r_iadd (pc := 102) C d_S_savedByWriting_102 ?_
              refine r_iald (pc := 103) (f := sg) (i := (k + 1)) C w 0 1 rfl hT.1 (by omega) d_S_savedByWriting_103 ?_
              refine r_iload_n (pc := 104) C d_S_savedByWriting_104 rfl (lv_at hl 4 rfl) ?_
              refine r_icmp_ne (pc := 105) (tgt := 135) C (by omega) d_S_savedByWriting_105 (by decide) (fun c_105 => ?_) (fun c_105 => ?_)
              · skip
                refine r_iload_n (pc := 135) C d_S_savedByWriting_135 rfl (lv_at hl 1 rfl) ?_
                refine r_aload_n (pc := 136) C d_S_savedByWriting_136 rfl (lv_at hl 2 rfl) ?_
                refine r_get (pc := 137) (v := .int (iI lc)) C w i_S rfl 0 rfl 5 (by decide) fl_S_29 rfl rfl d_S_savedByWriting_137 ?_
                refine r_iload_n (pc := 140) C d_S_savedByWriting_140 rfl (lv_at hl 4 rfl) ?_
                refine r_iload (pc := 141) C d_S_savedByWriting_141 (lv_at hl 0 rfl) ?_
                refine r_callP (pc := 143) (As := [.int (iI lc), .int (iI val), .int (iI ((ln k) + (ln (k - 1))))]) (rest := [.int (iI ((rb lc (sg k) (ln k)) + (rb lc (sg (k - 1)) (ln (k - 1)))))]) C w (c_C_bitsOfRun lc val ((ln k) + (ln (k - 1))) (by omega) (by omega) (by omega)) ml_S_64 st_C_bitsOfRun ini_C cd_C_bitsOfRun hd_C_bitsOfRun rfl (by rw [hRm]; exact ⟨⟨Nat.le_of_ble_eq_true rfl, Nat.le_of_ble_eq_true rfl⟩, Nat.le_of_ble_eq_true rfl, Nat.le_of_ble_eq_true rfl⟩) hl.1 rfl (Nat.le_of_ble_eq_true rfl) d_S_savedByWriting_143 (fun z_143 H locs hz_143 w => ?_)
                subst hz_143
                have hrb := rb_rg (code := lc) (s := val) (n := ((ln k) + (ln (k - 1)))) (by omega)
                refine r_isub (pc := 146) C d_S_savedByWriting_146 ?_
                exact kret _ _ _ _ (((rb lc (sg k) (ln k)) + (rb lc (sg (k - 1)) (ln (k - 1)))) - (rb lc val ((ln k) + (ln (k - 1))))) _ d_S_savedByWriting_147 w (⟨rfl, by unfold svd; (repeat' split) <;> first | omega | (simp only [Int.add_zero] <;> omega) | (exfalso; omega)⟩)
              · skip
                refine r_iload_n (pc := 108) C d_S_savedByWriting_108 rfl (lv_at hl 1 rfl) ?_
                refine r_aload_n (pc := 109) C d_S_savedByWriting_109 rfl (lv_at hl 2 rfl) ?_
                refine r_iload_n (pc := 110) C d_S_savedByWriting_110 rfl (lv_at hl 3 rfl) ?_
                refine r_iconst (pc := 111) C d_S_savedByWriting_111 ?_
                refine r_iadd (pc := 112) C d_S_savedByWriting_112 ?_
                refine r_aload_n (pc := 113) C d_S_savedByWriting_113 rfl (lv_at hl 2 rfl) ?_
                refine r_get (pc := 114) (v := .int (iI lc)) C w i_S rfl 0 rfl 5 (by decide) fl_S_29 rfl rfl d_S_savedByWriting_114 ?_
                refine r_callVI (pc := 117) (As := [.int (iI (k + 1)), .int (iI lc)]) (rest := [.int (iI ((rb lc (sg k) (ln k)) + (rb lc (sg (k - 1)) (ln (k - 1)))))]) (wr := ([])) C w (c_S_bitsOf hT q a b sg ln r pl ov lc sd _ _ hO (by omega) (by omega) (k + 1) lc (by omega) (by omega)) ml_S_90 im_S_bitsOf se_S_bitsOf ini_S cd_S_bitsOf hd_S_bitsOf rfl (by rw [hRm]; exact ⟨⟨Nat.le_of_ble_eq_true rfl, Nat.le_of_ble_eq_true rfl⟩, Nat.le_of_ble_eq_true rfl, Nat.le_of_ble_eq_true rfl⟩) hl.1 [0, 1, 2] [] ⟨rfl, rfl, by decide, by decide, by decide⟩ 0 rfl rfl rfl (Nat.le_of_ble_eq_true rfl) d_S_savedByWriting_117 (fun z_117 u_117 H locs hz_117 w => ?_)
                obtain ⟨rfl, hz_117⟩ := hz_117
                have w : Wd X (sw cI q a b sg ln r pl ov lc sd) H locs := w
                subst hz_117
                have hrb := rb_rg (code := lc) (s := sg (k + 1)) (n := ln (k + 1)) (by omega)
                refine r_iadd (pc := 120) C d_S_savedByWriting_120 ?_
                refine r_istore_n (pc := 121) (lv' := [(3, .int (iI (((rb lc (sg k) (ln k)) + (rb lc (sg (k - 1)) (ln (k - 1)))) + (rb lc (sg (k + 1)) (ln (k + 1)))))), (4, .int (iI ((ln k) + (ln (k - 1))))), (0, .ref q), (1, .int (iI k)), (2, .int (iI val))]) C d_S_savedByWriting_121 rfl hl (by decide) rfl (fun ls hl => ?_)
                refine r_iload (pc := 122) C d_S_savedByWriting_122 (lv_at hl 1 rfl) ?_
                refine r_aload_n (pc := 124) C d_S_savedByWriting_124 rfl (lv_at hl 2 rfl) ?_
                refine r_get (pc := 125) (v := .ref b) C w i_S rfl 0 rfl 1 (by decide) fl_S_15 rfl rfl d_S_savedByWriting_125 ?_
                refine r_iload_n (pc := 128) C d_S_savedByWriting_128 rfl (lv_at hl 3 rfl) ?_
                refine r_iconst (pc := 129) C d_S_savedByWriting_129 ?_
                refine r_iadd (pc := 130) C d_S_savedByWriting_130 ?_
                refine r_iald (pc := 131) (f := ln) (i := (k + 1)) C w 0 2 rfl hT.1 (by omega) d_S_savedByWriting_131 ?_
                refine r_iadd (pc := 132) C d_S_savedByWriting_132 ?_
                refine r_istore (pc := 133) (lv' := [(4, .int (iI (((ln k) + (ln (k - 1))) + (ln (k + 1))))), (3, .int (iI (((rb lc (sg k) (ln k)) + (rb lc (sg (k - 1)) (ln (k - 1)))) + (rb lc (sg (k + 1)) (ln (k + 1)))))), (0, .ref q), (1, .int (iI k)), (2, .int (iI val))]) C d_S_savedByWriting_133 hl (by decide) rfl (fun ls hl => ?_)
                refine r_iload_n (pc := 135) C d_S_savedByWriting_135 rfl (lv_at hl 1 rfl) ?_
                refine r_aload_n (pc := 136) C d_S_savedByWriting_136 rfl (lv_at hl 2 rfl) ?_
                refine r_get (pc := 137) (v := .int (iI lc)) C w i_S rfl 0 rfl 5 (by decide) fl_S_29 rfl rfl d_S_savedByWriting_137 ?_
                refine r_iload_n (pc := 140) C d_S_savedByWriting_140 rfl (lv_at hl 4 rfl) ?_
                refine r_iload (pc := 141) C d_S_savedByWriting_141 (lv_at hl 0 rfl) ?_
                refine r_callP (pc := 143) (As := [.int (iI lc), .int (iI val), .int (iI (((ln k) + (ln (k - 1))) + (ln (k + 1))))]) (rest := [.int (iI (((rb lc (sg k) (ln k)) + (rb lc (sg (k - 1)) (ln (k - 1)))) + (rb lc (sg (k + 1)) (ln (k + 1)))))]) C w (c_C_bitsOfRun lc val (((ln k) + (ln (k - 1))) + (ln (k + 1))) (by omega) (by omega) (by omega)) ml_S_64 st_C_bitsOfRun ini_C cd_C_bitsOfRun hd_C_bitsOfRun rfl (by rw [hRm]; exact ⟨⟨Nat.le_of_ble_eq_true rfl, Nat.le_of_ble_eq_true rfl⟩, Nat.le_of_ble_eq_true rfl, Nat.le_of_ble_eq_true rfl⟩) hl.1 rfl (Nat.le_of_ble_eq_true rfl) d_S_savedByWriting_143 (fun z_143 H locs hz_143 w => ?_)
                subst hz_143
                have hrb := rb_rg (code := lc) (s := val) (n := (((ln k) + (ln (k - 1))) + (ln (k + 1)))) (by omega)
                refine r_isub (pc := 146) C d_S_savedByWriting_146 ?_
                exact kret _ _ _ _ ((((rb lc (sg k) (ln k)) + (rb lc (sg (k - 1)) (ln (k - 1)))) + (rb lc (sg (k + 1)) (ln (k + 1)))) - (rb lc val (((ln k) + (ln (k - 1))) + (ln (k + 1))))) _ d_S_savedByWriting_147 w (⟨rfl, by unfold svd; (repeat' split) <;> first | omega | (simp only [Int.add_zero] <;> omega) | (exfalso; omega)⟩)
      · skip
        refine r_iconst (pc := 23) C d_S_savedByWriting_23 ?_
        exact kret _ _ _ _ 0 _ d_S_savedByWriting_24 w (⟨rfl, by unfold svd; (repeat' split) <;> first | omega | (simp only [Int.add_zero] <;> omega) | (exfalso; omega)⟩)
theorem d_S_unlikeTurned_0 : decode b_S_unlikeTurned 0 = .ok (.iconst 0, 1) := by decide +kernel
theorem d_S_unlikeTurned_1 : decode b_S_unlikeTurned 1 = .ok (.istore_n 1, 1) := by decide +kernel
theorem d_S_unlikeTurned_2 : decode b_S_unlikeTurned 2 = .ok (.iconst 0, 1) := by decide +kernel
theorem d_S_unlikeTurned_3 : decode b_S_unlikeTurned 3 = .ok (.istore_n 2, 1) := by decide +kernel
theorem d_S_unlikeTurned_4 : decode b_S_unlikeTurned 4 = .ok (.iconst 0, 1) := by decide +kernel
theorem d_S_unlikeTurned_5 : decode b_S_unlikeTurned 5 = .ok (.istore_n 3, 1) := by decide +kernel
theorem d_S_unlikeTurned_6 : decode b_S_unlikeTurned 6 = .ok (.iload_n 3, 1) := by decide +kernel
theorem d_S_unlikeTurned_7 : decode b_S_unlikeTurned 7 = .ok (.aload_n 0, 1) := by decide +kernel
theorem d_S_unlikeTurned_8 : decode b_S_unlikeTurned 8 = .ok (.getfield 18, 3) := by decide +kernel
theorem d_S_unlikeTurned_11 : decode b_S_unlikeTurned 11 = .ok (.if_icmp .ge 55, 3) := by decide +kernel
theorem d_S_unlikeTurned_14 : decode b_S_unlikeTurned 14 = .ok (.iload_n 1, 1) := by decide +kernel
theorem d_S_unlikeTurned_15 : decode b_S_unlikeTurned 15 = .ok (.aload_n 0, 1) := by decide +kernel
theorem d_S_unlikeTurned_16 : decode b_S_unlikeTurned 16 = .ok (.getfield 15, 3) := by decide +kernel
theorem d_S_unlikeTurned_19 : decode b_S_unlikeTurned 19 = .ok (.iload_n 3, 1) := by decide +kernel
theorem d_S_unlikeTurned_20 : decode b_S_unlikeTurned 20 = .ok (.iaload, 1) := by decide +kernel
theorem d_S_unlikeTurned_21 : decode b_S_unlikeTurned 21 = .ok (.iadd, 1) := by decide +kernel
theorem d_S_unlikeTurned_22 : decode b_S_unlikeTurned 22 = .ok (.istore 4, 2) := by decide +kernel
theorem d_S_unlikeTurned_24 : decode b_S_unlikeTurned 24 = .ok (.iload_n 2, 1) := by decide +kernel
theorem d_S_unlikeTurned_25 : decode b_S_unlikeTurned 25 = .ok (.aload_n 0, 1) := by decide +kernel
theorem d_S_unlikeTurned_26 : decode b_S_unlikeTurned 26 = .ok (.getfield 15, 3) := by decide +kernel
theorem d_S_unlikeTurned_29 : decode b_S_unlikeTurned 29 = .ok (.iload_n 3, 1) := by decide +kernel
theorem d_S_unlikeTurned_30 : decode b_S_unlikeTurned 30 = .ok (.iaload, 1) := by decide +kernel
theorem d_S_unlikeTurned_31 : decode b_S_unlikeTurned 31 = .ok (.aload_n 0, 1) := by decide +kernel
theorem d_S_unlikeTurned_32 : decode b_S_unlikeTurned 32 = .ok (.aload_n 0, 1) := by decide +kernel
theorem d_S_unlikeTurned_33 : decode b_S_unlikeTurned 33 = .ok (.getfield 22, 3) := by decide +kernel
theorem d_S_unlikeTurned_36 : decode b_S_unlikeTurned 36 = .ok (.iload 4, 2) := by decide +kernel
theorem d_S_unlikeTurned_38 : decode b_S_unlikeTurned 38 = .ok (.isub, 1) := by decide +kernel
theorem d_S_unlikeTurned_39 : decode b_S_unlikeTurned 39 = .ok (.aload_n 0, 1) := by decide +kernel
theorem d_S_unlikeTurned_40 : decode b_S_unlikeTurned 40 = .ok (.getfield 22, 3) := by decide +kernel
theorem d_S_unlikeTurned_43 : decode b_S_unlikeTurned 43 = .ok (.iload_n 1, 1) := by decide +kernel
theorem d_S_unlikeTurned_44 : decode b_S_unlikeTurned 44 = .ok (.isub, 1) := by decide +kernel
theorem d_S_unlikeTurned_45 : decode b_S_unlikeTurned 45 = .ok (.aload_n 0, 1) := by decide +kernel
theorem d_S_unlikeTurned_46 : decode b_S_unlikeTurned 46 = .ok (.getfield 9, 3) := by decide +kernel
theorem d_S_unlikeTurned_49 : decode b_S_unlikeTurned 49 = .ok (.iload_n 3, 1) := by decide +kernel
theorem d_S_unlikeTurned_50 : decode b_S_unlikeTurned 50 = .ok (.iaload, 1) := by decide +kernel
theorem d_S_unlikeTurned_51 : decode b_S_unlikeTurned 51 = .ok (.invokevirtual 93, 3) := by decide +kernel
theorem d_S_unlikeTurned_54 : decode b_S_unlikeTurned 54 = .ok (.isub, 1) := by decide +kernel
theorem d_S_unlikeTurned_55 : decode b_S_unlikeTurned 55 = .ok (.iadd, 1) := by decide +kernel
theorem d_S_unlikeTurned_56 : decode b_S_unlikeTurned 56 = .ok (.istore_n 2, 1) := by decide +kernel
theorem d_S_unlikeTurned_57 : decode b_S_unlikeTurned 57 = .ok (.iload 4, 2) := by decide +kernel
theorem d_S_unlikeTurned_59 : decode b_S_unlikeTurned 59 = .ok (.istore_n 1, 1) := by decide +kernel
theorem d_S_unlikeTurned_60 : decode b_S_unlikeTurned 60 = .ok (.iinc 3 1, 3) := by decide +kernel
theorem d_S_unlikeTurned_63 : decode b_S_unlikeTurned 63 = .ok (.goto (-57), 3) := by decide +kernel
theorem d_S_unlikeTurned_66 : decode b_S_unlikeTurned 66 = .ok (.iload_n 2, 1) := by decide +kernel
theorem d_S_unlikeTurned_67 : decode b_S_unlikeTurned 67 = .ok (.ireturn, 1) := by decide +kernel
set_option maxHeartbeats 4000000 in
set_option maxRecDepth 20000 in
theorem c_S_unlikeTurned {l : Launch} {G : va_G} {tys : List (ClassId × FieldType)} {cI cO cZ : ClassId} (hT : TY tys cI cO cZ) (q a b : Nat) (sg ln : Int → Int) (r pl ov lc sd : Int) (N : Int) (v : Int → Int) (hO : Ok r sg ln N v) (hr : r ≤ 50) (hN : N ≤ 3000) (hp : pl = N) : CTI l G tys y_S_unlikeTurned b_S_unlikeTurned 5 .int 3 68 [.ref q] (sw cI q a b sg ln r pl ov lc sd) (fun z u => u = sw cI q a b sg ln r pl ov lc sd ∧ (z = ps (umf v N) N)) := by
  refine mkI (by decide) (Nat.le_of_ble_eq_true rfl) ?_
  rintro X rfl rfl rfl hRm C kret H ls w hl
  have hl : lv_has ls 5 [(0, .ref q)] := hl
  have w : Wd X (sw cI q a b sg ln r pl ov lc sd) H [] := w
  generalize ([] : List Loc) = locs at w ⊢
  have hr0 := hO.1
  have hN0 := hO.n0
  have hps := ps_zero ln
  have hpr := hO.2.2.2.1
  refine r_iconst (pc := 0) C d_S_unlikeTurned_0 ?_
  refine r_istore_n (pc := 1) (lv' := [(1, .int (iI 0)), (0, .ref q)]) C d_S_unlikeTurned_1 rfl hl (by decide) rfl (fun ls hl => ?_)
  refine r_iconst (pc := 2) C d_S_unlikeTurned_2 ?_
  refine r_istore_n (pc := 3) (lv' := [(2, .int (iI 0)), (1, .int (iI 0)), (0, .ref q)]) C d_S_unlikeTurned_3 rfl hl (by decide) rfl (fun ls hl => ?_)
  refine r_iconst (pc := 4) C d_S_unlikeTurned_4 ?_
  refine r_istore_n (pc := 5) (lv' := [(3, .int (iI 0)), (2, .int (iI 0)), (1, .int (iI 0)), (0, .ref q)]) C d_S_unlikeTurned_5 rfl hl (by decide) rfl (fun ls hl => ?_)
  have L6 : ∀ (fuel : Nat), ∀ (i : Int) (S : Int) (un : Int), 0 ≤ i ∧ i ≤ r → S = ps ln i ∧ 0 ≤ S → un = ps (umf v N) S → (r - i) < (fuel : Int) → ∀ (H : Heap) (locs : List Loc) (ls : Array Slot), Wd X (sw cI q a b sg ln r pl ov lc sd) H locs → lv_has ls 5 [(0, .ref q), (1, .int (iI S)), (2, .int (iI un)), (3, .int (iI i))] → GG X 0 0 H locs 6 ls [] := by
    intro fuel
    induction fuel with
    | zero =>
      intro i S un h0 hS hs hfuel
      exact absurd hfuel (by omega)
    | succ fuel ih6 =>
      intro i S un h0 hS hs hfuel H locs ls w hl
      refine r_iload_n (pc := 6) C d_S_unlikeTurned_6 rfl (lv_at hl 3 rfl) ?_
      refine r_aload_n (pc := 7) C d_S_unlikeTurned_7 rfl (lv_at hl 0 rfl) ?_
      refine r_get (pc := 8) (v := .int (iI r)) C w i_S rfl 0 rfl 2 (by decide) fl_S_18 rfl rfl d_S_unlikeTurned_8 ?_
      refine r_icmp_ge (pc := 11) (tgt := 66) C (by omega) d_S_unlikeTurned_11 (by decide) (fun c_11 => ?_) (fun c_11 => ?_)
      · skip
        refine r_iload_n (pc := 66) C d_S_unlikeTurned_66 rfl (lv_at hl 2 rfl) ?_
        exact kret _ _ _ _ un _ d_S_unlikeTurned_67 w (⟨rfl, by rw [hs, show S = N by rw [hS.1, show i = r by omega]; exact hpr]⟩)
      · skip
        have hk2 := hO.run (k := i) (by omega) (by omega)
        have hms := mirror_step hO (by omega) (by omega) hS.1
        refine r_iload_n (pc := 14) C d_S_unlikeTurned_14 rfl (lv_at hl 1 rfl) ?_
        refine r_aload_n (pc := 15) C d_S_unlikeTurned_15 rfl (lv_at hl 0 rfl) ?_
        refine r_get (pc := 16) (v := .ref b) C w i_S rfl 0 rfl 1 (by decide) fl_S_15 rfl rfl d_S_unlikeTurned_16 ?_
        refine r_iload_n (pc := 19) C d_S_unlikeTurned_19 rfl (lv_at hl 3 rfl) ?_
        refine r_iald (pc := 20) (f := ln) (i := i) C w 0 2 rfl hT.1 (by omega) d_S_unlikeTurned_20 ?_
        refine r_iadd (pc := 21) C d_S_unlikeTurned_21 ?_
        refine r_istore (pc := 22) (lv' := [(4, .int (iI (S + (ln i)))), (0, .ref q), (1, .int (iI S)), (2, .int (iI un)), (3, .int (iI i))]) C d_S_unlikeTurned_22 hl (by decide) rfl (fun ls hl => ?_)
        refine r_iload_n (pc := 24) C d_S_unlikeTurned_24 rfl (lv_at hl 3 rfl) ?_
        refine r_aload_n (pc := 25) C d_S_unlikeTurned_25 rfl (lv_at hl 1 rfl) ?_
        refine r_get (pc := 26) (v := .ref b) C w i_S rfl 0 rfl 1 (by decide) fl_S_15 rfl rfl d_S_unlikeTurned_26 ?_
        refine r_iload_n (pc := 29) C d_S_unlikeTurned_29 rfl (lv_at hl 4 rfl) ?_
        refine r_iald (pc := 30) (f := ln) (i := i) C w 0 2 rfl hT.1 (by omega) d_S_unlikeTurned_30 ?_
        refine r_aload_n (pc := 31) C d_S_unlikeTurned_31 rfl (lv_at hl 1 rfl) ?_
        refine r_aload_n (pc := 32) C d_S_unlikeTurned_32 rfl (lv_at hl 1 rfl) ?_
        refine r_get (pc := 33) (v := .int (iI pl)) C w i_S rfl 0 rfl 3 (by decide) fl_S_22 rfl rfl d_S_unlikeTurned_33 ?_
        refine r_iload (pc := 36) C d_S_unlikeTurned_36 (lv_at hl 0 rfl) ?_
        refine r_isub (pc := 38) C d_S_unlikeTurned_38 ?_
        refine r_aload_n (pc := 39) C d_S_unlikeTurned_39 rfl (lv_at hl 1 rfl) ?_
        refine r_get (pc := 40) (v := .int (iI pl)) C w i_S rfl 0 rfl 3 (by decide) fl_S_22 rfl rfl d_S_unlikeTurned_40 ?_
        refine r_iload_n (pc := 43) C d_S_unlikeTurned_43 rfl (lv_at hl 2 rfl) ?_
        refine r_isub (pc := 44) C d_S_unlikeTurned_44 ?_
        refine r_aload_n (pc := 45) C d_S_unlikeTurned_45 rfl (lv_at hl 1 rfl) ?_
        refine r_get (pc := 46) (v := .ref a) C w i_S rfl 0 rfl 0 (by decide) fl_S_9 rfl rfl d_S_unlikeTurned_46 ?_
        refine r_iload_n (pc := 49) C d_S_unlikeTurned_49 rfl (lv_at hl 4 rfl) ?_
        refine r_iald (pc := 50) (f := sg) (i := i) C w 0 1 rfl hT.1 (by omega) d_S_unlikeTurned_50 ?_
        refine r_callVI (pc := 51) (As := [.int (iI (pl - (S + (ln i)))), .int (iI (pl - S)), .int (iI (sg i))]) (rest := [.int (iI (ln i)), .int (iI un)]) (wr := ([])) C w (c_S_alikeIn hT q a b sg ln r pl ov lc sd _ _ hO (by omega) (by omega) (pl - (S + (ln i))) (pl - S) (sg i) (by omega) (by omega)) ml_S_93 im_S_alikeIn se_S_alikeIn ini_S cd_S_alikeIn hd_S_alikeIn rfl (by rw [hRm]; exact ⟨⟨Nat.le_of_ble_eq_true rfl, Nat.le_of_ble_eq_true rfl⟩, Nat.le_of_ble_eq_true rfl, Nat.le_of_ble_eq_true rfl⟩) hl.1 [0, 1, 2] [] ⟨rfl, rfl, by decide, by decide, by decide⟩ 0 rfl rfl rfl (Nat.le_of_ble_eq_true rfl) d_S_unlikeTurned_51 (fun z_51 u_51 H locs hz_51 w => ?_)
        obtain ⟨rfl, hz_51⟩ := hz_51
        have w : Wd X (sw cI q a b sg ln r pl ov lc sd) H locs := w
        refine r_isub (pc := 54) C d_S_unlikeTurned_54 ?_
        refine r_iadd (pc := 55) C d_S_unlikeTurned_55 ?_
        refine r_istore_n (pc := 56) (lv' := [(2, .int (iI (un + ((ln i) - z_51)))), (4, .int (iI (S + (ln i)))), (0, .ref q), (1, .int (iI S)), (3, .int (iI i))]) C d_S_unlikeTurned_56 rfl hl (by decide) rfl (fun ls hl => ?_)
        refine r_iload (pc := 57) C d_S_unlikeTurned_57 (lv_at hl 1 rfl) ?_
        refine r_istore_n (pc := 59) (lv' := [(1, .int (iI (S + (ln i)))), (2, .int (iI (un + ((ln i) - z_51)))), (4, .int (iI (S + (ln i)))), (0, .ref q), (3, .int (iI i))]) C d_S_unlikeTurned_59 rfl hl (by decide) rfl (fun ls hl => ?_)
        refine r_iinc (pc := 60) (j := 4) (lv' := [(3, .int (iI (i + 1))), (1, .int (iI (S + (ln i)))), (2, .int (iI (un + ((ln i) - z_51)))), (4, .int (iI (S + (ln i)))), (0, .ref q)]) C d_S_unlikeTurned_60 hl rfl (by decide) rfl (fun ls hl => ?_)
        refine r_goto (pc := 63) (tgt := 6) C d_S_unlikeTurned_63 (by decide) ?_
        exact ih6 (i + 1) (S + (ln i)) (un + ((ln i) - z_51)) (by omega) (by omega) ((by rw [hms, hs, hz_51, hp])) (by omega) _ _ _ w (lv_sub hl [4, 1, 2, 0] rfl)
  exact L6 ((r - 0) + 1 : Int).toNat 0 0 0 (by first | omega | rfl) (by first | omega | rfl) (by first | omega | rfl) (by omega) _ _ _ w (lv_sub hl [3, 2, 1, 0] rfl)
end
section
/-! the whole object: its cells, what they hold, what an edit does to it -/
/-- settings and row: code, save-dead, runs, signs, lengths, places, the row sign by sign -/
abbrev Rw : Type := Int × Int × Int × (Int → Int) × (Int → Int) × Int × (Int → Int)
/-- row, history, how many, slots, which are used, pad, its length -/
abbrev AS : Type := Rw × (Int → Rw) × Int × (Int → Rw) × (Int → Int) × (Int → Int) × Int
def RwOk (lc sd r : Int) (sg ln : Int → Int) (N : Int) (v : Int → Int) : Prop := Ok r sg ln N v ∧ r ≤ 50 ∧ N ≤ 3000 ∧ (0 ≤ lc ∧ lc ≤ 2) ∧ (sd = 0 ∨ sd = 1)
def SR (d : SD) (w : Rw) : Prop := match d, w with
  | (_, _, _, sg, ln, r, pl, _, lc, sd), (lc', sd', r', sg', ln', N', v') => sg = sg' ∧ ln = ln' ∧ r = r' ∧ pl = N' ∧ lc = lc' ∧ sd = sd' ∧ RwOk lc' sd' r' sg' ln' N' v'
def swd (cI : ClassId) (d : SD) : va_W := sw cI d.1 d.2.1 d.2.2.1 d.2.2.2.1 d.2.2.2.2.1 d.2.2.2.2.2.1 d.2.2.2.2.2.2.1 d.2.2.2.2.2.2.2.1 d.2.2.2.2.2.2.2.2.1 d.2.2.2.2.2.2.2.2.2
def hst (cI : ClassId) (st : Int → SD) : va_W := swd cI (st 0) ++ (swd cI (st 1) ++ (swd cI (st 2) ++ (swd cI (st 3) ++ (swd cI (st 4) ++ (swd cI (st 5) ++ (swd cI (st 6) ++ swd cI (st 7)))))))
def dcore (cI cO cZ : ClassId) (o h sl us pd co rn rx ra : Nat) (hf : Int → Nat) (rcd : Int) (sf : Int → Nat) (uf T : Int → Int) (m : Int) : va_W := [(o, .inr (0, [.ref rn, .ref rx, .ref ra, .ref h, .int (iI rcd), .ref sl, .ref us, .ref pd])), (h, aR cO 6 hf), (sl, aR cO 2 sf), (us, aI cZ 2 uf), (pd, .inr (2, [.ref co, .int (iI m)])), (co, aI cI 80 T)]
def DC (hf sf : Int → Nat) (st : Int → SD) (hist : Int → Rw) (rcd : Int) (slot : Int → Rw) (uf T : Int → Int) (m : Int) : Prop := (∀ i, 0 ≤ i → i < 6 → hf i = (st i).1) ∧ (∀ i, 0 ≤ i → i < 2 → sf i = (st (6 + i)).1) ∧ (0 ≤ rcd ∧ rcd ≤ 6) ∧ (∀ i, 0 ≤ i → i < rcd → SR (st i) (hist i)) ∧ (∀ i, 0 ≤ i → i < 2 → (uf i = 0 ∨ uf i = 1) ∧ (uf i = 1 → SR (st (6 + i)) (slot i))) ∧ (0 ≤ m ∧ m ≤ 80) ∧ (∀ x, 0 ≤ x → x < m → 33 ≤ T x ∧ T x ≤ 126)
/-- the class's object at o stands for A -/
def CW (cI cO cZ : ClassId) (o : Nat) (A : AS) (ws : va_W) : Prop := match A with
  | ((lc, sd, r, sg, ln, N, v), hist, rcd, slot, uf, T, m) => RwOk lc sd r sg ln N v ∧ ∃ (h sl us pd co : Nat) (hf sf : Int → Nat) (q a b : Nat) (ov : Int) (q2 a2 b2 : Nat) (sg2 ln2 : Int → Int) (r2 pl2 ov2 lc2 sd2 : Int) (q3 a3 b3 : Nat) (sg3 ln3 : Int → Int) (r3 pl3 ov3 lc3 sd3 : Int) (st : Int → SD), ws = dcore cI cO cZ o h sl us pd co q q2 q3 hf rcd sf uf T m ++ sw cI q a b sg ln r N ov lc sd ++ sw cI q2 a2 b2 sg2 ln2 r2 pl2 ov2 lc2 sd2 ++ sw cI q3 a3 b3 sg3 ln3 r3 pl3 ov3 lc3 sd3 ++ hst cI st ∧ DC hf sf st hist rcd slot uf T m
/-- A' is A with one more state recorded, and a new row -/
def Pushed (A A' : AS) (lc1 sd1 N1 : Int) (v1 : Int → Int) : Prop := match A, A' with
  | (w, hist, rcd, slot, uf, T, m), ((lc', sd', r', sg', ln', N', v'), hist', rcd', slot', uf', T', m') => lc' = lc1 ∧ sd' = sd1 ∧ N' = N1 ∧ v' = v1 ∧ RwOk lc' sd' r' sg' ln' N' v' ∧ slot' = slot ∧ uf' = uf ∧ T' = T ∧ m' = m ∧ ((rcd < 6 ∧ rcd' = rcd + 1 ∧ (∀ i, 0 ≤ i → i < rcd → hist' i = hist i) ∧ hist' rcd = w) ∨ (rcd = 6 ∧ rcd' = 6 ∧ (∀ i, 0 ≤ i → i < 5 → hist' i = hist (i + 1)) ∧ hist' 5 = w))
def SpE (A : AS) (z : Int) (A' : AS) (err lc1 sd1 N1 : Int) (v1 : Int → Int) (ans : Int) : Prop := (err ≠ 0 ∧ z = err ∧ A' = A) ∨ (err = 0 ∧ ¬ fits_ N1 v1 ∧ z = -4 ∧ A' = A) ∨ (err = 0 ∧ fits_ N1 v1 ∧ z = ans ∧ Pushed A A' lc1 sd1 N1 v1)
theorem hst_at (cI : ClassId) (st : Int → SD) (pre : va_W) (i : Int) (h : 0 ≤ i ∧ i < 8) : ∃ (qk : Nat) (vs : List Value), (pre ++ hst cI st)[qk]? = some ((st i).1, .inr (1, vs)) := by
  have key : ∃ (j : Nat) (vs : List Value), (hst cI st)[j]? = some ((st i).1, .inr (1, vs)) := by
    rcases (by omega : i = 0 ∨ i = 1 ∨ i = 2 ∨ i = 3 ∨ i = 4 ∨ i = 5 ∨ i = 6 ∨ i = 7) with rfl | rfl | rfl | rfl | rfl | rfl | rfl | rfl
    · exact ⟨0, _, rfl⟩
    · exact ⟨3, _, rfl⟩
    · exact ⟨6, _, rfl⟩
    · exact ⟨9, _, rfl⟩
    · exact ⟨12, _, rfl⟩
    · exact ⟨15, _, rfl⟩
    · exact ⟨18, _, rfl⟩
    · exact ⟨21, _, rfl⟩
  obtain ⟨j, vs, hj⟩ := key
  exact ⟨pre.length + j, vs, by rw [List.getElem?_append_right (by omega), show pre.length + j - pre.length = j by omega]; exact hj⟩
/-- the oldest state's object goes behind the others -/
def rot (st : Int → SD) : Int → SD := fun i => if i < 5 then st (i + 1) else if i = 5 then st 0 else st i

theorem d_D_dropOldest_0 : decode b_D_dropOldest 0 = .ok (.aload_n 0, 1) := by decide +kernel
theorem d_D_dropOldest_1 : decode b_D_dropOldest 1 = .ok (.getfield 22, 3) := by decide +kernel
theorem d_D_dropOldest_4 : decode b_D_dropOldest 4 = .ok (.iconst 0, 1) := by decide +kernel
theorem d_D_dropOldest_5 : decode b_D_dropOldest 5 = .ok (.aaload, 1) := by decide +kernel
theorem d_D_dropOldest_6 : decode b_D_dropOldest 6 = .ok (.astore_n 1, 1) := by decide +kernel
theorem d_D_dropOldest_7 : decode b_D_dropOldest 7 = .ok (.iconst 1, 1) := by decide +kernel
theorem d_D_dropOldest_8 : decode b_D_dropOldest 8 = .ok (.istore_n 2, 1) := by decide +kernel
theorem d_D_dropOldest_9 : decode b_D_dropOldest 9 = .ok (.iload_n 2, 1) := by decide +kernel
theorem d_D_dropOldest_10 : decode b_D_dropOldest 10 = .ok (.bipush 6, 2) := by decide +kernel
theorem d_D_dropOldest_12 : decode b_D_dropOldest 12 = .ok (.if_icmp .ge 23, 3) := by decide +kernel
theorem d_D_dropOldest_15 : decode b_D_dropOldest 15 = .ok (.aload_n 0, 1) := by decide +kernel
theorem d_D_dropOldest_16 : decode b_D_dropOldest 16 = .ok (.getfield 22, 3) := by decide +kernel
theorem d_D_dropOldest_19 : decode b_D_dropOldest 19 = .ok (.iload_n 2, 1) := by decide +kernel
theorem d_D_dropOldest_20 : decode b_D_dropOldest 20 = .ok (.iconst 1, 1) := by decide +kernel
theorem d_D_dropOldest_21 : decode b_D_dropOldest 21 = .ok (.isub, 1) := by decide +kernel
theorem d_D_dropOldest_22 : decode b_D_dropOldest 22 = .ok (.aload_n 0, 1) := by decide +kernel
theorem d_D_dropOldest_23 : decode b_D_dropOldest 23 = .ok (.getfield 22, 3) := by decide +kernel
theorem d_D_dropOldest_26 : decode b_D_dropOldest 26 = .ok (.iload_n 2, 1) := by decide +kernel
theorem d_D_dropOldest_27 : decode b_D_dropOldest 27 = .ok (.aaload, 1) := by decide +kernel
theorem d_D_dropOldest_28 : decode b_D_dropOldest 28 = .ok (.aastore, 1) := by decide +kernel
theorem d_D_dropOldest_29 : decode b_D_dropOldest 29 = .ok (.iinc 2 1, 3) := by decide +kernel
theorem d_D_dropOldest_32 : decode b_D_dropOldest 32 = .ok (.goto (-23), 3) := by decide +kernel
theorem d_D_dropOldest_35 : decode b_D_dropOldest 35 = .ok (.aload_n 0, 1) := by decide +kernel
theorem d_D_dropOldest_36 : decode b_D_dropOldest 36 = .ok (.getfield 22, 3) := by decide +kernel
theorem d_D_dropOldest_39 : decode b_D_dropOldest 39 = .ok (.iconst 5, 1) := by decide +kernel
theorem d_D_dropOldest_40 : decode b_D_dropOldest 40 = .ok (.aload_n 1, 1) := by decide +kernel
theorem d_D_dropOldest_41 : decode b_D_dropOldest 41 = .ok (.aastore, 1) := by decide +kernel
theorem d_D_dropOldest_42 : decode b_D_dropOldest 42 = .ok (.aload_n 0, 1) := by decide +kernel
theorem d_D_dropOldest_43 : decode b_D_dropOldest 43 = .ok (.iconst 5, 1) := by decide +kernel
theorem d_D_dropOldest_44 : decode b_D_dropOldest 44 = .ok (.putfield 26, 3) := by decide +kernel
theorem d_D_dropOldest_47 : decode b_D_dropOldest 47 = .ok (.return_, 1) := by decide +kernel
set_option maxHeartbeats 4000000 in
set_option maxRecDepth 20000 in
theorem c_D_dropOldest {l : Launch} {G : va_G} {tys : List (ClassId × FieldType)} {cI cO cZ : ClassId} (hT : TY tys cI cO cZ) (o h sl us pd co rn rx ra : Nat) (hf sf : Int → Nat) (rcd m : Int) (uf T : Int → Int) (pre : va_W) (st : Int → SD) (hh : ∀ i, 0 ≤ i → i < 6 → hf i = (st i).1) : CTV l G tys y_D_dropOldest b_D_dropOldest 3 0 0 [.ref o] (dcore cI cO cZ o h sl us pd co rn rx ra hf rcd sf uf T m ++ (pre ++ hst cI st)) (fun u => ∃ hf' : Int → Nat, u = dcore cI cO cZ o h sl us pd co rn rx ra hf' 5 sf uf T m ++ (pre ++ hst cI st) ∧ ∀ i, 0 ≤ i → i < 6 → hf' i = (rot st i).1) := by
  refine mkV (by decide) (Nat.le_of_ble_eq_true rfl) ?_
  rintro X rfl rfl rfl hRm C kret H ls w hl
  have hl : lv_has ls 3 [(0, .ref o)] := hl
  have w : Wd X (dcore cI cO cZ o h sl us pd co rn rx ra hf rcd sf uf T m ++ (pre ++ hst cI st)) H [] := w
  generalize ([] : List Loc) = locs at w ⊢
  refine r_aload_n (pc := 0) C d_D_dropOldest_0 rfl (lv_at hl 0 rfl) ?_
  refine r_get (pc := 1) (v := .ref h) C w i_D rfl 0 rfl 3 (by decide) fl_D_22 rfl rfl d_D_dropOldest_1 ?_
  refine r_iconst (pc := 4) C d_D_dropOldest_4 ?_
  refine r_aald (pc := 5) (f := hf) (i := 0) C w 1 1 rfl hT.2.1 (by omega) d_D_dropOldest_5 ?_
  refine r_astore_n (pc := 6) (lv' := [(1, .ref (hf 0)), (0, .ref o)]) C d_D_dropOldest_6 rfl hl (by decide) rfl (fun ls hl => ?_)
  refine r_iconst (pc := 7) C d_D_dropOldest_7 ?_
  refine r_istore_n (pc := 8) (lv' := [(2, .int (iI 1)), (1, .ref (hf 0)), (0, .ref o)]) C d_D_dropOldest_8 rfl hl (by decide) rfl (fun ls hl => ?_)
  have L9 : ∀ (fuel : Nat), ∀ (i : Int) (hf1 : Int → Nat), 1 ≤ i ∧ i ≤ 6 → (∀ j, 0 ≤ j → j < i - 1 → hf1 j = (st (j + 1)).1) → (∀ j, i - 1 ≤ j → j < 6 → (j = i - 1 ∨ hf1 j = (st j).1)) → (∀ j, i ≤ j → j < 6 → hf1 j = (st j).1) → (6 - i) < (fuel : Int) → ∀ (H : Heap) (locs : List Loc) (ls : Array Slot), Wd X (dcore cI cO cZ o h sl us pd co rn rx ra hf1 rcd sf uf T m ++ (pre ++ hst cI st)) H locs → lv_has ls 3 [(0, .ref o), (1, .ref (hf 0)), (2, .int (iI i))] → GG X 0 0 H locs 9 ls [] := by
    intro fuel
    induction fuel with
    | zero =>
      intro i hf1 h0 ha hb hc hfuel
      exact absurd hfuel (by omega)
    | succ fuel ih9 =>
      intro i hf1 h0 ha hb hc hfuel H locs ls w hl
      refine r_iload_n (pc := 9) C d_D_dropOldest_9 rfl (lv_at hl 2 rfl) ?_
      refine r_bipush (pc := 10) C d_D_dropOldest_10 (by decide) ?_
      refine r_icmp_ge (pc := 12) (tgt := 35) C (by omega) d_D_dropOldest_12 (by decide) (fun c_12 => ?_) (fun c_12 => ?_)
      · skip
        have hx0 := hh 0 (by omega) (by omega)
        refine r_aload_n (pc := 35) C d_D_dropOldest_35 rfl (lv_at hl 0 rfl) ?_
        refine r_get (pc := 36) (v := .ref h) C w i_D rfl 0 rfl 3 (by decide) fl_D_22 rfl rfl d_D_dropOldest_36 ?_
        refine r_iconst (pc := 39) C d_D_dropOldest_39 ?_
        refine r_aload_n (pc := 40) C d_D_dropOldest_40 rfl (lv_at hl 1 rfl) ?_
        obtain ⟨qk_41, vs_41, hv_41⟩ := hst_at cI st (dcore cI cO cZ o h sl us pd co rn rx ra hf1 rcd sf uf T m ++ pre) 0 (by omega)
        rw [← hx0, List.append_assoc] at hv_41
        refine r_aast (pc := 41) (f := hf1) (i := 5) (v := (hf 0)) (r := (R_S, F_S, 7)) (ws' := dcore cI cO cZ o h sl us pd co rn rx ra (up hf1 5 (hf 0)) rcd sf uf T m ++ (pre ++ hst cI st)) C w 1 1 qk_41 1 rfl hT.2.1 hv_41 rfl (by omega) rfl d_D_dropOldest_41 (fun H locs w => ?_)
        refine r_aload_n (pc := 42) C d_D_dropOldest_42 rfl (lv_at hl 0 rfl) ?_
        refine r_iconst (pc := 43) C d_D_dropOldest_43 ?_
        refine r_put (pc := 44) (ws' := dcore cI cO cZ o h sl us pd co rn rx ra (up hf1 5 (hf 0)) 5 sf uf T m ++ (pre ++ hst cI st)) C w i_D t_D t_D_ok n_D rfl 0 rfl 4 (by decide) fl_D_26 rfl rfl rfl rfl (Nat.le_of_ble_eq_true rfl) rfl d_D_dropOldest_44 (fun H locs w => ?_)
        exact kret _ _ _ _ _ d_D_dropOldest_47 w (⟨_, rfl, fun i h1 h2 => by unfold rot; by_cases e : i = 5; subst e; rw [up_eq]; exact hx0; rw [up_ne _ _ e, if_pos (by omega)]; exact ha i h1 (by omega)⟩)
      · skip
        have hx1 := hc i (by omega) (by omega)
        refine r_aload_n (pc := 15) C d_D_dropOldest_15 rfl (lv_at hl 0 rfl) ?_
        refine r_get (pc := 16) (v := .ref h) C w i_D rfl 0 rfl 3 (by decide) fl_D_22 rfl rfl d_D_dropOldest_16 ?_
        refine r_iload_n (pc := 19) C d_D_dropOldest_19 rfl (lv_at hl 2 rfl) ?_
        refine r_iconst (pc := 20) C d_D_dropOldest_20 ?_
        refine r_isub (pc := 21) C d_D_dropOldest_21 ?_
        refine r_aload_n (pc := 22) C d_D_dropOldest_22 rfl (lv_at hl 0 rfl) ?_
        refine r_get (pc := 23) (v := .ref h) C w i_D rfl 0 rfl 3 (by decide) fl_D_22 rfl rfl d_D_dropOldest_23 ?_
        refine r_iload_n (pc := 26) C d_D_dropOldest_26 rfl (lv_at hl 2 rfl) ?_
        refine r_aald (pc := 27) (f := hf1) (i := i) C w 1 1 rfl hT.2.1 (by omega) d_D_dropOldest_27 ?_
        obtain ⟨qk_28, vs_28, hv_28⟩ := hst_at cI st (dcore cI cO cZ o h sl us pd co rn rx ra hf1 rcd sf uf T m ++ pre) i (by omega)
        rw [← hx1, List.append_assoc] at hv_28
        refine r_aast (pc := 28) (f := hf1) (i := (i - 1)) (v := (hf1 i)) (r := (R_S, F_S, 7)) (ws' := dcore cI cO cZ o h sl us pd co rn rx ra (up hf1 (i - 1) (hf1 i)) rcd sf uf T m ++ (pre ++ hst cI st)) C w 1 1 qk_28 1 rfl hT.2.1 hv_28 rfl (by omega) rfl d_D_dropOldest_28 (fun H locs w => ?_)
        refine r_iinc (pc := 29) (j := 2) (lv' := [(2, .int (iI (i + 1))), (0, .ref o), (1, .ref (hf 0))]) C d_D_dropOldest_29 hl rfl (by decide) rfl (fun ls hl => ?_)
        refine r_goto (pc := 32) (tgt := 9) C d_D_dropOldest_32 (by decide) ?_
        exact ih9 (i + 1) (up hf1 (i - 1) (hf1 i)) (by omega) ((fun j h1 h2 => by by_cases e : j = i - 1; subst e; rw [up_eq, show i - 1 + 1 = i by omega]; exact hx1; rw [up_ne _ _ e]; exact ha j h1 (by omega))) ((fun j h1 h2 => Or.inr (by rw [up_ne _ _ (by omega)]; exact hc j (by omega) h2))) ((fun j h1 h2 => by rw [up_ne _ _ (by omega)]; exact hc j (by omega) h2)) (by omega) _ _ _ w (lv_sub hl [1, 2, 0] rfl)
  exact L9 ((6 - 1) + 1 : Int).toNat 1 hf (by first | omega | rfl) ((fun j h1 h2 => by omega)) ((fun j h1 h2 => Or.inr (hh j (by omega) h2))) ((fun j h1 h2 => hh j (by omega) h2)) (by omega) _ _ _ w (lv_sub hl [2, 1, 0] rfl)
/-- the world with its oldest history state's object behind the others -/
theorem hst_rot {X : Ev} {H : Heap} {locs : List Loc} {cI : ClassId} {st : Int → SD} {c n x a : va_W} (hc : ∃ c0 c1 c2 c3 c4 c5, c = [c0, c1, c2, c3, c4, c5]) (hn : ∃ c0 c1 c2, n = [c0, c1, c2]) (hx : ∃ c0 c1 c2, x = [c0, c1, c2]) (ha : ∃ c0 c1 c2, a = [c0, c1, c2]) (w : Wd X (c ++ n ++ x ++ a ++ hst cI st) H locs) : Wd X (c ++ n ++ x ++ a ++ hst cI (rot st)) H locs := by
  obtain ⟨c0, c1, c2, c3, c4, c5, rfl⟩ := hc
  obtain ⟨n0, n1, n2, rfl⟩ := hn
  obtain ⟨x0, x1, x2, rfl⟩ := hx
  obtain ⟨a0, a1, a2, rfl⟩ := ha
  exact w.sub [0, 1, 2, 3, 4, 5, 6, 7, 8, 9, 10, 11, 12, 13, 14, 18, 19, 20, 21, 22, 23, 24, 25, 26, 27, 28, 29, 30, 31, 32, 15, 16, 17, 33, 34, 35, 36, 37, 38] rfl (by decide)
/-- now goes into the history at j, next becomes now, the object that was there becomes next -/
theorem hst_swap {X : Ev} {H : Heap} {locs : List Loc} {cI : ClassId} {st : Int → SD} {c a : va_W} {d1 d2 : SD} {j : Int} (hj : 0 ≤ j ∧ j < 6) (hc : ∃ c0 c1 c2 c3 c4 c5, c = [c0, c1, c2, c3, c4, c5]) (ha : ∃ c0 c1 c2, a = [c0, c1, c2]) (w : Wd X (c ++ swd cI d1 ++ swd cI d2 ++ a ++ hst cI st) H locs) : Wd X (c ++ swd cI d2 ++ swd cI (st j) ++ a ++ hst cI (up st j d1)) H locs := by
  obtain ⟨c0, c1, c2, c3, c4, c5, rfl⟩ := hc
  obtain ⟨a0, a1, a2, rfl⟩ := ha
  have e : ∀ i : Int, ¬ i = j → up st j d1 i = st i := fun i hi => up_ne st d1 hi
  have e2 : up st j d1 j = d1 := up_eq st j d1
  rcases (by omega : j = 0 ∨ j = 1 ∨ j = 2 ∨ j = 3 ∨ j = 4 ∨ j = 5) with rfl | rfl | rfl | rfl | rfl | rfl
  · rw [show hst cI (up st 0 d1) = swd cI d1 ++ (swd cI (st 1) ++ (swd cI (st 2) ++ (swd cI (st 3) ++ (swd cI (st 4) ++ (swd cI (st 5) ++ (swd cI (st 6) ++ swd cI (st 7))))))) by unfold hst; rw [e2, e 1 (by omega), e 2 (by omega), e 3 (by omega), e 4 (by omega), e 5 (by omega), e 6 (by omega), e 7 (by omega)]]
    exact w.sub [0, 1, 2, 3, 4, 5, 9, 10, 11, 15, 16, 17, 12, 13, 14, 6, 7, 8, 18, 19, 20, 21, 22, 23, 24, 25, 26, 27, 28, 29, 30, 31, 32, 33, 34, 35, 36, 37, 38] rfl (by decide)
  · rw [show hst cI (up st 1 d1) = swd cI (st 0) ++ (swd cI d1 ++ (swd cI (st 2) ++ (swd cI (st 3) ++ (swd cI (st 4) ++ (swd cI (st 5) ++ (swd cI (st 6) ++ swd cI (st 7))))))) by unfold hst; rw [e2, e 0 (by omega), e 2 (by omega), e 3 (by omega), e 4 (by omega), e 5 (by omega), e 6 (by omega), e 7 (by omega)]]
    exact w.sub [0, 1, 2, 3, 4, 5, 9, 10, 11, 18, 19, 20, 12, 13, 14, 15, 16, 17, 6, 7, 8, 21, 22, 23, 24, 25, 26, 27, 28, 29, 30, 31, 32, 33, 34, 35, 36, 37, 38] rfl (by decide)
  · rw [show hst cI (up st 2 d1) = swd cI (st 0) ++ (swd cI (st 1) ++ (swd cI d1 ++ (swd cI (st 3) ++ (swd cI (st 4) ++ (swd cI (st 5) ++ (swd cI (st 6) ++ swd cI (st 7))))))) by unfold hst; rw [e2, e 0 (by omega), e 1 (by omega), e 3 (by omega), e 4 (by omega), e 5 (by omega), e 6 (by omega), e 7 (by omega)]]
    exact w.sub [0, 1, 2, 3, 4, 5, 9, 10, 11, 21, 22, 23, 12, 13, 14, 15, 16, 17, 18, 19, 20, 6, 7, 8, 24, 25, 26, 27, 28, 29, 30, 31, 32, 33, 34, 35, 36, 37, 38] rfl (by decide)
  · rw [show hst cI (up st 3 d1) = swd cI (st 0) ++ (swd cI (st 1) ++ (swd cI (st 2) ++ (swd cI d1 ++ (swd cI (st 4) ++ (swd cI (st 5) ++ (swd cI (st 6) ++ swd cI (st 7))))))) by unfold hst; rw [e2, e 0 (by omega), e 1 (by omega), e 2 (by omega), e 4 (by omega), e 5 (by omega), e 6 (by omega), e 7 (by omega)]]
    exact w.sub [0, 1, 2, 3, 4, 5, 9, 10, 11, 24, 25, 26, 12, 13, 14, 15, 16, 17, 18, 19, 20, 21, 22, 23, 6, 7, 8, 27, 28, 29, 30, 31, 32, 33, 34, 35, 36, 37, 38] rfl (by decide)
  · rw [show hst cI (up st 4 d1) = swd cI (st 0) ++ (swd cI (st 1) ++ (swd cI (st 2) ++ (swd cI (st 3) ++ (swd cI d1 ++ (swd cI (st 5) ++ (swd cI (st 6) ++ swd cI (st 7))))))) by unfold hst; rw [e2, e 0 (by omega), e 1 (by omega), e 2 (by omega), e 3 (by omega), e 5 (by omega), e 6 (by omega), e 7 (by omega)]]
    exact w.sub [0, 1, 2, 3, 4, 5, 9, 10, 11, 27, 28, 29, 12, 13, 14, 15, 16, 17, 18, 19, 20, 21, 22, 23, 24, 25, 26, 6, 7, 8, 30, 31, 32, 33, 34, 35, 36, 37, 38] rfl (by decide)
  · rw [show hst cI (up st 5 d1) = swd cI (st 0) ++ (swd cI (st 1) ++ (swd cI (st 2) ++ (swd cI (st 3) ++ (swd cI (st 4) ++ (swd cI d1 ++ (swd cI (st 6) ++ swd cI (st 7))))))) by unfold hst; rw [e2, e 0 (by omega), e 1 (by omega), e 2 (by omega), e 3 (by omega), e 4 (by omega), e 6 (by omega), e 7 (by omega)]]
    exact w.sub [0, 1, 2, 3, 4, 5, 9, 10, 11, 30, 31, 32, 12, 13, 14, 15, 16, 17, 18, 19, 20, 21, 22, 23, 24, 25, 26, 27, 28, 29, 6, 7, 8, 33, 34, 35, 36, 37, 38] rfl (by decide)

theorem acc_end {cI cO cZ : ClassId} {o h sl us pd co : Nat} {hf sf : Int → Nat} {rcd m : Int} {uf T : Int → Int} {q a b : Nat} {sg ln : Int → Int} {r N ov lc sd : Int} {q2 a2 b2 : Nat} {sg2 ln2 : Int → Int} {r2 pl2 ov2 lc2 sd2 : Int} {q3 a3 b3 : Nat} {sg3 ln3 : Int → Int} {r3 pl3 ov3 lc3 sd3 : Int} {st : Int → SD} {n : Int} {v v2 : Int → Int} {hist slot : Int → Rw}
    (hR : RwOk lc sd r sg ln N v) (hC : DC hf sf st hist rcd slot uf T m) (hfi : fits_ n v2 ∧ pl2 = n ∧ Ok r2 sg2 ln2 n v2 ∧ n ≤ 3000 ∧ r2 ≤ 50) (hl2 : (0 ≤ lc2 ∧ lc2 ≤ 2) ∧ (sd2 = 0 ∨ sd2 = 1)) (hrec : rcd < 6) :
    ∃ A' : AS, CW cI cO cZ o A' (dcore cI cO cZ o h sl us pd co q2 (st rcd).1 q3 (up hf rcd q) (rcd + 1) sf uf T m ++ swd cI (q2, a2, b2, sg2, ln2, r2, pl2, ov2, lc2, sd2) ++ swd cI (st rcd) ++ sw cI q3 a3 b3 sg3 ln3 r3 pl3 ov3 lc3 sd3 ++ hst cI (up st rcd (q, a, b, sg, ln, r, N, ov, lc, sd))) ∧ Pushed ((lc, sd, r, sg, ln, N, v), hist, rcd, slot, uf, T, m) A' lc2 sd2 n v2 ∧ A' = ((lc2, sd2, r2, sg2, ln2, n, v2), up hist rcd (lc, sd, r, sg, ln, N, v), rcd + 1, slot, uf, T, m) := by
  obtain ⟨h1, h2, h3, h4, h5⟩ := hfi
  subst h2
  have hR2 : RwOk lc2 sd2 r2 sg2 ln2 pl2 v2 := ⟨h3, h5, h4, hl2.1, hl2.2⟩
  obtain ⟨d1, d2, d3, d4, d5, d6, d7⟩ := hC
  refine ⟨((lc2, sd2, r2, sg2, ln2, pl2, v2), up hist rcd (lc, sd, r, sg, ln, N, v), rcd + 1, slot, uf, T, m), ⟨hR2, h, sl, us, pd, co, up hf rcd q, sf, q2, a2, b2, ov2, (st rcd).1, (st rcd).2.1, (st rcd).2.2.1, (st rcd).2.2.2.1, (st rcd).2.2.2.2.1, (st rcd).2.2.2.2.2.1, (st rcd).2.2.2.2.2.2.1, (st rcd).2.2.2.2.2.2.2.1, (st rcd).2.2.2.2.2.2.2.2.1, (st rcd).2.2.2.2.2.2.2.2.2, q3, a3, b3, sg3, ln3, r3, pl3, ov3, lc3, sd3, up st rcd (q, a, b, sg, ln, r, N, ov, lc, sd), rfl, fun i i1 i2 => ?_, fun i i1 i2 => ?_, by omega, fun i i1 i2 => ?_, fun i i1 i2 => ?_, d6, d7⟩, ⟨rfl, rfl, rfl, rfl, hR2, rfl, rfl, rfl, rfl, Or.inl ⟨hrec, rfl, fun i i1 i2 => up_ne _ _ (by omega), up_eq _ _ _⟩⟩, rfl⟩
  · by_cases e : i = rcd
    · subst e; rw [up_eq, up_eq]
    · rw [up_ne _ _ e, up_ne _ _ e]; exact d1 i i1 i2
  · rw [up_ne _ _ (by omega)]; exact d2 i i1 i2
  · by_cases e : i = rcd
    · subst e; rw [up_eq, up_eq]; exact ⟨rfl, rfl, rfl, rfl, rfl, rfl, hR⟩
    · rw [up_ne _ _ e, up_ne _ _ e]; exact d4 i i1 (by omega)
  · rw [up_ne _ _ (by omega)]; exact d5 i i1 i2
theorem rot_DC {hf sf hf' : Int → Nat} {rcd m : Int} {uf T : Int → Int} {st : Int → SD} {hist slot : Int → Rw} (hC : DC hf sf st hist rcd slot uf T m) (hrec : rcd = 6) (hh : ∀ i, 0 ≤ i → i < 6 → hf' i = (rot st i).1) : DC hf' sf (rot st) (fun i => hist (i + 1)) 5 slot uf T m := by
  obtain ⟨d1, d2, d3, d4, d5, d6, d7⟩ := hC
  refine ⟨hh, fun i i1 i2 => ?_, by omega, fun i i1 i2 => ?_, fun i i1 i2 => ?_, d6, d7⟩
  · unfold rot; rw [if_neg (by omega), if_neg (by omega)]; exact d2 i i1 i2
  · unfold rot; rw [if_pos (by omega)]; exact d4 (i + 1) (by omega) (by omega)
  · unfold rot; rw [if_neg (by omega), if_neg (by omega)]; exact d5 i i1 i2

theorem d_D_accepted_0 : decode b_D_accepted 0 = .ok (.aload_n 0, 1) := by decide +kernel
theorem d_D_accepted_1 : decode b_D_accepted 1 = .ok (.getfield 16, 3) := by decide +kernel
theorem d_D_accepted_4 : decode b_D_accepted 4 = .ok (.getfield 170, 3) := by decide +kernel
theorem d_D_accepted_7 : decode b_D_accepted 7 = .ok (.ifCond .eq 6, 3) := by decide +kernel
theorem d_D_accepted_10 : decode b_D_accepted 10 = .ok (.bipush (-4), 2) := by decide +kernel
theorem d_D_accepted_12 : decode b_D_accepted 12 = .ok (.ireturn, 1) := by decide +kernel
theorem d_D_accepted_13 : decode b_D_accepted 13 = .ok (.aload_n 0, 1) := by decide +kernel
theorem d_D_accepted_14 : decode b_D_accepted 14 = .ok (.getfield 26, 3) := by decide +kernel
theorem d_D_accepted_17 : decode b_D_accepted 17 = .ok (.bipush 6, 2) := by decide +kernel
theorem d_D_accepted_19 : decode b_D_accepted 19 = .ok (.if_icmp .lt 7, 3) := by decide +kernel
theorem d_D_accepted_22 : decode b_D_accepted 22 = .ok (.aload_n 0, 1) := by decide +kernel
theorem d_D_accepted_23 : decode b_D_accepted 23 = .ok (.invokevirtual 174, 3) := by decide +kernel
theorem d_D_accepted_26 : decode b_D_accepted 26 = .ok (.aload_n 0, 1) := by decide +kernel
theorem d_D_accepted_27 : decode b_D_accepted 27 = .ok (.getfield 22, 3) := by decide +kernel
theorem d_D_accepted_30 : decode b_D_accepted 30 = .ok (.aload_n 0, 1) := by decide +kernel
theorem d_D_accepted_31 : decode b_D_accepted 31 = .ok (.getfield 26, 3) := by decide +kernel
theorem d_D_accepted_34 : decode b_D_accepted 34 = .ok (.aaload, 1) := by decide +kernel
theorem d_D_accepted_35 : decode b_D_accepted 35 = .ok (.astore_n 2, 1) := by decide +kernel
theorem d_D_accepted_36 : decode b_D_accepted 36 = .ok (.aload_n 0, 1) := by decide +kernel
theorem d_D_accepted_37 : decode b_D_accepted 37 = .ok (.getfield 22, 3) := by decide +kernel
theorem d_D_accepted_40 : decode b_D_accepted 40 = .ok (.aload_n 0, 1) := by decide +kernel
theorem d_D_accepted_41 : decode b_D_accepted 41 = .ok (.getfield 26, 3) := by decide +kernel
theorem d_D_accepted_44 : decode b_D_accepted 44 = .ok (.aload_n 0, 1) := by decide +kernel
theorem d_D_accepted_45 : decode b_D_accepted 45 = .ok (.getfield 10, 3) := by decide +kernel
theorem d_D_accepted_48 : decode b_D_accepted 48 = .ok (.aastore, 1) := by decide +kernel
theorem d_D_accepted_49 : decode b_D_accepted 49 = .ok (.aload_n 0, 1) := by decide +kernel
theorem d_D_accepted_50 : decode b_D_accepted 50 = .ok (.aload_n 0, 1) := by decide +kernel
theorem d_D_accepted_51 : decode b_D_accepted 51 = .ok (.getfield 16, 3) := by decide +kernel
theorem d_D_accepted_54 : decode b_D_accepted 54 = .ok (.putfield 10, 3) := by decide +kernel
theorem d_D_accepted_57 : decode b_D_accepted 57 = .ok (.aload_n 0, 1) := by decide +kernel
theorem d_D_accepted_58 : decode b_D_accepted 58 = .ok (.aload_n 2, 1) := by decide +kernel
theorem d_D_accepted_59 : decode b_D_accepted 59 = .ok (.putfield 16, 3) := by decide +kernel
theorem d_D_accepted_62 : decode b_D_accepted 62 = .ok (.aload_n 0, 1) := by decide +kernel
theorem d_D_accepted_63 : decode b_D_accepted 63 = .ok (.dup, 1) := by decide +kernel
theorem d_D_accepted_64 : decode b_D_accepted 64 = .ok (.getfield 26, 3) := by decide +kernel
theorem d_D_accepted_67 : decode b_D_accepted 67 = .ok (.iconst 1, 1) := by decide +kernel
theorem d_D_accepted_68 : decode b_D_accepted 68 = .ok (.iadd, 1) := by decide +kernel
theorem d_D_accepted_69 : decode b_D_accepted 69 = .ok (.putfield 26, 3) := by decide +kernel
theorem d_D_accepted_72 : decode b_D_accepted 72 = .ok (.iload_n 1, 1) := by decide +kernel
theorem d_D_accepted_73 : decode b_D_accepted 73 = .ok (.ireturn, 1) := by decide +kernel
set_option maxHeartbeats 4000000 in
set_option maxRecDepth 20000 in
theorem c_D_accepted {l : Launch} {G : va_G} {tys : List (ClassId × FieldType)} {cI cO cZ : ClassId} (hT : TY tys cI cO cZ) (o h sl us pd co : Nat) (hf sf : Int → Nat) (rcd m : Int) (uf T : Int → Int) (q a b : Nat) (sg ln : Int → Int) (r N ov lc sd : Int) (q2 a2 b2 : Nat) (sg2 ln2 : Int → Int) (r2 pl2 ov2 lc2 sd2 : Int) (q3 a3 b3 : Nat) (sg3 ln3 : Int → Int) (r3 pl3 ov3 lc3 sd3 : Int) (st : Int → SD) (ans n : Int) (v v2 : Int → Int) (hist slot : Int → Rw) (hR : RwOk lc sd r sg ln N v) (hC : DC hf sf st hist rcd slot uf T m) (hV : RV r2 pl2 ov2 sg2 ln2 n v2) (hl2 : (0 ≤ lc2 ∧ lc2 ≤ 2) ∧ (sd2 = 0 ∨ sd2 = 1)) : CTI l G tys y_D_accepted b_D_accepted 3 .int 1 22 [.ref o, .int (iI ans)] (dcore cI cO cZ o h sl us pd co q q2 q3 hf rcd sf uf T m ++ sw cI q a b sg ln r N ov lc sd ++ sw cI q2 a2 b2 sg2 ln2 r2 pl2 ov2 lc2 sd2 ++ sw cI q3 a3 b3 sg3 ln3 r3 pl3 ov3 lc3 sd3 ++ hst cI st) (fun z u => (¬ fits_ n v2 ∧ z = -4 ∧ u = dcore cI cO cZ o h sl us pd co q q2 q3 hf rcd sf uf T m ++ sw cI q a b sg ln r N ov lc sd ++ sw cI q2 a2 b2 sg2 ln2 r2 pl2 ov2 lc2 sd2 ++ sw cI q3 a3 b3 sg3 ln3 r3 pl3 ov3 lc3 sd3 ++ hst cI st) ∨ (fits_ n v2 ∧ z = ans ∧ ∃ A' : AS, CW cI cO cZ o A' u ∧ Pushed ((lc, sd, r, sg, ln, N, v), hist, rcd, slot, uf, T, m) A' lc2 sd2 n v2)) := by
  refine mkI (by decide) (Nat.le_of_ble_eq_true rfl) ?_
  rintro X rfl rfl rfl hRm C kret H ls w hl
  have hl : lv_has ls 3 [(0, .ref o), (1, .int (iI ans))] := hl
  have w : Wd X (dcore cI cO cZ o h sl us pd co q q2 q3 hf rcd sf uf T m ++ sw cI q a b sg ln r N ov lc sd ++ sw cI q2 a2 b2 sg2 ln2 r2 pl2 ov2 lc2 sd2 ++ sw cI q3 a3 b3 sg3 ln3 r3 pl3 ov3 lc3 sd3 ++ hst cI st) H [] := w
  generalize ([] : List Loc) = locs at w ⊢
  have hov := hV.ov01
  have hhf := hC.1
  have hrec := hC.2.2.1
  refine r_aload_n (pc := 0) C d_D_accepted_0 rfl (lv_at hl 0 rfl) ?_
  refine r_get (pc := 1) (v := .ref q2) C w i_D rfl 0 rfl 1 (by decide) fl_D_16 rfl rfl d_D_accepted_1 ?_
  refine r_get (pc := 4) (v := .int (iI ov2)) C w i_S rfl 9 rfl 4 (by decide) fl_D_170 rfl rfl d_D_accepted_4 ?_
  refine r_if_eq (pc := 7) (tgt := 13) C (by omega) d_D_accepted_7 (by decide) (fun c_7 => ?_) (fun c_7 => ?_)
  · skip
    have hfi : fits_ n v2 ∧ pl2 = n ∧ Ok r2 sg2 ln2 n v2 ∧ n ≤ 3000 ∧ r2 ≤ 50 := by
      rcases hov with ⟨h1, h2, h3, h4, h5⟩ | ⟨h1, -⟩
      · exact ⟨⟨h4, by rw [h3.rcE]; exact h5⟩, h2, h3, h4, h5⟩
      · omega
    clear hov
    refine r_aload_n (pc := 13) C d_D_accepted_13 rfl (lv_at hl 0 rfl) ?_
    refine r_get (pc := 14) (v := .int (iI rcd)) C w i_D rfl 0 rfl 4 (by decide) fl_D_26 rfl rfl d_D_accepted_14 ?_
    refine r_bipush (pc := 17) C d_D_accepted_17 (by decide) ?_
    refine r_icmp_lt (pc := 19) (tgt := 26) C (by omega) d_D_accepted_19 (by decide) (fun c_19 => ?_) (fun c_19 => ?_)
    · skip
      refine r_aload_n (pc := 26) C d_D_accepted_26 rfl (lv_at hl 0 rfl) ?_
      refine r_get (pc := 27) (v := .ref h) C w i_D rfl 0 rfl 3 (by decide) fl_D_22 rfl rfl d_D_accepted_27 ?_
      refine r_aload_n (pc := 30) C d_D_accepted_30 rfl (lv_at hl 0 rfl) ?_
      refine r_get (pc := 31) (v := .int (iI rcd)) C w i_D rfl 0 rfl 4 (by decide) fl_D_26 rfl rfl d_D_accepted_31 ?_
      refine r_aald (pc := 34) (f := hf) (i := rcd) C w 1 1 rfl hT.2.1 (by omega) d_D_accepted_34 ?_
      refine r_astore_n (pc := 35) (lv' := [(2, .ref (hf rcd)), (0, .ref o), (1, .int (iI ans))]) C d_D_accepted_35 rfl hl (by decide) rfl (fun ls hl => ?_)
      refine r_aload_n (pc := 36) C d_D_accepted_36 rfl (lv_at hl 1 rfl) ?_
      refine r_get (pc := 37) (v := .ref h) C w i_D rfl 0 rfl 3 (by decide) fl_D_22 rfl rfl d_D_accepted_37 ?_
      refine r_aload_n (pc := 40) C d_D_accepted_40 rfl (lv_at hl 1 rfl) ?_
      refine r_get (pc := 41) (v := .int (iI rcd)) C w i_D rfl 0 rfl 4 (by decide) fl_D_26 rfl rfl d_D_accepted_41 ?_
      refine r_aload_n (pc := 44) C d_D_accepted_44 rfl (lv_at hl 1 rfl) ?_
      refine r_get (pc := 45) (v := .ref q) C w i_D rfl 0 rfl 0 (by decide) fl_D_10 rfl rfl d_D_accepted_45 ?_
      obtain ⟨qk_48, vs_48, hv_48⟩ : ∃ (qk : Nat) (vs : List Value), (dcore cI cO cZ o h sl us pd co q q2 q3 hf rcd sf uf T m ++ sw cI q a b sg ln r N ov lc sd ++ sw cI q2 a2 b2 sg2 ln2 r2 pl2 ov2 lc2 sd2 ++ sw cI q3 a3 b3 sg3 ln3 r3 pl3 ov3 lc3 sd3 ++ hst cI st)[qk]? = some (q, .inr (1, vs)) := ⟨6, _, rfl⟩
      refine r_aast (pc := 48) (f := hf) (i := rcd) (v := q) (r := (R_S, F_S, 7)) (ws' := dcore cI cO cZ o h sl us pd co q q2 q3 (up hf rcd q) rcd sf uf T m ++ sw cI q a b sg ln r N ov lc sd ++ sw cI q2 a2 b2 sg2 ln2 r2 pl2 ov2 lc2 sd2 ++ sw cI q3 a3 b3 sg3 ln3 r3 pl3 ov3 lc3 sd3 ++ hst cI st) C w 1 1 qk_48 1 rfl hT.2.1 hv_48 rfl (by omega) rfl d_D_accepted_48 (fun H locs w => ?_)
      refine r_aload_n (pc := 49) C d_D_accepted_49 rfl (lv_at hl 1 rfl) ?_
      refine r_aload_n (pc := 50) C d_D_accepted_50 rfl (lv_at hl 1 rfl) ?_
      refine r_get (pc := 51) (v := .ref q2) C w i_D rfl 0 rfl 1 (by decide) fl_D_16 rfl rfl d_D_accepted_51 ?_
      refine r_put (pc := 54) (ws' := dcore cI cO cZ o h sl us pd co q2 q2 q3 (up hf rcd q) rcd sf uf T m ++ sw cI q a b sg ln r N ov lc sd ++ sw cI q2 a2 b2 sg2 ln2 r2 pl2 ov2 lc2 sd2 ++ sw cI q3 a3 b3 sg3 ln3 r3 pl3 ov3 lc3 sd3 ++ hst cI st) C w i_D t_D t_D_ok n_D rfl 0 rfl 0 (by decide) fl_D_10 rfl rfl rfl rfl (Nat.le_of_ble_eq_true rfl) rfl d_D_accepted_54 (fun H locs w => ?_)
      refine r_aload_n (pc := 57) C d_D_accepted_57 rfl (lv_at hl 1 rfl) ?_
      refine r_aload_n (pc := 58) C d_D_accepted_58 rfl (lv_at hl 0 rfl) ?_
      refine r_put (pc := 59) (ws' := dcore cI cO cZ o h sl us pd co q2 (hf rcd) q3 (up hf rcd q) rcd sf uf T m ++ sw cI q a b sg ln r N ov lc sd ++ sw cI q2 a2 b2 sg2 ln2 r2 pl2 ov2 lc2 sd2 ++ sw cI q3 a3 b3 sg3 ln3 r3 pl3 ov3 lc3 sd3 ++ hst cI st) C w i_D t_D t_D_ok n_D rfl 0 rfl 1 (by decide) fl_D_16 rfl rfl rfl rfl (Nat.le_of_ble_eq_true rfl) rfl d_D_accepted_59 (fun H locs w => ?_)
      refine r_aload_n (pc := 62) C d_D_accepted_62 rfl (lv_at hl 1 rfl) ?_
      refine r_dup (pc := 63) C d_D_accepted_63 rfl ?_
      refine r_get (pc := 64) (v := .int (iI rcd)) C w i_D rfl 0 rfl 4 (by decide) fl_D_26 rfl rfl d_D_accepted_64 ?_
      refine r_iconst (pc := 67) C d_D_accepted_67 ?_
      refine r_iadd (pc := 68) C d_D_accepted_68 ?_
      refine r_put (pc := 69) (ws' := dcore cI cO cZ o h sl us pd co q2 (hf rcd) q3 (up hf rcd q) (rcd + 1) sf uf T m ++ sw cI q a b sg ln r N ov lc sd ++ sw cI q2 a2 b2 sg2 ln2 r2 pl2 ov2 lc2 sd2 ++ sw cI q3 a3 b3 sg3 ln3 r3 pl3 ov3 lc3 sd3 ++ hst cI st) C w i_D t_D t_D_ok n_D rfl 0 rfl 4 (by decide) fl_D_26 rfl rfl rfl rfl (Nat.le_of_ble_eq_true rfl) rfl d_D_accepted_69 (fun H locs w => ?_)
      have hsp := hhf rcd (by omega) (by omega)
      have hsw := hst_swap (cI := cI) (st := st) (c := dcore cI cO cZ o h sl us pd co q2 (hf rcd) q3 (up hf rcd q) (rcd + 1) sf uf T m) (a := sw cI q3 a3 b3 sg3 ln3 r3 pl3 ov3 lc3 sd3) (d1 := (q, a, b, sg, ln, r, N, ov, lc, sd)) (d2 := (q2, a2, b2, sg2, ln2, r2, pl2, ov2, lc2, sd2)) (j := rcd) (by omega) ⟨_, _, _, _, _, _, rfl⟩ ⟨_, _, _, rfl⟩ w
      rw [hsp] at hsw
      clear w
      have w := hsw
      refine r_iload_n (pc := 72) C d_D_accepted_72 rfl (lv_at hl 2 rfl) ?_
      exact kret _ _ _ _ ans _ d_D_accepted_73 w (by have h9 := acc_end (cI := cI) (cO := cO) (cZ := cZ) (o := o) (h := h) (sl := sl) (us := us) (pd := pd) (co := co) (q := q) (a := a) (b := b) (ov := ov) (q2 := q2) (a2 := a2) (b2 := b2) (ov2 := ov2) (q3 := q3) (a3 := a3) (b3 := b3) (sg3 := sg3) (ln3 := ln3) (r3 := r3) (pl3 := pl3) (ov3 := ov3) (lc3 := lc3) (sd3 := sd3) hR hC hfi hl2 (by omega); obtain ⟨A, h1, h2, -⟩ := h9; exact Or.inr ⟨hfi.1, rfl, A, h1, h2⟩)
    · skip
      have hr6 : rcd = 6 := by omega
      refine r_aload_n (pc := 22) C d_D_accepted_22 rfl (lv_at hl 0 rfl) ?_
      refine r_callVV (pc := 23) (As := []) (rest := []) (wr := []) C w (c_D_dropOldest hT o h sl us pd co q q2 q3 hf sf rcd m uf T (sw cI q a b sg ln r N ov lc sd ++ sw cI q2 a2 b2 sg2 ln2 r2 pl2 ov2 lc2 sd2 ++ sw cI q3 a3 b3 sg3 ln3 r3 pl3 ov3 lc3 sd3) st hC.1) ml_D_174 im_D_dropOldest se_D_dropOldest ini_D cd_D_dropOldest hd_D_dropOldest rfl (by rw [hRm]; exact ⟨⟨Nat.le_of_ble_eq_true rfl, Nat.le_of_ble_eq_true rfl⟩, Nat.le_of_ble_eq_true rfl, Nat.le_of_ble_eq_true rfl⟩) hl.1 [0, 1, 2, 3, 4, 5, 6, 7, 8, 9, 10, 11, 12, 13, 14, 15, 16, 17, 18, 19, 20, 21, 22, 23, 24, 25, 26, 27, 28, 29, 30, 31, 32, 33, 34, 35, 36, 37, 38] [] ⟨rfl, rfl, by decide, by decide, by decide⟩ 0 rfl rfl rfl (Nat.le_of_ble_eq_true rfl) d_D_accepted_23 (fun u_23 H locs hz_23 w => ?_)
      obtain ⟨hf_23, rfl, hhf_23⟩ := hz_23
      have w : Wd X (dcore cI cO cZ o h sl us pd co q q2 q3 hf_23 5 sf uf T m ++ sw cI q a b sg ln r N ov lc sd ++ sw cI q2 a2 b2 sg2 ln2 r2 pl2 ov2 lc2 sd2 ++ sw cI q3 a3 b3 sg3 ln3 r3 pl3 ov3 lc3 sd3 ++ hst cI st) H locs := w
      have w : Wd X (dcore cI cO cZ o h sl us pd co q q2 q3 hf_23 5 sf uf T m ++ sw cI q a b sg ln r N ov lc sd ++ sw cI q2 a2 b2 sg2 ln2 r2 pl2 ov2 lc2 sd2 ++ sw cI q3 a3 b3 sg3 ln3 r3 pl3 ov3 lc3 sd3 ++ hst cI (rot st)) H locs := hst_rot ⟨_, _, _, _, _, _, rfl⟩ ⟨_, _, _, rfl⟩ ⟨_, _, _, rfl⟩ ⟨_, _, _, rfl⟩ w
      refine r_aload_n (pc := 26) C d_D_accepted_26 rfl (lv_at hl 0 rfl) ?_
      refine r_get (pc := 27) (v := .ref h) C w i_D rfl 0 rfl 3 (by decide) fl_D_22 rfl rfl d_D_accepted_27 ?_
      refine r_aload_n (pc := 30) C d_D_accepted_30 rfl (lv_at hl 0 rfl) ?_
      refine r_get (pc := 31) (v := .int (iI 5)) C w i_D rfl 0 rfl 4 (by decide) fl_D_26 rfl rfl d_D_accepted_31 ?_
      refine r_aald (pc := 34) (f := hf_23) (i := 5) C w 1 1 rfl hT.2.1 (by omega) d_D_accepted_34 ?_
      refine r_astore_n (pc := 35) (lv' := [(2, .ref (hf_23 5)), (0, .ref o), (1, .int (iI ans))]) C d_D_accepted_35 rfl hl (by decide) rfl (fun ls hl => ?_)
      refine r_aload_n (pc := 36) C d_D_accepted_36 rfl (lv_at hl 1 rfl) ?_
      refine r_get (pc := 37) (v := .ref h) C w i_D rfl 0 rfl 3 (by decide) fl_D_22 rfl rfl d_D_accepted_37 ?_
      refine r_aload_n (pc := 40) C d_D_accepted_40 rfl (lv_at hl 1 rfl) ?_
      refine r_get (pc := 41) (v := .int (iI 5)) C w i_D rfl 0 rfl 4 (by decide) fl_D_26 rfl rfl d_D_accepted_41 ?_
      refine r_aload_n (pc := 44) C d_D_accepted_44 rfl (lv_at hl 1 rfl) ?_
      refine r_get (pc := 45) (v := .ref q) C w i_D rfl 0 rfl 0 (by decide) fl_D_10 rfl rfl d_D_accepted_45 ?_
      obtain ⟨qk_48, vs_48, hv_48⟩ : ∃ (qk : Nat) (vs : List Value), (dcore cI cO cZ o h sl us pd co q q2 q3 hf_23 5 sf uf T m ++ sw cI q a b sg ln r N ov lc sd ++ sw cI q2 a2 b2 sg2 ln2 r2 pl2 ov2 lc2 sd2 ++ sw cI q3 a3 b3 sg3 ln3 r3 pl3 ov3 lc3 sd3 ++ hst cI (rot st))[qk]? = some (q, .inr (1, vs)) := ⟨6, _, rfl⟩
      refine r_aast (pc := 48) (f := hf_23) (i := 5) (v := q) (r := (R_S, F_S, 7)) (ws' := dcore cI cO cZ o h sl us pd co q q2 q3 (up hf_23 5 q) 5 sf uf T m ++ sw cI q a b sg ln r N ov lc sd ++ sw cI q2 a2 b2 sg2 ln2 r2 pl2 ov2 lc2 sd2 ++ sw cI q3 a3 b3 sg3 ln3 r3 pl3 ov3 lc3 sd3 ++ hst cI (rot st)) C w 1 1 qk_48 1 rfl hT.2.1 hv_48 rfl (by omega) rfl d_D_accepted_48 (fun H locs w => ?_)
      refine r_aload_n (pc := 49) C d_D_accepted_49 rfl (lv_at hl 1 rfl) ?_
      refine r_aload_n (pc := 50) C d_D_accepted_50 rfl (lv_at hl 1 rfl) ?_
      refine r_get (pc := 51) (v := .ref q2) C w i_D rfl 0 rfl 1 (by decide) fl_D_16 rfl rfl d_D_accepted_51 ?_
      refine r_put (pc := 54) (ws' := dcore cI cO cZ o h sl us pd co q2 q2 q3 (up hf_23 5 q) 5 sf uf T m ++ sw cI q a b sg ln r N ov lc sd ++ sw cI q2 a2 b2 sg2 ln2 r2 pl2 ov2 lc2 sd2 ++ sw cI q3 a3 b3 sg3 ln3 r3 pl3 ov3 lc3 sd3 ++ hst cI (rot st)) C w i_D t_D t_D_ok n_D rfl 0 rfl 0 (by decide) fl_D_10 rfl rfl rfl rfl (Nat.le_of_ble_eq_true rfl) rfl d_D_accepted_54 (fun H locs w => ?_)
      refine r_aload_n (pc := 57) C d_D_accepted_57 rfl (lv_at hl 1 rfl) ?_
      refine r_aload_n (pc := 58) C d_D_accepted_58 rfl (lv_at hl 0 rfl) ?_
      refine r_put (pc := 59) (ws' := dcore cI cO cZ o h sl us pd co q2 (hf_23 5) q3 (up hf_23 5 q) 5 sf uf T m ++ sw cI q a b sg ln r N ov lc sd ++ sw cI q2 a2 b2 sg2 ln2 r2 pl2 ov2 lc2 sd2 ++ sw cI q3 a3 b3 sg3 ln3 r3 pl3 ov3 lc3 sd3 ++ hst cI (rot st)) C w i_D t_D t_D_ok n_D rfl 0 rfl 1 (by decide) fl_D_16 rfl rfl rfl rfl (Nat.le_of_ble_eq_true rfl) rfl d_D_accepted_59 (fun H locs w => ?_)
      refine r_aload_n (pc := 62) C d_D_accepted_62 rfl (lv_at hl 1 rfl) ?_
      refine r_dup (pc := 63) C d_D_accepted_63 rfl ?_
      refine r_get (pc := 64) (v := .int (iI 5)) C w i_D rfl 0 rfl 4 (by decide) fl_D_26 rfl rfl d_D_accepted_64 ?_
      refine r_iconst (pc := 67) C d_D_accepted_67 ?_
      refine r_iadd (pc := 68) C d_D_accepted_68 ?_
      refine r_put (pc := 69) (ws' := dcore cI cO cZ o h sl us pd co q2 (hf_23 5) q3 (up hf_23 5 q) (5 + 1) sf uf T m ++ sw cI q a b sg ln r N ov lc sd ++ sw cI q2 a2 b2 sg2 ln2 r2 pl2 ov2 lc2 sd2 ++ sw cI q3 a3 b3 sg3 ln3 r3 pl3 ov3 lc3 sd3 ++ hst cI (rot st)) C w i_D t_D t_D_ok n_D rfl 0 rfl 4 (by decide) fl_D_26 rfl rfl rfl rfl (Nat.le_of_ble_eq_true rfl) rfl d_D_accepted_69 (fun H locs w => ?_)
      have hsp := hhf_23 5 (by omega) (by omega)
      have hsw := hst_swap (cI := cI) (st := (rot st)) (c := dcore cI cO cZ o h sl us pd co q2 (hf_23 5) q3 (up hf_23 5 q) (5 + 1) sf uf T m) (a := sw cI q3 a3 b3 sg3 ln3 r3 pl3 ov3 lc3 sd3) (d1 := (q, a, b, sg, ln, r, N, ov, lc, sd)) (d2 := (q2, a2, b2, sg2, ln2, r2, pl2, ov2, lc2, sd2)) (j := 5) (by omega) ⟨_, _, _, _, _, _, rfl⟩ ⟨_, _, _, rfl⟩ w
      rw [hsp] at hsw
      clear w
      have w := hsw
      refine r_iload_n (pc := 72) C d_D_accepted_72 rfl (lv_at hl 2 rfl) ?_
      exact kret _ _ _ _ ans _ d_D_accepted_73 w (by have h9 := acc_end (cI := cI) (cO := cO) (cZ := cZ) (o := o) (h := h) (sl := sl) (us := us) (pd := pd) (co := co) (q := q) (a := a) (b := b) (ov := ov) (q2 := q2) (a2 := a2) (b2 := b2) (ov2 := ov2) (q3 := q3) (a3 := a3) (b3 := b3) (sg3 := sg3) (ln3 := ln3) (r3 := r3) (pl3 := pl3) (ov3 := ov3) (lc3 := lc3) (sd3 := sd3) hR (rot_DC hC hr6 hhf_23) hfi hl2 (by omega); obtain ⟨A, h1, h2, h3⟩ := h9; subst h3; exact Or.inr ⟨hfi.1, rfl, _, h1, ⟨rfl, rfl, rfl, rfl, h2.2.2.2.2.1, rfl, rfl, rfl, rfl, Or.inr ⟨hr6, rfl, fun i i1 i2 => by rw [up_ne _ _ (by omega)], up_eq _ _ _⟩⟩⟩)
  · skip
    have hnf : ¬ fits_ n v2 := by
      rcases hov with ⟨h1, -⟩ | ⟨-, h2⟩
      · omega
      · exact h2
    refine r_bipush (pc := 10) C d_D_accepted_10 (by decide) ?_
    exact kret _ _ _ _ (-4) _ d_D_accepted_12 w (Or.inl ⟨hnf, rfl, rfl⟩)
theorem d_D_isPiece_0 : decode b_D_isPiece 0 = .ok (.iload_n 1, 1) := by decide +kernel
theorem d_D_isPiece_1 : decode b_D_isPiece 1 = .ok (.ifCond .lt 25, 3) := by decide +kernel
theorem d_D_isPiece_4 : decode b_D_isPiece 4 = .ok (.iload_n 2, 1) := by decide +kernel
theorem d_D_isPiece_5 : decode b_D_isPiece 5 = .ok (.iconst 1, 1) := by decide +kernel
theorem d_D_isPiece_6 : decode b_D_isPiece 6 = .ok (.if_icmp .lt 20, 3) := by decide +kernel
theorem d_D_isPiece_9 : decode b_D_isPiece 9 = .ok (.iload_n 2, 1) := by decide +kernel
theorem d_D_isPiece_10 : decode b_D_isPiece 10 = .ok (.aload_n 0, 1) := by decide +kernel
theorem d_D_isPiece_11 : decode b_D_isPiece 11 = .ok (.getfield 10, 3) := by decide +kernel
theorem d_D_isPiece_14 : decode b_D_isPiece 14 = .ok (.getfield 62, 3) := by decide +kernel
theorem d_D_isPiece_17 : decode b_D_isPiece 17 = .ok (.iload_n 1, 1) := by decide +kernel
theorem d_D_isPiece_18 : decode b_D_isPiece 18 = .ok (.isub, 1) := by decide +kernel
theorem d_D_isPiece_19 : decode b_D_isPiece 19 = .ok (.if_icmp .gt 7, 3) := by decide +kernel
theorem d_D_isPiece_22 : decode b_D_isPiece 22 = .ok (.iconst 1, 1) := by decide +kernel
theorem d_D_isPiece_23 : decode b_D_isPiece 23 = .ok (.goto 4, 3) := by decide +kernel
theorem d_D_isPiece_26 : decode b_D_isPiece 26 = .ok (.iconst 0, 1) := by decide +kernel
theorem d_D_isPiece_27 : decode b_D_isPiece 27 = .ok (.ireturn, 1) := by decide +kernel
set_option maxHeartbeats 4000000 in
set_option maxRecDepth 20000 in
theorem c_D_isPiece {l : Launch} {G : va_G} {tys : List (ClassId × FieldType)} {cI cO cZ : ClassId} (hT : TY tys cI cO cZ) (o h sl us pd co : Nat) (hf sf : Int → Nat) (rcd m : Int) (uf T : Int → Int) (q a b : Nat) (sg ln : Int → Int) (r N ov lc sd : Int) (q2 a2 b2 : Nat) (sg2 ln2 : Int → Int) (r2 pl2 ov2 lc2 sd2 : Int) (q3 a3 b3 : Nat) (sg3 ln3 : Int → Int) (r3 pl3 ov3 lc3 sd3 : Int) (st : Int → SD) (f k : Int) (hN : 0 ≤ N ∧ N ≤ 3000) (hfk : (-2147483648 ≤ f ∧ f < 2147483648) ∧ (-2147483648 ≤ k ∧ k < 2147483648)) : CTI l G tys y_D_isPiece b_D_isPiece 3 .boolean 0 0 [.ref o, .int (iI f), .int (iI k)] (dcore cI cO cZ o h sl us pd co q q2 q3 hf rcd sf uf T m ++ sw cI q a b sg ln r N ov lc sd ++ sw cI q2 a2 b2 sg2 ln2 r2 pl2 ov2 lc2 sd2 ++ sw cI q3 a3 b3 sg3 ln3 r3 pl3 ov3 lc3 sd3 ++ hst cI st) (fun z u => u = dcore cI cO cZ o h sl us pd co q q2 q3 hf rcd sf uf T m ++ sw cI q a b sg ln r N ov lc sd ++ sw cI q2 a2 b2 sg2 ln2 r2 pl2 ov2 lc2 sd2 ++ sw cI q3 a3 b3 sg3 ln3 r3 pl3 ov3 lc3 sd3 ++ hst cI st ∧ ((z = 1 ∧ (0 ≤ f ∧ 1 ≤ k ∧ k ≤ N - f)) ∨ (z = 0 ∧ ¬ (0 ≤ f ∧ 1 ≤ k ∧ k ≤ N - f)))) := by
  refine mkZ (by decide) (Nat.le_of_ble_eq_true rfl) ?_
  rintro X rfl rfl rfl hRm C kret H ls w hl
  have hl : lv_has ls 3 [(0, .ref o), (1, .int (iI f)), (2, .int (iI k))] := hl
  have w : Wd X (dcore cI cO cZ o h sl us pd co q q2 q3 hf rcd sf uf T m ++ sw cI q a b sg ln r N ov lc sd ++ sw cI q2 a2 b2 sg2 ln2 r2 pl2 ov2 lc2 sd2 ++ sw cI q3 a3 b3 sg3 ln3 r3 pl3 ov3 lc3 sd3 ++ hst cI st) H [] := w
  generalize ([] : List Loc) = locs at w ⊢
  refine r_iload_n (pc := 0) C d_D_isPiece_0 rfl (lv_at hl 1 rfl) ?_
  refine r_if_lt (pc := 1) (tgt := 26) C (by omega) d_D_isPiece_1 (by decide) (fun c_1 => ?_) (fun c_1 => ?_)
  · skip
    refine r_iconst (pc := 26) C d_D_isPiece_26 ?_
    exact kret _ _ _ _ 0 _ d_D_isPiece_27 w (by omega) (⟨rfl, by omega⟩)
  · skip
    refine r_iload_n (pc := 4) C d_D_isPiece_4 rfl (lv_at hl 2 rfl) ?_
    refine r_iconst (pc := 5) C d_D_isPiece_5 ?_
    refine r_icmp_lt (pc := 6) (tgt := 26) C (by omega) d_D_isPiece_6 (by decide) (fun c_6 => ?_) (fun c_6 => ?_)
    · skip
      refine r_iconst (pc := 26) C d_D_isPiece_26 ?_
      exact kret _ _ _ _ 0 _ d_D_isPiece_27 w (by omega) (⟨rfl, by omega⟩)
    · skip
      refine r_iload_n (pc := 9) C d_D_isPiece_9 rfl (lv_at hl 2 rfl) ?_
      refine r_aload_n (pc := 10) C d_D_isPiece_10 rfl (lv_at hl 0 rfl) ?_
      refine r_get (pc := 11) (v := .ref q) C w i_D rfl 0 rfl 0 (by decide) fl_D_10 rfl rfl d_D_isPiece_11 ?_
      refine r_get (pc := 14) (v := .int (iI N)) C w i_S rfl 6 rfl 3 (by decide) fl_D_62 rfl rfl d_D_isPiece_14 ?_
      refine r_iload_n (pc := 17) C d_D_isPiece_17 rfl (lv_at hl 1 rfl) ?_
      refine r_isub (pc := 18) C d_D_isPiece_18 ?_
      refine r_icmp_gt (pc := 19) (tgt := 26) C (by omega) d_D_isPiece_19 (by decide) (fun c_19 => ?_) (fun c_19 => ?_)
      · skip
        refine r_iconst (pc := 26) C d_D_isPiece_26 ?_
        exact kret _ _ _ _ 0 _ d_D_isPiece_27 w (by omega) (⟨rfl, by omega⟩)
      · skip
        refine r_iconst (pc := 22) C d_D_isPiece_22 ?_
        refine r_goto (pc := 23) (tgt := 27) C d_D_isPiece_23 (by decide) ?_
        exact kret _ _ _ _ 1 _ d_D_isPiece_27 w (by omega) (⟨rfl, by omega⟩)
end
section
/-! the edits of the class -/
theorem cw_mk {cI cO cZ : ClassId} {o h sl us pd co : Nat} {hf sf : Int → Nat} {rcd m : Int} {uf T : Int → Int} {q a b : Nat} {sg ln : Int → Int} {r N ov lc sd : Int} {q2 a2 b2 : Nat} {sg2 ln2 : Int → Int} {r2 pl2 ov2 lc2 sd2 : Int} {q3 a3 b3 : Nat} {sg3 ln3 : Int → Int} {r3 pl3 ov3 lc3 sd3 : Int} {st : Int → SD} {v : Int → Int} {hist slot : Int → Rw}
    (hR : RwOk lc sd r sg ln N v) (hC : DC hf sf st hist rcd slot uf T m) : CW cI cO cZ o ((lc, sd, r, sg, ln, N, v), hist, rcd, slot, uf, T, m) (dcore cI cO cZ o h sl us pd co q q2 q3 hf rcd sf uf T m ++ sw cI q a b sg ln r N ov lc sd ++ sw cI q2 a2 b2 sg2 ln2 r2 pl2 ov2 lc2 sd2 ++ sw cI q3 a3 b3 sg3 ln3 r3 pl3 ov3 lc3 sd3 ++ hst cI st) :=
  ⟨hR, h, sl, us, pd, co, hf, sf, q, a, b, ov, q2, a2, b2, sg2, ln2, r2, pl2, ov2, lc2, sd2, q3, a3, b3, sg3, ln3, r3, pl3, ov3, lc3, sd3, st, rfl, hC⟩
def pieceE (N f k : Int) : Int := if 0 ≤ f ∧ 1 ≤ k ∧ k ≤ N - f then 0 else -1
def errIns (N p s k : Int) : Int := if 0 ≤ p ∧ p ≤ N then (if (0 ≤ s ∧ s ≤ 10) ∧ (1 ≤ k ∧ k ≤ 3000) then 0 else -2) else -1
def errEr (N f k sd dead : Int) : Int := if 0 ≤ f ∧ 1 ≤ k ∧ k ≤ N - f then (if sd = 1 ∧ 0 < dead then -5 else 0) else -1
def errWr (N f k lo val : Int) : Int := if 0 ≤ f ∧ 1 ≤ k ∧ k ≤ N - f then (if lo ≤ val ∧ val ≤ 9 then 0 else -2) else -1
def errMv (N f k to : Int) : Int := if 0 ≤ f ∧ 1 ≤ k ∧ k ≤ N - f then (if 0 ≤ to ∧ to ≤ N - k then 0 else -2) else -1
def errSet (s x : Int) : Int := if (0 ≤ s ∧ s ≤ 1) ∧ (0 ≤ x ∧ x ≤ (if s = 0 then 2 else 1)) then 0 else -2
def ins (v : Int → Int) (p s k : Int) : Int → Int := fun x => if x < p then v x else if x < p + k then s else v (x - k)
def del (v : Int → Int) (f k : Int) : Int → Int := fun x => if x < f then v x else v (x + k)
def trn (sd : Int) (v : Int → Int) (f e : Int) : Int → Int := fun x => if f ≤ x ∧ x < e then (if sd = 1 then (if v x = 10 then 10 else tv 1 v e 0 v (e - f) (ps (lv_ v) x - ps (lv_ v) f)) else v (f + e - 1 - x)) else v x
def mvd (v : Int → Int) (f k to : Int) : Int → Int := fun x => if x < to then del v f k x else if x < to + k then v (f + x - to) else del v f k (x - k)
theorem tv0_eq (u v : Int → Int) (e n : Int) : ∀ d, 0 ≤ d → tn 0 u e n d = n + d ∧ ∀ x, x < n + d → tv 0 u e n v d x = if x < n then v x else u (e - 1 - (x - n)) := by
  refine int_ind ⟨by rw [tn_zero]; omega, fun x hx => by rw [tv_zero, if_pos (by omega)]⟩ (fun d hd ih => ?_)
  rw [tn_succ 0 u e n hd, tv_succ 0 u e n v hd, if_pos (Or.inl rfl), if_pos (Or.inl rfl), ih.1]
  refine ⟨by omega, fun x hx => ?_⟩
  by_cases q : x < n + d
  · rw [app_lt q]; exact ih.2 x q
  · rw [app_ge (by omega), if_neg (by omega)]
    congr 1
    omega
theorem tn_live (u : Int → Int) (e : Int) : ∀ d, 0 ≤ d → d ≤ e → tn 1 u e 0 d = ps (lv_ u) e - ps (lv_ u) (e - d) := by
  refine int_ind (fun _ => by rw [tn_zero, Int.sub_zero]; omega) (fun d hd ih h => ?_)
  have e1 := ps_succ (lv_ u) (k := e - (d + 1)) (by omega)
  rw [show e - (d + 1) + 1 = e - d by omega] at e1
  rw [tn_succ 1 u e 0 hd, ih (by omega), show e - 1 - d = e - (d + 1) by omega]
  have : (if (1 : Int) = 0 ∨ u (e - (d + 1)) ≠ 10 then (1 : Int) else 0) = lv_ u (e - (d + 1)) := by
    unfold lv_
    by_cases q : u (e - (d + 1)) = 10 <;> simp [q]
  omega

def Sp_set (s x : Int) (A : AS) (z : Int) (A' : AS) : Prop := match A with | ((lc, sd, r, sg, ln, N, v), hist, rcd, slot, uf, T, m) => SpE A z A' (errSet s x) (if s = 0 then x else lc) (if s = 0 then sd else x) (N) (v) (if s = 0 then lc else sd)
theorem d_D_set_0 : decode b_D_set 0 = .ok (.iload_n 1, 1) := by decide +kernel
theorem d_D_set_1 : decode b_D_set 1 = .ok (.iconst 0, 1) := by decide +kernel
theorem d_D_set_2 : decode b_D_set 2 = .ok (.iconst 1, 1) := by decide +kernel
theorem d_D_set_3 : decode b_D_set 3 = .ok (.invokestatic 44, 3) := by decide +kernel
theorem d_D_set_6 : decode b_D_set 6 = .ok (.ifCond .eq 20, 3) := by decide +kernel
theorem d_D_set_9 : decode b_D_set 9 = .ok (.iload_n 2, 1) := by decide +kernel
theorem d_D_set_10 : decode b_D_set 10 = .ok (.iconst 0, 1) := by decide +kernel
theorem d_D_set_11 : decode b_D_set 11 = .ok (.iload_n 1, 1) := by decide +kernel
theorem d_D_set_12 : decode b_D_set 12 = .ok (.ifCond .ne 7, 3) := by decide +kernel
theorem d_D_set_15 : decode b_D_set 15 = .ok (.iconst 2, 1) := by decide +kernel
theorem d_D_set_16 : decode b_D_set 16 = .ok (.goto 4, 3) := by decide +kernel
theorem d_D_set_19 : decode b_D_set 19 = .ok (.iconst 1, 1) := by decide +kernel
theorem d_D_set_20 : decode b_D_set 20 = .ok (.invokestatic 44, 3) := by decide +kernel
theorem d_D_set_23 : decode b_D_set 23 = .ok (.ifCond .ne 6, 3) := by decide +kernel
theorem d_D_set_26 : decode b_D_set 26 = .ok (.bipush (-2), 2) := by decide +kernel
theorem d_D_set_28 : decode b_D_set 28 = .ok (.ireturn, 1) := by decide +kernel
theorem d_D_set_29 : decode b_D_set 29 = .ok (.aload_n 0, 1) := by decide +kernel
theorem d_D_set_30 : decode b_D_set 30 = .ok (.getfield 16, 3) := by decide +kernel
theorem d_D_set_33 : decode b_D_set 33 = .ok (.aload_n 0, 1) := by decide +kernel
theorem d_D_set_34 : decode b_D_set 34 = .ok (.getfield 10, 3) := by decide +kernel
theorem d_D_set_37 : decode b_D_set 37 = .ok (.invokevirtual 48, 3) := by decide +kernel
theorem d_D_set_40 : decode b_D_set 40 = .ok (.iload_n 1, 1) := by decide +kernel
theorem d_D_set_41 : decode b_D_set 41 = .ok (.ifCond .ne 23, 3) := by decide +kernel
theorem d_D_set_44 : decode b_D_set 44 = .ok (.aload_n 0, 1) := by decide +kernel
theorem d_D_set_45 : decode b_D_set 45 = .ok (.getfield 16, 3) := by decide +kernel
theorem d_D_set_48 : decode b_D_set 48 = .ok (.iload_n 2, 1) := by decide +kernel
theorem d_D_set_49 : decode b_D_set 49 = .ok (.putfield 52, 3) := by decide +kernel
theorem d_D_set_52 : decode b_D_set 52 = .ok (.aload_n 0, 1) := by decide +kernel
theorem d_D_set_53 : decode b_D_set 53 = .ok (.aload_n 0, 1) := by decide +kernel
theorem d_D_set_54 : decode b_D_set 54 = .ok (.getfield 10, 3) := by decide +kernel
theorem d_D_set_57 : decode b_D_set 57 = .ok (.getfield 52, 3) := by decide +kernel
theorem d_D_set_60 : decode b_D_set 60 = .ok (.invokevirtual 55, 3) := by decide +kernel
theorem d_D_set_63 : decode b_D_set 63 = .ok (.ireturn, 1) := by decide +kernel
theorem d_D_set_64 : decode b_D_set 64 = .ok (.aload_n 0, 1) := by decide +kernel
theorem d_D_set_65 : decode b_D_set 65 = .ok (.getfield 16, 3) := by decide +kernel
theorem d_D_set_68 : decode b_D_set 68 = .ok (.iload_n 2, 1) := by decide +kernel
theorem d_D_set_69 : decode b_D_set 69 = .ok (.putfield 59, 3) := by decide +kernel
theorem d_D_set_72 : decode b_D_set 72 = .ok (.aload_n 0, 1) := by decide +kernel
theorem d_D_set_73 : decode b_D_set 73 = .ok (.aload_n 0, 1) := by decide +kernel
theorem d_D_set_74 : decode b_D_set 74 = .ok (.getfield 10, 3) := by decide +kernel
theorem d_D_set_77 : decode b_D_set 77 = .ok (.getfield 59, 3) := by decide +kernel
theorem d_D_set_80 : decode b_D_set 80 = .ok (.invokevirtual 55, 3) := by decide +kernel
theorem d_D_set_83 : decode b_D_set 83 = .ok (.ireturn, 1) := by decide +kernel
set_option maxHeartbeats 4000000 in
set_option maxRecDepth 20000 in
theorem c_D_set {l : Launch} {G : va_G} {tys : List (ClassId × FieldType)} {cI cO cZ : ClassId} (hT : TY tys cI cO cZ) (o : Nat) (A : AS) (ws : va_W) (hA : CW cI cO cZ o A ws) (s x : Int) (hrg : (-2147483648 ≤ s ∧ s < 2147483648) ∧ (-2147483648 ≤ x ∧ x < 2147483648)) : CTI l G tys y_D_set b_D_set 3 .int 4 88 [.ref o, .int (iI s), .int (iI x)] ws (fun z u => ∃ A' : AS, CW cI cO cZ o A' u ∧ Sp_set s x A z A') := by
  obtain ⟨⟨lc, sd, r, sg, ln, N, v⟩, hist, rcd, slot, uf, T, m⟩ := A
  obtain ⟨hR, h, sl, us, pd, co, hf, sf, q, a, b, ov, q2, a2, b2, sg2, ln2, r2, pl2, ov2, lc2, sd2, q3, a3, b3, sg3, ln3, r3, pl3, ov3, lc3, sd3, st, rfl, hC⟩ := hA
  have hO := hR.1
  have hr5 := hR.2.1
  have hN3 := hR.2.2.1
  have hN0 := hO.n0
  have hr0 := hO.1
  have hlcd := hR.2.2.2
  have hm80 := hC.2.2.2.2.2.1
  have hrcd6 := hC.2.2.1
  have hVc : ∀ sg' ln' : Int → Int, Ok r sg' ln' N v → RV r N 0 sg' ln' N v := fun sg' ln' h => ⟨hN0, fun _ => ⟨rfl, rfl, h⟩, fun z => absurd (show fits_ N v from ⟨hN3, by rw [h.rcE]; exact hr5⟩) z⟩
  refine mkI (by decide) (Nat.le_of_ble_eq_true rfl) ?_
  rintro X rfl rfl rfl hRm C kret H ls w hl
  have hl : lv_has ls 3 [(0, .ref o), (1, .int (iI s)), (2, .int (iI x))] := hl
  have w : Wd X (dcore cI cO cZ o h sl us pd co q q2 q3 hf rcd sf uf T m ++ sw cI q a b sg ln r N ov lc sd ++ sw cI q2 a2 b2 sg2 ln2 r2 pl2 ov2 lc2 sd2 ++ sw cI q3 a3 b3 sg3 ln3 r3 pl3 ov3 lc3 sd3 ++ hst cI st) H [] := w
  generalize ([] : List Loc) = locs at w ⊢
  refine r_iload_n (pc := 0) C d_D_set_0 rfl (lv_at hl 1 rfl) ?_
  refine r_iconst (pc := 1) C d_D_set_1 ?_
  refine r_iconst (pc := 2) C d_D_set_2 ?_
  refine r_callP (pc := 3) (As := [.int (iI s), .int (iI 0), .int (iI 1)]) (rest := []) C w (c_D_isWithin s 0 1 (by omega)) ml_D_44 st_D_isWithin ini_D cd_D_isWithin hd_D_isWithin rfl (by rw [hRm]; exact ⟨⟨Nat.le_of_ble_eq_true rfl, Nat.le_of_ble_eq_true rfl⟩, Nat.le_of_ble_eq_true rfl, Nat.le_of_ble_eq_true rfl⟩) hl.1 rfl (Nat.le_of_ble_eq_true rfl) d_D_set_3 (fun z_3 H locs hz_3 w => ?_)
  refine r_if_eq (pc := 6) (tgt := 26) C (by omega) d_D_set_6 (by decide) (fun c_6 => ?_) (fun c_6 => ?_)
  · skip
    have hb_6 : ¬ (0 ≤ s ∧ s ≤ 1) := by omega
    clear hz_3 c_6
    refine r_bipush (pc := 26) C d_D_set_26 (by decide) ?_
    exact kret _ _ _ _ (-2) _ d_D_set_28 w (⟨_, cw_mk hR hC, Or.inl ⟨by unfold errSet; (repeat' split) <;> omega, by unfold errSet; (repeat' split) <;> omega, rfl⟩⟩)
  · skip
    have hb_6 : 0 ≤ s ∧ s ≤ 1 := by omega
    clear hz_3 c_6
    refine r_iload_n (pc := 9) C d_D_set_9 rfl (lv_at hl 2 rfl) ?_
    refine r_iconst (pc := 10) C d_D_set_10 ?_
    refine r_iload_n (pc := 11) C d_D_set_11 rfl (lv_at hl 1 rfl) ?_
    refine r_if_ne (pc := 12) (tgt := 19) C (by omega) d_D_set_12 (by decide) (fun c_12 => ?_) (fun c_12 => ?_)
    · skip
      refine r_iconst (pc := 19) C d_D_set_19 ?_
      refine r_callP (pc := 20) (As := [.int (iI x), .int (iI 0), .int (iI 1)]) (rest := []) C w (c_D_isWithin x 0 1 (by omega)) ml_D_44 st_D_isWithin ini_D cd_D_isWithin hd_D_isWithin rfl (by rw [hRm]; exact ⟨⟨Nat.le_of_ble_eq_true rfl, Nat.le_of_ble_eq_true rfl⟩, Nat.le_of_ble_eq_true rfl, Nat.le_of_ble_eq_true rfl⟩) hl.1 rfl (Nat.le_of_ble_eq_true rfl) d_D_set_20 (fun z_20 H locs hz_20 w => ?_)
      refine r_if_ne (pc := 23) (tgt := 29) C (by omega) d_D_set_23 (by decide) (fun c_23 => ?_) (fun c_23 => ?_)
      · skip
        have hb_23 : 0 ≤ x ∧ x ≤ 1 := by omega
        clear hz_20 c_23
        try (have hb2 : s ≤ 1 := by omega)
        refine r_aload_n (pc := 29) C d_D_set_29 rfl (lv_at hl 0 rfl) ?_
        refine r_get (pc := 30) (v := .ref q2) C w i_D rfl 0 rfl 1 (by decide) fl_D_16 rfl rfl d_D_set_30 ?_
        refine r_aload_n (pc := 33) C d_D_set_33 rfl (lv_at hl 0 rfl) ?_
        refine r_get (pc := 34) (v := .ref q) C w i_D rfl 0 rfl 0 (by decide) fl_D_10 rfl rfl d_D_set_34 ?_
        refine r_callVV (pc := 37) (As := [.ref q]) (rest := []) (wr := (dcore cI cO cZ o h sl us pd co q q2 q3 hf rcd sf uf T m ++ sw cI q3 a3 b3 sg3 ln3 r3 pl3 ov3 lc3 sd3 ++ hst cI st)) C w (c_S_becomeCopyOf hT q2 a2 b2 sg2 ln2 r2 pl2 ov2 lc2 sd2 q a b sg ln r N ov lc sd _ _ hO (by omega) (by omega) (by omega)) ml_D_48 im_S_becomeCopyOf se_S_becomeCopyOf ini_S cd_S_becomeCopyOf hd_S_becomeCopyOf rfl (by rw [hRm]; exact ⟨⟨Nat.le_of_ble_eq_true rfl, Nat.le_of_ble_eq_true rfl⟩, Nat.le_of_ble_eq_true rfl, Nat.le_of_ble_eq_true rfl⟩) hl.1 [9, 10, 11, 6, 7, 8] [0, 1, 2, 3, 4, 5, 12, 13, 14, 15, 16, 17, 18, 19, 20, 21, 22, 23, 24, 25, 26, 27, 28, 29, 30, 31, 32, 33, 34, 35, 36, 37, 38] ⟨rfl, rfl, by decide, by decide, by decide⟩ 0 rfl rfl rfl (Nat.le_of_ble_eq_true rfl) d_D_set_37 (fun u_37 H locs hz_37 w => ?_)
        obtain ⟨sg_37, ln_37, rfl, hO_37⟩ := hz_37
        have w : Wd X (dcore cI cO cZ o h sl us pd co q q2 q3 hf rcd sf uf T m ++ sw cI q a b sg ln r N ov lc sd ++ sw cI q2 a2 b2 sg_37 ln_37 r N 0 lc sd ++ sw cI q3 a3 b3 sg3 ln3 r3 pl3 ov3 lc3 sd3 ++ hst cI st) H locs := w.sub [0, 1, 2, 3, 4, 5, 36, 37, 38, 33, 34, 35, 6, 7, 8, 9, 10, 11, 12, 13, 14, 15, 16, 17, 18, 19, 20, 21, 22, 23, 24, 25, 26, 27, 28, 29, 30, 31, 32] rfl (by decide)
        refine r_iload_n (pc := 40) C d_D_set_40 rfl (lv_at hl 1 rfl) ?_
        refine r_if_ne (pc := 41) (tgt := 64) C (by omega) d_D_set_41 (by decide) (fun c_41 => ?_) (fun c_41 => ?_)
        · skip
          have hs0 : s = 1 := by omega
          subst hs0
          refine r_aload_n (pc := 64) C d_D_set_64 rfl (lv_at hl 0 rfl) ?_
          refine r_get (pc := 65) (v := .ref q2) C w i_D rfl 0 rfl 1 (by decide) fl_D_16 rfl rfl d_D_set_65 ?_
          refine r_iload_n (pc := 68) C d_D_set_68 rfl (lv_at hl 2 rfl) ?_
          refine r_put (pc := 69) (ws' := dcore cI cO cZ o h sl us pd co q q2 q3 hf rcd sf uf T m ++ sw cI q a b sg ln r N ov lc sd ++ sw cI q2 a2 b2 sg_37 ln_37 r N 0 lc x ++ sw cI q3 a3 b3 sg3 ln3 r3 pl3 ov3 lc3 sd3 ++ hst cI st) C w i_S t_S t_S_ok n_S rfl 9 rfl 6 (by decide) fl_D_59 rfl rfl rfl rfl (Nat.le_of_ble_eq_true rfl) rfl d_D_set_69 (fun H locs w => ?_)
          refine r_aload_n (pc := 72) C d_D_set_72 rfl (lv_at hl 0 rfl) ?_
          refine r_aload_n (pc := 73) C d_D_set_73 rfl (lv_at hl 0 rfl) ?_
          refine r_get (pc := 74) (v := .ref q) C w i_D rfl 0 rfl 0 (by decide) fl_D_10 rfl rfl d_D_set_74 ?_
          refine r_get (pc := 77) (v := .int (iI sd)) C w i_S rfl 6 rfl 6 (by decide) fl_D_59 rfl rfl d_D_set_77 ?_
          refine r_callVI (pc := 80) (As := [.int (iI sd)]) (rest := []) (wr := []) C w (c_D_accepted hT o h sl us pd co hf sf rcd m uf T q a b sg ln r N ov lc sd q2 a2 b2 sg_37 ln_37 r N 0 lc x q3 a3 b3 sg3 ln3 r3 pl3 ov3 lc3 sd3 st sd _ v _ hist slot hR hC (hVc _ _ hO_37) (by omega)) ml_D_55 im_D_accepted se_D_accepted ini_D cd_D_accepted hd_D_accepted rfl (by rw [hRm]; exact ⟨⟨Nat.le_of_ble_eq_true rfl, Nat.le_of_ble_eq_true rfl⟩, Nat.le_of_ble_eq_true rfl, Nat.le_of_ble_eq_true rfl⟩) hl.1 [0, 1, 2, 3, 4, 5, 6, 7, 8, 9, 10, 11, 12, 13, 14, 15, 16, 17, 18, 19, 20, 21, 22, 23, 24, 25, 26, 27, 28, 29, 30, 31, 32, 33, 34, 35, 36, 37, 38] [] ⟨rfl, rfl, by decide, by decide, by decide⟩ 0 rfl rfl rfl (Nat.le_of_ble_eq_true rfl) d_D_set_80 (fun z_80 u_80 H locs hz_80 w => ?_)
          exact kret _ _ _ _ z_80 _ d_D_set_83 w (by rcases hz_80 with ⟨f1, f2, rfl⟩ | ⟨f1, f2, A, f3, f4⟩; exact ⟨_, cw_mk hR hC, Or.inr (Or.inl ⟨by unfold errSet; (repeat' split) <;> omega, f1, f2, rfl⟩)⟩; exact ⟨A, f3, Or.inr (Or.inr ⟨by unfold errSet; (repeat' split) <;> omega, f1, f2, f4⟩)⟩)
        · skip
          have hs0 : s = 0 := by omega
          subst hs0
          refine r_aload_n (pc := 44) C d_D_set_44 rfl (lv_at hl 0 rfl) ?_
          refine r_get (pc := 45) (v := .ref q2) C w i_D rfl 0 rfl 1 (by decide) fl_D_16 rfl rfl d_D_set_45 ?_
          refine r_iload_n (pc := 48) C d_D_set_48 rfl (lv_at hl 2 rfl) ?_
          refine r_put (pc := 49) (ws' := dcore cI cO cZ o h sl us pd co q q2 q3 hf rcd sf uf T m ++ sw cI q a b sg ln r N ov lc sd ++ sw cI q2 a2 b2 sg_37 ln_37 r N 0 x sd ++ sw cI q3 a3 b3 sg3 ln3 r3 pl3 ov3 lc3 sd3 ++ hst cI st) C w i_S t_S t_S_ok n_S rfl 9 rfl 5 (by decide) fl_D_52 rfl rfl rfl rfl (Nat.le_of_ble_eq_true rfl) rfl d_D_set_49 (fun H locs w => ?_)
          refine r_aload_n (pc := 52) C d_D_set_52 rfl (lv_at hl 0 rfl) ?_
          refine r_aload_n (pc := 53) C d_D_set_53 rfl (lv_at hl 0 rfl) ?_
          refine r_get (pc := 54) (v := .ref q) C w i_D rfl 0 rfl 0 (by decide) fl_D_10 rfl rfl d_D_set_54 ?_
          refine r_get (pc := 57) (v := .int (iI lc)) C w i_S rfl 6 rfl 5 (by decide) fl_D_52 rfl rfl d_D_set_57 ?_
          refine r_callVI (pc := 60) (As := [.int (iI lc)]) (rest := []) (wr := []) C w (c_D_accepted hT o h sl us pd co hf sf rcd m uf T q a b sg ln r N ov lc sd q2 a2 b2 sg_37 ln_37 r N 0 x sd q3 a3 b3 sg3 ln3 r3 pl3 ov3 lc3 sd3 st lc _ v _ hist slot hR hC (hVc _ _ hO_37) (by omega)) ml_D_55 im_D_accepted se_D_accepted ini_D cd_D_accepted hd_D_accepted rfl (by rw [hRm]; exact ⟨⟨Nat.le_of_ble_eq_true rfl, Nat.le_of_ble_eq_true rfl⟩, Nat.le_of_ble_eq_true rfl, Nat.le_of_ble_eq_true rfl⟩) hl.1 [0, 1, 2, 3, 4, 5, 6, 7, 8, 9, 10, 11, 12, 13, 14, 15, 16, 17, 18, 19, 20, 21, 22, 23, 24, 25, 26, 27, 28, 29, 30, 31, 32, 33, 34, 35, 36, 37, 38] [] ⟨rfl, rfl, by decide, by decide, by decide⟩ 0 rfl rfl rfl (Nat.le_of_ble_eq_true rfl) d_D_set_60 (fun z_60 u_60 H locs hz_60 w => ?_)
          exact kret _ _ _ _ z_60 _ d_D_set_63 w (by rcases hz_60 with ⟨f1, f2, rfl⟩ | ⟨f1, f2, A, f3, f4⟩; exact ⟨_, cw_mk hR hC, Or.inr (Or.inl ⟨by unfold errSet; (repeat' split) <;> omega, f1, f2, rfl⟩)⟩; exact ⟨A, f3, Or.inr (Or.inr ⟨by unfold errSet; (repeat' split) <;> omega, f1, f2, f4⟩)⟩)
      · skip
        have hb_23 : ¬ (0 ≤ x ∧ x ≤ 1) := by omega
        clear hz_20 c_23
        refine r_bipush (pc := 26) C d_D_set_26 (by decide) ?_
        exact kret _ _ _ _ (-2) _ d_D_set_28 w (⟨_, cw_mk hR hC, Or.inl ⟨by unfold errSet; (repeat' split) <;> omega, by unfold errSet; (repeat' split) <;> omega, rfl⟩⟩)
    · skip
      refine r_iconst (pc := 15) C d_D_set_15 ?_
      refine r_goto (pc := 16) (tgt := 20) C d_D_set_16 (by decide) ?_
      refine r_callP (pc := 20) (As := [.int (iI x), .int (iI 0), .int (iI 2)]) (rest := []) C w (c_D_isWithin x 0 2 (by omega)) ml_D_44 st_D_isWithin ini_D cd_D_isWithin hd_D_isWithin rfl (by rw [hRm]; exact ⟨⟨Nat.le_of_ble_eq_true rfl, Nat.le_of_ble_eq_true rfl⟩, Nat.le_of_ble_eq_true rfl, Nat.le_of_ble_eq_true rfl⟩) hl.1 rfl (Nat.le_of_ble_eq_true rfl) d_D_set_20 (fun z_20 H locs hz_20 w => ?_)
      refine r_if_ne (pc := 23) (tgt := 29) C (by omega) d_D_set_23 (by decide) (fun c_23 => ?_) (fun c_23 => ?_)
      · skip
        have hb_23 : 0 ≤ x ∧ x ≤ 2 := by omega
        clear hz_20 c_23
        try (have hb2 : s ≤ 1 := by omega)
        refine r_aload_n (pc := 29) C d_D_set_29 rfl (lv_at hl 0 rfl) ?_
        refine r_get (pc := 30) (v := .ref q2) C w i_D rfl 0 rfl 1 (by decide) fl_D_16 rfl rfl d_D_set_30 ?_
        refine r_aload_n (pc := 33) C d_D_set_33 rfl (lv_at hl 0 rfl) ?_
        refine r_get (pc := 34) (v := .ref q) C w i_D rfl 0 rfl 0 (by decide) fl_D_10 rfl rfl d_D_set_34 ?_
        refine r_callVV (pc := 37) (As := [.ref q]) (rest := []) (wr := (dcore cI cO cZ o h sl us pd co q q2 q3 hf rcd sf uf T m ++ sw cI q3 a3 b3 sg3 ln3 r3 pl3 ov3 lc3 sd3 ++ hst cI st)) C w (c_S_becomeCopyOf hT q2 a2 b2 sg2 ln2 r2 pl2 ov2 lc2 sd2 q a b sg ln r N ov lc sd _ _ hO (by omega) (by omega) (by omega)) ml_D_48 im_S_becomeCopyOf se_S_becomeCopyOf ini_S cd_S_becomeCopyOf hd_S_becomeCopyOf rfl (by rw [hRm]; exact ⟨⟨Nat.le_of_ble_eq_true rfl, Nat.le_of_ble_eq_true rfl⟩, Nat.le_of_ble_eq_true rfl, Nat.le_of_ble_eq_true rfl⟩) hl.1 [9, 10, 11, 6, 7, 8] [0, 1, 2, 3, 4, 5, 12, 13, 14, 15, 16, 17, 18, 19, 20, 21, 22, 23, 24, 25, 26, 27, 28, 29, 30, 31, 32, 33, 34, 35, 36, 37, 38] ⟨rfl, rfl, by decide, by decide, by decide⟩ 0 rfl rfl rfl (Nat.le_of_ble_eq_true rfl) d_D_set_37 (fun u_37 H locs hz_37 w => ?_)
        obtain ⟨sg_37, ln_37, rfl, hO_37⟩ := hz_37
        have w : Wd X (dcore cI cO cZ o h sl us pd co q q2 q3 hf rcd sf uf T m ++ sw cI q a b sg ln r N ov lc sd ++ sw cI q2 a2 b2 sg_37 ln_37 r N 0 lc sd ++ sw cI q3 a3 b3 sg3 ln3 r3 pl3 ov3 lc3 sd3 ++ hst cI st) H locs := w.sub [0, 1, 2, 3, 4, 5, 36, 37, 38, 33, 34, 35, 6, 7, 8, 9, 10, 11, 12, 13, 14, 15, 16, 17, 18, 19, 20, 21, 22, 23, 24, 25, 26, 27, 28, 29, 30, 31, 32] rfl (by decide)
        refine r_iload_n (pc := 40) C d_D_set_40 rfl (lv_at hl 1 rfl) ?_
        refine r_if_ne (pc := 41) (tgt := 64) C (by omega) d_D_set_41 (by decide) (fun c_41 => ?_) (fun c_41 => ?_)
        · skip
          have hs0 : s = 1 := by omega
          subst hs0
          refine r_aload_n (pc := 64) C d_D_set_64 rfl (lv_at hl 0 rfl) ?_
          refine r_get (pc := 65) (v := .ref q2) C w i_D rfl 0 rfl 1 (by decide) fl_D_16 rfl rfl d_D_set_65 ?_
          refine r_iload_n (pc := 68) C d_D_set_68 rfl (lv_at hl 2 rfl) ?_
          refine r_put (pc := 69) (ws' := dcore cI cO cZ o h sl us pd co q q2 q3 hf rcd sf uf T m ++ sw cI q a b sg ln r N ov lc sd ++ sw cI q2 a2 b2 sg_37 ln_37 r N 0 lc x ++ sw cI q3 a3 b3 sg3 ln3 r3 pl3 ov3 lc3 sd3 ++ hst cI st) C w i_S t_S t_S_ok n_S rfl 9 rfl 6 (by decide) fl_D_59 rfl rfl rfl rfl (Nat.le_of_ble_eq_true rfl) rfl d_D_set_69 (fun H locs w => ?_)
          refine r_aload_n (pc := 72) C d_D_set_72 rfl (lv_at hl 0 rfl) ?_
          refine r_aload_n (pc := 73) C d_D_set_73 rfl (lv_at hl 0 rfl) ?_
          refine r_get (pc := 74) (v := .ref q) C w i_D rfl 0 rfl 0 (by decide) fl_D_10 rfl rfl d_D_set_74 ?_
          refine r_get (pc := 77) (v := .int (iI sd)) C w i_S rfl 6 rfl 6 (by decide) fl_D_59 rfl rfl d_D_set_77 ?_
          refine r_callVI (pc := 80) (As := [.int (iI sd)]) (rest := []) (wr := []) C w (c_D_accepted hT o h sl us pd co hf sf rcd m uf T q a b sg ln r N ov lc sd q2 a2 b2 sg_37 ln_37 r N 0 lc x q3 a3 b3 sg3 ln3 r3 pl3 ov3 lc3 sd3 st sd _ v _ hist slot hR hC (hVc _ _ hO_37) (by omega)) ml_D_55 im_D_accepted se_D_accepted ini_D cd_D_accepted hd_D_accepted rfl (by rw [hRm]; exact ⟨⟨Nat.le_of_ble_eq_true rfl, Nat.le_of_ble_eq_true rfl⟩, Nat.le_of_ble_eq_true rfl, Nat.le_of_ble_eq_true rfl⟩) hl.1 [0, 1, 2, 3, 4, 5, 6, 7, 8, 9, 10, 11, 12, 13, 14, 15, 16, 17, 18, 19, 20, 21, 22, 23, 24, 25, 26, 27, 28, 29, 30, 31, 32, 33, 34, 35, 36, 37, 38] [] ⟨rfl, rfl, by decide, by decide, by decide⟩ 0 rfl rfl rfl (Nat.le_of_ble_eq_true rfl) d_D_set_80 (fun z_80 u_80 H locs hz_80 w => ?_)
          exact kret _ _ _ _ z_80 _ d_D_set_83 w (by rcases hz_80 with ⟨f1, f2, rfl⟩ | ⟨f1, f2, A, f3, f4⟩; exact ⟨_, cw_mk hR hC, Or.inr (Or.inl ⟨by unfold errSet; (repeat' split) <;> omega, f1, f2, rfl⟩)⟩; exact ⟨A, f3, Or.inr (Or.inr ⟨by unfold errSet; (repeat' split) <;> omega, f1, f2, f4⟩)⟩)
        · skip
          have hs0 : s = 0 := by omega
          subst hs0
          refine r_aload_n (pc := 44) C d_D_set_44 rfl (lv_at hl 0 rfl) ?_
          refine r_get (pc := 45) (v := .ref q2) C w i_D rfl 0 rfl 1 (by decide) fl_D_16 rfl rfl d_D_set_45 ?_
          refine r_iload_n (pc := 48) C d_D_set_48 rfl (lv_at hl 2 rfl) ?_
          refine r_put (pc := 49) (ws' := dcore cI cO cZ o h sl us pd co q q2 q3 hf rcd sf uf T m ++ sw cI q a b sg ln r N ov lc sd ++ sw cI q2 a2 b2 sg_37 ln_37 r N 0 x sd ++ sw cI q3 a3 b3 sg3 ln3 r3 pl3 ov3 lc3 sd3 ++ hst cI st) C w i_S t_S t_S_ok n_S rfl 9 rfl 5 (by decide) fl_D_52 rfl rfl rfl rfl (Nat.le_of_ble_eq_true rfl) rfl d_D_set_49 (fun H locs w => ?_)
          refine r_aload_n (pc := 52) C d_D_set_52 rfl (lv_at hl 0 rfl) ?_
          refine r_aload_n (pc := 53) C d_D_set_53 rfl (lv_at hl 0 rfl) ?_
          refine r_get (pc := 54) (v := .ref q) C w i_D rfl 0 rfl 0 (by decide) fl_D_10 rfl rfl d_D_set_54 ?_
          refine r_get (pc := 57) (v := .int (iI lc)) C w i_S rfl 6 rfl 5 (by decide) fl_D_52 rfl rfl d_D_set_57 ?_
          refine r_callVI (pc := 60) (As := [.int (iI lc)]) (rest := []) (wr := []) C w (c_D_accepted hT o h sl us pd co hf sf rcd m uf T q a b sg ln r N ov lc sd q2 a2 b2 sg_37 ln_37 r N 0 x sd q3 a3 b3 sg3 ln3 r3 pl3 ov3 lc3 sd3 st lc _ v _ hist slot hR hC (hVc _ _ hO_37) (by omega)) ml_D_55 im_D_accepted se_D_accepted ini_D cd_D_accepted hd_D_accepted rfl (by rw [hRm]; exact ⟨⟨Nat.le_of_ble_eq_true rfl, Nat.le_of_ble_eq_true rfl⟩, Nat.le_of_ble_eq_true rfl, Nat.le_of_ble_eq_true rfl⟩) hl.1 [0, 1, 2, 3, 4, 5, 6, 7, 8, 9, 10, 11, 12, 13, 14, 15, 16, 17, 18, 19, 20, 21, 22, 23, 24, 25, 26, 27, 28, 29, 30, 31, 32, 33, 34, 35, 36, 37, 38] [] ⟨rfl, rfl, by decide, by decide, by decide⟩ 0 rfl rfl rfl (Nat.le_of_ble_eq_true rfl) d_D_set_60 (fun z_60 u_60 H locs hz_60 w => ?_)
          exact kret _ _ _ _ z_60 _ d_D_set_63 w (by rcases hz_60 with ⟨f1, f2, rfl⟩ | ⟨f1, f2, A, f3, f4⟩; exact ⟨_, cw_mk hR hC, Or.inr (Or.inl ⟨by unfold errSet; (repeat' split) <;> omega, f1, f2, rfl⟩)⟩; exact ⟨A, f3, Or.inr (Or.inr ⟨by unfold errSet; (repeat' split) <;> omega, f1, f2, f4⟩)⟩)
      · skip
        have hb_23 : ¬ (0 ≤ x ∧ x ≤ 2) := by omega
        clear hz_20 c_23
        refine r_bipush (pc := 26) C d_D_set_26 (by decide) ?_
        exact kret _ _ _ _ (-2) _ d_D_set_28 w (⟨_, cw_mk hR hC, Or.inl ⟨by unfold errSet; (repeat' split) <;> omega, by unfold errSet; (repeat' split) <;> omega, rfl⟩⟩)
def Sp_insert (p s k : Int) (A : AS) (z : Int) (A' : AS) : Prop := match A with | ((lc, sd, r, sg, ln, N, v), hist, rcd, slot, uf, T, m) => SpE A z A' (errIns N p s k) (lc) (sd) (N + k) (ins v p s k) (N + k)
theorem d_D_insert_0 : decode b_D_insert 0 = .ok (.iload_n 1, 1) := by decide +kernel
theorem d_D_insert_1 : decode b_D_insert 1 = .ok (.iconst 0, 1) := by decide +kernel
theorem d_D_insert_2 : decode b_D_insert 2 = .ok (.aload_n 0, 1) := by decide +kernel
theorem d_D_insert_3 : decode b_D_insert 3 = .ok (.getfield 10, 3) := by decide +kernel
theorem d_D_insert_6 : decode b_D_insert 6 = .ok (.getfield 62, 3) := by decide +kernel
theorem d_D_insert_9 : decode b_D_insert 9 = .ok (.invokestatic 44, 3) := by decide +kernel
theorem d_D_insert_12 : decode b_D_insert 12 = .ok (.ifCond .ne 5, 3) := by decide +kernel
theorem d_D_insert_15 : decode b_D_insert 15 = .ok (.iconst (-1), 1) := by decide +kernel
theorem d_D_insert_16 : decode b_D_insert 16 = .ok (.ireturn, 1) := by decide +kernel
theorem d_D_insert_17 : decode b_D_insert 17 = .ok (.iload_n 2, 1) := by decide +kernel
theorem d_D_insert_18 : decode b_D_insert 18 = .ok (.iconst 0, 1) := by decide +kernel
theorem d_D_insert_19 : decode b_D_insert 19 = .ok (.bipush 10, 2) := by decide +kernel
theorem d_D_insert_21 : decode b_D_insert 21 = .ok (.invokestatic 44, 3) := by decide +kernel
theorem d_D_insert_24 : decode b_D_insert 24 = .ok (.ifCond .eq 14, 3) := by decide +kernel
theorem d_D_insert_27 : decode b_D_insert 27 = .ok (.iload_n 3, 1) := by decide +kernel
theorem d_D_insert_28 : decode b_D_insert 28 = .ok (.iconst 1, 1) := by decide +kernel
theorem d_D_insert_29 : decode b_D_insert 29 = .ok (.sipush 3000, 3) := by decide +kernel
theorem d_D_insert_32 : decode b_D_insert 32 = .ok (.invokestatic 44, 3) := by decide +kernel
theorem d_D_insert_35 : decode b_D_insert 35 = .ok (.ifCond .ne 6, 3) := by decide +kernel
theorem d_D_insert_38 : decode b_D_insert 38 = .ok (.bipush (-2), 2) := by decide +kernel
theorem d_D_insert_40 : decode b_D_insert 40 = .ok (.ireturn, 1) := by decide +kernel
theorem d_D_insert_41 : decode b_D_insert 41 = .ok (.aload_n 0, 1) := by decide +kernel
theorem d_D_insert_42 : decode b_D_insert 42 = .ok (.getfield 16, 3) := by decide +kernel
theorem d_D_insert_45 : decode b_D_insert 45 = .ok (.aload_n 0, 1) := by decide +kernel
theorem d_D_insert_46 : decode b_D_insert 46 = .ok (.getfield 10, 3) := by decide +kernel
theorem d_D_insert_49 : decode b_D_insert 49 = .ok (.invokevirtual 65, 3) := by decide +kernel
theorem d_D_insert_52 : decode b_D_insert 52 = .ok (.aload_n 0, 1) := by decide +kernel
theorem d_D_insert_53 : decode b_D_insert 53 = .ok (.getfield 16, 3) := by decide +kernel
theorem d_D_insert_56 : decode b_D_insert 56 = .ok (.aload_n 0, 1) := by decide +kernel
theorem d_D_insert_57 : decode b_D_insert 57 = .ok (.getfield 10, 3) := by decide +kernel
theorem d_D_insert_60 : decode b_D_insert 60 = .ok (.iconst 0, 1) := by decide +kernel
theorem d_D_insert_61 : decode b_D_insert 61 = .ok (.iload_n 1, 1) := by decide +kernel
theorem d_D_insert_62 : decode b_D_insert 62 = .ok (.invokevirtual 68, 3) := by decide +kernel
theorem d_D_insert_65 : decode b_D_insert 65 = .ok (.aload_n 0, 1) := by decide +kernel
theorem d_D_insert_66 : decode b_D_insert 66 = .ok (.getfield 16, 3) := by decide +kernel
theorem d_D_insert_69 : decode b_D_insert 69 = .ok (.iload_n 2, 1) := by decide +kernel
theorem d_D_insert_70 : decode b_D_insert 70 = .ok (.iload_n 3, 1) := by decide +kernel
theorem d_D_insert_71 : decode b_D_insert 71 = .ok (.invokevirtual 72, 3) := by decide +kernel
theorem d_D_insert_74 : decode b_D_insert 74 = .ok (.aload_n 0, 1) := by decide +kernel
theorem d_D_insert_75 : decode b_D_insert 75 = .ok (.getfield 16, 3) := by decide +kernel
theorem d_D_insert_78 : decode b_D_insert 78 = .ok (.aload_n 0, 1) := by decide +kernel
theorem d_D_insert_79 : decode b_D_insert 79 = .ok (.getfield 10, 3) := by decide +kernel
theorem d_D_insert_82 : decode b_D_insert 82 = .ok (.iload_n 1, 1) := by decide +kernel
theorem d_D_insert_83 : decode b_D_insert 83 = .ok (.aload_n 0, 1) := by decide +kernel
theorem d_D_insert_84 : decode b_D_insert 84 = .ok (.getfield 10, 3) := by decide +kernel
theorem d_D_insert_87 : decode b_D_insert 87 = .ok (.getfield 62, 3) := by decide +kernel
theorem d_D_insert_90 : decode b_D_insert 90 = .ok (.invokevirtual 68, 3) := by decide +kernel
theorem d_D_insert_93 : decode b_D_insert 93 = .ok (.aload_n 0, 1) := by decide +kernel
theorem d_D_insert_94 : decode b_D_insert 94 = .ok (.aload_n 0, 1) := by decide +kernel
theorem d_D_insert_95 : decode b_D_insert 95 = .ok (.getfield 16, 3) := by decide +kernel
theorem d_D_insert_98 : decode b_D_insert 98 = .ok (.getfield 62, 3) := by decide +kernel
theorem d_D_insert_101 : decode b_D_insert 101 = .ok (.invokevirtual 55, 3) := by decide +kernel
theorem d_D_insert_104 : decode b_D_insert 104 = .ok (.ireturn, 1) := by decide +kernel
set_option maxHeartbeats 4000000 in
set_option maxRecDepth 20000 in
theorem c_D_insert {l : Launch} {G : va_G} {tys : List (ClassId × FieldType)} {cI cO cZ : ClassId} (hT : TY tys cI cO cZ) (o : Nat) (A : AS) (ws : va_W) (hA : CW cI cO cZ o A ws) (p s k : Int) (hrg : (-2147483648 ≤ p ∧ p < 2147483648) ∧ (-2147483648 ≤ s ∧ s < 2147483648) ∧ (-2147483648 ≤ k ∧ k < 2147483648)) : CTI l G tys y_D_insert b_D_insert 4 .int 3 67 [.ref o, .int (iI p), .int (iI s), .int (iI k)] ws (fun z u => ∃ A' : AS, CW cI cO cZ o A' u ∧ Sp_insert p s k A z A') := by
  obtain ⟨⟨lc, sd, r, sg, ln, N, v⟩, hist, rcd, slot, uf, T, m⟩ := A
  obtain ⟨hR, h, sl, us, pd, co, hf, sf, q, a, b, ov, q2, a2, b2, sg2, ln2, r2, pl2, ov2, lc2, sd2, q3, a3, b3, sg3, ln3, r3, pl3, ov3, lc3, sd3, st, rfl, hC⟩ := hA
  have hO := hR.1
  have hr5 := hR.2.1
  have hN3 := hR.2.2.1
  have hN0 := hO.n0
  have hr0 := hO.1
  have hlcd := hR.2.2.2
  have hm80 := hC.2.2.2.2.2.1
  have hrcd6 := hC.2.2.1
  refine mkI (by decide) (Nat.le_of_ble_eq_true rfl) ?_
  rintro X rfl rfl rfl hRm C kret H ls w hl
  have hl : lv_has ls 4 [(0, .ref o), (1, .int (iI p)), (2, .int (iI s)), (3, .int (iI k))] := hl
  have w : Wd X (dcore cI cO cZ o h sl us pd co q q2 q3 hf rcd sf uf T m ++ sw cI q a b sg ln r N ov lc sd ++ sw cI q2 a2 b2 sg2 ln2 r2 pl2 ov2 lc2 sd2 ++ sw cI q3 a3 b3 sg3 ln3 r3 pl3 ov3 lc3 sd3 ++ hst cI st) H [] := w
  generalize ([] : List Loc) = locs at w ⊢
  refine r_iload_n (pc := 0) C d_D_insert_0 rfl (lv_at hl 1 rfl) ?_
  refine r_iconst (pc := 1) C d_D_insert_1 ?_
  refine r_aload_n (pc := 2) C d_D_insert_2 rfl (lv_at hl 0 rfl) ?_
  refine r_get (pc := 3) (v := .ref q) C w i_D rfl 0 rfl 0 (by decide) fl_D_10 rfl rfl d_D_insert_3 ?_
  refine r_get (pc := 6) (v := .int (iI N)) C w i_S rfl 6 rfl 3 (by decide) fl_D_62 rfl rfl d_D_insert_6 ?_
  refine r_callP (pc := 9) (As := [.int (iI p), .int (iI 0), .int (iI N)]) (rest := []) C w (c_D_isWithin p 0 N (by omega)) ml_D_44 st_D_isWithin ini_D cd_D_isWithin hd_D_isWithin rfl (by rw [hRm]; exact ⟨⟨Nat.le_of_ble_eq_true rfl, Nat.le_of_ble_eq_true rfl⟩, Nat.le_of_ble_eq_true rfl, Nat.le_of_ble_eq_true rfl⟩) hl.1 rfl (Nat.le_of_ble_eq_true rfl) d_D_insert_9 (fun z_9 H locs hz_9 w => ?_)
  refine r_if_ne (pc := 12) (tgt := 17) C (by omega) d_D_insert_12 (by decide) (fun c_12 => ?_) (fun c_12 => ?_)
  · skip
    have hb_12 : 0 ≤ p ∧ p ≤ N := by omega
    clear hz_9 c_12
    refine r_iload_n (pc := 17) C d_D_insert_17 rfl (lv_at hl 2 rfl) ?_
    refine r_iconst (pc := 18) C d_D_insert_18 ?_
    refine r_bipush (pc := 19) C d_D_insert_19 (by decide) ?_
    refine r_callP (pc := 21) (As := [.int (iI s), .int (iI 0), .int (iI 10)]) (rest := []) C w (c_D_isWithin s 0 10 (by omega)) ml_D_44 st_D_isWithin ini_D cd_D_isWithin hd_D_isWithin rfl (by rw [hRm]; exact ⟨⟨Nat.le_of_ble_eq_true rfl, Nat.le_of_ble_eq_true rfl⟩, Nat.le_of_ble_eq_true rfl, Nat.le_of_ble_eq_true rfl⟩) hl.1 rfl (Nat.le_of_ble_eq_true rfl) d_D_insert_21 (fun z_21 H locs hz_21 w => ?_)
    refine r_if_eq (pc := 24) (tgt := 38) C (by omega) d_D_insert_24 (by decide) (fun c_24 => ?_) (fun c_24 => ?_)
    · skip
      have hb_24 : ¬ (0 ≤ s ∧ s ≤ 10) := by omega
      clear hz_21 c_24
      refine r_bipush (pc := 38) C d_D_insert_38 (by decide) ?_
      exact kret _ _ _ _ (-2) _ d_D_insert_40 w (⟨_, cw_mk hR hC, Or.inl ⟨by unfold errIns; (repeat' split) <;> omega, by unfold errIns; (repeat' split) <;> omega, rfl⟩⟩)
    · skip
      have hb_24 : 0 ≤ s ∧ s ≤ 10 := by omega
      clear hz_21 c_24
      refine r_iload_n (pc := 27) C d_D_insert_27 rfl (lv_at hl 3 rfl) ?_
      refine r_iconst (pc := 28) C d_D_insert_28 ?_
      refine r_sipush (pc := 29) C d_D_insert_29 (by decide) ?_
      refine r_callP (pc := 32) (As := [.int (iI k), .int (iI 1), .int (iI 3000)]) (rest := []) C w (c_D_isWithin k 1 3000 (by omega)) ml_D_44 st_D_isWithin ini_D cd_D_isWithin hd_D_isWithin rfl (by rw [hRm]; exact ⟨⟨Nat.le_of_ble_eq_true rfl, Nat.le_of_ble_eq_true rfl⟩, Nat.le_of_ble_eq_true rfl, Nat.le_of_ble_eq_true rfl⟩) hl.1 rfl (Nat.le_of_ble_eq_true rfl) d_D_insert_32 (fun z_32 H locs hz_32 w => ?_)
      refine r_if_ne (pc := 35) (tgt := 41) C (by omega) d_D_insert_35 (by decide) (fun c_35 => ?_) (fun c_35 => ?_)
      · skip
        have hb_35 : 1 ≤ k ∧ k ≤ 3000 := by omega
        clear hz_32 c_35
        refine r_aload_n (pc := 41) C d_D_insert_41 rfl (lv_at hl 0 rfl) ?_
        refine r_get (pc := 42) (v := .ref q2) C w i_D rfl 0 rfl 1 (by decide) fl_D_16 rfl rfl d_D_insert_42 ?_
        refine r_aload_n (pc := 45) C d_D_insert_45 rfl (lv_at hl 0 rfl) ?_
        refine r_get (pc := 46) (v := .ref q) C w i_D rfl 0 rfl 0 (by decide) fl_D_10 rfl rfl d_D_insert_46 ?_
        refine r_callVV (pc := 49) (As := [.ref q]) (rest := []) (wr := (dcore cI cO cZ o h sl us pd co q q2 q3 hf rcd sf uf T m ++ sw cI q3 a3 b3 sg3 ln3 r3 pl3 ov3 lc3 sd3 ++ hst cI st)) C w (c_S_startLike hT q2 a2 b2 sg2 ln2 r2 pl2 ov2 lc2 sd2 q a b sg ln r N ov lc sd) ml_D_65 im_S_startLike se_S_startLike ini_S cd_S_startLike hd_S_startLike rfl (by rw [hRm]; exact ⟨⟨Nat.le_of_ble_eq_true rfl, Nat.le_of_ble_eq_true rfl⟩, Nat.le_of_ble_eq_true rfl, Nat.le_of_ble_eq_true rfl⟩) hl.1 [9, 10, 11, 6, 7, 8] [0, 1, 2, 3, 4, 5, 12, 13, 14, 15, 16, 17, 18, 19, 20, 21, 22, 23, 24, 25, 26, 27, 28, 29, 30, 31, 32, 33, 34, 35, 36, 37, 38] ⟨rfl, rfl, by decide, by decide, by decide⟩ 0 rfl rfl rfl (Nat.le_of_ble_eq_true rfl) d_D_insert_49 (fun u_49 H locs hz_49 w => ?_)
        subst hz_49
        have w : Wd X (dcore cI cO cZ o h sl us pd co q q2 q3 hf rcd sf uf T m ++ sw cI q a b sg ln r N ov lc sd ++ sw cI q2 a2 b2 sg2 ln2 0 0 0 lc sd ++ sw cI q3 a3 b3 sg3 ln3 r3 pl3 ov3 lc3 sd3 ++ hst cI st) H locs := w.sub [0, 1, 2, 3, 4, 5, 36, 37, 38, 33, 34, 35, 6, 7, 8, 9, 10, 11, 12, 13, 14, 15, 16, 17, 18, 19, 20, 21, 22, 23, 24, 25, 26, 27, 28, 29, 30, 31, 32] rfl (by decide)
        refine r_aload_n (pc := 52) C d_D_insert_52 rfl (lv_at hl 0 rfl) ?_
        refine r_get (pc := 53) (v := .ref q2) C w i_D rfl 0 rfl 1 (by decide) fl_D_16 rfl rfl d_D_insert_53 ?_
        refine r_aload_n (pc := 56) C d_D_insert_56 rfl (lv_at hl 0 rfl) ?_
        refine r_get (pc := 57) (v := .ref q) C w i_D rfl 0 rfl 0 (by decide) fl_D_10 rfl rfl d_D_insert_57 ?_
        refine r_iconst (pc := 60) C d_D_insert_60 ?_
        refine r_iload_n (pc := 61) C d_D_insert_61 rfl (lv_at hl 1 rfl) ?_
        refine r_callVV (pc := 62) (As := [.ref q, .int (iI 0), .int (iI p)]) (rest := []) (wr := (dcore cI cO cZ o h sl us pd co q q2 q3 hf rcd sf uf T m ++ sw cI q3 a3 b3 sg3 ln3 r3 pl3 ov3 lc3 sd3 ++ hst cI st)) C w (c_S_appendPiece hT q2 a2 b2 sg2 ln2 0 0 0 lc sd q a b sg ln r N ov lc sd _ _ p 0 _ _ (RV.empty _ _ v) hO (by omega) (by omega) (by omega) (by omega)) ml_D_68 im_S_appendPiece se_S_appendPiece ini_S cd_S_appendPiece hd_S_appendPiece rfl (by rw [hRm]; exact ⟨⟨Nat.le_of_ble_eq_true rfl, Nat.le_of_ble_eq_true rfl⟩, Nat.le_of_ble_eq_true rfl, Nat.le_of_ble_eq_true rfl⟩) hl.1 [9, 10, 11, 6, 7, 8] [0, 1, 2, 3, 4, 5, 12, 13, 14, 15, 16, 17, 18, 19, 20, 21, 22, 23, 24, 25, 26, 27, 28, 29, 30, 31, 32, 33, 34, 35, 36, 37, 38] ⟨rfl, rfl, by decide, by decide, by decide⟩ 0 rfl rfl rfl (Nat.le_of_ble_eq_true rfl) d_D_insert_62 (fun u_62 H locs hz_62 w => ?_)
        obtain ⟨sg_62, ln_62, r_62, pl_62, ov_62, rfl, hV_62⟩ := hz_62
        have w : Wd X (dcore cI cO cZ o h sl us pd co q q2 q3 hf rcd sf uf T m ++ sw cI q a b sg ln r N ov lc sd ++ sw cI q2 a2 b2 sg_62 ln_62 r_62 pl_62 ov_62 lc sd ++ sw cI q3 a3 b3 sg3 ln3 r3 pl3 ov3 lc3 sd3 ++ hst cI st) H locs := w.sub [0, 1, 2, 3, 4, 5, 36, 37, 38, 33, 34, 35, 6, 7, 8, 9, 10, 11, 12, 13, 14, 15, 16, 17, 18, 19, 20, 21, 22, 23, 24, 25, 26, 27, 28, 29, 30, 31, 32] rfl (by decide)
        have hV6 := hV_62.to (n' := p) (u := v) (by omega) (fun x h1 _ => by rw [cat_ge (by omega)]; congr 1; omega)
        refine r_aload_n (pc := 65) C d_D_insert_65 rfl (lv_at hl 0 rfl) ?_
        refine r_get (pc := 66) (v := .ref q2) C w i_D rfl 0 rfl 1 (by decide) fl_D_16 rfl rfl d_D_insert_66 ?_
        refine r_iload_n (pc := 69) C d_D_insert_69 rfl (lv_at hl 2 rfl) ?_
        refine r_iload_n (pc := 70) C d_D_insert_70 rfl (lv_at hl 3 rfl) ?_
        refine r_callVV (pc := 71) (As := [.int (iI s), .int (iI k)]) (rest := []) (wr := (dcore cI cO cZ o h sl us pd co q q2 q3 hf rcd sf uf T m ++ sw cI q a b sg ln r N ov lc sd ++ sw cI q3 a3 b3 sg3 ln3 r3 pl3 ov3 lc3 sd3 ++ hst cI st)) C w (c_S_append hT q2 a2 b2 sg_62 ln_62 r_62 pl_62 ov_62 lc sd s k _ _ hV6 (by omega) (by omega)) ml_D_72 im_S_append se_S_append ini_S cd_S_append hd_S_append rfl (by rw [hRm]; exact ⟨⟨Nat.le_of_ble_eq_true rfl, Nat.le_of_ble_eq_true rfl⟩, Nat.le_of_ble_eq_true rfl, Nat.le_of_ble_eq_true rfl⟩) hl.1 [9, 10, 11] [0, 1, 2, 3, 4, 5, 6, 7, 8, 12, 13, 14, 15, 16, 17, 18, 19, 20, 21, 22, 23, 24, 25, 26, 27, 28, 29, 30, 31, 32, 33, 34, 35, 36, 37, 38] ⟨rfl, rfl, by decide, by decide, by decide⟩ 0 rfl rfl rfl (Nat.le_of_ble_eq_true rfl) d_D_insert_71 (fun u_71 H locs hz_71 w => ?_)
        obtain ⟨sg_71, ln_71, r_71, pl_71, ov_71, rfl, hV_71⟩ := hz_71
        have w : Wd X (dcore cI cO cZ o h sl us pd co q q2 q3 hf rcd sf uf T m ++ sw cI q a b sg ln r N ov lc sd ++ sw cI q2 a2 b2 sg_71 ln_71 r_71 pl_71 ov_71 lc sd ++ sw cI q3 a3 b3 sg3 ln3 r3 pl3 ov3 lc3 sd3 ++ hst cI st) H locs := w.sub [0, 1, 2, 3, 4, 5, 6, 7, 8, 36, 37, 38, 9, 10, 11, 12, 13, 14, 15, 16, 17, 18, 19, 20, 21, 22, 23, 24, 25, 26, 27, 28, 29, 30, 31, 32, 33, 34, 35] rfl (by decide)
        have hV7 := hV_71.to (n' := p + k) (by omega) (fun _ _ _ => rfl)
        refine r_aload_n (pc := 74) C d_D_insert_74 rfl (lv_at hl 0 rfl) ?_
        refine r_get (pc := 75) (v := .ref q2) C w i_D rfl 0 rfl 1 (by decide) fl_D_16 rfl rfl d_D_insert_75 ?_
        refine r_aload_n (pc := 78) C d_D_insert_78 rfl (lv_at hl 0 rfl) ?_
        refine r_get (pc := 79) (v := .ref q) C w i_D rfl 0 rfl 0 (by decide) fl_D_10 rfl rfl d_D_insert_79 ?_
        refine r_iload_n (pc := 82) C d_D_insert_82 rfl (lv_at hl 1 rfl) ?_
        refine r_aload_n (pc := 83) C d_D_insert_83 rfl (lv_at hl 0 rfl) ?_
        refine r_get (pc := 84) (v := .ref q) C w i_D rfl 0 rfl 0 (by decide) fl_D_10 rfl rfl d_D_insert_84 ?_
        refine r_get (pc := 87) (v := .int (iI N)) C w i_S rfl 6 rfl 3 (by decide) fl_D_62 rfl rfl d_D_insert_87 ?_
        refine r_callVV (pc := 90) (As := [.ref q, .int (iI p), .int (iI N)]) (rest := []) (wr := (dcore cI cO cZ o h sl us pd co q q2 q3 hf rcd sf uf T m ++ sw cI q3 a3 b3 sg3 ln3 r3 pl3 ov3 lc3 sd3 ++ hst cI st)) C w (c_S_appendPiece hT q2 a2 b2 sg_71 ln_71 r_71 pl_71 ov_71 lc sd q a b sg ln r N ov lc sd _ _ N p _ _ hV7 hO (by omega) (by omega) (by omega) (by omega)) ml_D_68 im_S_appendPiece se_S_appendPiece ini_S cd_S_appendPiece hd_S_appendPiece rfl (by rw [hRm]; exact ⟨⟨Nat.le_of_ble_eq_true rfl, Nat.le_of_ble_eq_true rfl⟩, Nat.le_of_ble_eq_true rfl, Nat.le_of_ble_eq_true rfl⟩) hl.1 [9, 10, 11, 6, 7, 8] [0, 1, 2, 3, 4, 5, 12, 13, 14, 15, 16, 17, 18, 19, 20, 21, 22, 23, 24, 25, 26, 27, 28, 29, 30, 31, 32, 33, 34, 35, 36, 37, 38] ⟨rfl, rfl, by decide, by decide, by decide⟩ 0 rfl rfl rfl (Nat.le_of_ble_eq_true rfl) d_D_insert_90 (fun u_90 H locs hz_90 w => ?_)
        obtain ⟨sg_90, ln_90, r_90, pl_90, ov_90, rfl, hV_90⟩ := hz_90
        have w : Wd X (dcore cI cO cZ o h sl us pd co q q2 q3 hf rcd sf uf T m ++ sw cI q a b sg ln r N ov lc sd ++ sw cI q2 a2 b2 sg_90 ln_90 r_90 pl_90 ov_90 lc sd ++ sw cI q3 a3 b3 sg3 ln3 r3 pl3 ov3 lc3 sd3 ++ hst cI st) H locs := w.sub [0, 1, 2, 3, 4, 5, 36, 37, 38, 33, 34, 35, 6, 7, 8, 9, 10, 11, 12, 13, 14, 15, 16, 17, 18, 19, 20, 21, 22, 23, 24, 25, 26, 27, 28, 29, 30, 31, 32] rfl (by decide)
        have hV9 := hV_90.to (n' := N + k) (u := ins v p s k) (by omega) (fun x h1 h2 => by unfold ins cat app; (repeat' split) <;> first | rfl | (congr 1 <;> omega) | (exfalso; omega))
        refine r_aload_n (pc := 93) C d_D_insert_93 rfl (lv_at hl 0 rfl) ?_
        refine r_aload_n (pc := 94) C d_D_insert_94 rfl (lv_at hl 0 rfl) ?_
        refine r_get (pc := 95) (v := .ref q2) C w i_D rfl 0 rfl 1 (by decide) fl_D_16 rfl rfl d_D_insert_95 ?_
        refine r_get (pc := 98) (v := .int (iI pl_90)) C w i_S rfl 9 rfl 3 (by decide) fl_D_62 rfl rfl d_D_insert_98 ?_
        refine r_callVI (pc := 101) (As := [.int (iI pl_90)]) (rest := []) (wr := []) C w (c_D_accepted hT o h sl us pd co hf sf rcd m uf T q a b sg ln r N ov lc sd q2 a2 b2 sg_90 ln_90 r_90 pl_90 ov_90 lc sd q3 a3 b3 sg3 ln3 r3 pl3 ov3 lc3 sd3 st pl_90 _ v _ hist slot hR hC hV9 (by omega)) ml_D_55 im_D_accepted se_D_accepted ini_D cd_D_accepted hd_D_accepted rfl (by rw [hRm]; exact ⟨⟨Nat.le_of_ble_eq_true rfl, Nat.le_of_ble_eq_true rfl⟩, Nat.le_of_ble_eq_true rfl, Nat.le_of_ble_eq_true rfl⟩) hl.1 [0, 1, 2, 3, 4, 5, 6, 7, 8, 9, 10, 11, 12, 13, 14, 15, 16, 17, 18, 19, 20, 21, 22, 23, 24, 25, 26, 27, 28, 29, 30, 31, 32, 33, 34, 35, 36, 37, 38] [] ⟨rfl, rfl, by decide, by decide, by decide⟩ 0 rfl rfl rfl (Nat.le_of_ble_eq_true rfl) d_D_insert_101 (fun z_101 u_101 H locs hz_101 w => ?_)
        exact kret _ _ _ _ z_101 _ d_D_insert_104 w (by rcases hz_101 with ⟨f1, f2, rfl⟩ | ⟨f1, f2, A, f3, f4⟩; exact ⟨_, cw_mk hR hC, Or.inr (Or.inl ⟨by unfold errIns; (repeat' split) <;> omega, f1, f2, rfl⟩)⟩; exact ⟨A, f3, Or.inr (Or.inr ⟨by unfold errIns; (repeat' split) <;> omega, f1, f2.trans (hV9.2.1 f1).2.1, f4⟩)⟩)
      · skip
        have hb_35 : ¬ (1 ≤ k ∧ k ≤ 3000) := by omega
        clear hz_32 c_35
        refine r_bipush (pc := 38) C d_D_insert_38 (by decide) ?_
        exact kret _ _ _ _ (-2) _ d_D_insert_40 w (⟨_, cw_mk hR hC, Or.inl ⟨by unfold errIns; (repeat' split) <;> omega, by unfold errIns; (repeat' split) <;> omega, rfl⟩⟩)
  · skip
    have hb_12 : ¬ (0 ≤ p ∧ p ≤ N) := by omega
    clear hz_9 c_12
    refine r_iconst (pc := 15) C d_D_insert_15 ?_
    exact kret _ _ _ _ (-1) _ d_D_insert_16 w (⟨_, cw_mk hR hC, Or.inl ⟨by unfold errIns; (repeat' split) <;> omega, by unfold errIns; (repeat' split) <;> omega, rfl⟩⟩)
def Sp_erase (f k : Int) (A : AS) (z : Int) (A' : AS) : Prop := match A with | ((lc, sd, r, sg, ln, N, v), hist, rcd, slot, uf, T, m) => SpE A z A' (errEr N f k sd (cn v 10 f (f + k))) (lc) (sd) (N - k) (del v f k) (N - k)
theorem d_D_erase_0 : decode b_D_erase 0 = .ok (.aload_n 0, 1) := by decide +kernel
theorem d_D_erase_1 : decode b_D_erase 1 = .ok (.iload_n 1, 1) := by decide +kernel
theorem d_D_erase_2 : decode b_D_erase 2 = .ok (.iload_n 2, 1) := by decide +kernel
theorem d_D_erase_3 : decode b_D_erase 3 = .ok (.invokevirtual 76, 3) := by decide +kernel
theorem d_D_erase_6 : decode b_D_erase 6 = .ok (.ifCond .ne 5, 3) := by decide +kernel
theorem d_D_erase_9 : decode b_D_erase 9 = .ok (.iconst (-1), 1) := by decide +kernel
theorem d_D_erase_10 : decode b_D_erase 10 = .ok (.ireturn, 1) := by decide +kernel
theorem d_D_erase_11 : decode b_D_erase 11 = .ok (.aload_n 0, 1) := by decide +kernel
theorem d_D_erase_12 : decode b_D_erase 12 = .ok (.getfield 10, 3) := by decide +kernel
theorem d_D_erase_15 : decode b_D_erase 15 = .ok (.getfield 59, 3) := by decide +kernel
theorem d_D_erase_18 : decode b_D_erase 18 = .ok (.iconst 1, 1) := by decide +kernel
theorem d_D_erase_19 : decode b_D_erase 19 = .ok (.if_icmp .ne 22, 3) := by decide +kernel
theorem d_D_erase_22 : decode b_D_erase 22 = .ok (.aload_n 0, 1) := by decide +kernel
theorem d_D_erase_23 : decode b_D_erase 23 = .ok (.getfield 10, 3) := by decide +kernel
theorem d_D_erase_26 : decode b_D_erase 26 = .ok (.iload_n 1, 1) := by decide +kernel
theorem d_D_erase_27 : decode b_D_erase 27 = .ok (.iload_n 1, 1) := by decide +kernel
theorem d_D_erase_28 : decode b_D_erase 28 = .ok (.iload_n 2, 1) := by decide +kernel
theorem d_D_erase_29 : decode b_D_erase 29 = .ok (.iadd, 1) := by decide +kernel
theorem d_D_erase_30 : decode b_D_erase 30 = .ok (.bipush 10, 2) := by decide +kernel
theorem d_D_erase_32 : decode b_D_erase 32 = .ok (.invokevirtual 80, 3) := by decide +kernel
theorem d_D_erase_35 : decode b_D_erase 35 = .ok (.ifCond .le 6, 3) := by decide +kernel
theorem d_D_erase_38 : decode b_D_erase 38 = .ok (.bipush (-5), 2) := by decide +kernel
theorem d_D_erase_40 : decode b_D_erase 40 = .ok (.ireturn, 1) := by decide +kernel
theorem d_D_erase_41 : decode b_D_erase 41 = .ok (.aload_n 0, 1) := by decide +kernel
theorem d_D_erase_42 : decode b_D_erase 42 = .ok (.getfield 16, 3) := by decide +kernel
theorem d_D_erase_45 : decode b_D_erase 45 = .ok (.aload_n 0, 1) := by decide +kernel
theorem d_D_erase_46 : decode b_D_erase 46 = .ok (.getfield 10, 3) := by decide +kernel
theorem d_D_erase_49 : decode b_D_erase 49 = .ok (.invokevirtual 65, 3) := by decide +kernel
theorem d_D_erase_52 : decode b_D_erase 52 = .ok (.aload_n 0, 1) := by decide +kernel
theorem d_D_erase_53 : decode b_D_erase 53 = .ok (.getfield 16, 3) := by decide +kernel
theorem d_D_erase_56 : decode b_D_erase 56 = .ok (.aload_n 0, 1) := by decide +kernel
theorem d_D_erase_57 : decode b_D_erase 57 = .ok (.getfield 10, 3) := by decide +kernel
theorem d_D_erase_60 : decode b_D_erase 60 = .ok (.iload_n 1, 1) := by decide +kernel
theorem d_D_erase_61 : decode b_D_erase 61 = .ok (.iload_n 1, 1) := by decide +kernel
theorem d_D_erase_62 : decode b_D_erase 62 = .ok (.iload_n 2, 1) := by decide +kernel
theorem d_D_erase_63 : decode b_D_erase 63 = .ok (.iadd, 1) := by decide +kernel
theorem d_D_erase_64 : decode b_D_erase 64 = .ok (.invokevirtual 84, 3) := by decide +kernel
theorem d_D_erase_67 : decode b_D_erase 67 = .ok (.aload_n 0, 1) := by decide +kernel
theorem d_D_erase_68 : decode b_D_erase 68 = .ok (.aload_n 0, 1) := by decide +kernel
theorem d_D_erase_69 : decode b_D_erase 69 = .ok (.getfield 16, 3) := by decide +kernel
theorem d_D_erase_72 : decode b_D_erase 72 = .ok (.getfield 62, 3) := by decide +kernel
theorem d_D_erase_75 : decode b_D_erase 75 = .ok (.invokevirtual 55, 3) := by decide +kernel
theorem d_D_erase_78 : decode b_D_erase 78 = .ok (.ireturn, 1) := by decide +kernel
set_option maxHeartbeats 4000000 in
set_option maxRecDepth 20000 in
theorem c_D_erase {l : Launch} {G : va_G} {tys : List (ClassId × FieldType)} {cI cO cZ : ClassId} (hT : TY tys cI cO cZ) (o : Nat) (A : AS) (ws : va_W) (hA : CW cI cO cZ o A ws) (f k : Int) (hrg : (-2147483648 ≤ f ∧ f < 2147483648) ∧ (-2147483648 ≤ k ∧ k < 2147483648)) : CTI l G tys y_D_erase b_D_erase 3 .int 4 90 [.ref o, .int (iI f), .int (iI k)] ws (fun z u => ∃ A' : AS, CW cI cO cZ o A' u ∧ Sp_erase f k A z A') := by
  obtain ⟨⟨lc, sd, r, sg, ln, N, v⟩, hist, rcd, slot, uf, T, m⟩ := A
  obtain ⟨hR, h, sl, us, pd, co, hf, sf, q, a, b, ov, q2, a2, b2, sg2, ln2, r2, pl2, ov2, lc2, sd2, q3, a3, b3, sg3, ln3, r3, pl3, ov3, lc3, sd3, st, rfl, hC⟩ := hA
  have hO := hR.1
  have hr5 := hR.2.1
  have hN3 := hR.2.2.1
  have hN0 := hO.n0
  have hr0 := hO.1
  have hlcd := hR.2.2.2
  have hm80 := hC.2.2.2.2.2.1
  have hrcd6 := hC.2.2.1
  refine mkI (by decide) (Nat.le_of_ble_eq_true rfl) ?_
  rintro X rfl rfl rfl hRm C kret H ls w hl
  have hl : lv_has ls 3 [(0, .ref o), (1, .int (iI f)), (2, .int (iI k))] := hl
  have w : Wd X (dcore cI cO cZ o h sl us pd co q q2 q3 hf rcd sf uf T m ++ sw cI q a b sg ln r N ov lc sd ++ sw cI q2 a2 b2 sg2 ln2 r2 pl2 ov2 lc2 sd2 ++ sw cI q3 a3 b3 sg3 ln3 r3 pl3 ov3 lc3 sd3 ++ hst cI st) H [] := w
  generalize ([] : List Loc) = locs at w ⊢
  refine r_aload_n (pc := 0) C d_D_erase_0 rfl (lv_at hl 0 rfl) ?_
  refine r_iload_n (pc := 1) C d_D_erase_1 rfl (lv_at hl 1 rfl) ?_
  refine r_iload_n (pc := 2) C d_D_erase_2 rfl (lv_at hl 2 rfl) ?_
  refine r_callVI (pc := 3) (As := [.int (iI f), .int (iI k)]) (rest := []) (wr := []) C w (c_D_isPiece hT o h sl us pd co hf sf rcd m uf T q a b sg ln r N ov lc sd q2 a2 b2 sg2 ln2 r2 pl2 ov2 lc2 sd2 q3 a3 b3 sg3 ln3 r3 pl3 ov3 lc3 sd3 st f k (by omega) (by omega)) ml_D_76 im_D_isPiece se_D_isPiece ini_D cd_D_isPiece hd_D_isPiece rfl (by rw [hRm]; exact ⟨⟨Nat.le_of_ble_eq_true rfl, Nat.le_of_ble_eq_true rfl⟩, Nat.le_of_ble_eq_true rfl, Nat.le_of_ble_eq_true rfl⟩) hl.1 [0, 1, 2, 3, 4, 5, 6, 7, 8, 9, 10, 11, 12, 13, 14, 15, 16, 17, 18, 19, 20, 21, 22, 23, 24, 25, 26, 27, 28, 29, 30, 31, 32, 33, 34, 35, 36, 37, 38] [] ⟨rfl, rfl, by decide, by decide, by decide⟩ 0 rfl rfl rfl (Nat.le_of_ble_eq_true rfl) d_D_erase_3 (fun z_3 u_3 H locs hz_3 w => ?_)
  obtain ⟨rfl, hz_3⟩ := hz_3
  have w : Wd X (dcore cI cO cZ o h sl us pd co q q2 q3 hf rcd sf uf T m ++ sw cI q a b sg ln r N ov lc sd ++ sw cI q2 a2 b2 sg2 ln2 r2 pl2 ov2 lc2 sd2 ++ sw cI q3 a3 b3 sg3 ln3 r3 pl3 ov3 lc3 sd3 ++ hst cI st) H locs := w
  refine r_if_ne (pc := 6) (tgt := 11) C (by omega) d_D_erase_6 (by decide) (fun c_6 => ?_) (fun c_6 => ?_)
  · skip
    have hb_6 : 0 ≤ f ∧ 1 ≤ k ∧ k ≤ N - f := by omega
    clear hz_3 c_6
    refine r_aload_n (pc := 11) C d_D_erase_11 rfl (lv_at hl 0 rfl) ?_
    refine r_get (pc := 12) (v := .ref q) C w i_D rfl 0 rfl 0 (by decide) fl_D_10 rfl rfl d_D_erase_12 ?_
    refine r_get (pc := 15) (v := .int (iI sd)) C w i_S rfl 6 rfl 6 (by decide) fl_D_59 rfl rfl d_D_erase_15 ?_
    refine r_iconst (pc := 18) C d_D_erase_18 ?_
    refine r_icmp_ne (pc := 19) (tgt := 41) C (by omega) d_D_erase_19 (by decide) (fun c_19 => ?_) (fun c_19 => ?_)
    · skip
      refine r_aload_n (pc := 41) C d_D_erase_41 rfl (lv_at hl 0 rfl) ?_
      refine r_get (pc := 42) (v := .ref q2) C w i_D rfl 0 rfl 1 (by decide) fl_D_16 rfl rfl d_D_erase_42 ?_
      refine r_aload_n (pc := 45) C d_D_erase_45 rfl (lv_at hl 0 rfl) ?_
      refine r_get (pc := 46) (v := .ref q) C w i_D rfl 0 rfl 0 (by decide) fl_D_10 rfl rfl d_D_erase_46 ?_
      refine r_callVV (pc := 49) (As := [.ref q]) (rest := []) (wr := (dcore cI cO cZ o h sl us pd co q q2 q3 hf rcd sf uf T m ++ sw cI q3 a3 b3 sg3 ln3 r3 pl3 ov3 lc3 sd3 ++ hst cI st)) C w (c_S_startLike hT q2 a2 b2 sg2 ln2 r2 pl2 ov2 lc2 sd2 q a b sg ln r N ov lc sd) ml_D_65 im_S_startLike se_S_startLike ini_S cd_S_startLike hd_S_startLike rfl (by rw [hRm]; exact ⟨⟨Nat.le_of_ble_eq_true rfl, Nat.le_of_ble_eq_true rfl⟩, Nat.le_of_ble_eq_true rfl, Nat.le_of_ble_eq_true rfl⟩) hl.1 [9, 10, 11, 6, 7, 8] [0, 1, 2, 3, 4, 5, 12, 13, 14, 15, 16, 17, 18, 19, 20, 21, 22, 23, 24, 25, 26, 27, 28, 29, 30, 31, 32, 33, 34, 35, 36, 37, 38] ⟨rfl, rfl, by decide, by decide, by decide⟩ 0 rfl rfl rfl (Nat.le_of_ble_eq_true rfl) d_D_erase_49 (fun u_49 H locs hz_49 w => ?_)
      subst hz_49
      have w : Wd X (dcore cI cO cZ o h sl us pd co q q2 q3 hf rcd sf uf T m ++ sw cI q a b sg ln r N ov lc sd ++ sw cI q2 a2 b2 sg2 ln2 0 0 0 lc sd ++ sw cI q3 a3 b3 sg3 ln3 r3 pl3 ov3 lc3 sd3 ++ hst cI st) H locs := w.sub [0, 1, 2, 3, 4, 5, 36, 37, 38, 33, 34, 35, 6, 7, 8, 9, 10, 11, 12, 13, 14, 15, 16, 17, 18, 19, 20, 21, 22, 23, 24, 25, 26, 27, 28, 29, 30, 31, 32] rfl (by decide)
      refine r_aload_n (pc := 52) C d_D_erase_52 rfl (lv_at hl 0 rfl) ?_
      refine r_get (pc := 53) (v := .ref q2) C w i_D rfl 0 rfl 1 (by decide) fl_D_16 rfl rfl d_D_erase_53 ?_
      refine r_aload_n (pc := 56) C d_D_erase_56 rfl (lv_at hl 0 rfl) ?_
      refine r_get (pc := 57) (v := .ref q) C w i_D rfl 0 rfl 0 (by decide) fl_D_10 rfl rfl d_D_erase_57 ?_
      refine r_iload_n (pc := 60) C d_D_erase_60 rfl (lv_at hl 1 rfl) ?_
      refine r_iload_n (pc := 61) C d_D_erase_61 rfl (lv_at hl 1 rfl) ?_
      refine r_iload_n (pc := 62) C d_D_erase_62 rfl (lv_at hl 2 rfl) ?_
      refine r_iadd (pc := 63) C d_D_erase_63 ?_
      refine r_callVV (pc := 64) (As := [.ref q, .int (iI f), .int (iI (f + k))]) (rest := []) (wr := (dcore cI cO cZ o h sl us pd co q q2 q3 hf rcd sf uf T m ++ sw cI q3 a3 b3 sg3 ln3 r3 pl3 ov3 lc3 sd3 ++ hst cI st)) C w (c_S_appendAllBut hT q2 a2 b2 sg2 ln2 0 0 0 lc sd q a b sg ln r N ov lc sd _ _ (f + k) f _ _ (RV.empty _ _ v) hO (by omega) (by omega) (by omega) (by omega) (by omega)) ml_D_84 im_S_appendAllBut se_S_appendAllBut ini_S cd_S_appendAllBut hd_S_appendAllBut rfl (by rw [hRm]; exact ⟨⟨Nat.le_of_ble_eq_true rfl, Nat.le_of_ble_eq_true rfl⟩, Nat.le_of_ble_eq_true rfl, Nat.le_of_ble_eq_true rfl⟩) hl.1 [9, 10, 11, 6, 7, 8] [0, 1, 2, 3, 4, 5, 12, 13, 14, 15, 16, 17, 18, 19, 20, 21, 22, 23, 24, 25, 26, 27, 28, 29, 30, 31, 32, 33, 34, 35, 36, 37, 38] ⟨rfl, rfl, by decide, by decide, by decide⟩ 0 rfl rfl rfl (Nat.le_of_ble_eq_true rfl) d_D_erase_64 (fun u_64 H locs hz_64 w => ?_)
      obtain ⟨sg_64, ln_64, r_64, pl_64, ov_64, rfl, hV_64⟩ := hz_64
      have w : Wd X (dcore cI cO cZ o h sl us pd co q q2 q3 hf rcd sf uf T m ++ sw cI q a b sg ln r N ov lc sd ++ sw cI q2 a2 b2 sg_64 ln_64 r_64 pl_64 ov_64 lc sd ++ sw cI q3 a3 b3 sg3 ln3 r3 pl3 ov3 lc3 sd3 ++ hst cI st) H locs := w.sub [0, 1, 2, 3, 4, 5, 36, 37, 38, 33, 34, 35, 6, 7, 8, 9, 10, 11, 12, 13, 14, 15, 16, 17, 18, 19, 20, 21, 22, 23, 24, 25, 26, 27, 28, 29, 30, 31, 32] rfl (by decide)
      have hV9 := hV_64.to (n' := N - k) (u := del v f k) (by omega) (fun x h1 h2 => by unfold del cat; (repeat' split) <;> first | rfl | (congr 1 <;> omega) | (exfalso; omega))
      refine r_aload_n (pc := 67) C d_D_erase_67 rfl (lv_at hl 0 rfl) ?_
      refine r_aload_n (pc := 68) C d_D_erase_68 rfl (lv_at hl 0 rfl) ?_
      refine r_get (pc := 69) (v := .ref q2) C w i_D rfl 0 rfl 1 (by decide) fl_D_16 rfl rfl d_D_erase_69 ?_
      refine r_get (pc := 72) (v := .int (iI pl_64)) C w i_S rfl 9 rfl 3 (by decide) fl_D_62 rfl rfl d_D_erase_72 ?_
      refine r_callVI (pc := 75) (As := [.int (iI pl_64)]) (rest := []) (wr := []) C w (c_D_accepted hT o h sl us pd co hf sf rcd m uf T q a b sg ln r N ov lc sd q2 a2 b2 sg_64 ln_64 r_64 pl_64 ov_64 lc sd q3 a3 b3 sg3 ln3 r3 pl3 ov3 lc3 sd3 st pl_64 _ v _ hist slot hR hC hV9 (by omega)) ml_D_55 im_D_accepted se_D_accepted ini_D cd_D_accepted hd_D_accepted rfl (by rw [hRm]; exact ⟨⟨Nat.le_of_ble_eq_true rfl, Nat.le_of_ble_eq_true rfl⟩, Nat.le_of_ble_eq_true rfl, Nat.le_of_ble_eq_true rfl⟩) hl.1 [0, 1, 2, 3, 4, 5, 6, 7, 8, 9, 10, 11, 12, 13, 14, 15, 16, 17, 18, 19, 20, 21, 22, 23, 24, 25, 26, 27, 28, 29, 30, 31, 32, 33, 34, 35, 36, 37, 38] [] ⟨rfl, rfl, by decide, by decide, by decide⟩ 0 rfl rfl rfl (Nat.le_of_ble_eq_true rfl) d_D_erase_75 (fun z_75 u_75 H locs hz_75 w => ?_)
      exact kret _ _ _ _ z_75 _ d_D_erase_78 w (by rcases hz_75 with ⟨f1, f2, rfl⟩ | ⟨f1, f2, A, f3, f4⟩; exact ⟨_, cw_mk hR hC, Or.inr (Or.inl ⟨by unfold errEr; (repeat' split) <;> omega, f1, f2, rfl⟩)⟩; exact ⟨A, f3, Or.inr (Or.inr ⟨by unfold errEr; (repeat' split) <;> omega, f1, f2.trans (hV9.2.1 f1).2.1, f4⟩)⟩)
    · skip
      refine r_aload_n (pc := 22) C d_D_erase_22 rfl (lv_at hl 0 rfl) ?_
      refine r_get (pc := 23) (v := .ref q) C w i_D rfl 0 rfl 0 (by decide) fl_D_10 rfl rfl d_D_erase_23 ?_
      refine r_iload_n (pc := 26) C d_D_erase_26 rfl (lv_at hl 1 rfl) ?_
      refine r_iload_n (pc := 27) C d_D_erase_27 rfl (lv_at hl 1 rfl) ?_
      refine r_iload_n (pc := 28) C d_D_erase_28 rfl (lv_at hl 2 rfl) ?_
      refine r_iadd (pc := 29) C d_D_erase_29 ?_
      refine r_bipush (pc := 30) C d_D_erase_30 (by decide) ?_
      refine r_callVI (pc := 32) (As := [.int (iI f), .int (iI (f + k)), .int (iI 10)]) (rest := []) (wr := (dcore cI cO cZ o h sl us pd co q q2 q3 hf rcd sf uf T m ++ sw cI q2 a2 b2 sg2 ln2 r2 pl2 ov2 lc2 sd2 ++ sw cI q3 a3 b3 sg3 ln3 r3 pl3 ov3 lc3 sd3 ++ hst cI st)) C w (c_S_alikeIn hT q a b sg ln r N ov lc sd _ _ hO (by omega) (by omega) f (f + k) 10 (by omega) (by omega)) ml_D_80 im_S_alikeIn se_S_alikeIn ini_S cd_S_alikeIn hd_S_alikeIn rfl (by rw [hRm]; exact ⟨⟨Nat.le_of_ble_eq_true rfl, Nat.le_of_ble_eq_true rfl⟩, Nat.le_of_ble_eq_true rfl, Nat.le_of_ble_eq_true rfl⟩) hl.1 [6, 7, 8] [0, 1, 2, 3, 4, 5, 9, 10, 11, 12, 13, 14, 15, 16, 17, 18, 19, 20, 21, 22, 23, 24, 25, 26, 27, 28, 29, 30, 31, 32, 33, 34, 35, 36, 37, 38] ⟨rfl, rfl, by decide, by decide, by decide⟩ 0 rfl rfl rfl (Nat.le_of_ble_eq_true rfl) d_D_erase_32 (fun z_32 u_32 H locs hz_32 w => ?_)
      obtain ⟨rfl, hz_32⟩ := hz_32
      have w : Wd X (dcore cI cO cZ o h sl us pd co q q2 q3 hf rcd sf uf T m ++ sw cI q a b sg ln r N ov lc sd ++ sw cI q2 a2 b2 sg2 ln2 r2 pl2 ov2 lc2 sd2 ++ sw cI q3 a3 b3 sg3 ln3 r3 pl3 ov3 lc3 sd3 ++ hst cI st) H locs := w.sub [0, 1, 2, 3, 4, 5, 36, 37, 38, 6, 7, 8, 9, 10, 11, 12, 13, 14, 15, 16, 17, 18, 19, 20, 21, 22, 23, 24, 25, 26, 27, 28, 29, 30, 31, 32, 33, 34, 35] rfl (by decide)
      refine r_if_le (pc := 35) (tgt := 41) C (by have := cn_rg (v := v) (s := 10) (f := f) (e := f + k) (by omega) (by omega); omega) d_D_erase_35 (by decide) (fun c_35 => ?_) (fun c_35 => ?_)
      · skip
        refine r_aload_n (pc := 41) C d_D_erase_41 rfl (lv_at hl 0 rfl) ?_
        refine r_get (pc := 42) (v := .ref q2) C w i_D rfl 0 rfl 1 (by decide) fl_D_16 rfl rfl d_D_erase_42 ?_
        refine r_aload_n (pc := 45) C d_D_erase_45 rfl (lv_at hl 0 rfl) ?_
        refine r_get (pc := 46) (v := .ref q) C w i_D rfl 0 rfl 0 (by decide) fl_D_10 rfl rfl d_D_erase_46 ?_
        refine r_callVV (pc := 49) (As := [.ref q]) (rest := []) (wr := (dcore cI cO cZ o h sl us pd co q q2 q3 hf rcd sf uf T m ++ sw cI q3 a3 b3 sg3 ln3 r3 pl3 ov3 lc3 sd3 ++ hst cI st)) C w (c_S_startLike hT q2 a2 b2 sg2 ln2 r2 pl2 ov2 lc2 sd2 q a b sg ln r N ov lc sd) ml_D_65 im_S_startLike se_S_startLike ini_S cd_S_startLike hd_S_startLike rfl (by rw [hRm]; exact ⟨⟨Nat.le_of_ble_eq_true rfl, Nat.le_of_ble_eq_true rfl⟩, Nat.le_of_ble_eq_true rfl, Nat.le_of_ble_eq_true rfl⟩) hl.1 [9, 10, 11, 6, 7, 8] [0, 1, 2, 3, 4, 5, 12, 13, 14, 15, 16, 17, 18, 19, 20, 21, 22, 23, 24, 25, 26, 27, 28, 29, 30, 31, 32, 33, 34, 35, 36, 37, 38] ⟨rfl, rfl, by decide, by decide, by decide⟩ 0 rfl rfl rfl (Nat.le_of_ble_eq_true rfl) d_D_erase_49 (fun u_49 H locs hz_49 w => ?_)
        subst hz_49
        have w : Wd X (dcore cI cO cZ o h sl us pd co q q2 q3 hf rcd sf uf T m ++ sw cI q a b sg ln r N ov lc sd ++ sw cI q2 a2 b2 sg2 ln2 0 0 0 lc sd ++ sw cI q3 a3 b3 sg3 ln3 r3 pl3 ov3 lc3 sd3 ++ hst cI st) H locs := w.sub [0, 1, 2, 3, 4, 5, 36, 37, 38, 33, 34, 35, 6, 7, 8, 9, 10, 11, 12, 13, 14, 15, 16, 17, 18, 19, 20, 21, 22, 23, 24, 25, 26, 27, 28, 29, 30, 31, 32] rfl (by decide)
        refine r_aload_n (pc := 52) C d_D_erase_52 rfl (lv_at hl 0 rfl) ?_
        refine r_get (pc := 53) (v := .ref q2) C w i_D rfl 0 rfl 1 (by decide) fl_D_16 rfl rfl d_D_erase_53 ?_
        refine r_aload_n (pc := 56) C d_D_erase_56 rfl (lv_at hl 0 rfl) ?_
        refine r_get (pc := 57) (v := .ref q) C w i_D rfl 0 rfl 0 (by decide) fl_D_10 rfl rfl d_D_erase_57 ?_
        refine r_iload_n (pc := 60) C d_D_erase_60 rfl (lv_at hl 1 rfl) ?_
        refine r_iload_n (pc := 61) C d_D_erase_61 rfl (lv_at hl 1 rfl) ?_
        refine r_iload_n (pc := 62) C d_D_erase_62 rfl (lv_at hl 2 rfl) ?_
        refine r_iadd (pc := 63) C d_D_erase_63 ?_
        refine r_callVV (pc := 64) (As := [.ref q, .int (iI f), .int (iI (f + k))]) (rest := []) (wr := (dcore cI cO cZ o h sl us pd co q q2 q3 hf rcd sf uf T m ++ sw cI q3 a3 b3 sg3 ln3 r3 pl3 ov3 lc3 sd3 ++ hst cI st)) C w (c_S_appendAllBut hT q2 a2 b2 sg2 ln2 0 0 0 lc sd q a b sg ln r N ov lc sd _ _ (f + k) f _ _ (RV.empty _ _ v) hO (by omega) (by omega) (by omega) (by omega) (by omega)) ml_D_84 im_S_appendAllBut se_S_appendAllBut ini_S cd_S_appendAllBut hd_S_appendAllBut rfl (by rw [hRm]; exact ⟨⟨Nat.le_of_ble_eq_true rfl, Nat.le_of_ble_eq_true rfl⟩, Nat.le_of_ble_eq_true rfl, Nat.le_of_ble_eq_true rfl⟩) hl.1 [9, 10, 11, 6, 7, 8] [0, 1, 2, 3, 4, 5, 12, 13, 14, 15, 16, 17, 18, 19, 20, 21, 22, 23, 24, 25, 26, 27, 28, 29, 30, 31, 32, 33, 34, 35, 36, 37, 38] ⟨rfl, rfl, by decide, by decide, by decide⟩ 0 rfl rfl rfl (Nat.le_of_ble_eq_true rfl) d_D_erase_64 (fun u_64 H locs hz_64 w => ?_)
        obtain ⟨sg_64, ln_64, r_64, pl_64, ov_64, rfl, hV_64⟩ := hz_64
        have w : Wd X (dcore cI cO cZ o h sl us pd co q q2 q3 hf rcd sf uf T m ++ sw cI q a b sg ln r N ov lc sd ++ sw cI q2 a2 b2 sg_64 ln_64 r_64 pl_64 ov_64 lc sd ++ sw cI q3 a3 b3 sg3 ln3 r3 pl3 ov3 lc3 sd3 ++ hst cI st) H locs := w.sub [0, 1, 2, 3, 4, 5, 36, 37, 38, 33, 34, 35, 6, 7, 8, 9, 10, 11, 12, 13, 14, 15, 16, 17, 18, 19, 20, 21, 22, 23, 24, 25, 26, 27, 28, 29, 30, 31, 32] rfl (by decide)
        have hV9 := hV_64.to (n' := N - k) (u := del v f k) (by omega) (fun x h1 h2 => by unfold del cat; (repeat' split) <;> first | rfl | (congr 1 <;> omega) | (exfalso; omega))
        refine r_aload_n (pc := 67) C d_D_erase_67 rfl (lv_at hl 0 rfl) ?_
        refine r_aload_n (pc := 68) C d_D_erase_68 rfl (lv_at hl 0 rfl) ?_
        refine r_get (pc := 69) (v := .ref q2) C w i_D rfl 0 rfl 1 (by decide) fl_D_16 rfl rfl d_D_erase_69 ?_
        refine r_get (pc := 72) (v := .int (iI pl_64)) C w i_S rfl 9 rfl 3 (by decide) fl_D_62 rfl rfl d_D_erase_72 ?_
        refine r_callVI (pc := 75) (As := [.int (iI pl_64)]) (rest := []) (wr := []) C w (c_D_accepted hT o h sl us pd co hf sf rcd m uf T q a b sg ln r N ov lc sd q2 a2 b2 sg_64 ln_64 r_64 pl_64 ov_64 lc sd q3 a3 b3 sg3 ln3 r3 pl3 ov3 lc3 sd3 st pl_64 _ v _ hist slot hR hC hV9 (by omega)) ml_D_55 im_D_accepted se_D_accepted ini_D cd_D_accepted hd_D_accepted rfl (by rw [hRm]; exact ⟨⟨Nat.le_of_ble_eq_true rfl, Nat.le_of_ble_eq_true rfl⟩, Nat.le_of_ble_eq_true rfl, Nat.le_of_ble_eq_true rfl⟩) hl.1 [0, 1, 2, 3, 4, 5, 6, 7, 8, 9, 10, 11, 12, 13, 14, 15, 16, 17, 18, 19, 20, 21, 22, 23, 24, 25, 26, 27, 28, 29, 30, 31, 32, 33, 34, 35, 36, 37, 38] [] ⟨rfl, rfl, by decide, by decide, by decide⟩ 0 rfl rfl rfl (Nat.le_of_ble_eq_true rfl) d_D_erase_75 (fun z_75 u_75 H locs hz_75 w => ?_)
        exact kret _ _ _ _ z_75 _ d_D_erase_78 w (by rcases hz_75 with ⟨f1, f2, rfl⟩ | ⟨f1, f2, A, f3, f4⟩; exact ⟨_, cw_mk hR hC, Or.inr (Or.inl ⟨by unfold errEr; (repeat' split) <;> omega, f1, f2, rfl⟩)⟩; exact ⟨A, f3, Or.inr (Or.inr ⟨by unfold errEr; (repeat' split) <;> omega, f1, f2.trans (hV9.2.1 f1).2.1, f4⟩)⟩)
      · skip
        refine r_bipush (pc := 38) C d_D_erase_38 (by decide) ?_
        exact kret _ _ _ _ (-5) _ d_D_erase_40 w (⟨_, cw_mk hR hC, Or.inl ⟨by unfold errEr; (repeat' split) <;> omega, by unfold errEr; (repeat' split) <;> omega, rfl⟩⟩)
  · skip
    have hb_6 : ¬ (0 ≤ f ∧ 1 ≤ k ∧ k ≤ N - f) := by omega
    clear hz_3 c_6
    refine r_iconst (pc := 9) C d_D_erase_9 ?_
    exact kret _ _ _ _ (-1) _ d_D_erase_10 w (⟨_, cw_mk hR hC, Or.inl ⟨by unfold errEr; (repeat' split) <;> omega, by unfold errEr; (repeat' split) <;> omega, rfl⟩⟩)
theorem d_D_edited_0 : decode b_D_edited 0 = .ok (.aload_n 0, 1) := by decide +kernel
theorem d_D_edited_1 : decode b_D_edited 1 = .ok (.getfield 16, 3) := by decide +kernel
theorem d_D_edited_4 : decode b_D_edited 4 = .ok (.aload_n 0, 1) := by decide +kernel
theorem d_D_edited_5 : decode b_D_edited 5 = .ok (.getfield 10, 3) := by decide +kernel
theorem d_D_edited_8 : decode b_D_edited 8 = .ok (.invokevirtual 65, 3) := by decide +kernel
theorem d_D_edited_11 : decode b_D_edited 11 = .ok (.aload_n 0, 1) := by decide +kernel
theorem d_D_edited_12 : decode b_D_edited 12 = .ok (.getfield 16, 3) := by decide +kernel
theorem d_D_edited_15 : decode b_D_edited 15 = .ok (.aload_n 0, 1) := by decide +kernel
theorem d_D_edited_16 : decode b_D_edited 16 = .ok (.getfield 10, 3) := by decide +kernel
theorem d_D_edited_19 : decode b_D_edited 19 = .ok (.iload_n 1, 1) := by decide +kernel
theorem d_D_edited_20 : decode b_D_edited 20 = .ok (.iload_n 1, 1) := by decide +kernel
theorem d_D_edited_21 : decode b_D_edited 21 = .ok (.iload_n 2, 1) := by decide +kernel
theorem d_D_edited_22 : decode b_D_edited 22 = .ok (.iadd, 1) := by decide +kernel
theorem d_D_edited_23 : decode b_D_edited 23 = .ok (.iload_n 3, 1) := by decide +kernel
theorem d_D_edited_24 : decode b_D_edited 24 = .ok (.iload 4, 2) := by decide +kernel
theorem d_D_edited_26 : decode b_D_edited 26 = .ok (.invokevirtual 166, 3) := by decide +kernel
theorem d_D_edited_29 : decode b_D_edited 29 = .ok (.istore 5, 2) := by decide +kernel
theorem d_D_edited_31 : decode b_D_edited 31 = .ok (.aload_n 0, 1) := by decide +kernel
theorem d_D_edited_32 : decode b_D_edited 32 = .ok (.iload 5, 2) := by decide +kernel
theorem d_D_edited_34 : decode b_D_edited 34 = .ok (.invokevirtual 55, 3) := by decide +kernel
theorem d_D_edited_37 : decode b_D_edited 37 = .ok (.ireturn, 1) := by decide +kernel
set_option maxHeartbeats 4000000 in
set_option maxRecDepth 20000 in
theorem c_D_edited {l : Launch} {G : va_G} {tys : List (ClassId × FieldType)} {cI cO cZ : ClassId} (hT : TY tys cI cO cZ) (o h sl us pd co : Nat) (hf sf : Int → Nat) (rcd m : Int) (uf T : Int → Int) (q a b : Nat) (sg ln : Int → Int) (r N ov lc sd : Int) (q2 a2 b2 : Nat) (sg2 ln2 : Int → Int) (r2 pl2 ov2 lc2 sd2 : Int) (q3 a3 b3 : Nat) (sg3 ln3 : Int → Int) (r3 pl3 ov3 lc3 sd3 : Int) (st : Int → SD) (f k ed num : Int) (v : Int → Int) (hist slot : Int → Rw) (hR : RwOk lc sd r sg ln N v) (hC : DC hf sf st hist rcd slot uf T m) (hfk : 0 ≤ f ∧ 1 ≤ k ∧ k ≤ N - f) (hed : 0 ≤ ed ∧ ed ≤ 3) (hnum : 0 ≤ num ∧ num ≤ 10) : CTI l G tys y_D_edited b_D_edited 6 .int 3 74 [.ref o, .int (iI f), .int (iI k), .int (iI ed), .int (iI num)] (dcore cI cO cZ o h sl us pd co q q2 q3 hf rcd sf uf T m ++ sw cI q a b sg ln r N ov lc sd ++ sw cI q2 a2 b2 sg2 ln2 r2 pl2 ov2 lc2 sd2 ++ sw cI q3 a3 b3 sg3 ln3 r3 pl3 ov3 lc3 sd3 ++ hst cI st) (fun z u => ∃ A' : AS, CW cI cO cZ o A' u ∧ SpE ((lc, sd, r, sg, ln, N, v), hist, rcd, slot, uf, T, m) z A' 0 lc sd N (edt f (f + k) ed num v) (ps (edc f (f + k) ed num v) N)) := by
  refine mkI (by decide) (Nat.le_of_ble_eq_true rfl) ?_
  rintro X rfl rfl rfl hRm C kret H ls w hl
  have hl : lv_has ls 6 [(0, .ref o), (1, .int (iI f)), (2, .int (iI k)), (3, .int (iI ed)), (4, .int (iI num))] := hl
  have w : Wd X (dcore cI cO cZ o h sl us pd co q q2 q3 hf rcd sf uf T m ++ sw cI q a b sg ln r N ov lc sd ++ sw cI q2 a2 b2 sg2 ln2 r2 pl2 ov2 lc2 sd2 ++ sw cI q3 a3 b3 sg3 ln3 r3 pl3 ov3 lc3 sd3 ++ hst cI st) H [] := w
  generalize ([] : List Loc) = locs at w ⊢
  have hO := hR.1
  have hr5 := hR.2.1
  have hN3 := hR.2.2.1
  have hN0 := hO.n0
  have hr0 := hO.1
  have hlcd := hR.2.2.2
  refine r_aload_n (pc := 0) C d_D_edited_0 rfl (lv_at hl 0 rfl) ?_
  refine r_get (pc := 1) (v := .ref q2) C w i_D rfl 0 rfl 1 (by decide) fl_D_16 rfl rfl d_D_edited_1 ?_
  refine r_aload_n (pc := 4) C d_D_edited_4 rfl (lv_at hl 0 rfl) ?_
  refine r_get (pc := 5) (v := .ref q) C w i_D rfl 0 rfl 0 (by decide) fl_D_10 rfl rfl d_D_edited_5 ?_
  refine r_callVV (pc := 8) (As := [.ref q]) (rest := []) (wr := (dcore cI cO cZ o h sl us pd co q q2 q3 hf rcd sf uf T m ++ sw cI q3 a3 b3 sg3 ln3 r3 pl3 ov3 lc3 sd3 ++ hst cI st)) C w (c_S_startLike hT q2 a2 b2 sg2 ln2 r2 pl2 ov2 lc2 sd2 q a b sg ln r N ov lc sd) ml_D_65 im_S_startLike se_S_startLike ini_S cd_S_startLike hd_S_startLike rfl (by rw [hRm]; exact ⟨⟨Nat.le_of_ble_eq_true rfl, Nat.le_of_ble_eq_true rfl⟩, Nat.le_of_ble_eq_true rfl, Nat.le_of_ble_eq_true rfl⟩) hl.1 [9, 10, 11, 6, 7, 8] [0, 1, 2, 3, 4, 5, 12, 13, 14, 15, 16, 17, 18, 19, 20, 21, 22, 23, 24, 25, 26, 27, 28, 29, 30, 31, 32, 33, 34, 35, 36, 37, 38] ⟨rfl, rfl, by decide, by decide, by decide⟩ 0 rfl rfl rfl (Nat.le_of_ble_eq_true rfl) d_D_edited_8 (fun u_8 H locs hz_8 w => ?_)
  subst hz_8
  have w : Wd X (dcore cI cO cZ o h sl us pd co q q2 q3 hf rcd sf uf T m ++ sw cI q a b sg ln r N ov lc sd ++ sw cI q2 a2 b2 sg2 ln2 0 0 0 lc sd ++ sw cI q3 a3 b3 sg3 ln3 r3 pl3 ov3 lc3 sd3 ++ hst cI st) H locs := w.sub [0, 1, 2, 3, 4, 5, 36, 37, 38, 33, 34, 35, 6, 7, 8, 9, 10, 11, 12, 13, 14, 15, 16, 17, 18, 19, 20, 21, 22, 23, 24, 25, 26, 27, 28, 29, 30, 31, 32] rfl (by decide)
  refine r_aload_n (pc := 11) C d_D_edited_11 rfl (lv_at hl 0 rfl) ?_
  refine r_get (pc := 12) (v := .ref q2) C w i_D rfl 0 rfl 1 (by decide) fl_D_16 rfl rfl d_D_edited_12 ?_
  refine r_aload_n (pc := 15) C d_D_edited_15 rfl (lv_at hl 0 rfl) ?_
  refine r_get (pc := 16) (v := .ref q) C w i_D rfl 0 rfl 0 (by decide) fl_D_10 rfl rfl d_D_edited_16 ?_
  refine r_iload_n (pc := 19) C d_D_edited_19 rfl (lv_at hl 1 rfl) ?_
  refine r_iload_n (pc := 20) C d_D_edited_20 rfl (lv_at hl 1 rfl) ?_
  refine r_iload_n (pc := 21) C d_D_edited_21 rfl (lv_at hl 2 rfl) ?_
  refine r_iadd (pc := 22) C d_D_edited_22 ?_
  refine r_iload_n (pc := 23) C d_D_edited_23 rfl (lv_at hl 3 rfl) ?_
  refine r_iload (pc := 24) C d_D_edited_24 (lv_at hl 4 rfl) ?_
  refine r_callVI (pc := 26) (As := [.ref q, .int (iI f), .int (iI (f + k)), .int (iI ed), .int (iI num)]) (rest := []) (wr := (dcore cI cO cZ o h sl us pd co q q2 q3 hf rcd sf uf T m ++ sw cI q3 a3 b3 sg3 ln3 r3 pl3 ov3 lc3 sd3 ++ hst cI st)) C w (c_S_appendEdited hT q2 a2 b2 sg2 ln2 0 0 0 lc sd q a b sg ln r N ov lc sd _ (f + k) f ed num _ _ (RV.empty _ _ v) hO (by omega) (by omega) (by omega) (by omega) (by omega) (by omega)) ml_D_166 im_S_appendEdited se_S_appendEdited ini_S cd_S_appendEdited hd_S_appendEdited rfl (by rw [hRm]; exact ⟨⟨Nat.le_of_ble_eq_true rfl, Nat.le_of_ble_eq_true rfl⟩, Nat.le_of_ble_eq_true rfl, Nat.le_of_ble_eq_true rfl⟩) hl.1 [9, 10, 11, 6, 7, 8] [0, 1, 2, 3, 4, 5, 12, 13, 14, 15, 16, 17, 18, 19, 20, 21, 22, 23, 24, 25, 26, 27, 28, 29, 30, 31, 32, 33, 34, 35, 36, 37, 38] ⟨rfl, rfl, by decide, by decide, by decide⟩ 0 rfl rfl rfl (Nat.le_of_ble_eq_true rfl) d_D_edited_26 (fun z_26 u_26 H locs hz_26 w => ?_)
  obtain ⟨hzz_26, sg_26, ln_26, r_26, pl_26, ov_26, rfl, hV_26⟩ := hz_26
  have w : Wd X (dcore cI cO cZ o h sl us pd co q q2 q3 hf rcd sf uf T m ++ sw cI q a b sg ln r N ov lc sd ++ sw cI q2 a2 b2 sg_26 ln_26 r_26 pl_26 ov_26 lc sd ++ sw cI q3 a3 b3 sg3 ln3 r3 pl3 ov3 lc3 sd3 ++ hst cI st) H locs := w.sub [0, 1, 2, 3, 4, 5, 36, 37, 38, 33, 34, 35, 6, 7, 8, 9, 10, 11, 12, 13, 14, 15, 16, 17, 18, 19, 20, 21, 22, 23, 24, 25, 26, 27, 28, 29, 30, 31, 32] rfl (by decide)
  refine r_istore (pc := 29) (lv' := [(5, .int (iI z_26)), (0, .ref o), (1, .int (iI f)), (2, .int (iI k)), (3, .int (iI ed)), (4, .int (iI num))]) C d_D_edited_29 hl (by decide) rfl (fun ls hl => ?_)
  refine r_aload_n (pc := 31) C d_D_edited_31 rfl (lv_at hl 1 rfl) ?_
  refine r_iload (pc := 32) C d_D_edited_32 (lv_at hl 0 rfl) ?_
  refine r_callVI (pc := 34) (As := [.int (iI z_26)]) (rest := []) (wr := []) C w (c_D_accepted hT o h sl us pd co hf sf rcd m uf T q a b sg ln r N ov lc sd q2 a2 b2 sg_26 ln_26 r_26 pl_26 ov_26 lc sd q3 a3 b3 sg3 ln3 r3 pl3 ov3 lc3 sd3 st z_26 _ v _ hist slot hR hC hV_26 (by omega)) ml_D_55 im_D_accepted se_D_accepted ini_D cd_D_accepted hd_D_accepted rfl (by rw [hRm]; exact ⟨⟨Nat.le_of_ble_eq_true rfl, Nat.le_of_ble_eq_true rfl⟩, Nat.le_of_ble_eq_true rfl, Nat.le_of_ble_eq_true rfl⟩) hl.1 [0, 1, 2, 3, 4, 5, 6, 7, 8, 9, 10, 11, 12, 13, 14, 15, 16, 17, 18, 19, 20, 21, 22, 23, 24, 25, 26, 27, 28, 29, 30, 31, 32, 33, 34, 35, 36, 37, 38] [] ⟨rfl, rfl, by decide, by decide, by decide⟩ 0 rfl rfl rfl (Nat.le_of_ble_eq_true rfl) d_D_edited_34 (fun z_34 u_34 H locs hz_34 w => ?_)
  exact kret _ _ _ _ z_34 _ d_D_edited_37 w (by rcases hz_34 with ⟨f1, f2, rfl⟩ | ⟨f1, f2, A, f3, f4⟩; exact ⟨_, cw_mk hR hC, Or.inr (Or.inl ⟨rfl, f1, f2, rfl⟩)⟩; exact ⟨A, f3, Or.inr (Or.inr ⟨rfl, f1, f2.trans hzz_26, f4⟩)⟩)
def Sp_write (f k x : Int) (A : AS) (z : Int) (A' : AS) : Prop := match A with | ((lc, sd, r, sg, ln, N, v), hist, rcd, slot, uf, T, m) => SpE A z A' (errWr N f k 0 x) (lc) (sd) (N) (edt f (f + k) 0 x v) (ps (edc f (f + k) 0 x v) N)
theorem d_D_write_0 : decode b_D_write 0 = .ok (.aload_n 0, 1) := by decide +kernel
theorem d_D_write_1 : decode b_D_write 1 = .ok (.iload_n 1, 1) := by decide +kernel
theorem d_D_write_2 : decode b_D_write 2 = .ok (.iload_n 2, 1) := by decide +kernel
theorem d_D_write_3 : decode b_D_write 3 = .ok (.invokevirtual 76, 3) := by decide +kernel
theorem d_D_write_6 : decode b_D_write 6 = .ok (.ifCond .ne 5, 3) := by decide +kernel
theorem d_D_write_9 : decode b_D_write 9 = .ok (.iconst (-1), 1) := by decide +kernel
theorem d_D_write_10 : decode b_D_write 10 = .ok (.ireturn, 1) := by decide +kernel
theorem d_D_write_11 : decode b_D_write 11 = .ok (.iload_n 3, 1) := by decide +kernel
theorem d_D_write_12 : decode b_D_write 12 = .ok (.iconst 0, 1) := by decide +kernel
theorem d_D_write_13 : decode b_D_write 13 = .ok (.bipush 9, 2) := by decide +kernel
theorem d_D_write_15 : decode b_D_write 15 = .ok (.invokestatic 44, 3) := by decide +kernel
theorem d_D_write_18 : decode b_D_write 18 = .ok (.ifCond .ne 6, 3) := by decide +kernel
theorem d_D_write_21 : decode b_D_write 21 = .ok (.bipush (-2), 2) := by decide +kernel
theorem d_D_write_23 : decode b_D_write 23 = .ok (.ireturn, 1) := by decide +kernel
theorem d_D_write_24 : decode b_D_write 24 = .ok (.aload_n 0, 1) := by decide +kernel
theorem d_D_write_25 : decode b_D_write 25 = .ok (.iload_n 1, 1) := by decide +kernel
theorem d_D_write_26 : decode b_D_write 26 = .ok (.iload_n 2, 1) := by decide +kernel
theorem d_D_write_27 : decode b_D_write 27 = .ok (.iconst 0, 1) := by decide +kernel
theorem d_D_write_28 : decode b_D_write 28 = .ok (.iload_n 3, 1) := by decide +kernel
theorem d_D_write_29 : decode b_D_write 29 = .ok (.invokevirtual 87, 3) := by decide +kernel
theorem d_D_write_32 : decode b_D_write 32 = .ok (.ireturn, 1) := by decide +kernel
set_option maxHeartbeats 4000000 in
set_option maxRecDepth 20000 in
theorem c_D_write {l : Launch} {G : va_G} {tys : List (ClassId × FieldType)} {cI cO cZ : ClassId} (hT : TY tys cI cO cZ) (o : Nat) (A : AS) (ws : va_W) (hA : CW cI cO cZ o A ws) (f k x : Int) (hrg : (-2147483648 ≤ f ∧ f < 2147483648) ∧ (-2147483648 ≤ k ∧ k < 2147483648) ∧ (-2147483648 ≤ x ∧ x < 2147483648)) : CTI l G tys y_D_write b_D_write 4 .int 4 99 [.ref o, .int (iI f), .int (iI k), .int (iI x)] ws (fun z u => ∃ A' : AS, CW cI cO cZ o A' u ∧ Sp_write f k x A z A') := by
  obtain ⟨⟨lc, sd, r, sg, ln, N, v⟩, hist, rcd, slot, uf, T, m⟩ := A
  obtain ⟨hR, h, sl, us, pd, co, hf, sf, q, a, b, ov, q2, a2, b2, sg2, ln2, r2, pl2, ov2, lc2, sd2, q3, a3, b3, sg3, ln3, r3, pl3, ov3, lc3, sd3, st, rfl, hC⟩ := hA
  have hO := hR.1
  have hr5 := hR.2.1
  have hN3 := hR.2.2.1
  have hN0 := hO.n0
  have hr0 := hO.1
  have hlcd := hR.2.2.2
  have hm80 := hC.2.2.2.2.2.1
  have hrcd6 := hC.2.2.1
  refine mkI (by decide) (Nat.le_of_ble_eq_true rfl) ?_
  rintro X rfl rfl rfl hRm C kret H ls w hl
  have hl : lv_has ls 4 [(0, .ref o), (1, .int (iI f)), (2, .int (iI k)), (3, .int (iI x))] := hl
  have w : Wd X (dcore cI cO cZ o h sl us pd co q q2 q3 hf rcd sf uf T m ++ sw cI q a b sg ln r N ov lc sd ++ sw cI q2 a2 b2 sg2 ln2 r2 pl2 ov2 lc2 sd2 ++ sw cI q3 a3 b3 sg3 ln3 r3 pl3 ov3 lc3 sd3 ++ hst cI st) H [] := w
  generalize ([] : List Loc) = locs at w ⊢
  refine r_aload_n (pc := 0) C d_D_write_0 rfl (lv_at hl 0 rfl) ?_
  refine r_iload_n (pc := 1) C d_D_write_1 rfl (lv_at hl 1 rfl) ?_
  refine r_iload_n (pc := 2) C d_D_write_2 rfl (lv_at hl 2 rfl) ?_
  refine r_callVI (pc := 3) (As := [.int (iI f), .int (iI k)]) (rest := []) (wr := []) C w (c_D_isPiece hT o h sl us pd co hf sf rcd m uf T q a b sg ln r N ov lc sd q2 a2 b2 sg2 ln2 r2 pl2 ov2 lc2 sd2 q3 a3 b3 sg3 ln3 r3 pl3 ov3 lc3 sd3 st f k (by omega) (by omega)) ml_D_76 im_D_isPiece se_D_isPiece ini_D cd_D_isPiece hd_D_isPiece rfl (by rw [hRm]; exact ⟨⟨Nat.le_of_ble_eq_true rfl, Nat.le_of_ble_eq_true rfl⟩, Nat.le_of_ble_eq_true rfl, Nat.le_of_ble_eq_true rfl⟩) hl.1 [0, 1, 2, 3, 4, 5, 6, 7, 8, 9, 10, 11, 12, 13, 14, 15, 16, 17, 18, 19, 20, 21, 22, 23, 24, 25, 26, 27, 28, 29, 30, 31, 32, 33, 34, 35, 36, 37, 38] [] ⟨rfl, rfl, by decide, by decide, by decide⟩ 0 rfl rfl rfl (Nat.le_of_ble_eq_true rfl) d_D_write_3 (fun z_3 u_3 H locs hz_3 w => ?_)
  obtain ⟨rfl, hz_3⟩ := hz_3
  have w : Wd X (dcore cI cO cZ o h sl us pd co q q2 q3 hf rcd sf uf T m ++ sw cI q a b sg ln r N ov lc sd ++ sw cI q2 a2 b2 sg2 ln2 r2 pl2 ov2 lc2 sd2 ++ sw cI q3 a3 b3 sg3 ln3 r3 pl3 ov3 lc3 sd3 ++ hst cI st) H locs := w
  refine r_if_ne (pc := 6) (tgt := 11) C (by omega) d_D_write_6 (by decide) (fun c_6 => ?_) (fun c_6 => ?_)
  · skip
    have hb_6 : 0 ≤ f ∧ 1 ≤ k ∧ k ≤ N - f := by omega
    clear hz_3 c_6
    refine r_iload_n (pc := 11) C d_D_write_11 rfl (lv_at hl 3 rfl) ?_
    refine r_iconst (pc := 12) C d_D_write_12 ?_
    refine r_bipush (pc := 13) C d_D_write_13 (by decide) ?_
    refine r_callP (pc := 15) (As := [.int (iI x), .int (iI 0), .int (iI 9)]) (rest := []) C w (c_D_isWithin x 0 9 (by omega)) ml_D_44 st_D_isWithin ini_D cd_D_isWithin hd_D_isWithin rfl (by rw [hRm]; exact ⟨⟨Nat.le_of_ble_eq_true rfl, Nat.le_of_ble_eq_true rfl⟩, Nat.le_of_ble_eq_true rfl, Nat.le_of_ble_eq_true rfl⟩) hl.1 rfl (Nat.le_of_ble_eq_true rfl) d_D_write_15 (fun z_15 H locs hz_15 w => ?_)
    refine r_if_ne (pc := 18) (tgt := 24) C (by omega) d_D_write_18 (by decide) (fun c_18 => ?_) (fun c_18 => ?_)
    · skip
      have hb_18 : 0 ≤ x ∧ x ≤ 9 := by omega
      clear hz_15 c_18
      refine r_aload_n (pc := 24) C d_D_write_24 rfl (lv_at hl 0 rfl) ?_
      refine r_iload_n (pc := 25) C d_D_write_25 rfl (lv_at hl 1 rfl) ?_
      refine r_iload_n (pc := 26) C d_D_write_26 rfl (lv_at hl 2 rfl) ?_
      refine r_iconst (pc := 27) C d_D_write_27 ?_
      refine r_iload_n (pc := 28) C d_D_write_28 rfl (lv_at hl 3 rfl) ?_
      refine r_callVI (pc := 29) (As := [.int (iI f), .int (iI k), .int (iI 0), .int (iI x)]) (rest := []) (wr := []) C w (c_D_edited hT o h sl us pd co hf sf rcd m uf T q a b sg ln r N ov lc sd q2 a2 b2 sg2 ln2 r2 pl2 ov2 lc2 sd2 q3 a3 b3 sg3 ln3 r3 pl3 ov3 lc3 sd3 st f k 0 x v hist slot hR hC (by omega) (by omega) (by omega)) ml_D_87 im_D_edited se_D_edited ini_D cd_D_edited hd_D_edited rfl (by rw [hRm]; exact ⟨⟨Nat.le_of_ble_eq_true rfl, Nat.le_of_ble_eq_true rfl⟩, Nat.le_of_ble_eq_true rfl, Nat.le_of_ble_eq_true rfl⟩) hl.1 [0, 1, 2, 3, 4, 5, 6, 7, 8, 9, 10, 11, 12, 13, 14, 15, 16, 17, 18, 19, 20, 21, 22, 23, 24, 25, 26, 27, 28, 29, 30, 31, 32, 33, 34, 35, 36, 37, 38] [] ⟨rfl, rfl, by decide, by decide, by decide⟩ 0 rfl rfl rfl (Nat.le_of_ble_eq_true rfl) d_D_write_29 (fun z_29 u_29 H locs hz_29 w => ?_)
      exact kret _ _ _ _ z_29 _ d_D_write_32 w (by obtain ⟨A, f3, f4⟩ := hz_29; have he : errWr N f k 0 x = 0 := by { unfold errWr; (repeat' split) <;> omega }; exact ⟨A, f3, (by rw [he]; exact f4 : SpE ((lc, sd, r, sg, ln, N, v), hist, rcd, slot, uf, T, m) z_29 A (errWr N f k 0 x) lc sd N (edt f (f + k) 0 x v) (ps (edc f (f + k) 0 x v) N))⟩)
    · skip
      have hb_18 : ¬ (0 ≤ x ∧ x ≤ 9) := by omega
      clear hz_15 c_18
      refine r_bipush (pc := 21) C d_D_write_21 (by decide) ?_
      exact kret _ _ _ _ (-2) _ d_D_write_23 w (⟨_, cw_mk hR hC, Or.inl ⟨by unfold errWr; (repeat' split) <;> omega, by unfold errWr; (repeat' split) <;> omega, rfl⟩⟩)
  · skip
    have hb_6 : ¬ (0 ≤ f ∧ 1 ≤ k ∧ k ≤ N - f) := by omega
    clear hz_3 c_6
    refine r_iconst (pc := 9) C d_D_write_9 ?_
    exact kret _ _ _ _ (-1) _ d_D_write_10 w (⟨_, cw_mk hR hC, Or.inl ⟨by unfold errWr; (repeat' split) <;> omega, by unfold errWr; (repeat' split) <;> omega, rfl⟩⟩)
def Sp_add (f k x : Int) (A : AS) (z : Int) (A' : AS) : Prop := match A with | ((lc, sd, r, sg, ln, N, v), hist, rcd, slot, uf, T, m) => SpE A z A' (errWr N f k 1 x) (lc) (sd) (N) (edt f (f + k) 1 x v) (ps (edc f (f + k) 1 x v) N)
theorem d_D_add_0 : decode b_D_add 0 = .ok (.aload_n 0, 1) := by decide +kernel
theorem d_D_add_1 : decode b_D_add 1 = .ok (.iload_n 1, 1) := by decide +kernel
theorem d_D_add_2 : decode b_D_add 2 = .ok (.iload_n 2, 1) := by decide +kernel
theorem d_D_add_3 : decode b_D_add 3 = .ok (.invokevirtual 76, 3) := by decide +kernel
theorem d_D_add_6 : decode b_D_add 6 = .ok (.ifCond .ne 5, 3) := by decide +kernel
theorem d_D_add_9 : decode b_D_add 9 = .ok (.iconst (-1), 1) := by decide +kernel
theorem d_D_add_10 : decode b_D_add 10 = .ok (.ireturn, 1) := by decide +kernel
theorem d_D_add_11 : decode b_D_add 11 = .ok (.iload_n 3, 1) := by decide +kernel
theorem d_D_add_12 : decode b_D_add 12 = .ok (.iconst 1, 1) := by decide +kernel
theorem d_D_add_13 : decode b_D_add 13 = .ok (.bipush 9, 2) := by decide +kernel
theorem d_D_add_15 : decode b_D_add 15 = .ok (.invokestatic 44, 3) := by decide +kernel
theorem d_D_add_18 : decode b_D_add 18 = .ok (.ifCond .ne 6, 3) := by decide +kernel
theorem d_D_add_21 : decode b_D_add 21 = .ok (.bipush (-2), 2) := by decide +kernel
theorem d_D_add_23 : decode b_D_add 23 = .ok (.ireturn, 1) := by decide +kernel
theorem d_D_add_24 : decode b_D_add 24 = .ok (.aload_n 0, 1) := by decide +kernel
theorem d_D_add_25 : decode b_D_add 25 = .ok (.iload_n 1, 1) := by decide +kernel
theorem d_D_add_26 : decode b_D_add 26 = .ok (.iload_n 2, 1) := by decide +kernel
theorem d_D_add_27 : decode b_D_add 27 = .ok (.iconst 1, 1) := by decide +kernel
theorem d_D_add_28 : decode b_D_add 28 = .ok (.iload_n 3, 1) := by decide +kernel
theorem d_D_add_29 : decode b_D_add 29 = .ok (.invokevirtual 87, 3) := by decide +kernel
theorem d_D_add_32 : decode b_D_add 32 = .ok (.ireturn, 1) := by decide +kernel
set_option maxHeartbeats 4000000 in
set_option maxRecDepth 20000 in
theorem c_D_add {l : Launch} {G : va_G} {tys : List (ClassId × FieldType)} {cI cO cZ : ClassId} (hT : TY tys cI cO cZ) (o : Nat) (A : AS) (ws : va_W) (hA : CW cI cO cZ o A ws) (f k x : Int) (hrg : (-2147483648 ≤ f ∧ f < 2147483648) ∧ (-2147483648 ≤ k ∧ k < 2147483648) ∧ (-2147483648 ≤ x ∧ x < 2147483648)) : CTI l G tys y_D_add b_D_add 4 .int 4 99 [.ref o, .int (iI f), .int (iI k), .int (iI x)] ws (fun z u => ∃ A' : AS, CW cI cO cZ o A' u ∧ Sp_add f k x A z A') := by
  obtain ⟨⟨lc, sd, r, sg, ln, N, v⟩, hist, rcd, slot, uf, T, m⟩ := A
  obtain ⟨hR, h, sl, us, pd, co, hf, sf, q, a, b, ov, q2, a2, b2, sg2, ln2, r2, pl2, ov2, lc2, sd2, q3, a3, b3, sg3, ln3, r3, pl3, ov3, lc3, sd3, st, rfl, hC⟩ := hA
  have hO := hR.1
  have hr5 := hR.2.1
  have hN3 := hR.2.2.1
  have hN0 := hO.n0
  have hr0 := hO.1
  have hlcd := hR.2.2.2
  have hm80 := hC.2.2.2.2.2.1
  have hrcd6 := hC.2.2.1
  refine mkI (by decide) (Nat.le_of_ble_eq_true rfl) ?_
  rintro X rfl rfl rfl hRm C kret H ls w hl
  have hl : lv_has ls 4 [(0, .ref o), (1, .int (iI f)), (2, .int (iI k)), (3, .int (iI x))] := hl
  have w : Wd X (dcore cI cO cZ o h sl us pd co q q2 q3 hf rcd sf uf T m ++ sw cI q a b sg ln r N ov lc sd ++ sw cI q2 a2 b2 sg2 ln2 r2 pl2 ov2 lc2 sd2 ++ sw cI q3 a3 b3 sg3 ln3 r3 pl3 ov3 lc3 sd3 ++ hst cI st) H [] := w
  generalize ([] : List Loc) = locs at w ⊢
  refine r_aload_n (pc := 0) C d_D_add_0 rfl (lv_at hl 0 rfl) ?_
  refine r_iload_n (pc := 1) C d_D_add_1 rfl (lv_at hl 1 rfl) ?_
  refine r_iload_n (pc := 2) C d_D_add_2 rfl (lv_at hl 2 rfl) ?_
  refine r_callVI (pc := 3) (As := [.int (iI f), .int (iI k)]) (rest := []) (wr := []) C w (c_D_isPiece hT o h sl us pd co hf sf rcd m uf T q a b sg ln r N ov lc sd q2 a2 b2 sg2 ln2 r2 pl2 ov2 lc2 sd2 q3 a3 b3 sg3 ln3 r3 pl3 ov3 lc3 sd3 st f k (by omega) (by omega)) ml_D_76 im_D_isPiece se_D_isPiece ini_D cd_D_isPiece hd_D_isPiece rfl (by rw [hRm]; exact ⟨⟨Nat.le_of_ble_eq_true rfl, Nat.le_of_ble_eq_true rfl⟩, Nat.le_of_ble_eq_true rfl, Nat.le_of_ble_eq_true rfl⟩) hl.1 [0, 1, 2, 3, 4, 5, 6, 7, 8, 9, 10, 11, 12, 13, 14, 15, 16, 17, 18, 19, 20, 21, 22, 23, 24, 25, 26, 27, 28, 29, 30, 31, 32, 33, 34, 35, 36, 37, 38] [] ⟨rfl, rfl, by decide, by decide, by decide⟩ 0 rfl rfl rfl (Nat.le_of_ble_eq_true rfl) d_D_add_3 (fun z_3 u_3 H locs hz_3 w => ?_)
  obtain ⟨rfl, hz_3⟩ := hz_3
  have w : Wd X (dcore cI cO cZ o h sl us pd co q q2 q3 hf rcd sf uf T m ++ sw cI q a b sg ln r N ov lc sd ++ sw cI q2 a2 b2 sg2 ln2 r2 pl2 ov2 lc2 sd2 ++ sw cI q3 a3 b3 sg3 ln3 r3 pl3 ov3 lc3 sd3 ++ hst cI st) H locs := w
  refine r_if_ne (pc := 6) (tgt := 11) C (by omega) d_D_add_6 (by decide) (fun c_6 => ?_) (fun c_6 => ?_)
  · skip
    have hb_6 : 0 ≤ f ∧ 1 ≤ k ∧ k ≤ N - f := by omega
    clear hz_3 c_6
    refine r_iload_n (pc := 11) C d_D_add_11 rfl (lv_at hl 3 rfl) ?_
    refine r_iconst (pc := 12) C d_D_add_12 ?_
    refine r_bipush (pc := 13) C d_D_add_13 (by decide) ?_
    refine r_callP (pc := 15) (As := [.int (iI x), .int (iI 1), .int (iI 9)]) (rest := []) C w (c_D_isWithin x 1 9 (by omega)) ml_D_44 st_D_isWithin ini_D cd_D_isWithin hd_D_isWithin rfl (by rw [hRm]; exact ⟨⟨Nat.le_of_ble_eq_true rfl, Nat.le_of_ble_eq_true rfl⟩, Nat.le_of_ble_eq_true rfl, Nat.le_of_ble_eq_true rfl⟩) hl.1 rfl (Nat.le_of_ble_eq_true rfl) d_D_add_15 (fun z_15 H locs hz_15 w => ?_)
    refine r_if_ne (pc := 18) (tgt := 24) C (by omega) d_D_add_18 (by decide) (fun c_18 => ?_) (fun c_18 => ?_)
    · skip
      have hb_18 : 1 ≤ x ∧ x ≤ 9 := by omega
      clear hz_15 c_18
      refine r_aload_n (pc := 24) C d_D_add_24 rfl (lv_at hl 0 rfl) ?_
      refine r_iload_n (pc := 25) C d_D_add_25 rfl (lv_at hl 1 rfl) ?_
      refine r_iload_n (pc := 26) C d_D_add_26 rfl (lv_at hl 2 rfl) ?_
      refine r_iconst (pc := 27) C d_D_add_27 ?_
      refine r_iload_n (pc := 28) C d_D_add_28 rfl (lv_at hl 3 rfl) ?_
      refine r_callVI (pc := 29) (As := [.int (iI f), .int (iI k), .int (iI 1), .int (iI x)]) (rest := []) (wr := []) C w (c_D_edited hT o h sl us pd co hf sf rcd m uf T q a b sg ln r N ov lc sd q2 a2 b2 sg2 ln2 r2 pl2 ov2 lc2 sd2 q3 a3 b3 sg3 ln3 r3 pl3 ov3 lc3 sd3 st f k 1 x v hist slot hR hC (by omega) (by omega) (by omega)) ml_D_87 im_D_edited se_D_edited ini_D cd_D_edited hd_D_edited rfl (by rw [hRm]; exact ⟨⟨Nat.le_of_ble_eq_true rfl, Nat.le_of_ble_eq_true rfl⟩, Nat.le_of_ble_eq_true rfl, Nat.le_of_ble_eq_true rfl⟩) hl.1 [0, 1, 2, 3, 4, 5, 6, 7, 8, 9, 10, 11, 12, 13, 14, 15, 16, 17, 18, 19, 20, 21, 22, 23, 24, 25, 26, 27, 28, 29, 30, 31, 32, 33, 34, 35, 36, 37, 38] [] ⟨rfl, rfl, by decide, by decide, by decide⟩ 0 rfl rfl rfl (Nat.le_of_ble_eq_true rfl) d_D_add_29 (fun z_29 u_29 H locs hz_29 w => ?_)
      exact kret _ _ _ _ z_29 _ d_D_add_32 w (by obtain ⟨A, f3, f4⟩ := hz_29; have he : errWr N f k 1 x = 0 := by { unfold errWr; (repeat' split) <;> omega }; exact ⟨A, f3, (by rw [he]; exact f4 : SpE ((lc, sd, r, sg, ln, N, v), hist, rcd, slot, uf, T, m) z_29 A (errWr N f k 1 x) lc sd N (edt f (f + k) 1 x v) (ps (edc f (f + k) 1 x v) N))⟩)
    · skip
      have hb_18 : ¬ (1 ≤ x ∧ x ≤ 9) := by omega
      clear hz_15 c_18
      refine r_bipush (pc := 21) C d_D_add_21 (by decide) ?_
      exact kret _ _ _ _ (-2) _ d_D_add_23 w (⟨_, cw_mk hR hC, Or.inl ⟨by unfold errWr; (repeat' split) <;> omega, by unfold errWr; (repeat' split) <;> omega, rfl⟩⟩)
  · skip
    have hb_6 : ¬ (0 ≤ f ∧ 1 ≤ k ∧ k ≤ N - f) := by omega
    clear hz_3 c_6
    refine r_iconst (pc := 9) C d_D_add_9 ?_
    exact kret _ _ _ _ (-1) _ d_D_add_10 w (⟨_, cw_mk hR hC, Or.inl ⟨by unfold errWr; (repeat' split) <;> omega, by unfold errWr; (repeat' split) <;> omega, rfl⟩⟩)
def Sp_kill (f k : Int) (A : AS) (z : Int) (A' : AS) : Prop := match A with | ((lc, sd, r, sg, ln, N, v), hist, rcd, slot, uf, T, m) => SpE A z A' (pieceE N f k) (lc) (sd) (N) (edt f (f + k) 2 10 v) (ps (edc f (f + k) 2 10 v) N)
theorem d_D_kill_0 : decode b_D_kill 0 = .ok (.aload_n 0, 1) := by decide +kernel
theorem d_D_kill_1 : decode b_D_kill 1 = .ok (.iload_n 1, 1) := by decide +kernel
theorem d_D_kill_2 : decode b_D_kill 2 = .ok (.iload_n 2, 1) := by decide +kernel
theorem d_D_kill_3 : decode b_D_kill 3 = .ok (.invokevirtual 76, 3) := by decide +kernel
theorem d_D_kill_6 : decode b_D_kill 6 = .ok (.ifCond .eq 15, 3) := by decide +kernel
theorem d_D_kill_9 : decode b_D_kill 9 = .ok (.aload_n 0, 1) := by decide +kernel
theorem d_D_kill_10 : decode b_D_kill 10 = .ok (.iload_n 1, 1) := by decide +kernel
theorem d_D_kill_11 : decode b_D_kill 11 = .ok (.iload_n 2, 1) := by decide +kernel
theorem d_D_kill_12 : decode b_D_kill 12 = .ok (.iconst 2, 1) := by decide +kernel
theorem d_D_kill_13 : decode b_D_kill 13 = .ok (.bipush 10, 2) := by decide +kernel
theorem d_D_kill_15 : decode b_D_kill 15 = .ok (.invokevirtual 87, 3) := by decide +kernel
theorem d_D_kill_18 : decode b_D_kill 18 = .ok (.goto 4, 3) := by decide +kernel
theorem d_D_kill_21 : decode b_D_kill 21 = .ok (.iconst (-1), 1) := by decide +kernel
theorem d_D_kill_22 : decode b_D_kill 22 = .ok (.ireturn, 1) := by decide +kernel
set_option maxHeartbeats 4000000 in
set_option maxRecDepth 20000 in
theorem c_D_kill {l : Launch} {G : va_G} {tys : List (ClassId × FieldType)} {cI cO cZ : ClassId} (hT : TY tys cI cO cZ) (o : Nat) (A : AS) (ws : va_W) (hA : CW cI cO cZ o A ws) (f k : Int) (hrg : (-2147483648 ≤ f ∧ f < 2147483648) ∧ (-2147483648 ≤ k ∧ k < 2147483648)) : CTI l G tys y_D_kill b_D_kill 3 .int 4 99 [.ref o, .int (iI f), .int (iI k)] ws (fun z u => ∃ A' : AS, CW cI cO cZ o A' u ∧ Sp_kill f k A z A') := by
  obtain ⟨⟨lc, sd, r, sg, ln, N, v⟩, hist, rcd, slot, uf, T, m⟩ := A
  obtain ⟨hR, h, sl, us, pd, co, hf, sf, q, a, b, ov, q2, a2, b2, sg2, ln2, r2, pl2, ov2, lc2, sd2, q3, a3, b3, sg3, ln3, r3, pl3, ov3, lc3, sd3, st, rfl, hC⟩ := hA
  have hO := hR.1
  have hr5 := hR.2.1
  have hN3 := hR.2.2.1
  have hN0 := hO.n0
  have hr0 := hO.1
  have hlcd := hR.2.2.2
  have hm80 := hC.2.2.2.2.2.1
  have hrcd6 := hC.2.2.1
  refine mkI (by decide) (Nat.le_of_ble_eq_true rfl) ?_
  rintro X rfl rfl rfl hRm C kret H ls w hl
  have hl : lv_has ls 3 [(0, .ref o), (1, .int (iI f)), (2, .int (iI k))] := hl
  have w : Wd X (dcore cI cO cZ o h sl us pd co q q2 q3 hf rcd sf uf T m ++ sw cI q a b sg ln r N ov lc sd ++ sw cI q2 a2 b2 sg2 ln2 r2 pl2 ov2 lc2 sd2 ++ sw cI q3 a3 b3 sg3 ln3 r3 pl3 ov3 lc3 sd3 ++ hst cI st) H [] := w
  generalize ([] : List Loc) = locs at w ⊢
  refine r_aload_n (pc := 0) C d_D_kill_0 rfl (lv_at hl 0 rfl) ?_
  refine r_iload_n (pc := 1) C d_D_kill_1 rfl (lv_at hl 1 rfl) ?_
  refine r_iload_n (pc := 2) C d_D_kill_2 rfl (lv_at hl 2 rfl) ?_
  refine r_callVI (pc := 3) (As := [.int (iI f), .int (iI k)]) (rest := []) (wr := []) C w (c_D_isPiece hT o h sl us pd co hf sf rcd m uf T q a b sg ln r N ov lc sd q2 a2 b2 sg2 ln2 r2 pl2 ov2 lc2 sd2 q3 a3 b3 sg3 ln3 r3 pl3 ov3 lc3 sd3 st f k (by omega) (by omega)) ml_D_76 im_D_isPiece se_D_isPiece ini_D cd_D_isPiece hd_D_isPiece rfl (by rw [hRm]; exact ⟨⟨Nat.le_of_ble_eq_true rfl, Nat.le_of_ble_eq_true rfl⟩, Nat.le_of_ble_eq_true rfl, Nat.le_of_ble_eq_true rfl⟩) hl.1 [0, 1, 2, 3, 4, 5, 6, 7, 8, 9, 10, 11, 12, 13, 14, 15, 16, 17, 18, 19, 20, 21, 22, 23, 24, 25, 26, 27, 28, 29, 30, 31, 32, 33, 34, 35, 36, 37, 38] [] ⟨rfl, rfl, by decide, by decide, by decide⟩ 0 rfl rfl rfl (Nat.le_of_ble_eq_true rfl) d_D_kill_3 (fun z_3 u_3 H locs hz_3 w => ?_)
  obtain ⟨rfl, hz_3⟩ := hz_3
  have w : Wd X (dcore cI cO cZ o h sl us pd co q q2 q3 hf rcd sf uf T m ++ sw cI q a b sg ln r N ov lc sd ++ sw cI q2 a2 b2 sg2 ln2 r2 pl2 ov2 lc2 sd2 ++ sw cI q3 a3 b3 sg3 ln3 r3 pl3 ov3 lc3 sd3 ++ hst cI st) H locs := w
  refine r_if_eq (pc := 6) (tgt := 21) C (by omega) d_D_kill_6 (by decide) (fun c_6 => ?_) (fun c_6 => ?_)
  · skip
    have hb_6 : ¬ (0 ≤ f ∧ 1 ≤ k ∧ k ≤ N - f) := by omega
    clear hz_3 c_6
    refine r_iconst (pc := 21) C d_D_kill_21 ?_
    exact kret _ _ _ _ (-1) _ d_D_kill_22 w (⟨_, cw_mk hR hC, Or.inl ⟨by unfold pieceE; (repeat' split) <;> omega, by unfold pieceE; (repeat' split) <;> omega, rfl⟩⟩)
  · skip
    have hb_6 : 0 ≤ f ∧ 1 ≤ k ∧ k ≤ N - f := by omega
    clear hz_3 c_6
    refine r_aload_n (pc := 9) C d_D_kill_9 rfl (lv_at hl 0 rfl) ?_
    refine r_iload_n (pc := 10) C d_D_kill_10 rfl (lv_at hl 1 rfl) ?_
    refine r_iload_n (pc := 11) C d_D_kill_11 rfl (lv_at hl 2 rfl) ?_
    refine r_iconst (pc := 12) C d_D_kill_12 ?_
    refine r_bipush (pc := 13) C d_D_kill_13 (by decide) ?_
    refine r_callVI (pc := 15) (As := [.int (iI f), .int (iI k), .int (iI 2), .int (iI 10)]) (rest := []) (wr := []) C w (c_D_edited hT o h sl us pd co hf sf rcd m uf T q a b sg ln r N ov lc sd q2 a2 b2 sg2 ln2 r2 pl2 ov2 lc2 sd2 q3 a3 b3 sg3 ln3 r3 pl3 ov3 lc3 sd3 st f k 2 10 v hist slot hR hC (by omega) (by omega) (by omega)) ml_D_87 im_D_edited se_D_edited ini_D cd_D_edited hd_D_edited rfl (by rw [hRm]; exact ⟨⟨Nat.le_of_ble_eq_true rfl, Nat.le_of_ble_eq_true rfl⟩, Nat.le_of_ble_eq_true rfl, Nat.le_of_ble_eq_true rfl⟩) hl.1 [0, 1, 2, 3, 4, 5, 6, 7, 8, 9, 10, 11, 12, 13, 14, 15, 16, 17, 18, 19, 20, 21, 22, 23, 24, 25, 26, 27, 28, 29, 30, 31, 32, 33, 34, 35, 36, 37, 38] [] ⟨rfl, rfl, by decide, by decide, by decide⟩ 0 rfl rfl rfl (Nat.le_of_ble_eq_true rfl) d_D_kill_15 (fun z_15 u_15 H locs hz_15 w => ?_)
    refine r_goto (pc := 18) (tgt := 22) C d_D_kill_18 (by decide) ?_
    exact kret _ _ _ _ z_15 _ d_D_kill_22 w (by obtain ⟨A, f3, f4⟩ := hz_15; have he : pieceE N f k = 0 := by { unfold pieceE; (repeat' split) <;> omega }; exact ⟨A, f3, (by rw [he]; exact f4 : SpE ((lc, sd, r, sg, ln, N, v), hist, rcd, slot, uf, T, m) z_15 A (pieceE N f k) lc sd N (edt f (f + k) 2 10 v) (ps (edc f (f + k) 2 10 v) N))⟩)
def Sp_revive (f k : Int) (A : AS) (z : Int) (A' : AS) : Prop := match A with | ((lc, sd, r, sg, ln, N, v), hist, rcd, slot, uf, T, m) => SpE A z A' (pieceE N f k) (lc) (sd) (N) (edt f (f + k) 3 0 v) (ps (edc f (f + k) 3 0 v) N)
theorem d_D_revive_0 : decode b_D_revive 0 = .ok (.aload_n 0, 1) := by decide +kernel
theorem d_D_revive_1 : decode b_D_revive 1 = .ok (.iload_n 1, 1) := by decide +kernel
theorem d_D_revive_2 : decode b_D_revive 2 = .ok (.iload_n 2, 1) := by decide +kernel
theorem d_D_revive_3 : decode b_D_revive 3 = .ok (.invokevirtual 76, 3) := by decide +kernel
theorem d_D_revive_6 : decode b_D_revive 6 = .ok (.ifCond .eq 14, 3) := by decide +kernel
theorem d_D_revive_9 : decode b_D_revive 9 = .ok (.aload_n 0, 1) := by decide +kernel
theorem d_D_revive_10 : decode b_D_revive 10 = .ok (.iload_n 1, 1) := by decide +kernel
theorem d_D_revive_11 : decode b_D_revive 11 = .ok (.iload_n 2, 1) := by decide +kernel
theorem d_D_revive_12 : decode b_D_revive 12 = .ok (.iconst 3, 1) := by decide +kernel
theorem d_D_revive_13 : decode b_D_revive 13 = .ok (.iconst 0, 1) := by decide +kernel
theorem d_D_revive_14 : decode b_D_revive 14 = .ok (.invokevirtual 87, 3) := by decide +kernel
theorem d_D_revive_17 : decode b_D_revive 17 = .ok (.goto 4, 3) := by decide +kernel
theorem d_D_revive_20 : decode b_D_revive 20 = .ok (.iconst (-1), 1) := by decide +kernel
theorem d_D_revive_21 : decode b_D_revive 21 = .ok (.ireturn, 1) := by decide +kernel
set_option maxHeartbeats 4000000 in
set_option maxRecDepth 20000 in
theorem c_D_revive {l : Launch} {G : va_G} {tys : List (ClassId × FieldType)} {cI cO cZ : ClassId} (hT : TY tys cI cO cZ) (o : Nat) (A : AS) (ws : va_W) (hA : CW cI cO cZ o A ws) (f k : Int) (hrg : (-2147483648 ≤ f ∧ f < 2147483648) ∧ (-2147483648 ≤ k ∧ k < 2147483648)) : CTI l G tys y_D_revive b_D_revive 3 .int 4 99 [.ref o, .int (iI f), .int (iI k)] ws (fun z u => ∃ A' : AS, CW cI cO cZ o A' u ∧ Sp_revive f k A z A') := by
  obtain ⟨⟨lc, sd, r, sg, ln, N, v⟩, hist, rcd, slot, uf, T, m⟩ := A
  obtain ⟨hR, h, sl, us, pd, co, hf, sf, q, a, b, ov, q2, a2, b2, sg2, ln2, r2, pl2, ov2, lc2, sd2, q3, a3, b3, sg3, ln3, r3, pl3, ov3, lc3, sd3, st, rfl, hC⟩ := hA
  have hO := hR.1
  have hr5 := hR.2.1
  have hN3 := hR.2.2.1
  have hN0 := hO.n0
  have hr0 := hO.1
  have hlcd := hR.2.2.2
  have hm80 := hC.2.2.2.2.2.1
  have hrcd6 := hC.2.2.1
  refine mkI (by decide) (Nat.le_of_ble_eq_true rfl) ?_
  rintro X rfl rfl rfl hRm C kret H ls w hl
  have hl : lv_has ls 3 [(0, .ref o), (1, .int (iI f)), (2, .int (iI k))] := hl
  have w : Wd X (dcore cI cO cZ o h sl us pd co q q2 q3 hf rcd sf uf T m ++ sw cI q a b sg ln r N ov lc sd ++ sw cI q2 a2 b2 sg2 ln2 r2 pl2 ov2 lc2 sd2 ++ sw cI q3 a3 b3 sg3 ln3 r3 pl3 ov3 lc3 sd3 ++ hst cI st) H [] := w
  generalize ([] : List Loc) = locs at w ⊢
  refine r_aload_n (pc := 0) C d_D_revive_0 rfl (lv_at hl 0 rfl) ?_
  refine r_iload_n (pc := 1) C d_D_revive_1 rfl (lv_at hl 1 rfl) ?_
  refine r_iload_n (pc := 2) C d_D_revive_2 rfl (lv_at hl 2 rfl) ?_
  refine r_callVI (pc := 3) (As := [.int (iI f), .int (iI k)]) (rest := []) (wr := []) C w (c_D_isPiece hT o h sl us pd co hf sf rcd m uf T q a b sg ln r N ov lc sd q2 a2 b2 sg2 ln2 r2 pl2 ov2 lc2 sd2 q3 a3 b3 sg3 ln3 r3 pl3 ov3 lc3 sd3 st f k (by omega) (by omega)) ml_D_76 im_D_isPiece se_D_isPiece ini_D cd_D_isPiece hd_D_isPiece rfl (by rw [hRm]; exact ⟨⟨Nat.le_of_ble_eq_true rfl, Nat.le_of_ble_eq_true rfl⟩, Nat.le_of_ble_eq_true rfl, Nat.le_of_ble_eq_true rfl⟩) hl.1 [0, 1, 2, 3, 4, 5, 6, 7, 8, 9, 10, 11, 12, 13, 14, 15, 16, 17, 18, 19, 20, 21, 22, 23, 24, 25, 26, 27, 28, 29, 30, 31, 32, 33, 34, 35, 36, 37, 38] [] ⟨rfl, rfl, by decide, by decide, by decide⟩ 0 rfl rfl rfl (Nat.le_of_ble_eq_true rfl) d_D_revive_3 (fun z_3 u_3 H locs hz_3 w => ?_)
  obtain ⟨rfl, hz_3⟩ := hz_3
  have w : Wd X (dcore cI cO cZ o h sl us pd co q q2 q3 hf rcd sf uf T m ++ sw cI q a b sg ln r N ov lc sd ++ sw cI q2 a2 b2 sg2 ln2 r2 pl2 ov2 lc2 sd2 ++ sw cI q3 a3 b3 sg3 ln3 r3 pl3 ov3 lc3 sd3 ++ hst cI st) H locs := w
  refine r_if_eq (pc := 6) (tgt := 20) C (by omega) d_D_revive_6 (by decide) (fun c_6 => ?_) (fun c_6 => ?_)
  · skip
    have hb_6 : ¬ (0 ≤ f ∧ 1 ≤ k ∧ k ≤ N - f) := by omega
    clear hz_3 c_6
    refine r_iconst (pc := 20) C d_D_revive_20 ?_
    exact kret _ _ _ _ (-1) _ d_D_revive_21 w (⟨_, cw_mk hR hC, Or.inl ⟨by unfold pieceE; (repeat' split) <;> omega, by unfold pieceE; (repeat' split) <;> omega, rfl⟩⟩)
  · skip
    have hb_6 : 0 ≤ f ∧ 1 ≤ k ∧ k ≤ N - f := by omega
    clear hz_3 c_6
    refine r_aload_n (pc := 9) C d_D_revive_9 rfl (lv_at hl 0 rfl) ?_
    refine r_iload_n (pc := 10) C d_D_revive_10 rfl (lv_at hl 1 rfl) ?_
    refine r_iload_n (pc := 11) C d_D_revive_11 rfl (lv_at hl 2 rfl) ?_
    refine r_iconst (pc := 12) C d_D_revive_12 ?_
    refine r_iconst (pc := 13) C d_D_revive_13 ?_
    refine r_callVI (pc := 14) (As := [.int (iI f), .int (iI k), .int (iI 3), .int (iI 0)]) (rest := []) (wr := []) C w (c_D_edited hT o h sl us pd co hf sf rcd m uf T q a b sg ln r N ov lc sd q2 a2 b2 sg2 ln2 r2 pl2 ov2 lc2 sd2 q3 a3 b3 sg3 ln3 r3 pl3 ov3 lc3 sd3 st f k 3 0 v hist slot hR hC (by omega) (by omega) (by omega)) ml_D_87 im_D_edited se_D_edited ini_D cd_D_edited hd_D_edited rfl (by rw [hRm]; exact ⟨⟨Nat.le_of_ble_eq_true rfl, Nat.le_of_ble_eq_true rfl⟩, Nat.le_of_ble_eq_true rfl, Nat.le_of_ble_eq_true rfl⟩) hl.1 [0, 1, 2, 3, 4, 5, 6, 7, 8, 9, 10, 11, 12, 13, 14, 15, 16, 17, 18, 19, 20, 21, 22, 23, 24, 25, 26, 27, 28, 29, 30, 31, 32, 33, 34, 35, 36, 37, 38] [] ⟨rfl, rfl, by decide, by decide, by decide⟩ 0 rfl rfl rfl (Nat.le_of_ble_eq_true rfl) d_D_revive_14 (fun z_14 u_14 H locs hz_14 w => ?_)
    refine r_goto (pc := 17) (tgt := 21) C d_D_revive_17 (by decide) ?_
    exact kret _ _ _ _ z_14 _ d_D_revive_21 w (by obtain ⟨A, f3, f4⟩ := hz_14; have he : pieceE N f k = 0 := by { unfold pieceE; (repeat' split) <;> omega }; exact ⟨A, f3, (by rw [he]; exact f4 : SpE ((lc, sd, r, sg, ln, N, v), hist, rcd, slot, uf, T, m) z_14 A (pieceE N f k) lc sd N (edt f (f + k) 3 0 v) (ps (edc f (f + k) 3 0 v) N))⟩)
end
section
/-! turn, move, undo, save, restore -/
theorem turned_rc {N f e r : Int} {v w0 sg ln : Int → Int} (hO : Ok r sg ln N v) (hf : 0 ≤ f ∧ f ≤ e ∧ e ≤ N) : ∀ j, 0 ≤ j → j ≤ r → rc (tv 1 v e 0 w0 (max 0 (e - max (ps ln (r - j)) f))) (tn 1 v e 0 (max 0 (e - max (ps ln (r - j)) f))) ≤ j := by
  refine int_ind (fun _ => ?_) (fun j hj ih h => ?_)
  · rw [show r - 0 = r by omega, hO.2.2.2.1, show max 0 (e - max N f) = 0 by omega, tn_zero, rc_zero]
    exact Int.le_refl 0
  · have ih := ih (by omega)
    have hk := hO.run (k := r - (j + 1)) (by omega) (by omega)
    rw [show r - (j + 1) + 1 = r - j by omega] at hk
    by_cases q : sg (r - (j + 1)) = 10
    · have h3 := turned_over (n := 0) (f := f) (e := e) (ol := 1) (S := ps ln (r - j)) (T := ps ln (r - (j + 1))) (v := w0) hO (k := r - (j + 1)) (by omega) (by omega) (by rw [show r - (j + 1) + 1 = r - j by omega]) (by omega) (by omega) hf
      rw [h3.1, h3.2]
      omega
    · obtain ⟨a1, a2⟩ := turned_keep (ol := 1) (e := e) (n := 0) (s := sg (r - (j + 1))) (u := v) (v := w0) (d := max 0 (e - max (ps ln (r - j)) f)) (by omega) (Or.inr q) (max 0 (e - max (ps ln (r - (j + 1))) f) - max 0 (e - max (ps ln (r - j)) f)) (by omega) (fun x q1 q2 => hO.2.2.2.2 (r - (j + 1)) (by omega) (by omega) x (by omega) (by rw [show r - (j + 1) + 1 = r - j by omega]; omega))
      rw [show max 0 (e - max (ps ln (r - j)) f) + (max 0 (e - max (ps ln (r - (j + 1))) f) - max 0 (e - max (ps ln (r - j)) f)) = max 0 (e - max (ps ln (r - (j + 1))) f) by omega] at a1 a2
      have hn := tn_ge 1 v e 0 (max 0 (e - max (ps ln (r - j)) f)) (by omega)
      rw [a1, rc_congr _ (by omega) (fun x h1 h2 => a2 x h2)]
      by_cases z : max 0 (e - max (ps ln (r - (j + 1))) f) - max 0 (e - max (ps ln (r - j)) f) = 0
      · rw [z, Int.add_zero, rc_congr (u := tv 1 v e 0 w0 (max 0 (e - max (ps ln (r - j)) f))) _ (by omega) (fun x h1 h2 => app_lt h2)]
        omega
      · rw [rc_app (by omega) (by omega)]
        split <;> omega
theorem rc_change {v : Int → Int} {a : Int} (ha : 1 ≤ a) : ∀ m, 0 ≤ m → v (a - 1 + m) ≠ v (a - 1) → rc v a + 1 ≤ rc v (a + m) := by
  refine int_ind (fun h => absurd (by rw [Int.add_zero]) h) (fun m hm ih h => ?_)
  have h1 := rc_succ v (k := a + m) (by omega)
  rw [Int.add_assoc] at h1
  have h2 := rc_mono v (a := a) (by omega) m hm
  by_cases q : v (a - 1 + m) = v (a - 1)
  · rw [if_pos (Or.inr (by rw [show a + m - 1 = a - 1 + m by omega, show a + m = a - 1 + (m + 1) by omega, q]; exact h))] at h1
    omega
  · have := ih q
    split at h1 <;> omega
theorem rc_del {v : Int → Int} {f k N : Int} (hf : 0 ≤ f) (hk : 0 ≤ k) (hN : f + k ≤ N) : rc (del v f k) (N - k) ≤ rc v N := by
  have e0 : rc (del v f k) f = rc v f := rc_congr f hf (fun x _ h => by unfold del; rw [if_pos h])
  have key : ∀ j, 0 ≤ j → rc (del v f k) (f + j) ≤ rc v (f + k + j) := by
    refine int_ind (by rw [Int.add_zero, Int.add_zero, e0]; exact rc_mono v hf k hk) (fun j hj ih => ?_)
    have h1 := rc_succ (del v f k) (k := f + j) (by omega)
    have h2 := rc_succ v (k := f + k + j) (by omega)
    rw [Int.add_assoc] at h1 h2
    rw [h1, h2]
    have d1 : del v f k (f + j) = v (f + k + j) := by unfold del; rw [if_neg (by omega)]; congr 1; omega
    by_cases hj0 : j = 0
    · subst hj0
      simp only [Int.add_zero] at *
      by_cases hf0 : f = 0
      · subst hf0
        rw [e0, rc_zero, if_pos (Or.inl rfl)]
        by_cases hk0 : k = 0
        · subst hk0; simp [rc_zero]
        · have h3 := rc_mono v (a := 1) (by omega) (k - 1) (by omega)
          have h4 := rc_succ v (k := 0) (by omega)
          rw [rc_zero, if_pos (Or.inl rfl)] at h4
          rw [show (1 : Int) + (k - 1) = 0 + k by omega] at h3
          have h4 : rc v 1 = 1 := h4
          split <;> omega
      · have d2 : del v f k (f - 1) = v (f - 1) := by unfold del; rw [if_pos (by omega)]
        rw [e0, d1, d2]
        have h3 := rc_mono v hf k hk
        by_cases q : v (f + k) = v (f - 1)
        · rw [if_neg (by rw [q]; intro z; rcases z with z | z; exact hf0 z; exact z rfl)]
          split <;> omega
        · have h4 := rc_change (v := v) (a := f) (by omega) (k + 1) (by omega) (by rw [show f - 1 + (k + 1) = f + k by omega]; exact q)
          have h5 := rc_succ v (k := f + k) (by omega)
          rw [show f + (k + 1) = f + k + 1 by omega, h5] at h4
          rw [if_pos (Or.inr q)]
          exact h4
    · have d2 : del v f k (f + j - 1) = v (f + k + j - 1) := by unfold del; rw [if_neg (by omega)]; congr 1; omega
      rw [d1, d2]
      have c1 : (f + j = 0 ∨ v (f + k + j) ≠ v (f + k + j - 1)) ↔ (f + k + j = 0 ∨ v (f + k + j) ≠ v (f + k + j - 1)) := by
        constructor <;> (intro z; rcases z with z | z; omega; exact Or.inr z)
      simp only [c1]
      omega
  have := key (N - k - f) (by omega)
  rw [show f + (N - k - f) = N - k by omega, show f + k + (N - k - f) = N by omega] at this
  exact this
def h6 (cI : ClassId) (st : Int → SD) : va_W := swd cI (st 0) ++ (swd cI (st 1) ++ (swd cI (st 2) ++ (swd cI (st 3) ++ (swd cI (st 4) ++ swd cI (st 5)))))
theorem hst_up6 {cI : ClassId} {st : Int → SD} {d : SD} : hst cI (up st 6 d) = h6 cI st ++ (swd cI d ++ swd cI (st 7)) := by
  unfold hst h6
  rw [up_eq, up_ne st d (by omega : (0 : Int) ≠ 6), up_ne st d (by omega : (1 : Int) ≠ 6), up_ne st d (by omega : (2 : Int) ≠ 6), up_ne st d (by omega : (3 : Int) ≠ 6), up_ne st d (by omega : (4 : Int) ≠ 6), up_ne st d (by omega : (5 : Int) ≠ 6), up_ne st d (by omega : (7 : Int) ≠ 6)]
  rfl
theorem hst_up7 {cI : ClassId} {st : Int → SD} {d : SD} : hst cI (up st 7 d) = h6 cI st ++ (swd cI (st 6) ++ swd cI d) := by
  unfold hst h6
  rw [up_eq, up_ne st d (by omega : (0 : Int) ≠ 7), up_ne st d (by omega : (1 : Int) ≠ 7), up_ne st d (by omega : (2 : Int) ≠ 7), up_ne st d (by omega : (3 : Int) ≠ 7), up_ne st d (by omega : (4 : Int) ≠ 7), up_ne st d (by omega : (5 : Int) ≠ 7), up_ne st d (by omega : (6 : Int) ≠ 7)]
  rfl
theorem SR_out {d : SD} {w : Rw} (h : SR d w) : d.2.2.2.1 = w.2.2.2.1 ∧ d.2.2.2.2.1 = w.2.2.2.2.1 ∧ d.2.2.2.2.2.1 = w.2.2.1 ∧ d.2.2.2.2.2.2.1 = w.2.2.2.2.2.1 ∧ d.2.2.2.2.2.2.2.2.1 = w.1 ∧ d.2.2.2.2.2.2.2.2.2 = w.2.1 ∧ RwOk w.1 w.2.1 w.2.2.1 w.2.2.2.1 w.2.2.2.2.1 w.2.2.2.2.2.1 w.2.2.2.2.2.2 := by
  obtain ⟨q, a, b, sg, ln, r, pl, ov, lc, sd⟩ := d
  obtain ⟨lc', sd', r', sg', ln', N', v'⟩ := w
  exact h

def Sp_turn (f k : Int) (A : AS) (z : Int) (A' : AS) : Prop := match A with | ((lc, sd, r, sg, ln, N, v), hist, rcd, slot, uf, T, m) => SpE A z A' (pieceE N f k) (lc) (sd) (N) (trn sd v f (f + k)) (rc (trn sd v f (f + k)) N)
theorem d_D_turn_0 : decode b_D_turn 0 = .ok (.aload_n 0, 1) := by decide +kernel
theorem d_D_turn_1 : decode b_D_turn 1 = .ok (.iload_n 1, 1) := by decide +kernel
theorem d_D_turn_2 : decode b_D_turn 2 = .ok (.iload_n 2, 1) := by decide +kernel
theorem d_D_turn_3 : decode b_D_turn 3 = .ok (.invokevirtual 76, 3) := by decide +kernel
theorem d_D_turn_6 : decode b_D_turn 6 = .ok (.ifCond .ne 5, 3) := by decide +kernel
theorem d_D_turn_9 : decode b_D_turn 9 = .ok (.iconst (-1), 1) := by decide +kernel
theorem d_D_turn_10 : decode b_D_turn 10 = .ok (.ireturn, 1) := by decide +kernel
theorem d_D_turn_11 : decode b_D_turn 11 = .ok (.iload_n 1, 1) := by decide +kernel
theorem d_D_turn_12 : decode b_D_turn 12 = .ok (.iload_n 2, 1) := by decide +kernel
theorem d_D_turn_13 : decode b_D_turn 13 = .ok (.iadd, 1) := by decide +kernel
theorem d_D_turn_14 : decode b_D_turn 14 = .ok (.istore_n 3, 1) := by decide +kernel
theorem d_D_turn_15 : decode b_D_turn 15 = .ok (.aload_n 0, 1) := by decide +kernel
theorem d_D_turn_16 : decode b_D_turn 16 = .ok (.getfield 16, 3) := by decide +kernel
theorem d_D_turn_19 : decode b_D_turn 19 = .ok (.aload_n 0, 1) := by decide +kernel
theorem d_D_turn_20 : decode b_D_turn 20 = .ok (.getfield 10, 3) := by decide +kernel
theorem d_D_turn_23 : decode b_D_turn 23 = .ok (.invokevirtual 65, 3) := by decide +kernel
theorem d_D_turn_26 : decode b_D_turn 26 = .ok (.aload_n 0, 1) := by decide +kernel
theorem d_D_turn_27 : decode b_D_turn 27 = .ok (.getfield 16, 3) := by decide +kernel
theorem d_D_turn_30 : decode b_D_turn 30 = .ok (.aload_n 0, 1) := by decide +kernel
theorem d_D_turn_31 : decode b_D_turn 31 = .ok (.getfield 10, 3) := by decide +kernel
theorem d_D_turn_34 : decode b_D_turn 34 = .ok (.iconst 0, 1) := by decide +kernel
theorem d_D_turn_35 : decode b_D_turn 35 = .ok (.iload_n 1, 1) := by decide +kernel
theorem d_D_turn_36 : decode b_D_turn 36 = .ok (.invokevirtual 68, 3) := by decide +kernel
theorem d_D_turn_39 : decode b_D_turn 39 = .ok (.aload_n 0, 1) := by decide +kernel
theorem d_D_turn_40 : decode b_D_turn 40 = .ok (.getfield 10, 3) := by decide +kernel
theorem d_D_turn_43 : decode b_D_turn 43 = .ok (.getfield 59, 3) := by decide +kernel
theorem d_D_turn_46 : decode b_D_turn 46 = .ok (.iconst 1, 1) := by decide +kernel
theorem d_D_turn_47 : decode b_D_turn 47 = .ok (.if_icmp .ne 48, 3) := by decide +kernel
theorem d_D_turn_50 : decode b_D_turn 50 = .ok (.aload_n 0, 1) := by decide +kernel
theorem d_D_turn_51 : decode b_D_turn 51 = .ok (.getfield 19, 3) := by decide +kernel
theorem d_D_turn_54 : decode b_D_turn 54 = .ok (.aload_n 0, 1) := by decide +kernel
theorem d_D_turn_55 : decode b_D_turn 55 = .ok (.getfield 10, 3) := by decide +kernel
theorem d_D_turn_58 : decode b_D_turn 58 = .ok (.invokevirtual 65, 3) := by decide +kernel
theorem d_D_turn_61 : decode b_D_turn 61 = .ok (.aload_n 0, 1) := by decide +kernel
theorem d_D_turn_62 : decode b_D_turn 62 = .ok (.getfield 19, 3) := by decide +kernel
theorem d_D_turn_65 : decode b_D_turn 65 = .ok (.aload_n 0, 1) := by decide +kernel
theorem d_D_turn_66 : decode b_D_turn 66 = .ok (.getfield 10, 3) := by decide +kernel
theorem d_D_turn_69 : decode b_D_turn 69 = .ok (.iload_n 1, 1) := by decide +kernel
theorem d_D_turn_70 : decode b_D_turn 70 = .ok (.iload_n 3, 1) := by decide +kernel
theorem d_D_turn_71 : decode b_D_turn 71 = .ok (.iconst 1, 1) := by decide +kernel
theorem d_D_turn_72 : decode b_D_turn 72 = .ok (.invokevirtual 91, 3) := by decide +kernel
theorem d_D_turn_75 : decode b_D_turn 75 = .ok (.aload_n 0, 1) := by decide +kernel
theorem d_D_turn_76 : decode b_D_turn 76 = .ok (.getfield 16, 3) := by decide +kernel
theorem d_D_turn_79 : decode b_D_turn 79 = .ok (.aload_n 0, 1) := by decide +kernel
theorem d_D_turn_80 : decode b_D_turn 80 = .ok (.getfield 19, 3) := by decide +kernel
theorem d_D_turn_83 : decode b_D_turn 83 = .ok (.aload_n 0, 1) := by decide +kernel
theorem d_D_turn_84 : decode b_D_turn 84 = .ok (.getfield 10, 3) := by decide +kernel
theorem d_D_turn_87 : decode b_D_turn 87 = .ok (.iload_n 1, 1) := by decide +kernel
theorem d_D_turn_88 : decode b_D_turn 88 = .ok (.iload_n 3, 1) := by decide +kernel
theorem d_D_turn_89 : decode b_D_turn 89 = .ok (.invokevirtual 95, 3) := by decide +kernel
theorem d_D_turn_92 : decode b_D_turn 92 = .ok (.goto 17, 3) := by decide +kernel
theorem d_D_turn_95 : decode b_D_turn 95 = .ok (.aload_n 0, 1) := by decide +kernel
theorem d_D_turn_96 : decode b_D_turn 96 = .ok (.getfield 16, 3) := by decide +kernel
theorem d_D_turn_99 : decode b_D_turn 99 = .ok (.aload_n 0, 1) := by decide +kernel
theorem d_D_turn_100 : decode b_D_turn 100 = .ok (.getfield 10, 3) := by decide +kernel
theorem d_D_turn_103 : decode b_D_turn 103 = .ok (.iload_n 1, 1) := by decide +kernel
theorem d_D_turn_104 : decode b_D_turn 104 = .ok (.iload_n 3, 1) := by decide +kernel
theorem d_D_turn_105 : decode b_D_turn 105 = .ok (.iconst 0, 1) := by decide +kernel
theorem d_D_turn_106 : decode b_D_turn 106 = .ok (.invokevirtual 91, 3) := by decide +kernel
theorem d_D_turn_109 : decode b_D_turn 109 = .ok (.aload_n 0, 1) := by decide +kernel
theorem d_D_turn_110 : decode b_D_turn 110 = .ok (.getfield 16, 3) := by decide +kernel
theorem d_D_turn_113 : decode b_D_turn 113 = .ok (.aload_n 0, 1) := by decide +kernel
theorem d_D_turn_114 : decode b_D_turn 114 = .ok (.getfield 10, 3) := by decide +kernel
theorem d_D_turn_117 : decode b_D_turn 117 = .ok (.iload_n 3, 1) := by decide +kernel
theorem d_D_turn_118 : decode b_D_turn 118 = .ok (.aload_n 0, 1) := by decide +kernel
theorem d_D_turn_119 : decode b_D_turn 119 = .ok (.getfield 10, 3) := by decide +kernel
theorem d_D_turn_122 : decode b_D_turn 122 = .ok (.getfield 62, 3) := by decide +kernel
theorem d_D_turn_125 : decode b_D_turn 125 = .ok (.invokevirtual 68, 3) := by decide +kernel
theorem d_D_turn_128 : decode b_D_turn 128 = .ok (.aload_n 0, 1) := by decide +kernel
theorem d_D_turn_129 : decode b_D_turn 129 = .ok (.aload_n 0, 1) := by decide +kernel
theorem d_D_turn_130 : decode b_D_turn 130 = .ok (.getfield 16, 3) := by decide +kernel
theorem d_D_turn_133 : decode b_D_turn 133 = .ok (.getfield 99, 3) := by decide +kernel
theorem d_D_turn_136 : decode b_D_turn 136 = .ok (.invokevirtual 55, 3) := by decide +kernel
theorem d_D_turn_139 : decode b_D_turn 139 = .ok (.ireturn, 1) := by decide +kernel
set_option maxHeartbeats 4000000 in
set_option maxRecDepth 20000 in
theorem c_D_turn {l : Launch} {G : va_G} {tys : List (ClassId × FieldType)} {cI cO cZ : ClassId} (hT : TY tys cI cO cZ) (o : Nat) (A : AS) (ws : va_W) (hA : CW cI cO cZ o A ws) (f k : Int) (hrg : (-2147483648 ≤ f ∧ f < 2147483648) ∧ (-2147483648 ≤ k ∧ k < 2147483648)) : CTI l G tys y_D_turn b_D_turn 4 .int 4 95 [.ref o, .int (iI f), .int (iI k)] ws (fun z u => ∃ A' : AS, CW cI cO cZ o A' u ∧ Sp_turn f k A z A') := by
  obtain ⟨⟨lc, sd, r, sg, ln, N, v⟩, hist, rcd, slot, uf, T, m⟩ := A
  obtain ⟨hR, h, sl, us, pd, co, hf, sf, q, a, b, ov, q2, a2, b2, sg2, ln2, r2, pl2, ov2, lc2, sd2, q3, a3, b3, sg3, ln3, r3, pl3, ov3, lc3, sd3, st, rfl, hC⟩ := hA
  have hO := hR.1
  have hr5 := hR.2.1
  have hN3 := hR.2.2.1
  have hN0 := hO.n0
  have hr0 := hO.1
  have hlcd := hR.2.2.2
  have hm80 := hC.2.2.2.2.2.1
  have hrcd6 := hC.2.2.1
  refine mkI (by decide) (Nat.le_of_ble_eq_true rfl) ?_
  rintro X rfl rfl rfl hRm C kret H ls w hl
  have hl : lv_has ls 4 [(0, .ref o), (1, .int (iI f)), (2, .int (iI k))] := hl
  have w : Wd X (dcore cI cO cZ o h sl us pd co q q2 q3 hf rcd sf uf T m ++ sw cI q a b sg ln r N ov lc sd ++ sw cI q2 a2 b2 sg2 ln2 r2 pl2 ov2 lc2 sd2 ++ sw cI q3 a3 b3 sg3 ln3 r3 pl3 ov3 lc3 sd3 ++ hst cI st) H [] := w
  generalize ([] : List Loc) = locs at w ⊢
  refine r_aload_n (pc := 0) C d_D_turn_0 rfl (lv_at hl 0 rfl) ?_
  refine r_iload_n (pc := 1) C d_D_turn_1 rfl (lv_at hl 1 rfl) ?_
  refine r_iload_n (pc := 2) C d_D_turn_2 rfl (lv_at hl 2 rfl) ?_
  refine r_callVI (pc := 3) (As := [.int (iI f), .int (iI k)]) (rest := []) (wr := []) C w (c_D_isPiece hT o h sl us pd co hf sf rcd m uf T q a b sg ln r N ov lc sd q2 a2 b2 sg2 ln2 r2 pl2 ov2 lc2 sd2 q3 a3 b3 sg3 ln3 r3 pl3 ov3 lc3 sd3 st f k (by omega) (by omega)) ml_D_76 im_D_isPiece se_D_isPiece ini_D cd_D_isPiece hd_D_isPiece rfl (by rw [hRm]; exact ⟨⟨Nat.le_of_ble_eq_true rfl, Nat.le_of_ble_eq_true rfl⟩, Nat.le_of_ble_eq_true rfl, Nat.le_of_ble_eq_true rfl⟩) hl.1 [0, 1, 2, 3, 4, 5, 6, 7, 8, 9, 10, 11, 12, 13, 14, 15, 16, 17, 18, 19, 20, 21, 22, 23, 24, 25, 26, 27, 28, 29, 30, 31, 32, 33, 34, 35, 36, 37, 38] [] ⟨rfl, rfl, by decide, by decide, by decide⟩ 0 rfl rfl rfl (Nat.le_of_ble_eq_true rfl) d_D_turn_3 (fun z_3 u_3 H locs hz_3 w => ?_)
  obtain ⟨rfl, hz_3⟩ := hz_3
  have w : Wd X (dcore cI cO cZ o h sl us pd co q q2 q3 hf rcd sf uf T m ++ sw cI q a b sg ln r N ov lc sd ++ sw cI q2 a2 b2 sg2 ln2 r2 pl2 ov2 lc2 sd2 ++ sw cI q3 a3 b3 sg3 ln3 r3 pl3 ov3 lc3 sd3 ++ hst cI st) H locs := w
  refine r_if_ne (pc := 6) (tgt := 11) C (by omega) d_D_turn_6 (by decide) (fun c_6 => ?_) (fun c_6 => ?_)
  · skip
    have hb_6 : 0 ≤ f ∧ 1 ≤ k ∧ k ≤ N - f := by omega
    clear hz_3 c_6
    refine r_iload_n (pc := 11) C d_D_turn_11 rfl (lv_at hl 1 rfl) ?_
    refine r_iload_n (pc := 12) C d_D_turn_12 rfl (lv_at hl 2 rfl) ?_
    refine r_iadd (pc := 13) C d_D_turn_13 ?_
    refine r_istore_n (pc := 14) (lv' := [(3, .int (iI (f + k))), (0, .ref o), (1, .int (iI f)), (2, .int (iI k))]) C d_D_turn_14 rfl hl (by decide) rfl (fun ls hl => ?_)
    refine r_aload_n (pc := 15) C d_D_turn_15 rfl (lv_at hl 1 rfl) ?_
    refine r_get (pc := 16) (v := .ref q2) C w i_D rfl 0 rfl 1 (by decide) fl_D_16 rfl rfl d_D_turn_16 ?_
    refine r_aload_n (pc := 19) C d_D_turn_19 rfl (lv_at hl 1 rfl) ?_
    refine r_get (pc := 20) (v := .ref q) C w i_D rfl 0 rfl 0 (by decide) fl_D_10 rfl rfl d_D_turn_20 ?_
    refine r_callVV (pc := 23) (As := [.ref q]) (rest := []) (wr := (dcore cI cO cZ o h sl us pd co q q2 q3 hf rcd sf uf T m ++ sw cI q3 a3 b3 sg3 ln3 r3 pl3 ov3 lc3 sd3 ++ hst cI st)) C w (c_S_startLike hT q2 a2 b2 sg2 ln2 r2 pl2 ov2 lc2 sd2 q a b sg ln r N ov lc sd) ml_D_65 im_S_startLike se_S_startLike ini_S cd_S_startLike hd_S_startLike rfl (by rw [hRm]; exact ⟨⟨Nat.le_of_ble_eq_true rfl, Nat.le_of_ble_eq_true rfl⟩, Nat.le_of_ble_eq_true rfl, Nat.le_of_ble_eq_true rfl⟩) hl.1 [9, 10, 11, 6, 7, 8] [0, 1, 2, 3, 4, 5, 12, 13, 14, 15, 16, 17, 18, 19, 20, 21, 22, 23, 24, 25, 26, 27, 28, 29, 30, 31, 32, 33, 34, 35, 36, 37, 38] ⟨rfl, rfl, by decide, by decide, by decide⟩ 0 rfl rfl rfl (Nat.le_of_ble_eq_true rfl) d_D_turn_23 (fun u_23 H locs hz_23 w => ?_)
    subst hz_23
    have w : Wd X (dcore cI cO cZ o h sl us pd co q q2 q3 hf rcd sf uf T m ++ sw cI q a b sg ln r N ov lc sd ++ sw cI q2 a2 b2 sg2 ln2 0 0 0 lc sd ++ sw cI q3 a3 b3 sg3 ln3 r3 pl3 ov3 lc3 sd3 ++ hst cI st) H locs := w.sub [0, 1, 2, 3, 4, 5, 36, 37, 38, 33, 34, 35, 6, 7, 8, 9, 10, 11, 12, 13, 14, 15, 16, 17, 18, 19, 20, 21, 22, 23, 24, 25, 26, 27, 28, 29, 30, 31, 32] rfl (by decide)
    refine r_aload_n (pc := 26) C d_D_turn_26 rfl (lv_at hl 1 rfl) ?_
    refine r_get (pc := 27) (v := .ref q2) C w i_D rfl 0 rfl 1 (by decide) fl_D_16 rfl rfl d_D_turn_27 ?_
    refine r_aload_n (pc := 30) C d_D_turn_30 rfl (lv_at hl 1 rfl) ?_
    refine r_get (pc := 31) (v := .ref q) C w i_D rfl 0 rfl 0 (by decide) fl_D_10 rfl rfl d_D_turn_31 ?_
    refine r_iconst (pc := 34) C d_D_turn_34 ?_
    refine r_iload_n (pc := 35) C d_D_turn_35 rfl (lv_at hl 2 rfl) ?_
    refine r_callVV (pc := 36) (As := [.ref q, .int (iI 0), .int (iI f)]) (rest := []) (wr := (dcore cI cO cZ o h sl us pd co q q2 q3 hf rcd sf uf T m ++ sw cI q3 a3 b3 sg3 ln3 r3 pl3 ov3 lc3 sd3 ++ hst cI st)) C w (c_S_appendPiece hT q2 a2 b2 sg2 ln2 0 0 0 lc sd q a b sg ln r N ov lc sd _ _ f 0 _ _ (RV.empty _ _ v) hO (by omega) (by omega) (by omega) (by omega)) ml_D_68 im_S_appendPiece se_S_appendPiece ini_S cd_S_appendPiece hd_S_appendPiece rfl (by rw [hRm]; exact ⟨⟨Nat.le_of_ble_eq_true rfl, Nat.le_of_ble_eq_true rfl⟩, Nat.le_of_ble_eq_true rfl, Nat.le_of_ble_eq_true rfl⟩) hl.1 [9, 10, 11, 6, 7, 8] [0, 1, 2, 3, 4, 5, 12, 13, 14, 15, 16, 17, 18, 19, 20, 21, 22, 23, 24, 25, 26, 27, 28, 29, 30, 31, 32, 33, 34, 35, 36, 37, 38] ⟨rfl, rfl, by decide, by decide, by decide⟩ 0 rfl rfl rfl (Nat.le_of_ble_eq_true rfl) d_D_turn_36 (fun u_36 H locs hz_36 w => ?_)
    obtain ⟨sg_36, ln_36, r_36, pl_36, ov_36, rfl, hV_36⟩ := hz_36
    have w : Wd X (dcore cI cO cZ o h sl us pd co q q2 q3 hf rcd sf uf T m ++ sw cI q a b sg ln r N ov lc sd ++ sw cI q2 a2 b2 sg_36 ln_36 r_36 pl_36 ov_36 lc sd ++ sw cI q3 a3 b3 sg3 ln3 r3 pl3 ov3 lc3 sd3 ++ hst cI st) H locs := w.sub [0, 1, 2, 3, 4, 5, 36, 37, 38, 33, 34, 35, 6, 7, 8, 9, 10, 11, 12, 13, 14, 15, 16, 17, 18, 19, 20, 21, 22, 23, 24, 25, 26, 27, 28, 29, 30, 31, 32] rfl (by decide)
    have hV6 := hV_36.to (n' := f) (u := v) (by omega) (fun x h1 _ => by rw [cat_ge (by omega)]; congr 1; omega)
    refine r_aload_n (pc := 39) C d_D_turn_39 rfl (lv_at hl 1 rfl) ?_
    refine r_get (pc := 40) (v := .ref q) C w i_D rfl 0 rfl 0 (by decide) fl_D_10 rfl rfl d_D_turn_40 ?_
    refine r_get (pc := 43) (v := .int (iI sd)) C w i_S rfl 6 rfl 6 (by decide) fl_D_59 rfl rfl d_D_turn_43 ?_
    refine r_iconst (pc := 46) C d_D_turn_46 ?_
    refine r_icmp_ne (pc := 47) (tgt := 95) C (by omega) d_D_turn_47 (by decide) (fun c_47 => ?_) (fun c_47 => ?_)
    · skip
      refine r_aload_n (pc := 95) C d_D_turn_95 rfl (lv_at hl 1 rfl) ?_
      refine r_get (pc := 96) (v := .ref q2) C w i_D rfl 0 rfl 1 (by decide) fl_D_16 rfl rfl d_D_turn_96 ?_
      refine r_aload_n (pc := 99) C d_D_turn_99 rfl (lv_at hl 1 rfl) ?_
      refine r_get (pc := 100) (v := .ref q) C w i_D rfl 0 rfl 0 (by decide) fl_D_10 rfl rfl d_D_turn_100 ?_
      refine r_iload_n (pc := 103) C d_D_turn_103 rfl (lv_at hl 2 rfl) ?_
      refine r_iload_n (pc := 104) C d_D_turn_104 rfl (lv_at hl 0 rfl) ?_
      refine r_iconst (pc := 105) C d_D_turn_105 ?_
      refine r_callVV (pc := 106) (As := [.ref q, .int (iI f), .int (iI (f + k)), .int (iI 0)]) (rest := []) (wr := (dcore cI cO cZ o h sl us pd co q q2 q3 hf rcd sf uf T m ++ sw cI q3 a3 b3 sg3 ln3 r3 pl3 ov3 lc3 sd3 ++ hst cI st)) C w (c_S_appendTurned hT q2 a2 b2 sg_36 ln_36 r_36 pl_36 ov_36 lc sd q a b sg ln r N ov lc sd _ _ (f + k) f 0 _ _ hV6 hO (by omega) (by omega) (by omega) (by omega) (by omega)) ml_D_91 im_S_appendTurned se_S_appendTurned ini_S cd_S_appendTurned hd_S_appendTurned rfl (by rw [hRm]; exact ⟨⟨Nat.le_of_ble_eq_true rfl, Nat.le_of_ble_eq_true rfl⟩, Nat.le_of_ble_eq_true rfl, Nat.le_of_ble_eq_true rfl⟩) hl.1 [9, 10, 11, 6, 7, 8] [0, 1, 2, 3, 4, 5, 12, 13, 14, 15, 16, 17, 18, 19, 20, 21, 22, 23, 24, 25, 26, 27, 28, 29, 30, 31, 32, 33, 34, 35, 36, 37, 38] ⟨rfl, rfl, by decide, by decide, by decide⟩ 0 rfl rfl rfl (Nat.le_of_ble_eq_true rfl) d_D_turn_106 (fun u_106 H locs hz_106 w => ?_)
      obtain ⟨sg_106, ln_106, r_106, pl_106, ov_106, rfl, hV_106⟩ := hz_106
      have w : Wd X (dcore cI cO cZ o h sl us pd co q q2 q3 hf rcd sf uf T m ++ sw cI q a b sg ln r N ov lc sd ++ sw cI q2 a2 b2 sg_106 ln_106 r_106 pl_106 ov_106 lc sd ++ sw cI q3 a3 b3 sg3 ln3 r3 pl3 ov3 lc3 sd3 ++ hst cI st) H locs := w.sub [0, 1, 2, 3, 4, 5, 36, 37, 38, 33, 34, 35, 6, 7, 8, 9, 10, 11, 12, 13, 14, 15, 16, 17, 18, 19, 20, 21, 22, 23, 24, 25, 26, 27, 28, 29, 30, 31, 32] rfl (by decide)
      have ht0 := tv0_eq v v (f + k) f (f + k - f) (by omega)
      have hV8 := hV_106.to (n' := f + k) (u := trn sd v f (f + k)) (by rw [ht0.1]; omega) (fun x h1 h2 => by rw [ht0.2 x (by rw [← ht0.1]; exact h2)]; unfold trn; by_cases q : x < f; rw [if_pos q, if_neg (by omega)]; rw [if_neg q, if_pos (by rw [ht0.1] at h2; omega), if_neg (by omega)]; congr 1; omega)
      refine r_aload_n (pc := 109) C d_D_turn_109 rfl (lv_at hl 1 rfl) ?_
      refine r_get (pc := 110) (v := .ref q2) C w i_D rfl 0 rfl 1 (by decide) fl_D_16 rfl rfl d_D_turn_110 ?_
      refine r_aload_n (pc := 113) C d_D_turn_113 rfl (lv_at hl 1 rfl) ?_
      refine r_get (pc := 114) (v := .ref q) C w i_D rfl 0 rfl 0 (by decide) fl_D_10 rfl rfl d_D_turn_114 ?_
      refine r_iload_n (pc := 117) C d_D_turn_117 rfl (lv_at hl 0 rfl) ?_
      refine r_aload_n (pc := 118) C d_D_turn_118 rfl (lv_at hl 1 rfl) ?_
      refine r_get (pc := 119) (v := .ref q) C w i_D rfl 0 rfl 0 (by decide) fl_D_10 rfl rfl d_D_turn_119 ?_
      refine r_get (pc := 122) (v := .int (iI N)) C w i_S rfl 6 rfl 3 (by decide) fl_D_62 rfl rfl d_D_turn_122 ?_
      refine r_callVV (pc := 125) (As := [.ref q, .int (iI (f + k)), .int (iI N)]) (rest := []) (wr := (dcore cI cO cZ o h sl us pd co q q2 q3 hf rcd sf uf T m ++ sw cI q3 a3 b3 sg3 ln3 r3 pl3 ov3 lc3 sd3 ++ hst cI st)) C w (c_S_appendPiece hT q2 a2 b2 sg_106 ln_106 r_106 pl_106 ov_106 lc sd q a b sg ln r N ov lc sd _ _ N (f + k) _ _ hV8 hO (by omega) (by omega) (by omega) (by omega)) ml_D_68 im_S_appendPiece se_S_appendPiece ini_S cd_S_appendPiece hd_S_appendPiece rfl (by rw [hRm]; exact ⟨⟨Nat.le_of_ble_eq_true rfl, Nat.le_of_ble_eq_true rfl⟩, Nat.le_of_ble_eq_true rfl, Nat.le_of_ble_eq_true rfl⟩) hl.1 [9, 10, 11, 6, 7, 8] [0, 1, 2, 3, 4, 5, 12, 13, 14, 15, 16, 17, 18, 19, 20, 21, 22, 23, 24, 25, 26, 27, 28, 29, 30, 31, 32, 33, 34, 35, 36, 37, 38] ⟨rfl, rfl, by decide, by decide, by decide⟩ 0 rfl rfl rfl (Nat.le_of_ble_eq_true rfl) d_D_turn_125 (fun u_125 H locs hz_125 w => ?_)
      obtain ⟨sg_125, ln_125, r_125, pl_125, ov_125, rfl, hV_125⟩ := hz_125
      have w : Wd X (dcore cI cO cZ o h sl us pd co q q2 q3 hf rcd sf uf T m ++ sw cI q a b sg ln r N ov lc sd ++ sw cI q2 a2 b2 sg_125 ln_125 r_125 pl_125 ov_125 lc sd ++ sw cI q3 a3 b3 sg3 ln3 r3 pl3 ov3 lc3 sd3 ++ hst cI st) H locs := w.sub [0, 1, 2, 3, 4, 5, 36, 37, 38, 33, 34, 35, 6, 7, 8, 9, 10, 11, 12, 13, 14, 15, 16, 17, 18, 19, 20, 21, 22, 23, 24, 25, 26, 27, 28, 29, 30, 31, 32] rfl (by decide)
      have hV9 := hV_125.to (n' := N) (u := trn sd v f (f + k)) (by omega) (fun x h1 h2 => by by_cases q : x < f + k; rw [cat_lt q]; rw [cat_ge (by omega)]; unfold trn; rw [if_neg (by omega)]; congr 1; omega)
      refine r_aload_n (pc := 128) C d_D_turn_128 rfl (lv_at hl 1 rfl) ?_
      refine r_aload_n (pc := 129) C d_D_turn_129 rfl (lv_at hl 1 rfl) ?_
      refine r_get (pc := 130) (v := .ref q2) C w i_D rfl 0 rfl 1 (by decide) fl_D_16 rfl rfl d_D_turn_130 ?_
      refine r_get (pc := 133) (v := .int (iI r_125)) C w i_S rfl 9 rfl 2 (by decide) fl_D_99 rfl rfl d_D_turn_133 ?_
      refine r_callVI (pc := 136) (As := [.int (iI r_125)]) (rest := []) (wr := []) C w (c_D_accepted hT o h sl us pd co hf sf rcd m uf T q a b sg ln r N ov lc sd q2 a2 b2 sg_125 ln_125 r_125 pl_125 ov_125 lc sd q3 a3 b3 sg3 ln3 r3 pl3 ov3 lc3 sd3 st r_125 _ v _ hist slot hR hC hV9 (by omega)) ml_D_55 im_D_accepted se_D_accepted ini_D cd_D_accepted hd_D_accepted rfl (by rw [hRm]; exact ⟨⟨Nat.le_of_ble_eq_true rfl, Nat.le_of_ble_eq_true rfl⟩, Nat.le_of_ble_eq_true rfl, Nat.le_of_ble_eq_true rfl⟩) hl.1 [0, 1, 2, 3, 4, 5, 6, 7, 8, 9, 10, 11, 12, 13, 14, 15, 16, 17, 18, 19, 20, 21, 22, 23, 24, 25, 26, 27, 28, 29, 30, 31, 32, 33, 34, 35, 36, 37, 38] [] ⟨rfl, rfl, by decide, by decide, by decide⟩ 0 rfl rfl rfl (Nat.le_of_ble_eq_true rfl) d_D_turn_136 (fun z_136 u_136 H locs hz_136 w => ?_)
      exact kret _ _ _ _ z_136 _ d_D_turn_139 w (by rcases hz_136 with ⟨f1, f2, rfl⟩ | ⟨f1, f2, A, f3, f4⟩; exact ⟨_, cw_mk hR hC, Or.inr (Or.inl ⟨by unfold pieceE; (repeat' split) <;> omega, f1, f2, rfl⟩)⟩; exact ⟨A, f3, Or.inr (Or.inr ⟨by unfold pieceE; (repeat' split) <;> omega, f1, f2.trans (hV9.2.1 f1).2.2.rcE.symm, f4⟩)⟩)
    · skip
      refine r_aload_n (pc := 50) C d_D_turn_50 rfl (lv_at hl 1 rfl) ?_
      refine r_get (pc := 51) (v := .ref q3) C w i_D rfl 0 rfl 2 (by decide) fl_D_19 rfl rfl d_D_turn_51 ?_
      refine r_aload_n (pc := 54) C d_D_turn_54 rfl (lv_at hl 1 rfl) ?_
      refine r_get (pc := 55) (v := .ref q) C w i_D rfl 0 rfl 0 (by decide) fl_D_10 rfl rfl d_D_turn_55 ?_
      refine r_callVV (pc := 58) (As := [.ref q]) (rest := []) (wr := (dcore cI cO cZ o h sl us pd co q q2 q3 hf rcd sf uf T m ++ sw cI q2 a2 b2 sg_36 ln_36 r_36 pl_36 ov_36 lc sd ++ hst cI st)) C w (c_S_startLike hT q3 a3 b3 sg3 ln3 r3 pl3 ov3 lc3 sd3 q a b sg ln r N ov lc sd) ml_D_65 im_S_startLike se_S_startLike ini_S cd_S_startLike hd_S_startLike rfl (by rw [hRm]; exact ⟨⟨Nat.le_of_ble_eq_true rfl, Nat.le_of_ble_eq_true rfl⟩, Nat.le_of_ble_eq_true rfl, Nat.le_of_ble_eq_true rfl⟩) hl.1 [12, 13, 14, 6, 7, 8] [0, 1, 2, 3, 4, 5, 9, 10, 11, 15, 16, 17, 18, 19, 20, 21, 22, 23, 24, 25, 26, 27, 28, 29, 30, 31, 32, 33, 34, 35, 36, 37, 38] ⟨rfl, rfl, by decide, by decide, by decide⟩ 0 rfl rfl rfl (Nat.le_of_ble_eq_true rfl) d_D_turn_58 (fun u_58 H locs hz_58 w => ?_)
      subst hz_58
      have w : Wd X (dcore cI cO cZ o h sl us pd co q q2 q3 hf rcd sf uf T m ++ sw cI q a b sg ln r N ov lc sd ++ sw cI q2 a2 b2 sg_36 ln_36 r_36 pl_36 ov_36 lc sd ++ sw cI q3 a3 b3 sg3 ln3 0 0 0 lc sd ++ hst cI st) H locs := w.sub [0, 1, 2, 3, 4, 5, 36, 37, 38, 6, 7, 8, 33, 34, 35, 9, 10, 11, 12, 13, 14, 15, 16, 17, 18, 19, 20, 21, 22, 23, 24, 25, 26, 27, 28, 29, 30, 31, 32] rfl (by decide)
      refine r_aload_n (pc := 61) C d_D_turn_61 rfl (lv_at hl 1 rfl) ?_
      refine r_get (pc := 62) (v := .ref q3) C w i_D rfl 0 rfl 2 (by decide) fl_D_19 rfl rfl d_D_turn_62 ?_
      refine r_aload_n (pc := 65) C d_D_turn_65 rfl (lv_at hl 1 rfl) ?_
      refine r_get (pc := 66) (v := .ref q) C w i_D rfl 0 rfl 0 (by decide) fl_D_10 rfl rfl d_D_turn_66 ?_
      refine r_iload_n (pc := 69) C d_D_turn_69 rfl (lv_at hl 2 rfl) ?_
      refine r_iload_n (pc := 70) C d_D_turn_70 rfl (lv_at hl 0 rfl) ?_
      refine r_iconst (pc := 71) C d_D_turn_71 ?_
      refine r_callVV (pc := 72) (As := [.ref q, .int (iI f), .int (iI (f + k)), .int (iI 1)]) (rest := []) (wr := (dcore cI cO cZ o h sl us pd co q q2 q3 hf rcd sf uf T m ++ sw cI q2 a2 b2 sg_36 ln_36 r_36 pl_36 ov_36 lc sd ++ hst cI st)) C w (c_S_appendTurned hT q3 a3 b3 sg3 ln3 0 0 0 lc sd q a b sg ln r N ov lc sd _ _ (f + k) f 1 _ _ (RV.empty _ _ v) hO (by omega) (by omega) (by omega) (by omega) (by omega)) ml_D_91 im_S_appendTurned se_S_appendTurned ini_S cd_S_appendTurned hd_S_appendTurned rfl (by rw [hRm]; exact ⟨⟨Nat.le_of_ble_eq_true rfl, Nat.le_of_ble_eq_true rfl⟩, Nat.le_of_ble_eq_true rfl, Nat.le_of_ble_eq_true rfl⟩) hl.1 [12, 13, 14, 6, 7, 8] [0, 1, 2, 3, 4, 5, 9, 10, 11, 15, 16, 17, 18, 19, 20, 21, 22, 23, 24, 25, 26, 27, 28, 29, 30, 31, 32, 33, 34, 35, 36, 37, 38] ⟨rfl, rfl, by decide, by decide, by decide⟩ 0 rfl rfl rfl (Nat.le_of_ble_eq_true rfl) d_D_turn_72 (fun u_72 H locs hz_72 w => ?_)
      obtain ⟨sg_72, ln_72, r_72, pl_72, ov_72, rfl, hV_72⟩ := hz_72
      have w : Wd X (dcore cI cO cZ o h sl us pd co q q2 q3 hf rcd sf uf T m ++ sw cI q a b sg ln r N ov lc sd ++ sw cI q2 a2 b2 sg_36 ln_36 r_36 pl_36 ov_36 lc sd ++ sw cI q3 a3 b3 sg_72 ln_72 r_72 pl_72 ov_72 lc sd ++ hst cI st) H locs := w.sub [0, 1, 2, 3, 4, 5, 36, 37, 38, 6, 7, 8, 33, 34, 35, 9, 10, 11, 12, 13, 14, 15, 16, 17, 18, 19, 20, 21, 22, 23, 24, 25, 26, 27, 28, 29, 30, 31, 32] rfl (by decide)
      have hmL := tn_live v (f + k) (f + k - f) (by omega) (by omega)
      rw [show f + k - (f + k - f) = f by omega] at hmL
      have hle := lv_le (u := v) (a := f) (b := f + k) (by omega) (by omega)
      have hrl := turned_rc (w0 := v) (f := f) (e := f + k) hO (by omega) r (by omega) (by omega)
      rw [show r - r = 0 by omega, ps_zero, show max 0 (f + k - max 0 f) = f + k - f by omega] at hrl
      have hfa : fits_ (tn 1 v (f + k) 0 (f + k - f)) (tv 1 v (f + k) 0 v (f + k - f)) := ⟨by omega, by omega⟩
      obtain ⟨-, hpa, hOa⟩ := hV_72.2.1 hfa
      have hra := hOa.rcE
      refine r_aload_n (pc := 75) C d_D_turn_75 rfl (lv_at hl 1 rfl) ?_
      refine r_get (pc := 76) (v := .ref q2) C w i_D rfl 0 rfl 1 (by decide) fl_D_16 rfl rfl d_D_turn_76 ?_
      refine r_aload_n (pc := 79) C d_D_turn_79 rfl (lv_at hl 1 rfl) ?_
      refine r_get (pc := 80) (v := .ref q3) C w i_D rfl 0 rfl 2 (by decide) fl_D_19 rfl rfl d_D_turn_80 ?_
      refine r_aload_n (pc := 83) C d_D_turn_83 rfl (lv_at hl 1 rfl) ?_
      refine r_get (pc := 84) (v := .ref q) C w i_D rfl 0 rfl 0 (by decide) fl_D_10 rfl rfl d_D_turn_84 ?_
      refine r_iload_n (pc := 87) C d_D_turn_87 rfl (lv_at hl 2 rfl) ?_
      refine r_iload_n (pc := 88) C d_D_turn_88 rfl (lv_at hl 0 rfl) ?_
      refine r_callVV (pc := 89) (As := [.ref q3, .ref q, .int (iI f), .int (iI (f + k))]) (rest := []) (wr := (dcore cI cO cZ o h sl us pd co q q2 q3 hf rcd sf uf T m ++ hst cI st)) C w (c_S_appendLiveFrom hT q2 a2 b2 sg_36 ln_36 r_36 pl_36 ov_36 lc sd q3 a3 b3 sg_72 ln_72 r_72 pl_72 ov_72 lc sd q a b sg ln r N ov lc sd _ _ (f + k) f _ _ _ _ hV6 hOa hO (by omega) (by omega) (by omega) (by omega) (by omega) (by omega)) ml_D_95 im_S_appendLiveFrom se_S_appendLiveFrom ini_S cd_S_appendLiveFrom hd_S_appendLiveFrom rfl (by rw [hRm]; exact ⟨⟨Nat.le_of_ble_eq_true rfl, Nat.le_of_ble_eq_true rfl⟩, Nat.le_of_ble_eq_true rfl, Nat.le_of_ble_eq_true rfl⟩) hl.1 [9, 10, 11, 12, 13, 14, 6, 7, 8] [0, 1, 2, 3, 4, 5, 15, 16, 17, 18, 19, 20, 21, 22, 23, 24, 25, 26, 27, 28, 29, 30, 31, 32, 33, 34, 35, 36, 37, 38] ⟨rfl, rfl, by decide, by decide, by decide⟩ 0 rfl rfl rfl (Nat.le_of_ble_eq_true rfl) d_D_turn_89 (fun u_89 H locs hz_89 w => ?_)
      obtain ⟨sg_89, ln_89, r_89, pl_89, ov_89, rfl, hV_89⟩ := hz_89
      have w : Wd X (dcore cI cO cZ o h sl us pd co q q2 q3 hf rcd sf uf T m ++ sw cI q a b sg ln r N ov lc sd ++ sw cI q2 a2 b2 sg_89 ln_89 r_89 pl_89 ov_89 lc sd ++ sw cI q3 a3 b3 sg_72 ln_72 r_72 pl_72 ov_72 lc sd ++ hst cI st) H locs := w.sub [0, 1, 2, 3, 4, 5, 36, 37, 38, 30, 31, 32, 33, 34, 35, 6, 7, 8, 9, 10, 11, 12, 13, 14, 15, 16, 17, 18, 19, 20, 21, 22, 23, 24, 25, 26, 27, 28, 29] rfl (by decide)
      refine r_goto (pc := 92) (tgt := 109) C d_D_turn_92 (by decide) ?_
      have hV8 := hV_89.to (n' := f + k) (u := trn sd v f (f + k)) (by omega) (fun x h1 h2 => by unfold lfm trn; by_cases q : x < f; rw [if_pos q, if_neg (by omega)]; rw [if_neg q, show x - f + f = x by omega, if_pos (⟨by omega, by omega⟩ : f ≤ x ∧ x < f + k), if_pos (by omega : sd = 1)])
      refine r_aload_n (pc := 109) C d_D_turn_109 rfl (lv_at hl 1 rfl) ?_
      refine r_get (pc := 110) (v := .ref q2) C w i_D rfl 0 rfl 1 (by decide) fl_D_16 rfl rfl d_D_turn_110 ?_
      refine r_aload_n (pc := 113) C d_D_turn_113 rfl (lv_at hl 1 rfl) ?_
      refine r_get (pc := 114) (v := .ref q) C w i_D rfl 0 rfl 0 (by decide) fl_D_10 rfl rfl d_D_turn_114 ?_
      refine r_iload_n (pc := 117) C d_D_turn_117 rfl (lv_at hl 0 rfl) ?_
      refine r_aload_n (pc := 118) C d_D_turn_118 rfl (lv_at hl 1 rfl) ?_
      refine r_get (pc := 119) (v := .ref q) C w i_D rfl 0 rfl 0 (by decide) fl_D_10 rfl rfl d_D_turn_119 ?_
      refine r_get (pc := 122) (v := .int (iI N)) C w i_S rfl 6 rfl 3 (by decide) fl_D_62 rfl rfl d_D_turn_122 ?_
      refine r_callVV (pc := 125) (As := [.ref q, .int (iI (f + k)), .int (iI N)]) (rest := []) (wr := (dcore cI cO cZ o h sl us pd co q q2 q3 hf rcd sf uf T m ++ sw cI q3 a3 b3 sg_72 ln_72 r_72 pl_72 ov_72 lc sd ++ hst cI st)) C w (c_S_appendPiece hT q2 a2 b2 sg_89 ln_89 r_89 pl_89 ov_89 lc sd q a b sg ln r N ov lc sd _ _ N (f + k) _ _ hV8 hO (by omega) (by omega) (by omega) (by omega)) ml_D_68 im_S_appendPiece se_S_appendPiece ini_S cd_S_appendPiece hd_S_appendPiece rfl (by rw [hRm]; exact ⟨⟨Nat.le_of_ble_eq_true rfl, Nat.le_of_ble_eq_true rfl⟩, Nat.le_of_ble_eq_true rfl, Nat.le_of_ble_eq_true rfl⟩) hl.1 [9, 10, 11, 6, 7, 8] [0, 1, 2, 3, 4, 5, 12, 13, 14, 15, 16, 17, 18, 19, 20, 21, 22, 23, 24, 25, 26, 27, 28, 29, 30, 31, 32, 33, 34, 35, 36, 37, 38] ⟨rfl, rfl, by decide, by decide, by decide⟩ 0 rfl rfl rfl (Nat.le_of_ble_eq_true rfl) d_D_turn_125 (fun u_125 H locs hz_125 w => ?_)
      obtain ⟨sg_125, ln_125, r_125, pl_125, ov_125, rfl, hV_125⟩ := hz_125
      have w : Wd X (dcore cI cO cZ o h sl us pd co q q2 q3 hf rcd sf uf T m ++ sw cI q a b sg ln r N ov lc sd ++ sw cI q2 a2 b2 sg_125 ln_125 r_125 pl_125 ov_125 lc sd ++ sw cI q3 a3 b3 sg_72 ln_72 r_72 pl_72 ov_72 lc sd ++ hst cI st) H locs := w.sub [0, 1, 2, 3, 4, 5, 36, 37, 38, 33, 34, 35, 6, 7, 8, 9, 10, 11, 12, 13, 14, 15, 16, 17, 18, 19, 20, 21, 22, 23, 24, 25, 26, 27, 28, 29, 30, 31, 32] rfl (by decide)
      have hV9 := hV_125.to (n' := N) (u := trn sd v f (f + k)) (by omega) (fun x h1 h2 => by by_cases q : x < f + k; rw [cat_lt q]; rw [cat_ge (by omega)]; unfold trn; rw [if_neg (by omega)]; congr 1; omega)
      refine r_aload_n (pc := 128) C d_D_turn_128 rfl (lv_at hl 1 rfl) ?_
      refine r_aload_n (pc := 129) C d_D_turn_129 rfl (lv_at hl 1 rfl) ?_
      refine r_get (pc := 130) (v := .ref q2) C w i_D rfl 0 rfl 1 (by decide) fl_D_16 rfl rfl d_D_turn_130 ?_
      refine r_get (pc := 133) (v := .int (iI r_125)) C w i_S rfl 9 rfl 2 (by decide) fl_D_99 rfl rfl d_D_turn_133 ?_
      refine r_callVI (pc := 136) (As := [.int (iI r_125)]) (rest := []) (wr := []) C w (c_D_accepted hT o h sl us pd co hf sf rcd m uf T q a b sg ln r N ov lc sd q2 a2 b2 sg_125 ln_125 r_125 pl_125 ov_125 lc sd q3 a3 b3 sg_72 ln_72 r_72 pl_72 ov_72 lc sd st r_125 _ v _ hist slot hR hC hV9 (by omega)) ml_D_55 im_D_accepted se_D_accepted ini_D cd_D_accepted hd_D_accepted rfl (by rw [hRm]; exact ⟨⟨Nat.le_of_ble_eq_true rfl, Nat.le_of_ble_eq_true rfl⟩, Nat.le_of_ble_eq_true rfl, Nat.le_of_ble_eq_true rfl⟩) hl.1 [0, 1, 2, 3, 4, 5, 6, 7, 8, 9, 10, 11, 12, 13, 14, 15, 16, 17, 18, 19, 20, 21, 22, 23, 24, 25, 26, 27, 28, 29, 30, 31, 32, 33, 34, 35, 36, 37, 38] [] ⟨rfl, rfl, by decide, by decide, by decide⟩ 0 rfl rfl rfl (Nat.le_of_ble_eq_true rfl) d_D_turn_136 (fun z_136 u_136 H locs hz_136 w => ?_)
      exact kret _ _ _ _ z_136 _ d_D_turn_139 w (by rcases hz_136 with ⟨f1, f2, rfl⟩ | ⟨f1, f2, A, f3, f4⟩; exact ⟨_, cw_mk hR hC, Or.inr (Or.inl ⟨by unfold pieceE; (repeat' split) <;> omega, f1, f2, rfl⟩)⟩; exact ⟨A, f3, Or.inr (Or.inr ⟨by unfold pieceE; (repeat' split) <;> omega, f1, f2.trans (hV9.2.1 f1).2.2.rcE.symm, f4⟩)⟩)
  · skip
    have hb_6 : ¬ (0 ≤ f ∧ 1 ≤ k ∧ k ≤ N - f) := by omega
    clear hz_3 c_6
    refine r_iconst (pc := 9) C d_D_turn_9 ?_
    exact kret _ _ _ _ (-1) _ d_D_turn_10 w (⟨_, cw_mk hR hC, Or.inl ⟨by unfold pieceE; (repeat' split) <;> omega, by unfold pieceE; (repeat' split) <;> omega, rfl⟩⟩)
def Sp_move (f k to : Int) (A : AS) (z : Int) (A' : AS) : Prop := match A with | ((lc, sd, r, sg, ln, N, v), hist, rcd, slot, uf, T, m) => SpE A z A' (errMv N f k to) (lc) (sd) (N) (mvd v f k to) (rc (mvd v f k to) N)
theorem d_D_move_0 : decode b_D_move 0 = .ok (.aload_n 0, 1) := by decide +kernel
theorem d_D_move_1 : decode b_D_move 1 = .ok (.iload_n 1, 1) := by decide +kernel
theorem d_D_move_2 : decode b_D_move 2 = .ok (.iload_n 2, 1) := by decide +kernel
theorem d_D_move_3 : decode b_D_move 3 = .ok (.invokevirtual 76, 3) := by decide +kernel
theorem d_D_move_6 : decode b_D_move 6 = .ok (.ifCond .ne 5, 3) := by decide +kernel
theorem d_D_move_9 : decode b_D_move 9 = .ok (.iconst (-1), 1) := by decide +kernel
theorem d_D_move_10 : decode b_D_move 10 = .ok (.ireturn, 1) := by decide +kernel
theorem d_D_move_11 : decode b_D_move 11 = .ok (.iload_n 3, 1) := by decide +kernel
theorem d_D_move_12 : decode b_D_move 12 = .ok (.iconst 0, 1) := by decide +kernel
theorem d_D_move_13 : decode b_D_move 13 = .ok (.aload_n 0, 1) := by decide +kernel
theorem d_D_move_14 : decode b_D_move 14 = .ok (.getfield 10, 3) := by decide +kernel
theorem d_D_move_17 : decode b_D_move 17 = .ok (.getfield 62, 3) := by decide +kernel
theorem d_D_move_20 : decode b_D_move 20 = .ok (.iload_n 2, 1) := by decide +kernel
theorem d_D_move_21 : decode b_D_move 21 = .ok (.isub, 1) := by decide +kernel
theorem d_D_move_22 : decode b_D_move 22 = .ok (.invokestatic 44, 3) := by decide +kernel
theorem d_D_move_25 : decode b_D_move 25 = .ok (.ifCond .ne 6, 3) := by decide +kernel
theorem d_D_move_28 : decode b_D_move 28 = .ok (.bipush (-2), 2) := by decide +kernel
theorem d_D_move_30 : decode b_D_move 30 = .ok (.ireturn, 1) := by decide +kernel
theorem d_D_move_31 : decode b_D_move 31 = .ok (.aload_n 0, 1) := by decide +kernel
theorem d_D_move_32 : decode b_D_move 32 = .ok (.getfield 19, 3) := by decide +kernel
theorem d_D_move_35 : decode b_D_move 35 = .ok (.aload_n 0, 1) := by decide +kernel
theorem d_D_move_36 : decode b_D_move 36 = .ok (.getfield 10, 3) := by decide +kernel
theorem d_D_move_39 : decode b_D_move 39 = .ok (.invokevirtual 65, 3) := by decide +kernel
theorem d_D_move_42 : decode b_D_move 42 = .ok (.aload_n 0, 1) := by decide +kernel
theorem d_D_move_43 : decode b_D_move 43 = .ok (.getfield 19, 3) := by decide +kernel
theorem d_D_move_46 : decode b_D_move 46 = .ok (.aload_n 0, 1) := by decide +kernel
theorem d_D_move_47 : decode b_D_move 47 = .ok (.getfield 10, 3) := by decide +kernel
theorem d_D_move_50 : decode b_D_move 50 = .ok (.iload_n 1, 1) := by decide +kernel
theorem d_D_move_51 : decode b_D_move 51 = .ok (.iload_n 1, 1) := by decide +kernel
theorem d_D_move_52 : decode b_D_move 52 = .ok (.iload_n 2, 1) := by decide +kernel
theorem d_D_move_53 : decode b_D_move 53 = .ok (.iadd, 1) := by decide +kernel
theorem d_D_move_54 : decode b_D_move 54 = .ok (.invokevirtual 84, 3) := by decide +kernel
theorem d_D_move_57 : decode b_D_move 57 = .ok (.aload_n 0, 1) := by decide +kernel
theorem d_D_move_58 : decode b_D_move 58 = .ok (.getfield 16, 3) := by decide +kernel
theorem d_D_move_61 : decode b_D_move 61 = .ok (.aload_n 0, 1) := by decide +kernel
theorem d_D_move_62 : decode b_D_move 62 = .ok (.getfield 10, 3) := by decide +kernel
theorem d_D_move_65 : decode b_D_move 65 = .ok (.invokevirtual 65, 3) := by decide +kernel
theorem d_D_move_68 : decode b_D_move 68 = .ok (.aload_n 0, 1) := by decide +kernel
theorem d_D_move_69 : decode b_D_move 69 = .ok (.getfield 16, 3) := by decide +kernel
theorem d_D_move_72 : decode b_D_move 72 = .ok (.aload_n 0, 1) := by decide +kernel
theorem d_D_move_73 : decode b_D_move 73 = .ok (.getfield 19, 3) := by decide +kernel
theorem d_D_move_76 : decode b_D_move 76 = .ok (.iconst 0, 1) := by decide +kernel
theorem d_D_move_77 : decode b_D_move 77 = .ok (.iload_n 3, 1) := by decide +kernel
theorem d_D_move_78 : decode b_D_move 78 = .ok (.invokevirtual 68, 3) := by decide +kernel
theorem d_D_move_81 : decode b_D_move 81 = .ok (.aload_n 0, 1) := by decide +kernel
theorem d_D_move_82 : decode b_D_move 82 = .ok (.getfield 16, 3) := by decide +kernel
theorem d_D_move_85 : decode b_D_move 85 = .ok (.aload_n 0, 1) := by decide +kernel
theorem d_D_move_86 : decode b_D_move 86 = .ok (.getfield 10, 3) := by decide +kernel
theorem d_D_move_89 : decode b_D_move 89 = .ok (.iload_n 1, 1) := by decide +kernel
theorem d_D_move_90 : decode b_D_move 90 = .ok (.iload_n 1, 1) := by decide +kernel
theorem d_D_move_91 : decode b_D_move 91 = .ok (.iload_n 2, 1) := by decide +kernel
theorem d_D_move_92 : decode b_D_move 92 = .ok (.iadd, 1) := by decide +kernel
theorem d_D_move_93 : decode b_D_move 93 = .ok (.invokevirtual 68, 3) := by decide +kernel
theorem d_D_move_96 : decode b_D_move 96 = .ok (.aload_n 0, 1) := by decide +kernel
theorem d_D_move_97 : decode b_D_move 97 = .ok (.getfield 16, 3) := by decide +kernel
theorem d_D_move_100 : decode b_D_move 100 = .ok (.aload_n 0, 1) := by decide +kernel
theorem d_D_move_101 : decode b_D_move 101 = .ok (.getfield 19, 3) := by decide +kernel
theorem d_D_move_104 : decode b_D_move 104 = .ok (.iload_n 3, 1) := by decide +kernel
theorem d_D_move_105 : decode b_D_move 105 = .ok (.aload_n 0, 1) := by decide +kernel
theorem d_D_move_106 : decode b_D_move 106 = .ok (.getfield 19, 3) := by decide +kernel
theorem d_D_move_109 : decode b_D_move 109 = .ok (.getfield 62, 3) := by decide +kernel
theorem d_D_move_112 : decode b_D_move 112 = .ok (.invokevirtual 68, 3) := by decide +kernel
theorem d_D_move_115 : decode b_D_move 115 = .ok (.aload_n 0, 1) := by decide +kernel
theorem d_D_move_116 : decode b_D_move 116 = .ok (.aload_n 0, 1) := by decide +kernel
theorem d_D_move_117 : decode b_D_move 117 = .ok (.getfield 16, 3) := by decide +kernel
theorem d_D_move_120 : decode b_D_move 120 = .ok (.getfield 99, 3) := by decide +kernel
theorem d_D_move_123 : decode b_D_move 123 = .ok (.invokevirtual 55, 3) := by decide +kernel
theorem d_D_move_126 : decode b_D_move 126 = .ok (.ireturn, 1) := by decide +kernel
set_option maxHeartbeats 4000000 in
set_option maxRecDepth 20000 in
theorem c_D_move {l : Launch} {G : va_G} {tys : List (ClassId × FieldType)} {cI cO cZ : ClassId} (hT : TY tys cI cO cZ) (o : Nat) (A : AS) (ws : va_W) (hA : CW cI cO cZ o A ws) (f k to : Int) (hrg : (-2147483648 ≤ f ∧ f < 2147483648) ∧ (-2147483648 ≤ k ∧ k < 2147483648) ∧ (-2147483648 ≤ to ∧ to < 2147483648)) : CTI l G tys y_D_move b_D_move 4 .int 4 90 [.ref o, .int (iI f), .int (iI k), .int (iI to)] ws (fun z u => ∃ A' : AS, CW cI cO cZ o A' u ∧ Sp_move f k to A z A') := by
  obtain ⟨⟨lc, sd, r, sg, ln, N, v⟩, hist, rcd, slot, uf, T, m⟩ := A
  obtain ⟨hR, h, sl, us, pd, co, hf, sf, q, a, b, ov, q2, a2, b2, sg2, ln2, r2, pl2, ov2, lc2, sd2, q3, a3, b3, sg3, ln3, r3, pl3, ov3, lc3, sd3, st, rfl, hC⟩ := hA
  have hO := hR.1
  have hr5 := hR.2.1
  have hN3 := hR.2.2.1
  have hN0 := hO.n0
  have hr0 := hO.1
  have hlcd := hR.2.2.2
  have hm80 := hC.2.2.2.2.2.1
  have hrcd6 := hC.2.2.1
  refine mkI (by decide) (Nat.le_of_ble_eq_true rfl) ?_
  rintro X rfl rfl rfl hRm C kret H ls w hl
  have hl : lv_has ls 4 [(0, .ref o), (1, .int (iI f)), (2, .int (iI k)), (3, .int (iI to))] := hl
  have w : Wd X (dcore cI cO cZ o h sl us pd co q q2 q3 hf rcd sf uf T m ++ sw cI q a b sg ln r N ov lc sd ++ sw cI q2 a2 b2 sg2 ln2 r2 pl2 ov2 lc2 sd2 ++ sw cI q3 a3 b3 sg3 ln3 r3 pl3 ov3 lc3 sd3 ++ hst cI st) H [] := w
  generalize ([] : List Loc) = locs at w ⊢
  refine r_aload_n (pc := 0) C d_D_move_0 rfl (lv_at hl 0 rfl) ?_
  refine r_iload_n (pc := 1) C d_D_move_1 rfl (lv_at hl 1 rfl) ?_
  refine r_iload_n (pc := 2) C d_D_move_2 rfl (lv_at hl 2 rfl) ?_
  refine r_callVI (pc := 3) (As := [.int (iI f), .int (iI k)]) (rest := []) (wr := []) C w (c_D_isPiece hT o h sl us pd co hf sf rcd m uf T q a b sg ln r N ov lc sd q2 a2 b2 sg2 ln2 r2 pl2 ov2 lc2 sd2 q3 a3 b3 sg3 ln3 r3 pl3 ov3 lc3 sd3 st f k (by omega) (by omega)) ml_D_76 im_D_isPiece se_D_isPiece ini_D cd_D_isPiece hd_D_isPiece rfl (by rw [hRm]; exact ⟨⟨Nat.le_of_ble_eq_true rfl, Nat.le_of_ble_eq_true rfl⟩, Nat.le_of_ble_eq_true rfl, Nat.le_of_ble_eq_true rfl⟩) hl.1 [0, 1, 2, 3, 4, 5, 6, 7, 8, 9, 10, 11, 12, 13, 14, 15, 16, 17, 18, 19, 20, 21, 22, 23, 24, 25, 26, 27, 28, 29, 30, 31, 32, 33, 34, 35, 36, 37, 38] [] ⟨rfl, rfl, by decide, by decide, by decide⟩ 0 rfl rfl rfl (Nat.le_of_ble_eq_true rfl) d_D_move_3 (fun z_3 u_3 H locs hz_3 w => ?_)
  obtain ⟨rfl, hz_3⟩ := hz_3
  have w : Wd X (dcore cI cO cZ o h sl us pd co q q2 q3 hf rcd sf uf T m ++ sw cI q a b sg ln r N ov lc sd ++ sw cI q2 a2 b2 sg2 ln2 r2 pl2 ov2 lc2 sd2 ++ sw cI q3 a3 b3 sg3 ln3 r3 pl3 ov3 lc3 sd3 ++ hst cI st) H locs := w
  refine r_if_ne (pc := 6) (tgt := 11) C (by omega) d_D_move_6 (by decide) (fun c_6 => ?_) (fun c_6 => ?_)
  · skip
    have hb_6 : 0 ≤ f ∧ 1 ≤ k ∧ k ≤ N - f := by omega
    clear hz_3 c_6
    refine r_iload_n (pc := 11) C d_D_move_11 rfl (lv_at hl 3 rfl) ?_
    refine r_iconst (pc := 12) C d_D_move_12 ?_
    refine r_aload_n (pc := 13) C d_D_move_13 rfl (lv_at hl 0 rfl) ?_
    refine r_get (pc := 14) (v := .ref q) C w i_D rfl 0 rfl 0 (by decide) fl_D_10 rfl rfl d_D_move_14 ?_
    refine r_get (pc := 17) (v := .int (iI N)) C w i_S rfl 6 rfl 3 (by decide) fl_D_62 rfl rfl d_D_move_17 ?_
    refine r_iload_n (pc := 20) C d_D_move_20 rfl (lv_at hl 2 rfl) ?_
    refine r_isub (pc := 21) C d_D_move_21 ?_
    refine r_callP (pc := 22) (As := [.int (iI to), .int (iI 0), .int (iI (N - k))]) (rest := []) C w (c_D_isWithin to 0 (N - k) (by omega)) ml_D_44 st_D_isWithin ini_D cd_D_isWithin hd_D_isWithin rfl (by rw [hRm]; exact ⟨⟨Nat.le_of_ble_eq_true rfl, Nat.le_of_ble_eq_true rfl⟩, Nat.le_of_ble_eq_true rfl, Nat.le_of_ble_eq_true rfl⟩) hl.1 rfl (Nat.le_of_ble_eq_true rfl) d_D_move_22 (fun z_22 H locs hz_22 w => ?_)
    refine r_if_ne (pc := 25) (tgt := 31) C (by omega) d_D_move_25 (by decide) (fun c_25 => ?_) (fun c_25 => ?_)
    · skip
      have hb_25 : 0 ≤ to ∧ to ≤ (N - k) := by omega
      clear hz_22 c_25
      refine r_aload_n (pc := 31) C d_D_move_31 rfl (lv_at hl 0 rfl) ?_
      refine r_get (pc := 32) (v := .ref q3) C w i_D rfl 0 rfl 2 (by decide) fl_D_19 rfl rfl d_D_move_32 ?_
      refine r_aload_n (pc := 35) C d_D_move_35 rfl (lv_at hl 0 rfl) ?_
      refine r_get (pc := 36) (v := .ref q) C w i_D rfl 0 rfl 0 (by decide) fl_D_10 rfl rfl d_D_move_36 ?_
      refine r_callVV (pc := 39) (As := [.ref q]) (rest := []) (wr := (dcore cI cO cZ o h sl us pd co q q2 q3 hf rcd sf uf T m ++ sw cI q2 a2 b2 sg2 ln2 r2 pl2 ov2 lc2 sd2 ++ hst cI st)) C w (c_S_startLike hT q3 a3 b3 sg3 ln3 r3 pl3 ov3 lc3 sd3 q a b sg ln r N ov lc sd) ml_D_65 im_S_startLike se_S_startLike ini_S cd_S_startLike hd_S_startLike rfl (by rw [hRm]; exact ⟨⟨Nat.le_of_ble_eq_true rfl, Nat.le_of_ble_eq_true rfl⟩, Nat.le_of_ble_eq_true rfl, Nat.le_of_ble_eq_true rfl⟩) hl.1 [12, 13, 14, 6, 7, 8] [0, 1, 2, 3, 4, 5, 9, 10, 11, 15, 16, 17, 18, 19, 20, 21, 22, 23, 24, 25, 26, 27, 28, 29, 30, 31, 32, 33, 34, 35, 36, 37, 38] ⟨rfl, rfl, by decide, by decide, by decide⟩ 0 rfl rfl rfl (Nat.le_of_ble_eq_true rfl) d_D_move_39 (fun u_39 H locs hz_39 w => ?_)
      subst hz_39
      have w : Wd X (dcore cI cO cZ o h sl us pd co q q2 q3 hf rcd sf uf T m ++ sw cI q a b sg ln r N ov lc sd ++ sw cI q2 a2 b2 sg2 ln2 r2 pl2 ov2 lc2 sd2 ++ sw cI q3 a3 b3 sg3 ln3 0 0 0 lc sd ++ hst cI st) H locs := w.sub [0, 1, 2, 3, 4, 5, 36, 37, 38, 6, 7, 8, 33, 34, 35, 9, 10, 11, 12, 13, 14, 15, 16, 17, 18, 19, 20, 21, 22, 23, 24, 25, 26, 27, 28, 29, 30, 31, 32] rfl (by decide)
      refine r_aload_n (pc := 42) C d_D_move_42 rfl (lv_at hl 0 rfl) ?_
      refine r_get (pc := 43) (v := .ref q3) C w i_D rfl 0 rfl 2 (by decide) fl_D_19 rfl rfl d_D_move_43 ?_
      refine r_aload_n (pc := 46) C d_D_move_46 rfl (lv_at hl 0 rfl) ?_
      refine r_get (pc := 47) (v := .ref q) C w i_D rfl 0 rfl 0 (by decide) fl_D_10 rfl rfl d_D_move_47 ?_
      refine r_iload_n (pc := 50) C d_D_move_50 rfl (lv_at hl 1 rfl) ?_
      refine r_iload_n (pc := 51) C d_D_move_51 rfl (lv_at hl 1 rfl) ?_
      refine r_iload_n (pc := 52) C d_D_move_52 rfl (lv_at hl 2 rfl) ?_
      refine r_iadd (pc := 53) C d_D_move_53 ?_
      refine r_callVV (pc := 54) (As := [.ref q, .int (iI f), .int (iI (f + k))]) (rest := []) (wr := (dcore cI cO cZ o h sl us pd co q q2 q3 hf rcd sf uf T m ++ sw cI q2 a2 b2 sg2 ln2 r2 pl2 ov2 lc2 sd2 ++ hst cI st)) C w (c_S_appendAllBut hT q3 a3 b3 sg3 ln3 0 0 0 lc sd q a b sg ln r N ov lc sd _ _ (f + k) f _ _ (RV.empty _ _ v) hO (by omega) (by omega) (by omega) (by omega) (by omega)) ml_D_84 im_S_appendAllBut se_S_appendAllBut ini_S cd_S_appendAllBut hd_S_appendAllBut rfl (by rw [hRm]; exact ⟨⟨Nat.le_of_ble_eq_true rfl, Nat.le_of_ble_eq_true rfl⟩, Nat.le_of_ble_eq_true rfl, Nat.le_of_ble_eq_true rfl⟩) hl.1 [12, 13, 14, 6, 7, 8] [0, 1, 2, 3, 4, 5, 9, 10, 11, 15, 16, 17, 18, 19, 20, 21, 22, 23, 24, 25, 26, 27, 28, 29, 30, 31, 32, 33, 34, 35, 36, 37, 38] ⟨rfl, rfl, by decide, by decide, by decide⟩ 0 rfl rfl rfl (Nat.le_of_ble_eq_true rfl) d_D_move_54 (fun u_54 H locs hz_54 w => ?_)
      obtain ⟨sg_54, ln_54, r_54, pl_54, ov_54, rfl, hV_54⟩ := hz_54
      have w : Wd X (dcore cI cO cZ o h sl us pd co q q2 q3 hf rcd sf uf T m ++ sw cI q a b sg ln r N ov lc sd ++ sw cI q2 a2 b2 sg2 ln2 r2 pl2 ov2 lc2 sd2 ++ sw cI q3 a3 b3 sg_54 ln_54 r_54 pl_54 ov_54 lc sd ++ hst cI st) H locs := w.sub [0, 1, 2, 3, 4, 5, 36, 37, 38, 6, 7, 8, 33, 34, 35, 9, 10, 11, 12, 13, 14, 15, 16, 17, 18, 19, 20, 21, 22, 23, 24, 25, 26, 27, 28, 29, 30, 31, 32] rfl (by decide)
      have hVa := hV_54.to (n' := N - k) (u := del v f k) (by omega) (fun x h1 h2 => by unfold del; by_cases q : x < f; rw [cat_lt (by omega), cat_ge (by omega), if_pos q]; congr 1; omega; rw [cat_ge (by omega), if_neg q]; congr 1; omega)
      have hrd := rc_del (v := v) (f := f) (k := k) (N := N) (by omega) (by omega) (by omega)
      have hrE := hO.rcE
      obtain ⟨-, hpa, hOa⟩ := hVa.2.1 ⟨by omega, by omega⟩
      have hra := hOa.rcE
      refine r_aload_n (pc := 57) C d_D_move_57 rfl (lv_at hl 0 rfl) ?_
      refine r_get (pc := 58) (v := .ref q2) C w i_D rfl 0 rfl 1 (by decide) fl_D_16 rfl rfl d_D_move_58 ?_
      refine r_aload_n (pc := 61) C d_D_move_61 rfl (lv_at hl 0 rfl) ?_
      refine r_get (pc := 62) (v := .ref q) C w i_D rfl 0 rfl 0 (by decide) fl_D_10 rfl rfl d_D_move_62 ?_
      refine r_callVV (pc := 65) (As := [.ref q]) (rest := []) (wr := (dcore cI cO cZ o h sl us pd co q q2 q3 hf rcd sf uf T m ++ sw cI q3 a3 b3 sg_54 ln_54 r_54 pl_54 ov_54 lc sd ++ hst cI st)) C w (c_S_startLike hT q2 a2 b2 sg2 ln2 r2 pl2 ov2 lc2 sd2 q a b sg ln r N ov lc sd) ml_D_65 im_S_startLike se_S_startLike ini_S cd_S_startLike hd_S_startLike rfl (by rw [hRm]; exact ⟨⟨Nat.le_of_ble_eq_true rfl, Nat.le_of_ble_eq_true rfl⟩, Nat.le_of_ble_eq_true rfl, Nat.le_of_ble_eq_true rfl⟩) hl.1 [9, 10, 11, 6, 7, 8] [0, 1, 2, 3, 4, 5, 12, 13, 14, 15, 16, 17, 18, 19, 20, 21, 22, 23, 24, 25, 26, 27, 28, 29, 30, 31, 32, 33, 34, 35, 36, 37, 38] ⟨rfl, rfl, by decide, by decide, by decide⟩ 0 rfl rfl rfl (Nat.le_of_ble_eq_true rfl) d_D_move_65 (fun u_65 H locs hz_65 w => ?_)
      subst hz_65
      have w : Wd X (dcore cI cO cZ o h sl us pd co q q2 q3 hf rcd sf uf T m ++ sw cI q a b sg ln r N ov lc sd ++ sw cI q2 a2 b2 sg2 ln2 0 0 0 lc sd ++ sw cI q3 a3 b3 sg_54 ln_54 r_54 pl_54 ov_54 lc sd ++ hst cI st) H locs := w.sub [0, 1, 2, 3, 4, 5, 36, 37, 38, 33, 34, 35, 6, 7, 8, 9, 10, 11, 12, 13, 14, 15, 16, 17, 18, 19, 20, 21, 22, 23, 24, 25, 26, 27, 28, 29, 30, 31, 32] rfl (by decide)
      refine r_aload_n (pc := 68) C d_D_move_68 rfl (lv_at hl 0 rfl) ?_
      refine r_get (pc := 69) (v := .ref q2) C w i_D rfl 0 rfl 1 (by decide) fl_D_16 rfl rfl d_D_move_69 ?_
      refine r_aload_n (pc := 72) C d_D_move_72 rfl (lv_at hl 0 rfl) ?_
      refine r_get (pc := 73) (v := .ref q3) C w i_D rfl 0 rfl 2 (by decide) fl_D_19 rfl rfl d_D_move_73 ?_
      refine r_iconst (pc := 76) C d_D_move_76 ?_
      refine r_iload_n (pc := 77) C d_D_move_77 rfl (lv_at hl 3 rfl) ?_
      refine r_callVV (pc := 78) (As := [.ref q3, .int (iI 0), .int (iI to)]) (rest := []) (wr := (dcore cI cO cZ o h sl us pd co q q2 q3 hf rcd sf uf T m ++ sw cI q a b sg ln r N ov lc sd ++ hst cI st)) C w (c_S_appendPiece hT q2 a2 b2 sg2 ln2 0 0 0 lc sd q3 a3 b3 sg_54 ln_54 r_54 pl_54 ov_54 lc sd _ _ to 0 _ _ (RV.empty _ _ v) hOa (by omega) (by omega) (by omega) (by omega)) ml_D_68 im_S_appendPiece se_S_appendPiece ini_S cd_S_appendPiece hd_S_appendPiece rfl (by rw [hRm]; exact ⟨⟨Nat.le_of_ble_eq_true rfl, Nat.le_of_ble_eq_true rfl⟩, Nat.le_of_ble_eq_true rfl, Nat.le_of_ble_eq_true rfl⟩) hl.1 [9, 10, 11, 12, 13, 14] [0, 1, 2, 3, 4, 5, 6, 7, 8, 15, 16, 17, 18, 19, 20, 21, 22, 23, 24, 25, 26, 27, 28, 29, 30, 31, 32, 33, 34, 35, 36, 37, 38] ⟨rfl, rfl, by decide, by decide, by decide⟩ 0 rfl rfl rfl (Nat.le_of_ble_eq_true rfl) d_D_move_78 (fun u_78 H locs hz_78 w => ?_)
      obtain ⟨sg_78, ln_78, r_78, pl_78, ov_78, rfl, hV_78⟩ := hz_78
      have w : Wd X (dcore cI cO cZ o h sl us pd co q q2 q3 hf rcd sf uf T m ++ sw cI q a b sg ln r N ov lc sd ++ sw cI q2 a2 b2 sg_78 ln_78 r_78 pl_78 ov_78 lc sd ++ sw cI q3 a3 b3 sg_54 ln_54 r_54 pl_54 ov_54 lc sd ++ hst cI st) H locs := w.sub [0, 1, 2, 3, 4, 5, 6, 7, 8, 33, 34, 35, 36, 37, 38, 9, 10, 11, 12, 13, 14, 15, 16, 17, 18, 19, 20, 21, 22, 23, 24, 25, 26, 27, 28, 29, 30, 31, 32] rfl (by decide)
      have hV7 := hV_78.to (n' := to) (u := del v f k) (by omega) (fun x h1 h2 => by rw [cat_ge (by omega)]; congr 1; omega)
      refine r_aload_n (pc := 81) C d_D_move_81 rfl (lv_at hl 0 rfl) ?_
      refine r_get (pc := 82) (v := .ref q2) C w i_D rfl 0 rfl 1 (by decide) fl_D_16 rfl rfl d_D_move_82 ?_
      refine r_aload_n (pc := 85) C d_D_move_85 rfl (lv_at hl 0 rfl) ?_
      refine r_get (pc := 86) (v := .ref q) C w i_D rfl 0 rfl 0 (by decide) fl_D_10 rfl rfl d_D_move_86 ?_
      refine r_iload_n (pc := 89) C d_D_move_89 rfl (lv_at hl 1 rfl) ?_
      refine r_iload_n (pc := 90) C d_D_move_90 rfl (lv_at hl 1 rfl) ?_
      refine r_iload_n (pc := 91) C d_D_move_91 rfl (lv_at hl 2 rfl) ?_
      refine r_iadd (pc := 92) C d_D_move_92 ?_
      refine r_callVV (pc := 93) (As := [.ref q, .int (iI f), .int (iI (f + k))]) (rest := []) (wr := (dcore cI cO cZ o h sl us pd co q q2 q3 hf rcd sf uf T m ++ sw cI q3 a3 b3 sg_54 ln_54 r_54 pl_54 ov_54 lc sd ++ hst cI st)) C w (c_S_appendPiece hT q2 a2 b2 sg_78 ln_78 r_78 pl_78 ov_78 lc sd q a b sg ln r N ov lc sd _ _ (f + k) f _ _ hV7 hO (by omega) (by omega) (by omega) (by omega)) ml_D_68 im_S_appendPiece se_S_appendPiece ini_S cd_S_appendPiece hd_S_appendPiece rfl (by rw [hRm]; exact ⟨⟨Nat.le_of_ble_eq_true rfl, Nat.le_of_ble_eq_true rfl⟩, Nat.le_of_ble_eq_true rfl, Nat.le_of_ble_eq_true rfl⟩) hl.1 [9, 10, 11, 6, 7, 8] [0, 1, 2, 3, 4, 5, 12, 13, 14, 15, 16, 17, 18, 19, 20, 21, 22, 23, 24, 25, 26, 27, 28, 29, 30, 31, 32, 33, 34, 35, 36, 37, 38] ⟨rfl, rfl, by decide, by decide, by decide⟩ 0 rfl rfl rfl (Nat.le_of_ble_eq_true rfl) d_D_move_93 (fun u_93 H locs hz_93 w => ?_)
      obtain ⟨sg_93, ln_93, r_93, pl_93, ov_93, rfl, hV_93⟩ := hz_93
      have w : Wd X (dcore cI cO cZ o h sl us pd co q q2 q3 hf rcd sf uf T m ++ sw cI q a b sg ln r N ov lc sd ++ sw cI q2 a2 b2 sg_93 ln_93 r_93 pl_93 ov_93 lc sd ++ sw cI q3 a3 b3 sg_54 ln_54 r_54 pl_54 ov_54 lc sd ++ hst cI st) H locs := w.sub [0, 1, 2, 3, 4, 5, 36, 37, 38, 33, 34, 35, 6, 7, 8, 9, 10, 11, 12, 13, 14, 15, 16, 17, 18, 19, 20, 21, 22, 23, 24, 25, 26, 27, 28, 29, 30, 31, 32] rfl (by decide)
      have hV8 := hV_93.to (n' := to + k) (by omega) (fun _ _ _ => rfl)
      refine r_aload_n (pc := 96) C d_D_move_96 rfl (lv_at hl 0 rfl) ?_
      refine r_get (pc := 97) (v := .ref q2) C w i_D rfl 0 rfl 1 (by decide) fl_D_16 rfl rfl d_D_move_97 ?_
      refine r_aload_n (pc := 100) C d_D_move_100 rfl (lv_at hl 0 rfl) ?_
      refine r_get (pc := 101) (v := .ref q3) C w i_D rfl 0 rfl 2 (by decide) fl_D_19 rfl rfl d_D_move_101 ?_
      refine r_iload_n (pc := 104) C d_D_move_104 rfl (lv_at hl 3 rfl) ?_
      refine r_aload_n (pc := 105) C d_D_move_105 rfl (lv_at hl 0 rfl) ?_
      refine r_get (pc := 106) (v := .ref q3) C w i_D rfl 0 rfl 2 (by decide) fl_D_19 rfl rfl d_D_move_106 ?_
      refine r_get (pc := 109) (v := .int (iI pl_54)) C w i_S rfl 12 rfl 3 (by decide) fl_D_62 rfl rfl d_D_move_109 ?_
      refine r_callVV (pc := 112) (As := [.ref q3, .int (iI to), .int (iI pl_54)]) (rest := []) (wr := (dcore cI cO cZ o h sl us pd co q q2 q3 hf rcd sf uf T m ++ sw cI q a b sg ln r N ov lc sd ++ hst cI st)) C w (c_S_appendPiece hT q2 a2 b2 sg_93 ln_93 r_93 pl_93 ov_93 lc sd q3 a3 b3 sg_54 ln_54 r_54 pl_54 ov_54 lc sd _ _ pl_54 to _ _ hV8 hOa (by omega) (by omega) (by omega) (by omega)) ml_D_68 im_S_appendPiece se_S_appendPiece ini_S cd_S_appendPiece hd_S_appendPiece rfl (by rw [hRm]; exact ⟨⟨Nat.le_of_ble_eq_true rfl, Nat.le_of_ble_eq_true rfl⟩, Nat.le_of_ble_eq_true rfl, Nat.le_of_ble_eq_true rfl⟩) hl.1 [9, 10, 11, 12, 13, 14] [0, 1, 2, 3, 4, 5, 6, 7, 8, 15, 16, 17, 18, 19, 20, 21, 22, 23, 24, 25, 26, 27, 28, 29, 30, 31, 32, 33, 34, 35, 36, 37, 38] ⟨rfl, rfl, by decide, by decide, by decide⟩ 0 rfl rfl rfl (Nat.le_of_ble_eq_true rfl) d_D_move_112 (fun u_112 H locs hz_112 w => ?_)
      obtain ⟨sg_112, ln_112, r_112, pl_112, ov_112, rfl, hV_112⟩ := hz_112
      have w : Wd X (dcore cI cO cZ o h sl us pd co q q2 q3 hf rcd sf uf T m ++ sw cI q a b sg ln r N ov lc sd ++ sw cI q2 a2 b2 sg_112 ln_112 r_112 pl_112 ov_112 lc sd ++ sw cI q3 a3 b3 sg_54 ln_54 r_54 pl_54 ov_54 lc sd ++ hst cI st) H locs := w.sub [0, 1, 2, 3, 4, 5, 6, 7, 8, 33, 34, 35, 36, 37, 38, 9, 10, 11, 12, 13, 14, 15, 16, 17, 18, 19, 20, 21, 22, 23, 24, 25, 26, 27, 28, 29, 30, 31, 32] rfl (by decide)
      have hV9 := hV_112.to (n' := N) (u := mvd v f k to) (by omega) (fun x h1 h2 => by unfold mvd; by_cases q : x < to; rw [cat_lt (by omega), cat_lt q, if_pos q]; rw [if_neg q]; by_cases q2 : x < to + k; rw [cat_lt q2, cat_ge (by omega), if_pos q2]; congr 1; omega; rw [cat_ge (by omega), if_neg q2]; congr 1; omega)
      refine r_aload_n (pc := 115) C d_D_move_115 rfl (lv_at hl 0 rfl) ?_
      refine r_aload_n (pc := 116) C d_D_move_116 rfl (lv_at hl 0 rfl) ?_
      refine r_get (pc := 117) (v := .ref q2) C w i_D rfl 0 rfl 1 (by decide) fl_D_16 rfl rfl d_D_move_117 ?_
      refine r_get (pc := 120) (v := .int (iI r_112)) C w i_S rfl 9 rfl 2 (by decide) fl_D_99 rfl rfl d_D_move_120 ?_
      refine r_callVI (pc := 123) (As := [.int (iI r_112)]) (rest := []) (wr := []) C w (c_D_accepted hT o h sl us pd co hf sf rcd m uf T q a b sg ln r N ov lc sd q2 a2 b2 sg_112 ln_112 r_112 pl_112 ov_112 lc sd q3 a3 b3 sg_54 ln_54 r_54 pl_54 ov_54 lc sd st r_112 _ v _ hist slot hR hC hV9 (by omega)) ml_D_55 im_D_accepted se_D_accepted ini_D cd_D_accepted hd_D_accepted rfl (by rw [hRm]; exact ⟨⟨Nat.le_of_ble_eq_true rfl, Nat.le_of_ble_eq_true rfl⟩, Nat.le_of_ble_eq_true rfl, Nat.le_of_ble_eq_true rfl⟩) hl.1 [0, 1, 2, 3, 4, 5, 6, 7, 8, 9, 10, 11, 12, 13, 14, 15, 16, 17, 18, 19, 20, 21, 22, 23, 24, 25, 26, 27, 28, 29, 30, 31, 32, 33, 34, 35, 36, 37, 38] [] ⟨rfl, rfl, by decide, by decide, by decide⟩ 0 rfl rfl rfl (Nat.le_of_ble_eq_true rfl) d_D_move_123 (fun z_123 u_123 H locs hz_123 w => ?_)
      exact kret _ _ _ _ z_123 _ d_D_move_126 w (by rcases hz_123 with ⟨f1, f2, rfl⟩ | ⟨f1, f2, A, f3, f4⟩; exact ⟨_, cw_mk hR hC, Or.inr (Or.inl ⟨by unfold errMv; (repeat' split) <;> omega, f1, f2, rfl⟩)⟩; exact ⟨A, f3, Or.inr (Or.inr ⟨by unfold errMv; (repeat' split) <;> omega, f1, f2.trans (hV9.2.1 f1).2.2.rcE.symm, f4⟩)⟩)
    · skip
      have hb_25 : ¬ (0 ≤ to ∧ to ≤ (N - k)) := by omega
      clear hz_22 c_25
      refine r_bipush (pc := 28) C d_D_move_28 (by decide) ?_
      exact kret _ _ _ _ (-2) _ d_D_move_30 w (⟨_, cw_mk hR hC, Or.inl ⟨by unfold errMv; (repeat' split) <;> omega, by unfold errMv; (repeat' split) <;> omega, rfl⟩⟩)
  · skip
    have hb_6 : ¬ (0 ≤ f ∧ 1 ≤ k ∧ k ≤ N - f) := by omega
    clear hz_3 c_6
    refine r_iconst (pc := 9) C d_D_move_9 ?_
    exact kret _ _ _ _ (-1) _ d_D_move_10 w (⟨_, cw_mk hR hC, Or.inl ⟨by unfold errMv; (repeat' split) <;> omega, by unfold errMv; (repeat' split) <;> omega, rfl⟩⟩)
theorem undo_cw {cI cO cZ : ClassId} {o h sl us pd co : Nat} {hf sf : Int → Nat} {rcd m : Int} {uf T : Int → Int} {q a b : Nat} {sg ln : Int → Int} {r N ov lc sd : Int} {q2 a2 b2 : Nat} {sg2 ln2 : Int → Int} {r2 pl2 ov2 lc2 sd2 : Int} {q3 a3 b3 : Nat} {sg3 ln3 : Int → Int} {r3 pl3 ov3 lc3 sd3 : Int} {st : Int → SD} {hist slot : Int → Rw} (hC : DC hf sf st hist rcd slot uf T m) (h1 : 1 ≤ rcd) :
    CW cI cO cZ o (hist (rcd - 1), hist, rcd - 1, slot, uf, T, m) (dcore cI cO cZ o h sl us pd co (st (rcd - 1)).1 q2 q3 (up hf (rcd - 1) q) (rcd - 1) sf uf T m ++ swd cI (st (rcd - 1)) ++ sw cI q2 a2 b2 sg2 ln2 r2 pl2 ov2 lc2 sd2 ++ sw cI q3 a3 b3 sg3 ln3 r3 pl3 ov3 lc3 sd3 ++ hst cI (up st (rcd - 1) (q, a, b, sg, ln, r, N, ov, lc, sd))) := by
  obtain ⟨d1, d2, d3, d4, d5, d6, d7⟩ := hC
  have hs := d4 (rcd - 1) (by omega) (by omega)
  have hDC : DC (up hf (rcd - 1) q) sf (up st (rcd - 1) (q, a, b, sg, ln, r, N, ov, lc, sd)) hist (rcd - 1) slot uf T m := by
    refine ⟨fun i i1 i2 => ?_, fun i i1 i2 => ?_, by omega, fun i i1 i2 => ?_, fun i i1 i2 => ?_, d6, d7⟩
    · by_cases e : i = rcd - 1
      · subst e; rw [up_eq, up_eq]
      · rw [up_ne _ _ e, up_ne _ _ e]; exact d1 i i1 i2
    · rw [up_ne _ _ (by omega)]; exact d2 i i1 i2
    · rw [up_ne _ _ (by omega)]; exact d4 i i1 (by omega)
    · rw [up_ne _ _ (by omega)]; exact d5 i i1 i2
  generalize hist (rcd - 1) = w at hs
  generalize st (rcd - 1) = d at hs
  obtain ⟨lc', sd', r', sg', ln', N', v'⟩ := w
  obtain ⟨q', a', b', sg'', ln'', r'', pl'', ov'', lc'', sd''⟩ := d
  obtain ⟨e1, e2, e3, e4, e5, e6, hR⟩ := hs
  subst e1 e2 e3 e4 e5 e6
  exact cw_mk hR hDC

def Sp_undo (A : AS) (z : Int) (A' : AS) : Prop := match A with | ((lc, sd, r, sg, ln, N, v), hist, rcd, slot, uf, T, m) => (rcd = 0 ∧ z = -5 ∧ A' = A) ∨ (1 ≤ rcd ∧ z = rcd - 1 ∧ A' = (hist (rcd - 1), hist, rcd - 1, slot, uf, T, m))
theorem d_D_undo_0 : decode b_D_undo 0 = .ok (.aload_n 0, 1) := by decide +kernel
theorem d_D_undo_1 : decode b_D_undo 1 = .ok (.getfield 26, 3) := by decide +kernel
theorem d_D_undo_4 : decode b_D_undo 4 = .ok (.iconst 1, 1) := by decide +kernel
theorem d_D_undo_5 : decode b_D_undo 5 = .ok (.bipush 6, 2) := by decide +kernel
theorem d_D_undo_7 : decode b_D_undo 7 = .ok (.invokestatic 44, 3) := by decide +kernel
theorem d_D_undo_10 : decode b_D_undo 10 = .ok (.ifCond .ne 6, 3) := by decide +kernel
theorem d_D_undo_13 : decode b_D_undo 13 = .ok (.bipush (-5), 2) := by decide +kernel
theorem d_D_undo_15 : decode b_D_undo 15 = .ok (.ireturn, 1) := by decide +kernel
theorem d_D_undo_16 : decode b_D_undo 16 = .ok (.aload_n 0, 1) := by decide +kernel
theorem d_D_undo_17 : decode b_D_undo 17 = .ok (.dup, 1) := by decide +kernel
theorem d_D_undo_18 : decode b_D_undo 18 = .ok (.getfield 26, 3) := by decide +kernel
theorem d_D_undo_21 : decode b_D_undo 21 = .ok (.iconst 1, 1) := by decide +kernel
theorem d_D_undo_22 : decode b_D_undo 22 = .ok (.isub, 1) := by decide +kernel
theorem d_D_undo_23 : decode b_D_undo 23 = .ok (.putfield 26, 3) := by decide +kernel
theorem d_D_undo_26 : decode b_D_undo 26 = .ok (.aload_n 0, 1) := by decide +kernel
theorem d_D_undo_27 : decode b_D_undo 27 = .ok (.getfield 10, 3) := by decide +kernel
theorem d_D_undo_30 : decode b_D_undo 30 = .ok (.astore_n 1, 1) := by decide +kernel
theorem d_D_undo_31 : decode b_D_undo 31 = .ok (.aload_n 0, 1) := by decide +kernel
theorem d_D_undo_32 : decode b_D_undo 32 = .ok (.aload_n 0, 1) := by decide +kernel
theorem d_D_undo_33 : decode b_D_undo 33 = .ok (.getfield 22, 3) := by decide +kernel
theorem d_D_undo_36 : decode b_D_undo 36 = .ok (.aload_n 0, 1) := by decide +kernel
theorem d_D_undo_37 : decode b_D_undo 37 = .ok (.getfield 26, 3) := by decide +kernel
theorem d_D_undo_40 : decode b_D_undo 40 = .ok (.aaload, 1) := by decide +kernel
theorem d_D_undo_41 : decode b_D_undo 41 = .ok (.putfield 10, 3) := by decide +kernel
theorem d_D_undo_44 : decode b_D_undo 44 = .ok (.aload_n 0, 1) := by decide +kernel
theorem d_D_undo_45 : decode b_D_undo 45 = .ok (.getfield 22, 3) := by decide +kernel
theorem d_D_undo_48 : decode b_D_undo 48 = .ok (.aload_n 0, 1) := by decide +kernel
theorem d_D_undo_49 : decode b_D_undo 49 = .ok (.getfield 26, 3) := by decide +kernel
theorem d_D_undo_52 : decode b_D_undo 52 = .ok (.aload_n 1, 1) := by decide +kernel
theorem d_D_undo_53 : decode b_D_undo 53 = .ok (.aastore, 1) := by decide +kernel
theorem d_D_undo_54 : decode b_D_undo 54 = .ok (.aload_n 0, 1) := by decide +kernel
theorem d_D_undo_55 : decode b_D_undo 55 = .ok (.getfield 26, 3) := by decide +kernel
theorem d_D_undo_58 : decode b_D_undo 58 = .ok (.ireturn, 1) := by decide +kernel
set_option maxHeartbeats 4000000 in
set_option maxRecDepth 20000 in
theorem c_D_undo {l : Launch} {G : va_G} {tys : List (ClassId × FieldType)} {cI cO cZ : ClassId} (hT : TY tys cI cO cZ) (o : Nat) (A : AS) (ws : va_W) (hA : CW cI cO cZ o A ws) : CTI l G tys y_D_undo b_D_undo 2 .int 1 22 [.ref o] ws (fun z u => ∃ A' : AS, CW cI cO cZ o A' u ∧ Sp_undo  A z A') := by
  obtain ⟨⟨lc, sd, r, sg, ln, N, v⟩, hist, rcd, slot, uf, T, m⟩ := A
  obtain ⟨hR, h, sl, us, pd, co, hf, sf, q, a, b, ov, q2, a2, b2, sg2, ln2, r2, pl2, ov2, lc2, sd2, q3, a3, b3, sg3, ln3, r3, pl3, ov3, lc3, sd3, st, rfl, hC⟩ := hA
  have hO := hR.1
  have hr5 := hR.2.1
  have hN3 := hR.2.2.1
  have hN0 := hO.n0
  have hr0 := hO.1
  have hlcd := hR.2.2.2
  have hm80 := hC.2.2.2.2.2.1
  have hrcd6 := hC.2.2.1
  refine mkI (by decide) (Nat.le_of_ble_eq_true rfl) ?_
  rintro X rfl rfl rfl hRm C kret H ls w hl
  have hl : lv_has ls 2 [(0, .ref o)] := hl
  have w : Wd X (dcore cI cO cZ o h sl us pd co q q2 q3 hf rcd sf uf T m ++ sw cI q a b sg ln r N ov lc sd ++ sw cI q2 a2 b2 sg2 ln2 r2 pl2 ov2 lc2 sd2 ++ sw cI q3 a3 b3 sg3 ln3 r3 pl3 ov3 lc3 sd3 ++ hst cI st) H [] := w
  generalize ([] : List Loc) = locs at w ⊢
  have hhf := hC.1
  refine r_aload_n (pc := 0) C d_D_undo_0 rfl (lv_at hl 0 rfl) ?_
  refine r_get (pc := 1) (v := .int (iI rcd)) C w i_D rfl 0 rfl 4 (by decide) fl_D_26 rfl rfl d_D_undo_1 ?_
  refine r_iconst (pc := 4) C d_D_undo_4 ?_
  refine r_bipush (pc := 5) C d_D_undo_5 (by decide) ?_
  refine r_callP (pc := 7) (As := [.int (iI rcd), .int (iI 1), .int (iI 6)]) (rest := []) C w (c_D_isWithin rcd 1 6 (by omega)) ml_D_44 st_D_isWithin ini_D cd_D_isWithin hd_D_isWithin rfl (by rw [hRm]; exact ⟨⟨Nat.le_of_ble_eq_true rfl, Nat.le_of_ble_eq_true rfl⟩, Nat.le_of_ble_eq_true rfl, Nat.le_of_ble_eq_true rfl⟩) hl.1 rfl (Nat.le_of_ble_eq_true rfl) d_D_undo_7 (fun z_7 H locs hz_7 w => ?_)
  refine r_if_ne (pc := 10) (tgt := 16) C (by omega) d_D_undo_10 (by decide) (fun c_10 => ?_) (fun c_10 => ?_)
  · skip
    have hb_10 : 1 ≤ rcd ∧ rcd ≤ 6 := by omega
    clear hz_7 c_10
    refine r_aload_n (pc := 16) C d_D_undo_16 rfl (lv_at hl 0 rfl) ?_
    refine r_dup (pc := 17) C d_D_undo_17 rfl ?_
    refine r_get (pc := 18) (v := .int (iI rcd)) C w i_D rfl 0 rfl 4 (by decide) fl_D_26 rfl rfl d_D_undo_18 ?_
    refine r_iconst (pc := 21) C d_D_undo_21 ?_
    refine r_isub (pc := 22) C d_D_undo_22 ?_
    refine r_put (pc := 23) (ws' := dcore cI cO cZ o h sl us pd co q q2 q3 hf (rcd - 1) sf uf T m ++ sw cI q a b sg ln r N ov lc sd ++ sw cI q2 a2 b2 sg2 ln2 r2 pl2 ov2 lc2 sd2 ++ sw cI q3 a3 b3 sg3 ln3 r3 pl3 ov3 lc3 sd3 ++ hst cI st) C w i_D t_D t_D_ok n_D rfl 0 rfl 4 (by decide) fl_D_26 rfl rfl rfl rfl (Nat.le_of_ble_eq_true rfl) rfl d_D_undo_23 (fun H locs w => ?_)
    refine r_aload_n (pc := 26) C d_D_undo_26 rfl (lv_at hl 0 rfl) ?_
    refine r_get (pc := 27) (v := .ref q) C w i_D rfl 0 rfl 0 (by decide) fl_D_10 rfl rfl d_D_undo_27 ?_
    refine r_astore_n (pc := 30) (lv' := [(1, .ref q), (0, .ref o)]) C d_D_undo_30 rfl hl (by decide) rfl (fun ls hl => ?_)
    refine r_aload_n (pc := 31) C d_D_undo_31 rfl (lv_at hl 1 rfl) ?_
    refine r_aload_n (pc := 32) C d_D_undo_32 rfl (lv_at hl 1 rfl) ?_
    refine r_get (pc := 33) (v := .ref h) C w i_D rfl 0 rfl 3 (by decide) fl_D_22 rfl rfl d_D_undo_33 ?_
    refine r_aload_n (pc := 36) C d_D_undo_36 rfl (lv_at hl 1 rfl) ?_
    refine r_get (pc := 37) (v := .int (iI (rcd - 1))) C w i_D rfl 0 rfl 4 (by decide) fl_D_26 rfl rfl d_D_undo_37 ?_
    refine r_aald (pc := 40) (f := hf) (i := (rcd - 1)) C w 1 1 rfl hT.2.1 (by omega) d_D_undo_40 ?_
    refine r_put (pc := 41) (ws' := dcore cI cO cZ o h sl us pd co (hf (rcd - 1)) q2 q3 hf (rcd - 1) sf uf T m ++ sw cI q a b sg ln r N ov lc sd ++ sw cI q2 a2 b2 sg2 ln2 r2 pl2 ov2 lc2 sd2 ++ sw cI q3 a3 b3 sg3 ln3 r3 pl3 ov3 lc3 sd3 ++ hst cI st) C w i_D t_D t_D_ok n_D rfl 0 rfl 0 (by decide) fl_D_10 rfl rfl rfl rfl (Nat.le_of_ble_eq_true rfl) rfl d_D_undo_41 (fun H locs w => ?_)
    refine r_aload_n (pc := 44) C d_D_undo_44 rfl (lv_at hl 1 rfl) ?_
    refine r_get (pc := 45) (v := .ref h) C w i_D rfl 0 rfl 3 (by decide) fl_D_22 rfl rfl d_D_undo_45 ?_
    refine r_aload_n (pc := 48) C d_D_undo_48 rfl (lv_at hl 1 rfl) ?_
    refine r_get (pc := 49) (v := .int (iI (rcd - 1))) C w i_D rfl 0 rfl 4 (by decide) fl_D_26 rfl rfl d_D_undo_49 ?_
    refine r_aload_n (pc := 52) C d_D_undo_52 rfl (lv_at hl 0 rfl) ?_
    obtain ⟨qk_53, vs_53, hv_53⟩ : ∃ (qk : Nat) (vs : List Value), (dcore cI cO cZ o h sl us pd co (hf (rcd - 1)) q2 q3 hf (rcd - 1) sf uf T m ++ sw cI q a b sg ln r N ov lc sd ++ sw cI q2 a2 b2 sg2 ln2 r2 pl2 ov2 lc2 sd2 ++ sw cI q3 a3 b3 sg3 ln3 r3 pl3 ov3 lc3 sd3 ++ hst cI st)[qk]? = some (q, .inr (1, vs)) := ⟨6, _, rfl⟩
    refine r_aast (pc := 53) (f := hf) (i := (rcd - 1)) (v := q) (r := (R_S, F_S, 7)) (ws' := dcore cI cO cZ o h sl us pd co (hf (rcd - 1)) q2 q3 (up hf (rcd - 1) q) (rcd - 1) sf uf T m ++ sw cI q a b sg ln r N ov lc sd ++ sw cI q2 a2 b2 sg2 ln2 r2 pl2 ov2 lc2 sd2 ++ sw cI q3 a3 b3 sg3 ln3 r3 pl3 ov3 lc3 sd3 ++ hst cI st) C w 1 1 qk_53 1 rfl hT.2.1 hv_53 rfl (by omega) rfl d_D_undo_53 (fun H locs w => ?_)
    have hsp := hhf (rcd - 1) (by omega) (by omega)
    refine r_aload_n (pc := 54) C d_D_undo_54 rfl (lv_at hl 1 rfl) ?_
    refine r_get (pc := 55) (v := .int (iI (rcd - 1))) C w i_D rfl 0 rfl 4 (by decide) fl_D_26 rfl rfl d_D_undo_55 ?_
    have hsw := hst_swap (cI := cI) (st := st) (c := dcore cI cO cZ o h sl us pd co (hf (rcd - 1)) q2 q3 (up hf (rcd - 1) q) (rcd - 1) sf uf T m) (a := sw cI q3 a3 b3 sg3 ln3 r3 pl3 ov3 lc3 sd3) (d1 := (q, a, b, sg, ln, r, N, ov, lc, sd)) (d2 := (q2, a2, b2, sg2, ln2, r2, pl2, ov2, lc2, sd2)) (j := rcd - 1) (by omega) ⟨_, _, _, _, _, _, rfl⟩ ⟨_, _, _, rfl⟩ w
    rw [hsp] at hsw
    have w2 : Wd X (dcore cI cO cZ o h sl us pd co (st (rcd - 1)).1 q2 q3 (up hf (rcd - 1) q) (rcd - 1) sf uf T m ++ swd cI (st (rcd - 1)) ++ sw cI q2 a2 b2 sg2 ln2 r2 pl2 ov2 lc2 sd2 ++ sw cI q3 a3 b3 sg3 ln3 r3 pl3 ov3 lc3 sd3 ++ hst cI (up st (rcd - 1) (q, a, b, sg, ln, r, N, ov, lc, sd))) H locs := hsw.sub [0, 1, 2, 3, 4, 5, 9, 10, 11, 6, 7, 8, 12, 13, 14, 15, 16, 17, 18, 19, 20, 21, 22, 23, 24, 25, 26, 27, 28, 29, 30, 31, 32, 33, 34, 35, 36, 37, 38] rfl (by decide)
    clear w hsw
    have w := w2
    exact kret _ _ _ _ (rcd - 1) _ d_D_undo_58 w (⟨_, undo_cw hC (by omega), Or.inr ⟨by omega, rfl, rfl⟩⟩)
  · skip
    have hb_10 : ¬ (1 ≤ rcd ∧ rcd ≤ 6) := by omega
    clear hz_7 c_10
    refine r_bipush (pc := 13) C d_D_undo_13 (by decide) ?_
    exact kret _ _ _ _ (-5) _ d_D_undo_15 w (⟨_, cw_mk hR hC, Or.inl ⟨by omega, rfl, rfl⟩⟩)
theorem save_cw {cI cO cZ : ClassId} {o h sl us pd co : Nat} {hf sf : Int → Nat} {rcd m : Int} {uf T : Int → Int} {q a b : Nat} {sg ln : Int → Int} {r N ov lc sd : Int} {q2 a2 b2 : Nat} {sg2 ln2 : Int → Int} {r2 pl2 ov2 lc2 sd2 : Int} {q3 a3 b3 : Nat} {sg3 ln3 : Int → Int} {r3 pl3 ov3 lc3 sd3 : Int} {st : Int → SD} {v : Int → Int} {hist slot : Int → Rw} {s : Int} {sg' ln' : Int → Int}
    (hR : RwOk lc sd r sg ln N v) (hC : DC hf sf st hist rcd slot uf T m) (hs : 0 ≤ s ∧ s ≤ 1) (hO : Ok r sg' ln' N v) : CW cI cO cZ o ((lc, sd, r, sg, ln, N, v), hist, rcd, up slot s (lc, sd, r, sg', ln', N, v), up uf s 1, T, m) (dcore cI cO cZ o h sl us pd co q q2 q3 hf rcd sf (up uf s 1) T m ++ sw cI q a b sg ln r N ov lc sd ++ sw cI q2 a2 b2 sg2 ln2 r2 pl2 ov2 lc2 sd2 ++ sw cI q3 a3 b3 sg3 ln3 r3 pl3 ov3 lc3 sd3 ++ hst cI (up st (6 + s) ((st (6 + s)).1, (st (6 + s)).2.1, (st (6 + s)).2.2.1, sg', ln', r, N, 0, lc, sd))) := by
  refine cw_mk hR ?_
  obtain ⟨d1, d2, d3, d4, d5, d6, d7⟩ := hC
  refine ⟨fun i i1 i2 => ?_, fun i i1 i2 => ?_, by omega, fun i i1 i2 => ?_, fun i i1 i2 => ?_, d6, d7⟩
  · rw [up_ne _ _ (by omega)]; exact d1 i i1 i2
  · by_cases e : i = s
    · subst e; rw [up_eq]; exact d2 i i1 i2
    · rw [up_ne _ _ (by omega)]; exact d2 i i1 i2
  · rw [up_ne _ _ (by omega)]; exact d4 i i1 (by omega)
  · by_cases e : i = s
    · subst e
      rw [up_eq, up_eq, up_eq]
      exact ⟨Or.inr rfl, fun _ => ⟨rfl, rfl, rfl, rfl, rfl, rfl, hO, hR.2⟩⟩
    · rw [up_ne _ _ e, up_ne _ _ e, up_ne _ _ (by omega)]; exact d5 i i1 i2

def Sp_save (s : Int) (A : AS) (z : Int) (A' : AS) : Prop := match A with | ((lc, sd, r, sg, ln, N, v), hist, rcd, slot, uf, T, m) => (¬ (0 ≤ s ∧ s ≤ 1) ∧ z = -2 ∧ A' = A) ∨ ((0 ≤ s ∧ s ≤ 1) ∧ z = N ∧ ∃ sg' ln' : Int → Int, RwOk lc sd r sg' ln' N v ∧ A' = ((lc, sd, r, sg, ln, N, v), hist, rcd, up slot s (lc, sd, r, sg', ln', N, v), up uf s 1, T, m))
theorem d_D_save_0 : decode b_D_save 0 = .ok (.iload_n 1, 1) := by decide +kernel
theorem d_D_save_1 : decode b_D_save 1 = .ok (.iconst 0, 1) := by decide +kernel
theorem d_D_save_2 : decode b_D_save 2 = .ok (.iconst 1, 1) := by decide +kernel
theorem d_D_save_3 : decode b_D_save 3 = .ok (.invokestatic 44, 3) := by decide +kernel
theorem d_D_save_6 : decode b_D_save 6 = .ok (.ifCond .ne 6, 3) := by decide +kernel
theorem d_D_save_9 : decode b_D_save 9 = .ok (.bipush (-2), 2) := by decide +kernel
theorem d_D_save_11 : decode b_D_save 11 = .ok (.ireturn, 1) := by decide +kernel
theorem d_D_save_12 : decode b_D_save 12 = .ok (.aload_n 0, 1) := by decide +kernel
theorem d_D_save_13 : decode b_D_save 13 = .ok (.getfield 30, 3) := by decide +kernel
theorem d_D_save_16 : decode b_D_save 16 = .ok (.iload_n 1, 1) := by decide +kernel
theorem d_D_save_17 : decode b_D_save 17 = .ok (.aaload, 1) := by decide +kernel
theorem d_D_save_18 : decode b_D_save 18 = .ok (.aload_n 0, 1) := by decide +kernel
theorem d_D_save_19 : decode b_D_save 19 = .ok (.getfield 10, 3) := by decide +kernel
theorem d_D_save_22 : decode b_D_save 22 = .ok (.invokevirtual 48, 3) := by decide +kernel
theorem d_D_save_25 : decode b_D_save 25 = .ok (.aload_n 0, 1) := by decide +kernel
theorem d_D_save_26 : decode b_D_save 26 = .ok (.getfield 33, 3) := by decide +kernel
theorem d_D_save_29 : decode b_D_save 29 = .ok (.iload_n 1, 1) := by decide +kernel
theorem d_D_save_30 : decode b_D_save 30 = .ok (.iconst 1, 1) := by decide +kernel
theorem d_D_save_31 : decode b_D_save 31 = .ok (.bastore, 1) := by decide +kernel
theorem d_D_save_32 : decode b_D_save 32 = .ok (.aload_n 0, 1) := by decide +kernel
theorem d_D_save_33 : decode b_D_save 33 = .ok (.getfield 10, 3) := by decide +kernel
theorem d_D_save_36 : decode b_D_save 36 = .ok (.getfield 62, 3) := by decide +kernel
theorem d_D_save_39 : decode b_D_save 39 = .ok (.ireturn, 1) := by decide +kernel
set_option maxHeartbeats 4000000 in
set_option maxRecDepth 20000 in
theorem c_D_save {l : Launch} {G : va_G} {tys : List (ClassId × FieldType)} {cI cO cZ : ClassId} (hT : TY tys cI cO cZ) (o : Nat) (A : AS) (ws : va_W) (hA : CW cI cO cZ o A ws) (s : Int) (hrg : (-2147483648 ≤ s ∧ s < 2147483648)) : CTI l G tys y_D_save b_D_save 2 .int 4 88 [.ref o, .int (iI s)] ws (fun z u => ∃ A' : AS, CW cI cO cZ o A' u ∧ Sp_save s A z A') := by
  obtain ⟨⟨lc, sd, r, sg, ln, N, v⟩, hist, rcd, slot, uf, T, m⟩ := A
  obtain ⟨hR, h, sl, us, pd, co, hf, sf, q, a, b, ov, q2, a2, b2, sg2, ln2, r2, pl2, ov2, lc2, sd2, q3, a3, b3, sg3, ln3, r3, pl3, ov3, lc3, sd3, st, rfl, hC⟩ := hA
  have hO := hR.1
  have hr5 := hR.2.1
  have hN3 := hR.2.2.1
  have hN0 := hO.n0
  have hr0 := hO.1
  have hlcd := hR.2.2.2
  have hm80 := hC.2.2.2.2.2.1
  have hrcd6 := hC.2.2.1
  refine mkI (by decide) (Nat.le_of_ble_eq_true rfl) ?_
  rintro X rfl rfl rfl hRm C kret H ls w hl
  have hl : lv_has ls 2 [(0, .ref o), (1, .int (iI s))] := hl
  have w : Wd X (dcore cI cO cZ o h sl us pd co q q2 q3 hf rcd sf uf T m ++ sw cI q a b sg ln r N ov lc sd ++ sw cI q2 a2 b2 sg2 ln2 r2 pl2 ov2 lc2 sd2 ++ sw cI q3 a3 b3 sg3 ln3 r3 pl3 ov3 lc3 sd3 ++ hst cI st) H [] := w
  generalize ([] : List Loc) = locs at w ⊢
  refine r_iload_n (pc := 0) C d_D_save_0 rfl (lv_at hl 1 rfl) ?_
  refine r_iconst (pc := 1) C d_D_save_1 ?_
  refine r_iconst (pc := 2) C d_D_save_2 ?_
  refine r_callP (pc := 3) (As := [.int (iI s), .int (iI 0), .int (iI 1)]) (rest := []) C w (c_D_isWithin s 0 1 (by omega)) ml_D_44 st_D_isWithin ini_D cd_D_isWithin hd_D_isWithin rfl (by rw [hRm]; exact ⟨⟨Nat.le_of_ble_eq_true rfl, Nat.le_of_ble_eq_true rfl⟩, Nat.le_of_ble_eq_true rfl, Nat.le_of_ble_eq_true rfl⟩) hl.1 rfl (Nat.le_of_ble_eq_true rfl) d_D_save_3 (fun z_3 H locs hz_3 w => ?_)
  refine r_if_ne (pc := 6) (tgt := 12) C (by omega) d_D_save_6 (by decide) (fun c_6 => ?_) (fun c_6 => ?_)
  · skip
    have hb_6 : 0 ≤ s ∧ s ≤ 1 := by omega
    clear hz_3 c_6
    rcases (by omega : s = 0 ∨ s = 1) with hcs | hcs
    · subst hcs
      refine r_aload_n (pc := 12) C d_D_save_12 rfl (lv_at hl 0 rfl) ?_
      refine r_get (pc := 13) (v := .ref sl) C w i_D rfl 0 rfl 5 (by decide) fl_D_30 rfl rfl d_D_save_13 ?_
      refine r_iload_n (pc := 16) C d_D_save_16 rfl (lv_at hl 1 rfl) ?_
      refine r_aald (pc := 17) (f := sf) (i := 0) C w 1 2 rfl hT.2.1 (by omega) d_D_save_17 ?_
      have hsf := hC.2.1 0 (by omega) (by omega)
      rw [hsf]
      have w : Wd X (dcore cI cO cZ o h sl us pd co q q2 q3 hf rcd sf uf T m ++ sw cI q a b sg ln r N ov lc sd ++ sw cI q2 a2 b2 sg2 ln2 r2 pl2 ov2 lc2 sd2 ++ sw cI q3 a3 b3 sg3 ln3 r3 pl3 ov3 lc3 sd3 ++ h6 cI st ++ sw cI ((st 6).1) ((st 6).2.1) ((st 6).2.2.1) ((st 6).2.2.2.1) ((st 6).2.2.2.2.1) ((st 6).2.2.2.2.2.1) ((st 6).2.2.2.2.2.2.1) ((st 6).2.2.2.2.2.2.2.1) ((st 6).2.2.2.2.2.2.2.2.1) ((st 6).2.2.2.2.2.2.2.2.2) ++ sw cI ((st 7).1) ((st 7).2.1) ((st 7).2.2.1) ((st 7).2.2.2.1) ((st 7).2.2.2.2.1) ((st 7).2.2.2.2.2.1) ((st 7).2.2.2.2.2.2.1) ((st 7).2.2.2.2.2.2.2.1) ((st 7).2.2.2.2.2.2.2.2.1) ((st 7).2.2.2.2.2.2.2.2.2)) H locs := w
      refine r_aload_n (pc := 18) C d_D_save_18 rfl (lv_at hl 0 rfl) ?_
      refine r_get (pc := 19) (v := .ref q) C w i_D rfl 0 rfl 0 (by decide) fl_D_10 rfl rfl d_D_save_19 ?_
      refine r_callVV (pc := 22) (As := [.ref q]) (rest := []) (wr := (dcore cI cO cZ o h sl us pd co q q2 q3 hf rcd sf uf T m ++ sw cI q2 a2 b2 sg2 ln2 r2 pl2 ov2 lc2 sd2 ++ sw cI q3 a3 b3 sg3 ln3 r3 pl3 ov3 lc3 sd3 ++ h6 cI st ++ sw cI ((st 7).1) ((st 7).2.1) ((st 7).2.2.1) ((st 7).2.2.2.1) ((st 7).2.2.2.2.1) ((st 7).2.2.2.2.2.1) ((st 7).2.2.2.2.2.2.1) ((st 7).2.2.2.2.2.2.2.1) ((st 7).2.2.2.2.2.2.2.2.1) ((st 7).2.2.2.2.2.2.2.2.2))) C w (c_S_becomeCopyOf hT ((st 6).1) ((st 6).2.1) ((st 6).2.2.1) ((st 6).2.2.2.1) ((st 6).2.2.2.2.1) ((st 6).2.2.2.2.2.1) ((st 6).2.2.2.2.2.2.1) ((st 6).2.2.2.2.2.2.2.1) ((st 6).2.2.2.2.2.2.2.2.1) ((st 6).2.2.2.2.2.2.2.2.2) q a b sg ln r N ov lc sd _ _ hO (by omega) (by omega) (by omega)) ml_D_48 im_S_becomeCopyOf se_S_becomeCopyOf ini_S cd_S_becomeCopyOf hd_S_becomeCopyOf rfl (by rw [hRm]; exact ⟨⟨Nat.le_of_ble_eq_true rfl, Nat.le_of_ble_eq_true rfl⟩, Nat.le_of_ble_eq_true rfl, Nat.le_of_ble_eq_true rfl⟩) hl.1 [33, 34, 35, 6, 7, 8] [0, 1, 2, 3, 4, 5, 9, 10, 11, 12, 13, 14, 15, 16, 17, 18, 19, 20, 21, 22, 23, 24, 25, 26, 27, 28, 29, 30, 31, 32, 36, 37, 38] ⟨rfl, rfl, by decide, by decide, by decide⟩ 0 rfl rfl rfl (Nat.le_of_ble_eq_true rfl) d_D_save_22 (fun u_22 H locs hz_22 w => ?_)
      obtain ⟨sg_22, ln_22, rfl, hO_22⟩ := hz_22
      have w : Wd X (dcore cI cO cZ o h sl us pd co q q2 q3 hf rcd sf uf T m ++ sw cI q a b sg ln r N ov lc sd ++ sw cI q2 a2 b2 sg2 ln2 r2 pl2 ov2 lc2 sd2 ++ sw cI q3 a3 b3 sg3 ln3 r3 pl3 ov3 lc3 sd3 ++ h6 cI st ++ sw cI ((st 6).1) ((st 6).2.1) ((st 6).2.2.1) sg_22 ln_22 r N 0 lc sd ++ sw cI ((st 7).1) ((st 7).2.1) ((st 7).2.2.1) ((st 7).2.2.2.1) ((st 7).2.2.2.2.1) ((st 7).2.2.2.2.2.1) ((st 7).2.2.2.2.2.2.1) ((st 7).2.2.2.2.2.2.2.1) ((st 7).2.2.2.2.2.2.2.2.1) ((st 7).2.2.2.2.2.2.2.2.2)) H locs := w.sub [0, 1, 2, 3, 4, 5, 36, 37, 38, 6, 7, 8, 9, 10, 11, 12, 13, 14, 15, 16, 17, 18, 19, 20, 21, 22, 23, 24, 25, 26, 27, 28, 29, 33, 34, 35, 30, 31, 32] rfl (by decide)
      refine r_aload_n (pc := 25) C d_D_save_25 rfl (lv_at hl 0 rfl) ?_
      refine r_get (pc := 26) (v := .ref us) C w i_D rfl 0 rfl 6 (by decide) fl_D_33 rfl rfl d_D_save_26 ?_
      refine r_iload_n (pc := 29) C d_D_save_29 rfl (lv_at hl 1 rfl) ?_
      refine r_iconst (pc := 30) C d_D_save_30 ?_
      refine r_zast (pc := 31) (f := uf) (i := 0) (ws' := dcore cI cO cZ o h sl us pd co q q2 q3 hf rcd sf (up uf 0 1) T m ++ sw cI q a b sg ln r N ov lc sd ++ sw cI q2 a2 b2 sg2 ln2 r2 pl2 ov2 lc2 sd2 ++ sw cI q3 a3 b3 sg3 ln3 r3 pl3 ov3 lc3 sd3 ++ h6 cI st ++ sw cI ((st 6).1) ((st 6).2.1) ((st 6).2.2.1) sg_22 ln_22 r N 0 lc sd ++ sw cI ((st 7).1) ((st 7).2.1) ((st 7).2.2.1) ((st 7).2.2.2.1) ((st 7).2.2.2.2.1) ((st 7).2.2.2.2.2.1) ((st 7).2.2.2.2.2.2.1) ((st 7).2.2.2.2.2.2.2.1) ((st 7).2.2.2.2.2.2.2.2.1) ((st 7).2.2.2.2.2.2.2.2.2)) C w 2 3 rfl hT.2.2 (by omega) rfl d_D_save_31 (fun H locs w => ?_)
      refine r_aload_n (pc := 32) C d_D_save_32 rfl (lv_at hl 0 rfl) ?_
      refine r_get (pc := 33) (v := .ref q) C w i_D rfl 0 rfl 0 (by decide) fl_D_10 rfl rfl d_D_save_33 ?_
      refine r_get (pc := 36) (v := .int (iI N)) C w i_S rfl 6 rfl 3 (by decide) fl_D_62 rfl rfl d_D_save_36 ?_
      have w : Wd X (dcore cI cO cZ o h sl us pd co q q2 q3 hf rcd sf (up uf 0 1) T m ++ sw cI q a b sg ln r N ov lc sd ++ sw cI q2 a2 b2 sg2 ln2 r2 pl2 ov2 lc2 sd2 ++ sw cI q3 a3 b3 sg3 ln3 r3 pl3 ov3 lc3 sd3 ++ hst cI (up st (6 + 0) ((st (6 + 0)).1, (st (6 + 0)).2.1, (st (6 + 0)).2.2.1, sg_22, ln_22, r, N, 0, lc, sd))) H locs := by
        rw [show (6 : Int) + 0 = 6 from rfl, hst_up6]
        exact w
      exact kret _ _ _ _ N _ d_D_save_39 w (⟨_, save_cw hR hC (by omega) hO_22, Or.inr ⟨by omega, rfl, sg_22, ln_22, ⟨hO_22, hR.2⟩, rfl⟩⟩)
    · subst hcs
      refine r_aload_n (pc := 12) C d_D_save_12 rfl (lv_at hl 0 rfl) ?_
      refine r_get (pc := 13) (v := .ref sl) C w i_D rfl 0 rfl 5 (by decide) fl_D_30 rfl rfl d_D_save_13 ?_
      refine r_iload_n (pc := 16) C d_D_save_16 rfl (lv_at hl 1 rfl) ?_
      refine r_aald (pc := 17) (f := sf) (i := 1) C w 1 2 rfl hT.2.1 (by omega) d_D_save_17 ?_
      have hsf := hC.2.1 1 (by omega) (by omega)
      rw [hsf]
      have w : Wd X (dcore cI cO cZ o h sl us pd co q q2 q3 hf rcd sf uf T m ++ sw cI q a b sg ln r N ov lc sd ++ sw cI q2 a2 b2 sg2 ln2 r2 pl2 ov2 lc2 sd2 ++ sw cI q3 a3 b3 sg3 ln3 r3 pl3 ov3 lc3 sd3 ++ h6 cI st ++ sw cI ((st 6).1) ((st 6).2.1) ((st 6).2.2.1) ((st 6).2.2.2.1) ((st 6).2.2.2.2.1) ((st 6).2.2.2.2.2.1) ((st 6).2.2.2.2.2.2.1) ((st 6).2.2.2.2.2.2.2.1) ((st 6).2.2.2.2.2.2.2.2.1) ((st 6).2.2.2.2.2.2.2.2.2) ++ sw cI ((st 7).1) ((st 7).2.1) ((st 7).2.2.1) ((st 7).2.2.2.1) ((st 7).2.2.2.2.1) ((st 7).2.2.2.2.2.1) ((st 7).2.2.2.2.2.2.1) ((st 7).2.2.2.2.2.2.2.1) ((st 7).2.2.2.2.2.2.2.2.1) ((st 7).2.2.2.2.2.2.2.2.2)) H locs := w
      refine r_aload_n (pc := 18) C d_D_save_18 rfl (lv_at hl 0 rfl) ?_
      refine r_get (pc := 19) (v := .ref q) C w i_D rfl 0 rfl 0 (by decide) fl_D_10 rfl rfl d_D_save_19 ?_
      refine r_callVV (pc := 22) (As := [.ref q]) (rest := []) (wr := (dcore cI cO cZ o h sl us pd co q q2 q3 hf rcd sf uf T m ++ sw cI q2 a2 b2 sg2 ln2 r2 pl2 ov2 lc2 sd2 ++ sw cI q3 a3 b3 sg3 ln3 r3 pl3 ov3 lc3 sd3 ++ h6 cI st ++ sw cI ((st 6).1) ((st 6).2.1) ((st 6).2.2.1) ((st 6).2.2.2.1) ((st 6).2.2.2.2.1) ((st 6).2.2.2.2.2.1) ((st 6).2.2.2.2.2.2.1) ((st 6).2.2.2.2.2.2.2.1) ((st 6).2.2.2.2.2.2.2.2.1) ((st 6).2.2.2.2.2.2.2.2.2))) C w (c_S_becomeCopyOf hT ((st 7).1) ((st 7).2.1) ((st 7).2.2.1) ((st 7).2.2.2.1) ((st 7).2.2.2.2.1) ((st 7).2.2.2.2.2.1) ((st 7).2.2.2.2.2.2.1) ((st 7).2.2.2.2.2.2.2.1) ((st 7).2.2.2.2.2.2.2.2.1) ((st 7).2.2.2.2.2.2.2.2.2) q a b sg ln r N ov lc sd _ _ hO (by omega) (by omega) (by omega)) ml_D_48 im_S_becomeCopyOf se_S_becomeCopyOf ini_S cd_S_becomeCopyOf hd_S_becomeCopyOf rfl (by rw [hRm]; exact ⟨⟨Nat.le_of_ble_eq_true rfl, Nat.le_of_ble_eq_true rfl⟩, Nat.le_of_ble_eq_true rfl, Nat.le_of_ble_eq_true rfl⟩) hl.1 [36, 37, 38, 6, 7, 8] [0, 1, 2, 3, 4, 5, 9, 10, 11, 12, 13, 14, 15, 16, 17, 18, 19, 20, 21, 22, 23, 24, 25, 26, 27, 28, 29, 30, 31, 32, 33, 34, 35] ⟨rfl, rfl, by decide, by decide, by decide⟩ 0 rfl rfl rfl (Nat.le_of_ble_eq_true rfl) d_D_save_22 (fun u_22 H locs hz_22 w => ?_)
      obtain ⟨sg_22, ln_22, rfl, hO_22⟩ := hz_22
      have w : Wd X (dcore cI cO cZ o h sl us pd co q q2 q3 hf rcd sf uf T m ++ sw cI q a b sg ln r N ov lc sd ++ sw cI q2 a2 b2 sg2 ln2 r2 pl2 ov2 lc2 sd2 ++ sw cI q3 a3 b3 sg3 ln3 r3 pl3 ov3 lc3 sd3 ++ h6 cI st ++ sw cI ((st 6).1) ((st 6).2.1) ((st 6).2.2.1) ((st 6).2.2.2.1) ((st 6).2.2.2.2.1) ((st 6).2.2.2.2.2.1) ((st 6).2.2.2.2.2.2.1) ((st 6).2.2.2.2.2.2.2.1) ((st 6).2.2.2.2.2.2.2.2.1) ((st 6).2.2.2.2.2.2.2.2.2) ++ sw cI ((st 7).1) ((st 7).2.1) ((st 7).2.2.1) sg_22 ln_22 r N 0 lc sd) H locs := w.sub [0, 1, 2, 3, 4, 5, 36, 37, 38, 6, 7, 8, 9, 10, 11, 12, 13, 14, 15, 16, 17, 18, 19, 20, 21, 22, 23, 24, 25, 26, 27, 28, 29, 30, 31, 32, 33, 34, 35] rfl (by decide)
      refine r_aload_n (pc := 25) C d_D_save_25 rfl (lv_at hl 0 rfl) ?_
      refine r_get (pc := 26) (v := .ref us) C w i_D rfl 0 rfl 6 (by decide) fl_D_33 rfl rfl d_D_save_26 ?_
      refine r_iload_n (pc := 29) C d_D_save_29 rfl (lv_at hl 1 rfl) ?_
      refine r_iconst (pc := 30) C d_D_save_30 ?_
      refine r_zast (pc := 31) (f := uf) (i := 1) (ws' := dcore cI cO cZ o h sl us pd co q q2 q3 hf rcd sf (up uf 1 1) T m ++ sw cI q a b sg ln r N ov lc sd ++ sw cI q2 a2 b2 sg2 ln2 r2 pl2 ov2 lc2 sd2 ++ sw cI q3 a3 b3 sg3 ln3 r3 pl3 ov3 lc3 sd3 ++ h6 cI st ++ sw cI ((st 6).1) ((st 6).2.1) ((st 6).2.2.1) ((st 6).2.2.2.1) ((st 6).2.2.2.2.1) ((st 6).2.2.2.2.2.1) ((st 6).2.2.2.2.2.2.1) ((st 6).2.2.2.2.2.2.2.1) ((st 6).2.2.2.2.2.2.2.2.1) ((st 6).2.2.2.2.2.2.2.2.2) ++ sw cI ((st 7).1) ((st 7).2.1) ((st 7).2.2.1) sg_22 ln_22 r N 0 lc sd) C w 2 3 rfl hT.2.2 (by omega) rfl d_D_save_31 (fun H locs w => ?_)
      refine r_aload_n (pc := 32) C d_D_save_32 rfl (lv_at hl 0 rfl) ?_
      refine r_get (pc := 33) (v := .ref q) C w i_D rfl 0 rfl 0 (by decide) fl_D_10 rfl rfl d_D_save_33 ?_
      refine r_get (pc := 36) (v := .int (iI N)) C w i_S rfl 6 rfl 3 (by decide) fl_D_62 rfl rfl d_D_save_36 ?_
      have w : Wd X (dcore cI cO cZ o h sl us pd co q q2 q3 hf rcd sf (up uf 1 1) T m ++ sw cI q a b sg ln r N ov lc sd ++ sw cI q2 a2 b2 sg2 ln2 r2 pl2 ov2 lc2 sd2 ++ sw cI q3 a3 b3 sg3 ln3 r3 pl3 ov3 lc3 sd3 ++ hst cI (up st (6 + 1) ((st (6 + 1)).1, (st (6 + 1)).2.1, (st (6 + 1)).2.2.1, sg_22, ln_22, r, N, 0, lc, sd))) H locs := by
        rw [show (6 : Int) + 1 = 7 from rfl, hst_up7]
        exact w
      exact kret _ _ _ _ N _ d_D_save_39 w (⟨_, save_cw hR hC (by omega) hO_22, Or.inr ⟨by omega, rfl, sg_22, ln_22, ⟨hO_22, hR.2⟩, rfl⟩⟩)
  · skip
    have hb_6 : ¬ (0 ≤ s ∧ s ≤ 1) := by omega
    clear hz_3 c_6
    refine r_bipush (pc := 9) C d_D_save_9 (by decide) ?_
    exact kret _ _ _ _ (-2) _ d_D_save_11 w (⟨_, cw_mk hR hC, Or.inl ⟨by omega, rfl, rfl⟩⟩)
def errRe (s used : Int) : Int := if 0 ≤ s ∧ s ≤ 1 then (if used = 1 then 0 else -5) else -2
def Sp_restore (s : Int) (A : AS) (z : Int) (A' : AS) : Prop := match A with | ((lc, sd, r, sg, ln, N, v), hist, rcd, slot, uf, T, m) => SpE A z A' (errRe s (uf s)) (slot s).1 (slot s).2.1 (slot s).2.2.2.2.2.1 (slot s).2.2.2.2.2.2 (slot s).2.2.2.2.2.1
theorem d_D_restore_0 : decode b_D_restore 0 = .ok (.iload_n 1, 1) := by decide +kernel
theorem d_D_restore_1 : decode b_D_restore 1 = .ok (.iconst 0, 1) := by decide +kernel
theorem d_D_restore_2 : decode b_D_restore 2 = .ok (.iconst 1, 1) := by decide +kernel
theorem d_D_restore_3 : decode b_D_restore 3 = .ok (.invokestatic 44, 3) := by decide +kernel
theorem d_D_restore_6 : decode b_D_restore 6 = .ok (.ifCond .ne 6, 3) := by decide +kernel
theorem d_D_restore_9 : decode b_D_restore 9 = .ok (.bipush (-2), 2) := by decide +kernel
theorem d_D_restore_11 : decode b_D_restore 11 = .ok (.ireturn, 1) := by decide +kernel
theorem d_D_restore_12 : decode b_D_restore 12 = .ok (.aload_n 0, 1) := by decide +kernel
theorem d_D_restore_13 : decode b_D_restore 13 = .ok (.getfield 33, 3) := by decide +kernel
theorem d_D_restore_16 : decode b_D_restore 16 = .ok (.iload_n 1, 1) := by decide +kernel
theorem d_D_restore_17 : decode b_D_restore 17 = .ok (.baload, 1) := by decide +kernel
theorem d_D_restore_18 : decode b_D_restore 18 = .ok (.ifCond .ne 6, 3) := by decide +kernel
theorem d_D_restore_21 : decode b_D_restore 21 = .ok (.bipush (-5), 2) := by decide +kernel
theorem d_D_restore_23 : decode b_D_restore 23 = .ok (.ireturn, 1) := by decide +kernel
theorem d_D_restore_24 : decode b_D_restore 24 = .ok (.aload_n 0, 1) := by decide +kernel
theorem d_D_restore_25 : decode b_D_restore 25 = .ok (.getfield 16, 3) := by decide +kernel
theorem d_D_restore_28 : decode b_D_restore 28 = .ok (.aload_n 0, 1) := by decide +kernel
theorem d_D_restore_29 : decode b_D_restore 29 = .ok (.getfield 30, 3) := by decide +kernel
theorem d_D_restore_32 : decode b_D_restore 32 = .ok (.iload_n 1, 1) := by decide +kernel
theorem d_D_restore_33 : decode b_D_restore 33 = .ok (.aaload, 1) := by decide +kernel
theorem d_D_restore_34 : decode b_D_restore 34 = .ok (.invokevirtual 48, 3) := by decide +kernel
theorem d_D_restore_37 : decode b_D_restore 37 = .ok (.aload_n 0, 1) := by decide +kernel
theorem d_D_restore_38 : decode b_D_restore 38 = .ok (.aload_n 0, 1) := by decide +kernel
theorem d_D_restore_39 : decode b_D_restore 39 = .ok (.getfield 16, 3) := by decide +kernel
theorem d_D_restore_42 : decode b_D_restore 42 = .ok (.getfield 62, 3) := by decide +kernel
theorem d_D_restore_45 : decode b_D_restore 45 = .ok (.invokevirtual 55, 3) := by decide +kernel
theorem d_D_restore_48 : decode b_D_restore 48 = .ok (.ireturn, 1) := by decide +kernel
set_option maxHeartbeats 4000000 in
set_option maxRecDepth 20000 in
theorem c_D_restore {l : Launch} {G : va_G} {tys : List (ClassId × FieldType)} {cI cO cZ : ClassId} (hT : TY tys cI cO cZ) (o : Nat) (A : AS) (ws : va_W) (hA : CW cI cO cZ o A ws) (s : Int) (hrg : (-2147483648 ≤ s ∧ s < 2147483648)) : CTI l G tys y_D_restore b_D_restore 2 .int 4 88 [.ref o, .int (iI s)] ws (fun z u => ∃ A' : AS, CW cI cO cZ o A' u ∧ Sp_restore s A z A') := by
  obtain ⟨⟨lc, sd, r, sg, ln, N, v⟩, hist, rcd, slot, uf, T, m⟩ := A
  obtain ⟨hR, h, sl, us, pd, co, hf, sf, q, a, b, ov, q2, a2, b2, sg2, ln2, r2, pl2, ov2, lc2, sd2, q3, a3, b3, sg3, ln3, r3, pl3, ov3, lc3, sd3, st, rfl, hC⟩ := hA
  have hO := hR.1
  have hr5 := hR.2.1
  have hN3 := hR.2.2.1
  have hN0 := hO.n0
  have hr0 := hO.1
  have hlcd := hR.2.2.2
  have hm80 := hC.2.2.2.2.2.1
  have hrcd6 := hC.2.2.1
  refine mkI (by decide) (Nat.le_of_ble_eq_true rfl) ?_
  rintro X rfl rfl rfl hRm C kret H ls w hl
  have hl : lv_has ls 2 [(0, .ref o), (1, .int (iI s))] := hl
  have w : Wd X (dcore cI cO cZ o h sl us pd co q q2 q3 hf rcd sf uf T m ++ sw cI q a b sg ln r N ov lc sd ++ sw cI q2 a2 b2 sg2 ln2 r2 pl2 ov2 lc2 sd2 ++ sw cI q3 a3 b3 sg3 ln3 r3 pl3 ov3 lc3 sd3 ++ hst cI st) H [] := w
  generalize ([] : List Loc) = locs at w ⊢
  refine r_iload_n (pc := 0) C d_D_restore_0 rfl (lv_at hl 1 rfl) ?_
  refine r_iconst (pc := 1) C d_D_restore_1 ?_
  refine r_iconst (pc := 2) C d_D_restore_2 ?_
  refine r_callP (pc := 3) (As := [.int (iI s), .int (iI 0), .int (iI 1)]) (rest := []) C w (c_D_isWithin s 0 1 (by omega)) ml_D_44 st_D_isWithin ini_D cd_D_isWithin hd_D_isWithin rfl (by rw [hRm]; exact ⟨⟨Nat.le_of_ble_eq_true rfl, Nat.le_of_ble_eq_true rfl⟩, Nat.le_of_ble_eq_true rfl, Nat.le_of_ble_eq_true rfl⟩) hl.1 rfl (Nat.le_of_ble_eq_true rfl) d_D_restore_3 (fun z_3 H locs hz_3 w => ?_)
  refine r_if_ne (pc := 6) (tgt := 12) C (by omega) d_D_restore_6 (by decide) (fun c_6 => ?_) (fun c_6 => ?_)
  · skip
    have hb_6 : 0 ≤ s ∧ s ≤ 1 := by omega
    clear hz_3 c_6
    rcases (by omega : s = 0 ∨ s = 1) with hcs | hcs
    · subst hcs
      refine r_aload_n (pc := 12) C d_D_restore_12 rfl (lv_at hl 0 rfl) ?_
      refine r_get (pc := 13) (v := .ref us) C w i_D rfl 0 rfl 6 (by decide) fl_D_33 rfl rfl d_D_restore_13 ?_
      refine r_iload_n (pc := 16) C d_D_restore_16 rfl (lv_at hl 1 rfl) ?_
      refine r_zald (pc := 17) (f := uf) (i := 0) C w 2 3 rfl hT.2.2 (by omega) d_D_restore_17 ?_
      refine r_if_ne (pc := 18) (tgt := 24) C (by have hu0 := hC.2.2.2.2.1 0 (by omega) (by omega); have hu1 := hC.2.2.2.2.1 1 (by omega) (by omega); omega) d_D_restore_18 (by decide) (fun c_18 => ?_) (fun c_18 => ?_)
      · skip
        have hu0 := (hC.2.2.2.2.1 0 (by omega) (by omega)).1
        have hu1 := (hC.2.2.2.2.1 1 (by omega) (by omega)).1
        refine r_aload_n (pc := 24) C d_D_restore_24 rfl (lv_at hl 0 rfl) ?_
        refine r_get (pc := 25) (v := .ref q2) C w i_D rfl 0 rfl 1 (by decide) fl_D_16 rfl rfl d_D_restore_25 ?_
        refine r_aload_n (pc := 28) C d_D_restore_28 rfl (lv_at hl 0 rfl) ?_
        refine r_get (pc := 29) (v := .ref sl) C w i_D rfl 0 rfl 5 (by decide) fl_D_30 rfl rfl d_D_restore_29 ?_
        refine r_iload_n (pc := 32) C d_D_restore_32 rfl (lv_at hl 1 rfl) ?_
        refine r_aald (pc := 33) (f := sf) (i := 0) C w 1 2 rfl hT.2.1 (by omega) d_D_restore_33 ?_
        have hus := hC.2.2.2.2.1 0 (by omega) (by omega)
        have hsf := hC.2.1 0 (by omega) (by omega)
        rw [hsf]
        have w : Wd X (dcore cI cO cZ o h sl us pd co q q2 q3 hf rcd sf uf T m ++ sw cI q a b sg ln r N ov lc sd ++ sw cI q2 a2 b2 sg2 ln2 r2 pl2 ov2 lc2 sd2 ++ sw cI q3 a3 b3 sg3 ln3 r3 pl3 ov3 lc3 sd3 ++ h6 cI st ++ sw cI ((st 6).1) ((st 6).2.1) ((st 6).2.2.1) ((st 6).2.2.2.1) ((st 6).2.2.2.2.1) ((st 6).2.2.2.2.2.1) ((st 6).2.2.2.2.2.2.1) ((st 6).2.2.2.2.2.2.2.1) ((st 6).2.2.2.2.2.2.2.2.1) ((st 6).2.2.2.2.2.2.2.2.2) ++ sw cI ((st 7).1) ((st 7).2.1) ((st 7).2.2.1) ((st 7).2.2.2.1) ((st 7).2.2.2.2.1) ((st 7).2.2.2.2.2.1) ((st 7).2.2.2.2.2.2.1) ((st 7).2.2.2.2.2.2.2.1) ((st 7).2.2.2.2.2.2.2.2.1) ((st 7).2.2.2.2.2.2.2.2.2)) H locs := w
        obtain ⟨u1, u2, u3, u4, u5, u6, u7⟩ := SR_out (hus.2 (by omega))
        rw [show (6 : Int) + 0 = 6 from rfl] at u1 u2 u3 u4 u5 u6
        have hOs := u7.1
        rw [← u1, ← u2, ← u3, ← u4] at hOs
        have hr5s := u7.2.1
        have hN3s := u7.2.2.1
        have hlds := u7.2.2.2
        refine r_callVV (pc := 34) (As := [.ref ((st 6).1)]) (rest := []) (wr := (dcore cI cO cZ o h sl us pd co q q2 q3 hf rcd sf uf T m ++ sw cI q a b sg ln r N ov lc sd ++ sw cI q3 a3 b3 sg3 ln3 r3 pl3 ov3 lc3 sd3 ++ h6 cI st ++ sw cI ((st 7).1) ((st 7).2.1) ((st 7).2.2.1) ((st 7).2.2.2.1) ((st 7).2.2.2.2.1) ((st 7).2.2.2.2.2.1) ((st 7).2.2.2.2.2.2.1) ((st 7).2.2.2.2.2.2.2.1) ((st 7).2.2.2.2.2.2.2.2.1) ((st 7).2.2.2.2.2.2.2.2.2))) C w (c_S_becomeCopyOf hT q2 a2 b2 sg2 ln2 r2 pl2 ov2 lc2 sd2 ((st 6).1) ((st 6).2.1) ((st 6).2.2.1) ((st 6).2.2.2.1) ((st 6).2.2.2.2.1) ((st 6).2.2.2.2.2.1) ((st 6).2.2.2.2.2.2.1) ((st 6).2.2.2.2.2.2.2.1) ((st 6).2.2.2.2.2.2.2.2.1) ((st 6).2.2.2.2.2.2.2.2.2) _ _ hOs (by omega) (by omega) (by omega)) ml_D_48 im_S_becomeCopyOf se_S_becomeCopyOf ini_S cd_S_becomeCopyOf hd_S_becomeCopyOf rfl (by rw [hRm]; exact ⟨⟨Nat.le_of_ble_eq_true rfl, Nat.le_of_ble_eq_true rfl⟩, Nat.le_of_ble_eq_true rfl, Nat.le_of_ble_eq_true rfl⟩) hl.1 [9, 10, 11, 33, 34, 35] [0, 1, 2, 3, 4, 5, 6, 7, 8, 12, 13, 14, 15, 16, 17, 18, 19, 20, 21, 22, 23, 24, 25, 26, 27, 28, 29, 30, 31, 32, 36, 37, 38] ⟨rfl, rfl, by decide, by decide, by decide⟩ 0 rfl rfl rfl (Nat.le_of_ble_eq_true rfl) d_D_restore_34 (fun u_34 H locs hz_34 w => ?_)
        obtain ⟨sg_34, ln_34, rfl, hO_34⟩ := hz_34
        have w : Wd X (dcore cI cO cZ o h sl us pd co q q2 q3 hf rcd sf uf T m ++ sw cI q a b sg ln r N ov lc sd ++ sw cI q2 a2 b2 sg_34 ln_34 ((st 6).2.2.2.2.2.1) ((st 6).2.2.2.2.2.2.1) 0 ((st 6).2.2.2.2.2.2.2.2.1) ((st 6).2.2.2.2.2.2.2.2.2) ++ sw cI q3 a3 b3 sg3 ln3 r3 pl3 ov3 lc3 sd3 ++ h6 cI st ++ sw cI ((st 6).1) ((st 6).2.1) ((st 6).2.2.1) ((st 6).2.2.2.1) ((st 6).2.2.2.2.1) ((st 6).2.2.2.2.2.1) ((st 6).2.2.2.2.2.2.1) ((st 6).2.2.2.2.2.2.2.1) ((st 6).2.2.2.2.2.2.2.2.1) ((st 6).2.2.2.2.2.2.2.2.2) ++ sw cI ((st 7).1) ((st 7).2.1) ((st 7).2.2.1) ((st 7).2.2.2.1) ((st 7).2.2.2.2.1) ((st 7).2.2.2.2.2.1) ((st 7).2.2.2.2.2.2.1) ((st 7).2.2.2.2.2.2.2.1) ((st 7).2.2.2.2.2.2.2.2.1) ((st 7).2.2.2.2.2.2.2.2.2)) H locs := w.sub [0, 1, 2, 3, 4, 5, 6, 7, 8, 33, 34, 35, 9, 10, 11, 12, 13, 14, 15, 16, 17, 18, 19, 20, 21, 22, 23, 24, 25, 26, 27, 28, 29, 36, 37, 38, 30, 31, 32] rfl (by decide)
        have w : Wd X (dcore cI cO cZ o h sl us pd co q q2 q3 hf rcd sf uf T m ++ sw cI q a b sg ln r N ov lc sd ++ sw cI q2 a2 b2 sg_34 ln_34 ((st 6).2.2.2.2.2.1) ((st 6).2.2.2.2.2.2.1) 0 ((st 6).2.2.2.2.2.2.2.2.1) ((st 6).2.2.2.2.2.2.2.2.2) ++ sw cI q3 a3 b3 sg3 ln3 r3 pl3 ov3 lc3 sd3 ++ hst cI st) H locs := w
        have hVs : RV (st 6).2.2.2.2.2.1 (st 6).2.2.2.2.2.2.1 0 sg_34 ln_34 (slot 0).2.2.2.2.2.1 (slot 0).2.2.2.2.2.2 := by
          have h9 := hO_34
          rw [u4] at h9 ⊢
          exact ⟨h9.n0, fun _ => ⟨rfl, rfl, h9⟩, fun z => absurd (show fits_ _ _ from ⟨hN3s, by rw [h9.rcE, u3]; exact hr5s⟩) z⟩
        refine r_aload_n (pc := 37) C d_D_restore_37 rfl (lv_at hl 0 rfl) ?_
        refine r_aload_n (pc := 38) C d_D_restore_38 rfl (lv_at hl 0 rfl) ?_
        refine r_get (pc := 39) (v := .ref q2) C w i_D rfl 0 rfl 1 (by decide) fl_D_16 rfl rfl d_D_restore_39 ?_
        refine r_get (pc := 42) (v := .int (iI ((st 6).2.2.2.2.2.2.1))) C w i_S rfl 9 rfl 3 (by decide) fl_D_62 rfl rfl d_D_restore_42 ?_
        refine r_callVI (pc := 45) (As := [.int (iI ((st 6).2.2.2.2.2.2.1))]) (rest := []) (wr := []) C w (c_D_accepted hT o h sl us pd co hf sf rcd m uf T q a b sg ln r N ov lc sd q2 a2 b2 sg_34 ln_34 ((st 6).2.2.2.2.2.1) ((st 6).2.2.2.2.2.2.1) 0 ((st 6).2.2.2.2.2.2.2.2.1) ((st 6).2.2.2.2.2.2.2.2.2) q3 a3 b3 sg3 ln3 r3 pl3 ov3 lc3 sd3 st ((st 6).2.2.2.2.2.2.1) _ v _ hist slot hR hC hVs (by omega)) ml_D_55 im_D_accepted se_D_accepted ini_D cd_D_accepted hd_D_accepted rfl (by rw [hRm]; exact ⟨⟨Nat.le_of_ble_eq_true rfl, Nat.le_of_ble_eq_true rfl⟩, Nat.le_of_ble_eq_true rfl, Nat.le_of_ble_eq_true rfl⟩) hl.1 [0, 1, 2, 3, 4, 5, 6, 7, 8, 9, 10, 11, 12, 13, 14, 15, 16, 17, 18, 19, 20, 21, 22, 23, 24, 25, 26, 27, 28, 29, 30, 31, 32, 33, 34, 35, 36, 37, 38] [] ⟨rfl, rfl, by decide, by decide, by decide⟩ 0 rfl rfl rfl (Nat.le_of_ble_eq_true rfl) d_D_restore_45 (fun z_45 u_45 H locs hz_45 w => ?_)
        exact kret _ _ _ _ z_45 _ d_D_restore_48 w (by rcases hz_45 with ⟨f1, f2, rfl⟩ | ⟨f1, f2, A, f3, f4⟩; exact ⟨_, cw_mk hR hC, Or.inr (Or.inl ⟨by unfold errRe; rw [if_pos (by omega), if_pos (by omega)], f1, f2, rfl⟩)⟩; exact ⟨A, f3, Or.inr (Or.inr ⟨by unfold errRe; rw [if_pos (by omega), if_pos (by omega)], f1, f2.trans u4, by rw [u5, u6] at f4; exact f4⟩)⟩)
      · skip
        have hu0 := (hC.2.2.2.2.1 0 (by omega) (by omega)).1
        have hu1 := (hC.2.2.2.2.1 1 (by omega) (by omega)).1
        refine r_bipush (pc := 21) C d_D_restore_21 (by decide) ?_
        exact kret _ _ _ _ (-5) _ d_D_restore_23 w (⟨_, cw_mk hR hC, Or.inl ⟨by unfold errRe; rw [if_pos (by omega), if_neg (by omega)]; omega, by unfold errRe; rw [if_pos (by omega), if_neg (by omega)], rfl⟩⟩)
    · subst hcs
      refine r_aload_n (pc := 12) C d_D_restore_12 rfl (lv_at hl 0 rfl) ?_
      refine r_get (pc := 13) (v := .ref us) C w i_D rfl 0 rfl 6 (by decide) fl_D_33 rfl rfl d_D_restore_13 ?_
      refine r_iload_n (pc := 16) C d_D_restore_16 rfl (lv_at hl 1 rfl) ?_
      refine r_zald (pc := 17) (f := uf) (i := 1) C w 2 3 rfl hT.2.2 (by omega) d_D_restore_17 ?_
      refine r_if_ne (pc := 18) (tgt := 24) C (by have hu0 := hC.2.2.2.2.1 0 (by omega) (by omega); have hu1 := hC.2.2.2.2.1 1 (by omega) (by omega); omega) d_D_restore_18 (by decide) (fun c_18 => ?_) (fun c_18 => ?_)
      · skip
        have hu0 := (hC.2.2.2.2.1 0 (by omega) (by omega)).1
        have hu1 := (hC.2.2.2.2.1 1 (by omega) (by omega)).1
        refine r_aload_n (pc := 24) C d_D_restore_24 rfl (lv_at hl 0 rfl) ?_
        refine r_get (pc := 25) (v := .ref q2) C w i_D rfl 0 rfl 1 (by decide) fl_D_16 rfl rfl d_D_restore_25 ?_
        refine r_aload_n (pc := 28) C d_D_restore_28 rfl (lv_at hl 0 rfl) ?_
        refine r_get (pc := 29) (v := .ref sl) C w i_D rfl 0 rfl 5 (by decide) fl_D_30 rfl rfl d_D_restore_29 ?_
        refine r_iload_n (pc := 32) C d_D_restore_32 rfl (lv_at hl 1 rfl) ?_
        refine r_aald (pc := 33) (f := sf) (i := 1) C w 1 2 rfl hT.2.1 (by omega) d_D_restore_33 ?_
        have hus := hC.2.2.2.2.1 1 (by omega) (by omega)
        have hsf := hC.2.1 1 (by omega) (by omega)
        rw [hsf]
        have w : Wd X (dcore cI cO cZ o h sl us pd co q q2 q3 hf rcd sf uf T m ++ sw cI q a b sg ln r N ov lc sd ++ sw cI q2 a2 b2 sg2 ln2 r2 pl2 ov2 lc2 sd2 ++ sw cI q3 a3 b3 sg3 ln3 r3 pl3 ov3 lc3 sd3 ++ h6 cI st ++ sw cI ((st 6).1) ((st 6).2.1) ((st 6).2.2.1) ((st 6).2.2.2.1) ((st 6).2.2.2.2.1) ((st 6).2.2.2.2.2.1) ((st 6).2.2.2.2.2.2.1) ((st 6).2.2.2.2.2.2.2.1) ((st 6).2.2.2.2.2.2.2.2.1) ((st 6).2.2.2.2.2.2.2.2.2) ++ sw cI ((st 7).1) ((st 7).2.1) ((st 7).2.2.1) ((st 7).2.2.2.1) ((st 7).2.2.2.2.1) ((st 7).2.2.2.2.2.1) ((st 7).2.2.2.2.2.2.1) ((st 7).2.2.2.2.2.2.2.1) ((st 7).2.2.2.2.2.2.2.2.1) ((st 7).2.2.2.2.2.2.2.2.2)) H locs := w
        obtain ⟨u1, u2, u3, u4, u5, u6, u7⟩ := SR_out (hus.2 (by omega))
        rw [show (6 : Int) + 1 = 7 from rfl] at u1 u2 u3 u4 u5 u6
        have hOs := u7.1
        rw [← u1, ← u2, ← u3, ← u4] at hOs
        have hr5s := u7.2.1
        have hN3s := u7.2.2.1
        have hlds := u7.2.2.2
        refine r_callVV (pc := 34) (As := [.ref ((st 7).1)]) (rest := []) (wr := (dcore cI cO cZ o h sl us pd co q q2 q3 hf rcd sf uf T m ++ sw cI q a b sg ln r N ov lc sd ++ sw cI q3 a3 b3 sg3 ln3 r3 pl3 ov3 lc3 sd3 ++ h6 cI st ++ sw cI ((st 6).1) ((st 6).2.1) ((st 6).2.2.1) ((st 6).2.2.2.1) ((st 6).2.2.2.2.1) ((st 6).2.2.2.2.2.1) ((st 6).2.2.2.2.2.2.1) ((st 6).2.2.2.2.2.2.2.1) ((st 6).2.2.2.2.2.2.2.2.1) ((st 6).2.2.2.2.2.2.2.2.2))) C w (c_S_becomeCopyOf hT q2 a2 b2 sg2 ln2 r2 pl2 ov2 lc2 sd2 ((st 7).1) ((st 7).2.1) ((st 7).2.2.1) ((st 7).2.2.2.1) ((st 7).2.2.2.2.1) ((st 7).2.2.2.2.2.1) ((st 7).2.2.2.2.2.2.1) ((st 7).2.2.2.2.2.2.2.1) ((st 7).2.2.2.2.2.2.2.2.1) ((st 7).2.2.2.2.2.2.2.2.2) _ _ hOs (by omega) (by omega) (by omega)) ml_D_48 im_S_becomeCopyOf se_S_becomeCopyOf ini_S cd_S_becomeCopyOf hd_S_becomeCopyOf rfl (by rw [hRm]; exact ⟨⟨Nat.le_of_ble_eq_true rfl, Nat.le_of_ble_eq_true rfl⟩, Nat.le_of_ble_eq_true rfl, Nat.le_of_ble_eq_true rfl⟩) hl.1 [9, 10, 11, 36, 37, 38] [0, 1, 2, 3, 4, 5, 6, 7, 8, 12, 13, 14, 15, 16, 17, 18, 19, 20, 21, 22, 23, 24, 25, 26, 27, 28, 29, 30, 31, 32, 33, 34, 35] ⟨rfl, rfl, by decide, by decide, by decide⟩ 0 rfl rfl rfl (Nat.le_of_ble_eq_true rfl) d_D_restore_34 (fun u_34 H locs hz_34 w => ?_)
        obtain ⟨sg_34, ln_34, rfl, hO_34⟩ := hz_34
        have w : Wd X (dcore cI cO cZ o h sl us pd co q q2 q3 hf rcd sf uf T m ++ sw cI q a b sg ln r N ov lc sd ++ sw cI q2 a2 b2 sg_34 ln_34 ((st 7).2.2.2.2.2.1) ((st 7).2.2.2.2.2.2.1) 0 ((st 7).2.2.2.2.2.2.2.2.1) ((st 7).2.2.2.2.2.2.2.2.2) ++ sw cI q3 a3 b3 sg3 ln3 r3 pl3 ov3 lc3 sd3 ++ h6 cI st ++ sw cI ((st 6).1) ((st 6).2.1) ((st 6).2.2.1) ((st 6).2.2.2.1) ((st 6).2.2.2.2.1) ((st 6).2.2.2.2.2.1) ((st 6).2.2.2.2.2.2.1) ((st 6).2.2.2.2.2.2.2.1) ((st 6).2.2.2.2.2.2.2.2.1) ((st 6).2.2.2.2.2.2.2.2.2) ++ sw cI ((st 7).1) ((st 7).2.1) ((st 7).2.2.1) ((st 7).2.2.2.1) ((st 7).2.2.2.2.1) ((st 7).2.2.2.2.2.1) ((st 7).2.2.2.2.2.2.1) ((st 7).2.2.2.2.2.2.2.1) ((st 7).2.2.2.2.2.2.2.2.1) ((st 7).2.2.2.2.2.2.2.2.2)) H locs := w.sub [0, 1, 2, 3, 4, 5, 6, 7, 8, 33, 34, 35, 9, 10, 11, 12, 13, 14, 15, 16, 17, 18, 19, 20, 21, 22, 23, 24, 25, 26, 27, 28, 29, 30, 31, 32, 36, 37, 38] rfl (by decide)
        have w : Wd X (dcore cI cO cZ o h sl us pd co q q2 q3 hf rcd sf uf T m ++ sw cI q a b sg ln r N ov lc sd ++ sw cI q2 a2 b2 sg_34 ln_34 ((st 7).2.2.2.2.2.1) ((st 7).2.2.2.2.2.2.1) 0 ((st 7).2.2.2.2.2.2.2.2.1) ((st 7).2.2.2.2.2.2.2.2.2) ++ sw cI q3 a3 b3 sg3 ln3 r3 pl3 ov3 lc3 sd3 ++ hst cI st) H locs := w
        have hVs : RV (st 7).2.2.2.2.2.1 (st 7).2.2.2.2.2.2.1 0 sg_34 ln_34 (slot 1).2.2.2.2.2.1 (slot 1).2.2.2.2.2.2 := by
          have h9 := hO_34
          rw [u4] at h9 ⊢
          exact ⟨h9.n0, fun _ => ⟨rfl, rfl, h9⟩, fun z => absurd (show fits_ _ _ from ⟨hN3s, by rw [h9.rcE, u3]; exact hr5s⟩) z⟩
        refine r_aload_n (pc := 37) C d_D_restore_37 rfl (lv_at hl 0 rfl) ?_
        refine r_aload_n (pc := 38) C d_D_restore_38 rfl (lv_at hl 0 rfl) ?_
        refine r_get (pc := 39) (v := .ref q2) C w i_D rfl 0 rfl 1 (by decide) fl_D_16 rfl rfl d_D_restore_39 ?_
        refine r_get (pc := 42) (v := .int (iI ((st 7).2.2.2.2.2.2.1))) C w i_S rfl 9 rfl 3 (by decide) fl_D_62 rfl rfl d_D_restore_42 ?_
        refine r_callVI (pc := 45) (As := [.int (iI ((st 7).2.2.2.2.2.2.1))]) (rest := []) (wr := []) C w (c_D_accepted hT o h sl us pd co hf sf rcd m uf T q a b sg ln r N ov lc sd q2 a2 b2 sg_34 ln_34 ((st 7).2.2.2.2.2.1) ((st 7).2.2.2.2.2.2.1) 0 ((st 7).2.2.2.2.2.2.2.2.1) ((st 7).2.2.2.2.2.2.2.2.2) q3 a3 b3 sg3 ln3 r3 pl3 ov3 lc3 sd3 st ((st 7).2.2.2.2.2.2.1) _ v _ hist slot hR hC hVs (by omega)) ml_D_55 im_D_accepted se_D_accepted ini_D cd_D_accepted hd_D_accepted rfl (by rw [hRm]; exact ⟨⟨Nat.le_of_ble_eq_true rfl, Nat.le_of_ble_eq_true rfl⟩, Nat.le_of_ble_eq_true rfl, Nat.le_of_ble_eq_true rfl⟩) hl.1 [0, 1, 2, 3, 4, 5, 6, 7, 8, 9, 10, 11, 12, 13, 14, 15, 16, 17, 18, 19, 20, 21, 22, 23, 24, 25, 26, 27, 28, 29, 30, 31, 32, 33, 34, 35, 36, 37, 38] [] ⟨rfl, rfl, by decide, by decide, by decide⟩ 0 rfl rfl rfl (Nat.le_of_ble_eq_true rfl) d_D_restore_45 (fun z_45 u_45 H locs hz_45 w => ?_)
        exact kret _ _ _ _ z_45 _ d_D_restore_48 w (by rcases hz_45 with ⟨f1, f2, rfl⟩ | ⟨f1, f2, A, f3, f4⟩; exact ⟨_, cw_mk hR hC, Or.inr (Or.inl ⟨by unfold errRe; rw [if_pos (by omega), if_pos (by omega)], f1, f2, rfl⟩)⟩; exact ⟨A, f3, Or.inr (Or.inr ⟨by unfold errRe; rw [if_pos (by omega), if_pos (by omega)], f1, f2.trans u4, by rw [u5, u6] at f4; exact f4⟩)⟩)
      · skip
        have hu0 := (hC.2.2.2.2.1 0 (by omega) (by omega)).1
        have hu1 := (hC.2.2.2.2.1 1 (by omega) (by omega)).1
        refine r_bipush (pc := 21) C d_D_restore_21 (by decide) ?_
        exact kret _ _ _ _ (-5) _ d_D_restore_23 w (⟨_, cw_mk hR hC, Or.inl ⟨by unfold errRe; rw [if_pos (by omega), if_neg (by omega)]; omega, by unfold errRe; rw [if_pos (by omega), if_neg (by omega)], rfl⟩⟩)
  · skip
    have hb_6 : ¬ (0 ≤ s ∧ s ≤ 1) := by omega
    clear hz_3 c_6
    refine r_bipush (pc := 9) C d_D_restore_9 (by decide) ?_
    exact kret _ _ _ _ (-2) _ d_D_restore_11 w (⟨_, cw_mk hR hC, Or.inl ⟨by unfold errRe; split <;> omega, by unfold errRe; split <;> omega, rfl⟩⟩)
end
section
/-! what the class tells -/
def bestC (a b c : Int) : Int := if b < a then (if c < b then 2 else 1) else (if c < a then 2 else 0)
/-- the best write so far: run, value, bits -/
def bwV (f : Int → Int) (k : Int) (s : Int × Int × Int) : Nat → Int × Int × Int
  | 0 => s
  | j + 1 => if (bwV f k s j).2.2 < f (j : Int) then (k, (j : Int), f (j : Int)) else bwV f k s j
def bwN (code r : Int) (sg ln : Int → Int) : Nat → Int × Int × Int
  | 0 => (-6, -6, 0)
  | k + 1 => bwV (svd code r sg ln (k : Int)) (k : Int) (bwN code r sg ln k) 10
def bwv (f : Int → Int) (k : Int) (s : Int × Int × Int) (j : Int) : Int × Int × Int := bwV f k s j.toNat
def bw (code r : Int) (sg ln : Int → Int) (k : Int) : Int × Int × Int := bwN code r sg ln k.toNat
theorem bwv_zero (f : Int → Int) (k : Int) (s : Int × Int × Int) : bwv f k s 0 = s := rfl
theorem bwv_succ (f : Int → Int) (k : Int) (s : Int × Int × Int) {j : Int} (h : 0 ≤ j) : bwv f k s (j + 1) = if (bwv f k s j).2.2 < f j then (k, j, f j) else bwv f k s j := by
  unfold bwv
  rw [toNat_succ h]
  show (if (bwV f k s j.toNat).2.2 < f ((j.toNat : Nat) : Int) then (k, ((j.toNat : Nat) : Int), f ((j.toNat : Nat) : Int)) else bwV f k s j.toNat) = _
  rw [Int.toNat_of_nonneg h]
theorem bw_zero (code r : Int) (sg ln : Int → Int) : bw code r sg ln 0 = (-6, -6, 0) := rfl
theorem bw_succ (code r : Int) (sg ln : Int → Int) {k : Int} (h : 0 ≤ k) : bw code r sg ln (k + 1) = bwv (svd code r sg ln k) k (bw code r sg ln k) 10 := by
  unfold bw bwv
  rw [toNat_succ h]
  show bwV (svd code r sg ln ((k.toNat : Nat) : Int)) ((k.toNat : Nat) : Int) (bwN code r sg ln k.toNat) 10 = bwV _ _ _ 10
  rw [Int.toNat_of_nonneg h]
theorem svd_rg {code r N : Int} {sg ln v : Int → Int} (hO : Ok r sg ln N v) (hN : N ≤ 3000) {k val : Int} (h0 : 0 ≤ k) (h1 : k < r) : -66 ≤ svd code r sg ln k val ∧ svd code r sg ln k val ≤ 198 := by
  have g := hO.run h0 h1
  have a1 := rb_rg (code := code) (s := sg k) (n := ln k) (by omega)
  unfold svd
  split
  · omega
  · by_cases c1 : 0 < k ∧ sg (k - 1) = val <;> by_cases c2 : k < r - 1 ∧ sg (k + 1) = val
    · have g2 := hO.run (k := k - 1) (by omega) (by omega)
      have g3 := hO.run (k := k + 1) (by omega) (by omega)
      have a2 := rb_rg (code := code) (s := sg (k - 1)) (n := ln (k - 1)) (by omega)
      have a3 := rb_rg (code := code) (s := sg (k + 1)) (n := ln (k + 1)) (by omega)
      rw [if_pos c1, if_pos c1, if_pos c2, if_pos c2]
      have a4 := rb_rg (code := code) (s := val) (n := ln k + ln (k - 1) + ln (k + 1)) (by omega)
      omega
    · have g2 := hO.run (k := k - 1) (by omega) (by omega)
      have a2 := rb_rg (code := code) (s := sg (k - 1)) (n := ln (k - 1)) (by omega)
      rw [if_pos c1, if_pos c1, if_neg c2, if_neg c2]
      have a4 := rb_rg (code := code) (s := val) (n := ln k + ln (k - 1) + 0) (by omega)
      omega
    · have g3 := hO.run (k := k + 1) (by omega) (by omega)
      have a3 := rb_rg (code := code) (s := sg (k + 1)) (n := ln (k + 1)) (by omega)
      rw [if_neg c1, if_neg c1, if_pos c2, if_pos c2]
      have a4 := rb_rg (code := code) (s := val) (n := ln k + 0 + ln (k + 1)) (by omega)
      omega
    · rw [if_neg c1, if_neg c1, if_neg c2, if_neg c2]
      have a4 := rb_rg (code := code) (s := val) (n := ln k + 0 + 0) (by omega)
      omega

def Sp_sign (x : Int) (A : AS) (z : Int) (A' : AS) : Prop := match A with | ((lc, sd, r, sg, ln, N, v), hist, rcd, slot, uf, T, m) => A' = A ∧ (((0 ≤ x ∧ x < N) ∧ z = v x) ∨ (¬ (0 ≤ x ∧ x < N) ∧ z = -1))
theorem d_D_sign_0 : decode b_D_sign 0 = .ok (.aload_n 0, 1) := by decide +kernel
theorem d_D_sign_1 : decode b_D_sign 1 = .ok (.getfield 10, 3) := by decide +kernel
theorem d_D_sign_4 : decode b_D_sign 4 = .ok (.iload_n 1, 1) := by decide +kernel
theorem d_D_sign_5 : decode b_D_sign 5 = .ok (.invokevirtual 102, 3) := by decide +kernel
theorem d_D_sign_8 : decode b_D_sign 8 = .ok (.ireturn, 1) := by decide +kernel
set_option maxHeartbeats 4000000 in
set_option maxRecDepth 20000 in
theorem c_D_sign {l : Launch} {G : va_G} {tys : List (ClassId × FieldType)} {cI cO cZ : ClassId} (hT : TY tys cI cO cZ) (o : Nat) (A : AS) (ws : va_W) (hA : CW cI cO cZ o A ws) (x : Int) (hrg : (-2147483648 ≤ x ∧ x < 2147483648)) : CTI l G tys y_D_sign b_D_sign 2 .int 1 23 [.ref o, .int (iI x)] ws (fun z u => ∃ A' : AS, CW cI cO cZ o A' u ∧ Sp_sign x A z A') := by
  obtain ⟨⟨lc, sd, r, sg, ln, N, v⟩, hist, rcd, slot, uf, T, m⟩ := A
  obtain ⟨hR, h, sl, us, pd, co, hf, sf, q, a, b, ov, q2, a2, b2, sg2, ln2, r2, pl2, ov2, lc2, sd2, q3, a3, b3, sg3, ln3, r3, pl3, ov3, lc3, sd3, st, rfl, hC⟩ := hA
  have hO := hR.1
  have hr5 := hR.2.1
  have hN3 := hR.2.2.1
  have hN0 := hO.n0
  have hr0 := hO.1
  have hlcd := hR.2.2.2
  have hm80 := hC.2.2.2.2.2.1
  have hrcd6 := hC.2.2.1
  refine mkI (by decide) (Nat.le_of_ble_eq_true rfl) ?_
  rintro X rfl rfl rfl hRm C kret H ls w hl
  have hl : lv_has ls 2 [(0, .ref o), (1, .int (iI x))] := hl
  have w : Wd X (dcore cI cO cZ o h sl us pd co q q2 q3 hf rcd sf uf T m ++ sw cI q a b sg ln r N ov lc sd ++ sw cI q2 a2 b2 sg2 ln2 r2 pl2 ov2 lc2 sd2 ++ sw cI q3 a3 b3 sg3 ln3 r3 pl3 ov3 lc3 sd3 ++ hst cI st) H [] := w
  generalize ([] : List Loc) = locs at w ⊢
  refine r_aload_n (pc := 0) C d_D_sign_0 rfl (lv_at hl 0 rfl) ?_
  refine r_get (pc := 1) (v := .ref q) C w i_D rfl 0 rfl 0 (by decide) fl_D_10 rfl rfl d_D_sign_1 ?_
  refine r_iload_n (pc := 4) C d_D_sign_4 rfl (lv_at hl 1 rfl) ?_
  refine r_callVI (pc := 5) (As := [.int (iI x)]) (rest := []) (wr := (dcore cI cO cZ o h sl us pd co q q2 q3 hf rcd sf uf T m ++ sw cI q2 a2 b2 sg2 ln2 r2 pl2 ov2 lc2 sd2 ++ sw cI q3 a3 b3 sg3 ln3 r3 pl3 ov3 lc3 sd3 ++ hst cI st)) C w (c_S_signAt hT q a b sg ln r N ov lc sd _ _ hO (by omega) (by omega) x (by omega)) ml_D_102 im_S_signAt se_S_signAt ini_S cd_S_signAt hd_S_signAt rfl (by rw [hRm]; exact ⟨⟨Nat.le_of_ble_eq_true rfl, Nat.le_of_ble_eq_true rfl⟩, Nat.le_of_ble_eq_true rfl, Nat.le_of_ble_eq_true rfl⟩) hl.1 [6, 7, 8] [0, 1, 2, 3, 4, 5, 9, 10, 11, 12, 13, 14, 15, 16, 17, 18, 19, 20, 21, 22, 23, 24, 25, 26, 27, 28, 29, 30, 31, 32, 33, 34, 35, 36, 37, 38] ⟨rfl, rfl, by decide, by decide, by decide⟩ 0 rfl rfl rfl (Nat.le_of_ble_eq_true rfl) d_D_sign_5 (fun z_5 u_5 H locs hz_5 w => ?_)
  obtain ⟨rfl, hz_5⟩ := hz_5
  have w : Wd X (dcore cI cO cZ o h sl us pd co q q2 q3 hf rcd sf uf T m ++ sw cI q a b sg ln r N ov lc sd ++ sw cI q2 a2 b2 sg2 ln2 r2 pl2 ov2 lc2 sd2 ++ sw cI q3 a3 b3 sg3 ln3 r3 pl3 ov3 lc3 sd3 ++ hst cI st) H locs := w.sub [0, 1, 2, 3, 4, 5, 36, 37, 38, 6, 7, 8, 9, 10, 11, 12, 13, 14, 15, 16, 17, 18, 19, 20, 21, 22, 23, 24, 25, 26, 27, 28, 29, 30, 31, 32, 33, 34, 35] rfl (by decide)
  exact kret _ _ _ _ z_5 _ d_D_sign_8 w (⟨_, cw_mk hR hC, ⟨rfl, by omega⟩⟩)
def Sp_ofRun (k wh : Int) (A : AS) (z : Int) (A' : AS) : Prop := match A with | ((lc, sd, r, sg, ln, N, v), hist, rcd, slot, uf, T, m) => A' = A ∧ ((¬ (0 ≤ k ∧ k < r) ∧ z = -1) ∨ ((0 ≤ k ∧ k < r) ∧ ((wh = 0 ∧ z = sg k) ∨ (wh = 1 ∧ z = ps ln k) ∨ (wh = 2 ∧ z = ln k) ∨ (wh = 3 ∧ z = rb lc (sg k) (ln k)) ∨ ((wh < 0 ∨ 3 < wh) ∧ z = -2))))
theorem d_D_ofRun_0 : decode b_D_ofRun 0 = .ok (.iload_n 1, 1) := by decide +kernel
theorem d_D_ofRun_1 : decode b_D_ofRun 1 = .ok (.iconst 0, 1) := by decide +kernel
theorem d_D_ofRun_2 : decode b_D_ofRun 2 = .ok (.aload_n 0, 1) := by decide +kernel
theorem d_D_ofRun_3 : decode b_D_ofRun 3 = .ok (.getfield 10, 3) := by decide +kernel
theorem d_D_ofRun_6 : decode b_D_ofRun 6 = .ok (.getfield 99, 3) := by decide +kernel
theorem d_D_ofRun_9 : decode b_D_ofRun 9 = .ok (.iconst 1, 1) := by decide +kernel
theorem d_D_ofRun_10 : decode b_D_ofRun 10 = .ok (.isub, 1) := by decide +kernel
theorem d_D_ofRun_11 : decode b_D_ofRun 11 = .ok (.invokestatic 44, 3) := by decide +kernel
theorem d_D_ofRun_14 : decode b_D_ofRun 14 = .ok (.ifCond .ne 5, 3) := by decide +kernel
theorem d_D_ofRun_17 : decode b_D_ofRun 17 = .ok (.iconst (-1), 1) := by decide +kernel
theorem d_D_ofRun_18 : decode b_D_ofRun 18 = .ok (.ireturn, 1) := by decide +kernel
theorem d_D_ofRun_19 : decode b_D_ofRun 19 = .ok (.iload_n 2, 1) := by decide +kernel
theorem d_D_ofRun_20 : decode b_D_ofRun 20 = .ok (.tableswitch 75 0 3 #[32, 41, 50, 59], 32) := by decide +kernel
theorem d_D_ofRun_52 : decode b_D_ofRun 52 = .ok (.aload_n 0, 1) := by decide +kernel
theorem d_D_ofRun_53 : decode b_D_ofRun 53 = .ok (.getfield 10, 3) := by decide +kernel
theorem d_D_ofRun_56 : decode b_D_ofRun 56 = .ok (.iload_n 1, 1) := by decide +kernel
theorem d_D_ofRun_57 : decode b_D_ofRun 57 = .ok (.invokevirtual 105, 3) := by decide +kernel
theorem d_D_ofRun_60 : decode b_D_ofRun 60 = .ok (.ireturn, 1) := by decide +kernel
theorem d_D_ofRun_61 : decode b_D_ofRun 61 = .ok (.aload_n 0, 1) := by decide +kernel
theorem d_D_ofRun_62 : decode b_D_ofRun 62 = .ok (.getfield 10, 3) := by decide +kernel
theorem d_D_ofRun_65 : decode b_D_ofRun 65 = .ok (.iload_n 1, 1) := by decide +kernel
theorem d_D_ofRun_66 : decode b_D_ofRun 66 = .ok (.invokevirtual 108, 3) := by decide +kernel
theorem d_D_ofRun_69 : decode b_D_ofRun 69 = .ok (.ireturn, 1) := by decide +kernel
theorem d_D_ofRun_70 : decode b_D_ofRun 70 = .ok (.aload_n 0, 1) := by decide +kernel
theorem d_D_ofRun_71 : decode b_D_ofRun 71 = .ok (.getfield 10, 3) := by decide +kernel
theorem d_D_ofRun_74 : decode b_D_ofRun 74 = .ok (.iload_n 1, 1) := by decide +kernel
theorem d_D_ofRun_75 : decode b_D_ofRun 75 = .ok (.invokevirtual 111, 3) := by decide +kernel
theorem d_D_ofRun_78 : decode b_D_ofRun 78 = .ok (.ireturn, 1) := by decide +kernel
theorem d_D_ofRun_79 : decode b_D_ofRun 79 = .ok (.aload_n 0, 1) := by decide +kernel
theorem d_D_ofRun_80 : decode b_D_ofRun 80 = .ok (.getfield 10, 3) := by decide +kernel
theorem d_D_ofRun_83 : decode b_D_ofRun 83 = .ok (.iload_n 1, 1) := by decide +kernel
theorem d_D_ofRun_84 : decode b_D_ofRun 84 = .ok (.aload_n 0, 1) := by decide +kernel
theorem d_D_ofRun_85 : decode b_D_ofRun 85 = .ok (.getfield 10, 3) := by decide +kernel
theorem d_D_ofRun_88 : decode b_D_ofRun 88 = .ok (.getfield 52, 3) := by decide +kernel
theorem d_D_ofRun_91 : decode b_D_ofRun 91 = .ok (.invokevirtual 114, 3) := by decide +kernel
theorem d_D_ofRun_94 : decode b_D_ofRun 94 = .ok (.ireturn, 1) := by decide +kernel
theorem d_D_ofRun_95 : decode b_D_ofRun 95 = .ok (.bipush (-2), 2) := by decide +kernel
theorem d_D_ofRun_97 : decode b_D_ofRun 97 = .ok (.ireturn, 1) := by decide +kernel
set_option maxHeartbeats 4000000 in
set_option maxRecDepth 20000 in
theorem c_D_ofRun {l : Launch} {G : va_G} {tys : List (ClassId × FieldType)} {cI cO cZ : ClassId} (hT : TY tys cI cO cZ) (o : Nat) (A : AS) (ws : va_W) (hA : CW cI cO cZ o A ws) (k wh : Int) (hrg : (-2147483648 ≤ k ∧ k < 2147483648) ∧ (-2147483648 ≤ wh ∧ wh < 2147483648)) : CTI l G tys y_D_ofRun b_D_ofRun 3 .int 4 89 [.ref o, .int (iI k), .int (iI wh)] ws (fun z u => ∃ A' : AS, CW cI cO cZ o A' u ∧ Sp_ofRun k wh A z A') := by
  obtain ⟨⟨lc, sd, r, sg, ln, N, v⟩, hist, rcd, slot, uf, T, m⟩ := A
  obtain ⟨hR, h, sl, us, pd, co, hf, sf, q, a, b, ov, q2, a2, b2, sg2, ln2, r2, pl2, ov2, lc2, sd2, q3, a3, b3, sg3, ln3, r3, pl3, ov3, lc3, sd3, st, rfl, hC⟩ := hA
  have hO := hR.1
  have hr5 := hR.2.1
  have hN3 := hR.2.2.1
  have hN0 := hO.n0
  have hr0 := hO.1
  have hlcd := hR.2.2.2
  have hm80 := hC.2.2.2.2.2.1
  have hrcd6 := hC.2.2.1
  refine mkI (by decide) (Nat.le_of_ble_eq_true rfl) ?_
  rintro X rfl rfl rfl hRm C kret H ls w hl
  have hl : lv_has ls 3 [(0, .ref o), (1, .int (iI k)), (2, .int (iI wh))] := hl
  have w : Wd X (dcore cI cO cZ o h sl us pd co q q2 q3 hf rcd sf uf T m ++ sw cI q a b sg ln r N ov lc sd ++ sw cI q2 a2 b2 sg2 ln2 r2 pl2 ov2 lc2 sd2 ++ sw cI q3 a3 b3 sg3 ln3 r3 pl3 ov3 lc3 sd3 ++ hst cI st) H [] := w
  generalize ([] : List Loc) = locs at w ⊢
  refine r_iload_n (pc := 0) C d_D_ofRun_0 rfl (lv_at hl 1 rfl) ?_
  refine r_iconst (pc := 1) C d_D_ofRun_1 ?_
  refine r_aload_n (pc := 2) C d_D_ofRun_2 rfl (lv_at hl 0 rfl) ?_
  refine r_get (pc := 3) (v := .ref q) C w i_D rfl 0 rfl 0 (by decide) fl_D_10 rfl rfl d_D_ofRun_3 ?_
  refine r_get (pc := 6) (v := .int (iI r)) C w i_S rfl 6 rfl 2 (by decide) fl_D_99 rfl rfl d_D_ofRun_6 ?_
  refine r_iconst (pc := 9) C d_D_ofRun_9 ?_
  refine r_isub (pc := 10) C d_D_ofRun_10 ?_
  refine r_callP (pc := 11) (As := [.int (iI k), .int (iI 0), .int (iI (r - 1))]) (rest := []) C w (c_D_isWithin k 0 (r - 1) (by omega)) ml_D_44 st_D_isWithin ini_D cd_D_isWithin hd_D_isWithin rfl (by rw [hRm]; exact ⟨⟨Nat.le_of_ble_eq_true rfl, Nat.le_of_ble_eq_true rfl⟩, Nat.le_of_ble_eq_true rfl, Nat.le_of_ble_eq_true rfl⟩) hl.1 rfl (Nat.le_of_ble_eq_true rfl) d_D_ofRun_11 (fun z_11 H locs hz_11 w => ?_)
  refine r_if_ne (pc := 14) (tgt := 19) C (by omega) d_D_ofRun_14 (by decide) (fun c_14 => ?_) (fun c_14 => ?_)
  · skip
    have hb_14 : 0 ≤ k ∧ k ≤ (r - 1) := by omega
    clear hz_11 c_14
    refine r_iload_n (pc := 19) C d_D_ofRun_19 rfl (lv_at hl 2 rfl) ?_
    have hsw : wh = 0 ∨ wh = 1 ∨ wh = 2 ∨ wh = 3 ∨ (wh < 0 ∨ 3 < wh) := by omega
    rcases hsw with hsw | hsw | hsw | hsw | hsw
    · skip
      refine r_switchIn (pc := 20) (off := 32) (tgt := 52) C (by omega) (by omega) (by rw [hsw]; rfl) (by decide) d_D_ofRun_20 ?_
      refine r_aload_n (pc := 52) C d_D_ofRun_52 rfl (lv_at hl 0 rfl) ?_
      refine r_get (pc := 53) (v := .ref q) C w i_D rfl 0 rfl 0 (by decide) fl_D_10 rfl rfl d_D_ofRun_53 ?_
      refine r_iload_n (pc := 56) C d_D_ofRun_56 rfl (lv_at hl 1 rfl) ?_
      refine r_callVI (pc := 57) (As := [.int (iI k)]) (rest := []) (wr := (dcore cI cO cZ o h sl us pd co q q2 q3 hf rcd sf uf T m ++ sw cI q2 a2 b2 sg2 ln2 r2 pl2 ov2 lc2 sd2 ++ sw cI q3 a3 b3 sg3 ln3 r3 pl3 ov3 lc3 sd3 ++ hst cI st)) C w (c_S_signOf hT q a b sg ln r N ov lc sd _ _ hO (by omega) (by omega) k (by omega)) ml_D_105 im_S_signOf se_S_signOf ini_S cd_S_signOf hd_S_signOf rfl (by rw [hRm]; exact ⟨⟨Nat.le_of_ble_eq_true rfl, Nat.le_of_ble_eq_true rfl⟩, Nat.le_of_ble_eq_true rfl, Nat.le_of_ble_eq_true rfl⟩) hl.1 [6, 7, 8] [0, 1, 2, 3, 4, 5, 9, 10, 11, 12, 13, 14, 15, 16, 17, 18, 19, 20, 21, 22, 23, 24, 25, 26, 27, 28, 29, 30, 31, 32, 33, 34, 35, 36, 37, 38] ⟨rfl, rfl, by decide, by decide, by decide⟩ 0 rfl rfl rfl (Nat.le_of_ble_eq_true rfl) d_D_ofRun_57 (fun z_57 u_57 H locs hz_57 w => ?_)
      obtain ⟨rfl, hz_57⟩ := hz_57
      have w : Wd X (dcore cI cO cZ o h sl us pd co q q2 q3 hf rcd sf uf T m ++ sw cI q a b sg ln r N ov lc sd ++ sw cI q2 a2 b2 sg2 ln2 r2 pl2 ov2 lc2 sd2 ++ sw cI q3 a3 b3 sg3 ln3 r3 pl3 ov3 lc3 sd3 ++ hst cI st) H locs := w.sub [0, 1, 2, 3, 4, 5, 36, 37, 38, 6, 7, 8, 9, 10, 11, 12, 13, 14, 15, 16, 17, 18, 19, 20, 21, 22, 23, 24, 25, 26, 27, 28, 29, 30, 31, 32, 33, 34, 35] rfl (by decide)
      subst hz_57
      exact kret _ _ _ _ (sg k) _ d_D_ofRun_60 w (⟨_, cw_mk hR hC, ⟨rfl, Or.inr ⟨by omega, Or.inl ⟨hsw, rfl⟩⟩⟩⟩)
    · skip
      refine r_switchIn (pc := 20) (off := 41) (tgt := 61) C (by omega) (by omega) (by rw [hsw]; rfl) (by decide) d_D_ofRun_20 ?_
      refine r_aload_n (pc := 61) C d_D_ofRun_61 rfl (lv_at hl 0 rfl) ?_
      refine r_get (pc := 62) (v := .ref q) C w i_D rfl 0 rfl 0 (by decide) fl_D_10 rfl rfl d_D_ofRun_62 ?_
      refine r_iload_n (pc := 65) C d_D_ofRun_65 rfl (lv_at hl 1 rfl) ?_
      refine r_callVI (pc := 66) (As := [.int (iI k)]) (rest := []) (wr := (dcore cI cO cZ o h sl us pd co q q2 q3 hf rcd sf uf T m ++ sw cI q2 a2 b2 sg2 ln2 r2 pl2 ov2 lc2 sd2 ++ sw cI q3 a3 b3 sg3 ln3 r3 pl3 ov3 lc3 sd3 ++ hst cI st)) C w (c_S_firstOf hT q a b sg ln r N ov lc sd _ _ hO (by omega) (by omega) k (by omega)) ml_D_108 im_S_firstOf se_S_firstOf ini_S cd_S_firstOf hd_S_firstOf rfl (by rw [hRm]; exact ⟨⟨Nat.le_of_ble_eq_true rfl, Nat.le_of_ble_eq_true rfl⟩, Nat.le_of_ble_eq_true rfl, Nat.le_of_ble_eq_true rfl⟩) hl.1 [6, 7, 8] [0, 1, 2, 3, 4, 5, 9, 10, 11, 12, 13, 14, 15, 16, 17, 18, 19, 20, 21, 22, 23, 24, 25, 26, 27, 28, 29, 30, 31, 32, 33, 34, 35, 36, 37, 38] ⟨rfl, rfl, by decide, by decide, by decide⟩ 0 rfl rfl rfl (Nat.le_of_ble_eq_true rfl) d_D_ofRun_66 (fun z_66 u_66 H locs hz_66 w => ?_)
      obtain ⟨rfl, hz_66⟩ := hz_66
      have w : Wd X (dcore cI cO cZ o h sl us pd co q q2 q3 hf rcd sf uf T m ++ sw cI q a b sg ln r N ov lc sd ++ sw cI q2 a2 b2 sg2 ln2 r2 pl2 ov2 lc2 sd2 ++ sw cI q3 a3 b3 sg3 ln3 r3 pl3 ov3 lc3 sd3 ++ hst cI st) H locs := w.sub [0, 1, 2, 3, 4, 5, 36, 37, 38, 6, 7, 8, 9, 10, 11, 12, 13, 14, 15, 16, 17, 18, 19, 20, 21, 22, 23, 24, 25, 26, 27, 28, 29, 30, 31, 32, 33, 34, 35] rfl (by decide)
      subst hz_66
      exact kret _ _ _ _ (ps ln k) _ d_D_ofRun_69 w (⟨_, cw_mk hR hC, ⟨rfl, Or.inr ⟨by omega, Or.inr (Or.inl ⟨hsw, rfl⟩)⟩⟩⟩)
    · skip
      refine r_switchIn (pc := 20) (off := 50) (tgt := 70) C (by omega) (by omega) (by rw [hsw]; rfl) (by decide) d_D_ofRun_20 ?_
      refine r_aload_n (pc := 70) C d_D_ofRun_70 rfl (lv_at hl 0 rfl) ?_
      refine r_get (pc := 71) (v := .ref q) C w i_D rfl 0 rfl 0 (by decide) fl_D_10 rfl rfl d_D_ofRun_71 ?_
      refine r_iload_n (pc := 74) C d_D_ofRun_74 rfl (lv_at hl 1 rfl) ?_
      refine r_callVI (pc := 75) (As := [.int (iI k)]) (rest := []) (wr := (dcore cI cO cZ o h sl us pd co q q2 q3 hf rcd sf uf T m ++ sw cI q2 a2 b2 sg2 ln2 r2 pl2 ov2 lc2 sd2 ++ sw cI q3 a3 b3 sg3 ln3 r3 pl3 ov3 lc3 sd3 ++ hst cI st)) C w (c_S_lengthOf hT q a b sg ln r N ov lc sd _ _ hO (by omega) (by omega) k (by omega)) ml_D_111 im_S_lengthOf se_S_lengthOf ini_S cd_S_lengthOf hd_S_lengthOf rfl (by rw [hRm]; exact ⟨⟨Nat.le_of_ble_eq_true rfl, Nat.le_of_ble_eq_true rfl⟩, Nat.le_of_ble_eq_true rfl, Nat.le_of_ble_eq_true rfl⟩) hl.1 [6, 7, 8] [0, 1, 2, 3, 4, 5, 9, 10, 11, 12, 13, 14, 15, 16, 17, 18, 19, 20, 21, 22, 23, 24, 25, 26, 27, 28, 29, 30, 31, 32, 33, 34, 35, 36, 37, 38] ⟨rfl, rfl, by decide, by decide, by decide⟩ 0 rfl rfl rfl (Nat.le_of_ble_eq_true rfl) d_D_ofRun_75 (fun z_75 u_75 H locs hz_75 w => ?_)
      obtain ⟨rfl, hz_75⟩ := hz_75
      have w : Wd X (dcore cI cO cZ o h sl us pd co q q2 q3 hf rcd sf uf T m ++ sw cI q a b sg ln r N ov lc sd ++ sw cI q2 a2 b2 sg2 ln2 r2 pl2 ov2 lc2 sd2 ++ sw cI q3 a3 b3 sg3 ln3 r3 pl3 ov3 lc3 sd3 ++ hst cI st) H locs := w.sub [0, 1, 2, 3, 4, 5, 36, 37, 38, 6, 7, 8, 9, 10, 11, 12, 13, 14, 15, 16, 17, 18, 19, 20, 21, 22, 23, 24, 25, 26, 27, 28, 29, 30, 31, 32, 33, 34, 35] rfl (by decide)
      subst hz_75
      exact kret _ _ _ _ (ln k) _ d_D_ofRun_78 w (⟨_, cw_mk hR hC, ⟨rfl, Or.inr ⟨by omega, Or.inr (Or.inr (Or.inl ⟨hsw, rfl⟩))⟩⟩⟩)
    · skip
      refine r_switchIn (pc := 20) (off := 59) (tgt := 79) C (by omega) (by omega) (by rw [hsw]; rfl) (by decide) d_D_ofRun_20 ?_
      have hk2 := hO.run (k := k) (by omega) (by omega)
      refine r_aload_n (pc := 79) C d_D_ofRun_79 rfl (lv_at hl 0 rfl) ?_
      refine r_get (pc := 80) (v := .ref q) C w i_D rfl 0 rfl 0 (by decide) fl_D_10 rfl rfl d_D_ofRun_80 ?_
      refine r_iload_n (pc := 83) C d_D_ofRun_83 rfl (lv_at hl 1 rfl) ?_
      refine r_aload_n (pc := 84) C d_D_ofRun_84 rfl (lv_at hl 0 rfl) ?_
      refine r_get (pc := 85) (v := .ref q) C w i_D rfl 0 rfl 0 (by decide) fl_D_10 rfl rfl d_D_ofRun_85 ?_
      refine r_get (pc := 88) (v := .int (iI lc)) C w i_S rfl 6 rfl 5 (by decide) fl_D_52 rfl rfl d_D_ofRun_88 ?_
      refine r_callVI (pc := 91) (As := [.int (iI k), .int (iI lc)]) (rest := []) (wr := (dcore cI cO cZ o h sl us pd co q q2 q3 hf rcd sf uf T m ++ sw cI q2 a2 b2 sg2 ln2 r2 pl2 ov2 lc2 sd2 ++ sw cI q3 a3 b3 sg3 ln3 r3 pl3 ov3 lc3 sd3 ++ hst cI st)) C w (c_S_bitsOf hT q a b sg ln r N ov lc sd _ _ hO (by omega) (by omega) k lc (by omega) (by omega)) ml_D_114 im_S_bitsOf se_S_bitsOf ini_S cd_S_bitsOf hd_S_bitsOf rfl (by rw [hRm]; exact ⟨⟨Nat.le_of_ble_eq_true rfl, Nat.le_of_ble_eq_true rfl⟩, Nat.le_of_ble_eq_true rfl, Nat.le_of_ble_eq_true rfl⟩) hl.1 [6, 7, 8] [0, 1, 2, 3, 4, 5, 9, 10, 11, 12, 13, 14, 15, 16, 17, 18, 19, 20, 21, 22, 23, 24, 25, 26, 27, 28, 29, 30, 31, 32, 33, 34, 35, 36, 37, 38] ⟨rfl, rfl, by decide, by decide, by decide⟩ 0 rfl rfl rfl (Nat.le_of_ble_eq_true rfl) d_D_ofRun_91 (fun z_91 u_91 H locs hz_91 w => ?_)
      obtain ⟨rfl, hz_91⟩ := hz_91
      have w : Wd X (dcore cI cO cZ o h sl us pd co q q2 q3 hf rcd sf uf T m ++ sw cI q a b sg ln r N ov lc sd ++ sw cI q2 a2 b2 sg2 ln2 r2 pl2 ov2 lc2 sd2 ++ sw cI q3 a3 b3 sg3 ln3 r3 pl3 ov3 lc3 sd3 ++ hst cI st) H locs := w.sub [0, 1, 2, 3, 4, 5, 36, 37, 38, 6, 7, 8, 9, 10, 11, 12, 13, 14, 15, 16, 17, 18, 19, 20, 21, 22, 23, 24, 25, 26, 27, 28, 29, 30, 31, 32, 33, 34, 35] rfl (by decide)
      subst hz_91
      have hrb := rb_rg (code := lc) (s := sg k) (n := ln k) (by omega)
      exact kret _ _ _ _ (rb lc (sg k) (ln k)) _ d_D_ofRun_94 w (⟨_, cw_mk hR hC, ⟨rfl, Or.inr ⟨by omega, Or.inr (Or.inr (Or.inr (Or.inl ⟨hsw, rfl⟩)))⟩⟩⟩)
    · skip
      refine r_switchOut (pc := 20) (tgt := 95) C (by omega) hsw (by decide) d_D_ofRun_20 ?_
      refine r_bipush (pc := 95) C d_D_ofRun_95 (by decide) ?_
      exact kret _ _ _ _ (-2) _ d_D_ofRun_97 w (⟨_, cw_mk hR hC, ⟨rfl, Or.inr ⟨by omega, Or.inr (Or.inr (Or.inr (Or.inr (⟨hsw, rfl⟩))))⟩⟩⟩)
  · skip
    have hb_14 : ¬ (0 ≤ k ∧ k ≤ (r - 1)) := by omega
    clear hz_11 c_14
    refine r_iconst (pc := 17) C d_D_ofRun_17 ?_
    exact kret _ _ _ _ (-1) _ d_D_ofRun_18 w (⟨_, cw_mk hR hC, ⟨rfl, Or.inl ⟨by omega, rfl⟩⟩⟩)
def Sp_count (wh : Int) (A : AS) (z : Int) (A' : AS) : Prop := match A with | ((lc, sd, r, sg, ln, N, v), hist, rcd, slot, uf, T, m) => A' = A ∧ ((wh = 0 ∧ z = N) ∨ (wh = 1 ∧ z = r) ∨ (wh = 2 ∧ z = cn v 10 0 N) ∨ (wh = 3 ∧ z = ps (rbf lc sg ln) r) ∨ (wh = 4 ∧ z = max 0 (r - 1) + ps (crf ln) r) ∨ (wh = 5 ∧ z = ps (smf sg ln) r) ∨ (wh = 6 ∧ z = mx ln r) ∨ (wh = 7 ∧ z = m) ∨ (wh = 8 ∧ z = rcd) ∨ (wh = 9 ∧ z = lc) ∨ (wh = 10 ∧ z = sd) ∨ ((wh < 0 ∨ 10 < wh) ∧ z = -2))
theorem d_D_count_0 : decode b_D_count 0 = .ok (.iload_n 1, 1) := by decide +kernel
theorem d_D_count_1 : decode b_D_count 1 = .ok (.tableswitch 161 0 10 #[59, 67, 75, 93, 108, 116, 124, 132, 140, 145, 153], 59) := by decide +kernel
theorem d_D_count_60 : decode b_D_count 60 = .ok (.aload_n 0, 1) := by decide +kernel
theorem d_D_count_61 : decode b_D_count 61 = .ok (.getfield 10, 3) := by decide +kernel
theorem d_D_count_64 : decode b_D_count 64 = .ok (.getfield 62, 3) := by decide +kernel
theorem d_D_count_67 : decode b_D_count 67 = .ok (.ireturn, 1) := by decide +kernel
theorem d_D_count_68 : decode b_D_count 68 = .ok (.aload_n 0, 1) := by decide +kernel
theorem d_D_count_69 : decode b_D_count 69 = .ok (.getfield 10, 3) := by decide +kernel
theorem d_D_count_72 : decode b_D_count 72 = .ok (.getfield 99, 3) := by decide +kernel
theorem d_D_count_75 : decode b_D_count 75 = .ok (.ireturn, 1) := by decide +kernel
theorem d_D_count_76 : decode b_D_count 76 = .ok (.aload_n 0, 1) := by decide +kernel
theorem d_D_count_77 : decode b_D_count 77 = .ok (.getfield 10, 3) := by decide +kernel
theorem d_D_count_80 : decode b_D_count 80 = .ok (.iconst 0, 1) := by decide +kernel
theorem d_D_count_81 : decode b_D_count 81 = .ok (.aload_n 0, 1) := by decide +kernel
theorem d_D_count_82 : decode b_D_count 82 = .ok (.getfield 10, 3) := by decide +kernel
theorem d_D_count_85 : decode b_D_count 85 = .ok (.getfield 62, 3) := by decide +kernel
theorem d_D_count_88 : decode b_D_count 88 = .ok (.bipush 10, 2) := by decide +kernel
theorem d_D_count_90 : decode b_D_count 90 = .ok (.invokevirtual 80, 3) := by decide +kernel
theorem d_D_count_93 : decode b_D_count 93 = .ok (.ireturn, 1) := by decide +kernel
theorem d_D_count_94 : decode b_D_count 94 = .ok (.aload_n 0, 1) := by decide +kernel
theorem d_D_count_95 : decode b_D_count 95 = .ok (.getfield 10, 3) := by decide +kernel
theorem d_D_count_98 : decode b_D_count 98 = .ok (.aload_n 0, 1) := by decide +kernel
theorem d_D_count_99 : decode b_D_count 99 = .ok (.getfield 10, 3) := by decide +kernel
theorem d_D_count_102 : decode b_D_count 102 = .ok (.getfield 52, 3) := by decide +kernel
theorem d_D_count_105 : decode b_D_count 105 = .ok (.invokevirtual 118, 3) := by decide +kernel
theorem d_D_count_108 : decode b_D_count 108 = .ok (.ireturn, 1) := by decide +kernel
theorem d_D_count_109 : decode b_D_count 109 = .ok (.aload_n 0, 1) := by decide +kernel
theorem d_D_count_110 : decode b_D_count 110 = .ok (.getfield 10, 3) := by decide +kernel
theorem d_D_count_113 : decode b_D_count 113 = .ok (.invokevirtual 121, 3) := by decide +kernel
theorem d_D_count_116 : decode b_D_count 116 = .ok (.ireturn, 1) := by decide +kernel
theorem d_D_count_117 : decode b_D_count 117 = .ok (.aload_n 0, 1) := by decide +kernel
theorem d_D_count_118 : decode b_D_count 118 = .ok (.getfield 10, 3) := by decide +kernel
theorem d_D_count_121 : decode b_D_count 121 = .ok (.invokevirtual 125, 3) := by decide +kernel
theorem d_D_count_124 : decode b_D_count 124 = .ok (.ireturn, 1) := by decide +kernel
theorem d_D_count_125 : decode b_D_count 125 = .ok (.aload_n 0, 1) := by decide +kernel
theorem d_D_count_126 : decode b_D_count 126 = .ok (.getfield 10, 3) := by decide +kernel
theorem d_D_count_129 : decode b_D_count 129 = .ok (.invokevirtual 128, 3) := by decide +kernel
theorem d_D_count_132 : decode b_D_count 132 = .ok (.ireturn, 1) := by decide +kernel
theorem d_D_count_133 : decode b_D_count 133 = .ok (.aload_n 0, 1) := by decide +kernel
theorem d_D_count_134 : decode b_D_count 134 = .ok (.getfield 40, 3) := by decide +kernel
theorem d_D_count_137 : decode b_D_count 137 = .ok (.getfield 131, 3) := by decide +kernel
theorem d_D_count_140 : decode b_D_count 140 = .ok (.ireturn, 1) := by decide +kernel
theorem d_D_count_141 : decode b_D_count 141 = .ok (.aload_n 0, 1) := by decide +kernel
theorem d_D_count_142 : decode b_D_count 142 = .ok (.getfield 26, 3) := by decide +kernel
theorem d_D_count_145 : decode b_D_count 145 = .ok (.ireturn, 1) := by decide +kernel
theorem d_D_count_146 : decode b_D_count 146 = .ok (.aload_n 0, 1) := by decide +kernel
theorem d_D_count_147 : decode b_D_count 147 = .ok (.getfield 10, 3) := by decide +kernel
theorem d_D_count_150 : decode b_D_count 150 = .ok (.getfield 52, 3) := by decide +kernel
theorem d_D_count_153 : decode b_D_count 153 = .ok (.ireturn, 1) := by decide +kernel
theorem d_D_count_154 : decode b_D_count 154 = .ok (.aload_n 0, 1) := by decide +kernel
theorem d_D_count_155 : decode b_D_count 155 = .ok (.getfield 10, 3) := by decide +kernel
theorem d_D_count_158 : decode b_D_count 158 = .ok (.getfield 59, 3) := by decide +kernel
theorem d_D_count_161 : decode b_D_count 161 = .ok (.ireturn, 1) := by decide +kernel
theorem d_D_count_162 : decode b_D_count 162 = .ok (.bipush (-2), 2) := by decide +kernel
theorem d_D_count_164 : decode b_D_count 164 = .ok (.ireturn, 1) := by decide +kernel
set_option maxHeartbeats 4000000 in
set_option maxRecDepth 20000 in
theorem c_D_count {l : Launch} {G : va_G} {tys : List (ClassId × FieldType)} {cI cO cZ : ClassId} (hT : TY tys cI cO cZ) (o : Nat) (A : AS) (ws : va_W) (hA : CW cI cO cZ o A ws) (wh : Int) (hrg : (-2147483648 ≤ wh ∧ wh < 2147483648)) : CTI l G tys y_D_count b_D_count 2 .int 4 90 [.ref o, .int (iI wh)] ws (fun z u => ∃ A' : AS, CW cI cO cZ o A' u ∧ Sp_count wh A z A') := by
  obtain ⟨⟨lc, sd, r, sg, ln, N, v⟩, hist, rcd, slot, uf, T, m⟩ := A
  obtain ⟨hR, h, sl, us, pd, co, hf, sf, q, a, b, ov, q2, a2, b2, sg2, ln2, r2, pl2, ov2, lc2, sd2, q3, a3, b3, sg3, ln3, r3, pl3, ov3, lc3, sd3, st, rfl, hC⟩ := hA
  have hO := hR.1
  have hr5 := hR.2.1
  have hN3 := hR.2.2.1
  have hN0 := hO.n0
  have hr0 := hO.1
  have hlcd := hR.2.2.2
  have hm80 := hC.2.2.2.2.2.1
  have hrcd6 := hC.2.2.1
  refine mkI (by decide) (Nat.le_of_ble_eq_true rfl) ?_
  rintro X rfl rfl rfl hRm C kret H ls w hl
  have hl : lv_has ls 2 [(0, .ref o), (1, .int (iI wh))] := hl
  have w : Wd X (dcore cI cO cZ o h sl us pd co q q2 q3 hf rcd sf uf T m ++ sw cI q a b sg ln r N ov lc sd ++ sw cI q2 a2 b2 sg2 ln2 r2 pl2 ov2 lc2 sd2 ++ sw cI q3 a3 b3 sg3 ln3 r3 pl3 ov3 lc3 sd3 ++ hst cI st) H [] := w
  generalize ([] : List Loc) = locs at w ⊢
  refine r_iload_n (pc := 0) C d_D_count_0 rfl (lv_at hl 1 rfl) ?_
  have hsw : wh = 0 ∨ wh = 1 ∨ wh = 2 ∨ wh = 3 ∨ wh = 4 ∨ wh = 5 ∨ wh = 6 ∨ wh = 7 ∨ wh = 8 ∨ wh = 9 ∨ wh = 10 ∨ (wh < 0 ∨ 10 < wh) := by omega
  rcases hsw with hsw | hsw | hsw | hsw | hsw | hsw | hsw | hsw | hsw | hsw | hsw | hsw
  · skip
    refine r_switchIn (pc := 1) (off := 59) (tgt := 60) C (by omega) (by omega) (by rw [hsw]; rfl) (by decide) d_D_count_1 ?_
    refine r_aload_n (pc := 60) C d_D_count_60 rfl (lv_at hl 0 rfl) ?_
    refine r_get (pc := 61) (v := .ref q) C w i_D rfl 0 rfl 0 (by decide) fl_D_10 rfl rfl d_D_count_61 ?_
    refine r_get (pc := 64) (v := .int (iI N)) C w i_S rfl 6 rfl 3 (by decide) fl_D_62 rfl rfl d_D_count_64 ?_
    exact kret _ _ _ _ N _ d_D_count_67 w (⟨_, cw_mk hR hC, ⟨rfl, Or.inl ⟨hsw, rfl⟩⟩⟩)
  · skip
    refine r_switchIn (pc := 1) (off := 67) (tgt := 68) C (by omega) (by omega) (by rw [hsw]; rfl) (by decide) d_D_count_1 ?_
    refine r_aload_n (pc := 68) C d_D_count_68 rfl (lv_at hl 0 rfl) ?_
    refine r_get (pc := 69) (v := .ref q) C w i_D rfl 0 rfl 0 (by decide) fl_D_10 rfl rfl d_D_count_69 ?_
    refine r_get (pc := 72) (v := .int (iI r)) C w i_S rfl 6 rfl 2 (by decide) fl_D_99 rfl rfl d_D_count_72 ?_
    exact kret _ _ _ _ r _ d_D_count_75 w (⟨_, cw_mk hR hC, ⟨rfl, Or.inr (Or.inl ⟨hsw, rfl⟩)⟩⟩)
  · skip
    refine r_switchIn (pc := 1) (off := 75) (tgt := 76) C (by omega) (by omega) (by rw [hsw]; rfl) (by decide) d_D_count_1 ?_
    refine r_aload_n (pc := 76) C d_D_count_76 rfl (lv_at hl 0 rfl) ?_
    refine r_get (pc := 77) (v := .ref q) C w i_D rfl 0 rfl 0 (by decide) fl_D_10 rfl rfl d_D_count_77 ?_
    refine r_iconst (pc := 80) C d_D_count_80 ?_
    refine r_aload_n (pc := 81) C d_D_count_81 rfl (lv_at hl 0 rfl) ?_
    refine r_get (pc := 82) (v := .ref q) C w i_D rfl 0 rfl 0 (by decide) fl_D_10 rfl rfl d_D_count_82 ?_
    refine r_get (pc := 85) (v := .int (iI N)) C w i_S rfl 6 rfl 3 (by decide) fl_D_62 rfl rfl d_D_count_85 ?_
    refine r_bipush (pc := 88) C d_D_count_88 (by decide) ?_
    refine r_callVI (pc := 90) (As := [.int (iI 0), .int (iI N), .int (iI 10)]) (rest := []) (wr := (dcore cI cO cZ o h sl us pd co q q2 q3 hf rcd sf uf T m ++ sw cI q2 a2 b2 sg2 ln2 r2 pl2 ov2 lc2 sd2 ++ sw cI q3 a3 b3 sg3 ln3 r3 pl3 ov3 lc3 sd3 ++ hst cI st)) C w (c_S_alikeIn hT q a b sg ln r N ov lc sd _ _ hO (by omega) (by omega) 0 N 10 (by omega) (by omega)) ml_D_80 im_S_alikeIn se_S_alikeIn ini_S cd_S_alikeIn hd_S_alikeIn rfl (by rw [hRm]; exact ⟨⟨Nat.le_of_ble_eq_true rfl, Nat.le_of_ble_eq_true rfl⟩, Nat.le_of_ble_eq_true rfl, Nat.le_of_ble_eq_true rfl⟩) hl.1 [6, 7, 8] [0, 1, 2, 3, 4, 5, 9, 10, 11, 12, 13, 14, 15, 16, 17, 18, 19, 20, 21, 22, 23, 24, 25, 26, 27, 28, 29, 30, 31, 32, 33, 34, 35, 36, 37, 38] ⟨rfl, rfl, by decide, by decide, by decide⟩ 0 rfl rfl rfl (Nat.le_of_ble_eq_true rfl) d_D_count_90 (fun z_90 u_90 H locs hz_90 w => ?_)
    obtain ⟨rfl, hz_90⟩ := hz_90
    have w : Wd X (dcore cI cO cZ o h sl us pd co q q2 q3 hf rcd sf uf T m ++ sw cI q a b sg ln r N ov lc sd ++ sw cI q2 a2 b2 sg2 ln2 r2 pl2 ov2 lc2 sd2 ++ sw cI q3 a3 b3 sg3 ln3 r3 pl3 ov3 lc3 sd3 ++ hst cI st) H locs := w.sub [0, 1, 2, 3, 4, 5, 36, 37, 38, 6, 7, 8, 9, 10, 11, 12, 13, 14, 15, 16, 17, 18, 19, 20, 21, 22, 23, 24, 25, 26, 27, 28, 29, 30, 31, 32, 33, 34, 35] rfl (by decide)
    exact kret _ _ _ _ z_90 _ d_D_count_93 w (⟨_, cw_mk hR hC, ⟨rfl, Or.inr (Or.inr (Or.inl ⟨hsw, hz_90⟩))⟩⟩)
  · skip
    refine r_switchIn (pc := 1) (off := 93) (tgt := 94) C (by omega) (by omega) (by rw [hsw]; rfl) (by decide) d_D_count_1 ?_
    refine r_aload_n (pc := 94) C d_D_count_94 rfl (lv_at hl 0 rfl) ?_
    refine r_get (pc := 95) (v := .ref q) C w i_D rfl 0 rfl 0 (by decide) fl_D_10 rfl rfl d_D_count_95 ?_
    refine r_aload_n (pc := 98) C d_D_count_98 rfl (lv_at hl 0 rfl) ?_
    refine r_get (pc := 99) (v := .ref q) C w i_D rfl 0 rfl 0 (by decide) fl_D_10 rfl rfl d_D_count_99 ?_
    refine r_get (pc := 102) (v := .int (iI lc)) C w i_S rfl 6 rfl 5 (by decide) fl_D_52 rfl rfl d_D_count_102 ?_
    refine r_callVI (pc := 105) (As := [.int (iI lc)]) (rest := []) (wr := (dcore cI cO cZ o h sl us pd co q q2 q3 hf rcd sf uf T m ++ sw cI q2 a2 b2 sg2 ln2 r2 pl2 ov2 lc2 sd2 ++ sw cI q3 a3 b3 sg3 ln3 r3 pl3 ov3 lc3 sd3 ++ hst cI st)) C w (c_S_allBits hT q a b sg ln r N ov lc sd _ _ hO (by omega) (by omega) lc (by omega)) ml_D_118 im_S_allBits se_S_allBits ini_S cd_S_allBits hd_S_allBits rfl (by rw [hRm]; exact ⟨⟨Nat.le_of_ble_eq_true rfl, Nat.le_of_ble_eq_true rfl⟩, Nat.le_of_ble_eq_true rfl, Nat.le_of_ble_eq_true rfl⟩) hl.1 [6, 7, 8] [0, 1, 2, 3, 4, 5, 9, 10, 11, 12, 13, 14, 15, 16, 17, 18, 19, 20, 21, 22, 23, 24, 25, 26, 27, 28, 29, 30, 31, 32, 33, 34, 35, 36, 37, 38] ⟨rfl, rfl, by decide, by decide, by decide⟩ 0 rfl rfl rfl (Nat.le_of_ble_eq_true rfl) d_D_count_105 (fun z_105 u_105 H locs hz_105 w => ?_)
    obtain ⟨rfl, hz_105⟩ := hz_105
    have w : Wd X (dcore cI cO cZ o h sl us pd co q q2 q3 hf rcd sf uf T m ++ sw cI q a b sg ln r N ov lc sd ++ sw cI q2 a2 b2 sg2 ln2 r2 pl2 ov2 lc2 sd2 ++ sw cI q3 a3 b3 sg3 ln3 r3 pl3 ov3 lc3 sd3 ++ hst cI st) H locs := w.sub [0, 1, 2, 3, 4, 5, 36, 37, 38, 6, 7, 8, 9, 10, 11, 12, 13, 14, 15, 16, 17, 18, 19, 20, 21, 22, 23, 24, 25, 26, 27, 28, 29, 30, 31, 32, 33, 34, 35] rfl (by decide)
    subst hz_105
    have hab := allBits_rg (code := lc) hO (by omega) (k := r) (by omega) (by omega)
    exact kret _ _ _ _ (ps (rbf lc sg ln) r) _ d_D_count_108 w (⟨_, cw_mk hR hC, ⟨rfl, Or.inr (Or.inr (Or.inr (Or.inl ⟨hsw, rfl⟩)))⟩⟩)
  · skip
    refine r_switchIn (pc := 1) (off := 108) (tgt := 109) C (by omega) (by omega) (by rw [hsw]; rfl) (by decide) d_D_count_1 ?_
    refine r_aload_n (pc := 109) C d_D_count_109 rfl (lv_at hl 0 rfl) ?_
    refine r_get (pc := 110) (v := .ref q) C w i_D rfl 0 rfl 0 (by decide) fl_D_10 rfl rfl d_D_count_110 ?_
    refine r_callVI (pc := 113) (As := []) (rest := []) (wr := (dcore cI cO cZ o h sl us pd co q q2 q3 hf rcd sf uf T m ++ sw cI q2 a2 b2 sg2 ln2 r2 pl2 ov2 lc2 sd2 ++ sw cI q3 a3 b3 sg3 ln3 r3 pl3 ov3 lc3 sd3 ++ hst cI st)) C w (c_S_allCharacters hT q a b sg ln r N ov lc sd _ _ hO (by omega) (by omega)  ) ml_D_121 im_S_allCharacters se_S_allCharacters ini_S cd_S_allCharacters hd_S_allCharacters rfl (by rw [hRm]; exact ⟨⟨Nat.le_of_ble_eq_true rfl, Nat.le_of_ble_eq_true rfl⟩, Nat.le_of_ble_eq_true rfl, Nat.le_of_ble_eq_true rfl⟩) hl.1 [6, 7, 8] [0, 1, 2, 3, 4, 5, 9, 10, 11, 12, 13, 14, 15, 16, 17, 18, 19, 20, 21, 22, 23, 24, 25, 26, 27, 28, 29, 30, 31, 32, 33, 34, 35, 36, 37, 38] ⟨rfl, rfl, by decide, by decide, by decide⟩ 0 rfl rfl rfl (Nat.le_of_ble_eq_true rfl) d_D_count_113 (fun z_113 u_113 H locs hz_113 w => ?_)
    obtain ⟨rfl, hz_113⟩ := hz_113
    have w : Wd X (dcore cI cO cZ o h sl us pd co q q2 q3 hf rcd sf uf T m ++ sw cI q a b sg ln r N ov lc sd ++ sw cI q2 a2 b2 sg2 ln2 r2 pl2 ov2 lc2 sd2 ++ sw cI q3 a3 b3 sg3 ln3 r3 pl3 ov3 lc3 sd3 ++ hst cI st) H locs := w.sub [0, 1, 2, 3, 4, 5, 36, 37, 38, 6, 7, 8, 9, 10, 11, 12, 13, 14, 15, 16, 17, 18, 19, 20, 21, 22, 23, 24, 25, 26, 27, 28, 29, 30, 31, 32, 33, 34, 35] rfl (by decide)
    subst hz_113
    exact kret _ _ _ _ (max 0 (r - 1) + ps (crf ln) r) _ d_D_count_116 w (⟨_, cw_mk hR hC, ⟨rfl, Or.inr (Or.inr (Or.inr (Or.inr (Or.inl ⟨hsw, rfl⟩))))⟩⟩)
  · skip
    refine r_switchIn (pc := 1) (off := 116) (tgt := 117) C (by omega) (by omega) (by rw [hsw]; rfl) (by decide) d_D_count_1 ?_
    refine r_aload_n (pc := 117) C d_D_count_117 rfl (lv_at hl 0 rfl) ?_
    refine r_get (pc := 118) (v := .ref q) C w i_D rfl 0 rfl 0 (by decide) fl_D_10 rfl rfl d_D_count_118 ?_
    refine r_callVI (pc := 121) (As := []) (rest := []) (wr := (dcore cI cO cZ o h sl us pd co q q2 q3 hf rcd sf uf T m ++ sw cI q2 a2 b2 sg2 ln2 r2 pl2 ov2 lc2 sd2 ++ sw cI q3 a3 b3 sg3 ln3 r3 pl3 ov3 lc3 sd3 ++ hst cI st)) C w (c_S_sumOfValues hT q a b sg ln r N ov lc sd _ _ hO (by omega) (by omega)  ) ml_D_125 im_S_sumOfValues se_S_sumOfValues ini_S cd_S_sumOfValues hd_S_sumOfValues rfl (by rw [hRm]; exact ⟨⟨Nat.le_of_ble_eq_true rfl, Nat.le_of_ble_eq_true rfl⟩, Nat.le_of_ble_eq_true rfl, Nat.le_of_ble_eq_true rfl⟩) hl.1 [6, 7, 8] [0, 1, 2, 3, 4, 5, 9, 10, 11, 12, 13, 14, 15, 16, 17, 18, 19, 20, 21, 22, 23, 24, 25, 26, 27, 28, 29, 30, 31, 32, 33, 34, 35, 36, 37, 38] ⟨rfl, rfl, by decide, by decide, by decide⟩ 0 rfl rfl rfl (Nat.le_of_ble_eq_true rfl) d_D_count_121 (fun z_121 u_121 H locs hz_121 w => ?_)
    obtain ⟨rfl, hz_121⟩ := hz_121
    have w : Wd X (dcore cI cO cZ o h sl us pd co q q2 q3 hf rcd sf uf T m ++ sw cI q a b sg ln r N ov lc sd ++ sw cI q2 a2 b2 sg2 ln2 r2 pl2 ov2 lc2 sd2 ++ sw cI q3 a3 b3 sg3 ln3 r3 pl3 ov3 lc3 sd3 ++ hst cI st) H locs := w.sub [0, 1, 2, 3, 4, 5, 36, 37, 38, 6, 7, 8, 9, 10, 11, 12, 13, 14, 15, 16, 17, 18, 19, 20, 21, 22, 23, 24, 25, 26, 27, 28, 29, 30, 31, 32, 33, 34, 35] rfl (by decide)
    subst hz_121
    exact kret _ _ _ _ (ps (smf sg ln) r) _ d_D_count_124 w (⟨_, cw_mk hR hC, ⟨rfl, Or.inr (Or.inr (Or.inr (Or.inr (Or.inr (Or.inl ⟨hsw, rfl⟩)))))⟩⟩)
  · skip
    refine r_switchIn (pc := 1) (off := 124) (tgt := 125) C (by omega) (by omega) (by rw [hsw]; rfl) (by decide) d_D_count_1 ?_
    refine r_aload_n (pc := 125) C d_D_count_125 rfl (lv_at hl 0 rfl) ?_
    refine r_get (pc := 126) (v := .ref q) C w i_D rfl 0 rfl 0 (by decide) fl_D_10 rfl rfl d_D_count_126 ?_
    refine r_callVI (pc := 129) (As := []) (rest := []) (wr := (dcore cI cO cZ o h sl us pd co q q2 q3 hf rcd sf uf T m ++ sw cI q2 a2 b2 sg2 ln2 r2 pl2 ov2 lc2 sd2 ++ sw cI q3 a3 b3 sg3 ln3 r3 pl3 ov3 lc3 sd3 ++ hst cI st)) C w (c_S_longestRun hT q a b sg ln r N ov lc sd _ _ hO (by omega) (by omega)  ) ml_D_128 im_S_longestRun se_S_longestRun ini_S cd_S_longestRun hd_S_longestRun rfl (by rw [hRm]; exact ⟨⟨Nat.le_of_ble_eq_true rfl, Nat.le_of_ble_eq_true rfl⟩, Nat.le_of_ble_eq_true rfl, Nat.le_of_ble_eq_true rfl⟩) hl.1 [6, 7, 8] [0, 1, 2, 3, 4, 5, 9, 10, 11, 12, 13, 14, 15, 16, 17, 18, 19, 20, 21, 22, 23, 24, 25, 26, 27, 28, 29, 30, 31, 32, 33, 34, 35, 36, 37, 38] ⟨rfl, rfl, by decide, by decide, by decide⟩ 0 rfl rfl rfl (Nat.le_of_ble_eq_true rfl) d_D_count_129 (fun z_129 u_129 H locs hz_129 w => ?_)
    obtain ⟨rfl, hz_129⟩ := hz_129
    have w : Wd X (dcore cI cO cZ o h sl us pd co q q2 q3 hf rcd sf uf T m ++ sw cI q a b sg ln r N ov lc sd ++ sw cI q2 a2 b2 sg2 ln2 r2 pl2 ov2 lc2 sd2 ++ sw cI q3 a3 b3 sg3 ln3 r3 pl3 ov3 lc3 sd3 ++ hst cI st) H locs := w.sub [0, 1, 2, 3, 4, 5, 36, 37, 38, 6, 7, 8, 9, 10, 11, 12, 13, 14, 15, 16, 17, 18, 19, 20, 21, 22, 23, 24, 25, 26, 27, 28, 29, 30, 31, 32, 33, 34, 35] rfl (by decide)
    subst hz_129
    exact kret _ _ _ _ (mx ln r) _ d_D_count_132 w (⟨_, cw_mk hR hC, ⟨rfl, Or.inr (Or.inr (Or.inr (Or.inr (Or.inr (Or.inr (Or.inl ⟨hsw, rfl⟩))))))⟩⟩)
  · skip
    refine r_switchIn (pc := 1) (off := 132) (tgt := 133) C (by omega) (by omega) (by rw [hsw]; rfl) (by decide) d_D_count_1 ?_
    refine r_aload_n (pc := 133) C d_D_count_133 rfl (lv_at hl 0 rfl) ?_
    refine r_get (pc := 134) (v := .ref pd) C w i_D rfl 0 rfl 7 (by decide) fl_D_40 rfl rfl d_D_count_134 ?_
    refine r_get (pc := 137) (v := .int (iI m)) C w i_P rfl 4 rfl 1 (by decide) fl_D_131 rfl rfl d_D_count_137 ?_
    exact kret _ _ _ _ m _ d_D_count_140 w (⟨_, cw_mk hR hC, ⟨rfl, Or.inr (Or.inr (Or.inr (Or.inr (Or.inr (Or.inr (Or.inr (Or.inl ⟨hsw, rfl⟩)))))))⟩⟩)
  · skip
    refine r_switchIn (pc := 1) (off := 140) (tgt := 141) C (by omega) (by omega) (by rw [hsw]; rfl) (by decide) d_D_count_1 ?_
    refine r_aload_n (pc := 141) C d_D_count_141 rfl (lv_at hl 0 rfl) ?_
    refine r_get (pc := 142) (v := .int (iI rcd)) C w i_D rfl 0 rfl 4 (by decide) fl_D_26 rfl rfl d_D_count_142 ?_
    exact kret _ _ _ _ rcd _ d_D_count_145 w (⟨_, cw_mk hR hC, ⟨rfl, Or.inr (Or.inr (Or.inr (Or.inr (Or.inr (Or.inr (Or.inr (Or.inr (Or.inl ⟨hsw, rfl⟩))))))))⟩⟩)
  · skip
    refine r_switchIn (pc := 1) (off := 145) (tgt := 146) C (by omega) (by omega) (by rw [hsw]; rfl) (by decide) d_D_count_1 ?_
    refine r_aload_n (pc := 146) C d_D_count_146 rfl (lv_at hl 0 rfl) ?_
    refine r_get (pc := 147) (v := .ref q) C w i_D rfl 0 rfl 0 (by decide) fl_D_10 rfl rfl d_D_count_147 ?_
    refine r_get (pc := 150) (v := .int (iI lc)) C w i_S rfl 6 rfl 5 (by decide) fl_D_52 rfl rfl d_D_count_150 ?_
    exact kret _ _ _ _ lc _ d_D_count_153 w (⟨_, cw_mk hR hC, ⟨rfl, Or.inr (Or.inr (Or.inr (Or.inr (Or.inr (Or.inr (Or.inr (Or.inr (Or.inr (Or.inl ⟨hsw, rfl⟩)))))))))⟩⟩)
  · skip
    refine r_switchIn (pc := 1) (off := 153) (tgt := 154) C (by omega) (by omega) (by rw [hsw]; rfl) (by decide) d_D_count_1 ?_
    refine r_aload_n (pc := 154) C d_D_count_154 rfl (lv_at hl 0 rfl) ?_
    refine r_get (pc := 155) (v := .ref q) C w i_D rfl 0 rfl 0 (by decide) fl_D_10 rfl rfl d_D_count_155 ?_
    refine r_get (pc := 158) (v := .int (iI sd)) C w i_S rfl 6 rfl 6 (by decide) fl_D_59 rfl rfl d_D_count_158 ?_
    exact kret _ _ _ _ sd _ d_D_count_161 w (⟨_, cw_mk hR hC, ⟨rfl, Or.inr (Or.inr (Or.inr (Or.inr (Or.inr (Or.inr (Or.inr (Or.inr (Or.inr (Or.inr (Or.inl ⟨hsw, rfl⟩))))))))))⟩⟩)
  · skip
    refine r_switchOut (pc := 1) (tgt := 162) C (by omega) hsw (by decide) d_D_count_1 ?_
    refine r_bipush (pc := 162) C d_D_count_162 (by decide) ?_
    exact kret _ _ _ _ (-2) _ d_D_count_164 w (⟨_, cw_mk hR hC, ⟨rfl, Or.inr (Or.inr (Or.inr (Or.inr (Or.inr (Or.inr (Or.inr (Or.inr (Or.inr (Or.inr (Or.inr (⟨hsw, rfl⟩)))))))))))⟩⟩)
def Sp_howMany (f k s : Int) (A : AS) (z : Int) (A' : AS) : Prop := match A with | ((lc, sd, r, sg, ln, N, v), hist, rcd, slot, uf, T, m) => A' = A ∧ ((¬ (0 ≤ f ∧ 1 ≤ k ∧ k ≤ N - f) ∧ z = -1) ∨ ((0 ≤ f ∧ 1 ≤ k ∧ k ≤ N - f) ∧ ((¬ (0 ≤ s ∧ s ≤ 10) ∧ z = -2) ∨ ((0 ≤ s ∧ s ≤ 10) ∧ z = cn v s f (f + k)))))
theorem d_D_howMany_0 : decode b_D_howMany 0 = .ok (.aload_n 0, 1) := by decide +kernel
theorem d_D_howMany_1 : decode b_D_howMany 1 = .ok (.iload_n 1, 1) := by decide +kernel
theorem d_D_howMany_2 : decode b_D_howMany 2 = .ok (.iload_n 2, 1) := by decide +kernel
theorem d_D_howMany_3 : decode b_D_howMany 3 = .ok (.invokevirtual 76, 3) := by decide +kernel
theorem d_D_howMany_6 : decode b_D_howMany 6 = .ok (.ifCond .ne 5, 3) := by decide +kernel
theorem d_D_howMany_9 : decode b_D_howMany 9 = .ok (.iconst (-1), 1) := by decide +kernel
theorem d_D_howMany_10 : decode b_D_howMany 10 = .ok (.ireturn, 1) := by decide +kernel
theorem d_D_howMany_11 : decode b_D_howMany 11 = .ok (.iload_n 3, 1) := by decide +kernel
theorem d_D_howMany_12 : decode b_D_howMany 12 = .ok (.iconst 0, 1) := by decide +kernel
theorem d_D_howMany_13 : decode b_D_howMany 13 = .ok (.bipush 10, 2) := by decide +kernel
theorem d_D_howMany_15 : decode b_D_howMany 15 = .ok (.invokestatic 44, 3) := by decide +kernel
theorem d_D_howMany_18 : decode b_D_howMany 18 = .ok (.ifCond .eq 18, 3) := by decide +kernel
theorem d_D_howMany_21 : decode b_D_howMany 21 = .ok (.aload_n 0, 1) := by decide +kernel
theorem d_D_howMany_22 : decode b_D_howMany 22 = .ok (.getfield 10, 3) := by decide +kernel
theorem d_D_howMany_25 : decode b_D_howMany 25 = .ok (.iload_n 1, 1) := by decide +kernel
theorem d_D_howMany_26 : decode b_D_howMany 26 = .ok (.iload_n 1, 1) := by decide +kernel
theorem d_D_howMany_27 : decode b_D_howMany 27 = .ok (.iload_n 2, 1) := by decide +kernel
theorem d_D_howMany_28 : decode b_D_howMany 28 = .ok (.iadd, 1) := by decide +kernel
theorem d_D_howMany_29 : decode b_D_howMany 29 = .ok (.iload_n 3, 1) := by decide +kernel
theorem d_D_howMany_30 : decode b_D_howMany 30 = .ok (.invokevirtual 80, 3) := by decide +kernel
theorem d_D_howMany_33 : decode b_D_howMany 33 = .ok (.goto 5, 3) := by decide +kernel
theorem d_D_howMany_36 : decode b_D_howMany 36 = .ok (.bipush (-2), 2) := by decide +kernel
theorem d_D_howMany_38 : decode b_D_howMany 38 = .ok (.ireturn, 1) := by decide +kernel
set_option maxHeartbeats 4000000 in
set_option maxRecDepth 20000 in
theorem c_D_howMany {l : Launch} {G : va_G} {tys : List (ClassId × FieldType)} {cI cO cZ : ClassId} (hT : TY tys cI cO cZ) (o : Nat) (A : AS) (ws : va_W) (hA : CW cI cO cZ o A ws) (f k s : Int) (hrg : (-2147483648 ≤ f ∧ f < 2147483648) ∧ (-2147483648 ≤ k ∧ k < 2147483648) ∧ (-2147483648 ≤ s ∧ s < 2147483648)) : CTI l G tys y_D_howMany b_D_howMany 4 .int 3 68 [.ref o, .int (iI f), .int (iI k), .int (iI s)] ws (fun z u => ∃ A' : AS, CW cI cO cZ o A' u ∧ Sp_howMany f k s A z A') := by
  obtain ⟨⟨lc, sd, r, sg, ln, N, v⟩, hist, rcd, slot, uf, T, m⟩ := A
  obtain ⟨hR, h, sl, us, pd, co, hf, sf, q, a, b, ov, q2, a2, b2, sg2, ln2, r2, pl2, ov2, lc2, sd2, q3, a3, b3, sg3, ln3, r3, pl3, ov3, lc3, sd3, st, rfl, hC⟩ := hA
  have hO := hR.1
  have hr5 := hR.2.1
  have hN3 := hR.2.2.1
  have hN0 := hO.n0
  have hr0 := hO.1
  have hlcd := hR.2.2.2
  have hm80 := hC.2.2.2.2.2.1
  have hrcd6 := hC.2.2.1
  refine mkI (by decide) (Nat.le_of_ble_eq_true rfl) ?_
  rintro X rfl rfl rfl hRm C kret H ls w hl
  have hl : lv_has ls 4 [(0, .ref o), (1, .int (iI f)), (2, .int (iI k)), (3, .int (iI s))] := hl
  have w : Wd X (dcore cI cO cZ o h sl us pd co q q2 q3 hf rcd sf uf T m ++ sw cI q a b sg ln r N ov lc sd ++ sw cI q2 a2 b2 sg2 ln2 r2 pl2 ov2 lc2 sd2 ++ sw cI q3 a3 b3 sg3 ln3 r3 pl3 ov3 lc3 sd3 ++ hst cI st) H [] := w
  generalize ([] : List Loc) = locs at w ⊢
  refine r_aload_n (pc := 0) C d_D_howMany_0 rfl (lv_at hl 0 rfl) ?_
  refine r_iload_n (pc := 1) C d_D_howMany_1 rfl (lv_at hl 1 rfl) ?_
  refine r_iload_n (pc := 2) C d_D_howMany_2 rfl (lv_at hl 2 rfl) ?_
  refine r_callVI (pc := 3) (As := [.int (iI f), .int (iI k)]) (rest := []) (wr := []) C w (c_D_isPiece hT o h sl us pd co hf sf rcd m uf T q a b sg ln r N ov lc sd q2 a2 b2 sg2 ln2 r2 pl2 ov2 lc2 sd2 q3 a3 b3 sg3 ln3 r3 pl3 ov3 lc3 sd3 st f k (by omega) (by omega)) ml_D_76 im_D_isPiece se_D_isPiece ini_D cd_D_isPiece hd_D_isPiece rfl (by rw [hRm]; exact ⟨⟨Nat.le_of_ble_eq_true rfl, Nat.le_of_ble_eq_true rfl⟩, Nat.le_of_ble_eq_true rfl, Nat.le_of_ble_eq_true rfl⟩) hl.1 [0, 1, 2, 3, 4, 5, 6, 7, 8, 9, 10, 11, 12, 13, 14, 15, 16, 17, 18, 19, 20, 21, 22, 23, 24, 25, 26, 27, 28, 29, 30, 31, 32, 33, 34, 35, 36, 37, 38] [] ⟨rfl, rfl, by decide, by decide, by decide⟩ 0 rfl rfl rfl (Nat.le_of_ble_eq_true rfl) d_D_howMany_3 (fun z_3 u_3 H locs hz_3 w => ?_)
  obtain ⟨rfl, hz_3⟩ := hz_3
  have w : Wd X (dcore cI cO cZ o h sl us pd co q q2 q3 hf rcd sf uf T m ++ sw cI q a b sg ln r N ov lc sd ++ sw cI q2 a2 b2 sg2 ln2 r2 pl2 ov2 lc2 sd2 ++ sw cI q3 a3 b3 sg3 ln3 r3 pl3 ov3 lc3 sd3 ++ hst cI st) H locs := w
  refine r_if_ne (pc := 6) (tgt := 11) C (by omega) d_D_howMany_6 (by decide) (fun c_6 => ?_) (fun c_6 => ?_)
  · skip
    have hb_6 : 0 ≤ f ∧ 1 ≤ k ∧ k ≤ N - f := by omega
    clear hz_3 c_6
    refine r_iload_n (pc := 11) C d_D_howMany_11 rfl (lv_at hl 3 rfl) ?_
    refine r_iconst (pc := 12) C d_D_howMany_12 ?_
    refine r_bipush (pc := 13) C d_D_howMany_13 (by decide) ?_
    refine r_callP (pc := 15) (As := [.int (iI s), .int (iI 0), .int (iI 10)]) (rest := []) C w (c_D_isWithin s 0 10 (by omega)) ml_D_44 st_D_isWithin ini_D cd_D_isWithin hd_D_isWithin rfl (by rw [hRm]; exact ⟨⟨Nat.le_of_ble_eq_true rfl, Nat.le_of_ble_eq_true rfl⟩, Nat.le_of_ble_eq_true rfl, Nat.le_of_ble_eq_true rfl⟩) hl.1 rfl (Nat.le_of_ble_eq_true rfl) d_D_howMany_15 (fun z_15 H locs hz_15 w => ?_)
    refine r_if_eq (pc := 18) (tgt := 36) C (by omega) d_D_howMany_18 (by decide) (fun c_18 => ?_) (fun c_18 => ?_)
    · skip
      have hb_18 : ¬ (0 ≤ s ∧ s ≤ 10) := by omega
      clear hz_15 c_18
      refine r_bipush (pc := 36) C d_D_howMany_36 (by decide) ?_
      exact kret _ _ _ _ (-2) _ d_D_howMany_38 w (⟨_, cw_mk hR hC, ⟨rfl, by omega⟩⟩)
    · skip
      have hb_18 : 0 ≤ s ∧ s ≤ 10 := by omega
      clear hz_15 c_18
      refine r_aload_n (pc := 21) C d_D_howMany_21 rfl (lv_at hl 0 rfl) ?_
      refine r_get (pc := 22) (v := .ref q) C w i_D rfl 0 rfl 0 (by decide) fl_D_10 rfl rfl d_D_howMany_22 ?_
      refine r_iload_n (pc := 25) C d_D_howMany_25 rfl (lv_at hl 1 rfl) ?_
      refine r_iload_n (pc := 26) C d_D_howMany_26 rfl (lv_at hl 1 rfl) ?_
      refine r_iload_n (pc := 27) C d_D_howMany_27 rfl (lv_at hl 2 rfl) ?_
      refine r_iadd (pc := 28) C d_D_howMany_28 ?_
      refine r_iload_n (pc := 29) C d_D_howMany_29 rfl (lv_at hl 3 rfl) ?_
      refine r_callVI (pc := 30) (As := [.int (iI f), .int (iI (f + k)), .int (iI s)]) (rest := []) (wr := (dcore cI cO cZ o h sl us pd co q q2 q3 hf rcd sf uf T m ++ sw cI q2 a2 b2 sg2 ln2 r2 pl2 ov2 lc2 sd2 ++ sw cI q3 a3 b3 sg3 ln3 r3 pl3 ov3 lc3 sd3 ++ hst cI st)) C w (c_S_alikeIn hT q a b sg ln r N ov lc sd _ _ hO (by omega) (by omega) f (f + k) s (by omega) (by omega)) ml_D_80 im_S_alikeIn se_S_alikeIn ini_S cd_S_alikeIn hd_S_alikeIn rfl (by rw [hRm]; exact ⟨⟨Nat.le_of_ble_eq_true rfl, Nat.le_of_ble_eq_true rfl⟩, Nat.le_of_ble_eq_true rfl, Nat.le_of_ble_eq_true rfl⟩) hl.1 [6, 7, 8] [0, 1, 2, 3, 4, 5, 9, 10, 11, 12, 13, 14, 15, 16, 17, 18, 19, 20, 21, 22, 23, 24, 25, 26, 27, 28, 29, 30, 31, 32, 33, 34, 35, 36, 37, 38] ⟨rfl, rfl, by decide, by decide, by decide⟩ 0 rfl rfl rfl (Nat.le_of_ble_eq_true rfl) d_D_howMany_30 (fun z_30 u_30 H locs hz_30 w => ?_)
      obtain ⟨rfl, hz_30⟩ := hz_30
      have w : Wd X (dcore cI cO cZ o h sl us pd co q q2 q3 hf rcd sf uf T m ++ sw cI q a b sg ln r N ov lc sd ++ sw cI q2 a2 b2 sg2 ln2 r2 pl2 ov2 lc2 sd2 ++ sw cI q3 a3 b3 sg3 ln3 r3 pl3 ov3 lc3 sd3 ++ hst cI st) H locs := w.sub [0, 1, 2, 3, 4, 5, 36, 37, 38, 6, 7, 8, 9, 10, 11, 12, 13, 14, 15, 16, 17, 18, 19, 20, 21, 22, 23, 24, 25, 26, 27, 28, 29, 30, 31, 32, 33, 34, 35] rfl (by decide)
      refine r_goto (pc := 33) (tgt := 38) C d_D_howMany_33 (by decide) ?_
      exact kret _ _ _ _ z_30 _ d_D_howMany_38 w (⟨_, cw_mk hR hC, ⟨rfl, by omega⟩⟩)
  · skip
    have hb_6 : ¬ (0 ≤ f ∧ 1 ≤ k ∧ k ≤ N - f) := by omega
    clear hz_3 c_6
    refine r_iconst (pc := 9) C d_D_howMany_9 ?_
    exact kret _ _ _ _ (-1) _ d_D_howMany_10 w (⟨_, cw_mk hR hC, ⟨rfl, by omega⟩⟩)
def Sp_bit (x : Int) (A : AS) (z : Int) (A' : AS) : Prop := match A with | ((lc, sd, r, sg, ln, N, v), hist, rcd, slot, uf, T, m) => A' = A ∧ (BitAt lc r sg ln x z)
theorem d_D_bit_0 : decode b_D_bit 0 = .ok (.aload_n 0, 1) := by decide +kernel
theorem d_D_bit_1 : decode b_D_bit 1 = .ok (.getfield 10, 3) := by decide +kernel
theorem d_D_bit_4 : decode b_D_bit 4 = .ok (.iload_n 1, 1) := by decide +kernel
theorem d_D_bit_5 : decode b_D_bit 5 = .ok (.invokevirtual 134, 3) := by decide +kernel
theorem d_D_bit_8 : decode b_D_bit 8 = .ok (.ireturn, 1) := by decide +kernel
set_option maxHeartbeats 4000000 in
set_option maxRecDepth 20000 in
theorem c_D_bit {l : Launch} {G : va_G} {tys : List (ClassId × FieldType)} {cI cO cZ : ClassId} (hT : TY tys cI cO cZ) (o : Nat) (A : AS) (ws : va_W) (hA : CW cI cO cZ o A ws) (x : Int) (hrg : (-2147483648 ≤ x ∧ x < 2147483648)) : CTI l G tys y_D_bit b_D_bit 2 .int 4 95 [.ref o, .int (iI x)] ws (fun z u => ∃ A' : AS, CW cI cO cZ o A' u ∧ Sp_bit x A z A') := by
  obtain ⟨⟨lc, sd, r, sg, ln, N, v⟩, hist, rcd, slot, uf, T, m⟩ := A
  obtain ⟨hR, h, sl, us, pd, co, hf, sf, q, a, b, ov, q2, a2, b2, sg2, ln2, r2, pl2, ov2, lc2, sd2, q3, a3, b3, sg3, ln3, r3, pl3, ov3, lc3, sd3, st, rfl, hC⟩ := hA
  have hO := hR.1
  have hr5 := hR.2.1
  have hN3 := hR.2.2.1
  have hN0 := hO.n0
  have hr0 := hO.1
  have hlcd := hR.2.2.2
  have hm80 := hC.2.2.2.2.2.1
  have hrcd6 := hC.2.2.1
  refine mkI (by decide) (Nat.le_of_ble_eq_true rfl) ?_
  rintro X rfl rfl rfl hRm C kret H ls w hl
  have hl : lv_has ls 2 [(0, .ref o), (1, .int (iI x))] := hl
  have w : Wd X (dcore cI cO cZ o h sl us pd co q q2 q3 hf rcd sf uf T m ++ sw cI q a b sg ln r N ov lc sd ++ sw cI q2 a2 b2 sg2 ln2 r2 pl2 ov2 lc2 sd2 ++ sw cI q3 a3 b3 sg3 ln3 r3 pl3 ov3 lc3 sd3 ++ hst cI st) H [] := w
  generalize ([] : List Loc) = locs at w ⊢
  refine r_aload_n (pc := 0) C d_D_bit_0 rfl (lv_at hl 0 rfl) ?_
  refine r_get (pc := 1) (v := .ref q) C w i_D rfl 0 rfl 0 (by decide) fl_D_10 rfl rfl d_D_bit_1 ?_
  refine r_iload_n (pc := 4) C d_D_bit_4 rfl (lv_at hl 1 rfl) ?_
  refine r_callVI (pc := 5) (As := [.int (iI x)]) (rest := []) (wr := (dcore cI cO cZ o h sl us pd co q q2 q3 hf rcd sf uf T m ++ sw cI q2 a2 b2 sg2 ln2 r2 pl2 ov2 lc2 sd2 ++ sw cI q3 a3 b3 sg3 ln3 r3 pl3 ov3 lc3 sd3 ++ hst cI st)) C w (c_S_bitAt hT q a b sg ln r N ov lc sd _ _ hO (by omega) (by omega) x (by omega) (by omega)) ml_D_134 im_S_bitAt se_S_bitAt ini_S cd_S_bitAt hd_S_bitAt rfl (by rw [hRm]; exact ⟨⟨Nat.le_of_ble_eq_true rfl, Nat.le_of_ble_eq_true rfl⟩, Nat.le_of_ble_eq_true rfl, Nat.le_of_ble_eq_true rfl⟩) hl.1 [6, 7, 8] [0, 1, 2, 3, 4, 5, 9, 10, 11, 12, 13, 14, 15, 16, 17, 18, 19, 20, 21, 22, 23, 24, 25, 26, 27, 28, 29, 30, 31, 32, 33, 34, 35, 36, 37, 38] ⟨rfl, rfl, by decide, by decide, by decide⟩ 0 rfl rfl rfl (Nat.le_of_ble_eq_true rfl) d_D_bit_5 (fun z_5 u_5 H locs hz_5 w => ?_)
  obtain ⟨rfl, hz_5⟩ := hz_5
  have w : Wd X (dcore cI cO cZ o h sl us pd co q q2 q3 hf rcd sf uf T m ++ sw cI q a b sg ln r N ov lc sd ++ sw cI q2 a2 b2 sg2 ln2 r2 pl2 ov2 lc2 sd2 ++ sw cI q3 a3 b3 sg3 ln3 r3 pl3 ov3 lc3 sd3 ++ hst cI st) H locs := w.sub [0, 1, 2, 3, 4, 5, 36, 37, 38, 6, 7, 8, 9, 10, 11, 12, 13, 14, 15, 16, 17, 18, 19, 20, 21, 22, 23, 24, 25, 26, 27, 28, 29, 30, 31, 32, 33, 34, 35] rfl (by decide)
  exact kret _ _ _ _ z_5 _ d_D_bit_8 w (⟨_, cw_mk hR hC, ⟨rfl, hz_5⟩⟩)
def Sp_character (x : Int) (A : AS) (z : Int) (A' : AS) : Prop := match A with | ((lc, sd, r, sg, ln, N, v), hist, rcd, slot, uf, T, m) => A' = A ∧ (∀ (Wt : Int → Int) (m : Int), Txt Wt r sg ln m → ((0 ≤ x ∧ x < m) ∧ z = Wt x) ∨ (¬ (0 ≤ x ∧ x < m) ∧ z = -1))
theorem d_D_character_0 : decode b_D_character 0 = .ok (.aload_n 0, 1) := by decide +kernel
theorem d_D_character_1 : decode b_D_character 1 = .ok (.getfield 10, 3) := by decide +kernel
theorem d_D_character_4 : decode b_D_character 4 = .ok (.iload_n 1, 1) := by decide +kernel
theorem d_D_character_5 : decode b_D_character 5 = .ok (.invokevirtual 137, 3) := by decide +kernel
theorem d_D_character_8 : decode b_D_character 8 = .ok (.ireturn, 1) := by decide +kernel
set_option maxHeartbeats 4000000 in
set_option maxRecDepth 20000 in
theorem c_D_character {l : Launch} {G : va_G} {tys : List (ClassId × FieldType)} {cI cO cZ : ClassId} (hT : TY tys cI cO cZ) (o : Nat) (A : AS) (ws : va_W) (hA : CW cI cO cZ o A ws) (x : Int) (hrg : (-2147483648 ≤ x ∧ x < 2147483648)) : CTI l G tys y_D_character b_D_character 2 .int 3 71 [.ref o, .int (iI x)] ws (fun z u => ∃ A' : AS, CW cI cO cZ o A' u ∧ Sp_character x A z A') := by
  obtain ⟨⟨lc, sd, r, sg, ln, N, v⟩, hist, rcd, slot, uf, T, m⟩ := A
  obtain ⟨hR, h, sl, us, pd, co, hf, sf, q, a, b, ov, q2, a2, b2, sg2, ln2, r2, pl2, ov2, lc2, sd2, q3, a3, b3, sg3, ln3, r3, pl3, ov3, lc3, sd3, st, rfl, hC⟩ := hA
  have hO := hR.1
  have hr5 := hR.2.1
  have hN3 := hR.2.2.1
  have hN0 := hO.n0
  have hr0 := hO.1
  have hlcd := hR.2.2.2
  have hm80 := hC.2.2.2.2.2.1
  have hrcd6 := hC.2.2.1
  refine mkI (by decide) (Nat.le_of_ble_eq_true rfl) ?_
  rintro X rfl rfl rfl hRm C kret H ls w hl
  have hl : lv_has ls 2 [(0, .ref o), (1, .int (iI x))] := hl
  have w : Wd X (dcore cI cO cZ o h sl us pd co q q2 q3 hf rcd sf uf T m ++ sw cI q a b sg ln r N ov lc sd ++ sw cI q2 a2 b2 sg2 ln2 r2 pl2 ov2 lc2 sd2 ++ sw cI q3 a3 b3 sg3 ln3 r3 pl3 ov3 lc3 sd3 ++ hst cI st) H [] := w
  generalize ([] : List Loc) = locs at w ⊢
  refine r_aload_n (pc := 0) C d_D_character_0 rfl (lv_at hl 0 rfl) ?_
  refine r_get (pc := 1) (v := .ref q) C w i_D rfl 0 rfl 0 (by decide) fl_D_10 rfl rfl d_D_character_1 ?_
  refine r_iload_n (pc := 4) C d_D_character_4 rfl (lv_at hl 1 rfl) ?_
  refine r_callVI (pc := 5) (As := [.int (iI x)]) (rest := []) (wr := (dcore cI cO cZ o h sl us pd co q q2 q3 hf rcd sf uf T m ++ sw cI q2 a2 b2 sg2 ln2 r2 pl2 ov2 lc2 sd2 ++ sw cI q3 a3 b3 sg3 ln3 r3 pl3 ov3 lc3 sd3 ++ hst cI st)) C w (c_S_characterAt hT q a b sg ln r N ov lc sd _ _ hO (by omega) (by omega) x (by omega)) ml_D_137 im_S_characterAt se_S_characterAt ini_S cd_S_characterAt hd_S_characterAt rfl (by rw [hRm]; exact ⟨⟨Nat.le_of_ble_eq_true rfl, Nat.le_of_ble_eq_true rfl⟩, Nat.le_of_ble_eq_true rfl, Nat.le_of_ble_eq_true rfl⟩) hl.1 [6, 7, 8] [0, 1, 2, 3, 4, 5, 9, 10, 11, 12, 13, 14, 15, 16, 17, 18, 19, 20, 21, 22, 23, 24, 25, 26, 27, 28, 29, 30, 31, 32, 33, 34, 35, 36, 37, 38] ⟨rfl, rfl, by decide, by decide, by decide⟩ 0 rfl rfl rfl (Nat.le_of_ble_eq_true rfl) d_D_character_5 (fun z_5 u_5 H locs hz_5 w => ?_)
  obtain ⟨rfl, hz_5⟩ := hz_5
  have w : Wd X (dcore cI cO cZ o h sl us pd co q q2 q3 hf rcd sf uf T m ++ sw cI q a b sg ln r N ov lc sd ++ sw cI q2 a2 b2 sg2 ln2 r2 pl2 ov2 lc2 sd2 ++ sw cI q3 a3 b3 sg3 ln3 r3 pl3 ov3 lc3 sd3 ++ hst cI st) H locs := w.sub [0, 1, 2, 3, 4, 5, 36, 37, 38, 6, 7, 8, 9, 10, 11, 12, 13, 14, 15, 16, 17, 18, 19, 20, 21, 22, 23, 24, 25, 26, 27, 28, 29, 30, 31, 32, 33, 34, 35] rfl (by decide)
  exact kret _ _ _ _ z_5 _ d_D_character_8 w (⟨_, cw_mk hR hC, ⟨rfl, hz_5⟩⟩)
def Sp_size (c : Int) (A : AS) (z : Int) (A' : AS) : Prop := match A with | ((lc, sd, r, sg, ln, N, v), hist, rcd, slot, uf, T, m) => A' = A ∧ ((¬ (0 ≤ c ∧ c ≤ 2) ∧ z = -2) ∨ ((0 ≤ c ∧ c ≤ 2) ∧ z = ps (rbf c sg ln) r))
theorem d_D_size_0 : decode b_D_size 0 = .ok (.iload_n 1, 1) := by decide +kernel
theorem d_D_size_1 : decode b_D_size 1 = .ok (.iconst 0, 1) := by decide +kernel
theorem d_D_size_2 : decode b_D_size 2 = .ok (.iconst 2, 1) := by decide +kernel
theorem d_D_size_3 : decode b_D_size 3 = .ok (.invokestatic 44, 3) := by decide +kernel
theorem d_D_size_6 : decode b_D_size 6 = .ok (.ifCond .eq 14, 3) := by decide +kernel
theorem d_D_size_9 : decode b_D_size 9 = .ok (.aload_n 0, 1) := by decide +kernel
theorem d_D_size_10 : decode b_D_size 10 = .ok (.getfield 10, 3) := by decide +kernel
theorem d_D_size_13 : decode b_D_size 13 = .ok (.iload_n 1, 1) := by decide +kernel
theorem d_D_size_14 : decode b_D_size 14 = .ok (.invokevirtual 118, 3) := by decide +kernel
theorem d_D_size_17 : decode b_D_size 17 = .ok (.goto 5, 3) := by decide +kernel
theorem d_D_size_20 : decode b_D_size 20 = .ok (.bipush (-2), 2) := by decide +kernel
theorem d_D_size_22 : decode b_D_size 22 = .ok (.ireturn, 1) := by decide +kernel
set_option maxHeartbeats 4000000 in
set_option maxRecDepth 20000 in
theorem c_D_size {l : Launch} {G : va_G} {tys : List (ClassId × FieldType)} {cI cO cZ : ClassId} (hT : TY tys cI cO cZ) (o : Nat) (A : AS) (ws : va_W) (hA : CW cI cO cZ o A ws) (c : Int) (hrg : (-2147483648 ≤ c ∧ c < 2147483648)) : CTI l G tys y_D_size b_D_size 2 .int 4 90 [.ref o, .int (iI c)] ws (fun z u => ∃ A' : AS, CW cI cO cZ o A' u ∧ Sp_size c A z A') := by
  obtain ⟨⟨lc, sd, r, sg, ln, N, v⟩, hist, rcd, slot, uf, T, m⟩ := A
  obtain ⟨hR, h, sl, us, pd, co, hf, sf, q, a, b, ov, q2, a2, b2, sg2, ln2, r2, pl2, ov2, lc2, sd2, q3, a3, b3, sg3, ln3, r3, pl3, ov3, lc3, sd3, st, rfl, hC⟩ := hA
  have hO := hR.1
  have hr5 := hR.2.1
  have hN3 := hR.2.2.1
  have hN0 := hO.n0
  have hr0 := hO.1
  have hlcd := hR.2.2.2
  have hm80 := hC.2.2.2.2.2.1
  have hrcd6 := hC.2.2.1
  refine mkI (by decide) (Nat.le_of_ble_eq_true rfl) ?_
  rintro X rfl rfl rfl hRm C kret H ls w hl
  have hl : lv_has ls 2 [(0, .ref o), (1, .int (iI c))] := hl
  have w : Wd X (dcore cI cO cZ o h sl us pd co q q2 q3 hf rcd sf uf T m ++ sw cI q a b sg ln r N ov lc sd ++ sw cI q2 a2 b2 sg2 ln2 r2 pl2 ov2 lc2 sd2 ++ sw cI q3 a3 b3 sg3 ln3 r3 pl3 ov3 lc3 sd3 ++ hst cI st) H [] := w
  generalize ([] : List Loc) = locs at w ⊢
  refine r_iload_n (pc := 0) C d_D_size_0 rfl (lv_at hl 1 rfl) ?_
  refine r_iconst (pc := 1) C d_D_size_1 ?_
  refine r_iconst (pc := 2) C d_D_size_2 ?_
  refine r_callP (pc := 3) (As := [.int (iI c), .int (iI 0), .int (iI 2)]) (rest := []) C w (c_D_isWithin c 0 2 (by omega)) ml_D_44 st_D_isWithin ini_D cd_D_isWithin hd_D_isWithin rfl (by rw [hRm]; exact ⟨⟨Nat.le_of_ble_eq_true rfl, Nat.le_of_ble_eq_true rfl⟩, Nat.le_of_ble_eq_true rfl, Nat.le_of_ble_eq_true rfl⟩) hl.1 rfl (Nat.le_of_ble_eq_true rfl) d_D_size_3 (fun z_3 H locs hz_3 w => ?_)
  refine r_if_eq (pc := 6) (tgt := 20) C (by omega) d_D_size_6 (by decide) (fun c_6 => ?_) (fun c_6 => ?_)
  · skip
    have hb_6 : ¬ (0 ≤ c ∧ c ≤ 2) := by omega
    clear hz_3 c_6
    refine r_bipush (pc := 20) C d_D_size_20 (by decide) ?_
    exact kret _ _ _ _ (-2) _ d_D_size_22 w (⟨_, cw_mk hR hC, ⟨rfl, by omega⟩⟩)
  · skip
    have hb_6 : 0 ≤ c ∧ c ≤ 2 := by omega
    clear hz_3 c_6
    refine r_aload_n (pc := 9) C d_D_size_9 rfl (lv_at hl 0 rfl) ?_
    refine r_get (pc := 10) (v := .ref q) C w i_D rfl 0 rfl 0 (by decide) fl_D_10 rfl rfl d_D_size_10 ?_
    refine r_iload_n (pc := 13) C d_D_size_13 rfl (lv_at hl 1 rfl) ?_
    refine r_callVI (pc := 14) (As := [.int (iI c)]) (rest := []) (wr := (dcore cI cO cZ o h sl us pd co q q2 q3 hf rcd sf uf T m ++ sw cI q2 a2 b2 sg2 ln2 r2 pl2 ov2 lc2 sd2 ++ sw cI q3 a3 b3 sg3 ln3 r3 pl3 ov3 lc3 sd3 ++ hst cI st)) C w (c_S_allBits hT q a b sg ln r N ov lc sd _ _ hO (by omega) (by omega) c (by omega)) ml_D_118 im_S_allBits se_S_allBits ini_S cd_S_allBits hd_S_allBits rfl (by rw [hRm]; exact ⟨⟨Nat.le_of_ble_eq_true rfl, Nat.le_of_ble_eq_true rfl⟩, Nat.le_of_ble_eq_true rfl, Nat.le_of_ble_eq_true rfl⟩) hl.1 [6, 7, 8] [0, 1, 2, 3, 4, 5, 9, 10, 11, 12, 13, 14, 15, 16, 17, 18, 19, 20, 21, 22, 23, 24, 25, 26, 27, 28, 29, 30, 31, 32, 33, 34, 35, 36, 37, 38] ⟨rfl, rfl, by decide, by decide, by decide⟩ 0 rfl rfl rfl (Nat.le_of_ble_eq_true rfl) d_D_size_14 (fun z_14 u_14 H locs hz_14 w => ?_)
    obtain ⟨rfl, hz_14⟩ := hz_14
    have w : Wd X (dcore cI cO cZ o h sl us pd co q q2 q3 hf rcd sf uf T m ++ sw cI q a b sg ln r N ov lc sd ++ sw cI q2 a2 b2 sg2 ln2 r2 pl2 ov2 lc2 sd2 ++ sw cI q3 a3 b3 sg3 ln3 r3 pl3 ov3 lc3 sd3 ++ hst cI st) H locs := w.sub [0, 1, 2, 3, 4, 5, 36, 37, 38, 6, 7, 8, 9, 10, 11, 12, 13, 14, 15, 16, 17, 18, 19, 20, 21, 22, 23, 24, 25, 26, 27, 28, 29, 30, 31, 32, 33, 34, 35] rfl (by decide)
    subst hz_14
    have hab := allBits_rg (code := c) hO (by omega) (k := r) (by omega) (by omega)
    refine r_goto (pc := 17) (tgt := 22) C d_D_size_17 (by decide) ?_
    exact kret _ _ _ _ (ps (rbf c sg ln) r) _ d_D_size_22 w (⟨_, cw_mk hR hC, ⟨rfl, by omega⟩⟩)
def Sp_bestCode (A : AS) (z : Int) (A' : AS) : Prop := match A with | ((lc, sd, r, sg, ln, N, v), hist, rcd, slot, uf, T, m) => A' = A ∧ (z = bestC (ps (rbf 0 sg ln) r) (ps (rbf 1 sg ln) r) (ps (rbf 2 sg ln) r))
theorem d_D_bestCode_0 : decode b_D_bestCode 0 = .ok (.iconst 0, 1) := by decide +kernel
theorem d_D_bestCode_1 : decode b_D_bestCode 1 = .ok (.istore_n 1, 1) := by decide +kernel
theorem d_D_bestCode_2 : decode b_D_bestCode 2 = .ok (.iconst 1, 1) := by decide +kernel
theorem d_D_bestCode_3 : decode b_D_bestCode 3 = .ok (.istore_n 2, 1) := by decide +kernel
theorem d_D_bestCode_4 : decode b_D_bestCode 4 = .ok (.iload_n 2, 1) := by decide +kernel
theorem d_D_bestCode_5 : decode b_D_bestCode 5 = .ok (.iconst 2, 1) := by decide +kernel
theorem d_D_bestCode_6 : decode b_D_bestCode 6 = .ok (.if_icmp .gt 30, 3) := by decide +kernel
theorem d_D_bestCode_9 : decode b_D_bestCode 9 = .ok (.aload_n 0, 1) := by decide +kernel
theorem d_D_bestCode_10 : decode b_D_bestCode 10 = .ok (.getfield 10, 3) := by decide +kernel
theorem d_D_bestCode_13 : decode b_D_bestCode 13 = .ok (.iload_n 2, 1) := by decide +kernel
theorem d_D_bestCode_14 : decode b_D_bestCode 14 = .ok (.invokevirtual 118, 3) := by decide +kernel
theorem d_D_bestCode_17 : decode b_D_bestCode 17 = .ok (.aload_n 0, 1) := by decide +kernel
theorem d_D_bestCode_18 : decode b_D_bestCode 18 = .ok (.getfield 10, 3) := by decide +kernel
theorem d_D_bestCode_21 : decode b_D_bestCode 21 = .ok (.iload_n 1, 1) := by decide +kernel
theorem d_D_bestCode_22 : decode b_D_bestCode 22 = .ok (.invokevirtual 118, 3) := by decide +kernel
theorem d_D_bestCode_25 : decode b_D_bestCode 25 = .ok (.if_icmp .ge 5, 3) := by decide +kernel
theorem d_D_bestCode_28 : decode b_D_bestCode 28 = .ok (.iload_n 2, 1) := by decide +kernel
theorem d_D_bestCode_29 : decode b_D_bestCode 29 = .ok (.istore_n 1, 1) := by decide +kernel
theorem d_D_bestCode_30 : decode b_D_bestCode 30 = .ok (.iinc 2 1, 3) := by decide +kernel
theorem d_D_bestCode_33 : decode b_D_bestCode 33 = .ok (.goto (-29), 3) := by decide +kernel
theorem d_D_bestCode_36 : decode b_D_bestCode 36 = .ok (.iload_n 1, 1) := by decide +kernel
theorem d_D_bestCode_37 : decode b_D_bestCode 37 = .ok (.ireturn, 1) := by decide +kernel
set_option maxHeartbeats 4000000 in
set_option maxRecDepth 20000 in
theorem c_D_bestCode {l : Launch} {G : va_G} {tys : List (ClassId × FieldType)} {cI cO cZ : ClassId} (hT : TY tys cI cO cZ) (o : Nat) (A : AS) (ws : va_W) (hA : CW cI cO cZ o A ws) : CTI l G tys y_D_bestCode b_D_bestCode 3 .int 4 90 [.ref o] ws (fun z u => ∃ A' : AS, CW cI cO cZ o A' u ∧ Sp_bestCode  A z A') := by
  obtain ⟨⟨lc, sd, r, sg, ln, N, v⟩, hist, rcd, slot, uf, T, m⟩ := A
  obtain ⟨hR, h, sl, us, pd, co, hf, sf, q, a, b, ov, q2, a2, b2, sg2, ln2, r2, pl2, ov2, lc2, sd2, q3, a3, b3, sg3, ln3, r3, pl3, ov3, lc3, sd3, st, rfl, hC⟩ := hA
  have hO := hR.1
  have hr5 := hR.2.1
  have hN3 := hR.2.2.1
  have hN0 := hO.n0
  have hr0 := hO.1
  have hlcd := hR.2.2.2
  have hm80 := hC.2.2.2.2.2.1
  have hrcd6 := hC.2.2.1
  refine mkI (by decide) (Nat.le_of_ble_eq_true rfl) ?_
  rintro X rfl rfl rfl hRm C kret H ls w hl
  have hl : lv_has ls 3 [(0, .ref o)] := hl
  have w : Wd X (dcore cI cO cZ o h sl us pd co q q2 q3 hf rcd sf uf T m ++ sw cI q a b sg ln r N ov lc sd ++ sw cI q2 a2 b2 sg2 ln2 r2 pl2 ov2 lc2 sd2 ++ sw cI q3 a3 b3 sg3 ln3 r3 pl3 ov3 lc3 sd3 ++ hst cI st) H [] := w
  generalize ([] : List Loc) = locs at w ⊢
  refine r_iconst (pc := 0) C d_D_bestCode_0 ?_
  refine r_istore_n (pc := 1) (lv' := [(1, .int (iI 0)), (0, .ref o)]) C d_D_bestCode_1 rfl hl (by decide) rfl (fun ls hl => ?_)
  refine r_iconst (pc := 2) C d_D_bestCode_2 ?_
  refine r_istore_n (pc := 3) (lv' := [(2, .int (iI 1)), (1, .int (iI 0)), (0, .ref o)]) C d_D_bestCode_3 rfl hl (by decide) rfl (fun ls hl => ?_)
  refine r_iload_n (pc := 4) C d_D_bestCode_4 rfl (lv_at hl 0 rfl) ?_
  refine r_iconst (pc := 5) C d_D_bestCode_5 ?_
  refine r_icmp_gt (pc := 6) (tgt := 36) C (by omega) d_D_bestCode_6 (by decide) (fun c_6 => absurd c_6 (by omega)) (fun c_6 => ?_)
  refine r_aload_n (pc := 9) C d_D_bestCode_9 rfl (lv_at hl 2 rfl) ?_
  refine r_get (pc := 10) (v := .ref q) C w i_D rfl 0 rfl 0 (by decide) fl_D_10 rfl rfl d_D_bestCode_10 ?_
  refine r_iload_n (pc := 13) C d_D_bestCode_13 rfl (lv_at hl 0 rfl) ?_
  refine r_callVI (pc := 14) (As := [.int (iI 1)]) (rest := []) (wr := (dcore cI cO cZ o h sl us pd co q q2 q3 hf rcd sf uf T m ++ sw cI q2 a2 b2 sg2 ln2 r2 pl2 ov2 lc2 sd2 ++ sw cI q3 a3 b3 sg3 ln3 r3 pl3 ov3 lc3 sd3 ++ hst cI st)) C w (c_S_allBits hT q a b sg ln r N ov lc sd _ _ hO (by omega) (by omega) 1 (by omega)) ml_D_118 im_S_allBits se_S_allBits ini_S cd_S_allBits hd_S_allBits rfl (by rw [hRm]; exact ⟨⟨Nat.le_of_ble_eq_true rfl, Nat.le_of_ble_eq_true rfl⟩, Nat.le_of_ble_eq_true rfl, Nat.le_of_ble_eq_true rfl⟩) hl.1 [6, 7, 8] [0, 1, 2, 3, 4, 5, 9, 10, 11, 12, 13, 14, 15, 16, 17, 18, 19, 20, 21, 22, 23, 24, 25, 26, 27, 28, 29, 30, 31, 32, 33, 34, 35, 36, 37, 38] ⟨rfl, rfl, by decide, by decide, by decide⟩ 0 rfl rfl rfl (Nat.le_of_ble_eq_true rfl) d_D_bestCode_14 (fun z_14 u_14 H locs hz_14 w => ?_)
  obtain ⟨rfl, hz_14⟩ := hz_14
  have w : Wd X (dcore cI cO cZ o h sl us pd co q q2 q3 hf rcd sf uf T m ++ sw cI q a b sg ln r N ov lc sd ++ sw cI q2 a2 b2 sg2 ln2 r2 pl2 ov2 lc2 sd2 ++ sw cI q3 a3 b3 sg3 ln3 r3 pl3 ov3 lc3 sd3 ++ hst cI st) H locs := w.sub [0, 1, 2, 3, 4, 5, 36, 37, 38, 6, 7, 8, 9, 10, 11, 12, 13, 14, 15, 16, 17, 18, 19, 20, 21, 22, 23, 24, 25, 26, 27, 28, 29, 30, 31, 32, 33, 34, 35] rfl (by decide)
  subst hz_14
  have hab := allBits_rg (code := 1) hO (by omega) (k := r) (by omega) (by omega)
  refine r_aload_n (pc := 17) C d_D_bestCode_17 rfl (lv_at hl 2 rfl) ?_
  refine r_get (pc := 18) (v := .ref q) C w i_D rfl 0 rfl 0 (by decide) fl_D_10 rfl rfl d_D_bestCode_18 ?_
  refine r_iload_n (pc := 21) C d_D_bestCode_21 rfl (lv_at hl 1 rfl) ?_
  refine r_callVI (pc := 22) (As := [.int (iI 0)]) (rest := [.int (iI (ps (rbf 1 sg ln) r))]) (wr := (dcore cI cO cZ o h sl us pd co q q2 q3 hf rcd sf uf T m ++ sw cI q2 a2 b2 sg2 ln2 r2 pl2 ov2 lc2 sd2 ++ sw cI q3 a3 b3 sg3 ln3 r3 pl3 ov3 lc3 sd3 ++ hst cI st)) C w (c_S_allBits hT q a b sg ln r N ov lc sd _ _ hO (by omega) (by omega) 0 (by omega)) ml_D_118 im_S_allBits se_S_allBits ini_S cd_S_allBits hd_S_allBits rfl (by rw [hRm]; exact ⟨⟨Nat.le_of_ble_eq_true rfl, Nat.le_of_ble_eq_true rfl⟩, Nat.le_of_ble_eq_true rfl, Nat.le_of_ble_eq_true rfl⟩) hl.1 [6, 7, 8] [0, 1, 2, 3, 4, 5, 9, 10, 11, 12, 13, 14, 15, 16, 17, 18, 19, 20, 21, 22, 23, 24, 25, 26, 27, 28, 29, 30, 31, 32, 33, 34, 35, 36, 37, 38] ⟨rfl, rfl, by decide, by decide, by decide⟩ 0 rfl rfl rfl (Nat.le_of_ble_eq_true rfl) d_D_bestCode_22 (fun z_22 u_22 H locs hz_22 w => ?_)
  obtain ⟨rfl, hz_22⟩ := hz_22
  have w : Wd X (dcore cI cO cZ o h sl us pd co q q2 q3 hf rcd sf uf T m ++ sw cI q a b sg ln r N ov lc sd ++ sw cI q2 a2 b2 sg2 ln2 r2 pl2 ov2 lc2 sd2 ++ sw cI q3 a3 b3 sg3 ln3 r3 pl3 ov3 lc3 sd3 ++ hst cI st) H locs := w.sub [0, 1, 2, 3, 4, 5, 36, 37, 38, 6, 7, 8, 9, 10, 11, 12, 13, 14, 15, 16, 17, 18, 19, 20, 21, 22, 23, 24, 25, 26, 27, 28, 29, 30, 31, 32, 33, 34, 35] rfl (by decide)
  subst hz_22
  have hab := allBits_rg (code := 0) hO (by omega) (k := r) (by omega) (by omega)
  refine r_icmp_ge (pc := 25) (tgt := 30) C (by omega) d_D_bestCode_25 (by decide) (fun c_25 => ?_) (fun c_25 => ?_)
  · skip
    refine r_iinc (pc := 30) (j := 0) (lv' := [(2, .int (iI 2)), (1, .int (iI 0)), (0, .ref o)]) C d_D_bestCode_30 hl rfl (by decide) rfl (fun ls hl => ?_)
    refine r_goto (pc := 33) (tgt := 4) C d_D_bestCode_33 (by decide) ?_
    refine r_iload_n (pc := 4) C d_D_bestCode_4 rfl (lv_at hl 0 rfl) ?_
    refine r_iconst (pc := 5) C d_D_bestCode_5 ?_
    refine r_icmp_gt (pc := 6) (tgt := 36) C (by omega) d_D_bestCode_6 (by decide) (fun c_6 => absurd c_6 (by omega)) (fun c_6 => ?_)
    refine r_aload_n (pc := 9) C d_D_bestCode_9 rfl (lv_at hl 2 rfl) ?_
    refine r_get (pc := 10) (v := .ref q) C w i_D rfl 0 rfl 0 (by decide) fl_D_10 rfl rfl d_D_bestCode_10 ?_
    refine r_iload_n (pc := 13) C d_D_bestCode_13 rfl (lv_at hl 0 rfl) ?_
    refine r_callVI (pc := 14) (As := [.int (iI 2)]) (rest := []) (wr := (dcore cI cO cZ o h sl us pd co q q2 q3 hf rcd sf uf T m ++ sw cI q2 a2 b2 sg2 ln2 r2 pl2 ov2 lc2 sd2 ++ sw cI q3 a3 b3 sg3 ln3 r3 pl3 ov3 lc3 sd3 ++ hst cI st)) C w (c_S_allBits hT q a b sg ln r N ov lc sd _ _ hO (by omega) (by omega) 2 (by omega)) ml_D_118 im_S_allBits se_S_allBits ini_S cd_S_allBits hd_S_allBits rfl (by rw [hRm]; exact ⟨⟨Nat.le_of_ble_eq_true rfl, Nat.le_of_ble_eq_true rfl⟩, Nat.le_of_ble_eq_true rfl, Nat.le_of_ble_eq_true rfl⟩) hl.1 [6, 7, 8] [0, 1, 2, 3, 4, 5, 9, 10, 11, 12, 13, 14, 15, 16, 17, 18, 19, 20, 21, 22, 23, 24, 25, 26, 27, 28, 29, 30, 31, 32, 33, 34, 35, 36, 37, 38] ⟨rfl, rfl, by decide, by decide, by decide⟩ 0 rfl rfl rfl (Nat.le_of_ble_eq_true rfl) d_D_bestCode_14 (fun z_14 u_14 H locs hz_14 w => ?_)
    obtain ⟨rfl, hz_14⟩ := hz_14
    have w : Wd X (dcore cI cO cZ o h sl us pd co q q2 q3 hf rcd sf uf T m ++ sw cI q a b sg ln r N ov lc sd ++ sw cI q2 a2 b2 sg2 ln2 r2 pl2 ov2 lc2 sd2 ++ sw cI q3 a3 b3 sg3 ln3 r3 pl3 ov3 lc3 sd3 ++ hst cI st) H locs := w.sub [0, 1, 2, 3, 4, 5, 36, 37, 38, 6, 7, 8, 9, 10, 11, 12, 13, 14, 15, 16, 17, 18, 19, 20, 21, 22, 23, 24, 25, 26, 27, 28, 29, 30, 31, 32, 33, 34, 35] rfl (by decide)
    subst hz_14
    have hab := allBits_rg (code := 2) hO (by omega) (k := r) (by omega) (by omega)
    refine r_aload_n (pc := 17) C d_D_bestCode_17 rfl (lv_at hl 2 rfl) ?_
    refine r_get (pc := 18) (v := .ref q) C w i_D rfl 0 rfl 0 (by decide) fl_D_10 rfl rfl d_D_bestCode_18 ?_
    refine r_iload_n (pc := 21) C d_D_bestCode_21 rfl (lv_at hl 1 rfl) ?_
    refine r_callVI (pc := 22) (As := [.int (iI 0)]) (rest := [.int (iI (ps (rbf 2 sg ln) r))]) (wr := (dcore cI cO cZ o h sl us pd co q q2 q3 hf rcd sf uf T m ++ sw cI q2 a2 b2 sg2 ln2 r2 pl2 ov2 lc2 sd2 ++ sw cI q3 a3 b3 sg3 ln3 r3 pl3 ov3 lc3 sd3 ++ hst cI st)) C w (c_S_allBits hT q a b sg ln r N ov lc sd _ _ hO (by omega) (by omega) 0 (by omega)) ml_D_118 im_S_allBits se_S_allBits ini_S cd_S_allBits hd_S_allBits rfl (by rw [hRm]; exact ⟨⟨Nat.le_of_ble_eq_true rfl, Nat.le_of_ble_eq_true rfl⟩, Nat.le_of_ble_eq_true rfl, Nat.le_of_ble_eq_true rfl⟩) hl.1 [6, 7, 8] [0, 1, 2, 3, 4, 5, 9, 10, 11, 12, 13, 14, 15, 16, 17, 18, 19, 20, 21, 22, 23, 24, 25, 26, 27, 28, 29, 30, 31, 32, 33, 34, 35, 36, 37, 38] ⟨rfl, rfl, by decide, by decide, by decide⟩ 0 rfl rfl rfl (Nat.le_of_ble_eq_true rfl) d_D_bestCode_22 (fun z_22 u_22 H locs hz_22 w => ?_)
    obtain ⟨rfl, hz_22⟩ := hz_22
    have w : Wd X (dcore cI cO cZ o h sl us pd co q q2 q3 hf rcd sf uf T m ++ sw cI q a b sg ln r N ov lc sd ++ sw cI q2 a2 b2 sg2 ln2 r2 pl2 ov2 lc2 sd2 ++ sw cI q3 a3 b3 sg3 ln3 r3 pl3 ov3 lc3 sd3 ++ hst cI st) H locs := w.sub [0, 1, 2, 3, 4, 5, 36, 37, 38, 6, 7, 8, 9, 10, 11, 12, 13, 14, 15, 16, 17, 18, 19, 20, 21, 22, 23, 24, 25, 26, 27, 28, 29, 30, 31, 32, 33, 34, 35] rfl (by decide)
    subst hz_22
    have hab := allBits_rg (code := 0) hO (by omega) (k := r) (by omega) (by omega)
    refine r_icmp_ge (pc := 25) (tgt := 30) C (by omega) d_D_bestCode_25 (by decide) (fun c_25 => ?_) (fun c_25 => ?_)
    · skip
      refine r_iinc (pc := 30) (j := 0) (lv' := [(2, .int (iI 3)), (1, .int (iI 0)), (0, .ref o)]) C d_D_bestCode_30 hl rfl (by decide) rfl (fun ls hl => ?_)
      refine r_goto (pc := 33) (tgt := 4) C d_D_bestCode_33 (by decide) ?_
      refine r_iload_n (pc := 4) C d_D_bestCode_4 rfl (lv_at hl 0 rfl) ?_
      refine r_iconst (pc := 5) C d_D_bestCode_5 ?_
      refine r_icmp_gt (pc := 6) (tgt := 36) C (by omega) d_D_bestCode_6 (by decide) (fun c_6 => ?_) (fun c_6 => absurd c_6 (by omega))
      refine r_iload_n (pc := 36) C d_D_bestCode_36 rfl (lv_at hl 1 rfl) ?_
      exact kret _ _ _ _ 0 _ d_D_bestCode_37 w (⟨_, cw_mk hR hC, ⟨rfl, by unfold bestC; (repeat' split) <;> omega⟩⟩)
    · skip
      refine r_iload_n (pc := 28) C d_D_bestCode_28 rfl (lv_at hl 0 rfl) ?_
      refine r_istore_n (pc := 29) (lv' := [(1, .int (iI 2)), (2, .int (iI 2)), (0, .ref o)]) C d_D_bestCode_29 rfl hl (by decide) rfl (fun ls hl => ?_)
      refine r_iinc (pc := 30) (j := 1) (lv' := [(2, .int (iI 3)), (1, .int (iI 2)), (0, .ref o)]) C d_D_bestCode_30 hl rfl (by decide) rfl (fun ls hl => ?_)
      refine r_goto (pc := 33) (tgt := 4) C d_D_bestCode_33 (by decide) ?_
      refine r_iload_n (pc := 4) C d_D_bestCode_4 rfl (lv_at hl 0 rfl) ?_
      refine r_iconst (pc := 5) C d_D_bestCode_5 ?_
      refine r_icmp_gt (pc := 6) (tgt := 36) C (by omega) d_D_bestCode_6 (by decide) (fun c_6 => ?_) (fun c_6 => absurd c_6 (by omega))
      refine r_iload_n (pc := 36) C d_D_bestCode_36 rfl (lv_at hl 1 rfl) ?_
      exact kret _ _ _ _ 2 _ d_D_bestCode_37 w (⟨_, cw_mk hR hC, ⟨rfl, by unfold bestC; (repeat' split) <;> omega⟩⟩)
  · skip
    refine r_iload_n (pc := 28) C d_D_bestCode_28 rfl (lv_at hl 0 rfl) ?_
    refine r_istore_n (pc := 29) (lv' := [(1, .int (iI 1)), (2, .int (iI 1)), (0, .ref o)]) C d_D_bestCode_29 rfl hl (by decide) rfl (fun ls hl => ?_)
    refine r_iinc (pc := 30) (j := 1) (lv' := [(2, .int (iI 2)), (1, .int (iI 1)), (0, .ref o)]) C d_D_bestCode_30 hl rfl (by decide) rfl (fun ls hl => ?_)
    refine r_goto (pc := 33) (tgt := 4) C d_D_bestCode_33 (by decide) ?_
    refine r_iload_n (pc := 4) C d_D_bestCode_4 rfl (lv_at hl 0 rfl) ?_
    refine r_iconst (pc := 5) C d_D_bestCode_5 ?_
    refine r_icmp_gt (pc := 6) (tgt := 36) C (by omega) d_D_bestCode_6 (by decide) (fun c_6 => absurd c_6 (by omega)) (fun c_6 => ?_)
    refine r_aload_n (pc := 9) C d_D_bestCode_9 rfl (lv_at hl 2 rfl) ?_
    refine r_get (pc := 10) (v := .ref q) C w i_D rfl 0 rfl 0 (by decide) fl_D_10 rfl rfl d_D_bestCode_10 ?_
    refine r_iload_n (pc := 13) C d_D_bestCode_13 rfl (lv_at hl 0 rfl) ?_
    refine r_callVI (pc := 14) (As := [.int (iI 2)]) (rest := []) (wr := (dcore cI cO cZ o h sl us pd co q q2 q3 hf rcd sf uf T m ++ sw cI q2 a2 b2 sg2 ln2 r2 pl2 ov2 lc2 sd2 ++ sw cI q3 a3 b3 sg3 ln3 r3 pl3 ov3 lc3 sd3 ++ hst cI st)) C w (c_S_allBits hT q a b sg ln r N ov lc sd _ _ hO (by omega) (by omega) 2 (by omega)) ml_D_118 im_S_allBits se_S_allBits ini_S cd_S_allBits hd_S_allBits rfl (by rw [hRm]; exact ⟨⟨Nat.le_of_ble_eq_true rfl, Nat.le_of_ble_eq_true rfl⟩, Nat.le_of_ble_eq_true rfl, Nat.le_of_ble_eq_true rfl⟩) hl.1 [6, 7, 8] [0, 1, 2, 3, 4, 5, 9, 10, 11, 12, 13, 14, 15, 16, 17, 18, 19, 20, 21, 22, 23, 24, 25, 26, 27, 28, 29, 30, 31, 32, 33, 34, 35, 36, 37, 38] ⟨rfl, rfl, by decide, by decide, by decide⟩ 0 rfl rfl rfl (Nat.le_of_ble_eq_true rfl) d_D_bestCode_14 (fun z_14 u_14 H locs hz_14 w => ?_)
    obtain ⟨rfl, hz_14⟩ := hz_14
    have w : Wd X (dcore cI cO cZ o h sl us pd co q q2 q3 hf rcd sf uf T m ++ sw cI q a b sg ln r N ov lc sd ++ sw cI q2 a2 b2 sg2 ln2 r2 pl2 ov2 lc2 sd2 ++ sw cI q3 a3 b3 sg3 ln3 r3 pl3 ov3 lc3 sd3 ++ hst cI st) H locs := w.sub [0, 1, 2, 3, 4, 5, 36, 37, 38, 6, 7, 8, 9, 10, 11, 12, 13, 14, 15, 16, 17, 18, 19, 20, 21, 22, 23, 24, 25, 26, 27, 28, 29, 30, 31, 32, 33, 34, 35] rfl (by decide)
    subst hz_14
    have hab := allBits_rg (code := 2) hO (by omega) (k := r) (by omega) (by omega)
    refine r_aload_n (pc := 17) C d_D_bestCode_17 rfl (lv_at hl 2 rfl) ?_
    refine r_get (pc := 18) (v := .ref q) C w i_D rfl 0 rfl 0 (by decide) fl_D_10 rfl rfl d_D_bestCode_18 ?_
    refine r_iload_n (pc := 21) C d_D_bestCode_21 rfl (lv_at hl 1 rfl) ?_
    refine r_callVI (pc := 22) (As := [.int (iI 1)]) (rest := [.int (iI (ps (rbf 2 sg ln) r))]) (wr := (dcore cI cO cZ o h sl us pd co q q2 q3 hf rcd sf uf T m ++ sw cI q2 a2 b2 sg2 ln2 r2 pl2 ov2 lc2 sd2 ++ sw cI q3 a3 b3 sg3 ln3 r3 pl3 ov3 lc3 sd3 ++ hst cI st)) C w (c_S_allBits hT q a b sg ln r N ov lc sd _ _ hO (by omega) (by omega) 1 (by omega)) ml_D_118 im_S_allBits se_S_allBits ini_S cd_S_allBits hd_S_allBits rfl (by rw [hRm]; exact ⟨⟨Nat.le_of_ble_eq_true rfl, Nat.le_of_ble_eq_true rfl⟩, Nat.le_of_ble_eq_true rfl, Nat.le_of_ble_eq_true rfl⟩) hl.1 [6, 7, 8] [0, 1, 2, 3, 4, 5, 9, 10, 11, 12, 13, 14, 15, 16, 17, 18, 19, 20, 21, 22, 23, 24, 25, 26, 27, 28, 29, 30, 31, 32, 33, 34, 35, 36, 37, 38] ⟨rfl, rfl, by decide, by decide, by decide⟩ 0 rfl rfl rfl (Nat.le_of_ble_eq_true rfl) d_D_bestCode_22 (fun z_22 u_22 H locs hz_22 w => ?_)
    obtain ⟨rfl, hz_22⟩ := hz_22
    have w : Wd X (dcore cI cO cZ o h sl us pd co q q2 q3 hf rcd sf uf T m ++ sw cI q a b sg ln r N ov lc sd ++ sw cI q2 a2 b2 sg2 ln2 r2 pl2 ov2 lc2 sd2 ++ sw cI q3 a3 b3 sg3 ln3 r3 pl3 ov3 lc3 sd3 ++ hst cI st) H locs := w.sub [0, 1, 2, 3, 4, 5, 36, 37, 38, 6, 7, 8, 9, 10, 11, 12, 13, 14, 15, 16, 17, 18, 19, 20, 21, 22, 23, 24, 25, 26, 27, 28, 29, 30, 31, 32, 33, 34, 35] rfl (by decide)
    subst hz_22
    have hab := allBits_rg (code := 1) hO (by omega) (k := r) (by omega) (by omega)
    refine r_icmp_ge (pc := 25) (tgt := 30) C (by omega) d_D_bestCode_25 (by decide) (fun c_25 => ?_) (fun c_25 => ?_)
    · skip
      refine r_iinc (pc := 30) (j := 0) (lv' := [(2, .int (iI 3)), (1, .int (iI 1)), (0, .ref o)]) C d_D_bestCode_30 hl rfl (by decide) rfl (fun ls hl => ?_)
      refine r_goto (pc := 33) (tgt := 4) C d_D_bestCode_33 (by decide) ?_
      refine r_iload_n (pc := 4) C d_D_bestCode_4 rfl (lv_at hl 0 rfl) ?_
      refine r_iconst (pc := 5) C d_D_bestCode_5 ?_
      refine r_icmp_gt (pc := 6) (tgt := 36) C (by omega) d_D_bestCode_6 (by decide) (fun c_6 => ?_) (fun c_6 => absurd c_6 (by omega))
      refine r_iload_n (pc := 36) C d_D_bestCode_36 rfl (lv_at hl 1 rfl) ?_
      exact kret _ _ _ _ 1 _ d_D_bestCode_37 w (⟨_, cw_mk hR hC, ⟨rfl, by unfold bestC; (repeat' split) <;> omega⟩⟩)
    · skip
      refine r_iload_n (pc := 28) C d_D_bestCode_28 rfl (lv_at hl 0 rfl) ?_
      refine r_istore_n (pc := 29) (lv' := [(1, .int (iI 2)), (2, .int (iI 2)), (0, .ref o)]) C d_D_bestCode_29 rfl hl (by decide) rfl (fun ls hl => ?_)
      refine r_iinc (pc := 30) (j := 1) (lv' := [(2, .int (iI 3)), (1, .int (iI 2)), (0, .ref o)]) C d_D_bestCode_30 hl rfl (by decide) rfl (fun ls hl => ?_)
      refine r_goto (pc := 33) (tgt := 4) C d_D_bestCode_33 (by decide) ?_
      refine r_iload_n (pc := 4) C d_D_bestCode_4 rfl (lv_at hl 0 rfl) ?_
      refine r_iconst (pc := 5) C d_D_bestCode_5 ?_
      refine r_icmp_gt (pc := 6) (tgt := 36) C (by omega) d_D_bestCode_6 (by decide) (fun c_6 => ?_) (fun c_6 => absurd c_6 (by omega))
      refine r_iload_n (pc := 36) C d_D_bestCode_36 rfl (lv_at hl 1 rfl) ?_
      exact kret _ _ _ _ 2 _ d_D_bestCode_37 w (⟨_, cw_mk hR hC, ⟨rfl, by unfold bestC; (repeat' split) <;> omega⟩⟩)
def Sp_longestLive (wh : Int) (A : AS) (z : Int) (A' : AS) : Prop := match A with | ((lc, sd, r, sg, ln, N, v), hist, rcd, slot, uf, T, m) => A' = A ∧ ((¬ (0 ≤ wh ∧ wh ≤ 1) ∧ z = -2) ∨ ((0 ≤ wh ∧ wh ≤ 1) ∧ z = if (ll v N).2.1 = 0 then -6 else if wh = 1 then (ll v N).2.1 else (ll v N).2.2))
theorem d_D_longestLive_0 : decode b_D_longestLive 0 = .ok (.iload_n 1, 1) := by decide +kernel
theorem d_D_longestLive_1 : decode b_D_longestLive 1 = .ok (.iconst 0, 1) := by decide +kernel
theorem d_D_longestLive_2 : decode b_D_longestLive 2 = .ok (.iconst 1, 1) := by decide +kernel
theorem d_D_longestLive_3 : decode b_D_longestLive 3 = .ok (.invokestatic 44, 3) := by decide +kernel
theorem d_D_longestLive_6 : decode b_D_longestLive 6 = .ok (.ifCond .eq 23, 3) := by decide +kernel
theorem d_D_longestLive_9 : decode b_D_longestLive 9 = .ok (.aload_n 0, 1) := by decide +kernel
theorem d_D_longestLive_10 : decode b_D_longestLive 10 = .ok (.getfield 10, 3) := by decide +kernel
theorem d_D_longestLive_13 : decode b_D_longestLive 13 = .ok (.iload_n 1, 1) := by decide +kernel
theorem d_D_longestLive_14 : decode b_D_longestLive 14 = .ok (.iconst 1, 1) := by decide +kernel
theorem d_D_longestLive_15 : decode b_D_longestLive 15 = .ok (.if_icmp .ne 7, 3) := by decide +kernel
theorem d_D_longestLive_18 : decode b_D_longestLive 18 = .ok (.iconst 1, 1) := by decide +kernel
theorem d_D_longestLive_19 : decode b_D_longestLive 19 = .ok (.goto 4, 3) := by decide +kernel
theorem d_D_longestLive_22 : decode b_D_longestLive 22 = .ok (.iconst 0, 1) := by decide +kernel
theorem d_D_longestLive_23 : decode b_D_longestLive 23 = .ok (.invokevirtual 140, 3) := by decide +kernel
theorem d_D_longestLive_26 : decode b_D_longestLive 26 = .ok (.goto 5, 3) := by decide +kernel
theorem d_D_longestLive_29 : decode b_D_longestLive 29 = .ok (.bipush (-2), 2) := by decide +kernel
theorem d_D_longestLive_31 : decode b_D_longestLive 31 = .ok (.ireturn, 1) := by decide +kernel
set_option maxHeartbeats 4000000 in
set_option maxRecDepth 20000 in
theorem c_D_longestLive {l : Launch} {G : va_G} {tys : List (ClassId × FieldType)} {cI cO cZ : ClassId} (hT : TY tys cI cO cZ) (o : Nat) (A : AS) (ws : va_W) (hA : CW cI cO cZ o A ws) (wh : Int) (hrg : (-2147483648 ≤ wh ∧ wh < 2147483648)) : CTI l G tys y_D_longestLive b_D_longestLive 2 .int 1 26 [.ref o, .int (iI wh)] ws (fun z u => ∃ A' : AS, CW cI cO cZ o A' u ∧ Sp_longestLive wh A z A') := by
  obtain ⟨⟨lc, sd, r, sg, ln, N, v⟩, hist, rcd, slot, uf, T, m⟩ := A
  obtain ⟨hR, h, sl, us, pd, co, hf, sf, q, a, b, ov, q2, a2, b2, sg2, ln2, r2, pl2, ov2, lc2, sd2, q3, a3, b3, sg3, ln3, r3, pl3, ov3, lc3, sd3, st, rfl, hC⟩ := hA
  have hO := hR.1
  have hr5 := hR.2.1
  have hN3 := hR.2.2.1
  have hN0 := hO.n0
  have hr0 := hO.1
  have hlcd := hR.2.2.2
  have hm80 := hC.2.2.2.2.2.1
  have hrcd6 := hC.2.2.1
  refine mkI (by decide) (Nat.le_of_ble_eq_true rfl) ?_
  rintro X rfl rfl rfl hRm C kret H ls w hl
  have hl : lv_has ls 2 [(0, .ref o), (1, .int (iI wh))] := hl
  have w : Wd X (dcore cI cO cZ o h sl us pd co q q2 q3 hf rcd sf uf T m ++ sw cI q a b sg ln r N ov lc sd ++ sw cI q2 a2 b2 sg2 ln2 r2 pl2 ov2 lc2 sd2 ++ sw cI q3 a3 b3 sg3 ln3 r3 pl3 ov3 lc3 sd3 ++ hst cI st) H [] := w
  generalize ([] : List Loc) = locs at w ⊢
  refine r_iload_n (pc := 0) C d_D_longestLive_0 rfl (lv_at hl 1 rfl) ?_
  refine r_iconst (pc := 1) C d_D_longestLive_1 ?_
  refine r_iconst (pc := 2) C d_D_longestLive_2 ?_
  refine r_callP (pc := 3) (As := [.int (iI wh), .int (iI 0), .int (iI 1)]) (rest := []) C w (c_D_isWithin wh 0 1 (by omega)) ml_D_44 st_D_isWithin ini_D cd_D_isWithin hd_D_isWithin rfl (by rw [hRm]; exact ⟨⟨Nat.le_of_ble_eq_true rfl, Nat.le_of_ble_eq_true rfl⟩, Nat.le_of_ble_eq_true rfl, Nat.le_of_ble_eq_true rfl⟩) hl.1 rfl (Nat.le_of_ble_eq_true rfl) d_D_longestLive_3 (fun z_3 H locs hz_3 w => ?_)
  refine r_if_eq (pc := 6) (tgt := 29) C (by omega) d_D_longestLive_6 (by decide) (fun c_6 => ?_) (fun c_6 => ?_)
  · skip
    have hb_6 : ¬ (0 ≤ wh ∧ wh ≤ 1) := by omega
    clear hz_3 c_6
    refine r_bipush (pc := 29) C d_D_longestLive_29 (by decide) ?_
    exact kret _ _ _ _ (-2) _ d_D_longestLive_31 w (⟨_, cw_mk hR hC, ⟨rfl, by first | exact Or.inl ⟨by omega, rfl⟩ | exact Or.inr ⟨by omega, by rw [hz_23]; first | rw [if_pos (by omega : wh = 1), if_pos (rfl : (1 : Int) = 1)] | rw [if_neg (by omega : ¬ wh = 1), if_neg (by omega : ¬ (0 : Int) = 1)]⟩⟩⟩)
  · skip
    have hb_6 : 0 ≤ wh ∧ wh ≤ 1 := by omega
    clear hz_3 c_6
    refine r_aload_n (pc := 9) C d_D_longestLive_9 rfl (lv_at hl 0 rfl) ?_
    refine r_get (pc := 10) (v := .ref q) C w i_D rfl 0 rfl 0 (by decide) fl_D_10 rfl rfl d_D_longestLive_10 ?_
    refine r_iload_n (pc := 13) C d_D_longestLive_13 rfl (lv_at hl 1 rfl) ?_
    refine r_iconst (pc := 14) C d_D_longestLive_14 ?_
    refine r_icmp_ne (pc := 15) (tgt := 22) C (by omega) d_D_longestLive_15 (by decide) (fun c_15 => ?_) (fun c_15 => ?_)
    · skip
      refine r_iconst (pc := 22) C d_D_longestLive_22 ?_
      refine r_callVI (pc := 23) (As := [.int (iI 0)]) (rest := []) (wr := (dcore cI cO cZ o h sl us pd co q q2 q3 hf rcd sf uf T m ++ sw cI q2 a2 b2 sg2 ln2 r2 pl2 ov2 lc2 sd2 ++ sw cI q3 a3 b3 sg3 ln3 r3 pl3 ov3 lc3 sd3 ++ hst cI st)) C w (c_S_longestLiveStretch hT q a b sg ln r N ov lc sd _ _ hO (by omega) (by omega) 0 (by omega)) ml_D_140 im_S_longestLiveStretch se_S_longestLiveStretch ini_S cd_S_longestLiveStretch hd_S_longestLiveStretch rfl (by rw [hRm]; exact ⟨⟨Nat.le_of_ble_eq_true rfl, Nat.le_of_ble_eq_true rfl⟩, Nat.le_of_ble_eq_true rfl, Nat.le_of_ble_eq_true rfl⟩) hl.1 [6, 7, 8] [0, 1, 2, 3, 4, 5, 9, 10, 11, 12, 13, 14, 15, 16, 17, 18, 19, 20, 21, 22, 23, 24, 25, 26, 27, 28, 29, 30, 31, 32, 33, 34, 35, 36, 37, 38] ⟨rfl, rfl, by decide, by decide, by decide⟩ 0 rfl rfl rfl (Nat.le_of_ble_eq_true rfl) d_D_longestLive_23 (fun z_23 u_23 H locs hz_23 w => ?_)
      obtain ⟨rfl, hz_23⟩ := hz_23
      have w : Wd X (dcore cI cO cZ o h sl us pd co q q2 q3 hf rcd sf uf T m ++ sw cI q a b sg ln r N ov lc sd ++ sw cI q2 a2 b2 sg2 ln2 r2 pl2 ov2 lc2 sd2 ++ sw cI q3 a3 b3 sg3 ln3 r3 pl3 ov3 lc3 sd3 ++ hst cI st) H locs := w.sub [0, 1, 2, 3, 4, 5, 36, 37, 38, 6, 7, 8, 9, 10, 11, 12, 13, 14, 15, 16, 17, 18, 19, 20, 21, 22, 23, 24, 25, 26, 27, 28, 29, 30, 31, 32, 33, 34, 35] rfl (by decide)
      refine r_goto (pc := 26) (tgt := 31) C d_D_longestLive_26 (by decide) ?_
      exact kret _ _ _ _ z_23 _ d_D_longestLive_31 w (⟨_, cw_mk hR hC, ⟨rfl, by first | exact Or.inl ⟨by omega, rfl⟩ | exact Or.inr ⟨by omega, by rw [hz_23]; first | rw [if_pos (by omega : wh = 1), if_pos (rfl : (1 : Int) = 1)] | rw [if_neg (by omega : ¬ wh = 1), if_neg (by omega : ¬ (0 : Int) = 1)]⟩⟩⟩)
    · skip
      refine r_iconst (pc := 18) C d_D_longestLive_18 ?_
      refine r_goto (pc := 19) (tgt := 23) C d_D_longestLive_19 (by decide) ?_
      refine r_callVI (pc := 23) (As := [.int (iI 1)]) (rest := []) (wr := (dcore cI cO cZ o h sl us pd co q q2 q3 hf rcd sf uf T m ++ sw cI q2 a2 b2 sg2 ln2 r2 pl2 ov2 lc2 sd2 ++ sw cI q3 a3 b3 sg3 ln3 r3 pl3 ov3 lc3 sd3 ++ hst cI st)) C w (c_S_longestLiveStretch hT q a b sg ln r N ov lc sd _ _ hO (by omega) (by omega) 1 (by omega)) ml_D_140 im_S_longestLiveStretch se_S_longestLiveStretch ini_S cd_S_longestLiveStretch hd_S_longestLiveStretch rfl (by rw [hRm]; exact ⟨⟨Nat.le_of_ble_eq_true rfl, Nat.le_of_ble_eq_true rfl⟩, Nat.le_of_ble_eq_true rfl, Nat.le_of_ble_eq_true rfl⟩) hl.1 [6, 7, 8] [0, 1, 2, 3, 4, 5, 9, 10, 11, 12, 13, 14, 15, 16, 17, 18, 19, 20, 21, 22, 23, 24, 25, 26, 27, 28, 29, 30, 31, 32, 33, 34, 35, 36, 37, 38] ⟨rfl, rfl, by decide, by decide, by decide⟩ 0 rfl rfl rfl (Nat.le_of_ble_eq_true rfl) d_D_longestLive_23 (fun z_23 u_23 H locs hz_23 w => ?_)
      obtain ⟨rfl, hz_23⟩ := hz_23
      have w : Wd X (dcore cI cO cZ o h sl us pd co q q2 q3 hf rcd sf uf T m ++ sw cI q a b sg ln r N ov lc sd ++ sw cI q2 a2 b2 sg2 ln2 r2 pl2 ov2 lc2 sd2 ++ sw cI q3 a3 b3 sg3 ln3 r3 pl3 ov3 lc3 sd3 ++ hst cI st) H locs := w.sub [0, 1, 2, 3, 4, 5, 36, 37, 38, 6, 7, 8, 9, 10, 11, 12, 13, 14, 15, 16, 17, 18, 19, 20, 21, 22, 23, 24, 25, 26, 27, 28, 29, 30, 31, 32, 33, 34, 35] rfl (by decide)
      refine r_goto (pc := 26) (tgt := 31) C d_D_longestLive_26 (by decide) ?_
      exact kret _ _ _ _ z_23 _ d_D_longestLive_31 w (⟨_, cw_mk hR hC, ⟨rfl, by first | exact Or.inl ⟨by omega, rfl⟩ | exact Or.inr ⟨by omega, by rw [hz_23]; first | rw [if_pos (by omega : wh = 1), if_pos (rfl : (1 : Int) = 1)] | rw [if_neg (by omega : ¬ wh = 1), if_neg (by omega : ¬ (0 : Int) = 1)]⟩⟩⟩)
def Sp_unlikeMirror (A : AS) (z : Int) (A' : AS) : Prop := match A with | ((lc, sd, r, sg, ln, N, v), hist, rcd, slot, uf, T, m) => A' = A ∧ (z = ps (umf v N) N)
theorem d_D_unlikeMirror_0 : decode b_D_unlikeMirror 0 = .ok (.aload_n 0, 1) := by decide +kernel
theorem d_D_unlikeMirror_1 : decode b_D_unlikeMirror 1 = .ok (.getfield 10, 3) := by decide +kernel
theorem d_D_unlikeMirror_4 : decode b_D_unlikeMirror 4 = .ok (.invokevirtual 151, 3) := by decide +kernel
theorem d_D_unlikeMirror_7 : decode b_D_unlikeMirror 7 = .ok (.ireturn, 1) := by decide +kernel
set_option maxHeartbeats 4000000 in
set_option maxRecDepth 20000 in
theorem c_D_unlikeMirror {l : Launch} {G : va_G} {tys : List (ClassId × FieldType)} {cI cO cZ : ClassId} (hT : TY tys cI cO cZ) (o : Nat) (A : AS) (ws : va_W) (hA : CW cI cO cZ o A ws) : CTI l G tys y_D_unlikeMirror b_D_unlikeMirror 1 .int 4 92 [.ref o] ws (fun z u => ∃ A' : AS, CW cI cO cZ o A' u ∧ Sp_unlikeMirror  A z A') := by
  obtain ⟨⟨lc, sd, r, sg, ln, N, v⟩, hist, rcd, slot, uf, T, m⟩ := A
  obtain ⟨hR, h, sl, us, pd, co, hf, sf, q, a, b, ov, q2, a2, b2, sg2, ln2, r2, pl2, ov2, lc2, sd2, q3, a3, b3, sg3, ln3, r3, pl3, ov3, lc3, sd3, st, rfl, hC⟩ := hA
  have hO := hR.1
  have hr5 := hR.2.1
  have hN3 := hR.2.2.1
  have hN0 := hO.n0
  have hr0 := hO.1
  have hlcd := hR.2.2.2
  have hm80 := hC.2.2.2.2.2.1
  have hrcd6 := hC.2.2.1
  refine mkI (by decide) (Nat.le_of_ble_eq_true rfl) ?_
  rintro X rfl rfl rfl hRm C kret H ls w hl
  have hl : lv_has ls 1 [(0, .ref o)] := hl
  have w : Wd X (dcore cI cO cZ o h sl us pd co q q2 q3 hf rcd sf uf T m ++ sw cI q a b sg ln r N ov lc sd ++ sw cI q2 a2 b2 sg2 ln2 r2 pl2 ov2 lc2 sd2 ++ sw cI q3 a3 b3 sg3 ln3 r3 pl3 ov3 lc3 sd3 ++ hst cI st) H [] := w
  generalize ([] : List Loc) = locs at w ⊢
  refine r_aload_n (pc := 0) C d_D_unlikeMirror_0 rfl (lv_at hl 0 rfl) ?_
  refine r_get (pc := 1) (v := .ref q) C w i_D rfl 0 rfl 0 (by decide) fl_D_10 rfl rfl d_D_unlikeMirror_1 ?_
  refine r_callVI (pc := 4) (As := []) (rest := []) (wr := (dcore cI cO cZ o h sl us pd co q q2 q3 hf rcd sf uf T m ++ sw cI q2 a2 b2 sg2 ln2 r2 pl2 ov2 lc2 sd2 ++ sw cI q3 a3 b3 sg3 ln3 r3 pl3 ov3 lc3 sd3 ++ hst cI st)) C w (c_S_unlikeTurned hT q a b sg ln r N ov lc sd _ _ hO (by omega) (by omega)  (by omega)) ml_D_151 im_S_unlikeTurned se_S_unlikeTurned ini_S cd_S_unlikeTurned hd_S_unlikeTurned rfl (by rw [hRm]; exact ⟨⟨Nat.le_of_ble_eq_true rfl, Nat.le_of_ble_eq_true rfl⟩, Nat.le_of_ble_eq_true rfl, Nat.le_of_ble_eq_true rfl⟩) hl.1 [6, 7, 8] [0, 1, 2, 3, 4, 5, 9, 10, 11, 12, 13, 14, 15, 16, 17, 18, 19, 20, 21, 22, 23, 24, 25, 26, 27, 28, 29, 30, 31, 32, 33, 34, 35, 36, 37, 38] ⟨rfl, rfl, by decide, by decide, by decide⟩ 0 rfl rfl rfl (Nat.le_of_ble_eq_true rfl) d_D_unlikeMirror_4 (fun z_4 u_4 H locs hz_4 w => ?_)
  obtain ⟨rfl, hz_4⟩ := hz_4
  have w : Wd X (dcore cI cO cZ o h sl us pd co q q2 q3 hf rcd sf uf T m ++ sw cI q a b sg ln r N ov lc sd ++ sw cI q2 a2 b2 sg2 ln2 r2 pl2 ov2 lc2 sd2 ++ sw cI q3 a3 b3 sg3 ln3 r3 pl3 ov3 lc3 sd3 ++ hst cI st) H locs := w.sub [0, 1, 2, 3, 4, 5, 36, 37, 38, 6, 7, 8, 9, 10, 11, 12, 13, 14, 15, 16, 17, 18, 19, 20, 21, 22, 23, 24, 25, 26, 27, 28, 29, 30, 31, 32, 33, 34, 35] rfl (by decide)
  exact kret _ _ _ _ z_4 _ d_D_unlikeMirror_7 w (⟨_, cw_mk hR hC, ⟨rfl, hz_4⟩⟩)
def Sp_bestWrite (wh : Int) (A : AS) (z : Int) (A' : AS) : Prop := match A with | ((lc, sd, r, sg, ln, N, v), hist, rcd, slot, uf, T, m) => A' = A ∧ ((¬ (0 ≤ wh ∧ wh ≤ 2) ∧ z = -2) ∨ ((0 ≤ wh ∧ wh ≤ 2) ∧ z = if (bw lc r sg ln r).2.2 = 0 then -6 else if wh = 0 then (bw lc r sg ln r).1 else if wh = 1 then (bw lc r sg ln r).2.1 else (bw lc r sg ln r).2.2))
theorem d_D_bestWrite_0 : decode b_D_bestWrite 0 = .ok (.iload_n 1, 1) := by decide +kernel
theorem d_D_bestWrite_1 : decode b_D_bestWrite 1 = .ok (.iconst 0, 1) := by decide +kernel
theorem d_D_bestWrite_2 : decode b_D_bestWrite 2 = .ok (.iconst 2, 1) := by decide +kernel
theorem d_D_bestWrite_3 : decode b_D_bestWrite 3 = .ok (.invokestatic 44, 3) := by decide +kernel
theorem d_D_bestWrite_6 : decode b_D_bestWrite 6 = .ok (.ifCond .ne 6, 3) := by decide +kernel
theorem d_D_bestWrite_9 : decode b_D_bestWrite 9 = .ok (.bipush (-2), 2) := by decide +kernel
theorem d_D_bestWrite_11 : decode b_D_bestWrite 11 = .ok (.ireturn, 1) := by decide +kernel
theorem d_D_bestWrite_12 : decode b_D_bestWrite 12 = .ok (.bipush (-6), 2) := by decide +kernel
theorem d_D_bestWrite_14 : decode b_D_bestWrite 14 = .ok (.istore_n 2, 1) := by decide +kernel
theorem d_D_bestWrite_15 : decode b_D_bestWrite 15 = .ok (.bipush (-6), 2) := by decide +kernel
theorem d_D_bestWrite_17 : decode b_D_bestWrite 17 = .ok (.istore_n 3, 1) := by decide +kernel
theorem d_D_bestWrite_18 : decode b_D_bestWrite 18 = .ok (.iconst 0, 1) := by decide +kernel
theorem d_D_bestWrite_19 : decode b_D_bestWrite 19 = .ok (.istore 4, 2) := by decide +kernel
theorem d_D_bestWrite_21 : decode b_D_bestWrite 21 = .ok (.iconst 0, 1) := by decide +kernel
theorem d_D_bestWrite_22 : decode b_D_bestWrite 22 = .ok (.istore 5, 2) := by decide +kernel
theorem d_D_bestWrite_24 : decode b_D_bestWrite 24 = .ok (.iload 5, 2) := by decide +kernel
theorem d_D_bestWrite_26 : decode b_D_bestWrite 26 = .ok (.aload_n 0, 1) := by decide +kernel
theorem d_D_bestWrite_27 : decode b_D_bestWrite 27 = .ok (.getfield 10, 3) := by decide +kernel
theorem d_D_bestWrite_30 : decode b_D_bestWrite 30 = .ok (.getfield 99, 3) := by decide +kernel
theorem d_D_bestWrite_33 : decode b_D_bestWrite 33 = .ok (.if_icmp .ge 55, 3) := by decide +kernel
theorem d_D_bestWrite_36 : decode b_D_bestWrite 36 = .ok (.iconst 0, 1) := by decide +kernel
theorem d_D_bestWrite_37 : decode b_D_bestWrite 37 = .ok (.istore 6, 2) := by decide +kernel
theorem d_D_bestWrite_39 : decode b_D_bestWrite 39 = .ok (.iload 6, 2) := by decide +kernel
theorem d_D_bestWrite_41 : decode b_D_bestWrite 41 = .ok (.bipush 9, 2) := by decide +kernel
theorem d_D_bestWrite_43 : decode b_D_bestWrite 43 = .ok (.if_icmp .gt 39, 3) := by decide +kernel
theorem d_D_bestWrite_46 : decode b_D_bestWrite 46 = .ok (.aload_n 0, 1) := by decide +kernel
theorem d_D_bestWrite_47 : decode b_D_bestWrite 47 = .ok (.getfield 10, 3) := by decide +kernel
theorem d_D_bestWrite_50 : decode b_D_bestWrite 50 = .ok (.iload 5, 2) := by decide +kernel
theorem d_D_bestWrite_52 : decode b_D_bestWrite 52 = .ok (.iload 6, 2) := by decide +kernel
theorem d_D_bestWrite_54 : decode b_D_bestWrite 54 = .ok (.invokevirtual 148, 3) := by decide +kernel
theorem d_D_bestWrite_57 : decode b_D_bestWrite 57 = .ok (.istore 7, 2) := by decide +kernel
theorem d_D_bestWrite_59 : decode b_D_bestWrite 59 = .ok (.iload 7, 2) := by decide +kernel
theorem d_D_bestWrite_61 : decode b_D_bestWrite 61 = .ok (.iload 4, 2) := by decide +kernel
theorem d_D_bestWrite_63 : decode b_D_bestWrite 63 = .ok (.if_icmp .le 13, 3) := by decide +kernel
theorem d_D_bestWrite_66 : decode b_D_bestWrite 66 = .ok (.iload 5, 2) := by decide +kernel
theorem d_D_bestWrite_68 : decode b_D_bestWrite 68 = .ok (.istore_n 2, 1) := by decide +kernel
theorem d_D_bestWrite_69 : decode b_D_bestWrite 69 = .ok (.iload 6, 2) := by decide +kernel
theorem d_D_bestWrite_71 : decode b_D_bestWrite 71 = .ok (.istore_n 3, 1) := by decide +kernel
theorem d_D_bestWrite_72 : decode b_D_bestWrite 72 = .ok (.iload 7, 2) := by decide +kernel
theorem d_D_bestWrite_74 : decode b_D_bestWrite 74 = .ok (.istore 4, 2) := by decide +kernel
theorem d_D_bestWrite_76 : decode b_D_bestWrite 76 = .ok (.iinc 6 1, 3) := by decide +kernel
theorem d_D_bestWrite_79 : decode b_D_bestWrite 79 = .ok (.goto (-40), 3) := by decide +kernel
theorem d_D_bestWrite_82 : decode b_D_bestWrite 82 = .ok (.iinc 5 1, 3) := by decide +kernel
theorem d_D_bestWrite_85 : decode b_D_bestWrite 85 = .ok (.goto (-61), 3) := by decide +kernel
theorem d_D_bestWrite_88 : decode b_D_bestWrite 88 = .ok (.iload 4, 2) := by decide +kernel
theorem d_D_bestWrite_90 : decode b_D_bestWrite 90 = .ok (.ifCond .ne 6, 3) := by decide +kernel
theorem d_D_bestWrite_93 : decode b_D_bestWrite 93 = .ok (.bipush (-6), 2) := by decide +kernel
theorem d_D_bestWrite_95 : decode b_D_bestWrite 95 = .ok (.ireturn, 1) := by decide +kernel
theorem d_D_bestWrite_96 : decode b_D_bestWrite 96 = .ok (.iload_n 1, 1) := by decide +kernel
theorem d_D_bestWrite_97 : decode b_D_bestWrite 97 = .ok (.ifCond .ne 7, 3) := by decide +kernel
theorem d_D_bestWrite_100 : decode b_D_bestWrite 100 = .ok (.iload_n 2, 1) := by decide +kernel
theorem d_D_bestWrite_101 : decode b_D_bestWrite 101 = .ok (.goto 14, 3) := by decide +kernel
theorem d_D_bestWrite_104 : decode b_D_bestWrite 104 = .ok (.iload_n 1, 1) := by decide +kernel
theorem d_D_bestWrite_105 : decode b_D_bestWrite 105 = .ok (.iconst 1, 1) := by decide +kernel
theorem d_D_bestWrite_106 : decode b_D_bestWrite 106 = .ok (.if_icmp .ne 7, 3) := by decide +kernel
theorem d_D_bestWrite_109 : decode b_D_bestWrite 109 = .ok (.iload_n 3, 1) := by decide +kernel
theorem d_D_bestWrite_110 : decode b_D_bestWrite 110 = .ok (.goto 5, 3) := by decide +kernel
theorem d_D_bestWrite_113 : decode b_D_bestWrite 113 = .ok (.iload 4, 2) := by decide +kernel
theorem d_D_bestWrite_115 : decode b_D_bestWrite 115 = .ok (.ireturn, 1) := by decide +kernel
set_option maxHeartbeats 4000000 in
set_option maxRecDepth 20000 in
theorem c_D_bestWrite {l : Launch} {G : va_G} {tys : List (ClassId × FieldType)} {cI cO cZ : ClassId} (hT : TY tys cI cO cZ) (o : Nat) (A : AS) (ws : va_W) (hA : CW cI cO cZ o A ws) (wh : Int) (hrg : (-2147483648 ≤ wh ∧ wh < 2147483648)) : CTI l G tys y_D_bestWrite b_D_bestWrite 8 .int 5 113 [.ref o, .int (iI wh)] ws (fun z u => ∃ A' : AS, CW cI cO cZ o A' u ∧ Sp_bestWrite wh A z A') := by
  obtain ⟨⟨lc, sd, r, sg, ln, N, v⟩, hist, rcd, slot, uf, T, m⟩ := A
  obtain ⟨hR, h, sl, us, pd, co, hf, sf, q, a, b, ov, q2, a2, b2, sg2, ln2, r2, pl2, ov2, lc2, sd2, q3, a3, b3, sg3, ln3, r3, pl3, ov3, lc3, sd3, st, rfl, hC⟩ := hA
  have hO := hR.1
  have hr5 := hR.2.1
  have hN3 := hR.2.2.1
  have hN0 := hO.n0
  have hr0 := hO.1
  have hlcd := hR.2.2.2
  have hm80 := hC.2.2.2.2.2.1
  have hrcd6 := hC.2.2.1
  refine mkI (by decide) (Nat.le_of_ble_eq_true rfl) ?_
  rintro X rfl rfl rfl hRm C kret H ls w hl
  have hl : lv_has ls 8 [(0, .ref o), (1, .int (iI wh))] := hl
  have w : Wd X (dcore cI cO cZ o h sl us pd co q q2 q3 hf rcd sf uf T m ++ sw cI q a b sg ln r N ov lc sd ++ sw cI q2 a2 b2 sg2 ln2 r2 pl2 ov2 lc2 sd2 ++ sw cI q3 a3 b3 sg3 ln3 r3 pl3 ov3 lc3 sd3 ++ hst cI st) H [] := w
  generalize ([] : List Loc) = locs at w ⊢
  refine r_iload_n (pc := 0) C d_D_bestWrite_0 rfl (lv_at hl 1 rfl) ?_
  refine r_iconst (pc := 1) C d_D_bestWrite_1 ?_
  refine r_iconst (pc := 2) C d_D_bestWrite_2 ?_
  refine r_callP (pc := 3) (As := [.int (iI wh), .int (iI 0), .int (iI 2)]) (rest := []) C w (c_D_isWithin wh 0 2 (by omega)) ml_D_44 st_D_isWithin ini_D cd_D_isWithin hd_D_isWithin rfl (by rw [hRm]; exact ⟨⟨Nat.le_of_ble_eq_true rfl, Nat.le_of_ble_eq_true rfl⟩, Nat.le_of_ble_eq_true rfl, Nat.le_of_ble_eq_true rfl⟩) hl.1 rfl (Nat.le_of_ble_eq_true rfl) d_D_bestWrite_3 (fun z_3 H locs hz_3 w => ?_)
  refine r_if_ne (pc := 6) (tgt := 12) C (by omega) d_D_bestWrite_6 (by decide) (fun c_6 => ?_) (fun c_6 => ?_)
  · skip
    have hb_6 : 0 ≤ wh ∧ wh ≤ 2 := by omega
    clear hz_3 c_6
    refine r_bipush (pc := 12) C d_D_bestWrite_12 (by decide) ?_
    refine r_istore_n (pc := 14) (lv' := [(2, .int (iI (-6))), (0, .ref o), (1, .int (iI wh))]) C d_D_bestWrite_14 rfl hl (by decide) rfl (fun ls hl => ?_)
    refine r_bipush (pc := 15) C d_D_bestWrite_15 (by decide) ?_
    refine r_istore_n (pc := 17) (lv' := [(3, .int (iI (-6))), (2, .int (iI (-6))), (0, .ref o), (1, .int (iI wh))]) C d_D_bestWrite_17 rfl hl (by decide) rfl (fun ls hl => ?_)
    refine r_iconst (pc := 18) C d_D_bestWrite_18 ?_
    refine r_istore (pc := 19) (lv' := [(4, .int (iI 0)), (3, .int (iI (-6))), (2, .int (iI (-6))), (0, .ref o), (1, .int (iI wh))]) C d_D_bestWrite_19 hl (by decide) rfl (fun ls hl => ?_)
    refine r_iconst (pc := 21) C d_D_bestWrite_21 ?_
    refine r_istore (pc := 22) (lv' := [(5, .int (iI 0)), (4, .int (iI 0)), (3, .int (iI (-6))), (2, .int (iI (-6))), (0, .ref o), (1, .int (iI wh))]) C d_D_bestWrite_22 hl (by decide) rfl (fun ls hl => ?_)
    have L24 : ∀ (fuel : Nat), ∀ (run : Int) (br : Int) (bv : Int) (mo : Int), 0 ≤ run ∧ run ≤ r → (br, bv, mo) = bw lc r sg ln run → 0 ≤ mo ∧ mo ≤ 198 → (r - run) < (fuel : Int) → ∀ (H : Heap) (locs : List Loc) (ls : Array Slot), Wd X (dcore cI cO cZ o h sl us pd co q q2 q3 hf rcd sf uf T m ++ sw cI q a b sg ln r N ov lc sd ++ sw cI q2 a2 b2 sg2 ln2 r2 pl2 ov2 lc2 sd2 ++ sw cI q3 a3 b3 sg3 ln3 r3 pl3 ov3 lc3 sd3 ++ hst cI st) H locs → lv_has ls 8 [(0, .ref o), (1, .int (iI wh)), (2, .int (iI br)), (3, .int (iI bv)), (4, .int (iI mo)), (5, .int (iI run))] → GG X 0 0 H locs 24 ls [] := by
      intro fuel
      induction fuel with
      | zero =>
        intro run br bv mo h0 hb hm hfuel
        exact absurd hfuel (by omega)
      | succ fuel ih24 =>
        intro run br bv mo h0 hb hm hfuel H locs ls w hl
        refine r_iload (pc := 24) C d_D_bestWrite_24 (lv_at hl 5 rfl) ?_
        refine r_aload_n (pc := 26) C d_D_bestWrite_26 rfl (lv_at hl 0 rfl) ?_
        refine r_get (pc := 27) (v := .ref q) C w i_D rfl 0 rfl 0 (by decide) fl_D_10 rfl rfl d_D_bestWrite_27 ?_
        refine r_get (pc := 30) (v := .int (iI r)) C w i_S rfl 6 rfl 2 (by decide) fl_D_99 rfl rfl d_D_bestWrite_30 ?_
        refine r_icmp_ge (pc := 33) (tgt := 88) C (by omega) d_D_bestWrite_33 (by decide) (fun c_33 => ?_) (fun c_33 => ?_)
        · skip
          have hb9 := hb
          rw [show run = r by omega] at hb9
          refine r_iload (pc := 88) C d_D_bestWrite_88 (lv_at hl 4 rfl) ?_
          refine r_if_ne (pc := 90) (tgt := 96) C (by omega) d_D_bestWrite_90 (by decide) (fun c_90 => ?_) (fun c_90 => ?_)
          · skip
            refine r_iload_n (pc := 96) C d_D_bestWrite_96 rfl (lv_at hl 1 rfl) ?_
            refine r_if_ne (pc := 97) (tgt := 104) C (by omega) d_D_bestWrite_97 (by decide) (fun c_97 => ?_) (fun c_97 => ?_)
            · skip
              refine r_iload_n (pc := 104) C d_D_bestWrite_104 rfl (lv_at hl 1 rfl) ?_
              refine r_iconst (pc := 105) C d_D_bestWrite_105 ?_
              refine r_icmp_ne (pc := 106) (tgt := 113) C (by omega) d_D_bestWrite_106 (by decide) (fun c_106 => ?_) (fun c_106 => ?_)
              · skip
                refine r_iload (pc := 113) C d_D_bestWrite_113 (lv_at hl 4 rfl) ?_
                exact kret _ _ _ _ mo _ d_D_bestWrite_115 w (⟨_, cw_mk hR hC, ⟨rfl, Or.inr ⟨by omega, by rw [← hb9]; show _ = if mo = 0 then -6 else if wh = 0 then br else if wh = 1 then bv else mo; (repeat' split) <;> omega⟩⟩⟩)
              · skip
                refine r_iload_n (pc := 109) C d_D_bestWrite_109 rfl (lv_at hl 3 rfl) ?_
                refine r_goto (pc := 110) (tgt := 115) C d_D_bestWrite_110 (by decide) ?_
                exact kret _ _ _ _ bv _ d_D_bestWrite_115 w (⟨_, cw_mk hR hC, ⟨rfl, Or.inr ⟨by omega, by rw [← hb9]; show _ = if mo = 0 then -6 else if wh = 0 then br else if wh = 1 then bv else mo; (repeat' split) <;> omega⟩⟩⟩)
            · skip
              refine r_iload_n (pc := 100) C d_D_bestWrite_100 rfl (lv_at hl 2 rfl) ?_
              refine r_goto (pc := 101) (tgt := 115) C d_D_bestWrite_101 (by decide) ?_
              exact kret _ _ _ _ br _ d_D_bestWrite_115 w (⟨_, cw_mk hR hC, ⟨rfl, Or.inr ⟨by omega, by rw [← hb9]; show _ = if mo = 0 then -6 else if wh = 0 then br else if wh = 1 then bv else mo; (repeat' split) <;> omega⟩⟩⟩)
          · skip
            refine r_bipush (pc := 93) C d_D_bestWrite_93 (by decide) ?_
            exact kret _ _ _ _ (-6) _ d_D_bestWrite_95 w (⟨_, cw_mk hR hC, ⟨rfl, Or.inr ⟨by omega, by rw [← hb9]; show (-6 : Int) = if mo = 0 then -6 else _; rw [if_pos (by omega)]⟩⟩⟩)
        · skip
          refine r_iconst (pc := 36) C d_D_bestWrite_36 ?_
          refine r_istore (pc := 37) (lv' := [(6, .int (iI 0)), (0, .ref o), (1, .int (iI wh)), (2, .int (iI br)), (3, .int (iI bv)), (4, .int (iI mo)), (5, .int (iI run))]) C d_D_bestWrite_37 hl (by decide) rfl (fun ls hl => ?_)
          have L39 : ∀ (fuel : Nat), ∀ (val : Int) (br : Int) (bv : Int) (mo : Int), 0 ≤ val ∧ val ≤ 10 → (br, bv, mo) = bwv (svd lc r sg ln run) run (bw lc r sg ln run) val → 0 ≤ mo ∧ mo ≤ 198 → (10 - val) < (fuel : Int) → ∀ (H : Heap) (locs : List Loc) (ls : Array Slot), Wd X (dcore cI cO cZ o h sl us pd co q q2 q3 hf rcd sf uf T m ++ sw cI q a b sg ln r N ov lc sd ++ sw cI q2 a2 b2 sg2 ln2 r2 pl2 ov2 lc2 sd2 ++ sw cI q3 a3 b3 sg3 ln3 r3 pl3 ov3 lc3 sd3 ++ hst cI st) H locs → lv_has ls 8 [(0, .ref o), (1, .int (iI wh)), (2, .int (iI br)), (3, .int (iI bv)), (4, .int (iI mo)), (5, .int (iI run)), (6, .int (iI val))] → GG X 0 0 H locs 39 ls [] := by
            intro fuel
            induction fuel with
            | zero =>
              intro val br bv mo h1 hb2 hm2 hfuel
              exact absurd hfuel (by omega)
            | succ fuel ih39 =>
              intro val br bv mo h1 hb2 hm2 hfuel H locs ls w hl
              refine r_iload (pc := 39) C d_D_bestWrite_39 (lv_at hl 6 rfl) ?_
              refine r_bipush (pc := 41) C d_D_bestWrite_41 (by decide) ?_
              refine r_icmp_gt (pc := 43) (tgt := 82) C (by omega) d_D_bestWrite_43 (by decide) (fun c_43 => ?_) (fun c_43 => ?_)
              · skip
                refine r_iinc (pc := 82) (j := 5) (lv' := [(5, .int (iI (run + 1))), (0, .ref o), (1, .int (iI wh)), (2, .int (iI br)), (3, .int (iI bv)), (4, .int (iI mo)), (6, .int (iI val))]) C d_D_bestWrite_82 hl rfl (by decide) rfl (fun ls hl => ?_)
                refine r_goto (pc := 85) (tgt := 24) C d_D_bestWrite_85 (by decide) ?_
                exact ih24 (run + 1) br bv mo (by omega) ((by rw [bw_succ _ _ _ _ (by omega), show (10 : Int) = val by omega]; exact hb2)) (by omega) (by omega) _ _ _ w (lv_sub hl [1, 2, 3, 4, 5, 0] rfl)
              · skip
                refine r_aload_n (pc := 46) C d_D_bestWrite_46 rfl (lv_at hl 0 rfl) ?_
                refine r_get (pc := 47) (v := .ref q) C w i_D rfl 0 rfl 0 (by decide) fl_D_10 rfl rfl d_D_bestWrite_47 ?_
                refine r_iload (pc := 50) C d_D_bestWrite_50 (lv_at hl 5 rfl) ?_
                refine r_iload (pc := 52) C d_D_bestWrite_52 (lv_at hl 6 rfl) ?_
                refine r_callVI (pc := 54) (As := [.int (iI run), .int (iI val)]) (rest := []) (wr := (dcore cI cO cZ o h sl us pd co q q2 q3 hf rcd sf uf T m ++ sw cI q2 a2 b2 sg2 ln2 r2 pl2 ov2 lc2 sd2 ++ sw cI q3 a3 b3 sg3 ln3 r3 pl3 ov3 lc3 sd3 ++ hst cI st)) C w (c_S_savedByWriting hT q a b sg ln r N ov lc sd _ _ hO (by omega) (by omega) run val (by omega) (by omega) (by omega)) ml_D_148 im_S_savedByWriting se_S_savedByWriting ini_S cd_S_savedByWriting hd_S_savedByWriting rfl (by rw [hRm]; exact ⟨⟨Nat.le_of_ble_eq_true rfl, Nat.le_of_ble_eq_true rfl⟩, Nat.le_of_ble_eq_true rfl, Nat.le_of_ble_eq_true rfl⟩) hl.1 [6, 7, 8] [0, 1, 2, 3, 4, 5, 9, 10, 11, 12, 13, 14, 15, 16, 17, 18, 19, 20, 21, 22, 23, 24, 25, 26, 27, 28, 29, 30, 31, 32, 33, 34, 35, 36, 37, 38] ⟨rfl, rfl, by decide, by decide, by decide⟩ 0 rfl rfl rfl (Nat.le_of_ble_eq_true rfl) d_D_bestWrite_54 (fun z_54 u_54 H locs hz_54 w => ?_)
                obtain ⟨rfl, hz_54⟩ := hz_54
                have w : Wd X (dcore cI cO cZ o h sl us pd co q q2 q3 hf rcd sf uf T m ++ sw cI q a b sg ln r N ov lc sd ++ sw cI q2 a2 b2 sg2 ln2 r2 pl2 ov2 lc2 sd2 ++ sw cI q3 a3 b3 sg3 ln3 r3 pl3 ov3 lc3 sd3 ++ hst cI st) H locs := w.sub [0, 1, 2, 3, 4, 5, 36, 37, 38, 6, 7, 8, 9, 10, 11, 12, 13, 14, 15, 16, 17, 18, 19, 20, 21, 22, 23, 24, 25, 26, 27, 28, 29, 30, 31, 32, 33, 34, 35] rfl (by decide)
                have hsr := svd_rg (code := lc) hO hN3 (k := run) (val := val) (by omega) (by omega)
                refine r_istore (pc := 57) (lv' := [(7, .int (iI z_54)), (0, .ref o), (1, .int (iI wh)), (2, .int (iI br)), (3, .int (iI bv)), (4, .int (iI mo)), (5, .int (iI run)), (6, .int (iI val))]) C d_D_bestWrite_57 hl (by decide) rfl (fun ls hl => ?_)
                refine r_iload (pc := 59) C d_D_bestWrite_59 (lv_at hl 0 rfl) ?_
                refine r_iload (pc := 61) C d_D_bestWrite_61 (lv_at hl 5 rfl) ?_
                refine r_icmp_le (pc := 63) (tgt := 76) C (by omega) d_D_bestWrite_63 (by decide) (fun c_63 => ?_) (fun c_63 => ?_)
                · skip
                  refine r_iinc (pc := 76) (j := 7) (lv' := [(6, .int (iI (val + 1))), (7, .int (iI z_54)), (0, .ref o), (1, .int (iI wh)), (2, .int (iI br)), (3, .int (iI bv)), (4, .int (iI mo)), (5, .int (iI run))]) C d_D_bestWrite_76 hl rfl (by decide) rfl (fun ls hl => ?_)
                  refine r_goto (pc := 79) (tgt := 39) C d_D_bestWrite_79 (by decide) ?_
                  exact ih39 (val + 1) br bv mo (by omega) ((by rw [bwv_succ _ _ _ (by omega), ← hb2]; first | rw [if_pos (by show mo < svd lc r sg ln run val; omega), hz_54] | rw [if_neg (by show ¬ mo < svd lc r sg ln run val; omega)])) (by omega) (by omega) _ _ _ w (lv_sub hl [2, 3, 4, 5, 6, 7, 0] rfl)
                · skip
                  refine r_iload (pc := 66) C d_D_bestWrite_66 (lv_at hl 6 rfl) ?_
                  refine r_istore_n (pc := 68) (lv' := [(2, .int (iI run)), (7, .int (iI z_54)), (0, .ref o), (1, .int (iI wh)), (3, .int (iI bv)), (4, .int (iI mo)), (5, .int (iI run)), (6, .int (iI val))]) C d_D_bestWrite_68 rfl hl (by decide) rfl (fun ls hl => ?_)
                  refine r_iload (pc := 69) C d_D_bestWrite_69 (lv_at hl 7 rfl) ?_
                  refine r_istore_n (pc := 71) (lv' := [(3, .int (iI val)), (2, .int (iI run)), (7, .int (iI z_54)), (0, .ref o), (1, .int (iI wh)), (4, .int (iI mo)), (5, .int (iI run)), (6, .int (iI val))]) C d_D_bestWrite_71 rfl hl (by decide) rfl (fun ls hl => ?_)
                  refine r_iload (pc := 72) C d_D_bestWrite_72 (lv_at hl 2 rfl) ?_
                  refine r_istore (pc := 74) (lv' := [(4, .int (iI z_54)), (3, .int (iI val)), (2, .int (iI run)), (7, .int (iI z_54)), (0, .ref o), (1, .int (iI wh)), (5, .int (iI run)), (6, .int (iI val))]) C d_D_bestWrite_74 hl (by decide) rfl (fun ls hl => ?_)
                  refine r_iinc (pc := 76) (j := 7) (lv' := [(6, .int (iI (val + 1))), (4, .int (iI z_54)), (3, .int (iI val)), (2, .int (iI run)), (7, .int (iI z_54)), (0, .ref o), (1, .int (iI wh)), (5, .int (iI run))]) C d_D_bestWrite_76 hl rfl (by decide) rfl (fun ls hl => ?_)
                  refine r_goto (pc := 79) (tgt := 39) C d_D_bestWrite_79 (by decide) ?_
                  exact ih39 (val + 1) run val z_54 (by omega) ((by rw [bwv_succ _ _ _ (by omega), ← hb2]; first | rw [if_pos (by show mo < svd lc r sg ln run val; omega), hz_54] | rw [if_neg (by show ¬ mo < svd lc r sg ln run val; omega)])) (by omega) (by omega) _ _ _ w (lv_sub hl [5, 6, 3, 2, 1, 7, 0] rfl)
          exact L39 ((10 - 0) + 1 : Int).toNat 0 br bv mo (by first | omega | rfl) (hb) (by first | omega | rfl) (by omega) _ _ _ w (lv_sub hl [1, 2, 3, 4, 5, 6, 0] rfl)
    exact L24 ((r - 0) + 1 : Int).toNat 0 (-6) (-6) 0 (by first | omega | rfl) (rfl) (by first | omega | rfl) (by omega) _ _ _ w (lv_sub hl [4, 5, 3, 2, 1, 0] rfl)
  · skip
    have hb_6 : ¬ (0 ≤ wh ∧ wh ≤ 2) := by omega
    clear hz_3 c_6
    refine r_bipush (pc := 9) C d_D_bestWrite_9 (by decide) ?_
    exact kret _ _ _ _ (-2) _ d_D_bestWrite_11 w (⟨_, cw_mk hR hC, ⟨rfl, Or.inl ⟨by omega, rfl⟩⟩⟩)
def Sp_wipe (A : AS) (z : Int) (A' : AS) : Prop := match A with | ((lc, sd, r, sg, ln, N, v), hist, rcd, slot, uf, T, m) => z = m ∧ A' = ((lc, sd, r, sg, ln, N, v), hist, rcd, slot, uf, T, 0)
theorem d_D_wipe_0 : decode b_D_wipe 0 = .ok (.aload_n 0, 1) := by decide +kernel
theorem d_D_wipe_1 : decode b_D_wipe 1 = .ok (.getfield 40, 3) := by decide +kernel
theorem d_D_wipe_4 : decode b_D_wipe 4 = .ok (.getfield 131, 3) := by decide +kernel
theorem d_D_wipe_7 : decode b_D_wipe 7 = .ok (.istore_n 1, 1) := by decide +kernel
theorem d_D_wipe_8 : decode b_D_wipe 8 = .ok (.aload_n 0, 1) := by decide +kernel
theorem d_D_wipe_9 : decode b_D_wipe 9 = .ok (.getfield 40, 3) := by decide +kernel
theorem d_D_wipe_12 : decode b_D_wipe 12 = .ok (.iconst 0, 1) := by decide +kernel
theorem d_D_wipe_13 : decode b_D_wipe 13 = .ok (.putfield 131, 3) := by decide +kernel
theorem d_D_wipe_16 : decode b_D_wipe 16 = .ok (.iload_n 1, 1) := by decide +kernel
theorem d_D_wipe_17 : decode b_D_wipe 17 = .ok (.ireturn, 1) := by decide +kernel
set_option maxHeartbeats 4000000 in
set_option maxRecDepth 20000 in
theorem c_D_wipe {l : Launch} {G : va_G} {tys : List (ClassId × FieldType)} {cI cO cZ : ClassId} (hT : TY tys cI cO cZ) (o : Nat) (A : AS) (ws : va_W) (hA : CW cI cO cZ o A ws) : CTI l G tys y_D_wipe b_D_wipe 2 .int 0 0 [.ref o] ws (fun z u => ∃ A' : AS, CW cI cO cZ o A' u ∧ Sp_wipe  A z A') := by
  obtain ⟨⟨lc, sd, r, sg, ln, N, v⟩, hist, rcd, slot, uf, T, m⟩ := A
  obtain ⟨hR, h, sl, us, pd, co, hf, sf, q, a, b, ov, q2, a2, b2, sg2, ln2, r2, pl2, ov2, lc2, sd2, q3, a3, b3, sg3, ln3, r3, pl3, ov3, lc3, sd3, st, rfl, hC⟩ := hA
  have hO := hR.1
  have hr5 := hR.2.1
  have hN3 := hR.2.2.1
  have hN0 := hO.n0
  have hr0 := hO.1
  have hlcd := hR.2.2.2
  have hm80 := hC.2.2.2.2.2.1
  have hrcd6 := hC.2.2.1
  refine mkI (by decide) (Nat.le_of_ble_eq_true rfl) ?_
  rintro X rfl rfl rfl hRm C kret H ls w hl
  have hl : lv_has ls 2 [(0, .ref o)] := hl
  have w : Wd X (dcore cI cO cZ o h sl us pd co q q2 q3 hf rcd sf uf T m ++ sw cI q a b sg ln r N ov lc sd ++ sw cI q2 a2 b2 sg2 ln2 r2 pl2 ov2 lc2 sd2 ++ sw cI q3 a3 b3 sg3 ln3 r3 pl3 ov3 lc3 sd3 ++ hst cI st) H [] := w
  generalize ([] : List Loc) = locs at w ⊢
  refine r_aload_n (pc := 0) C d_D_wipe_0 rfl (lv_at hl 0 rfl) ?_
  refine r_get (pc := 1) (v := .ref pd) C w i_D rfl 0 rfl 7 (by decide) fl_D_40 rfl rfl d_D_wipe_1 ?_
  refine r_get (pc := 4) (v := .int (iI m)) C w i_P rfl 4 rfl 1 (by decide) fl_D_131 rfl rfl d_D_wipe_4 ?_
  refine r_istore_n (pc := 7) (lv' := [(1, .int (iI m)), (0, .ref o)]) C d_D_wipe_7 rfl hl (by decide) rfl (fun ls hl => ?_)
  refine r_aload_n (pc := 8) C d_D_wipe_8 rfl (lv_at hl 1 rfl) ?_
  refine r_get (pc := 9) (v := .ref pd) C w i_D rfl 0 rfl 7 (by decide) fl_D_40 rfl rfl d_D_wipe_9 ?_
  refine r_iconst (pc := 12) C d_D_wipe_12 ?_
  refine r_put (pc := 13) (ws' := dcore cI cO cZ o h sl us pd co q q2 q3 hf rcd sf uf T 0 ++ sw cI q a b sg ln r N ov lc sd ++ sw cI q2 a2 b2 sg2 ln2 r2 pl2 ov2 lc2 sd2 ++ sw cI q3 a3 b3 sg3 ln3 r3 pl3 ov3 lc3 sd3 ++ hst cI st) C w i_P t_P t_P_ok n_P rfl 4 rfl 1 (by decide) fl_D_131 rfl rfl rfl rfl (Nat.le_of_ble_eq_true rfl) rfl d_D_wipe_13 (fun H locs w => ?_)
  refine r_iload_n (pc := 16) C d_D_wipe_16 rfl (lv_at hl 0 rfl) ?_
  exact kret _ _ _ _ m _ d_D_wipe_17 w (⟨_, cw_mk hR ⟨hC.1, hC.2.1, hC.2.2.1, hC.2.2.2.1, hC.2.2.2.2.1, by omega, fun x h1 h2 => by omega⟩, rfl, rfl⟩)
end
