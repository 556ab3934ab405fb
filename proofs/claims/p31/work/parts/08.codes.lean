/-! the codes and the texts of a run -/
def bl (n : Int) : Int := if n ≤ 0 then 0 else (Nat.log2 n.toNat : Int) + 1
theorem bl_0 {n : Int} (h : n ≤ 0) : bl n = 0 := by unfold bl; rw [if_pos h]
theorem bl_step {n : Int} (h : 0 < n) : bl n = 1 + bl (n / 2) := by
  unfold bl
  rw [if_neg (by omega), Nat.log2_def]
  by_cases h2 : 2 ≤ n.toNat
  · rw [if_pos h2, if_neg (by omega), show (n / 2).toNat = n.toNat / 2 by omega]
    omega
  · rw [if_neg h2, if_pos (by omega)]
    rfl
theorem bl_rg {n : Int} (h : 1 ≤ n ∧ n < 2147483648) : 1 ≤ bl n ∧ bl n ≤ 31 := by
  unfold bl
  rw [if_neg (by omega)]
  have := (Nat.log2_lt (n := n.toNat) (k := 31) (by omega)).mpr (by omega)
  omega
theorem bl_le {n : Int} (h : 1 ≤ n ∧ n < 4096) : 1 ≤ bl n ∧ bl n ≤ 12 := by
  unfold bl
  rw [if_neg (by omega)]
  have := (Nat.log2_lt (n := n.toNat) (k := 12) (by omega)).mpr (by omega)
  omega
theorem shr_iI {n i : Int} (hn : 0 ≤ n ∧ n < 2147483648) (hi : 0 ≤ i ∧ i < 32) : iI n >>> (iI i &&& 31) = iI (n / 2 ^ i.toNat) := by
  have h : ∀ k : Nat, k < 32 → ((iI (k : Int) &&& 31).toBitVec.smod 32).toNat = k := by decide
  have e := pk_shr (iI n) (iI i &&& 31) i.toNat (by have := h i.toNat (by omega); rwa [Int.toNat_of_nonneg hi.1] at this)
  rw [iI_toInt (by omega), Int.shiftRight_eq_div_pow] at e
  apply Int32.toInt_inj.mp
  have h1 : 0 ≤ n / 2 ^ i.toNat := Int.ediv_nonneg hn.1 (Int.le_of_lt (Int.pow_pos (by omega)))
  have h2 : n / 2 ^ i.toNat ≤ n := Int.ediv_le_self _ hn.1
  have e' : ((2 ^ i.toNat : Nat) : Int) = (2 : Int) ^ i.toNat := by rw [Int.natCast_pow]; rfl
  rw [e'] at e
  rw [e, iI_toInt (by omega)]
theorem div_pow_succ {n : Int} {i : Int} (hi : 0 ≤ i) : n / 2 ^ (i + 1).toNat = n / 2 ^ i.toNat / 2 := by
  rw [toNat_succ hi, Int.pow_succ, Int.ediv_ediv_of_nonneg (Int.le_of_lt (Int.pow_pos (by omega)))]
/-- one bit of a number, as both sides reckon it -/
def bnr (n sh : Int) : Int := ((iI n >>> (iI sh &&& 31)) &&& iI 1).toInt
theorem bnr_i (n sh : Int) : (iI n >>> (iI sh &&& 31)) &&& iI 1 = iI (bnr n sh) := (iI_of _).symm
theorem bnr_01 {n sh : Int} (hn : 0 ≤ n ∧ n < 2147483648) (hs : 0 ≤ sh ∧ sh < 32) : bnr n sh = n / 2 ^ sh.toNat % 2 := by
  unfold bnr
  rw [shr_iI hn hs]
  have h1 : 0 ≤ n / 2 ^ sh.toNat := Int.ediv_nonneg hn.1 (Int.le_of_lt (Int.pow_pos (by omega)))
  have h2 : n / 2 ^ sh.toNat ≤ n := Int.ediv_le_self _ hn.1
  generalize n / 2 ^ sh.toNat = m at h1 h2 ⊢
  have h3 : (iI m).toBitVec.toNat = m.toNat := by
    show (BitVec.ofInt 32 m).toNat = _
    rw [BitVec.toNat_ofInt]
    omega
  have h4 : (iI m &&& iI 1).toBitVec.toNat = m.toNat % 2 := by
    rw [Int32.toBitVec_and, BitVec.toNat_and, h3]
    exact Nat.and_one_is_mod _
  have h5 : (iI m &&& iI 1).toInt = ((iI m &&& iI 1).toBitVec.toNat : Int) := by
    show (iI m &&& iI 1).toBitVec.toInt = _
    rw [BitVec.toInt_eq_toNat_of_lt (by rw [h4]; omega)]
  rw [h5, h4]
  omega
def lb (code n : Int) : Int := if code = 0 then 12 else if code = 1 then 2 * bl n - 1 else 2 * bl (bl n) - 1 + bl n - 1
def sb (s : Int) : Int := if s = 10 then 1 else 5
def rb (code s n : Int) : Int := sb s + lb code n
theorem sb_cases (s : Int) : (s = 10 ∧ sb s = 1) ∨ (s ≠ 10 ∧ sb s = 5) := by
  unfold sb
  by_cases h : s = 10 <;> simp [h]
theorem lb_cases (code n : Int) : (code = 0 ∧ lb code n = 12) ∨ (code = 1 ∧ lb code n = 2 * bl n - 1) ∨ (code ≠ 0 ∧ code ≠ 1 ∧ lb code n = 2 * bl (bl n) - 1 + bl n - 1) := by
  unfold lb
  by_cases h : code = 0
  · simp [h]
  · by_cases h1 : code = 1
    · simp [h1]
    · simp [h, h1]
theorem lb_rg {code n : Int} (h : 1 ≤ n ∧ n < 2147483648) : 1 ≤ lb code n ∧ lb code n ≤ 61 := by
  have h1 := bl_rg h
  have h2 := bl_le (n := bl n) (by omega)
  have h3 := lb_cases code n
  omega
theorem rb_rg {code s n : Int} (h : 1 ≤ n ∧ n < 2147483648) : 2 ≤ rb code s n ∧ rb code s n ≤ 66 := by
  have h1 := lb_rg (code := code) h
  have h2 := sb_cases s
  unfold rb
  omega
def lbit (code n at_ : Int) : Int := if code = 0 then bnr n (11 - at_) else if code = 1 then (if at_ < bl n - 1 then 0 else bnr n (2 * bl n - 2 - at_)) else if at_ < bl (bl n) - 1 then 0 else if at_ < 2 * bl (bl n) - 1 then bnr (bl n) (2 * bl (bl n) - 2 - at_) else bnr n (bl n + 2 * bl (bl n) - 3 - at_)
def brun (code s n at_ : Int) : Int := if sb s ≤ at_ then lbit code n (at_ - sb s) else if s = 10 then 1 else bnr s (4 - at_)
theorem bnr_top {s : Int} (h : 0 ≤ s ∧ s ≤ 9) : bnr s 4 = 0 := by
  rw [bnr_01 (by omega) (by omega)]
  show s / 16 % 2 = 0
  omega
/-- decimal digits -/
def dlN : Nat → Int → Int
  | 0, _ => 0
  | f + 1, n => if n ≤ 0 then 0 else 1 + dlN f (n / 10)
theorem dlN_stable : ∀ (f : Nat) (n : Int), n < 10 ^ f → dlN (f + 1) n = dlN f n := by
  intro f
  induction f with
  | zero =>
    intro n h
    show (if n ≤ 0 then 0 else 1 + 0) = (0 : Int)
    rw [if_pos (by omega)]
  | succ f ih =>
    intro n h
    show (if n ≤ 0 then 0 else 1 + dlN (f + 1) (n / 10)) = (if n ≤ 0 then 0 else 1 + dlN f (n / 10))
    rw [ih (n / 10) (by rw [Int.pow_succ] at h; omega)]
def dl (n : Int) : Int := dlN 11 n
theorem dl_0 {n : Int} (h : n ≤ 0) : dl n = 0 := by
  show (if n ≤ 0 then 0 else 1 + dlN 10 (n / 10)) = (0 : Int)
  rw [if_pos h]
theorem dl_step {n : Int} (h : 0 < n ∧ n < 2147483648) : dl n = 1 + dl (n / 10) := by
  show (if n ≤ 0 then 0 else 1 + dlN 10 (n / 10)) = 1 + dlN 11 (n / 10)
  rw [if_neg (by omega), dlN_stable 10 (n / 10) (by omega)]
theorem dl_rgN : ∀ (f : Nat) (n : Int), 0 ≤ dlN f n ∧ dlN f n ≤ f := by
  intro f
  induction f with
  | zero => intro n; exact ⟨Int.le_refl _, Int.le_refl _⟩
  | succ f ih =>
    intro n
    show 0 ≤ (if n ≤ 0 then 0 else 1 + dlN f (n / 10)) ∧ (if n ≤ 0 then 0 else 1 + dlN f (n / 10)) ≤ ((f + 1 : Nat) : Int)
    have := ih (n / 10)
    split <;> omega
theorem dl_rg (n : Int) : 0 ≤ dl n ∧ dl n ≤ 11 := dl_rgN 11 n
theorem dl_pos {n : Int} (h : 0 < n ∧ n < 2147483648) : 1 ≤ dl n := by
  rw [dl_step h]
  have := dl_rg (n / 10)
  omega
theorem dl_cases {n : Int} (h : 1 ≤ n ∧ n ≤ 9999) : (n < 10 ∧ dl n = 1) ∨ (10 ≤ n ∧ n < 100 ∧ dl n = 2) ∨ (100 ≤ n ∧ n < 1000 ∧ dl n = 3) ∨ (1000 ≤ n ∧ dl n = 4) := by
  have e1 := dl_step (n := n) (by omega)
  by_cases h1 : n < 10
  · rw [dl_0 (n := n / 10) (by omega)] at e1; omega
  · have e2 := dl_step (n := n / 10) (by omega)
    by_cases h2 : n < 100
    · rw [dl_0 (n := n / 10 / 10) (by omega)] at e2; omega
    · have e3 := dl_step (n := n / 10 / 10) (by omega)
      by_cases h3 : n < 1000
      · rw [dl_0 (n := n / 10 / 10 / 10) (by omega)] at e3; omega
      · have e4 := dl_step (n := n / 10 / 10 / 10) (by omega)
        rw [dl_0 (n := n / 10 / 10 / 10 / 10) (by omega)] at e4; omega
def crl (n : Int) : Int := if n = 1 then 1 else 2 + dl n
def chr_ (s n at_ : Int) : Int := if at_ = 0 then (if s = 10 then 120 else 48 + s) else if at_ = 1 then 42 else 48 + n / 10 ^ (dl n + 1 - at_).toNat % 10
theorem crl_cases (n : Int) : (n = 1 ∧ crl n = 1) ∨ (n ≠ 1 ∧ crl n = 2 + dl n) := by
  unfold crl
  by_cases h : n = 1 <;> simp [h]
theorem div_pow10 {n i : Int} (hi : 0 ≤ i) : n / 10 ^ (i + 1).toNat = n / 10 ^ i.toNat / 10 := by
  rw [toNat_succ hi, Int.pow_succ, Int.ediv_ediv_of_nonneg (Int.le_of_lt (Int.pow_pos (by omega)))]
theorem pow10_rg {n i : Int} (hn : 0 ≤ n ∧ n < 2147483648) : 0 ≤ n / 10 ^ i.toNat ∧ n / 10 ^ i.toNat < 2147483648 := by
  have h1 : 0 ≤ n / 10 ^ i.toNat := Int.ediv_nonneg hn.1 (Int.le_of_lt (Int.pow_pos (by omega)))
  have h2 : n / 10 ^ i.toNat ≤ n := Int.ediv_le_self _ hn.1
  omega
theorem d_C_widthOf_0 : decode b_C_widthOf 0 = .ok (.iconst 1, 1) := by decide +kernel
theorem d_C_widthOf_1 : decode b_C_widthOf 1 = .ok (.istore_n 1, 1) := by decide +kernel
theorem d_C_widthOf_2 : decode b_C_widthOf 2 = .ok (.iconst 1, 1) := by decide +kernel
theorem d_C_widthOf_3 : decode b_C_widthOf 3 = .ok (.istore_n 2, 1) := by decide +kernel
theorem d_C_widthOf_4 : decode b_C_widthOf 4 = .ok (.iload_n 2, 1) := by decide +kernel
theorem d_C_widthOf_5 : decode b_C_widthOf 5 = .ok (.bipush 31, 2) := by decide +kernel
theorem d_C_widthOf_7 : decode b_C_widthOf 7 = .ok (.if_icmp .ge 18, 3) := by decide +kernel
theorem d_C_widthOf_10 : decode b_C_widthOf 10 = .ok (.iload_n 0, 1) := by decide +kernel
theorem d_C_widthOf_11 : decode b_C_widthOf 11 = .ok (.iload_n 2, 1) := by decide +kernel
theorem d_C_widthOf_12 : decode b_C_widthOf 12 = .ok (.ishr, 1) := by decide +kernel
theorem d_C_widthOf_13 : decode b_C_widthOf 13 = .ok (.ifCond .le 12, 3) := by decide +kernel
theorem d_C_widthOf_16 : decode b_C_widthOf 16 = .ok (.iinc 1 1, 3) := by decide +kernel
theorem d_C_widthOf_19 : decode b_C_widthOf 19 = .ok (.iinc 2 1, 3) := by decide +kernel
theorem d_C_widthOf_22 : decode b_C_widthOf 22 = .ok (.goto (-18), 3) := by decide +kernel
theorem d_C_widthOf_25 : decode b_C_widthOf 25 = .ok (.iload_n 1, 1) := by decide +kernel
theorem d_C_widthOf_26 : decode b_C_widthOf 26 = .ok (.ireturn, 1) := by decide +kernel
set_option maxHeartbeats 4000000 in
set_option maxRecDepth 20000 in
theorem c_C_widthOf {l : Launch} {G : va_G} {tys : List (ClassId × FieldType)} (n : Int) (h : 1 ≤ n ∧ n < 2147483648) : CTP l G tys y_C_widthOf b_C_widthOf 3 .int 0 0 [.int (iI n)] (fun z => z = bl n) := by
  unfold CTP
  refine mkI (by decide) (Nat.le_of_ble_eq_true rfl) ?_
  rintro X rfl rfl rfl hRm C kret H ls w hl
  have hl : lv_has ls 3 [(0, .int (iI n))] := hl
  have w : Wd X ([]) H [] := w
  generalize ([] : List Loc) = locs at w ⊢
  have hb := bl_rg h
  refine r_iconst (pc := 0) C d_C_widthOf_0 ?_
  refine r_istore_n (pc := 1) (lv' := [(1, .int (iI 1)), (0, .int (iI n))]) C d_C_widthOf_1 rfl hl (by decide) rfl (fun ls hl => ?_)
  refine r_iconst (pc := 2) C d_C_widthOf_2 ?_
  refine r_istore_n (pc := 3) (lv' := [(2, .int (iI 1)), (1, .int (iI 1)), (0, .int (iI n))]) C d_C_widthOf_3 rfl hl (by decide) rfl (fun ls hl => ?_)
  have L4 : ∀ (fuel : Nat), ∀ (i : Int) (wd : Int), 1 ≤ i ∧ i ≤ 31 ∧ wd = i → wd + bl (n / 2 ^ i.toNat) = bl n → (31 - i) < (fuel : Int) → ∀ (H : Heap) (locs : List Loc) (ls : Array Slot), Wd X ([]) H locs → lv_has ls 3 [(0, .int (iI n)), (1, .int (iI wd)), (2, .int (iI i))] → GG X 0 0 H locs 4 ls [] := by
    intro fuel
    induction fuel with
    | zero =>
      intro i wd h0 hb1 hfuel
      exact absurd hfuel (by omega)
    | succ fuel ih4 =>
      intro i wd h0 hb1 hfuel H locs ls w hl
      refine r_iload_n (pc := 4) C d_C_widthOf_4 rfl (lv_at hl 2 rfl) ?_
      refine r_bipush (pc := 5) C d_C_widthOf_5 (by decide) ?_
      refine r_icmp_ge (pc := 7) (tgt := 25) C (by omega) d_C_widthOf_7 (by decide) (fun c_7 => ?_) (fun c_7 => ?_)
      · skip
        have hz : n / 2 ^ i.toNat ≤ 0 := by { rw [show i = 31 by omega]; show n / 2147483648 ≤ 0; omega }
        rw [bl_0 hz] at hb1
        refine r_iload_n (pc := 25) C d_C_widthOf_25 rfl (lv_at hl 1 rfl) ?_
        exact kret _ _ _ _ wd _ d_C_widthOf_26 w (⟨rfl, by omega⟩)
      · skip
        have hrg : 0 ≤ n / 2 ^ i.toNat ∧ n / 2 ^ i.toNat ≤ n := ⟨Int.ediv_nonneg (by omega) (Int.le_of_lt (Int.pow_pos (by omega))), Int.ediv_le_self _ (by omega)⟩
        refine r_iload_n (pc := 10) C d_C_widthOf_10 rfl (lv_at hl 0 rfl) ?_
        refine r_iload_n (pc := 11) C d_C_widthOf_11 rfl (lv_at hl 2 rfl) ?_
        refine r_ishr (pc := 12) C d_C_widthOf_12 ?_
        refine r_top (y := iI (n / 2 ^ i.toNat)) (shr_iI (by omega) (by omega)) ?_
        refine r_if_le (pc := 13) (tgt := 25) C (by omega) d_C_widthOf_13 (by decide) (fun c_13 => ?_) (fun c_13 => ?_)
        · skip
          rw [bl_0 (by omega)] at hb1
          refine r_iload_n (pc := 25) C d_C_widthOf_25 rfl (lv_at hl 1 rfl) ?_
          exact kret _ _ _ _ wd _ d_C_widthOf_26 w (⟨rfl, by omega⟩)
        · skip
          have hst := bl_step (n := n / 2 ^ i.toNat) (by omega)
          refine r_iinc (pc := 16) (j := 1) (lv' := [(1, .int (iI (wd + 1))), (0, .int (iI n)), (2, .int (iI i))]) C d_C_widthOf_16 hl rfl (by decide) rfl (fun ls hl => ?_)
          refine r_iinc (pc := 19) (j := 2) (lv' := [(2, .int (iI (i + 1))), (1, .int (iI (wd + 1))), (0, .int (iI n))]) C d_C_widthOf_19 hl rfl (by decide) rfl (fun ls hl => ?_)
          refine r_goto (pc := 22) (tgt := 4) C d_C_widthOf_22 (by decide) ?_
          exact ih4 (i + 1) (wd + 1) (by omega) ((by rw [div_pow_succ (by omega)]; omega)) (by omega) _ _ _ w (lv_sub hl [2, 1, 0] rfl)
  exact L4 ((31 - 1) + 1 : Int).toNat 1 1 (by first | omega | rfl) ((by have := bl_step (n := n) (by omega); show 1 + bl (n / 2) = bl n; omega)) (by omega) _ _ _ w (lv_sub hl [2, 1, 0] rfl)
theorem d_C_bitOfNumber_0 : decode b_C_bitOfNumber 0 = .ok (.iload_n 0, 1) := by decide +kernel
theorem d_C_bitOfNumber_1 : decode b_C_bitOfNumber 1 = .ok (.iload_n 1, 1) := by decide +kernel
theorem d_C_bitOfNumber_2 : decode b_C_bitOfNumber 2 = .ok (.iconst 1, 1) := by decide +kernel
theorem d_C_bitOfNumber_3 : decode b_C_bitOfNumber 3 = .ok (.isub, 1) := by decide +kernel
theorem d_C_bitOfNumber_4 : decode b_C_bitOfNumber 4 = .ok (.iload_n 2, 1) := by decide +kernel
theorem d_C_bitOfNumber_5 : decode b_C_bitOfNumber 5 = .ok (.isub, 1) := by decide +kernel
theorem d_C_bitOfNumber_6 : decode b_C_bitOfNumber 6 = .ok (.ishr, 1) := by decide +kernel
theorem d_C_bitOfNumber_7 : decode b_C_bitOfNumber 7 = .ok (.iconst 1, 1) := by decide +kernel
theorem d_C_bitOfNumber_8 : decode b_C_bitOfNumber 8 = .ok (.iand, 1) := by decide +kernel
theorem d_C_bitOfNumber_9 : decode b_C_bitOfNumber 9 = .ok (.ireturn, 1) := by decide +kernel
set_option maxHeartbeats 4000000 in
set_option maxRecDepth 20000 in
theorem c_C_bitOfNumber {l : Launch} {G : va_G} {tys : List (ClassId × FieldType)} (n m a : Int)  : CTP l G tys y_C_bitOfNumber b_C_bitOfNumber 3 .int 0 0 [.int (iI n), .int (iI m), .int (iI a)] (fun z => z = bnr n (m - 1 - a)) := by
  unfold CTP
  refine mkI (by decide) (Nat.le_of_ble_eq_true rfl) ?_
  rintro X rfl rfl rfl hRm C kret H ls w hl
  have hl : lv_has ls 3 [(0, .int (iI n)), (1, .int (iI m)), (2, .int (iI a))] := hl
  have w : Wd X ([]) H [] := w
  generalize ([] : List Loc) = locs at w ⊢
  refine r_iload_n (pc := 0) C d_C_bitOfNumber_0 rfl (lv_at hl 0 rfl) ?_
  refine r_iload_n (pc := 1) C d_C_bitOfNumber_1 rfl (lv_at hl 1 rfl) ?_
  refine r_iconst (pc := 2) C d_C_bitOfNumber_2 ?_
  refine r_isub (pc := 3) C d_C_bitOfNumber_3 ?_
  refine r_iload_n (pc := 4) C d_C_bitOfNumber_4 rfl (lv_at hl 2 rfl) ?_
  refine r_isub (pc := 5) C d_C_bitOfNumber_5 ?_
  refine r_ishr (pc := 6) C d_C_bitOfNumber_6 ?_
  refine r_iconst (pc := 7) C d_C_bitOfNumber_7 ?_
  refine r_iand (pc := 8) C d_C_bitOfNumber_8 ?_
  refine r_top (y := iI (bnr n (m - 1 - a))) (bnr_i n (m - 1 - a)) ?_
  exact kret _ _ _ _ (bnr n (m - 1 - a)) _ d_C_bitOfNumber_9 w (⟨rfl, rfl⟩)
theorem d_C_bitsOfSign_0 : decode b_C_bitsOfSign 0 = .ok (.iload_n 0, 1) := by decide +kernel
theorem d_C_bitsOfSign_1 : decode b_C_bitsOfSign 1 = .ok (.bipush 10, 2) := by decide +kernel
theorem d_C_bitsOfSign_3 : decode b_C_bitsOfSign 3 = .ok (.if_icmp .ne 7, 3) := by decide +kernel
theorem d_C_bitsOfSign_6 : decode b_C_bitsOfSign 6 = .ok (.iconst 1, 1) := by decide +kernel
theorem d_C_bitsOfSign_7 : decode b_C_bitsOfSign 7 = .ok (.goto 4, 3) := by decide +kernel
theorem d_C_bitsOfSign_10 : decode b_C_bitsOfSign 10 = .ok (.iconst 5, 1) := by decide +kernel
theorem d_C_bitsOfSign_11 : decode b_C_bitsOfSign 11 = .ok (.ireturn, 1) := by decide +kernel
set_option maxHeartbeats 4000000 in
set_option maxRecDepth 20000 in
theorem c_C_bitsOfSign {l : Launch} {G : va_G} {tys : List (ClassId × FieldType)} (s : Int) (h : 0 ≤ s ∧ s ≤ 10) : CTP l G tys y_C_bitsOfSign b_C_bitsOfSign 1 .int 0 0 [.int (iI s)] (fun z => z = sb s) := by
  unfold CTP
  refine mkI (by decide) (Nat.le_of_ble_eq_true rfl) ?_
  rintro X rfl rfl rfl hRm C kret H ls w hl
  have hl : lv_has ls 1 [(0, .int (iI s))] := hl
  have w : Wd X ([]) H [] := w
  generalize ([] : List Loc) = locs at w ⊢
  have hs := sb_cases s
  refine r_iload_n (pc := 0) C d_C_bitsOfSign_0 rfl (lv_at hl 0 rfl) ?_
  refine r_bipush (pc := 1) C d_C_bitsOfSign_1 (by decide) ?_
  refine r_icmp_ne (pc := 3) (tgt := 10) C (by omega) d_C_bitsOfSign_3 (by decide) (fun c_3 => ?_) (fun c_3 => ?_)
  · skip
    refine r_iconst (pc := 10) C d_C_bitsOfSign_10 ?_
    exact kret _ _ _ _ 5 _ d_C_bitsOfSign_11 w (⟨rfl, by omega⟩)
  · skip
    refine r_iconst (pc := 6) C d_C_bitsOfSign_6 ?_
    refine r_goto (pc := 7) (tgt := 11) C d_C_bitsOfSign_7 (by decide) ?_
    exact kret _ _ _ _ 1 _ d_C_bitsOfSign_11 w (⟨rfl, by omega⟩)
theorem d_C_bitsOfLength_0 : decode b_C_bitsOfLength 0 = .ok (.iload_n 0, 1) := by decide +kernel
theorem d_C_bitsOfLength_1 : decode b_C_bitsOfLength 1 = .ok (.ifCond .ne 6, 3) := by decide +kernel
theorem d_C_bitsOfLength_4 : decode b_C_bitsOfLength 4 = .ok (.bipush 12, 2) := by decide +kernel
theorem d_C_bitsOfLength_6 : decode b_C_bitsOfLength 6 = .ok (.ireturn, 1) := by decide +kernel
theorem d_C_bitsOfLength_7 : decode b_C_bitsOfLength 7 = .ok (.iload_n 1, 1) := by decide +kernel
theorem d_C_bitsOfLength_8 : decode b_C_bitsOfLength 8 = .ok (.invokestatic 26, 3) := by decide +kernel
theorem d_C_bitsOfLength_11 : decode b_C_bitsOfLength 11 = .ok (.istore_n 2, 1) := by decide +kernel
theorem d_C_bitsOfLength_12 : decode b_C_bitsOfLength 12 = .ok (.iload_n 0, 1) := by decide +kernel
theorem d_C_bitsOfLength_13 : decode b_C_bitsOfLength 13 = .ok (.iconst 1, 1) := by decide +kernel
theorem d_C_bitsOfLength_14 : decode b_C_bitsOfLength 14 = .ok (.if_icmp .ne 9, 3) := by decide +kernel
theorem d_C_bitsOfLength_17 : decode b_C_bitsOfLength 17 = .ok (.iload_n 2, 1) := by decide +kernel
theorem d_C_bitsOfLength_18 : decode b_C_bitsOfLength 18 = .ok (.iconst 1, 1) := by decide +kernel
theorem d_C_bitsOfLength_19 : decode b_C_bitsOfLength 19 = .ok (.isub, 1) := by decide +kernel
theorem d_C_bitsOfLength_20 : decode b_C_bitsOfLength 20 = .ok (.iload_n 2, 1) := by decide +kernel
theorem d_C_bitsOfLength_21 : decode b_C_bitsOfLength 21 = .ok (.iadd, 1) := by decide +kernel
theorem d_C_bitsOfLength_22 : decode b_C_bitsOfLength 22 = .ok (.ireturn, 1) := by decide +kernel
theorem d_C_bitsOfLength_23 : decode b_C_bitsOfLength 23 = .ok (.iload_n 2, 1) := by decide +kernel
theorem d_C_bitsOfLength_24 : decode b_C_bitsOfLength 24 = .ok (.invokestatic 26, 3) := by decide +kernel
theorem d_C_bitsOfLength_27 : decode b_C_bitsOfLength 27 = .ok (.istore_n 3, 1) := by decide +kernel
theorem d_C_bitsOfLength_28 : decode b_C_bitsOfLength 28 = .ok (.iload_n 3, 1) := by decide +kernel
theorem d_C_bitsOfLength_29 : decode b_C_bitsOfLength 29 = .ok (.iconst 1, 1) := by decide +kernel
theorem d_C_bitsOfLength_30 : decode b_C_bitsOfLength 30 = .ok (.isub, 1) := by decide +kernel
theorem d_C_bitsOfLength_31 : decode b_C_bitsOfLength 31 = .ok (.iload_n 3, 1) := by decide +kernel
theorem d_C_bitsOfLength_32 : decode b_C_bitsOfLength 32 = .ok (.iadd, 1) := by decide +kernel
theorem d_C_bitsOfLength_33 : decode b_C_bitsOfLength 33 = .ok (.iload_n 2, 1) := by decide +kernel
theorem d_C_bitsOfLength_34 : decode b_C_bitsOfLength 34 = .ok (.iadd, 1) := by decide +kernel
theorem d_C_bitsOfLength_35 : decode b_C_bitsOfLength 35 = .ok (.iconst 1, 1) := by decide +kernel
theorem d_C_bitsOfLength_36 : decode b_C_bitsOfLength 36 = .ok (.isub, 1) := by decide +kernel
theorem d_C_bitsOfLength_37 : decode b_C_bitsOfLength 37 = .ok (.ireturn, 1) := by decide +kernel
set_option maxHeartbeats 4000000 in
set_option maxRecDepth 20000 in
theorem c_C_bitsOfLength {l : Launch} {G : va_G} {tys : List (ClassId × FieldType)} (code n : Int) (h : 1 ≤ n ∧ n < 2147483648) (hc : 0 ≤ code ∧ code ≤ 2) : CTP l G tys y_C_bitsOfLength b_C_bitsOfLength 4 .int 1 22 [.int (iI code), .int (iI n)] (fun z => z = lb code n) := by
  unfold CTP
  refine mkI (by decide) (Nat.le_of_ble_eq_true rfl) ?_
  rintro X rfl rfl rfl hRm C kret H ls w hl
  have hl : lv_has ls 4 [(0, .int (iI code)), (1, .int (iI n))] := hl
  have w : Wd X ([]) H [] := w
  generalize ([] : List Loc) = locs at w ⊢
  have hs := lb_cases code n
  refine r_iload_n (pc := 0) C d_C_bitsOfLength_0 rfl (lv_at hl 0 rfl) ?_
  refine r_if_ne (pc := 1) (tgt := 7) C (by omega) d_C_bitsOfLength_1 (by decide) (fun c_1 => ?_) (fun c_1 => ?_)
  · skip
    refine r_iload_n (pc := 7) C d_C_bitsOfLength_7 rfl (lv_at hl 1 rfl) ?_
    refine r_callP (pc := 8) (As := [.int (iI n)]) (rest := []) C w (c_C_widthOf n (by omega)) ml_C_26 st_C_widthOf ini_C cd_C_widthOf hd_C_widthOf rfl (by rw [hRm]; exact ⟨⟨Nat.le_of_ble_eq_true rfl, Nat.le_of_ble_eq_true rfl⟩, Nat.le_of_ble_eq_true rfl, Nat.le_of_ble_eq_true rfl⟩) hl.1 rfl (Nat.le_of_ble_eq_true rfl) d_C_bitsOfLength_8 (fun z_8 H locs hz_8 w => ?_)
    subst hz_8
    have hbl := bl_rg (n := n) (by omega)
    refine r_istore_n (pc := 11) (lv' := [(2, .int (iI (bl n))), (0, .int (iI code)), (1, .int (iI n))]) C d_C_bitsOfLength_11 rfl hl (by decide) rfl (fun ls hl => ?_)
    refine r_iload_n (pc := 12) C d_C_bitsOfLength_12 rfl (lv_at hl 1 rfl) ?_
    refine r_iconst (pc := 13) C d_C_bitsOfLength_13 ?_
    refine r_icmp_ne (pc := 14) (tgt := 23) C (by omega) d_C_bitsOfLength_14 (by decide) (fun c_14 => ?_) (fun c_14 => ?_)
    · skip
      refine r_iload_n (pc := 23) C d_C_bitsOfLength_23 rfl (lv_at hl 0 rfl) ?_
      refine r_callP (pc := 24) (As := [.int (iI (bl n))]) (rest := []) C w (c_C_widthOf (bl n) (by omega)) ml_C_26 st_C_widthOf ini_C cd_C_widthOf hd_C_widthOf rfl (by rw [hRm]; exact ⟨⟨Nat.le_of_ble_eq_true rfl, Nat.le_of_ble_eq_true rfl⟩, Nat.le_of_ble_eq_true rfl, Nat.le_of_ble_eq_true rfl⟩) hl.1 rfl (Nat.le_of_ble_eq_true rfl) d_C_bitsOfLength_24 (fun z_24 H locs hz_24 w => ?_)
      subst hz_24
      have hbl := bl_rg (n := (bl n)) (by omega)
      refine r_istore_n (pc := 27) (lv' := [(3, .int (iI (bl (bl n)))), (2, .int (iI (bl n))), (0, .int (iI code)), (1, .int (iI n))]) C d_C_bitsOfLength_27 rfl hl (by decide) rfl (fun ls hl => ?_)
      refine r_iload_n (pc := 28) C d_C_bitsOfLength_28 rfl (lv_at hl 0 rfl) ?_
      refine r_iconst (pc := 29) C d_C_bitsOfLength_29 ?_
      refine r_isub (pc := 30) C d_C_bitsOfLength_30 ?_
      refine r_iload_n (pc := 31) C d_C_bitsOfLength_31 rfl (lv_at hl 0 rfl) ?_
      refine r_iadd (pc := 32) C d_C_bitsOfLength_32 ?_
      refine r_iload_n (pc := 33) C d_C_bitsOfLength_33 rfl (lv_at hl 1 rfl) ?_
      refine r_iadd (pc := 34) C d_C_bitsOfLength_34 ?_
      refine r_iconst (pc := 35) C d_C_bitsOfLength_35 ?_
      refine r_isub (pc := 36) C d_C_bitsOfLength_36 ?_
      exact kret _ _ _ _ (((((bl (bl n)) - 1) + (bl (bl n))) + (bl n)) - 1) _ d_C_bitsOfLength_37 w (⟨rfl, by omega⟩)
    · skip
      refine r_iload_n (pc := 17) C d_C_bitsOfLength_17 rfl (lv_at hl 0 rfl) ?_
      refine r_iconst (pc := 18) C d_C_bitsOfLength_18 ?_
      refine r_isub (pc := 19) C d_C_bitsOfLength_19 ?_
      refine r_iload_n (pc := 20) C d_C_bitsOfLength_20 rfl (lv_at hl 0 rfl) ?_
      refine r_iadd (pc := 21) C d_C_bitsOfLength_21 ?_
      exact kret _ _ _ _ (((bl n) - 1) + (bl n)) _ d_C_bitsOfLength_22 w (⟨rfl, by omega⟩)
  · skip
    refine r_bipush (pc := 4) C d_C_bitsOfLength_4 (by decide) ?_
    exact kret _ _ _ _ 12 _ d_C_bitsOfLength_6 w (⟨rfl, by omega⟩)
theorem d_C_bitsOfRun_0 : decode b_C_bitsOfRun 0 = .ok (.iload_n 1, 1) := by decide +kernel
theorem d_C_bitsOfRun_1 : decode b_C_bitsOfRun 1 = .ok (.invokestatic 9, 3) := by decide +kernel
theorem d_C_bitsOfRun_4 : decode b_C_bitsOfRun 4 = .ok (.iload_n 0, 1) := by decide +kernel
theorem d_C_bitsOfRun_5 : decode b_C_bitsOfRun 5 = .ok (.iload_n 2, 1) := by decide +kernel
theorem d_C_bitsOfRun_6 : decode b_C_bitsOfRun 6 = .ok (.invokestatic 15, 3) := by decide +kernel
theorem d_C_bitsOfRun_9 : decode b_C_bitsOfRun 9 = .ok (.iadd, 1) := by decide +kernel
theorem d_C_bitsOfRun_10 : decode b_C_bitsOfRun 10 = .ok (.ireturn, 1) := by decide +kernel
set_option maxHeartbeats 4000000 in
set_option maxRecDepth 20000 in
theorem c_C_bitsOfRun {l : Launch} {G : va_G} {tys : List (ClassId × FieldType)} (code s n : Int) (h : 1 ≤ n ∧ n < 2147483648) (hc : 0 ≤ code ∧ code ≤ 2) (hs : 0 ≤ s ∧ s ≤ 10) : CTP l G tys y_C_bitsOfRun b_C_bitsOfRun 3 .int 2 45 [.int (iI code), .int (iI s), .int (iI n)] (fun z => z = rb code s n) := by
  unfold CTP
  refine mkI (by decide) (Nat.le_of_ble_eq_true rfl) ?_
  rintro X rfl rfl rfl hRm C kret H ls w hl
  have hl : lv_has ls 3 [(0, .int (iI code)), (1, .int (iI s)), (2, .int (iI n))] := hl
  have w : Wd X ([]) H [] := w
  generalize ([] : List Loc) = locs at w ⊢
  refine r_iload_n (pc := 0) C d_C_bitsOfRun_0 rfl (lv_at hl 1 rfl) ?_
  refine r_callP (pc := 1) (As := [.int (iI s)]) (rest := []) C w (c_C_bitsOfSign s (by omega)) ml_C_9 st_C_bitsOfSign ini_C cd_C_bitsOfSign hd_C_bitsOfSign rfl (by rw [hRm]; exact ⟨⟨Nat.le_of_ble_eq_true rfl, Nat.le_of_ble_eq_true rfl⟩, Nat.le_of_ble_eq_true rfl, Nat.le_of_ble_eq_true rfl⟩) hl.1 rfl (Nat.le_of_ble_eq_true rfl) d_C_bitsOfRun_1 (fun z_1 H locs hz_1 w => ?_)
  subst hz_1
  have hsb := sb_cases s
  refine r_iload_n (pc := 4) C d_C_bitsOfRun_4 rfl (lv_at hl 0 rfl) ?_
  refine r_iload_n (pc := 5) C d_C_bitsOfRun_5 rfl (lv_at hl 2 rfl) ?_
  refine r_callP (pc := 6) (As := [.int (iI code), .int (iI n)]) (rest := [.int (iI (sb s))]) C w (c_C_bitsOfLength code n (by omega) (by omega)) ml_C_15 st_C_bitsOfLength ini_C cd_C_bitsOfLength hd_C_bitsOfLength rfl (by rw [hRm]; exact ⟨⟨Nat.le_of_ble_eq_true rfl, Nat.le_of_ble_eq_true rfl⟩, Nat.le_of_ble_eq_true rfl, Nat.le_of_ble_eq_true rfl⟩) hl.1 rfl (Nat.le_of_ble_eq_true rfl) d_C_bitsOfRun_6 (fun z_6 H locs hz_6 w => ?_)
  subst hz_6
  have hlb := lb_rg (code := code) (n := n) (by omega)
  refine r_iadd (pc := 9) C d_C_bitsOfRun_9 ?_
  exact kret _ _ _ _ ((sb s) + (lb code n)) _ d_C_bitsOfRun_10 w (⟨rfl, rfl⟩)
theorem d_C_bitOfLength_0 : decode b_C_bitOfLength 0 = .ok (.iload_n 0, 1) := by decide +kernel
theorem d_C_bitOfLength_1 : decode b_C_bitOfLength 1 = .ok (.ifCond .ne 11, 3) := by decide +kernel
theorem d_C_bitOfLength_4 : decode b_C_bitOfLength 4 = .ok (.iload_n 1, 1) := by decide +kernel
theorem d_C_bitOfLength_5 : decode b_C_bitOfLength 5 = .ok (.bipush 12, 2) := by decide +kernel
theorem d_C_bitOfLength_7 : decode b_C_bitOfLength 7 = .ok (.iload_n 2, 1) := by decide +kernel
theorem d_C_bitOfLength_8 : decode b_C_bitOfLength 8 = .ok (.invokestatic 23, 3) := by decide +kernel
theorem d_C_bitOfLength_11 : decode b_C_bitOfLength 11 = .ok (.ireturn, 1) := by decide +kernel
theorem d_C_bitOfLength_12 : decode b_C_bitOfLength 12 = .ok (.iload_n 1, 1) := by decide +kernel
theorem d_C_bitOfLength_13 : decode b_C_bitOfLength 13 = .ok (.invokestatic 26, 3) := by decide +kernel
theorem d_C_bitOfLength_16 : decode b_C_bitOfLength 16 = .ok (.istore_n 3, 1) := by decide +kernel
theorem d_C_bitOfLength_17 : decode b_C_bitOfLength 17 = .ok (.iload_n 0, 1) := by decide +kernel
theorem d_C_bitOfLength_18 : decode b_C_bitOfLength 18 = .ok (.iconst 1, 1) := by decide +kernel
theorem d_C_bitOfLength_19 : decode b_C_bitOfLength 19 = .ok (.if_icmp .ne 25, 3) := by decide +kernel
theorem d_C_bitOfLength_22 : decode b_C_bitOfLength 22 = .ok (.iload_n 2, 1) := by decide +kernel
theorem d_C_bitOfLength_23 : decode b_C_bitOfLength 23 = .ok (.iload_n 3, 1) := by decide +kernel
theorem d_C_bitOfLength_24 : decode b_C_bitOfLength 24 = .ok (.iconst 1, 1) := by decide +kernel
theorem d_C_bitOfLength_25 : decode b_C_bitOfLength 25 = .ok (.isub, 1) := by decide +kernel
theorem d_C_bitOfLength_26 : decode b_C_bitOfLength 26 = .ok (.if_icmp .ge 7, 3) := by decide +kernel
theorem d_C_bitOfLength_29 : decode b_C_bitOfLength 29 = .ok (.iconst 0, 1) := by decide +kernel
theorem d_C_bitOfLength_30 : decode b_C_bitOfLength 30 = .ok (.goto 13, 3) := by decide +kernel
theorem d_C_bitOfLength_33 : decode b_C_bitOfLength 33 = .ok (.iload_n 1, 1) := by decide +kernel
theorem d_C_bitOfLength_34 : decode b_C_bitOfLength 34 = .ok (.iload_n 3, 1) := by decide +kernel
theorem d_C_bitOfLength_35 : decode b_C_bitOfLength 35 = .ok (.iload_n 2, 1) := by decide +kernel
theorem d_C_bitOfLength_36 : decode b_C_bitOfLength 36 = .ok (.iload_n 3, 1) := by decide +kernel
theorem d_C_bitOfLength_37 : decode b_C_bitOfLength 37 = .ok (.iconst 1, 1) := by decide +kernel
theorem d_C_bitOfLength_38 : decode b_C_bitOfLength 38 = .ok (.isub, 1) := by decide +kernel
theorem d_C_bitOfLength_39 : decode b_C_bitOfLength 39 = .ok (.isub, 1) := by decide +kernel
theorem d_C_bitOfLength_40 : decode b_C_bitOfLength 40 = .ok (.invokestatic 23, 3) := by decide +kernel
theorem d_C_bitOfLength_43 : decode b_C_bitOfLength 43 = .ok (.ireturn, 1) := by decide +kernel
theorem d_C_bitOfLength_44 : decode b_C_bitOfLength 44 = .ok (.iload_n 3, 1) := by decide +kernel
theorem d_C_bitOfLength_45 : decode b_C_bitOfLength 45 = .ok (.invokestatic 26, 3) := by decide +kernel
theorem d_C_bitOfLength_48 : decode b_C_bitOfLength 48 = .ok (.istore 4, 2) := by decide +kernel
theorem d_C_bitOfLength_50 : decode b_C_bitOfLength 50 = .ok (.iload_n 2, 1) := by decide +kernel
theorem d_C_bitOfLength_51 : decode b_C_bitOfLength 51 = .ok (.iload 4, 2) := by decide +kernel
theorem d_C_bitOfLength_53 : decode b_C_bitOfLength 53 = .ok (.iconst 1, 1) := by decide +kernel
theorem d_C_bitOfLength_54 : decode b_C_bitOfLength 54 = .ok (.isub, 1) := by decide +kernel
theorem d_C_bitOfLength_55 : decode b_C_bitOfLength 55 = .ok (.isub, 1) := by decide +kernel
theorem d_C_bitOfLength_56 : decode b_C_bitOfLength 56 = .ok (.istore 5, 2) := by decide +kernel
theorem d_C_bitOfLength_58 : decode b_C_bitOfLength 58 = .ok (.iload 5, 2) := by decide +kernel
theorem d_C_bitOfLength_60 : decode b_C_bitOfLength 60 = .ok (.ifCond .ge 5, 3) := by decide +kernel
theorem d_C_bitOfLength_63 : decode b_C_bitOfLength 63 = .ok (.iconst 0, 1) := by decide +kernel
theorem d_C_bitOfLength_64 : decode b_C_bitOfLength 64 = .ok (.ireturn, 1) := by decide +kernel
theorem d_C_bitOfLength_65 : decode b_C_bitOfLength 65 = .ok (.iload 5, 2) := by decide +kernel
theorem d_C_bitOfLength_67 : decode b_C_bitOfLength 67 = .ok (.iload 4, 2) := by decide +kernel
theorem d_C_bitOfLength_69 : decode b_C_bitOfLength 69 = .ok (.if_icmp .ge 12, 3) := by decide +kernel
theorem d_C_bitOfLength_72 : decode b_C_bitOfLength 72 = .ok (.iload_n 3, 1) := by decide +kernel
theorem d_C_bitOfLength_73 : decode b_C_bitOfLength 73 = .ok (.iload 4, 2) := by decide +kernel
theorem d_C_bitOfLength_75 : decode b_C_bitOfLength 75 = .ok (.iload 5, 2) := by decide +kernel
theorem d_C_bitOfLength_77 : decode b_C_bitOfLength 77 = .ok (.invokestatic 23, 3) := by decide +kernel
theorem d_C_bitOfLength_80 : decode b_C_bitOfLength 80 = .ok (.ireturn, 1) := by decide +kernel
theorem d_C_bitOfLength_81 : decode b_C_bitOfLength 81 = .ok (.iload_n 1, 1) := by decide +kernel
theorem d_C_bitOfLength_82 : decode b_C_bitOfLength 82 = .ok (.iload_n 3, 1) := by decide +kernel
theorem d_C_bitOfLength_83 : decode b_C_bitOfLength 83 = .ok (.iload 5, 2) := by decide +kernel
theorem d_C_bitOfLength_85 : decode b_C_bitOfLength 85 = .ok (.iload 4, 2) := by decide +kernel
theorem d_C_bitOfLength_87 : decode b_C_bitOfLength 87 = .ok (.isub, 1) := by decide +kernel
theorem d_C_bitOfLength_88 : decode b_C_bitOfLength 88 = .ok (.iconst 1, 1) := by decide +kernel
theorem d_C_bitOfLength_89 : decode b_C_bitOfLength 89 = .ok (.iadd, 1) := by decide +kernel
theorem d_C_bitOfLength_90 : decode b_C_bitOfLength 90 = .ok (.invokestatic 23, 3) := by decide +kernel
theorem d_C_bitOfLength_93 : decode b_C_bitOfLength 93 = .ok (.ireturn, 1) := by decide +kernel
set_option maxHeartbeats 4000000 in
set_option maxRecDepth 20000 in
theorem c_C_bitOfLength {l : Launch} {G : va_G} {tys : List (ClassId × FieldType)} (code n a : Int) (h : 1 ≤ n ∧ n < 2147483648) (hc : 0 ≤ code ∧ code ≤ 2) (ha : 0 ≤ a ∧ a < 1000) : CTP l G tys y_C_bitOfLength b_C_bitOfLength 6 .int 1 22 [.int (iI code), .int (iI n), .int (iI a)] (fun z => z = lbit code n a) := by
  unfold CTP
  refine mkI (by decide) (Nat.le_of_ble_eq_true rfl) ?_
  rintro X rfl rfl rfl hRm C kret H ls w hl
  have hl : lv_has ls 6 [(0, .int (iI code)), (1, .int (iI n)), (2, .int (iI a))] := hl
  have w : Wd X ([]) H [] := w
  generalize ([] : List Loc) = locs at w ⊢
  refine r_iload_n (pc := 0) C d_C_bitOfLength_0 rfl (lv_at hl 0 rfl) ?_
  refine r_if_ne (pc := 1) (tgt := 12) C (by omega) d_C_bitOfLength_1 (by decide) (fun c_1 => ?_) (fun c_1 => ?_)
  · skip
    refine r_iload_n (pc := 12) C d_C_bitOfLength_12 rfl (lv_at hl 1 rfl) ?_
    refine r_callP (pc := 13) (As := [.int (iI n)]) (rest := []) C w (c_C_widthOf n (by omega)) ml_C_26 st_C_widthOf ini_C cd_C_widthOf hd_C_widthOf rfl (by rw [hRm]; exact ⟨⟨Nat.le_of_ble_eq_true rfl, Nat.le_of_ble_eq_true rfl⟩, Nat.le_of_ble_eq_true rfl, Nat.le_of_ble_eq_true rfl⟩) hl.1 rfl (Nat.le_of_ble_eq_true rfl) d_C_bitOfLength_13 (fun z_13 H locs hz_13 w => ?_)
    subst hz_13
    have hbl := bl_rg (n := n) (by omega)
    refine r_istore_n (pc := 16) (lv' := [(3, .int (iI (bl n))), (0, .int (iI code)), (1, .int (iI n)), (2, .int (iI a))]) C d_C_bitOfLength_16 rfl hl (by decide) rfl (fun ls hl => ?_)
    refine r_iload_n (pc := 17) C d_C_bitOfLength_17 rfl (lv_at hl 1 rfl) ?_
    refine r_iconst (pc := 18) C d_C_bitOfLength_18 ?_
    refine r_icmp_ne (pc := 19) (tgt := 44) C (by omega) d_C_bitOfLength_19 (by decide) (fun c_19 => ?_) (fun c_19 => ?_)
    · skip
      refine r_iload_n (pc := 44) C d_C_bitOfLength_44 rfl (lv_at hl 0 rfl) ?_
      refine r_callP (pc := 45) (As := [.int (iI (bl n))]) (rest := []) C w (c_C_widthOf (bl n) (by omega)) ml_C_26 st_C_widthOf ini_C cd_C_widthOf hd_C_widthOf rfl (by rw [hRm]; exact ⟨⟨Nat.le_of_ble_eq_true rfl, Nat.le_of_ble_eq_true rfl⟩, Nat.le_of_ble_eq_true rfl, Nat.le_of_ble_eq_true rfl⟩) hl.1 rfl (Nat.le_of_ble_eq_true rfl) d_C_bitOfLength_45 (fun z_45 H locs hz_45 w => ?_)
      subst hz_45
      have hbl := bl_rg (n := (bl n)) (by omega)
      refine r_istore (pc := 48) (lv' := [(4, .int (iI (bl (bl n)))), (3, .int (iI (bl n))), (0, .int (iI code)), (1, .int (iI n)), (2, .int (iI a))]) C d_C_bitOfLength_48 hl (by decide) rfl (fun ls hl => ?_)
      refine r_iload_n (pc := 50) C d_C_bitOfLength_50 rfl (lv_at hl 4 rfl) ?_
      refine r_iload (pc := 51) C d_C_bitOfLength_51 (lv_at hl 0 rfl) ?_
      refine r_iconst (pc := 53) C d_C_bitOfLength_53 ?_
      refine r_isub (pc := 54) C d_C_bitOfLength_54 ?_
      refine r_isub (pc := 55) C d_C_bitOfLength_55 ?_
      refine r_istore (pc := 56) (lv' := [(5, .int (iI (a - ((bl (bl n)) - 1)))), (4, .int (iI (bl (bl n)))), (3, .int (iI (bl n))), (0, .int (iI code)), (1, .int (iI n)), (2, .int (iI a))]) C d_C_bitOfLength_56 hl (by decide) rfl (fun ls hl => ?_)
      refine r_iload (pc := 58) C d_C_bitOfLength_58 (lv_at hl 0 rfl) ?_
      refine r_if_ge (pc := 60) (tgt := 65) C (by omega) d_C_bitOfLength_60 (by decide) (fun c_60 => ?_) (fun c_60 => ?_)
      · skip
        refine r_iload (pc := 65) C d_C_bitOfLength_65 (lv_at hl 0 rfl) ?_
        refine r_iload (pc := 67) C d_C_bitOfLength_67 (lv_at hl 1 rfl) ?_
        refine r_icmp_ge (pc := 69) (tgt := 81) C (by omega) d_C_bitOfLength_69 (by decide) (fun c_69 => ?_) (fun c_69 => ?_)
        · skip
          refine r_iload_n (pc := 81) C d_C_bitOfLength_81 rfl (lv_at hl 4 rfl) ?_
          refine r_iload_n (pc := 82) C d_C_bitOfLength_82 rfl (lv_at hl 2 rfl) ?_
          refine r_iload (pc := 83) C d_C_bitOfLength_83 (lv_at hl 0 rfl) ?_
          refine r_iload (pc := 85) C d_C_bitOfLength_85 (lv_at hl 1 rfl) ?_
          refine r_isub (pc := 87) C d_C_bitOfLength_87 ?_
          refine r_iconst (pc := 88) C d_C_bitOfLength_88 ?_
          refine r_iadd (pc := 89) C d_C_bitOfLength_89 ?_
          refine r_callP (pc := 90) (As := [.int (iI n), .int (iI (bl n)), .int (iI (((a - ((bl (bl n)) - 1)) - (bl (bl n))) + 1))]) (rest := []) C w (c_C_bitOfNumber n (bl n) (((a - ((bl (bl n)) - 1)) - (bl (bl n))) + 1) ) ml_C_23 st_C_bitOfNumber ini_C cd_C_bitOfNumber hd_C_bitOfNumber rfl (by rw [hRm]; exact ⟨⟨Nat.le_of_ble_eq_true rfl, Nat.le_of_ble_eq_true rfl⟩, Nat.le_of_ble_eq_true rfl, Nat.le_of_ble_eq_true rfl⟩) hl.1 rfl (Nat.le_of_ble_eq_true rfl) d_C_bitOfLength_90 (fun z_90 H locs hz_90 w => ?_)
          subst hz_90
          exact kret _ _ _ _ (bnr n ((bl n) - 1 - (((a - ((bl (bl n)) - 1)) - (bl (bl n))) + 1))) _ d_C_bitOfLength_93 w (⟨rfl, by unfold lbit; (repeat' split) <;> first | omega | (congr 1 <;> omega) | (exfalso; omega)⟩)
        · skip
          refine r_iload_n (pc := 72) C d_C_bitOfLength_72 rfl (lv_at hl 2 rfl) ?_
          refine r_iload (pc := 73) C d_C_bitOfLength_73 (lv_at hl 1 rfl) ?_
          refine r_iload (pc := 75) C d_C_bitOfLength_75 (lv_at hl 0 rfl) ?_
          refine r_callP (pc := 77) (As := [.int (iI (bl n)), .int (iI (bl (bl n))), .int (iI (a - ((bl (bl n)) - 1)))]) (rest := []) C w (c_C_bitOfNumber (bl n) (bl (bl n)) (a - ((bl (bl n)) - 1)) ) ml_C_23 st_C_bitOfNumber ini_C cd_C_bitOfNumber hd_C_bitOfNumber rfl (by rw [hRm]; exact ⟨⟨Nat.le_of_ble_eq_true rfl, Nat.le_of_ble_eq_true rfl⟩, Nat.le_of_ble_eq_true rfl, Nat.le_of_ble_eq_true rfl⟩) hl.1 rfl (Nat.le_of_ble_eq_true rfl) d_C_bitOfLength_77 (fun z_77 H locs hz_77 w => ?_)
          subst hz_77
          exact kret _ _ _ _ (bnr (bl n) ((bl (bl n)) - 1 - (a - ((bl (bl n)) - 1)))) _ d_C_bitOfLength_80 w (⟨rfl, by unfold lbit; (repeat' split) <;> first | omega | (congr 1 <;> omega) | (exfalso; omega)⟩)
      · skip
        refine r_iconst (pc := 63) C d_C_bitOfLength_63 ?_
        exact kret _ _ _ _ 0 _ d_C_bitOfLength_64 w (⟨rfl, by unfold lbit; (repeat' split) <;> first | omega | (congr 1 <;> omega) | (exfalso; omega)⟩)
    · skip
      refine r_iload_n (pc := 22) C d_C_bitOfLength_22 rfl (lv_at hl 3 rfl) ?_
      refine r_iload_n (pc := 23) C d_C_bitOfLength_23 rfl (lv_at hl 0 rfl) ?_
      refine r_iconst (pc := 24) C d_C_bitOfLength_24 ?_
      refine r_isub (pc := 25) C d_C_bitOfLength_25 ?_
      refine r_icmp_ge (pc := 26) (tgt := 33) C (by omega) d_C_bitOfLength_26 (by decide) (fun c_26 => ?_) (fun c_26 => ?_)
      · skip
        refine r_iload_n (pc := 33) C d_C_bitOfLength_33 rfl (lv_at hl 2 rfl) ?_
        refine r_iload_n (pc := 34) C d_C_bitOfLength_34 rfl (lv_at hl 0 rfl) ?_
        refine r_iload_n (pc := 35) C d_C_bitOfLength_35 rfl (lv_at hl 3 rfl) ?_
        refine r_iload_n (pc := 36) C d_C_bitOfLength_36 rfl (lv_at hl 0 rfl) ?_
        refine r_iconst (pc := 37) C d_C_bitOfLength_37 ?_
        refine r_isub (pc := 38) C d_C_bitOfLength_38 ?_
        refine r_isub (pc := 39) C d_C_bitOfLength_39 ?_
        refine r_callP (pc := 40) (As := [.int (iI n), .int (iI (bl n)), .int (iI (a - ((bl n) - 1)))]) (rest := []) C w (c_C_bitOfNumber n (bl n) (a - ((bl n) - 1)) ) ml_C_23 st_C_bitOfNumber ini_C cd_C_bitOfNumber hd_C_bitOfNumber rfl (by rw [hRm]; exact ⟨⟨Nat.le_of_ble_eq_true rfl, Nat.le_of_ble_eq_true rfl⟩, Nat.le_of_ble_eq_true rfl, Nat.le_of_ble_eq_true rfl⟩) hl.1 rfl (Nat.le_of_ble_eq_true rfl) d_C_bitOfLength_40 (fun z_40 H locs hz_40 w => ?_)
        subst hz_40
        exact kret _ _ _ _ (bnr n ((bl n) - 1 - (a - ((bl n) - 1)))) _ d_C_bitOfLength_43 w (⟨rfl, by unfold lbit; (repeat' split) <;> first | omega | (congr 1 <;> omega) | (exfalso; omega)⟩)
      · skip
        refine r_iconst (pc := 29) C d_C_bitOfLength_29 ?_
        refine r_goto (pc := 30) (tgt := 43) C d_C_bitOfLength_30 (by decide) ?_
        exact kret _ _ _ _ 0 _ d_C_bitOfLength_43 w (⟨rfl, by unfold lbit; (repeat' split) <;> first | omega | (congr 1 <;> omega) | (exfalso; omega)⟩)
  · skip
    refine r_iload_n (pc := 4) C d_C_bitOfLength_4 rfl (lv_at hl 1 rfl) ?_
    refine r_bipush (pc := 5) C d_C_bitOfLength_5 (by decide) ?_
    refine r_iload_n (pc := 7) C d_C_bitOfLength_7 rfl (lv_at hl 2 rfl) ?_
    refine r_callP (pc := 8) (As := [.int (iI n), .int (iI 12), .int (iI a)]) (rest := []) C w (c_C_bitOfNumber n 12 a ) ml_C_23 st_C_bitOfNumber ini_C cd_C_bitOfNumber hd_C_bitOfNumber rfl (by rw [hRm]; exact ⟨⟨Nat.le_of_ble_eq_true rfl, Nat.le_of_ble_eq_true rfl⟩, Nat.le_of_ble_eq_true rfl, Nat.le_of_ble_eq_true rfl⟩) hl.1 rfl (Nat.le_of_ble_eq_true rfl) d_C_bitOfLength_8 (fun z_8 H locs hz_8 w => ?_)
    subst hz_8
    exact kret _ _ _ _ (bnr n (12 - 1 - a)) _ d_C_bitOfLength_11 w (⟨rfl, by unfold lbit; (repeat' split) <;> first | omega | (congr 1 <;> omega) | (exfalso; omega)⟩)
theorem d_C_bitOfRun_0 : decode b_C_bitOfRun 0 = .ok (.iload_n 1, 1) := by decide +kernel
theorem d_C_bitOfRun_1 : decode b_C_bitOfRun 1 = .ok (.invokestatic 9, 3) := by decide +kernel
theorem d_C_bitOfRun_4 : decode b_C_bitOfRun 4 = .ok (.istore 4, 2) := by decide +kernel
theorem d_C_bitOfRun_6 : decode b_C_bitOfRun 6 = .ok (.iload_n 3, 1) := by decide +kernel
theorem d_C_bitOfRun_7 : decode b_C_bitOfRun 7 = .ok (.iload 4, 2) := by decide +kernel
theorem d_C_bitOfRun_9 : decode b_C_bitOfRun 9 = .ok (.if_icmp .lt 13, 3) := by decide +kernel
theorem d_C_bitOfRun_12 : decode b_C_bitOfRun 12 = .ok (.iload_n 0, 1) := by decide +kernel
theorem d_C_bitOfRun_13 : decode b_C_bitOfRun 13 = .ok (.iload_n 2, 1) := by decide +kernel
theorem d_C_bitOfRun_14 : decode b_C_bitOfRun 14 = .ok (.iload_n 3, 1) := by decide +kernel
theorem d_C_bitOfRun_15 : decode b_C_bitOfRun 15 = .ok (.iload 4, 2) := by decide +kernel
theorem d_C_bitOfRun_17 : decode b_C_bitOfRun 17 = .ok (.isub, 1) := by decide +kernel
theorem d_C_bitOfRun_18 : decode b_C_bitOfRun 18 = .ok (.invokestatic 19, 3) := by decide +kernel
theorem d_C_bitOfRun_21 : decode b_C_bitOfRun 21 = .ok (.ireturn, 1) := by decide +kernel
theorem d_C_bitOfRun_22 : decode b_C_bitOfRun 22 = .ok (.iload_n 3, 1) := by decide +kernel
theorem d_C_bitOfRun_23 : decode b_C_bitOfRun 23 = .ok (.ifCond .ne 15, 3) := by decide +kernel
theorem d_C_bitOfRun_26 : decode b_C_bitOfRun 26 = .ok (.iload_n 1, 1) := by decide +kernel
theorem d_C_bitOfRun_27 : decode b_C_bitOfRun 27 = .ok (.bipush 10, 2) := by decide +kernel
theorem d_C_bitOfRun_29 : decode b_C_bitOfRun 29 = .ok (.if_icmp .ne 7, 3) := by decide +kernel
theorem d_C_bitOfRun_32 : decode b_C_bitOfRun 32 = .ok (.iconst 1, 1) := by decide +kernel
theorem d_C_bitOfRun_33 : decode b_C_bitOfRun 33 = .ok (.goto 4, 3) := by decide +kernel
theorem d_C_bitOfRun_36 : decode b_C_bitOfRun 36 = .ok (.iconst 0, 1) := by decide +kernel
theorem d_C_bitOfRun_37 : decode b_C_bitOfRun 37 = .ok (.ireturn, 1) := by decide +kernel
theorem d_C_bitOfRun_38 : decode b_C_bitOfRun 38 = .ok (.iload_n 1, 1) := by decide +kernel
theorem d_C_bitOfRun_39 : decode b_C_bitOfRun 39 = .ok (.iload 4, 2) := by decide +kernel
theorem d_C_bitOfRun_41 : decode b_C_bitOfRun 41 = .ok (.iconst 1, 1) := by decide +kernel
theorem d_C_bitOfRun_42 : decode b_C_bitOfRun 42 = .ok (.isub, 1) := by decide +kernel
theorem d_C_bitOfRun_43 : decode b_C_bitOfRun 43 = .ok (.iload_n 3, 1) := by decide +kernel
theorem d_C_bitOfRun_44 : decode b_C_bitOfRun 44 = .ok (.iconst 1, 1) := by decide +kernel
theorem d_C_bitOfRun_45 : decode b_C_bitOfRun 45 = .ok (.isub, 1) := by decide +kernel
theorem d_C_bitOfRun_46 : decode b_C_bitOfRun 46 = .ok (.invokestatic 23, 3) := by decide +kernel
theorem d_C_bitOfRun_49 : decode b_C_bitOfRun 49 = .ok (.ireturn, 1) := by decide +kernel
set_option maxHeartbeats 4000000 in
set_option maxRecDepth 20000 in
theorem c_C_bitOfRun {l : Launch} {G : va_G} {tys : List (ClassId × FieldType)} (code s n a : Int) (h : 1 ≤ n ∧ n < 2147483648) (hc : 0 ≤ code ∧ code ≤ 2) (hs : 0 ≤ s ∧ s ≤ 10) (ha : 0 ≤ a ∧ a < 1000) : CTP l G tys y_C_bitOfRun b_C_bitOfRun 5 .int 2 47 [.int (iI code), .int (iI s), .int (iI n), .int (iI a)] (fun z => z = brun code s n a) := by
  unfold CTP
  refine mkI (by decide) (Nat.le_of_ble_eq_true rfl) ?_
  rintro X rfl rfl rfl hRm C kret H ls w hl
  have hl : lv_has ls 5 [(0, .int (iI code)), (1, .int (iI s)), (2, .int (iI n)), (3, .int (iI a))] := hl
  have w : Wd X ([]) H [] := w
  generalize ([] : List Loc) = locs at w ⊢
  refine r_iload_n (pc := 0) C d_C_bitOfRun_0 rfl (lv_at hl 1 rfl) ?_
  refine r_callP (pc := 1) (As := [.int (iI s)]) (rest := []) C w (c_C_bitsOfSign s (by omega)) ml_C_9 st_C_bitsOfSign ini_C cd_C_bitsOfSign hd_C_bitsOfSign rfl (by rw [hRm]; exact ⟨⟨Nat.le_of_ble_eq_true rfl, Nat.le_of_ble_eq_true rfl⟩, Nat.le_of_ble_eq_true rfl, Nat.le_of_ble_eq_true rfl⟩) hl.1 rfl (Nat.le_of_ble_eq_true rfl) d_C_bitOfRun_1 (fun z_1 H locs hz_1 w => ?_)
  subst hz_1
  have hsb := sb_cases s
  refine r_istore (pc := 4) (lv' := [(4, .int (iI (sb s))), (0, .int (iI code)), (1, .int (iI s)), (2, .int (iI n)), (3, .int (iI a))]) C d_C_bitOfRun_4 hl (by decide) rfl (fun ls hl => ?_)
  refine r_iload_n (pc := 6) C d_C_bitOfRun_6 rfl (lv_at hl 4 rfl) ?_
  refine r_iload (pc := 7) C d_C_bitOfRun_7 (lv_at hl 0 rfl) ?_
  refine r_icmp_lt (pc := 9) (tgt := 22) C (by omega) d_C_bitOfRun_9 (by decide) (fun c_9 => ?_) (fun c_9 => ?_)
  · skip
    refine r_iload_n (pc := 22) C d_C_bitOfRun_22 rfl (lv_at hl 4 rfl) ?_
    refine r_if_ne (pc := 23) (tgt := 38) C (by omega) d_C_bitOfRun_23 (by decide) (fun c_23 => ?_) (fun c_23 => ?_)
    · skip
      refine r_iload_n (pc := 38) C d_C_bitOfRun_38 rfl (lv_at hl 2 rfl) ?_
      refine r_iload (pc := 39) C d_C_bitOfRun_39 (lv_at hl 0 rfl) ?_
      refine r_iconst (pc := 41) C d_C_bitOfRun_41 ?_
      refine r_isub (pc := 42) C d_C_bitOfRun_42 ?_
      refine r_iload_n (pc := 43) C d_C_bitOfRun_43 rfl (lv_at hl 4 rfl) ?_
      refine r_iconst (pc := 44) C d_C_bitOfRun_44 ?_
      refine r_isub (pc := 45) C d_C_bitOfRun_45 ?_
      refine r_callP (pc := 46) (As := [.int (iI s), .int (iI ((sb s) - 1)), .int (iI (a - 1))]) (rest := []) C w (c_C_bitOfNumber s ((sb s) - 1) (a - 1) ) ml_C_23 st_C_bitOfNumber ini_C cd_C_bitOfNumber hd_C_bitOfNumber rfl (by rw [hRm]; exact ⟨⟨Nat.le_of_ble_eq_true rfl, Nat.le_of_ble_eq_true rfl⟩, Nat.le_of_ble_eq_true rfl, Nat.le_of_ble_eq_true rfl⟩) hl.1 rfl (Nat.le_of_ble_eq_true rfl) d_C_bitOfRun_46 (fun z_46 H locs hz_46 w => ?_)
      subst hz_46
      exact kret _ _ _ _ (bnr s (((sb s) - 1) - 1 - (a - 1))) _ d_C_bitOfRun_49 w (⟨rfl, by unfold brun; (repeat' split) <;> first | omega | (congr 1 <;> omega) | (exfalso; omega) | (rw [show a = 0 by omega]; exact (bnr_top (by omega)).symm)⟩)
    · skip
      refine r_iload_n (pc := 26) C d_C_bitOfRun_26 rfl (lv_at hl 2 rfl) ?_
      refine r_bipush (pc := 27) C d_C_bitOfRun_27 (by decide) ?_
      refine r_icmp_ne (pc := 29) (tgt := 36) C (by omega) d_C_bitOfRun_29 (by decide) (fun c_29 => ?_) (fun c_29 => ?_)
      · skip
        refine r_iconst (pc := 36) C d_C_bitOfRun_36 ?_
        exact kret _ _ _ _ 0 _ d_C_bitOfRun_37 w (⟨rfl, by unfold brun; (repeat' split) <;> first | omega | (congr 1 <;> omega) | (exfalso; omega) | (rw [show a = 0 by omega]; exact (bnr_top (by omega)).symm)⟩)
      · skip
        refine r_iconst (pc := 32) C d_C_bitOfRun_32 ?_
        refine r_goto (pc := 33) (tgt := 37) C d_C_bitOfRun_33 (by decide) ?_
        exact kret _ _ _ _ 1 _ d_C_bitOfRun_37 w (⟨rfl, by unfold brun; (repeat' split) <;> first | omega | (congr 1 <;> omega) | (exfalso; omega) | (rw [show a = 0 by omega]; exact (bnr_top (by omega)).symm)⟩)
  · skip
    refine r_iload_n (pc := 12) C d_C_bitOfRun_12 rfl (lv_at hl 1 rfl) ?_
    refine r_iload_n (pc := 13) C d_C_bitOfRun_13 rfl (lv_at hl 3 rfl) ?_
    refine r_iload_n (pc := 14) C d_C_bitOfRun_14 rfl (lv_at hl 4 rfl) ?_
    refine r_iload (pc := 15) C d_C_bitOfRun_15 (lv_at hl 0 rfl) ?_
    refine r_isub (pc := 17) C d_C_bitOfRun_17 ?_
    refine r_callP (pc := 18) (As := [.int (iI code), .int (iI n), .int (iI (a - (sb s)))]) (rest := []) C w (c_C_bitOfLength code n (a - (sb s)) (by omega) (by omega) (by omega)) ml_C_19 st_C_bitOfLength ini_C cd_C_bitOfLength hd_C_bitOfLength rfl (by rw [hRm]; exact ⟨⟨Nat.le_of_ble_eq_true rfl, Nat.le_of_ble_eq_true rfl⟩, Nat.le_of_ble_eq_true rfl, Nat.le_of_ble_eq_true rfl⟩) hl.1 rfl (Nat.le_of_ble_eq_true rfl) d_C_bitOfRun_18 (fun z_18 H locs hz_18 w => ?_)
    subst hz_18
    exact kret _ _ _ _ (lbit code n (a - (sb s))) _ d_C_bitOfRun_21 w (⟨rfl, by unfold brun; (repeat' split) <;> first | omega | (congr 1 <;> omega) | (exfalso; omega) | (rw [show a = 0 by omega]; exact (bnr_top (by omega)).symm)⟩)
theorem d_X_digitsOf_0 : decode b_X_digitsOf 0 = .ok (.iconst 1, 1) := by decide +kernel
theorem d_X_digitsOf_1 : decode b_X_digitsOf 1 = .ok (.istore_n 1, 1) := by decide +kernel
theorem d_X_digitsOf_2 : decode b_X_digitsOf 2 = .ok (.iload_n 0, 1) := by decide +kernel
theorem d_X_digitsOf_3 : decode b_X_digitsOf 3 = .ok (.bipush 10, 2) := by decide +kernel
theorem d_X_digitsOf_5 : decode b_X_digitsOf 5 = .ok (.idiv, 1) := by decide +kernel
theorem d_X_digitsOf_6 : decode b_X_digitsOf 6 = .ok (.istore_n 2, 1) := by decide +kernel
theorem d_X_digitsOf_7 : decode b_X_digitsOf 7 = .ok (.iconst 1, 1) := by decide +kernel
theorem d_X_digitsOf_8 : decode b_X_digitsOf 8 = .ok (.istore_n 3, 1) := by decide +kernel
theorem d_X_digitsOf_9 : decode b_X_digitsOf 9 = .ok (.iload_n 3, 1) := by decide +kernel
theorem d_X_digitsOf_10 : decode b_X_digitsOf 10 = .ok (.bipush 10, 2) := by decide +kernel
theorem d_X_digitsOf_12 : decode b_X_digitsOf 12 = .ok (.if_icmp .ge 21, 3) := by decide +kernel
theorem d_X_digitsOf_15 : decode b_X_digitsOf 15 = .ok (.iload_n 2, 1) := by decide +kernel
theorem d_X_digitsOf_16 : decode b_X_digitsOf 16 = .ok (.ifCond .le 17, 3) := by decide +kernel
theorem d_X_digitsOf_19 : decode b_X_digitsOf 19 = .ok (.iload_n 2, 1) := by decide +kernel
theorem d_X_digitsOf_20 : decode b_X_digitsOf 20 = .ok (.bipush 10, 2) := by decide +kernel
theorem d_X_digitsOf_22 : decode b_X_digitsOf 22 = .ok (.idiv, 1) := by decide +kernel
theorem d_X_digitsOf_23 : decode b_X_digitsOf 23 = .ok (.istore_n 2, 1) := by decide +kernel
theorem d_X_digitsOf_24 : decode b_X_digitsOf 24 = .ok (.iinc 1 1, 3) := by decide +kernel
theorem d_X_digitsOf_27 : decode b_X_digitsOf 27 = .ok (.iinc 3 1, 3) := by decide +kernel
theorem d_X_digitsOf_30 : decode b_X_digitsOf 30 = .ok (.goto (-21), 3) := by decide +kernel
theorem d_X_digitsOf_33 : decode b_X_digitsOf 33 = .ok (.iload_n 1, 1) := by decide +kernel
theorem d_X_digitsOf_34 : decode b_X_digitsOf 34 = .ok (.ireturn, 1) := by decide +kernel
set_option maxHeartbeats 4000000 in
set_option maxRecDepth 20000 in
theorem c_X_digitsOf {l : Launch} {G : va_G} {tys : List (ClassId × FieldType)} (n : Int) (h : 1 ≤ n ∧ n < 2147483648) : CTP l G tys y_X_digitsOf b_X_digitsOf 4 .int 0 0 [.int (iI n)] (fun z => z = dl n) := by
  unfold CTP
  refine mkI (by decide) (Nat.le_of_ble_eq_true rfl) ?_
  rintro X rfl rfl rfl hRm C kret H ls w hl
  have hl : lv_has ls 4 [(0, .int (iI n))] := hl
  have w : Wd X ([]) H [] := w
  generalize ([] : List Loc) = locs at w ⊢
  have hd := dl_step (n := n) (by omega)
  have hrg0 := dl_rg (n / 10)
  refine r_iconst (pc := 0) C d_X_digitsOf_0 ?_
  refine r_istore_n (pc := 1) (lv' := [(1, .int (iI 1)), (0, .int (iI n))]) C d_X_digitsOf_1 rfl hl (by decide) rfl (fun ls hl => ?_)
  refine r_iload_n (pc := 2) C d_X_digitsOf_2 rfl (lv_at hl 1 rfl) ?_
  refine r_bipush (pc := 3) C d_X_digitsOf_3 (by decide) ?_
  refine r_idiv (pc := 5) C d_X_digitsOf_5 (by omega) ?_
  refine r_istore_n (pc := 6) (lv' := [(2, .int (iI (n / 10))), (1, .int (iI 1)), (0, .int (iI n))]) C d_X_digitsOf_6 rfl hl (by decide) rfl (fun ls hl => ?_)
  refine r_iconst (pc := 7) C d_X_digitsOf_7 ?_
  refine r_istore_n (pc := 8) (lv' := [(3, .int (iI 1)), (2, .int (iI (n / 10))), (1, .int (iI 1)), (0, .int (iI n))]) C d_X_digitsOf_8 rfl hl (by decide) rfl (fun ls hl => ?_)
  have L9 : ∀ (fuel : Nat), ∀ (i : Int) (dg : Int) (rest : Int), 1 ≤ i ∧ i ≤ 10 ∧ dg = i ∧ 0 ≤ rest ∧ rest < 2147483648 → dg + dl rest = dl n → rest * 10 ^ i.toNat ≤ n → (10 - i) < (fuel : Int) → ∀ (H : Heap) (locs : List Loc) (ls : Array Slot), Wd X ([]) H locs → lv_has ls 4 [(0, .int (iI n)), (1, .int (iI dg)), (2, .int (iI rest)), (3, .int (iI i))] → GG X 0 0 H locs 9 ls [] := by
    intro fuel
    induction fuel with
    | zero =>
      intro i dg rest h0 hb1 hp hfuel
      exact absurd hfuel (by omega)
    | succ fuel ih9 =>
      intro i dg rest h0 hb1 hp hfuel H locs ls w hl
      refine r_iload_n (pc := 9) C d_X_digitsOf_9 rfl (lv_at hl 3 rfl) ?_
      refine r_bipush (pc := 10) C d_X_digitsOf_10 (by decide) ?_
      refine r_icmp_ge (pc := 12) (tgt := 33) C (by omega) d_X_digitsOf_12 (by decide) (fun c_12 => ?_) (fun c_12 => ?_)
      · skip
        have hz : rest ≤ 0 := by { rw [show i = 10 by omega] at hp; have hp : rest * 10000000000 ≤ n := hp; omega }
        rw [dl_0 hz] at hb1
        refine r_iload_n (pc := 33) C d_X_digitsOf_33 rfl (lv_at hl 1 rfl) ?_
        exact kret _ _ _ _ dg _ d_X_digitsOf_34 w (⟨rfl, by omega⟩)
      · skip
        refine r_iload_n (pc := 15) C d_X_digitsOf_15 rfl (lv_at hl 2 rfl) ?_
        refine r_if_le (pc := 16) (tgt := 33) C (by omega) d_X_digitsOf_16 (by decide) (fun c_16 => ?_) (fun c_16 => ?_)
        · skip
          rw [dl_0 (by omega)] at hb1
          refine r_iload_n (pc := 33) C d_X_digitsOf_33 rfl (lv_at hl 1 rfl) ?_
          exact kret _ _ _ _ dg _ d_X_digitsOf_34 w (⟨rfl, by omega⟩)
        · skip
          have hst := dl_step (n := rest) (by omega)
          refine r_iload_n (pc := 19) C d_X_digitsOf_19 rfl (lv_at hl 2 rfl) ?_
          refine r_bipush (pc := 20) C d_X_digitsOf_20 (by decide) ?_
          refine r_idiv (pc := 22) C d_X_digitsOf_22 (by omega) ?_
          refine r_istore_n (pc := 23) (lv' := [(2, .int (iI (rest / 10))), (0, .int (iI n)), (1, .int (iI dg)), (3, .int (iI i))]) C d_X_digitsOf_23 rfl hl (by decide) rfl (fun ls hl => ?_)
          refine r_iinc (pc := 24) (j := 2) (lv' := [(1, .int (iI (dg + 1))), (2, .int (iI (rest / 10))), (0, .int (iI n)), (3, .int (iI i))]) C d_X_digitsOf_24 hl rfl (by decide) rfl (fun ls hl => ?_)
          refine r_iinc (pc := 27) (j := 3) (lv' := [(3, .int (iI (i + 1))), (1, .int (iI (dg + 1))), (2, .int (iI (rest / 10))), (0, .int (iI n))]) C d_X_digitsOf_27 hl rfl (by decide) rfl (fun ls hl => ?_)
          refine r_goto (pc := 30) (tgt := 9) C d_X_digitsOf_30 (by decide) ?_
          exact ih9 (i + 1) (dg + 1) (rest / 10) (by omega) (by omega) ((by rw [toNat_succ (by omega), Int.pow_succ]; have hp1 : (0 : Int) < 10 ^ i.toNat := Int.pow_pos (by omega); generalize (10 : Int) ^ i.toNat = P at hp hp1 ⊢; have h2 : rest / 10 * 10 * P ≤ rest * P := Int.mul_le_mul_of_nonneg_right (by omega) (by omega); rw [show rest / 10 * (P * 10) = rest / 10 * 10 * P by rw [Int.mul_comm P 10, Int.mul_assoc]]; omega)) (by omega) _ _ _ w (lv_sub hl [3, 1, 2, 0] rfl)
  exact L9 ((10 - 1) + 1 : Int).toNat 1 1 (n / 10) (by first | omega | rfl) (by first | omega | rfl) ((by show n / 10 * 10 ≤ n; omega)) (by omega) _ _ _ w (lv_sub hl [3, 2, 1, 0] rfl)
theorem d_X_charactersOfRun_0 : decode b_X_charactersOfRun 0 = .ok (.iload_n 0, 1) := by decide +kernel
theorem d_X_charactersOfRun_1 : decode b_X_charactersOfRun 1 = .ok (.iconst 1, 1) := by decide +kernel
theorem d_X_charactersOfRun_2 : decode b_X_charactersOfRun 2 = .ok (.if_icmp .ne 7, 3) := by decide +kernel
theorem d_X_charactersOfRun_5 : decode b_X_charactersOfRun 5 = .ok (.iconst 1, 1) := by decide +kernel
theorem d_X_charactersOfRun_6 : decode b_X_charactersOfRun 6 = .ok (.goto 9, 3) := by decide +kernel
theorem d_X_charactersOfRun_9 : decode b_X_charactersOfRun 9 = .ok (.iconst 2, 1) := by decide +kernel
theorem d_X_charactersOfRun_10 : decode b_X_charactersOfRun 10 = .ok (.iload_n 0, 1) := by decide +kernel
theorem d_X_charactersOfRun_11 : decode b_X_charactersOfRun 11 = .ok (.invokestatic 9, 3) := by decide +kernel
theorem d_X_charactersOfRun_14 : decode b_X_charactersOfRun 14 = .ok (.iadd, 1) := by decide +kernel
theorem d_X_charactersOfRun_15 : decode b_X_charactersOfRun 15 = .ok (.ireturn, 1) := by decide +kernel
set_option maxHeartbeats 4000000 in
set_option maxRecDepth 20000 in
theorem c_X_charactersOfRun {l : Launch} {G : va_G} {tys : List (ClassId × FieldType)} (n : Int) (h : 1 ≤ n ∧ n < 2147483648) : CTP l G tys y_X_charactersOfRun b_X_charactersOfRun 1 .int 1 23 [.int (iI n)] (fun z => z = crl n) := by
  unfold CTP
  refine mkI (by decide) (Nat.le_of_ble_eq_true rfl) ?_
  rintro X rfl rfl rfl hRm C kret H ls w hl
  have hl : lv_has ls 1 [(0, .int (iI n))] := hl
  have w : Wd X ([]) H [] := w
  generalize ([] : List Loc) = locs at w ⊢
  have hs := crl_cases n
  refine r_iload_n (pc := 0) C d_X_charactersOfRun_0 rfl (lv_at hl 0 rfl) ?_
  refine r_iconst (pc := 1) C d_X_charactersOfRun_1 ?_
  refine r_icmp_ne (pc := 2) (tgt := 9) C (by omega) d_X_charactersOfRun_2 (by decide) (fun c_2 => ?_) (fun c_2 => ?_)
  · skip
    refine r_iconst (pc := 9) C d_X_charactersOfRun_9 ?_
    refine r_iload_n (pc := 10) C d_X_charactersOfRun_10 rfl (lv_at hl 0 rfl) ?_
    refine r_callP (pc := 11) (As := [.int (iI n)]) (rest := [.int (iI 2)]) C w (c_X_digitsOf n (by omega)) ml_X_9 st_X_digitsOf ini_X cd_X_digitsOf hd_X_digitsOf rfl (by rw [hRm]; exact ⟨⟨Nat.le_of_ble_eq_true rfl, Nat.le_of_ble_eq_true rfl⟩, Nat.le_of_ble_eq_true rfl, Nat.le_of_ble_eq_true rfl⟩) hl.1 rfl (Nat.le_of_ble_eq_true rfl) d_X_charactersOfRun_11 (fun z_11 H locs hz_11 w => ?_)
    subst hz_11
    have hdl := dl_rg n
    refine r_iadd (pc := 14) C d_X_charactersOfRun_14 ?_
    exact kret _ _ _ _ (2 + (dl n)) _ d_X_charactersOfRun_15 w (⟨rfl, by omega⟩)
  · skip
    refine r_iconst (pc := 5) C d_X_charactersOfRun_5 ?_
    refine r_goto (pc := 6) (tgt := 15) C d_X_charactersOfRun_6 (by decide) ?_
    exact kret _ _ _ _ 1 _ d_X_charactersOfRun_15 w (⟨rfl, by omega⟩)
theorem d_X_characterOfRun_0 : decode b_X_characterOfRun 0 = .ok (.iload_n 2, 1) := by decide +kernel
theorem d_X_characterOfRun_1 : decode b_X_characterOfRun 1 = .ok (.ifCond .ne 19, 3) := by decide +kernel
theorem d_X_characterOfRun_4 : decode b_X_characterOfRun 4 = .ok (.iload_n 0, 1) := by decide +kernel
theorem d_X_characterOfRun_5 : decode b_X_characterOfRun 5 = .ok (.bipush 10, 2) := by decide +kernel
theorem d_X_characterOfRun_7 : decode b_X_characterOfRun 7 = .ok (.if_icmp .ne 8, 3) := by decide +kernel
theorem d_X_characterOfRun_10 : decode b_X_characterOfRun 10 = .ok (.bipush 120, 2) := by decide +kernel
theorem d_X_characterOfRun_12 : decode b_X_characterOfRun 12 = .ok (.goto 7, 3) := by decide +kernel
theorem d_X_characterOfRun_15 : decode b_X_characterOfRun 15 = .ok (.bipush 48, 2) := by decide +kernel
theorem d_X_characterOfRun_17 : decode b_X_characterOfRun 17 = .ok (.iload_n 0, 1) := by decide +kernel
theorem d_X_characterOfRun_18 : decode b_X_characterOfRun 18 = .ok (.iadd, 1) := by decide +kernel
theorem d_X_characterOfRun_19 : decode b_X_characterOfRun 19 = .ok (.ireturn, 1) := by decide +kernel
theorem d_X_characterOfRun_20 : decode b_X_characterOfRun 20 = .ok (.iload_n 2, 1) := by decide +kernel
theorem d_X_characterOfRun_21 : decode b_X_characterOfRun 21 = .ok (.iconst 1, 1) := by decide +kernel
theorem d_X_characterOfRun_22 : decode b_X_characterOfRun 22 = .ok (.if_icmp .ne 6, 3) := by decide +kernel
theorem d_X_characterOfRun_25 : decode b_X_characterOfRun 25 = .ok (.bipush 42, 2) := by decide +kernel
theorem d_X_characterOfRun_27 : decode b_X_characterOfRun 27 = .ok (.ireturn, 1) := by decide +kernel
theorem d_X_characterOfRun_28 : decode b_X_characterOfRun 28 = .ok (.iload_n 1, 1) := by decide +kernel
theorem d_X_characterOfRun_29 : decode b_X_characterOfRun 29 = .ok (.istore_n 3, 1) := by decide +kernel
theorem d_X_characterOfRun_30 : decode b_X_characterOfRun 30 = .ok (.iload_n 1, 1) := by decide +kernel
theorem d_X_characterOfRun_31 : decode b_X_characterOfRun 31 = .ok (.invokestatic 9, 3) := by decide +kernel
theorem d_X_characterOfRun_34 : decode b_X_characterOfRun 34 = .ok (.iconst 1, 1) := by decide +kernel
theorem d_X_characterOfRun_35 : decode b_X_characterOfRun 35 = .ok (.iadd, 1) := by decide +kernel
theorem d_X_characterOfRun_36 : decode b_X_characterOfRun 36 = .ok (.iload_n 2, 1) := by decide +kernel
theorem d_X_characterOfRun_37 : decode b_X_characterOfRun 37 = .ok (.isub, 1) := by decide +kernel
theorem d_X_characterOfRun_38 : decode b_X_characterOfRun 38 = .ok (.istore 4, 2) := by decide +kernel
theorem d_X_characterOfRun_40 : decode b_X_characterOfRun 40 = .ok (.iload 4, 2) := by decide +kernel
theorem d_X_characterOfRun_42 : decode b_X_characterOfRun 42 = .ok (.ifCond .le 14, 3) := by decide +kernel
theorem d_X_characterOfRun_45 : decode b_X_characterOfRun 45 = .ok (.iload_n 3, 1) := by decide +kernel
theorem d_X_characterOfRun_46 : decode b_X_characterOfRun 46 = .ok (.bipush 10, 2) := by decide +kernel
theorem d_X_characterOfRun_48 : decode b_X_characterOfRun 48 = .ok (.idiv, 1) := by decide +kernel
theorem d_X_characterOfRun_49 : decode b_X_characterOfRun 49 = .ok (.istore_n 3, 1) := by decide +kernel
theorem d_X_characterOfRun_50 : decode b_X_characterOfRun 50 = .ok (.iinc 4 (-1), 3) := by decide +kernel
theorem d_X_characterOfRun_53 : decode b_X_characterOfRun 53 = .ok (.goto (-13), 3) := by decide +kernel
theorem d_X_characterOfRun_56 : decode b_X_characterOfRun 56 = .ok (.bipush 48, 2) := by decide +kernel
theorem d_X_characterOfRun_58 : decode b_X_characterOfRun 58 = .ok (.iload_n 3, 1) := by decide +kernel
theorem d_X_characterOfRun_59 : decode b_X_characterOfRun 59 = .ok (.bipush 10, 2) := by decide +kernel
theorem d_X_characterOfRun_61 : decode b_X_characterOfRun 61 = .ok (.irem, 1) := by decide +kernel
theorem d_X_characterOfRun_62 : decode b_X_characterOfRun 62 = .ok (.iadd, 1) := by decide +kernel
theorem d_X_characterOfRun_63 : decode b_X_characterOfRun 63 = .ok (.ireturn, 1) := by decide +kernel
set_option maxHeartbeats 4000000 in
set_option maxRecDepth 20000 in
theorem c_X_characterOfRun {l : Launch} {G : va_G} {tys : List (ClassId × FieldType)} (s n a : Int) (h : 1 ≤ n ∧ n < 2147483648) (hs : 0 ≤ s ∧ s ≤ 10) (ha : 0 ≤ a ∧ a < crl n) : CTP l G tys y_X_characterOfRun b_X_characterOfRun 5 .int 1 23 [.int (iI s), .int (iI n), .int (iI a)] (fun z => z = chr_ s n a) := by
  unfold CTP
  refine mkI (by decide) (Nat.le_of_ble_eq_true rfl) ?_
  rintro X rfl rfl rfl hRm C kret H ls w hl
  have hl : lv_has ls 5 [(0, .int (iI s)), (1, .int (iI n)), (2, .int (iI a))] := hl
  have w : Wd X ([]) H [] := w
  generalize ([] : List Loc) = locs at w ⊢
  have hcr := crl_cases n
  have hdl0 := dl_rg n
  refine r_iload_n (pc := 0) C d_X_characterOfRun_0 rfl (lv_at hl 2 rfl) ?_
  refine r_if_ne (pc := 1) (tgt := 20) C (by omega) d_X_characterOfRun_1 (by decide) (fun c_1 => ?_) (fun c_1 => ?_)
  · skip
    refine r_iload_n (pc := 20) C d_X_characterOfRun_20 rfl (lv_at hl 2 rfl) ?_
    refine r_iconst (pc := 21) C d_X_characterOfRun_21 ?_
    refine r_icmp_ne (pc := 22) (tgt := 28) C (by omega) d_X_characterOfRun_22 (by decide) (fun c_22 => ?_) (fun c_22 => ?_)
    · skip
      refine r_iload_n (pc := 28) C d_X_characterOfRun_28 rfl (lv_at hl 1 rfl) ?_
      refine r_istore_n (pc := 29) (lv' := [(3, .int (iI n)), (0, .int (iI s)), (1, .int (iI n)), (2, .int (iI a))]) C d_X_characterOfRun_29 rfl hl (by decide) rfl (fun ls hl => ?_)
      refine r_iload_n (pc := 30) C d_X_characterOfRun_30 rfl (lv_at hl 2 rfl) ?_
      refine r_callP (pc := 31) (As := [.int (iI n)]) (rest := []) C w (c_X_digitsOf n (by omega)) ml_X_9 st_X_digitsOf ini_X cd_X_digitsOf hd_X_digitsOf rfl (by rw [hRm]; exact ⟨⟨Nat.le_of_ble_eq_true rfl, Nat.le_of_ble_eq_true rfl⟩, Nat.le_of_ble_eq_true rfl, Nat.le_of_ble_eq_true rfl⟩) hl.1 rfl (Nat.le_of_ble_eq_true rfl) d_X_characterOfRun_31 (fun z_31 H locs hz_31 w => ?_)
      subst hz_31
      have hdl := dl_rg n
      refine r_iconst (pc := 34) C d_X_characterOfRun_34 ?_
      refine r_iadd (pc := 35) C d_X_characterOfRun_35 ?_
      refine r_iload_n (pc := 36) C d_X_characterOfRun_36 rfl (lv_at hl 3 rfl) ?_
      refine r_isub (pc := 37) C d_X_characterOfRun_37 ?_
      refine r_istore (pc := 38) (lv' := [(4, .int (iI (((dl n) + 1) - a))), (3, .int (iI n)), (0, .int (iI s)), (1, .int (iI n)), (2, .int (iI a))]) C d_X_characterOfRun_38 hl (by decide) rfl (fun ls hl => ?_)
      have L40 : ∀ (fuel : Nat), ∀ (num : Int) (b : Int), 0 ≤ b ∧ b ≤ dl n + 1 - a → 0 ≤ num ∧ num < 2147483648 → num = n / 10 ^ (dl n + 1 - a - b).toNat → b < (fuel : Int) → ∀ (H : Heap) (locs : List Loc) (ls : Array Slot), Wd X ([]) H locs → lv_has ls 5 [(0, .int (iI s)), (1, .int (iI n)), (2, .int (iI a)), (3, .int (iI num)), (4, .int (iI b))] → GG X 0 0 H locs 40 ls [] := by
        intro fuel
        induction fuel with
        | zero =>
          intro num b h0 hr hn hfuel
          exact absurd hfuel (by omega)
        | succ fuel ih40 =>
          intro num b h0 hr hn hfuel H locs ls w hl
          refine r_iload (pc := 40) C d_X_characterOfRun_40 (lv_at hl 4 rfl) ?_
          refine r_if_le (pc := 42) (tgt := 56) C (by omega) d_X_characterOfRun_42 (by decide) (fun c_42 => ?_) (fun c_42 => ?_)
          · skip
            refine r_bipush (pc := 56) C d_X_characterOfRun_56 (by decide) ?_
            refine r_iload_n (pc := 58) C d_X_characterOfRun_58 rfl (lv_at hl 3 rfl) ?_
            refine r_bipush (pc := 59) C d_X_characterOfRun_59 (by decide) ?_
            refine r_irem (pc := 61) C d_X_characterOfRun_61 (by omega) ?_
            refine r_iadd (pc := 62) C d_X_characterOfRun_62 ?_
            exact kret _ _ _ _ (48 + (num % 10)) _ d_X_characterOfRun_63 w (⟨rfl, by unfold chr_; rw [if_neg (by omega), if_neg (by omega), hn, show dl n + 1 - a - b = dl n + 1 - a by omega]⟩)
          · skip
            refine r_iload_n (pc := 45) C d_X_characterOfRun_45 rfl (lv_at hl 3 rfl) ?_
            refine r_bipush (pc := 46) C d_X_characterOfRun_46 (by decide) ?_
            refine r_idiv (pc := 48) C d_X_characterOfRun_48 (by omega) ?_
            have hq : 0 ≤ num / 10 ∧ num / 10 ≤ num := by omega
            refine r_istore_n (pc := 49) (lv' := [(3, .int (iI (num / 10))), (0, .int (iI s)), (1, .int (iI n)), (2, .int (iI a)), (4, .int (iI b))]) C d_X_characterOfRun_49 rfl hl (by decide) rfl (fun ls hl => ?_)
            refine r_iinc (pc := 50) (j := 4) (lv' := [(4, .int (iI (b + (-1)))), (3, .int (iI (num / 10))), (0, .int (iI s)), (1, .int (iI n)), (2, .int (iI a))]) C d_X_characterOfRun_50 hl rfl (by decide) rfl (fun ls hl => ?_)
            refine r_goto (pc := 53) (tgt := 40) C d_X_characterOfRun_53 (by decide) ?_
            exact ih40 (num / 10) (b + (-1)) (by omega) (by omega) ((by rw [show dl n + 1 - a - (b + -1) = (dl n + 1 - a - b) + 1 by omega, div_pow10 (by omega), hn])) (by omega) _ _ _ w (lv_sub hl [2, 3, 4, 1, 0] rfl)
      exact L40 ((((dl n) + 1) - a) + 1 : Int).toNat n (((dl n) + 1) - a) (by first | omega | rfl) (by first | omega | rfl) ((by rw [show dl n + 1 - a - (dl n + 1 - a) = 0 by omega]; show n = n / 1; omega)) (by omega) _ _ _ w (lv_sub hl [2, 3, 4, 1, 0] rfl)
    · skip
      refine r_bipush (pc := 25) C d_X_characterOfRun_25 (by decide) ?_
      exact kret _ _ _ _ 42 _ d_X_characterOfRun_27 w (⟨rfl, by unfold chr_; rw [if_neg (by omega), if_pos (by omega)]⟩)
  · skip
    refine r_iload_n (pc := 4) C d_X_characterOfRun_4 rfl (lv_at hl 0 rfl) ?_
    refine r_bipush (pc := 5) C d_X_characterOfRun_5 (by decide) ?_
    refine r_icmp_ne (pc := 7) (tgt := 15) C (by omega) d_X_characterOfRun_7 (by decide) (fun c_7 => ?_) (fun c_7 => ?_)
    · skip
      refine r_bipush (pc := 15) C d_X_characterOfRun_15 (by decide) ?_
      refine r_iload_n (pc := 17) C d_X_characterOfRun_17 rfl (lv_at hl 0 rfl) ?_
      refine r_iadd (pc := 18) C d_X_characterOfRun_18 ?_
      exact kret _ _ _ _ (48 + s) _ d_X_characterOfRun_19 w (⟨rfl, by unfold chr_; rw [if_pos (by omega)]; split <;> omega⟩)
    · skip
      refine r_bipush (pc := 10) C d_X_characterOfRun_10 (by decide) ?_
      refine r_goto (pc := 12) (tgt := 19) C d_X_characterOfRun_12 (by decide) ?_
      exact kret _ _ _ _ 120 _ d_X_characterOfRun_19 w (⟨rfl, by unfold chr_; rw [if_pos (by omega)]; split <;> omega⟩)
