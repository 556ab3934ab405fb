/-! the law: its rows -/
def XA (X : Ev) : Nat → Prop := X.2.2.2.2.2.2.2.2.2.2.2.1
def XScr (X : Ev) (b L : Nat) (xi : Int → Int) : Prop := va_X b L (fun j : Nat => iI (xi (j : Int))) (Xs X) (Xs X).heap ∧ b < (Xs X).heap.size ∧ ¬ XA X b
def xrg (xi : Int → Int) : Prop := ∀ j, -2147483648 ≤ xi j ∧ xi j < 2147483648
theorem CW.recv {cI cO cZ : ClassId} {o : Nat} {A : AS} {ws : va_W} (h : CW cI cO cZ o A ws) : ∃ fs, ws[0]? = some (o, .inr (0, fs)) := by
  obtain ⟨⟨lc, sd, r, sg, ln, N, v⟩, hist, rcd, slot, uf, T, m⟩ := A
  obtain ⟨-, h, sl, us, pd, co, hf, sf, q, a, b, ov, q2, a2, b2, sg2, ln2, r2, pl2, ov2, lc2, sd2, q3, a3, b3, sg3, ln3, r3, pl3, ov3, lc3, sd3, st, rfl, -⟩ := h
  exact ⟨_, rfl⟩
theorem MW.recv {cI : ClassId} {q0 : Nat} {A : AS} {ws : va_W} (h : MW cI q0 A ws) : ∃ fs, ws[0]? = some (q0, .inr (3, fs)) := by
  obtain ⟨⟨lc, sd, r, sg, ln, N, v⟩, hist, rcd, slot, uf, T, m⟩ := A
  obtain ⟨-, q1, q2, q3, q4, q5, q6, q7, q8, q9, nw, pt, sl, sv, li, ot, len, pd, wr, wm, ss, lz, rm, rfl, -⟩ := h
  exact ⟨_, rfl⟩
theorem and31 (x : Int32) : ∃ a : Int, (0 ≤ a ∧ a ≤ 31) ∧ x &&& iI 31 = iI a := by
  have h4 : (x &&& iI 31).toBitVec.toNat ≤ 31 := by
    rw [Int32.toBitVec_and, BitVec.toNat_and]
    exact Nat.le_trans Nat.and_le_right (by decide +kernel)
  have h5 : (x &&& iI 31).toInt = ((x &&& iI 31).toBitVec.toNat : Int) := by
    show (x &&& iI 31).toBitVec.toInt = _
    rw [BitVec.toInt_eq_toNat_of_lt (by omega)]
  exact ⟨(x &&& iI 31).toInt, by omega, (iI_of _).symm⟩
section R6
variable {X : Ev} {k n : Nat} {H : Heap} {locs : List Loc} {pc nL : Nat} {ls : Array Slot} {rest : List Value} {cc : ByteArray} {own : String}
theorem r_slen (C : Cx cc own nL X) {ws : va_W} (w : Wd X ws H locs) {b L : Nat} {xi : Int → Int} (hX : XScr X b L xi) (hL : L ≤ 2048) (d : decode cc pc = .ok (.arraylength, 1)) (kk : GG X k n H locs (pc + 1) ls (.int (iI (L : Int)) :: rest)) : GG X k n H locs pc ls (.ref b :: rest) := by
  obtain ⟨p, l, e, R, s, m, args, below, meth, c, Q, A, G, tys⟩ := X
  refine va_slen C.1 C.2.1 hX.1 hX.2.1 hX.2.2 w.2.2.2.1 d ?_
  have h1 : Int32.ofNat L = iI (L : Int) := (iI_nI (k := (L : Int)) (by omega)).symm
  rw [h1]
  exact kk
theorem r_sld (C : Cx cc own nL X) {ws : va_W} (w : Wd X ws H locs) {b L : Nat} {xi : Int → Int} (hX : XScr X b L xi) {i : Int} (hi : 0 ≤ i ∧ i < L ∧ i < 2147483648) (d : decode cc pc = .ok (.iaload, 1)) (kk : GG X k n H locs (pc + 1) ls (.int (iI (xi i)) :: rest)) : GG X k n H locs pc ls (.int (iI i) :: .ref b :: rest) := by
  obtain ⟨p, l, e, R, s, m, args, below, meth, c, Q, A, G, tys⟩ := X
  refine va_sld C.1 C.2.1 hX.1 hX.2.1 hX.2.2 w.2.2.2.1 (iI_in hi) d ?_
  rw [iI_nat (by omega)]
  show W p l e R s m args below meth c H locs k n Q (F0 m (pc + 1) ls (.int (iI (xi ((i.toNat : Nat) : Int))) :: rest))
  rw [Int.toNat_of_nonneg hi.1]
  exact kk
theorem r_icmp_same (C : Cx cc own nL X) {x : Int32} {off : Int} {tgt : Nat} (d : decode cc pc = .ok (.if_icmp .eq off, 3)) (ht : (pc : Int) + off = (tgt : Int)) (kk : GG X k n H locs tgt ls rest) : GG X k n H locs pc ls (.int x :: .int x :: rest) := by
  obtain ⟨p, l, e, R, s, m, args, below, meth, c, Q, A, G, tys⟩ := X
  exact lv_icmp_eq C.1 C.2.1 d ht (fun _ => kk) (fun h => absurd rfl h)
theorem r_i2lx (C : Cx cc own nL X) {x : Int32} (d : decode cc pc = .ok (.i2l, 1)) (kk : GG X k n H locs (pc + 1) ls (.long x.toInt64 :: rest)) : GG X k n H locs pc ls (.int x :: rest) := by
  obtain ⟨p, l, e, R, s, m, args, below, meth, c, Q, A, G, tys⟩ := X
  exact lv_i2l C.1 C.2.1 d rfl kk
theorem r_lshlx (C : Cx cc own nL X) {x : Int64} {y : Int32} (d : decode cc pc = .ok (.lshl, 1)) (kk : GG X k n H locs (pc + 1) ls (.long (x <<< (y.toInt64 &&& 63)) :: rest)) : GG X k n H locs pc ls (.int y :: .long x :: rest) := by
  obtain ⟨p, l, e, R, s, m, args, below, meth, c, Q, A, G, tys⟩ := X
  exact lv_lshl C.1 C.2.1 d rfl kk
theorem r_landx (C : Cx cc own nL X) {x y : Int64} (d : decode cc pc = .ok (.land, 1)) (kk : GG X k n H locs (pc + 1) ls (.long (x &&& y) :: rest)) : GG X k n H locs pc ls (.long y :: .long x :: rest) := by
  obtain ⟨p, l, e, R, s, m, args, below, meth, c, Q, A, G, tys⟩ := X
  exact lv_land C.1 C.2.1 d kk
end R6
section R7
variable {X : Ev} {k n : Nat} {H : Heap} {locs : List Loc} {pc : Nat} {ls : Array Slot} {rest : List Value}
/-- an int of the script, z places behind the counter -/
theorem r_ld (C : Cx code "DeadRunsLaw" 4 X) {ws : va_W} (w : Wd X ws H locs) {b L o q0 : Nat} {xi : Int → Int} (hX : XScr X b L xi) {i z : Int} (hl : lv_has ls 4 [(3, .int (iI i)), (2, .ref q0), (1, .ref o), (0, .ref b)]) (hi : 0 ≤ i + z ∧ i + z < L ∧ i + z < 2147483648) (d0 : decode code pc = .ok (.aload_n 0, 1)) (d1 : decode code (pc + 1) = .ok (.iload_n 3, 1)) (d2 : decode code (pc + 2) = .ok (.iconst z, 1)) (d3 : decode code (pc + 3) = .ok (.iadd, 1)) (d4 : decode code (pc + 4) = .ok (.iaload, 1))
    (kk : GG X k n H locs (pc + 5) ls (.int (iI (xi (i + z))) :: rest)) : GG X k n H locs pc ls rest := by
  refine r_aload_n C d0 rfl (lv_at hl 3 rfl) ?_
  refine r_iload_n C d1 rfl (lv_at hl 0 rfl) ?_
  refine r_iconst C d2 ?_
  refine r_iadd C d3 ?_
  exact r_sld C w hX hi d4 kk
end R7
