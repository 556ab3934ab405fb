/-! a second storey over the kit: ints as images of whole numbers, one bundle for the frame, one for the world -/
def iI (z : Int) : Int32 := Int32.ofInt z
theorem iI_add (a b : Int) : iI a + iI b = iI (a + b) := (Int32.ofInt_add a b).symm
theorem iI_sub (a b : Int) : iI a - iI b = iI (a - b) := (Int32.ofInt_sub a b).symm
theorem iI_mul (a b : Int) : iI a * iI b = iI (a * b) := (Int32.ofInt_mul a b).symm
theorem iI_of (x : Int32) : iI x.toInt = x := Int32.ofInt_toInt x
theorem iI_rg (x : Int32) : -2147483648 ≤ x.toInt ∧ x.toInt < 2147483648 := ⟨Int32.le_toInt x, Int32.toInt_lt x⟩
theorem iI_toInt {a : Int} (h : -2147483648 ≤ a ∧ a < 2147483648) : (iI a).toInt = a := Int32.toInt_ofInt_of_le h.1 h.2
theorem iI_eq {a b : Int} (h : (-2147483648 ≤ a ∧ a < 2147483648) ∧ (-2147483648 ≤ b ∧ b < 2147483648)) : iI a = iI b ↔ a = b := by
  rw [← Int32.toInt_inj, iI_toInt h.1, iI_toInt h.2]
theorem iI_lt {a b : Int} (h : (-2147483648 ≤ a ∧ a < 2147483648) ∧ (-2147483648 ≤ b ∧ b < 2147483648)) : iI a < iI b ↔ a < b := by
  rw [Int32.lt_iff_toInt_lt, iI_toInt h.1, iI_toInt h.2]
theorem iI_le {a b : Int} (h : (-2147483648 ≤ a ∧ a < 2147483648) ∧ (-2147483648 ≤ b ∧ b < 2147483648)) : iI a ≤ iI b ↔ a ≤ b := by
  rw [Int32.le_iff_toInt_le, iI_toInt h.1, iI_toInt h.2]
theorem iI_zero : (0 : Int32) = iI 0 := rfl
theorem iI_nat {a : Int} (h : 0 ≤ a ∧ a < 2147483648) : (iI a).toNatClampNeg = a.toNat := by
  show (iI a).toInt.toNat = _
  rw [iI_toInt (by omega)]
theorem iI_in {a : Int} {n : Nat} (h : 0 ≤ a ∧ a < n ∧ a < 2147483648) : vp_in (iI a) n := by
  intro q
  rcases q with q | q
  · rw [iI_zero, iI_lt (by omega)] at q
    omega
  · rw [iI_nat (by omega)] at q
    omega
theorem iI_div {a b : Int} (h : 0 ≤ a ∧ a < 2147483648 ∧ 0 < b ∧ b < 2147483648) : iI a / iI b = iI (a / b) := by
  show Int32.ofInt a / Int32.ofInt b = Int32.ofInt (a / b)
  rw [← Int32.ofInt_tdiv (by show (-2147483648 : Int) ≤ _; omega) (by show _ ≤ (2147483647 : Int); omega) (by show (-2147483648 : Int) ≤ _; omega) (by show _ ≤ (2147483647 : Int); omega), Int.tdiv_eq_ediv_of_nonneg h.1]
theorem iI_mod {a b : Int} (h : 0 ≤ a ∧ a < 2147483648 ∧ 0 < b ∧ b < 2147483648) : iI a % iI b = iI (a % b) := by
  show Int32.ofInt a % Int32.ofInt b = Int32.ofInt (a % b)
  rw [← Int32.ofInt_tmod (by show (-2147483648 : Int) ≤ _; omega) (by show _ ≤ (2147483647 : Int); omega) (by show (-2147483648 : Int) ≤ _; omega) (by show _ ≤ (2147483647 : Int); omega), Int.tmod_eq_emod_of_nonneg h.1]
theorem iI_b {n : Int} (h : -128 ≤ n ∧ n < 128) : (Int8.ofInt n).toInt32 = iI n := by
  apply Int32.toInt_inj.mp
  rw [iI_toInt (by omega), Int8.toInt_toInt32, Int8.toInt_ofInt_of_le (by omega) (by omega)]
theorem iI_s {n : Int} (h : -32768 ≤ n ∧ n < 32768) : (Int16.ofInt n).toInt32 = iI n := by
  apply Int32.toInt_inj.mp
  rw [iI_toInt (by omega), Int16.toInt_toInt32, Int16.toInt_ofInt_of_le (by omega) (by omega)]
/-- an int array of n places with contents f; a row of a function with one place changed -/
abbrev aI (c : ClassId) (n : Nat) (f : Int → Int) : va_E := .inl (c, n, .inl (fun j : Nat => iI (f (j : Int))))
abbrev aR (c : ClassId) (n : Nat) (f : Int → Nat) : va_E := .inl (c, n, .inr (.inr (.inr (.inr (fun j : Nat => some (f (j : Int)))))))
def up {α : Type} (f : Int → α) (k : Int) (v : α) : Int → α := fun j => if j = k then v else f j
theorem up_eq {α : Type} (f : Int → α) (k : Int) (v : α) : up f k v k = v := by simp [up]
theorem up_ne {α : Type} (f : Int → α) {k j : Int} (v : α) (h : j ≠ k) : up f k v j = f j := by simp [up, h]
abbrev Ev : Type := Program × Launch × Env × Room × State × MethodId × Array Value × List Frame × Method × Code × (State → Prop) × (Nat → Prop) × va_G × List (ClassId × FieldType)
def GG (X : Ev) (k n : Nat) (H : Heap) (locs : List Loc) (pc : Nat) (ls : Array Slot) (st : List Value) : Prop := match X with
  | (p, l, e, R, s, m, args, below, meth, c, Q, _, _, _) => W p l e R s m args below meth c H locs k n Q (F0 m pc ls st)
def Cx (cc : ByteArray) (own : String) (nL : Nat) (X : Ev) : Prop := match X with
  | (p, _, _, _, s, m, args, _, _, c, _, _, _, _) => p.tables.exec = Jvm.exec ∧ c.code = cc ∧ c.maxLocals = nL ∧ s.vm.findClass own = some m.cls ∧ ∀ w ∈ TB, w.before args s = true
def nestW : Cond := Cond.methodLinkNest "DeadRuns$Pad" 42 y_D_isWithin "DeadRuns"
def KK (G : va_G) (tys : List (ClassId × FieldType)) (U : State) : Prop := va_K G classes tys U ∧ va_Nw nestW U
theorem KK.warm {G : va_G} {tys : List (ClassId × FieldType)} {s U : State} (hW : s.WarmedH U.vm) (h : KK G tys s) : KK G tys U := ⟨va_K.moved hW.alike h.1, va_Nw.warmM hW h.2⟩
def Wd (X : Ev) (ws : va_W) (H : Heap) (locs : List Loc) : Prop := match X with
  | (_, _, _, _, s, _, _, _, _, _, _, A, G, tys) => KK G tys s ∧ va_P G classes ws H ∧ va_D A ws ∧ va_S A s.heap H locs ∧ ∀ q, s.heap.size ≤ q → A q
def Xtys (X : Ev) : List (ClassId × FieldType) := match X with
  | (_, _, _, _, _, _, _, _, _, _, _, _, _, tys) => tys
def XG (X : Ev) : va_G := match X with
  | (_, _, _, _, _, _, _, _, _, _, _, _, G, _) => G
def Xl (X : Ev) : Launch := match X with
  | (_, l, _, _, _, _, _, _, _, _, _, _, _, _) => l
def XR (X : Ev) : Room := match X with
  | (_, _, _, R, _, _, _, _, _, _, _, _, _, _) => R
theorem Wd.sub {X : Ev} {ws ws' : va_W} {H : Heap} {locs : List Loc} (w : Wd X ws H locs) (is : List Nat) (hs : is.map (fun i => ws[i]?) = ws'.map some) (hn : va_nd is = true) : Wd X ws' H locs := by
  obtain ⟨p, l, e, R, s, m, args, below, meth, c, Q, A, G, tys⟩ := X
  obtain ⟨hK, hP, hD, hS, hA⟩ := w
  refine ⟨hK, hP.sub is ?_, hD.sub is hn hs, hS, hA⟩
  have h1 : ∀ (l : List Nat) (w2 : va_W), l.map (fun i => ws[i]?) = w2.map some → l.filterMap (fun i => ws[i]?) = w2 := by
    intro l
    induction l with
    | nil => intro w2 h; cases w2 with
      | nil => rfl
      | cons a b => simp at h
    | cons a b ih => intro w2 h; cases w2 with
      | nil => simp at h
      | cons x y =>
        simp only [List.map_cons, List.cons.injEq] at h
        rw [List.filterMap_cons, h.1]
        simp [ih y h.2]
  exact h1 is ws' hs
section R2
variable {X : Ev} {k n : Nat} {H : Heap} {locs : List Loc} {pc nL : Nat} {ls : Array Slot} {rest : List Value} {cc : ByteArray} {own : String}
theorem r_iconst (C : Cx cc own nL X) {z : Int} (d : decode cc pc = .ok (.iconst z, 1)) (kk : GG X k n H locs (pc + 1) ls (.int (iI z) :: rest)) : GG X k n H locs pc ls rest := by
  obtain ⟨p, l, e, R, s, m, args, below, meth, c, Q, A, G, tys⟩ := X
  exact lv_iconst C.1 C.2.1 d rfl kk
theorem r_bipush (C : Cx cc own nL X) {z : Int} (d : decode cc pc = .ok (.bipush z, 2)) (h : -128 ≤ z ∧ z < 128) (kk : GG X k n H locs (pc + 2) ls (.int (iI z) :: rest)) : GG X k n H locs pc ls rest := by
  obtain ⟨p, l, e, R, s, m, args, below, meth, c, Q, A, G, tys⟩ := X
  exact lv_bipush C.1 C.2.1 d (iI_b h) kk
theorem r_sipush (C : Cx cc own nL X) {z : Int} (d : decode cc pc = .ok (.sipush z, 3)) (h : -32768 ≤ z ∧ z < 32768) (kk : GG X k n H locs (pc + 3) ls (.int (iI z) :: rest)) : GG X k n H locs pc ls rest := by
  obtain ⟨p, l, e, R, s, m, args, below, meth, c, Q, A, G, tys⟩ := X
  exact lv_sipush C.1 C.2.1 d (iI_s h) kk
theorem r_iload_n (C : Cx cc own nL X) {q : Fin 4} {i : Nat} {x : Int32} (d : decode cc pc = .ok (.iload_n q, 1)) (hi : (q : Nat) = i) (hl : ls[i]? = some (.val (.int x))) (kk : GG X k n H locs (pc + 1) ls (.int x :: rest)) : GG X k n H locs pc ls rest := by
  obtain ⟨p, l, e, R, s, m, args, below, meth, c, Q, A, G, tys⟩ := X
  exact lv_iload_n C.1 C.2.1 d hi hl kk
theorem r_iload (C : Cx cc own nL X) {i : Nat} {x : Int32} (d : decode cc pc = .ok (.iload i, 2)) (hl : ls[i]? = some (.val (.int x))) (kk : GG X k n H locs (pc + 2) ls (.int x :: rest)) : GG X k n H locs pc ls rest := by
  obtain ⟨p, l, e, R, s, m, args, below, meth, c, Q, A, G, tys⟩ := X
  exact lv_iload C.1 C.2.1 d hl kk
theorem r_aload_n (C : Cx cc own nL X) {q : Fin 4} {i : Nat} {x : Nat} (d : decode cc pc = .ok (.aload_n q, 1)) (hi : (q : Nat) = i) (hl : ls[i]? = some (.val (.ref x))) (kk : GG X k n H locs (pc + 1) ls (.ref x :: rest)) : GG X k n H locs pc ls rest := by
  obtain ⟨p, l, e, R, s, m, args, below, meth, c, Q, A, G, tys⟩ := X
  exact lv_aload_n C.1 C.2.1 d hi hl kk
theorem r_istore_n (C : Cx cc own nL X) {q : Fin 4} {i : Nat} {x : Int32} {lv lv' : List (Nat × Value)} (d : decode cc pc = .ok (.istore_n q, 1)) (hi : (q : Nat) = i) (h : lv_has ls nL lv) (hn : i < nL) (hl : (i, Value.int x) :: lv.filter (fun q => !(q.1 == i) && !(q.1 + 1 == i && q.2.category == 2)) = lv')
    (kk : ∀ ls' : Array Slot, lv_has ls' nL lv' → GG X k n H locs (pc + 1) ls' rest) : GG X k n H locs pc ls (.int x :: rest) := by
  obtain ⟨p, l, e, R, s, m, args, below, meth, c, Q, A, G, tys⟩ := X
  exact lv_istore_n C.1 C.2.1 d hi h hn hl kk
theorem r_istore (C : Cx cc own nL X) {i : Nat} {x : Int32} {lv lv' : List (Nat × Value)} (d : decode cc pc = .ok (.istore i, 2)) (h : lv_has ls nL lv) (hn : i < nL) (hl : (i, Value.int x) :: lv.filter (fun q => !(q.1 == i) && !(q.1 + 1 == i && q.2.category == 2)) = lv')
    (kk : ∀ ls' : Array Slot, lv_has ls' nL lv' → GG X k n H locs (pc + 2) ls' rest) : GG X k n H locs pc ls (.int x :: rest) := by
  obtain ⟨p, l, e, R, s, m, args, below, meth, c, Q, A, G, tys⟩ := X
  exact lv_istore C.1 C.2.1 d h hn hl kk
theorem r_astore_n (C : Cx cc own nL X) {q : Fin 4} {i : Nat} {x : Nat} {lv lv' : List (Nat × Value)} (d : decode cc pc = .ok (.astore_n q, 1)) (hi : (q : Nat) = i) (h : lv_has ls nL lv) (hn : i < nL) (hl : (i, Value.ref x) :: lv.filter (fun q => !(q.1 == i) && !(q.1 + 1 == i && q.2.category == 2)) = lv')
    (kk : ∀ ls' : Array Slot, lv_has ls' nL lv' → GG X k n H locs (pc + 1) ls' rest) : GG X k n H locs pc ls (.ref x :: rest) := by
  obtain ⟨p, l, e, R, s, m, args, below, meth, c, Q, A, G, tys⟩ := X
  exact lv_astore_n C.1 C.2.1 d hi h hn hl kk
theorem r_iinc (C : Cx cc own nL X) {i j : Nat} {z a : Int} {lv lv' : List (Nat × Value)} (d : decode cc pc = .ok (.iinc i z, 3)) (h : lv_has ls nL lv) (hk : lv[j]? = some (i, .int (iI a))) (hn : i < nL) (hl : (i, Value.int (iI (a + z))) :: lv.filter (fun q => !(q.1 == i) && !(q.1 + 1 == i && q.2.category == 2)) = lv')
    (kk : ∀ ls' : Array Slot, lv_has ls' nL lv' → GG X k n H locs (pc + 3) ls' rest) : GG X k n H locs pc ls rest := by
  obtain ⟨p, l, e, R, s, m, args, below, meth, c, Q, A, G, tys⟩ := X
  exact lv_iinc C.1 C.2.1 d h hk (iI_add a z) hn hl kk
theorem r_iadd (C : Cx cc own nL X) {a b : Int} (d : decode cc pc = .ok (.iadd, 1)) (kk : GG X k n H locs (pc + 1) ls (.int (iI (a + b)) :: rest)) : GG X k n H locs pc ls (.int (iI b) :: .int (iI a) :: rest) := by
  obtain ⟨p, l, e, R, s, m, args, below, meth, c, Q, A, G, tys⟩ := X
  refine lv_iadd C.1 C.2.1 d ?_
  rw [iI_add]
  exact kk
theorem r_isub (C : Cx cc own nL X) {a b : Int} (d : decode cc pc = .ok (.isub, 1)) (kk : GG X k n H locs (pc + 1) ls (.int (iI (a - b)) :: rest)) : GG X k n H locs pc ls (.int (iI b) :: .int (iI a) :: rest) := by
  obtain ⟨p, l, e, R, s, m, args, below, meth, c, Q, A, G, tys⟩ := X
  refine lv_isub C.1 C.2.1 d ?_
  rw [iI_sub]
  exact kk
theorem r_imul (C : Cx cc own nL X) {a b : Int} (d : decode cc pc = .ok (.imul, 1)) (kk : GG X k n H locs (pc + 1) ls (.int (iI (a * b)) :: rest)) : GG X k n H locs pc ls (.int (iI b) :: .int (iI a) :: rest) := by
  obtain ⟨p, l, e, R, s, m, args, below, meth, c, Q, A, G, tys⟩ := X
  refine lv_imul C.1 C.2.1 d ?_
  rw [iI_mul]
  exact kk
theorem r_idiv (C : Cx cc own nL X) {a b : Int} (d : decode cc pc = .ok (.idiv, 1)) (h : 0 ≤ a ∧ a < 2147483648 ∧ 0 < b ∧ b < 2147483648) (kk : GG X k n H locs (pc + 1) ls (.int (iI (a / b)) :: rest)) : GG X k n H locs pc ls (.int (iI b) :: .int (iI a) :: rest) := by
  obtain ⟨p, l, e, R, s, m, args, below, meth, c, Q, A, G, tys⟩ := X
  refine lv_idiv C.1 C.2.1 d (by rw [iI_zero, iI_eq (by omega)]; omega) ?_
  rw [iI_div h]
  exact kk
theorem r_irem (C : Cx cc own nL X) {a b : Int} (d : decode cc pc = .ok (.irem, 1)) (h : 0 ≤ a ∧ a < 2147483648 ∧ 0 < b ∧ b < 2147483648) (kk : GG X k n H locs (pc + 1) ls (.int (iI (a % b)) :: rest)) : GG X k n H locs pc ls (.int (iI b) :: .int (iI a) :: rest) := by
  obtain ⟨p, l, e, R, s, m, args, below, meth, c, Q, A, G, tys⟩ := X
  refine lv_irem C.1 C.2.1 d (by rw [iI_zero, iI_eq (by omega)]; omega) ?_
  rw [iI_div h, iI_mul, iI_sub, show a - a / b * b = a % b by rw [Int.emod_def, Int.mul_comm]]
  exact kk
theorem r_ishr (C : Cx cc own nL X) {x y : Int32} (d : decode cc pc = .ok (.ishr, 1)) (kk : GG X k n H locs (pc + 1) ls (.int (x >>> (y &&& 31)) :: rest)) : GG X k n H locs pc ls (.int y :: .int x :: rest) := by
  obtain ⟨p, l, e, R, s, m, args, below, meth, c, Q, A, G, tys⟩ := X
  exact lv_ishr C.1 C.2.1 d kk
theorem r_ishl (C : Cx cc own nL X) {x y : Int32} (d : decode cc pc = .ok (.ishl, 1)) (kk : GG X k n H locs (pc + 1) ls (.int (x <<< (y &&& 31)) :: rest)) : GG X k n H locs pc ls (.int y :: .int x :: rest) := by
  obtain ⟨p, l, e, R, s, m, args, below, meth, c, Q, A, G, tys⟩ := X
  exact lv_ishl C.1 C.2.1 d kk
theorem r_iand (C : Cx cc own nL X) {x y : Int32} (d : decode cc pc = .ok (.iand, 1)) (kk : GG X k n H locs (pc + 1) ls (.int (x &&& y) :: rest)) : GG X k n H locs pc ls (.int y :: .int x :: rest) := by
  obtain ⟨p, l, e, R, s, m, args, below, meth, c, Q, A, G, tys⟩ := X
  exact lv_iand C.1 C.2.1 d kk
theorem r_ior (C : Cx cc own nL X) {x y : Int32} (d : decode cc pc = .ok (.ior, 1)) (kk : GG X k n H locs (pc + 1) ls (.int (x ||| y) :: rest)) : GG X k n H locs pc ls (.int y :: .int x :: rest) := by
  obtain ⟨p, l, e, R, s, m, args, below, meth, c, Q, A, G, tys⟩ := X
  exact lv_ior C.1 C.2.1 d kk
/-- another word for the int on top -/
theorem r_top {x y : Int32} (h : x = y) (kk : GG X k n H locs pc ls (.int y :: rest)) : GG X k n H locs pc ls (.int x :: rest) := h ▸ kk
theorem r_goto (C : Cx cc own nL X) {off : Int} {tgt : Nat} (d : decode cc pc = .ok (.goto off, 3)) (ht : (pc : Int) + off = (tgt : Int)) (kk : GG X k n H locs tgt ls rest) : GG X k n H locs pc ls rest := by
  obtain ⟨p, l, e, R, s, m, args, below, meth, c, Q, A, G, tys⟩ := X
  exact lv_goto C.1 C.2.1 d ht kk
theorem r_dup (C : Cx cc own nL X) {v : Value} (d : decode cc pc = .ok (.dup, 1)) (hv : v.category = 1) (kk : GG X k n H locs (pc + 1) ls (v :: v :: rest)) : GG X k n H locs pc ls (v :: rest) := by
  obtain ⟨p, l, e, R, s, m, args, below, meth, c, Q, A, G, tys⟩ := X
  exact lv_dup C.1 C.2.1 d hv kk
theorem r_dup2 (C : Cx cc own nL X) {v u : Value} (d : decode cc pc = .ok (.dup2, 1)) (hv : v.category = 1) (hu : u.category = 1) (kk : GG X k n H locs (pc + 1) ls (v :: u :: v :: u :: rest)) : GG X k n H locs pc ls (v :: u :: rest) := by
  obtain ⟨p, l, e, R, s, m, args, below, meth, c, Q, A, G, tys⟩ := X
  exact lv_dup2_11 C.1 C.2.1 d hv hu kk
theorem r_get (C : Cx cc own nL X) {ws : va_W} (w : Wd X ws H locs) {cn ref : String} {T : u_T} {N ci index a : Nat} (hin : ∀ w ∈ u_ws cn T N, w ∈ TB) (hc : classes[ci]? = some (cn, T, N)) (q0 : Nat) {fs : List Value} (he : ws[q0]? = some (a, .inr (ci, fs))) (j : Nat) (hk : j < N) (hl : Cond.fieldLink own index ref (T j).2.1 (T j).2.2.1 ∈ TB) (hr : ref = (T j).1) {v : Value} (hv : fs[j]? = some v) (d : decode cc pc = .ok (.getfield index, 3))
    (kk : GG X k n H locs (pc + 3) ls (v :: rest)) : GG X k n H locs pc ls (.ref a :: rest) := by
  obtain ⟨p, l, e, R, s, m, args, below, meth, c, Q, A, G, tys⟩ := X
  exact va_get C.1 C.2.1 C.2.2.2.2 hin C.2.2.2.1 w.1.1 w.2.1 q0 he hc j hk (C.2.2.2.2 _ hl) (fun _ h => by rw [hr]; exact h) hv d kk
theorem r_put (C : Cx cc own nL X) {ws ws' : va_W} (w : Wd X ws H locs) {cn ref : String} {T : u_T} {N ci index a : Nat} (hin : ∀ w ∈ u_ws cn T N, w ∈ TB) (ty0 : Nat → FieldType) (hty : ∀ k, k < N → parseFieldDescriptor (T k).2.2.1 = some (ty0 k)) (hnm : ∀ a, a < N → ∀ b, b < N → a ≠ b → (T a).2.1 ≠ (T b).2.1) (hc : classes[ci]? = some (cn, T, N)) (q0 : Nat) {fs : List Value} (he : ws[q0]? = some (a, .inr (ci, fs))) (j : Nat) (hk : j < N) (hl : Cond.fieldLink own index ref (T j).2.1 (T j).2.2.1 ∈ TB) (hr : ref = (T j).1) (hfin : (T j).2.2.2 = false) {v : Value} (hn : narrow (ty0 j) v = v) (hfit : fits (ty0 j) v = true) (hj : j < fs.length) (hw : ws.set q0 (a, .inr (ci, fs.set j v)) = ws') (d : decode cc pc = .ok (.putfield index, 3))
    (kk : ∀ (H1 : Heap) (locs1 : List Loc), Wd X ws' H1 locs1 → GG X k n H1 locs1 (pc + 3) ls rest) : GG X k n H locs pc ls (v :: .ref a :: rest) := by
  obtain ⟨p, l, e, R, s, m, args, below, meth, c, Q, A, G, tys⟩ := X
  subst hw
  exact va_put C.1 C.2.1 C.2.2.2.2 hin ty0 hty hnm C.2.2.2.1 w.1.1 w.2.1 w.2.2.1 w.2.2.2.1 q0 he hc j hk (C.2.2.2.2 _ hl) (fun _ h => by rw [hr]; exact h) hfin (hty j hk) hn hfit hj d (fun H1 locs1 hP hD hS => kk H1 locs1 ⟨w.1, hP, hD, hS, w.2.2.2.2⟩)
theorem r_iald (C : Cx cc own nL X) {ws : va_W} (w : Wd X ws H locs) (t0 : Nat) (q0 : Nat) {cA : ClassId} {N a : Nat} {f : Int → Int} (ha : ws[q0]? = some (a, aI cA N f)) (ht : (Xtys X)[t0]? = some (cA, .int)) {i : Int} (hi : 0 ≤ i ∧ i < N ∧ i < 2147483648) (d : decode cc pc = .ok (.iaload, 1))
    (kk : GG X k n H locs (pc + 1) ls (.int (iI (f i)) :: rest)) : GG X k n H locs pc ls (.int (iI i) :: .ref a :: rest) := by
  obtain ⟨p, l, e, R, s, m, args, below, meth, c, Q, A, G, tys⟩ := X
  refine va_iald C.1 C.2.1 w.1.1 w.2.1 q0 t0 ha ht (iI_in hi) d ?_
  rw [iI_nat (by omega)]
  show W p l e R s m args below meth c H locs k n Q (F0 m (pc + 1) ls (.int (iI (f ((i.toNat : Nat) : Int))) :: rest))
  rw [Int.toNat_of_nonneg hi.1]
  exact kk
theorem r_iast (C : Cx cc own nL X) {ws ws' : va_W} (w : Wd X ws H locs) (t0 : Nat) (q0 : Nat) {cA : ClassId} {N a : Nat} {f : Int → Int} (ha : ws[q0]? = some (a, aI cA N f)) (ht : (Xtys X)[t0]? = some (cA, .int)) {i v : Int} (hi : 0 ≤ i ∧ i < N ∧ i < 2147483648) (hw : ws.set q0 (a, aI cA N (up f i v)) = ws') (d : decode cc pc = .ok (.iastore, 1))
    (kk : ∀ (H1 : Heap) (locs1 : List Loc), Wd X ws' H1 locs1 → GG X k n H1 locs1 (pc + 1) ls rest) : GG X k n H locs pc ls (.int (iI v) :: .int (iI i) :: .ref a :: rest) := by
  obtain ⟨p, l, e, R, s, m, args, below, meth, c, Q, A, G, tys⟩ := X
  subst hw
  have hf : upd (fun j : Nat => iI (f (j : Int))) (iI i).toNatClampNeg (iI v) = fun j : Nat => iI (up f i v (j : Int)) := by
    funext j
    rw [iI_nat (by omega)]
    unfold upd up
    by_cases h : j = i.toNat
    · rw [if_pos h, if_pos (by omega)]
    · rw [if_neg h, if_neg (by omega)]
  refine va_iast C.1 C.2.1 w.1.1 w.2.1 w.2.2.1 w.2.2.2.1 q0 t0 ha ht (iI_in hi) d (fun H1 locs1 hP hD hS => ?_)
  rw [hf] at hP hD
  exact kk H1 locs1 ⟨w.1, hP, hD, hS, w.2.2.2.2⟩
theorem r_aald (C : Cx cc own nL X) {ws : va_W} (w : Wd X ws H locs) (t0 : Nat) (q0 : Nat) {cA : ClassId} {N a : Nat} {cn : String} {f : Int → Nat} (ha : ws[q0]? = some (a, aR cA N f)) (ht : (Xtys X)[t0]? = some (cA, .object cn)) {i : Int} (hi : 0 ≤ i ∧ i < N ∧ i < 2147483648) (d : decode cc pc = .ok (.aaload, 1))
    (kk : GG X k n H locs (pc + 1) ls (.ref (f i) :: rest)) : GG X k n H locs pc ls (.int (iI i) :: .ref a :: rest) := by
  obtain ⟨p, l, e, R, s, m, args, below, meth, c, Q, A, G, tys⟩ := X
  refine va_aldq C.1 C.2.1 w.1.1 w.2.1 q0 t0 ha ht (iI_in hi) d ?_
  rw [iI_nat (by omega)]
  show W p l e R s m args below meth c H locs k n Q (F0 m (pc + 1) ls (.ref (f ((i.toNat : Nat) : Int)) :: rest))
  rw [Int.toNat_of_nonneg hi.1]
  exact kk
theorem r_aast (C : Cx cc own nL X) {ws ws' : va_W} (w : Wd X ws H locs) (t0 : Nat) (q0 qk ci : Nat) {r : vw_C} {cA : ClassId} {N a v : Nat} {vs : List Value} {f : Int → Nat} (ha : ws[q0]? = some (a, aR cA N f)) (ht : (Xtys X)[t0]? = some (cA, .object r.1)) (hv : ws[qk]? = some (v, .inr (ci, vs))) (hc : classes[ci]? = some r) {i : Int} (hi : 0 ≤ i ∧ i < N ∧ i < 2147483648) (hw : ws.set q0 (a, aR cA N (up f i v)) = ws') (d : decode cc pc = .ok (.aastore, 1))
    (kk : ∀ (H1 : Heap) (locs1 : List Loc), Wd X ws' H1 locs1 → GG X k n H1 locs1 (pc + 1) ls rest) : GG X k n H locs pc ls (.ref v :: .int (iI i) :: .ref a :: rest) := by
  obtain ⟨p, l, e, R, s, m, args, below, meth, c, Q, A, G, tys⟩ := X
  subst hw
  have hf : va_up (fun j : Nat => some (f (j : Int))) (iI i).toNatClampNeg (some v) = fun j : Nat => some (up f i v (j : Int)) := by
    funext j
    rw [iI_nat (by omega)]
    unfold va_up up
    by_cases h : j = i.toNat
    · rw [if_pos h, if_pos (by omega)]
    · rw [if_neg h, if_neg (by omega)]
  refine va_astq C.1 C.2.1 w.1.1 w.2.1 w.2.2.1 w.2.2.2.1 q0 t0 qk ci ha ht hv hc (iI_in hi) d (fun H1 locs1 hP hD hS => ?_)
  rw [hf] at hP hD
  exact kk H1 locs1 ⟨w.1, hP, hD, hS, w.2.2.2.2⟩
theorem r_zald (C : Cx cc own nL X) {ws : va_W} (w : Wd X ws H locs) (t0 : Nat) (q0 : Nat) {cA : ClassId} {N a : Nat} {f : Int → Int} (ha : ws[q0]? = some (a, aI cA N f)) (ht : (Xtys X)[t0]? = some (cA, .boolean)) {i : Int} (hi : 0 ≤ i ∧ i < N ∧ i < 2147483648) (d : decode cc pc = .ok (.baload, 1))
    (kk : GG X k n H locs (pc + 1) ls (.int (iI (f i)) :: rest)) : GG X k n H locs pc ls (.int (iI i) :: .ref a :: rest) := by
  obtain ⟨p, l, e, R, s, m, args, below, meth, c, Q, A, G, tys⟩ := X
  refine va_zald C.1 C.2.1 w.1.1 w.2.1 q0 t0 ha ht (iI_in hi) d ?_
  rw [iI_nat (by omega)]
  show W p l e R s m args below meth c H locs k n Q (F0 m (pc + 1) ls (.int (iI (f ((i.toNat : Nat) : Int))) :: rest))
  rw [Int.toNat_of_nonneg hi.1]
  exact kk
theorem r_zast (C : Cx cc own nL X) {ws ws' : va_W} (w : Wd X ws H locs) (t0 : Nat) (q0 : Nat) {cA : ClassId} {N a : Nat} {f : Int → Int} (ha : ws[q0]? = some (a, aI cA N f)) (ht : (Xtys X)[t0]? = some (cA, .boolean)) {i : Int} (hi : 0 ≤ i ∧ i < N ∧ i < 2147483648) (hw : ws.set q0 (a, aI cA N (up f i 1)) = ws') (d : decode cc pc = .ok (.bastore, 1))
    (kk : ∀ (H1 : Heap) (locs1 : List Loc), Wd X ws' H1 locs1 → GG X k n H1 locs1 (pc + 1) ls rest) : GG X k n H locs pc ls (.int (iI 1) :: .int (iI i) :: .ref a :: rest) := by
  obtain ⟨p, l, e, R, s, m, args, below, meth, c, Q, A, G, tys⟩ := X
  subst hw
  have hf : upd (fun j : Nat => iI (f (j : Int))) (iI i).toNatClampNeg (vp_nar .boolean (iI 1)) = fun j : Nat => iI (up f i 1 (j : Int)) := by
    funext j
    rw [iI_nat (by omega), show vp_nar .boolean (iI 1) = iI 1 by decide]
    unfold upd up
    by_cases h : j = i.toNat
    · rw [if_pos h, if_pos (by omega)]
    · rw [if_neg h, if_neg (by omega)]
  refine va_zast C.1 C.2.1 w.1.1 w.2.1 w.2.2.1 w.2.2.2.1 q0 t0 ha ht (iI_in hi) d (fun H1 locs1 hP hD hS => ?_)
  rw [hf] at hP hD
  exact kk H1 locs1 ⟨w.1, hP, hD, hS, w.2.2.2.2⟩
end R2
section R3
variable {X : Ev} {k n : Nat} {H : Heap} {locs : List Loc} {pc nL : Nat} {ls : Array Slot} {rest : List Value} {cc : ByteArray} {own : String}
theorem r_icmp_eq (C : Cx cc own nL X) {a b : Int} {off : Int} {tgt : Nat} (h : (-2147483648 ≤ a ∧ a < 2147483648) ∧ (-2147483648 ≤ b ∧ b < 2147483648)) (d : decode cc pc = .ok (.if_icmp .eq off, 3)) (ht : (pc : Int) + off = (tgt : Int)) (kt : a = b → GG X k n H locs tgt ls rest) (kf : ¬ a = b → GG X k n H locs (pc + 3) ls rest) : GG X k n H locs pc ls (.int (iI b) :: .int (iI a) :: rest) := by
  obtain ⟨p, l, e, R, s, m, args, below, meth, c, Q, A, G, tys⟩ := X
  refine lv_icmp_eq C.1 C.2.1 d ht (fun q => kt ?_) (fun q => kf ?_)
  · first | (rw [iI_eq h] at q) | (rw [iI_lt h] at q) | (rw [iI_le h] at q) | (rw [iI_lt ⟨h.2, h.1⟩] at q) | (rw [iI_le ⟨h.2, h.1⟩] at q) | (simp only [ge_iff_le, gt_iff_lt, iI_lt h, iI_le h, iI_lt ⟨h.2, h.1⟩, iI_le ⟨h.2, h.1⟩] at q)
    omega
  · first | (rw [iI_eq h] at q) | (rw [iI_lt h] at q) | (rw [iI_le h] at q) | (rw [iI_lt ⟨h.2, h.1⟩] at q) | (rw [iI_le ⟨h.2, h.1⟩] at q) | (simp only [ge_iff_le, gt_iff_lt, iI_lt h, iI_le h, iI_lt ⟨h.2, h.1⟩, iI_le ⟨h.2, h.1⟩] at q)
    omega
theorem r_if_eq (C : Cx cc own nL X) {a : Int} {off : Int} {tgt : Nat} (h : (-2147483648 ≤ a ∧ a < 2147483648)) (d : decode cc pc = .ok (.ifCond .eq off, 3)) (ht : (pc : Int) + off = (tgt : Int)) (kt : a = 0 → GG X k n H locs tgt ls rest) (kf : ¬ a = 0 → GG X k n H locs (pc + 3) ls rest) : GG X k n H locs pc ls (.int (iI a) :: rest) := by
  obtain ⟨p, l, e, R, s, m, args, below, meth, c, Q, A, G, tys⟩ := X
  refine lv_if_eq C.1 C.2.1 d ht (fun q => kt ?_) (fun q => kf ?_)
  · rw [iI_zero] at q; first | (rw [iI_eq (⟨h, by omega, by omega⟩ : (-2147483648 ≤ a ∧ a < 2147483648) ∧ (-2147483648 ≤ (0:Int) ∧ (0:Int) < 2147483648))] at q) | (rw [iI_lt (⟨h, by omega, by omega⟩ : (-2147483648 ≤ a ∧ a < 2147483648) ∧ (-2147483648 ≤ (0:Int) ∧ (0:Int) < 2147483648))] at q) | (rw [iI_le (⟨h, by omega, by omega⟩ : (-2147483648 ≤ a ∧ a < 2147483648) ∧ (-2147483648 ≤ (0:Int) ∧ (0:Int) < 2147483648))] at q) | (rw [iI_lt (⟨⟨by omega, by omega⟩, h⟩ : (-2147483648 ≤ (0:Int) ∧ (0:Int) < 2147483648) ∧ (-2147483648 ≤ a ∧ a < 2147483648))] at q) | (rw [iI_le (⟨⟨by omega, by omega⟩, h⟩ : (-2147483648 ≤ (0:Int) ∧ (0:Int) < 2147483648) ∧ (-2147483648 ≤ a ∧ a < 2147483648))] at q) | (simp only [ge_iff_le, gt_iff_lt, iI_lt (⟨h, by omega, by omega⟩ : (-2147483648 ≤ a ∧ a < 2147483648) ∧ (-2147483648 ≤ (0:Int) ∧ (0:Int) < 2147483648)), iI_le (⟨h, by omega, by omega⟩ : (-2147483648 ≤ a ∧ a < 2147483648) ∧ (-2147483648 ≤ (0:Int) ∧ (0:Int) < 2147483648)), iI_lt (⟨⟨by omega, by omega⟩, h⟩ : (-2147483648 ≤ (0:Int) ∧ (0:Int) < 2147483648) ∧ (-2147483648 ≤ a ∧ a < 2147483648)), iI_le (⟨⟨by omega, by omega⟩, h⟩ : (-2147483648 ≤ (0:Int) ∧ (0:Int) < 2147483648) ∧ (-2147483648 ≤ a ∧ a < 2147483648))] at q)
    omega
  · rw [iI_zero] at q; first | (rw [iI_eq (⟨h, by omega, by omega⟩ : (-2147483648 ≤ a ∧ a < 2147483648) ∧ (-2147483648 ≤ (0:Int) ∧ (0:Int) < 2147483648))] at q) | (rw [iI_lt (⟨h, by omega, by omega⟩ : (-2147483648 ≤ a ∧ a < 2147483648) ∧ (-2147483648 ≤ (0:Int) ∧ (0:Int) < 2147483648))] at q) | (rw [iI_le (⟨h, by omega, by omega⟩ : (-2147483648 ≤ a ∧ a < 2147483648) ∧ (-2147483648 ≤ (0:Int) ∧ (0:Int) < 2147483648))] at q) | (rw [iI_lt (⟨⟨by omega, by omega⟩, h⟩ : (-2147483648 ≤ (0:Int) ∧ (0:Int) < 2147483648) ∧ (-2147483648 ≤ a ∧ a < 2147483648))] at q) | (rw [iI_le (⟨⟨by omega, by omega⟩, h⟩ : (-2147483648 ≤ (0:Int) ∧ (0:Int) < 2147483648) ∧ (-2147483648 ≤ a ∧ a < 2147483648))] at q) | (simp only [ge_iff_le, gt_iff_lt, iI_lt (⟨h, by omega, by omega⟩ : (-2147483648 ≤ a ∧ a < 2147483648) ∧ (-2147483648 ≤ (0:Int) ∧ (0:Int) < 2147483648)), iI_le (⟨h, by omega, by omega⟩ : (-2147483648 ≤ a ∧ a < 2147483648) ∧ (-2147483648 ≤ (0:Int) ∧ (0:Int) < 2147483648)), iI_lt (⟨⟨by omega, by omega⟩, h⟩ : (-2147483648 ≤ (0:Int) ∧ (0:Int) < 2147483648) ∧ (-2147483648 ≤ a ∧ a < 2147483648)), iI_le (⟨⟨by omega, by omega⟩, h⟩ : (-2147483648 ≤ (0:Int) ∧ (0:Int) < 2147483648) ∧ (-2147483648 ≤ a ∧ a < 2147483648))] at q)
    omega
theorem r_icmp_ne (C : Cx cc own nL X) {a b : Int} {off : Int} {tgt : Nat} (h : (-2147483648 ≤ a ∧ a < 2147483648) ∧ (-2147483648 ≤ b ∧ b < 2147483648)) (d : decode cc pc = .ok (.if_icmp .ne off, 3)) (ht : (pc : Int) + off = (tgt : Int)) (kt : ¬ a = b → GG X k n H locs tgt ls rest) (kf : a = b → GG X k n H locs (pc + 3) ls rest) : GG X k n H locs pc ls (.int (iI b) :: .int (iI a) :: rest) := by
  obtain ⟨p, l, e, R, s, m, args, below, meth, c, Q, A, G, tys⟩ := X
  refine lv_icmp_ne C.1 C.2.1 d ht (fun q => kt ?_) (fun q => kf ?_)
  · first | (rw [iI_eq h] at q) | (rw [iI_lt h] at q) | (rw [iI_le h] at q) | (rw [iI_lt ⟨h.2, h.1⟩] at q) | (rw [iI_le ⟨h.2, h.1⟩] at q) | (simp only [ge_iff_le, gt_iff_lt, iI_lt h, iI_le h, iI_lt ⟨h.2, h.1⟩, iI_le ⟨h.2, h.1⟩] at q)
    omega
  · first | (rw [iI_eq h] at q) | (rw [iI_lt h] at q) | (rw [iI_le h] at q) | (rw [iI_lt ⟨h.2, h.1⟩] at q) | (rw [iI_le ⟨h.2, h.1⟩] at q) | (simp only [ge_iff_le, gt_iff_lt, iI_lt h, iI_le h, iI_lt ⟨h.2, h.1⟩, iI_le ⟨h.2, h.1⟩] at q)
    omega
theorem r_if_ne (C : Cx cc own nL X) {a : Int} {off : Int} {tgt : Nat} (h : (-2147483648 ≤ a ∧ a < 2147483648)) (d : decode cc pc = .ok (.ifCond .ne off, 3)) (ht : (pc : Int) + off = (tgt : Int)) (kt : ¬ a = 0 → GG X k n H locs tgt ls rest) (kf : a = 0 → GG X k n H locs (pc + 3) ls rest) : GG X k n H locs pc ls (.int (iI a) :: rest) := by
  obtain ⟨p, l, e, R, s, m, args, below, meth, c, Q, A, G, tys⟩ := X
  refine lv_if_ne C.1 C.2.1 d ht (fun q => kt ?_) (fun q => kf ?_)
  · rw [iI_zero] at q; first | (rw [iI_eq (⟨h, by omega, by omega⟩ : (-2147483648 ≤ a ∧ a < 2147483648) ∧ (-2147483648 ≤ (0:Int) ∧ (0:Int) < 2147483648))] at q) | (rw [iI_lt (⟨h, by omega, by omega⟩ : (-2147483648 ≤ a ∧ a < 2147483648) ∧ (-2147483648 ≤ (0:Int) ∧ (0:Int) < 2147483648))] at q) | (rw [iI_le (⟨h, by omega, by omega⟩ : (-2147483648 ≤ a ∧ a < 2147483648) ∧ (-2147483648 ≤ (0:Int) ∧ (0:Int) < 2147483648))] at q) | (rw [iI_lt (⟨⟨by omega, by omega⟩, h⟩ : (-2147483648 ≤ (0:Int) ∧ (0:Int) < 2147483648) ∧ (-2147483648 ≤ a ∧ a < 2147483648))] at q) | (rw [iI_le (⟨⟨by omega, by omega⟩, h⟩ : (-2147483648 ≤ (0:Int) ∧ (0:Int) < 2147483648) ∧ (-2147483648 ≤ a ∧ a < 2147483648))] at q) | (simp only [ge_iff_le, gt_iff_lt, iI_lt (⟨h, by omega, by omega⟩ : (-2147483648 ≤ a ∧ a < 2147483648) ∧ (-2147483648 ≤ (0:Int) ∧ (0:Int) < 2147483648)), iI_le (⟨h, by omega, by omega⟩ : (-2147483648 ≤ a ∧ a < 2147483648) ∧ (-2147483648 ≤ (0:Int) ∧ (0:Int) < 2147483648)), iI_lt (⟨⟨by omega, by omega⟩, h⟩ : (-2147483648 ≤ (0:Int) ∧ (0:Int) < 2147483648) ∧ (-2147483648 ≤ a ∧ a < 2147483648)), iI_le (⟨⟨by omega, by omega⟩, h⟩ : (-2147483648 ≤ (0:Int) ∧ (0:Int) < 2147483648) ∧ (-2147483648 ≤ a ∧ a < 2147483648))] at q)
    omega
  · rw [iI_zero] at q; first | (rw [iI_eq (⟨h, by omega, by omega⟩ : (-2147483648 ≤ a ∧ a < 2147483648) ∧ (-2147483648 ≤ (0:Int) ∧ (0:Int) < 2147483648))] at q) | (rw [iI_lt (⟨h, by omega, by omega⟩ : (-2147483648 ≤ a ∧ a < 2147483648) ∧ (-2147483648 ≤ (0:Int) ∧ (0:Int) < 2147483648))] at q) | (rw [iI_le (⟨h, by omega, by omega⟩ : (-2147483648 ≤ a ∧ a < 2147483648) ∧ (-2147483648 ≤ (0:Int) ∧ (0:Int) < 2147483648))] at q) | (rw [iI_lt (⟨⟨by omega, by omega⟩, h⟩ : (-2147483648 ≤ (0:Int) ∧ (0:Int) < 2147483648) ∧ (-2147483648 ≤ a ∧ a < 2147483648))] at q) | (rw [iI_le (⟨⟨by omega, by omega⟩, h⟩ : (-2147483648 ≤ (0:Int) ∧ (0:Int) < 2147483648) ∧ (-2147483648 ≤ a ∧ a < 2147483648))] at q) | (simp only [ge_iff_le, gt_iff_lt, iI_lt (⟨h, by omega, by omega⟩ : (-2147483648 ≤ a ∧ a < 2147483648) ∧ (-2147483648 ≤ (0:Int) ∧ (0:Int) < 2147483648)), iI_le (⟨h, by omega, by omega⟩ : (-2147483648 ≤ a ∧ a < 2147483648) ∧ (-2147483648 ≤ (0:Int) ∧ (0:Int) < 2147483648)), iI_lt (⟨⟨by omega, by omega⟩, h⟩ : (-2147483648 ≤ (0:Int) ∧ (0:Int) < 2147483648) ∧ (-2147483648 ≤ a ∧ a < 2147483648)), iI_le (⟨⟨by omega, by omega⟩, h⟩ : (-2147483648 ≤ (0:Int) ∧ (0:Int) < 2147483648) ∧ (-2147483648 ≤ a ∧ a < 2147483648))] at q)
    omega
theorem r_icmp_lt (C : Cx cc own nL X) {a b : Int} {off : Int} {tgt : Nat} (h : (-2147483648 ≤ a ∧ a < 2147483648) ∧ (-2147483648 ≤ b ∧ b < 2147483648)) (d : decode cc pc = .ok (.if_icmp .lt off, 3)) (ht : (pc : Int) + off = (tgt : Int)) (kt : a < b → GG X k n H locs tgt ls rest) (kf : b ≤ a → GG X k n H locs (pc + 3) ls rest) : GG X k n H locs pc ls (.int (iI b) :: .int (iI a) :: rest) := by
  obtain ⟨p, l, e, R, s, m, args, below, meth, c, Q, A, G, tys⟩ := X
  refine lv_icmp_lt C.1 C.2.1 d ht (fun q => kt ?_) (fun q => kf ?_)
  · first | (rw [iI_eq h] at q) | (rw [iI_lt h] at q) | (rw [iI_le h] at q) | (rw [iI_lt ⟨h.2, h.1⟩] at q) | (rw [iI_le ⟨h.2, h.1⟩] at q) | (simp only [ge_iff_le, gt_iff_lt, iI_lt h, iI_le h, iI_lt ⟨h.2, h.1⟩, iI_le ⟨h.2, h.1⟩] at q)
    omega
  · first | (rw [iI_eq h] at q) | (rw [iI_lt h] at q) | (rw [iI_le h] at q) | (rw [iI_lt ⟨h.2, h.1⟩] at q) | (rw [iI_le ⟨h.2, h.1⟩] at q) | (simp only [ge_iff_le, gt_iff_lt, iI_lt h, iI_le h, iI_lt ⟨h.2, h.1⟩, iI_le ⟨h.2, h.1⟩] at q)
    omega
theorem r_if_lt (C : Cx cc own nL X) {a : Int} {off : Int} {tgt : Nat} (h : (-2147483648 ≤ a ∧ a < 2147483648)) (d : decode cc pc = .ok (.ifCond .lt off, 3)) (ht : (pc : Int) + off = (tgt : Int)) (kt : a < 0 → GG X k n H locs tgt ls rest) (kf : 0 ≤ a → GG X k n H locs (pc + 3) ls rest) : GG X k n H locs pc ls (.int (iI a) :: rest) := by
  obtain ⟨p, l, e, R, s, m, args, below, meth, c, Q, A, G, tys⟩ := X
  refine lv_if_lt C.1 C.2.1 d ht (fun q => kt ?_) (fun q => kf ?_)
  · rw [iI_zero] at q; first | (rw [iI_eq (⟨h, by omega, by omega⟩ : (-2147483648 ≤ a ∧ a < 2147483648) ∧ (-2147483648 ≤ (0:Int) ∧ (0:Int) < 2147483648))] at q) | (rw [iI_lt (⟨h, by omega, by omega⟩ : (-2147483648 ≤ a ∧ a < 2147483648) ∧ (-2147483648 ≤ (0:Int) ∧ (0:Int) < 2147483648))] at q) | (rw [iI_le (⟨h, by omega, by omega⟩ : (-2147483648 ≤ a ∧ a < 2147483648) ∧ (-2147483648 ≤ (0:Int) ∧ (0:Int) < 2147483648))] at q) | (rw [iI_lt (⟨⟨by omega, by omega⟩, h⟩ : (-2147483648 ≤ (0:Int) ∧ (0:Int) < 2147483648) ∧ (-2147483648 ≤ a ∧ a < 2147483648))] at q) | (rw [iI_le (⟨⟨by omega, by omega⟩, h⟩ : (-2147483648 ≤ (0:Int) ∧ (0:Int) < 2147483648) ∧ (-2147483648 ≤ a ∧ a < 2147483648))] at q) | (simp only [ge_iff_le, gt_iff_lt, iI_lt (⟨h, by omega, by omega⟩ : (-2147483648 ≤ a ∧ a < 2147483648) ∧ (-2147483648 ≤ (0:Int) ∧ (0:Int) < 2147483648)), iI_le (⟨h, by omega, by omega⟩ : (-2147483648 ≤ a ∧ a < 2147483648) ∧ (-2147483648 ≤ (0:Int) ∧ (0:Int) < 2147483648)), iI_lt (⟨⟨by omega, by omega⟩, h⟩ : (-2147483648 ≤ (0:Int) ∧ (0:Int) < 2147483648) ∧ (-2147483648 ≤ a ∧ a < 2147483648)), iI_le (⟨⟨by omega, by omega⟩, h⟩ : (-2147483648 ≤ (0:Int) ∧ (0:Int) < 2147483648) ∧ (-2147483648 ≤ a ∧ a < 2147483648))] at q)
    omega
  · rw [iI_zero] at q; first | (rw [iI_eq (⟨h, by omega, by omega⟩ : (-2147483648 ≤ a ∧ a < 2147483648) ∧ (-2147483648 ≤ (0:Int) ∧ (0:Int) < 2147483648))] at q) | (rw [iI_lt (⟨h, by omega, by omega⟩ : (-2147483648 ≤ a ∧ a < 2147483648) ∧ (-2147483648 ≤ (0:Int) ∧ (0:Int) < 2147483648))] at q) | (rw [iI_le (⟨h, by omega, by omega⟩ : (-2147483648 ≤ a ∧ a < 2147483648) ∧ (-2147483648 ≤ (0:Int) ∧ (0:Int) < 2147483648))] at q) | (rw [iI_lt (⟨⟨by omega, by omega⟩, h⟩ : (-2147483648 ≤ (0:Int) ∧ (0:Int) < 2147483648) ∧ (-2147483648 ≤ a ∧ a < 2147483648))] at q) | (rw [iI_le (⟨⟨by omega, by omega⟩, h⟩ : (-2147483648 ≤ (0:Int) ∧ (0:Int) < 2147483648) ∧ (-2147483648 ≤ a ∧ a < 2147483648))] at q) | (simp only [ge_iff_le, gt_iff_lt, iI_lt (⟨h, by omega, by omega⟩ : (-2147483648 ≤ a ∧ a < 2147483648) ∧ (-2147483648 ≤ (0:Int) ∧ (0:Int) < 2147483648)), iI_le (⟨h, by omega, by omega⟩ : (-2147483648 ≤ a ∧ a < 2147483648) ∧ (-2147483648 ≤ (0:Int) ∧ (0:Int) < 2147483648)), iI_lt (⟨⟨by omega, by omega⟩, h⟩ : (-2147483648 ≤ (0:Int) ∧ (0:Int) < 2147483648) ∧ (-2147483648 ≤ a ∧ a < 2147483648)), iI_le (⟨⟨by omega, by omega⟩, h⟩ : (-2147483648 ≤ (0:Int) ∧ (0:Int) < 2147483648) ∧ (-2147483648 ≤ a ∧ a < 2147483648))] at q)
    omega
theorem r_icmp_ge (C : Cx cc own nL X) {a b : Int} {off : Int} {tgt : Nat} (h : (-2147483648 ≤ a ∧ a < 2147483648) ∧ (-2147483648 ≤ b ∧ b < 2147483648)) (d : decode cc pc = .ok (.if_icmp .ge off, 3)) (ht : (pc : Int) + off = (tgt : Int)) (kt : b ≤ a → GG X k n H locs tgt ls rest) (kf : a < b → GG X k n H locs (pc + 3) ls rest) : GG X k n H locs pc ls (.int (iI b) :: .int (iI a) :: rest) := by
  obtain ⟨p, l, e, R, s, m, args, below, meth, c, Q, A, G, tys⟩ := X
  refine lv_icmp_ge C.1 C.2.1 d ht (fun q => kt ?_) (fun q => kf ?_)
  · first | (rw [iI_eq h] at q) | (rw [iI_lt h] at q) | (rw [iI_le h] at q) | (rw [iI_lt ⟨h.2, h.1⟩] at q) | (rw [iI_le ⟨h.2, h.1⟩] at q) | (simp only [ge_iff_le, gt_iff_lt, iI_lt h, iI_le h, iI_lt ⟨h.2, h.1⟩, iI_le ⟨h.2, h.1⟩] at q)
    omega
  · first | (rw [iI_eq h] at q) | (rw [iI_lt h] at q) | (rw [iI_le h] at q) | (rw [iI_lt ⟨h.2, h.1⟩] at q) | (rw [iI_le ⟨h.2, h.1⟩] at q) | (simp only [ge_iff_le, gt_iff_lt, iI_lt h, iI_le h, iI_lt ⟨h.2, h.1⟩, iI_le ⟨h.2, h.1⟩] at q)
    omega
theorem r_if_ge (C : Cx cc own nL X) {a : Int} {off : Int} {tgt : Nat} (h : (-2147483648 ≤ a ∧ a < 2147483648)) (d : decode cc pc = .ok (.ifCond .ge off, 3)) (ht : (pc : Int) + off = (tgt : Int)) (kt : 0 ≤ a → GG X k n H locs tgt ls rest) (kf : a < 0 → GG X k n H locs (pc + 3) ls rest) : GG X k n H locs pc ls (.int (iI a) :: rest) := by
  obtain ⟨p, l, e, R, s, m, args, below, meth, c, Q, A, G, tys⟩ := X
  refine lv_if_ge C.1 C.2.1 d ht (fun q => kt ?_) (fun q => kf ?_)
  · rw [iI_zero] at q; first | (rw [iI_eq (⟨h, by omega, by omega⟩ : (-2147483648 ≤ a ∧ a < 2147483648) ∧ (-2147483648 ≤ (0:Int) ∧ (0:Int) < 2147483648))] at q) | (rw [iI_lt (⟨h, by omega, by omega⟩ : (-2147483648 ≤ a ∧ a < 2147483648) ∧ (-2147483648 ≤ (0:Int) ∧ (0:Int) < 2147483648))] at q) | (rw [iI_le (⟨h, by omega, by omega⟩ : (-2147483648 ≤ a ∧ a < 2147483648) ∧ (-2147483648 ≤ (0:Int) ∧ (0:Int) < 2147483648))] at q) | (rw [iI_lt (⟨⟨by omega, by omega⟩, h⟩ : (-2147483648 ≤ (0:Int) ∧ (0:Int) < 2147483648) ∧ (-2147483648 ≤ a ∧ a < 2147483648))] at q) | (rw [iI_le (⟨⟨by omega, by omega⟩, h⟩ : (-2147483648 ≤ (0:Int) ∧ (0:Int) < 2147483648) ∧ (-2147483648 ≤ a ∧ a < 2147483648))] at q) | (simp only [ge_iff_le, gt_iff_lt, iI_lt (⟨h, by omega, by omega⟩ : (-2147483648 ≤ a ∧ a < 2147483648) ∧ (-2147483648 ≤ (0:Int) ∧ (0:Int) < 2147483648)), iI_le (⟨h, by omega, by omega⟩ : (-2147483648 ≤ a ∧ a < 2147483648) ∧ (-2147483648 ≤ (0:Int) ∧ (0:Int) < 2147483648)), iI_lt (⟨⟨by omega, by omega⟩, h⟩ : (-2147483648 ≤ (0:Int) ∧ (0:Int) < 2147483648) ∧ (-2147483648 ≤ a ∧ a < 2147483648)), iI_le (⟨⟨by omega, by omega⟩, h⟩ : (-2147483648 ≤ (0:Int) ∧ (0:Int) < 2147483648) ∧ (-2147483648 ≤ a ∧ a < 2147483648))] at q)
    omega
  · rw [iI_zero] at q; first | (rw [iI_eq (⟨h, by omega, by omega⟩ : (-2147483648 ≤ a ∧ a < 2147483648) ∧ (-2147483648 ≤ (0:Int) ∧ (0:Int) < 2147483648))] at q) | (rw [iI_lt (⟨h, by omega, by omega⟩ : (-2147483648 ≤ a ∧ a < 2147483648) ∧ (-2147483648 ≤ (0:Int) ∧ (0:Int) < 2147483648))] at q) | (rw [iI_le (⟨h, by omega, by omega⟩ : (-2147483648 ≤ a ∧ a < 2147483648) ∧ (-2147483648 ≤ (0:Int) ∧ (0:Int) < 2147483648))] at q) | (rw [iI_lt (⟨⟨by omega, by omega⟩, h⟩ : (-2147483648 ≤ (0:Int) ∧ (0:Int) < 2147483648) ∧ (-2147483648 ≤ a ∧ a < 2147483648))] at q) | (rw [iI_le (⟨⟨by omega, by omega⟩, h⟩ : (-2147483648 ≤ (0:Int) ∧ (0:Int) < 2147483648) ∧ (-2147483648 ≤ a ∧ a < 2147483648))] at q) | (simp only [ge_iff_le, gt_iff_lt, iI_lt (⟨h, by omega, by omega⟩ : (-2147483648 ≤ a ∧ a < 2147483648) ∧ (-2147483648 ≤ (0:Int) ∧ (0:Int) < 2147483648)), iI_le (⟨h, by omega, by omega⟩ : (-2147483648 ≤ a ∧ a < 2147483648) ∧ (-2147483648 ≤ (0:Int) ∧ (0:Int) < 2147483648)), iI_lt (⟨⟨by omega, by omega⟩, h⟩ : (-2147483648 ≤ (0:Int) ∧ (0:Int) < 2147483648) ∧ (-2147483648 ≤ a ∧ a < 2147483648)), iI_le (⟨⟨by omega, by omega⟩, h⟩ : (-2147483648 ≤ (0:Int) ∧ (0:Int) < 2147483648) ∧ (-2147483648 ≤ a ∧ a < 2147483648))] at q)
    omega
theorem r_icmp_gt (C : Cx cc own nL X) {a b : Int} {off : Int} {tgt : Nat} (h : (-2147483648 ≤ a ∧ a < 2147483648) ∧ (-2147483648 ≤ b ∧ b < 2147483648)) (d : decode cc pc = .ok (.if_icmp .gt off, 3)) (ht : (pc : Int) + off = (tgt : Int)) (kt : b < a → GG X k n H locs tgt ls rest) (kf : a ≤ b → GG X k n H locs (pc + 3) ls rest) : GG X k n H locs pc ls (.int (iI b) :: .int (iI a) :: rest) := by
  obtain ⟨p, l, e, R, s, m, args, below, meth, c, Q, A, G, tys⟩ := X
  refine lv_icmp_gt C.1 C.2.1 d ht (fun q => kt ?_) (fun q => kf ?_)
  · first | (rw [iI_eq h] at q) | (rw [iI_lt h] at q) | (rw [iI_le h] at q) | (rw [iI_lt ⟨h.2, h.1⟩] at q) | (rw [iI_le ⟨h.2, h.1⟩] at q) | (simp only [ge_iff_le, gt_iff_lt, iI_lt h, iI_le h, iI_lt ⟨h.2, h.1⟩, iI_le ⟨h.2, h.1⟩] at q)
    omega
  · first | (rw [iI_eq h] at q) | (rw [iI_lt h] at q) | (rw [iI_le h] at q) | (rw [iI_lt ⟨h.2, h.1⟩] at q) | (rw [iI_le ⟨h.2, h.1⟩] at q) | (simp only [ge_iff_le, gt_iff_lt, iI_lt h, iI_le h, iI_lt ⟨h.2, h.1⟩, iI_le ⟨h.2, h.1⟩] at q)
    omega
theorem r_if_gt (C : Cx cc own nL X) {a : Int} {off : Int} {tgt : Nat} (h : (-2147483648 ≤ a ∧ a < 2147483648)) (d : decode cc pc = .ok (.ifCond .gt off, 3)) (ht : (pc : Int) + off = (tgt : Int)) (kt : 0 < a → GG X k n H locs tgt ls rest) (kf : a ≤ 0 → GG X k n H locs (pc + 3) ls rest) : GG X k n H locs pc ls (.int (iI a) :: rest) := by
  obtain ⟨p, l, e, R, s, m, args, below, meth, c, Q, A, G, tys⟩ := X
  refine lv_if_gt C.1 C.2.1 d ht (fun q => kt ?_) (fun q => kf ?_)
  · rw [iI_zero] at q; first | (rw [iI_eq (⟨h, by omega, by omega⟩ : (-2147483648 ≤ a ∧ a < 2147483648) ∧ (-2147483648 ≤ (0:Int) ∧ (0:Int) < 2147483648))] at q) | (rw [iI_lt (⟨h, by omega, by omega⟩ : (-2147483648 ≤ a ∧ a < 2147483648) ∧ (-2147483648 ≤ (0:Int) ∧ (0:Int) < 2147483648))] at q) | (rw [iI_le (⟨h, by omega, by omega⟩ : (-2147483648 ≤ a ∧ a < 2147483648) ∧ (-2147483648 ≤ (0:Int) ∧ (0:Int) < 2147483648))] at q) | (rw [iI_lt (⟨⟨by omega, by omega⟩, h⟩ : (-2147483648 ≤ (0:Int) ∧ (0:Int) < 2147483648) ∧ (-2147483648 ≤ a ∧ a < 2147483648))] at q) | (rw [iI_le (⟨⟨by omega, by omega⟩, h⟩ : (-2147483648 ≤ (0:Int) ∧ (0:Int) < 2147483648) ∧ (-2147483648 ≤ a ∧ a < 2147483648))] at q) | (simp only [ge_iff_le, gt_iff_lt, iI_lt (⟨h, by omega, by omega⟩ : (-2147483648 ≤ a ∧ a < 2147483648) ∧ (-2147483648 ≤ (0:Int) ∧ (0:Int) < 2147483648)), iI_le (⟨h, by omega, by omega⟩ : (-2147483648 ≤ a ∧ a < 2147483648) ∧ (-2147483648 ≤ (0:Int) ∧ (0:Int) < 2147483648)), iI_lt (⟨⟨by omega, by omega⟩, h⟩ : (-2147483648 ≤ (0:Int) ∧ (0:Int) < 2147483648) ∧ (-2147483648 ≤ a ∧ a < 2147483648)), iI_le (⟨⟨by omega, by omega⟩, h⟩ : (-2147483648 ≤ (0:Int) ∧ (0:Int) < 2147483648) ∧ (-2147483648 ≤ a ∧ a < 2147483648))] at q)
    omega
  · rw [iI_zero] at q; first | (rw [iI_eq (⟨h, by omega, by omega⟩ : (-2147483648 ≤ a ∧ a < 2147483648) ∧ (-2147483648 ≤ (0:Int) ∧ (0:Int) < 2147483648))] at q) | (rw [iI_lt (⟨h, by omega, by omega⟩ : (-2147483648 ≤ a ∧ a < 2147483648) ∧ (-2147483648 ≤ (0:Int) ∧ (0:Int) < 2147483648))] at q) | (rw [iI_le (⟨h, by omega, by omega⟩ : (-2147483648 ≤ a ∧ a < 2147483648) ∧ (-2147483648 ≤ (0:Int) ∧ (0:Int) < 2147483648))] at q) | (rw [iI_lt (⟨⟨by omega, by omega⟩, h⟩ : (-2147483648 ≤ (0:Int) ∧ (0:Int) < 2147483648) ∧ (-2147483648 ≤ a ∧ a < 2147483648))] at q) | (rw [iI_le (⟨⟨by omega, by omega⟩, h⟩ : (-2147483648 ≤ (0:Int) ∧ (0:Int) < 2147483648) ∧ (-2147483648 ≤ a ∧ a < 2147483648))] at q) | (simp only [ge_iff_le, gt_iff_lt, iI_lt (⟨h, by omega, by omega⟩ : (-2147483648 ≤ a ∧ a < 2147483648) ∧ (-2147483648 ≤ (0:Int) ∧ (0:Int) < 2147483648)), iI_le (⟨h, by omega, by omega⟩ : (-2147483648 ≤ a ∧ a < 2147483648) ∧ (-2147483648 ≤ (0:Int) ∧ (0:Int) < 2147483648)), iI_lt (⟨⟨by omega, by omega⟩, h⟩ : (-2147483648 ≤ (0:Int) ∧ (0:Int) < 2147483648) ∧ (-2147483648 ≤ a ∧ a < 2147483648)), iI_le (⟨⟨by omega, by omega⟩, h⟩ : (-2147483648 ≤ (0:Int) ∧ (0:Int) < 2147483648) ∧ (-2147483648 ≤ a ∧ a < 2147483648))] at q)
    omega
theorem r_icmp_le (C : Cx cc own nL X) {a b : Int} {off : Int} {tgt : Nat} (h : (-2147483648 ≤ a ∧ a < 2147483648) ∧ (-2147483648 ≤ b ∧ b < 2147483648)) (d : decode cc pc = .ok (.if_icmp .le off, 3)) (ht : (pc : Int) + off = (tgt : Int)) (kt : a ≤ b → GG X k n H locs tgt ls rest) (kf : b < a → GG X k n H locs (pc + 3) ls rest) : GG X k n H locs pc ls (.int (iI b) :: .int (iI a) :: rest) := by
  obtain ⟨p, l, e, R, s, m, args, below, meth, c, Q, A, G, tys⟩ := X
  refine lv_icmp_le C.1 C.2.1 d ht (fun q => kt ?_) (fun q => kf ?_)
  · first | (rw [iI_eq h] at q) | (rw [iI_lt h] at q) | (rw [iI_le h] at q) | (rw [iI_lt ⟨h.2, h.1⟩] at q) | (rw [iI_le ⟨h.2, h.1⟩] at q) | (simp only [ge_iff_le, gt_iff_lt, iI_lt h, iI_le h, iI_lt ⟨h.2, h.1⟩, iI_le ⟨h.2, h.1⟩] at q)
    omega
  · first | (rw [iI_eq h] at q) | (rw [iI_lt h] at q) | (rw [iI_le h] at q) | (rw [iI_lt ⟨h.2, h.1⟩] at q) | (rw [iI_le ⟨h.2, h.1⟩] at q) | (simp only [ge_iff_le, gt_iff_lt, iI_lt h, iI_le h, iI_lt ⟨h.2, h.1⟩, iI_le ⟨h.2, h.1⟩] at q)
    omega
theorem r_if_le (C : Cx cc own nL X) {a : Int} {off : Int} {tgt : Nat} (h : (-2147483648 ≤ a ∧ a < 2147483648)) (d : decode cc pc = .ok (.ifCond .le off, 3)) (ht : (pc : Int) + off = (tgt : Int)) (kt : a ≤ 0 → GG X k n H locs tgt ls rest) (kf : 0 < a → GG X k n H locs (pc + 3) ls rest) : GG X k n H locs pc ls (.int (iI a) :: rest) := by
  obtain ⟨p, l, e, R, s, m, args, below, meth, c, Q, A, G, tys⟩ := X
  refine lv_if_le C.1 C.2.1 d ht (fun q => kt ?_) (fun q => kf ?_)
  · rw [iI_zero] at q; first | (rw [iI_eq (⟨h, by omega, by omega⟩ : (-2147483648 ≤ a ∧ a < 2147483648) ∧ (-2147483648 ≤ (0:Int) ∧ (0:Int) < 2147483648))] at q) | (rw [iI_lt (⟨h, by omega, by omega⟩ : (-2147483648 ≤ a ∧ a < 2147483648) ∧ (-2147483648 ≤ (0:Int) ∧ (0:Int) < 2147483648))] at q) | (rw [iI_le (⟨h, by omega, by omega⟩ : (-2147483648 ≤ a ∧ a < 2147483648) ∧ (-2147483648 ≤ (0:Int) ∧ (0:Int) < 2147483648))] at q) | (rw [iI_lt (⟨⟨by omega, by omega⟩, h⟩ : (-2147483648 ≤ (0:Int) ∧ (0:Int) < 2147483648) ∧ (-2147483648 ≤ a ∧ a < 2147483648))] at q) | (rw [iI_le (⟨⟨by omega, by omega⟩, h⟩ : (-2147483648 ≤ (0:Int) ∧ (0:Int) < 2147483648) ∧ (-2147483648 ≤ a ∧ a < 2147483648))] at q) | (simp only [ge_iff_le, gt_iff_lt, iI_lt (⟨h, by omega, by omega⟩ : (-2147483648 ≤ a ∧ a < 2147483648) ∧ (-2147483648 ≤ (0:Int) ∧ (0:Int) < 2147483648)), iI_le (⟨h, by omega, by omega⟩ : (-2147483648 ≤ a ∧ a < 2147483648) ∧ (-2147483648 ≤ (0:Int) ∧ (0:Int) < 2147483648)), iI_lt (⟨⟨by omega, by omega⟩, h⟩ : (-2147483648 ≤ (0:Int) ∧ (0:Int) < 2147483648) ∧ (-2147483648 ≤ a ∧ a < 2147483648)), iI_le (⟨⟨by omega, by omega⟩, h⟩ : (-2147483648 ≤ (0:Int) ∧ (0:Int) < 2147483648) ∧ (-2147483648 ≤ a ∧ a < 2147483648))] at q)
    omega
  · rw [iI_zero] at q; first | (rw [iI_eq (⟨h, by omega, by omega⟩ : (-2147483648 ≤ a ∧ a < 2147483648) ∧ (-2147483648 ≤ (0:Int) ∧ (0:Int) < 2147483648))] at q) | (rw [iI_lt (⟨h, by omega, by omega⟩ : (-2147483648 ≤ a ∧ a < 2147483648) ∧ (-2147483648 ≤ (0:Int) ∧ (0:Int) < 2147483648))] at q) | (rw [iI_le (⟨h, by omega, by omega⟩ : (-2147483648 ≤ a ∧ a < 2147483648) ∧ (-2147483648 ≤ (0:Int) ∧ (0:Int) < 2147483648))] at q) | (rw [iI_lt (⟨⟨by omega, by omega⟩, h⟩ : (-2147483648 ≤ (0:Int) ∧ (0:Int) < 2147483648) ∧ (-2147483648 ≤ a ∧ a < 2147483648))] at q) | (rw [iI_le (⟨⟨by omega, by omega⟩, h⟩ : (-2147483648 ≤ (0:Int) ∧ (0:Int) < 2147483648) ∧ (-2147483648 ≤ a ∧ a < 2147483648))] at q) | (simp only [ge_iff_le, gt_iff_lt, iI_lt (⟨h, by omega, by omega⟩ : (-2147483648 ≤ a ∧ a < 2147483648) ∧ (-2147483648 ≤ (0:Int) ∧ (0:Int) < 2147483648)), iI_le (⟨h, by omega, by omega⟩ : (-2147483648 ≤ a ∧ a < 2147483648) ∧ (-2147483648 ≤ (0:Int) ∧ (0:Int) < 2147483648)), iI_lt (⟨⟨by omega, by omega⟩, h⟩ : (-2147483648 ≤ (0:Int) ∧ (0:Int) < 2147483648) ∧ (-2147483648 ≤ a ∧ a < 2147483648)), iI_le (⟨⟨by omega, by omega⟩, h⟩ : (-2147483648 ≤ (0:Int) ∧ (0:Int) < 2147483648) ∧ (-2147483648 ≤ a ∧ a < 2147483648))] at q)
    omega
end R3
