/-! constructors: rows that make cells -/
abbrev aQ (c : ClassId) (n : Nat) (f : Nat → Option Nat) : va_E := .inl (c, n, .inr (.inr (.inr (.inr f))))
def Xnm (X : Ev) : Prop := match X with
  | (_, _, _, _, _, _, _, _, meth, _, _, _, _, _) => meth.name = "<init>"
def Xs (X : Ev) : State := X.2.2.2.2.1
def XE (X : Ev) (E : State → Prop) : Prop := E (Xs X)
def CTC (l : Launch) (G : va_G) (tys : List (ClassId × FieldType)) (E : State → Prop) (y : MethodName) (b : ByteArray) (nL fr lo mc ms : Nat) (av : List Value) (ws : va_W) (post : va_W → Prop) : Prop :=
  ∀ sz : Nat, Met l y (.code y b nL none :: TB) ({ frames := fr, cells := mc, slots := ms, locals := lo }) (va_Pc av (fun U => U.heap.size = sz ∧ va_P G classes ws U.heap ∧ (KK G tys U ∧ E U) ∧ va_D (fun _ => True) ws)) (va_Qv (fun (u : va_W) => post u) (fun u t => va_P G classes u t.heap ∧ va_D (va_A ws sz) u) (va_A ws sz)) mc ms (va_A ws sz)
def RetC (X : Ev) (b : ByteArray) (mc ms : Nat) (post : va_W → Prop) : Prop := ∀ (H : Heap) (locs : List Loc) (pc : Nat) (ls : Array Slot) (u : va_W), decode b pc = .ok (.return_, 1) → Wd X u H locs → post u → GG X mc ms H locs pc ls []
theorem mkC {l : Launch} {G : va_G} {tys : List (ClassId × FieldType)} {E : State → Prop} {y : MethodName} {b : ByteArray} {nL fr lo mc ms : Nat} {av : List Value} {ws : va_W} {post : va_W → Prop} (hy : plainName y.cls = true) (hy1 : y.name = "<init>") (hn : (lg_sl av).length ≤ nL)
    (body : ∀ X : Ev, Xl X = l → XG X = G → Xtys X = tys → XR X = ({ frames := fr, cells := mc, slots := ms, locals := lo } : Room) → Cx b y.cls nL X → Xnm X → XE X E → RetC X b mc ms post → ∀ (H : Heap) (ls : Array Slot), Wd X ws H [] → lv_has ls nL (lv_args 0 av) → GG X 0 0 H [] 0 ls []) : CTC l G tys E y b nL fr lo mc ms av ws post := by
  intro sz
  refine Met.ofW (cc := b) (maxL := nL) (ret := none) hy rfl ?_
  intro p e s m args below meth c s₁ B hml hv
  obtain ⟨rfl, hsz, hP, ⟨hK, hE⟩, hD0⟩ := hv
  subst hsz
  rw [lg_entry_eq]
  have hts := atoms_spec B.pre
  have hin : meth.name = "<init>" := (name_of_methodNamed B.named B.method).1.trans hy1
  refine body (p, l, e, _, s, m, av.toArray, below, meth, c, MQ below _ av.toArray s mc ms (va_A ws s.heap.size), va_A ws s.heap.size, G, tys) rfl rfl rfl rfl ⟨B.exec, B.bytes, hml, findClass_of_methodNamed B.named, fun w hw => hts w (List.mem_cons_of_mem _ hw)⟩ hin hE ?_ s.heap _ ⟨hK, hP, hD0.self, va_S.rf, fun q h => Or.inr h⟩ (lv_entry av hn)
  intro H locs pc ls u d w hz
  exact W.vret B.exec B.bytes B.returns (fun t ht hW => ⟨⟨u, rfl, hz, by rw [ht]; exact w.2.1, w.2.2.1⟩, w.2.2.2.1.F ht⟩) w.2.2.2.1.2.2 d B.notSynchronized
theorem arrV_cng (c : ClassId) (N : Nat) (f g : Nat → Value) (h : ∀ j, j < N → f j = g j) : arrV c N f = arrV c N g := by
  have e : Array.ofFn (n := N) (fun j => f j.val) = Array.ofFn (n := N) (fun j => g j.val) := by
    congr 1
    funext j
    exact h j.val j.isLt
  unfold arrV
  rw [e]
theorem Wd.cng {X : Ev} {ws ws' : va_W} {H : Heap} {locs : List Loc} (w : Wd X ws H locs) (q0 : Nat) {a n : Nat} {c : ClassId} {f g : Nat → Option Nat} (he : ws[q0]? = some (a, aQ c n f)) (hfg : ∀ j, j < n → f j = g j) (hw : ws.set q0 (a, aQ c n g) = ws') : Wd X ws' H locs := by
  obtain ⟨p, l, e, R, s, m, args, below, meth, cc, Q, A, G, tys⟩ := X
  obtain ⟨hK, hP, hD, hS, hA⟩ := w
  subst hw
  refine ⟨hK, fun k q hk => ?_, hD.set he, hS, hA⟩
  have hl := (List.getElem?_eq_some_iff.mp he).1
  by_cases hkq : k = q0
  · subst hkq
    rw [List.getElem?_set_self hl] at hk
    cases hk
    have h1 : H[a]? = some (vp_cell c (n, .inr (.inr (.inr (.inr f))))) := hP k _ he
    show H[a]? = some (vp_cell c (n, .inr (.inr (.inr (.inr g)))))
    rw [h1, vp_cell_q, vp_cell_q, arrV_cng c n _ (fun j => va_rf (g j)) (fun j hj => by rw [hfg j hj])]
  · rw [List.getElem?_set_ne (Ne.symm hkq)] at hk
    exact hP k q hk
theorem nd_of : ∀ (l : List Nat), l.Nodup → va_nd l = true := by
  intro l
  induction l with
  | nil => intro _; rfl
  | cons a b ih =>
    intro h
    have h2 := List.nodup_cons.mp h
    unfold va_nd
    simp [ih h2.2, h2.1]
theorem nd_shift (n k : Nat) : va_nd ((List.range n).map (fun i => i + k)) = true :=
  nd_of _ (List.Pairwise.map (S := fun a b : Nat => a ≠ b) (fun i : Nat => i + k) (fun a b h e => h (by have e' : a + k = b + k := e; omega)) List.nodup_range)
theorem map_range_app (w1 w2 : va_W) : (List.range w1.length).map (fun i => (w1 ++ w2)[i]?) = w1.map some := by
  apply List.ext_getElem?
  intro i
  rw [List.getElem?_map, List.getElem?_map]
  by_cases h : i < w1.length
  · rw [List.getElem?_range h, List.getElem?_eq_getElem h]
    show some ((w1 ++ w2)[i]?) = _
    rw [List.getElem?_append_left h, List.getElem?_eq_getElem h]
    rfl
  · rw [List.getElem?_eq_none (by simpa using h), List.getElem?_eq_none (by simpa using h)]
    rfl
theorem map_range_app2 (w1 w2 : va_W) : ((List.range w2.length).map (fun i => i + w1.length)).map (fun i => (w1 ++ w2)[i]?) = w2.map some := by
  apply List.ext_getElem?
  intro i
  rw [List.getElem?_map, List.getElem?_map, List.getElem?_map]
  by_cases h : i < w2.length
  · rw [List.getElem?_range h, List.getElem?_eq_getElem h]
    show some ((w1 ++ w2)[i + w1.length]?) = _
    rw [List.getElem?_append_right (by omega), show i + w1.length - w1.length = i by omega, List.getElem?_eq_getElem h]
    rfl
  · rw [List.getElem?_eq_none (l := List.range w2.length) (by simpa using h), List.getElem?_eq_none (l := w2) (by simpa using h)]
    rfl
/-- a world of two: the callee's cells are the first -/
theorem cut_app (w1 w2 : va_W) : Cut (w1 ++ w2) w1 w2 (List.range w1.length) ((List.range w2.length).map (fun i => i + w1.length)) := by
  refine ⟨map_range_app w1 w2, map_range_app2 w1 w2, nd_of _ List.nodup_range, nd_shift _ _, fun i h1 h2 => ?_⟩
  obtain ⟨j, -, rfl⟩ := List.mem_map.mp h1
  have := List.mem_range.mp h2
  omega
/-- the callee's cells are the last -/
theorem cut_app2 (w1 w2 : va_W) : Cut (w1 ++ w2) w2 w1 ((List.range w2.length).map (fun i => i + w1.length)) (List.range w1.length) := by
  refine ⟨map_range_app2 w1 w2, map_range_app w1 w2, nd_shift _ _, nd_of _ List.nodup_range, fun i h1 h2 => ?_⟩
  obtain ⟨j, -, rfl⟩ := List.mem_map.mp h2
  have := List.mem_range.mp h1
  omega
theorem at_end (D1 D2 D3 : Nat × va_E) (wr w2 : va_W) (x : Nat × va_E) (h : w2[0]? = some x) : (D1 :: D2 :: D3 :: (wr ++ w2))[wr.length + 3]? = some x := by
  show ((D1 :: D2 :: D3 :: wr) ++ w2)[(D1 :: D2 :: D3 :: wr).length]? = some x
  rw [List.getElem?_append_right (Nat.le_refl _), Nat.sub_self]
  exact h
section RN
variable {X : Ev} {k n : Nat} {H : Heap} {locs : List Loc} {pc nL : Nat} {ls : Array Slot} {rest : List Value} {cc : ByteArray} {own : String}
theorem r_obj (C : Cx cc own nL X) {idx a : Nat} (hls : ls.size = nL) (hml : Cond.methodLink own idx objectInit ∈ TB) (hR : 1 ≤ (XR X).frames ∧ 12 ≤ (XR X).locals) (d : decode cc pc = .ok (.invokespecial idx, 3)) (kk : GG X k n H locs (pc + 3) ls []) : GG X k n H locs pc ls [.ref a] := by
  obtain ⟨p, l, e, R, s, m, args, below, meth, c, Q, A, G, tys⟩ := X
  refine W.objInit C.1 C.2.1 C.2.2.2.1 (C.2.2.2.2 _ hml) (C.2.2.2.2 _ im_Obj_init) (C.2.2.2.2 _ cd_Obj_init) rfl (hls.trans C.2.2.1.symm) rfl d hR.1 hR.2 ?_
  exact W.eq (g2 := F0 m (pc + 3) ls []) rfl kk
theorem r_newaI (C : Cx cc own nL X) {ws : va_W} (w : Wd X ws H locs) {cI cO cZ : ClassId} (hT : TY (Xtys X) cI cO cZ) {N : Nat} {z : Int} (hz : z = (N : Int) ∧ N ≤ 6000) (hR : k + 1 ≤ (XR X).cells ∧ n + N ≤ (XR X).slots) (d : decode cc pc = .ok (.newarray .int, 2))
    (kk : ∀ (q : Nat) (H1 : Heap), Wd X (ws ++ [(q, aI cI N (fun _ => 0))]) H1 locs → GG X (k + 1) (n + N) H1 locs (pc + 2) ls (.ref q :: rest)) : GG X k n H locs pc ls (.int (iI z) :: rest) := by
  obtain ⟨p, l, e, R, s, m, args, below, meth, c, Q, A, G, tys⟩ := X
  obtain ⟨hK, hP, hD, hS, hA⟩ := w
  refine va_newa (atype := .int) (ty := .int) (N' := N) (a0 := (N, .inl (fun _ : Nat => iI 0))) C.1 C.2.1 (C.2.2.2.2 _ ac_int) rfl hK.1 hP hD hS hA (fun cA => rfl) ?_ ?_ ?_ hR.1 hR.2 d (fun q cA H1 K1 P1 D1 S1 => ?_)
  · rw [iI_zero, iI_lt (by omega)]; omega
  · rw [iI_nat (by omega)]; omega
  · show N * 4 ≤ 536870912
    omega
  · have e1 : s.vm.findClass ("[" ++ FieldType.int.toString) = some cA := (K1.2 tys.length (cA, .int) (by simp)).2
    have e2 : s.vm.findClass ("[" ++ FieldType.int.toString) = some cI := (hK.1.2 0 _ hT.1).2
    have e3 : cA = cI := Option.some.inj (e1.symm.trans e2)
    subst e3
    exact kk q H1 ⟨hK, P1, D1, S1, hA⟩
theorem r_newaZ (C : Cx cc own nL X) {ws : va_W} (w : Wd X ws H locs) {cI cO cZ : ClassId} (hT : TY (Xtys X) cI cO cZ) {N : Nat} {z : Int} (hz : z = (N : Int) ∧ N ≤ 6000) (hR : k + 1 ≤ (XR X).cells ∧ n + N ≤ (XR X).slots) (d : decode cc pc = .ok (.newarray .boolean, 2))
    (kk : ∀ (q : Nat) (H1 : Heap), Wd X (ws ++ [(q, aI cZ N (fun _ => 0))]) H1 locs → GG X (k + 1) (n + N) H1 locs (pc + 2) ls (.ref q :: rest)) : GG X k n H locs pc ls (.int (iI z) :: rest) := by
  obtain ⟨p, l, e, R, s, m, args, below, meth, c, Q, A, G, tys⟩ := X
  obtain ⟨hK, hP, hD, hS, hA⟩ := w
  refine va_newa (atype := .boolean) (ty := .boolean) (N' := N) (a0 := (N, .inl (fun _ : Nat => iI 0))) C.1 C.2.1 (C.2.2.2.2 _ ac_boolean) rfl hK.1 hP hD hS hA (fun cA => rfl) ?_ ?_ ?_ hR.1 hR.2 d (fun q cA H1 K1 P1 D1 S1 => ?_)
  · rw [iI_zero, iI_lt (by omega)]; omega
  · rw [iI_nat (by omega)]; omega
  · show N * 1 ≤ 536870912
    omega
  · have e1 : s.vm.findClass ("[" ++ FieldType.boolean.toString) = some cA := (K1.2 tys.length (cA, .boolean) (by simp)).2
    have e2 : s.vm.findClass ("[" ++ FieldType.boolean.toString) = some cZ := (hK.1.2 2 _ hT.2.2).2
    have e3 : cA = cZ := Option.some.inj (e1.symm.trans e2)
    subst e3
    exact kk q H1 ⟨hK, P1, D1, S1, hA⟩
theorem r_newq (C : Cx cc own nL X) {ws : va_W} (w : Wd X ws H locs) {cI cO cZ : ClassId} (hT : TY (Xtys X) cI cO cZ) (hE : XE X (va_AO "DeadRuns$State")) {N index : Nat} {z : Int} (hz : z = (N : Int) ∧ N ≤ 6000) (hcl : Cond.classLink own index "DeadRuns$State" ∈ TB) (hR : k + 1 ≤ (XR X).cells ∧ n + N ≤ (XR X).slots) (d : decode cc pc = .ok (.anewarray index, 3))
    (kk : ∀ (q : Nat) (H1 : Heap), Wd X (ws ++ [(q, aQ cO N (fun _ => none))]) H1 locs → GG X (k + 1) (n + N) H1 locs (pc + 3) ls (.ref q :: rest)) : GG X k n H locs pc ls (.int (iI z) :: rest) := by
  obtain ⟨p, l, e, R, s, m, args, below, meth, c, Q, A, G, tys⟩ := X
  obtain ⟨hK, hP, hD, hS, hA⟩ := w
  refine va_newq (N' := N) C.1 C.2.1 C.2.2.2.1 (C.2.2.2.2 _ hcl) hE hK.1 hP hD hS hA ?_ ?_ ?_ hR.1 hR.2 d (fun q cA H1 K1 P1 D1 S1 => ?_)
  · rw [iI_zero, iI_lt (by omega)]; omega
  · rw [iI_nat (by omega)]; omega
  · omega
  · obtain ⟨-, -, -, -, -, e1⟩ : va_RA s cA (.object "DeadRuns$State") := (K1.2 tys.length (cA, .object "DeadRuns$State") (by simp)).2
    obtain ⟨-, -, -, -, -, e2⟩ : va_RA s cO (.object "DeadRuns$State") := (hK.1.2 1 _ hT.2.1).2
    have e3 : cA = cO := Option.some.inj (e1.symm.trans e2)
    subst e3
    exact kk q H1 ⟨hK, P1, D1, S1, hA⟩
theorem r_astq (C : Cx cc own nL X) {ws ws' : va_W} (w : Wd X ws H locs) {cI cO cZ : ClassId} (hT : TY (Xtys X) cI cO cZ) (q0 qk : Nat) {N a v : Nat} {vs : List Value} {f : Nat → Option Nat} (ha : ws[q0]? = some (a, aQ cO N f)) (hv : ws[qk]? = some (v, .inr (1, vs))) {i : Int} (hi : 0 ≤ i ∧ i < N ∧ i < 2147483648) (hw : ws.set q0 (a, aQ cO N (va_up f i.toNat (some v))) = ws') (d : decode cc pc = .ok (.aastore, 1))
    (kk : ∀ (H1 : Heap) (locs1 : List Loc), Wd X ws' H1 locs1 → GG X k n H1 locs1 (pc + 1) ls rest) : GG X k n H locs pc ls (.ref v :: .int (iI i) :: .ref a :: rest) := by
  obtain ⟨p, l, e, R, s, m, args, below, meth, c, Q, A, G, tys⟩ := X
  obtain ⟨hK, hP, hD, hS, hA⟩ := w
  subst hw
  refine va_astq (r := (R_S, F_S, 7)) C.1 C.2.1 hK.1 hP hD hS q0 1 qk 1 ha hT.2.1 hv rfl (iI_in hi) d (fun H1 locs1 hP1 hD1 hS1 => ?_)
  rw [iI_nat (by omega)] at hP1 hD1
  exact kk H1 locs1 ⟨hK, hP1, hD1, hS1, hA⟩
theorem r_putF (C : Cx cc own nL X) (hin : Xnm X) {ws ws' : va_W} (w : Wd X ws H locs) {ref : String} {T : u_T} {N ci index a : Nat} (hws : ∀ w ∈ u_ws own T N, w ∈ TB) (ty0 : Nat → FieldType) (hty : ∀ k, k < N → parseFieldDescriptor (T k).2.2.1 = some (ty0 k)) (hnm : ∀ a, a < N → ∀ b, b < N → a ≠ b → (T a).2.1 ≠ (T b).2.1) (hc : classes[ci]? = some (own, T, N)) (q0 : Nat) {fs : List Value} (he : ws[q0]? = some (a, .inr (ci, fs))) (j : Nat) (hk : j < N) (hl : Cond.fieldLink own index ref (T j).2.1 (T j).2.2.1 ∈ TB) (hr : ref = (T j).1) (hdecl : (T j).1 = own) (hfin : (T j).2.2.2 = true) {v : Value} (hn : narrow (ty0 j) v = v) (hfit : fits (ty0 j) v = true) (hj : j < fs.length) (hw : ws.set q0 (a, .inr (ci, fs.set j v)) = ws') (d : decode cc pc = .ok (.putfield index, 3))
    (kk : ∀ (H1 : Heap) (locs1 : List Loc), Wd X ws' H1 locs1 → GG X k n H1 locs1 (pc + 3) ls rest) : GG X k n H locs pc ls (v :: .ref a :: rest) := by
  obtain ⟨p, l, e, R, s, m, args, below, meth, c, Q, A, G, tys⟩ := X
  subst hw
  exact va_putF C.1 C.2.1 C.2.2.2.2 hws ty0 hty hnm C.2.2.2.1 w.1.1 w.2.1 w.2.2.1 w.2.2.2.1 q0 he hc j hk (C.2.2.2.2 _ hl) (fun _ h => by rw [hr]; exact h) hfin hin hdecl (hty j hk) hn hfit hj d (fun H1 locs1 hP hD hS => kk H1 locs1 ⟨w.1, hP, hD, hS, w.2.2.2.2⟩)
theorem r_new (C : Cx cc own nL X) {ws : va_W} (w : Wd X ws H locs) {cn : String} {T : u_T} {N ci index : Nat} (hws : ∀ w ∈ u_ws cn T N, w ∈ TB) (ty0 : Nat → FieldType) (hty : ∀ k, k < N → parseFieldDescriptor (T k).2.2.1 = some (ty0 k)) (hcl : Cond.classLink own index cn ∈ TB) (hib : Cond.instantiable cn N ∈ TB) (hini : Cond.initialized cn ∈ TB) (hc : classes[ci]? = some (cn, T, N)) {fs : List Value} (hfs : ∀ j, j < N → defaultValue (ty0 j) = vp_V fs j) (hR : k + 1 ≤ (XR X).cells ∧ n + N ≤ (XR X).slots) (d : decode cc pc = .ok (.new index, 3))
    (kk : ∀ (q : Nat) (H1 : Heap), Wd X (ws ++ [(q, .inr (ci, fs))]) H1 locs → GG X (k + 1) (n + N) H1 locs (pc + 3) ls (.ref q :: rest)) : GG X k n H locs pc ls rest := by
  obtain ⟨p, l, e, R, s, m, args, below, meth, c, Q, A, G, tys⟩ := X
  obtain ⟨hK, hP, hD, hS, hA⟩ := w
  exact va_new C.1 C.2.1 C.2.2.2.2 hws ty0 hty C.2.2.2.1 (C.2.2.2.2 _ hcl) (C.2.2.2.2 _ hib) (C.2.2.2.2 _ hini) hK.1 hP hD hS hA hc hfs hR.1 hR.2 d (fun q H1 P1 D1 S1 => kk q H1 ⟨hK, P1, D1, S1, hA⟩)
variable {ws wc wr : va_W} {y : MethodName} {b : ByteArray} {nLc fr lo mc ms a : Nat} {st0 : List Value} {As : List Value} {cn : String} {index nargs : Nat} {E : State → Prop}
theorem r_callC {post : va_W → Prop} (C : Cx cc own nL X) (w : Wd X ws H locs) (hE : XE X E) (hE1 : ∀ u U : State, u.WarmedH U.vm → E u → E U) (hE2 : ∀ u U : State, u.vm = U.vm → E u → E U) (hM : CTC (Xl X) (XG X) (Xtys X) E y b nLc fr lo mc ms (.ref a :: As) wc post)
    (hml : Cond.methodLink own index y ∈ TB) (him : Cond.instanceMethod y ∈ TB) (hini : Cond.initialized y.cls ∈ TB) (hcd : Cond.code y b nLc none ∈ TB) (hy1 : y.name = "<init>") (hd : okD y cn nargs) (hn : As.length = nargs)
    (hR : (fr + 1 ≤ (XR X).frames ∧ 8 + (nLc + 11) + lo ≤ (XR X).locals) ∧ k + mc ≤ (XR X).cells ∧ n + ms ≤ (XR X).slots) (hls : ls.size = nL) (isC isR : List Nat) (hcut : Cut ws wc wr isC isR)
    (hst : st0 = As.reverse ++ .ref a :: rest) (hcat : (rest.map fun v => v.category).sum ≤ 8) (d : decode cc pc = .ok (.invokespecial index, 3))
    (kk : ∀ (u : va_W) (H1 : Heap) (locs1 : List Loc), post u → Wd X (wr ++ u) H1 locs1 → GG X (k + mc) (n + ms) H1 locs1 (pc + 3) ls rest) : GG X k n H locs pc ls st0 := by
  obtain ⟨p, l, e, R, s, m, args, below, meth, c, Q, A, G, tys⟩ := X
  obtain ⟨hC, hRr, hnc, hnr, hdis⟩ := hcut
  obtain ⟨hK, hP, hD, hS, hA⟩ := w
  have hPc := hP.sub isC (cut_filter (wc := wc) isC wc hC)
  have hDc := hD.sub isC hnc hC
  have hFc := va_free hD hS hA isC hC
  have hTB : GoodIn TB (Cond.code y b nLc none :: TB) := TB_in (pre := []) (fun w hw => by cases hw) hcd
  refine va_callv (va_runI (As := As) (rest := rest) ⟨C.1, C.2.1, C.2.2.1, C.2.2.2.1, C.2.2.2.2⟩ (hM H.size) (cwI nargs C.2.2.2.2 hTB rfl rfl rfl (C.2.2.2.2 _ hini) (C.2.2.2.2 _ hml) (C.2.2.2.2 _ him) hy1 hd.2 hR.1) ⟨fun a U g mk q => ?_, fun U hU hW => ⟨rfl, by rw [hU], by rw [hU]; exact hPc, ⟨hK.warm hW, hE1 _ _ hW hE⟩, hDc.weaken (fun _ _ _ _ => trivial)⟩⟩ rfl hn hls hst (lv_room hcat) d ⟨hR.2.1, hR.2.2⟩) hS (fun q _ h => hFc q h) hFc (fun u t H1 locs1 ht hvm hw hB hz1 hk1 hS1 => ?_)
  · obtain ⟨q0, q1, qP, ⟨qK, qE⟩, qD⟩ := q
    exact ⟨q0, q1, qP, ⟨⟨va_K.moved (u := U) (U := U.calling g mk a) (Vm.Alike.refl U.vm) qK.1, va_Nw.same rfl (u := U) (U := U.calling g mk a) rfl qK.2⟩, hE2 U (U.calling g mk a) rfl qE⟩, qD⟩
  · obtain ⟨hP1, hD1⟩ := hB
    rw [ht] at hP1
    obtain ⟨hP2, hD2⟩ := va_join hP hD isC isR hC hRr hnr hdis hk1 hFc hP1 hD1
    exact kk u H1 locs1 hw ⟨hK, hP2, hD2, hS1, hA⟩
theorem r_callCN {post : va_W → Prop} (C : Cx cc own nL X) (w : Wd X ws H locs) (hE : XE X E) (hE1 : ∀ u U : State, u.WarmedH U.vm → E u → E U) (hE2 : ∀ u U : State, u.vm = U.vm → E u → E U) (hM : CTC (Xl X) (XG X) (Xtys X) E y b nLc fr lo mc ms (.ref a :: As) wc post)
    {host : String} (hnl : XE X (va_Nw (.methodLinkNest own index y host))) (him : Cond.instanceMethod y ∈ TB) (hini : Cond.initialized y.cls ∈ TB) (hcd : Cond.code y b nLc none ∈ TB) (hy1 : y.name = "<init>") (hd : okD y cn nargs) (hn : As.length = nargs)
    (hR : (fr + 1 ≤ (XR X).frames ∧ 8 + (nLc + 11) + lo ≤ (XR X).locals) ∧ k + mc ≤ (XR X).cells ∧ n + ms ≤ (XR X).slots) (hls : ls.size = nL) (isC isR : List Nat) (hcut : Cut ws wc wr isC isR)
    (hst : st0 = As.reverse ++ .ref a :: rest) (hcat : (rest.map fun v => v.category).sum ≤ 8) (d : decode cc pc = .ok (.invokespecial index, 3))
    (kk : ∀ (u : va_W) (H1 : Heap) (locs1 : List Loc), post u → Wd X (wr ++ u) H1 locs1 → GG X (k + mc) (n + ms) H1 locs1 (pc + 3) ls rest) : GG X k n H locs pc ls st0 := by
  obtain ⟨p, l, e, R, s, m, args, below, meth, c, Q, A, G, tys⟩ := X
  obtain ⟨hC, hRr, hnc, hnr, hdis⟩ := hcut
  obtain ⟨hK, hP, hD, hS, hA⟩ := w
  have hPc := hP.sub isC (cut_filter (wc := wc) isC wc hC)
  have hDc := hD.sub isC hnc hC
  have hFc := va_free hD hS hA isC hC
  have hTB : GoodIn TB (Cond.code y b nLc none :: TB) := TB_in (pre := []) (fun w hw => by cases hw) hcd
  refine va_callv (va_runIN (As := As) (rest := rest) ⟨C.1, C.2.1, C.2.2.1, C.2.2.2.1, C.2.2.2.2⟩ (hM H.size) ⟨va_cnB nargs C.2.2.2.2 hTB rfl rfl rfl hnl (C.2.2.2.2 _ hini) hd.2 hR.1, hy1, C.2.2.2.2 _ him⟩ ⟨fun a U g mk q => ?_, fun U hU hW => ⟨rfl, by rw [hU], by rw [hU]; exact hPc, ⟨hK.warm hW, hE1 _ _ hW hE⟩, hDc.weaken (fun _ _ _ _ => trivial)⟩⟩ rfl hn hls hst (lv_room hcat) d ⟨hR.2.1, hR.2.2⟩) hS (fun q _ h => hFc q h) hFc (fun u t H1 locs1 ht hvm hw hB hz1 hk1 hS1 => ?_)
  · obtain ⟨q0, q1, qP, ⟨qK, qE⟩, qD⟩ := q
    exact ⟨q0, q1, qP, ⟨⟨va_K.moved (u := U) (U := U.calling g mk a) (Vm.Alike.refl U.vm) qK.1, va_Nw.same rfl (u := U) (U := U.calling g mk a) rfl qK.2⟩, hE2 U (U.calling g mk a) rfl qE⟩, qD⟩
  · obtain ⟨hP1, hD1⟩ := hB
    rw [ht] at hP1
    obtain ⟨hP2, hD2⟩ := va_join hP hD isC isR hC hRr hnr hdis hk1 hFc hP1 hD1
    exact kk u H1 locs1 hw ⟨hK, hP2, hD2, hS1, hA⟩
end RN
theorem d_S_init_0 : decode b_S_init 0 = .ok (.aload_n 0, 1) := by decide +kernel
theorem d_S_init_1 : decode b_S_init 1 = .ok (.invokespecial 3, 3) := by decide +kernel
theorem d_S_init_4 : decode b_S_init 4 = .ok (.aload_n 0, 1) := by decide +kernel
theorem d_S_init_5 : decode b_S_init 5 = .ok (.bipush 50, 2) := by decide +kernel
theorem d_S_init_7 : decode b_S_init 7 = .ok (.newarray .int, 2) := by decide +kernel
theorem d_S_init_9 : decode b_S_init 9 = .ok (.putfield 9, 3) := by decide +kernel
theorem d_S_init_12 : decode b_S_init 12 = .ok (.aload_n 0, 1) := by decide +kernel
theorem d_S_init_13 : decode b_S_init 13 = .ok (.bipush 50, 2) := by decide +kernel
theorem d_S_init_15 : decode b_S_init 15 = .ok (.newarray .int, 2) := by decide +kernel
theorem d_S_init_17 : decode b_S_init 17 = .ok (.putfield 15, 3) := by decide +kernel
theorem d_S_init_20 : decode b_S_init 20 = .ok (.aload_n 0, 1) := by decide +kernel
theorem d_S_init_21 : decode b_S_init 21 = .ok (.iconst 0, 1) := by decide +kernel
theorem d_S_init_22 : decode b_S_init 22 = .ok (.putfield 18, 3) := by decide +kernel
theorem d_S_init_25 : decode b_S_init 25 = .ok (.aload_n 0, 1) := by decide +kernel
theorem d_S_init_26 : decode b_S_init 26 = .ok (.iconst 0, 1) := by decide +kernel
theorem d_S_init_27 : decode b_S_init 27 = .ok (.putfield 22, 3) := by decide +kernel
theorem d_S_init_30 : decode b_S_init 30 = .ok (.aload_n 0, 1) := by decide +kernel
theorem d_S_init_31 : decode b_S_init 31 = .ok (.iconst 0, 1) := by decide +kernel
theorem d_S_init_32 : decode b_S_init 32 = .ok (.putfield 25, 3) := by decide +kernel
theorem d_S_init_35 : decode b_S_init 35 = .ok (.aload_n 0, 1) := by decide +kernel
theorem d_S_init_36 : decode b_S_init 36 = .ok (.iconst 0, 1) := by decide +kernel
theorem d_S_init_37 : decode b_S_init 37 = .ok (.putfield 29, 3) := by decide +kernel
theorem d_S_init_40 : decode b_S_init 40 = .ok (.aload_n 0, 1) := by decide +kernel
theorem d_S_init_41 : decode b_S_init 41 = .ok (.iconst 1, 1) := by decide +kernel
theorem d_S_init_42 : decode b_S_init 42 = .ok (.putfield 32, 3) := by decide +kernel
theorem d_S_init_45 : decode b_S_init 45 = .ok (.return_, 1) := by decide +kernel
theorem d_P_init_0 : decode b_P_init 0 = .ok (.aload_n 0, 1) := by decide +kernel
theorem d_P_init_1 : decode b_P_init 1 = .ok (.invokespecial 3, 3) := by decide +kernel
theorem d_P_init_4 : decode b_P_init 4 = .ok (.aload_n 0, 1) := by decide +kernel
theorem d_P_init_5 : decode b_P_init 5 = .ok (.bipush 80, 2) := by decide +kernel
theorem d_P_init_7 : decode b_P_init 7 = .ok (.newarray .int, 2) := by decide +kernel
theorem d_P_init_9 : decode b_P_init 9 = .ok (.putfield 11, 3) := by decide +kernel
theorem d_P_init_12 : decode b_P_init 12 = .ok (.aload_n 0, 1) := by decide +kernel
theorem d_P_init_13 : decode b_P_init 13 = .ok (.iconst 0, 1) := by decide +kernel
theorem d_P_init_14 : decode b_P_init 14 = .ok (.putfield 15, 3) := by decide +kernel
theorem d_P_init_17 : decode b_P_init 17 = .ok (.return_, 1) := by decide +kernel
theorem d_D_init_0 : decode b_D_init 0 = .ok (.aload_n 0, 1) := by decide +kernel
theorem d_D_init_1 : decode b_D_init 1 = .ok (.invokespecial 1, 3) := by decide +kernel
theorem d_D_init_4 : decode b_D_init 4 = .ok (.aload_n 0, 1) := by decide +kernel
theorem d_D_init_5 : decode b_D_init 5 = .ok (.new 7, 3) := by decide +kernel
theorem d_D_init_8 : decode b_D_init 8 = .ok (.dup, 1) := by decide +kernel
theorem d_D_init_9 : decode b_D_init 9 = .ok (.invokespecial 9, 3) := by decide +kernel
theorem d_D_init_12 : decode b_D_init 12 = .ok (.putfield 10, 3) := by decide +kernel
theorem d_D_init_15 : decode b_D_init 15 = .ok (.aload_n 0, 1) := by decide +kernel
theorem d_D_init_16 : decode b_D_init 16 = .ok (.new 7, 3) := by decide +kernel
theorem d_D_init_19 : decode b_D_init 19 = .ok (.dup, 1) := by decide +kernel
theorem d_D_init_20 : decode b_D_init 20 = .ok (.invokespecial 9, 3) := by decide +kernel
theorem d_D_init_23 : decode b_D_init 23 = .ok (.putfield 16, 3) := by decide +kernel
theorem d_D_init_26 : decode b_D_init 26 = .ok (.aload_n 0, 1) := by decide +kernel
theorem d_D_init_27 : decode b_D_init 27 = .ok (.new 7, 3) := by decide +kernel
theorem d_D_init_30 : decode b_D_init 30 = .ok (.dup, 1) := by decide +kernel
theorem d_D_init_31 : decode b_D_init 31 = .ok (.invokespecial 9, 3) := by decide +kernel
theorem d_D_init_34 : decode b_D_init 34 = .ok (.putfield 19, 3) := by decide +kernel
theorem d_D_init_37 : decode b_D_init 37 = .ok (.aload_n 0, 1) := by decide +kernel
theorem d_D_init_38 : decode b_D_init 38 = .ok (.bipush 6, 2) := by decide +kernel
theorem d_D_init_40 : decode b_D_init 40 = .ok (.anewarray 7, 3) := by decide +kernel
theorem d_D_init_43 : decode b_D_init 43 = .ok (.putfield 22, 3) := by decide +kernel
theorem d_D_init_46 : decode b_D_init 46 = .ok (.aload_n 0, 1) := by decide +kernel
theorem d_D_init_47 : decode b_D_init 47 = .ok (.iconst 0, 1) := by decide +kernel
theorem d_D_init_48 : decode b_D_init 48 = .ok (.putfield 26, 3) := by decide +kernel
theorem d_D_init_51 : decode b_D_init 51 = .ok (.aload_n 0, 1) := by decide +kernel
theorem d_D_init_52 : decode b_D_init 52 = .ok (.iconst 2, 1) := by decide +kernel
theorem d_D_init_53 : decode b_D_init 53 = .ok (.anewarray 7, 3) := by decide +kernel
theorem d_D_init_56 : decode b_D_init 56 = .ok (.putfield 30, 3) := by decide +kernel
theorem d_D_init_59 : decode b_D_init 59 = .ok (.aload_n 0, 1) := by decide +kernel
theorem d_D_init_60 : decode b_D_init 60 = .ok (.iconst 2, 1) := by decide +kernel
theorem d_D_init_61 : decode b_D_init 61 = .ok (.newarray .boolean, 2) := by decide +kernel
theorem d_D_init_63 : decode b_D_init 63 = .ok (.putfield 33, 3) := by decide +kernel
theorem d_D_init_66 : decode b_D_init 66 = .ok (.aload_n 0, 1) := by decide +kernel
theorem d_D_init_67 : decode b_D_init 67 = .ok (.new 37, 3) := by decide +kernel
theorem d_D_init_70 : decode b_D_init 70 = .ok (.dup, 1) := by decide +kernel
theorem d_D_init_71 : decode b_D_init 71 = .ok (.invokespecial 39, 3) := by decide +kernel
theorem d_D_init_74 : decode b_D_init 74 = .ok (.putfield 40, 3) := by decide +kernel
theorem d_D_init_77 : decode b_D_init 77 = .ok (.iconst 0, 1) := by decide +kernel
theorem d_D_init_78 : decode b_D_init 78 = .ok (.istore_n 1, 1) := by decide +kernel
theorem d_D_init_79 : decode b_D_init 79 = .ok (.iload_n 1, 1) := by decide +kernel
theorem d_D_init_80 : decode b_D_init 80 = .ok (.bipush 6, 2) := by decide +kernel
theorem d_D_init_82 : decode b_D_init 82 = .ok (.if_icmp .ge 22, 3) := by decide +kernel
theorem d_D_init_85 : decode b_D_init 85 = .ok (.aload_n 0, 1) := by decide +kernel
theorem d_D_init_86 : decode b_D_init 86 = .ok (.getfield 22, 3) := by decide +kernel
theorem d_D_init_89 : decode b_D_init 89 = .ok (.iload_n 1, 1) := by decide +kernel
theorem d_D_init_90 : decode b_D_init 90 = .ok (.new 7, 3) := by decide +kernel
theorem d_D_init_93 : decode b_D_init 93 = .ok (.dup, 1) := by decide +kernel
theorem d_D_init_94 : decode b_D_init 94 = .ok (.invokespecial 9, 3) := by decide +kernel
theorem d_D_init_97 : decode b_D_init 97 = .ok (.aastore, 1) := by decide +kernel
theorem d_D_init_98 : decode b_D_init 98 = .ok (.iinc 1 1, 3) := by decide +kernel
theorem d_D_init_101 : decode b_D_init 101 = .ok (.goto (-22), 3) := by decide +kernel
theorem d_D_init_104 : decode b_D_init 104 = .ok (.iconst 0, 1) := by decide +kernel
theorem d_D_init_105 : decode b_D_init 105 = .ok (.istore_n 1, 1) := by decide +kernel
theorem d_D_init_106 : decode b_D_init 106 = .ok (.iload_n 1, 1) := by decide +kernel
theorem d_D_init_107 : decode b_D_init 107 = .ok (.iconst 2, 1) := by decide +kernel
theorem d_D_init_108 : decode b_D_init 108 = .ok (.if_icmp .ge 22, 3) := by decide +kernel
theorem d_D_init_111 : decode b_D_init 111 = .ok (.aload_n 0, 1) := by decide +kernel
theorem d_D_init_112 : decode b_D_init 112 = .ok (.getfield 30, 3) := by decide +kernel
theorem d_D_init_115 : decode b_D_init 115 = .ok (.iload_n 1, 1) := by decide +kernel
theorem d_D_init_116 : decode b_D_init 116 = .ok (.new 7, 3) := by decide +kernel
theorem d_D_init_119 : decode b_D_init 119 = .ok (.dup, 1) := by decide +kernel
theorem d_D_init_120 : decode b_D_init 120 = .ok (.invokespecial 9, 3) := by decide +kernel
theorem d_D_init_123 : decode b_D_init 123 = .ok (.aastore, 1) := by decide +kernel
theorem d_D_init_124 : decode b_D_init 124 = .ok (.iinc 1 1, 3) := by decide +kernel
theorem d_D_init_127 : decode b_D_init 127 = .ok (.goto (-21), 3) := by decide +kernel
theorem d_D_init_130 : decode b_D_init 130 = .ok (.return_, 1) := by decide +kernel
set_option maxHeartbeats 4000000 in
set_option maxRecDepth 100000 in
theorem c_S_init {l : Launch} {G : va_G} {tys : List (ClassId × FieldType)} {cI cO cZ : ClassId} (hT : TY tys cI cO cZ) (q : Nat) : CTC l G tys (fun _ => True) y_S_init b_S_init 1 1 12 2 100 [.ref q] [(q, .inr (1, [.null, .null, .int (iI 0), .int (iI 0), .int (iI 0), .int (iI 0), .int (iI 0)]))] (fun u => ∃ a b : Nat, u = sw cI q a b (fun _ => 0) (fun _ => 0) 0 0 0 0 1) := by
  refine mkC (by decide) rfl (Nat.le_of_ble_eq_true rfl) ?_
  rintro X rfl rfl rfl hRm C hin hE kret H ls w hl
  have hl : lv_has ls 1 [(0, .ref q)] := hl
  generalize ([] : List Loc) = locs at w ⊢
  refine r_aload_n (pc := 0) C d_S_init_0 rfl (lv_at hl 0 rfl) ?_
  refine r_obj (pc := 1) C hl.1 ml_S_3 (by rw [hRm]; exact ⟨Nat.le_of_ble_eq_true rfl, Nat.le_of_ble_eq_true rfl⟩) d_S_init_1 ?_
  refine r_aload_n (pc := 4) C d_S_init_4 rfl (lv_at hl 0 rfl) ?_
  refine r_bipush (pc := 5) C d_S_init_5 (by decide) ?_
  refine r_newaI (pc := 7) (N := 50) C w hT (by decide) (by rw [hRm]; exact ⟨Nat.le_of_ble_eq_true rfl, Nat.le_of_ble_eq_true rfl⟩) d_S_init_7 (fun a H w => ?_)
  refine r_putF (pc := 9) (ws' := [(q, .inr (1, [.ref a, .null, .int (iI 0), .int (iI 0), .int (iI 0), .int (iI 0), .int (iI 0)])), (a, aI cI 50 (fun _ => 0))]) C hin w i_S t_S t_S_ok n_S rfl 0 rfl 0 (by decide) fl_S_9 rfl rfl rfl rfl rfl (Nat.le_of_ble_eq_true rfl) rfl d_S_init_9 (fun H locs w => ?_)
  refine r_aload_n (pc := 12) C d_S_init_12 rfl (lv_at hl 0 rfl) ?_
  refine r_bipush (pc := 13) C d_S_init_13 (by decide) ?_
  refine r_newaI (pc := 15) (N := 50) C w hT (by decide) (by rw [hRm]; exact ⟨Nat.le_of_ble_eq_true rfl, Nat.le_of_ble_eq_true rfl⟩) d_S_init_15 (fun b H w => ?_)
  refine r_putF (pc := 17) (ws' := [(q, .inr (1, [.ref a, .ref b, .int (iI 0), .int (iI 0), .int (iI 0), .int (iI 0), .int (iI 0)])), (a, aI cI 50 (fun _ => 0)), (b, aI cI 50 (fun _ => 0))]) C hin w i_S t_S t_S_ok n_S rfl 0 rfl 1 (by decide) fl_S_15 rfl rfl rfl rfl rfl (Nat.le_of_ble_eq_true rfl) rfl d_S_init_17 (fun H locs w => ?_)
  refine r_aload_n (pc := 20) C d_S_init_20 rfl (lv_at hl 0 rfl) ?_
  refine r_iconst (pc := 21) C d_S_init_21 ?_
  refine r_put (pc := 22) (ws' := [(q, .inr (1, [.ref a, .ref b, .int (iI 0), .int (iI 0), .int (iI 0), .int (iI 0), .int (iI 0)])), (a, aI cI 50 (fun _ => 0)), (b, aI cI 50 (fun _ => 0))]) C w i_S t_S t_S_ok n_S rfl 0 rfl 2 (by decide) fl_S_18 rfl rfl rfl rfl (Nat.le_of_ble_eq_true rfl) rfl d_S_init_22 (fun H locs w => ?_)
  refine r_aload_n (pc := 25) C d_S_init_25 rfl (lv_at hl 0 rfl) ?_
  refine r_iconst (pc := 26) C d_S_init_26 ?_
  refine r_put (pc := 27) (ws' := [(q, .inr (1, [.ref a, .ref b, .int (iI 0), .int (iI 0), .int (iI 0), .int (iI 0), .int (iI 0)])), (a, aI cI 50 (fun _ => 0)), (b, aI cI 50 (fun _ => 0))]) C w i_S t_S t_S_ok n_S rfl 0 rfl 3 (by decide) fl_S_22 rfl rfl rfl rfl (Nat.le_of_ble_eq_true rfl) rfl d_S_init_27 (fun H locs w => ?_)
  refine r_aload_n (pc := 30) C d_S_init_30 rfl (lv_at hl 0 rfl) ?_
  refine r_iconst (pc := 31) C d_S_init_31 ?_
  refine r_put (pc := 32) (ws' := [(q, .inr (1, [.ref a, .ref b, .int (iI 0), .int (iI 0), .int (iI 0), .int (iI 0), .int (iI 0)])), (a, aI cI 50 (fun _ => 0)), (b, aI cI 50 (fun _ => 0))]) C w i_S t_S t_S_ok n_S rfl 0 rfl 4 (by decide) fl_S_25 rfl rfl rfl rfl (Nat.le_of_ble_eq_true rfl) rfl d_S_init_32 (fun H locs w => ?_)
  refine r_aload_n (pc := 35) C d_S_init_35 rfl (lv_at hl 0 rfl) ?_
  refine r_iconst (pc := 36) C d_S_init_36 ?_
  refine r_put (pc := 37) (ws' := [(q, .inr (1, [.ref a, .ref b, .int (iI 0), .int (iI 0), .int (iI 0), .int (iI 0), .int (iI 0)])), (a, aI cI 50 (fun _ => 0)), (b, aI cI 50 (fun _ => 0))]) C w i_S t_S t_S_ok n_S rfl 0 rfl 5 (by decide) fl_S_29 rfl rfl rfl rfl (Nat.le_of_ble_eq_true rfl) rfl d_S_init_37 (fun H locs w => ?_)
  refine r_aload_n (pc := 40) C d_S_init_40 rfl (lv_at hl 0 rfl) ?_
  refine r_iconst (pc := 41) C d_S_init_41 ?_
  refine r_put (pc := 42) (ws' := [(q, .inr (1, [.ref a, .ref b, .int (iI 0), .int (iI 0), .int (iI 0), .int (iI 0), .int (iI 1)])), (a, aI cI 50 (fun _ => 0)), (b, aI cI 50 (fun _ => 0))]) C w i_S t_S t_S_ok n_S rfl 0 rfl 6 (by decide) fl_S_32 rfl rfl rfl rfl (Nat.le_of_ble_eq_true rfl) rfl d_S_init_42 (fun H locs w => ?_)
  exact kret _ _ _ _ _ d_S_init_45 w ⟨a, b, rfl⟩
set_option maxHeartbeats 4000000 in
set_option maxRecDepth 100000 in
theorem c_P_init {l : Launch} {G : va_G} {tys : List (ClassId × FieldType)} {cI cO cZ : ClassId} (hT : TY tys cI cO cZ) (q : Nat) : CTC l G tys (fun _ => True) y_P_init b_P_init 1 1 12 1 80 [.ref q] [(q, .inr (2, [.null, .int (iI 0)]))] (fun u => ∃ a : Nat, u = [(q, .inr (2, [.ref a, .int (iI 0)])), (a, aI cI 80 (fun _ => 0))]) := by
  refine mkC (by decide) rfl (Nat.le_of_ble_eq_true rfl) ?_
  rintro X rfl rfl rfl hRm C hin hE kret H ls w hl
  have hl : lv_has ls 1 [(0, .ref q)] := hl
  generalize ([] : List Loc) = locs at w ⊢
  refine r_aload_n (pc := 0) C d_P_init_0 rfl (lv_at hl 0 rfl) ?_
  refine r_obj (pc := 1) C hl.1 ml_P_3 (by rw [hRm]; exact ⟨Nat.le_of_ble_eq_true rfl, Nat.le_of_ble_eq_true rfl⟩) d_P_init_1 ?_
  refine r_aload_n (pc := 4) C d_P_init_4 rfl (lv_at hl 0 rfl) ?_
  refine r_bipush (pc := 5) C d_P_init_5 (by decide) ?_
  refine r_newaI (pc := 7) (N := 80) C w hT (by decide) (by rw [hRm]; exact ⟨Nat.le_of_ble_eq_true rfl, Nat.le_of_ble_eq_true rfl⟩) d_P_init_7 (fun a H w => ?_)
  refine r_putF (pc := 9) (ws' := [(q, .inr (2, [.ref a, .int (iI 0)])), (a, aI cI 80 (fun _ => 0))]) C hin w i_P t_P t_P_ok n_P rfl 0 rfl 0 (by decide) fl_P_11 rfl rfl rfl rfl rfl (Nat.le_of_ble_eq_true rfl) rfl d_P_init_9 (fun H locs w => ?_)
  refine r_aload_n (pc := 12) C d_P_init_12 rfl (lv_at hl 0 rfl) ?_
  refine r_iconst (pc := 13) C d_P_init_13 ?_
  refine r_put (pc := 14) (ws' := [(q, .inr (2, [.ref a, .int (iI 0)])), (a, aI cI 80 (fun _ => 0))]) C w i_P t_P t_P_ok n_P rfl 0 rfl 1 (by decide) fl_P_15 rfl rfl rfl rfl (Nat.le_of_ble_eq_true rfl) rfl d_P_init_14 (fun H locs w => ?_)
  exact kret _ _ _ _ _ d_P_init_17 w ⟨a, rfl⟩
def Rw0 : Rw := (0, 1, 0, fun _ => 0, fun _ => 0, 0, fun _ => 0)
/-- a new object -/
def AS0 : AS := (Rw0, fun _ => Rw0, 0, fun _ => Rw0, fun _ => 0, fun _ => 0, 0)
theorem Rw0_ok : RwOk 0 1 0 (fun _ => 0) (fun _ => 0) 0 (fun _ => 0) := ⟨Ok.empty _ _ _, by omega, by omega, by omega, Or.inr rfl⟩
/-- what D's constructor needs of the tables: its array class, two links to private nest mates -/
def ED (U : State) : Prop := va_AO "DeadRuns$State" U ∧ va_Nw (.methodLinkNest "DeadRuns" 9 y_S_init "DeadRuns") U ∧ va_Nw (.methodLinkNest "DeadRuns" 39 y_P_init "DeadRuns") U
theorem ED.warm (u U : State) (hW : u.WarmedH U.vm) (h : ED u) : ED U := ⟨va_AO.moved hW.alike h.1, va_Nw.warmM hW h.2.1, va_Nw.warmM hW h.2.2⟩
theorem ED.same (u U : State) (hv : u.vm = U.vm) (h : ED u) : ED U := ⟨va_AO.moved (by rw [hv]; exact Vm.Alike.refl U.vm) h.1, va_Nw.same rfl hv h.2.1, va_Nw.same rfl hv h.2.2⟩
def st8 (x0 x1 x2 x3 x4 x5 x6 x7 : SD) : Int → SD := fun i => if i = 0 then x0 else if i = 1 then x1 else if i = 2 then x2 else if i = 3 then x3 else if i = 4 then x4 else if i = 5 then x5 else if i = 6 then x6 else x7
theorem hst_st8 (cI : ClassId) (x0 x1 x2 x3 x4 x5 x6 x7 : SD) : hst cI (st8 x0 x1 x2 x3 x4 x5 x6 x7) = swd cI x0 ++ (swd cI x1 ++ (swd cI x2 ++ (swd cI x3 ++ (swd cI x4 ++ (swd cI x5 ++ (swd cI x6 ++ swd cI x7)))))) := by
  unfold hst
  simp [st8]
section RS
variable {X : Ev} {k n : Nat} {H : Heap} {locs : List Loc} {pc nL : Nat} {ls : Array Slot} {rest : List Value} {cc : ByteArray}
/-- new State() -/
theorem r_newS (C : Cx cc "DeadRuns" nL X) {ws : va_W} (w : Wd X ws H locs) {cI cO cZ : ClassId} (hT : TY (Xtys X) cI cO cZ) (hE : XE X ED) (hR : (2 ≤ (XR X).frames ∧ 32 ≤ (XR X).locals) ∧ k + 3 ≤ (XR X).cells ∧ n + 107 ≤ (XR X).slots) (hls : ls.size = nL) (hcat : (rest.map fun v => v.category).sum ≤ 7) (d0 : decode cc pc = .ok (.new 7, 3)) (d1 : decode cc (pc + 3) = .ok (.dup, 1)) (d2 : decode cc (pc + 4) = .ok (.invokespecial 9, 3))
    (kk : ∀ (q a b : Nat) (H1 : Heap) (locs1 : List Loc), Wd X (ws ++ sw cI q a b (fun _ => 0) (fun _ => 0) 0 0 0 0 1) H1 locs1 → GG X (k + 3) (n + 107) H1 locs1 (pc + 7) ls (.ref q :: rest)) : GG X k n H locs pc ls rest := by
  refine r_new (ci := 1) (fs := [.null, .null, .int (iI 0), .int (iI 0), .int (iI 0), .int (iI 0), .int (iI 0)]) C w i_S t_S t_S_ok cl_D_7 ib_S ini_S rfl (fun j hj => by rcases (by omega : j = 0 ∨ j = 1 ∨ j = 2 ∨ j = 3 ∨ j = 4 ∨ j = 5 ∨ j = 6) with rfl | rfl | rfl | rfl | rfl | rfl | rfl <;> rfl) ⟨by omega, by omega⟩ d0 (fun q H1 w1 => ?_)
  refine r_dup C d1 rfl ?_
  refine r_callCN (pc := pc + 3 + 1) (As := []) (rest := .ref q :: rest) (host := "DeadRuns") C w1 (E := fun _ => True) trivial (fun _ _ _ _ => trivial) (fun _ _ _ _ => trivial) (c_S_init hT q) hE.2.1 im_S_init ini_S cd_S_init rfl hd_S_init rfl ⟨⟨hR.1.1, hR.1.2⟩, by omega, by omega⟩ hls _ _ (cut_app2 ws _) rfl (by simp only [List.map_cons, List.sum_cons]; show 1 + _ ≤ 8; omega) d2 (fun u H2 locs2 hu w2 => ?_)
  obtain ⟨a, b, rfl⟩ := hu
  exact kk q a b H2 locs2 w2
/-- new Pad() -/
theorem r_newP (C : Cx cc "DeadRuns" nL X) {ws : va_W} (w : Wd X ws H locs) {cI cO cZ : ClassId} (hT : TY (Xtys X) cI cO cZ) (hE : XE X ED) (hR : (2 ≤ (XR X).frames ∧ 32 ≤ (XR X).locals) ∧ k + 2 ≤ (XR X).cells ∧ n + 82 ≤ (XR X).slots) (hls : ls.size = nL) (hcat : (rest.map fun v => v.category).sum ≤ 7) (d0 : decode cc pc = .ok (.new 37, 3)) (d1 : decode cc (pc + 3) = .ok (.dup, 1)) (d2 : decode cc (pc + 4) = .ok (.invokespecial 39, 3))
    (kk : ∀ (q a : Nat) (H1 : Heap) (locs1 : List Loc), Wd X (ws ++ [(q, .inr (2, [.ref a, .int (iI 0)])), (a, aI cI 80 (fun _ => 0))]) H1 locs1 → GG X (k + 2) (n + 82) H1 locs1 (pc + 7) ls (.ref q :: rest)) : GG X k n H locs pc ls rest := by
  refine r_new (ci := 2) (fs := [.null, .int (iI 0)]) C w i_P t_P t_P_ok cl_D_37 ib_P ini_P rfl (fun j hj => by rcases (by omega : j = 0 ∨ j = 1) with rfl | rfl <;> rfl) ⟨by omega, by omega⟩ d0 (fun q H1 w1 => ?_)
  refine r_dup C d1 rfl ?_
  refine r_callCN (pc := pc + 3 + 1) (As := []) (rest := .ref q :: rest) (host := "DeadRuns") C w1 (E := fun _ => True) trivial (fun _ _ _ _ => trivial) (fun _ _ _ _ => trivial) (c_P_init hT q) hE.2.2 im_P_init ini_P cd_P_init rfl hd_P_init rfl ⟨⟨hR.1.1, hR.1.2⟩, by omega, by omega⟩ hls _ _ (cut_app2 ws _) rfl (by simp only [List.map_cons, List.sum_cons]; show 1 + _ ≤ 8; omega) d2 (fun u H2 locs2 hu w2 => ?_)
  obtain ⟨a, rfl⟩ := hu
  exact kk q a H2 locs2 w2
end RS
set_option maxHeartbeats 4000000 in
set_option maxRecDepth 100000 in
theorem D_init_a {X : Ev} (C : Cx b_D_init "DeadRuns" 2 X) {cI cO cZ : ClassId} (hT : TY (Xtys X) cI cO cZ) (hE : XE X ED) (hF : 2 ≤ (XR X).frames ∧ 32 ≤ (XR X).locals) (hin : Xnm X) (hR : 38 ≤ (XR X).cells ∧ 1269 ≤ (XR X).slots) (o : Nat) {H : Heap} {locs : List Loc} {ls : Array Slot} (w : Wd X [(o, .inr (0, [.null, .null, .null, .null, .int (iI 0), .null, .null, .null]))] H locs) (hl : lv_has ls 2 [(0, .ref o)])
    (kk : ∀ (h sl us pd co n na nb x xa xb y ya yb : Nat) (H : Heap) (locs : List Loc), Wd X ((o, .inr (0, [.ref n, .ref x, .ref y, .ref h, .int (iI 0), .ref sl, .ref us, .ref pd])) :: (h, aQ cO 6 (fun _ => none)) :: (sl, aQ cO 2 (fun _ => none)) :: ([(us, aI cZ 2 (fun _ => 0)), (pd, .inr (2, [.ref co, .int (iI 0)])), (co, aI cI 80 (fun _ => 0))] ++ sw cI n na nb (fun _ => 0) (fun _ => 0) 0 0 0 0 1 ++ sw cI x xa xb (fun _ => 0) (fun _ => 0) 0 0 0 0 1 ++ sw cI y ya yb (fun _ => 0) (fun _ => 0) 0 0 0 0 1)) H locs → GG X 14 413 H locs 77 ls []) : GG X 0 0 H locs 0 ls [] := by
  refine r_aload_n (pc := 0) C d_D_init_0 rfl (lv_at hl 0 rfl) ?_
  refine r_obj (pc := 1) C hl.1 ml_D_1 ⟨by omega, by omega⟩ d_D_init_1 ?_
  refine r_aload_n (pc := 4) C d_D_init_4 rfl (lv_at hl 0 rfl) ?_
  refine r_newS (pc := 5) C w hT hE ⟨hF, by omega, by omega⟩ hl.1 (Nat.le_of_ble_eq_true rfl) d_D_init_5 d_D_init_8 d_D_init_9 (fun n na nb H locs w => ?_)
  refine r_put (pc := 12) (ws' := [(o, .inr (0, [.ref n, .null, .null, .null, .int (iI 0), .null, .null, .null])), (n, .inr (1, [.ref na, .ref nb, .int (iI 0), .int (iI 0), .int (iI 0), .int (iI 0), .int (iI 1)])), (na, aI cI 50 (fun _ => 0)), (nb, aI cI 50 (fun _ => 0))]) C w i_D t_D t_D_ok n_D rfl 0 rfl 0 (by decide) fl_D_10 rfl rfl rfl rfl (Nat.le_of_ble_eq_true rfl) rfl d_D_init_12 (fun H locs w => ?_)
  refine r_aload_n (pc := 15) C d_D_init_15 rfl (lv_at hl 0 rfl) ?_
  refine r_newS (pc := 16) C w hT hE ⟨hF, by omega, by omega⟩ hl.1 (Nat.le_of_ble_eq_true rfl) d_D_init_16 d_D_init_19 d_D_init_20 (fun x xa xb H locs w => ?_)
  refine r_put (pc := 23) (ws' := [(o, .inr (0, [.ref n, .ref x, .null, .null, .int (iI 0), .null, .null, .null])), (n, .inr (1, [.ref na, .ref nb, .int (iI 0), .int (iI 0), .int (iI 0), .int (iI 0), .int (iI 1)])), (na, aI cI 50 (fun _ => 0)), (nb, aI cI 50 (fun _ => 0)), (x, .inr (1, [.ref xa, .ref xb, .int (iI 0), .int (iI 0), .int (iI 0), .int (iI 0), .int (iI 1)])), (xa, aI cI 50 (fun _ => 0)), (xb, aI cI 50 (fun _ => 0))]) C w i_D t_D t_D_ok n_D rfl 0 rfl 1 (by decide) fl_D_16 rfl rfl rfl rfl (Nat.le_of_ble_eq_true rfl) rfl d_D_init_23 (fun H locs w => ?_)
  refine r_aload_n (pc := 26) C d_D_init_26 rfl (lv_at hl 0 rfl) ?_
  refine r_newS (pc := 27) C w hT hE ⟨hF, by omega, by omega⟩ hl.1 (Nat.le_of_ble_eq_true rfl) d_D_init_27 d_D_init_30 d_D_init_31 (fun y ya yb H locs w => ?_)
  refine r_putF (pc := 34) (ws' := [(o, .inr (0, [.ref n, .ref x, .ref y, .null, .int (iI 0), .null, .null, .null])), (n, .inr (1, [.ref na, .ref nb, .int (iI 0), .int (iI 0), .int (iI 0), .int (iI 0), .int (iI 1)])), (na, aI cI 50 (fun _ => 0)), (nb, aI cI 50 (fun _ => 0)), (x, .inr (1, [.ref xa, .ref xb, .int (iI 0), .int (iI 0), .int (iI 0), .int (iI 0), .int (iI 1)])), (xa, aI cI 50 (fun _ => 0)), (xb, aI cI 50 (fun _ => 0)), (y, .inr (1, [.ref ya, .ref yb, .int (iI 0), .int (iI 0), .int (iI 0), .int (iI 0), .int (iI 1)])), (ya, aI cI 50 (fun _ => 0)), (yb, aI cI 50 (fun _ => 0))]) C hin w i_D t_D t_D_ok n_D rfl 0 rfl 2 (by decide) fl_D_19 rfl rfl rfl rfl rfl (Nat.le_of_ble_eq_true rfl) rfl d_D_init_34 (fun H locs w => ?_)
  refine r_aload_n (pc := 37) C d_D_init_37 rfl (lv_at hl 0 rfl) ?_
  refine r_bipush (pc := 38) C d_D_init_38 (by decide) ?_
  refine r_newq (pc := 40) (N := 6) C w hT hE.1 (by decide) cl_D_7 ⟨by omega, by omega⟩ d_D_init_40 (fun h H w => ?_)
  refine r_putF (pc := 43) (ws' := [(o, .inr (0, [.ref n, .ref x, .ref y, .ref h, .int (iI 0), .null, .null, .null])), (n, .inr (1, [.ref na, .ref nb, .int (iI 0), .int (iI 0), .int (iI 0), .int (iI 0), .int (iI 1)])), (na, aI cI 50 (fun _ => 0)), (nb, aI cI 50 (fun _ => 0)), (x, .inr (1, [.ref xa, .ref xb, .int (iI 0), .int (iI 0), .int (iI 0), .int (iI 0), .int (iI 1)])), (xa, aI cI 50 (fun _ => 0)), (xb, aI cI 50 (fun _ => 0)), (y, .inr (1, [.ref ya, .ref yb, .int (iI 0), .int (iI 0), .int (iI 0), .int (iI 0), .int (iI 1)])), (ya, aI cI 50 (fun _ => 0)), (yb, aI cI 50 (fun _ => 0)), (h, aQ cO 6 (fun _ => none))]) C hin w i_D t_D t_D_ok n_D rfl 0 rfl 3 (by decide) fl_D_22 rfl rfl rfl rfl rfl (Nat.le_of_ble_eq_true rfl) rfl d_D_init_43 (fun H locs w => ?_)
  refine r_aload_n (pc := 46) C d_D_init_46 rfl (lv_at hl 0 rfl) ?_
  refine r_iconst (pc := 47) C d_D_init_47 ?_
  refine r_put (pc := 48) (ws' := [(o, .inr (0, [.ref n, .ref x, .ref y, .ref h, .int (iI 0), .null, .null, .null])), (n, .inr (1, [.ref na, .ref nb, .int (iI 0), .int (iI 0), .int (iI 0), .int (iI 0), .int (iI 1)])), (na, aI cI 50 (fun _ => 0)), (nb, aI cI 50 (fun _ => 0)), (x, .inr (1, [.ref xa, .ref xb, .int (iI 0), .int (iI 0), .int (iI 0), .int (iI 0), .int (iI 1)])), (xa, aI cI 50 (fun _ => 0)), (xb, aI cI 50 (fun _ => 0)), (y, .inr (1, [.ref ya, .ref yb, .int (iI 0), .int (iI 0), .int (iI 0), .int (iI 0), .int (iI 1)])), (ya, aI cI 50 (fun _ => 0)), (yb, aI cI 50 (fun _ => 0)), (h, aQ cO 6 (fun _ => none))]) C w i_D t_D t_D_ok n_D rfl 0 rfl 4 (by decide) fl_D_26 rfl rfl rfl rfl (Nat.le_of_ble_eq_true rfl) rfl d_D_init_48 (fun H locs w => ?_)
  refine r_aload_n (pc := 51) C d_D_init_51 rfl (lv_at hl 0 rfl) ?_
  refine r_iconst (pc := 52) C d_D_init_52 ?_
  refine r_newq (pc := 53) (N := 2) C w hT hE.1 (by decide) cl_D_7 ⟨by omega, by omega⟩ d_D_init_53 (fun sl H w => ?_)
  refine r_putF (pc := 56) (ws' := [(o, .inr (0, [.ref n, .ref x, .ref y, .ref h, .int (iI 0), .ref sl, .null, .null])), (n, .inr (1, [.ref na, .ref nb, .int (iI 0), .int (iI 0), .int (iI 0), .int (iI 0), .int (iI 1)])), (na, aI cI 50 (fun _ => 0)), (nb, aI cI 50 (fun _ => 0)), (x, .inr (1, [.ref xa, .ref xb, .int (iI 0), .int (iI 0), .int (iI 0), .int (iI 0), .int (iI 1)])), (xa, aI cI 50 (fun _ => 0)), (xb, aI cI 50 (fun _ => 0)), (y, .inr (1, [.ref ya, .ref yb, .int (iI 0), .int (iI 0), .int (iI 0), .int (iI 0), .int (iI 1)])), (ya, aI cI 50 (fun _ => 0)), (yb, aI cI 50 (fun _ => 0)), (h, aQ cO 6 (fun _ => none)), (sl, aQ cO 2 (fun _ => none))]) C hin w i_D t_D t_D_ok n_D rfl 0 rfl 5 (by decide) fl_D_30 rfl rfl rfl rfl rfl (Nat.le_of_ble_eq_true rfl) rfl d_D_init_56 (fun H locs w => ?_)
  refine r_aload_n (pc := 59) C d_D_init_59 rfl (lv_at hl 0 rfl) ?_
  refine r_iconst (pc := 60) C d_D_init_60 ?_
  refine r_newaZ (pc := 61) (N := 2) C w hT (by decide) ⟨by omega, by omega⟩ d_D_init_61 (fun us H w => ?_)
  refine r_putF (pc := 63) (ws' := [(o, .inr (0, [.ref n, .ref x, .ref y, .ref h, .int (iI 0), .ref sl, .ref us, .null])), (n, .inr (1, [.ref na, .ref nb, .int (iI 0), .int (iI 0), .int (iI 0), .int (iI 0), .int (iI 1)])), (na, aI cI 50 (fun _ => 0)), (nb, aI cI 50 (fun _ => 0)), (x, .inr (1, [.ref xa, .ref xb, .int (iI 0), .int (iI 0), .int (iI 0), .int (iI 0), .int (iI 1)])), (xa, aI cI 50 (fun _ => 0)), (xb, aI cI 50 (fun _ => 0)), (y, .inr (1, [.ref ya, .ref yb, .int (iI 0), .int (iI 0), .int (iI 0), .int (iI 0), .int (iI 1)])), (ya, aI cI 50 (fun _ => 0)), (yb, aI cI 50 (fun _ => 0)), (h, aQ cO 6 (fun _ => none)), (sl, aQ cO 2 (fun _ => none)), (us, aI cZ 2 (fun _ => 0))]) C hin w i_D t_D t_D_ok n_D rfl 0 rfl 6 (by decide) fl_D_33 rfl rfl rfl rfl rfl (Nat.le_of_ble_eq_true rfl) rfl d_D_init_63 (fun H locs w => ?_)
  refine r_aload_n (pc := 66) C d_D_init_66 rfl (lv_at hl 0 rfl) ?_
  refine r_newP (pc := 67) C w hT hE ⟨hF, by omega, by omega⟩ hl.1 (Nat.le_of_ble_eq_true rfl) d_D_init_67 d_D_init_70 d_D_init_71 (fun pd co H locs w => ?_)
  refine r_putF (pc := 74) (ws' := [(o, .inr (0, [.ref n, .ref x, .ref y, .ref h, .int (iI 0), .ref sl, .ref us, .ref pd])), (n, .inr (1, [.ref na, .ref nb, .int (iI 0), .int (iI 0), .int (iI 0), .int (iI 0), .int (iI 1)])), (na, aI cI 50 (fun _ => 0)), (nb, aI cI 50 (fun _ => 0)), (x, .inr (1, [.ref xa, .ref xb, .int (iI 0), .int (iI 0), .int (iI 0), .int (iI 0), .int (iI 1)])), (xa, aI cI 50 (fun _ => 0)), (xb, aI cI 50 (fun _ => 0)), (y, .inr (1, [.ref ya, .ref yb, .int (iI 0), .int (iI 0), .int (iI 0), .int (iI 0), .int (iI 1)])), (ya, aI cI 50 (fun _ => 0)), (yb, aI cI 50 (fun _ => 0)), (h, aQ cO 6 (fun _ => none)), (sl, aQ cO 2 (fun _ => none)), (us, aI cZ 2 (fun _ => 0)), (pd, .inr (2, [.ref co, .int (iI 0)])), (co, aI cI 80 (fun _ => 0))]) C hin w i_D t_D t_D_ok n_D rfl 0 rfl 7 (by decide) fl_D_40 rfl rfl rfl rfl rfl (Nat.le_of_ble_eq_true rfl) rfl d_D_init_74 (fun H locs w => ?_)
  exact kk h sl us pd co n na nb x xa xb y ya yb H locs (w.sub [0, 10, 11, 12, 13, 14, 1, 2, 3, 4, 5, 6, 7, 8, 9] rfl (by decide))
set_option maxHeartbeats 4000000 in
set_option maxRecDepth 100000 in
theorem D_init_h {X : Ev} (C : Cx b_D_init "DeadRuns" 2 X) {cI cO cZ : ClassId} (hT : TY (Xtys X) cI cO cZ) (hE : XE X ED) (hF : 2 ≤ (XR X).frames ∧ 32 ≤ (XR X).locals) {k n0 : Nat} {o h sl us pd n x y : Nat} {wr : va_W} {e2 : va_E} {f : Nat → Option Nat} (i : Int) (hi : 0 ≤ i ∧ i < 6) (hR : k + 3 ≤ (XR X).cells ∧ n0 + 107 ≤ (XR X).slots) {H : Heap} {locs : List Loc} {ls : Array Slot} (w : Wd X ((o, .inr (0, [.ref n, .ref x, .ref y, .ref h, .int (iI 0), .ref sl, .ref us, .ref pd])) :: (h, aQ cO 6 f) :: (sl, e2) :: wr) H locs) (hl : lv_has ls 2 [(1, .int (iI i)), (0, .ref o)])
    (kk : ∀ (q qa qb : Nat) (H : Heap) (locs : List Loc) (ls : Array Slot), Wd X ((o, .inr (0, [.ref n, .ref x, .ref y, .ref h, .int (iI 0), .ref sl, .ref us, .ref pd])) :: (h, aQ cO 6 (va_up f i.toNat (some q))) :: (sl, e2) :: (wr ++ sw cI q qa qb (fun _ => 0) (fun _ => 0) 0 0 0 0 1)) H locs → lv_has ls 2 [(1, .int (iI (i + 1))), (0, .ref o)] → GG X (k + 3) (n0 + 107) H locs 79 ls []) : GG X k n0 H locs 79 ls [] := by
  refine r_iload_n (pc := 79) C d_D_init_79 rfl (lv_at hl 0 rfl) ?_
  refine r_bipush (pc := 80) C d_D_init_80 (by decide) ?_
  refine r_icmp_ge (pc := 82) (tgt := 104) C (by omega) d_D_init_82 (by decide) (fun c9 => absurd c9 (by omega)) (fun _ => ?_)
  refine r_aload_n (pc := 85) C d_D_init_85 rfl (lv_at hl 1 rfl) ?_
  refine r_get (pc := 86) (v := .ref h) C w i_D rfl 0 rfl 3 (by decide) fl_D_22 rfl rfl d_D_init_86 ?_
  refine r_iload_n (pc := 89) C d_D_init_89 rfl (lv_at hl 0 rfl) ?_
  refine r_newS (pc := 90) C w hT hE ⟨hF, hR.1, hR.2⟩ hl.1 (Nat.le_of_ble_eq_true rfl) d_D_init_90 d_D_init_93 d_D_init_94 (fun q qa qb H locs w => ?_)
  have w : Wd X ((o, .inr (0, [.ref n, .ref x, .ref y, .ref h, .int (iI 0), .ref sl, .ref us, .ref pd])) :: (h, aQ cO 6 f) :: (sl, e2) :: (wr ++ sw cI q qa qb (fun _ => 0) (fun _ => 0) 0 0 0 0 1)) H locs := w
  refine r_astq (pc := 97) (i := i) (N := 6) (f := f) (ws' := (o, .inr (0, [.ref n, .ref x, .ref y, .ref h, .int (iI 0), .ref sl, .ref us, .ref pd])) :: (h, aQ cO 6 (va_up f i.toNat (some q))) :: (sl, e2) :: (wr ++ sw cI q qa qb (fun _ => 0) (fun _ => 0) 0 0 0 0 1)) (vs := [.ref qa, .ref qb, .int (iI 0), .int (iI 0), .int (iI 0), .int (iI 0), .int (iI 1)]) C w hT 1 (wr.length + 3) rfl (at_end _ _ _ wr _ _ rfl) (by omega) rfl d_D_init_97 (fun H locs w => ?_)
  refine r_iinc (pc := 98) (a := i) (lv' := [(1, .int (iI (i + 1))), (0, .ref o)]) C d_D_init_98 hl (j := 0) rfl (by decide) rfl (fun ls hl => ?_)
  refine r_goto (pc := 101) (tgt := 79) C d_D_init_101 (by decide) ?_
  exact kk q qa qb H locs ls w hl
set_option maxHeartbeats 4000000 in
set_option maxRecDepth 100000 in
theorem D_init_s {X : Ev} (C : Cx b_D_init "DeadRuns" 2 X) {cI cO cZ : ClassId} (hT : TY (Xtys X) cI cO cZ) (hE : XE X ED) (hF : 2 ≤ (XR X).frames ∧ 32 ≤ (XR X).locals) {k n0 : Nat} {o h sl us pd n x y : Nat} {wr : va_W} {e2 : va_E} {f : Nat → Option Nat} (i : Int) (hi : 0 ≤ i ∧ i < 2) (hR : k + 3 ≤ (XR X).cells ∧ n0 + 107 ≤ (XR X).slots) {H : Heap} {locs : List Loc} {ls : Array Slot} (w : Wd X ((o, .inr (0, [.ref n, .ref x, .ref y, .ref h, .int (iI 0), .ref sl, .ref us, .ref pd])) :: (h, e2) :: (sl, aQ cO 2 f) :: wr) H locs) (hl : lv_has ls 2 [(1, .int (iI i)), (0, .ref o)])
    (kk : ∀ (q qa qb : Nat) (H : Heap) (locs : List Loc) (ls : Array Slot), Wd X ((o, .inr (0, [.ref n, .ref x, .ref y, .ref h, .int (iI 0), .ref sl, .ref us, .ref pd])) :: (h, e2) :: (sl, aQ cO 2 (va_up f i.toNat (some q))) :: (wr ++ sw cI q qa qb (fun _ => 0) (fun _ => 0) 0 0 0 0 1)) H locs → lv_has ls 2 [(1, .int (iI (i + 1))), (0, .ref o)] → GG X (k + 3) (n0 + 107) H locs 106 ls []) : GG X k n0 H locs 106 ls [] := by
  refine r_iload_n (pc := 106) C d_D_init_106 rfl (lv_at hl 0 rfl) ?_
  refine r_iconst (pc := 107) C d_D_init_107 ?_
  refine r_icmp_ge (pc := 108) (tgt := 130) C (by omega) d_D_init_108 (by decide) (fun c9 => absurd c9 (by omega)) (fun _ => ?_)
  refine r_aload_n (pc := 111) C d_D_init_111 rfl (lv_at hl 1 rfl) ?_
  refine r_get (pc := 112) (v := .ref sl) C w i_D rfl 0 rfl 5 (by decide) fl_D_30 rfl rfl d_D_init_112 ?_
  refine r_iload_n (pc := 115) C d_D_init_115 rfl (lv_at hl 0 rfl) ?_
  refine r_newS (pc := 116) C w hT hE ⟨hF, hR.1, hR.2⟩ hl.1 (Nat.le_of_ble_eq_true rfl) d_D_init_116 d_D_init_119 d_D_init_120 (fun q qa qb H locs w => ?_)
  have w : Wd X ((o, .inr (0, [.ref n, .ref x, .ref y, .ref h, .int (iI 0), .ref sl, .ref us, .ref pd])) :: (h, e2) :: (sl, aQ cO 2 f) :: (wr ++ sw cI q qa qb (fun _ => 0) (fun _ => 0) 0 0 0 0 1)) H locs := w
  refine r_astq (pc := 123) (i := i) (N := 2) (f := f) (ws' := (o, .inr (0, [.ref n, .ref x, .ref y, .ref h, .int (iI 0), .ref sl, .ref us, .ref pd])) :: (h, e2) :: (sl, aQ cO 2 (va_up f i.toNat (some q))) :: (wr ++ sw cI q qa qb (fun _ => 0) (fun _ => 0) 0 0 0 0 1)) (vs := [.ref qa, .ref qb, .int (iI 0), .int (iI 0), .int (iI 0), .int (iI 0), .int (iI 1)]) C w hT 2 (wr.length + 3) rfl (at_end _ _ _ wr _ _ rfl) (by omega) rfl d_D_init_123 (fun H locs w => ?_)
  refine r_iinc (pc := 124) (a := i) (lv' := [(1, .int (iI (i + 1))), (0, .ref o)]) C d_D_init_124 hl (j := 0) rfl (by decide) rfl (fun ls hl => ?_)
  refine r_goto (pc := 127) (tgt := 106) C d_D_init_127 (by decide) ?_
  exact kk q qa qb H locs ls w hl
set_option maxHeartbeats 4000000 in
set_option maxRecDepth 100000 in
theorem c_D_init {l : Launch} {G : va_G} {tys : List (ClassId × FieldType)} {cI cO cZ : ClassId} (hT : TY tys cI cO cZ) (o : Nat) : CTC l G tys ED y_D_init b_D_init 2 2 32 38 1269 [.ref o] [(o, .inr (0, [.null, .null, .null, .null, .int (iI 0), .null, .null, .null]))] (fun u => CW cI cO cZ o AS0 u) := by
  refine mkC (by decide) rfl (Nat.le_of_ble_eq_true rfl) ?_
  rintro X rfl rfl rfl hRm C hin hE kret H ls w hl
  have hl : lv_has ls 2 [(0, .ref o)] := hl
  generalize ([] : List Loc) = locs at w ⊢
  have hF : 2 ≤ (XR X).frames ∧ 32 ≤ (XR X).locals := by rw [hRm]; exact ⟨Nat.le_of_ble_eq_true rfl, Nat.le_of_ble_eq_true rfl⟩
  have hR : 38 ≤ (XR X).cells ∧ 1269 ≤ (XR X).slots := by rw [hRm]; exact ⟨Nat.le_of_ble_eq_true rfl, Nat.le_of_ble_eq_true rfl⟩
  refine D_init_a C hT hE hF hin hR o w hl (fun h sl us pd co n na nb x xa xb y ya yb H locs w => ?_)
  obtain ⟨wr, hwr⟩ : ∃ wr : va_W, wr = [(us, aI cZ 2 (fun _ => 0)), (pd, .inr (2, [.ref co, .int (iI 0)])), (co, aI cI 80 (fun _ => 0))] ++ sw cI n na nb (fun _ => 0) (fun _ => 0) 0 0 0 0 1 ++ sw cI x xa xb (fun _ => 0) (fun _ => 0) 0 0 0 0 1 ++ sw cI y ya yb (fun _ => 0) (fun _ => 0) 0 0 0 0 1 := ⟨_, rfl⟩
  have w : Wd X ((o, .inr (0, [.ref n, .ref x, .ref y, .ref h, .int (iI 0), .ref sl, .ref us, .ref pd])) :: (h, aQ cO 6 (fun _ => none)) :: (sl, aQ cO 2 (fun _ => none)) :: wr) H locs := by rw [hwr]; exact w
  refine r_iconst (pc := 77) C d_D_init_77 ?_
  refine r_istore_n (pc := 78) (lv' := [(1, .int (iI 0)), (0, .ref o)]) C d_D_init_78 rfl hl (by decide) rfl (fun ls hl => ?_)
  refine D_init_h C hT hE hF 0 (by decide) ⟨by omega, by omega⟩ w hl (fun s0 s0a s0b H locs ls w hl => ?_)
  refine D_init_h C hT hE hF 1 (by decide) ⟨by omega, by omega⟩ w hl (fun s1 s1a s1b H locs ls w hl => ?_)
  refine D_init_h C hT hE hF 2 (by decide) ⟨by omega, by omega⟩ w hl (fun s2 s2a s2b H locs ls w hl => ?_)
  refine D_init_h C hT hE hF 3 (by decide) ⟨by omega, by omega⟩ w hl (fun s3 s3a s3b H locs ls w hl => ?_)
  refine D_init_h C hT hE hF 4 (by decide) ⟨by omega, by omega⟩ w hl (fun s4 s4a s4b H locs ls w hl => ?_)
  refine D_init_h C hT hE hF 5 (by decide) ⟨by omega, by omega⟩ w hl (fun s5 s5a s5b H locs ls w hl => ?_)
  have hl : lv_has ls 2 [(1, .int (iI 6)), (0, .ref o)] := hl
  refine r_iload_n (pc := 79) C d_D_init_79 rfl (lv_at hl 0 rfl) ?_
  refine r_bipush (pc := 80) C d_D_init_80 (by decide) ?_
  refine r_icmp_ge (pc := 82) (tgt := 104) C (by decide) d_D_init_82 (by decide) (fun _ => ?_) (fun c9 => absurd c9 (by decide))
  refine r_iconst (pc := 104) C d_D_init_104 ?_
  refine r_istore_n (pc := 105) (lv' := [(1, .int (iI 0)), (0, .ref o)]) C d_D_init_105 rfl hl (by decide) rfl (fun ls hl => ?_)
  refine D_init_s C hT hE hF 0 (by decide) ⟨by omega, by omega⟩ w hl (fun t0 t0a t0b H locs ls w hl => ?_)
  refine D_init_s C hT hE hF 1 (by decide) ⟨by omega, by omega⟩ w hl (fun t1 t1a t1b H locs ls w hl => ?_)
  have hl : lv_has ls 2 [(1, .int (iI 2)), (0, .ref o)] := hl
  refine r_iload_n (pc := 106) C d_D_init_106 rfl (lv_at hl 0 rfl) ?_
  refine r_iconst (pc := 107) C d_D_init_107 ?_
  refine r_icmp_ge (pc := 108) (tgt := 130) C (by decide) d_D_init_108 (by decide) (fun _ => ?_) (fun c9 => absurd c9 (by decide))
  have w : Wd X ((o, .inr (0, [.ref n, .ref x, .ref y, .ref h, .int (iI 0), .ref sl, .ref us, .ref pd])) :: (h, aQ cO 6 (va_up (va_up (va_up (va_up (va_up (va_up (fun _ => none) 0 (some s0)) 1 (some s1)) 2 (some s2)) 3 (some s3)) 4 (some s4)) 5 (some s5))) :: (sl, aQ cO 2 (va_up (va_up (fun _ => none) 0 (some t0)) 1 (some t1))) :: ((((((((wr ++ sw cI s0 s0a s0b (fun _ => 0) (fun _ => 0) 0 0 0 0 1) ++ sw cI s1 s1a s1b (fun _ => 0) (fun _ => 0) 0 0 0 0 1) ++ sw cI s2 s2a s2b (fun _ => 0) (fun _ => 0) 0 0 0 0 1) ++ sw cI s3 s3a s3b (fun _ => 0) (fun _ => 0) 0 0 0 0 1) ++ sw cI s4 s4a s4b (fun _ => 0) (fun _ => 0) 0 0 0 0 1) ++ sw cI s5 s5a s5b (fun _ => 0) (fun _ => 0) 0 0 0 0 1) ++ sw cI t0 t0a t0b (fun _ => 0) (fun _ => 0) 0 0 0 0 1) ++ sw cI t1 t1a t1b (fun _ => 0) (fun _ => 0) 0 0 0 0 1)) H locs := w
  have w : Wd X ((o, .inr (0, [.ref n, .ref x, .ref y, .ref h, .int (iI 0), .ref sl, .ref us, .ref pd])) :: (h, aR cO 6 (fun i : Int => if i = 0 then s0 else if i = 1 then s1 else if i = 2 then s2 else if i = 3 then s3 else if i = 4 then s4 else s5)) :: (sl, aQ cO 2 (va_up (va_up (fun _ => none) 0 (some t0)) 1 (some t1))) :: ((((((((wr ++ sw cI s0 s0a s0b (fun _ => 0) (fun _ => 0) 0 0 0 0 1) ++ sw cI s1 s1a s1b (fun _ => 0) (fun _ => 0) 0 0 0 0 1) ++ sw cI s2 s2a s2b (fun _ => 0) (fun _ => 0) 0 0 0 0 1) ++ sw cI s3 s3a s3b (fun _ => 0) (fun _ => 0) 0 0 0 0 1) ++ sw cI s4 s4a s4b (fun _ => 0) (fun _ => 0) 0 0 0 0 1) ++ sw cI s5 s5a s5b (fun _ => 0) (fun _ => 0) 0 0 0 0 1) ++ sw cI t0 t0a t0b (fun _ => 0) (fun _ => 0) 0 0 0 0 1) ++ sw cI t1 t1a t1b (fun _ => 0) (fun _ => 0) 0 0 0 0 1)) H locs := w.cng 1 (f := (va_up (va_up (va_up (va_up (va_up (va_up (fun _ => none) 0 (some s0)) 1 (some s1)) 2 (some s2)) 3 (some s3)) 4 (some s4)) 5 (some s5))) (g := fun j : Nat => some ((fun i : Int => if i = 0 then s0 else if i = 1 then s1 else if i = 2 then s2 else if i = 3 then s3 else if i = 4 then s4 else s5) (j : Int))) rfl (fun j hj => by rcases (by omega : j = 0 ∨ j = 1 ∨ j = 2 ∨ j = 3 ∨ j = 4 ∨ j = 5) with rfl | rfl | rfl | rfl | rfl | rfl <;> rfl) rfl
  have w : Wd X ((o, .inr (0, [.ref n, .ref x, .ref y, .ref h, .int (iI 0), .ref sl, .ref us, .ref pd])) :: (h, aR cO 6 (fun i : Int => if i = 0 then s0 else if i = 1 then s1 else if i = 2 then s2 else if i = 3 then s3 else if i = 4 then s4 else s5)) :: (sl, aR cO 2 (fun i : Int => if i = 0 then t0 else t1)) :: ((((((((wr ++ sw cI s0 s0a s0b (fun _ => 0) (fun _ => 0) 0 0 0 0 1) ++ sw cI s1 s1a s1b (fun _ => 0) (fun _ => 0) 0 0 0 0 1) ++ sw cI s2 s2a s2b (fun _ => 0) (fun _ => 0) 0 0 0 0 1) ++ sw cI s3 s3a s3b (fun _ => 0) (fun _ => 0) 0 0 0 0 1) ++ sw cI s4 s4a s4b (fun _ => 0) (fun _ => 0) 0 0 0 0 1) ++ sw cI s5 s5a s5b (fun _ => 0) (fun _ => 0) 0 0 0 0 1) ++ sw cI t0 t0a t0b (fun _ => 0) (fun _ => 0) 0 0 0 0 1) ++ sw cI t1 t1a t1b (fun _ => 0) (fun _ => 0) 0 0 0 0 1)) H locs := w.cng 2 (f := (va_up (va_up (fun _ => none) 0 (some t0)) 1 (some t1))) (g := fun j : Nat => some ((fun i : Int => if i = 0 then t0 else t1) (j : Int))) rfl (fun j hj => by rcases (by omega : j = 0 ∨ j = 1) with rfl | rfl <;> rfl) rfl
  have e1 : (o, .inr (0, [.ref n, .ref x, .ref y, .ref h, .int (iI 0), .ref sl, .ref us, .ref pd])) :: (h, aR cO 6 (fun i : Int => if i = 0 then s0 else if i = 1 then s1 else if i = 2 then s2 else if i = 3 then s3 else if i = 4 then s4 else s5)) :: (sl, aR cO 2 (fun i : Int => if i = 0 then t0 else t1)) :: ((((((((wr ++ sw cI s0 s0a s0b (fun _ => 0) (fun _ => 0) 0 0 0 0 1) ++ sw cI s1 s1a s1b (fun _ => 0) (fun _ => 0) 0 0 0 0 1) ++ sw cI s2 s2a s2b (fun _ => 0) (fun _ => 0) 0 0 0 0 1) ++ sw cI s3 s3a s3b (fun _ => 0) (fun _ => 0) 0 0 0 0 1) ++ sw cI s4 s4a s4b (fun _ => 0) (fun _ => 0) 0 0 0 0 1) ++ sw cI s5 s5a s5b (fun _ => 0) (fun _ => 0) 0 0 0 0 1) ++ sw cI t0 t0a t0b (fun _ => 0) (fun _ => 0) 0 0 0 0 1) ++ sw cI t1 t1a t1b (fun _ => 0) (fun _ => 0) 0 0 0 0 1) = dcore cI cO cZ o h sl us pd co n x y (fun i : Int => if i = 0 then s0 else if i = 1 then s1 else if i = 2 then s2 else if i = 3 then s3 else if i = 4 then s4 else s5) 0 (fun i : Int => if i = 0 then t0 else t1) (fun _ => 0) (fun _ => 0) 0 ++ sw cI n na nb (fun _ => 0) (fun _ => 0) 0 0 0 0 1 ++ sw cI x xa xb (fun _ => 0) (fun _ => 0) 0 0 0 0 1 ++ sw cI y ya yb (fun _ => 0) (fun _ => 0) 0 0 0 0 1 ++ hst cI (st8 (s0, s0a, s0b, fun _ => 0, fun _ => 0, 0, 0, 0, 0, 1) (s1, s1a, s1b, fun _ => 0, fun _ => 0, 0, 0, 0, 0, 1) (s2, s2a, s2b, fun _ => 0, fun _ => 0, 0, 0, 0, 0, 1) (s3, s3a, s3b, fun _ => 0, fun _ => 0, 0, 0, 0, 0, 1) (s4, s4a, s4b, fun _ => 0, fun _ => 0, 0, 0, 0, 0, 1) (s5, s5a, s5b, fun _ => 0, fun _ => 0, 0, 0, 0, 0, 1) (t0, t0a, t0b, fun _ => 0, fun _ => 0, 0, 0, 0, 0, 1) (t1, t1a, t1b, fun _ => 0, fun _ => 0, 0, 0, 0, 0, 1)) := by
    rw [hst_st8, hwr]
    simp only [List.append_assoc]
    rfl
  rw [e1] at w
  refine kret _ _ _ _ _ d_D_init_130 w (cw_mk Rw0_ok ⟨?_, ?_, by omega, fun i h1 h2 => by omega, fun i h1 h2 => ⟨Or.inl rfl, fun h => absurd (show (0 : Int) = 1 from h) (by decide)⟩, by omega, fun x h1 h2 => by omega⟩)
  · intro i h1 h2
    rcases (by omega : i = 0 ∨ i = 1 ∨ i = 2 ∨ i = 3 ∨ i = 4 ∨ i = 5) with rfl | rfl | rfl | rfl | rfl | rfl <;> rfl
  · intro i h1 h2
    rcases (by omega : i = 0 ∨ i = 1) with rfl | rfl <;> rfl
