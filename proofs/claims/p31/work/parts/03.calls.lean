/-! contracts and calls of the second storey -/
def CTI (l : Launch) (G : va_G) (tys : List (ClassId × FieldType)) (y : MethodName) (b : ByteArray) (nL : Nat) (rt : FieldType) (fr lo : Nat) (av : List Value) (ws : va_W) (post : Int → va_W → Prop) : Prop :=
  ∀ sz : Nat, Met l y (.code y b nL (some rt) :: TB) ({ frames := fr, cells := 0, slots := 0, locals := lo }) (va_Pc av (fun U => U.heap.size = sz ∧ va_P G classes ws U.heap ∧ KK G tys U ∧ va_D (fun _ => True) ws)) (va_Qi (fun r (u : va_W) => ∃ z : Int, r = iI z ∧ post z u) (fun u t => va_P G classes u t.heap ∧ va_D (va_A ws sz) u) (va_A ws sz)) 0 0 (va_A ws sz)
def CTL (l : Launch) (G : va_G) (tys : List (ClassId × FieldType)) (y : MethodName) (b : ByteArray) (nL : Nat) (fr lo : Nat) (av : List Value) (ws : va_W) (post : Int64 → va_W → Prop) : Prop :=
  ∀ sz : Nat, Met l y (.code y b nL (some .long) :: TB) ({ frames := fr, cells := 0, slots := 0, locals := lo }) (va_Pc av (fun U => U.heap.size = sz ∧ va_P G classes ws U.heap ∧ KK G tys U ∧ va_D (fun _ => True) ws)) (va_Ql (fun r (u : va_W) => post r u) (fun u t => va_P G classes u t.heap ∧ va_D (va_A ws sz) u) (va_A ws sz)) 0 0 (va_A ws sz)
def CTV (l : Launch) (G : va_G) (tys : List (ClassId × FieldType)) (y : MethodName) (b : ByteArray) (nL : Nat) (fr lo : Nat) (av : List Value) (ws : va_W) (post : va_W → Prop) : Prop :=
  ∀ sz : Nat, Met l y (.code y b nL none :: TB) ({ frames := fr, cells := 0, slots := 0, locals := lo }) (va_Pc av (fun U => U.heap.size = sz ∧ va_P G classes ws U.heap ∧ KK G tys U ∧ va_D (fun _ => True) ws)) (va_Qv (fun (u : va_W) => post u) (fun u t => va_P G classes u t.heap ∧ va_D (va_A ws sz) u) (va_A ws sz)) 0 0 (va_A ws sz)
def RetI (X : Ev) (b : ByteArray) (post : Int → va_W → Prop) : Prop := ∀ (H : Heap) (locs : List Loc) (pc : Nat) (ls : Array Slot) (z : Int) (u : va_W), decode b pc = .ok (.ireturn, 1) → Wd X u H locs → post z u → GG X 0 0 H locs pc ls [.int (iI z)]
def RetZ (X : Ev) (b : ByteArray) (post : Int → va_W → Prop) : Prop := ∀ (H : Heap) (locs : List Loc) (pc : Nat) (ls : Array Slot) (z : Int) (u : va_W), decode b pc = .ok (.ireturn, 1) → Wd X u H locs → z = 0 ∨ z = 1 → post z u → GG X 0 0 H locs pc ls [.int (iI z)]
def RetL (X : Ev) (b : ByteArray) (post : Int64 → va_W → Prop) : Prop := ∀ (H : Heap) (locs : List Loc) (pc : Nat) (ls : Array Slot) (z : Int64) (u : va_W), decode b pc = .ok (.lreturn, 1) → Wd X u H locs → post z u → GG X 0 0 H locs pc ls [.long z]
def RetV (X : Ev) (b : ByteArray) (post : va_W → Prop) : Prop := ∀ (H : Heap) (locs : List Loc) (pc : Nat) (ls : Array Slot) (u : va_W), decode b pc = .ok (.return_, 1) → Wd X u H locs → post u → GG X 0 0 H locs pc ls []
theorem mkI {l : Launch} {G : va_G} {tys : List (ClassId × FieldType)} {y : MethodName} {b : ByteArray} {nL fr lo : Nat} {av : List Value} {ws : va_W} {post : Int → va_W → Prop} (hy : plainName y.cls = true) (hn : (lg_sl av).length ≤ nL)
    (body : ∀ X : Ev, Xl X = l → XG X = G → Xtys X = tys → XR X = ({ frames := fr, cells := 0, slots := 0, locals := lo } : Room) → Cx b y.cls nL X → RetI X b post → ∀ (H : Heap) (ls : Array Slot), Wd X ws H [] → lv_has ls nL (lv_args 0 av) → GG X 0 0 H [] 0 ls []) : CTI l G tys y b nL .int fr lo av ws post := by
  intro sz
  refine Met.ofW (cc := b) (maxL := nL) (ret := some .int) hy rfl ?_
  intro p e s m args below meth c s₁ B hml hv
  obtain ⟨rfl, hsz, hP, hK, hD0⟩ := hv
  subst hsz
  rw [lg_entry_eq]
  have hts := atoms_spec B.pre
  refine body (p, l, e, _, s, m, av.toArray, below, meth, c, MQ below _ av.toArray s 0 0 (va_A ws s.heap.size), va_A ws s.heap.size, G, tys) rfl rfl rfl rfl ⟨B.exec, B.bytes, hml, findClass_of_methodNamed B.named, fun w hw => hts w (List.mem_cons_of_mem _ hw)⟩ ?_ s.heap _ ⟨hK, hP, hD0.self, va_S.rf, fun q h => Or.inr h⟩ (lv_entry av hn)
  intro H locs pc ls z u d w hz
  exact W.iret (v := iI z) B.exec B.bytes B.returns (fun t ht hW => ⟨⟨iI z, u, rfl, ⟨z, rfl, hz⟩, by rw [ht]; exact w.2.1, w.2.2.1⟩, w.2.2.2.1.F ht⟩) w.2.2.2.1.2.2 d B.notSynchronized
theorem mkZ {l : Launch} {G : va_G} {tys : List (ClassId × FieldType)} {y : MethodName} {b : ByteArray} {nL fr lo : Nat} {av : List Value} {ws : va_W} {post : Int → va_W → Prop} (hy : plainName y.cls = true) (hn : (lg_sl av).length ≤ nL)
    (body : ∀ X : Ev, Xl X = l → XG X = G → Xtys X = tys → XR X = ({ frames := fr, cells := 0, slots := 0, locals := lo } : Room) → Cx b y.cls nL X → RetZ X b post → ∀ (H : Heap) (ls : Array Slot), Wd X ws H [] → lv_has ls nL (lv_args 0 av) → GG X 0 0 H [] 0 ls []) : CTI l G tys y b nL .boolean fr lo av ws post := by
  intro sz
  refine Met.ofW (cc := b) (maxL := nL) (ret := some .boolean) hy rfl ?_
  intro p e s m args below meth c s₁ B hml hv
  obtain ⟨rfl, hsz, hP, hK, hD0⟩ := hv
  subst hsz
  rw [lg_entry_eq]
  have hts := atoms_spec B.pre
  refine body (p, l, e, _, s, m, av.toArray, below, meth, c, MQ below _ av.toArray s 0 0 (va_A ws s.heap.size), va_A ws s.heap.size, G, tys) rfl rfl rfl rfl ⟨B.exec, B.bytes, hml, findClass_of_methodNamed B.named, fun w hw => hts w (List.mem_cons_of_mem _ hw)⟩ ?_ s.heap _ ⟨hK, hP, hD0.self, va_S.rf, fun q h => Or.inr h⟩ (lv_entry av hn)
  intro H locs pc ls z u d w h01 hz
  exact W.zret (v := iI z) B.exec B.bytes B.returns (by rcases h01 with rfl | rfl <;> decide) (fun t ht hW => ⟨⟨iI z, u, rfl, ⟨z, rfl, hz⟩, by rw [ht]; exact w.2.1, w.2.2.1⟩, w.2.2.2.1.F ht⟩) w.2.2.2.1.2.2 d B.notSynchronized
theorem mkL {l : Launch} {G : va_G} {tys : List (ClassId × FieldType)} {y : MethodName} {b : ByteArray} {nL fr lo : Nat} {av : List Value} {ws : va_W} {post : Int64 → va_W → Prop} (hy : plainName y.cls = true) (hn : (lg_sl av).length ≤ nL)
    (body : ∀ X : Ev, Xl X = l → XG X = G → Xtys X = tys → XR X = ({ frames := fr, cells := 0, slots := 0, locals := lo } : Room) → Cx b y.cls nL X → RetL X b post → ∀ (H : Heap) (ls : Array Slot), Wd X ws H [] → lv_has ls nL (lv_args 0 av) → GG X 0 0 H [] 0 ls []) : CTL l G tys y b nL fr lo av ws post := by
  intro sz
  refine Met.ofW (cc := b) (maxL := nL) (ret := some .long) hy rfl ?_
  intro p e s m args below meth c s₁ B hml hv
  obtain ⟨rfl, hsz, hP, hK, hD0⟩ := hv
  subst hsz
  rw [lg_entry_eq]
  have hts := atoms_spec B.pre
  refine body (p, l, e, _, s, m, av.toArray, below, meth, c, MQ below _ av.toArray s 0 0 (va_A ws s.heap.size), va_A ws s.heap.size, G, tys) rfl rfl rfl rfl ⟨B.exec, B.bytes, hml, findClass_of_methodNamed B.named, fun w hw => hts w (List.mem_cons_of_mem _ hw)⟩ ?_ s.heap _ ⟨hK, hP, hD0.self, va_S.rf, fun q h => Or.inr h⟩ (lv_entry av hn)
  intro H locs pc ls z u d w hz
  exact W.lret (v := z) B.exec B.bytes B.returns (fun t ht hW => ⟨⟨z, u, rfl, hz, by rw [ht]; exact w.2.1, w.2.2.1⟩, w.2.2.2.1.F ht⟩) w.2.2.2.1.2.2 d B.notSynchronized
theorem mkV {l : Launch} {G : va_G} {tys : List (ClassId × FieldType)} {y : MethodName} {b : ByteArray} {nL fr lo : Nat} {av : List Value} {ws : va_W} {post : va_W → Prop} (hy : plainName y.cls = true) (hn : (lg_sl av).length ≤ nL)
    (body : ∀ X : Ev, Xl X = l → XG X = G → Xtys X = tys → XR X = ({ frames := fr, cells := 0, slots := 0, locals := lo } : Room) → Cx b y.cls nL X → RetV X b post → ∀ (H : Heap) (ls : Array Slot), Wd X ws H [] → lv_has ls nL (lv_args 0 av) → GG X 0 0 H [] 0 ls []) : CTV l G tys y b nL fr lo av ws post := by
  intro sz
  refine Met.ofW (cc := b) (maxL := nL) (ret := none) hy rfl ?_
  intro p e s m args below meth c s₁ B hml hv
  obtain ⟨rfl, hsz, hP, hK, hD0⟩ := hv
  subst hsz
  rw [lg_entry_eq]
  have hts := atoms_spec B.pre
  refine body (p, l, e, _, s, m, av.toArray, below, meth, c, MQ below _ av.toArray s 0 0 (va_A ws s.heap.size), va_A ws s.heap.size, G, tys) rfl rfl rfl rfl ⟨B.exec, B.bytes, hml, findClass_of_methodNamed B.named, fun w hw => hts w (List.mem_cons_of_mem _ hw)⟩ ?_ s.heap _ ⟨hK, hP, hD0.self, va_S.rf, fun q h => Or.inr h⟩ (lv_entry av hn)
  intro H locs pc ls u d w hz
  exact W.vret B.exec B.bytes B.returns (fun t ht hW => ⟨⟨u, rfl, hz, by rw [ht]; exact w.2.1, w.2.2.1⟩, w.2.2.2.1.F ht⟩) w.2.2.2.1.2.2 d B.notSynchronized
theorem TB_in {y : MethodName} {b : ByteArray} {nL : Nat} {rt : Option FieldType} {pre : List Cond} (hp : ∀ w ∈ pre, w ∈ TB) (hcd : Cond.code y b nL rt ∈ TB) : GoodIn TB (pre ++ Cond.code y b nL rt :: TB) := by
  intro w hw
  rcases List.mem_append.mp hw with h | h
  · exact tb_good (hp w h)
  · rcases List.mem_cons.mp h with h | h
    · rw [h]; exact tb_good hcd
    · exact tb_good h
/-- what a descriptor says of a call -/
def okD (y : MethodName) (cn : String) (n : Nat) : Prop := y.cls = cn ∧ y.cls ≠ "java/lang/invoke/MethodHandle" ∧ y.cls ≠ "java/lang/invoke/VarHandle" ∧ (parseMethodDescriptor y.desc).map (fun d => d.parameters.length) = some n
/-- a cut of a world: the places of the callee's cells, those of the rest -/
def Cut (ws wc wr : va_W) (isC isR : List Nat) : Prop := isC.map (fun i => ws[i]?) = wc.map some ∧ isR.map (fun i => ws[i]?) = wr.map some ∧ va_nd isC = true ∧ va_nd isR = true ∧ ∀ i ∈ isR, i ∉ isC
theorem cut_filter {ws wc : va_W} : ∀ (l : List Nat) (w2 : va_W), l.map (fun i => ws[i]?) = w2.map some → l.filterMap (fun i => ws[i]?) = w2 := by
  intro l
  induction l with
  | nil => intro w2 h; cases w2 with
    | nil => rfl
    | cons a b => simp at h
  | cons a b ih => intro w2 h; cases w2 with
    | nil => simp at h
    | cons x y =>
      simp only [List.map_cons, List.cons.injEq] at h
      rw [List.filterMap_cons, h.1]
      simp [ih y h.2]
section CL
variable {X : Ev} {k n : Nat} {H : Heap} {locs : List Loc} {pc nL : Nat} {ls : Array Slot} {rest st0 : List Value} {cc : ByteArray} {own : String}
variable {ws wc wr : va_W} {y : MethodName} {b : ByteArray} {nLc fr lo a : Nat} {rt : FieldType} {As : List Value} {cn : String} {index nargs : Nat}
theorem r_callVI {post : Int → va_W → Prop} (C : Cx cc own nL X) (w : Wd X ws H locs) (hM : CTI (Xl X) (XG X) (Xtys X) y b nLc rt fr lo (.ref a :: As) wc post)
    (hml : Cond.methodLink own index y ∈ TB) (him : Cond.instanceMethod y ∈ TB) (hse : Cond.selects cn y y ∈ TB) (hini : Cond.initialized cn ∈ TB) (hcd : Cond.code y b nLc (some rt) ∈ TB) (hd : okD y cn nargs) (hn : As.length = nargs)
    (hR : (fr + 1 ≤ (XR X).frames ∧ 8 + (nLc + 11) + lo ≤ (XR X).locals) ∧ k ≤ (XR X).cells ∧ n ≤ (XR X).slots) (hls : ls.size = nL) (isC isR : List Nat) (hcut : Cut ws wc wr isC isR) (q0 : Nat) {ci : Nat} {T : u_T} {N : Nat} {fs : List Value} (hc : classes[ci]? = some (cn, T, N)) (he : wc[q0]? = some (a, .inr (ci, fs)))
    (hst : st0 = As.reverse ++ .ref a :: rest) (hcat : (rest.map fun v => v.category).sum ≤ 8) (d : decode cc pc = .ok (.invokevirtual index, 3))
    (kk : ∀ (z : Int) (u : va_W) (H1 : Heap) (locs1 : List Loc), post z u → Wd X (wr ++ u) H1 locs1 → GG X k n H1 locs1 (pc + 3) ls (.int (iI z) :: rest)) : GG X k n H locs pc ls st0 := by
  obtain ⟨p, l, e, R, s, m, args, below, meth, c, Q, A, G, tys⟩ := X
  obtain ⟨hC, hRr, hnc, hnr, hdis⟩ := hcut
  obtain ⟨hK, hP, hD, hS, hA⟩ := w
  have hPc := hP.sub isC (cut_filter (wc := wc) isC wc hC)
  have hDc := hD.sub isC hnc hC
  have hFc := va_free hD hS hA isC hC
  have hTB : GoodIn TB (wsV own index cn y (Cond.code y b nLc (some rt) :: TB)) := TB_in (pre := [.methodLink own index y, .instanceMethod y, .selects cn y y, .initialized cn]) (fun w hw => by
    simp only [List.mem_cons, List.not_mem_nil, or_false] at hw
    rcases hw with rfl | rfl | rfl | rfl
    · exact hml
    · exact him
    · exact hse
    · exact hini) hcd
  refine va_calli (va_runV (As := As) (rest := rest) ⟨C.1, C.2.1, C.2.2.1, C.2.2.2.1, C.2.2.2.2⟩ (hM H.size) (cwV nargs C.2.2.2.2 hTB rfl rfl rfl hd hR.1) ⟨fun a U g mk q => ?_, va_recv hK.1 hPc (ci := ci) (q0 := q0) hc he, fun U hU hW => ⟨rfl, by rw [hU], by rw [hU]; exact hPc, hK.warm hW, hDc.weaken (fun _ _ _ _ => trivial)⟩⟩ rfl hn hls hst (lv_room hcat) d ⟨hR.2.1, hR.2.2⟩) hS (fun q _ h => hFc q h) hFc (fun r u t H1 locs1 ht hvm hw hB hz1 hk1 hS1 => ?_)
  · obtain ⟨q0, q1, qP, qK, qD⟩ := q
    exact ⟨q0, q1, qP, ⟨va_K.moved (u := U) (U := U.calling g mk a) (Vm.Alike.refl U.vm) qK.1, va_Nw.same rfl (u := U) (U := U.calling g mk a) rfl qK.2⟩, qD⟩
  · obtain ⟨z, rfl, hz⟩ := hw
    obtain ⟨hP1, hD1⟩ := hB
    rw [ht] at hP1
    obtain ⟨hP2, hD2⟩ := va_join hP hD isC isR hC hRr hnr hdis hk1 hFc hP1 hD1
    exact kk z u H1 locs1 hz ⟨hK, hP2, hD2, hS1, hA⟩
theorem r_callVV {post : va_W → Prop} (C : Cx cc own nL X) (w : Wd X ws H locs) (hM : CTV (Xl X) (XG X) (Xtys X) y b nLc fr lo (.ref a :: As) wc post)
    (hml : Cond.methodLink own index y ∈ TB) (him : Cond.instanceMethod y ∈ TB) (hse : Cond.selects cn y y ∈ TB) (hini : Cond.initialized cn ∈ TB) (hcd : Cond.code y b nLc none ∈ TB) (hd : okD y cn nargs) (hn : As.length = nargs)
    (hR : (fr + 1 ≤ (XR X).frames ∧ 8 + (nLc + 11) + lo ≤ (XR X).locals) ∧ k ≤ (XR X).cells ∧ n ≤ (XR X).slots) (hls : ls.size = nL) (isC isR : List Nat) (hcut : Cut ws wc wr isC isR) (q0 : Nat) {ci : Nat} {T : u_T} {N : Nat} {fs : List Value} (hc : classes[ci]? = some (cn, T, N)) (he : wc[q0]? = some (a, .inr (ci, fs)))
    (hst : st0 = As.reverse ++ .ref a :: rest) (hcat : (rest.map fun v => v.category).sum ≤ 8) (d : decode cc pc = .ok (.invokevirtual index, 3))
    (kk : ∀ (u : va_W) (H1 : Heap) (locs1 : List Loc), post u → Wd X (wr ++ u) H1 locs1 → GG X k n H1 locs1 (pc + 3) ls rest) : GG X k n H locs pc ls st0 := by
  obtain ⟨p, l, e, R, s, m, args, below, meth, c, Q, A, G, tys⟩ := X
  obtain ⟨hC, hRr, hnc, hnr, hdis⟩ := hcut
  obtain ⟨hK, hP, hD, hS, hA⟩ := w
  have hPc := hP.sub isC (cut_filter (wc := wc) isC wc hC)
  have hDc := hD.sub isC hnc hC
  have hFc := va_free hD hS hA isC hC
  have hTB : GoodIn TB (wsV own index cn y (Cond.code y b nLc none :: TB)) := TB_in (pre := [.methodLink own index y, .instanceMethod y, .selects cn y y, .initialized cn]) (fun w hw => by
    simp only [List.mem_cons, List.not_mem_nil, or_false] at hw
    rcases hw with rfl | rfl | rfl | rfl
    · exact hml
    · exact him
    · exact hse
    · exact hini) hcd
  refine va_callv (va_runV (As := As) (rest := rest) ⟨C.1, C.2.1, C.2.2.1, C.2.2.2.1, C.2.2.2.2⟩ (hM H.size) (cwV nargs C.2.2.2.2 hTB rfl rfl rfl hd hR.1) ⟨fun a U g mk q => ?_, va_recv hK.1 hPc (ci := ci) (q0 := q0) hc he, fun U hU hW => ⟨rfl, by rw [hU], by rw [hU]; exact hPc, hK.warm hW, hDc.weaken (fun _ _ _ _ => trivial)⟩⟩ rfl hn hls hst (lv_room hcat) d ⟨hR.2.1, hR.2.2⟩) hS (fun q _ h => hFc q h) hFc (fun u t H1 locs1 ht hvm hw hB hz1 hk1 hS1 => ?_)
  · obtain ⟨q0, q1, qP, qK, qD⟩ := q
    exact ⟨q0, q1, qP, ⟨va_K.moved (u := U) (U := U.calling g mk a) (Vm.Alike.refl U.vm) qK.1, va_Nw.same rfl (u := U) (U := U.calling g mk a) rfl qK.2⟩, qD⟩
  · obtain ⟨hP1, hD1⟩ := hB
    rw [ht] at hP1
    obtain ⟨hP2, hD2⟩ := va_join hP hD isC isR hC hRr hnr hdis hk1 hFc hP1 hD1
    exact kk u H1 locs1 hw ⟨hK, hP2, hD2, hS1, hA⟩
theorem r_callSI {post : Int → va_W → Prop} (C : Cx cc own nL X) (w : Wd X ws H locs) (hM : CTI (Xl X) (XG X) (Xtys X) y b nLc rt fr lo As wc post)
    (hml : Cond.methodLink own index y ∈ TB) (him : Cond.static y ∈ TB) (hini : Cond.initialized y.cls ∈ TB) (hcd : Cond.code y b nLc (some rt) ∈ TB) (hd : okD y cn nargs) (hn : As.length = nargs)
    (hR : (fr + 1 ≤ (XR X).frames ∧ 8 + (nLc + 11) + lo ≤ (XR X).locals) ∧ k ≤ (XR X).cells ∧ n ≤ (XR X).slots) (hls : ls.size = nL) (isC isR : List Nat) (hcut : Cut ws wc wr isC isR)
    (hst : st0 = As.reverse ++ rest) (hcat : (rest.map fun v => v.category).sum ≤ 8) (d : decode cc pc = .ok (.invokestatic index, 3))
    (kk : ∀ (z : Int) (u : va_W) (H1 : Heap) (locs1 : List Loc), post z u → Wd X (wr ++ u) H1 locs1 → GG X k n H1 locs1 (pc + 3) ls (.int (iI z) :: rest)) : GG X k n H locs pc ls st0 := by
  obtain ⟨p, l, e, R, s, m, args, below, meth, c, Q, A, G, tys⟩ := X
  obtain ⟨hC, hRr, hnc, hnr, hdis⟩ := hcut
  obtain ⟨hK, hP, hD, hS, hA⟩ := w
  have hPc := hP.sub isC (cut_filter (wc := wc) isC wc hC)
  have hDc := hD.sub isC hnc hC
  have hFc := va_free hD hS hA isC hC
  have hTB : GoodIn TB (va_wsS own index y (Cond.code y b nLc (some rt) :: TB)) := TB_in (pre := [.methodLink own index y, .static y, .initialized y.cls]) (fun w hw => by
    simp only [List.mem_cons, List.not_mem_nil, or_false] at hw
    rcases hw with rfl | rfl | rfl
    · exact hml
    · exact him
    · exact hini) hcd
  refine va_calli (va_runS (As := As) (rest := rest) ⟨C.1, C.2.1, C.2.2.1, C.2.2.2.1, C.2.2.2.2⟩ (hM H.size) (va_cwS nargs C.2.2.2.2 hTB rfl rfl rfl hd.2 hR.1) ⟨fun a U g mk q => ?_, fun U hU hW => ⟨rfl, by rw [hU], by rw [hU]; exact hPc, hK.warm hW, hDc.weaken (fun _ _ _ _ => trivial)⟩⟩ rfl hn hls hst (lv_room hcat) d ⟨hR.2.1, hR.2.2⟩) hS (fun q _ h => hFc q h) hFc (fun r u t H1 locs1 ht hvm hw hB hz1 hk1 hS1 => ?_)
  · obtain ⟨q0, q1, qP, qK, qD⟩ := q
    exact ⟨q0, q1, qP, ⟨va_K.moved (u := U) (U := U.calling g mk a) (Vm.Alike.refl U.vm) qK.1, va_Nw.same rfl (u := U) (U := U.calling g mk a) rfl qK.2⟩, qD⟩
  · obtain ⟨z, rfl, hz⟩ := hw
    obtain ⟨hP1, hD1⟩ := hB
    rw [ht] at hP1
    obtain ⟨hP2, hD2⟩ := va_join hP hD isC isR hC hRr hnr hdis hk1 hFc hP1 hD1
    exact kk z u H1 locs1 hz ⟨hK, hP2, hD2, hS1, hA⟩
theorem r_callSV {post : va_W → Prop} (C : Cx cc own nL X) (w : Wd X ws H locs) (hM : CTV (Xl X) (XG X) (Xtys X) y b nLc fr lo As wc post)
    (hml : Cond.methodLink own index y ∈ TB) (him : Cond.static y ∈ TB) (hini : Cond.initialized y.cls ∈ TB) (hcd : Cond.code y b nLc none ∈ TB) (hd : okD y cn nargs) (hn : As.length = nargs)
    (hR : (fr + 1 ≤ (XR X).frames ∧ 8 + (nLc + 11) + lo ≤ (XR X).locals) ∧ k ≤ (XR X).cells ∧ n ≤ (XR X).slots) (hls : ls.size = nL) (isC isR : List Nat) (hcut : Cut ws wc wr isC isR)
    (hst : st0 = As.reverse ++ rest) (hcat : (rest.map fun v => v.category).sum ≤ 8) (d : decode cc pc = .ok (.invokestatic index, 3))
    (kk : ∀ (u : va_W) (H1 : Heap) (locs1 : List Loc), post u → Wd X (wr ++ u) H1 locs1 → GG X k n H1 locs1 (pc + 3) ls rest) : GG X k n H locs pc ls st0 := by
  obtain ⟨p, l, e, R, s, m, args, below, meth, c, Q, A, G, tys⟩ := X
  obtain ⟨hC, hRr, hnc, hnr, hdis⟩ := hcut
  obtain ⟨hK, hP, hD, hS, hA⟩ := w
  have hPc := hP.sub isC (cut_filter (wc := wc) isC wc hC)
  have hDc := hD.sub isC hnc hC
  have hFc := va_free hD hS hA isC hC
  have hTB : GoodIn TB (va_wsS own index y (Cond.code y b nLc none :: TB)) := TB_in (pre := [.methodLink own index y, .static y, .initialized y.cls]) (fun w hw => by
    simp only [List.mem_cons, List.not_mem_nil, or_false] at hw
    rcases hw with rfl | rfl | rfl
    · exact hml
    · exact him
    · exact hini) hcd
  refine va_callv (va_runS (As := As) (rest := rest) ⟨C.1, C.2.1, C.2.2.1, C.2.2.2.1, C.2.2.2.2⟩ (hM H.size) (va_cwS nargs C.2.2.2.2 hTB rfl rfl rfl hd.2 hR.1) ⟨fun a U g mk q => ?_, fun U hU hW => ⟨rfl, by rw [hU], by rw [hU]; exact hPc, hK.warm hW, hDc.weaken (fun _ _ _ _ => trivial)⟩⟩ rfl hn hls hst (lv_room hcat) d ⟨hR.2.1, hR.2.2⟩) hS (fun q _ h => hFc q h) hFc (fun u t H1 locs1 ht hvm hw hB hz1 hk1 hS1 => ?_)
  · obtain ⟨q0, q1, qP, qK, qD⟩ := q
    exact ⟨q0, q1, qP, ⟨va_K.moved (u := U) (U := U.calling g mk a) (Vm.Alike.refl U.vm) qK.1, va_Nw.same rfl (u := U) (U := U.calling g mk a) rfl qK.2⟩, qD⟩
  · obtain ⟨hP1, hD1⟩ := hB
    rw [ht] at hP1
    obtain ⟨hP2, hD2⟩ := va_join hP hD isC isR hC hRr hnr hdis hk1 hFc hP1 hD1
    exact kk u H1 locs1 hw ⟨hK, hP2, hD2, hS1, hA⟩
/-- a static method of numbers alone: the world stays -/
def CTP (l : Launch) (G : va_G) (tys : List (ClassId × FieldType)) (y : MethodName) (b : ByteArray) (nL : Nat) (rt : FieldType) (fr lo : Nat) (av : List Value) (P : Int → Prop) : Prop := CTI l G tys y b nL rt fr lo av [] (fun z u => u = [] ∧ P z)
theorem cut_none (ws : va_W) : Cut ws [] ws [] (List.range ws.length) := by
  refine ⟨rfl, ?_, rfl, ?_, fun i _ h => by cases h⟩
  · apply List.ext_getElem?
    intro i
    rw [List.getElem?_map, List.getElem?_map]
    by_cases h : i < ws.length
    · rw [List.getElem?_range h, List.getElem?_eq_getElem h]
      show some (ws[i]?) = _
      rw [List.getElem?_eq_getElem h]
      rfl
    · rw [List.getElem?_eq_none (by simpa using h), List.getElem?_eq_none (by simpa using h)]
      rfl
  · have h1 : ∀ (l : List Nat), l.Nodup → va_nd l = true := by
      intro l
      induction l with
      | nil => intro _; rfl
      | cons a b ih =>
        intro h
        have h2 := List.nodup_cons.mp h
        unfold va_nd
        simp [ih h2.2, h2.1]
    exact h1 _ List.nodup_range
theorem r_callP {P : Int → Prop} (C : Cx cc own nL X) (w : Wd X ws H locs) (hM : CTP (Xl X) (XG X) (Xtys X) y b nLc rt fr lo As P)
    (hml : Cond.methodLink own index y ∈ TB) (him : Cond.static y ∈ TB) (hini : Cond.initialized y.cls ∈ TB) (hcd : Cond.code y b nLc (some rt) ∈ TB) (hd : okD y cn nargs) (hn : As.length = nargs)
    (hR : (fr + 1 ≤ (XR X).frames ∧ 8 + (nLc + 11) + lo ≤ (XR X).locals) ∧ k ≤ (XR X).cells ∧ n ≤ (XR X).slots) (hls : ls.size = nL)
    (hst : st0 = As.reverse ++ rest) (hcat : (rest.map fun v => v.category).sum ≤ 8) (d : decode cc pc = .ok (.invokestatic index, 3))
    (kk : ∀ (z : Int) (H1 : Heap) (locs1 : List Loc), P z → Wd X ws H1 locs1 → GG X k n H1 locs1 (pc + 3) ls (.int (iI z) :: rest)) : GG X k n H locs pc ls st0 := by
  refine r_callSI C w hM hml him hini hcd hd hn hR hls [] (List.range ws.length) (cut_none ws) hst hcat d (fun z u H1 locs1 hz w1 => ?_)
  obtain ⟨rfl, hz⟩ := hz
  rw [List.append_nil] at w1
  exact kk z H1 locs1 hz w1
/-- the same, the method private in a nest mate: the one that Pad calls -/
theorem r_callPN {P : Int → Prop} (C : Cx cc "DeadRuns$Pad" nL X) (w : Wd X ws H locs) (hM : CTP (Xl X) (XG X) (Xtys X) y_D_isWithin b_D_isWithin 3 .boolean fr lo As P)
    (hn : As.length = 3)
    (hR : (fr + 1 ≤ (XR X).frames ∧ 8 + (3 + 11) + lo ≤ (XR X).locals) ∧ k ≤ (XR X).cells ∧ n ≤ (XR X).slots) (hls : ls.size = nL)
    (hst : st0 = As.reverse ++ rest) (hcat : (rest.map fun v => v.category).sum ≤ 8) (d : decode cc pc = .ok (.invokestatic 42, 3))
    (kk : ∀ (z : Int) (H1 : Heap) (locs1 : List Loc), P z → Wd X ws H1 locs1 → GG X k n H1 locs1 (pc + 3) ls (.int (iI z) :: rest)) : GG X k n H locs pc ls st0 := by
  obtain ⟨p, l, e, R, s, m, args, below, meth, c, Q, A, G, tys⟩ := X
  obtain ⟨hC, hRr, hnc, hnr, hdis⟩ := cut_none ws
  obtain ⟨hK, hP, hD, hS, hA⟩ := w
  have hPc := hP.sub (ws' := []) [] rfl
  have hDc := hD.sub (ws' := []) [] rfl rfl
  have hFc := va_free (wc := []) hD hS hA [] rfl
  have hTB : GoodIn TB (Cond.code y_D_isWithin b_D_isWithin 3 (some .boolean) :: TB) := TB_in (pre := []) (fun w hw => by cases hw) cd_D_isWithin
  refine va_calli (va_runSN (As := As) (rest := rest) ⟨C.1, C.2.1, C.2.2.1, C.2.2.2.1, C.2.2.2.2⟩ (hM H.size) ⟨va_cnB 3 C.2.2.2.2 hTB rfl rfl rfl hK.2 (C.2.2.2.2 _ ini_D) (by decide +kernel) hR.1, C.2.2.2.2 _ st_D_isWithin, trivial⟩ ⟨fun a U g mk q => ?_, fun U hU hW => ⟨rfl, by rw [hU], by rw [hU]; exact hPc, hK.warm hW, hDc.weaken (fun _ _ _ _ => trivial)⟩⟩ rfl hn hls hst (lv_room hcat) d ⟨hR.2.1, hR.2.2⟩) hS (fun q _ h => hFc q h) hFc (fun r u t H1 locs1 ht hvm hw hB hz1 hk1 hS1 => ?_)
  · obtain ⟨q0, q1, qP, qK, qD⟩ := q
    exact ⟨q0, q1, qP, ⟨va_K.moved (u := U) (U := U.calling g mk a) (Vm.Alike.refl U.vm) qK.1, va_Nw.same rfl (u := U) (U := U.calling g mk a) rfl qK.2⟩, qD⟩
  · obtain ⟨z, rfl, rfl, hz⟩ := hw
    obtain ⟨hP1, hD1⟩ := hB
    rw [ht] at hP1
    obtain ⟨hP2, hD2⟩ := va_join hP hD [] (List.range ws.length) hC hRr hnr hdis hk1 hFc hP1 hD1
    rw [List.append_nil] at hP2 hD2
    exact kk z H1 locs1 hz ⟨hK, hP2, hD2, hS1, hA⟩
theorem r_callSL {post : Int64 → va_W → Prop} (C : Cx cc own nL X) (w : Wd X ws H locs) (hM : CTL (Xl X) (XG X) (Xtys X) y b nLc fr lo As [] post)
    (hml : Cond.methodLink own index y ∈ TB) (him : Cond.static y ∈ TB) (hini : Cond.initialized y.cls ∈ TB) (hcd : Cond.code y b nLc (some .long) ∈ TB) (hd : okD y cn nargs) (hn : As.length = nargs)
    (hR : (fr + 1 ≤ (XR X).frames ∧ 8 + (nLc + 11) + lo ≤ (XR X).locals) ∧ k ≤ (XR X).cells ∧ n ≤ (XR X).slots) (hls : ls.size = nL)
    (hst : st0 = As.reverse ++ rest) (hcat : (rest.map fun v => v.category).sum ≤ 8) (d : decode cc pc = .ok (.invokestatic index, 3)) (hu : ∀ z u, post z u → u = [])
    (kk : ∀ (z : Int64) (H1 : Heap) (locs1 : List Loc), post z [] → Wd X ws H1 locs1 → GG X k n H1 locs1 (pc + 3) ls (.long z :: rest)) : GG X k n H locs pc ls st0 := by
  obtain ⟨p, l, e, R, s, m, args, below, meth, c, Q, A, G, tys⟩ := X
  obtain ⟨hC, hRr, hnc, hnr, hdis⟩ := cut_none ws
  obtain ⟨hK, hP, hD, hS, hA⟩ := w
  have hPc := hP.sub (ws' := []) [] rfl
  have hDc := hD.sub (ws' := []) [] rfl rfl
  have hFc := va_free (wc := []) hD hS hA [] rfl
  have hTB : GoodIn TB (va_wsS own index y (Cond.code y b nLc (some .long) :: TB)) := TB_in (pre := [.methodLink own index y, .static y, .initialized y.cls]) (fun w hw => by
    simp only [List.mem_cons, List.not_mem_nil, or_false] at hw
    rcases hw with rfl | rfl | rfl
    · exact hml
    · exact him
    · exact hini) hcd
  refine va_calll (va_runS (As := As) (rest := rest) ⟨C.1, C.2.1, C.2.2.1, C.2.2.2.1, C.2.2.2.2⟩ (hM H.size) (va_cwS nargs C.2.2.2.2 hTB rfl rfl rfl hd.2 hR.1) ⟨fun a U g mk q => ?_, fun U hU hW => ⟨rfl, by rw [hU], by rw [hU]; exact hPc, hK.warm hW, hDc.weaken (fun _ _ _ _ => trivial)⟩⟩ rfl hn hls hst (lv_room hcat) d ⟨hR.2.1, hR.2.2⟩) hS (fun q _ h => hFc q h) hFc (fun r u t H1 locs1 ht hvm hw hB hz1 hk1 hS1 => ?_)
  · obtain ⟨q0, q1, qP, qK, qD⟩ := q
    exact ⟨q0, q1, qP, ⟨va_K.moved (u := U) (U := U.calling g mk a) (Vm.Alike.refl U.vm) qK.1, va_Nw.same rfl (u := U) (U := U.calling g mk a) rfl qK.2⟩, qD⟩
  · have hue := hu _ _ hw
    subst hue
    obtain ⟨hP1, hD1⟩ := hB
    rw [ht] at hP1
    obtain ⟨hP2, hD2⟩ := va_join hP hD [] (List.range ws.length) hC hRr hnr hdis hk1 hFc hP1 hD1
    rw [List.append_nil] at hP2 hD2
    exact kk r H1 locs1 hw ⟨hK, hP2, hD2, hS1, hA⟩
theorem r_max {a b : Int} (C : Cx cc own nL X) (hml : Cond.methodLink own index Lib.Math.max.name ∈ TB) (h : (-2147483648 ≤ a ∧ a < 2147483648) ∧ (-2147483648 ≤ b ∧ b < 2147483648)) (hR : (1 ≤ (XR X).frames ∧ (rest.map fun v => v.category).sum + 13 ≤ (XR X).locals) ∧ k ≤ (XR X).cells ∧ n ≤ (XR X).slots) (hls : ls.size = nL) (d : decode cc pc = .ok (.invokestatic index, 3))
    (kk : GG X k n H locs (pc + 3) ls (.int (iI (max a b)) :: rest)) : GG X k n H locs pc ls (.int (iI b) :: .int (iI a) :: rest) := by
  obtain ⟨p, l, e, R, s, m, args, below, meth, c, Q, A, G, tys⟩ := X
  refine va_mmax C.1 C.2.1 (C.2.2.1.trans hls.symm) C.2.2.2.1 (C.2.2.2.2 _ hml) (C.2.2.2.2 _ st_Math_max) (C.2.2.2.2 _ ini_Math) (C.2.2.2.2 _ cd_Math_max) hR.1.1 hR.1.2 hR.2.1 hR.2.2 d ?_
  rw [show (if iI a < iI b then iI b else iI a) = iI (max a b) by
    by_cases q : a < b
    · rw [if_pos ((iI_lt h).mpr q), Int.max_eq_right (by omega)]
    · rw [if_neg (fun z => q ((iI_lt h).mp z)), Int.max_eq_left (by omega)]]
  exact kk
theorem r_min {a b : Int} (C : Cx cc own nL X) (hml : Cond.methodLink own index Lib.Math.min.name ∈ TB) (h : (-2147483648 ≤ a ∧ a < 2147483648) ∧ (-2147483648 ≤ b ∧ b < 2147483648)) (hR : (1 ≤ (XR X).frames ∧ (rest.map fun v => v.category).sum + 13 ≤ (XR X).locals) ∧ k ≤ (XR X).cells ∧ n ≤ (XR X).slots) (hls : ls.size = nL) (d : decode cc pc = .ok (.invokestatic index, 3))
    (kk : GG X k n H locs (pc + 3) ls (.int (iI (min a b)) :: rest)) : GG X k n H locs pc ls (.int (iI b) :: .int (iI a) :: rest) := by
  obtain ⟨p, l, e, R, s, m, args, below, meth, c, Q, A, G, tys⟩ := X
  refine va_mmin C.1 C.2.1 (C.2.2.1.trans hls.symm) C.2.2.2.1 (C.2.2.2.2 _ hml) (C.2.2.2.2 _ st_Math_min) (C.2.2.2.2 _ ini_Math) (C.2.2.2.2 _ cd_Math_min) hR.1.1 hR.1.2 hR.2.1 hR.2.2 d ?_
  rw [show (if iI b < iI a then iI b else iI a) = iI (min a b) by
    by_cases q : b < a
    · rw [if_pos ((iI_lt ⟨h.2, h.1⟩).mpr q), Int.min_eq_right (by omega)]
    · rw [if_neg (fun z => q ((iI_lt ⟨h.2, h.1⟩).mp z)), Int.min_eq_left (by omega)]]
  exact kk
theorem r_switchIn (C : Cx cc own nL X) {a dflt lo hi off : Int} {offs : Array Int} {len tgt : Nat} (h : -2147483648 ≤ a ∧ a < 2147483648) (h1 : lo ≤ a ∧ a ≤ hi) (ho : offs[(a - lo).toNat]? = some off) (ht : (pc : Int) + off = (tgt : Int)) (d : decode cc pc = .ok (.tableswitch dflt lo hi offs, len))
    (kk : GG X k n H locs tgt ls rest) : GG X k n H locs pc ls (.int (iI a) :: rest) := by
  obtain ⟨p, l, e, R, s, m, args, below, meth, c, Q, A, G, tys⟩ := X
  exact lv_tableIn C.1 C.2.1 d (by rw [iI_toInt h]; omega) (by rw [iI_toInt h]; omega) (by rw [iI_toInt h]; exact ho) ht kk
theorem r_switchOut (C : Cx cc own nL X) {a dflt lo hi : Int} {offs : Array Int} {len tgt : Nat} (h : -2147483648 ≤ a ∧ a < 2147483648) (h1 : a < lo ∨ hi < a) (ht : (pc : Int) + dflt = (tgt : Int)) (d : decode cc pc = .ok (.tableswitch dflt lo hi offs, len))
    (kk : GG X k n H locs tgt ls rest) : GG X k n H locs pc ls (.int (iI a) :: rest) := by
  obtain ⟨p, l, e, R, s, m, args, below, meth, c, Q, A, G, tys⟩ := X
  exact lv_tableOut C.1 C.2.1 d (by rw [iI_toInt h]; omega) ht kk
end CL
def TY (X : List (ClassId × FieldType)) (cI cO cZ : ClassId) : Prop := X[0]? = some (cI, .int) ∧ X[1]? = some (cO, .object "DeadRuns$State") ∧ X[2]? = some (cZ, .boolean)
-- okD rows
theorem hd_D_init : okD y_D_init "DeadRuns" 0 := by unfold okD; decide +kernel
theorem hd_D_set : okD y_D_set "DeadRuns" 2 := by unfold okD; decide +kernel
theorem hd_D_insert : okD y_D_insert "DeadRuns" 3 := by unfold okD; decide +kernel
theorem hd_D_erase : okD y_D_erase "DeadRuns" 2 := by unfold okD; decide +kernel
theorem hd_D_write : okD y_D_write "DeadRuns" 3 := by unfold okD; decide +kernel
theorem hd_D_add : okD y_D_add "DeadRuns" 3 := by unfold okD; decide +kernel
theorem hd_D_kill : okD y_D_kill "DeadRuns" 2 := by unfold okD; decide +kernel
theorem hd_D_revive : okD y_D_revive "DeadRuns" 2 := by unfold okD; decide +kernel
theorem hd_D_turn : okD y_D_turn "DeadRuns" 2 := by unfold okD; decide +kernel
theorem hd_D_move : okD y_D_move "DeadRuns" 3 := by unfold okD; decide +kernel
theorem hd_D_sign : okD y_D_sign "DeadRuns" 1 := by unfold okD; decide +kernel
theorem hd_D_ofRun : okD y_D_ofRun "DeadRuns" 2 := by unfold okD; decide +kernel
theorem hd_D_count : okD y_D_count "DeadRuns" 1 := by unfold okD; decide +kernel
theorem hd_D_howMany : okD y_D_howMany "DeadRuns" 3 := by unfold okD; decide +kernel
theorem hd_D_bit : okD y_D_bit "DeadRuns" 1 := by unfold okD; decide +kernel
theorem hd_D_character : okD y_D_character "DeadRuns" 1 := by unfold okD; decide +kernel
theorem hd_D_size : okD y_D_size "DeadRuns" 1 := by unfold okD; decide +kernel
theorem hd_D_bestCode : okD y_D_bestCode "DeadRuns" 0 := by unfold okD; decide +kernel
theorem hd_D_longestLive : okD y_D_longestLive "DeadRuns" 1 := by unfold okD; decide +kernel
theorem hd_D_find : okD y_D_find "DeadRuns" 2 := by unfold okD; decide +kernel
theorem hd_D_bestWrite : okD y_D_bestWrite "DeadRuns" 1 := by unfold okD; decide +kernel
theorem hd_D_unlikeMirror : okD y_D_unlikeMirror "DeadRuns" 0 := by unfold okD; decide +kernel
theorem hd_D_put : okD y_D_put "DeadRuns" 1 := by unfold okD; decide +kernel
theorem hd_D_wipe : okD y_D_wipe "DeadRuns" 0 := by unfold okD; decide +kernel
theorem hd_D_fault : okD y_D_fault "DeadRuns" 0 := by unfold okD; decide +kernel
theorem hd_D_load : okD y_D_load "DeadRuns" 0 := by unfold okD; decide +kernel
theorem hd_D_undo : okD y_D_undo "DeadRuns" 0 := by unfold okD; decide +kernel
theorem hd_D_save : okD y_D_save "DeadRuns" 1 := by unfold okD; decide +kernel
theorem hd_D_restore : okD y_D_restore "DeadRuns" 1 := by unfold okD; decide +kernel
theorem hd_D_isWithin : okD y_D_isWithin "DeadRuns" 3 := by unfold okD; decide +kernel
theorem hd_D_isPiece : okD y_D_isPiece "DeadRuns" 2 := by unfold okD; decide +kernel
theorem hd_D_edited : okD y_D_edited "DeadRuns" 4 := by unfold okD; decide +kernel
theorem hd_D_accepted : okD y_D_accepted "DeadRuns" 1 := by unfold okD; decide +kernel
theorem hd_D_dropOldest : okD y_D_dropOldest "DeadRuns" 0 := by unfold okD; decide +kernel
theorem hd_C_bitsOfRun : okD y_C_bitsOfRun "DeadRuns$Codes" 3 := by unfold okD; decide +kernel
theorem hd_C_bitOfRun : okD y_C_bitOfRun "DeadRuns$Codes" 4 := by unfold okD; decide +kernel
theorem hd_C_bitsOfSign : okD y_C_bitsOfSign "DeadRuns$Codes" 1 := by unfold okD; decide +kernel
theorem hd_C_bitsOfLength : okD y_C_bitsOfLength "DeadRuns$Codes" 2 := by unfold okD; decide +kernel
theorem hd_C_bitOfLength : okD y_C_bitOfLength "DeadRuns$Codes" 3 := by unfold okD; decide +kernel
theorem hd_C_bitOfNumber : okD y_C_bitOfNumber "DeadRuns$Codes" 3 := by unfold okD; decide +kernel
theorem hd_C_widthOf : okD y_C_widthOf "DeadRuns$Codes" 1 := by unfold okD; decide +kernel
theorem hd_P_init : okD y_P_init "DeadRuns$Pad" 0 := by unfold okD; decide +kernel
theorem hd_P_charactersIn : okD y_P_charactersIn "DeadRuns$Pad" 1 := by unfold okD; decide +kernel
theorem hd_P_tookIn : okD y_P_tookIn "DeadRuns$Pad" 2 := by unfold okD; decide +kernel
theorem hd_P_readInto : okD y_P_readInto "DeadRuns$Pad" 1 := by unfold okD; decide +kernel
theorem hd_P_mayEnd : okD y_P_mayEnd "DeadRuns$Pad" 1 := by unfold okD; decide +kernel
theorem hd_P_isDigit : okD y_P_isDigit "DeadRuns$Pad" 1 := by unfold okD; decide +kernel
theorem hd_P_continuesNumber : okD y_P_continuesNumber "DeadRuns$Pad" 2 := by unfold okD; decide +kernel
theorem hd_S_init : okD y_S_init "DeadRuns$State" 0 := by unfold okD; decide +kernel
theorem hd_S_startLike : okD y_S_startLike "DeadRuns$State" 1 := by unfold okD; decide +kernel
theorem hd_S_becomeCopyOf : okD y_S_becomeCopyOf "DeadRuns$State" 1 := by unfold okD; decide +kernel
theorem hd_S_append : okD y_S_append "DeadRuns$State" 2 := by unfold okD; decide +kernel
theorem hd_S_appendPiece : okD y_S_appendPiece "DeadRuns$State" 3 := by unfold okD; decide +kernel
theorem hd_S_appendAllBut : okD y_S_appendAllBut "DeadRuns$State" 3 := by unfold okD; decide +kernel
theorem hd_S_appendTurned : okD y_S_appendTurned "DeadRuns$State" 4 := by unfold okD; decide +kernel
theorem hd_S_appendLiveFrom : okD y_S_appendLiveFrom "DeadRuns$State" 4 := by unfold okD; decide +kernel
theorem hd_S_appendEdited : okD y_S_appendEdited "DeadRuns$State" 5 := by unfold okD; decide +kernel
theorem hd_S_signAfter : okD y_S_signAfter "DeadRuns$State" 3 := by unfold okD; decide +kernel
theorem hd_S_shared : okD y_S_shared "DeadRuns$State" 4 := by unfold okD; decide +kernel
theorem hd_S_signOf : okD y_S_signOf "DeadRuns$State" 1 := by unfold okD; decide +kernel
theorem hd_S_lengthOf : okD y_S_lengthOf "DeadRuns$State" 1 := by unfold okD; decide +kernel
theorem hd_S_bitsOf : okD y_S_bitsOf "DeadRuns$State" 2 := by unfold okD; decide +kernel
theorem hd_S_firstOf : okD y_S_firstOf "DeadRuns$State" 1 := by unfold okD; decide +kernel
theorem hd_S_signAt : okD y_S_signAt "DeadRuns$State" 1 := by unfold okD; decide +kernel
theorem hd_S_alikeIn : okD y_S_alikeIn "DeadRuns$State" 3 := by unfold okD; decide +kernel
theorem hd_S_sumOfValues : okD y_S_sumOfValues "DeadRuns$State" 0 := by unfold okD; decide +kernel
theorem hd_S_longestRun : okD y_S_longestRun "DeadRuns$State" 0 := by unfold okD; decide +kernel
theorem hd_S_allBits : okD y_S_allBits "DeadRuns$State" 1 := by unfold okD; decide +kernel
theorem hd_S_bitAt : okD y_S_bitAt "DeadRuns$State" 1 := by unfold okD; decide +kernel
theorem hd_S_allCharacters : okD y_S_allCharacters "DeadRuns$State" 0 := by unfold okD; decide +kernel
theorem hd_S_characterAt : okD y_S_characterAt "DeadRuns$State" 1 := by unfold okD; decide +kernel
theorem hd_S_longestLiveStretch : okD y_S_longestLiveStretch "DeadRuns$State" 1 := by unfold okD; decide +kernel
theorem hd_S_firstMatch : okD y_S_firstMatch "DeadRuns$State" 2 := by unfold okD; decide +kernel
theorem hd_S_savedByWriting : okD y_S_savedByWriting "DeadRuns$State" 2 := by unfold okD; decide +kernel
theorem hd_S_unlikeTurned : okD y_S_unlikeTurned "DeadRuns$State" 0 := by unfold okD; decide +kernel
theorem hd_X_charactersOfRun : okD y_X_charactersOfRun "DeadRuns$Texts" 1 := by unfold okD; decide +kernel
theorem hd_X_characterOfRun : okD y_X_characterOfRun "DeadRuns$Texts" 3 := by unfold okD; decide +kernel
theorem hd_X_digitsOf : okD y_X_digitsOf "DeadRuns$Texts" 1 := by unfold okD; decide +kernel
theorem hd_X_inGroupsOf4Bits : okD y_X_inGroupsOf4Bits "DeadRuns$Texts" 1 := by unfold okD; decide +kernel
section R4
variable {X : Ev} {k n : Nat} {H : Heap} {locs : List Loc} {pc nL : Nat} {ls : Array Slot} {rest : List Value} {cc : ByteArray} {own : String}
theorem r_ldc (C : Cx cc own nL X) {index : Nat} {v : Int32} {z : Int} (hc : Cond.constant own index v ∈ TB) (hv : v = iI z) (d : decode cc pc = .ok (.ldc index, 2)) (kk : GG X k n H locs (pc + 2) ls (.int (iI z) :: rest)) : GG X k n H locs pc ls rest := by
  obtain ⟨p, l, e, R, s, m, args, below, meth, c, Q, A, G, tys⟩ := X
  subst hv
  exact lv_ldc C.1 C.2.1 C.2.2.2.1 (C.2.2.2.2 _ hc) d kk
end R4
