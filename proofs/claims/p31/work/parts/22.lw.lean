/-! the law's level: an object that stands for A, whatever its cells are -/
def LW (X : Ev) (cI cO cZ : ClassId) (o : Nat) (A : AS) (H : Heap) (locs : List Loc) : Prop := ∃ ws : va_W, CW cI cO cZ o A ws ∧ Wd X ws H locs
def RwK (w : Rw) : Prop := RwOk w.1 w.2.1 w.2.2.1 w.2.2.2.1 w.2.2.2.2.1 w.2.2.2.2.2.1 w.2.2.2.2.2.2
/-- what holds of every state that an object can stand for -/
def AOk (A : AS) : Prop := match A with
  | (w, hist, rcd, slot, uf, T, m) => RwK w ∧ (0 ≤ rcd ∧ rcd ≤ 6) ∧ (∀ i, 0 ≤ i → i < rcd → RwK (hist i)) ∧ (∀ i, 0 ≤ i → i < 2 → (uf i = 0 ∨ uf i = 1) ∧ (uf i = 1 → RwK (slot i))) ∧ (0 ≤ m ∧ m ≤ 80) ∧ ∀ x, 0 ≤ x → x < m → 33 ≤ T x ∧ T x ≤ 126
theorem LW.ok {X : Ev} {cI cO cZ : ClassId} {o : Nat} {A : AS} {H : Heap} {locs : List Loc} (h : LW X cI cO cZ o A H locs) : AOk A := by
  obtain ⟨ws, hA, -⟩ := h
  obtain ⟨⟨lc, sd, r, sg, ln, N, v⟩, hist, rcd, slot, uf, T, m⟩ := A
  obtain ⟨hR, h, sl, us, pd, co, hf, sf, q, a, b, ov, q2, a2, b2, sg2, ln2, r2, pl2, ov2, lc2, sd2, q3, a3, b3, sg3, ln3, r3, pl3, ov3, lc3, sd3, st, rfl, hC⟩ := hA
  exact ⟨hR, hC.2.2.1, fun i h1 h2 => (SR_out (hC.2.2.2.1 i h1 h2)).2.2.2.2.2.2, fun i h1 h2 => ⟨(hC.2.2.2.2.1 i h1 h2).1, fun q => (SR_out ((hC.2.2.2.2.1 i h1 h2).2 q)).2.2.2.2.2.2⟩, hC.2.2.2.2.2.1, hC.2.2.2.2.2.2⟩
theorem CW.recv {cI cO cZ : ClassId} {o : Nat} {A : AS} {ws : va_W} (h : CW cI cO cZ o A ws) : ∃ fs, ws[0]? = some (o, .inr (0, fs)) := by
  obtain ⟨⟨lc, sd, r, sg, ln, N, v⟩, hist, rcd, slot, uf, T, m⟩ := A
  obtain ⟨-, h, sl, us, pd, co, hf, sf, q, a, b, ov, q2, a2, b2, sg2, ln2, r2, pl2, ov2, lc2, sd2, q3, a3, b3, sg3, ln3, r3, pl3, ov3, lc3, sd3, st, rfl, -⟩ := h
  exact ⟨_, rfl⟩
/-- contracts over an object that stands for A -/
def CTA (l : Launch) (G : va_G) (tys : List (ClassId × FieldType)) (cI cO cZ : ClassId) (y : MethodName) (b : ByteArray) (nL : Nat) (rt : FieldType) (fr lo : Nat) (o : Nat) (av : List Value) (A : AS) (post : Int → AS → Prop) : Prop :=
  ∀ ws : va_W, CW cI cO cZ o A ws → CTI l G tys y b nL rt fr lo av ws (fun z u => ∃ A' : AS, CW cI cO cZ o A' u ∧ post z A')
def CTB (l : Launch) (G : va_G) (tys : List (ClassId × FieldType)) (cI cO cZ : ClassId) (y : MethodName) (b : ByteArray) (nL : Nat) (fr lo : Nat) (o : Nat) (av : List Value) (A : AS) (post : Int64 → AS → Prop) : Prop :=
  ∀ ws : va_W, CW cI cO cZ o A ws → CTL l G tys y b nL fr lo av ws (fun z u => ∃ A' : AS, CW cI cO cZ o A' u ∧ post z A')
def RetA (X : Ev) (cI cO cZ : ClassId) (o : Nat) (b : ByteArray) (post : Int → AS → Prop) : Prop := ∀ (H : Heap) (locs : List Loc) (pc : Nat) (ls : Array Slot) (z : Int) (A' : AS), decode b pc = .ok (.ireturn, 1) → LW X cI cO cZ o A' H locs → post z A' → GG X 0 0 H locs pc ls [.int (iI z)]
def RetB (X : Ev) (cI cO cZ : ClassId) (o : Nat) (b : ByteArray) (post : Int64 → AS → Prop) : Prop := ∀ (H : Heap) (locs : List Loc) (pc : Nat) (ls : Array Slot) (z : Int64) (A' : AS), decode b pc = .ok (.lreturn, 1) → LW X cI cO cZ o A' H locs → post z A' → GG X 0 0 H locs pc ls [.long z]
def RetY (X : Ev) (cI cO cZ : ClassId) (o : Nat) (b : ByteArray) (post : Int → AS → Prop) : Prop := ∀ (H : Heap) (locs : List Loc) (pc : Nat) (ls : Array Slot) (z : Int) (A' : AS), decode b pc = .ok (.ireturn, 1) → LW X cI cO cZ o A' H locs → z = 0 ∨ z = 1 → post z A' → GG X 0 0 H locs pc ls [.int (iI z)]
section MK
variable {l : Launch} {G : va_G} {tys : List (ClassId × FieldType)} {cI cO cZ : ClassId} {y : MethodName} {b : ByteArray} {nL fr lo o : Nat} {av : List Value} {A : AS}
theorem mkAI {post : Int → AS → Prop} (hy : plainName y.cls = true) (hn : (lg_sl av).length ≤ nL)
    (body : ∀ X : Ev, Xl X = l → XG X = G → Xtys X = tys → XR X = ({ frames := fr, cells := 0, slots := 0, locals := lo } : Room) → Cx b y.cls nL X → RetA X cI cO cZ o b post → ∀ (H : Heap) (ls : Array Slot), LW X cI cO cZ o A H [] → lv_has ls nL (lv_args 0 av) → GG X 0 0 H [] 0 ls []) : CTA l G tys cI cO cZ y b nL .int fr lo o av A post := by
  intro ws hA
  refine mkI hy hn (fun X h1 h2 h3 h4 C kret H ls w hl => body X h1 h2 h3 h4 C (fun H locs pc ls z A' d w hz => ?_) H ls ⟨ws, hA, w⟩ hl)
  obtain ⟨u, hu, w⟩ := w
  exact kret H locs pc ls z u d w ⟨A', hu, hz⟩
theorem mkAZ {post : Int → AS → Prop} (hy : plainName y.cls = true) (hn : (lg_sl av).length ≤ nL)
    (body : ∀ X : Ev, Xl X = l → XG X = G → Xtys X = tys → XR X = ({ frames := fr, cells := 0, slots := 0, locals := lo } : Room) → Cx b y.cls nL X → RetY X cI cO cZ o b post → ∀ (H : Heap) (ls : Array Slot), LW X cI cO cZ o A H [] → lv_has ls nL (lv_args 0 av) → GG X 0 0 H [] 0 ls []) : CTA l G tys cI cO cZ y b nL .boolean fr lo o av A post := by
  intro ws hA
  refine mkZ hy hn (fun X h1 h2 h3 h4 C kret H ls w hl => body X h1 h2 h3 h4 C (fun H locs pc ls z A' d w h01 hz => ?_) H ls ⟨ws, hA, w⟩ hl)
  obtain ⟨u, hu, w⟩ := w
  exact kret H locs pc ls z u d w h01 ⟨A', hu, hz⟩
theorem mkAL {post : Int64 → AS → Prop} (hy : plainName y.cls = true) (hn : (lg_sl av).length ≤ nL)
    (body : ∀ X : Ev, Xl X = l → XG X = G → Xtys X = tys → XR X = ({ frames := fr, cells := 0, slots := 0, locals := lo } : Room) → Cx b y.cls nL X → RetB X cI cO cZ o b post → ∀ (H : Heap) (ls : Array Slot), LW X cI cO cZ o A H [] → lv_has ls nL (lv_args 0 av) → GG X 0 0 H [] 0 ls []) : CTB l G tys cI cO cZ y b nL fr lo o av A post := by
  intro ws hA
  refine mkL hy hn (fun X h1 h2 h3 h4 C kret H ls w hl => body X h1 h2 h3 h4 C (fun H locs pc ls z A' d w hz => ?_) H ls ⟨ws, hA, w⟩ hl)
  obtain ⟨u, hu, w⟩ := w
  exact kret H locs pc ls z u d w ⟨A', hu, hz⟩
end MK
theorem cut_all (ws : va_W) : Cut ws ws [] (List.range ws.length) ((List.range ([] : va_W).length).map (fun i => i + ws.length)) := by
  have h := cut_app ws []
  rw [List.append_nil] at h
  exact h
section LR
variable {X : Ev} {k n : Nat} {H : Heap} {locs : List Loc} {pc nL : Nat} {ls : Array Slot} {rest st0 : List Value} {cc : ByteArray} {own : String}
variable {cI cO cZ : ClassId} {o : Nat} {A : AS}
variable {y : MethodName} {b : ByteArray} {nLc fr lo : Nat} {rt : FieldType} {As : List Value} {index nargs : Nat} {cn0 : String}
/-- a call of the class: any end -/
theorem l_callV {post : Int → AS → Prop} (C : Cx cc own nL X) (w : LW X cI cO cZ o A H locs) (hM : CTA (Xl X) (XG X) (Xtys X) cI cO cZ y b nLc rt fr lo o (.ref o :: As) A post)
    (hml : Cond.methodLink own index y ∈ TB) (him : Cond.instanceMethod y ∈ TB) (hse : Cond.selects "DeadRuns" y y ∈ TB) (hcd : Cond.code y b nLc (some rt) ∈ TB) (hd : okD y "DeadRuns" nargs) (hn : As.length = nargs)
    (hR : (fr + 1 ≤ (XR X).frames ∧ 8 + (nLc + 11) + lo ≤ (XR X).locals) ∧ k ≤ (XR X).cells ∧ n ≤ (XR X).slots) (hls : ls.size = nL)
    (hst : st0 = As.reverse ++ .ref o :: rest) (hcat : (rest.map fun v => v.category).sum ≤ 8) (d : decode cc pc = .ok (.invokevirtual index, 3))
    (kk : ∀ (z : Int) (A' : AS) (H1 : Heap) (locs1 : List Loc), post z A' → LW X cI cO cZ o A' H1 locs1 → GG X k n H1 locs1 (pc + 3) ls (.int (iI z) :: rest)) : GG X k n H locs pc ls st0 := by
  obtain ⟨ws, hA, w⟩ := w
  obtain ⟨fs, hr⟩ := hA.recv
  refine r_callVI C w (hM ws hA) hml him hse ini_D hcd hd hn hR hls _ _ (cut_all ws) 0 rfl hr hst hcat d (fun z u H1 locs1 hz w => ?_)
  obtain ⟨A', hA', hz⟩ := hz
  exact kk z A' H1 locs1 hz ⟨u, hA', w⟩
/-- a call of the class that only tells -/
theorem l_callQ {post : Int → AS → Prop} {P : Int → Prop} (hq : ∀ z A', post z A' → A' = A ∧ P z) (C : Cx cc own nL X) (w : LW X cI cO cZ o A H locs) (hM : CTA (Xl X) (XG X) (Xtys X) cI cO cZ y b nLc rt fr lo o (.ref o :: As) A post)
    (hml : Cond.methodLink own index y ∈ TB) (him : Cond.instanceMethod y ∈ TB) (hse : Cond.selects "DeadRuns" y y ∈ TB) (hcd : Cond.code y b nLc (some rt) ∈ TB) (hd : okD y "DeadRuns" nargs) (hn : As.length = nargs)
    (hR : (fr + 1 ≤ (XR X).frames ∧ 8 + (nLc + 11) + lo ≤ (XR X).locals) ∧ k ≤ (XR X).cells ∧ n ≤ (XR X).slots) (hls : ls.size = nL)
    (hst : st0 = As.reverse ++ .ref o :: rest) (hcat : (rest.map fun v => v.category).sum ≤ 8) (d : decode cc pc = .ok (.invokevirtual index, 3))
    (kk : ∀ (z : Int) (H1 : Heap) (locs1 : List Loc), P z → LW X cI cO cZ o A H1 locs1 → GG X k n H1 locs1 (pc + 3) ls (.int (iI z) :: rest)) : GG X k n H locs pc ls st0 := by
  refine l_callV C w hM hml him hse hcd hd hn hR hls hst hcat d (fun z A' H1 locs1 hz w2 => ?_)
  obtain ⟨e, hp⟩ := hq z A' hz
  rw [e] at w2
  exact kk z H1 locs1 hp w2
/-- .. and what it tells is v -/
theorem l_callE {post : Int → AS → Prop} {x : Int} (hq : ∀ z A', post z A' → A' = A ∧ z = x) (C : Cx cc own nL X) (w : LW X cI cO cZ o A H locs) (hM : CTA (Xl X) (XG X) (Xtys X) cI cO cZ y b nLc rt fr lo o (.ref o :: As) A post)
    (hml : Cond.methodLink own index y ∈ TB) (him : Cond.instanceMethod y ∈ TB) (hse : Cond.selects "DeadRuns" y y ∈ TB) (hcd : Cond.code y b nLc (some rt) ∈ TB) (hd : okD y "DeadRuns" nargs) (hn : As.length = nargs)
    (hR : (fr + 1 ≤ (XR X).frames ∧ 8 + (nLc + 11) + lo ≤ (XR X).locals) ∧ k ≤ (XR X).cells ∧ n ≤ (XR X).slots) (hls : ls.size = nL)
    (hst : st0 = As.reverse ++ .ref o :: rest) (hcat : (rest.map fun v => v.category).sum ≤ 8) (d : decode cc pc = .ok (.invokevirtual index, 3))
    (kk : ∀ (H1 : Heap) (locs1 : List Loc), LW X cI cO cZ o A H1 locs1 → GG X k n H1 locs1 (pc + 3) ls (.int (iI x) :: rest)) : GG X k n H locs pc ls st0 := by
  refine l_callQ hq C w hM hml him hse hcd hd hn hR hls hst hcat d (fun z H1 locs1 hz w => ?_)
  rw [hz]
  exact kk H1 locs1 w
/-- a call of a function of the law that gets the object -/
theorem l_callS {post : Int → AS → Prop} (C : Cx cc own nL X) (w : LW X cI cO cZ o A H locs) (hM : CTA (Xl X) (XG X) (Xtys X) cI cO cZ y b nLc rt fr lo o As A post)
    (hml : Cond.methodLink own index y ∈ TB) (him : Cond.static y ∈ TB) (hini : Cond.initialized y.cls ∈ TB) (hcd : Cond.code y b nLc (some rt) ∈ TB) (hd : okD y cn0 nargs) (hn : As.length = nargs)
    (hR : (fr + 1 ≤ (XR X).frames ∧ 8 + (nLc + 11) + lo ≤ (XR X).locals) ∧ k ≤ (XR X).cells ∧ n ≤ (XR X).slots) (hls : ls.size = nL)
    (hst : st0 = As.reverse ++ rest) (hcat : (rest.map fun v => v.category).sum ≤ 8) (d : decode cc pc = .ok (.invokestatic index, 3))
    (kk : ∀ (z : Int) (A' : AS) (H1 : Heap) (locs1 : List Loc), post z A' → LW X cI cO cZ o A' H1 locs1 → GG X k n H1 locs1 (pc + 3) ls (.int (iI z) :: rest)) : GG X k n H locs pc ls st0 := by
  obtain ⟨ws, hA, w⟩ := w
  refine r_callSI C w (hM ws hA) hml him hini hcd hd hn hR hls _ _ (cut_all ws) hst hcat d (fun z u H1 locs1 hz w => ?_)
  obtain ⟨A', hA', hz⟩ := hz
  exact kk z A' H1 locs1 hz ⟨u, hA', w⟩
theorem l_callT {post : Int → AS → Prop} {x : Int} (hq : ∀ z A', post z A' → A' = A ∧ z = x) (C : Cx cc own nL X) (w : LW X cI cO cZ o A H locs) (hM : CTA (Xl X) (XG X) (Xtys X) cI cO cZ y b nLc rt fr lo o As A post)
    (hml : Cond.methodLink own index y ∈ TB) (him : Cond.static y ∈ TB) (hini : Cond.initialized y.cls ∈ TB) (hcd : Cond.code y b nLc (some rt) ∈ TB) (hd : okD y cn0 nargs) (hn : As.length = nargs)
    (hR : (fr + 1 ≤ (XR X).frames ∧ 8 + (nLc + 11) + lo ≤ (XR X).locals) ∧ k ≤ (XR X).cells ∧ n ≤ (XR X).slots) (hls : ls.size = nL)
    (hst : st0 = As.reverse ++ rest) (hcat : (rest.map fun v => v.category).sum ≤ 8) (d : decode cc pc = .ok (.invokestatic index, 3))
    (kk : ∀ (H1 : Heap) (locs1 : List Loc), LW X cI cO cZ o A H1 locs1 → GG X k n H1 locs1 (pc + 3) ls (.int (iI x) :: rest)) : GG X k n H locs pc ls st0 := by
  refine l_callS C w hM hml him hini hcd hd hn hR hls hst hcat d (fun z A' H1 locs1 hz w2 => ?_)
  obtain ⟨e, hp⟩ := hq z A' hz
  rw [e] at w2
  rw [hp]
  exact kk H1 locs1 w2
theorem l_callP {P : Int → Prop} (C : Cx cc own nL X) (w : LW X cI cO cZ o A H locs) (hM : CTP (Xl X) (XG X) (Xtys X) y b nLc rt fr lo As P)
    (hml : Cond.methodLink own index y ∈ TB) (him : Cond.static y ∈ TB) (hini : Cond.initialized y.cls ∈ TB) (hcd : Cond.code y b nLc (some rt) ∈ TB) (hd : okD y cn0 nargs) (hn : As.length = nargs)
    (hR : (fr + 1 ≤ (XR X).frames ∧ 8 + (nLc + 11) + lo ≤ (XR X).locals) ∧ k ≤ (XR X).cells ∧ n ≤ (XR X).slots) (hls : ls.size = nL)
    (hst : st0 = As.reverse ++ rest) (hcat : (rest.map fun v => v.category).sum ≤ 8) (d : decode cc pc = .ok (.invokestatic index, 3))
    (kk : ∀ (z : Int) (H1 : Heap) (locs1 : List Loc), P z → LW X cI cO cZ o A H1 locs1 → GG X k n H1 locs1 (pc + 3) ls (.int (iI z) :: rest)) : GG X k n H locs pc ls st0 := by
  obtain ⟨ws, hA, w⟩ := w
  exact r_callP C w hM hml him hini hcd hd hn hR hls hst hcat d (fun z H1 locs1 hz w => kk z H1 locs1 hz ⟨ws, hA, w⟩)
theorem r_callSLw {ws : va_W} {post : Int64 → va_W → Prop} (C : Cx cc own nL X) (w : Wd X ws H locs) (hM : CTL (Xl X) (XG X) (Xtys X) y b nLc fr lo As ws post)
    (hml : Cond.methodLink own index y ∈ TB) (him : Cond.static y ∈ TB) (hini : Cond.initialized y.cls ∈ TB) (hcd : Cond.code y b nLc (some .long) ∈ TB) (hd : okD y cn0 nargs) (hn : As.length = nargs)
    (hR : (fr + 1 ≤ (XR X).frames ∧ 8 + (nLc + 11) + lo ≤ (XR X).locals) ∧ k ≤ (XR X).cells ∧ n ≤ (XR X).slots) (hls : ls.size = nL)
    (hst : st0 = As.reverse ++ rest) (hcat : (rest.map fun v => v.category).sum ≤ 8) (d : decode cc pc = .ok (.invokestatic index, 3))
    (kk : ∀ (z : Int64) (u : va_W) (H1 : Heap) (locs1 : List Loc), post z u → Wd X u H1 locs1 → GG X k n H1 locs1 (pc + 3) ls (.long z :: rest)) : GG X k n H locs pc ls st0 := by
  obtain ⟨p, l, e, R, s, m, args, below, meth, c, Q, A, G, tys⟩ := X
  obtain ⟨hC, hRr, hnc, hnr, hdis⟩ := cut_all ws
  obtain ⟨hK, hP, hD, hS, hA⟩ := w
  have hPc := hP.sub _ (cut_filter (wc := ws) _ ws hC)
  have hDc := hD.sub _ hnc hC
  have hFc := va_free hD hS hA _ hC
  have hTB : GoodIn TB (va_wsS own index y (Cond.code y b nLc (some .long) :: TB)) := TB_in (pre := [.methodLink own index y, .static y, .initialized y.cls]) (fun w hw => by
    simp only [List.mem_cons, List.not_mem_nil, or_false] at hw
    rcases hw with rfl | rfl | rfl
    · exact hml
    · exact him
    · exact hini) hcd
  refine va_calll (va_runS (As := As) (rest := rest) ⟨C.1, C.2.1, C.2.2.1, C.2.2.2.1, C.2.2.2.2⟩ (hM H.size) (va_cwS nargs C.2.2.2.2 hTB rfl rfl rfl hd.2 hR.1) ⟨fun a U g mk q => ?_, fun U hU hW => ⟨rfl, by rw [hU], by rw [hU]; exact hPc, hK.warm hW, hDc.weaken (fun _ _ _ _ => trivial)⟩⟩ rfl hn hls hst (lv_room hcat) d ⟨hR.2.1, hR.2.2⟩) hS (fun q _ h => hFc q h) hFc (fun r u t H1 locs1 ht hvm hw hB hz1 hk1 hS1 => ?_)
  · obtain ⟨q0, q1, qP, qK, qD⟩ := q
    exact ⟨q0, q1, qP, ⟨va_K.moved (u := U) (U := U.calling g mk a) (Vm.Alike.refl U.vm) qK.1, va_Nw.same rfl (u := U) (U := U.calling g mk a) rfl qK.2⟩, qD⟩
  · obtain ⟨hP1, hD1⟩ := hB
    rw [ht] at hP1
    obtain ⟨hP2, hD2⟩ := va_join hP hD _ _ hC hRr hnr hdis hk1 hFc hP1 hD1
    exact kk r u H1 locs1 hw ⟨hK, hP2, hD2, hS1, hA⟩
/-- a call of a function of the law that tells a long -/
theorem l_callL {post : Int64 → AS → Prop} {x : Int64} (hq : ∀ z A', post z A' → A' = A ∧ z = x) (C : Cx cc own nL X) (w : LW X cI cO cZ o A H locs) (hM : CTB (Xl X) (XG X) (Xtys X) cI cO cZ y b nLc fr lo o As A post)
    (hml : Cond.methodLink own index y ∈ TB) (him : Cond.static y ∈ TB) (hini : Cond.initialized y.cls ∈ TB) (hcd : Cond.code y b nLc (some .long) ∈ TB) (hd : okD y cn0 nargs) (hn : As.length = nargs)
    (hR : (fr + 1 ≤ (XR X).frames ∧ 8 + (nLc + 11) + lo ≤ (XR X).locals) ∧ k ≤ (XR X).cells ∧ n ≤ (XR X).slots) (hls : ls.size = nL)
    (hst : st0 = As.reverse ++ rest) (hcat : (rest.map fun v => v.category).sum ≤ 8) (d : decode cc pc = .ok (.invokestatic index, 3))
    (kk : ∀ (H1 : Heap) (locs1 : List Loc), LW X cI cO cZ o A H1 locs1 → GG X k n H1 locs1 (pc + 3) ls (.long x :: rest)) : GG X k n H locs pc ls st0 := by
  obtain ⟨ws, hA, w⟩ := w
  refine r_callSLw C w (hM ws hA) hml him hini hcd hd hn hR hls hst hcat d (fun z u H1 locs1 hz w => ?_)
  obtain ⟨A', hA', hz⟩ := hz
  obtain ⟨e, hp⟩ := hq z A' hz
  rw [e] at hA'
  rw [hp]
  exact kk H1 locs1 ⟨u, hA', w⟩
theorem r_lmulx (C : Cx cc own nL X) {x y : Int64} (d : decode cc pc = .ok (.lmul, 1)) (kk : GG X k n H locs (pc + 1) ls (.long (x * y) :: rest)) : GG X k n H locs pc ls (.long y :: .long x :: rest) := by
  obtain ⟨p, l, e, R, s, m, args, below, meth, c, Q, A, G, tys⟩ := X
  exact lv_lmul C.1 C.2.1 d kk
theorem r_laddx (C : Cx cc own nL X) {x y : Int64} (d : decode cc pc = .ok (.ladd, 1)) (kk : GG X k n H locs (pc + 1) ls (.long (x + y) :: rest)) : GG X k n H locs pc ls (.long y :: .long x :: rest) := by
  obtain ⟨p, l, e, R, s, m, args, below, meth, c, Q, A, G, tys⟩ := X
  exact lv_ladd C.1 C.2.1 d kk
theorem r_i2lx (C : Cx cc own nL X) {x : Int32} (d : decode cc pc = .ok (.i2l, 1)) (kk : GG X k n H locs (pc + 1) ls (.long x.toInt64 :: rest)) : GG X k n H locs pc ls (.int x :: rest) := by
  obtain ⟨p, l, e, R, s, m, args, below, meth, c, Q, A, G, tys⟩ := X
  exact lv_i2l C.1 C.2.1 d rfl kk
theorem r_ldc2x (C : Cx cc own nL X) {index : Nat} {v : Int64} (hc : Cond.constantLong own index v ∈ TB) (d : decode cc pc = .ok (.ldc2_w index, 3)) (kk : GG X k n H locs (pc + 3) ls (.long v :: rest)) : GG X k n H locs pc ls rest := by
  obtain ⟨p, l, e, R, s, m, args, below, meth, c, Q, A, G, tys⟩ := X
  exact lv_ldc2 C.1 C.2.1 C.2.2.2.1 (C.2.2.2.2 _ hc) d kk
theorem r_lcmp_same (C : Cx cc own nL X) {x y : Int64} (h : x = y) (d : decode cc pc = .ok (.lcmp, 1)) (kk : GG X k n H locs (pc + 1) ls (.int (iI 0) :: rest)) : GG X k n H locs pc ls (.long y :: .long x :: rest) := by
  obtain ⟨p, l, e, R, s, m, args, below, meth, c, Q, A, G, tys⟩ := X
  subst h
  refine W.lcmp C.1 C.2.1 d ?_
  rw [show lg_cmp x x = iI 0 by simp [lg_cmp, iI]]
  exact kk
end LR
/-! the script -/
def XA (X : Ev) : Nat → Prop := X.2.2.2.2.2.2.2.2.2.2.2.1
def XScr (X : Ev) (b L : Nat) (xi : Int → Int) : Prop := va_X b L (fun j : Nat => iI (xi (j : Int))) (Xs X) (Xs X).heap ∧ b < (Xs X).heap.size ∧ ¬ XA X b
def CTX (l : Launch) (G : va_G) (tys : List (ClassId × FieldType)) (y : MethodName) (b : ByteArray) (nL : Nat) (fr lo : Nat) (av : List Value) (sb L : Nat) (xi : Int → Int) (P : Int → Prop) : Prop :=
  ∀ sz : Nat, Met l y (.code y b nL (some .int) :: TB) ({ frames := fr, cells := 0, slots := 0, locals := lo }) (va_Pc av (fun U => U.heap.size = sz ∧ KK G tys U ∧ va_X sb L (fun j : Nat => iI (xi (j : Int))) U U.heap ∧ sb < U.heap.size)) (va_Qi (fun r (u : va_W) => ∃ z : Int, r = iI z ∧ u = [] ∧ P z) (fun u t => va_P G classes u t.heap ∧ va_D (va_A [] sz) u) (va_A [] sz)) 0 0 (va_A [] sz)
def RetX (X : Ev) (b : ByteArray) (P : Int → Prop) : Prop := ∀ (H : Heap) (locs : List Loc) (pc : Nat) (ls : Array Slot) (z : Int), decode b pc = .ok (.ireturn, 1) → Wd X [] H locs → P z → GG X 0 0 H locs pc ls [.int (iI z)]
theorem mkX {l : Launch} {G : va_G} {tys : List (ClassId × FieldType)} {y : MethodName} {b : ByteArray} {nL fr lo : Nat} {av : List Value} {sb L : Nat} {xi : Int → Int} {P : Int → Prop} (hy : plainName y.cls = true) (hn : (lg_sl av).length ≤ nL)
    (body : ∀ X : Ev, Xl X = l → XG X = G → Xtys X = tys → XR X = ({ frames := fr, cells := 0, slots := 0, locals := lo } : Room) → Cx b y.cls nL X → RetX X b P → XScr X sb L xi → ∀ (H : Heap) (ls : Array Slot), Wd X [] H [] → lv_has ls nL (lv_args 0 av) → GG X 0 0 H [] 0 ls []) : CTX l G tys y b nL fr lo av sb L xi P := by
  intro sz
  refine Met.ofW (cc := b) (maxL := nL) (ret := some .int) hy rfl ?_
  intro p e s m args below meth c s₁ B hml hv
  obtain ⟨rfl, hsz, hK, hX, hb⟩ := hv
  subst hsz
  rw [lg_entry_eq]
  have hts := atoms_spec B.pre
  have hnb : ¬ va_A [] s.heap.size sb := by
    rintro (⟨k, e, h⟩ | h)
    · simp at h
    · omega
  refine body (p, l, e, _, s, m, av.toArray, below, meth, c, MQ below _ av.toArray s 0 0 (va_A [] s.heap.size), va_A [] s.heap.size, G, tys) rfl rfl rfl rfl ⟨B.exec, B.bytes, hml, findClass_of_methodNamed B.named, fun w hw => hts w (List.mem_cons_of_mem _ hw)⟩ ?_ ⟨hX, hb, hnb⟩ s.heap _ ⟨hK, (fun k q h => by simp at h), ⟨fun i j p q h => by simp at h, fun k q h => by simp at h⟩, va_S.rf, fun q h => Or.inr h⟩ (lv_entry av hn)
  intro H locs pc ls z d w hz
  exact W.iret (v := iI z) B.exec B.bytes B.returns (fun t ht hW => ⟨⟨iI z, [], rfl, ⟨z, rfl, rfl, hz⟩, by rw [ht]; exact w.2.1, w.2.2.1⟩, w.2.2.2.1.F ht⟩) w.2.2.2.1.2.2 d B.notSynchronized
section LX
variable {X : Ev} {k n : Nat} {H : Heap} {locs : List Loc} {pc nL : Nat} {ls : Array Slot} {rest st0 : List Value} {cc : ByteArray} {own : String}
variable {cI cO cZ : ClassId} {o : Nat} {A : AS}
variable {y : MethodName} {b : ByteArray} {nLc fr lo : Nat} {As : List Value} {index nargs : Nat} {cn0 : String} {sb L : Nat} {xi : Int → Int}
theorem r_slen (C : Cx cc own nL X) {ws : va_W} (w : Wd X ws H locs) (hX : XScr X sb L xi) (hL : L ≤ 2048) (d : decode cc pc = .ok (.arraylength, 1)) (kk : GG X k n H locs (pc + 1) ls (.int (iI (L : Int)) :: rest)) : GG X k n H locs pc ls (.ref sb :: rest) := by
  obtain ⟨p, l, e, R, s, m, args, below, meth, c, Q, A, G, tys⟩ := X
  refine va_slen C.1 C.2.1 hX.1 hX.2.1 hX.2.2 w.2.2.2.1 d ?_
  have h1 : Int32.ofNat L = iI (L : Int) := (iI_nI (k := (L : Int)) (by omega)).symm
  rw [h1]
  exact kk
theorem r_sld (C : Cx cc own nL X) {ws : va_W} (w : Wd X ws H locs) (hX : XScr X sb L xi) {i : Int} (hi : 0 ≤ i ∧ i < L ∧ i < 2147483648) (d : decode cc pc = .ok (.iaload, 1)) (kk : GG X k n H locs (pc + 1) ls (.int (iI (xi i)) :: rest)) : GG X k n H locs pc ls (.int (iI i) :: .ref sb :: rest) := by
  obtain ⟨p, l, e, R, s, m, args, below, meth, c, Q, A, G, tys⟩ := X
  refine va_sld C.1 C.2.1 hX.1 hX.2.1 hX.2.2 w.2.2.2.1 (iI_in hi) d ?_
  rw [iI_nat (by omega)]
  show W p l e R s m args below meth c H locs k n Q (F0 m (pc + 1) ls (.int (iI (xi ((i.toNat : Nat) : Int))) :: rest))
  rw [Int.toNat_of_nonneg hi.1]
  exact kk
/-- a call of the function that reads the script -/
theorem l_callX {P : Int → Prop} (C : Cx cc own nL X) (w : LW X cI cO cZ o A H locs) (hX : XScr X sb L xi) (hM : CTX (Xl X) (XG X) (Xtys X) y b nLc fr lo As sb L xi P)
    (hml : Cond.methodLink own index y ∈ TB) (him : Cond.static y ∈ TB) (hini : Cond.initialized y.cls ∈ TB) (hcd : Cond.code y b nLc (some .int) ∈ TB) (hd : okD y cn0 nargs) (hn : As.length = nargs)
    (hR : (fr + 1 ≤ (XR X).frames ∧ 8 + (nLc + 11) + lo ≤ (XR X).locals) ∧ k ≤ (XR X).cells ∧ n ≤ (XR X).slots) (hls : ls.size = nL)
    (hst : st0 = As.reverse ++ rest) (hcat : (rest.map fun v => v.category).sum ≤ 8) (d : decode cc pc = .ok (.invokestatic index, 3))
    (kk : ∀ (z : Int) (H1 : Heap) (locs1 : List Loc), P z → LW X cI cO cZ o A H1 locs1 → GG X k n H1 locs1 (pc + 3) ls (.int (iI z) :: rest)) : GG X k n H locs pc ls st0 := by
  obtain ⟨ws, hA0, w⟩ := w
  obtain ⟨p, l, e, R, s, m, args, below, meth, c, Q, A0, G, tys⟩ := X
  obtain ⟨hC, hRr, hnc, hnr, hdis⟩ := cut_none ws
  obtain ⟨hK, hP, hD, hS, hA⟩ := w
  have hFc := va_free (wc := []) hD hS hA [] rfl
  obtain ⟨hX1, hX2, hX3⟩ := hX
  have hXH : va_X sb L (fun j : Nat => iI (xi (j : Int))) s H := hX1.kept (hS.2.1 sb hX2 hX3)
  have hbH : sb < H.size := Nat.lt_of_lt_of_le hX2 hS.1
  have hTB : GoodIn TB (va_wsS own index y (Cond.code y b nLc (some .int) :: TB)) := TB_in (pre := [.methodLink own index y, .static y, .initialized y.cls]) (fun w hw => by
    simp only [List.mem_cons, List.not_mem_nil, or_false] at hw
    rcases hw with rfl | rfl | rfl
    · exact hml
    · exact him
    · exact hini) hcd
  refine va_calli (va_runS (As := As) (rest := rest) ⟨C.1, C.2.1, C.2.2.1, C.2.2.2.1, C.2.2.2.2⟩ (hM H.size) (va_cwS nargs C.2.2.2.2 hTB rfl rfl rfl hd.2 hR.1) ⟨fun a U g mk q => ?_, fun U hU hW => ⟨rfl, by rw [hU], hK.warm hW, by rw [hU]; exact hXH.moved hW.alike, by rw [hU]; exact hbH⟩⟩ rfl hn hls hst (lv_room hcat) d ⟨hR.2.1, hR.2.2⟩) hS (fun q _ h => hFc q h) hFc (fun r u t H1 locs1 ht hvm hw hB hz1 hk1 hS1 => ?_)
  · obtain ⟨q0, q1, qK, qX, qb⟩ := q
    exact ⟨q0, q1, ⟨va_K.moved (u := U) (U := U.calling g mk a) (Vm.Alike.refl U.vm) qK.1, va_Nw.same rfl (u := U) (U := U.calling g mk a) rfl qK.2⟩, va_X.moved (u := U) (U := U.calling g mk a) (Vm.Alike.refl U.vm) qX, qb⟩
  · obtain ⟨z, rfl, rfl, hz⟩ := hw
    obtain ⟨hP1, hD1⟩ := hB
    rw [ht] at hP1
    obtain ⟨hP2, hD2⟩ := va_join hP hD [] (List.range ws.length) hC hRr hnr hdis hk1 hFc hP1 hD1
    rw [List.append_nil] at hP2 hD2
    exact kk z H1 locs1 hz ⟨ws, hA0, hK, hP2, hD2, hS1, hA⟩
end LX
