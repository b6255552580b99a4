/-! OWN ROWS: contracts of one shape (worlds in, worlds out), their start, their end, their calls; throws -/
abbrev xISE : String := "java/lang/IllegalStateException"
abbrev xIOB : String := "java/lang/IndexOutOfBoundsException"
abbrev xIAE : String := "java/lang/IllegalArgumentException"
abbrev xSup : List String := ["java/lang/RuntimeException", "java/lang/Exception"]
abbrev xIni (X : String) : MethodName := ⟨X, "<init>", "(Ljava/lang/String;)V"⟩
/-- the words of throws that the tables decide but that aren't good ones -/
def xWc : List (String × String) := [(xISE, xISE), (xIOB, xIOB), (xIAE, xIAE)]
def xWd : List MethodName := [xIni "java/lang/RuntimeException", xIni "java/lang/Exception", xIni Bundle.tN]
def xWs : List Cond := xWc.map (fun q => Cond.castable q.1 q.2) ++ xWd.map Cond.declares
def xNs : List (String × String) := [(xIOB, xISE), (xIAE, xISE)]
def xSs : List (Nat × String) := [(75, "the page is torn or lost"), (105, "no such end of the log"), (113, "less than none"), (119, "power is off"), (121, "no such area, page, half, state, word or root"), (123, "not 1 to 64 words"), (125, "the log has no such place")]
def xTv (U : State) : Prop := (∀ q ∈ xWc, va_Nw (.castable q.1 q.2) U) ∧ (∀ y ∈ xWd, va_Nw (.declares y) U) ∧ (∀ q ∈ xNs, va_Nc q.1 q.2 U) ∧ ∀ q ∈ xSs, ∃ a : Nat, vk_R RX0 q.1 q.2 a U
theorem xTv.warm {s U : State} (hW : s.WarmedH U.vm) (h : xTv s) : xTv U :=
  ⟨fun q hq => va_Nw.warmC hW (h.1 q hq), fun y hy => va_Nw.warmD hW (h.2.1 y hy), fun q hq => va_Nc.moved hW.alike (h.2.2.1 q hq), fun q hq => by
    obtain ⟨a, ha⟩ := h.2.2.2 q hq
    exact ⟨a, vk_R.warm hW ha⟩⟩
theorem xTv.same {u U : State} (hv : U.vm = u.vm) (h : xTv u) : xTv U := xTv.warm (s := u) (U := U) (by rw [hv]; exact State.WarmedH.refl u) h
theorem xTv.words {s : State} {args : Array Value} (h : xTv s) : ∀ w ∈ xWs, w.before args s = true := by
  intro w hw
  rcases List.mem_append.mp hw with hw | hw
  · obtain ⟨q, hq, rfl⟩ := List.mem_map.mp hw
    exact va_Nw.use rfl (h.1 q hq)
  · obtain ⟨q, hq, rfl⟩ := List.mem_map.mp hw
    exact va_Nw.use rfl (h.2.1 q hq)
/-- what a throw needs of the state U and the heap H, off the cells A -/
def xT (A : Nat → Prop) (U : State) (H : Heap) : Prop := vx_Zq Bundle.tN "UNASSIGNED_STACK" Bundle.steD A U H ∧ vx_Zq Bundle.tN "SUPPRESSED_SENTINEL" Bundle.listD A U H ∧ xTv U
theorem xT.go {A B : Nat → Prop} {s U : State} {H0 H : Heap} {locs : List Loc} (h : xT A s H0) (hS : va_S A H0 H locs) (hW : s.WarmedH U.vm) (hAB : ∀ q, B q → A q) : xT B U H :=
  ⟨((h.1.kept hS.2.1).narrow hAB).moved hW.alike, ((h.2.1.kept hS.2.1).narrow hAB).moved hW.alike, h.2.2.warm hW⟩
/-- a method's start: its world and nothing else -/
def pcB (D : va_G) (tys : List (ClassId × FieldType)) (ws : va_W) (sz : Nat) (U : State) : Prop := U.heap.size = sz ∧ va_P D vwCl ws U.heap ∧ va_K D vwCl tys U ∧ va_D (fun _ => True) ws
def pcX (D : va_G) (tys : List (ClassId × FieldType)) (ws : va_W) (sz : Nat) (U : State) : Prop := pcB D tys ws sz U ∧ xT (va_A ws sz) U U.heap
/-- .. and its end -/
def pcE (D : va_G) (w : va_W) (A : Nat → Prop) (t : State) : Prop := va_P D vwCl w t.heap ∧ va_D A w
theorem pcB.blind {D : va_G} {tys : List (ClassId × FieldType)} {ws : va_W} {sz : Nat} {As : List Value} : FrameBlind (va_Pc As (pcB D tys ws sz)) := by
  intro a U g mk q
  obtain ⟨q0, q1, qP, qK, qD⟩ := q
  exact ⟨q0, q1, qP, va_K.moved (u := U) (U := U.calling g mk a) (Vm.Alike.refl U.vm) qK, qD⟩
theorem pcX.blind {D : va_G} {tys : List (ClassId × FieldType)} {ws : va_W} {sz : Nat} {As : List Value} : FrameBlind (va_Pc As (pcX D tys ws sz)) := by
  intro a U g mk q
  obtain ⟨q0, ⟨q1, qP, qK, qD⟩, qU, qN, qT⟩ := q
  refine ⟨q0, ⟨q1, qP, va_K.moved (u := U) (U := U.calling g mk a) (Vm.Alike.refl U.vm) qK, qD⟩, ?_⟩
  exact ⟨vx_Zq.moved (u := U) (U := U.calling g mk a) (Vm.Alike.refl U.vm) qU, vx_Zq.moved (u := U) (U := U.calling g mk a) (Vm.Alike.refl U.vm) qN, xTv.same (u := U) (U := U.calling g mk a) rfl qT⟩
/-- the rooms: by levels -/
abbrev rmL (n c k : Nat) : Room := { frames := n, cells := c, slots := k, locals := 30 * n }
abbrev qcI (D : va_G) (A : Nat → Prop) (r : Int32) (w : va_W) : Array Value → State → Outcome → State → Prop := va_Qi (fun (x : Int32) (_ : Unit) => x = r) (fun _ t => pcE D w A t) A
abbrev qcV (D : va_G) (A : Nat → Prop) (w : va_W) : Array Value → State → Outcome → State → Prop := va_Qv (fun (_ : Unit) => True) (fun _ t => pcE D w A t) A
abbrev qcN (D : va_G) (A : Nat → Prop) : Array Value → State → Outcome → State → Prop := fun _ _ _ _ => False
abbrev xcX (D : va_G) (A : Nat → Prop) (E0 : String) (w : va_W) : String → State → State → Prop := fun E s t => E = E0 ∧ pcE D w A t ∧ va_F A s t
abbrev RI (l : Launch) (y : MethodName) (ws : List Cond) (n mc ms : Nat) (D : va_G) (tys : List (ClassId × FieldType)) (w : va_W) (As : List Value) (r : Int32) (w1 : va_W) : Prop :=
  ∀ sz : Nat, Met l y ws (rmL n mc ms) (va_Pc As (pcB D tys w sz)) (qcI D (va_A w sz) r w1) mc ms (va_A w sz)
abbrev RV (l : Launch) (y : MethodName) (ws : List Cond) (n mc ms : Nat) (D : va_G) (tys : List (ClassId × FieldType)) (w : va_W) (As : List Value) (w1 : va_W) : Prop :=
  ∀ sz : Nat, Met l y ws (rmL n mc ms) (va_Pc As (pcB D tys w sz)) (qcV D (va_A w sz) w1) mc ms (va_A w sz)
/-- it throws -/
abbrev RX (l : Launch) (y : MethodName) (ws : List Cond) (n : Nat) (D : va_G) (tys : List (ClassId × FieldType)) (w : va_W) (As : List Value) (E0 : String) : Prop :=
  ∀ sz : Nat, vx_Met l y ws (rmL n 1 6) (va_Pc As (pcX D tys w sz)) (qcN D (va_A w sz)) (xcX D (va_A w sz) E0 w) 1 6 (va_A w sz)
section OwnStart
variable {l : Launch} {y : MethodName} {ws ws' : List Cond} {n mc ms maxL : Nat} {D : va_G} {tys : List (ClassId × FieldType)} {w w1 : va_W} {As : List Value} {r : Int32} {cc : ByteArray} {ret : Option FieldType}
theorem st_I (hy : plainName y.cls = true) (hw : ws = Cond.code y cc maxL ret :: ws') (hn : (lg_sl As).length ≤ maxL)
    (body : ∀ (p : Program) (e : Env) (s : State) (m : MethodId) (below : List Frame) (meth : Method) (c : Code) (A : Nat → Prop), p.tables.exec = Jvm.exec → c.code = cc → meth.sig.returnType = ret → (∀ w ∈ ws, w.before As.toArray s = true) → s.vm.findClass y.cls = some m.cls → c.maxLocals = maxL → meth.locks = false → va_K D vwCl tys s → va_P D vwCl w s.heap → va_D A w → (∀ q : Nat, s.heap.size ≤ q → A q) → va_S A s.heap s.heap [] → ∀ ls : Array Slot, lv_has ls maxL (lv_args 0 As) →
      W p l e (rmL n mc ms) s m As.toArray below meth c s.heap [] 0 0 (MQ below (qcI D A r w1) As.toArray s mc ms A) (F0 m 0 ls [])) : RI l y ws n mc ms D tys w As r w1 := by
  intro sz
  refine Met.ofW (cc := cc) (maxL := maxL) (ret := ret) hy hw ?_
  intro p e s m args below meth c s₁ B hml hv
  obtain ⟨rfl, hsz, hP, hK, hD0⟩ := hv
  subst hsz
  have hl := lv_entry As (n := maxL) hn
  rw [lg_entry_eq]
  exact body p e s m below meth c _ B.exec B.bytes B.returns (atoms_spec (ws := ws) B.pre) (findClass_of_methodNamed B.named) hml B.notSynchronized hK hP (hD0.self (sz := s.heap.size)) (fun q h => Or.inr h) va_S.rf _ hl
theorem st_V (hy : plainName y.cls = true) (hw : ws = Cond.code y cc maxL ret :: ws') (hn : (lg_sl As).length ≤ maxL)
    (body : ∀ (p : Program) (e : Env) (s : State) (m : MethodId) (below : List Frame) (meth : Method) (c : Code) (A : Nat → Prop), p.tables.exec = Jvm.exec → c.code = cc → meth.sig.returnType = ret → (∀ w ∈ ws, w.before As.toArray s = true) → s.vm.findClass y.cls = some m.cls → c.maxLocals = maxL → meth.locks = false → va_K D vwCl tys s → va_P D vwCl w s.heap → va_D A w → (∀ q : Nat, s.heap.size ≤ q → A q) → va_S A s.heap s.heap [] → ∀ ls : Array Slot, lv_has ls maxL (lv_args 0 As) →
      W p l e (rmL n mc ms) s m As.toArray below meth c s.heap [] 0 0 (MQ below (qcV D A w1) As.toArray s mc ms A) (F0 m 0 ls [])) : RV l y ws n mc ms D tys w As w1 := by
  intro sz
  refine Met.ofW (cc := cc) (maxL := maxL) (ret := ret) hy hw ?_
  intro p e s m args below meth c s₁ B hml hv
  obtain ⟨rfl, hsz, hP, hK, hD0⟩ := hv
  subst hsz
  have hl := lv_entry As (n := maxL) hn
  rw [lg_entry_eq]
  exact body p e s m below meth c _ B.exec B.bytes B.returns (atoms_spec (ws := ws) B.pre) (findClass_of_methodNamed B.named) hml B.notSynchronized hK hP (hD0.self (sz := s.heap.size)) (fun q h => Or.inr h) va_S.rf _ hl
theorem st_X {E0 : String} (hy : plainName y.cls = true) (hw : ws = Cond.code y cc maxL ret :: ws') (hn : (lg_sl As).length ≤ maxL)
    (body : ∀ (p : Program) (e : Env) (s : State) (m : MethodId) (below : List Frame) (meth : Method) (c : Code) (A : Nat → Prop), p.tables.exec = Jvm.exec → c.code = cc → meth.sig.returnType = ret → (∀ w ∈ ws, w.before As.toArray s = true) → s.vm.findClass y.cls = some m.cls → c.maxLocals = maxL → meth.locks = false → va_K D vwCl tys s → va_P D vwCl w s.heap → va_D A w → (∀ q : Nat, s.heap.size ≤ q → A q) → va_S A s.heap s.heap [] → ∀ ls : Array Slot, lv_has ls maxL (lv_args 0 As) → xT A s s.heap → (∀ x ∈ c.exceptionTable.toList, False) →
      W p l e (rmL n 1 6) s m As.toArray below meth c s.heap [] 0 0 (vx_MQ below (qcN D A) (xcX D A E0 w) As.toArray s 1 6 A) (F0 m 0 ls [])) : RX l y ws n D tys w As E0 := by
  intro sz
  refine vx_ofW (cc := cc) (maxL := maxL) (ret := ret) hy hw ?_
  intro p e s m args below meth c s₁ B hml hex hv
  obtain ⟨rfl, ⟨hsz, hP, hK, hD0⟩, hT⟩ := hv
  subst hsz
  have hl := lv_entry As (n := maxL) hn
  rw [lg_entry_eq]
  exact body p e s m below meth c _ B.exec B.bytes B.returns (atoms_spec (ws := ws) B.pre) (findClass_of_methodNamed B.named) hml B.notSynchronized hK hP (hD0.self (sz := s.heap.size)) (fun q h => Or.inr h) va_S.rf _ hl hT hex
end OwnStart
section OwnEnd
variable {p : Program} {l : Launch} {e : Env} {R : Room} {s : State} {m : MethodId} {args : Array Value} {below : List Frame} {meth : Method} {c : Code} {H : Heap} {locs : List Loc} {cells slots : Nat} {Q : State → Prop}
variable {cc : ByteArray} {pc : Nat} {ls : Array Slot} {rest st0 : List Value} {D : va_G} {A : Nat → Prop} {w : va_W} {r v : Int32}
theorem e_I (hx : p.tables.exec = Jvm.exec) (hb : c.code = cc) (hr : meth.sig.returnType = some .int) (hlocks : meth.locks = false) (hP : va_P D vwCl w H) (hD : va_D A w) (hS : va_S A s.heap H locs) (hv : v = r) (hdg : decode cc pc = .ok (.ireturn, 1)) :
    W p l e R s m args below meth c H locs cells slots (MQ below (qcI D A r w) args s cells slots A) (F0 m pc ls [.int v]) :=
  W.iret hx hb hr (fun t ht hW => ⟨⟨v, (), rfl, hv, by rw [ht]; exact hP, hD⟩, hS.F ht⟩) hS.2.2 hdg hlocks
theorem e_Z (hx : p.tables.exec = Jvm.exec) (hb : c.code = cc) (hr : meth.sig.returnType = some .boolean) (hlocks : meth.locks = false) (hP : va_P D vwCl w H) (hD : va_D A w) (hS : va_S A s.heap H locs) (hv : v = r) (hn : narrow .boolean (.int v) = .int v) (hdg : decode cc pc = .ok (.ireturn, 1)) :
    W p l e R s m args below meth c H locs cells slots (MQ below (qcI D A r w) args s cells slots A) (F0 m pc ls [.int v]) :=
  W.zret hx hb hr hn (fun t ht hW => ⟨⟨v, (), rfl, hv, by rw [ht]; exact hP, hD⟩, hS.F ht⟩) hS.2.2 hdg hlocks
theorem e_V (hx : p.tables.exec = Jvm.exec) (hb : c.code = cc) (hr : meth.sig.returnType = none) (hlocks : meth.locks = false) (hP : va_P D vwCl w H) (hD : va_D A w) (hS : va_S A s.heap H locs) (hdg : decode cc pc = .ok (.return_, 1)) :
    W p l e R s m args below meth c H locs cells slots (MQ below (qcV D A w) args s cells slots A) (F0 m pc ls []) :=
  W.vret hx hb hr (fun t ht hW => ⟨⟨(), rfl, trivial, by rw [ht]; exact hP, hD⟩, hS.F ht⟩) hS.2.2 hdg hlocks
/-- new X(text), thrown: nothing of the world has changed -/
theorem e_X {E0 text : String} {k9 is ic : Nat} {own : String} {Ts : List Cond} {mm : Nat} (hx : p.tables.exec = Jvm.exec) (hb : c.code = cc) (hl : l.stackTraces = false) (hown : s.vm.findClass own = some m.cls) (ho : own = RX0) (hts : ∀ w ∈ Ts, w.before args s = true) (hcls : Bundle.fit E0 = true)
    (hk : Cond.classLink own k9 E0 ∈ Ts) (hini : Cond.initialized E0 ∈ Ts) (hg : ∀ w ∈ (vx_atS own ic E0 xSup).filter goodWord, w ∈ Ts) (hng : ∀ w ∈ (vx_atS own ic E0 xSup).filter (fun w => !goodWord w), w ∈ xWs) (hgood : (Cond.classLink own k9 E0 :: Cond.initialized E0 :: vx_atS own ic E0 xSup).all vx_ot = true) (hstr : (is, text) ∈ xSs)
    (hT : xT A s s.heap) (hlocks : meth.locks = false) (hex : ∀ x ∈ c.exceptionTable.toList, False) (hP : va_P D vwCl w H) (hD : va_D A w) (hS : va_S A s.heap H locs) (hsize : ls.size = mm) (hml : c.maxLocals = mm)
    (d0 : decode cc pc = .ok (.new k9, 3)) (d3 : decode cc (pc + 3) = .ok (.dup, 1)) (d4 : decode cc (pc + 4) = .ok (.ldc is, 2)) (d6 : decode cc (pc + 6) = .ok (.invokespecial ic, 3)) (d9 : decode cc (pc + 9) = .ok (.athrow, 1))
    (hRf : 5 < R.frames) (hRl : (rest.map fun v => v.category).sum + 82 ≤ R.locals) (hRc : cells + 1 ≤ R.cells) (hRs : slots + 6 ≤ R.slots) (hc : cells + 1 ≤ 1) (hs : slots + 6 ≤ 6) :
    W p l e R s m args below meth c H locs cells slots (vx_MQ below (qcN D A) (xcX D A E0 w) args s 1 6 A) (F0 m pc ls rest) := by
  subst ho
  obtain ⟨sa, hsa⟩ := hT.2.2.2.2.2 (is, text) hstr
  have hat : ∀ w ∈ vx_atS RX0 ic E0 xSup, w.before args s = true := vx_hat (fun w hw => hts w (hg w hw)) hng hT.2.2.words
  refine vx_throwS (text := text) (names := xSup) (sa := sa) (A := A) hx hb hl hown hcls (by decide) (hts _ hk) (hts _ hini) hsa hat (fun w hw => List.all_eq_true.mp hgood w hw) hT.1 hT.2.1 hS (hsize.trans hml.symm) d0 d3 d4 d6 d9 (fun x hx => (hex x hx).elim) hRf hRl hRc hRs hlocks (fun t hv hz hk9 => ?_) hS.2.2 hc hs
  exact ⟨rfl, ⟨hP.kept (fun k q hq => hk9 q.1 ((hP k q hq).lt)), hD⟩, Nat.le_trans hS.1 hz, fun q h1 h2 => (hk9 q (Nat.lt_of_lt_of_le h1 hS.1)).trans (hS.2.1 q h1 h2)⟩
end OwnEnd
section OwnCall
variable {p : Program} {l : Launch} {e : Env} {R : Room} {s : State} {m : MethodId} {args : Array Value} {below : List Frame} {meth : Method} {c : Code} {H H0 : Heap} {locs : List Loc} {cells slots : Nat} {Q : State → Prop}
variable {cc : ByteArray} {pc : Nat} {ls : Array Slot} {rest st0 : List Value} {D : va_G} {A : Nat → Prop} {wd wc wr w1 : va_W} {tys tysC : List (ClassId × FieldType)} {r : Int32} {mc ms n : Nat} {As : List Value} {a : Array Value}
theorem pS_B (hP : va_P D vwCl wd H) (hD : va_D A wd) (hK : va_K D vwCl tys s) (isT : List Nat) (hT : isT.filterMap (fun i => tys[i]?) = tysC) (isC : List Nat) (hn : va_nd isC = true) (hC : isC.map (fun i => wd[i]?) = wc.map some) : PreS s H (va_Pc As (pcB D tysC wc H.size)) As := by
  have hP1 : va_P D vwCl wc H := hP.sub isC (by
    have h : isC.filterMap (fun i => wd[i]?) = (isC.map (fun i => wd[i]?)).filterMap id := by rw [List.filterMap_map]; rfl
    rw [h, hC, List.filterMap_map]
    show wc.filterMap (fun x => some x) = wc
    simp)
  exact ⟨pcB.blind, fun U hU hW => ⟨rfl, by rw [hU], by rw [hU]; exact hP1, va_K.moved hW.alike (hK.sub isT hT), (hD.sub isC hn hC).weaken (fun _ _ _ _ => trivial)⟩⟩
theorem pS_X (hP : va_P D vwCl wd H) (hD : va_D A wd) (hK : va_K D vwCl tys s) (hS : va_S A s.heap H locs) (hA : ∀ q : Nat, s.heap.size ≤ q → A q) (hX : xT A s s.heap) (isT : List Nat) (hT : isT.filterMap (fun i => tys[i]?) = tysC) (isC : List Nat) (hn : va_nd isC = true) (hC : isC.map (fun i => wd[i]?) = wc.map some) : PreS s H (va_Pc As (pcX D tysC wc H.size)) As := by
  obtain ⟨-, h2⟩ := pS_B (As := As) hP hD hK isT hT isC hn hC
  refine ⟨pcX.blind, fun U hU hW => ?_⟩
  obtain ⟨h3, h4⟩ := h2 U hU hW
  exact ⟨h3, h4, by rw [hU]; exact hX.go hS hW (va_free hD hS hA isC hC)⟩
theorem pV_B {b ci q0 : Nat} {q : vw_C} {fs : List Value} {C : String} (hP : va_P D vwCl wd H) (hD : va_D A wd) (hK : va_K D vwCl tys s) (hc : vwCl[ci]? = some q) (he : wd[q0]? = some (b, .inr (ci, fs))) (hq : q.1 = C) (isT : List Nat) (hT : isT.filterMap (fun i => tys[i]?) = tysC) (isC : List Nat) (hn : va_nd isC = true) (hC : isC.map (fun i => wd[i]?) = wc.map some) : PreV s H C b (va_Pc (.ref b :: As) (pcB D tysC wc H.size)) As := by
  obtain ⟨h1, h2⟩ := pS_B (As := .ref b :: As) hP hD hK isT hT isC hn hC
  exact ⟨h1, by rw [← hq]; exact va_recv hK hP hc he, h2⟩
theorem pV_X {b ci q0 : Nat} {q : vw_C} {fs : List Value} {C : String} (hP : va_P D vwCl wd H) (hD : va_D A wd) (hK : va_K D vwCl tys s) (hS : va_S A s.heap H locs) (hA : ∀ q : Nat, s.heap.size ≤ q → A q) (hX : xT A s s.heap) (hc : vwCl[ci]? = some q) (he : wd[q0]? = some (b, .inr (ci, fs))) (hq : q.1 = C) (isT : List Nat) (hT : isT.filterMap (fun i => tys[i]?) = tysC) (isC : List Nat) (hn : va_nd isC = true) (hC : isC.map (fun i => wd[i]?) = wc.map some) : PreV s H C b (va_Pc (.ref b :: As) (pcX D tysC wc H.size)) As := by
  obtain ⟨h1, h2⟩ := pS_X (As := .ref b :: As) hP hD hK hS hA hX isT hT isC hn hC
  exact ⟨h1, by rw [← hq]; exact va_recv hK hP hc he, h2⟩
theorem k_I (hP : va_P D vwCl wd H) (hD : va_D A wd) (hS : va_S A H0 H locs) (hA : ∀ q : Nat, H0.size ≤ q → A q)
    (hr : va_Run p l e R s m args below meth c H locs cells slots mc ms (F0 m pc ls st0) rest (qcI D (va_A wc H.size) r w1 a) (va_A wc H.size))
    (isC isR : List Nat) (hC : isC.map (fun i => wd[i]?) = wc.map some) (hR : isR.map (fun i => wd[i]?) = wr.map some) (hn : va_nd isR = true) (hdis : ∀ i ∈ isR, i ∉ isC)
    (kk : ∀ (H1 : Heap) (locs1 : List Loc), va_P D vwCl (wr ++ w1) H1 → va_D A (wr ++ w1) → va_S A H0 H1 locs1 → W p l e R s m args below meth c H1 locs1 (cells + mc) (slots + ms) Q (F0 m (pc + 3) ls (.int r :: rest))) :
    W p l e R s m args below meth c H locs cells slots Q (F0 m pc ls st0) := by
  have hFc := va_free (wc := wc) hD hS hA isC hC
  refine va_calli hr hS (fun q _ h => hFc q h) hFc (fun x u t H1 locs1 ht hvm hw hB hz1 hk1 hS1 => ?_)
  obtain ⟨hP1, hD1⟩ := hB
  rw [ht] at hP1
  obtain ⟨hP2, hD2⟩ := va_join hP hD isC isR hC hR hn hdis hk1 hFc hP1 hD1
  rw [show x = r from hw]
  exact kk H1 locs1 hP2 hD2 hS1
theorem k_V (hP : va_P D vwCl wd H) (hD : va_D A wd) (hS : va_S A H0 H locs) (hA : ∀ q : Nat, H0.size ≤ q → A q)
    (hr : va_Run p l e R s m args below meth c H locs cells slots mc ms (F0 m pc ls st0) rest (qcV D (va_A wc H.size) w1 a) (va_A wc H.size))
    (isC isR : List Nat) (hC : isC.map (fun i => wd[i]?) = wc.map some) (hR : isR.map (fun i => wd[i]?) = wr.map some) (hn : va_nd isR = true) (hdis : ∀ i ∈ isR, i ∉ isC)
    (kk : ∀ (H1 : Heap) (locs1 : List Loc), va_P D vwCl (wr ++ w1) H1 → va_D A (wr ++ w1) → va_S A H0 H1 locs1 → W p l e R s m args below meth c H1 locs1 (cells + mc) (slots + ms) Q (F0 m (pc + 3) ls rest)) :
    W p l e R s m args below meth c H locs cells slots Q (F0 m pc ls st0) := by
  have hFc := va_free (wc := wc) hD hS hA isC hC
  refine va_callv hr hS (fun q _ h => hFc q h) hFc (fun u t H1 locs1 ht hvm hw hB hz1 hk1 hS1 => ?_)
  obtain ⟨hP1, hD1⟩ := hB
  rw [ht] at hP1
  obtain ⟨hP2, hD2⟩ := va_join hP hD isC isR hC hR hn hdis hk1 hFc hP1 hD1
  exact kk H1 locs1 hP2 hD2 hS1
/-- a call that throws, whatever is behind it: by the exception's cell -/
theorem k_X {E0 : String} (hP : va_P D vwCl wd H) (hD : va_D A wd) (hS : va_S A H0 H locs) (hA : ∀ q : Nat, H0.size ≤ q → A q)
    (hr : vx_Run p l e R s m args below meth c H locs cells slots mc ms (F0 m pc ls st0) rest (qcN D (va_A wc H.size) a) (xcX D (va_A wc H.size) E0 wc) (va_A wc H.size))
    (isC isR : List Nat) (hC : isC.map (fun i => wd[i]?) = wc.map some) (hR : isR.map (fun i => wd[i]?) = wr.map some) (hn : va_nd isR = true) (hdis : ∀ i ∈ isR, i ∉ isC)
    (kx : ∀ (ce : Cell) (q9 : Addr) (H1 : Heap) (locs1 : List Loc), va_P D vwCl (wr ++ wc) H1 → va_D A (wr ++ wc) → va_S A H0 H1 locs1 → H1[q9]? = some ce → ce.vm = .none → s.vm.findClass E0 = some ce.cls → vx_W p l e R s m args below meth c H1 locs1 (cells + mc) (slots + ms) Q (F0 m pc ls rest) q9) :
    W p l e R s m args below meth c H locs cells slots Q (F0 m pc ls st0) := by
  have hFc := va_free (wc := wc) hD hS hA isC hC
  intro T hT X
  rcases hr T hT X with ⟨v, st₀, t, T', L, h0, X', hL, e1, e2, hf, st⟩ | ⟨q, st₀, t, T', L, E, ce, h0, X', hL, e1, e2, ⟨hE, ⟨hP1, hD1⟩, hF⟩, hce, hcv, hcl, st⟩
  · exact hf.elim
  · obtain ⟨k1, k2, k3⟩ := vx_keep h0 e1 hS (fun q _ h => hFc q h) hFc hL hF
    subst hE
    rw [← e1] at hP1
    obtain ⟨hP2, hD2⟩ := va_join hP hD isC isR hC hR hn hdis k2 hFc hP1 hD1
    obtain ⟨t2, a1, b1⟩ := kx ce q T'.heap (locs ++ L) hP2 hD2 k3 (by rw [e1]; exact hce) hcv hcl T' rfl X'
    exact ⟨t2, st.trans a1, b1⟩
/-- .. and it goes on to the caller -/
theorem k_XX {E0 : String} (hlocks : meth.locks = false) (hex : ∀ x ∈ c.exceptionTable.toList, False) (hc : cells + mc ≤ 1) (hs : slots + ms ≤ 6) (hP : va_P D vwCl wd H) (hD : va_D A wd) (hS : va_S A s.heap H locs) (hA : ∀ q : Nat, s.heap.size ≤ q → A q)
    (hr : vx_Run p l e R s m args below meth c H locs cells slots mc ms (F0 m pc ls st0) rest (qcN D (va_A wc H.size) a) (xcX D (va_A wc H.size) E0 wc) (va_A wc H.size))
    (isC isR : List Nat) (hC : isC.map (fun i => wd[i]?) = wc.map some) (hR : isR.map (fun i => wd[i]?) = wr.map some) (hn : va_nd isR = true) (hdis : ∀ i ∈ isR, i ∉ isC) :
    W p l e R s m args below meth c H locs cells slots (vx_MQ below (qcN D A) (xcX D A E0 (wr ++ wc)) args s 1 6 A) (F0 m pc ls st0) := by
  refine k_X hP hD hS hA hr isC isR hC hR hn hdis (fun ce q9 H1 locs1 hP1 hD1 hS1 hce hcv hcl => ?_)
  exact vx_out (fun x hx => (hex x hx).elim) hlocks hce hcv hcl (fun t ht hv => ⟨rfl, ⟨by rw [ht]; exact hP1, hD1⟩, hS1.F ht⟩) hS1.2.2 hc hs
end OwnCall
