section
-- ===== PART A: goes FIRST, ahead of the names: the tables' words, and 'selects' of the private methods out of them =====
/-- a private method of a class that the tables say can be made, by its rows of tables_1 -/
def lw_okq (q : MethodName × Nat) : Prop := (q.1.cls ≠ "java/lang/invoke/MethodHandle" ∧ q.1.cls ≠ "java/lang/invoke/VarHandle") ∧ Cond.instantiable q.1.cls q.2 ∈ tables_1 ∧ Cond.privateMethod q.1 ∈ tables_1 ∧ Cond.instanceMethod q.1 ∈ tables_1
theorem lw_p0 : lw_okq (⟨"WordMedium", "failPower", "()V"⟩, 13) := ⟨⟨by decide +kernel, by decide +kernel⟩, List.mem_of_getElem? (i := 12) (by decide +kernel), List.mem_of_getElem? (i := 76) (by decide +kernel), List.mem_of_getElem? (i := 77) (by decide +kernel)⟩
theorem lw_p1 : lw_okq (⟨"WordMedium", "needPower", "()V"⟩, 13) := ⟨⟨by decide +kernel, by decide +kernel⟩, List.mem_of_getElem? (i := 12) (by decide +kernel), List.mem_of_getElem? (i := 100) (by decide +kernel), List.mem_of_getElem? (i := 101) (by decide +kernel)⟩
theorem lw_p2 : lw_okq (⟨"java/lang/Throwable", "fillInStackTrace", "(I)Ljava/lang/Throwable;"⟩, 6) := ⟨⟨by decide +kernel, by decide +kernel⟩, List.mem_of_getElem? (i := 142) (by decide +kernel), List.mem_of_getElem? (i := 140) (by decide +kernel), List.mem_of_getElem? (i := 141) (by decide +kernel)⟩
theorem lw_p3 : lw_okq (⟨"WordMedium", "needPage", "(II)V"⟩, 13) := ⟨⟨by decide +kernel, by decide +kernel⟩, List.mem_of_getElem? (i := 12) (by decide +kernel), List.mem_of_getElem? (i := 212) (by decide +kernel), List.mem_of_getElem? (i := 213) (by decide +kernel)⟩
theorem lw_p4 : lw_okq (⟨"WordMedium", "writePage", "(I[II)I"⟩, 13) := ⟨⟨by decide +kernel, by decide +kernel⟩, List.mem_of_getElem? (i := 12) (by decide +kernel), List.mem_of_getElem? (i := 219) (by decide +kernel), List.mem_of_getElem? (i := 220) (by decide +kernel)⟩
theorem lw_p5 : lw_okq (⟨"WordMedium", "makeLeastWrite", "()Z"⟩, 13) := ⟨⟨by decide +kernel, by decide +kernel⟩, List.mem_of_getElem? (i := 12) (by decide +kernel), List.mem_of_getElem? (i := 223) (by decide +kernel), List.mem_of_getElem? (i := 224) (by decide +kernel)⟩
theorem lw_p6 : lw_okq (⟨"WordMedium", "pageState", "(I)I"⟩, 13) := ⟨⟨by decide +kernel, by decide +kernel⟩, List.mem_of_getElem? (i := 12) (by decide +kernel), List.mem_of_getElem? (i := 237) (by decide +kernel), List.mem_of_getElem? (i := 238) (by decide +kernel)⟩
theorem lw_p7 : lw_okq (⟨"WordMedium", "needPlace", "(II)V"⟩, 13) := ⟨⟨by decide +kernel, by decide +kernel⟩, List.mem_of_getElem? (i := 12) (by decide +kernel), List.mem_of_getElem? (i := 287) (by decide +kernel), List.mem_of_getElem? (i := 288) (by decide +kernel)⟩
theorem lw_p8 : lw_okq (⟨"WordMediumModel", "refused", "(ZZ)Z"⟩, 14) := ⟨⟨by decide +kernel, by decide +kernel⟩, List.mem_of_getElem? (i := 357) (by decide +kernel), List.mem_of_getElem? (i := 419) (by decide +kernel), List.mem_of_getElem? (i := 420) (by decide +kernel)⟩
theorem lw_p9 : lw_okq (⟨"WordMediumModel", "writePage", "(IIZ)I"⟩, 14) := ⟨⟨by decide +kernel, by decide +kernel⟩, List.mem_of_getElem? (i := 357) (by decide +kernel), List.mem_of_getElem? (i := 445) (by decide +kernel), List.mem_of_getElem? (i := 446) (by decide +kernel)⟩
theorem lw_p10 : lw_okq (⟨"WordMediumModel", "canWrite", "()Z"⟩, 14) := ⟨⟨by decide +kernel, by decide +kernel⟩, List.mem_of_getElem? (i := 357) (by decide +kernel), List.mem_of_getElem? (i := 449) (by decide +kernel), List.mem_of_getElem? (i := 450) (by decide +kernel)⟩
theorem lw_p11 : lw_okq (⟨"WordMediumModel", "fail", "()V"⟩, 14) := ⟨⟨by decide +kernel, by decide +kernel⟩, List.mem_of_getElem? (i := 357) (by decide +kernel), List.mem_of_getElem? (i := 453) (by decide +kernel), List.mem_of_getElem? (i := 454) (by decide +kernel)⟩
theorem lw_p12 : lw_okq (⟨"WordMediumModel", "stateOf", "(I)I"⟩, 14) := ⟨⟨by decide +kernel, by decide +kernel⟩, List.mem_of_getElem? (i := 357) (by decide +kernel), List.mem_of_getElem? (i := 461) (by decide +kernel), List.mem_of_getElem? (i := 462) (by decide +kernel)⟩
theorem lw_p13 : lw_okq (⟨"WordMediumModel", "isTorn", "(I)Z"⟩, 14) := ⟨⟨by decide +kernel, by decide +kernel⟩, List.mem_of_getElem? (i := 357) (by decide +kernel), List.mem_of_getElem? (i := 465) (by decide +kernel), List.mem_of_getElem? (i := 466) (by decide +kernel)⟩
def lw_privs_1 : List (MethodName × Nat) := [(⟨"WordMedium", "failPower", "()V"⟩, 13), (⟨"WordMedium", "needPower", "()V"⟩, 13), (⟨"java/lang/Throwable", "fillInStackTrace", "(I)Ljava/lang/Throwable;"⟩, 6), (⟨"WordMedium", "needPage", "(II)V"⟩, 13), (⟨"WordMedium", "writePage", "(I[II)I"⟩, 13), (⟨"WordMedium", "makeLeastWrite", "()Z"⟩, 13), (⟨"WordMedium", "pageState", "(I)I"⟩, 13), (⟨"WordMedium", "needPlace", "(II)V"⟩, 13), (⟨"WordMediumModel", "refused", "(ZZ)Z"⟩, 14), (⟨"WordMediumModel", "writePage", "(IIZ)I"⟩, 14), (⟨"WordMediumModel", "canWrite", "()Z"⟩, 14), (⟨"WordMediumModel", "fail", "()V"⟩, 14), (⟨"WordMediumModel", "stateOf", "(I)I"⟩, 14), (⟨"WordMediumModel", "isTorn", "(I)Z"⟩, 14)]
theorem lw_r1 : ∀ q ∈ lw_privs_1, lw_okq q := List.forall_mem_cons.mpr ⟨lw_p0, List.forall_mem_cons.mpr ⟨lw_p1, List.forall_mem_cons.mpr ⟨lw_p2, List.forall_mem_cons.mpr ⟨lw_p3, List.forall_mem_cons.mpr ⟨lw_p4, List.forall_mem_cons.mpr ⟨lw_p5, List.forall_mem_cons.mpr ⟨lw_p6, List.forall_mem_cons.mpr ⟨lw_p7, List.forall_mem_cons.mpr ⟨lw_p8, List.forall_mem_cons.mpr ⟨lw_p9, List.forall_mem_cons.mpr ⟨lw_p10, List.forall_mem_cons.mpr ⟨lw_p11, List.forall_mem_cons.mpr ⟨lw_p12, List.forall_mem_cons.mpr ⟨lw_p13, fun _ h => absurd h List.not_mem_nil⟩⟩⟩⟩⟩⟩⟩⟩⟩⟩⟩⟩⟩⟩
def lw_privs : List (MethodName × Nat) := lw_privs_1
def lw_tbl : List Cond := k2_sels lw_privs ++ tables_1
theorem lw_privs_ok : ∀ q ∈ lw_privs, lw_okq q := lw_r1
end
section
/-! ===== BEGIN words of one list among another's, by their places ===== -/
theorem goodIn_r {big : List Cond} (ws : List Cond) (ps : List Nat) (hp : ws = ps.filterMap (fun i => big[i]?)) (h : ws.all goodWord = true) : GoodIn big ws := by
  intro w hw
  have h1 := List.all_eq_true.mp h w hw
  rw [hp] at hw
  obtain ⟨i, -, hi⟩ := List.mem_filterMap.mp hw
  have hm : w ∈ big := by first | exact List.mem_of_getElem? hi | exact List.getElem?_mem hi
  exact ⟨hm, good_of_word h1⟩
theorem goodIn_app {big a b : List Cond} (ha : GoodIn big a) (hb : GoodIn big b) : GoodIn big (a ++ b) := fun w h => (List.mem_append.mp h).elim (ha w) (hb w)
theorem goodIn_ca {big a b : List Cond} {c : Cond} (ha : GoodIn big (c :: a)) (hb : GoodIn big b) : GoodIn big (c :: (a ++ b)) := fun w h => (List.mem_cons.mp h).elim (fun e => ha w (List.mem_cons.mpr (Or.inl e))) (fun h => (List.mem_append.mp h).elim (fun h => ha w (List.mem_cons.mpr (Or.inr h))) (hb w))
theorem goodIn_sub {big ws : List Cond} (hm : ∀ w ∈ ws, w ∈ big) (h : ws.all goodWord = true) : GoodIn big ws := fun w hw => ⟨hm w hw, good_of_word (List.all_eq_true.mp h w hw)⟩
/-! ===== END ===== -/

/-! ===== BEGIN exceptions that leave a method, and their catching by the caller (launches without stack traces) ===== -/
section VXA
/-! The laws vx_back, vx_callV, vx_callS, vx_callSW, vx_throw0, vx_throwS follow proofs of the library, with one case more: JvmDerived/Free/Laws.lean (Back.of_free), Shelf42/LK1.lean (callV, callS), Shelf/KitTraced.lean (throwNew0V, throwNewS). -/
/-- where a method has thrown q: the class by its name, the cell, what was written, the world -/
def vx_T (XC : String → State → State → Prop) (st : State) (q : Addr) (t : State) (mc ms : Nat) (free : Addr → Prop) : Prop :=
  ∃ (E : String) (ce : Cell) (L : List Loc), XC E st t ∧ t.heap[q]? = some ce ∧ ce.vm = .none ∧ st.vm.findClass E = some ce.cls ∧ st.WarmedH t.vm ∧ st.sameButNew ({ t with vm := st.vm } : State) L mc ms ∧ ∀ z ∈ L, free z.base
def vx_Q (Qc : Array Value → State → Outcome → State → Prop) (XC : String → State → State → Prop) (mc ms : Nat) (free : Addr → Prop) : Array Value → State → Outcome → State → Prop := fun a st o t =>
  (Qc a st o t ∧ ∃ L, FrameEnd st o t L mc ms ∧ ∀ q ∈ L, free q.base) ∨ ∃ q, o = .threw q ∧ vx_T XC st q t mc ms free
/-- a callee that returns or throws -/
def vx_Met (l : Launch) (y : MethodName) (ws : List Cond) (rm : Room) (Pc : Array Value → State → Prop) (Qc : Array Value → State → Outcome → State → Prop) (XC : String → State → State → Prop) (mc ms : Nat) (free : Addr → Prop) : Prop :=
  MetFree l y (headSpec ws rm) Pc (fun _ _ _ _ _ => True) (vx_Q Qc XC mc ms free)
def vx_Post (XC : String → State → State → Prop) (mc ms : Nat) (free : Addr → Prop) : Pt → Array Value → Addr → Pt → Prop := fun A a q B =>
  ∃ (g : JFrame) (mk : MethodId) (t : State) (L : List Loc) (E : String) (ce : Cell), B.U.heap = t.heap ∧ B.U.vm = t.vm ∧ XC E (A.U.calling g mk a) t ∧ t.heap[q]? = some ce ∧ ce.vm = .none ∧ A.U.vm.findClass E = some ce.cls ∧ B.locs = A.locs ++ L ∧ (∀ z ∈ L, free z.base) ∧ B.cells = A.cells + mc ∧ B.slots = A.slots + ms
def vx_Back (l : Launch) (R : Room) (p : Program) (e : Env) (below : List Frame) (s : State) (sargs : Array Value) (y : MethodName) (len W9 : Nat)
    (Pre : Pt → Array Value → Prop) (Post : Pt → Array Value → Option Value → Pt → Prop) (PostX : Pt → Array Value → Addr → Pt → Prop) : Prop :=
  ∀ (m : MethodId) (meth : Method) (c : Code) (A : Pt) (g : JFrame) (ig : Instr) (mk : MethodId) (a : Array Value),
    Stand p l e R s m sargs below meth c A.U A.locs A.cells A.slots → g.method = m → g.locals.size = c.maxLocals → decode c.code g.pc = .ok (ig, len) →
    2 * g.monitorRoom + (g.stack.map fun v => v.category).sum ≤ W9 → A.U.methodNamed? y = some mk → Pre A a →
    (∃ (v : Option Value) (B : Pt), Stand p l e R s m sargs below meth c B.U B.locs B.cells B.slots ∧ Post A a v B ∧
      Steps p.tables e below (doInvoke e (A.U.setTop g) [] mk a).1 (B.U.setTop { g with pc := g.pc + len, stack := v.toList ++ g.stack })) ∨
    (∃ (q : Addr) (B : Pt), Stand p l e R s m sargs below meth c B.U B.locs B.cells B.slots ∧ PostX A a q B ∧
      Steps p.tables e below (doInvoke e (A.U.setTop g) [] mk a).1 ((B.U.setTop g).pushFrame (.throwing q)))
section Payer
variable {l : Launch} {R : Room} {p : Program} {e : Env} {below : List Frame} {s : State} {sargs : Array Value} {y : MethodName} {len W9 : Nat}
theorem vx_back {ws : List Cond} {rm : Room} {Pc : Array Value → State → Prop} {Qc : Array Value → State → Outcome → State → Prop} {XC : String → State → State → Prop} {mc ms : Nat} {free : Addr → Prop} {bytes : ByteArray} {maxL : Nat} {ret : Option FieldType}
    (hM : vx_Met l y ws rm Pc Qc XC mc ms free) (hblind : FrameBlind Pc) (hrc : rm.cells = mc) (hrs : rm.slots = ms)
    (hframes : rm.frames + 1 ≤ R.frames) (hlocals : W9 + (maxL + 11) + rm.locals ≤ R.locals)
    (hws : ∀ w ∈ ws, ∀ a' U, s.WarmedH U.vm → w.before a' U = true) (hcode : Cond.code y bytes maxL ret ∈ ws) (hinit : ∀ a' U, s.WarmedH U.vm → (Cond.initialized y.cls).before a' U = true) :
    vx_Back l R p e below s sargs y len W9 (PreOf R mc ms Pc) (PostOf Qc mc ms free) (vx_Post XC mc ms free) := by
  intro m meth c A g ig mk a X hg hsize hdg hW hn hp
  have h1 : (headSpec ws rm).pre.before a A.U = true := atoms_intro fun w hw => hws w hw _ _ X.warmed
  have h2 : (Cond.code y bytes maxL ret).before a A.U = true := hws _ hcode _ _ X.warmed
  have h3 : (Cond.initialized y.cls).before a A.U = true := hinit _ _ X.warmed
  have h4 : A.cells + (headSpec ws rm).room.cells ≤ R.cells := by rw [show (headSpec ws rm).room.cells = mc from hrc]; exact hp.1
  have h5 : A.slots + (headSpec ws rm).room.slots ≤ R.slots := by rw [show (headSpec ws rm).room.slots = ms from hrs]; exact hp.2.1
  have hPc : Pc a (A.U.calling g mk a) := hblind _ _ _ _ hp.2.2
  obtain ⟨U, Ls, c0, s0⟩ := A
  dsimp only [Pt.U, Pt.locs, Pt.cells, Pt.slots] at h1 h2 h3 h4 h5 X hn hPc ⊢
  obtain ⟨methY, cY, hmY, hcY, -, hlY, -, -, -, -⟩ := Cond.code_spec hn h2
  obtain ⟨kY, hkY, -⟩ := className_of_methodNamed hn
  have hinitY : kY.init = .initialized := Cond.initialized_spec (findClass_of_methodNamed hn) hkY h3
  have h : At U g.method c below := by rw [hg]; exact X.here
  have hlocals9 : W9 + (maxL + 11) + (headSpec ws rm).room.locals ≤ R.locals := hlocals
  have happ : (headSpec ws rm).appliesLoose y e.platform (U.calling g mk a) = true :=
    Spec.appliesLoose_calling (g := g) h hdg hn hkY hinitY
      (X.room_calling (g := g) (R' := (headSpec ws rm).room) hsize hmY hcY hframes (by rw [hlY]; omega) h4 h5) h1
  obtain ⟨mid, hmid⟩ := h.above
  have hfr : (U.setTop g).frames = (.java g :: mid) ++ below := by rw [State.frames_setTop' g h.top, hmid]; rfl
  obtain ⟨o, s₂, hsteps, -, hend, hq⟩ := Steps.callFree hM p X.admits X.cas X.clock (acts := []) hfr happ hPc trivial
  have hq' : vx_Q Qc XC mc ms free a (U.calling g mk a) o s₂ := hq
  rw [State.frames_setTop' g h.top] at hend
  obtain ⟨g₀, hg0⟩ := Option.isSome_iff_exists.mp h.top
  obtain ⟨r, hr⟩ := State.topJava?_eq_some.mp hg0
  have hr' : (({ U with heap := s₂.heap, slotsUsed := s₂.slotsUsed } : State).setVm s₂.vm).frames = .java g₀ :: r := hr
  rcases hq' with ⟨hqc, L, hfe, hL⟩ | ⟨q, rfl, E, ce, L, hx, hce, hcv, hcl, hW₂, hsm, hL⟩
  · obtain ⟨⟨v, rfl⟩, hW₂, e2, q2, q3, q4, q5, q6⟩ := id hfe
    have e3 : s₂ = ({ (U.calling g mk a).setFrames s₂.frames with heap := s₂.heap, slotsUsed := s₂.slotsUsed } : State).setVm s₂.vm := by
      have : s₂ = ({ s₂ with vm := (U.calling g mk a).vm } : State).setVm s₂.vm := rfl
      rw [e2] at this
      exact this
    obtain ⟨c₂, i₂, len₂, hc₂, hd₂, hf₂⟩ := hend
    have hW' : U.WarmedH s₂.vm := hW₂
    have hcc : c₂ = c := by
      have h1 : s₂.code? g.method = U.code? g.method := by
        rw [State.code?_eq, State.code?_eq, hW'.alike.method?]
      exact Option.some.inj (hc₂.symm.trans (h1.trans h.code))
    subst hcc
    have hlen : len₂ = len := by rw [hdg] at hd₂; cases hd₂; rfl
    subst hlen
    have hs₂ : s₂ = (({ U with heap := s₂.heap, slotsUsed := s₂.slotsUsed } : State).setVm s₂.vm).setTop { g with pc := g.pc + len₂, stack := v.toList ++ g.stack } := by
      refine e3.trans ?_
      rw [hf₂, State.calling_eq h.top, State.setFrames_setFrames, State.setTop_of_frames _ hr', hr]
      rfl
    have hsame : U.sameButNew ({ U with heap := s₂.heap, slotsUsed := s₂.slotsUsed } : State) L mc ms := by
      refine ⟨?_, q2, q3, q4, q5, q6⟩
      obtain ⟨t, ht, -⟩ := State.frames_cons hr
      show ({ U with heap := s₂.heap, slotsUsed := s₂.slotsUsed } : State) = { U.setFrames U.frames with heap := s₂.heap, slotsUsed := s₂.slotsUsed }
      rw [State.setFrames_self ht]
    subst hg
    refine Or.inl ⟨v, ⟨(({ U with heap := s₂.heap, slotsUsed := s₂.slotsUsed } : State).setVm s₂.vm), Ls ++ L, c0 + mc, s0 + ms⟩,
      ⟨X.admits, X.cas, X.clock, X.frames, X.room, X.hears, X.method, X.code, (X.here.setHeapUsed s₂.heap s₂.slotsUsed).setVm hW'.alike, X.tail, State.WarmedH.trans X.warmed hW', X.limits, X.bytes, X.same.trans (hsame.setVm s.vm)⟩,
      ⟨g, mk, s₂, L, rfl, rfl, hqc, rfl, hL, rfl, rfl⟩, ?_⟩
    show Steps p.tables e below _ ((({ U with heap := s₂.heap, slotsUsed := s₂.slotsUsed } : State).setVm s₂.vm).setTop { g with pc := g.pc + len₂, stack := v.toList ++ g.stack })
    rw [← hs₂]
    exact hsteps
  · obtain ⟨e2, q2, q3, q4, q5, q6⟩ := id hsm
    have e3 : s₂ = ({ (U.calling g mk a).setFrames s₂.frames with heap := s₂.heap, slotsUsed := s₂.slotsUsed } : State).setVm s₂.vm := by
      have : s₂ = ({ s₂ with vm := (U.calling g mk a).vm } : State).setVm s₂.vm := rfl
      rw [e2] at this
      exact this
    have hf₂ : s₂.frames = .throwing q :: .java g :: U.frames.tail := hend
    have hW' : U.WarmedH s₂.vm := hW₂
    have hs₂ : s₂ = ((({ U with heap := s₂.heap, slotsUsed := s₂.slotsUsed } : State).setVm s₂.vm).setTop g).pushFrame (.throwing q) := by
      refine e3.trans ?_
      rw [hf₂, State.calling_eq h.top, State.setFrames_setFrames, State.pushFrame, State.frames_setTop _ hr', State.setTop_of_frames _ hr', State.setFrames_setFrames, hr]
      rfl
    have hsame : U.sameButNew ({ U with heap := s₂.heap, slotsUsed := s₂.slotsUsed } : State) L mc ms := by
      refine ⟨?_, q2, q3, q4, q5, q6⟩
      obtain ⟨t, ht, -⟩ := State.frames_cons hr
      show ({ U with heap := s₂.heap, slotsUsed := s₂.slotsUsed } : State) = { U.setFrames U.frames with heap := s₂.heap, slotsUsed := s₂.slotsUsed }
      rw [State.setFrames_self ht]
    subst hg
    refine Or.inr ⟨q, ⟨(({ U with heap := s₂.heap, slotsUsed := s₂.slotsUsed } : State).setVm s₂.vm), Ls ++ L, c0 + mc, s0 + ms⟩,
      ⟨X.admits, X.cas, X.clock, X.frames, X.room, X.hears, X.method, X.code, (X.here.setHeapUsed s₂.heap s₂.slotsUsed).setVm hW'.alike, X.tail, State.WarmedH.trans X.warmed hW', X.limits, X.bytes, X.same.trans (hsame.setVm s.vm)⟩,
      ⟨g, mk, s₂, L, E, ce, rfl, rfl, hx, hce, hcv, hcl, rfl, hL, rfl, rfl⟩, ?_⟩
    show Steps p.tables e below _ (((({ U with heap := s₂.heap, slotsUsed := s₂.slotsUsed } : State).setVm s₂.vm).setTop g).pushFrame (.throwing q))
    rw [← hs₂]
    exact hsteps
end Payer
section Calls
variable {p : Program} {l : Launch} {e : Env} {R : Room} {s : State} {m : MethodId} {args : Array Value} {below : List Frame} {meth : Method} {c : Code} {T : State} {locs : List Loc} {cells slots : Nat}
theorem vx_callV (X : Stand p l e R s m args below meth c T locs cells slots) (hexec : p.tables.exec = Jvm.exec) {own C : String} {index : Nat} {y : MethodName} {bytes : ByteArray} {maxL : Nat} {ret : Option FieldType}
    (hown : s.vm.findClass own = some m.cls) (hlink : (Cond.methodLink own index y).before args s = true) (hinst : (Cond.instanceMethod y).before args s = true) (hsel : (Cond.selects C y y).before args s = true)
    (hcode : (Cond.code y bytes maxL ret).before args s = true) (hy : y.cls ≠ "java/lang/invoke/MethodHandle" ∧ y.cls ≠ "java/lang/invoke/VarHandle")
    {W9 : Nat} {Pre : Pt → Array Value → Prop} {Post : Pt → Array Value → Option Value → Pt → Prop} {PostX : Pt → Array Value → Addr → Pt → Prop} (hK : vx_Back l R p e below s args y 3 W9 Pre Post PostX)
    {b : Addr} {cellB : Cell} (hcell : T.heap[b]? = some cellB) (hobj : cellB.vm.isStatics = false) (hcls : s.vm.findClass C = some cellB.cls)
    {g : JFrame} (hg : g.method = m) (hsize : g.locals.size = c.maxLocals) {argsL rest : List Value} (hlen : ∀ sig, parseMethodDescriptor y.desc = some sig → argsL.length = sig.parameters.length)
    (hstack : g.stack = argsL.reverse ++ .ref b :: rest) (hW : 2 * g.monitorRoom + (rest.map fun v => v.category).sum ≤ W9) (hdg : decode c.code g.pc = .ok (.invokevirtual index, 3))
    (hpre : ∀ vm₁, s.WarmedH vm₁ → Pre ⟨T.setVm vm₁, locs, cells, slots⟩ (Value.ref b :: argsL).toArray) :
    (∃ (v : Option Value) (vm₁ : Vm) (B : Pt), s.WarmedH vm₁ ∧ Stand p l e R s m args below meth c B.U B.locs B.cells B.slots ∧ Post ⟨T.setVm vm₁, locs, cells, slots⟩ (Value.ref b :: argsL).toArray v B ∧
      ∀ target, Steps p.tables e below (B.U.setTop { g with pc := g.pc + 3, stack := v.toList ++ rest }) target → Steps p.tables e below (T.setTop g) target) ∨
    (∃ (q : Addr) (vm₁ : Vm) (B : Pt), s.WarmedH vm₁ ∧ Stand p l e R s m args below meth c B.U B.locs B.cells B.slots ∧ PostX ⟨T.setVm vm₁, locs, cells, slots⟩ (Value.ref b :: argsL).toArray q B ∧
      Steps p.tables e below (T.setTop g) ((B.U.setTop { g with stack := rest }).pushFrame (.throwing q))) := by
  obtain ⟨mk, methM, hnamed, hmethM, hstM, habM⟩ := Cond.instanceMethod_spec hinst
  obtain ⟨methM', cM, hmethM', -, -, -, -, -, -, hsigM⟩ := Cond.code_spec hnamed hcode
  cases hmethM.symm.trans hmethM'
  obtain ⟨c2, r2, m2, q1, q2, q3, q4, kP, hkP, hkPi⟩ := Cond.selects_spec hsel
  cases hcls.symm.trans q1
  cases (State.methodFound?_of_named hnamed hy).symm.trans q2
  cases hnamed.symm.trans q3
  have hselP : selectMethod e.platform s.vm cellB.cls mk = .method mk := by rw [Launch.admits_selectMethod X.admits]; exact q4
  obtain ⟨vm₁, X₁, hstep₁⟩ := X.invokevirtual hexec hown hlink hnamed hmethM hstM hkP hkPi hy (a := b) (cell := cellB) hcell
    (fun z h => by rw [h] at hobj; cases hobj) hselP hmethM habM hkP hkPi (g := g) hg (argsL := argsL) (rest := rest) (hlen _ hsigM) hstack hdg
  rcases hK m meth c ⟨T.setVm vm₁, locs, cells, slots⟩ { g with stack := rest } (.invokevirtual index) mk (Value.ref b :: argsL).toArray X₁ hg hsize hdg hW (X₁.named hnamed) (hpre vm₁ X₁.warmed) with ⟨v, B, X', hpost, hsteps⟩ | ⟨q, B, X', hpost, hsteps⟩
  · exact Or.inl ⟨v, vm₁, B, X₁.warmed, X', hpost, fun target h => hstep₁ _ fun acts => by rw [doInvoke_state]; exact hsteps.trans h⟩
  · exact Or.inr ⟨q, vm₁, B, X₁.warmed, X', hpost, hstep₁ _ fun acts => by rw [doInvoke_state]; exact hsteps⟩
theorem vx_callS (X : Stand p l e R s m args below meth c T locs cells slots) (hexec : p.tables.exec = Jvm.exec) {own : String} {index : Nat} {y : MethodName} {bytes : ByteArray} {maxL : Nat} {ret : Option FieldType}
    (hown : s.vm.findClass own = some m.cls) (hlink : (Cond.methodLink own index y).before args s = true) (hstat : (Cond.static y).before args s = true) (hinit : (Cond.initialized y.cls).before args s = true)
    (hcode : (Cond.code y bytes maxL ret).before args s = true) (hy : y.cls ≠ "java/lang/invoke/MethodHandle" ∧ y.cls ≠ "java/lang/invoke/VarHandle")
    {W9 : Nat} {Pre : Pt → Array Value → Prop} {Post : Pt → Array Value → Option Value → Pt → Prop} {PostX : Pt → Array Value → Addr → Pt → Prop} (hK : vx_Back l R p e below s args y 3 W9 Pre Post PostX)
    {g : JFrame} (hg : g.method = m) (hsize : g.locals.size = c.maxLocals) {argsL rest : List Value} (hlen : ∀ sig, parseMethodDescriptor y.desc = some sig → argsL.length = sig.parameters.length)
    (hstack : g.stack = argsL.reverse ++ rest) (hW : 2 * g.monitorRoom + (rest.map fun v => v.category).sum ≤ W9) (hdg : decode c.code g.pc = .ok (.invokestatic index, 3))
    (hpre : ∀ vm₁, s.WarmedH vm₁ → Pre ⟨T.setVm vm₁, locs, cells, slots⟩ argsL.toArray) :
    (∃ (v : Option Value) (vm₁ : Vm) (B : Pt), s.WarmedH vm₁ ∧ Stand p l e R s m args below meth c B.U B.locs B.cells B.slots ∧ Post ⟨T.setVm vm₁, locs, cells, slots⟩ argsL.toArray v B ∧
      ∀ target, Steps p.tables e below (B.U.setTop { g with pc := g.pc + 3, stack := v.toList ++ rest }) target → Steps p.tables e below (T.setTop g) target) ∨
    (∃ (q : Addr) (vm₁ : Vm) (B : Pt), s.WarmedH vm₁ ∧ Stand p l e R s m args below meth c B.U B.locs B.cells B.slots ∧ PostX ⟨T.setVm vm₁, locs, cells, slots⟩ argsL.toArray q B ∧
      Steps p.tables e below (T.setTop g) ((B.U.setTop { g with stack := rest }).pushFrame (.throwing q))) := by
  obtain ⟨mk, hnamed⟩ := Cond.code_named hcode
  obtain ⟨methM, cM, hmethM, -, -, -, -, -, -, hsigM⟩ := Cond.code_spec hnamed hcode
  have hstatic : methM.isStatic = true := Cond.static_spec hnamed hmethM hstat
  obtain ⟨kP, hkP, -⟩ := className_of_methodNamed hnamed
  have hinitP : kP.init = .initialized := Cond.initialized_spec (findClass_of_methodNamed hnamed) hkP hinit
  obtain ⟨vm₁, X₁, hstep₁⟩ := X.invokestatic hexec hown hlink hnamed hmethM hstatic hkP hinitP hy (g := g) hg (argsL := argsL) (rest := rest) (hlen _ hsigM) hstack hdg
  rcases hK m meth c ⟨T.setVm vm₁, locs, cells, slots⟩ { g with stack := rest } (.invokestatic index) mk argsL.toArray X₁ hg hsize hdg hW (X₁.named hnamed) (hpre vm₁ X₁.warmed) with ⟨v, B, X', hpost, hsteps⟩ | ⟨q, B, X', hpost, hsteps⟩
  · exact Or.inl ⟨v, vm₁, B, X₁.warmed, X', hpost, fun target h => hstep₁ _ fun acts => by rw [doInvoke_state]; exact hsteps.trans h⟩
  · exact Or.inr ⟨q, vm₁, B, X₁.warmed, X', hpost, hstep₁ _ fun acts => by rw [doInvoke_state]; exact hsteps⟩
end Calls
theorem vx_cls {s : State} {T : State} {vm₁ : Vm} {E : String} {k : ClassId} (hW : s.WarmedH vm₁) (h : (T.setVm vm₁).vm.findClass E = some k) : s.vm.findClass E = some k := by
  have h1 : vm₁.findClass E = some k := h
  rw [hW.alike.findClass] at h1
  exact h1
/-- the method's frame g, with q thrown over it -/
def vx_W (p : Program) (l : Launch) (e : Env) (R : Room) (s : State) (m : MethodId) (args : Array Value) (below : List Frame) (meth : Method) (c : Code) (H : Heap) (locs : List Loc) (cells slots : Nat) (Q : State → Prop) (g : JFrame) (q : Addr) : Prop :=
  ∀ T : State, T.heap = H → Stand p l e R s m args below meth c T locs cells slots → ∃ t, Steps p.tables e below ((T.setTop g).pushFrame (.throwing q)) t ∧ Q t
def vx_Run (p : Program) (l : Launch) (e : Env) (R : Room) (s : State) (m : MethodId) (args : Array Value) (below : List Frame) (meth : Method) (c : Code) (H : Heap) (locs : List Loc) (cells slots mc ms : Nat) (g : JFrame) (rest : List Value) (Qa : State → Outcome → State → Prop) (XC : String → State → State → Prop) (free : Addr → Prop) : Prop :=
  ∀ T : State, T.heap = H → Stand p l e R s m args below meth c T locs cells slots →
    (∃ (v : Option Value) (st₀ t T' : State) (L : List Loc), st₀.heap = H ∧ Stand p l e R s m args below meth c T' (locs ++ L) (cells + mc) (slots + ms) ∧ (∀ q ∈ L, free q.base) ∧ T'.heap = t.heap ∧ T'.vm = t.vm ∧ Qa st₀ (.returned v) t ∧
      Goes p e below T g T' { g with pc := g.pc + 3, stack := v.toList ++ rest }) ∨
    (∃ (q : Addr) (st₀ t T' : State) (L : List Loc) (E : String) (ce : Cell), st₀.heap = H ∧ Stand p l e R s m args below meth c T' (locs ++ L) (cells + mc) (slots + ms) ∧ (∀ z ∈ L, free z.base) ∧ T'.heap = t.heap ∧ T'.vm = t.vm ∧ XC E st₀ t ∧ t.heap[q]? = some ce ∧ ce.vm = .none ∧ s.vm.findClass E = some ce.cls ∧
      Steps p.tables e below (T.setTop g) ((T'.setTop { g with stack := rest }).pushFrame (.throwing q)))
def vx_X {S : Type} (px : S → Prop) (B : String → S → State → Prop) (A : Nat → Prop) : String → State → State → Prop := fun E st t => ∃ u : S, px u ∧ B E u t ∧ va_F A st t
section Runs
variable {p : Program} {l : Launch} {e : Env} {R : Room} {s : State} {m : MethodId} {args : Array Value} {below : List Frame} {meth : Method} {c : Code} {H : Heap} {locs : List Loc} {cells slots : Nat}
variable {y : MethodName} {bytes cc : ByteArray} {maxL nL mc ms n index : Nat} {ret : Option FieldType} {ws : List Cond} {rm : Room} {Pc : Array Value → State → Prop} {Qc : Array Value → State → Outcome → State → Prop} {XC : String → State → State → Prop} {free : Addr → Prop} {Ts : List Cond} {own C : String} {b : Addr} {As rest : List Value} {g : JFrame}
theorem vx_callBack (cb : CallB R s args own index y bytes maxL ret ws rm mc ms n) (hM : vx_Met l y ws rm Pc Qc XC mc ms free) (hbl : FrameBlind Pc) : vx_Back l R p e below s args y 3 8 (PreOf R mc ms Pc) (PostOf Qc mc ms free) (vx_Post XC mc ms free) := by
  obtain ⟨hrc, hrs, hfr, hlo, hws, hcw, -, hini, -⟩ := cb
  exact vx_back (bytes := bytes) (maxL := maxL) (ret := ret) hM hbl hrc hrs hfr hlo hws hcw (fun a' U hW => word_at hW (Or.inl (by first | rfl | simp [Cond.onTables, Cond.keeps, Cond.steady])) hini)
theorem vx_runV (S : CallFix p m c cc nL s args Ts own) (hM : vx_Met l y ws rm Pc Qc XC mc ms free) (cw : CallW R s args own C index y bytes maxL ret ws rm mc ms n) (hp : PreV s H C b Pc As)
    (hg : g.method = m) (hn : As.length = n) (hsize : g.locals.size = nL) (hstack : g.stack = As.reverse ++ .ref b :: rest) (hW : 2 * g.monitorRoom + (rest.map fun v => v.category).sum ≤ 8) (hdg : decode cc g.pc = .ok (.invokevirtual index, 3)) (hf : cells + mc ≤ R.cells ∧ slots + ms ≤ R.slots) :
    vx_Run p l e R s m args below meth c H locs cells slots mc ms g rest (Qc (Value.ref b :: As).toArray) XC free := by
  have hK : vx_Back l R p e below s args y 3 8 (PreOf R mc ms Pc) (PostOf Qc mc ms free) (vx_Post XC mc ms free) := vx_callBack cw.1 hM hp.1
  obtain ⟨⟨-, -, -, -, -, -, hcode, -, hy, hlen, hl⟩, hin, hse⟩ := cw
  obtain ⟨hx, hb, hml, ho, -⟩ := S
  obtain ⟨-, ⟨cellB, hcB, hoB, hclB⟩, hPc⟩ := hp
  intro T hT X
  rcases vx_callV X hx (C := C) (bytes := bytes) (maxL := maxL) (ret := ret) ho hl hin hse hcode hy hK (by rw [hT]; exact hcB) hoB hclB hg (hsize.trans hml.symm) (argsL := As) (rest := rest) (fun sig h => hn.trans (hlen sig h)) hstack hW (by rw [hb]; exact hdg)
    (fun vm₁ hW₁ => ⟨hf.1, hf.2, hPc (T.setVm vm₁) hT hW₁⟩) with ⟨v, vm₁, ⟨U', l2, c2, s2⟩, hW₁, X', ⟨g', mk, t, L, e1, e2, hq, h1, hL, h2, h3⟩, st⟩ | ⟨q, vm₁, ⟨U', l2, c2, s2⟩, hW₁, X', ⟨g', mk, t, L, E, ce, e1, e2, hq, hce, hcv, hcl, h1, hL, h2, h3⟩, st⟩
  · dsimp only [Pt.U, Pt.locs, Pt.cells, Pt.slots] at X' e1 e2 h1 h2 h3 st
    subst h1; subst h2; subst h3
    exact Or.inl ⟨v, (T.setVm vm₁).calling g' mk (Value.ref b :: As).toArray, t, U', L, hT, X', hL, e1, e2, hq, st⟩
  · dsimp only [Pt.U, Pt.locs, Pt.cells, Pt.slots] at X' e1 e2 h1 h2 h3 st hcl
    subst h1; subst h2; subst h3
    exact Or.inr ⟨q, (T.setVm vm₁).calling g' mk (Value.ref b :: As).toArray, t, U', L, E, ce, hT, X', hL, e1, e2, hq, hce, hcv, vx_cls hW₁ hcl, st⟩
theorem vx_runS (S : CallFix p m c cc nL s args Ts own) (hM : vx_Met l y ws rm Pc Qc XC mc ms free) (cw : CallB R s args own index y bytes maxL ret ws rm mc ms n ∧ (Cond.static y).before args s = true) (hp : PreS s H Pc As)
    (hg : g.method = m) (hn : As.length = n) (hsize : g.locals.size = nL) (hstack : g.stack = As.reverse ++ rest) (hW : 2 * g.monitorRoom + (rest.map fun v => v.category).sum ≤ 8) (hdg : decode cc g.pc = .ok (.invokestatic index, 3)) (hf : cells + mc ≤ R.cells ∧ slots + ms ≤ R.slots) :
    vx_Run p l e R s m args below meth c H locs cells slots mc ms g rest (Qc As.toArray) XC free := by
  have hK : vx_Back l R p e below s args y 3 8 (PreOf R mc ms Pc) (PostOf Qc mc ms free) (vx_Post XC mc ms free) := vx_callBack cw.1 hM hp.1
  obtain ⟨⟨-, -, -, -, -, -, hcode, hini, hy, hlen, hl⟩, hstt⟩ := cw
  obtain ⟨hx, hb, hml, ho, -⟩ := S
  intro T hT X
  rcases vx_callS X hx (bytes := bytes) (maxL := maxL) (ret := ret) ho hl hstt hini hcode hy hK hg (hsize.trans hml.symm) (argsL := As) (rest := rest) (fun sig h => hn.trans (hlen sig h)) hstack hW (by rw [hb]; exact hdg)
    (fun vm₁ hW₁ => ⟨hf.1, hf.2, hp.2 (T.setVm vm₁) hT hW₁⟩) with ⟨v, vm₁, ⟨U', l2, c2, s2⟩, hW₁, X', ⟨g', mk, t, L, e1, e2, hq, h1, hL, h2, h3⟩, st⟩ | ⟨q, vm₁, ⟨U', l2, c2, s2⟩, hW₁, X', ⟨g', mk, t, L, E, ce, e1, e2, hq, hce, hcv, hcl, h1, hL, h2, h3⟩, st⟩
  · dsimp only [Pt.U, Pt.locs, Pt.cells, Pt.slots] at X' e1 e2 h1 h2 h3 st
    subst h1; subst h2; subst h3
    exact Or.inl ⟨v, (T.setVm vm₁).calling g' mk As.toArray, t, U', L, hT, X', hL, e1, e2, hq, st⟩
  · dsimp only [Pt.U, Pt.locs, Pt.cells, Pt.slots] at X' e1 e2 h1 h2 h3 st hcl
    subst h1; subst h2; subst h3
    exact Or.inr ⟨q, (T.setVm vm₁).calling g' mk As.toArray, t, U', L, E, ce, hT, X', hL, e1, e2, hq, hce, hcv, vx_cls hW₁ hcl, st⟩
end Runs
section Rows
variable {p : Program} {l : Launch} {e : Env} {R : Room} {s : State} {m : MethodId} {args : Array Value} {below : List Frame} {meth : Method} {c : Code} {H : Heap} {locs : List Loc} {cells slots : Nat} {Q : State → Prop}
variable {mc ms : Nat} {free : Addr → Prop} {A0 A1 : Nat → Prop} {H0 : Heap} {a : Array Value} {pc : Nat} {ls : Array Slot} {st0 rest : List Value}
theorem vx_keep {st₀ t T' : State} {L : List Loc} (h0 : st₀.heap = H) (e1 : T'.heap = t.heap) (hS : va_S A0 H0 H locs) (hA : ∀ q, q < H.size → A1 q → A0 q) (hf : ∀ q, free q → A0 q) (hL : ∀ q ∈ L, free q.base) (hF : va_F A1 st₀ t) :
    H.size ≤ T'.heap.size ∧ (∀ q : Nat, q < H.size → ¬ A1 q → T'.heap[q]? = H[q]?) ∧ va_S A0 H0 T'.heap (locs ++ L) := by
  obtain ⟨hz, hk⟩ := hF
  rw [h0] at hz hk
  exact ⟨by rw [e1]; exact hz, fun q h1 h2 => by rw [e1]; exact hk q h1 h2,
    ⟨Nat.le_trans hS.1 (by rw [e1]; exact hz), fun q h1 h2 => by rw [e1, hk q (Nat.lt_of_lt_of_le h1 hS.1) (fun z => h2 (hA q (Nat.lt_of_lt_of_le h1 hS.1) z))]; exact hS.2.1 q h1 h2, fun q hq => by
      rcases List.mem_append.mp hq with h | h
      · exact hS.2.2 q h
      · exact hf _ (hL q h)⟩⟩
theorem vx_calli {S SX : Type} {post : Int32 → S → Prop} {px : SX → Prop} {B : S → State → Prop} {BX : String → SX → State → Prop} {AX : Nat → Prop} (hr : vx_Run p l e R s m args below meth c H locs cells slots mc ms (F0 m pc ls st0) rest (va_Qi post B A1 a) (vx_X px BX AX) free) (hS : va_S A0 H0 H locs) (hA : ∀ q, q < H.size → A1 q → A0 q) (hf : ∀ q, free q → A0 q) (hAX : ∀ q, q < H.size → AX q → A0 q)
    (kx : ∀ (E : String) (ce : Cell) (q9 : Addr) (u : SX) (t : State) (H1 : Heap) (locs1 : List Loc), t.heap = H1 → s.vm.Alike t.vm → px u → BX E u t → H.size ≤ H1.size → (∀ q : Nat, q < H.size → ¬ AX q → H1[q]? = H[q]?) → va_S A0 H0 H1 locs1 → H1[q9]? = some ce → ce.vm = .none → s.vm.findClass E = some ce.cls → vx_W p l e R s m args below meth c H1 locs1 (cells + mc) (slots + ms) Q (F0 m pc ls rest) q9)
    (kk : ∀ (r : Int32) (u : S) (t : State) (H1 : Heap) (locs1 : List Loc), t.heap = H1 → s.vm.Alike t.vm → post r u → B u t → H.size ≤ H1.size → (∀ q : Nat, q < H.size → ¬ A1 q → H1[q]? = H[q]?) → va_S A0 H0 H1 locs1 → W p l e R s m args below meth c H1 locs1 (cells + mc) (slots + ms) Q (F0 m (pc + 3) ls (.int r :: rest))) : W p l e R s m args below meth c H locs cells slots Q (F0 m pc ls st0) := by
  intro T hT X
  rcases hr T hT X with ⟨v, st₀, t, T', L, h0, X', hL, e1, e2, ⟨⟨r, u, hv, hp, hb⟩, hF⟩, st⟩ | ⟨q, st₀, t, T', L, E, ce, h0, X', hL, e1, e2, ⟨u, hp, hb, hF⟩, hce, hcv, hcl, st⟩
  · cases hv
    obtain ⟨k1, k2, k3⟩ := vx_keep h0 e1 hS hA hf hL hF
    obtain ⟨t2, a1, b1⟩ := kk r u t T'.heap (locs ++ L) e1.symm (by rw [← e2]; exact X'.warmed.alike) hp hb k1 k2 k3 T' rfl X'
    exact ⟨t2, st t2 a1, b1⟩
  · obtain ⟨k1, k2, k3⟩ := vx_keep h0 e1 hS hAX hf hL hF
    obtain ⟨t2, a1, b1⟩ := kx E ce q u t T'.heap (locs ++ L) e1.symm (by rw [← e2]; exact X'.warmed.alike) hp hb k1 k2 k3 (by rw [e1]; exact hce) hcv hcl T' rfl X'
    exact ⟨t2, st.trans a1, b1⟩
theorem vx_calll {S SX : Type} {post : Int64 → S → Prop} {px : SX → Prop} {B : S → State → Prop} {BX : String → SX → State → Prop} {AX : Nat → Prop} (hr : vx_Run p l e R s m args below meth c H locs cells slots mc ms (F0 m pc ls st0) rest (va_Ql post B A1 a) (vx_X px BX AX) free) (hS : va_S A0 H0 H locs) (hA : ∀ q, q < H.size → A1 q → A0 q) (hf : ∀ q, free q → A0 q) (hAX : ∀ q, q < H.size → AX q → A0 q)
    (kx : ∀ (E : String) (ce : Cell) (q9 : Addr) (u : SX) (t : State) (H1 : Heap) (locs1 : List Loc), t.heap = H1 → s.vm.Alike t.vm → px u → BX E u t → H.size ≤ H1.size → (∀ q : Nat, q < H.size → ¬ AX q → H1[q]? = H[q]?) → va_S A0 H0 H1 locs1 → H1[q9]? = some ce → ce.vm = .none → s.vm.findClass E = some ce.cls → vx_W p l e R s m args below meth c H1 locs1 (cells + mc) (slots + ms) Q (F0 m pc ls rest) q9)
    (kk : ∀ (r : Int64) (u : S) (t : State) (H1 : Heap) (locs1 : List Loc), t.heap = H1 → s.vm.Alike t.vm → post r u → B u t → H.size ≤ H1.size → (∀ q : Nat, q < H.size → ¬ A1 q → H1[q]? = H[q]?) → va_S A0 H0 H1 locs1 → W p l e R s m args below meth c H1 locs1 (cells + mc) (slots + ms) Q (F0 m (pc + 3) ls (.long r :: rest))) : W p l e R s m args below meth c H locs cells slots Q (F0 m pc ls st0) := by
  intro T hT X
  rcases hr T hT X with ⟨v, st₀, t, T', L, h0, X', hL, e1, e2, ⟨⟨r, u, hv, hp, hb⟩, hF⟩, st⟩ | ⟨q, st₀, t, T', L, E, ce, h0, X', hL, e1, e2, ⟨u, hp, hb, hF⟩, hce, hcv, hcl, st⟩
  · cases hv
    obtain ⟨k1, k2, k3⟩ := vx_keep h0 e1 hS hA hf hL hF
    obtain ⟨t2, a1, b1⟩ := kk r u t T'.heap (locs ++ L) e1.symm (by rw [← e2]; exact X'.warmed.alike) hp hb k1 k2 k3 T' rfl X'
    exact ⟨t2, st t2 a1, b1⟩
  · obtain ⟨k1, k2, k3⟩ := vx_keep h0 e1 hS hAX hf hL hF
    obtain ⟨t2, a1, b1⟩ := kx E ce q u t T'.heap (locs ++ L) e1.symm (by rw [← e2]; exact X'.warmed.alike) hp hb k1 k2 k3 (by rw [e1]; exact hce) hcv hcl T' rfl X'
    exact ⟨t2, st.trans a1, b1⟩
theorem vx_callf {S SX : Type} {post : UInt32 → S → Prop} {px : SX → Prop} {B : S → State → Prop} {BX : String → SX → State → Prop} {AX : Nat → Prop} (hr : vx_Run p l e R s m args below meth c H locs cells slots mc ms (F0 m pc ls st0) rest (va_Qf post B A1 a) (vx_X px BX AX) free) (hS : va_S A0 H0 H locs) (hA : ∀ q, q < H.size → A1 q → A0 q) (hf : ∀ q, free q → A0 q) (hAX : ∀ q, q < H.size → AX q → A0 q)
    (kx : ∀ (E : String) (ce : Cell) (q9 : Addr) (u : SX) (t : State) (H1 : Heap) (locs1 : List Loc), t.heap = H1 → s.vm.Alike t.vm → px u → BX E u t → H.size ≤ H1.size → (∀ q : Nat, q < H.size → ¬ AX q → H1[q]? = H[q]?) → va_S A0 H0 H1 locs1 → H1[q9]? = some ce → ce.vm = .none → s.vm.findClass E = some ce.cls → vx_W p l e R s m args below meth c H1 locs1 (cells + mc) (slots + ms) Q (F0 m pc ls rest) q9)
    (kk : ∀ (r : UInt32) (u : S) (t : State) (H1 : Heap) (locs1 : List Loc), t.heap = H1 → s.vm.Alike t.vm → post r u → B u t → H.size ≤ H1.size → (∀ q : Nat, q < H.size → ¬ A1 q → H1[q]? = H[q]?) → va_S A0 H0 H1 locs1 → W p l e R s m args below meth c H1 locs1 (cells + mc) (slots + ms) Q (F0 m (pc + 3) ls (.float r :: rest))) : W p l e R s m args below meth c H locs cells slots Q (F0 m pc ls st0) := by
  intro T hT X
  rcases hr T hT X with ⟨v, st₀, t, T', L, h0, X', hL, e1, e2, ⟨⟨r, u, hv, hp, hb⟩, hF⟩, st⟩ | ⟨q, st₀, t, T', L, E, ce, h0, X', hL, e1, e2, ⟨u, hp, hb, hF⟩, hce, hcv, hcl, st⟩
  · cases hv
    obtain ⟨k1, k2, k3⟩ := vx_keep h0 e1 hS hA hf hL hF
    obtain ⟨t2, a1, b1⟩ := kk r u t T'.heap (locs ++ L) e1.symm (by rw [← e2]; exact X'.warmed.alike) hp hb k1 k2 k3 T' rfl X'
    exact ⟨t2, st t2 a1, b1⟩
  · obtain ⟨k1, k2, k3⟩ := vx_keep h0 e1 hS hAX hf hL hF
    obtain ⟨t2, a1, b1⟩ := kx E ce q u t T'.heap (locs ++ L) e1.symm (by rw [← e2]; exact X'.warmed.alike) hp hb k1 k2 k3 (by rw [e1]; exact hce) hcv hcl T' rfl X'
    exact ⟨t2, st.trans a1, b1⟩
theorem vx_calld {S SX : Type} {post : UInt64 → S → Prop} {px : SX → Prop} {B : S → State → Prop} {BX : String → SX → State → Prop} {AX : Nat → Prop} (hr : vx_Run p l e R s m args below meth c H locs cells slots mc ms (F0 m pc ls st0) rest (va_Qd post B A1 a) (vx_X px BX AX) free) (hS : va_S A0 H0 H locs) (hA : ∀ q, q < H.size → A1 q → A0 q) (hf : ∀ q, free q → A0 q) (hAX : ∀ q, q < H.size → AX q → A0 q)
    (kx : ∀ (E : String) (ce : Cell) (q9 : Addr) (u : SX) (t : State) (H1 : Heap) (locs1 : List Loc), t.heap = H1 → s.vm.Alike t.vm → px u → BX E u t → H.size ≤ H1.size → (∀ q : Nat, q < H.size → ¬ AX q → H1[q]? = H[q]?) → va_S A0 H0 H1 locs1 → H1[q9]? = some ce → ce.vm = .none → s.vm.findClass E = some ce.cls → vx_W p l e R s m args below meth c H1 locs1 (cells + mc) (slots + ms) Q (F0 m pc ls rest) q9)
    (kk : ∀ (r : UInt64) (u : S) (t : State) (H1 : Heap) (locs1 : List Loc), t.heap = H1 → s.vm.Alike t.vm → post r u → B u t → H.size ≤ H1.size → (∀ q : Nat, q < H.size → ¬ A1 q → H1[q]? = H[q]?) → va_S A0 H0 H1 locs1 → W p l e R s m args below meth c H1 locs1 (cells + mc) (slots + ms) Q (F0 m (pc + 3) ls (.double r :: rest))) : W p l e R s m args below meth c H locs cells slots Q (F0 m pc ls st0) := by
  intro T hT X
  rcases hr T hT X with ⟨v, st₀, t, T', L, h0, X', hL, e1, e2, ⟨⟨r, u, hv, hp, hb⟩, hF⟩, st⟩ | ⟨q, st₀, t, T', L, E, ce, h0, X', hL, e1, e2, ⟨u, hp, hb, hF⟩, hce, hcv, hcl, st⟩
  · cases hv
    obtain ⟨k1, k2, k3⟩ := vx_keep h0 e1 hS hA hf hL hF
    obtain ⟨t2, a1, b1⟩ := kk r u t T'.heap (locs ++ L) e1.symm (by rw [← e2]; exact X'.warmed.alike) hp hb k1 k2 k3 T' rfl X'
    exact ⟨t2, st t2 a1, b1⟩
  · obtain ⟨k1, k2, k3⟩ := vx_keep h0 e1 hS hAX hf hL hF
    obtain ⟨t2, a1, b1⟩ := kx E ce q u t T'.heap (locs ++ L) e1.symm (by rw [← e2]; exact X'.warmed.alike) hp hb k1 k2 k3 (by rw [e1]; exact hce) hcv hcl T' rfl X'
    exact ⟨t2, st.trans a1, b1⟩
theorem vx_callv {S SX : Type} {post : S → Prop} {px : SX → Prop} {B : S → State → Prop} {BX : String → SX → State → Prop} {AX : Nat → Prop} (hr : vx_Run p l e R s m args below meth c H locs cells slots mc ms (F0 m pc ls st0) rest (va_Qv post B A1 a) (vx_X px BX AX) free) (hS : va_S A0 H0 H locs) (hA : ∀ q, q < H.size → A1 q → A0 q) (hf : ∀ q, free q → A0 q) (hAX : ∀ q, q < H.size → AX q → A0 q)
    (kx : ∀ (E : String) (ce : Cell) (q9 : Addr) (u : SX) (t : State) (H1 : Heap) (locs1 : List Loc), t.heap = H1 → s.vm.Alike t.vm → px u → BX E u t → H.size ≤ H1.size → (∀ q : Nat, q < H.size → ¬ AX q → H1[q]? = H[q]?) → va_S A0 H0 H1 locs1 → H1[q9]? = some ce → ce.vm = .none → s.vm.findClass E = some ce.cls → vx_W p l e R s m args below meth c H1 locs1 (cells + mc) (slots + ms) Q (F0 m pc ls rest) q9)
    (kk : ∀ (u : S) (t : State) (H1 : Heap) (locs1 : List Loc), t.heap = H1 → s.vm.Alike t.vm → post u → B u t → H.size ≤ H1.size → (∀ q : Nat, q < H.size → ¬ A1 q → H1[q]? = H[q]?) → va_S A0 H0 H1 locs1 → W p l e R s m args below meth c H1 locs1 (cells + mc) (slots + ms) Q (F0 m (pc + 3) ls (rest))) : W p l e R s m args below meth c H locs cells slots Q (F0 m pc ls st0) := by
  intro T hT X
  rcases hr T hT X with ⟨v, st₀, t, T', L, h0, X', hL, e1, e2, ⟨⟨u, hv, hp, hb⟩, hF⟩, st⟩ | ⟨q, st₀, t, T', L, E, ce, h0, X', hL, e1, e2, ⟨u, hp, hb, hF⟩, hce, hcv, hcl, st⟩
  · cases hv
    obtain ⟨k1, k2, k3⟩ := vx_keep h0 e1 hS hA hf hL hF
    obtain ⟨t2, a1, b1⟩ := kk u t T'.heap (locs ++ L) e1.symm (by rw [← e2]; exact X'.warmed.alike) hp hb k1 k2 k3 T' rfl X'
    exact ⟨t2, st t2 a1, b1⟩
  · obtain ⟨k1, k2, k3⟩ := vx_keep h0 e1 hS hAX hf hL hF
    obtain ⟨t2, a1, b1⟩ := kx E ce q u t T'.heap (locs ++ L) e1.symm (by rw [← e2]; exact X'.warmed.alike) hp hb k1 k2 k3 (by rw [e1]; exact hce) hcv hcl T' rfl X'
    exact ⟨t2, st.trans a1, b1⟩
/-- caught by the row x of this method's table; the rows ahead don't take it -/
theorem vx_catch {own name : String} {E : String} {ce : Cell} {q : Addr} (hown : s.vm.findClass own = some m.cls) (pre : List ExceptionTableEntry) (x : ExceptionTableEntry) (suf : List ExceptionTableEntry) (hsplit : c.exceptionTable.toList = pre ++ x :: suf)
    (hpass : ∀ z ∈ pre, covers z pc = false ∨ (z.catchType ≠ 0 ∧ ∃ nm : String, (Cond.classLink own z.catchType nm).before args s = true ∧ va_Nc E nm s)) (hx : covers x pc = true) (h0 : x.catchType ≠ 0)
    (hlink : (Cond.classLink own x.catchType name).before args s = true) (hcast : (Cond.castable E name).before args s = true) (hcell : H[q]? = some ce) (hv : ce.vm = .none) (hcl : s.vm.findClass E = some ce.cls)
    (kk : W p l e R s m args below meth c H locs cells slots Q (F0 m x.handlerPc ls [.ref q])) : vx_W p l e R s m args below meth c H locs cells slots Q (F0 m pc ls rest) q := by
  intro T hT X
  have hpl : e.platform.magicAccessors = ({} : Platform).magicAccessors := by rw [X.admits.platform]
  obtain ⟨c3, c4, hc3, hc4, hasg⟩ := Cond.castable_spec hcast
  cases Option.some.inj (hc3.symm.trans hcl)
  obtain ⟨c5, hc5, hcl5⟩ := Cond.classLink_spec hown hlink e.platform hpl
  cases Option.some.inj (hc4.symm.trans hc5)
  obtain ⟨vm', X', st⟩ := X.thenCaughtThrough q (g := F0 m pc ls rest) rfl (Steps.refl _) (by rw [hT]; exact hcell) (by rw [hv]; rfl) (by obtain ⟨k9, h9, -⟩ := Vm.findClass_spec hcl; exact ⟨k9, h9⟩) pre x suf hsplit
    (fun z hz => by
      rcases hpass z hz with h | ⟨hz0, nm, hl1, hn1⟩
      · exact Or.inl h
      · obtain ⟨c6, hc6, hcl6⟩ := Cond.classLink_spec hown hl1 e.platform hpl
        obtain ⟨a8, b8, h1, h2, h3⟩ := hn1
        cases Option.some.inj (h1.symm.trans hcl)
        cases Option.some.inj (h2.symm.trans hc6)
        exact Or.inr ⟨hz0, _, hcl6, h3⟩) hx (Or.inr ⟨h0, c4, hcl5, hasg⟩)
  obtain ⟨t, a1, b1⟩ := kk (T.setVm vm') hT X'
  exact ⟨t, st.trans a1, b1⟩
end Rows
section Ends
variable {p : Program} {l : Launch} {e : Env} {R : Room} {s : State} {m : MethodId} {args : Array Value} {below : List Frame} {meth : Method} {c : Code} {H : Heap} {locs : List Loc} {cells slots : Nat} {Q : State → Prop}
variable {mc ms : Nat} {free : Addr → Prop} {A0 A1 : Nat → Prop} {H0 : Heap} {a : Array Value} {ls : Array Slot} {st0 rest : List Value}
variable {Qc : Array Value → State → Outcome → State → Prop} {XC : String → State → State → Prop}
/-- what a body that may throw owes at its end -/
def vx_MQ (below : List Frame) (Qc : Array Value → State → Outcome → State → Prop) (XC : String → State → State → Prop) (a : Array Value) (s : State) (mc ms : Nat) (free : Addr → Prop) : State → Prop := fun t =>
  ∃ o, t.status = .running ∧ Ended t below o ∧ vx_Q Qc XC mc ms free a s o t
theorem vx_ret {g : JFrame} {mc ms : Nat} (k : W p l e R s m args below meth c H locs cells slots (MQ below Qc args s mc ms free) g) : W p l e R s m args below meth c H locs cells slots (vx_MQ below Qc XC args s mc ms free) g := by
  intro T hT X
  obtain ⟨t, a1, o, b1, b2, b3, b4⟩ := k T hT X
  exact ⟨t, a1, o, b1, b2, Or.inl ⟨b3, b4⟩⟩
/-- not caught here: it goes on to the caller -/
theorem vx_widen {g : JFrame} {q : Addr} {k n : Nat} (h1 : cells ≤ k) (h2 : slots ≤ n) (kk : vx_W p l e R s m args below meth c H locs k n Q g q) : vx_W p l e R s m args below meth c H locs cells slots Q g q := fun T hT X => kk T hT (stand_widen X h1 h2)
theorem vx_out {pc : Nat} {E : String} {ce : Cell} {q : Addr} {mc ms : Nat} (hout : ∀ x ∈ c.exceptionTable.toList, covers x pc = false) (hlocks : meth.locks = false) (hcell : H[q]? = some ce) (hv : ce.vm = .none) (hcl : s.vm.findClass E = some ce.cls)
    (hx : ∀ t : State, t.heap = H → s.vm.Alike t.vm → XC E s t) (hf : ∀ z ∈ locs, free z.base) (hc : cells ≤ mc) (hs : slots ≤ ms) :
    vx_W p l e R s m args below meth c H locs cells slots (vx_MQ below Qc XC args s mc ms free) (F0 m pc ls rest) q := by
  intro T hT X
  obtain ⟨st1, hrun, hend, hW, hsm⟩ := X.leaveThrown q (g := F0 m pc ls rest) rfl rfl rfl hout hlocks
  have hcell9 : (T.setFrames (.throwing q :: below)).heap[q]? = some ce := by
    show T.heap[q]? = some ce
    rw [hT]; exact hcell
  exact ⟨_, st1, .threw q, hrun, hend, Or.inr ⟨q, rfl, E, ce, locs, hx _ hT hW.alike, hcell9, hv, hcl, hW, hsm.mono hc hs, hf⟩⟩
theorem vx_frame {U : State} {k n : Nat} (h : s.sameButNew ({ U with vm := s.vm } : State) locs k n) : s.heap.size ≤ U.heap.size ∧ ∀ q : Nat, q < s.heap.size → (∀ z ∈ locs, z.base ≠ q) → U.heap[q]? = s.heap[q]? := by
  obtain ⟨-, h2, -, -, -, h6⟩ := h
  refine ⟨h2, fun q hq hz => ?_⟩
  obtain ⟨c9, e1, e2, e3, e4⟩ := h6 q _ (Array.getElem?_eq_getElem hq)
  have hs : c9.slots = (s.heap[q]).slots := Array.ext_getElem? fun i => e4 i fun hm => hz _ hm rfl
  have h9 : c9 = s.heap[q] := by
    rw [hs] at e2
    exact e2
  have e5 : U.heap[q]? = some c9 := e1
  rw [e5, h9, Array.getElem?_eq_getElem hq]
/-- the words of a throw but the four that speak of the heap -/
def vx_no (w : Cond) : Bool := decide (w ≠ .isRef (.static Bundle.tN "UNASSIGNED_STACK" Bundle.steD)) && decide (w ≠ .isRef (.static Bundle.tN "SUPPRESSED_SENTINEL" Bundle.listD)) && decide (w ≠ .laysStatic Bundle.tN "UNASSIGNED_STACK" Bundle.steD) && decide (w ≠ .laysStatic Bundle.tN "SUPPRESSED_SENTINEL" Bundle.listD)
def vx_at0 (own : String) (ic : Nat) (X : String) (names : List String) : List Cond := (Bundle.ownAtoms0 own ic X names).filter vx_no
def vx_atS (own : String) (ic : Nat) (X : String) (names : List String) : List Cond := (Bundle.ownAtoms own ic X names).filter vx_no
/-- a word that the tables alone decide, or a good one -/
def vx_ot (w : Cond) : Bool := w.onTables || goodWord w
theorem vx_ot_at {args a' : Array Value} {s U : State} {w : Cond} (hW : s.WarmedH U.vm) (hvm : s.vm = U.vm) (hg : vx_ot w = true) (h : w.before args s = true) : w.before a' U = true := by
  simp only [vx_ot, Bool.or_eq_true] at hg
  rcases hg with hg | hg
  · exact va_tabs hg hvm h
  · exact word_at hW (good_of_word hg) h
/-- a list's words: the good ones out of the method's own list, the others by premises of their own -/
theorem vx_hat {args : Array Value} {s : State} {L B : List Cond} (h1 : ∀ w ∈ L.filter goodWord, w.before args s = true) (h2 : ∀ w ∈ L.filter (fun w => !goodWord w), w ∈ B) (h3 : ∀ w ∈ B, w.before args s = true) : ∀ w ∈ L, w.before args s = true := by
  intro w hw
  by_cases g : goodWord w = true
  · exact h1 w (List.mem_filter.mpr ⟨hw, g⟩)
  · refine h3 w (h2 w (List.mem_filter.mpr ⟨hw, ?_⟩))
    show (!goodWord w) = true
    cases hgw : goodWord w
    · rfl
    · exact absurd hgw g
theorem vx_c {args : Array Value} {s : State} {w : Cond} {B : List Cond} (h : w.before args s = true) (t : ∀ w ∈ B, w.before args s = true) : ∀ w' ∈ w :: B, w'.before args s = true := fun w' h' => (List.mem_cons.mp h').elim (fun e => by rw [e]; exact h) (t w')
theorem vx_n {args : Array Value} {s : State} : ∀ w ∈ ([] : List Cond), w.before args s = true := fun _ h => nomatch h
theorem vx_own {args : Array Value} {s : State} {L : List Cond} (h1 : ∀ w ∈ L.filter vx_no, w.before args s = true)
    (hU : (Cond.isRef (.static Bundle.tN "UNASSIGNED_STACK" Bundle.steD)).before args s = true) (hN : (Cond.isRef (.static Bundle.tN "SUPPRESSED_SENTINEL" Bundle.listD)).before args s = true)
    (lU : (Cond.laysStatic Bundle.tN "UNASSIGNED_STACK" Bundle.steD).before args s = true) (lN : (Cond.laysStatic Bundle.tN "SUPPRESSED_SENTINEL" Bundle.listD).before args s = true) : ∀ w ∈ L, w.before args s = true := by
  intro w hw
  by_cases e1 : w = .isRef (.static Bundle.tN "UNASSIGNED_STACK" Bundle.steD)
  · rw [e1]; exact hU
  · by_cases e2 : w = .isRef (.static Bundle.tN "SUPPRESSED_SENTINEL" Bundle.listD)
    · rw [e2]; exact hN
    · by_cases e3 : w = .laysStatic Bundle.tN "UNASSIGNED_STACK" Bundle.steD
      · rw [e3]; exact lU
      · by_cases e4 : w = .laysStatic Bundle.tN "SUPPRESSED_SENTINEL" Bundle.listD
        · rw [e4]; exact lN
        · exact h1 w (List.mem_filter.mpr ⟨hw, by unfold vx_no; rw [decide_eq_true e1, decide_eq_true e2, decide_eq_true e3, decide_eq_true e4]; rfl⟩)
/-- where a static field lies, its class's statics cell in H -/
def vx_L (C n d : String) (A : Nat → Prop) (U : State) (H : Heap) : Prop := ∃ (c : ClassId) (k : Class) (i : Nat) (f : Field) (a : Nat) (cell : Cell), U.vm.findClass C = some c ∧ U.fieldFound? C n d = some (c, k, i, f) ∧ f.isStatic = true ∧ k.statics = some a ∧ H[a]? = some cell ∧ cell.vm.isStatics = true ∧ cell.cls = c ∧ f.slot < cell.slots.size ∧ k.staticTypes[f.slot]? = some f.type ∧ ¬ A a
theorem vx_L.moved {C n d : String} {A : Nat → Prop} {u U : State} {H : Heap} (hvm : u.vm.Alike U.vm) (h : vx_L C n d A u H) : vx_L C n d A U H := by
  obtain ⟨c, k, i, f, a, cell, h1, h2, h3, h4, h5, h6, h7, h8, h9, h10⟩ := h
  obtain ⟨k', hi', he⟩ := State.fieldFound?_setVm hvm h2
  exact ⟨c, k', i, f, a, cell, by rw [hvm.findClass]; exact h1, hi', h3, by rw [he]; exact h4, h5, h6, h7, h8, by rw [he]; exact h9, h10⟩
theorem vx_L.kept {C n d : String} {A : Nat → Prop} {U : State} {H H1 : Heap} (h : vx_L C n d A U H) (hq : ∀ a : Nat, a < H.size → ¬ A a → H1[a]? = H[a]?) : vx_L C n d A U H1 := by
  obtain ⟨c, k, i, f, a, cell, h1, h2, h3, h4, h5, h6, h7, h8, h9, h10⟩ := h
  exact ⟨c, k, i, f, a, cell, h1, h2, h3, h4, by rw [hq a (Array.getElem?_eq_some_iff.mp h5).1 h10]; exact h5, h6, h7, h8, h9, h10⟩
theorem vx_L.narrow {C n d : String} {A B : Nat → Prop} {U : State} {H : Heap} (h : vx_L C n d A U H) (hAB : ∀ q, B q → A q) : vx_L C n d B U H := by
  obtain ⟨c, k, i, f, a, cell, h1, h2, h3, h4, h5, h6, h7, h8, h9, h10⟩ := h
  exact ⟨c, k, i, f, a, cell, h1, h2, h3, h4, h5, h6, h7, h8, h9, fun z => h10 (hAB _ z)⟩
theorem vx_L.word {C n d : String} {A : Nat → Prop} {s : State} {args : Array Value} (h : vx_L C n d A s s.heap) : (Cond.laysStatic C n d).before args s = true := by
  obtain ⟨c, k, i, f, a, cell, h1, h2, h3, h4, h5, h6, h7, h8, h9, -⟩ := h
  show (Cond.laysStatic C n d).holds args s none s [] = true
  exact Cond.laysStatic_of h1 h2 h3 h4 h5 h6 h7 h8 h9
/-- .. and what it holds: null or some reference -/
def vx_Zq (C n d : String) (A : Nat → Prop) (U : State) (H : Heap) : Prop := va_Zq C n d A U H ∧ vx_L C n d A U H
theorem vx_Zq.moved {C n d : String} {A : Nat → Prop} {u U : State} {H : Heap} (hvm : u.vm.Alike U.vm) (h : vx_Zq C n d A u H) : vx_Zq C n d A U H := ⟨va_Zq.moved hvm h.1, vx_L.moved hvm h.2⟩
theorem vx_Zq.kept {C n d : String} {A : Nat → Prop} {U : State} {H H1 : Heap} (h : vx_Zq C n d A U H) (hq : ∀ a : Nat, a < H.size → ¬ A a → H1[a]? = H[a]?) : vx_Zq C n d A U H1 := ⟨va_Zq.kept h.1 hq, vx_L.kept h.2 hq⟩
theorem vx_Zq.narrow {C n d : String} {A B : Nat → Prop} {U : State} {H : Heap} (h : vx_Zq C n d A U H) (hAB : ∀ q, B q → A q) : vx_Zq C n d B U H := ⟨va_Zq.narrow h.1 hAB, vx_L.narrow h.2 hAB⟩
theorem vx_Zqof {args : Array Value} {s : State} {C n d : String} {A : Nat → Prop} (hl : (Cond.laysStatic C n d).before args s = true) (hini : (Cond.initialized C).before args s = true) (h : (Cond.isRef (.static C n d)).before args s = true) (hA : ∀ a : Nat, a < s.heap.size → ¬ A a) : vx_Zq C n d A s s.heap := by
  refine ⟨va_Zqof hl hini h hA, ?_⟩
  obtain ⟨c, k, i, f, a, cell, h1, h2, h3, h4, h5, h6, h7, h8, h9⟩ := Cond.laysStatic_spec hl
  exact ⟨c, k, i, f, a, cell, h1, h2, h3, h4, h5, h6, h7, h8, h9, hA a (Array.getElem?_eq_some_iff.mp h5).1⟩
theorem vx_isRef {C n d : String} {v : Value} {A : Nat → Prop} {s : State} {args : Array Value} (h : va_Z C n d v A s s.heap) (hv : v.isRef = true) : (Cond.isRef (.static C n d)).before args s = true := by
  obtain ⟨cf, kf, fi, f, a, cell, h1, h2, h3, h4, h5, h6, h7, -⟩ := h
  have he : (Term.static C n d).eval args s none [] s = some v := by
    simp [Term.eval, State.fieldNamed?, h1, h2, h4, h5, h6, h7]
  simp only [Cond.before, Cond.holds, Cond.value, he]
  cases v <;> simp_all [Value.isRef]
theorem vx_isRefq {C n d : String} {A : Nat → Prop} {s : State} {args : Array Value} (h : va_Zq C n d A s s.heap) : (Cond.isRef (.static C n d)).before args s = true := by
  rcases h with h | ⟨t, h⟩
  · exact vx_isRef h rfl
  · exact vx_isRef h rfl
/-- the same frame, seen from here: as if the method were called anew in this heap -/
theorem vx_rebase {T : State} (X : Stand p l e R s m args below meth c T locs cells slots) {R' : Room} (hf : R'.frames ≤ R.frames) (hl : R'.locals ≤ R.locals) (hc : cells + R'.cells ≤ R.cells) (hs : slots + R'.slots ≤ R.slots) :
    Stand p l e R' ((T.setVm s.vm).setFrames (.invoking m args :: below)) m args below meth c T [] 0 0 := by
  have htop : (T.setVm s.vm).topJava?.isSome := X.here.top
  have hF : ((T.setVm s.vm).setFrames (.invoking m args :: below)).frames = .invoking m args :: below := State.frames_setFrames _ (State.cur_lt_of_top htop)
  obtain ⟨g₀, hg0⟩ := Option.isSome_iff_exists.mp htop
  obtain ⟨r, hr⟩ := State.topJava?_eq_some.mp hg0
  have hl9 : e.platform.stackLimits (T.setVm s.vm).me = e.platform.stackLimits s.me := X.limits
  have hb9 : (T.setVm s.vm).me.stackBytes = s.me.stackBytes := X.bytes
  refine ⟨X.admits, X.cas, X.clock, hF, ?_, X.hears, X.method, X.code, X.here, X.tail, X.warmed, ?_, ?_, ?_⟩
  · have h := X.room
    have hU : ((T.setVm s.vm).setFrames (.invoking m args :: below)).localsInUse = s.localsInUse := by
      rw [State.localsInUse_invoking hF (meth := meth) (c := c) X.method X.code, State.localsInUse_invoking X.frames X.method X.code]
    simp only [State.hasRoom, Bool.and_eq_true, decide_eq_true_eq] at h ⊢
    obtain ⟨⟨⟨⟨h1, h2, h3, h4, h5, h6⟩, h7⟩, h8⟩, h9⟩ := h
    rw [X.frames, List.length_cons] at h2 h3
    have q1 := X.heapSize
    have q2 := X.used
    simp only [hF, hU, List.length_cons, State.stackLimits_setFrames, State.stackBytes_setFrames, hl9, hb9]
    refine ⟨⟨⟨⟨by omega, by omega, by omega, by omega, by omega, h6⟩, ?_⟩, ?_⟩, X.book⟩
    · show T.heap.size + R'.cells ≤ e.platform.maxCells
      omega
    · show T.slotsUsed + R'.slots ≤ e.platform.maxSlots
      omega
  · rw [State.stackLimits_setFrames]; rfl
  · rw [State.stackBytes_setFrames]; rfl
  · refine ⟨?_, Nat.le_refl _, Nat.le_refl _, ?_, ?_, fun a c9 h9 => ⟨c9, h9, rfl, rfl, fun _ _ => rfl⟩⟩
    · obtain ⟨t, ht, -⟩ := State.frames_cons hr
      show T.setVm s.vm = { ((T.setVm s.vm).setFrames (.invoking m args :: below)).setFrames (T.setVm s.vm).frames with heap := T.heap, slotsUsed := T.slotsUsed }
      rw [State.setFrames_setFrames, State.setFrames_self ht]
      rfl
    · show T.slotsUsed = T.slotsUsed + ((T.heap.toList.drop T.heap.size).map (·.slots.size)).sum
      rw [List.drop_eq_nil_of_le (Nat.le_of_eq Array.length_toList)]
      rfl
    · show ((T.heap.toList.drop T.heap.size).map (·.slots.size)).sum ≤ 0
      rw [List.drop_eq_nil_of_le (Nat.le_of_eq Array.length_toList)]
      exact Nat.le_refl _
/-- 'throw new E()': new; dup; invokespecial; athrow -/
theorem vx_throw0 {cc : ByteArray} {pc : Nat} (hexec : p.tables.exec = Jvm.exec) (hb : c.code = cc) (hl : l.stackTraces = false) {own cls : String} {names : List String} {ik ic mc ms : Nat} {A : Nat → Prop}
    (hown : s.vm.findClass own = some m.cls) (hcls : Bundle.fit cls = true) (hnames : ∀ n ∈ names, Bundle.fit n = true)
    (hk : (Cond.classLink own ik cls).before args s = true) (hini : (Cond.initialized cls).before args s = true) (hat : ∀ w ∈ vx_at0 own ic cls names, w.before args s = true)
    (hgood : ∀ w ∈ Cond.classLink own ik cls :: Cond.initialized cls :: vx_at0 own ic cls names, vx_ot w = true)
    (hU : vx_Zq Bundle.tN "UNASSIGNED_STACK" Bundle.steD A s s.heap) (hN : vx_Zq Bundle.tN "SUPPRESSED_SENTINEL" Bundle.listD A s s.heap) (hS : va_S A s.heap H locs) (hsize : ls.size = c.maxLocals)
    (d0 : decode cc pc = .ok (.new ik, 3)) (d3 : decode cc (pc + 3) = .ok (.dup, 1)) (d4 : decode cc (pc + 4) = .ok (.invokespecial ic, 3)) (d7 : decode cc (pc + 7) = .ok (.athrow, 1))
    (hout : ∀ x ∈ c.exceptionTable.toList, covers x (pc + 7) = false)
    (hRframes : names.length + 3 < R.frames) (hRlocals : (rest.map fun v => v.category).sum + (13 * (names.length + 1) + 42) ≤ R.locals) (hRcells : cells + 1 ≤ R.cells) (hRslots : slots + 6 ≤ R.slots) (hlocks : meth.locks = false)
    (hx : ∀ t : State, s.vm.Alike t.vm → H.size ≤ t.heap.size → (∀ q : Nat, q < H.size → t.heap[q]? = H[q]?) → XC cls s t)
    (hf : ∀ z ∈ locs, free z.base) (hc : cells + 1 ≤ mc) (hs : slots + 6 ≤ ms) :
    W p l e R s m args below meth c H locs cells slots (vx_MQ below Qc XC args s mc ms free) (F0 m pc ls rest) := by
  intro T hT X
  have htr : e.platform.stackTraces = false := (show e.platform.stackTraces = l.stackTraces by rw [X.admits.platform]).trans hl
  have Y := vx_rebase X (R' := { frames := R.frames, locals := R.locals, cells := 1, slots := 6 }) (Nat.le_refl _) (Nat.le_refl _) hRcells hRslots
  obtain ⟨s', hA⟩ : ∃ z, z = (T.setVm s.vm).setFrames (.invoking m args :: below) := ⟨_, rfl⟩
  rw [← hA] at Y
  have hvm : s'.vm = s.vm := by rw [hA]; rfl
  have hhp : s'.heap = H := by rw [hA]; exact hT
  have hW0 : s.WarmedH s'.vm := by rw [hvm]; exact State.WarmedH.refl s
  have hat' : ∀ w ∈ vx_at0 own ic cls names, w.before args s' = true := fun w hw => vx_ot_at hW0 hvm.symm (hgood w (List.mem_cons_of_mem _ (List.mem_cons_of_mem _ hw))) (hat w hw)
  have hk' : (Cond.classLink own ik cls).before args s' = true := vx_ot_at hW0 hvm.symm (hgood _ List.mem_cons_self) hk
  have hini' : (Cond.initialized cls).before args s' = true := vx_ot_at hW0 hvm.symm (hgood _ (List.mem_cons_of_mem _ List.mem_cons_self)) hini
  have hU' : vx_Zq Bundle.tN "UNASSIGNED_STACK" Bundle.steD A s' s'.heap := by rw [hhp]; exact vx_Zq.moved hW0.alike (hU.kept hS.2.1)
  have hN' : vx_Zq Bundle.tN "SUPPRESSED_SENTINEL" Bundle.listD A s' s'.heap := by rw [hhp]; exact vx_Zq.moved hW0.alike (hN.kept hS.2.1)
  have h : ∀ w ∈ Bundle.ownAtoms0 own ic cls names, w.before args s' = true := vx_own hat' (vx_isRefq hU'.1) (vx_isRefq hN'.1) hU'.2.word hN'.2.word
  have hown' : s'.vm.findClass own = some m.cls := by rw [hvm]; exact hown
  have hins : (Cond.instantiable cls 6).before args s' = true := h _ (by simp [Bundle.ownAtoms0])
  obtain ⟨vm₁, cX, kX, hfX, hkX, -, -, X₁, st1⟩ := Y.newCold hexec (own := own) (C := cls) (index := ik) (n := 6) hown' hk' hins hini'
    (g := F0 m pc ls rest) rfl (by rw [hb]; exact d0) (Nat.le_refl _) (Nat.le_refl _)
  generalize hT1 : (T.setVm vm₁).pushCell { cls := cX, slots := kX.instanceTypes.map defaultValue, vm := .none } = T1 at X₁ st1
  have hcat : (Value.ref T.heap.size).category = 1 := rfl
  have hcellA : T1.heap[T.heap.size]? = some (freshCell cX kX) := by rw [← hT1]; exact State.heap_pushCell_size _ _
  have d3' : decode c.code (pc + 3) = .ok (.dup, 1) := by rw [hb]; exact d3
  obtain ⟨U, hsteps, hrun, hend, hW, hsame, ce, hce, hO⟩ := X₁.ctorThrow0 hexec htr (own := own) (cls := cls) (names := names) (ic := ic) hown' hcls hnames h (fun x hx => nomatch hx) hfX hkX hcellA (by rw [hhp, hT]; exact Nat.le_refl _)
    (g := { method := m, pc := pc + 4, locals := ls, stack := .ref T.heap.size :: .ref T.heap.size :: rest, locked := none }) rfl hsize rfl rfl (rest := rest) rfl
    (by rw [hb]; exact d4) (by rw [hb]; exact d7) hout hRframes (by simp only [List.map_cons, List.sum_cons, hcat]; omega) hlocks
  obtain ⟨f1, f2⟩ := vx_frame hsame
  rw [hhp] at f1 f2
  have hWs : s.WarmedH U.vm := State.WarmedH.trans hW0 hW
  have hcl : s.vm.findClass cls = some ce.cls := by
    have h9 := hO.cls
    rw [hvm] at h9
    exact h9
  have hall : s.sameButNew ({ U with vm := s.vm } : State) locs mc ms := by
    subst hA
    obtain ⟨e1, e2⟩ := hsame
    rw [State.setFrames_setFrames] at e1
    have h2 : (T.setVm s.vm).sameButNew ({ U with vm := s.vm } : State) [] (0 + 1) (0 + 6) := ⟨e1, e2⟩
    have h3 := X.same.trans h2
    rw [List.append_nil] at h3
    exact h3.mono hc hs
  refine ⟨U, ?_, .threw T.heap.size, hrun, hend, Or.inr ⟨T.heap.size, rfl, cls, ce, locs, hx U hWs.alike f1 (fun q hq => f2 q hq (fun z hz => nomatch hz)), hce, hO.vm, hcl, hWs, hall, hf⟩⟩
  refine st1 _ ?_
  show Steps p.tables e below (T1.setTop { method := m, pc := pc + 3, locals := ls, stack := .ref T.heap.size :: rest, locked := none }) _
  jvm_step X₁.here [X₁.here.top, hexec, d3', Value.category]
  exact hsteps
/-- 'throw new E("text")': new; dup; ldc; invokespecial; athrow -/
theorem vx_throwS {cc : ByteArray} {pc : Nat} (hexec : p.tables.exec = Jvm.exec) (hb : c.code = cc) (hl : l.stackTraces = false) {own cls text : String} {names : List String} {ik is ic mc ms sa : Nat} {A : Nat → Prop}
    (hown : s.vm.findClass own = some m.cls) (hcls : Bundle.fit cls = true) (hnames : ∀ n ∈ names, Bundle.fit n = true)
    (hk : (Cond.classLink own ik cls).before args s = true) (hini : (Cond.initialized cls).before args s = true) (hstr : vk_R own is text sa s) (hat : ∀ w ∈ vx_atS own ic cls names, w.before args s = true)
    (hgood : ∀ w ∈ Cond.classLink own ik cls :: Cond.initialized cls :: vx_atS own ic cls names, vx_ot w = true)
    (hU : vx_Zq Bundle.tN "UNASSIGNED_STACK" Bundle.steD A s s.heap) (hN : vx_Zq Bundle.tN "SUPPRESSED_SENTINEL" Bundle.listD A s s.heap) (hS : va_S A s.heap H locs) (hsize : ls.size = c.maxLocals)
    (d0 : decode cc pc = .ok (.new ik, 3)) (d3 : decode cc (pc + 3) = .ok (.dup, 1)) (d4 : decode cc (pc + 4) = .ok (.ldc is, 2)) (d6 : decode cc (pc + 6) = .ok (.invokespecial ic, 3)) (d9 : decode cc (pc + 9) = .ok (.athrow, 1))
    (hout : ∀ x ∈ c.exceptionTable.toList, covers x (pc + 9) = false)
    (hRframes : names.length + 3 < R.frames) (hRlocals : (rest.map fun v => v.category).sum + (13 * (names.length + 1) + 43) ≤ R.locals) (hRcells : cells + 1 ≤ R.cells) (hRslots : slots + 6 ≤ R.slots) (hlocks : meth.locks = false)
    (hx : ∀ t : State, s.vm.Alike t.vm → H.size ≤ t.heap.size → (∀ q : Nat, q < H.size → t.heap[q]? = H[q]?) → XC cls s t)
    (hf : ∀ z ∈ locs, free z.base) (hc : cells + 1 ≤ mc) (hs : slots + 6 ≤ ms) :
    W p l e R s m args below meth c H locs cells slots (vx_MQ below Qc XC args s mc ms free) (F0 m pc ls rest) := by
  intro T hT X
  have htr : e.platform.stackTraces = false := (show e.platform.stackTraces = l.stackTraces by rw [X.admits.platform]).trans hl
  have Y := vx_rebase X (R' := { frames := R.frames, locals := R.locals, cells := 1, slots := 6 }) (Nat.le_refl _) (Nat.le_refl _) hRcells hRslots
  obtain ⟨s', hA⟩ : ∃ z, z = (T.setVm s.vm).setFrames (.invoking m args :: below) := ⟨_, rfl⟩
  rw [← hA] at Y
  have hvm : s'.vm = s.vm := by rw [hA]; rfl
  have hhp : s'.heap = H := by rw [hA]; exact hT
  have hW0 : s.WarmedH s'.vm := by rw [hvm]; exact State.WarmedH.refl s
  have hat' : ∀ w ∈ vx_atS own ic cls names, w.before args s' = true := fun w hw => vx_ot_at hW0 hvm.symm (hgood w (List.mem_cons_of_mem _ (List.mem_cons_of_mem _ hw))) (hat w hw)
  have hk' : (Cond.classLink own ik cls).before args s' = true := vx_ot_at hW0 hvm.symm (hgood _ List.mem_cons_self) hk
  have hini' : (Cond.initialized cls).before args s' = true := vx_ot_at hW0 hvm.symm (hgood _ (List.mem_cons_of_mem _ List.mem_cons_self)) hini
  have hU' : vx_Zq Bundle.tN "UNASSIGNED_STACK" Bundle.steD A s' s'.heap := by rw [hhp]; exact vx_Zq.moved hW0.alike (hU.kept hS.2.1)
  have hN' : vx_Zq Bundle.tN "SUPPRESSED_SENTINEL" Bundle.listD A s' s'.heap := by rw [hhp]; exact vx_Zq.moved hW0.alike (hN.kept hS.2.1)
  have h : ∀ w ∈ Bundle.ownAtoms own ic cls names, w.before args s' = true := vx_own hat' (vx_isRefq hU'.1) (vx_isRefq hN'.1) hU'.2.word hN'.2.word
  have hown' : s'.vm.findClass own = some m.cls := by rw [hvm]; exact hown
  have hins : (Cond.instantiable cls 6).before args s' = true := h _ (by simp [Bundle.ownAtoms])
  obtain ⟨vm₁, cX, kX, hfX, hkX, -, -, X₁, st1⟩ := Y.newCold hexec (own := own) (C := cls) (index := ik) (n := 6) hown' hk' hins hini'
    (g := F0 m pc ls rest) rfl (by rw [hb]; exact d0) (Nat.le_refl _) (Nat.le_refl _)
  generalize hT1 : (T.setVm vm₁).pushCell { cls := cX, slots := kX.instanceTypes.map defaultValue, vm := .none } = T1 at X₁ st1
  have hcat : (Value.ref T.heap.size).category = 1 := rfl
  have hcellA : T1.heap[T.heap.size]? = some (freshCell cX kX) := by rw [← hT1]; exact State.heap_pushCell_size _ _
  have d3' : decode c.code (pc + 3) = .ok (.dup, 1) := by rw [hb]; exact d3
  have d4' : decode c.code (pc + 4) = .ok (.ldc is, 2) := by rw [hb]; exact d4
  have hstr' : vk_R own is text sa s' := vk_R.warm hW0 hstr
  obtain ⟨U, hsteps, hrun, hend, hW, hsame, ce, hce, hO⟩ := X₁.ctorThrowS hexec htr (own := own) (cls := cls) (names := names) (ic := ic) hown' hcls hnames h (fun x hx => nomatch hx) hfX hkX hcellA (by rw [hhp, hT]; exact Nat.le_refl _) (msg := .ref sa) rfl
    (g := { method := m, pc := pc + 6, locals := ls, stack := .ref sa :: .ref T.heap.size :: .ref T.heap.size :: rest, locked := none }) rfl hsize rfl rfl (rest := rest) rfl
    (by rw [hb]; exact d6) (by rw [hb]; exact d9) hout hRframes (by simp only [List.map_cons, List.sum_cons, hcat]; omega) hlocks
  obtain ⟨f1, f2⟩ := vx_frame hsame
  rw [hhp] at f1 f2
  have hWs : s.WarmedH U.vm := State.WarmedH.trans hW0 hW
  have hcl : s.vm.findClass cls = some ce.cls := by
    have h9 := hO.cls
    rw [hvm] at h9
    exact h9
  have hall : s.sameButNew ({ U with vm := s.vm } : State) locs mc ms := by
    subst hA
    obtain ⟨e1, e2⟩ := hsame
    rw [State.setFrames_setFrames] at e1
    have h2 : (T.setVm s.vm).sameButNew ({ U with vm := s.vm } : State) [] (0 + 1) (0 + 6) := ⟨e1, e2⟩
    have h3 := X.same.trans h2
    rw [List.append_nil] at h3
    exact h3.mono hc hs
  refine ⟨U, ?_, .threw T.heap.size, hrun, hend, Or.inr ⟨T.heap.size, rfl, cls, ce, locs, hx U hWs.alike f1 (fun q hq => f2 q hq (fun z hz => nomatch hz)), hce, hO.vm, hcl, hWs, hall, hf⟩⟩
  refine st1 _ ?_
  show Steps p.tables e below (T1.setTop { method := m, pc := pc + 3, locals := ls, stack := .ref T.heap.size :: rest, locked := none }) _
  jvm_step X₁.here [X₁.here.top, hexec, d3', Value.category]
  exact X₁.ldcString hexec (own := own) (text := text) (index := is) (a := sa) hown' hstr'.1 hstr'.2
    (g := { method := m, pc := pc + 4, locals := ls, stack := .ref T.heap.size :: .ref T.heap.size :: rest, locked := none }) rfl d4' _ hsteps
/-- 'throw new E("text")', the text by a wide index -/
theorem vx_throwSW {cc : ByteArray} {pc : Nat} (hexec : p.tables.exec = Jvm.exec) (hb : c.code = cc) (hl : l.stackTraces = false) {own cls text : String} {names : List String} {ik is ic mc ms sa : Nat} {A : Nat → Prop}
    (hown : s.vm.findClass own = some m.cls) (hcls : Bundle.fit cls = true) (hnames : ∀ n ∈ names, Bundle.fit n = true)
    (hk : (Cond.classLink own ik cls).before args s = true) (hini : (Cond.initialized cls).before args s = true) (hstr : vk_R own is text sa s) (hat : ∀ w ∈ vx_atS own ic cls names, w.before args s = true)
    (hgood : ∀ w ∈ Cond.classLink own ik cls :: Cond.initialized cls :: vx_atS own ic cls names, vx_ot w = true)
    (hU : vx_Zq Bundle.tN "UNASSIGNED_STACK" Bundle.steD A s s.heap) (hN : vx_Zq Bundle.tN "SUPPRESSED_SENTINEL" Bundle.listD A s s.heap) (hS : va_S A s.heap H locs) (hsize : ls.size = c.maxLocals)
    (d0 : decode cc pc = .ok (.new ik, 3)) (d3 : decode cc (pc + 3) = .ok (.dup, 1)) (d4 : decode cc (pc + 4) = .ok (.ldc_w is, 3)) (d7 : decode cc (pc + 7) = .ok (.invokespecial ic, 3)) (d10 : decode cc (pc + 10) = .ok (.athrow, 1))
    (hout : ∀ x ∈ c.exceptionTable.toList, covers x (pc + 10) = false)
    (hRframes : names.length + 3 < R.frames) (hRlocals : (rest.map fun v => v.category).sum + (13 * (names.length + 1) + 43) ≤ R.locals) (hRcells : cells + 1 ≤ R.cells) (hRslots : slots + 6 ≤ R.slots) (hlocks : meth.locks = false)
    (hx : ∀ t : State, s.vm.Alike t.vm → H.size ≤ t.heap.size → (∀ q : Nat, q < H.size → t.heap[q]? = H[q]?) → XC cls s t)
    (hf : ∀ z ∈ locs, free z.base) (hc : cells + 1 ≤ mc) (hs : slots + 6 ≤ ms) :
    W p l e R s m args below meth c H locs cells slots (vx_MQ below Qc XC args s mc ms free) (F0 m pc ls rest) := by
  intro T hT X
  have htr : e.platform.stackTraces = false := (show e.platform.stackTraces = l.stackTraces by rw [X.admits.platform]).trans hl
  have Y := vx_rebase X (R' := { frames := R.frames, locals := R.locals, cells := 1, slots := 6 }) (Nat.le_refl _) (Nat.le_refl _) hRcells hRslots
  obtain ⟨s', hA⟩ : ∃ z, z = (T.setVm s.vm).setFrames (.invoking m args :: below) := ⟨_, rfl⟩
  rw [← hA] at Y
  have hvm : s'.vm = s.vm := by rw [hA]; rfl
  have hhp : s'.heap = H := by rw [hA]; exact hT
  have hW0 : s.WarmedH s'.vm := by rw [hvm]; exact State.WarmedH.refl s
  have hat' : ∀ w ∈ vx_atS own ic cls names, w.before args s' = true := fun w hw => vx_ot_at hW0 hvm.symm (hgood w (List.mem_cons_of_mem _ (List.mem_cons_of_mem _ hw))) (hat w hw)
  have hk' : (Cond.classLink own ik cls).before args s' = true := vx_ot_at hW0 hvm.symm (hgood _ List.mem_cons_self) hk
  have hini' : (Cond.initialized cls).before args s' = true := vx_ot_at hW0 hvm.symm (hgood _ (List.mem_cons_of_mem _ List.mem_cons_self)) hini
  have hU' : vx_Zq Bundle.tN "UNASSIGNED_STACK" Bundle.steD A s' s'.heap := by rw [hhp]; exact vx_Zq.moved hW0.alike (hU.kept hS.2.1)
  have hN' : vx_Zq Bundle.tN "SUPPRESSED_SENTINEL" Bundle.listD A s' s'.heap := by rw [hhp]; exact vx_Zq.moved hW0.alike (hN.kept hS.2.1)
  have h : ∀ w ∈ Bundle.ownAtoms own ic cls names, w.before args s' = true := vx_own hat' (vx_isRefq hU'.1) (vx_isRefq hN'.1) hU'.2.word hN'.2.word
  have hown' : s'.vm.findClass own = some m.cls := by rw [hvm]; exact hown
  have hins : (Cond.instantiable cls 6).before args s' = true := h _ (by simp [Bundle.ownAtoms])
  obtain ⟨vm₁, cX, kX, hfX, hkX, -, -, X₁, st1⟩ := Y.newCold hexec (own := own) (C := cls) (index := ik) (n := 6) hown' hk' hins hini'
    (g := F0 m pc ls rest) rfl (by rw [hb]; exact d0) (Nat.le_refl _) (Nat.le_refl _)
  generalize hT1 : (T.setVm vm₁).pushCell { cls := cX, slots := kX.instanceTypes.map defaultValue, vm := .none } = T1 at X₁ st1
  have hcat : (Value.ref T.heap.size).category = 1 := rfl
  have hcellA : T1.heap[T.heap.size]? = some (freshCell cX kX) := by rw [← hT1]; exact State.heap_pushCell_size _ _
  have d3' : decode c.code (pc + 3) = .ok (.dup, 1) := by rw [hb]; exact d3
  have d4' : decode c.code (pc + 4) = .ok (.ldc_w is, 3) := by rw [hb]; exact d4
  have hstr' : vk_R own is text sa s' := vk_R.warm hW0 hstr
  obtain ⟨U, hsteps, hrun, hend, hW, hsame, ce, hce, hO⟩ := X₁.ctorThrowS hexec htr (own := own) (cls := cls) (names := names) (ic := ic) hown' hcls hnames h (fun x hx => nomatch hx) hfX hkX hcellA (by rw [hhp, hT]; exact Nat.le_refl _) (msg := .ref sa) rfl
    (g := { method := m, pc := pc + 7, locals := ls, stack := .ref sa :: .ref T.heap.size :: .ref T.heap.size :: rest, locked := none }) rfl hsize rfl rfl (rest := rest) rfl
    (by rw [hb]; exact d7) (by rw [hb]; exact d10) hout hRframes (by simp only [List.map_cons, List.sum_cons, hcat]; omega) hlocks
  obtain ⟨f1, f2⟩ := vx_frame hsame
  rw [hhp] at f1 f2
  have hWs : s.WarmedH U.vm := State.WarmedH.trans hW0 hW
  have hcl : s.vm.findClass cls = some ce.cls := by
    have h9 := hO.cls
    rw [hvm] at h9
    exact h9
  have hall : s.sameButNew ({ U with vm := s.vm } : State) locs mc ms := by
    subst hA
    obtain ⟨e1, e2⟩ := hsame
    rw [State.setFrames_setFrames] at e1
    have h2 : (T.setVm s.vm).sameButNew ({ U with vm := s.vm } : State) [] (0 + 1) (0 + 6) := ⟨e1, e2⟩
    have h3 := X.same.trans h2
    rw [List.append_nil] at h3
    exact h3.mono hc hs
  refine ⟨U, ?_, .threw T.heap.size, hrun, hend, Or.inr ⟨T.heap.size, rfl, cls, ce, locs, hx U hWs.alike f1 (fun q hq => f2 q hq (fun z hz => nomatch hz)), hce, hO.vm, hcl, hWs, hall, hf⟩⟩
  refine st1 _ ?_
  show Steps p.tables e below (T1.setTop { method := m, pc := pc + 3, locals := ls, stack := .ref T.heap.size :: rest, locked := none }) _
  jvm_step X₁.here [X₁.here.top, hexec, d3', Value.category]
  exact X₁.ldcStringW hexec (own := own) (text := text) (index := is) (a := sa) hown' hstr'.1 hstr'.2
    (g := { method := m, pc := pc + 4, locals := ls, stack := .ref T.heap.size :: .ref T.heap.size :: rest, locked := none }) rfl d4' _ hsteps
end Ends
section Bodies
variable {l : Launch}
theorem vx_ofW {y : MethodName} {ws ws' : List Cond} {rm : Room} {Pc : Array Value → State → Prop} {Qc : Array Value → State → Outcome → State → Prop} {XC : String → State → State → Prop} {mc ms : Nat} {free : Addr → Prop} {cc : ByteArray} {maxL : Nat} {ret : Option FieldType}
    (hy : plainName y.cls = true) (hw : ws = Cond.code y cc maxL ret :: ws')
    (body : ∀ p e s m args below meth c s₁, BodyLoose p l y (headSpec ws rm) cc maxL ret e s m args below meth c s₁ → c.maxLocals = maxL → (∀ x ∈ c.exceptionTable.toList, False) → Pc args s →
      W p l e (headSpec ws rm).room s m args below meth c s.heap [] 0 0 (vx_MQ below Qc XC args s mc ms free) (entryFrame m args maxL)) : vx_Met l y ws rm Pc Qc XC mc ms free := by
  refine MetFree.of_bodyS (code := cc) (maxLocals := maxL) (ret := ret) hy ?_ ?_
  · intro args s m h hn
    obtain ⟨meth, c, h1, h2, h3, h4, h5, h6, -, -⟩ := Cond.code_spec hn (atoms_spec (ws := ws) h _ (by rw [hw]; exact List.mem_cons_self))
    exact ⟨meth, c, h1, h2, h3, h4, h5, h6⟩
  · intro p e s m args below meth c s₁ B hml hP _
    have hh0 : s₁.heap = s.heap := by rw [B.state]; rfl
    have ht : ∀ x ∈ c.exceptionTable.toList, False := by
      obtain ⟨meth9, c9, h1, h2, -, -, -, -, h7, -⟩ := Cond.code_spec B.named (atoms_spec (ws := ws) B.pre _ (by rw [hw]; exact List.mem_cons_self))
      cases Option.some.inj (h1.symm.trans B.method)
      cases Option.some.inj (h2.symm.trans (Stand.of_body B).code)
      intro x hx
      rw [Array.isEmpty_iff.mp h7] at hx
      cases hx
    obtain ⟨t, a1, o, b1, b2, b3⟩ := body p e s m args below meth c s₁ B hml ht hP s₁ hh0 (Stand.of_body B)
    exact ⟨t, o, a1, b1, b2, b3⟩
/-- the table of a body with handlers -/
theorem vx_table {p : Program} {x y : MethodName} {S : Spec} {cc bytes : ByteArray} {maxL maxL' : Nat} {ret ret' : Option FieldType} {e : Env} {s s₁ : State} {m : MethodId} {args : Array Value} {below : List Frame} {meth : Method} {c : Code} {hh : List (Nat × Nat × Nat × Nat)}
    (B : BodyLoose p l y S cc maxL ret e s m args below meth c s₁) (h : (Cond.codeWith y bytes maxL' ret' hh).before args s = true) : c.exceptionTable.toList = tableOf hh := by
  obtain ⟨m9, meth9, c9, hn9, h1, h2, -, -, h6, -⟩ := Cond.codeWith_spec h
  cases Option.some.inj (hn9.symm.trans B.named)
  cases Option.some.inj (h1.symm.trans B.method)
  cases Option.some.inj (h2.symm.trans (Stand.of_body B).code)
  rw [← h6, table_eq]
end Bodies
end VXA
/-! ===== END ===== -/
/-! ===== BEGIN a static call of a method with an exception table ===== -/
section VXS
variable {p : Program} {l : Launch} {e : Env} {R : Room} {s : State} {m : MethodId} {args : Array Value} {below : List Frame} {meth : Method} {c : Code} {T : State} {H : Heap} {locs : List Loc} {cells slots : Nat}
abbrev vx_CSW (R : Room) (s : State) (args : Array Value) (own : String) (index : Nat) (y : MethodName) (bytes : ByteArray) (maxL : Nat) (ret : Option FieldType) (hh : List (Nat × Nat × Nat × Nat)) (ws : List Cond) (rm : Room) (mc ms n : Nat) : Prop :=
  (rm.cells = mc ∧ rm.slots = ms ∧ rm.frames + 1 ≤ R.frames ∧ 8 + (maxL + 11) + rm.locals ≤ R.locals ∧ (∀ w ∈ ws, ∀ (a' : Array Value) (U : State), s.WarmedH U.vm → w.before a' U = true) ∧ Cond.codeWith y bytes maxL ret hh ∈ ws) ∧
  (Cond.codeWith y bytes maxL ret hh).before args s = true ∧ (Cond.initialized y.cls).before args s = true ∧ (y.cls ≠ "java/lang/invoke/MethodHandle" ∧ y.cls ≠ "java/lang/invoke/VarHandle") ∧
  (∀ sig, parseMethodDescriptor y.desc = some sig → n = sig.parameters.length) ∧ (Cond.methodLink own index y).before args s = true ∧ (Cond.static y).before args s = true
theorem vx_cwSW {own : String} {index maxL mc ms : Nat} {y : MethodName} {bytes : ByteArray} {ret : Option FieldType} {hh : List (Nat × Nat × Nat × Nat)} {Ts ws ws' : List Cond} {rm : Room} (n : Nat) (ht : ∀ w ∈ Ts, w.before args s = true) (hT : GoodIn Ts (va_wsS own index y ws)) (hw : ws = Cond.codeWith y bytes maxL ret hh :: ws') (hrc : rm.cells = mc) (hrs : rm.slots = ms)
    (hd : y.cls ≠ "java/lang/invoke/MethodHandle" ∧ y.cls ≠ "java/lang/invoke/VarHandle" ∧ (parseMethodDescriptor y.desc).map (fun d => d.parameters.length) = some n) (hR : rm.frames + 1 ≤ R.frames ∧ 8 + (maxL + 11) + rm.locals ≤ R.locals) :
    vx_CSW R s args own index y bytes maxL ret hh ws rm mc ms n := by
  have ok : ∀ w ∈ va_wsS own index y ws, w.before args s = true := fun w h => ht w (hT w h).1
  have hG : GoodIn Ts ws := fun w h => hT w (by unfold va_wsS; exact List.mem_append_right _ h)
  have hc : Cond.codeWith y bytes maxL ret hh ∈ ws := by rw [hw]; exact List.mem_cons_self
  refine ⟨⟨hrc, hrs, hR.1, hR.2, pay_in ht hG, hc⟩, ht _ (hG _ hc).1, ok _ (by simp [va_wsS]), ⟨hd.1, hd.2.1⟩, fun sig h => ?_, ok _ (by simp [va_wsS]), ok _ (by simp [va_wsS])⟩
  have h2 := hd.2.2
  rw [h] at h2
  exact (Option.some.inj h2).symm
theorem vx_callSW (X : Stand p l e R s m args below meth c T locs cells slots) (hexec : p.tables.exec = Jvm.exec) {own : String} {index : Nat} {y : MethodName} {bytes : ByteArray} {maxL : Nat} {ret : Option FieldType} {hh : List (Nat × Nat × Nat × Nat)}
    (hown : s.vm.findClass own = some m.cls) (hlink : (Cond.methodLink own index y).before args s = true) (hstat : (Cond.static y).before args s = true) (hinit : (Cond.initialized y.cls).before args s = true)
    (hcode : (Cond.codeWith y bytes maxL ret hh).before args s = true) (hy : y.cls ≠ "java/lang/invoke/MethodHandle" ∧ y.cls ≠ "java/lang/invoke/VarHandle")
    {W9 : Nat} {Pre : Pt → Array Value → Prop} {Post : Pt → Array Value → Option Value → Pt → Prop} (hK : Back l R p e below s args y 3 W9 Pre Post)
    {g : JFrame} (hg : g.method = m) (hsize : g.locals.size = c.maxLocals) {argsL rest : List Value} (hlen : ∀ sig, parseMethodDescriptor y.desc = some sig → argsL.length = sig.parameters.length)
    (hstack : g.stack = argsL.reverse ++ rest) (hW : 2 * g.monitorRoom + (rest.map fun v => v.category).sum ≤ W9) (hdg : decode c.code g.pc = .ok (.invokestatic index, 3))
    (hpre : ∀ vm₁, s.WarmedH vm₁ → Pre ⟨T.setVm vm₁, locs, cells, slots⟩ argsL.toArray) :
    ∃ (v : Option Value) (vm₁ : Vm) (B : Pt), s.WarmedH vm₁ ∧ Stand p l e R s m args below meth c B.U B.locs B.cells B.slots ∧ Post ⟨T.setVm vm₁, locs, cells, slots⟩ argsL.toArray v B ∧
      ∀ target, Steps p.tables e below (B.U.setTop { g with pc := g.pc + 3, stack := v.toList ++ rest }) target → Steps p.tables e below (T.setTop g) target := by
  obtain ⟨mk, methM, cM, hnamed, hmethM, -, -, -, -, -, -, hsigM⟩ := Cond.codeWith_spec hcode
  have hstatic : methM.isStatic = true := Cond.static_spec hnamed hmethM hstat
  obtain ⟨kP, hkP, -⟩ := className_of_methodNamed hnamed
  have hinitP : kP.init = .initialized := Cond.initialized_spec (findClass_of_methodNamed hnamed) hkP hinit
  obtain ⟨vm₁, X₁, hstep₁⟩ := X.invokestatic hexec hown hlink hnamed hmethM hstatic hkP hinitP hy (g := g) hg (argsL := argsL) (rest := rest) (hlen _ hsigM) hstack hdg
  obtain ⟨v, B, X', hpost, hsteps⟩ := hK m meth c ⟨T.setVm vm₁, locs, cells, slots⟩ { g with stack := rest } (.invokestatic index) mk argsL.toArray X₁ hg hsize hdg hW (X₁.named hnamed) (hpre vm₁ X₁.warmed)
  exact ⟨v, vm₁, B, X₁.warmed, X', hpost, fun target h => hstep₁ _ fun acts => by rw [doInvoke_state]; exact hsteps.trans h⟩
theorem vx_runSW {y : MethodName} {bytes cc : ByteArray} {maxL nL mc ms n index : Nat} {ret : Option FieldType} {hh : List (Nat × Nat × Nat × Nat)} {ws : List Cond} {rm : Room} {Pc : Array Value → State → Prop} {Qc : Array Value → State → Outcome → State → Prop} {free : Addr → Prop} {Ts : List Cond} {own : String} {As rest : List Value} {g : JFrame}
    (S : CallFix p m c cc nL s args Ts own) (hM : Met l y ws rm Pc Qc mc ms free) (cw : vx_CSW R s args own index y bytes maxL ret hh ws rm mc ms n) (hp : PreS s H Pc As)
    (hg : g.method = m) (hn : As.length = n) (hsize : g.locals.size = nL) (hstack : g.stack = As.reverse ++ rest) (hW : 2 * g.monitorRoom + (rest.map fun v => v.category).sum ≤ 8) (hdg : decode cc g.pc = .ok (.invokestatic index, 3)) (hf : cells + mc ≤ R.cells ∧ slots + ms ≤ R.slots) :
    va_Run p l e R s m args below meth c H locs cells slots mc ms g rest (Qc As.toArray) (free) := by
  obtain ⟨⟨hrc, hrs, hfr, hlo, hws, hcw⟩, hcode, hini, hy, hlen, hl, hstt⟩ := cw
  have hK : Back l R p e below s args y 3 8 (PreOf R mc ms Pc) (PostOf Qc mc ms free) := va_backW (hh := hh) (bytes := bytes) (maxL := maxL) (ret := ret) hM hp.1 hrc hrs hfr hlo hws hcw (fun a' U hW => word_at hW (Or.inl (by first | rfl | simp [Cond.onTables, Cond.keeps, Cond.steady])) hini)
  obtain ⟨hx, hb, hml, ho, -⟩ := S
  intro T hT X
  obtain ⟨v, vm₁, ⟨U', l2, c2, s2⟩, hW₁, X', ⟨g', mk, t, L, e1, e2, hq, h1, hL, h2, h3⟩, st⟩ := vx_callSW X hx (hh := hh) (bytes := bytes) (maxL := maxL) (ret := ret) ho hl hstt hini hcode hy hK hg (hsize.trans hml.symm) (argsL := As) (rest := rest) (fun sig h => hn.trans (hlen sig h)) hstack hW (by rw [hb]; exact hdg)
    (fun vm₁ hW₁ => ⟨hf.1, hf.2, hp.2 (T.setVm vm₁) hT hW₁⟩)
  dsimp only [Pt.U, Pt.locs, Pt.cells, Pt.slots] at X' e1 e2 h1 h2 h3 st
  subst h1; subst h2; subst h3
  exact ⟨v, (T.setVm vm₁).calling g' mk As.toArray, t, U', L, hT, X', hL, e1, e2, hq, st⟩
/-- not caught here, past rows that name other classes: it goes on to the caller -/
theorem vx_outP {p : Program} {l : Launch} {e : Env} {R : Room} {s : State} {m : MethodId} {args : Array Value} {below : List Frame} {meth : Method} {c : Code} {H : Heap} {locs : List Loc} {cells slots : Nat} {free : Addr → Prop} {ls : Array Slot} {rest : List Value} {Qc : Array Value → State → Outcome → State → Prop} {XC : String → State → State → Prop}
    {pc : Nat} {own E : String} {ce : Cell} {q : Addr} {mc ms : Nat} (hown : s.vm.findClass own = some m.cls) (hlocks : meth.locks = false)
    (hpass : ∀ z ∈ c.exceptionTable.toList, covers z pc = false ∨ (z.catchType ≠ 0 ∧ ∃ nm : String, (Cond.classLink own z.catchType nm).before args s = true ∧ va_Nc E nm s)) (hcell : H[q]? = some ce) (hv : ce.vm = .none) (hcl : s.vm.findClass E = some ce.cls)
    (hx : ∀ t : State, t.heap = H → s.vm.Alike t.vm → XC E s t) (hf : ∀ z ∈ locs, free z.base) (hc : cells ≤ mc) (hs : slots ≤ ms) :
    vx_W p l e R s m args below meth c H locs cells slots (vx_MQ below Qc XC args s mc ms free) (F0 m pc ls rest) q := by
  intro T hT X
  have hpl : e.platform.magicAccessors = ({} : Platform).magicAccessors := by rw [X.admits.platform]
  obtain ⟨vm', hW', X', st⟩ := X.outThrough hlocks q (g := F0 m pc ls rest) rfl rfl rfl (cell := ce) (by rw [hT]; exact hcell) (by rw [hv]; rfl)
    (by obtain ⟨k9, h9, -⟩ := Vm.findClass_spec hcl; exact ⟨k9, h9⟩) (fun z hz => by
      rcases hpass z hz with h | ⟨hz0, nm, hl1, hn1⟩
      · exact Or.inl h
      · obtain ⟨c6, hc6, hcl6⟩ := Cond.classLink_spec hown hl1 e.platform hpl
        obtain ⟨a8, b8, h1, h2, h3⟩ := hn1
        cases Option.some.inj (h1.symm.trans hcl)
        cases Option.some.inj (h2.symm.trans hc6)
        exact Or.inr ⟨hz0, _, hcl6, h3⟩)
  obtain ⟨g₀, hfr⟩ := X'.frames_eq
  have hcell9 : ((T.setVm vm').setFrames (.throwing q :: below)).heap[q]? = some ce := by
    show T.heap[q]? = some ce
    rw [hT]; exact hcell
  have hend : Ended ((T.setVm vm').setFrames (.throwing q :: below)) below (.threw q) := State.frames_setFrames _ (State.cur_lt_of_frames hfr)
  refine ⟨(T.setVm vm').setFrames (.throwing q :: below), ?_, .threw q, X'.here.running, hend, Or.inr ⟨q, rfl, E, ce, locs, hx _ hT (X'.ends _).1.alike, hcell9, hv, hcl, (X'.ends _).1, (X'.ends _).2.mono hc hs, hf⟩⟩
  rw [X.pushThrowing_eq]
  exact st
/-- a thing of a world lies in the heap -/
theorem vx_lt {D : va_G} {cl : List vw_C} {ws : va_W} {H1 : Heap} (h : va_P D cl ws H1) {k : Nat} {q : Nat × va_E} (hk : ws[k]? = some q) : q.1 < H1.size := (h k q hk).lt
end VXS
/-! ===== END ===== -/
/-! ===== BEGIN methods with a table of their own: called by a name, returning or throwing ===== -/
section VXH
/-! vx_backW, vx_callVX, vx_callSX, vx_callVW, vx_runVW, vx_runVX, vx_runSX, vx_ofWH follow the same proofs as their sisters above (Free/Laws.lean, Shelf42/LK1.lean); vx_outP calls Shelf42/NT130.lean (outThrough). -/
section
variable {l : Launch} {R : Room} {p : Program} {e : Env} {below : List Frame} {s : State} {sargs : Array Value} {y : MethodName} {len W9 : Nat}
theorem vx_backW {ws : List Cond} {rm : Room} {Pc : Array Value → State → Prop} {Qc : Array Value → State → Outcome → State → Prop} {XC : String → State → State → Prop} {mc ms : Nat} {free : Addr → Prop} {bytes : ByteArray} {maxL : Nat} {ret : Option FieldType} {hh : List (Nat × Nat × Nat × Nat)}
    (hM : vx_Met l y ws rm Pc Qc XC mc ms free) (hblind : FrameBlind Pc) (hrc : rm.cells = mc) (hrs : rm.slots = ms)
    (hframes : rm.frames + 1 ≤ R.frames) (hlocals : W9 + (maxL + 11) + rm.locals ≤ R.locals)
    (hws : ∀ w ∈ ws, ∀ a' U, s.WarmedH U.vm → w.before a' U = true) (hcode : Cond.codeWith y bytes maxL ret hh ∈ ws) (hinit : ∀ a' U, s.WarmedH U.vm → (Cond.initialized y.cls).before a' U = true) :
    vx_Back l R p e below s sargs y len W9 (PreOf R mc ms Pc) (PostOf Qc mc ms free) (vx_Post XC mc ms free) := by
  intro m meth c A g ig mk a X hg hsize hdg hW hn hp
  have h1 : (headSpec ws rm).pre.before a A.U = true := atoms_intro fun w hw => hws w hw _ _ X.warmed
  have h2 : (Cond.codeWith y bytes maxL ret hh).before a A.U = true := hws _ hcode _ _ X.warmed
  have h3 : (Cond.initialized y.cls).before a A.U = true := hinit _ _ X.warmed
  have h4 : A.cells + (headSpec ws rm).room.cells ≤ R.cells := by rw [show (headSpec ws rm).room.cells = mc from hrc]; exact hp.1
  have h5 : A.slots + (headSpec ws rm).room.slots ≤ R.slots := by rw [show (headSpec ws rm).room.slots = ms from hrs]; exact hp.2.1
  have hPc : Pc a (A.U.calling g mk a) := hblind _ _ _ _ hp.2.2
  obtain ⟨U, Ls, c0, s0⟩ := A
  dsimp only [Pt.U, Pt.locs, Pt.cells, Pt.slots] at h1 h2 h3 h4 h5 X hn hPc ⊢
  obtain ⟨m9, methY, cY, hn9, hmY, hcY, -, hlY, -⟩ := Cond.codeWith_spec h2
  cases Option.some.inj (hn9.symm.trans hn)
  obtain ⟨kY, hkY, -⟩ := className_of_methodNamed hn
  have hinitY : kY.init = .initialized := Cond.initialized_spec (findClass_of_methodNamed hn) hkY h3
  have h : At U g.method c below := by rw [hg]; exact X.here
  have hlocals9 : W9 + (maxL + 11) + (headSpec ws rm).room.locals ≤ R.locals := hlocals
  have happ : (headSpec ws rm).appliesLoose y e.platform (U.calling g mk a) = true :=
    Spec.appliesLoose_calling (g := g) h hdg hn hkY hinitY
      (X.room_calling (g := g) (R' := (headSpec ws rm).room) hsize hmY hcY hframes (by rw [hlY]; omega) h4 h5) h1
  obtain ⟨mid, hmid⟩ := h.above
  have hfr : (U.setTop g).frames = (.java g :: mid) ++ below := by rw [State.frames_setTop' g h.top, hmid]; rfl
  obtain ⟨o, s₂, hsteps, -, hend, hq⟩ := Steps.callFree hM p X.admits X.cas X.clock (acts := []) hfr happ hPc trivial
  have hq' : vx_Q Qc XC mc ms free a (U.calling g mk a) o s₂ := hq
  rw [State.frames_setTop' g h.top] at hend
  obtain ⟨g₀, hg0⟩ := Option.isSome_iff_exists.mp h.top
  obtain ⟨r, hr⟩ := State.topJava?_eq_some.mp hg0
  have hr' : (({ U with heap := s₂.heap, slotsUsed := s₂.slotsUsed } : State).setVm s₂.vm).frames = .java g₀ :: r := hr
  rcases hq' with ⟨hqc, L, hfe, hL⟩ | ⟨q, rfl, E, ce, L, hx, hce, hcv, hcl, hW₂, hsm, hL⟩
  · obtain ⟨⟨v, rfl⟩, hW₂, e2, q2, q3, q4, q5, q6⟩ := id hfe
    have e3 : s₂ = ({ (U.calling g mk a).setFrames s₂.frames with heap := s₂.heap, slotsUsed := s₂.slotsUsed } : State).setVm s₂.vm := by
      have : s₂ = ({ s₂ with vm := (U.calling g mk a).vm } : State).setVm s₂.vm := rfl
      rw [e2] at this
      exact this
    obtain ⟨c₂, i₂, len₂, hc₂, hd₂, hf₂⟩ := hend
    have hW' : U.WarmedH s₂.vm := hW₂
    have hcc : c₂ = c := by
      have h1 : s₂.code? g.method = U.code? g.method := by
        rw [State.code?_eq, State.code?_eq, hW'.alike.method?]
      exact Option.some.inj (hc₂.symm.trans (h1.trans h.code))
    subst hcc
    have hlen : len₂ = len := by rw [hdg] at hd₂; cases hd₂; rfl
    subst hlen
    have hs₂ : s₂ = (({ U with heap := s₂.heap, slotsUsed := s₂.slotsUsed } : State).setVm s₂.vm).setTop { g with pc := g.pc + len₂, stack := v.toList ++ g.stack } := by
      refine e3.trans ?_
      rw [hf₂, State.calling_eq h.top, State.setFrames_setFrames, State.setTop_of_frames _ hr', hr]
      rfl
    have hsame : U.sameButNew ({ U with heap := s₂.heap, slotsUsed := s₂.slotsUsed } : State) L mc ms := by
      refine ⟨?_, q2, q3, q4, q5, q6⟩
      obtain ⟨t, ht, -⟩ := State.frames_cons hr
      show ({ U with heap := s₂.heap, slotsUsed := s₂.slotsUsed } : State) = { U.setFrames U.frames with heap := s₂.heap, slotsUsed := s₂.slotsUsed }
      rw [State.setFrames_self ht]
    subst hg
    refine Or.inl ⟨v, ⟨(({ U with heap := s₂.heap, slotsUsed := s₂.slotsUsed } : State).setVm s₂.vm), Ls ++ L, c0 + mc, s0 + ms⟩,
      ⟨X.admits, X.cas, X.clock, X.frames, X.room, X.hears, X.method, X.code, (X.here.setHeapUsed s₂.heap s₂.slotsUsed).setVm hW'.alike, X.tail, State.WarmedH.trans X.warmed hW', X.limits, X.bytes, X.same.trans (hsame.setVm s.vm)⟩,
      ⟨g, mk, s₂, L, rfl, rfl, hqc, rfl, hL, rfl, rfl⟩, ?_⟩
    show Steps p.tables e below _ ((({ U with heap := s₂.heap, slotsUsed := s₂.slotsUsed } : State).setVm s₂.vm).setTop { g with pc := g.pc + len₂, stack := v.toList ++ g.stack })
    rw [← hs₂]
    exact hsteps
  · obtain ⟨e2, q2, q3, q4, q5, q6⟩ := id hsm
    have e3 : s₂ = ({ (U.calling g mk a).setFrames s₂.frames with heap := s₂.heap, slotsUsed := s₂.slotsUsed } : State).setVm s₂.vm := by
      have : s₂ = ({ s₂ with vm := (U.calling g mk a).vm } : State).setVm s₂.vm := rfl
      rw [e2] at this
      exact this
    have hf₂ : s₂.frames = .throwing q :: .java g :: U.frames.tail := hend
    have hW' : U.WarmedH s₂.vm := hW₂
    have hs₂ : s₂ = ((({ U with heap := s₂.heap, slotsUsed := s₂.slotsUsed } : State).setVm s₂.vm).setTop g).pushFrame (.throwing q) := by
      refine e3.trans ?_
      rw [hf₂, State.calling_eq h.top, State.setFrames_setFrames, State.pushFrame, State.frames_setTop _ hr', State.setTop_of_frames _ hr', State.setFrames_setFrames, hr]
      rfl
    have hsame : U.sameButNew ({ U with heap := s₂.heap, slotsUsed := s₂.slotsUsed } : State) L mc ms := by
      refine ⟨?_, q2, q3, q4, q5, q6⟩
      obtain ⟨t, ht, -⟩ := State.frames_cons hr
      show ({ U with heap := s₂.heap, slotsUsed := s₂.slotsUsed } : State) = { U.setFrames U.frames with heap := s₂.heap, slotsUsed := s₂.slotsUsed }
      rw [State.setFrames_self ht]
    subst hg
    refine Or.inr ⟨q, ⟨(({ U with heap := s₂.heap, slotsUsed := s₂.slotsUsed } : State).setVm s₂.vm), Ls ++ L, c0 + mc, s0 + ms⟩,
      ⟨X.admits, X.cas, X.clock, X.frames, X.room, X.hears, X.method, X.code, (X.here.setHeapUsed s₂.heap s₂.slotsUsed).setVm hW'.alike, X.tail, State.WarmedH.trans X.warmed hW', X.limits, X.bytes, X.same.trans (hsame.setVm s.vm)⟩,
      ⟨g, mk, s₂, L, E, ce, rfl, rfl, hx, hce, hcv, hcl, rfl, hL, rfl, rfl⟩, ?_⟩
    show Steps p.tables e below _ (((({ U with heap := s₂.heap, slotsUsed := s₂.slotsUsed } : State).setVm s₂.vm).setTop g).pushFrame (.throwing q))
    rw [← hs₂]
    exact hsteps
end
variable {p : Program} {l : Launch} {e : Env} {R : Room} {s : State} {m : MethodId} {args : Array Value} {below : List Frame} {meth : Method} {c : Code} {T : State} {H : Heap} {locs : List Loc} {cells slots : Nat}
theorem vx_callVX (X : Stand p l e R s m args below meth c T locs cells slots) (hexec : p.tables.exec = Jvm.exec) {own C : String} {index : Nat} {y : MethodName} {bytes : ByteArray} {maxL : Nat} {ret : Option FieldType} {hh : List (Nat × Nat × Nat × Nat)}
    (hown : s.vm.findClass own = some m.cls) (hlink : (Cond.methodLink own index y).before args s = true) (hinst : (Cond.instanceMethod y).before args s = true) (hsel : (Cond.selects C y y).before args s = true)
    (hcode : (Cond.codeWith y bytes maxL ret hh).before args s = true) (hy : y.cls ≠ "java/lang/invoke/MethodHandle" ∧ y.cls ≠ "java/lang/invoke/VarHandle")
    {W9 : Nat} {Pre : Pt → Array Value → Prop} {Post : Pt → Array Value → Option Value → Pt → Prop} {PostX : Pt → Array Value → Addr → Pt → Prop} (hK : vx_Back l R p e below s args y 3 W9 Pre Post PostX)
    {b : Addr} {cellB : Cell} (hcell : T.heap[b]? = some cellB) (hobj : cellB.vm.isStatics = false) (hcls : s.vm.findClass C = some cellB.cls)
    {g : JFrame} (hg : g.method = m) (hsize : g.locals.size = c.maxLocals) {argsL rest : List Value} (hlen : ∀ sig, parseMethodDescriptor y.desc = some sig → argsL.length = sig.parameters.length)
    (hstack : g.stack = argsL.reverse ++ .ref b :: rest) (hW : 2 * g.monitorRoom + (rest.map fun v => v.category).sum ≤ W9) (hdg : decode c.code g.pc = .ok (.invokevirtual index, 3))
    (hpre : ∀ vm₁, s.WarmedH vm₁ → Pre ⟨T.setVm vm₁, locs, cells, slots⟩ (Value.ref b :: argsL).toArray) :
    (∃ (v : Option Value) (vm₁ : Vm) (B : Pt), s.WarmedH vm₁ ∧ Stand p l e R s m args below meth c B.U B.locs B.cells B.slots ∧ Post ⟨T.setVm vm₁, locs, cells, slots⟩ (Value.ref b :: argsL).toArray v B ∧
      ∀ target, Steps p.tables e below (B.U.setTop { g with pc := g.pc + 3, stack := v.toList ++ rest }) target → Steps p.tables e below (T.setTop g) target) ∨
    (∃ (q : Addr) (vm₁ : Vm) (B : Pt), s.WarmedH vm₁ ∧ Stand p l e R s m args below meth c B.U B.locs B.cells B.slots ∧ PostX ⟨T.setVm vm₁, locs, cells, slots⟩ (Value.ref b :: argsL).toArray q B ∧
      Steps p.tables e below (T.setTop g) ((B.U.setTop { g with stack := rest }).pushFrame (.throwing q))) := by
  obtain ⟨mk, methM, hnamed, hmethM, hstM, habM⟩ := Cond.instanceMethod_spec hinst
  obtain ⟨m8, methM', cM, hn8, hmethM', -, -, -, -, -, -, hsigM⟩ := Cond.codeWith_spec hcode
  cases Option.some.inj (hn8.symm.trans hnamed)
  cases hmethM.symm.trans hmethM'
  obtain ⟨c2, r2, m2, q1, q2, q3, q4, kP, hkP, hkPi⟩ := Cond.selects_spec hsel
  cases hcls.symm.trans q1
  cases (State.methodFound?_of_named hnamed hy).symm.trans q2
  cases hnamed.symm.trans q3
  have hselP : selectMethod e.platform s.vm cellB.cls mk = .method mk := by rw [Launch.admits_selectMethod X.admits]; exact q4
  obtain ⟨vm₁, X₁, hstep₁⟩ := X.invokevirtual hexec hown hlink hnamed hmethM hstM hkP hkPi hy (a := b) (cell := cellB) hcell
    (fun z h => by rw [h] at hobj; cases hobj) hselP hmethM habM hkP hkPi (g := g) hg (argsL := argsL) (rest := rest) (hlen _ hsigM) hstack hdg
  rcases hK m meth c ⟨T.setVm vm₁, locs, cells, slots⟩ { g with stack := rest } (.invokevirtual index) mk (Value.ref b :: argsL).toArray X₁ hg hsize hdg hW (X₁.named hnamed) (hpre vm₁ X₁.warmed) with ⟨v, B, X', hpost, hsteps⟩ | ⟨q, B, X', hpost, hsteps⟩
  · exact Or.inl ⟨v, vm₁, B, X₁.warmed, X', hpost, fun target h => hstep₁ _ fun acts => by rw [doInvoke_state]; exact hsteps.trans h⟩
  · exact Or.inr ⟨q, vm₁, B, X₁.warmed, X', hpost, hstep₁ _ fun acts => by rw [doInvoke_state]; exact hsteps⟩
theorem vx_callSX (X : Stand p l e R s m args below meth c T locs cells slots) (hexec : p.tables.exec = Jvm.exec) {own : String} {index : Nat} {y : MethodName} {bytes : ByteArray} {maxL : Nat} {ret : Option FieldType} {hh : List (Nat × Nat × Nat × Nat)}
    (hown : s.vm.findClass own = some m.cls) (hlink : (Cond.methodLink own index y).before args s = true) (hstat : (Cond.static y).before args s = true) (hinit : (Cond.initialized y.cls).before args s = true)
    (hcode : (Cond.codeWith y bytes maxL ret hh).before args s = true) (hy : y.cls ≠ "java/lang/invoke/MethodHandle" ∧ y.cls ≠ "java/lang/invoke/VarHandle")
    {W9 : Nat} {Pre : Pt → Array Value → Prop} {Post : Pt → Array Value → Option Value → Pt → Prop} {PostX : Pt → Array Value → Addr → Pt → Prop} (hK : vx_Back l R p e below s args y 3 W9 Pre Post PostX)
    {g : JFrame} (hg : g.method = m) (hsize : g.locals.size = c.maxLocals) {argsL rest : List Value} (hlen : ∀ sig, parseMethodDescriptor y.desc = some sig → argsL.length = sig.parameters.length)
    (hstack : g.stack = argsL.reverse ++ rest) (hW : 2 * g.monitorRoom + (rest.map fun v => v.category).sum ≤ W9) (hdg : decode c.code g.pc = .ok (.invokestatic index, 3))
    (hpre : ∀ vm₁, s.WarmedH vm₁ → Pre ⟨T.setVm vm₁, locs, cells, slots⟩ argsL.toArray) :
    (∃ (v : Option Value) (vm₁ : Vm) (B : Pt), s.WarmedH vm₁ ∧ Stand p l e R s m args below meth c B.U B.locs B.cells B.slots ∧ Post ⟨T.setVm vm₁, locs, cells, slots⟩ argsL.toArray v B ∧
      ∀ target, Steps p.tables e below (B.U.setTop { g with pc := g.pc + 3, stack := v.toList ++ rest }) target → Steps p.tables e below (T.setTop g) target) ∨
    (∃ (q : Addr) (vm₁ : Vm) (B : Pt), s.WarmedH vm₁ ∧ Stand p l e R s m args below meth c B.U B.locs B.cells B.slots ∧ PostX ⟨T.setVm vm₁, locs, cells, slots⟩ argsL.toArray q B ∧
      Steps p.tables e below (T.setTop g) ((B.U.setTop { g with stack := rest }).pushFrame (.throwing q))) := by
  obtain ⟨mk, methM, cM, hnamed, hmethM, -, -, -, -, -, -, hsigM⟩ := Cond.codeWith_spec hcode
  have hstatic : methM.isStatic = true := Cond.static_spec hnamed hmethM hstat
  obtain ⟨kP, hkP, -⟩ := className_of_methodNamed hnamed
  have hinitP : kP.init = .initialized := Cond.initialized_spec (findClass_of_methodNamed hnamed) hkP hinit
  obtain ⟨vm₁, X₁, hstep₁⟩ := X.invokestatic hexec hown hlink hnamed hmethM hstatic hkP hinitP hy (g := g) hg (argsL := argsL) (rest := rest) (hlen _ hsigM) hstack hdg
  rcases hK m meth c ⟨T.setVm vm₁, locs, cells, slots⟩ { g with stack := rest } (.invokestatic index) mk argsL.toArray X₁ hg hsize hdg hW (X₁.named hnamed) (hpre vm₁ X₁.warmed) with ⟨v, B, X', hpost, hsteps⟩ | ⟨q, B, X', hpost, hsteps⟩
  · exact Or.inl ⟨v, vm₁, B, X₁.warmed, X', hpost, fun target h => hstep₁ _ fun acts => by rw [doInvoke_state]; exact hsteps.trans h⟩
  · exact Or.inr ⟨q, vm₁, B, X₁.warmed, X', hpost, hstep₁ _ fun acts => by rw [doInvoke_state]; exact hsteps⟩
theorem vx_callVW (X : Stand p l e R s m args below meth c T locs cells slots) (hexec : p.tables.exec = Jvm.exec) {own C : String} {index : Nat} {y : MethodName} {bytes : ByteArray} {maxL : Nat} {ret : Option FieldType} {hh : List (Nat × Nat × Nat × Nat)}
    (hown : s.vm.findClass own = some m.cls) (hlink : (Cond.methodLink own index y).before args s = true) (hinst : (Cond.instanceMethod y).before args s = true) (hsel : (Cond.selects C y y).before args s = true)
    (hcode : (Cond.codeWith y bytes maxL ret hh).before args s = true) (hy : y.cls ≠ "java/lang/invoke/MethodHandle" ∧ y.cls ≠ "java/lang/invoke/VarHandle")
    {W9 : Nat} {Pre : Pt → Array Value → Prop} {Post : Pt → Array Value → Option Value → Pt → Prop} (hK : Back l R p e below s args y 3 W9 Pre Post)
    {b : Addr} {cellB : Cell} (hcell : T.heap[b]? = some cellB) (hobj : cellB.vm.isStatics = false) (hcls : s.vm.findClass C = some cellB.cls)
    {g : JFrame} (hg : g.method = m) (hsize : g.locals.size = c.maxLocals) {argsL rest : List Value} (hlen : ∀ sig, parseMethodDescriptor y.desc = some sig → argsL.length = sig.parameters.length)
    (hstack : g.stack = argsL.reverse ++ .ref b :: rest) (hW : 2 * g.monitorRoom + (rest.map fun v => v.category).sum ≤ W9) (hdg : decode c.code g.pc = .ok (.invokevirtual index, 3))
    (hpre : ∀ vm₁, s.WarmedH vm₁ → Pre ⟨T.setVm vm₁, locs, cells, slots⟩ (Value.ref b :: argsL).toArray) :
    ∃ (v : Option Value) (vm₁ : Vm) (B : Pt), s.WarmedH vm₁ ∧ Stand p l e R s m args below meth c B.U B.locs B.cells B.slots ∧ Post ⟨T.setVm vm₁, locs, cells, slots⟩ (Value.ref b :: argsL).toArray v B ∧
      ∀ target, Steps p.tables e below (B.U.setTop { g with pc := g.pc + 3, stack := v.toList ++ rest }) target → Steps p.tables e below (T.setTop g) target := by
  obtain ⟨mk, methM, hnamed, hmethM, hstM, habM⟩ := Cond.instanceMethod_spec hinst
  obtain ⟨m8, methM', cM, hn8, hmethM', -, -, -, -, -, -, hsigM⟩ := Cond.codeWith_spec hcode
  cases Option.some.inj (hn8.symm.trans hnamed)
  cases hmethM.symm.trans hmethM'
  obtain ⟨c2, r2, m2, q1, q2, q3, q4, kP, hkP, hkPi⟩ := Cond.selects_spec hsel
  cases hcls.symm.trans q1
  cases (State.methodFound?_of_named hnamed hy).symm.trans q2
  cases hnamed.symm.trans q3
  have hselP : selectMethod e.platform s.vm cellB.cls mk = .method mk := by rw [Launch.admits_selectMethod X.admits]; exact q4
  obtain ⟨vm₁, X₁, hstep₁⟩ := X.invokevirtual hexec hown hlink hnamed hmethM hstM hkP hkPi hy (a := b) (cell := cellB) hcell
    (fun z h => by rw [h] at hobj; cases hobj) hselP hmethM habM hkP hkPi (g := g) hg (argsL := argsL) (rest := rest) (hlen _ hsigM) hstack hdg
  obtain ⟨v, B, X', hpost, hsteps⟩ := hK m meth c ⟨T.setVm vm₁, locs, cells, slots⟩ { g with stack := rest } (.invokevirtual index) mk (Value.ref b :: argsL).toArray X₁ hg hsize hdg hW (X₁.named hnamed) (hpre vm₁ X₁.warmed)
  exact ⟨v, vm₁, B, X₁.warmed, X', hpost, fun target h => hstep₁ _ fun acts => by rw [doInvoke_state]; exact hsteps.trans h⟩
abbrev vx_CVW (R : Room) (s : State) (args : Array Value) (own C : String) (index : Nat) (y : MethodName) (bytes : ByteArray) (maxL : Nat) (ret : Option FieldType) (hh : List (Nat × Nat × Nat × Nat)) (ws : List Cond) (rm : Room) (mc ms n : Nat) : Prop :=
  (rm.cells = mc ∧ rm.slots = ms ∧ rm.frames + 1 ≤ R.frames ∧ 8 + (maxL + 11) + rm.locals ≤ R.locals ∧ (∀ w ∈ ws, ∀ (a' : Array Value) (U : State), s.WarmedH U.vm → w.before a' U = true) ∧ Cond.codeWith y bytes maxL ret hh ∈ ws) ∧
  (Cond.codeWith y bytes maxL ret hh).before args s = true ∧ (Cond.initialized y.cls).before args s = true ∧ (y.cls ≠ "java/lang/invoke/MethodHandle" ∧ y.cls ≠ "java/lang/invoke/VarHandle") ∧
  (∀ sig, parseMethodDescriptor y.desc = some sig → n = sig.parameters.length) ∧ (Cond.methodLink own index y).before args s = true ∧ (Cond.instanceMethod y).before args s = true ∧ (Cond.selects C y y).before args s = true
theorem vx_cwVW {own C : String} {index maxL mc ms : Nat} {y : MethodName} {bytes : ByteArray} {ret : Option FieldType} {hh : List (Nat × Nat × Nat × Nat)} {Ts ws ws' : List Cond} {rm : Room} (n : Nat) (ht : ∀ w ∈ Ts, w.before args s = true) (hT : GoodIn Ts (wsV own index C y ws)) (hw : ws = Cond.codeWith y bytes maxL ret hh :: ws') (hrc : rm.cells = mc) (hrs : rm.slots = ms)
    (hd : y.cls = C ∧ y.cls ≠ "java/lang/invoke/MethodHandle" ∧ y.cls ≠ "java/lang/invoke/VarHandle" ∧ (parseMethodDescriptor y.desc).map (fun d => d.parameters.length) = some n) (hR : rm.frames + 1 ≤ R.frames ∧ 8 + (maxL + 11) + rm.locals ≤ R.locals) :
    vx_CVW R s args own C index y bytes maxL ret hh ws rm mc ms n := by
  obtain ⟨hC, hd⟩ := hd
  subst hC
  have ok : ∀ w ∈ wsV own index y.cls y ws, w.before args s = true := fun w h => ht w (hT w h).1
  have hG : GoodIn Ts ws := fun w h => hT w (by unfold wsV; exact List.mem_append_right _ h)
  have hc : Cond.codeWith y bytes maxL ret hh ∈ ws := by rw [hw]; exact List.mem_cons_self
  refine ⟨⟨hrc, hrs, hR.1, hR.2, pay_in ht hG, hc⟩, ht _ (hG _ hc).1, ok _ (by simp [wsV]), ⟨hd.1, hd.2.1⟩, fun sig h => ?_, ok _ (by simp [wsV]), ok _ (by simp [wsV]), ok _ (by simp [wsV])⟩
  have h2 := hd.2.2
  rw [h] at h2
  exact (Option.some.inj h2).symm
theorem vx_runVW {y : MethodName} {bytes cc : ByteArray} {maxL nL mc ms n index : Nat} {ret : Option FieldType} {hh : List (Nat × Nat × Nat × Nat)} {ws : List Cond} {rm : Room} {Pc : Array Value → State → Prop} {Qc : Array Value → State → Outcome → State → Prop} {free : Addr → Prop} {Ts : List Cond} {own C : String} {b : Addr} {As rest : List Value} {g : JFrame}
    (S : CallFix p m c cc nL s args Ts own) (hM : Met l y ws rm Pc Qc mc ms free) (cw : vx_CVW R s args own C index y bytes maxL ret hh ws rm mc ms n) (hp : PreV s H C b Pc As)
    (hg : g.method = m) (hn : As.length = n) (hsize : g.locals.size = nL) (hstack : g.stack = As.reverse ++ .ref b :: rest) (hW : 2 * g.monitorRoom + (rest.map fun v => v.category).sum ≤ 8) (hdg : decode cc g.pc = .ok (.invokevirtual index, 3)) (hf : cells + mc ≤ R.cells ∧ slots + ms ≤ R.slots) :
    va_Run p l e R s m args below meth c H locs cells slots mc ms g rest (Qc (Value.ref b :: As).toArray) free := by
  obtain ⟨⟨hrc, hrs, hfr, hlo, hws, hcw⟩, hcode, hini, hy, hlen, hl, hin, hse⟩ := cw
  have hK : Back l R p e below s args y 3 8 (PreOf R mc ms Pc) (PostOf Qc mc ms free) := va_backW (hh := hh) (bytes := bytes) (maxL := maxL) (ret := ret) hM hp.1 hrc hrs hfr hlo hws hcw (fun a' U hW => word_at hW (Or.inl (by first | rfl | simp [Cond.onTables, Cond.keeps, Cond.steady])) hini)
  obtain ⟨hx, hb, hml, ho, -⟩ := S
  obtain ⟨-, ⟨cellB, hcB, hoB, hclB⟩, hPc⟩ := hp
  intro T hT X
  obtain ⟨v, vm₁, ⟨U', l2, c2, s2⟩, hW₁, X', ⟨g', mk, t, L, e1, e2, hq, h1, hL, h2, h3⟩, st⟩ := vx_callVW X hx (C := C) (hh := hh) (bytes := bytes) (maxL := maxL) (ret := ret) ho hl hin hse hcode hy hK (by rw [hT]; exact hcB) hoB hclB hg (hsize.trans hml.symm) (argsL := As) (rest := rest) (fun sig h => hn.trans (hlen sig h)) hstack hW (by rw [hb]; exact hdg)
    (fun vm₁ hW₁ => ⟨hf.1, hf.2, hPc (T.setVm vm₁) hT hW₁⟩)
  dsimp only [Pt.U, Pt.locs, Pt.cells, Pt.slots] at X' e1 e2 h1 h2 h3 st
  subst h1; subst h2; subst h3
  exact ⟨v, (T.setVm vm₁).calling g' mk (Value.ref b :: As).toArray, t, U', L, hT, X', hL, e1, e2, hq, st⟩
section
variable {y : MethodName} {bytes cc : ByteArray} {maxL nL mc ms n index : Nat} {ret : Option FieldType} {ws : List Cond} {rm : Room} {Pc : Array Value → State → Prop} {Qc : Array Value → State → Outcome → State → Prop} {XC : String → State → State → Prop} {free : Addr → Prop} {Ts : List Cond} {own C : String} {b : Addr} {As rest : List Value} {g : JFrame}
theorem vx_runVX {hh : List (Nat × Nat × Nat × Nat)} (S : CallFix p m c cc nL s args Ts own) (hM : vx_Met l y ws rm Pc Qc XC mc ms free) (cw : vx_CVW R s args own C index y bytes maxL ret hh ws rm mc ms n) (hp : PreV s H C b Pc As)
    (hg : g.method = m) (hn : As.length = n) (hsize : g.locals.size = nL) (hstack : g.stack = As.reverse ++ .ref b :: rest) (hW : 2 * g.monitorRoom + (rest.map fun v => v.category).sum ≤ 8) (hdg : decode cc g.pc = .ok (.invokevirtual index, 3)) (hf : cells + mc ≤ R.cells ∧ slots + ms ≤ R.slots) :
    vx_Run p l e R s m args below meth c H locs cells slots mc ms g rest (Qc (Value.ref b :: As).toArray) XC free := by
  obtain ⟨⟨hrc, hrs, hfr, hlo, hws, hcw⟩, hcode, hini, hy, hlen, hl, hin, hse⟩ := cw
  have hK : vx_Back l R p e below s args y 3 8 (PreOf R mc ms Pc) (PostOf Qc mc ms free) (vx_Post XC mc ms free) := vx_backW (hh := hh) (bytes := bytes) (maxL := maxL) (ret := ret) hM hp.1 hrc hrs hfr hlo hws hcw (fun a' U hW => word_at hW (Or.inl (by first | rfl | simp [Cond.onTables, Cond.keeps, Cond.steady])) hini)
  obtain ⟨hx, hb, hml, ho, -⟩ := S
  obtain ⟨-, ⟨cellB, hcB, hoB, hclB⟩, hPc⟩ := hp
  intro T hT X
  rcases vx_callVX X hx (C := C) (hh := hh) (bytes := bytes) (maxL := maxL) (ret := ret) ho hl hin hse hcode hy hK (by rw [hT]; exact hcB) hoB hclB hg (hsize.trans hml.symm) (argsL := As) (rest := rest) (fun sig h => hn.trans (hlen sig h)) hstack hW (by rw [hb]; exact hdg)
    (fun vm₁ hW₁ => ⟨hf.1, hf.2, hPc (T.setVm vm₁) hT hW₁⟩) with ⟨v, vm₁, ⟨U', l2, c2, s2⟩, hW₁, X', ⟨g', mk, t, L, e1, e2, hq, h1, hL, h2, h3⟩, st⟩ | ⟨q, vm₁, ⟨U', l2, c2, s2⟩, hW₁, X', ⟨g', mk, t, L, E, ce, e1, e2, hq, hce, hcv, hcl, h1, hL, h2, h3⟩, st⟩
  · dsimp only [Pt.U, Pt.locs, Pt.cells, Pt.slots] at X' e1 e2 h1 h2 h3 st
    subst h1; subst h2; subst h3
    exact Or.inl ⟨v, (T.setVm vm₁).calling g' mk (Value.ref b :: As).toArray, t, U', L, hT, X', hL, e1, e2, hq, st⟩
  · dsimp only [Pt.U, Pt.locs, Pt.cells, Pt.slots] at X' e1 e2 h1 h2 h3 st hcl
    subst h1; subst h2; subst h3
    exact Or.inr ⟨q, (T.setVm vm₁).calling g' mk (Value.ref b :: As).toArray, t, U', L, E, ce, hT, X', hL, e1, e2, hq, hce, hcv, vx_cls hW₁ hcl, st⟩
theorem vx_runSX {hh : List (Nat × Nat × Nat × Nat)} (S : CallFix p m c cc nL s args Ts own) (hM : vx_Met l y ws rm Pc Qc XC mc ms free) (cw : vx_CSW R s args own index y bytes maxL ret hh ws rm mc ms n) (hp : PreS s H Pc As)
    (hg : g.method = m) (hn : As.length = n) (hsize : g.locals.size = nL) (hstack : g.stack = As.reverse ++ rest) (hW : 2 * g.monitorRoom + (rest.map fun v => v.category).sum ≤ 8) (hdg : decode cc g.pc = .ok (.invokestatic index, 3)) (hf : cells + mc ≤ R.cells ∧ slots + ms ≤ R.slots) :
    vx_Run p l e R s m args below meth c H locs cells slots mc ms g rest (Qc As.toArray) XC free := by
  obtain ⟨⟨hrc, hrs, hfr, hlo, hws, hcw⟩, hcode, hini, hy, hlen, hl, hstt⟩ := cw
  have hK : vx_Back l R p e below s args y 3 8 (PreOf R mc ms Pc) (PostOf Qc mc ms free) (vx_Post XC mc ms free) := vx_backW (hh := hh) (bytes := bytes) (maxL := maxL) (ret := ret) hM hp.1 hrc hrs hfr hlo hws hcw (fun a' U hW => word_at hW (Or.inl (by first | rfl | simp [Cond.onTables, Cond.keeps, Cond.steady])) hini)
  obtain ⟨hx, hb, hml, ho, -⟩ := S
  intro T hT X
  rcases vx_callSX X hx (hh := hh) (bytes := bytes) (maxL := maxL) (ret := ret) ho hl hstt hini hcode hy hK hg (hsize.trans hml.symm) (argsL := As) (rest := rest) (fun sig h => hn.trans (hlen sig h)) hstack hW (by rw [hb]; exact hdg)
    (fun vm₁ hW₁ => ⟨hf.1, hf.2, hp.2 (T.setVm vm₁) hT hW₁⟩) with ⟨v, vm₁, ⟨U', l2, c2, s2⟩, hW₁, X', ⟨g', mk, t, L, e1, e2, hq, h1, hL, h2, h3⟩, st⟩ | ⟨q, vm₁, ⟨U', l2, c2, s2⟩, hW₁, X', ⟨g', mk, t, L, E, ce, e1, e2, hq, hce, hcv, hcl, h1, hL, h2, h3⟩, st⟩
  · dsimp only [Pt.U, Pt.locs, Pt.cells, Pt.slots] at X' e1 e2 h1 h2 h3 st
    subst h1; subst h2; subst h3
    exact Or.inl ⟨v, (T.setVm vm₁).calling g' mk As.toArray, t, U', L, hT, X', hL, e1, e2, hq, st⟩
  · dsimp only [Pt.U, Pt.locs, Pt.cells, Pt.slots] at X' e1 e2 h1 h2 h3 st hcl
    subst h1; subst h2; subst h3
    exact Or.inr ⟨q, (T.setVm vm₁).calling g' mk As.toArray, t, U', L, E, ce, hT, X', hL, e1, e2, hq, hce, hcv, vx_cls hW₁ hcl, st⟩
end
end VXH
theorem vx_ofWH {l : Launch} {y : MethodName} {ws ws' : List Cond} {rm : Room} {Pc : Array Value → State → Prop} {Qc : Array Value → State → Outcome → State → Prop} {XC : String → State → State → Prop} {mc ms : Nat} {free : Addr → Prop} {cc : ByteArray} {maxL : Nat} {ret : Option FieldType} {hh : List (Nat × Nat × Nat × Nat)}
    (hy : plainName y.cls = true) (hw : ws = Cond.codeWith y cc maxL ret hh :: ws')
    (body : ∀ p e s m args below meth c s₁, BodyLoose p l y (headSpec ws rm) cc maxL ret e s m args below meth c s₁ → c.maxLocals = maxL → Pc args s →
      W p l e (headSpec ws rm).room s m args below meth c s.heap [] 0 0 (vx_MQ below Qc XC args s mc ms free) (entryFrame m args maxL)) : vx_Met l y ws rm Pc Qc XC mc ms free := by
  refine MetFree.of_bodyS (code := cc) (maxLocals := maxL) (ret := ret) hy ?_ ?_
  · intro args s m h hn
    obtain ⟨m9, meth, c, hn9, h1, h2, h3, h4, -, h5, h6, -⟩ := Cond.codeWith_spec (atoms_spec (ws := ws) h _ (by rw [hw]; exact List.mem_cons_self))
    cases hn.symm.trans hn9
    exact ⟨meth, c, h1, h2, h3, h4, h5, h6⟩
  · intro p e s m args below meth c s₁ B hml hP _
    have hh0 : s₁.heap = s.heap := by rw [B.state]; rfl
    obtain ⟨t, a1, o, b1, b2, b3⟩ := body p e s m args below meth c s₁ B hml hP s₁ hh0 (Stand.of_body B)
    exact ⟨t, o, a1, b1, b2, b3⟩
/-! ===== END ===== -/
end
section
/-! ===== BEGIN printed: names, fields, word lists, decode rows ===== -/
def RX0 : String := "WordMedium"
def TX0 : u_T := fun k => match k with
  | 0 => ("WordMedium", "buffer", "[I", true)
  | 1 => ("WordMedium", "pageWords", "[I", true)
  | 2 => ("WordMedium", "halfStamps", "[I", true)
  | 3 => ("WordMedium", "lostPages", "[Z", true)
  | 4 => ("WordMedium", "pageWritesBegun", "I", false)
  | 5 => ("WordMedium", "logWords", "[I", true)
  | 6 => ("WordMedium", "logFirst", "I", false)
  | 7 => ("WordMedium", "logForced", "I", false)
  | 8 => ("WordMedium", "logEnd", "I", false)
  | 9 => ("WordMedium", "rootWords", "[I", true)
  | 10 => ("WordMedium", "powerOn", "Z", false)
  | 11 => ("WordMedium", "writesUntilCut", "I", false)
  | _ => ("WordMedium", "leastWritesMade", "I", false)
def tyX0 : Nat → FieldType := fun k => match k with
  | 0 => .array .int
  | 1 => .array .int
  | 2 => .array .int
  | 3 => .array .boolean
  | 4 => .int
  | 5 => .array .int
  | 6 => .int
  | 7 => .int
  | 8 => .int
  | 9 => .array .int
  | 10 => .boolean
  | 11 => .int
  | _ => .int
abbrev wsX00 : List Cond := u_ws RX0 TX0 13
theorem nmX0 : ∀ a, a < 13 → ∀ b, b < 13 → a ≠ b → (TX0 a).2.1 ≠ (TX0 b).2.1 := by decide +kernel
theorem tyX0_ok : ∀ k, k < 13 → parseFieldDescriptor (TX0 k).2.2.1 = some (tyX0 k) := by decide +kernel
abbrev cX0_init : ByteArray := prog_1_method_1_code
def yX0_init : MethodName := ⟨RX0, "<init>", "()V"⟩
abbrev cX0_set : ByteArray := prog_1_method_2_code
def yX0_set : MethodName := ⟨RX0, "set", "(II)V"⟩
abbrev cX0_fill : ByteArray := prog_1_method_3_code
def yX0_fill : MethodName := ⟨RX0, "fill", "(II)V"⟩
abbrev cX0_get : ByteArray := prog_1_method_4_code
def yX0_get : MethodName := ⟨RX0, "get", "(I)I"⟩
abbrev cX0_sum : ByteArray := prog_1_method_5_code
def yX0_sum : MethodName := ⟨RX0, "sum", "()I"⟩
abbrev cX0_write : ByteArray := prog_1_method_6_code
def yX0_write : MethodName := ⟨RX0, "write", "(II)I"⟩
abbrev cX0_read : ByteArray := prog_1_method_7_code
def yX0_read : MethodName := ⟨RX0, "read", "(II)I"⟩
abbrev cX0_copy : ByteArray := prog_1_method_8_code
def yX0_copy : MethodName := ⟨RX0, "copy", "(II)I"⟩
abbrev cX0_lose : ByteArray := prog_1_method_9_code
def yX0_lose : MethodName := ⟨RX0, "lose", "(II)V"⟩
abbrev cX0_stamp : ByteArray := prog_1_method_10_code
def yX0_stamp : MethodName := ⟨RX0, "stamp", "(III)I"⟩
abbrev cX0_count : ByteArray := prog_1_method_11_code
def yX0_count : MethodName := ⟨RX0, "count", "(II)I"⟩
abbrev cX0_append : ByteArray := prog_1_method_12_code
def yX0_append : MethodName := ⟨RX0, "append", "(I)I"⟩
abbrev cX0_force : ByteArray := prog_1_method_13_code
def yX0_force : MethodName := ⟨RX0, "force", "(I)I"⟩
abbrev cX0_readLog : ByteArray := prog_1_method_14_code
def yX0_readLog : MethodName := ⟨RX0, "readLog", "(II)V"⟩
abbrev cX0_giveBack : ByteArray := prog_1_method_15_code
def yX0_giveBack : MethodName := ⟨RX0, "giveBack", "(I)V"⟩
abbrev cX0_log : ByteArray := prog_1_method_16_code
def yX0_log : MethodName := ⟨RX0, "log", "(I)I"⟩
abbrev cX0_setRoot : ByteArray := prog_1_method_17_code
def yX0_setRoot : MethodName := ⟨RX0, "setRoot", "(II)Z"⟩
abbrev cX0_root : ByteArray := prog_1_method_18_code
def yX0_root : MethodName := ⟨RX0, "root", "(I)I"⟩
abbrev cX0_writes : ByteArray := prog_1_method_19_code
def yX0_writes : MethodName := ⟨RX0, "writes", "()I"⟩
abbrev cX0_cutAfter : ByteArray := prog_1_method_20_code
def yX0_cutAfter : MethodName := ⟨RX0, "cutAfter", "(I)V"⟩
abbrev cX0_cut : ByteArray := prog_1_method_21_code
def yX0_cut : MethodName := ⟨RX0, "cut", "()Z"⟩
abbrev cX0_start : ByteArray := prog_1_method_22_code
def yX0_start : MethodName := ⟨RX0, "start", "()Z"⟩
abbrev cX0_isOn : ByteArray := prog_1_method_23_code
def yX0_isOn : MethodName := ⟨RX0, "isOn", "()Z"⟩
abbrev cX0_needPower : ByteArray := prog_1_method_24_code
def yX0_needPower : MethodName := ⟨RX0, "needPower", "()V"⟩
abbrev cX0_needIndex : ByteArray := prog_1_method_25_code
def yX0_needIndex : MethodName := ⟨RX0, "needIndex", "(II)V"⟩
abbrev cX0_needPage : ByteArray := prog_1_method_26_code
def yX0_needPage : MethodName := ⟨RX0, "needPage", "(II)V"⟩
abbrev cX0_needWordCount : ByteArray := prog_1_method_27_code
def yX0_needWordCount : MethodName := ⟨RX0, "needWordCount", "(I)V"⟩
abbrev cX0_needPlace : ByteArray := prog_1_method_28_code
def yX0_needPlace : MethodName := ⟨RX0, "needPlace", "(II)V"⟩
abbrev cX0_pageIndex : ByteArray := prog_1_method_29_code
def yX0_pageIndex : MethodName := ⟨RX0, "pageIndex", "(II)I"⟩
abbrev cX0_logSlot : ByteArray := prog_1_method_30_code
def yX0_logSlot : MethodName := ⟨RX0, "logSlot", "(I)I"⟩
abbrev cX0_pageState : ByteArray := prog_1_method_31_code
def yX0_pageState : MethodName := ⟨RX0, "pageState", "(I)I"⟩
abbrev cX0_writePage : ByteArray := prog_1_method_32_code
def yX0_writePage : MethodName := ⟨RX0, "writePage", "(I[II)I"⟩
abbrev cX0_makeLeastWrite : ByteArray := prog_1_method_33_code
def yX0_makeLeastWrite : MethodName := ⟨RX0, "makeLeastWrite", "()Z"⟩
abbrev cX0_failPower : ByteArray := prog_1_method_34_code
def yX0_failPower : MethodName := ⟨RX0, "failPower", "()V"⟩
def RX1 : String := "WordMediumModel"
def TX1 : u_T := fun k => match k with
  | 0 => ("WordMediumModel", "thrown", "I", false)
  | 1 => ("WordMediumModel", "pages", "[I", true)
  | 2 => ("WordMediumModel", "stamps", "[I", true)
  | 3 => ("WordMediumModel", "lost", "[Z", true)
  | 4 => ("WordMediumModel", "log", "[I", true)
  | 5 => ("WordMediumModel", "roots", "[I", true)
  | 6 => ("WordMediumModel", "buffer", "[I", true)
  | 7 => ("WordMediumModel", "first", "I", false)
  | 8 => ("WordMediumModel", "forced", "I", false)
  | 9 => ("WordMediumModel", "end", "I", false)
  | 10 => ("WordMediumModel", "pageWrites", "I", false)
  | 11 => ("WordMediumModel", "made", "I", false)
  | 12 => ("WordMediumModel", "off", "Z", false)
  | _ => ("WordMediumModel", "left", "I", false)
def tyX1 : Nat → FieldType := fun k => match k with
  | 0 => .int
  | 1 => .array .int
  | 2 => .array .int
  | 3 => .array .boolean
  | 4 => .array .int
  | 5 => .array .int
  | 6 => .array .int
  | 7 => .int
  | 8 => .int
  | 9 => .int
  | 10 => .int
  | 11 => .int
  | 12 => .boolean
  | _ => .int
abbrev wsX10 : List Cond := u_ws RX1 TX1 14
theorem nmX1 : ∀ a, a < 14 → ∀ b, b < 14 → a ≠ b → (TX1 a).2.1 ≠ (TX1 b).2.1 := by decide +kernel
theorem tyX1_ok : ∀ k, k < 14 → parseFieldDescriptor (TX1 k).2.2.1 = some (tyX1 k) := by decide +kernel
abbrev cX1_init : ByteArray := prog_3_method_1_code
def yX1_init : MethodName := ⟨RX1, "<init>", "()V"⟩
abbrev cX1_thrown : ByteArray := prog_3_method_2_code
def yX1_thrown : MethodName := ⟨RX1, "thrown", "()I"⟩
abbrev cX1_refused : ByteArray := prog_3_method_3_code
def yX1_refused : MethodName := ⟨RX1, "refused", "(ZZ)Z"⟩
abbrev cX1_in : ByteArray := prog_3_method_4_code
def yX1_in : MethodName := ⟨RX1, "in", "(III)Z"⟩
abbrev cX1_isPage : ByteArray := prog_3_method_5_code
def yX1_isPage : MethodName := ⟨RX1, "isPage", "(II)Z"⟩
abbrev cX1_fail : ByteArray := prog_3_method_6_code
def yX1_fail : MethodName := ⟨RX1, "fail", "()V"⟩
abbrev cX1_canWrite : ByteArray := prog_3_method_7_code
def yX1_canWrite : MethodName := ⟨RX1, "canWrite", "()Z"⟩
abbrev cX1_set : ByteArray := prog_3_method_8_code
def yX1_set : MethodName := ⟨RX1, "set", "(II)V"⟩
abbrev cX1_fill : ByteArray := prog_3_method_9_code
def yX1_fill : MethodName := ⟨RX1, "fill", "(II)V"⟩
abbrev cX1_get : ByteArray := prog_3_method_10_code
def yX1_get : MethodName := ⟨RX1, "get", "(I)I"⟩
abbrev cX1_sum : ByteArray := prog_3_method_11_code
def yX1_sum : MethodName := ⟨RX1, "sum", "()I"⟩
abbrev cX1_place : ByteArray := prog_3_method_12_code
def yX1_place : MethodName := ⟨RX1, "place", "(II)I"⟩
abbrev cX1_isTorn : ByteArray := prog_3_method_13_code
def yX1_isTorn : MethodName := ⟨RX1, "isTorn", "(I)Z"⟩
abbrev cX1_stateOf : ByteArray := prog_3_method_14_code
def yX1_stateOf : MethodName := ⟨RX1, "stateOf", "(I)I"⟩
abbrev cX1_writePage : ByteArray := prog_3_method_15_code
def yX1_writePage : MethodName := ⟨RX1, "writePage", "(IIZ)I"⟩
abbrev cX1_write : ByteArray := prog_3_method_16_code
def yX1_write : MethodName := ⟨RX1, "write", "(II)I"⟩
abbrev cX1_read : ByteArray := prog_3_method_17_code
def yX1_read : MethodName := ⟨RX1, "read", "(II)I"⟩
abbrev cX1_copy : ByteArray := prog_3_method_18_code
def yX1_copy : MethodName := ⟨RX1, "copy", "(II)I"⟩
abbrev cX1_append : ByteArray := prog_3_method_19_code
def yX1_append : MethodName := ⟨RX1, "append", "(I)I"⟩
abbrev cX1_force : ByteArray := prog_3_method_20_code
def yX1_force : MethodName := ⟨RX1, "force", "(I)I"⟩
abbrev cX1_readLog : ByteArray := prog_3_method_21_code
def yX1_readLog : MethodName := ⟨RX1, "readLog", "(II)V"⟩
abbrev cX1_giveBack : ByteArray := prog_3_method_22_code
def yX1_giveBack : MethodName := ⟨RX1, "giveBack", "(I)V"⟩
abbrev cX1_log : ByteArray := prog_3_method_23_code
def yX1_log : MethodName := ⟨RX1, "log", "(I)I"⟩
abbrev cX1_setRoot : ByteArray := prog_3_method_24_code
def yX1_setRoot : MethodName := ⟨RX1, "setRoot", "(II)Z"⟩
abbrev cX1_root : ByteArray := prog_3_method_25_code
def yX1_root : MethodName := ⟨RX1, "root", "(I)I"⟩
abbrev cX1_lose : ByteArray := prog_3_method_26_code
def yX1_lose : MethodName := ⟨RX1, "lose", "(II)V"⟩
abbrev cX1_stamp : ByteArray := prog_3_method_27_code
def yX1_stamp : MethodName := ⟨RX1, "stamp", "(III)I"⟩
abbrev cX1_count : ByteArray := prog_3_method_28_code
def yX1_count : MethodName := ⟨RX1, "count", "(II)I"⟩
abbrev cX1_writes : ByteArray := prog_3_method_29_code
def yX1_writes : MethodName := ⟨RX1, "writes", "()I"⟩
abbrev cX1_cutAfter : ByteArray := prog_3_method_30_code
def yX1_cutAfter : MethodName := ⟨RX1, "cutAfter", "(I)V"⟩
abbrev cX1_cut : ByteArray := prog_3_method_31_code
def yX1_cut : MethodName := ⟨RX1, "cut", "()Z"⟩
abbrev cX1_start : ByteArray := prog_3_method_32_code
def yX1_start : MethodName := ⟨RX1, "start", "()Z"⟩
abbrev cX1_isOn : ByteArray := prog_3_method_33_code
def yX1_isOn : MethodName := ⟨RX1, "isOn", "()Z"⟩
def RJx145de : String := "java/io/Serializable"
def TJx145de : u_T := fun k => match k with
  | _ => ("", "", "", false)
def tyJx145de : Nat → FieldType := fun k => match k with
  | _ => .int
abbrev wsJx145de0 : List Cond := u_ws RJx145de TJx145de 0
theorem nmJx145de : ∀ a, a < 0 → ∀ b, b < 0 → a ≠ b → (TJx145de a).2.1 ≠ (TJx145de b).2.1 := by decide +kernel
theorem tyJx145de_ok : ∀ k, k < 0 → parseFieldDescriptor (TJx145de k).2.2.1 = some (tyJx145de k) := by decide +kernel
def RJ0 : String := "java/lang/String"
def TJ0 : u_T := fun k => match k with
  | _ => ("", "", "", false)
def tyJ0 : Nat → FieldType := fun k => match k with
  | _ => .int
abbrev wsJ00 : List Cond := u_ws RJ0 TJ0 0
theorem nmJ0 : ∀ a, a < 0 → ∀ b, b < 0 → a ≠ b → (TJ0 a).2.1 ≠ (TJ0 b).2.1 := by decide +kernel
theorem tyJ0_ok : ∀ k, k < 0 → parseFieldDescriptor (TJ0 k).2.2.1 = some (tyJ0 k) := by decide +kernel
def RJ10 : String := "java/lang/System"
def TJ10 : u_T := fun k => match k with
  | _ => ("", "", "", false)
def tyJ10 : Nat → FieldType := fun k => match k with
  | _ => .int
abbrev wsJ100 : List Cond := u_ws RJ10 TJ10 0
theorem nmJ10 : ∀ a, a < 0 → ∀ b, b < 0 → a ≠ b → (TJ10 a).2.1 ≠ (TJ10 b).2.1 := by decide +kernel
theorem tyJ10_ok : ∀ k, k < 0 → parseFieldDescriptor (TJ10 k).2.2.1 = some (tyJ10 k) := by decide +kernel
def RJ7 : String := "java/util/Arrays"
def TJ7 : u_T := fun k => match k with
  | _ => ("", "", "", false)
def tyJ7 : Nat → FieldType := fun k => match k with
  | _ => .int
abbrev wsJ70 : List Cond := u_ws RJ7 TJ7 0
theorem nmJ7 : ∀ a, a < 0 → ∀ b, b < 0 → a ≠ b → (TJ7 a).2.1 ≠ (TJ7 b).2.1 := by decide +kernel
theorem tyJ7_ok : ∀ k, k < 0 → parseFieldDescriptor (TJ7 k).2.2.1 = some (tyJ7 k) := by decide +kernel
abbrev cJ7_fill_53178 : ByteArray := prog_12_method_103_code
def yJ7_fill_53178 : MethodName := ⟨RJ7, "fill", "([II)V"⟩
def RL : String := "WordMediumLaw"
abbrev cL_set : ByteArray := method_3_code
def yL_set : MethodName := ⟨RL, "set", "(LWordMedium;II)I"⟩
abbrev cL_fill : ByteArray := method_4_code
def yL_fill : MethodName := ⟨RL, "fill", "(LWordMedium;II)I"⟩
abbrev cL_get : ByteArray := method_5_code
def yL_get : MethodName := ⟨RL, "get", "(LWordMedium;I[J)I"⟩
abbrev cL_write : ByteArray := method_6_code
def yL_write : MethodName := ⟨RL, "write", "(LWordMedium;II[J)I"⟩
abbrev cL_read : ByteArray := method_7_code
def yL_read : MethodName := ⟨RL, "read", "(LWordMedium;II[J)I"⟩
abbrev cL_copy : ByteArray := method_8_code
def yL_copy : MethodName := ⟨RL, "copy", "(LWordMedium;II[J)I"⟩
abbrev cL_append : ByteArray := method_9_code
def yL_append : MethodName := ⟨RL, "append", "(LWordMedium;I[J)I"⟩
abbrev cL_force : ByteArray := method_10_code
def yL_force : MethodName := ⟨RL, "force", "(LWordMedium;I[J)I"⟩
abbrev cL_readLog : ByteArray := method_11_code
def yL_readLog : MethodName := ⟨RL, "readLog", "(LWordMedium;II)I"⟩
abbrev cL_giveBack : ByteArray := method_12_code
def yL_giveBack : MethodName := ⟨RL, "giveBack", "(LWordMedium;I)I"⟩
abbrev cL_log : ByteArray := method_13_code
def yL_log : MethodName := ⟨RL, "log", "(LWordMedium;I[J)I"⟩
abbrev cL_setRoot : ByteArray := method_14_code
def yL_setRoot : MethodName := ⟨RL, "setRoot", "(LWordMedium;II[J)I"⟩
abbrev cL_root : ByteArray := method_15_code
def yL_root : MethodName := ⟨RL, "root", "(LWordMedium;I[J)I"⟩
abbrev cL_lose : ByteArray := method_16_code
def yL_lose : MethodName := ⟨RL, "lose", "(LWordMedium;II)I"⟩
abbrev cL_stamp : ByteArray := method_17_code
def yL_stamp : MethodName := ⟨RL, "stamp", "(LWordMedium;III[J)I"⟩
abbrev cL_count : ByteArray := method_18_code
def yL_count : MethodName := ⟨RL, "count", "(LWordMedium;II[J)I"⟩
abbrev cL_cutAfter : ByteArray := method_19_code
def yL_cutAfter : MethodName := ⟨RL, "cutAfter", "(LWordMedium;I)I"⟩
abbrev cL_law : ByteArray := code
def yL_law : MethodName := ⟨RL, "law", "([I)Z"⟩
def wsX0_init : List Cond := .code yX0_init cX0_init 1 none :: ([.methodLink RX0 1 objectInit, .instanceMethod objectInit, .code objectInit ⟨#[0xb1]⟩ 1 none, .arrayClass .int, .fieldLink RX0 9 "WordMedium" "buffer" "[I", .constant RX0 13 (32768), .fieldLink RX0 14 "WordMedium" "pageWords" "[I", .fieldLink RX0 17 "WordMedium" "halfStamps" "[I", .arrayClass .boolean, .fieldLink RX0 20 "WordMedium" "lostPages" "[Z", .constant RX0 24 (65536), .fieldLink RX0 25 "WordMedium" "logWords" "[I", .fieldLink RX0 28 "WordMedium" "rootWords" "[I", .fieldLink RX0 31 "WordMedium" "powerOn" "Z", .fieldLink RX0 35 "WordMedium" "writesUntilCut" "I"] ++ wsX00)
def wsX0_needPower : List Cond := .code yX0_needPower cX0_needPower 1 none :: ([.classLink RX0 73 "java/lang/IllegalStateException", .initialized "java/lang/IllegalStateException", .fieldLink RX0 31 "WordMedium" "powerOn" "Z"] ++ wsX00 ++ (vx_atS RX0 77 "java/lang/IllegalStateException" ["java/lang/RuntimeException", "java/lang/Exception"]).filter goodWord)
def wsX0_needIndex : List Cond := .code yX0_needIndex cX0_needIndex 2 none :: ([.classLink RX0 103 "java/lang/IndexOutOfBoundsException", .initialized "java/lang/IndexOutOfBoundsException"] ++ (vx_atS RX0 107 "java/lang/IndexOutOfBoundsException" ["java/lang/RuntimeException", "java/lang/Exception"]).filter goodWord)
def wsX0_set : List Cond := .code yX0_set cX0_set 3 none :: ([.fieldLink RX0 9 "WordMedium" "buffer" "[I", .methodLink RX0 39 yX0_needPower, .instanceMethod yX0_needPower, .selects RX0 yX0_needPower yX0_needPower, .initialized RX0, .code yX0_needPower cX0_needPower 1 none, .classLink RX0 73 "java/lang/IllegalStateException", .initialized "java/lang/IllegalStateException", .fieldLink RX0 31 "WordMedium" "powerOn" "Z", .methodLink RX0 42 yX0_needIndex, .static yX0_needIndex, .code yX0_needIndex cX0_needIndex 2 none, .classLink RX0 103 "java/lang/IndexOutOfBoundsException", .initialized "java/lang/IndexOutOfBoundsException"] ++ wsX00 ++ (vx_atS RX0 77 "java/lang/IllegalStateException" ["java/lang/RuntimeException", "java/lang/Exception"]).filter goodWord ++ (vx_atS RX0 107 "java/lang/IndexOutOfBoundsException" ["java/lang/RuntimeException", "java/lang/Exception"]).filter goodWord)
def wsX0_fill : List Cond := .code yX0_fill cX0_fill 4 none :: ([.fieldLink RX0 9 "WordMedium" "buffer" "[I", .methodLink RX0 39 yX0_needPower, .instanceMethod yX0_needPower, .selects RX0 yX0_needPower yX0_needPower, .initialized RX0, .code yX0_needPower cX0_needPower 1 none, .classLink RX0 73 "java/lang/IllegalStateException", .initialized "java/lang/IllegalStateException", .fieldLink RX0 31 "WordMedium" "powerOn" "Z"] ++ wsX00 ++ (vx_atS RX0 77 "java/lang/IllegalStateException" ["java/lang/RuntimeException", "java/lang/Exception"]).filter goodWord)
def wsX0_get : List Cond := .code yX0_get cX0_get 2 (some .int) :: ([.fieldLink RX0 9 "WordMedium" "buffer" "[I", .methodLink RX0 42 yX0_needIndex, .static yX0_needIndex, .initialized RX0, .code yX0_needIndex cX0_needIndex 2 none, .classLink RX0 103 "java/lang/IndexOutOfBoundsException", .initialized "java/lang/IndexOutOfBoundsException"] ++ wsX00 ++ (vx_atS RX0 107 "java/lang/IndexOutOfBoundsException" ["java/lang/RuntimeException", "java/lang/Exception"]).filter goodWord)
def wsX0_sum : List Cond := .code yX0_sum cX0_sum 3 (some .int) :: ([.fieldLink RX0 9 "WordMedium" "buffer" "[I"] ++ wsX00)
def wsX0_needPage : List Cond := .code yX0_needPage cX0_needPage 3 none :: ([.methodLink RX0 42 yX0_needIndex, .static yX0_needIndex, .initialized RX0, .code yX0_needIndex cX0_needIndex 2 none, .classLink RX0 103 "java/lang/IndexOutOfBoundsException", .initialized "java/lang/IndexOutOfBoundsException"] ++ (vx_atS RX0 107 "java/lang/IndexOutOfBoundsException" ["java/lang/RuntimeException", "java/lang/Exception"]).filter goodWord)
def wsX0_pageIndex : List Cond := .code yX0_pageIndex cX0_pageIndex 2 (some .int) :: ([])
def wsJ7_fill_53178 : List Cond := .code yJ7_fill_53178 cJ7_fill_53178 4 none :: ([])
def wsX0_failPower : List Cond := .code yX0_failPower cX0_failPower 1 none :: ([.fieldLink RX0 31 "WordMedium" "powerOn" "Z", .fieldLink RX0 96 "WordMedium" "logForced" "I", .fieldLink RX0 84 "WordMedium" "logEnd" "I", .fieldLink RX0 9 "WordMedium" "buffer" "[I", .methodLink RX0 61 yJ7_fill_53178, .static yJ7_fill_53178, .initialized RJ7, .code yJ7_fill_53178 cJ7_fill_53178 4 none] ++ wsX00)
def wsX0_makeLeastWrite : List Cond := .code yX0_makeLeastWrite cX0_makeLeastWrite 1 (some .boolean) :: ([.fieldLink RX0 35 "WordMedium" "writesUntilCut" "I", .fieldLink RX0 108 "WordMedium" "leastWritesMade" "I", .methodLink RX0 116 yX0_failPower, .instanceMethod yX0_failPower, .selects RX0 yX0_failPower yX0_failPower, .initialized RX0, .code yX0_failPower cX0_failPower 1 none, .fieldLink RX0 31 "WordMedium" "powerOn" "Z", .fieldLink RX0 96 "WordMedium" "logForced" "I", .fieldLink RX0 84 "WordMedium" "logEnd" "I", .fieldLink RX0 9 "WordMedium" "buffer" "[I", .methodLink RX0 61 yJ7_fill_53178, .static yJ7_fill_53178, .initialized RJ7, .code yJ7_fill_53178 cJ7_fill_53178 4 none] ++ wsX00)
def wsX0_writePage_r1 : List Cond := [Cond.fieldLink RX0 128 "WordMedium" "pageWritesBegun" "I", Cond.fieldLink RX0 14 "WordMedium" "pageWords" "[I", Cond.methodLink RX0 67 arraycopyName, Cond.native arraycopyName, Cond.static arraycopyName, Cond.initialized "java/lang/System", Cond.fieldLink RX0 17 "WordMedium" "halfStamps" "[I", Cond.fieldLink RX0 20 "WordMedium" "lostPages" "[Z", Cond.methodLink RX0 99 yX0_makeLeastWrite, Cond.instanceMethod yX0_makeLeastWrite, Cond.selects RX0 yX0_makeLeastWrite yX0_makeLeastWrite, Cond.initialized RX0, Cond.code yX0_makeLeastWrite cX0_makeLeastWrite 1 (some .boolean), Cond.fieldLink RX0 35 "WordMedium" "writesUntilCut" "I", Cond.fieldLink RX0 108 "WordMedium" "leastWritesMade" "I", Cond.methodLink RX0 116 yX0_failPower, Cond.instanceMethod yX0_failPower, Cond.selects RX0 yX0_failPower yX0_failPower, Cond.code yX0_failPower cX0_failPower 1 none, Cond.fieldLink RX0 31 "WordMedium" "powerOn" "Z", Cond.fieldLink RX0 96 "WordMedium" "logForced" "I", Cond.fieldLink RX0 84 "WordMedium" "logEnd" "I", Cond.fieldLink RX0 9 "WordMedium" "buffer" "[I", Cond.methodLink RX0 61 yJ7_fill_53178]
def wsX0_writePage_r2 : List Cond := [Cond.static yJ7_fill_53178, Cond.initialized RJ7, Cond.code yJ7_fill_53178 cJ7_fill_53178 4 none]
def wsX0_writePage : List Cond := .code yX0_writePage cX0_writePage 6 (some .int) :: ((wsX0_writePage_r1 ++ wsX0_writePage_r2) ++ wsX00)
def wsX0_write_r1 : List Cond := [Cond.fieldLink RX0 9 "WordMedium" "buffer" "[I", Cond.methodLink RX0 39 yX0_needPower, Cond.instanceMethod yX0_needPower, Cond.selects RX0 yX0_needPower yX0_needPower, Cond.initialized RX0, Cond.code yX0_needPower cX0_needPower 1 none, Cond.classLink RX0 73 "java/lang/IllegalStateException", Cond.initialized "java/lang/IllegalStateException", Cond.fieldLink RX0 31 "WordMedium" "powerOn" "Z", Cond.methodLink RX0 46 yX0_needPage, Cond.instanceMethod yX0_needPage, Cond.selects RX0 yX0_needPage yX0_needPage, Cond.code yX0_needPage cX0_needPage 3 none, Cond.methodLink RX0 42 yX0_needIndex, Cond.static yX0_needIndex, Cond.code yX0_needIndex cX0_needIndex 2 none, Cond.classLink RX0 103 "java/lang/IndexOutOfBoundsException", Cond.initialized "java/lang/IndexOutOfBoundsException", Cond.methodLink RX0 49 yX0_pageIndex, Cond.static yX0_pageIndex, Cond.code yX0_pageIndex cX0_pageIndex 2 (some .int), Cond.methodLink RX0 53 yX0_writePage, Cond.instanceMethod yX0_writePage, Cond.selects RX0 yX0_writePage yX0_writePage]
def wsX0_write_r2 : List Cond := [Cond.code yX0_writePage cX0_writePage 6 (some .int), Cond.fieldLink RX0 128 "WordMedium" "pageWritesBegun" "I", Cond.fieldLink RX0 14 "WordMedium" "pageWords" "[I", Cond.methodLink RX0 67 arraycopyName, Cond.native arraycopyName, Cond.static arraycopyName, Cond.initialized "java/lang/System", Cond.fieldLink RX0 17 "WordMedium" "halfStamps" "[I", Cond.fieldLink RX0 20 "WordMedium" "lostPages" "[Z", Cond.methodLink RX0 99 yX0_makeLeastWrite, Cond.instanceMethod yX0_makeLeastWrite, Cond.selects RX0 yX0_makeLeastWrite yX0_makeLeastWrite, Cond.code yX0_makeLeastWrite cX0_makeLeastWrite 1 (some .boolean), Cond.fieldLink RX0 35 "WordMedium" "writesUntilCut" "I", Cond.fieldLink RX0 108 "WordMedium" "leastWritesMade" "I", Cond.methodLink RX0 116 yX0_failPower, Cond.instanceMethod yX0_failPower, Cond.selects RX0 yX0_failPower yX0_failPower, Cond.code yX0_failPower cX0_failPower 1 none, Cond.fieldLink RX0 96 "WordMedium" "logForced" "I", Cond.fieldLink RX0 84 "WordMedium" "logEnd" "I", Cond.methodLink RX0 61 yJ7_fill_53178, Cond.static yJ7_fill_53178, Cond.initialized RJ7]
def wsX0_write_r3 : List Cond := [Cond.code yJ7_fill_53178 cJ7_fill_53178 4 none]
def wsX0_write : List Cond := .code yX0_write cX0_write 3 (some .int) :: ((wsX0_write_r1 ++ (wsX0_write_r2 ++ wsX0_write_r3)) ++ wsX00 ++ (vx_atS RX0 77 "java/lang/IllegalStateException" ["java/lang/RuntimeException", "java/lang/Exception"]).filter goodWord ++ (vx_atS RX0 107 "java/lang/IndexOutOfBoundsException" ["java/lang/RuntimeException", "java/lang/Exception"]).filter goodWord)
def wsX0_pageState : List Cond := .code yX0_pageState cX0_pageState 2 (some .int) :: ([.fieldLink RX0 20 "WordMedium" "lostPages" "[Z", .fieldLink RX0 17 "WordMedium" "halfStamps" "[I"] ++ wsX00)
def wsX0_read_r1 : List Cond := [Cond.fieldLink RX0 9 "WordMedium" "buffer" "[I", Cond.fieldLink RX0 14 "WordMedium" "pageWords" "[I", Cond.methodLink RX0 67 arraycopyName, Cond.native arraycopyName, Cond.static arraycopyName, Cond.initialized "java/lang/System", Cond.methodLink RX0 39 yX0_needPower, Cond.instanceMethod yX0_needPower, Cond.selects RX0 yX0_needPower yX0_needPower, Cond.initialized RX0, Cond.code yX0_needPower cX0_needPower 1 none, Cond.classLink RX0 73 "java/lang/IllegalStateException", Cond.initialized "java/lang/IllegalStateException", Cond.fieldLink RX0 31 "WordMedium" "powerOn" "Z", Cond.methodLink RX0 46 yX0_needPage, Cond.instanceMethod yX0_needPage, Cond.selects RX0 yX0_needPage yX0_needPage, Cond.code yX0_needPage cX0_needPage 3 none, Cond.methodLink RX0 42 yX0_needIndex, Cond.static yX0_needIndex, Cond.code yX0_needIndex cX0_needIndex 2 none, Cond.classLink RX0 103 "java/lang/IndexOutOfBoundsException", Cond.initialized "java/lang/IndexOutOfBoundsException", Cond.methodLink RX0 49 yX0_pageIndex]
def wsX0_read_r2 : List Cond := [Cond.static yX0_pageIndex, Cond.code yX0_pageIndex cX0_pageIndex 2 (some .int), Cond.methodLink RX0 57 yX0_pageState, Cond.instanceMethod yX0_pageState, Cond.selects RX0 yX0_pageState yX0_pageState, Cond.code yX0_pageState cX0_pageState 2 (some .int), Cond.fieldLink RX0 20 "WordMedium" "lostPages" "[Z", Cond.fieldLink RX0 17 "WordMedium" "halfStamps" "[I", Cond.methodLink RX0 61 yJ7_fill_53178, Cond.static yJ7_fill_53178, Cond.initialized RJ7, Cond.code yJ7_fill_53178 cJ7_fill_53178 4 none]
def wsX0_read : List Cond := .code yX0_read cX0_read 5 (some .int) :: ((wsX0_read_r1 ++ wsX0_read_r2) ++ wsX00 ++ (vx_atS RX0 77 "java/lang/IllegalStateException" ["java/lang/RuntimeException", "java/lang/Exception"]).filter goodWord ++ (vx_atS RX0 107 "java/lang/IndexOutOfBoundsException" ["java/lang/RuntimeException", "java/lang/Exception"]).filter goodWord)
def wsX0_copy_r1 : List Cond := [Cond.classLink RX0 73 "java/lang/IllegalStateException", Cond.initialized "java/lang/IllegalStateException", Cond.fieldLink RX0 14 "WordMedium" "pageWords" "[I", Cond.methodLink RX0 39 yX0_needPower, Cond.instanceMethod yX0_needPower, Cond.selects RX0 yX0_needPower yX0_needPower, Cond.initialized RX0, Cond.code yX0_needPower cX0_needPower 1 none, Cond.fieldLink RX0 31 "WordMedium" "powerOn" "Z", Cond.methodLink RX0 46 yX0_needPage, Cond.instanceMethod yX0_needPage, Cond.selects RX0 yX0_needPage yX0_needPage, Cond.code yX0_needPage cX0_needPage 3 none, Cond.methodLink RX0 42 yX0_needIndex, Cond.static yX0_needIndex, Cond.code yX0_needIndex cX0_needIndex 2 none, Cond.classLink RX0 103 "java/lang/IndexOutOfBoundsException", Cond.initialized "java/lang/IndexOutOfBoundsException", Cond.methodLink RX0 49 yX0_pageIndex, Cond.static yX0_pageIndex, Cond.code yX0_pageIndex cX0_pageIndex 2 (some .int), Cond.methodLink RX0 57 yX0_pageState, Cond.instanceMethod yX0_pageState, Cond.selects RX0 yX0_pageState yX0_pageState]
def wsX0_copy_r2 : List Cond := [Cond.code yX0_pageState cX0_pageState 2 (some .int), Cond.fieldLink RX0 20 "WordMedium" "lostPages" "[Z", Cond.fieldLink RX0 17 "WordMedium" "halfStamps" "[I", Cond.methodLink RX0 53 yX0_writePage, Cond.instanceMethod yX0_writePage, Cond.selects RX0 yX0_writePage yX0_writePage, Cond.code yX0_writePage cX0_writePage 6 (some .int), Cond.fieldLink RX0 128 "WordMedium" "pageWritesBegun" "I", Cond.methodLink RX0 67 arraycopyName, Cond.native arraycopyName, Cond.static arraycopyName, Cond.initialized "java/lang/System", Cond.methodLink RX0 99 yX0_makeLeastWrite, Cond.instanceMethod yX0_makeLeastWrite, Cond.selects RX0 yX0_makeLeastWrite yX0_makeLeastWrite, Cond.code yX0_makeLeastWrite cX0_makeLeastWrite 1 (some .boolean), Cond.fieldLink RX0 35 "WordMedium" "writesUntilCut" "I", Cond.fieldLink RX0 108 "WordMedium" "leastWritesMade" "I", Cond.methodLink RX0 116 yX0_failPower, Cond.instanceMethod yX0_failPower, Cond.selects RX0 yX0_failPower yX0_failPower, Cond.code yX0_failPower cX0_failPower 1 none, Cond.fieldLink RX0 96 "WordMedium" "logForced" "I", Cond.fieldLink RX0 84 "WordMedium" "logEnd" "I"]
def wsX0_copy_r3 : List Cond := [Cond.fieldLink RX0 9 "WordMedium" "buffer" "[I", Cond.methodLink RX0 61 yJ7_fill_53178, Cond.static yJ7_fill_53178, Cond.initialized RJ7, Cond.code yJ7_fill_53178 cJ7_fill_53178 4 none]
def wsX0_copy : List Cond := .code yX0_copy cX0_copy 4 (some .int) :: ((wsX0_copy_r1 ++ (wsX0_copy_r2 ++ wsX0_copy_r3)) ++ wsX00 ++ (vx_atS RX0 77 "java/lang/IllegalStateException" ["java/lang/RuntimeException", "java/lang/Exception"]).filter goodWord ++ (vx_atS RX0 107 "java/lang/IndexOutOfBoundsException" ["java/lang/RuntimeException", "java/lang/Exception"]).filter goodWord)
def wsX0_lose : List Cond := .code yX0_lose cX0_lose 3 none :: ([.fieldLink RX0 20 "WordMedium" "lostPages" "[Z", .methodLink RX0 46 yX0_needPage, .instanceMethod yX0_needPage, .selects RX0 yX0_needPage yX0_needPage, .initialized RX0, .code yX0_needPage cX0_needPage 3 none, .methodLink RX0 42 yX0_needIndex, .static yX0_needIndex, .code yX0_needIndex cX0_needIndex 2 none, .classLink RX0 103 "java/lang/IndexOutOfBoundsException", .initialized "java/lang/IndexOutOfBoundsException", .methodLink RX0 49 yX0_pageIndex, .static yX0_pageIndex, .code yX0_pageIndex cX0_pageIndex 2 (some .int)] ++ wsX00 ++ (vx_atS RX0 107 "java/lang/IndexOutOfBoundsException" ["java/lang/RuntimeException", "java/lang/Exception"]).filter goodWord)
def wsX0_stamp : List Cond := .code yX0_stamp cX0_stamp 4 (some .int) :: ([.fieldLink RX0 17 "WordMedium" "halfStamps" "[I", .methodLink RX0 46 yX0_needPage, .instanceMethod yX0_needPage, .selects RX0 yX0_needPage yX0_needPage, .initialized RX0, .code yX0_needPage cX0_needPage 3 none, .methodLink RX0 42 yX0_needIndex, .static yX0_needIndex, .code yX0_needIndex cX0_needIndex 2 none, .classLink RX0 103 "java/lang/IndexOutOfBoundsException", .initialized "java/lang/IndexOutOfBoundsException", .methodLink RX0 49 yX0_pageIndex, .static yX0_pageIndex, .code yX0_pageIndex cX0_pageIndex 2 (some .int)] ++ wsX00 ++ (vx_atS RX0 107 "java/lang/IndexOutOfBoundsException" ["java/lang/RuntimeException", "java/lang/Exception"]).filter goodWord)
def wsX0_count : List Cond := .code yX0_count cX0_count 5 (some .int) :: ([.methodLink RX0 42 yX0_needIndex, .static yX0_needIndex, .initialized RX0, .code yX0_needIndex cX0_needIndex 2 none, .classLink RX0 103 "java/lang/IndexOutOfBoundsException", .initialized "java/lang/IndexOutOfBoundsException", .methodLink RX0 49 yX0_pageIndex, .static yX0_pageIndex, .code yX0_pageIndex cX0_pageIndex 2 (some .int), .methodLink RX0 57 yX0_pageState, .instanceMethod yX0_pageState, .selects RX0 yX0_pageState yX0_pageState, .code yX0_pageState cX0_pageState 2 (some .int), .fieldLink RX0 20 "WordMedium" "lostPages" "[Z", .fieldLink RX0 17 "WordMedium" "halfStamps" "[I"] ++ wsX00 ++ (vx_atS RX0 107 "java/lang/IndexOutOfBoundsException" ["java/lang/RuntimeException", "java/lang/Exception"]).filter goodWord)
def wsX0_needWordCount : List Cond := .code yX0_needWordCount cX0_needWordCount 1 none :: ([.classLink RX0 111 "java/lang/IllegalArgumentException", .initialized "java/lang/IllegalArgumentException"] ++ (vx_atS RX0 115 "java/lang/IllegalArgumentException" ["java/lang/RuntimeException", "java/lang/Exception"]).filter goodWord)
def wsX0_logSlot : List Cond := .code yX0_logSlot cX0_logSlot 1 (some .int) :: ([.constant RX0 127 (65535)])
def wsX0_append : List Cond := .code yX0_append cX0_append 4 (some .int) :: ([.constant RX0 24 (65536), .fieldLink RX0 84 "WordMedium" "logEnd" "I", .fieldLink RX0 87 "WordMedium" "logFirst" "I", .fieldLink RX0 25 "WordMedium" "logWords" "[I", .fieldLink RX0 9 "WordMedium" "buffer" "[I", .methodLink RX0 39 yX0_needPower, .instanceMethod yX0_needPower, .selects RX0 yX0_needPower yX0_needPower, .initialized RX0, .code yX0_needPower cX0_needPower 1 none, .classLink RX0 73 "java/lang/IllegalStateException", .initialized "java/lang/IllegalStateException", .fieldLink RX0 31 "WordMedium" "powerOn" "Z", .methodLink RX0 80 yX0_needWordCount, .static yX0_needWordCount, .code yX0_needWordCount cX0_needWordCount 1 none, .classLink RX0 111 "java/lang/IllegalArgumentException", .initialized "java/lang/IllegalArgumentException", .methodLink RX0 90 yX0_logSlot, .static yX0_logSlot, .code yX0_logSlot cX0_logSlot 1 (some .int), .constant RX0 127 (65535)] ++ wsX00 ++ (vx_atS RX0 77 "java/lang/IllegalStateException" ["java/lang/RuntimeException", "java/lang/Exception"]).filter goodWord ++ (vx_atS RX0 115 "java/lang/IllegalArgumentException" ["java/lang/RuntimeException", "java/lang/Exception"]).filter goodWord)
def wsX0_needPlace : List Cond := .code yX0_needPlace cX0_needPlace 3 none :: ([.classLink RX0 111 "java/lang/IllegalArgumentException", .initialized "java/lang/IllegalArgumentException", .fieldLink RX0 87 "WordMedium" "logFirst" "I"] ++ wsX00 ++ (vx_atS RX0 115 "java/lang/IllegalArgumentException" ["java/lang/RuntimeException", "java/lang/Exception"]).filter goodWord)
def wsX0_force_r1 : List Cond := [Cond.fieldLink RX0 84 "WordMedium" "logEnd" "I", Cond.fieldLink RX0 96 "WordMedium" "logForced" "I", Cond.methodLink RX0 39 yX0_needPower, Cond.instanceMethod yX0_needPower, Cond.selects RX0 yX0_needPower yX0_needPower, Cond.initialized RX0, Cond.code yX0_needPower cX0_needPower 1 none, Cond.classLink RX0 73 "java/lang/IllegalStateException", Cond.initialized "java/lang/IllegalStateException", Cond.fieldLink RX0 31 "WordMedium" "powerOn" "Z", Cond.methodLink RX0 93 yX0_needPlace, Cond.instanceMethod yX0_needPlace, Cond.selects RX0 yX0_needPlace yX0_needPlace, Cond.code yX0_needPlace cX0_needPlace 3 none, Cond.classLink RX0 111 "java/lang/IllegalArgumentException", Cond.initialized "java/lang/IllegalArgumentException", Cond.fieldLink RX0 87 "WordMedium" "logFirst" "I", Cond.methodLink RX0 99 yX0_makeLeastWrite, Cond.instanceMethod yX0_makeLeastWrite, Cond.selects RX0 yX0_makeLeastWrite yX0_makeLeastWrite, Cond.code yX0_makeLeastWrite cX0_makeLeastWrite 1 (some .boolean), Cond.fieldLink RX0 35 "WordMedium" "writesUntilCut" "I", Cond.fieldLink RX0 108 "WordMedium" "leastWritesMade" "I", Cond.methodLink RX0 116 yX0_failPower]
def wsX0_force_r2 : List Cond := [Cond.instanceMethod yX0_failPower, Cond.selects RX0 yX0_failPower yX0_failPower, Cond.code yX0_failPower cX0_failPower 1 none, Cond.fieldLink RX0 9 "WordMedium" "buffer" "[I", Cond.methodLink RX0 61 yJ7_fill_53178, Cond.static yJ7_fill_53178, Cond.initialized RJ7, Cond.code yJ7_fill_53178 cJ7_fill_53178 4 none]
def wsX0_force : List Cond := .code yX0_force cX0_force 3 (some .int) :: ((wsX0_force_r1 ++ wsX0_force_r2) ++ wsX00 ++ (vx_atS RX0 77 "java/lang/IllegalStateException" ["java/lang/RuntimeException", "java/lang/Exception"]).filter goodWord ++ (vx_atS RX0 115 "java/lang/IllegalArgumentException" ["java/lang/RuntimeException", "java/lang/Exception"]).filter goodWord)
def wsX0_readLog_r1 : List Cond := [Cond.fieldLink RX0 84 "WordMedium" "logEnd" "I", Cond.fieldLink RX0 9 "WordMedium" "buffer" "[I", Cond.fieldLink RX0 25 "WordMedium" "logWords" "[I", Cond.methodLink RX0 39 yX0_needPower, Cond.instanceMethod yX0_needPower, Cond.selects RX0 yX0_needPower yX0_needPower, Cond.initialized RX0, Cond.code yX0_needPower cX0_needPower 1 none, Cond.classLink RX0 73 "java/lang/IllegalStateException", Cond.initialized "java/lang/IllegalStateException", Cond.fieldLink RX0 31 "WordMedium" "powerOn" "Z", Cond.methodLink RX0 80 yX0_needWordCount, Cond.static yX0_needWordCount, Cond.code yX0_needWordCount cX0_needWordCount 1 none, Cond.classLink RX0 111 "java/lang/IllegalArgumentException", Cond.initialized "java/lang/IllegalArgumentException", Cond.methodLink RX0 93 yX0_needPlace, Cond.instanceMethod yX0_needPlace, Cond.selects RX0 yX0_needPlace yX0_needPlace, Cond.code yX0_needPlace cX0_needPlace 3 none, Cond.fieldLink RX0 87 "WordMedium" "logFirst" "I", Cond.methodLink RX0 90 yX0_logSlot, Cond.static yX0_logSlot, Cond.code yX0_logSlot cX0_logSlot 1 (some .int)]
def wsX0_readLog_r2 : List Cond := [Cond.constant RX0 127 (65535)]
def wsX0_readLog : List Cond := .code yX0_readLog cX0_readLog 4 none :: ((wsX0_readLog_r1 ++ wsX0_readLog_r2) ++ wsX00 ++ (vx_atS RX0 77 "java/lang/IllegalStateException" ["java/lang/RuntimeException", "java/lang/Exception"]).filter goodWord ++ (vx_atS RX0 115 "java/lang/IllegalArgumentException" ["java/lang/RuntimeException", "java/lang/Exception"]).filter goodWord)
def wsX0_giveBack : List Cond := .code yX0_giveBack cX0_giveBack 2 none :: ([.fieldLink RX0 96 "WordMedium" "logForced" "I", .fieldLink RX0 87 "WordMedium" "logFirst" "I", .methodLink RX0 39 yX0_needPower, .instanceMethod yX0_needPower, .selects RX0 yX0_needPower yX0_needPower, .initialized RX0, .code yX0_needPower cX0_needPower 1 none, .classLink RX0 73 "java/lang/IllegalStateException", .initialized "java/lang/IllegalStateException", .fieldLink RX0 31 "WordMedium" "powerOn" "Z", .methodLink RX0 93 yX0_needPlace, .instanceMethod yX0_needPlace, .selects RX0 yX0_needPlace yX0_needPlace, .code yX0_needPlace cX0_needPlace 3 none, .classLink RX0 111 "java/lang/IllegalArgumentException", .initialized "java/lang/IllegalArgumentException"] ++ wsX00 ++ (vx_atS RX0 77 "java/lang/IllegalStateException" ["java/lang/RuntimeException", "java/lang/Exception"]).filter goodWord ++ (vx_atS RX0 115 "java/lang/IllegalArgumentException" ["java/lang/RuntimeException", "java/lang/Exception"]).filter goodWord)
def wsX0_log : List Cond := .code yX0_log cX0_log 2 (some .int) :: ([.classLink RX0 103 "java/lang/IndexOutOfBoundsException", .initialized "java/lang/IndexOutOfBoundsException", .fieldLink RX0 87 "WordMedium" "logFirst" "I", .fieldLink RX0 96 "WordMedium" "logForced" "I", .fieldLink RX0 84 "WordMedium" "logEnd" "I"] ++ wsX00 ++ (vx_atS RX0 107 "java/lang/IndexOutOfBoundsException" ["java/lang/RuntimeException", "java/lang/Exception"]).filter goodWord)
def wsX0_setRoot_r1 : List Cond := [Cond.fieldLink RX0 28 "WordMedium" "rootWords" "[I", Cond.methodLink RX0 39 yX0_needPower, Cond.instanceMethod yX0_needPower, Cond.selects RX0 yX0_needPower yX0_needPower, Cond.initialized RX0, Cond.code yX0_needPower cX0_needPower 1 none, Cond.classLink RX0 73 "java/lang/IllegalStateException", Cond.initialized "java/lang/IllegalStateException", Cond.fieldLink RX0 31 "WordMedium" "powerOn" "Z", Cond.methodLink RX0 42 yX0_needIndex, Cond.static yX0_needIndex, Cond.code yX0_needIndex cX0_needIndex 2 none, Cond.classLink RX0 103 "java/lang/IndexOutOfBoundsException", Cond.initialized "java/lang/IndexOutOfBoundsException", Cond.methodLink RX0 99 yX0_makeLeastWrite, Cond.instanceMethod yX0_makeLeastWrite, Cond.selects RX0 yX0_makeLeastWrite yX0_makeLeastWrite, Cond.code yX0_makeLeastWrite cX0_makeLeastWrite 1 (some .boolean), Cond.fieldLink RX0 35 "WordMedium" "writesUntilCut" "I", Cond.fieldLink RX0 108 "WordMedium" "leastWritesMade" "I", Cond.methodLink RX0 116 yX0_failPower, Cond.instanceMethod yX0_failPower, Cond.selects RX0 yX0_failPower yX0_failPower, Cond.code yX0_failPower cX0_failPower 1 none]
def wsX0_setRoot_r2 : List Cond := [Cond.fieldLink RX0 96 "WordMedium" "logForced" "I", Cond.fieldLink RX0 84 "WordMedium" "logEnd" "I", Cond.fieldLink RX0 9 "WordMedium" "buffer" "[I", Cond.methodLink RX0 61 yJ7_fill_53178, Cond.static yJ7_fill_53178, Cond.initialized RJ7, Cond.code yJ7_fill_53178 cJ7_fill_53178 4 none]
def wsX0_setRoot : List Cond := .code yX0_setRoot cX0_setRoot 3 (some .boolean) :: ((wsX0_setRoot_r1 ++ wsX0_setRoot_r2) ++ wsX00 ++ (vx_atS RX0 77 "java/lang/IllegalStateException" ["java/lang/RuntimeException", "java/lang/Exception"]).filter goodWord ++ (vx_atS RX0 107 "java/lang/IndexOutOfBoundsException" ["java/lang/RuntimeException", "java/lang/Exception"]).filter goodWord)
def wsX0_root : List Cond := .code yX0_root cX0_root 2 (some .int) :: ([.fieldLink RX0 28 "WordMedium" "rootWords" "[I", .methodLink RX0 42 yX0_needIndex, .static yX0_needIndex, .initialized RX0, .code yX0_needIndex cX0_needIndex 2 none, .classLink RX0 103 "java/lang/IndexOutOfBoundsException", .initialized "java/lang/IndexOutOfBoundsException"] ++ wsX00 ++ (vx_atS RX0 107 "java/lang/IndexOutOfBoundsException" ["java/lang/RuntimeException", "java/lang/Exception"]).filter goodWord)
def wsX0_writes : List Cond := .code yX0_writes cX0_writes 1 (some .int) :: ([.fieldLink RX0 108 "WordMedium" "leastWritesMade" "I"] ++ wsX00)
def wsX0_cutAfter : List Cond := .code yX0_cutAfter cX0_cutAfter 2 none :: ([.classLink RX0 111 "java/lang/IllegalArgumentException", .initialized "java/lang/IllegalArgumentException", .fieldLink RX0 35 "WordMedium" "writesUntilCut" "I"] ++ wsX00 ++ (vx_atS RX0 115 "java/lang/IllegalArgumentException" ["java/lang/RuntimeException", "java/lang/Exception"]).filter goodWord)
def wsX0_cut : List Cond := .code yX0_cut cX0_cut 1 (some .boolean) :: ([.fieldLink RX0 31 "WordMedium" "powerOn" "Z", .methodLink RX0 116 yX0_failPower, .instanceMethod yX0_failPower, .selects RX0 yX0_failPower yX0_failPower, .initialized RX0, .code yX0_failPower cX0_failPower 1 none, .fieldLink RX0 96 "WordMedium" "logForced" "I", .fieldLink RX0 84 "WordMedium" "logEnd" "I", .fieldLink RX0 9 "WordMedium" "buffer" "[I", .methodLink RX0 61 yJ7_fill_53178, .static yJ7_fill_53178, .initialized RJ7, .code yJ7_fill_53178 cJ7_fill_53178 4 none] ++ wsX00)
def wsX0_start : List Cond := .code yX0_start cX0_start 1 (some .boolean) :: ([.fieldLink RX0 31 "WordMedium" "powerOn" "Z", .fieldLink RX0 35 "WordMedium" "writesUntilCut" "I"] ++ wsX00)
def wsX0_isOn : List Cond := .code yX0_isOn cX0_isOn 1 (some .boolean) :: ([.fieldLink RX0 31 "WordMedium" "powerOn" "Z"] ++ wsX00)
def wsX1_init : List Cond := .code yX1_init cX1_init 1 none :: ([.methodLink RX1 1 objectInit, .instanceMethod objectInit, .code objectInit ⟨#[0xb1]⟩ 1 none, .constant RX1 7 (32768), .arrayClass .int, .fieldLink RX1 8 "WordMediumModel" "pages" "[I", .fieldLink RX1 14 "WordMediumModel" "stamps" "[I", .arrayClass .boolean, .fieldLink RX1 17 "WordMediumModel" "lost" "[Z", .constant RX1 21 (65536), .fieldLink RX1 22 "WordMediumModel" "log" "[I", .fieldLink RX1 25 "WordMediumModel" "roots" "[I", .fieldLink RX1 28 "WordMediumModel" "buffer" "[I", .fieldLink RX1 31 "WordMediumModel" "left" "I", .fieldLink RX1 35 "WordMediumModel" "first" "I"] ++ wsX10)
def wsX1_thrown : List Cond := .code yX1_thrown cX1_thrown 1 (some .int) :: ([.fieldLink RX1 38 "WordMediumModel" "thrown" "I"] ++ wsX10)
def wsX1_refused : List Cond := .code yX1_refused cX1_refused 3 (some .boolean) :: ([.fieldLink RX1 38 "WordMediumModel" "thrown" "I"] ++ wsX10)
def wsX1_in : List Cond := .code yX1_in cX1_in 3 (some .boolean) :: ([])
def wsX1_isPage : List Cond := .code yX1_isPage cX1_isPage 2 (some .boolean) :: ([.methodLink RX1 41 yX1_in, .static yX1_in, .initialized RX1, .code yX1_in cX1_in 3 (some .boolean)])
def wsX1_fail : List Cond := .code yX1_fail cX1_fail 2 none :: ([.fieldLink RX1 45 "WordMediumModel" "off" "Z", .fieldLink RX1 49 "WordMediumModel" "forced" "I", .fieldLink RX1 52 "WordMediumModel" "end" "I", .fieldLink RX1 28 "WordMediumModel" "buffer" "[I"] ++ wsX10)
def wsX1_canWrite : List Cond := .code yX1_canWrite cX1_canWrite 1 (some .boolean) :: ([.fieldLink RX1 31 "WordMediumModel" "left" "I", .fieldLink RX1 58 "WordMediumModel" "made" "I", .methodLink RX1 55 yX1_fail, .instanceMethod yX1_fail, .selects RX1 yX1_fail yX1_fail, .initialized RX1, .code yX1_fail cX1_fail 2 none, .fieldLink RX1 45 "WordMediumModel" "off" "Z", .fieldLink RX1 49 "WordMediumModel" "forced" "I", .fieldLink RX1 52 "WordMediumModel" "end" "I", .fieldLink RX1 28 "WordMediumModel" "buffer" "[I"] ++ wsX10)
def wsX1_set : List Cond := .code yX1_set cX1_set 3 none :: ([.fieldLink RX1 45 "WordMediumModel" "off" "Z", .fieldLink RX1 28 "WordMediumModel" "buffer" "[I", .methodLink RX1 41 yX1_in, .static yX1_in, .initialized RX1, .code yX1_in cX1_in 3 (some .boolean), .methodLink RX1 61 yX1_refused, .instanceMethod yX1_refused, .selects RX1 yX1_refused yX1_refused, .code yX1_refused cX1_refused 3 (some .boolean), .fieldLink RX1 38 "WordMediumModel" "thrown" "I"] ++ wsX10)
def wsX1_fill : List Cond := .code yX1_fill cX1_fill 4 none :: ([.fieldLink RX1 45 "WordMediumModel" "off" "Z", .fieldLink RX1 28 "WordMediumModel" "buffer" "[I", .methodLink RX1 61 yX1_refused, .instanceMethod yX1_refused, .selects RX1 yX1_refused yX1_refused, .initialized RX1, .code yX1_refused cX1_refused 3 (some .boolean), .fieldLink RX1 38 "WordMediumModel" "thrown" "I"] ++ wsX10)
def wsX1_get : List Cond := .code yX1_get cX1_get 2 (some .int) :: ([.fieldLink RX1 28 "WordMediumModel" "buffer" "[I", .methodLink RX1 41 yX1_in, .static yX1_in, .initialized RX1, .code yX1_in cX1_in 3 (some .boolean), .methodLink RX1 61 yX1_refused, .instanceMethod yX1_refused, .selects RX1 yX1_refused yX1_refused, .code yX1_refused cX1_refused 3 (some .boolean), .fieldLink RX1 38 "WordMediumModel" "thrown" "I"] ++ wsX10)
def wsX1_sum : List Cond := .code yX1_sum cX1_sum 3 (some .int) :: ([.fieldLink RX1 38 "WordMediumModel" "thrown" "I", .fieldLink RX1 28 "WordMediumModel" "buffer" "[I"] ++ wsX10)
def wsX1_place : List Cond := .code yX1_place cX1_place 2 (some .int) :: ([])
def wsX1_isTorn : List Cond := .code yX1_isTorn cX1_isTorn 2 (some .boolean) :: ([.fieldLink RX1 14 "WordMediumModel" "stamps" "[I"] ++ wsX10)
def wsX1_stateOf : List Cond := .code yX1_stateOf cX1_stateOf 2 (some .int) :: ([.fieldLink RX1 17 "WordMediumModel" "lost" "[Z", .methodLink RX1 65 yX1_isTorn, .instanceMethod yX1_isTorn, .selects RX1 yX1_isTorn yX1_isTorn, .initialized RX1, .code yX1_isTorn cX1_isTorn 2 (some .boolean), .fieldLink RX1 14 "WordMediumModel" "stamps" "[I"] ++ wsX10)
def wsX1_writePage : List Cond := .code yX1_writePage cX1_writePage 7 (some .int) :: ([.fieldLink RX1 69 "WordMediumModel" "pageWrites" "I", .fieldLink RX1 8 "WordMediumModel" "pages" "[I", .fieldLink RX1 28 "WordMediumModel" "buffer" "[I", .fieldLink RX1 14 "WordMediumModel" "stamps" "[I", .fieldLink RX1 17 "WordMediumModel" "lost" "[Z", .methodLink RX1 72 yX1_canWrite, .instanceMethod yX1_canWrite, .selects RX1 yX1_canWrite yX1_canWrite, .initialized RX1, .code yX1_canWrite cX1_canWrite 1 (some .boolean), .fieldLink RX1 31 "WordMediumModel" "left" "I", .fieldLink RX1 58 "WordMediumModel" "made" "I", .methodLink RX1 55 yX1_fail, .instanceMethod yX1_fail, .selects RX1 yX1_fail yX1_fail, .code yX1_fail cX1_fail 2 none, .fieldLink RX1 45 "WordMediumModel" "off" "Z", .fieldLink RX1 49 "WordMediumModel" "forced" "I", .fieldLink RX1 52 "WordMediumModel" "end" "I"] ++ wsX10)
def wsX1_write_r1 : List Cond := [Cond.fieldLink RX1 45 "WordMediumModel" "off" "Z", Cond.methodLink RX1 76 yX1_isPage, Cond.static yX1_isPage, Cond.initialized RX1, Cond.code yX1_isPage cX1_isPage 2 (some .boolean), Cond.methodLink RX1 41 yX1_in, Cond.static yX1_in, Cond.code yX1_in cX1_in 3 (some .boolean), Cond.methodLink RX1 61 yX1_refused, Cond.instanceMethod yX1_refused, Cond.selects RX1 yX1_refused yX1_refused, Cond.code yX1_refused cX1_refused 3 (some .boolean), Cond.fieldLink RX1 38 "WordMediumModel" "thrown" "I", Cond.methodLink RX1 80 yX1_place, Cond.static yX1_place, Cond.code yX1_place cX1_place 2 (some .int), Cond.methodLink RX1 84 yX1_writePage, Cond.instanceMethod yX1_writePage, Cond.selects RX1 yX1_writePage yX1_writePage, Cond.code yX1_writePage cX1_writePage 7 (some .int), Cond.fieldLink RX1 69 "WordMediumModel" "pageWrites" "I", Cond.fieldLink RX1 8 "WordMediumModel" "pages" "[I", Cond.fieldLink RX1 28 "WordMediumModel" "buffer" "[I", Cond.fieldLink RX1 14 "WordMediumModel" "stamps" "[I"]
def wsX1_write_r2 : List Cond := [Cond.fieldLink RX1 17 "WordMediumModel" "lost" "[Z", Cond.methodLink RX1 72 yX1_canWrite, Cond.instanceMethod yX1_canWrite, Cond.selects RX1 yX1_canWrite yX1_canWrite, Cond.code yX1_canWrite cX1_canWrite 1 (some .boolean), Cond.fieldLink RX1 31 "WordMediumModel" "left" "I", Cond.fieldLink RX1 58 "WordMediumModel" "made" "I", Cond.methodLink RX1 55 yX1_fail, Cond.instanceMethod yX1_fail, Cond.selects RX1 yX1_fail yX1_fail, Cond.code yX1_fail cX1_fail 2 none, Cond.fieldLink RX1 49 "WordMediumModel" "forced" "I", Cond.fieldLink RX1 52 "WordMediumModel" "end" "I"]
def wsX1_write : List Cond := .code yX1_write cX1_write 3 (some .int) :: ((wsX1_write_r1 ++ wsX1_write_r2) ++ wsX10)
def wsX1_read_r1 : List Cond := [Cond.fieldLink RX1 45 "WordMediumModel" "off" "Z", Cond.fieldLink RX1 28 "WordMediumModel" "buffer" "[I", Cond.fieldLink RX1 17 "WordMediumModel" "lost" "[Z", Cond.fieldLink RX1 8 "WordMediumModel" "pages" "[I", Cond.methodLink RX1 76 yX1_isPage, Cond.static yX1_isPage, Cond.initialized RX1, Cond.code yX1_isPage cX1_isPage 2 (some .boolean), Cond.methodLink RX1 41 yX1_in, Cond.static yX1_in, Cond.code yX1_in cX1_in 3 (some .boolean), Cond.methodLink RX1 61 yX1_refused, Cond.instanceMethod yX1_refused, Cond.selects RX1 yX1_refused yX1_refused, Cond.code yX1_refused cX1_refused 3 (some .boolean), Cond.fieldLink RX1 38 "WordMediumModel" "thrown" "I", Cond.methodLink RX1 80 yX1_place, Cond.static yX1_place, Cond.code yX1_place cX1_place 2 (some .int), Cond.methodLink RX1 88 yX1_stateOf, Cond.instanceMethod yX1_stateOf, Cond.selects RX1 yX1_stateOf yX1_stateOf, Cond.code yX1_stateOf cX1_stateOf 2 (some .int), Cond.methodLink RX1 65 yX1_isTorn]
def wsX1_read_r2 : List Cond := [Cond.instanceMethod yX1_isTorn, Cond.selects RX1 yX1_isTorn yX1_isTorn, Cond.code yX1_isTorn cX1_isTorn 2 (some .boolean), Cond.fieldLink RX1 14 "WordMediumModel" "stamps" "[I"]
def wsX1_read : List Cond := .code yX1_read cX1_read 5 (some .int) :: ((wsX1_read_r1 ++ wsX1_read_r2) ++ wsX10)
def wsX1_copy_r1 : List Cond := [Cond.fieldLink RX1 45 "WordMediumModel" "off" "Z", Cond.methodLink RX1 76 yX1_isPage, Cond.static yX1_isPage, Cond.initialized RX1, Cond.code yX1_isPage cX1_isPage 2 (some .boolean), Cond.methodLink RX1 41 yX1_in, Cond.static yX1_in, Cond.code yX1_in cX1_in 3 (some .boolean), Cond.methodLink RX1 80 yX1_place, Cond.static yX1_place, Cond.code yX1_place cX1_place 2 (some .int), Cond.methodLink RX1 88 yX1_stateOf, Cond.instanceMethod yX1_stateOf, Cond.selects RX1 yX1_stateOf yX1_stateOf, Cond.code yX1_stateOf cX1_stateOf 2 (some .int), Cond.fieldLink RX1 17 "WordMediumModel" "lost" "[Z", Cond.methodLink RX1 65 yX1_isTorn, Cond.instanceMethod yX1_isTorn, Cond.selects RX1 yX1_isTorn yX1_isTorn, Cond.code yX1_isTorn cX1_isTorn 2 (some .boolean), Cond.fieldLink RX1 14 "WordMediumModel" "stamps" "[I", Cond.methodLink RX1 61 yX1_refused, Cond.instanceMethod yX1_refused, Cond.selects RX1 yX1_refused yX1_refused]
def wsX1_copy_r2 : List Cond := [Cond.code yX1_refused cX1_refused 3 (some .boolean), Cond.fieldLink RX1 38 "WordMediumModel" "thrown" "I", Cond.methodLink RX1 84 yX1_writePage, Cond.instanceMethod yX1_writePage, Cond.selects RX1 yX1_writePage yX1_writePage, Cond.code yX1_writePage cX1_writePage 7 (some .int), Cond.fieldLink RX1 69 "WordMediumModel" "pageWrites" "I", Cond.fieldLink RX1 8 "WordMediumModel" "pages" "[I", Cond.fieldLink RX1 28 "WordMediumModel" "buffer" "[I", Cond.methodLink RX1 72 yX1_canWrite, Cond.instanceMethod yX1_canWrite, Cond.selects RX1 yX1_canWrite yX1_canWrite, Cond.code yX1_canWrite cX1_canWrite 1 (some .boolean), Cond.fieldLink RX1 31 "WordMediumModel" "left" "I", Cond.fieldLink RX1 58 "WordMediumModel" "made" "I", Cond.methodLink RX1 55 yX1_fail, Cond.instanceMethod yX1_fail, Cond.selects RX1 yX1_fail yX1_fail, Cond.code yX1_fail cX1_fail 2 none, Cond.fieldLink RX1 49 "WordMediumModel" "forced" "I", Cond.fieldLink RX1 52 "WordMediumModel" "end" "I"]
def wsX1_copy : List Cond := .code yX1_copy cX1_copy 5 (some .int) :: ((wsX1_copy_r1 ++ wsX1_copy_r2) ++ wsX10)
def wsX1_append : List Cond := .code yX1_append cX1_append 4 (some .int) :: ([.fieldLink RX1 45 "WordMediumModel" "off" "Z", .fieldLink RX1 52 "WordMediumModel" "end" "I", .fieldLink RX1 35 "WordMediumModel" "first" "I", .constant RX1 21 (65536), .fieldLink RX1 22 "WordMediumModel" "log" "[I", .fieldLink RX1 28 "WordMediumModel" "buffer" "[I", .methodLink RX1 41 yX1_in, .static yX1_in, .initialized RX1, .code yX1_in cX1_in 3 (some .boolean), .methodLink RX1 61 yX1_refused, .instanceMethod yX1_refused, .selects RX1 yX1_refused yX1_refused, .code yX1_refused cX1_refused 3 (some .boolean), .fieldLink RX1 38 "WordMediumModel" "thrown" "I"] ++ wsX10)
def wsX1_force : List Cond := .code yX1_force cX1_force 3 (some .int) :: ([.fieldLink RX1 45 "WordMediumModel" "off" "Z", .fieldLink RX1 35 "WordMediumModel" "first" "I", .fieldLink RX1 52 "WordMediumModel" "end" "I", .fieldLink RX1 49 "WordMediumModel" "forced" "I", .methodLink RX1 61 yX1_refused, .instanceMethod yX1_refused, .selects RX1 yX1_refused yX1_refused, .initialized RX1, .code yX1_refused cX1_refused 3 (some .boolean), .fieldLink RX1 38 "WordMediumModel" "thrown" "I", .methodLink RX1 72 yX1_canWrite, .instanceMethod yX1_canWrite, .selects RX1 yX1_canWrite yX1_canWrite, .code yX1_canWrite cX1_canWrite 1 (some .boolean), .fieldLink RX1 31 "WordMediumModel" "left" "I", .fieldLink RX1 58 "WordMediumModel" "made" "I", .methodLink RX1 55 yX1_fail, .instanceMethod yX1_fail, .selects RX1 yX1_fail yX1_fail, .code yX1_fail cX1_fail 2 none, .fieldLink RX1 28 "WordMediumModel" "buffer" "[I"] ++ wsX10)
def wsX1_readLog : List Cond := .code yX1_readLog cX1_readLog 5 none :: ([.fieldLink RX1 35 "WordMediumModel" "first" "I", .fieldLink RX1 52 "WordMediumModel" "end" "I", .fieldLink RX1 45 "WordMediumModel" "off" "Z", .fieldLink RX1 28 "WordMediumModel" "buffer" "[I", .fieldLink RX1 22 "WordMediumModel" "log" "[I", .constant RX1 21 (65536), .methodLink RX1 41 yX1_in, .static yX1_in, .initialized RX1, .code yX1_in cX1_in 3 (some .boolean), .methodLink RX1 61 yX1_refused, .instanceMethod yX1_refused, .selects RX1 yX1_refused yX1_refused, .code yX1_refused cX1_refused 3 (some .boolean), .fieldLink RX1 38 "WordMediumModel" "thrown" "I"] ++ wsX10)
def wsX1_giveBack : List Cond := .code yX1_giveBack cX1_giveBack 2 none :: ([.fieldLink RX1 45 "WordMediumModel" "off" "Z", .fieldLink RX1 35 "WordMediumModel" "first" "I", .fieldLink RX1 49 "WordMediumModel" "forced" "I", .methodLink RX1 61 yX1_refused, .instanceMethod yX1_refused, .selects RX1 yX1_refused yX1_refused, .initialized RX1, .code yX1_refused cX1_refused 3 (some .boolean), .fieldLink RX1 38 "WordMediumModel" "thrown" "I"] ++ wsX10)
def wsX1_log : List Cond := .code yX1_log cX1_log 2 (some .int) :: ([.fieldLink RX1 35 "WordMediumModel" "first" "I", .fieldLink RX1 49 "WordMediumModel" "forced" "I", .fieldLink RX1 52 "WordMediumModel" "end" "I", .methodLink RX1 41 yX1_in, .static yX1_in, .initialized RX1, .code yX1_in cX1_in 3 (some .boolean), .methodLink RX1 61 yX1_refused, .instanceMethod yX1_refused, .selects RX1 yX1_refused yX1_refused, .code yX1_refused cX1_refused 3 (some .boolean), .fieldLink RX1 38 "WordMediumModel" "thrown" "I"] ++ wsX10)
def wsX1_setRoot : List Cond := .code yX1_setRoot cX1_setRoot 3 (some .boolean) :: ([.fieldLink RX1 45 "WordMediumModel" "off" "Z", .fieldLink RX1 25 "WordMediumModel" "roots" "[I", .methodLink RX1 41 yX1_in, .static yX1_in, .initialized RX1, .code yX1_in cX1_in 3 (some .boolean), .methodLink RX1 61 yX1_refused, .instanceMethod yX1_refused, .selects RX1 yX1_refused yX1_refused, .code yX1_refused cX1_refused 3 (some .boolean), .fieldLink RX1 38 "WordMediumModel" "thrown" "I", .methodLink RX1 72 yX1_canWrite, .instanceMethod yX1_canWrite, .selects RX1 yX1_canWrite yX1_canWrite, .code yX1_canWrite cX1_canWrite 1 (some .boolean), .fieldLink RX1 31 "WordMediumModel" "left" "I", .fieldLink RX1 58 "WordMediumModel" "made" "I", .methodLink RX1 55 yX1_fail, .instanceMethod yX1_fail, .selects RX1 yX1_fail yX1_fail, .code yX1_fail cX1_fail 2 none, .fieldLink RX1 49 "WordMediumModel" "forced" "I", .fieldLink RX1 52 "WordMediumModel" "end" "I", .fieldLink RX1 28 "WordMediumModel" "buffer" "[I"] ++ wsX10)
def wsX1_root : List Cond := .code yX1_root cX1_root 2 (some .int) :: ([.fieldLink RX1 25 "WordMediumModel" "roots" "[I", .methodLink RX1 41 yX1_in, .static yX1_in, .initialized RX1, .code yX1_in cX1_in 3 (some .boolean), .methodLink RX1 61 yX1_refused, .instanceMethod yX1_refused, .selects RX1 yX1_refused yX1_refused, .code yX1_refused cX1_refused 3 (some .boolean), .fieldLink RX1 38 "WordMediumModel" "thrown" "I"] ++ wsX10)
def wsX1_lose : List Cond := .code yX1_lose cX1_lose 3 none :: ([.fieldLink RX1 17 "WordMediumModel" "lost" "[Z", .methodLink RX1 76 yX1_isPage, .static yX1_isPage, .initialized RX1, .code yX1_isPage cX1_isPage 2 (some .boolean), .methodLink RX1 41 yX1_in, .static yX1_in, .code yX1_in cX1_in 3 (some .boolean), .methodLink RX1 61 yX1_refused, .instanceMethod yX1_refused, .selects RX1 yX1_refused yX1_refused, .code yX1_refused cX1_refused 3 (some .boolean), .fieldLink RX1 38 "WordMediumModel" "thrown" "I", .methodLink RX1 80 yX1_place, .static yX1_place, .code yX1_place cX1_place 2 (some .int)] ++ wsX10)
def wsX1_stamp : List Cond := .code yX1_stamp cX1_stamp 4 (some .int) :: ([.fieldLink RX1 14 "WordMediumModel" "stamps" "[I", .methodLink RX1 76 yX1_isPage, .static yX1_isPage, .initialized RX1, .code yX1_isPage cX1_isPage 2 (some .boolean), .methodLink RX1 41 yX1_in, .static yX1_in, .code yX1_in cX1_in 3 (some .boolean), .methodLink RX1 61 yX1_refused, .instanceMethod yX1_refused, .selects RX1 yX1_refused yX1_refused, .code yX1_refused cX1_refused 3 (some .boolean), .fieldLink RX1 38 "WordMediumModel" "thrown" "I", .methodLink RX1 80 yX1_place, .static yX1_place, .code yX1_place cX1_place 2 (some .int)] ++ wsX10)
def wsX1_count : List Cond := .code yX1_count cX1_count 5 (some .int) :: ([.methodLink RX1 41 yX1_in, .static yX1_in, .initialized RX1, .code yX1_in cX1_in 3 (some .boolean), .methodLink RX1 61 yX1_refused, .instanceMethod yX1_refused, .selects RX1 yX1_refused yX1_refused, .code yX1_refused cX1_refused 3 (some .boolean), .fieldLink RX1 38 "WordMediumModel" "thrown" "I", .methodLink RX1 80 yX1_place, .static yX1_place, .code yX1_place cX1_place 2 (some .int), .methodLink RX1 88 yX1_stateOf, .instanceMethod yX1_stateOf, .selects RX1 yX1_stateOf yX1_stateOf, .code yX1_stateOf cX1_stateOf 2 (some .int), .fieldLink RX1 17 "WordMediumModel" "lost" "[Z", .methodLink RX1 65 yX1_isTorn, .instanceMethod yX1_isTorn, .selects RX1 yX1_isTorn yX1_isTorn, .code yX1_isTorn cX1_isTorn 2 (some .boolean), .fieldLink RX1 14 "WordMediumModel" "stamps" "[I"] ++ wsX10)
def wsX1_writes : List Cond := .code yX1_writes cX1_writes 1 (some .int) :: ([.fieldLink RX1 38 "WordMediumModel" "thrown" "I", .fieldLink RX1 58 "WordMediumModel" "made" "I"] ++ wsX10)
def wsX1_cutAfter : List Cond := .code yX1_cutAfter cX1_cutAfter 2 none :: ([.fieldLink RX1 31 "WordMediumModel" "left" "I", .methodLink RX1 61 yX1_refused, .instanceMethod yX1_refused, .selects RX1 yX1_refused yX1_refused, .initialized RX1, .code yX1_refused cX1_refused 3 (some .boolean), .fieldLink RX1 38 "WordMediumModel" "thrown" "I"] ++ wsX10)
def wsX1_cut : List Cond := .code yX1_cut cX1_cut 1 (some .boolean) :: ([.fieldLink RX1 38 "WordMediumModel" "thrown" "I", .fieldLink RX1 45 "WordMediumModel" "off" "Z", .methodLink RX1 55 yX1_fail, .instanceMethod yX1_fail, .selects RX1 yX1_fail yX1_fail, .initialized RX1, .code yX1_fail cX1_fail 2 none, .fieldLink RX1 49 "WordMediumModel" "forced" "I", .fieldLink RX1 52 "WordMediumModel" "end" "I", .fieldLink RX1 28 "WordMediumModel" "buffer" "[I"] ++ wsX10)
def wsX1_start : List Cond := .code yX1_start cX1_start 1 (some .boolean) :: ([.fieldLink RX1 38 "WordMediumModel" "thrown" "I", .fieldLink RX1 45 "WordMediumModel" "off" "Z", .fieldLink RX1 31 "WordMediumModel" "left" "I"] ++ wsX10)
def wsX1_isOn : List Cond := .code yX1_isOn cX1_isOn 1 (some .boolean) :: ([.fieldLink RX1 38 "WordMediumModel" "thrown" "I", .fieldLink RX1 45 "WordMediumModel" "off" "Z"] ++ wsX10)
def wsL_set : List Cond := .codeWith yL_set cL_set 4 (some .int) [(0, 6, 9, 13), (0, 6, 12, 15)] :: ([.classLink RL 13 "java/lang/IllegalStateException", .classLink RL 15 "java/lang/IndexOutOfBoundsException", .methodLink RL 7 yX0_set, .instanceMethod yX0_set, .selects RX0 yX0_set yX0_set, .initialized RX0, .code yX0_set cX0_set 3 none, .fieldLink RX0 9 "WordMedium" "buffer" "[I", .methodLink RX0 39 yX0_needPower, .instanceMethod yX0_needPower, .selects RX0 yX0_needPower yX0_needPower, .code yX0_needPower cX0_needPower 1 none, .classLink RX0 73 "java/lang/IllegalStateException", .initialized "java/lang/IllegalStateException", .fieldLink RX0 31 "WordMedium" "powerOn" "Z", .methodLink RX0 42 yX0_needIndex, .static yX0_needIndex, .code yX0_needIndex cX0_needIndex 2 none, .classLink RX0 103 "java/lang/IndexOutOfBoundsException", .initialized "java/lang/IndexOutOfBoundsException"] ++ wsX00 ++ (vx_atS RX0 77 "java/lang/IllegalStateException" ["java/lang/RuntimeException", "java/lang/Exception"]).filter goodWord ++ (vx_atS RX0 107 "java/lang/IndexOutOfBoundsException" ["java/lang/RuntimeException", "java/lang/Exception"]).filter goodWord)
def wsL_fill : List Cond := .codeWith yL_fill cL_fill 4 (some .int) [(0, 6, 9, 13)] :: ([.classLink RL 13 "java/lang/IllegalStateException", .methodLink RL 17 yX0_fill, .instanceMethod yX0_fill, .selects RX0 yX0_fill yX0_fill, .initialized RX0, .code yX0_fill cX0_fill 4 none, .fieldLink RX0 9 "WordMedium" "buffer" "[I", .methodLink RX0 39 yX0_needPower, .instanceMethod yX0_needPower, .selects RX0 yX0_needPower yX0_needPower, .code yX0_needPower cX0_needPower 1 none, .classLink RX0 73 "java/lang/IllegalStateException", .initialized "java/lang/IllegalStateException", .fieldLink RX0 31 "WordMedium" "powerOn" "Z"] ++ wsX00 ++ (vx_atS RX0 77 "java/lang/IllegalStateException" ["java/lang/RuntimeException", "java/lang/Exception"]).filter goodWord)
def wsL_get : List Cond := .codeWith yL_get cL_get 4 (some .int) [(0, 9, 12, 15)] :: ([.classLink RL 15 "java/lang/IndexOutOfBoundsException", .methodLink RL 20 yX0_get, .instanceMethod yX0_get, .selects RX0 yX0_get yX0_get, .initialized RX0, .code yX0_get cX0_get 2 (some .int), .fieldLink RX0 9 "WordMedium" "buffer" "[I", .methodLink RX0 42 yX0_needIndex, .static yX0_needIndex, .code yX0_needIndex cX0_needIndex 2 none, .classLink RX0 103 "java/lang/IndexOutOfBoundsException", .initialized "java/lang/IndexOutOfBoundsException"] ++ wsX00 ++ (vx_atS RX0 107 "java/lang/IndexOutOfBoundsException" ["java/lang/RuntimeException", "java/lang/Exception"]).filter goodWord)
def wsL_write_r1 : List Cond := [Cond.classLink RL 13 "java/lang/IllegalStateException", Cond.classLink RL 15 "java/lang/IndexOutOfBoundsException", Cond.methodLink RL 24 yX0_write, Cond.instanceMethod yX0_write, Cond.selects RX0 yX0_write yX0_write, Cond.initialized RX0, Cond.code yX0_write cX0_write 3 (some .int), Cond.fieldLink RX0 9 "WordMedium" "buffer" "[I", Cond.methodLink RX0 39 yX0_needPower, Cond.instanceMethod yX0_needPower, Cond.selects RX0 yX0_needPower yX0_needPower, Cond.code yX0_needPower cX0_needPower 1 none, Cond.classLink RX0 73 "java/lang/IllegalStateException", Cond.initialized "java/lang/IllegalStateException", Cond.fieldLink RX0 31 "WordMedium" "powerOn" "Z", Cond.methodLink RX0 46 yX0_needPage, Cond.instanceMethod yX0_needPage, Cond.selects RX0 yX0_needPage yX0_needPage, Cond.code yX0_needPage cX0_needPage 3 none, Cond.methodLink RX0 42 yX0_needIndex, Cond.static yX0_needIndex, Cond.code yX0_needIndex cX0_needIndex 2 none, Cond.classLink RX0 103 "java/lang/IndexOutOfBoundsException", Cond.initialized "java/lang/IndexOutOfBoundsException"]
def wsL_write_r2 : List Cond := [Cond.methodLink RX0 49 yX0_pageIndex, Cond.static yX0_pageIndex, Cond.code yX0_pageIndex cX0_pageIndex 2 (some .int), Cond.methodLink RX0 53 yX0_writePage, Cond.instanceMethod yX0_writePage, Cond.selects RX0 yX0_writePage yX0_writePage, Cond.code yX0_writePage cX0_writePage 6 (some .int), Cond.fieldLink RX0 128 "WordMedium" "pageWritesBegun" "I", Cond.fieldLink RX0 14 "WordMedium" "pageWords" "[I", Cond.methodLink RX0 67 arraycopyName, Cond.native arraycopyName, Cond.static arraycopyName, Cond.initialized "java/lang/System", Cond.fieldLink RX0 17 "WordMedium" "halfStamps" "[I", Cond.fieldLink RX0 20 "WordMedium" "lostPages" "[Z", Cond.methodLink RX0 99 yX0_makeLeastWrite, Cond.instanceMethod yX0_makeLeastWrite, Cond.selects RX0 yX0_makeLeastWrite yX0_makeLeastWrite, Cond.code yX0_makeLeastWrite cX0_makeLeastWrite 1 (some .boolean), Cond.fieldLink RX0 35 "WordMedium" "writesUntilCut" "I", Cond.fieldLink RX0 108 "WordMedium" "leastWritesMade" "I", Cond.methodLink RX0 116 yX0_failPower, Cond.instanceMethod yX0_failPower, Cond.selects RX0 yX0_failPower yX0_failPower]
def wsL_write_r3 : List Cond := [Cond.code yX0_failPower cX0_failPower 1 none, Cond.fieldLink RX0 96 "WordMedium" "logForced" "I", Cond.fieldLink RX0 84 "WordMedium" "logEnd" "I", Cond.methodLink RX0 61 yJ7_fill_53178, Cond.static yJ7_fill_53178, Cond.initialized RJ7, Cond.code yJ7_fill_53178 cJ7_fill_53178 4 none]
def wsL_write : List Cond := .codeWith yL_write cL_write 5 (some .int) [(0, 10, 13, 13), (0, 10, 17, 15)] :: ((wsL_write_r1 ++ (wsL_write_r2 ++ wsL_write_r3)) ++ wsX00 ++ (vx_atS RX0 77 "java/lang/IllegalStateException" ["java/lang/RuntimeException", "java/lang/Exception"]).filter goodWord ++ (vx_atS RX0 107 "java/lang/IndexOutOfBoundsException" ["java/lang/RuntimeException", "java/lang/Exception"]).filter goodWord)
def wsL_read_r1 : List Cond := [Cond.classLink RL 13 "java/lang/IllegalStateException", Cond.classLink RL 15 "java/lang/IndexOutOfBoundsException", Cond.methodLink RL 28 yX0_read, Cond.instanceMethod yX0_read, Cond.selects RX0 yX0_read yX0_read, Cond.initialized RX0, Cond.code yX0_read cX0_read 5 (some .int), Cond.fieldLink RX0 9 "WordMedium" "buffer" "[I", Cond.fieldLink RX0 14 "WordMedium" "pageWords" "[I", Cond.methodLink RX0 67 arraycopyName, Cond.native arraycopyName, Cond.static arraycopyName, Cond.initialized "java/lang/System", Cond.methodLink RX0 39 yX0_needPower, Cond.instanceMethod yX0_needPower, Cond.selects RX0 yX0_needPower yX0_needPower, Cond.code yX0_needPower cX0_needPower 1 none, Cond.classLink RX0 73 "java/lang/IllegalStateException", Cond.initialized "java/lang/IllegalStateException", Cond.fieldLink RX0 31 "WordMedium" "powerOn" "Z", Cond.methodLink RX0 46 yX0_needPage, Cond.instanceMethod yX0_needPage, Cond.selects RX0 yX0_needPage yX0_needPage, Cond.code yX0_needPage cX0_needPage 3 none]
def wsL_read_r2 : List Cond := [Cond.methodLink RX0 42 yX0_needIndex, Cond.static yX0_needIndex, Cond.code yX0_needIndex cX0_needIndex 2 none, Cond.classLink RX0 103 "java/lang/IndexOutOfBoundsException", Cond.initialized "java/lang/IndexOutOfBoundsException", Cond.methodLink RX0 49 yX0_pageIndex, Cond.static yX0_pageIndex, Cond.code yX0_pageIndex cX0_pageIndex 2 (some .int), Cond.methodLink RX0 57 yX0_pageState, Cond.instanceMethod yX0_pageState, Cond.selects RX0 yX0_pageState yX0_pageState, Cond.code yX0_pageState cX0_pageState 2 (some .int), Cond.fieldLink RX0 20 "WordMedium" "lostPages" "[Z", Cond.fieldLink RX0 17 "WordMedium" "halfStamps" "[I", Cond.methodLink RX0 61 yJ7_fill_53178, Cond.static yJ7_fill_53178, Cond.initialized RJ7, Cond.code yJ7_fill_53178 cJ7_fill_53178 4 none]
def wsL_read : List Cond := .codeWith yL_read cL_read 5 (some .int) [(0, 10, 13, 13), (0, 10, 17, 15)] :: ((wsL_read_r1 ++ wsL_read_r2) ++ wsX00 ++ (vx_atS RX0 77 "java/lang/IllegalStateException" ["java/lang/RuntimeException", "java/lang/Exception"]).filter goodWord ++ (vx_atS RX0 107 "java/lang/IndexOutOfBoundsException" ["java/lang/RuntimeException", "java/lang/Exception"]).filter goodWord)
def wsL_copy_r1 : List Cond := [Cond.classLink RL 13 "java/lang/IllegalStateException", Cond.classLink RL 15 "java/lang/IndexOutOfBoundsException", Cond.methodLink RL 31 yX0_copy, Cond.instanceMethod yX0_copy, Cond.selects RX0 yX0_copy yX0_copy, Cond.initialized RX0, Cond.code yX0_copy cX0_copy 4 (some .int), Cond.classLink RX0 73 "java/lang/IllegalStateException", Cond.initialized "java/lang/IllegalStateException", Cond.fieldLink RX0 14 "WordMedium" "pageWords" "[I", Cond.methodLink RX0 39 yX0_needPower, Cond.instanceMethod yX0_needPower, Cond.selects RX0 yX0_needPower yX0_needPower, Cond.code yX0_needPower cX0_needPower 1 none, Cond.fieldLink RX0 31 "WordMedium" "powerOn" "Z", Cond.methodLink RX0 46 yX0_needPage, Cond.instanceMethod yX0_needPage, Cond.selects RX0 yX0_needPage yX0_needPage, Cond.code yX0_needPage cX0_needPage 3 none, Cond.methodLink RX0 42 yX0_needIndex, Cond.static yX0_needIndex, Cond.code yX0_needIndex cX0_needIndex 2 none, Cond.classLink RX0 103 "java/lang/IndexOutOfBoundsException", Cond.initialized "java/lang/IndexOutOfBoundsException"]
def wsL_copy_r2 : List Cond := [Cond.methodLink RX0 49 yX0_pageIndex, Cond.static yX0_pageIndex, Cond.code yX0_pageIndex cX0_pageIndex 2 (some .int), Cond.methodLink RX0 57 yX0_pageState, Cond.instanceMethod yX0_pageState, Cond.selects RX0 yX0_pageState yX0_pageState, Cond.code yX0_pageState cX0_pageState 2 (some .int), Cond.fieldLink RX0 20 "WordMedium" "lostPages" "[Z", Cond.fieldLink RX0 17 "WordMedium" "halfStamps" "[I", Cond.methodLink RX0 53 yX0_writePage, Cond.instanceMethod yX0_writePage, Cond.selects RX0 yX0_writePage yX0_writePage, Cond.code yX0_writePage cX0_writePage 6 (some .int), Cond.fieldLink RX0 128 "WordMedium" "pageWritesBegun" "I", Cond.methodLink RX0 67 arraycopyName, Cond.native arraycopyName, Cond.static arraycopyName, Cond.initialized "java/lang/System", Cond.methodLink RX0 99 yX0_makeLeastWrite, Cond.instanceMethod yX0_makeLeastWrite, Cond.selects RX0 yX0_makeLeastWrite yX0_makeLeastWrite, Cond.code yX0_makeLeastWrite cX0_makeLeastWrite 1 (some .boolean), Cond.fieldLink RX0 35 "WordMedium" "writesUntilCut" "I", Cond.fieldLink RX0 108 "WordMedium" "leastWritesMade" "I"]
def wsL_copy_r3 : List Cond := [Cond.methodLink RX0 116 yX0_failPower, Cond.instanceMethod yX0_failPower, Cond.selects RX0 yX0_failPower yX0_failPower, Cond.code yX0_failPower cX0_failPower 1 none, Cond.fieldLink RX0 96 "WordMedium" "logForced" "I", Cond.fieldLink RX0 84 "WordMedium" "logEnd" "I", Cond.fieldLink RX0 9 "WordMedium" "buffer" "[I", Cond.methodLink RX0 61 yJ7_fill_53178, Cond.static yJ7_fill_53178, Cond.initialized RJ7, Cond.code yJ7_fill_53178 cJ7_fill_53178 4 none]
def wsL_copy : List Cond := .codeWith yL_copy cL_copy 5 (some .int) [(0, 10, 13, 13), (0, 10, 17, 15)] :: ((wsL_copy_r1 ++ (wsL_copy_r2 ++ wsL_copy_r3)) ++ wsX00 ++ (vx_atS RX0 77 "java/lang/IllegalStateException" ["java/lang/RuntimeException", "java/lang/Exception"]).filter goodWord ++ (vx_atS RX0 107 "java/lang/IndexOutOfBoundsException" ["java/lang/RuntimeException", "java/lang/Exception"]).filter goodWord)
def wsL_append_r1 : List Cond := [Cond.classLink RL 13 "java/lang/IllegalStateException", Cond.classLink RL 37 "java/lang/IllegalArgumentException", Cond.methodLink RL 34 yX0_append, Cond.instanceMethod yX0_append, Cond.selects RX0 yX0_append yX0_append, Cond.initialized RX0, Cond.code yX0_append cX0_append 4 (some .int), Cond.constant RX0 24 (65536), Cond.fieldLink RX0 84 "WordMedium" "logEnd" "I", Cond.fieldLink RX0 87 "WordMedium" "logFirst" "I", Cond.fieldLink RX0 25 "WordMedium" "logWords" "[I", Cond.fieldLink RX0 9 "WordMedium" "buffer" "[I", Cond.methodLink RX0 39 yX0_needPower, Cond.instanceMethod yX0_needPower, Cond.selects RX0 yX0_needPower yX0_needPower, Cond.code yX0_needPower cX0_needPower 1 none, Cond.classLink RX0 73 "java/lang/IllegalStateException", Cond.initialized "java/lang/IllegalStateException", Cond.fieldLink RX0 31 "WordMedium" "powerOn" "Z", Cond.methodLink RX0 80 yX0_needWordCount, Cond.static yX0_needWordCount, Cond.code yX0_needWordCount cX0_needWordCount 1 none, Cond.classLink RX0 111 "java/lang/IllegalArgumentException", Cond.initialized "java/lang/IllegalArgumentException"]
def wsL_append_r2 : List Cond := [Cond.methodLink RX0 90 yX0_logSlot, Cond.static yX0_logSlot, Cond.code yX0_logSlot cX0_logSlot 1 (some .int), Cond.constant RX0 127 (65535)]
def wsL_append : List Cond := .codeWith yL_append cL_append 4 (some .int) [(0, 9, 12, 13), (0, 9, 15, 37)] :: ((wsL_append_r1 ++ wsL_append_r2) ++ wsX00 ++ (vx_atS RX0 77 "java/lang/IllegalStateException" ["java/lang/RuntimeException", "java/lang/Exception"]).filter goodWord ++ (vx_atS RX0 115 "java/lang/IllegalArgumentException" ["java/lang/RuntimeException", "java/lang/Exception"]).filter goodWord)
def wsL_force_r1 : List Cond := [Cond.classLink RL 13 "java/lang/IllegalStateException", Cond.classLink RL 37 "java/lang/IllegalArgumentException", Cond.methodLink RL 39 yX0_force, Cond.instanceMethod yX0_force, Cond.selects RX0 yX0_force yX0_force, Cond.initialized RX0, Cond.code yX0_force cX0_force 3 (some .int), Cond.fieldLink RX0 84 "WordMedium" "logEnd" "I", Cond.fieldLink RX0 96 "WordMedium" "logForced" "I", Cond.methodLink RX0 39 yX0_needPower, Cond.instanceMethod yX0_needPower, Cond.selects RX0 yX0_needPower yX0_needPower, Cond.code yX0_needPower cX0_needPower 1 none, Cond.classLink RX0 73 "java/lang/IllegalStateException", Cond.initialized "java/lang/IllegalStateException", Cond.fieldLink RX0 31 "WordMedium" "powerOn" "Z", Cond.methodLink RX0 93 yX0_needPlace, Cond.instanceMethod yX0_needPlace, Cond.selects RX0 yX0_needPlace yX0_needPlace, Cond.code yX0_needPlace cX0_needPlace 3 none, Cond.classLink RX0 111 "java/lang/IllegalArgumentException", Cond.initialized "java/lang/IllegalArgumentException", Cond.fieldLink RX0 87 "WordMedium" "logFirst" "I", Cond.methodLink RX0 99 yX0_makeLeastWrite]
def wsL_force_r2 : List Cond := [Cond.instanceMethod yX0_makeLeastWrite, Cond.selects RX0 yX0_makeLeastWrite yX0_makeLeastWrite, Cond.code yX0_makeLeastWrite cX0_makeLeastWrite 1 (some .boolean), Cond.fieldLink RX0 35 "WordMedium" "writesUntilCut" "I", Cond.fieldLink RX0 108 "WordMedium" "leastWritesMade" "I", Cond.methodLink RX0 116 yX0_failPower, Cond.instanceMethod yX0_failPower, Cond.selects RX0 yX0_failPower yX0_failPower, Cond.code yX0_failPower cX0_failPower 1 none, Cond.fieldLink RX0 9 "WordMedium" "buffer" "[I", Cond.methodLink RX0 61 yJ7_fill_53178, Cond.static yJ7_fill_53178, Cond.initialized RJ7, Cond.code yJ7_fill_53178 cJ7_fill_53178 4 none]
def wsL_force : List Cond := .codeWith yL_force cL_force 4 (some .int) [(0, 9, 12, 13), (0, 9, 15, 37)] :: ((wsL_force_r1 ++ wsL_force_r2) ++ wsX00 ++ (vx_atS RX0 77 "java/lang/IllegalStateException" ["java/lang/RuntimeException", "java/lang/Exception"]).filter goodWord ++ (vx_atS RX0 115 "java/lang/IllegalArgumentException" ["java/lang/RuntimeException", "java/lang/Exception"]).filter goodWord)
def wsL_readLog_r1 : List Cond := [Cond.classLink RL 13 "java/lang/IllegalStateException", Cond.classLink RL 37 "java/lang/IllegalArgumentException", Cond.methodLink RL 42 yX0_readLog, Cond.instanceMethod yX0_readLog, Cond.selects RX0 yX0_readLog yX0_readLog, Cond.initialized RX0, Cond.code yX0_readLog cX0_readLog 4 none, Cond.fieldLink RX0 84 "WordMedium" "logEnd" "I", Cond.fieldLink RX0 9 "WordMedium" "buffer" "[I", Cond.fieldLink RX0 25 "WordMedium" "logWords" "[I", Cond.methodLink RX0 39 yX0_needPower, Cond.instanceMethod yX0_needPower, Cond.selects RX0 yX0_needPower yX0_needPower, Cond.code yX0_needPower cX0_needPower 1 none, Cond.classLink RX0 73 "java/lang/IllegalStateException", Cond.initialized "java/lang/IllegalStateException", Cond.fieldLink RX0 31 "WordMedium" "powerOn" "Z", Cond.methodLink RX0 80 yX0_needWordCount, Cond.static yX0_needWordCount, Cond.code yX0_needWordCount cX0_needWordCount 1 none, Cond.classLink RX0 111 "java/lang/IllegalArgumentException", Cond.initialized "java/lang/IllegalArgumentException", Cond.methodLink RX0 93 yX0_needPlace, Cond.instanceMethod yX0_needPlace]
def wsL_readLog_r2 : List Cond := [Cond.selects RX0 yX0_needPlace yX0_needPlace, Cond.code yX0_needPlace cX0_needPlace 3 none, Cond.fieldLink RX0 87 "WordMedium" "logFirst" "I", Cond.methodLink RX0 90 yX0_logSlot, Cond.static yX0_logSlot, Cond.code yX0_logSlot cX0_logSlot 1 (some .int), Cond.constant RX0 127 (65535)]
def wsL_readLog : List Cond := .codeWith yL_readLog cL_readLog 4 (some .int) [(0, 6, 9, 13), (0, 6, 12, 37)] :: ((wsL_readLog_r1 ++ wsL_readLog_r2) ++ wsX00 ++ (vx_atS RX0 77 "java/lang/IllegalStateException" ["java/lang/RuntimeException", "java/lang/Exception"]).filter goodWord ++ (vx_atS RX0 115 "java/lang/IllegalArgumentException" ["java/lang/RuntimeException", "java/lang/Exception"]).filter goodWord)
def wsL_giveBack : List Cond := .codeWith yL_giveBack cL_giveBack 3 (some .int) [(0, 5, 8, 13), (0, 5, 11, 37)] :: ([.classLink RL 13 "java/lang/IllegalStateException", .classLink RL 37 "java/lang/IllegalArgumentException", .methodLink RL 45 yX0_giveBack, .instanceMethod yX0_giveBack, .selects RX0 yX0_giveBack yX0_giveBack, .initialized RX0, .code yX0_giveBack cX0_giveBack 2 none, .fieldLink RX0 96 "WordMedium" "logForced" "I", .fieldLink RX0 87 "WordMedium" "logFirst" "I", .methodLink RX0 39 yX0_needPower, .instanceMethod yX0_needPower, .selects RX0 yX0_needPower yX0_needPower, .code yX0_needPower cX0_needPower 1 none, .classLink RX0 73 "java/lang/IllegalStateException", .initialized "java/lang/IllegalStateException", .fieldLink RX0 31 "WordMedium" "powerOn" "Z", .methodLink RX0 93 yX0_needPlace, .instanceMethod yX0_needPlace, .selects RX0 yX0_needPlace yX0_needPlace, .code yX0_needPlace cX0_needPlace 3 none, .classLink RX0 111 "java/lang/IllegalArgumentException", .initialized "java/lang/IllegalArgumentException"] ++ wsX00 ++ (vx_atS RX0 77 "java/lang/IllegalStateException" ["java/lang/RuntimeException", "java/lang/Exception"]).filter goodWord ++ (vx_atS RX0 115 "java/lang/IllegalArgumentException" ["java/lang/RuntimeException", "java/lang/Exception"]).filter goodWord)
def wsL_log : List Cond := .codeWith yL_log cL_log 4 (some .int) [(0, 9, 12, 15)] :: ([.classLink RL 15 "java/lang/IndexOutOfBoundsException", .methodLink RL 49 yX0_log, .instanceMethod yX0_log, .selects RX0 yX0_log yX0_log, .initialized RX0, .code yX0_log cX0_log 2 (some .int), .classLink RX0 103 "java/lang/IndexOutOfBoundsException", .initialized "java/lang/IndexOutOfBoundsException", .fieldLink RX0 87 "WordMedium" "logFirst" "I", .fieldLink RX0 96 "WordMedium" "logForced" "I", .fieldLink RX0 84 "WordMedium" "logEnd" "I"] ++ wsX00 ++ (vx_atS RX0 107 "java/lang/IndexOutOfBoundsException" ["java/lang/RuntimeException", "java/lang/Exception"]).filter goodWord)
def wsL_setRoot_r1 : List Cond := [Cond.classLink RL 13 "java/lang/IllegalStateException", Cond.classLink RL 15 "java/lang/IndexOutOfBoundsException", Cond.methodLink RL 52 yX0_setRoot, Cond.instanceMethod yX0_setRoot, Cond.selects RX0 yX0_setRoot yX0_setRoot, Cond.initialized RX0, Cond.code yX0_setRoot cX0_setRoot 3 (some .boolean), Cond.fieldLink RX0 28 "WordMedium" "rootWords" "[I", Cond.methodLink RX0 39 yX0_needPower, Cond.instanceMethod yX0_needPower, Cond.selects RX0 yX0_needPower yX0_needPower, Cond.code yX0_needPower cX0_needPower 1 none, Cond.classLink RX0 73 "java/lang/IllegalStateException", Cond.initialized "java/lang/IllegalStateException", Cond.fieldLink RX0 31 "WordMedium" "powerOn" "Z", Cond.methodLink RX0 42 yX0_needIndex, Cond.static yX0_needIndex, Cond.code yX0_needIndex cX0_needIndex 2 none, Cond.classLink RX0 103 "java/lang/IndexOutOfBoundsException", Cond.initialized "java/lang/IndexOutOfBoundsException", Cond.methodLink RX0 99 yX0_makeLeastWrite, Cond.instanceMethod yX0_makeLeastWrite, Cond.selects RX0 yX0_makeLeastWrite yX0_makeLeastWrite, Cond.code yX0_makeLeastWrite cX0_makeLeastWrite 1 (some .boolean)]
def wsL_setRoot_r2 : List Cond := [Cond.fieldLink RX0 35 "WordMedium" "writesUntilCut" "I", Cond.fieldLink RX0 108 "WordMedium" "leastWritesMade" "I", Cond.methodLink RX0 116 yX0_failPower, Cond.instanceMethod yX0_failPower, Cond.selects RX0 yX0_failPower yX0_failPower, Cond.code yX0_failPower cX0_failPower 1 none, Cond.fieldLink RX0 96 "WordMedium" "logForced" "I", Cond.fieldLink RX0 84 "WordMedium" "logEnd" "I", Cond.fieldLink RX0 9 "WordMedium" "buffer" "[I", Cond.methodLink RX0 61 yJ7_fill_53178, Cond.static yJ7_fill_53178, Cond.initialized RJ7, Cond.code yJ7_fill_53178 cJ7_fill_53178 4 none]
def wsL_setRoot : List Cond := .codeWith yL_setRoot cL_setRoot 5 (some .int) [(0, 17, 20, 13), (0, 17, 24, 15)] :: ((wsL_setRoot_r1 ++ wsL_setRoot_r2) ++ wsX00 ++ (vx_atS RX0 77 "java/lang/IllegalStateException" ["java/lang/RuntimeException", "java/lang/Exception"]).filter goodWord ++ (vx_atS RX0 107 "java/lang/IndexOutOfBoundsException" ["java/lang/RuntimeException", "java/lang/Exception"]).filter goodWord)
def wsL_root : List Cond := .codeWith yL_root cL_root 4 (some .int) [(0, 9, 12, 15)] :: ([.classLink RL 15 "java/lang/IndexOutOfBoundsException", .methodLink RL 56 yX0_root, .instanceMethod yX0_root, .selects RX0 yX0_root yX0_root, .initialized RX0, .code yX0_root cX0_root 2 (some .int), .fieldLink RX0 28 "WordMedium" "rootWords" "[I", .methodLink RX0 42 yX0_needIndex, .static yX0_needIndex, .code yX0_needIndex cX0_needIndex 2 none, .classLink RX0 103 "java/lang/IndexOutOfBoundsException", .initialized "java/lang/IndexOutOfBoundsException"] ++ wsX00 ++ (vx_atS RX0 107 "java/lang/IndexOutOfBoundsException" ["java/lang/RuntimeException", "java/lang/Exception"]).filter goodWord)
def wsL_lose : List Cond := .codeWith yL_lose cL_lose 4 (some .int) [(0, 6, 9, 15)] :: ([.classLink RL 15 "java/lang/IndexOutOfBoundsException", .methodLink RL 59 yX0_lose, .instanceMethod yX0_lose, .selects RX0 yX0_lose yX0_lose, .initialized RX0, .code yX0_lose cX0_lose 3 none, .fieldLink RX0 20 "WordMedium" "lostPages" "[Z", .methodLink RX0 46 yX0_needPage, .instanceMethod yX0_needPage, .selects RX0 yX0_needPage yX0_needPage, .code yX0_needPage cX0_needPage 3 none, .methodLink RX0 42 yX0_needIndex, .static yX0_needIndex, .code yX0_needIndex cX0_needIndex 2 none, .classLink RX0 103 "java/lang/IndexOutOfBoundsException", .initialized "java/lang/IndexOutOfBoundsException", .methodLink RX0 49 yX0_pageIndex, .static yX0_pageIndex, .code yX0_pageIndex cX0_pageIndex 2 (some .int)] ++ wsX00 ++ (vx_atS RX0 107 "java/lang/IndexOutOfBoundsException" ["java/lang/RuntimeException", "java/lang/Exception"]).filter goodWord)
def wsL_stamp : List Cond := .codeWith yL_stamp cL_stamp 6 (some .int) [(0, 12, 15, 15)] :: ([.classLink RL 15 "java/lang/IndexOutOfBoundsException", .methodLink RL 62 yX0_stamp, .instanceMethod yX0_stamp, .selects RX0 yX0_stamp yX0_stamp, .initialized RX0, .code yX0_stamp cX0_stamp 4 (some .int), .fieldLink RX0 17 "WordMedium" "halfStamps" "[I", .methodLink RX0 46 yX0_needPage, .instanceMethod yX0_needPage, .selects RX0 yX0_needPage yX0_needPage, .code yX0_needPage cX0_needPage 3 none, .methodLink RX0 42 yX0_needIndex, .static yX0_needIndex, .code yX0_needIndex cX0_needIndex 2 none, .classLink RX0 103 "java/lang/IndexOutOfBoundsException", .initialized "java/lang/IndexOutOfBoundsException", .methodLink RX0 49 yX0_pageIndex, .static yX0_pageIndex, .code yX0_pageIndex cX0_pageIndex 2 (some .int)] ++ wsX00 ++ (vx_atS RX0 107 "java/lang/IndexOutOfBoundsException" ["java/lang/RuntimeException", "java/lang/Exception"]).filter goodWord)
def wsL_count : List Cond := .codeWith yL_count cL_count 5 (some .int) [(0, 10, 13, 15)] :: ([.classLink RL 15 "java/lang/IndexOutOfBoundsException", .methodLink RL 66 yX0_count, .instanceMethod yX0_count, .selects RX0 yX0_count yX0_count, .initialized RX0, .code yX0_count cX0_count 5 (some .int), .methodLink RX0 42 yX0_needIndex, .static yX0_needIndex, .code yX0_needIndex cX0_needIndex 2 none, .classLink RX0 103 "java/lang/IndexOutOfBoundsException", .initialized "java/lang/IndexOutOfBoundsException", .methodLink RX0 49 yX0_pageIndex, .static yX0_pageIndex, .code yX0_pageIndex cX0_pageIndex 2 (some .int), .methodLink RX0 57 yX0_pageState, .instanceMethod yX0_pageState, .selects RX0 yX0_pageState yX0_pageState, .code yX0_pageState cX0_pageState 2 (some .int), .fieldLink RX0 20 "WordMedium" "lostPages" "[Z", .fieldLink RX0 17 "WordMedium" "halfStamps" "[I"] ++ wsX00 ++ (vx_atS RX0 107 "java/lang/IndexOutOfBoundsException" ["java/lang/RuntimeException", "java/lang/Exception"]).filter goodWord)
def wsL_cutAfter : List Cond := .codeWith yL_cutAfter cL_cutAfter 3 (some .int) [(0, 5, 8, 37)] :: ([.classLink RL 37 "java/lang/IllegalArgumentException", .methodLink RL 69 yX0_cutAfter, .instanceMethod yX0_cutAfter, .selects RX0 yX0_cutAfter yX0_cutAfter, .initialized RX0, .code yX0_cutAfter cX0_cutAfter 2 none, .classLink RX0 111 "java/lang/IllegalArgumentException", .initialized "java/lang/IllegalArgumentException", .fieldLink RX0 35 "WordMedium" "writesUntilCut" "I"] ++ wsX00 ++ (vx_atS RX0 115 "java/lang/IllegalArgumentException" ["java/lang/RuntimeException", "java/lang/Exception"]).filter goodWord)
def wsL_law0_r1 : List Cond := [Cond.classLink RL 8 RX0, Cond.instantiable RX0 13, Cond.initialized RX0, Cond.classLink RL 73 RX1, Cond.instantiable RX1 14, Cond.initialized RX1, Cond.arrayClass .long, Cond.methodLink RL 72 yX0_init, Cond.instanceMethod yX0_init, Cond.code yX0_init cX0_init 1 none, Cond.methodLink RX0 1 objectInit, Cond.instanceMethod objectInit, Cond.code objectInit ⟨#[0xb1]⟩ 1 none, Cond.arrayClass .int, Cond.fieldLink RX0 9 "WordMedium" "buffer" "[I", Cond.constant RX0 13 (32768), Cond.fieldLink RX0 14 "WordMedium" "pageWords" "[I", Cond.fieldLink RX0 17 "WordMedium" "halfStamps" "[I", Cond.arrayClass .boolean, Cond.fieldLink RX0 20 "WordMedium" "lostPages" "[Z", Cond.constant RX0 24 (65536), Cond.fieldLink RX0 25 "WordMedium" "logWords" "[I", Cond.fieldLink RX0 28 "WordMedium" "rootWords" "[I", Cond.fieldLink RX0 31 "WordMedium" "powerOn" "Z"]
def wsL_law0_r2 : List Cond := [Cond.fieldLink RX0 35 "WordMedium" "writesUntilCut" "I", Cond.methodLink RL 75 yX1_init, Cond.instanceMethod yX1_init, Cond.code yX1_init cX1_init 1 none, Cond.methodLink RX1 1 objectInit, Cond.constant RX1 7 (32768), Cond.fieldLink RX1 8 "WordMediumModel" "pages" "[I", Cond.fieldLink RX1 14 "WordMediumModel" "stamps" "[I", Cond.fieldLink RX1 17 "WordMediumModel" "lost" "[Z", Cond.constant RX1 21 (65536), Cond.fieldLink RX1 22 "WordMediumModel" "log" "[I", Cond.fieldLink RX1 25 "WordMediumModel" "roots" "[I", Cond.fieldLink RX1 28 "WordMediumModel" "buffer" "[I", Cond.fieldLink RX1 31 "WordMediumModel" "left" "I", Cond.fieldLink RX1 35 "WordMediumModel" "first" "I", Cond.methodLink RL 76 yL_set, Cond.static yL_set, Cond.initialized RL, Cond.codeWith yL_set cL_set 4 (some .int) [(0, 6, 9, 13), (0, 6, 12, 15)], Cond.classLink RL 13 "java/lang/IllegalStateException", Cond.classLink RL 15 "java/lang/IndexOutOfBoundsException", Cond.methodLink RL 7 yX0_set, Cond.instanceMethod yX0_set, Cond.selects RX0 yX0_set yX0_set]
def wsL_law0_r3 : List Cond := [Cond.code yX0_set cX0_set 3 none, Cond.methodLink RX0 39 yX0_needPower, Cond.instanceMethod yX0_needPower, Cond.selects RX0 yX0_needPower yX0_needPower, Cond.code yX0_needPower cX0_needPower 1 none, Cond.classLink RX0 73 "java/lang/IllegalStateException", Cond.initialized "java/lang/IllegalStateException", Cond.methodLink RX0 42 yX0_needIndex, Cond.static yX0_needIndex, Cond.code yX0_needIndex cX0_needIndex 2 none, Cond.classLink RX0 103 "java/lang/IndexOutOfBoundsException", Cond.initialized "java/lang/IndexOutOfBoundsException", Cond.methodLink RL 81 yX1_set, Cond.instanceMethod yX1_set, Cond.selects RX1 yX1_set yX1_set, Cond.code yX1_set cX1_set 3 none, Cond.fieldLink RX1 45 "WordMediumModel" "off" "Z", Cond.methodLink RX1 41 yX1_in, Cond.static yX1_in, Cond.code yX1_in cX1_in 3 (some .boolean), Cond.methodLink RX1 61 yX1_refused, Cond.instanceMethod yX1_refused, Cond.selects RX1 yX1_refused yX1_refused, Cond.code yX1_refused cX1_refused 3 (some .boolean)]
def wsL_law0_r4 : List Cond := [Cond.fieldLink RX1 38 "WordMediumModel" "thrown" "I", Cond.methodLink RL 82 yX1_thrown, Cond.instanceMethod yX1_thrown, Cond.selects RX1 yX1_thrown yX1_thrown, Cond.code yX1_thrown cX1_thrown 1 (some .int), Cond.methodLink RL 86 yL_fill, Cond.static yL_fill, Cond.codeWith yL_fill cL_fill 4 (some .int) [(0, 6, 9, 13)], Cond.methodLink RL 17 yX0_fill, Cond.instanceMethod yX0_fill, Cond.selects RX0 yX0_fill yX0_fill, Cond.code yX0_fill cX0_fill 4 none, Cond.methodLink RL 88 yX1_fill, Cond.instanceMethod yX1_fill, Cond.selects RX1 yX1_fill yX1_fill, Cond.code yX1_fill cX1_fill 4 none, Cond.methodLink RL 89 yL_get, Cond.static yL_get, Cond.codeWith yL_get cL_get 4 (some .int) [(0, 9, 12, 15)], Cond.methodLink RL 20 yX0_get, Cond.instanceMethod yX0_get, Cond.selects RX0 yX0_get yX0_get, Cond.code yX0_get cX0_get 2 (some .int), Cond.methodLink RL 92 yX1_get]
def wsL_law0_r5 : List Cond := [Cond.instanceMethod yX1_get, Cond.selects RX1 yX1_get yX1_get, Cond.code yX1_get cX1_get 2 (some .int), Cond.methodLink RL 93 yX0_sum, Cond.instanceMethod yX0_sum, Cond.selects RX0 yX0_sum yX0_sum, Cond.code yX0_sum cX0_sum 3 (some .int), Cond.methodLink RL 96 yX1_sum, Cond.instanceMethod yX1_sum, Cond.selects RX1 yX1_sum yX1_sum, Cond.code yX1_sum cX1_sum 3 (some .int), Cond.methodLink RL 97 yL_write, Cond.static yL_write, Cond.codeWith yL_write cL_write 5 (some .int) [(0, 10, 13, 13), (0, 10, 17, 15)], Cond.methodLink RL 24 yX0_write, Cond.instanceMethod yX0_write, Cond.selects RX0 yX0_write yX0_write, Cond.code yX0_write cX0_write 3 (some .int), Cond.methodLink RX0 46 yX0_needPage, Cond.instanceMethod yX0_needPage, Cond.selects RX0 yX0_needPage yX0_needPage, Cond.code yX0_needPage cX0_needPage 3 none, Cond.methodLink RX0 49 yX0_pageIndex, Cond.static yX0_pageIndex]
def wsL_law0_r6 : List Cond := [Cond.code yX0_pageIndex cX0_pageIndex 2 (some .int), Cond.methodLink RX0 53 yX0_writePage, Cond.instanceMethod yX0_writePage, Cond.selects RX0 yX0_writePage yX0_writePage, Cond.code yX0_writePage cX0_writePage 6 (some .int), Cond.fieldLink RX0 128 "WordMedium" "pageWritesBegun" "I", Cond.methodLink RX0 67 arraycopyName, Cond.native arraycopyName, Cond.static arraycopyName, Cond.initialized "java/lang/System", Cond.methodLink RX0 99 yX0_makeLeastWrite, Cond.instanceMethod yX0_makeLeastWrite, Cond.selects RX0 yX0_makeLeastWrite yX0_makeLeastWrite, Cond.code yX0_makeLeastWrite cX0_makeLeastWrite 1 (some .boolean), Cond.fieldLink RX0 108 "WordMedium" "leastWritesMade" "I", Cond.methodLink RX0 116 yX0_failPower, Cond.instanceMethod yX0_failPower, Cond.selects RX0 yX0_failPower yX0_failPower, Cond.code yX0_failPower cX0_failPower 1 none, Cond.fieldLink RX0 96 "WordMedium" "logForced" "I", Cond.fieldLink RX0 84 "WordMedium" "logEnd" "I", Cond.methodLink RX0 61 yJ7_fill_53178, Cond.static yJ7_fill_53178, Cond.initialized RJ7]
def wsL_law0_r7 : List Cond := [Cond.code yJ7_fill_53178 cJ7_fill_53178 4 none, Cond.methodLink RL 100 yX1_write, Cond.instanceMethod yX1_write, Cond.selects RX1 yX1_write yX1_write, Cond.code yX1_write cX1_write 3 (some .int), Cond.methodLink RX1 76 yX1_isPage, Cond.static yX1_isPage, Cond.code yX1_isPage cX1_isPage 2 (some .boolean), Cond.methodLink RX1 80 yX1_place, Cond.static yX1_place, Cond.code yX1_place cX1_place 2 (some .int), Cond.methodLink RX1 84 yX1_writePage, Cond.instanceMethod yX1_writePage, Cond.selects RX1 yX1_writePage yX1_writePage, Cond.code yX1_writePage cX1_writePage 7 (some .int), Cond.fieldLink RX1 69 "WordMediumModel" "pageWrites" "I", Cond.methodLink RX1 72 yX1_canWrite, Cond.instanceMethod yX1_canWrite, Cond.selects RX1 yX1_canWrite yX1_canWrite, Cond.code yX1_canWrite cX1_canWrite 1 (some .boolean), Cond.fieldLink RX1 58 "WordMediumModel" "made" "I", Cond.methodLink RX1 55 yX1_fail, Cond.instanceMethod yX1_fail, Cond.selects RX1 yX1_fail yX1_fail]
def wsL_law0_r8 : List Cond := [Cond.code yX1_fail cX1_fail 2 none, Cond.fieldLink RX1 49 "WordMediumModel" "forced" "I", Cond.fieldLink RX1 52 "WordMediumModel" "end" "I", Cond.methodLink RL 101 yL_read, Cond.static yL_read, Cond.codeWith yL_read cL_read 5 (some .int) [(0, 10, 13, 13), (0, 10, 17, 15)], Cond.methodLink RL 28 yX0_read, Cond.instanceMethod yX0_read, Cond.selects RX0 yX0_read yX0_read, Cond.code yX0_read cX0_read 5 (some .int), Cond.methodLink RX0 57 yX0_pageState, Cond.instanceMethod yX0_pageState, Cond.selects RX0 yX0_pageState yX0_pageState, Cond.code yX0_pageState cX0_pageState 2 (some .int), Cond.methodLink RL 103 yX1_read, Cond.instanceMethod yX1_read, Cond.selects RX1 yX1_read yX1_read, Cond.code yX1_read cX1_read 5 (some .int), Cond.methodLink RX1 88 yX1_stateOf, Cond.instanceMethod yX1_stateOf, Cond.selects RX1 yX1_stateOf yX1_stateOf, Cond.code yX1_stateOf cX1_stateOf 2 (some .int), Cond.methodLink RX1 65 yX1_isTorn, Cond.instanceMethod yX1_isTorn]
def wsL_law0_r9 : List Cond := [Cond.selects RX1 yX1_isTorn yX1_isTorn, Cond.code yX1_isTorn cX1_isTorn 2 (some .boolean), Cond.methodLink RL 104 yL_copy, Cond.static yL_copy, Cond.codeWith yL_copy cL_copy 5 (some .int) [(0, 10, 13, 13), (0, 10, 17, 15)], Cond.methodLink RL 31 yX0_copy, Cond.instanceMethod yX0_copy, Cond.selects RX0 yX0_copy yX0_copy, Cond.code yX0_copy cX0_copy 4 (some .int), Cond.methodLink RL 106 yX1_copy, Cond.instanceMethod yX1_copy, Cond.selects RX1 yX1_copy yX1_copy, Cond.code yX1_copy cX1_copy 5 (some .int), Cond.methodLink RL 107 yL_append, Cond.static yL_append, Cond.codeWith yL_append cL_append 4 (some .int) [(0, 9, 12, 13), (0, 9, 15, 37)], Cond.classLink RL 37 "java/lang/IllegalArgumentException", Cond.methodLink RL 34 yX0_append, Cond.instanceMethod yX0_append, Cond.selects RX0 yX0_append yX0_append, Cond.code yX0_append cX0_append 4 (some .int), Cond.fieldLink RX0 87 "WordMedium" "logFirst" "I", Cond.methodLink RX0 80 yX0_needWordCount, Cond.static yX0_needWordCount]
def wsL_law0_r10 : List Cond := [Cond.code yX0_needWordCount cX0_needWordCount 1 none, Cond.classLink RX0 111 "java/lang/IllegalArgumentException", Cond.initialized "java/lang/IllegalArgumentException", Cond.methodLink RX0 90 yX0_logSlot, Cond.static yX0_logSlot, Cond.code yX0_logSlot cX0_logSlot 1 (some .int), Cond.constant RX0 127 (65535), Cond.methodLink RL 109 yX1_append, Cond.instanceMethod yX1_append, Cond.selects RX1 yX1_append yX1_append, Cond.code yX1_append cX1_append 4 (some .int), Cond.methodLink RL 110 yL_force, Cond.static yL_force, Cond.codeWith yL_force cL_force 4 (some .int) [(0, 9, 12, 13), (0, 9, 15, 37)], Cond.methodLink RL 39 yX0_force, Cond.instanceMethod yX0_force, Cond.selects RX0 yX0_force yX0_force, Cond.code yX0_force cX0_force 3 (some .int), Cond.methodLink RX0 93 yX0_needPlace, Cond.instanceMethod yX0_needPlace, Cond.selects RX0 yX0_needPlace yX0_needPlace, Cond.code yX0_needPlace cX0_needPlace 3 none, Cond.methodLink RL 112 yX1_force, Cond.instanceMethod yX1_force]
def wsL_law0_r11 : List Cond := [Cond.selects RX1 yX1_force yX1_force, Cond.code yX1_force cX1_force 3 (some .int), Cond.methodLink RL 113 yL_readLog, Cond.static yL_readLog, Cond.codeWith yL_readLog cL_readLog 4 (some .int) [(0, 6, 9, 13), (0, 6, 12, 37)], Cond.methodLink RL 42 yX0_readLog, Cond.instanceMethod yX0_readLog, Cond.selects RX0 yX0_readLog yX0_readLog, Cond.code yX0_readLog cX0_readLog 4 none, Cond.methodLink RL 115 yX1_readLog, Cond.instanceMethod yX1_readLog, Cond.selects RX1 yX1_readLog yX1_readLog, Cond.code yX1_readLog cX1_readLog 5 none, Cond.methodLink RL 116 yL_giveBack, Cond.static yL_giveBack, Cond.codeWith yL_giveBack cL_giveBack 3 (some .int) [(0, 5, 8, 13), (0, 5, 11, 37)], Cond.methodLink RL 45 yX0_giveBack, Cond.instanceMethod yX0_giveBack, Cond.selects RX0 yX0_giveBack yX0_giveBack, Cond.code yX0_giveBack cX0_giveBack 2 none, Cond.methodLink RL 119 yX1_giveBack, Cond.instanceMethod yX1_giveBack, Cond.selects RX1 yX1_giveBack yX1_giveBack, Cond.code yX1_giveBack cX1_giveBack 2 none]
def wsL_law0_r12 : List Cond := [Cond.methodLink RL 120 yL_log, Cond.static yL_log, Cond.codeWith yL_log cL_log 4 (some .int) [(0, 9, 12, 15)], Cond.methodLink RL 49 yX0_log, Cond.instanceMethod yX0_log, Cond.selects RX0 yX0_log yX0_log, Cond.code yX0_log cX0_log 2 (some .int), Cond.methodLink RL 122 yX1_log, Cond.instanceMethod yX1_log, Cond.selects RX1 yX1_log yX1_log, Cond.code yX1_log cX1_log 2 (some .int), Cond.methodLink RL 123 yL_setRoot, Cond.static yL_setRoot, Cond.codeWith yL_setRoot cL_setRoot 5 (some .int) [(0, 17, 20, 13), (0, 17, 24, 15)], Cond.methodLink RL 52 yX0_setRoot, Cond.instanceMethod yX0_setRoot, Cond.selects RX0 yX0_setRoot yX0_setRoot, Cond.code yX0_setRoot cX0_setRoot 3 (some .boolean), Cond.methodLink RL 125 yX1_setRoot, Cond.instanceMethod yX1_setRoot, Cond.selects RX1 yX1_setRoot yX1_setRoot, Cond.code yX1_setRoot cX1_setRoot 3 (some .boolean), Cond.methodLink RL 126 yL_root, Cond.static yL_root]
def wsL_law0_r13 : List Cond := [Cond.codeWith yL_root cL_root 4 (some .int) [(0, 9, 12, 15)], Cond.methodLink RL 56 yX0_root, Cond.instanceMethod yX0_root, Cond.selects RX0 yX0_root yX0_root, Cond.code yX0_root cX0_root 2 (some .int), Cond.methodLink RL 128 yX1_root, Cond.instanceMethod yX1_root, Cond.selects RX1 yX1_root yX1_root, Cond.code yX1_root cX1_root 2 (some .int), Cond.methodLink RL 129 yL_lose, Cond.static yL_lose, Cond.codeWith yL_lose cL_lose 4 (some .int) [(0, 6, 9, 15)], Cond.methodLink RL 59 yX0_lose, Cond.instanceMethod yX0_lose, Cond.selects RX0 yX0_lose yX0_lose, Cond.code yX0_lose cX0_lose 3 none, Cond.methodLink RL 131 yX1_lose, Cond.instanceMethod yX1_lose, Cond.selects RX1 yX1_lose yX1_lose, Cond.code yX1_lose cX1_lose 3 none, Cond.methodLink RL 132 yL_stamp, Cond.static yL_stamp, Cond.codeWith yL_stamp cL_stamp 6 (some .int) [(0, 12, 15, 15)], Cond.methodLink RL 62 yX0_stamp]
def wsL_law0_r14 : List Cond := [Cond.instanceMethod yX0_stamp, Cond.selects RX0 yX0_stamp yX0_stamp, Cond.code yX0_stamp cX0_stamp 4 (some .int), Cond.methodLink RL 135 yX1_stamp, Cond.instanceMethod yX1_stamp, Cond.selects RX1 yX1_stamp yX1_stamp, Cond.code yX1_stamp cX1_stamp 4 (some .int), Cond.methodLink RL 136 yL_count, Cond.static yL_count, Cond.codeWith yL_count cL_count 5 (some .int) [(0, 10, 13, 15)], Cond.methodLink RL 66 yX0_count, Cond.instanceMethod yX0_count, Cond.selects RX0 yX0_count yX0_count, Cond.code yX0_count cX0_count 5 (some .int), Cond.methodLink RL 138 yX1_count, Cond.instanceMethod yX1_count, Cond.selects RX1 yX1_count yX1_count, Cond.code yX1_count cX1_count 5 (some .int), Cond.methodLink RL 139 yX0_writes, Cond.instanceMethod yX0_writes, Cond.selects RX0 yX0_writes yX0_writes, Cond.code yX0_writes cX0_writes 1 (some .int), Cond.methodLink RL 142 yX1_writes, Cond.instanceMethod yX1_writes]
def wsL_law0_r15 : List Cond := [Cond.selects RX1 yX1_writes yX1_writes, Cond.code yX1_writes cX1_writes 1 (some .int), Cond.methodLink RL 143 yL_cutAfter, Cond.static yL_cutAfter, Cond.codeWith yL_cutAfter cL_cutAfter 3 (some .int) [(0, 5, 8, 37)], Cond.methodLink RL 69 yX0_cutAfter, Cond.instanceMethod yX0_cutAfter, Cond.selects RX0 yX0_cutAfter yX0_cutAfter, Cond.code yX0_cutAfter cX0_cutAfter 2 none, Cond.methodLink RL 145 yX1_cutAfter, Cond.instanceMethod yX1_cutAfter, Cond.selects RX1 yX1_cutAfter yX1_cutAfter, Cond.code yX1_cutAfter cX1_cutAfter 2 none, Cond.methodLink RL 146 yX0_cut, Cond.instanceMethod yX0_cut, Cond.selects RX0 yX0_cut yX0_cut, Cond.code yX0_cut cX0_cut 1 (some .boolean), Cond.methodLink RL 150 yX1_cut, Cond.instanceMethod yX1_cut, Cond.selects RX1 yX1_cut yX1_cut, Cond.code yX1_cut cX1_cut 1 (some .boolean), Cond.methodLink RL 151 yX0_start, Cond.instanceMethod yX0_start, Cond.selects RX0 yX0_start yX0_start]
def wsL_law0_r16 : List Cond := [Cond.code yX0_start cX0_start 1 (some .boolean), Cond.methodLink RL 154 yX1_start, Cond.instanceMethod yX1_start, Cond.selects RX1 yX1_start yX1_start, Cond.code yX1_start cX1_start 1 (some .boolean), Cond.methodLink RL 155 yX0_isOn, Cond.instanceMethod yX0_isOn, Cond.selects RX0 yX0_isOn yX0_isOn, Cond.code yX0_isOn cX0_isOn 1 (some .boolean), Cond.methodLink RL 158 yX1_isOn, Cond.instanceMethod yX1_isOn, Cond.selects RX1 yX1_isOn yX1_isOn, Cond.code yX1_isOn cX1_isOn 1 (some .boolean)]
def wsL_law0 : List Cond := (wsL_law0_r1 ++ (wsL_law0_r2 ++ (wsL_law0_r3 ++ (wsL_law0_r4 ++ (wsL_law0_r5 ++ (wsL_law0_r6 ++ (wsL_law0_r7 ++ (wsL_law0_r8 ++ (wsL_law0_r9 ++ (wsL_law0_r10 ++ (wsL_law0_r11 ++ (wsL_law0_r12 ++ (wsL_law0_r13 ++ (wsL_law0_r14 ++ (wsL_law0_r15 ++ wsL_law0_r16))))))))))))))) ++ wsX00 ++ wsX10 ++ ([] : List Cond)
def wsL_law : List Cond := wsL_law0 ++ (vx_atS RX0 77 "java/lang/IllegalStateException" ["java/lang/RuntimeException", "java/lang/Exception"]).filter goodWord ++ (vx_atS RX0 107 "java/lang/IndexOutOfBoundsException" ["java/lang/RuntimeException", "java/lang/Exception"]).filter goodWord ++ (vx_atS RX0 115 "java/lang/IllegalArgumentException" ["java/lang/RuntimeException", "java/lang/Exception"]).filter goodWord
set_option maxRecDepth 20000 in
theorem wsL_law_in0 : ∀ w ∈ wsL_law0, w ∈ lw_tbl := fun w h => (goodIn_p wsL_law0 [29, 32, 374, 112, 116, 187, 428, 431, 435, 424, 210, 439, 217, 443, 80, 447, 224, 228, 231, 235, 239, 92, 95, 451, 454, 457, 461, 465, 469, 249, 253, 473, 477, 481, 260, 485, 269, 272, 291, 489, 299, 303, 493, 311, 497, 318, 501, 325, 505, 333, 509, 340, 513, 347, 517, 354, 521, 361, 525, 84, 529, 368, 533, 88, 537, 99, 541, 103, 545] (by decide +kernel) (by decide +kernel) w h).1
theorem wsL_law_x0 : ∀ w ∈ (vx_atS RX0 77 "java/lang/IllegalStateException" ["java/lang/RuntimeException", "java/lang/Exception"]).filter goodWord, w ∈ lw_tbl := by decide +kernel
theorem wsL_law_x1 : ∀ w ∈ (vx_atS RX0 107 "java/lang/IndexOutOfBoundsException" ["java/lang/RuntimeException", "java/lang/Exception"]).filter goodWord, w ∈ lw_tbl := by decide +kernel
theorem wsL_law_x2 : ∀ w ∈ (vx_atS RX0 115 "java/lang/IllegalArgumentException" ["java/lang/RuntimeException", "java/lang/Exception"]).filter goodWord, w ∈ lw_tbl := by decide +kernel
theorem wsL_law_in : ∀ w ∈ wsL_law, w ∈ lw_tbl := fun w h => (List.mem_append.mp h).elim (fun h => (List.mem_append.mp h).elim (fun h => (List.mem_append.mp h).elim (fun h => wsL_law_in0 w h) (fun h => wsL_law_x0 w h)) (fun h => wsL_law_x1 w h)) (fun h => wsL_law_x2 w h)
theorem inlX0 : ∀ w ∈ wsX00, w ∈ wsL_law := fun _ h => List.mem_append_left _ (List.mem_append_left _ (List.mem_append_left _ (List.mem_append_left _ (List.mem_append_left _ (List.mem_append_right _ h)))))
theorem inX0 : ∀ w ∈ wsX00, w ∈ lw_tbl := fun w h => wsL_law_in w (inlX0 w h)
theorem inlX1 : ∀ w ∈ wsX10, w ∈ wsL_law := fun _ h => List.mem_append_left _ (List.mem_append_left _ (List.mem_append_left _ (List.mem_append_left _ (List.mem_append_right _ h))))
theorem inX1 : ∀ w ∈ wsX10, w ∈ lw_tbl := fun w h => wsL_law_in w (inlX1 w h)
theorem inJx145de : ∀ w ∈ wsJx145de0, w ∈ lw_tbl := by decide +kernel
theorem inJ0 : ∀ w ∈ wsJ00, w ∈ lw_tbl := by decide +kernel
theorem inJ10 : ∀ w ∈ wsJ100, w ∈ lw_tbl := by decide +kernel
theorem inJ7 : ∀ w ∈ wsJ70, w ∈ lw_tbl := by decide +kernel
abbrev vwCl : List vw_C := [(RX0, TX0, 13), (RX1, TX1, 14)]
end
section
theorem dX0_init_0 : decode cX0_init 0 = .ok (.aload_n 0, 1) := by decide +kernel
theorem dX0_init_1 : decode cX0_init 1 = .ok (.invokespecial 1, 3) := by decide +kernel
theorem dX0_init_4 : decode cX0_init 4 = .ok (.aload_n 0, 1) := by decide +kernel
theorem dX0_init_5 : decode cX0_init 5 = .ok (.bipush 64, 2) := by decide +kernel
theorem dX0_init_7 : decode cX0_init 7 = .ok (.newarray .int, 2) := by decide +kernel
theorem dX0_init_9 : decode cX0_init 9 = .ok (.putfield 9, 3) := by decide +kernel
theorem dX0_init_12 : decode cX0_init 12 = .ok (.aload_n 0, 1) := by decide +kernel
theorem dX0_init_13 : decode cX0_init 13 = .ok (.ldc 13, 2) := by decide +kernel
theorem dX0_init_15 : decode cX0_init 15 = .ok (.newarray .int, 2) := by decide +kernel
theorem dX0_init_17 : decode cX0_init 17 = .ok (.putfield 14, 3) := by decide +kernel
theorem dX0_init_20 : decode cX0_init 20 = .ok (.aload_n 0, 1) := by decide +kernel
theorem dX0_init_21 : decode cX0_init 21 = .ok (.sipush 1024, 3) := by decide +kernel
theorem dX0_init_24 : decode cX0_init 24 = .ok (.newarray .int, 2) := by decide +kernel
theorem dX0_init_26 : decode cX0_init 26 = .ok (.putfield 17, 3) := by decide +kernel
theorem dX0_init_29 : decode cX0_init 29 = .ok (.aload_n 0, 1) := by decide +kernel
theorem dX0_init_30 : decode cX0_init 30 = .ok (.sipush 512, 3) := by decide +kernel
theorem dX0_init_33 : decode cX0_init 33 = .ok (.newarray .boolean, 2) := by decide +kernel
theorem dX0_init_35 : decode cX0_init 35 = .ok (.putfield 20, 3) := by decide +kernel
theorem dX0_init_38 : decode cX0_init 38 = .ok (.aload_n 0, 1) := by decide +kernel
theorem dX0_init_39 : decode cX0_init 39 = .ok (.ldc 24, 2) := by decide +kernel
theorem dX0_init_41 : decode cX0_init 41 = .ok (.newarray .int, 2) := by decide +kernel
theorem dX0_init_43 : decode cX0_init 43 = .ok (.putfield 25, 3) := by decide +kernel
theorem dX0_init_46 : decode cX0_init 46 = .ok (.aload_n 0, 1) := by decide +kernel
theorem dX0_init_47 : decode cX0_init 47 = .ok (.iconst 4, 1) := by decide +kernel
theorem dX0_init_48 : decode cX0_init 48 = .ok (.newarray .int, 2) := by decide +kernel
theorem dX0_init_50 : decode cX0_init 50 = .ok (.putfield 28, 3) := by decide +kernel
theorem dX0_init_53 : decode cX0_init 53 = .ok (.aload_n 0, 1) := by decide +kernel
theorem dX0_init_54 : decode cX0_init 54 = .ok (.iconst 1, 1) := by decide +kernel
theorem dX0_init_55 : decode cX0_init 55 = .ok (.putfield 31, 3) := by decide +kernel
theorem dX0_init_58 : decode cX0_init 58 = .ok (.aload_n 0, 1) := by decide +kernel
theorem dX0_init_59 : decode cX0_init 59 = .ok (.iconst (-1), 1) := by decide +kernel
theorem dX0_init_60 : decode cX0_init 60 = .ok (.putfield 35, 3) := by decide +kernel
theorem dX0_init_63 : decode cX0_init 63 = .ok (.return_, 1) := by decide +kernel
set_option maxRecDepth 20000 in
theorem ggX0_set_X0_needPower : GoodIn wsX0_set wsX0_needPower := goodIn_ca (goodIn_r _ [6, 7, 8, 9, 15, 16, 17, 18, 19, 20, 21, 22, 23, 24, 25, 26, 27] (by decide +kernel) (by decide +kernel)) (goodIn_sub (fun _ h => List.mem_cons_of_mem _ (List.mem_append_left _ (List.mem_append_right _ h))) (by decide +kernel))
set_option maxRecDepth 20000 in
theorem gX0_set_X0_needPower : GoodIn wsX0_set (wsV RX0 39 RX0 yX0_needPower wsX0_needPower) := goodIn_app (goodIn_of _ (by decide +kernel)) ggX0_set_X0_needPower
set_option maxRecDepth 20000 in
theorem ggX0_set_X0_needIndex : GoodIn wsX0_set wsX0_needIndex := goodIn_ca (goodIn_r _ [12, 13, 14] (by decide +kernel) (by decide +kernel)) (goodIn_sub (fun _ h => List.mem_cons_of_mem _ (List.mem_append_right _ h)) (by decide +kernel))
set_option maxRecDepth 20000 in
theorem gX0_set_X0_needIndex : GoodIn wsX0_set (va_wsS RX0 42 yX0_needIndex wsX0_needIndex) := goodIn_app (goodIn_of _ (by decide +kernel)) ggX0_set_X0_needIndex
theorem dX0_set_0 : decode cX0_set 0 = .ok (.aload_n 0, 1) := by decide +kernel
theorem dX0_set_1 : decode cX0_set 1 = .ok (.invokevirtual 39, 3) := by decide +kernel
theorem dX0_set_4 : decode cX0_set 4 = .ok (.iload_n 1, 1) := by decide +kernel
theorem dX0_set_5 : decode cX0_set 5 = .ok (.bipush 64, 2) := by decide +kernel
theorem dX0_set_7 : decode cX0_set 7 = .ok (.invokestatic 42, 3) := by decide +kernel
theorem dX0_set_10 : decode cX0_set 10 = .ok (.aload_n 0, 1) := by decide +kernel
theorem dX0_set_11 : decode cX0_set 11 = .ok (.getfield 9, 3) := by decide +kernel
theorem dX0_set_14 : decode cX0_set 14 = .ok (.iload_n 1, 1) := by decide +kernel
theorem dX0_set_15 : decode cX0_set 15 = .ok (.iload_n 2, 1) := by decide +kernel
theorem dX0_set_16 : decode cX0_set 16 = .ok (.iastore, 1) := by decide +kernel
theorem dX0_set_17 : decode cX0_set 17 = .ok (.return_, 1) := by decide +kernel
set_option maxRecDepth 20000 in
theorem ggX0_fill_X0_needPower : GoodIn wsX0_fill wsX0_needPower := goodIn_ca (goodIn_r _ [6, 7, 8, 9, 10, 11, 12, 13, 14, 15, 16, 17, 18, 19, 20, 21, 22] (by decide +kernel) (by decide +kernel)) (goodIn_sub (fun _ h => List.mem_cons_of_mem _ (List.mem_append_right _ h)) (by decide +kernel))
set_option maxRecDepth 20000 in
theorem gX0_fill_X0_needPower : GoodIn wsX0_fill (wsV RX0 39 RX0 yX0_needPower wsX0_needPower) := goodIn_app (goodIn_of _ (by decide +kernel)) ggX0_fill_X0_needPower
theorem dX0_fill_0 : decode cX0_fill 0 = .ok (.aload_n 0, 1) := by decide +kernel
theorem dX0_fill_1 : decode cX0_fill 1 = .ok (.invokevirtual 39, 3) := by decide +kernel
theorem dX0_fill_4 : decode cX0_fill 4 = .ok (.iconst 0, 1) := by decide +kernel
theorem dX0_fill_5 : decode cX0_fill 5 = .ok (.istore_n 3, 1) := by decide +kernel
theorem dX0_fill_6 : decode cX0_fill 6 = .ok (.iload_n 3, 1) := by decide +kernel
theorem dX0_fill_7 : decode cX0_fill 7 = .ok (.bipush 64, 2) := by decide +kernel
theorem dX0_fill_9 : decode cX0_fill 9 = .ok (.if_icmp .ge 20, 3) := by decide +kernel
theorem dX0_fill_12 : decode cX0_fill 12 = .ok (.aload_n 0, 1) := by decide +kernel
theorem dX0_fill_13 : decode cX0_fill 13 = .ok (.getfield 9, 3) := by decide +kernel
theorem dX0_fill_16 : decode cX0_fill 16 = .ok (.iload_n 3, 1) := by decide +kernel
theorem dX0_fill_17 : decode cX0_fill 17 = .ok (.iload_n 1, 1) := by decide +kernel
theorem dX0_fill_18 : decode cX0_fill 18 = .ok (.iload_n 3, 1) := by decide +kernel
theorem dX0_fill_19 : decode cX0_fill 19 = .ok (.iload_n 2, 1) := by decide +kernel
theorem dX0_fill_20 : decode cX0_fill 20 = .ok (.imul, 1) := by decide +kernel
theorem dX0_fill_21 : decode cX0_fill 21 = .ok (.iadd, 1) := by decide +kernel
theorem dX0_fill_22 : decode cX0_fill 22 = .ok (.iastore, 1) := by decide +kernel
theorem dX0_fill_23 : decode cX0_fill 23 = .ok (.iinc 3 1, 3) := by decide +kernel
theorem dX0_fill_26 : decode cX0_fill 26 = .ok (.goto (-20), 3) := by decide +kernel
theorem dX0_fill_29 : decode cX0_fill 29 = .ok (.return_, 1) := by decide +kernel
set_option maxRecDepth 20000 in
theorem ggX0_get_X0_needIndex : GoodIn wsX0_get wsX0_needIndex := goodIn_ca (goodIn_r _ [5, 6, 7] (by decide +kernel) (by decide +kernel)) (goodIn_sub (fun _ h => List.mem_cons_of_mem _ (List.mem_append_right _ h)) (by decide +kernel))
set_option maxRecDepth 20000 in
theorem gX0_get_X0_needIndex : GoodIn wsX0_get (va_wsS RX0 42 yX0_needIndex wsX0_needIndex) := goodIn_app (goodIn_of _ (by decide +kernel)) ggX0_get_X0_needIndex
theorem dX0_get_0 : decode cX0_get 0 = .ok (.iload_n 1, 1) := by decide +kernel
theorem dX0_get_1 : decode cX0_get 1 = .ok (.bipush 64, 2) := by decide +kernel
theorem dX0_get_3 : decode cX0_get 3 = .ok (.invokestatic 42, 3) := by decide +kernel
theorem dX0_get_6 : decode cX0_get 6 = .ok (.aload_n 0, 1) := by decide +kernel
theorem dX0_get_7 : decode cX0_get 7 = .ok (.getfield 9, 3) := by decide +kernel
theorem dX0_get_10 : decode cX0_get 10 = .ok (.iload_n 1, 1) := by decide +kernel
theorem dX0_get_11 : decode cX0_get 11 = .ok (.iaload, 1) := by decide +kernel
theorem dX0_get_12 : decode cX0_get 12 = .ok (.ireturn, 1) := by decide +kernel
theorem dX0_sum_0 : decode cX0_sum 0 = .ok (.iconst 0, 1) := by decide +kernel
theorem dX0_sum_1 : decode cX0_sum 1 = .ok (.istore_n 1, 1) := by decide +kernel
theorem dX0_sum_2 : decode cX0_sum 2 = .ok (.iconst 0, 1) := by decide +kernel
theorem dX0_sum_3 : decode cX0_sum 3 = .ok (.istore_n 2, 1) := by decide +kernel
theorem dX0_sum_4 : decode cX0_sum 4 = .ok (.iload_n 2, 1) := by decide +kernel
theorem dX0_sum_5 : decode cX0_sum 5 = .ok (.bipush 64, 2) := by decide +kernel
theorem dX0_sum_7 : decode cX0_sum 7 = .ok (.if_icmp .ge 22, 3) := by decide +kernel
theorem dX0_sum_10 : decode cX0_sum 10 = .ok (.iload_n 1, 1) := by decide +kernel
theorem dX0_sum_11 : decode cX0_sum 11 = .ok (.aload_n 0, 1) := by decide +kernel
theorem dX0_sum_12 : decode cX0_sum 12 = .ok (.getfield 9, 3) := by decide +kernel
theorem dX0_sum_15 : decode cX0_sum 15 = .ok (.iload_n 2, 1) := by decide +kernel
theorem dX0_sum_16 : decode cX0_sum 16 = .ok (.iaload, 1) := by decide +kernel
theorem dX0_sum_17 : decode cX0_sum 17 = .ok (.iload_n 2, 1) := by decide +kernel
theorem dX0_sum_18 : decode cX0_sum 18 = .ok (.iconst 1, 1) := by decide +kernel
theorem dX0_sum_19 : decode cX0_sum 19 = .ok (.iadd, 1) := by decide +kernel
theorem dX0_sum_20 : decode cX0_sum 20 = .ok (.imul, 1) := by decide +kernel
theorem dX0_sum_21 : decode cX0_sum 21 = .ok (.iadd, 1) := by decide +kernel
theorem dX0_sum_22 : decode cX0_sum 22 = .ok (.istore_n 1, 1) := by decide +kernel
theorem dX0_sum_23 : decode cX0_sum 23 = .ok (.iinc 2 1, 3) := by decide +kernel
theorem dX0_sum_26 : decode cX0_sum 26 = .ok (.goto (-22), 3) := by decide +kernel
theorem dX0_sum_29 : decode cX0_sum 29 = .ok (.iload_n 1, 1) := by decide +kernel
theorem dX0_sum_30 : decode cX0_sum 30 = .ok (.ireturn, 1) := by decide +kernel
set_option maxRecDepth 20000 in
theorem ggX0_write_X0_needPower : GoodIn wsX0_write wsX0_needPower := goodIn_ca (goodIn_r _ [6, 7, 8, 9, 50, 51, 52, 53, 54, 55, 56, 57, 58, 59, 60, 61, 62] (by decide +kernel) (by decide +kernel)) (goodIn_sub (fun _ h => List.mem_cons_of_mem _ (List.mem_append_left _ (List.mem_append_right _ h))) (by decide +kernel))
set_option maxRecDepth 20000 in
theorem gX0_write_X0_needPower : GoodIn wsX0_write (wsV RX0 39 RX0 yX0_needPower wsX0_needPower) := goodIn_app (goodIn_of _ (by decide +kernel)) ggX0_write_X0_needPower
set_option maxRecDepth 20000 in
theorem ggX0_write_X0_needPage : GoodIn wsX0_write wsX0_needPage := goodIn_ca (goodIn_r _ [13, 14, 15, 5, 16, 17, 18] (by decide +kernel) (by decide +kernel)) (goodIn_sub (fun _ h => List.mem_cons_of_mem _ (List.mem_append_right _ h)) (by decide +kernel))
set_option maxRecDepth 20000 in
theorem gX0_write_X0_needPage : GoodIn wsX0_write (wsV RX0 46 RX0 yX0_needPage wsX0_needPage) := goodIn_app (goodIn_of _ (by decide +kernel)) ggX0_write_X0_needPage
set_option maxRecDepth 20000 in
theorem ggX0_write_X0_pageIndex : GoodIn wsX0_write wsX0_pageIndex := goodIn_r _ [21] (by decide +kernel) (by decide +kernel)
set_option maxRecDepth 20000 in
theorem gX0_write_X0_pageIndex : GoodIn wsX0_write (va_wsS RX0 49 yX0_pageIndex wsX0_pageIndex) := goodIn_app (goodIn_of _ (by decide +kernel)) ggX0_write_X0_pageIndex
set_option maxRecDepth 20000 in
theorem ggX0_write_X0_writePage : GoodIn wsX0_write wsX0_writePage := goodIn_r _ [25, 26, 27, 28, 29, 30, 31, 32, 33, 34, 35, 36, 5, 37, 38, 39, 40, 41, 42, 43, 9, 44, 45, 1, 46, 47, 48, 49, 50, 51, 52, 53, 54, 55, 56, 57, 58, 59, 60, 61, 62] (by decide +kernel) (by decide +kernel)
set_option maxRecDepth 20000 in
theorem gX0_write_X0_writePage : GoodIn wsX0_write (wsV RX0 53 RX0 yX0_writePage wsX0_writePage) := goodIn_app (goodIn_of _ (by decide +kernel)) ggX0_write_X0_writePage
theorem dX0_write_0 : decode cX0_write 0 = .ok (.aload_n 0, 1) := by decide +kernel
theorem dX0_write_1 : decode cX0_write 1 = .ok (.invokevirtual 39, 3) := by decide +kernel
theorem dX0_write_4 : decode cX0_write 4 = .ok (.aload_n 0, 1) := by decide +kernel
theorem dX0_write_5 : decode cX0_write 5 = .ok (.iload_n 1, 1) := by decide +kernel
theorem dX0_write_6 : decode cX0_write 6 = .ok (.iload_n 2, 1) := by decide +kernel
theorem dX0_write_7 : decode cX0_write 7 = .ok (.invokevirtual 46, 3) := by decide +kernel
theorem dX0_write_10 : decode cX0_write 10 = .ok (.aload_n 0, 1) := by decide +kernel
theorem dX0_write_11 : decode cX0_write 11 = .ok (.iload_n 1, 1) := by decide +kernel
theorem dX0_write_12 : decode cX0_write 12 = .ok (.iload_n 2, 1) := by decide +kernel
theorem dX0_write_13 : decode cX0_write 13 = .ok (.invokestatic 49, 3) := by decide +kernel
theorem dX0_write_16 : decode cX0_write 16 = .ok (.aload_n 0, 1) := by decide +kernel
theorem dX0_write_17 : decode cX0_write 17 = .ok (.getfield 9, 3) := by decide +kernel
theorem dX0_write_20 : decode cX0_write 20 = .ok (.iconst 0, 1) := by decide +kernel
theorem dX0_write_21 : decode cX0_write 21 = .ok (.invokevirtual 53, 3) := by decide +kernel
theorem dX0_write_24 : decode cX0_write 24 = .ok (.ireturn, 1) := by decide +kernel
set_option maxRecDepth 20000 in
theorem ggX0_read_X0_needPower : GoodIn wsX0_read wsX0_needPower := goodIn_ca (goodIn_r _ [11, 12, 13, 14, 37, 38, 39, 40, 41, 42, 43, 44, 45, 46, 47, 48, 49] (by decide +kernel) (by decide +kernel)) (goodIn_sub (fun _ h => List.mem_cons_of_mem _ (List.mem_append_left _ (List.mem_append_right _ h))) (by decide +kernel))
set_option maxRecDepth 20000 in
theorem gX0_read_X0_needPower : GoodIn wsX0_read (wsV RX0 39 RX0 yX0_needPower wsX0_needPower) := goodIn_app (goodIn_of _ (by decide +kernel)) ggX0_read_X0_needPower
set_option maxRecDepth 20000 in
theorem ggX0_read_X0_needPage : GoodIn wsX0_read wsX0_needPage := goodIn_ca (goodIn_r _ [18, 19, 20, 10, 21, 22, 23] (by decide +kernel) (by decide +kernel)) (goodIn_sub (fun _ h => List.mem_cons_of_mem _ (List.mem_append_right _ h)) (by decide +kernel))
set_option maxRecDepth 20000 in
theorem gX0_read_X0_needPage : GoodIn wsX0_read (wsV RX0 46 RX0 yX0_needPage wsX0_needPage) := goodIn_app (goodIn_of _ (by decide +kernel)) ggX0_read_X0_needPage
set_option maxRecDepth 20000 in
theorem ggX0_read_X0_pageIndex : GoodIn wsX0_read wsX0_pageIndex := goodIn_r _ [26] (by decide +kernel) (by decide +kernel)
set_option maxRecDepth 20000 in
theorem gX0_read_X0_pageIndex : GoodIn wsX0_read (va_wsS RX0 49 yX0_pageIndex wsX0_pageIndex) := goodIn_app (goodIn_of _ (by decide +kernel)) ggX0_read_X0_pageIndex
set_option maxRecDepth 20000 in
theorem ggX0_read_X0_pageState : GoodIn wsX0_read wsX0_pageState := goodIn_r _ [30, 31, 32, 37, 38, 39, 40, 41, 42, 43, 44, 45, 46, 47, 48, 49] (by decide +kernel) (by decide +kernel)
set_option maxRecDepth 20000 in
theorem gX0_read_X0_pageState : GoodIn wsX0_read (wsV RX0 57 RX0 yX0_pageState wsX0_pageState) := goodIn_app (goodIn_of _ (by decide +kernel)) ggX0_read_X0_pageState
set_option maxRecDepth 20000 in
theorem ggX0_read_J7_fill_53178 : GoodIn wsX0_read wsJ7_fill_53178 := goodIn_r _ [36] (by decide +kernel) (by decide +kernel)
set_option maxRecDepth 20000 in
theorem gX0_read_J7_fill_53178 : GoodIn wsX0_read (va_wsS RX0 61 yJ7_fill_53178 wsJ7_fill_53178) := goodIn_app (goodIn_of _ (by decide +kernel)) ggX0_read_J7_fill_53178
theorem dX0_read_0 : decode cX0_read 0 = .ok (.aload_n 0, 1) := by decide +kernel
theorem dX0_read_1 : decode cX0_read 1 = .ok (.invokevirtual 39, 3) := by decide +kernel
theorem dX0_read_4 : decode cX0_read 4 = .ok (.aload_n 0, 1) := by decide +kernel
theorem dX0_read_5 : decode cX0_read 5 = .ok (.iload_n 1, 1) := by decide +kernel
theorem dX0_read_6 : decode cX0_read 6 = .ok (.iload_n 2, 1) := by decide +kernel
theorem dX0_read_7 : decode cX0_read 7 = .ok (.invokevirtual 46, 3) := by decide +kernel
theorem dX0_read_10 : decode cX0_read 10 = .ok (.iload_n 1, 1) := by decide +kernel
theorem dX0_read_11 : decode cX0_read 11 = .ok (.iload_n 2, 1) := by decide +kernel
theorem dX0_read_12 : decode cX0_read 12 = .ok (.invokestatic 49, 3) := by decide +kernel
theorem dX0_read_15 : decode cX0_read 15 = .ok (.istore_n 3, 1) := by decide +kernel
theorem dX0_read_16 : decode cX0_read 16 = .ok (.aload_n 0, 1) := by decide +kernel
theorem dX0_read_17 : decode cX0_read 17 = .ok (.iload_n 3, 1) := by decide +kernel
theorem dX0_read_18 : decode cX0_read 18 = .ok (.invokevirtual 57, 3) := by decide +kernel
theorem dX0_read_21 : decode cX0_read 21 = .ok (.istore 4, 2) := by decide +kernel
theorem dX0_read_23 : decode cX0_read 23 = .ok (.iload 4, 2) := by decide +kernel
theorem dX0_read_25 : decode cX0_read 25 = .ok (.iconst 2, 1) := by decide +kernel
theorem dX0_read_26 : decode cX0_read 26 = .ok (.if_icmp .ne 14, 3) := by decide +kernel
theorem dX0_read_29 : decode cX0_read 29 = .ok (.aload_n 0, 1) := by decide +kernel
theorem dX0_read_30 : decode cX0_read 30 = .ok (.getfield 9, 3) := by decide +kernel
theorem dX0_read_33 : decode cX0_read 33 = .ok (.iconst 0, 1) := by decide +kernel
theorem dX0_read_34 : decode cX0_read 34 = .ok (.invokestatic 61, 3) := by decide +kernel
theorem dX0_read_37 : decode cX0_read 37 = .ok (.goto 21, 3) := by decide +kernel
theorem dX0_read_40 : decode cX0_read 40 = .ok (.aload_n 0, 1) := by decide +kernel
theorem dX0_read_41 : decode cX0_read 41 = .ok (.getfield 14, 3) := by decide +kernel
theorem dX0_read_44 : decode cX0_read 44 = .ok (.iload_n 3, 1) := by decide +kernel
theorem dX0_read_45 : decode cX0_read 45 = .ok (.bipush 64, 2) := by decide +kernel
theorem dX0_read_47 : decode cX0_read 47 = .ok (.imul, 1) := by decide +kernel
theorem dX0_read_48 : decode cX0_read 48 = .ok (.aload_n 0, 1) := by decide +kernel
theorem dX0_read_49 : decode cX0_read 49 = .ok (.getfield 9, 3) := by decide +kernel
theorem dX0_read_52 : decode cX0_read 52 = .ok (.iconst 0, 1) := by decide +kernel
theorem dX0_read_53 : decode cX0_read 53 = .ok (.bipush 64, 2) := by decide +kernel
theorem dX0_read_55 : decode cX0_read 55 = .ok (.invokestatic 67, 3) := by decide +kernel
theorem dX0_read_58 : decode cX0_read 58 = .ok (.iload 4, 2) := by decide +kernel
theorem dX0_read_60 : decode cX0_read 60 = .ok (.ireturn, 1) := by decide +kernel
set_option maxRecDepth 20000 in
theorem ggX0_copy_X0_needPower : GoodIn wsX0_copy wsX0_needPower := goodIn_ca (goodIn_r _ [8, 1, 2, 9, 54, 55, 56, 57, 58, 59, 60, 61, 62, 63, 64, 65, 66] (by decide +kernel) (by decide +kernel)) (goodIn_sub (fun _ h => List.mem_cons_of_mem _ (List.mem_append_left _ (List.mem_append_right _ h))) (by decide +kernel))
set_option maxRecDepth 20000 in
theorem gX0_copy_X0_needPower : GoodIn wsX0_copy (wsV RX0 39 RX0 yX0_needPower wsX0_needPower) := goodIn_app (goodIn_of _ (by decide +kernel)) ggX0_copy_X0_needPower
set_option maxRecDepth 20000 in
theorem ggX0_copy_X0_needPage : GoodIn wsX0_copy wsX0_needPage := goodIn_ca (goodIn_r _ [13, 14, 15, 7, 16, 17, 18] (by decide +kernel) (by decide +kernel)) (goodIn_sub (fun _ h => List.mem_cons_of_mem _ (List.mem_append_right _ h)) (by decide +kernel))
set_option maxRecDepth 20000 in
theorem gX0_copy_X0_needPage : GoodIn wsX0_copy (wsV RX0 46 RX0 yX0_needPage wsX0_needPage) := goodIn_app (goodIn_of _ (by decide +kernel)) ggX0_copy_X0_needPage
set_option maxRecDepth 20000 in
theorem ggX0_copy_X0_pageIndex : GoodIn wsX0_copy wsX0_pageIndex := goodIn_r _ [21] (by decide +kernel) (by decide +kernel)
set_option maxRecDepth 20000 in
theorem gX0_copy_X0_pageIndex : GoodIn wsX0_copy (va_wsS RX0 49 yX0_pageIndex wsX0_pageIndex) := goodIn_app (goodIn_of _ (by decide +kernel)) ggX0_copy_X0_pageIndex
set_option maxRecDepth 20000 in
theorem ggX0_copy_X0_pageState : GoodIn wsX0_copy wsX0_pageState := goodIn_r _ [25, 26, 27, 54, 55, 56, 57, 58, 59, 60, 61, 62, 63, 64, 65, 66] (by decide +kernel) (by decide +kernel)
set_option maxRecDepth 20000 in
theorem gX0_copy_X0_pageState : GoodIn wsX0_copy (wsV RX0 57 RX0 yX0_pageState wsX0_pageState) := goodIn_app (goodIn_of _ (by decide +kernel)) ggX0_copy_X0_pageState
set_option maxRecDepth 20000 in
theorem ggX0_copy_X0_writePage : GoodIn wsX0_copy wsX0_writePage := goodIn_r _ [31, 32, 3, 33, 34, 35, 36, 27, 26, 37, 38, 39, 7, 40, 41, 42, 43, 44, 45, 46, 9, 47, 48, 49, 50, 51, 52, 53, 54, 55, 56, 57, 58, 59, 60, 61, 62, 63, 64, 65, 66] (by decide +kernel) (by decide +kernel)
set_option maxRecDepth 20000 in
theorem gX0_copy_X0_writePage : GoodIn wsX0_copy (wsV RX0 53 RX0 yX0_writePage wsX0_writePage) := goodIn_app (goodIn_of _ (by decide +kernel)) ggX0_copy_X0_writePage
theorem dX0_copy_0 : decode cX0_copy 0 = .ok (.aload_n 0, 1) := by decide +kernel
theorem dX0_copy_1 : decode cX0_copy 1 = .ok (.invokevirtual 39, 3) := by decide +kernel
theorem dX0_copy_4 : decode cX0_copy 4 = .ok (.aload_n 0, 1) := by decide +kernel
theorem dX0_copy_5 : decode cX0_copy 5 = .ok (.iload_n 1, 1) := by decide +kernel
theorem dX0_copy_6 : decode cX0_copy 6 = .ok (.iload_n 2, 1) := by decide +kernel
theorem dX0_copy_7 : decode cX0_copy 7 = .ok (.invokevirtual 46, 3) := by decide +kernel
theorem dX0_copy_10 : decode cX0_copy 10 = .ok (.iload_n 1, 1) := by decide +kernel
theorem dX0_copy_11 : decode cX0_copy 11 = .ok (.iload_n 2, 1) := by decide +kernel
theorem dX0_copy_12 : decode cX0_copy 12 = .ok (.invokestatic 49, 3) := by decide +kernel
theorem dX0_copy_15 : decode cX0_copy 15 = .ok (.istore_n 3, 1) := by decide +kernel
theorem dX0_copy_16 : decode cX0_copy 16 = .ok (.aload_n 0, 1) := by decide +kernel
theorem dX0_copy_17 : decode cX0_copy 17 = .ok (.iload_n 3, 1) := by decide +kernel
theorem dX0_copy_18 : decode cX0_copy 18 = .ok (.invokevirtual 57, 3) := by decide +kernel
theorem dX0_copy_21 : decode cX0_copy 21 = .ok (.ifCond .eq 13, 3) := by decide +kernel
theorem dX0_copy_24 : decode cX0_copy 24 = .ok (.new 73, 3) := by decide +kernel
theorem dX0_copy_27 : decode cX0_copy 27 = .ok (.dup, 1) := by decide +kernel
theorem dX0_copy_28 : decode cX0_copy 28 = .ok (.ldc 75, 2) := by decide +kernel
theorem dX0_copy_30 : decode cX0_copy 30 = .ok (.invokespecial 77, 3) := by decide +kernel
theorem dX0_copy_33 : decode cX0_copy 33 = .ok (.athrow, 1) := by decide +kernel
theorem dX0_copy_34 : decode cX0_copy 34 = .ok (.aload_n 0, 1) := by decide +kernel
theorem dX0_copy_35 : decode cX0_copy 35 = .ok (.iconst 1, 1) := by decide +kernel
theorem dX0_copy_36 : decode cX0_copy 36 = .ok (.iload_n 1, 1) := by decide +kernel
theorem dX0_copy_37 : decode cX0_copy 37 = .ok (.isub, 1) := by decide +kernel
theorem dX0_copy_38 : decode cX0_copy 38 = .ok (.iload_n 2, 1) := by decide +kernel
theorem dX0_copy_39 : decode cX0_copy 39 = .ok (.invokestatic 49, 3) := by decide +kernel
theorem dX0_copy_42 : decode cX0_copy 42 = .ok (.aload_n 0, 1) := by decide +kernel
theorem dX0_copy_43 : decode cX0_copy 43 = .ok (.getfield 14, 3) := by decide +kernel
theorem dX0_copy_46 : decode cX0_copy 46 = .ok (.iload_n 3, 1) := by decide +kernel
theorem dX0_copy_47 : decode cX0_copy 47 = .ok (.bipush 64, 2) := by decide +kernel
theorem dX0_copy_49 : decode cX0_copy 49 = .ok (.imul, 1) := by decide +kernel
theorem dX0_copy_50 : decode cX0_copy 50 = .ok (.invokevirtual 53, 3) := by decide +kernel
theorem dX0_copy_53 : decode cX0_copy 53 = .ok (.ireturn, 1) := by decide +kernel
set_option maxRecDepth 20000 in
theorem ggX0_lose_X0_needPage : GoodIn wsX0_lose wsX0_needPage := goodIn_ca (goodIn_r _ [6, 7, 8, 5, 9, 10, 11] (by decide +kernel) (by decide +kernel)) (goodIn_sub (fun _ h => List.mem_cons_of_mem _ (List.mem_append_right _ h)) (by decide +kernel))
set_option maxRecDepth 20000 in
theorem gX0_lose_X0_needPage : GoodIn wsX0_lose (wsV RX0 46 RX0 yX0_needPage wsX0_needPage) := goodIn_app (goodIn_of _ (by decide +kernel)) ggX0_lose_X0_needPage
set_option maxRecDepth 20000 in
theorem ggX0_lose_X0_pageIndex : GoodIn wsX0_lose wsX0_pageIndex := goodIn_r _ [14] (by decide +kernel) (by decide +kernel)
set_option maxRecDepth 20000 in
theorem gX0_lose_X0_pageIndex : GoodIn wsX0_lose (va_wsS RX0 49 yX0_pageIndex wsX0_pageIndex) := goodIn_app (goodIn_of _ (by decide +kernel)) ggX0_lose_X0_pageIndex
theorem dX0_lose_0 : decode cX0_lose 0 = .ok (.aload_n 0, 1) := by decide +kernel
theorem dX0_lose_1 : decode cX0_lose 1 = .ok (.iload_n 1, 1) := by decide +kernel
theorem dX0_lose_2 : decode cX0_lose 2 = .ok (.iload_n 2, 1) := by decide +kernel
theorem dX0_lose_3 : decode cX0_lose 3 = .ok (.invokevirtual 46, 3) := by decide +kernel
theorem dX0_lose_6 : decode cX0_lose 6 = .ok (.aload_n 0, 1) := by decide +kernel
theorem dX0_lose_7 : decode cX0_lose 7 = .ok (.getfield 20, 3) := by decide +kernel
theorem dX0_lose_10 : decode cX0_lose 10 = .ok (.iload_n 1, 1) := by decide +kernel
theorem dX0_lose_11 : decode cX0_lose 11 = .ok (.iload_n 2, 1) := by decide +kernel
theorem dX0_lose_12 : decode cX0_lose 12 = .ok (.invokestatic 49, 3) := by decide +kernel
theorem dX0_lose_15 : decode cX0_lose 15 = .ok (.iconst 1, 1) := by decide +kernel
theorem dX0_lose_16 : decode cX0_lose 16 = .ok (.bastore, 1) := by decide +kernel
theorem dX0_lose_17 : decode cX0_lose 17 = .ok (.return_, 1) := by decide +kernel
set_option maxRecDepth 20000 in
theorem ggX0_stamp_X0_needPage : GoodIn wsX0_stamp wsX0_needPage := goodIn_ca (goodIn_r _ [6, 7, 8, 5, 9, 10, 11] (by decide +kernel) (by decide +kernel)) (goodIn_sub (fun _ h => List.mem_cons_of_mem _ (List.mem_append_right _ h)) (by decide +kernel))
set_option maxRecDepth 20000 in
theorem gX0_stamp_X0_needPage : GoodIn wsX0_stamp (wsV RX0 46 RX0 yX0_needPage wsX0_needPage) := goodIn_app (goodIn_of _ (by decide +kernel)) ggX0_stamp_X0_needPage
set_option maxRecDepth 20000 in
theorem ggX0_stamp_X0_needIndex : GoodIn wsX0_stamp wsX0_needIndex := goodIn_ca (goodIn_r _ [9, 10, 11] (by decide +kernel) (by decide +kernel)) (goodIn_sub (fun _ h => List.mem_cons_of_mem _ (List.mem_append_right _ h)) (by decide +kernel))
set_option maxRecDepth 20000 in
theorem gX0_stamp_X0_needIndex : GoodIn wsX0_stamp (va_wsS RX0 42 yX0_needIndex wsX0_needIndex) := goodIn_app (goodIn_of _ (by decide +kernel)) ggX0_stamp_X0_needIndex
set_option maxRecDepth 20000 in
theorem ggX0_stamp_X0_pageIndex : GoodIn wsX0_stamp wsX0_pageIndex := goodIn_r _ [14] (by decide +kernel) (by decide +kernel)
set_option maxRecDepth 20000 in
theorem gX0_stamp_X0_pageIndex : GoodIn wsX0_stamp (va_wsS RX0 49 yX0_pageIndex wsX0_pageIndex) := goodIn_app (goodIn_of _ (by decide +kernel)) ggX0_stamp_X0_pageIndex
theorem dX0_stamp_0 : decode cX0_stamp 0 = .ok (.aload_n 0, 1) := by decide +kernel
theorem dX0_stamp_1 : decode cX0_stamp 1 = .ok (.iload_n 1, 1) := by decide +kernel
theorem dX0_stamp_2 : decode cX0_stamp 2 = .ok (.iload_n 2, 1) := by decide +kernel
theorem dX0_stamp_3 : decode cX0_stamp 3 = .ok (.invokevirtual 46, 3) := by decide +kernel
theorem dX0_stamp_6 : decode cX0_stamp 6 = .ok (.iload_n 3, 1) := by decide +kernel
theorem dX0_stamp_7 : decode cX0_stamp 7 = .ok (.iconst 2, 1) := by decide +kernel
theorem dX0_stamp_8 : decode cX0_stamp 8 = .ok (.invokestatic 42, 3) := by decide +kernel
theorem dX0_stamp_11 : decode cX0_stamp 11 = .ok (.aload_n 0, 1) := by decide +kernel
theorem dX0_stamp_12 : decode cX0_stamp 12 = .ok (.getfield 17, 3) := by decide +kernel
theorem dX0_stamp_15 : decode cX0_stamp 15 = .ok (.iload_n 1, 1) := by decide +kernel
theorem dX0_stamp_16 : decode cX0_stamp 16 = .ok (.iload_n 2, 1) := by decide +kernel
theorem dX0_stamp_17 : decode cX0_stamp 17 = .ok (.invokestatic 49, 3) := by decide +kernel
theorem dX0_stamp_20 : decode cX0_stamp 20 = .ok (.iconst 2, 1) := by decide +kernel
theorem dX0_stamp_21 : decode cX0_stamp 21 = .ok (.imul, 1) := by decide +kernel
theorem dX0_stamp_22 : decode cX0_stamp 22 = .ok (.iload_n 3, 1) := by decide +kernel
theorem dX0_stamp_23 : decode cX0_stamp 23 = .ok (.iadd, 1) := by decide +kernel
theorem dX0_stamp_24 : decode cX0_stamp 24 = .ok (.iaload, 1) := by decide +kernel
theorem dX0_stamp_25 : decode cX0_stamp 25 = .ok (.ireturn, 1) := by decide +kernel
set_option maxRecDepth 20000 in
theorem ggX0_count_X0_needIndex : GoodIn wsX0_count wsX0_needIndex := goodIn_ca (goodIn_r _ [4, 5, 6] (by decide +kernel) (by decide +kernel)) (goodIn_sub (fun _ h => List.mem_cons_of_mem _ (List.mem_append_right _ h)) (by decide +kernel))
set_option maxRecDepth 20000 in
theorem gX0_count_X0_needIndex : GoodIn wsX0_count (va_wsS RX0 42 yX0_needIndex wsX0_needIndex) := goodIn_app (goodIn_of _ (by decide +kernel)) ggX0_count_X0_needIndex
set_option maxRecDepth 20000 in
theorem ggX0_count_X0_pageIndex : GoodIn wsX0_count wsX0_pageIndex := goodIn_r _ [9] (by decide +kernel) (by decide +kernel)
set_option maxRecDepth 20000 in
theorem gX0_count_X0_pageIndex : GoodIn wsX0_count (va_wsS RX0 49 yX0_pageIndex wsX0_pageIndex) := goodIn_app (goodIn_of _ (by decide +kernel)) ggX0_count_X0_pageIndex
set_option maxRecDepth 20000 in
theorem ggX0_count_X0_pageState : GoodIn wsX0_count wsX0_pageState := goodIn_r _ [13, 14, 15, 16, 17, 18, 19, 20, 21, 22, 23, 24, 25, 26, 27, 28] (by decide +kernel) (by decide +kernel)
set_option maxRecDepth 20000 in
theorem gX0_count_X0_pageState : GoodIn wsX0_count (wsV RX0 57 RX0 yX0_pageState wsX0_pageState) := goodIn_app (goodIn_of _ (by decide +kernel)) ggX0_count_X0_pageState
theorem dX0_count_0 : decode cX0_count 0 = .ok (.iload_n 1, 1) := by decide +kernel
theorem dX0_count_1 : decode cX0_count 1 = .ok (.iconst 2, 1) := by decide +kernel
theorem dX0_count_2 : decode cX0_count 2 = .ok (.invokestatic 42, 3) := by decide +kernel
theorem dX0_count_5 : decode cX0_count 5 = .ok (.iload_n 2, 1) := by decide +kernel
theorem dX0_count_6 : decode cX0_count 6 = .ok (.iconst 3, 1) := by decide +kernel
theorem dX0_count_7 : decode cX0_count 7 = .ok (.invokestatic 42, 3) := by decide +kernel
theorem dX0_count_10 : decode cX0_count 10 = .ok (.iconst 0, 1) := by decide +kernel
theorem dX0_count_11 : decode cX0_count 11 = .ok (.istore_n 3, 1) := by decide +kernel
theorem dX0_count_12 : decode cX0_count 12 = .ok (.iconst 0, 1) := by decide +kernel
theorem dX0_count_13 : decode cX0_count 13 = .ok (.istore 4, 2) := by decide +kernel
theorem dX0_count_15 : decode cX0_count 15 = .ok (.iload 4, 2) := by decide +kernel
theorem dX0_count_17 : decode cX0_count 17 = .ok (.sipush 256, 3) := by decide +kernel
theorem dX0_count_20 : decode cX0_count 20 = .ok (.if_icmp .ge 26, 3) := by decide +kernel
theorem dX0_count_23 : decode cX0_count 23 = .ok (.aload_n 0, 1) := by decide +kernel
theorem dX0_count_24 : decode cX0_count 24 = .ok (.iload_n 1, 1) := by decide +kernel
theorem dX0_count_25 : decode cX0_count 25 = .ok (.iload 4, 2) := by decide +kernel
theorem dX0_count_27 : decode cX0_count 27 = .ok (.invokestatic 49, 3) := by decide +kernel
theorem dX0_count_30 : decode cX0_count 30 = .ok (.invokevirtual 57, 3) := by decide +kernel
theorem dX0_count_33 : decode cX0_count 33 = .ok (.iload_n 2, 1) := by decide +kernel
theorem dX0_count_34 : decode cX0_count 34 = .ok (.if_icmp .ne 6, 3) := by decide +kernel
theorem dX0_count_37 : decode cX0_count 37 = .ok (.iinc 3 1, 3) := by decide +kernel
theorem dX0_count_40 : decode cX0_count 40 = .ok (.iinc 4 1, 3) := by decide +kernel
theorem dX0_count_43 : decode cX0_count 43 = .ok (.goto (-28), 3) := by decide +kernel
theorem dX0_count_46 : decode cX0_count 46 = .ok (.iload_n 3, 1) := by decide +kernel
theorem dX0_count_47 : decode cX0_count 47 = .ok (.ireturn, 1) := by decide +kernel
set_option maxRecDepth 20000 in
theorem ggX0_append_X0_needPower : GoodIn wsX0_append wsX0_needPower := goodIn_ca (goodIn_r _ [10, 11, 12, 13, 23, 24, 25, 26, 27, 28, 29, 30, 31, 32, 33, 34, 35] (by decide +kernel) (by decide +kernel)) (goodIn_sub (fun _ h => List.mem_cons_of_mem _ (List.mem_append_left _ (List.mem_append_right _ h))) (by decide +kernel))
set_option maxRecDepth 20000 in
theorem gX0_append_X0_needPower : GoodIn wsX0_append (wsV RX0 39 RX0 yX0_needPower wsX0_needPower) := goodIn_app (goodIn_of _ (by decide +kernel)) ggX0_append_X0_needPower
set_option maxRecDepth 20000 in
theorem ggX0_append_X0_needWordCount : GoodIn wsX0_append wsX0_needWordCount := goodIn_ca (goodIn_r _ [16, 17, 18] (by decide +kernel) (by decide +kernel)) (goodIn_sub (fun _ h => List.mem_cons_of_mem _ (List.mem_append_right _ h)) (by decide +kernel))
set_option maxRecDepth 20000 in
theorem gX0_append_X0_needWordCount : GoodIn wsX0_append (va_wsS RX0 80 yX0_needWordCount wsX0_needWordCount) := goodIn_app (goodIn_of _ (by decide +kernel)) ggX0_append_X0_needWordCount
set_option maxRecDepth 20000 in
theorem ggX0_append_X0_logSlot : GoodIn wsX0_append wsX0_logSlot := goodIn_r _ [21, 22] (by decide +kernel) (by decide +kernel)
set_option maxRecDepth 20000 in
theorem gX0_append_X0_logSlot : GoodIn wsX0_append (va_wsS RX0 90 yX0_logSlot wsX0_logSlot) := goodIn_app (goodIn_of _ (by decide +kernel)) ggX0_append_X0_logSlot
theorem dX0_append_0 : decode cX0_append 0 = .ok (.aload_n 0, 1) := by decide +kernel
theorem dX0_append_1 : decode cX0_append 1 = .ok (.invokevirtual 39, 3) := by decide +kernel
theorem dX0_append_4 : decode cX0_append 4 = .ok (.iload_n 1, 1) := by decide +kernel
theorem dX0_append_5 : decode cX0_append 5 = .ok (.invokestatic 80, 3) := by decide +kernel
theorem dX0_append_8 : decode cX0_append 8 = .ok (.iload_n 1, 1) := by decide +kernel
theorem dX0_append_9 : decode cX0_append 9 = .ok (.ldc 24, 2) := by decide +kernel
theorem dX0_append_11 : decode cX0_append 11 = .ok (.aload_n 0, 1) := by decide +kernel
theorem dX0_append_12 : decode cX0_append 12 = .ok (.getfield 84, 3) := by decide +kernel
theorem dX0_append_15 : decode cX0_append 15 = .ok (.aload_n 0, 1) := by decide +kernel
theorem dX0_append_16 : decode cX0_append 16 = .ok (.getfield 87, 3) := by decide +kernel
theorem dX0_append_19 : decode cX0_append 19 = .ok (.isub, 1) := by decide +kernel
theorem dX0_append_20 : decode cX0_append 20 = .ok (.isub, 1) := by decide +kernel
theorem dX0_append_21 : decode cX0_append 21 = .ok (.if_icmp .le 5, 3) := by decide +kernel
theorem dX0_append_24 : decode cX0_append 24 = .ok (.iconst (-1), 1) := by decide +kernel
theorem dX0_append_25 : decode cX0_append 25 = .ok (.ireturn, 1) := by decide +kernel
theorem dX0_append_26 : decode cX0_append 26 = .ok (.aload_n 0, 1) := by decide +kernel
theorem dX0_append_27 : decode cX0_append 27 = .ok (.getfield 84, 3) := by decide +kernel
theorem dX0_append_30 : decode cX0_append 30 = .ok (.istore_n 2, 1) := by decide +kernel
theorem dX0_append_31 : decode cX0_append 31 = .ok (.iconst 0, 1) := by decide +kernel
theorem dX0_append_32 : decode cX0_append 32 = .ok (.istore_n 3, 1) := by decide +kernel
theorem dX0_append_33 : decode cX0_append 33 = .ok (.iload_n 3, 1) := by decide +kernel
theorem dX0_append_34 : decode cX0_append 34 = .ok (.iload_n 1, 1) := by decide +kernel
theorem dX0_append_35 : decode cX0_append 35 = .ok (.if_icmp .ge 26, 3) := by decide +kernel
theorem dX0_append_38 : decode cX0_append 38 = .ok (.aload_n 0, 1) := by decide +kernel
theorem dX0_append_39 : decode cX0_append 39 = .ok (.getfield 25, 3) := by decide +kernel
theorem dX0_append_42 : decode cX0_append 42 = .ok (.iload_n 2, 1) := by decide +kernel
theorem dX0_append_43 : decode cX0_append 43 = .ok (.iload_n 3, 1) := by decide +kernel
theorem dX0_append_44 : decode cX0_append 44 = .ok (.iadd, 1) := by decide +kernel
theorem dX0_append_45 : decode cX0_append 45 = .ok (.invokestatic 90, 3) := by decide +kernel
theorem dX0_append_48 : decode cX0_append 48 = .ok (.aload_n 0, 1) := by decide +kernel
theorem dX0_append_49 : decode cX0_append 49 = .ok (.getfield 9, 3) := by decide +kernel
theorem dX0_append_52 : decode cX0_append 52 = .ok (.iload_n 3, 1) := by decide +kernel
theorem dX0_append_53 : decode cX0_append 53 = .ok (.iaload, 1) := by decide +kernel
theorem dX0_append_54 : decode cX0_append 54 = .ok (.iastore, 1) := by decide +kernel
theorem dX0_append_55 : decode cX0_append 55 = .ok (.iinc 3 1, 3) := by decide +kernel
theorem dX0_append_58 : decode cX0_append 58 = .ok (.goto (-25), 3) := by decide +kernel
theorem dX0_append_61 : decode cX0_append 61 = .ok (.aload_n 0, 1) := by decide +kernel
theorem dX0_append_62 : decode cX0_append 62 = .ok (.iload_n 2, 1) := by decide +kernel
theorem dX0_append_63 : decode cX0_append 63 = .ok (.iload_n 1, 1) := by decide +kernel
theorem dX0_append_64 : decode cX0_append 64 = .ok (.iadd, 1) := by decide +kernel
theorem dX0_append_65 : decode cX0_append 65 = .ok (.putfield 84, 3) := by decide +kernel
theorem dX0_append_68 : decode cX0_append 68 = .ok (.iload_n 2, 1) := by decide +kernel
theorem dX0_append_69 : decode cX0_append 69 = .ok (.ireturn, 1) := by decide +kernel
set_option maxRecDepth 20000 in
theorem ggX0_force_X0_needPower : GoodIn wsX0_force wsX0_needPower := goodIn_ca (goodIn_r _ [7, 8, 9, 10, 33, 34, 35, 36, 37, 38, 39, 40, 41, 42, 43, 44, 45] (by decide +kernel) (by decide +kernel)) (goodIn_sub (fun _ h => List.mem_cons_of_mem _ (List.mem_append_left _ (List.mem_append_right _ h))) (by decide +kernel))
set_option maxRecDepth 20000 in
theorem gX0_force_X0_needPower : GoodIn wsX0_force (wsV RX0 39 RX0 yX0_needPower wsX0_needPower) := goodIn_app (goodIn_of _ (by decide +kernel)) ggX0_force_X0_needPower
set_option maxRecDepth 20000 in
theorem ggX0_force_X0_needPlace : GoodIn wsX0_force wsX0_needPlace := goodIn_ca (goodIn_r _ [14, 15, 16, 17, 33, 34, 35, 36, 37, 38, 39, 40, 41, 42, 43, 44, 45] (by decide +kernel) (by decide +kernel)) (goodIn_sub (fun _ h => List.mem_cons_of_mem _ (List.mem_append_right _ h)) (by decide +kernel))
set_option maxRecDepth 20000 in
theorem gX0_force_X0_needPlace : GoodIn wsX0_force (wsV RX0 93 RX0 yX0_needPlace wsX0_needPlace) := goodIn_app (goodIn_of _ (by decide +kernel)) ggX0_force_X0_needPlace
set_option maxRecDepth 20000 in
theorem ggX0_force_X0_makeLeastWrite : GoodIn wsX0_force wsX0_makeLeastWrite := goodIn_r _ [21, 22, 23, 24, 25, 26, 6, 27, 10, 2, 1, 28, 29, 30, 31, 32, 33, 34, 35, 36, 37, 38, 39, 40, 41, 42, 43, 44, 45] (by decide +kernel) (by decide +kernel)
set_option maxRecDepth 20000 in
theorem gX0_force_X0_makeLeastWrite : GoodIn wsX0_force (wsV RX0 99 RX0 yX0_makeLeastWrite wsX0_makeLeastWrite) := goodIn_app (goodIn_of _ (by decide +kernel)) ggX0_force_X0_makeLeastWrite
theorem dX0_force_0 : decode cX0_force 0 = .ok (.aload_n 0, 1) := by decide +kernel
theorem dX0_force_1 : decode cX0_force 1 = .ok (.invokevirtual 39, 3) := by decide +kernel
theorem dX0_force_4 : decode cX0_force 4 = .ok (.aload_n 0, 1) := by decide +kernel
theorem dX0_force_5 : decode cX0_force 5 = .ok (.iload_n 1, 1) := by decide +kernel
theorem dX0_force_6 : decode cX0_force 6 = .ok (.aload_n 0, 1) := by decide +kernel
theorem dX0_force_7 : decode cX0_force 7 = .ok (.getfield 84, 3) := by decide +kernel
theorem dX0_force_10 : decode cX0_force 10 = .ok (.invokevirtual 93, 3) := by decide +kernel
theorem dX0_force_13 : decode cX0_force 13 = .ok (.aload_n 0, 1) := by decide +kernel
theorem dX0_force_14 : decode cX0_force 14 = .ok (.getfield 96, 3) := by decide +kernel
theorem dX0_force_17 : decode cX0_force 17 = .ok (.istore_n 2, 1) := by decide +kernel
theorem dX0_force_18 : decode cX0_force 18 = .ok (.aload_n 0, 1) := by decide +kernel
theorem dX0_force_19 : decode cX0_force 19 = .ok (.getfield 96, 3) := by decide +kernel
theorem dX0_force_22 : decode cX0_force 22 = .ok (.iload_n 1, 1) := by decide +kernel
theorem dX0_force_23 : decode cX0_force 23 = .ok (.if_icmp .ge 25, 3) := by decide +kernel
theorem dX0_force_26 : decode cX0_force 26 = .ok (.aload_n 0, 1) := by decide +kernel
theorem dX0_force_27 : decode cX0_force 27 = .ok (.invokevirtual 99, 3) := by decide +kernel
theorem dX0_force_30 : decode cX0_force 30 = .ok (.ifCond .ne 5, 3) := by decide +kernel
theorem dX0_force_33 : decode cX0_force 33 = .ok (.iconst (-1), 1) := by decide +kernel
theorem dX0_force_34 : decode cX0_force 34 = .ok (.ireturn, 1) := by decide +kernel
theorem dX0_force_35 : decode cX0_force 35 = .ok (.aload_n 0, 1) := by decide +kernel
theorem dX0_force_36 : decode cX0_force 36 = .ok (.dup, 1) := by decide +kernel
theorem dX0_force_37 : decode cX0_force 37 = .ok (.getfield 96, 3) := by decide +kernel
theorem dX0_force_40 : decode cX0_force 40 = .ok (.iconst 1, 1) := by decide +kernel
theorem dX0_force_41 : decode cX0_force 41 = .ok (.iadd, 1) := by decide +kernel
theorem dX0_force_42 : decode cX0_force 42 = .ok (.putfield 96, 3) := by decide +kernel
theorem dX0_force_45 : decode cX0_force 45 = .ok (.goto (-27), 3) := by decide +kernel
theorem dX0_force_48 : decode cX0_force 48 = .ok (.aload_n 0, 1) := by decide +kernel
theorem dX0_force_49 : decode cX0_force 49 = .ok (.getfield 96, 3) := by decide +kernel
theorem dX0_force_52 : decode cX0_force 52 = .ok (.iload_n 2, 1) := by decide +kernel
theorem dX0_force_53 : decode cX0_force 53 = .ok (.isub, 1) := by decide +kernel
theorem dX0_force_54 : decode cX0_force 54 = .ok (.ireturn, 1) := by decide +kernel
set_option maxRecDepth 20000 in
theorem ggX0_readLog_X0_needPower : GoodIn wsX0_readLog wsX0_needPower := goodIn_ca (goodIn_r _ [8, 9, 10, 11, 26, 27, 28, 29, 30, 31, 32, 33, 34, 35, 36, 37, 38] (by decide +kernel) (by decide +kernel)) (goodIn_sub (fun _ h => List.mem_cons_of_mem _ (List.mem_append_left _ (List.mem_append_right _ h))) (by decide +kernel))
set_option maxRecDepth 20000 in
theorem gX0_readLog_X0_needPower : GoodIn wsX0_readLog (wsV RX0 39 RX0 yX0_needPower wsX0_needPower) := goodIn_app (goodIn_of _ (by decide +kernel)) ggX0_readLog_X0_needPower
set_option maxRecDepth 20000 in
theorem ggX0_readLog_X0_needWordCount : GoodIn wsX0_readLog wsX0_needWordCount := goodIn_ca (goodIn_r _ [14, 15, 16] (by decide +kernel) (by decide +kernel)) (goodIn_sub (fun _ h => List.mem_cons_of_mem _ (List.mem_append_right _ h)) (by decide +kernel))
set_option maxRecDepth 20000 in
theorem gX0_readLog_X0_needWordCount : GoodIn wsX0_readLog (va_wsS RX0 80 yX0_needWordCount wsX0_needWordCount) := goodIn_app (goodIn_of _ (by decide +kernel)) ggX0_readLog_X0_needWordCount
set_option maxRecDepth 20000 in
theorem ggX0_readLog_X0_needPlace : GoodIn wsX0_readLog wsX0_needPlace := goodIn_ca (goodIn_r _ [20, 15, 16, 21, 26, 27, 28, 29, 30, 31, 32, 33, 34, 35, 36, 37, 38] (by decide +kernel) (by decide +kernel)) (goodIn_sub (fun _ h => List.mem_cons_of_mem _ (List.mem_append_right _ h)) (by decide +kernel))
set_option maxRecDepth 20000 in
theorem gX0_readLog_X0_needPlace : GoodIn wsX0_readLog (wsV RX0 93 RX0 yX0_needPlace wsX0_needPlace) := goodIn_app (goodIn_of _ (by decide +kernel)) ggX0_readLog_X0_needPlace
set_option maxRecDepth 20000 in
theorem ggX0_readLog_X0_logSlot : GoodIn wsX0_readLog wsX0_logSlot := goodIn_r _ [24, 25] (by decide +kernel) (by decide +kernel)
set_option maxRecDepth 20000 in
theorem gX0_readLog_X0_logSlot : GoodIn wsX0_readLog (va_wsS RX0 90 yX0_logSlot wsX0_logSlot) := goodIn_app (goodIn_of _ (by decide +kernel)) ggX0_readLog_X0_logSlot
theorem dX0_readLog_0 : decode cX0_readLog 0 = .ok (.aload_n 0, 1) := by decide +kernel
theorem dX0_readLog_1 : decode cX0_readLog 1 = .ok (.invokevirtual 39, 3) := by decide +kernel
theorem dX0_readLog_4 : decode cX0_readLog 4 = .ok (.iload_n 2, 1) := by decide +kernel
theorem dX0_readLog_5 : decode cX0_readLog 5 = .ok (.invokestatic 80, 3) := by decide +kernel
theorem dX0_readLog_8 : decode cX0_readLog 8 = .ok (.aload_n 0, 1) := by decide +kernel
theorem dX0_readLog_9 : decode cX0_readLog 9 = .ok (.iload_n 1, 1) := by decide +kernel
theorem dX0_readLog_10 : decode cX0_readLog 10 = .ok (.aload_n 0, 1) := by decide +kernel
theorem dX0_readLog_11 : decode cX0_readLog 11 = .ok (.getfield 84, 3) := by decide +kernel
theorem dX0_readLog_14 : decode cX0_readLog 14 = .ok (.iload_n 2, 1) := by decide +kernel
theorem dX0_readLog_15 : decode cX0_readLog 15 = .ok (.isub, 1) := by decide +kernel
theorem dX0_readLog_16 : decode cX0_readLog 16 = .ok (.invokevirtual 93, 3) := by decide +kernel
theorem dX0_readLog_19 : decode cX0_readLog 19 = .ok (.iconst 0, 1) := by decide +kernel
theorem dX0_readLog_20 : decode cX0_readLog 20 = .ok (.istore_n 3, 1) := by decide +kernel
theorem dX0_readLog_21 : decode cX0_readLog 21 = .ok (.iload_n 3, 1) := by decide +kernel
theorem dX0_readLog_22 : decode cX0_readLog 22 = .ok (.iload_n 2, 1) := by decide +kernel
theorem dX0_readLog_23 : decode cX0_readLog 23 = .ok (.if_icmp .ge 26, 3) := by decide +kernel
theorem dX0_readLog_26 : decode cX0_readLog 26 = .ok (.aload_n 0, 1) := by decide +kernel
theorem dX0_readLog_27 : decode cX0_readLog 27 = .ok (.getfield 9, 3) := by decide +kernel
theorem dX0_readLog_30 : decode cX0_readLog 30 = .ok (.iload_n 3, 1) := by decide +kernel
theorem dX0_readLog_31 : decode cX0_readLog 31 = .ok (.aload_n 0, 1) := by decide +kernel
theorem dX0_readLog_32 : decode cX0_readLog 32 = .ok (.getfield 25, 3) := by decide +kernel
theorem dX0_readLog_35 : decode cX0_readLog 35 = .ok (.iload_n 1, 1) := by decide +kernel
theorem dX0_readLog_36 : decode cX0_readLog 36 = .ok (.iload_n 3, 1) := by decide +kernel
theorem dX0_readLog_37 : decode cX0_readLog 37 = .ok (.iadd, 1) := by decide +kernel
theorem dX0_readLog_38 : decode cX0_readLog 38 = .ok (.invokestatic 90, 3) := by decide +kernel
theorem dX0_readLog_41 : decode cX0_readLog 41 = .ok (.iaload, 1) := by decide +kernel
theorem dX0_readLog_42 : decode cX0_readLog 42 = .ok (.iastore, 1) := by decide +kernel
theorem dX0_readLog_43 : decode cX0_readLog 43 = .ok (.iinc 3 1, 3) := by decide +kernel
theorem dX0_readLog_46 : decode cX0_readLog 46 = .ok (.goto (-25), 3) := by decide +kernel
theorem dX0_readLog_49 : decode cX0_readLog 49 = .ok (.return_, 1) := by decide +kernel
set_option maxRecDepth 20000 in
theorem ggX0_giveBack_X0_needPower : GoodIn wsX0_giveBack wsX0_needPower := goodIn_ca (goodIn_r _ [7, 8, 9, 10, 17, 18, 19, 20, 21, 22, 23, 24, 25, 26, 27, 28, 29] (by decide +kernel) (by decide +kernel)) (goodIn_sub (fun _ h => List.mem_cons_of_mem _ (List.mem_append_left _ (List.mem_append_right _ h))) (by decide +kernel))
set_option maxRecDepth 20000 in
theorem gX0_giveBack_X0_needPower : GoodIn wsX0_giveBack (wsV RX0 39 RX0 yX0_needPower wsX0_needPower) := goodIn_app (goodIn_of _ (by decide +kernel)) ggX0_giveBack_X0_needPower
set_option maxRecDepth 20000 in
theorem ggX0_giveBack_X0_needPlace : GoodIn wsX0_giveBack wsX0_needPlace := goodIn_ca (goodIn_r _ [14, 15, 16, 2, 17, 18, 19, 20, 21, 22, 23, 24, 25, 26, 27, 28, 29] (by decide +kernel) (by decide +kernel)) (goodIn_sub (fun _ h => List.mem_cons_of_mem _ (List.mem_append_right _ h)) (by decide +kernel))
set_option maxRecDepth 20000 in
theorem gX0_giveBack_X0_needPlace : GoodIn wsX0_giveBack (wsV RX0 93 RX0 yX0_needPlace wsX0_needPlace) := goodIn_app (goodIn_of _ (by decide +kernel)) ggX0_giveBack_X0_needPlace
theorem dX0_giveBack_0 : decode cX0_giveBack 0 = .ok (.aload_n 0, 1) := by decide +kernel
theorem dX0_giveBack_1 : decode cX0_giveBack 1 = .ok (.invokevirtual 39, 3) := by decide +kernel
theorem dX0_giveBack_4 : decode cX0_giveBack 4 = .ok (.aload_n 0, 1) := by decide +kernel
theorem dX0_giveBack_5 : decode cX0_giveBack 5 = .ok (.iload_n 1, 1) := by decide +kernel
theorem dX0_giveBack_6 : decode cX0_giveBack 6 = .ok (.aload_n 0, 1) := by decide +kernel
theorem dX0_giveBack_7 : decode cX0_giveBack 7 = .ok (.getfield 96, 3) := by decide +kernel
theorem dX0_giveBack_10 : decode cX0_giveBack 10 = .ok (.invokevirtual 93, 3) := by decide +kernel
theorem dX0_giveBack_13 : decode cX0_giveBack 13 = .ok (.aload_n 0, 1) := by decide +kernel
theorem dX0_giveBack_14 : decode cX0_giveBack 14 = .ok (.iload_n 1, 1) := by decide +kernel
theorem dX0_giveBack_15 : decode cX0_giveBack 15 = .ok (.putfield 87, 3) := by decide +kernel
theorem dX0_giveBack_18 : decode cX0_giveBack 18 = .ok (.return_, 1) := by decide +kernel
theorem dX0_log_0 : decode cX0_log 0 = .ok (.iload_n 1, 1) := by decide +kernel
theorem dX0_log_1 : decode cX0_log 1 = .ok (.tableswitch 42 0 2 #[27, 32, 37], 27) := by decide +kernel
theorem dX0_log_28 : decode cX0_log 28 = .ok (.aload_n 0, 1) := by decide +kernel
theorem dX0_log_29 : decode cX0_log 29 = .ok (.getfield 87, 3) := by decide +kernel
theorem dX0_log_32 : decode cX0_log 32 = .ok (.ireturn, 1) := by decide +kernel
theorem dX0_log_33 : decode cX0_log 33 = .ok (.aload_n 0, 1) := by decide +kernel
theorem dX0_log_34 : decode cX0_log 34 = .ok (.getfield 96, 3) := by decide +kernel
theorem dX0_log_37 : decode cX0_log 37 = .ok (.ireturn, 1) := by decide +kernel
theorem dX0_log_38 : decode cX0_log 38 = .ok (.aload_n 0, 1) := by decide +kernel
theorem dX0_log_39 : decode cX0_log 39 = .ok (.getfield 84, 3) := by decide +kernel
theorem dX0_log_42 : decode cX0_log 42 = .ok (.ireturn, 1) := by decide +kernel
theorem dX0_log_43 : decode cX0_log 43 = .ok (.new 103, 3) := by decide +kernel
theorem dX0_log_46 : decode cX0_log 46 = .ok (.dup, 1) := by decide +kernel
theorem dX0_log_47 : decode cX0_log 47 = .ok (.ldc 105, 2) := by decide +kernel
theorem dX0_log_49 : decode cX0_log 49 = .ok (.invokespecial 107, 3) := by decide +kernel
theorem dX0_log_52 : decode cX0_log 52 = .ok (.athrow, 1) := by decide +kernel
set_option maxRecDepth 20000 in
theorem ggX0_setRoot_X0_needPower : GoodIn wsX0_setRoot wsX0_needPower := goodIn_ca (goodIn_r _ [6, 7, 8, 9, 32, 33, 34, 35, 36, 37, 38, 39, 40, 41, 42, 43, 44] (by decide +kernel) (by decide +kernel)) (goodIn_sub (fun _ h => List.mem_cons_of_mem _ (List.mem_append_left _ (List.mem_append_right _ h))) (by decide +kernel))
set_option maxRecDepth 20000 in
theorem gX0_setRoot_X0_needPower : GoodIn wsX0_setRoot (wsV RX0 39 RX0 yX0_needPower wsX0_needPower) := goodIn_app (goodIn_of _ (by decide +kernel)) ggX0_setRoot_X0_needPower
set_option maxRecDepth 20000 in
theorem ggX0_setRoot_X0_needIndex : GoodIn wsX0_setRoot wsX0_needIndex := goodIn_ca (goodIn_r _ [12, 13, 14] (by decide +kernel) (by decide +kernel)) (goodIn_sub (fun _ h => List.mem_cons_of_mem _ (List.mem_append_right _ h)) (by decide +kernel))
set_option maxRecDepth 20000 in
theorem gX0_setRoot_X0_needIndex : GoodIn wsX0_setRoot (va_wsS RX0 42 yX0_needIndex wsX0_needIndex) := goodIn_app (goodIn_of _ (by decide +kernel)) ggX0_setRoot_X0_needIndex
set_option maxRecDepth 20000 in
theorem ggX0_setRoot_X0_makeLeastWrite : GoodIn wsX0_setRoot wsX0_makeLeastWrite := goodIn_r _ [18, 19, 20, 21, 22, 23, 5, 24, 9, 25, 26, 27, 28, 29, 30, 31, 32, 33, 34, 35, 36, 37, 38, 39, 40, 41, 42, 43, 44] (by decide +kernel) (by decide +kernel)
set_option maxRecDepth 20000 in
theorem gX0_setRoot_X0_makeLeastWrite : GoodIn wsX0_setRoot (wsV RX0 99 RX0 yX0_makeLeastWrite wsX0_makeLeastWrite) := goodIn_app (goodIn_of _ (by decide +kernel)) ggX0_setRoot_X0_makeLeastWrite
theorem dX0_setRoot_0 : decode cX0_setRoot 0 = .ok (.aload_n 0, 1) := by decide +kernel
theorem dX0_setRoot_1 : decode cX0_setRoot 1 = .ok (.invokevirtual 39, 3) := by decide +kernel
theorem dX0_setRoot_4 : decode cX0_setRoot 4 = .ok (.iload_n 1, 1) := by decide +kernel
theorem dX0_setRoot_5 : decode cX0_setRoot 5 = .ok (.iconst 4, 1) := by decide +kernel
theorem dX0_setRoot_6 : decode cX0_setRoot 6 = .ok (.invokestatic 42, 3) := by decide +kernel
theorem dX0_setRoot_9 : decode cX0_setRoot 9 = .ok (.aload_n 0, 1) := by decide +kernel
theorem dX0_setRoot_10 : decode cX0_setRoot 10 = .ok (.invokevirtual 99, 3) := by decide +kernel
theorem dX0_setRoot_13 : decode cX0_setRoot 13 = .ok (.ifCond .ne 5, 3) := by decide +kernel
theorem dX0_setRoot_16 : decode cX0_setRoot 16 = .ok (.iconst 0, 1) := by decide +kernel
theorem dX0_setRoot_17 : decode cX0_setRoot 17 = .ok (.ireturn, 1) := by decide +kernel
theorem dX0_setRoot_18 : decode cX0_setRoot 18 = .ok (.aload_n 0, 1) := by decide +kernel
theorem dX0_setRoot_19 : decode cX0_setRoot 19 = .ok (.getfield 28, 3) := by decide +kernel
theorem dX0_setRoot_22 : decode cX0_setRoot 22 = .ok (.iload_n 1, 1) := by decide +kernel
theorem dX0_setRoot_23 : decode cX0_setRoot 23 = .ok (.iload_n 2, 1) := by decide +kernel
theorem dX0_setRoot_24 : decode cX0_setRoot 24 = .ok (.iastore, 1) := by decide +kernel
theorem dX0_setRoot_25 : decode cX0_setRoot 25 = .ok (.iconst 1, 1) := by decide +kernel
theorem dX0_setRoot_26 : decode cX0_setRoot 26 = .ok (.ireturn, 1) := by decide +kernel
set_option maxRecDepth 20000 in
theorem ggX0_root_X0_needIndex : GoodIn wsX0_root wsX0_needIndex := goodIn_ca (goodIn_r _ [5, 6, 7] (by decide +kernel) (by decide +kernel)) (goodIn_sub (fun _ h => List.mem_cons_of_mem _ (List.mem_append_right _ h)) (by decide +kernel))
set_option maxRecDepth 20000 in
theorem gX0_root_X0_needIndex : GoodIn wsX0_root (va_wsS RX0 42 yX0_needIndex wsX0_needIndex) := goodIn_app (goodIn_of _ (by decide +kernel)) ggX0_root_X0_needIndex
theorem dX0_root_0 : decode cX0_root 0 = .ok (.iload_n 1, 1) := by decide +kernel
theorem dX0_root_1 : decode cX0_root 1 = .ok (.iconst 4, 1) := by decide +kernel
theorem dX0_root_2 : decode cX0_root 2 = .ok (.invokestatic 42, 3) := by decide +kernel
theorem dX0_root_5 : decode cX0_root 5 = .ok (.aload_n 0, 1) := by decide +kernel
theorem dX0_root_6 : decode cX0_root 6 = .ok (.getfield 28, 3) := by decide +kernel
theorem dX0_root_9 : decode cX0_root 9 = .ok (.iload_n 1, 1) := by decide +kernel
theorem dX0_root_10 : decode cX0_root 10 = .ok (.iaload, 1) := by decide +kernel
theorem dX0_root_11 : decode cX0_root 11 = .ok (.ireturn, 1) := by decide +kernel
theorem dX0_writes_0 : decode cX0_writes 0 = .ok (.aload_n 0, 1) := by decide +kernel
theorem dX0_writes_1 : decode cX0_writes 1 = .ok (.getfield 108, 3) := by decide +kernel
theorem dX0_writes_4 : decode cX0_writes 4 = .ok (.ireturn, 1) := by decide +kernel
theorem dX0_cutAfter_0 : decode cX0_cutAfter 0 = .ok (.iload_n 1, 1) := by decide +kernel
theorem dX0_cutAfter_1 : decode cX0_cutAfter 1 = .ok (.iconst (-1), 1) := by decide +kernel
theorem dX0_cutAfter_2 : decode cX0_cutAfter 2 = .ok (.if_icmp .ge 13, 3) := by decide +kernel
theorem dX0_cutAfter_5 : decode cX0_cutAfter 5 = .ok (.new 111, 3) := by decide +kernel
theorem dX0_cutAfter_8 : decode cX0_cutAfter 8 = .ok (.dup, 1) := by decide +kernel
theorem dX0_cutAfter_9 : decode cX0_cutAfter 9 = .ok (.ldc 113, 2) := by decide +kernel
theorem dX0_cutAfter_11 : decode cX0_cutAfter 11 = .ok (.invokespecial 115, 3) := by decide +kernel
theorem dX0_cutAfter_14 : decode cX0_cutAfter 14 = .ok (.athrow, 1) := by decide +kernel
theorem dX0_cutAfter_15 : decode cX0_cutAfter 15 = .ok (.aload_n 0, 1) := by decide +kernel
theorem dX0_cutAfter_16 : decode cX0_cutAfter 16 = .ok (.iload_n 1, 1) := by decide +kernel
theorem dX0_cutAfter_17 : decode cX0_cutAfter 17 = .ok (.putfield 35, 3) := by decide +kernel
theorem dX0_cutAfter_20 : decode cX0_cutAfter 20 = .ok (.return_, 1) := by decide +kernel
set_option maxRecDepth 20000 in
theorem ggX0_cut_X0_failPower : GoodIn wsX0_cut wsX0_failPower := goodIn_r _ [6, 1, 7, 8, 9, 10, 11, 12, 13, 14, 15, 16, 17, 18, 19, 20, 21, 22, 23, 24, 25, 26] (by decide +kernel) (by decide +kernel)
set_option maxRecDepth 20000 in
theorem gX0_cut_X0_failPower : GoodIn wsX0_cut (wsV RX0 116 RX0 yX0_failPower wsX0_failPower) := goodIn_app (goodIn_of _ (by decide +kernel)) ggX0_cut_X0_failPower
theorem dX0_cut_0 : decode cX0_cut 0 = .ok (.aload_n 0, 1) := by decide +kernel
theorem dX0_cut_1 : decode cX0_cut 1 = .ok (.getfield 31, 3) := by decide +kernel
theorem dX0_cut_4 : decode cX0_cut 4 = .ok (.ifCond .ne 5, 3) := by decide +kernel
theorem dX0_cut_7 : decode cX0_cut 7 = .ok (.iconst 0, 1) := by decide +kernel
theorem dX0_cut_8 : decode cX0_cut 8 = .ok (.ireturn, 1) := by decide +kernel
theorem dX0_cut_9 : decode cX0_cut 9 = .ok (.aload_n 0, 1) := by decide +kernel
theorem dX0_cut_10 : decode cX0_cut 10 = .ok (.invokevirtual 116, 3) := by decide +kernel
theorem dX0_cut_13 : decode cX0_cut 13 = .ok (.iconst 1, 1) := by decide +kernel
theorem dX0_cut_14 : decode cX0_cut 14 = .ok (.ireturn, 1) := by decide +kernel
theorem dX0_start_0 : decode cX0_start 0 = .ok (.aload_n 0, 1) := by decide +kernel
theorem dX0_start_1 : decode cX0_start 1 = .ok (.getfield 31, 3) := by decide +kernel
theorem dX0_start_4 : decode cX0_start 4 = .ok (.ifCond .eq 5, 3) := by decide +kernel
theorem dX0_start_7 : decode cX0_start 7 = .ok (.iconst 0, 1) := by decide +kernel
theorem dX0_start_8 : decode cX0_start 8 = .ok (.ireturn, 1) := by decide +kernel
theorem dX0_start_9 : decode cX0_start 9 = .ok (.aload_n 0, 1) := by decide +kernel
theorem dX0_start_10 : decode cX0_start 10 = .ok (.iconst 1, 1) := by decide +kernel
theorem dX0_start_11 : decode cX0_start 11 = .ok (.putfield 31, 3) := by decide +kernel
theorem dX0_start_14 : decode cX0_start 14 = .ok (.aload_n 0, 1) := by decide +kernel
theorem dX0_start_15 : decode cX0_start 15 = .ok (.iconst (-1), 1) := by decide +kernel
theorem dX0_start_16 : decode cX0_start 16 = .ok (.putfield 35, 3) := by decide +kernel
theorem dX0_start_19 : decode cX0_start 19 = .ok (.iconst 1, 1) := by decide +kernel
theorem dX0_start_20 : decode cX0_start 20 = .ok (.ireturn, 1) := by decide +kernel
theorem dX0_isOn_0 : decode cX0_isOn 0 = .ok (.aload_n 0, 1) := by decide +kernel
theorem dX0_isOn_1 : decode cX0_isOn 1 = .ok (.getfield 31, 3) := by decide +kernel
theorem dX0_isOn_4 : decode cX0_isOn 4 = .ok (.ireturn, 1) := by decide +kernel
theorem dX0_needPower_0 : decode cX0_needPower 0 = .ok (.aload_n 0, 1) := by decide +kernel
theorem dX0_needPower_1 : decode cX0_needPower 1 = .ok (.getfield 31, 3) := by decide +kernel
theorem dX0_needPower_4 : decode cX0_needPower 4 = .ok (.ifCond .ne 13, 3) := by decide +kernel
theorem dX0_needPower_7 : decode cX0_needPower 7 = .ok (.new 73, 3) := by decide +kernel
theorem dX0_needPower_10 : decode cX0_needPower 10 = .ok (.dup, 1) := by decide +kernel
theorem dX0_needPower_11 : decode cX0_needPower 11 = .ok (.ldc 119, 2) := by decide +kernel
theorem dX0_needPower_13 : decode cX0_needPower 13 = .ok (.invokespecial 77, 3) := by decide +kernel
theorem dX0_needPower_16 : decode cX0_needPower 16 = .ok (.athrow, 1) := by decide +kernel
theorem dX0_needPower_17 : decode cX0_needPower 17 = .ok (.return_, 1) := by decide +kernel
theorem dX0_needIndex_0 : decode cX0_needIndex 0 = .ok (.iload_n 0, 1) := by decide +kernel
theorem dX0_needIndex_1 : decode cX0_needIndex 1 = .ok (.ifCond .lt 8, 3) := by decide +kernel
theorem dX0_needIndex_4 : decode cX0_needIndex 4 = .ok (.iload_n 0, 1) := by decide +kernel
theorem dX0_needIndex_5 : decode cX0_needIndex 5 = .ok (.iload_n 1, 1) := by decide +kernel
theorem dX0_needIndex_6 : decode cX0_needIndex 6 = .ok (.if_icmp .lt 13, 3) := by decide +kernel
theorem dX0_needIndex_9 : decode cX0_needIndex 9 = .ok (.new 103, 3) := by decide +kernel
theorem dX0_needIndex_12 : decode cX0_needIndex 12 = .ok (.dup, 1) := by decide +kernel
theorem dX0_needIndex_13 : decode cX0_needIndex 13 = .ok (.ldc 121, 2) := by decide +kernel
theorem dX0_needIndex_15 : decode cX0_needIndex 15 = .ok (.invokespecial 107, 3) := by decide +kernel
theorem dX0_needIndex_18 : decode cX0_needIndex 18 = .ok (.athrow, 1) := by decide +kernel
theorem dX0_needIndex_19 : decode cX0_needIndex 19 = .ok (.return_, 1) := by decide +kernel
set_option maxRecDepth 20000 in
theorem ggX0_needPage_X0_needIndex : GoodIn wsX0_needPage wsX0_needIndex := goodIn_ca (goodIn_r _ [4, 5, 6] (by decide +kernel) (by decide +kernel)) (goodIn_sub (fun _ h => List.mem_cons_of_mem _ (List.mem_append_right _ h)) (by decide +kernel))
set_option maxRecDepth 20000 in
theorem gX0_needPage_X0_needIndex : GoodIn wsX0_needPage (va_wsS RX0 42 yX0_needIndex wsX0_needIndex) := goodIn_app (goodIn_of _ (by decide +kernel)) ggX0_needPage_X0_needIndex
theorem dX0_needPage_0 : decode cX0_needPage 0 = .ok (.iload_n 1, 1) := by decide +kernel
theorem dX0_needPage_1 : decode cX0_needPage 1 = .ok (.iconst 2, 1) := by decide +kernel
theorem dX0_needPage_2 : decode cX0_needPage 2 = .ok (.invokestatic 42, 3) := by decide +kernel
theorem dX0_needPage_5 : decode cX0_needPage 5 = .ok (.iload_n 2, 1) := by decide +kernel
theorem dX0_needPage_6 : decode cX0_needPage 6 = .ok (.sipush 256, 3) := by decide +kernel
theorem dX0_needPage_9 : decode cX0_needPage 9 = .ok (.invokestatic 42, 3) := by decide +kernel
theorem dX0_needPage_12 : decode cX0_needPage 12 = .ok (.return_, 1) := by decide +kernel
theorem dX0_needWordCount_0 : decode cX0_needWordCount 0 = .ok (.iload_n 0, 1) := by decide +kernel
theorem dX0_needWordCount_1 : decode cX0_needWordCount 1 = .ok (.iconst 1, 1) := by decide +kernel
theorem dX0_needWordCount_2 : decode cX0_needWordCount 2 = .ok (.if_icmp .lt 9, 3) := by decide +kernel
theorem dX0_needWordCount_5 : decode cX0_needWordCount 5 = .ok (.iload_n 0, 1) := by decide +kernel
theorem dX0_needWordCount_6 : decode cX0_needWordCount 6 = .ok (.bipush 64, 2) := by decide +kernel
theorem dX0_needWordCount_8 : decode cX0_needWordCount 8 = .ok (.if_icmp .le 13, 3) := by decide +kernel
theorem dX0_needWordCount_11 : decode cX0_needWordCount 11 = .ok (.new 111, 3) := by decide +kernel
theorem dX0_needWordCount_14 : decode cX0_needWordCount 14 = .ok (.dup, 1) := by decide +kernel
theorem dX0_needWordCount_15 : decode cX0_needWordCount 15 = .ok (.ldc 123, 2) := by decide +kernel
theorem dX0_needWordCount_17 : decode cX0_needWordCount 17 = .ok (.invokespecial 115, 3) := by decide +kernel
theorem dX0_needWordCount_20 : decode cX0_needWordCount 20 = .ok (.athrow, 1) := by decide +kernel
theorem dX0_needWordCount_21 : decode cX0_needWordCount 21 = .ok (.return_, 1) := by decide +kernel
theorem dX0_needPlace_0 : decode cX0_needPlace 0 = .ok (.iload_n 1, 1) := by decide +kernel
theorem dX0_needPlace_1 : decode cX0_needPlace 1 = .ok (.aload_n 0, 1) := by decide +kernel
theorem dX0_needPlace_2 : decode cX0_needPlace 2 = .ok (.getfield 87, 3) := by decide +kernel
theorem dX0_needPlace_5 : decode cX0_needPlace 5 = .ok (.if_icmp .lt 8, 3) := by decide +kernel
theorem dX0_needPlace_8 : decode cX0_needPlace 8 = .ok (.iload_n 1, 1) := by decide +kernel
theorem dX0_needPlace_9 : decode cX0_needPlace 9 = .ok (.iload_n 2, 1) := by decide +kernel
theorem dX0_needPlace_10 : decode cX0_needPlace 10 = .ok (.if_icmp .le 13, 3) := by decide +kernel
theorem dX0_needPlace_13 : decode cX0_needPlace 13 = .ok (.new 111, 3) := by decide +kernel
theorem dX0_needPlace_16 : decode cX0_needPlace 16 = .ok (.dup, 1) := by decide +kernel
theorem dX0_needPlace_17 : decode cX0_needPlace 17 = .ok (.ldc 125, 2) := by decide +kernel
theorem dX0_needPlace_19 : decode cX0_needPlace 19 = .ok (.invokespecial 115, 3) := by decide +kernel
theorem dX0_needPlace_22 : decode cX0_needPlace 22 = .ok (.athrow, 1) := by decide +kernel
theorem dX0_needPlace_23 : decode cX0_needPlace 23 = .ok (.return_, 1) := by decide +kernel
theorem dX0_pageIndex_0 : decode cX0_pageIndex 0 = .ok (.iload_n 0, 1) := by decide +kernel
theorem dX0_pageIndex_1 : decode cX0_pageIndex 1 = .ok (.sipush 256, 3) := by decide +kernel
theorem dX0_pageIndex_4 : decode cX0_pageIndex 4 = .ok (.imul, 1) := by decide +kernel
theorem dX0_pageIndex_5 : decode cX0_pageIndex 5 = .ok (.iload_n 1, 1) := by decide +kernel
theorem dX0_pageIndex_6 : decode cX0_pageIndex 6 = .ok (.iadd, 1) := by decide +kernel
theorem dX0_pageIndex_7 : decode cX0_pageIndex 7 = .ok (.ireturn, 1) := by decide +kernel
theorem dX0_logSlot_0 : decode cX0_logSlot 0 = .ok (.iload_n 0, 1) := by decide +kernel
theorem dX0_logSlot_1 : decode cX0_logSlot 1 = .ok (.ldc 127, 2) := by decide +kernel
theorem dX0_logSlot_3 : decode cX0_logSlot 3 = .ok (.iand, 1) := by decide +kernel
theorem dX0_logSlot_4 : decode cX0_logSlot 4 = .ok (.ireturn, 1) := by decide +kernel
theorem dX0_pageState_0 : decode cX0_pageState 0 = .ok (.aload_n 0, 1) := by decide +kernel
theorem dX0_pageState_1 : decode cX0_pageState 1 = .ok (.getfield 20, 3) := by decide +kernel
theorem dX0_pageState_4 : decode cX0_pageState 4 = .ok (.iload_n 1, 1) := by decide +kernel
theorem dX0_pageState_5 : decode cX0_pageState 5 = .ok (.baload, 1) := by decide +kernel
theorem dX0_pageState_6 : decode cX0_pageState 6 = .ok (.ifCond .eq 5, 3) := by decide +kernel
theorem dX0_pageState_9 : decode cX0_pageState 9 = .ok (.iconst 2, 1) := by decide +kernel
theorem dX0_pageState_10 : decode cX0_pageState 10 = .ok (.ireturn, 1) := by decide +kernel
theorem dX0_pageState_11 : decode cX0_pageState 11 = .ok (.aload_n 0, 1) := by decide +kernel
theorem dX0_pageState_12 : decode cX0_pageState 12 = .ok (.getfield 17, 3) := by decide +kernel
theorem dX0_pageState_15 : decode cX0_pageState 15 = .ok (.iload_n 1, 1) := by decide +kernel
theorem dX0_pageState_16 : decode cX0_pageState 16 = .ok (.iconst 2, 1) := by decide +kernel
theorem dX0_pageState_17 : decode cX0_pageState 17 = .ok (.imul, 1) := by decide +kernel
theorem dX0_pageState_18 : decode cX0_pageState 18 = .ok (.iaload, 1) := by decide +kernel
theorem dX0_pageState_19 : decode cX0_pageState 19 = .ok (.aload_n 0, 1) := by decide +kernel
theorem dX0_pageState_20 : decode cX0_pageState 20 = .ok (.getfield 17, 3) := by decide +kernel
theorem dX0_pageState_23 : decode cX0_pageState 23 = .ok (.iload_n 1, 1) := by decide +kernel
theorem dX0_pageState_24 : decode cX0_pageState 24 = .ok (.iconst 2, 1) := by decide +kernel
theorem dX0_pageState_25 : decode cX0_pageState 25 = .ok (.imul, 1) := by decide +kernel
theorem dX0_pageState_26 : decode cX0_pageState 26 = .ok (.iconst 1, 1) := by decide +kernel
theorem dX0_pageState_27 : decode cX0_pageState 27 = .ok (.iadd, 1) := by decide +kernel
theorem dX0_pageState_28 : decode cX0_pageState 28 = .ok (.iaload, 1) := by decide +kernel
theorem dX0_pageState_29 : decode cX0_pageState 29 = .ok (.if_icmp .ne 7, 3) := by decide +kernel
theorem dX0_pageState_32 : decode cX0_pageState 32 = .ok (.iconst 0, 1) := by decide +kernel
theorem dX0_pageState_33 : decode cX0_pageState 33 = .ok (.goto 4, 3) := by decide +kernel
theorem dX0_pageState_36 : decode cX0_pageState 36 = .ok (.iconst 1, 1) := by decide +kernel
theorem dX0_pageState_37 : decode cX0_pageState 37 = .ok (.ireturn, 1) := by decide +kernel
set_option maxRecDepth 20000 in
theorem ggX0_writePage_X0_makeLeastWrite : GoodIn wsX0_writePage wsX0_makeLeastWrite := goodIn_r _ [13, 14, 15, 16, 17, 18, 12, 19, 20, 21, 22, 23, 24, 25, 26, 27, 28, 29, 30, 31, 32, 33, 34, 35, 36, 37, 38, 39, 40] (by decide +kernel) (by decide +kernel)
set_option maxRecDepth 20000 in
theorem gX0_writePage_X0_makeLeastWrite : GoodIn wsX0_writePage (wsV RX0 99 RX0 yX0_makeLeastWrite wsX0_makeLeastWrite) := goodIn_app (goodIn_of _ (by decide +kernel)) ggX0_writePage_X0_makeLeastWrite
theorem dX0_writePage_0 : decode cX0_writePage 0 = .ok (.aload_n 0, 1) := by decide +kernel
theorem dX0_writePage_1 : decode cX0_writePage 1 = .ok (.dup, 1) := by decide +kernel
theorem dX0_writePage_2 : decode cX0_writePage 2 = .ok (.getfield 128, 3) := by decide +kernel
theorem dX0_writePage_5 : decode cX0_writePage 5 = .ok (.iconst 1, 1) := by decide +kernel
theorem dX0_writePage_6 : decode cX0_writePage 6 = .ok (.iadd, 1) := by decide +kernel
theorem dX0_writePage_7 : decode cX0_writePage 7 = .ok (.putfield 128, 3) := by decide +kernel
theorem dX0_writePage_10 : decode cX0_writePage 10 = .ok (.iconst 0, 1) := by decide +kernel
theorem dX0_writePage_11 : decode cX0_writePage 11 = .ok (.istore 4, 2) := by decide +kernel
theorem dX0_writePage_13 : decode cX0_writePage 13 = .ok (.iload 4, 2) := by decide +kernel
theorem dX0_writePage_15 : decode cX0_writePage 15 = .ok (.iconst 2, 1) := by decide +kernel
theorem dX0_writePage_16 : decode cX0_writePage 16 = .ok (.if_icmp .ge 61, 3) := by decide +kernel
theorem dX0_writePage_19 : decode cX0_writePage 19 = .ok (.aload_n 0, 1) := by decide +kernel
theorem dX0_writePage_20 : decode cX0_writePage 20 = .ok (.invokevirtual 99, 3) := by decide +kernel
theorem dX0_writePage_23 : decode cX0_writePage 23 = .ok (.ifCond .ne 5, 3) := by decide +kernel
theorem dX0_writePage_26 : decode cX0_writePage 26 = .ok (.iconst (-1), 1) := by decide +kernel
theorem dX0_writePage_27 : decode cX0_writePage 27 = .ok (.ireturn, 1) := by decide +kernel
theorem dX0_writePage_28 : decode cX0_writePage 28 = .ok (.iload 4, 2) := by decide +kernel
theorem dX0_writePage_30 : decode cX0_writePage 30 = .ok (.bipush 32, 2) := by decide +kernel
theorem dX0_writePage_32 : decode cX0_writePage 32 = .ok (.imul, 1) := by decide +kernel
theorem dX0_writePage_33 : decode cX0_writePage 33 = .ok (.istore 5, 2) := by decide +kernel
theorem dX0_writePage_35 : decode cX0_writePage 35 = .ok (.aload_n 2, 1) := by decide +kernel
theorem dX0_writePage_36 : decode cX0_writePage 36 = .ok (.iload_n 3, 1) := by decide +kernel
theorem dX0_writePage_37 : decode cX0_writePage 37 = .ok (.iload 5, 2) := by decide +kernel
theorem dX0_writePage_39 : decode cX0_writePage 39 = .ok (.iadd, 1) := by decide +kernel
theorem dX0_writePage_40 : decode cX0_writePage 40 = .ok (.aload_n 0, 1) := by decide +kernel
theorem dX0_writePage_41 : decode cX0_writePage 41 = .ok (.getfield 14, 3) := by decide +kernel
theorem dX0_writePage_44 : decode cX0_writePage 44 = .ok (.iload_n 1, 1) := by decide +kernel
theorem dX0_writePage_45 : decode cX0_writePage 45 = .ok (.bipush 64, 2) := by decide +kernel
theorem dX0_writePage_47 : decode cX0_writePage 47 = .ok (.imul, 1) := by decide +kernel
theorem dX0_writePage_48 : decode cX0_writePage 48 = .ok (.iload 5, 2) := by decide +kernel
theorem dX0_writePage_50 : decode cX0_writePage 50 = .ok (.iadd, 1) := by decide +kernel
theorem dX0_writePage_51 : decode cX0_writePage 51 = .ok (.bipush 32, 2) := by decide +kernel
theorem dX0_writePage_53 : decode cX0_writePage 53 = .ok (.invokestatic 67, 3) := by decide +kernel
theorem dX0_writePage_56 : decode cX0_writePage 56 = .ok (.aload_n 0, 1) := by decide +kernel
theorem dX0_writePage_57 : decode cX0_writePage 57 = .ok (.getfield 17, 3) := by decide +kernel
theorem dX0_writePage_60 : decode cX0_writePage 60 = .ok (.iload_n 1, 1) := by decide +kernel
theorem dX0_writePage_61 : decode cX0_writePage 61 = .ok (.iconst 2, 1) := by decide +kernel
theorem dX0_writePage_62 : decode cX0_writePage 62 = .ok (.imul, 1) := by decide +kernel
theorem dX0_writePage_63 : decode cX0_writePage 63 = .ok (.iload 4, 2) := by decide +kernel
theorem dX0_writePage_65 : decode cX0_writePage 65 = .ok (.iadd, 1) := by decide +kernel
theorem dX0_writePage_66 : decode cX0_writePage 66 = .ok (.aload_n 0, 1) := by decide +kernel
theorem dX0_writePage_67 : decode cX0_writePage 67 = .ok (.getfield 128, 3) := by decide +kernel
theorem dX0_writePage_70 : decode cX0_writePage 70 = .ok (.iastore, 1) := by decide +kernel
theorem dX0_writePage_71 : decode cX0_writePage 71 = .ok (.iinc 4 1, 3) := by decide +kernel
theorem dX0_writePage_74 : decode cX0_writePage 74 = .ok (.goto (-61), 3) := by decide +kernel
theorem dX0_writePage_77 : decode cX0_writePage 77 = .ok (.aload_n 0, 1) := by decide +kernel
theorem dX0_writePage_78 : decode cX0_writePage 78 = .ok (.getfield 20, 3) := by decide +kernel
theorem dX0_writePage_81 : decode cX0_writePage 81 = .ok (.iload_n 1, 1) := by decide +kernel
theorem dX0_writePage_82 : decode cX0_writePage 82 = .ok (.iconst 0, 1) := by decide +kernel
theorem dX0_writePage_83 : decode cX0_writePage 83 = .ok (.bastore, 1) := by decide +kernel
theorem dX0_writePage_84 : decode cX0_writePage 84 = .ok (.aload_n 0, 1) := by decide +kernel
theorem dX0_writePage_85 : decode cX0_writePage 85 = .ok (.getfield 128, 3) := by decide +kernel
theorem dX0_writePage_88 : decode cX0_writePage 88 = .ok (.ireturn, 1) := by decide +kernel
set_option maxRecDepth 20000 in
theorem ggX0_makeLeastWrite_X0_failPower : GoodIn wsX0_makeLeastWrite wsX0_failPower := goodIn_r _ [7, 8, 9, 10, 11, 12, 13, 14, 15, 16, 17, 18, 19, 20, 21, 22, 23, 24, 25, 26, 27, 28] (by decide +kernel) (by decide +kernel)
set_option maxRecDepth 20000 in
theorem gX0_makeLeastWrite_X0_failPower : GoodIn wsX0_makeLeastWrite (wsV RX0 116 RX0 yX0_failPower wsX0_failPower) := goodIn_app (goodIn_of _ (by decide +kernel)) ggX0_makeLeastWrite_X0_failPower
theorem dX0_makeLeastWrite_0 : decode cX0_makeLeastWrite 0 = .ok (.aload_n 0, 1) := by decide +kernel
theorem dX0_makeLeastWrite_1 : decode cX0_makeLeastWrite 1 = .ok (.getfield 35, 3) := by decide +kernel
theorem dX0_makeLeastWrite_4 : decode cX0_makeLeastWrite 4 = .ok (.ifCond .ne 9, 3) := by decide +kernel
theorem dX0_makeLeastWrite_7 : decode cX0_makeLeastWrite 7 = .ok (.aload_n 0, 1) := by decide +kernel
theorem dX0_makeLeastWrite_8 : decode cX0_makeLeastWrite 8 = .ok (.invokevirtual 116, 3) := by decide +kernel
theorem dX0_makeLeastWrite_11 : decode cX0_makeLeastWrite 11 = .ok (.iconst 0, 1) := by decide +kernel
theorem dX0_makeLeastWrite_12 : decode cX0_makeLeastWrite 12 = .ok (.ireturn, 1) := by decide +kernel
theorem dX0_makeLeastWrite_13 : decode cX0_makeLeastWrite 13 = .ok (.aload_n 0, 1) := by decide +kernel
theorem dX0_makeLeastWrite_14 : decode cX0_makeLeastWrite 14 = .ok (.getfield 35, 3) := by decide +kernel
theorem dX0_makeLeastWrite_17 : decode cX0_makeLeastWrite 17 = .ok (.iconst (-1), 1) := by decide +kernel
theorem dX0_makeLeastWrite_18 : decode cX0_makeLeastWrite 18 = .ok (.if_icmp .eq 13, 3) := by decide +kernel
theorem dX0_makeLeastWrite_21 : decode cX0_makeLeastWrite 21 = .ok (.aload_n 0, 1) := by decide +kernel
theorem dX0_makeLeastWrite_22 : decode cX0_makeLeastWrite 22 = .ok (.dup, 1) := by decide +kernel
theorem dX0_makeLeastWrite_23 : decode cX0_makeLeastWrite 23 = .ok (.getfield 35, 3) := by decide +kernel
theorem dX0_makeLeastWrite_26 : decode cX0_makeLeastWrite 26 = .ok (.iconst 1, 1) := by decide +kernel
theorem dX0_makeLeastWrite_27 : decode cX0_makeLeastWrite 27 = .ok (.isub, 1) := by decide +kernel
theorem dX0_makeLeastWrite_28 : decode cX0_makeLeastWrite 28 = .ok (.putfield 35, 3) := by decide +kernel
theorem dX0_makeLeastWrite_31 : decode cX0_makeLeastWrite 31 = .ok (.aload_n 0, 1) := by decide +kernel
theorem dX0_makeLeastWrite_32 : decode cX0_makeLeastWrite 32 = .ok (.dup, 1) := by decide +kernel
theorem dX0_makeLeastWrite_33 : decode cX0_makeLeastWrite 33 = .ok (.getfield 108, 3) := by decide +kernel
theorem dX0_makeLeastWrite_36 : decode cX0_makeLeastWrite 36 = .ok (.iconst 1, 1) := by decide +kernel
theorem dX0_makeLeastWrite_37 : decode cX0_makeLeastWrite 37 = .ok (.iadd, 1) := by decide +kernel
theorem dX0_makeLeastWrite_38 : decode cX0_makeLeastWrite 38 = .ok (.putfield 108, 3) := by decide +kernel
theorem dX0_makeLeastWrite_41 : decode cX0_makeLeastWrite 41 = .ok (.iconst 1, 1) := by decide +kernel
theorem dX0_makeLeastWrite_42 : decode cX0_makeLeastWrite 42 = .ok (.ireturn, 1) := by decide +kernel
set_option maxRecDepth 20000 in
theorem ggX0_failPower_J7_fill_53178 : GoodIn wsX0_failPower wsJ7_fill_53178 := goodIn_r _ [8] (by decide +kernel) (by decide +kernel)
set_option maxRecDepth 20000 in
theorem gX0_failPower_J7_fill_53178 : GoodIn wsX0_failPower (va_wsS RX0 61 yJ7_fill_53178 wsJ7_fill_53178) := goodIn_app (goodIn_of _ (by decide +kernel)) ggX0_failPower_J7_fill_53178
theorem dX0_failPower_0 : decode cX0_failPower 0 = .ok (.aload_n 0, 1) := by decide +kernel
theorem dX0_failPower_1 : decode cX0_failPower 1 = .ok (.iconst 0, 1) := by decide +kernel
theorem dX0_failPower_2 : decode cX0_failPower 2 = .ok (.putfield 31, 3) := by decide +kernel
theorem dX0_failPower_5 : decode cX0_failPower 5 = .ok (.aload_n 0, 1) := by decide +kernel
theorem dX0_failPower_6 : decode cX0_failPower 6 = .ok (.aload_n 0, 1) := by decide +kernel
theorem dX0_failPower_7 : decode cX0_failPower 7 = .ok (.getfield 96, 3) := by decide +kernel
theorem dX0_failPower_10 : decode cX0_failPower 10 = .ok (.putfield 84, 3) := by decide +kernel
theorem dX0_failPower_13 : decode cX0_failPower 13 = .ok (.aload_n 0, 1) := by decide +kernel
theorem dX0_failPower_14 : decode cX0_failPower 14 = .ok (.getfield 9, 3) := by decide +kernel
theorem dX0_failPower_17 : decode cX0_failPower 17 = .ok (.iconst 0, 1) := by decide +kernel
theorem dX0_failPower_18 : decode cX0_failPower 18 = .ok (.invokestatic 61, 3) := by decide +kernel
theorem dX0_failPower_21 : decode cX0_failPower 21 = .ok (.return_, 1) := by decide +kernel
end
section
theorem dX1_init_0 : decode cX1_init 0 = .ok (.aload_n 0, 1) := by decide +kernel
theorem dX1_init_1 : decode cX1_init 1 = .ok (.invokespecial 1, 3) := by decide +kernel
theorem dX1_init_4 : decode cX1_init 4 = .ok (.aload_n 0, 1) := by decide +kernel
theorem dX1_init_5 : decode cX1_init 5 = .ok (.ldc 7, 2) := by decide +kernel
theorem dX1_init_7 : decode cX1_init 7 = .ok (.newarray .int, 2) := by decide +kernel
theorem dX1_init_9 : decode cX1_init 9 = .ok (.putfield 8, 3) := by decide +kernel
theorem dX1_init_12 : decode cX1_init 12 = .ok (.aload_n 0, 1) := by decide +kernel
theorem dX1_init_13 : decode cX1_init 13 = .ok (.sipush 1024, 3) := by decide +kernel
theorem dX1_init_16 : decode cX1_init 16 = .ok (.newarray .int, 2) := by decide +kernel
theorem dX1_init_18 : decode cX1_init 18 = .ok (.putfield 14, 3) := by decide +kernel
theorem dX1_init_21 : decode cX1_init 21 = .ok (.aload_n 0, 1) := by decide +kernel
theorem dX1_init_22 : decode cX1_init 22 = .ok (.sipush 512, 3) := by decide +kernel
theorem dX1_init_25 : decode cX1_init 25 = .ok (.newarray .boolean, 2) := by decide +kernel
theorem dX1_init_27 : decode cX1_init 27 = .ok (.putfield 17, 3) := by decide +kernel
theorem dX1_init_30 : decode cX1_init 30 = .ok (.aload_n 0, 1) := by decide +kernel
theorem dX1_init_31 : decode cX1_init 31 = .ok (.ldc 21, 2) := by decide +kernel
theorem dX1_init_33 : decode cX1_init 33 = .ok (.newarray .int, 2) := by decide +kernel
theorem dX1_init_35 : decode cX1_init 35 = .ok (.putfield 22, 3) := by decide +kernel
theorem dX1_init_38 : decode cX1_init 38 = .ok (.aload_n 0, 1) := by decide +kernel
theorem dX1_init_39 : decode cX1_init 39 = .ok (.iconst 4, 1) := by decide +kernel
theorem dX1_init_40 : decode cX1_init 40 = .ok (.newarray .int, 2) := by decide +kernel
theorem dX1_init_42 : decode cX1_init 42 = .ok (.putfield 25, 3) := by decide +kernel
theorem dX1_init_45 : decode cX1_init 45 = .ok (.aload_n 0, 1) := by decide +kernel
theorem dX1_init_46 : decode cX1_init 46 = .ok (.bipush 64, 2) := by decide +kernel
theorem dX1_init_48 : decode cX1_init 48 = .ok (.newarray .int, 2) := by decide +kernel
theorem dX1_init_50 : decode cX1_init 50 = .ok (.putfield 28, 3) := by decide +kernel
theorem dX1_init_53 : decode cX1_init 53 = .ok (.aload_n 0, 1) := by decide +kernel
theorem dX1_init_54 : decode cX1_init 54 = .ok (.iconst (-1), 1) := by decide +kernel
theorem dX1_init_55 : decode cX1_init 55 = .ok (.putfield 31, 3) := by decide +kernel
theorem dX1_init_58 : decode cX1_init 58 = .ok (.aload_n 0, 1) := by decide +kernel
theorem dX1_init_59 : decode cX1_init 59 = .ok (.iconst 0, 1) := by decide +kernel
theorem dX1_init_60 : decode cX1_init 60 = .ok (.putfield 35, 3) := by decide +kernel
theorem dX1_init_63 : decode cX1_init 63 = .ok (.return_, 1) := by decide +kernel
theorem dX1_thrown_0 : decode cX1_thrown 0 = .ok (.aload_n 0, 1) := by decide +kernel
theorem dX1_thrown_1 : decode cX1_thrown 1 = .ok (.getfield 38, 3) := by decide +kernel
theorem dX1_thrown_4 : decode cX1_thrown 4 = .ok (.ireturn, 1) := by decide +kernel
theorem dX1_refused_0 : decode cX1_refused 0 = .ok (.aload_n 0, 1) := by decide +kernel
theorem dX1_refused_1 : decode cX1_refused 1 = .ok (.iload_n 1, 1) := by decide +kernel
theorem dX1_refused_2 : decode cX1_refused 2 = .ok (.ifCond .eq 7, 3) := by decide +kernel
theorem dX1_refused_5 : decode cX1_refused 5 = .ok (.iconst 1, 1) := by decide +kernel
theorem dX1_refused_6 : decode cX1_refused 6 = .ok (.goto 12, 3) := by decide +kernel
theorem dX1_refused_9 : decode cX1_refused 9 = .ok (.iload_n 2, 1) := by decide +kernel
theorem dX1_refused_10 : decode cX1_refused 10 = .ok (.ifCond .eq 7, 3) := by decide +kernel
theorem dX1_refused_13 : decode cX1_refused 13 = .ok (.iconst 2, 1) := by decide +kernel
theorem dX1_refused_14 : decode cX1_refused 14 = .ok (.goto 4, 3) := by decide +kernel
theorem dX1_refused_17 : decode cX1_refused 17 = .ok (.iconst 0, 1) := by decide +kernel
theorem dX1_refused_18 : decode cX1_refused 18 = .ok (.putfield 38, 3) := by decide +kernel
theorem dX1_refused_21 : decode cX1_refused 21 = .ok (.aload_n 0, 1) := by decide +kernel
theorem dX1_refused_22 : decode cX1_refused 22 = .ok (.getfield 38, 3) := by decide +kernel
theorem dX1_refused_25 : decode cX1_refused 25 = .ok (.ifCond .le 7, 3) := by decide +kernel
theorem dX1_refused_28 : decode cX1_refused 28 = .ok (.iconst 1, 1) := by decide +kernel
theorem dX1_refused_29 : decode cX1_refused 29 = .ok (.goto 4, 3) := by decide +kernel
theorem dX1_refused_32 : decode cX1_refused 32 = .ok (.iconst 0, 1) := by decide +kernel
theorem dX1_refused_33 : decode cX1_refused 33 = .ok (.ireturn, 1) := by decide +kernel
theorem dX1_in_0 : decode cX1_in 0 = .ok (.iload_n 0, 1) := by decide +kernel
theorem dX1_in_1 : decode cX1_in 1 = .ok (.iload_n 1, 1) := by decide +kernel
theorem dX1_in_2 : decode cX1_in 2 = .ok (.if_icmp .lt 12, 3) := by decide +kernel
theorem dX1_in_5 : decode cX1_in 5 = .ok (.iload_n 0, 1) := by decide +kernel
theorem dX1_in_6 : decode cX1_in 6 = .ok (.iload_n 2, 1) := by decide +kernel
theorem dX1_in_7 : decode cX1_in 7 = .ok (.if_icmp .gt 7, 3) := by decide +kernel
theorem dX1_in_10 : decode cX1_in 10 = .ok (.iconst 1, 1) := by decide +kernel
theorem dX1_in_11 : decode cX1_in 11 = .ok (.goto 4, 3) := by decide +kernel
theorem dX1_in_14 : decode cX1_in 14 = .ok (.iconst 0, 1) := by decide +kernel
theorem dX1_in_15 : decode cX1_in 15 = .ok (.ireturn, 1) := by decide +kernel
set_option maxRecDepth 20000 in
theorem ggX1_isPage_X1_in : GoodIn wsX1_isPage wsX1_in := goodIn_r _ [4] (by decide +kernel) (by decide +kernel)
set_option maxRecDepth 20000 in
theorem gX1_isPage_X1_in : GoodIn wsX1_isPage (va_wsS RX1 41 yX1_in wsX1_in) := goodIn_app (goodIn_of _ (by decide +kernel)) ggX1_isPage_X1_in
theorem dX1_isPage_0 : decode cX1_isPage 0 = .ok (.iload_n 0, 1) := by decide +kernel
theorem dX1_isPage_1 : decode cX1_isPage 1 = .ok (.iconst 0, 1) := by decide +kernel
theorem dX1_isPage_2 : decode cX1_isPage 2 = .ok (.iconst 1, 1) := by decide +kernel
theorem dX1_isPage_3 : decode cX1_isPage 3 = .ok (.invokestatic 41, 3) := by decide +kernel
theorem dX1_isPage_6 : decode cX1_isPage 6 = .ok (.ifCond .eq 18, 3) := by decide +kernel
theorem dX1_isPage_9 : decode cX1_isPage 9 = .ok (.iload_n 1, 1) := by decide +kernel
theorem dX1_isPage_10 : decode cX1_isPage 10 = .ok (.iconst 0, 1) := by decide +kernel
theorem dX1_isPage_11 : decode cX1_isPage 11 = .ok (.sipush 255, 3) := by decide +kernel
theorem dX1_isPage_14 : decode cX1_isPage 14 = .ok (.invokestatic 41, 3) := by decide +kernel
theorem dX1_isPage_17 : decode cX1_isPage 17 = .ok (.ifCond .eq 7, 3) := by decide +kernel
theorem dX1_isPage_20 : decode cX1_isPage 20 = .ok (.iconst 1, 1) := by decide +kernel
theorem dX1_isPage_21 : decode cX1_isPage 21 = .ok (.goto 4, 3) := by decide +kernel
theorem dX1_isPage_24 : decode cX1_isPage 24 = .ok (.iconst 0, 1) := by decide +kernel
theorem dX1_isPage_25 : decode cX1_isPage 25 = .ok (.ireturn, 1) := by decide +kernel
theorem dX1_fail_0 : decode cX1_fail 0 = .ok (.aload_n 0, 1) := by decide +kernel
theorem dX1_fail_1 : decode cX1_fail 1 = .ok (.iconst 1, 1) := by decide +kernel
theorem dX1_fail_2 : decode cX1_fail 2 = .ok (.putfield 45, 3) := by decide +kernel
theorem dX1_fail_5 : decode cX1_fail 5 = .ok (.aload_n 0, 1) := by decide +kernel
theorem dX1_fail_6 : decode cX1_fail 6 = .ok (.aload_n 0, 1) := by decide +kernel
theorem dX1_fail_7 : decode cX1_fail 7 = .ok (.getfield 49, 3) := by decide +kernel
theorem dX1_fail_10 : decode cX1_fail 10 = .ok (.putfield 52, 3) := by decide +kernel
theorem dX1_fail_13 : decode cX1_fail 13 = .ok (.iconst 0, 1) := by decide +kernel
theorem dX1_fail_14 : decode cX1_fail 14 = .ok (.istore_n 1, 1) := by decide +kernel
theorem dX1_fail_15 : decode cX1_fail 15 = .ok (.iload_n 1, 1) := by decide +kernel
theorem dX1_fail_16 : decode cX1_fail 16 = .ok (.bipush 64, 2) := by decide +kernel
theorem dX1_fail_18 : decode cX1_fail 18 = .ok (.if_icmp .ge 16, 3) := by decide +kernel
theorem dX1_fail_21 : decode cX1_fail 21 = .ok (.aload_n 0, 1) := by decide +kernel
theorem dX1_fail_22 : decode cX1_fail 22 = .ok (.getfield 28, 3) := by decide +kernel
theorem dX1_fail_25 : decode cX1_fail 25 = .ok (.iload_n 1, 1) := by decide +kernel
theorem dX1_fail_26 : decode cX1_fail 26 = .ok (.iconst 0, 1) := by decide +kernel
theorem dX1_fail_27 : decode cX1_fail 27 = .ok (.iastore, 1) := by decide +kernel
theorem dX1_fail_28 : decode cX1_fail 28 = .ok (.iinc 1 1, 3) := by decide +kernel
theorem dX1_fail_31 : decode cX1_fail 31 = .ok (.goto (-16), 3) := by decide +kernel
theorem dX1_fail_34 : decode cX1_fail 34 = .ok (.return_, 1) := by decide +kernel
set_option maxRecDepth 20000 in
theorem ggX1_canWrite_X1_fail : GoodIn wsX1_canWrite wsX1_fail := goodIn_r _ [7, 8, 9, 10, 11, 12, 13, 14, 15, 16, 17, 18, 19, 20, 21, 22, 23, 24, 25] (by decide +kernel) (by decide +kernel)
set_option maxRecDepth 20000 in
theorem gX1_canWrite_X1_fail : GoodIn wsX1_canWrite (wsV RX1 55 RX1 yX1_fail wsX1_fail) := goodIn_app (goodIn_of _ (by decide +kernel)) ggX1_canWrite_X1_fail
theorem dX1_canWrite_0 : decode cX1_canWrite 0 = .ok (.aload_n 0, 1) := by decide +kernel
theorem dX1_canWrite_1 : decode cX1_canWrite 1 = .ok (.getfield 31, 3) := by decide +kernel
theorem dX1_canWrite_4 : decode cX1_canWrite 4 = .ok (.ifCond .ne 9, 3) := by decide +kernel
theorem dX1_canWrite_7 : decode cX1_canWrite 7 = .ok (.aload_n 0, 1) := by decide +kernel
theorem dX1_canWrite_8 : decode cX1_canWrite 8 = .ok (.invokevirtual 55, 3) := by decide +kernel
theorem dX1_canWrite_11 : decode cX1_canWrite 11 = .ok (.iconst 0, 1) := by decide +kernel
theorem dX1_canWrite_12 : decode cX1_canWrite 12 = .ok (.ireturn, 1) := by decide +kernel
theorem dX1_canWrite_13 : decode cX1_canWrite 13 = .ok (.aload_n 0, 1) := by decide +kernel
theorem dX1_canWrite_14 : decode cX1_canWrite 14 = .ok (.aload_n 0, 1) := by decide +kernel
theorem dX1_canWrite_15 : decode cX1_canWrite 15 = .ok (.getfield 31, 3) := by decide +kernel
theorem dX1_canWrite_18 : decode cX1_canWrite 18 = .ok (.ifCond .le 12, 3) := by decide +kernel
theorem dX1_canWrite_21 : decode cX1_canWrite 21 = .ok (.aload_n 0, 1) := by decide +kernel
theorem dX1_canWrite_22 : decode cX1_canWrite 22 = .ok (.getfield 31, 3) := by decide +kernel
theorem dX1_canWrite_25 : decode cX1_canWrite 25 = .ok (.iconst 1, 1) := by decide +kernel
theorem dX1_canWrite_26 : decode cX1_canWrite 26 = .ok (.isub, 1) := by decide +kernel
theorem dX1_canWrite_27 : decode cX1_canWrite 27 = .ok (.goto 7, 3) := by decide +kernel
theorem dX1_canWrite_30 : decode cX1_canWrite 30 = .ok (.aload_n 0, 1) := by decide +kernel
theorem dX1_canWrite_31 : decode cX1_canWrite 31 = .ok (.getfield 31, 3) := by decide +kernel
theorem dX1_canWrite_34 : decode cX1_canWrite 34 = .ok (.putfield 31, 3) := by decide +kernel
theorem dX1_canWrite_37 : decode cX1_canWrite 37 = .ok (.aload_n 0, 1) := by decide +kernel
theorem dX1_canWrite_38 : decode cX1_canWrite 38 = .ok (.dup, 1) := by decide +kernel
theorem dX1_canWrite_39 : decode cX1_canWrite 39 = .ok (.getfield 58, 3) := by decide +kernel
theorem dX1_canWrite_42 : decode cX1_canWrite 42 = .ok (.iconst 1, 1) := by decide +kernel
theorem dX1_canWrite_43 : decode cX1_canWrite 43 = .ok (.iadd, 1) := by decide +kernel
theorem dX1_canWrite_44 : decode cX1_canWrite 44 = .ok (.putfield 58, 3) := by decide +kernel
theorem dX1_canWrite_47 : decode cX1_canWrite 47 = .ok (.iconst 1, 1) := by decide +kernel
theorem dX1_canWrite_48 : decode cX1_canWrite 48 = .ok (.ireturn, 1) := by decide +kernel
set_option maxRecDepth 20000 in
theorem ggX1_set_X1_in : GoodIn wsX1_set wsX1_in := goodIn_r _ [6] (by decide +kernel) (by decide +kernel)
set_option maxRecDepth 20000 in
theorem gX1_set_X1_in : GoodIn wsX1_set (va_wsS RX1 41 yX1_in wsX1_in) := goodIn_app (goodIn_of _ (by decide +kernel)) ggX1_set_X1_in
set_option maxRecDepth 20000 in
theorem ggX1_set_X1_refused : GoodIn wsX1_set wsX1_refused := goodIn_r _ [10, 11, 12, 13, 14, 15, 16, 17, 18, 19, 20, 21, 22, 23, 24, 25] (by decide +kernel) (by decide +kernel)
set_option maxRecDepth 20000 in
theorem gX1_set_X1_refused : GoodIn wsX1_set (wsV RX1 61 RX1 yX1_refused wsX1_refused) := goodIn_app (goodIn_of _ (by decide +kernel)) ggX1_set_X1_refused
theorem dX1_set_0 : decode cX1_set 0 = .ok (.aload_n 0, 1) := by decide +kernel
theorem dX1_set_1 : decode cX1_set 1 = .ok (.aload_n 0, 1) := by decide +kernel
theorem dX1_set_2 : decode cX1_set 2 = .ok (.getfield 45, 3) := by decide +kernel
theorem dX1_set_5 : decode cX1_set 5 = .ok (.iload_n 1, 1) := by decide +kernel
theorem dX1_set_6 : decode cX1_set 6 = .ok (.iconst 0, 1) := by decide +kernel
theorem dX1_set_7 : decode cX1_set 7 = .ok (.bipush 63, 2) := by decide +kernel
theorem dX1_set_9 : decode cX1_set 9 = .ok (.invokestatic 41, 3) := by decide +kernel
theorem dX1_set_12 : decode cX1_set 12 = .ok (.ifCond .ne 7, 3) := by decide +kernel
theorem dX1_set_15 : decode cX1_set 15 = .ok (.iconst 1, 1) := by decide +kernel
theorem dX1_set_16 : decode cX1_set 16 = .ok (.goto 4, 3) := by decide +kernel
theorem dX1_set_19 : decode cX1_set 19 = .ok (.iconst 0, 1) := by decide +kernel
theorem dX1_set_20 : decode cX1_set 20 = .ok (.invokevirtual 61, 3) := by decide +kernel
theorem dX1_set_23 : decode cX1_set 23 = .ok (.ifCond .ne 10, 3) := by decide +kernel
theorem dX1_set_26 : decode cX1_set 26 = .ok (.aload_n 0, 1) := by decide +kernel
theorem dX1_set_27 : decode cX1_set 27 = .ok (.getfield 28, 3) := by decide +kernel
theorem dX1_set_30 : decode cX1_set 30 = .ok (.iload_n 1, 1) := by decide +kernel
theorem dX1_set_31 : decode cX1_set 31 = .ok (.iload_n 2, 1) := by decide +kernel
theorem dX1_set_32 : decode cX1_set 32 = .ok (.iastore, 1) := by decide +kernel
theorem dX1_set_33 : decode cX1_set 33 = .ok (.return_, 1) := by decide +kernel
set_option maxRecDepth 20000 in
theorem ggX1_fill_X1_refused : GoodIn wsX1_fill wsX1_refused := goodIn_r _ [7, 8, 9, 10, 11, 12, 13, 14, 15, 16, 17, 18, 19, 20, 21, 22] (by decide +kernel) (by decide +kernel)
set_option maxRecDepth 20000 in
theorem gX1_fill_X1_refused : GoodIn wsX1_fill (wsV RX1 61 RX1 yX1_refused wsX1_refused) := goodIn_app (goodIn_of _ (by decide +kernel)) ggX1_fill_X1_refused
theorem dX1_fill_0 : decode cX1_fill 0 = .ok (.aload_n 0, 1) := by decide +kernel
theorem dX1_fill_1 : decode cX1_fill 1 = .ok (.aload_n 0, 1) := by decide +kernel
theorem dX1_fill_2 : decode cX1_fill 2 = .ok (.getfield 45, 3) := by decide +kernel
theorem dX1_fill_5 : decode cX1_fill 5 = .ok (.iconst 0, 1) := by decide +kernel
theorem dX1_fill_6 : decode cX1_fill 6 = .ok (.invokevirtual 61, 3) := by decide +kernel
theorem dX1_fill_9 : decode cX1_fill 9 = .ok (.ifCond .ne 28, 3) := by decide +kernel
theorem dX1_fill_12 : decode cX1_fill 12 = .ok (.iconst 0, 1) := by decide +kernel
theorem dX1_fill_13 : decode cX1_fill 13 = .ok (.istore_n 3, 1) := by decide +kernel
theorem dX1_fill_14 : decode cX1_fill 14 = .ok (.iload_n 3, 1) := by decide +kernel
theorem dX1_fill_15 : decode cX1_fill 15 = .ok (.bipush 64, 2) := by decide +kernel
theorem dX1_fill_17 : decode cX1_fill 17 = .ok (.if_icmp .ge 20, 3) := by decide +kernel
theorem dX1_fill_20 : decode cX1_fill 20 = .ok (.aload_n 0, 1) := by decide +kernel
theorem dX1_fill_21 : decode cX1_fill 21 = .ok (.getfield 28, 3) := by decide +kernel
theorem dX1_fill_24 : decode cX1_fill 24 = .ok (.iload_n 3, 1) := by decide +kernel
theorem dX1_fill_25 : decode cX1_fill 25 = .ok (.iload_n 1, 1) := by decide +kernel
theorem dX1_fill_26 : decode cX1_fill 26 = .ok (.iload_n 3, 1) := by decide +kernel
theorem dX1_fill_27 : decode cX1_fill 27 = .ok (.iload_n 2, 1) := by decide +kernel
theorem dX1_fill_28 : decode cX1_fill 28 = .ok (.imul, 1) := by decide +kernel
theorem dX1_fill_29 : decode cX1_fill 29 = .ok (.iadd, 1) := by decide +kernel
theorem dX1_fill_30 : decode cX1_fill 30 = .ok (.iastore, 1) := by decide +kernel
theorem dX1_fill_31 : decode cX1_fill 31 = .ok (.iinc 3 1, 3) := by decide +kernel
theorem dX1_fill_34 : decode cX1_fill 34 = .ok (.goto (-20), 3) := by decide +kernel
theorem dX1_fill_37 : decode cX1_fill 37 = .ok (.return_, 1) := by decide +kernel
set_option maxRecDepth 20000 in
theorem ggX1_get_X1_in : GoodIn wsX1_get wsX1_in := goodIn_r _ [5] (by decide +kernel) (by decide +kernel)
set_option maxRecDepth 20000 in
theorem gX1_get_X1_in : GoodIn wsX1_get (va_wsS RX1 41 yX1_in wsX1_in) := goodIn_app (goodIn_of _ (by decide +kernel)) ggX1_get_X1_in
set_option maxRecDepth 20000 in
theorem ggX1_get_X1_refused : GoodIn wsX1_get wsX1_refused := goodIn_r _ [9, 10, 11, 12, 13, 14, 15, 16, 17, 18, 19, 20, 21, 22, 23, 24] (by decide +kernel) (by decide +kernel)
set_option maxRecDepth 20000 in
theorem gX1_get_X1_refused : GoodIn wsX1_get (wsV RX1 61 RX1 yX1_refused wsX1_refused) := goodIn_app (goodIn_of _ (by decide +kernel)) ggX1_get_X1_refused
theorem dX1_get_0 : decode cX1_get 0 = .ok (.aload_n 0, 1) := by decide +kernel
theorem dX1_get_1 : decode cX1_get 1 = .ok (.iload_n 1, 1) := by decide +kernel
theorem dX1_get_2 : decode cX1_get 2 = .ok (.iconst 0, 1) := by decide +kernel
theorem dX1_get_3 : decode cX1_get 3 = .ok (.bipush 63, 2) := by decide +kernel
theorem dX1_get_5 : decode cX1_get 5 = .ok (.invokestatic 41, 3) := by decide +kernel
theorem dX1_get_8 : decode cX1_get 8 = .ok (.ifCond .ne 7, 3) := by decide +kernel
theorem dX1_get_11 : decode cX1_get 11 = .ok (.iconst 1, 1) := by decide +kernel
theorem dX1_get_12 : decode cX1_get 12 = .ok (.goto 4, 3) := by decide +kernel
theorem dX1_get_15 : decode cX1_get 15 = .ok (.iconst 0, 1) := by decide +kernel
theorem dX1_get_16 : decode cX1_get 16 = .ok (.iconst 0, 1) := by decide +kernel
theorem dX1_get_17 : decode cX1_get 17 = .ok (.invokevirtual 61, 3) := by decide +kernel
theorem dX1_get_20 : decode cX1_get 20 = .ok (.ifCond .eq 7, 3) := by decide +kernel
theorem dX1_get_23 : decode cX1_get 23 = .ok (.iconst 0, 1) := by decide +kernel
theorem dX1_get_24 : decode cX1_get 24 = .ok (.goto 9, 3) := by decide +kernel
theorem dX1_get_27 : decode cX1_get 27 = .ok (.aload_n 0, 1) := by decide +kernel
theorem dX1_get_28 : decode cX1_get 28 = .ok (.getfield 28, 3) := by decide +kernel
theorem dX1_get_31 : decode cX1_get 31 = .ok (.iload_n 1, 1) := by decide +kernel
theorem dX1_get_32 : decode cX1_get 32 = .ok (.iaload, 1) := by decide +kernel
theorem dX1_get_33 : decode cX1_get 33 = .ok (.ireturn, 1) := by decide +kernel
theorem dX1_sum_0 : decode cX1_sum 0 = .ok (.aload_n 0, 1) := by decide +kernel
theorem dX1_sum_1 : decode cX1_sum 1 = .ok (.iconst 0, 1) := by decide +kernel
theorem dX1_sum_2 : decode cX1_sum 2 = .ok (.putfield 38, 3) := by decide +kernel
theorem dX1_sum_5 : decode cX1_sum 5 = .ok (.iconst 0, 1) := by decide +kernel
theorem dX1_sum_6 : decode cX1_sum 6 = .ok (.istore_n 1, 1) := by decide +kernel
theorem dX1_sum_7 : decode cX1_sum 7 = .ok (.iconst 0, 1) := by decide +kernel
theorem dX1_sum_8 : decode cX1_sum 8 = .ok (.istore_n 2, 1) := by decide +kernel
theorem dX1_sum_9 : decode cX1_sum 9 = .ok (.iload_n 2, 1) := by decide +kernel
theorem dX1_sum_10 : decode cX1_sum 10 = .ok (.bipush 64, 2) := by decide +kernel
theorem dX1_sum_12 : decode cX1_sum 12 = .ok (.if_icmp .ge 22, 3) := by decide +kernel
theorem dX1_sum_15 : decode cX1_sum 15 = .ok (.iload_n 1, 1) := by decide +kernel
theorem dX1_sum_16 : decode cX1_sum 16 = .ok (.aload_n 0, 1) := by decide +kernel
theorem dX1_sum_17 : decode cX1_sum 17 = .ok (.getfield 28, 3) := by decide +kernel
theorem dX1_sum_20 : decode cX1_sum 20 = .ok (.iload_n 2, 1) := by decide +kernel
theorem dX1_sum_21 : decode cX1_sum 21 = .ok (.iaload, 1) := by decide +kernel
theorem dX1_sum_22 : decode cX1_sum 22 = .ok (.iload_n 2, 1) := by decide +kernel
theorem dX1_sum_23 : decode cX1_sum 23 = .ok (.iconst 1, 1) := by decide +kernel
theorem dX1_sum_24 : decode cX1_sum 24 = .ok (.iadd, 1) := by decide +kernel
theorem dX1_sum_25 : decode cX1_sum 25 = .ok (.imul, 1) := by decide +kernel
theorem dX1_sum_26 : decode cX1_sum 26 = .ok (.iadd, 1) := by decide +kernel
theorem dX1_sum_27 : decode cX1_sum 27 = .ok (.istore_n 1, 1) := by decide +kernel
theorem dX1_sum_28 : decode cX1_sum 28 = .ok (.iinc 2 1, 3) := by decide +kernel
theorem dX1_sum_31 : decode cX1_sum 31 = .ok (.goto (-22), 3) := by decide +kernel
theorem dX1_sum_34 : decode cX1_sum 34 = .ok (.iload_n 1, 1) := by decide +kernel
theorem dX1_sum_35 : decode cX1_sum 35 = .ok (.ireturn, 1) := by decide +kernel
theorem dX1_place_0 : decode cX1_place 0 = .ok (.sipush 256, 3) := by decide +kernel
theorem dX1_place_3 : decode cX1_place 3 = .ok (.iload_n 0, 1) := by decide +kernel
theorem dX1_place_4 : decode cX1_place 4 = .ok (.imul, 1) := by decide +kernel
theorem dX1_place_5 : decode cX1_place 5 = .ok (.iload_n 1, 1) := by decide +kernel
theorem dX1_place_6 : decode cX1_place 6 = .ok (.iadd, 1) := by decide +kernel
theorem dX1_place_7 : decode cX1_place 7 = .ok (.ireturn, 1) := by decide +kernel
theorem dX1_isTorn_0 : decode cX1_isTorn 0 = .ok (.aload_n 0, 1) := by decide +kernel
theorem dX1_isTorn_1 : decode cX1_isTorn 1 = .ok (.getfield 14, 3) := by decide +kernel
theorem dX1_isTorn_4 : decode cX1_isTorn 4 = .ok (.iconst 2, 1) := by decide +kernel
theorem dX1_isTorn_5 : decode cX1_isTorn 5 = .ok (.iload_n 1, 1) := by decide +kernel
theorem dX1_isTorn_6 : decode cX1_isTorn 6 = .ok (.imul, 1) := by decide +kernel
theorem dX1_isTorn_7 : decode cX1_isTorn 7 = .ok (.iaload, 1) := by decide +kernel
theorem dX1_isTorn_8 : decode cX1_isTorn 8 = .ok (.aload_n 0, 1) := by decide +kernel
theorem dX1_isTorn_9 : decode cX1_isTorn 9 = .ok (.getfield 14, 3) := by decide +kernel
theorem dX1_isTorn_12 : decode cX1_isTorn 12 = .ok (.iconst 2, 1) := by decide +kernel
theorem dX1_isTorn_13 : decode cX1_isTorn 13 = .ok (.iload_n 1, 1) := by decide +kernel
theorem dX1_isTorn_14 : decode cX1_isTorn 14 = .ok (.imul, 1) := by decide +kernel
theorem dX1_isTorn_15 : decode cX1_isTorn 15 = .ok (.iconst 1, 1) := by decide +kernel
theorem dX1_isTorn_16 : decode cX1_isTorn 16 = .ok (.iadd, 1) := by decide +kernel
theorem dX1_isTorn_17 : decode cX1_isTorn 17 = .ok (.iaload, 1) := by decide +kernel
theorem dX1_isTorn_18 : decode cX1_isTorn 18 = .ok (.if_icmp .eq 7, 3) := by decide +kernel
theorem dX1_isTorn_21 : decode cX1_isTorn 21 = .ok (.iconst 1, 1) := by decide +kernel
theorem dX1_isTorn_22 : decode cX1_isTorn 22 = .ok (.goto 4, 3) := by decide +kernel
theorem dX1_isTorn_25 : decode cX1_isTorn 25 = .ok (.iconst 0, 1) := by decide +kernel
theorem dX1_isTorn_26 : decode cX1_isTorn 26 = .ok (.ireturn, 1) := by decide +kernel
set_option maxRecDepth 20000 in
theorem ggX1_stateOf_X1_isTorn : GoodIn wsX1_stateOf wsX1_isTorn := goodIn_r _ [6, 7, 8, 9, 10, 11, 12, 13, 14, 15, 16, 17, 18, 19, 20, 21] (by decide +kernel) (by decide +kernel)
set_option maxRecDepth 20000 in
theorem gX1_stateOf_X1_isTorn : GoodIn wsX1_stateOf (wsV RX1 65 RX1 yX1_isTorn wsX1_isTorn) := goodIn_app (goodIn_of _ (by decide +kernel)) ggX1_stateOf_X1_isTorn
theorem dX1_stateOf_0 : decode cX1_stateOf 0 = .ok (.aload_n 0, 1) := by decide +kernel
theorem dX1_stateOf_1 : decode cX1_stateOf 1 = .ok (.getfield 17, 3) := by decide +kernel
theorem dX1_stateOf_4 : decode cX1_stateOf 4 = .ok (.iload_n 1, 1) := by decide +kernel
theorem dX1_stateOf_5 : decode cX1_stateOf 5 = .ok (.baload, 1) := by decide +kernel
theorem dX1_stateOf_6 : decode cX1_stateOf 6 = .ok (.ifCond .eq 7, 3) := by decide +kernel
theorem dX1_stateOf_9 : decode cX1_stateOf 9 = .ok (.iconst 2, 1) := by decide +kernel
theorem dX1_stateOf_10 : decode cX1_stateOf 10 = .ok (.goto 16, 3) := by decide +kernel
theorem dX1_stateOf_13 : decode cX1_stateOf 13 = .ok (.aload_n 0, 1) := by decide +kernel
theorem dX1_stateOf_14 : decode cX1_stateOf 14 = .ok (.iload_n 1, 1) := by decide +kernel
theorem dX1_stateOf_15 : decode cX1_stateOf 15 = .ok (.invokevirtual 65, 3) := by decide +kernel
theorem dX1_stateOf_18 : decode cX1_stateOf 18 = .ok (.ifCond .eq 7, 3) := by decide +kernel
theorem dX1_stateOf_21 : decode cX1_stateOf 21 = .ok (.iconst 1, 1) := by decide +kernel
theorem dX1_stateOf_22 : decode cX1_stateOf 22 = .ok (.goto 4, 3) := by decide +kernel
theorem dX1_stateOf_25 : decode cX1_stateOf 25 = .ok (.iconst 0, 1) := by decide +kernel
theorem dX1_stateOf_26 : decode cX1_stateOf 26 = .ok (.ireturn, 1) := by decide +kernel
set_option maxRecDepth 20000 in
theorem ggX1_writePage_X1_canWrite : GoodIn wsX1_writePage wsX1_canWrite := goodIn_r _ [10, 11, 12, 13, 14, 15, 9, 16, 17, 18, 19, 3, 20, 21, 22, 23, 24, 25, 26, 27, 28, 29, 30, 31, 32, 33] (by decide +kernel) (by decide +kernel)
set_option maxRecDepth 20000 in
theorem gX1_writePage_X1_canWrite : GoodIn wsX1_writePage (wsV RX1 72 RX1 yX1_canWrite wsX1_canWrite) := goodIn_app (goodIn_of _ (by decide +kernel)) ggX1_writePage_X1_canWrite
theorem dX1_writePage_0 : decode cX1_writePage 0 = .ok (.aload_n 0, 1) := by decide +kernel
theorem dX1_writePage_1 : decode cX1_writePage 1 = .ok (.dup, 1) := by decide +kernel
theorem dX1_writePage_2 : decode cX1_writePage 2 = .ok (.getfield 69, 3) := by decide +kernel
theorem dX1_writePage_5 : decode cX1_writePage 5 = .ok (.iconst 1, 1) := by decide +kernel
theorem dX1_writePage_6 : decode cX1_writePage 6 = .ok (.iadd, 1) := by decide +kernel
theorem dX1_writePage_7 : decode cX1_writePage 7 = .ok (.putfield 69, 3) := by decide +kernel
theorem dX1_writePage_10 : decode cX1_writePage 10 = .ok (.aload_n 0, 1) := by decide +kernel
theorem dX1_writePage_11 : decode cX1_writePage 11 = .ok (.getfield 69, 3) := by decide +kernel
theorem dX1_writePage_14 : decode cX1_writePage 14 = .ok (.istore 4, 2) := by decide +kernel
theorem dX1_writePage_16 : decode cX1_writePage 16 = .ok (.iconst 0, 1) := by decide +kernel
theorem dX1_writePage_17 : decode cX1_writePage 17 = .ok (.istore 5, 2) := by decide +kernel
theorem dX1_writePage_19 : decode cX1_writePage 19 = .ok (.iload 5, 2) := by decide +kernel
theorem dX1_writePage_21 : decode cX1_writePage 21 = .ok (.iconst 2, 1) := by decide +kernel
theorem dX1_writePage_22 : decode cX1_writePage 22 = .ok (.if_icmp .ge 92, 3) := by decide +kernel
theorem dX1_writePage_25 : decode cX1_writePage 25 = .ok (.aload_n 0, 1) := by decide +kernel
theorem dX1_writePage_26 : decode cX1_writePage 26 = .ok (.invokevirtual 72, 3) := by decide +kernel
theorem dX1_writePage_29 : decode cX1_writePage 29 = .ok (.ifCond .ne 5, 3) := by decide +kernel
theorem dX1_writePage_32 : decode cX1_writePage 32 = .ok (.iconst (-1), 1) := by decide +kernel
theorem dX1_writePage_33 : decode cX1_writePage 33 = .ok (.ireturn, 1) := by decide +kernel
theorem dX1_writePage_34 : decode cX1_writePage 34 = .ok (.bipush 32, 2) := by decide +kernel
theorem dX1_writePage_36 : decode cX1_writePage 36 = .ok (.iload 5, 2) := by decide +kernel
theorem dX1_writePage_38 : decode cX1_writePage 38 = .ok (.imul, 1) := by decide +kernel
theorem dX1_writePage_39 : decode cX1_writePage 39 = .ok (.istore 6, 2) := by decide +kernel
theorem dX1_writePage_41 : decode cX1_writePage 41 = .ok (.iload 6, 2) := by decide +kernel
theorem dX1_writePage_43 : decode cX1_writePage 43 = .ok (.bipush 32, 2) := by decide +kernel
theorem dX1_writePage_45 : decode cX1_writePage 45 = .ok (.iload 5, 2) := by decide +kernel
theorem dX1_writePage_47 : decode cX1_writePage 47 = .ok (.imul, 1) := by decide +kernel
theorem dX1_writePage_48 : decode cX1_writePage 48 = .ok (.bipush 32, 2) := by decide +kernel
theorem dX1_writePage_50 : decode cX1_writePage 50 = .ok (.iadd, 1) := by decide +kernel
theorem dX1_writePage_51 : decode cX1_writePage 51 = .ok (.if_icmp .ge 44, 3) := by decide +kernel
theorem dX1_writePage_54 : decode cX1_writePage 54 = .ok (.aload_n 0, 1) := by decide +kernel
theorem dX1_writePage_55 : decode cX1_writePage 55 = .ok (.getfield 8, 3) := by decide +kernel
theorem dX1_writePage_58 : decode cX1_writePage 58 = .ok (.bipush 64, 2) := by decide +kernel
theorem dX1_writePage_60 : decode cX1_writePage 60 = .ok (.iload_n 1, 1) := by decide +kernel
theorem dX1_writePage_61 : decode cX1_writePage 61 = .ok (.imul, 1) := by decide +kernel
theorem dX1_writePage_62 : decode cX1_writePage 62 = .ok (.iload 6, 2) := by decide +kernel
theorem dX1_writePage_64 : decode cX1_writePage 64 = .ok (.iadd, 1) := by decide +kernel
theorem dX1_writePage_65 : decode cX1_writePage 65 = .ok (.iload_n 3, 1) := by decide +kernel
theorem dX1_writePage_66 : decode cX1_writePage 66 = .ok (.ifCond .eq 13, 3) := by decide +kernel
theorem dX1_writePage_69 : decode cX1_writePage 69 = .ok (.aload_n 0, 1) := by decide +kernel
theorem dX1_writePage_70 : decode cX1_writePage 70 = .ok (.getfield 28, 3) := by decide +kernel
theorem dX1_writePage_73 : decode cX1_writePage 73 = .ok (.iload 6, 2) := by decide +kernel
theorem dX1_writePage_75 : decode cX1_writePage 75 = .ok (.iaload, 1) := by decide +kernel
theorem dX1_writePage_76 : decode cX1_writePage 76 = .ok (.goto 12, 3) := by decide +kernel
theorem dX1_writePage_79 : decode cX1_writePage 79 = .ok (.aload_n 0, 1) := by decide +kernel
theorem dX1_writePage_80 : decode cX1_writePage 80 = .ok (.getfield 8, 3) := by decide +kernel
theorem dX1_writePage_83 : decode cX1_writePage 83 = .ok (.iload_n 2, 1) := by decide +kernel
theorem dX1_writePage_84 : decode cX1_writePage 84 = .ok (.iload 6, 2) := by decide +kernel
theorem dX1_writePage_86 : decode cX1_writePage 86 = .ok (.iadd, 1) := by decide +kernel
theorem dX1_writePage_87 : decode cX1_writePage 87 = .ok (.iaload, 1) := by decide +kernel
theorem dX1_writePage_88 : decode cX1_writePage 88 = .ok (.iastore, 1) := by decide +kernel
theorem dX1_writePage_89 : decode cX1_writePage 89 = .ok (.iinc 6 1, 3) := by decide +kernel
theorem dX1_writePage_92 : decode cX1_writePage 92 = .ok (.goto (-51), 3) := by decide +kernel
theorem dX1_writePage_95 : decode cX1_writePage 95 = .ok (.aload_n 0, 1) := by decide +kernel
theorem dX1_writePage_96 : decode cX1_writePage 96 = .ok (.getfield 14, 3) := by decide +kernel
theorem dX1_writePage_99 : decode cX1_writePage 99 = .ok (.iconst 2, 1) := by decide +kernel
theorem dX1_writePage_100 : decode cX1_writePage 100 = .ok (.iload_n 1, 1) := by decide +kernel
theorem dX1_writePage_101 : decode cX1_writePage 101 = .ok (.imul, 1) := by decide +kernel
theorem dX1_writePage_102 : decode cX1_writePage 102 = .ok (.iload 5, 2) := by decide +kernel
theorem dX1_writePage_104 : decode cX1_writePage 104 = .ok (.iadd, 1) := by decide +kernel
theorem dX1_writePage_105 : decode cX1_writePage 105 = .ok (.iload 4, 2) := by decide +kernel
theorem dX1_writePage_107 : decode cX1_writePage 107 = .ok (.iastore, 1) := by decide +kernel
theorem dX1_writePage_108 : decode cX1_writePage 108 = .ok (.iinc 5 1, 3) := by decide +kernel
theorem dX1_writePage_111 : decode cX1_writePage 111 = .ok (.goto (-92), 3) := by decide +kernel
theorem dX1_writePage_114 : decode cX1_writePage 114 = .ok (.aload_n 0, 1) := by decide +kernel
theorem dX1_writePage_115 : decode cX1_writePage 115 = .ok (.getfield 17, 3) := by decide +kernel
theorem dX1_writePage_118 : decode cX1_writePage 118 = .ok (.iload_n 1, 1) := by decide +kernel
theorem dX1_writePage_119 : decode cX1_writePage 119 = .ok (.iconst 0, 1) := by decide +kernel
theorem dX1_writePage_120 : decode cX1_writePage 120 = .ok (.bastore, 1) := by decide +kernel
theorem dX1_writePage_121 : decode cX1_writePage 121 = .ok (.iload 4, 2) := by decide +kernel
theorem dX1_writePage_123 : decode cX1_writePage 123 = .ok (.ireturn, 1) := by decide +kernel
set_option maxRecDepth 20000 in
theorem ggX1_write_X1_isPage : GoodIn wsX1_write wsX1_isPage := goodIn_r _ [5, 6, 7, 4, 8] (by decide +kernel) (by decide +kernel)
set_option maxRecDepth 20000 in
theorem gX1_write_X1_isPage : GoodIn wsX1_write (va_wsS RX1 76 yX1_isPage wsX1_isPage) := goodIn_app (goodIn_of _ (by decide +kernel)) ggX1_write_X1_isPage
set_option maxRecDepth 20000 in
theorem ggX1_write_X1_refused : GoodIn wsX1_write wsX1_refused := goodIn_r _ [12, 13, 38, 39, 40, 41, 42, 43, 44, 45, 46, 47, 48, 49, 50, 51] (by decide +kernel) (by decide +kernel)
set_option maxRecDepth 20000 in
theorem gX1_write_X1_refused : GoodIn wsX1_write (wsV RX1 61 RX1 yX1_refused wsX1_refused) := goodIn_app (goodIn_of _ (by decide +kernel)) ggX1_write_X1_refused
set_option maxRecDepth 20000 in
theorem ggX1_write_X1_place : GoodIn wsX1_write wsX1_place := goodIn_r _ [16] (by decide +kernel) (by decide +kernel)
set_option maxRecDepth 20000 in
theorem gX1_write_X1_place : GoodIn wsX1_write (va_wsS RX1 80 yX1_place wsX1_place) := goodIn_app (goodIn_of _ (by decide +kernel)) ggX1_write_X1_place
set_option maxRecDepth 20000 in
theorem ggX1_write_X1_writePage : GoodIn wsX1_write wsX1_writePage := goodIn_r _ [20, 21, 22, 23, 24, 25, 26, 27, 28, 4, 29, 30, 31, 32, 33, 34, 35, 1, 36, 37, 38, 39, 40, 41, 42, 43, 44, 45, 46, 47, 48, 49, 50, 51] (by decide +kernel) (by decide +kernel)
set_option maxRecDepth 20000 in
theorem gX1_write_X1_writePage : GoodIn wsX1_write (wsV RX1 84 RX1 yX1_writePage wsX1_writePage) := goodIn_app (goodIn_of _ (by decide +kernel)) ggX1_write_X1_writePage
theorem dX1_write_0 : decode cX1_write 0 = .ok (.aload_n 0, 1) := by decide +kernel
theorem dX1_write_1 : decode cX1_write 1 = .ok (.aload_n 0, 1) := by decide +kernel
theorem dX1_write_2 : decode cX1_write 2 = .ok (.getfield 45, 3) := by decide +kernel
theorem dX1_write_5 : decode cX1_write 5 = .ok (.iload_n 1, 1) := by decide +kernel
theorem dX1_write_6 : decode cX1_write 6 = .ok (.iload_n 2, 1) := by decide +kernel
theorem dX1_write_7 : decode cX1_write 7 = .ok (.invokestatic 76, 3) := by decide +kernel
theorem dX1_write_10 : decode cX1_write 10 = .ok (.ifCond .ne 7, 3) := by decide +kernel
theorem dX1_write_13 : decode cX1_write 13 = .ok (.iconst 1, 1) := by decide +kernel
theorem dX1_write_14 : decode cX1_write 14 = .ok (.goto 4, 3) := by decide +kernel
theorem dX1_write_17 : decode cX1_write 17 = .ok (.iconst 0, 1) := by decide +kernel
theorem dX1_write_18 : decode cX1_write 18 = .ok (.invokevirtual 61, 3) := by decide +kernel
theorem dX1_write_21 : decode cX1_write 21 = .ok (.ifCond .eq 5, 3) := by decide +kernel
theorem dX1_write_24 : decode cX1_write 24 = .ok (.iconst 0, 1) := by decide +kernel
theorem dX1_write_25 : decode cX1_write 25 = .ok (.ireturn, 1) := by decide +kernel
theorem dX1_write_26 : decode cX1_write 26 = .ok (.aload_n 0, 1) := by decide +kernel
theorem dX1_write_27 : decode cX1_write 27 = .ok (.iload_n 1, 1) := by decide +kernel
theorem dX1_write_28 : decode cX1_write 28 = .ok (.iload_n 2, 1) := by decide +kernel
theorem dX1_write_29 : decode cX1_write 29 = .ok (.invokestatic 80, 3) := by decide +kernel
theorem dX1_write_32 : decode cX1_write 32 = .ok (.iconst 0, 1) := by decide +kernel
theorem dX1_write_33 : decode cX1_write 33 = .ok (.iconst 1, 1) := by decide +kernel
theorem dX1_write_34 : decode cX1_write 34 = .ok (.invokevirtual 84, 3) := by decide +kernel
theorem dX1_write_37 : decode cX1_write 37 = .ok (.ireturn, 1) := by decide +kernel
set_option maxRecDepth 20000 in
theorem ggX1_read_X1_isPage : GoodIn wsX1_read wsX1_isPage := goodIn_r _ [8, 9, 10, 7, 11] (by decide +kernel) (by decide +kernel)
set_option maxRecDepth 20000 in
theorem gX1_read_X1_isPage : GoodIn wsX1_read (va_wsS RX1 76 yX1_isPage wsX1_isPage) := goodIn_app (goodIn_of _ (by decide +kernel)) ggX1_read_X1_isPage
set_option maxRecDepth 20000 in
theorem ggX1_read_X1_refused : GoodIn wsX1_read wsX1_refused := goodIn_r _ [15, 16, 29, 30, 31, 32, 33, 34, 35, 36, 37, 38, 39, 40, 41, 42] (by decide +kernel) (by decide +kernel)
set_option maxRecDepth 20000 in
theorem gX1_read_X1_refused : GoodIn wsX1_read (wsV RX1 61 RX1 yX1_refused wsX1_refused) := goodIn_app (goodIn_of _ (by decide +kernel)) ggX1_read_X1_refused
set_option maxRecDepth 20000 in
theorem ggX1_read_X1_place : GoodIn wsX1_read wsX1_place := goodIn_r _ [19] (by decide +kernel) (by decide +kernel)
set_option maxRecDepth 20000 in
theorem gX1_read_X1_place : GoodIn wsX1_read (va_wsS RX1 80 yX1_place wsX1_place) := goodIn_app (goodIn_of _ (by decide +kernel)) ggX1_read_X1_place
set_option maxRecDepth 20000 in
theorem ggX1_read_X1_stateOf : GoodIn wsX1_read wsX1_stateOf := goodIn_r _ [23, 3, 24, 25, 26, 7, 27, 28, 29, 30, 31, 32, 33, 34, 35, 36, 37, 38, 39, 40, 41, 42] (by decide +kernel) (by decide +kernel)
set_option maxRecDepth 20000 in
theorem gX1_read_X1_stateOf : GoodIn wsX1_read (wsV RX1 88 RX1 yX1_stateOf wsX1_stateOf) := goodIn_app (goodIn_of _ (by decide +kernel)) ggX1_read_X1_stateOf
theorem dX1_read_0 : decode cX1_read 0 = .ok (.aload_n 0, 1) := by decide +kernel
theorem dX1_read_1 : decode cX1_read 1 = .ok (.aload_n 0, 1) := by decide +kernel
theorem dX1_read_2 : decode cX1_read 2 = .ok (.getfield 45, 3) := by decide +kernel
theorem dX1_read_5 : decode cX1_read 5 = .ok (.iload_n 1, 1) := by decide +kernel
theorem dX1_read_6 : decode cX1_read 6 = .ok (.iload_n 2, 1) := by decide +kernel
theorem dX1_read_7 : decode cX1_read 7 = .ok (.invokestatic 76, 3) := by decide +kernel
theorem dX1_read_10 : decode cX1_read 10 = .ok (.ifCond .ne 7, 3) := by decide +kernel
theorem dX1_read_13 : decode cX1_read 13 = .ok (.iconst 1, 1) := by decide +kernel
theorem dX1_read_14 : decode cX1_read 14 = .ok (.goto 4, 3) := by decide +kernel
theorem dX1_read_17 : decode cX1_read 17 = .ok (.iconst 0, 1) := by decide +kernel
theorem dX1_read_18 : decode cX1_read 18 = .ok (.invokevirtual 61, 3) := by decide +kernel
theorem dX1_read_21 : decode cX1_read 21 = .ok (.ifCond .eq 5, 3) := by decide +kernel
theorem dX1_read_24 : decode cX1_read 24 = .ok (.iconst 0, 1) := by decide +kernel
theorem dX1_read_25 : decode cX1_read 25 = .ok (.ireturn, 1) := by decide +kernel
theorem dX1_read_26 : decode cX1_read 26 = .ok (.iload_n 1, 1) := by decide +kernel
theorem dX1_read_27 : decode cX1_read 27 = .ok (.iload_n 2, 1) := by decide +kernel
theorem dX1_read_28 : decode cX1_read 28 = .ok (.invokestatic 80, 3) := by decide +kernel
theorem dX1_read_31 : decode cX1_read 31 = .ok (.istore_n 3, 1) := by decide +kernel
theorem dX1_read_32 : decode cX1_read 32 = .ok (.iconst 0, 1) := by decide +kernel
theorem dX1_read_33 : decode cX1_read 33 = .ok (.istore 4, 2) := by decide +kernel
theorem dX1_read_35 : decode cX1_read 35 = .ok (.iload 4, 2) := by decide +kernel
theorem dX1_read_37 : decode cX1_read 37 = .ok (.bipush 64, 2) := by decide +kernel
theorem dX1_read_39 : decode cX1_read 39 = .ok (.if_icmp .ge 41, 3) := by decide +kernel
theorem dX1_read_42 : decode cX1_read 42 = .ok (.aload_n 0, 1) := by decide +kernel
theorem dX1_read_43 : decode cX1_read 43 = .ok (.getfield 28, 3) := by decide +kernel
theorem dX1_read_46 : decode cX1_read 46 = .ok (.iload 4, 2) := by decide +kernel
theorem dX1_read_48 : decode cX1_read 48 = .ok (.aload_n 0, 1) := by decide +kernel
theorem dX1_read_49 : decode cX1_read 49 = .ok (.getfield 17, 3) := by decide +kernel
theorem dX1_read_52 : decode cX1_read 52 = .ok (.iload_n 3, 1) := by decide +kernel
theorem dX1_read_53 : decode cX1_read 53 = .ok (.baload, 1) := by decide +kernel
theorem dX1_read_54 : decode cX1_read 54 = .ok (.ifCond .eq 7, 3) := by decide +kernel
theorem dX1_read_57 : decode cX1_read 57 = .ok (.iconst 0, 1) := by decide +kernel
theorem dX1_read_58 : decode cX1_read 58 = .ok (.goto 15, 3) := by decide +kernel
theorem dX1_read_61 : decode cX1_read 61 = .ok (.aload_n 0, 1) := by decide +kernel
theorem dX1_read_62 : decode cX1_read 62 = .ok (.getfield 8, 3) := by decide +kernel
theorem dX1_read_65 : decode cX1_read 65 = .ok (.bipush 64, 2) := by decide +kernel
theorem dX1_read_67 : decode cX1_read 67 = .ok (.iload_n 3, 1) := by decide +kernel
theorem dX1_read_68 : decode cX1_read 68 = .ok (.imul, 1) := by decide +kernel
theorem dX1_read_69 : decode cX1_read 69 = .ok (.iload 4, 2) := by decide +kernel
theorem dX1_read_71 : decode cX1_read 71 = .ok (.iadd, 1) := by decide +kernel
theorem dX1_read_72 : decode cX1_read 72 = .ok (.iaload, 1) := by decide +kernel
theorem dX1_read_73 : decode cX1_read 73 = .ok (.iastore, 1) := by decide +kernel
theorem dX1_read_74 : decode cX1_read 74 = .ok (.iinc 4 1, 3) := by decide +kernel
theorem dX1_read_77 : decode cX1_read 77 = .ok (.goto (-42), 3) := by decide +kernel
theorem dX1_read_80 : decode cX1_read 80 = .ok (.aload_n 0, 1) := by decide +kernel
theorem dX1_read_81 : decode cX1_read 81 = .ok (.iload_n 3, 1) := by decide +kernel
theorem dX1_read_82 : decode cX1_read 82 = .ok (.invokevirtual 88, 3) := by decide +kernel
theorem dX1_read_85 : decode cX1_read 85 = .ok (.ireturn, 1) := by decide +kernel
set_option maxRecDepth 20000 in
theorem ggX1_copy_X1_isPage : GoodIn wsX1_copy wsX1_isPage := goodIn_r _ [5, 6, 7, 4, 8] (by decide +kernel) (by decide +kernel)
set_option maxRecDepth 20000 in
theorem gX1_copy_X1_isPage : GoodIn wsX1_copy (va_wsS RX1 76 yX1_isPage wsX1_isPage) := goodIn_app (goodIn_of _ (by decide +kernel)) ggX1_copy_X1_isPage
set_option maxRecDepth 20000 in
theorem ggX1_copy_X1_place : GoodIn wsX1_copy wsX1_place := goodIn_r _ [11] (by decide +kernel) (by decide +kernel)
set_option maxRecDepth 20000 in
theorem gX1_copy_X1_place : GoodIn wsX1_copy (va_wsS RX1 80 yX1_place wsX1_place) := goodIn_app (goodIn_of _ (by decide +kernel)) ggX1_copy_X1_place
set_option maxRecDepth 20000 in
theorem ggX1_copy_X1_stateOf : GoodIn wsX1_copy wsX1_stateOf := goodIn_r _ [15, 16, 17, 18, 19, 4, 20, 21, 46, 47, 48, 49, 50, 51, 52, 53, 54, 55, 56, 57, 58, 59] (by decide +kernel) (by decide +kernel)
set_option maxRecDepth 20000 in
theorem gX1_copy_X1_stateOf : GoodIn wsX1_copy (wsV RX1 88 RX1 yX1_stateOf wsX1_stateOf) := goodIn_app (goodIn_of _ (by decide +kernel)) ggX1_copy_X1_stateOf
set_option maxRecDepth 20000 in
theorem ggX1_copy_X1_refused : GoodIn wsX1_copy wsX1_refused := goodIn_r _ [25, 26, 46, 47, 48, 49, 50, 51, 52, 53, 54, 55, 56, 57, 58, 59] (by decide +kernel) (by decide +kernel)
set_option maxRecDepth 20000 in
theorem gX1_copy_X1_refused : GoodIn wsX1_copy (wsV RX1 61 RX1 yX1_refused wsX1_refused) := goodIn_app (goodIn_of _ (by decide +kernel)) ggX1_copy_X1_refused
set_option maxRecDepth 20000 in
theorem ggX1_copy_X1_writePage : GoodIn wsX1_copy wsX1_writePage := goodIn_r _ [30, 31, 32, 33, 21, 16, 34, 35, 36, 4, 37, 38, 39, 40, 41, 42, 43, 1, 44, 45, 46, 47, 48, 49, 50, 51, 52, 53, 54, 55, 56, 57, 58, 59] (by decide +kernel) (by decide +kernel)
set_option maxRecDepth 20000 in
theorem gX1_copy_X1_writePage : GoodIn wsX1_copy (wsV RX1 84 RX1 yX1_writePage wsX1_writePage) := goodIn_app (goodIn_of _ (by decide +kernel)) ggX1_copy_X1_writePage
theorem dX1_copy_0 : decode cX1_copy 0 = .ok (.iload_n 1, 1) := by decide +kernel
theorem dX1_copy_1 : decode cX1_copy 1 = .ok (.iload_n 2, 1) := by decide +kernel
theorem dX1_copy_2 : decode cX1_copy 2 = .ok (.invokestatic 76, 3) := by decide +kernel
theorem dX1_copy_5 : decode cX1_copy 5 = .ok (.istore_n 3, 1) := by decide +kernel
theorem dX1_copy_6 : decode cX1_copy 6 = .ok (.iload_n 3, 1) := by decide +kernel
theorem dX1_copy_7 : decode cX1_copy 7 = .ok (.ifCond .eq 19, 3) := by decide +kernel
theorem dX1_copy_10 : decode cX1_copy 10 = .ok (.aload_n 0, 1) := by decide +kernel
theorem dX1_copy_11 : decode cX1_copy 11 = .ok (.iload_n 1, 1) := by decide +kernel
theorem dX1_copy_12 : decode cX1_copy 12 = .ok (.iload_n 2, 1) := by decide +kernel
theorem dX1_copy_13 : decode cX1_copy 13 = .ok (.invokestatic 80, 3) := by decide +kernel
theorem dX1_copy_16 : decode cX1_copy 16 = .ok (.invokevirtual 88, 3) := by decide +kernel
theorem dX1_copy_19 : decode cX1_copy 19 = .ok (.ifCond .eq 7, 3) := by decide +kernel
theorem dX1_copy_22 : decode cX1_copy 22 = .ok (.iconst 1, 1) := by decide +kernel
theorem dX1_copy_23 : decode cX1_copy 23 = .ok (.goto 4, 3) := by decide +kernel
theorem dX1_copy_26 : decode cX1_copy 26 = .ok (.iconst 0, 1) := by decide +kernel
theorem dX1_copy_27 : decode cX1_copy 27 = .ok (.istore 4, 2) := by decide +kernel
theorem dX1_copy_29 : decode cX1_copy 29 = .ok (.aload_n 0, 1) := by decide +kernel
theorem dX1_copy_30 : decode cX1_copy 30 = .ok (.aload_n 0, 1) := by decide +kernel
theorem dX1_copy_31 : decode cX1_copy 31 = .ok (.getfield 45, 3) := by decide +kernel
theorem dX1_copy_34 : decode cX1_copy 34 = .ok (.ifCond .ne 8, 3) := by decide +kernel
theorem dX1_copy_37 : decode cX1_copy 37 = .ok (.iload 4, 2) := by decide +kernel
theorem dX1_copy_39 : decode cX1_copy 39 = .ok (.ifCond .eq 7, 3) := by decide +kernel
theorem dX1_copy_42 : decode cX1_copy 42 = .ok (.iconst 1, 1) := by decide +kernel
theorem dX1_copy_43 : decode cX1_copy 43 = .ok (.goto 4, 3) := by decide +kernel
theorem dX1_copy_46 : decode cX1_copy 46 = .ok (.iconst 0, 1) := by decide +kernel
theorem dX1_copy_47 : decode cX1_copy 47 = .ok (.iload_n 3, 1) := by decide +kernel
theorem dX1_copy_48 : decode cX1_copy 48 = .ok (.ifCond .ne 7, 3) := by decide +kernel
theorem dX1_copy_51 : decode cX1_copy 51 = .ok (.iconst 1, 1) := by decide +kernel
theorem dX1_copy_52 : decode cX1_copy 52 = .ok (.goto 4, 3) := by decide +kernel
theorem dX1_copy_55 : decode cX1_copy 55 = .ok (.iconst 0, 1) := by decide +kernel
theorem dX1_copy_56 : decode cX1_copy 56 = .ok (.invokevirtual 61, 3) := by decide +kernel
theorem dX1_copy_59 : decode cX1_copy 59 = .ok (.ifCond .eq 5, 3) := by decide +kernel
theorem dX1_copy_62 : decode cX1_copy 62 = .ok (.iconst 0, 1) := by decide +kernel
theorem dX1_copy_63 : decode cX1_copy 63 = .ok (.ireturn, 1) := by decide +kernel
theorem dX1_copy_64 : decode cX1_copy 64 = .ok (.aload_n 0, 1) := by decide +kernel
theorem dX1_copy_65 : decode cX1_copy 65 = .ok (.iconst 1, 1) := by decide +kernel
theorem dX1_copy_66 : decode cX1_copy 66 = .ok (.iload_n 1, 1) := by decide +kernel
theorem dX1_copy_67 : decode cX1_copy 67 = .ok (.isub, 1) := by decide +kernel
theorem dX1_copy_68 : decode cX1_copy 68 = .ok (.iload_n 2, 1) := by decide +kernel
theorem dX1_copy_69 : decode cX1_copy 69 = .ok (.invokestatic 80, 3) := by decide +kernel
theorem dX1_copy_72 : decode cX1_copy 72 = .ok (.bipush 64, 2) := by decide +kernel
theorem dX1_copy_74 : decode cX1_copy 74 = .ok (.iload_n 1, 1) := by decide +kernel
theorem dX1_copy_75 : decode cX1_copy 75 = .ok (.iload_n 2, 1) := by decide +kernel
theorem dX1_copy_76 : decode cX1_copy 76 = .ok (.invokestatic 80, 3) := by decide +kernel
theorem dX1_copy_79 : decode cX1_copy 79 = .ok (.imul, 1) := by decide +kernel
theorem dX1_copy_80 : decode cX1_copy 80 = .ok (.iconst 0, 1) := by decide +kernel
theorem dX1_copy_81 : decode cX1_copy 81 = .ok (.invokevirtual 84, 3) := by decide +kernel
theorem dX1_copy_84 : decode cX1_copy 84 = .ok (.ireturn, 1) := by decide +kernel
set_option maxRecDepth 20000 in
theorem ggX1_append_X1_in : GoodIn wsX1_append wsX1_in := goodIn_r _ [10] (by decide +kernel) (by decide +kernel)
set_option maxRecDepth 20000 in
theorem gX1_append_X1_in : GoodIn wsX1_append (va_wsS RX1 41 yX1_in wsX1_in) := goodIn_app (goodIn_of _ (by decide +kernel)) ggX1_append_X1_in
set_option maxRecDepth 20000 in
theorem ggX1_append_X1_refused : GoodIn wsX1_append wsX1_refused := goodIn_r _ [14, 15, 16, 17, 18, 19, 20, 21, 22, 23, 24, 25, 26, 27, 28, 29] (by decide +kernel) (by decide +kernel)
set_option maxRecDepth 20000 in
theorem gX1_append_X1_refused : GoodIn wsX1_append (wsV RX1 61 RX1 yX1_refused wsX1_refused) := goodIn_app (goodIn_of _ (by decide +kernel)) ggX1_append_X1_refused
theorem dX1_append_0 : decode cX1_append 0 = .ok (.aload_n 0, 1) := by decide +kernel
theorem dX1_append_1 : decode cX1_append 1 = .ok (.aload_n 0, 1) := by decide +kernel
theorem dX1_append_2 : decode cX1_append 2 = .ok (.getfield 45, 3) := by decide +kernel
theorem dX1_append_5 : decode cX1_append 5 = .ok (.iload_n 1, 1) := by decide +kernel
theorem dX1_append_6 : decode cX1_append 6 = .ok (.iconst 1, 1) := by decide +kernel
theorem dX1_append_7 : decode cX1_append 7 = .ok (.bipush 64, 2) := by decide +kernel
theorem dX1_append_9 : decode cX1_append 9 = .ok (.invokestatic 41, 3) := by decide +kernel
theorem dX1_append_12 : decode cX1_append 12 = .ok (.ifCond .ne 7, 3) := by decide +kernel
theorem dX1_append_15 : decode cX1_append 15 = .ok (.iconst 1, 1) := by decide +kernel
theorem dX1_append_16 : decode cX1_append 16 = .ok (.goto 4, 3) := by decide +kernel
theorem dX1_append_19 : decode cX1_append 19 = .ok (.iconst 0, 1) := by decide +kernel
theorem dX1_append_20 : decode cX1_append 20 = .ok (.invokevirtual 61, 3) := by decide +kernel
theorem dX1_append_23 : decode cX1_append 23 = .ok (.ifCond .eq 5, 3) := by decide +kernel
theorem dX1_append_26 : decode cX1_append 26 = .ok (.iconst 0, 1) := by decide +kernel
theorem dX1_append_27 : decode cX1_append 27 = .ok (.ireturn, 1) := by decide +kernel
theorem dX1_append_28 : decode cX1_append 28 = .ok (.aload_n 0, 1) := by decide +kernel
theorem dX1_append_29 : decode cX1_append 29 = .ok (.getfield 52, 3) := by decide +kernel
theorem dX1_append_32 : decode cX1_append 32 = .ok (.aload_n 0, 1) := by decide +kernel
theorem dX1_append_33 : decode cX1_append 33 = .ok (.getfield 35, 3) := by decide +kernel
theorem dX1_append_36 : decode cX1_append 36 = .ok (.isub, 1) := by decide +kernel
theorem dX1_append_37 : decode cX1_append 37 = .ok (.iload_n 1, 1) := by decide +kernel
theorem dX1_append_38 : decode cX1_append 38 = .ok (.iadd, 1) := by decide +kernel
theorem dX1_append_39 : decode cX1_append 39 = .ok (.ldc 21, 2) := by decide +kernel
theorem dX1_append_41 : decode cX1_append 41 = .ok (.if_icmp .le 5, 3) := by decide +kernel
theorem dX1_append_44 : decode cX1_append 44 = .ok (.iconst (-1), 1) := by decide +kernel
theorem dX1_append_45 : decode cX1_append 45 = .ok (.ireturn, 1) := by decide +kernel
theorem dX1_append_46 : decode cX1_append 46 = .ok (.aload_n 0, 1) := by decide +kernel
theorem dX1_append_47 : decode cX1_append 47 = .ok (.getfield 52, 3) := by decide +kernel
theorem dX1_append_50 : decode cX1_append 50 = .ok (.istore_n 2, 1) := by decide +kernel
theorem dX1_append_51 : decode cX1_append 51 = .ok (.iconst 0, 1) := by decide +kernel
theorem dX1_append_52 : decode cX1_append 52 = .ok (.istore_n 3, 1) := by decide +kernel
theorem dX1_append_53 : decode cX1_append 53 = .ok (.iload_n 3, 1) := by decide +kernel
theorem dX1_append_54 : decode cX1_append 54 = .ok (.iload_n 1, 1) := by decide +kernel
theorem dX1_append_55 : decode cX1_append 55 = .ok (.if_icmp .ge 26, 3) := by decide +kernel
theorem dX1_append_58 : decode cX1_append 58 = .ok (.aload_n 0, 1) := by decide +kernel
theorem dX1_append_59 : decode cX1_append 59 = .ok (.getfield 22, 3) := by decide +kernel
theorem dX1_append_62 : decode cX1_append 62 = .ok (.iload_n 2, 1) := by decide +kernel
theorem dX1_append_63 : decode cX1_append 63 = .ok (.iload_n 3, 1) := by decide +kernel
theorem dX1_append_64 : decode cX1_append 64 = .ok (.iadd, 1) := by decide +kernel
theorem dX1_append_65 : decode cX1_append 65 = .ok (.ldc 21, 2) := by decide +kernel
theorem dX1_append_67 : decode cX1_append 67 = .ok (.irem, 1) := by decide +kernel
theorem dX1_append_68 : decode cX1_append 68 = .ok (.aload_n 0, 1) := by decide +kernel
theorem dX1_append_69 : decode cX1_append 69 = .ok (.getfield 28, 3) := by decide +kernel
theorem dX1_append_72 : decode cX1_append 72 = .ok (.iload_n 3, 1) := by decide +kernel
theorem dX1_append_73 : decode cX1_append 73 = .ok (.iaload, 1) := by decide +kernel
theorem dX1_append_74 : decode cX1_append 74 = .ok (.iastore, 1) := by decide +kernel
theorem dX1_append_75 : decode cX1_append 75 = .ok (.iinc 3 1, 3) := by decide +kernel
theorem dX1_append_78 : decode cX1_append 78 = .ok (.goto (-25), 3) := by decide +kernel
theorem dX1_append_81 : decode cX1_append 81 = .ok (.aload_n 0, 1) := by decide +kernel
theorem dX1_append_82 : decode cX1_append 82 = .ok (.iload_n 2, 1) := by decide +kernel
theorem dX1_append_83 : decode cX1_append 83 = .ok (.iload_n 1, 1) := by decide +kernel
theorem dX1_append_84 : decode cX1_append 84 = .ok (.iadd, 1) := by decide +kernel
theorem dX1_append_85 : decode cX1_append 85 = .ok (.putfield 52, 3) := by decide +kernel
theorem dX1_append_88 : decode cX1_append 88 = .ok (.iload_n 2, 1) := by decide +kernel
theorem dX1_append_89 : decode cX1_append 89 = .ok (.ireturn, 1) := by decide +kernel
set_option maxRecDepth 20000 in
theorem ggX1_force_X1_refused : GoodIn wsX1_force wsX1_refused := goodIn_r _ [9, 10, 22, 23, 24, 25, 26, 27, 28, 29, 30, 31, 32, 33, 34, 35] (by decide +kernel) (by decide +kernel)
set_option maxRecDepth 20000 in
theorem gX1_force_X1_refused : GoodIn wsX1_force (wsV RX1 61 RX1 yX1_refused wsX1_refused) := goodIn_app (goodIn_of _ (by decide +kernel)) ggX1_force_X1_refused
set_option maxRecDepth 20000 in
theorem ggX1_force_X1_canWrite : GoodIn wsX1_force wsX1_canWrite := goodIn_r _ [14, 15, 16, 17, 18, 19, 8, 20, 1, 4, 3, 21, 22, 23, 24, 25, 26, 27, 28, 29, 30, 31, 32, 33, 34, 35] (by decide +kernel) (by decide +kernel)
set_option maxRecDepth 20000 in
theorem gX1_force_X1_canWrite : GoodIn wsX1_force (wsV RX1 72 RX1 yX1_canWrite wsX1_canWrite) := goodIn_app (goodIn_of _ (by decide +kernel)) ggX1_force_X1_canWrite
theorem dX1_force_0 : decode cX1_force 0 = .ok (.aload_n 0, 1) := by decide +kernel
theorem dX1_force_1 : decode cX1_force 1 = .ok (.aload_n 0, 1) := by decide +kernel
theorem dX1_force_2 : decode cX1_force 2 = .ok (.getfield 45, 3) := by decide +kernel
theorem dX1_force_5 : decode cX1_force 5 = .ok (.iload_n 1, 1) := by decide +kernel
theorem dX1_force_6 : decode cX1_force 6 = .ok (.aload_n 0, 1) := by decide +kernel
theorem dX1_force_7 : decode cX1_force 7 = .ok (.getfield 35, 3) := by decide +kernel
theorem dX1_force_10 : decode cX1_force 10 = .ok (.if_icmp .lt 11, 3) := by decide +kernel
theorem dX1_force_13 : decode cX1_force 13 = .ok (.iload_n 1, 1) := by decide +kernel
theorem dX1_force_14 : decode cX1_force 14 = .ok (.aload_n 0, 1) := by decide +kernel
theorem dX1_force_15 : decode cX1_force 15 = .ok (.getfield 52, 3) := by decide +kernel
theorem dX1_force_18 : decode cX1_force 18 = .ok (.if_icmp .le 7, 3) := by decide +kernel
theorem dX1_force_21 : decode cX1_force 21 = .ok (.iconst 1, 1) := by decide +kernel
theorem dX1_force_22 : decode cX1_force 22 = .ok (.goto 4, 3) := by decide +kernel
theorem dX1_force_25 : decode cX1_force 25 = .ok (.iconst 0, 1) := by decide +kernel
theorem dX1_force_26 : decode cX1_force 26 = .ok (.invokevirtual 61, 3) := by decide +kernel
theorem dX1_force_29 : decode cX1_force 29 = .ok (.ifCond .eq 5, 3) := by decide +kernel
theorem dX1_force_32 : decode cX1_force 32 = .ok (.iconst 0, 1) := by decide +kernel
theorem dX1_force_33 : decode cX1_force 33 = .ok (.ireturn, 1) := by decide +kernel
theorem dX1_force_34 : decode cX1_force 34 = .ok (.iconst 0, 1) := by decide +kernel
theorem dX1_force_35 : decode cX1_force 35 = .ok (.istore_n 2, 1) := by decide +kernel
theorem dX1_force_36 : decode cX1_force 36 = .ok (.aload_n 0, 1) := by decide +kernel
theorem dX1_force_37 : decode cX1_force 37 = .ok (.getfield 49, 3) := by decide +kernel
theorem dX1_force_40 : decode cX1_force 40 = .ok (.iload_n 1, 1) := by decide +kernel
theorem dX1_force_41 : decode cX1_force 41 = .ok (.if_icmp .ge 28, 3) := by decide +kernel
theorem dX1_force_44 : decode cX1_force 44 = .ok (.aload_n 0, 1) := by decide +kernel
theorem dX1_force_45 : decode cX1_force 45 = .ok (.invokevirtual 72, 3) := by decide +kernel
theorem dX1_force_48 : decode cX1_force 48 = .ok (.ifCond .ne 5, 3) := by decide +kernel
theorem dX1_force_51 : decode cX1_force 51 = .ok (.iconst (-1), 1) := by decide +kernel
theorem dX1_force_52 : decode cX1_force 52 = .ok (.ireturn, 1) := by decide +kernel
theorem dX1_force_53 : decode cX1_force 53 = .ok (.aload_n 0, 1) := by decide +kernel
theorem dX1_force_54 : decode cX1_force 54 = .ok (.dup, 1) := by decide +kernel
theorem dX1_force_55 : decode cX1_force 55 = .ok (.getfield 49, 3) := by decide +kernel
theorem dX1_force_58 : decode cX1_force 58 = .ok (.iconst 1, 1) := by decide +kernel
theorem dX1_force_59 : decode cX1_force 59 = .ok (.iadd, 1) := by decide +kernel
theorem dX1_force_60 : decode cX1_force 60 = .ok (.putfield 49, 3) := by decide +kernel
theorem dX1_force_63 : decode cX1_force 63 = .ok (.iinc 2 1, 3) := by decide +kernel
theorem dX1_force_66 : decode cX1_force 66 = .ok (.goto (-30), 3) := by decide +kernel
theorem dX1_force_69 : decode cX1_force 69 = .ok (.iload_n 2, 1) := by decide +kernel
theorem dX1_force_70 : decode cX1_force 70 = .ok (.ireturn, 1) := by decide +kernel
set_option maxRecDepth 20000 in
theorem ggX1_readLog_X1_in : GoodIn wsX1_readLog wsX1_in := goodIn_r _ [10] (by decide +kernel) (by decide +kernel)
set_option maxRecDepth 20000 in
theorem gX1_readLog_X1_in : GoodIn wsX1_readLog (va_wsS RX1 41 yX1_in wsX1_in) := goodIn_app (goodIn_of _ (by decide +kernel)) ggX1_readLog_X1_in
set_option maxRecDepth 20000 in
theorem ggX1_readLog_X1_refused : GoodIn wsX1_readLog wsX1_refused := goodIn_r _ [14, 15, 16, 17, 18, 19, 20, 21, 22, 23, 24, 25, 26, 27, 28, 29] (by decide +kernel) (by decide +kernel)
set_option maxRecDepth 20000 in
theorem gX1_readLog_X1_refused : GoodIn wsX1_readLog (wsV RX1 61 RX1 yX1_refused wsX1_refused) := goodIn_app (goodIn_of _ (by decide +kernel)) ggX1_readLog_X1_refused
theorem dX1_readLog_0 : decode cX1_readLog 0 = .ok (.iload_n 2, 1) := by decide +kernel
theorem dX1_readLog_1 : decode cX1_readLog 1 = .ok (.iconst 1, 1) := by decide +kernel
theorem dX1_readLog_2 : decode cX1_readLog 2 = .ok (.bipush 64, 2) := by decide +kernel
theorem dX1_readLog_4 : decode cX1_readLog 4 = .ok (.invokestatic 41, 3) := by decide +kernel
theorem dX1_readLog_7 : decode cX1_readLog 7 = .ok (.ifCond .eq 21, 3) := by decide +kernel
theorem dX1_readLog_10 : decode cX1_readLog 10 = .ok (.iload_n 1, 1) := by decide +kernel
theorem dX1_readLog_11 : decode cX1_readLog 11 = .ok (.aload_n 0, 1) := by decide +kernel
theorem dX1_readLog_12 : decode cX1_readLog 12 = .ok (.getfield 35, 3) := by decide +kernel
theorem dX1_readLog_15 : decode cX1_readLog 15 = .ok (.if_icmp .lt 13, 3) := by decide +kernel
theorem dX1_readLog_18 : decode cX1_readLog 18 = .ok (.iload_n 1, 1) := by decide +kernel
theorem dX1_readLog_19 : decode cX1_readLog 19 = .ok (.aload_n 0, 1) := by decide +kernel
theorem dX1_readLog_20 : decode cX1_readLog 20 = .ok (.getfield 52, 3) := by decide +kernel
theorem dX1_readLog_23 : decode cX1_readLog 23 = .ok (.iload_n 2, 1) := by decide +kernel
theorem dX1_readLog_24 : decode cX1_readLog 24 = .ok (.isub, 1) := by decide +kernel
theorem dX1_readLog_25 : decode cX1_readLog 25 = .ok (.if_icmp .le 7, 3) := by decide +kernel
theorem dX1_readLog_28 : decode cX1_readLog 28 = .ok (.iconst 1, 1) := by decide +kernel
theorem dX1_readLog_29 : decode cX1_readLog 29 = .ok (.goto 4, 3) := by decide +kernel
theorem dX1_readLog_32 : decode cX1_readLog 32 = .ok (.iconst 0, 1) := by decide +kernel
theorem dX1_readLog_33 : decode cX1_readLog 33 = .ok (.istore_n 3, 1) := by decide +kernel
theorem dX1_readLog_34 : decode cX1_readLog 34 = .ok (.aload_n 0, 1) := by decide +kernel
theorem dX1_readLog_35 : decode cX1_readLog 35 = .ok (.aload_n 0, 1) := by decide +kernel
theorem dX1_readLog_36 : decode cX1_readLog 36 = .ok (.getfield 45, 3) := by decide +kernel
theorem dX1_readLog_39 : decode cX1_readLog 39 = .ok (.iload_n 3, 1) := by decide +kernel
theorem dX1_readLog_40 : decode cX1_readLog 40 = .ok (.invokevirtual 61, 3) := by decide +kernel
theorem dX1_readLog_43 : decode cX1_readLog 43 = .ok (.ifCond .ne 37, 3) := by decide +kernel
theorem dX1_readLog_46 : decode cX1_readLog 46 = .ok (.iconst 0, 1) := by decide +kernel
theorem dX1_readLog_47 : decode cX1_readLog 47 = .ok (.istore 4, 2) := by decide +kernel
theorem dX1_readLog_49 : decode cX1_readLog 49 = .ok (.iload 4, 2) := by decide +kernel
theorem dX1_readLog_51 : decode cX1_readLog 51 = .ok (.iload_n 2, 1) := by decide +kernel
theorem dX1_readLog_52 : decode cX1_readLog 52 = .ok (.if_icmp .ge 28, 3) := by decide +kernel
theorem dX1_readLog_55 : decode cX1_readLog 55 = .ok (.aload_n 0, 1) := by decide +kernel
theorem dX1_readLog_56 : decode cX1_readLog 56 = .ok (.getfield 28, 3) := by decide +kernel
theorem dX1_readLog_59 : decode cX1_readLog 59 = .ok (.iload 4, 2) := by decide +kernel
theorem dX1_readLog_61 : decode cX1_readLog 61 = .ok (.aload_n 0, 1) := by decide +kernel
theorem dX1_readLog_62 : decode cX1_readLog 62 = .ok (.getfield 22, 3) := by decide +kernel
theorem dX1_readLog_65 : decode cX1_readLog 65 = .ok (.iload_n 1, 1) := by decide +kernel
theorem dX1_readLog_66 : decode cX1_readLog 66 = .ok (.iload 4, 2) := by decide +kernel
theorem dX1_readLog_68 : decode cX1_readLog 68 = .ok (.iadd, 1) := by decide +kernel
theorem dX1_readLog_69 : decode cX1_readLog 69 = .ok (.ldc 21, 2) := by decide +kernel
theorem dX1_readLog_71 : decode cX1_readLog 71 = .ok (.irem, 1) := by decide +kernel
theorem dX1_readLog_72 : decode cX1_readLog 72 = .ok (.iaload, 1) := by decide +kernel
theorem dX1_readLog_73 : decode cX1_readLog 73 = .ok (.iastore, 1) := by decide +kernel
theorem dX1_readLog_74 : decode cX1_readLog 74 = .ok (.iinc 4 1, 3) := by decide +kernel
theorem dX1_readLog_77 : decode cX1_readLog 77 = .ok (.goto (-28), 3) := by decide +kernel
theorem dX1_readLog_80 : decode cX1_readLog 80 = .ok (.return_, 1) := by decide +kernel
set_option maxRecDepth 20000 in
theorem ggX1_giveBack_X1_refused : GoodIn wsX1_giveBack wsX1_refused := goodIn_r _ [8, 9, 10, 11, 12, 13, 14, 15, 16, 17, 18, 19, 20, 21, 22, 23] (by decide +kernel) (by decide +kernel)
set_option maxRecDepth 20000 in
theorem gX1_giveBack_X1_refused : GoodIn wsX1_giveBack (wsV RX1 61 RX1 yX1_refused wsX1_refused) := goodIn_app (goodIn_of _ (by decide +kernel)) ggX1_giveBack_X1_refused
theorem dX1_giveBack_0 : decode cX1_giveBack 0 = .ok (.aload_n 0, 1) := by decide +kernel
theorem dX1_giveBack_1 : decode cX1_giveBack 1 = .ok (.aload_n 0, 1) := by decide +kernel
theorem dX1_giveBack_2 : decode cX1_giveBack 2 = .ok (.getfield 45, 3) := by decide +kernel
theorem dX1_giveBack_5 : decode cX1_giveBack 5 = .ok (.iload_n 1, 1) := by decide +kernel
theorem dX1_giveBack_6 : decode cX1_giveBack 6 = .ok (.aload_n 0, 1) := by decide +kernel
theorem dX1_giveBack_7 : decode cX1_giveBack 7 = .ok (.getfield 35, 3) := by decide +kernel
theorem dX1_giveBack_10 : decode cX1_giveBack 10 = .ok (.if_icmp .lt 11, 3) := by decide +kernel
theorem dX1_giveBack_13 : decode cX1_giveBack 13 = .ok (.iload_n 1, 1) := by decide +kernel
theorem dX1_giveBack_14 : decode cX1_giveBack 14 = .ok (.aload_n 0, 1) := by decide +kernel
theorem dX1_giveBack_15 : decode cX1_giveBack 15 = .ok (.getfield 49, 3) := by decide +kernel
theorem dX1_giveBack_18 : decode cX1_giveBack 18 = .ok (.if_icmp .le 7, 3) := by decide +kernel
theorem dX1_giveBack_21 : decode cX1_giveBack 21 = .ok (.iconst 1, 1) := by decide +kernel
theorem dX1_giveBack_22 : decode cX1_giveBack 22 = .ok (.goto 4, 3) := by decide +kernel
theorem dX1_giveBack_25 : decode cX1_giveBack 25 = .ok (.iconst 0, 1) := by decide +kernel
theorem dX1_giveBack_26 : decode cX1_giveBack 26 = .ok (.invokevirtual 61, 3) := by decide +kernel
theorem dX1_giveBack_29 : decode cX1_giveBack 29 = .ok (.ifCond .ne 8, 3) := by decide +kernel
theorem dX1_giveBack_32 : decode cX1_giveBack 32 = .ok (.aload_n 0, 1) := by decide +kernel
theorem dX1_giveBack_33 : decode cX1_giveBack 33 = .ok (.iload_n 1, 1) := by decide +kernel
theorem dX1_giveBack_34 : decode cX1_giveBack 34 = .ok (.putfield 35, 3) := by decide +kernel
theorem dX1_giveBack_37 : decode cX1_giveBack 37 = .ok (.return_, 1) := by decide +kernel
set_option maxRecDepth 20000 in
theorem ggX1_log_X1_in : GoodIn wsX1_log wsX1_in := goodIn_r _ [7] (by decide +kernel) (by decide +kernel)
set_option maxRecDepth 20000 in
theorem gX1_log_X1_in : GoodIn wsX1_log (va_wsS RX1 41 yX1_in wsX1_in) := goodIn_app (goodIn_of _ (by decide +kernel)) ggX1_log_X1_in
set_option maxRecDepth 20000 in
theorem ggX1_log_X1_refused : GoodIn wsX1_log wsX1_refused := goodIn_r _ [11, 12, 13, 14, 15, 16, 17, 18, 19, 20, 21, 22, 23, 24, 25, 26] (by decide +kernel) (by decide +kernel)
set_option maxRecDepth 20000 in
theorem gX1_log_X1_refused : GoodIn wsX1_log (wsV RX1 61 RX1 yX1_refused wsX1_refused) := goodIn_app (goodIn_of _ (by decide +kernel)) ggX1_log_X1_refused
theorem dX1_log_0 : decode cX1_log 0 = .ok (.aload_n 0, 1) := by decide +kernel
theorem dX1_log_1 : decode cX1_log 1 = .ok (.iload_n 1, 1) := by decide +kernel
theorem dX1_log_2 : decode cX1_log 2 = .ok (.iconst 0, 1) := by decide +kernel
theorem dX1_log_3 : decode cX1_log 3 = .ok (.iconst 2, 1) := by decide +kernel
theorem dX1_log_4 : decode cX1_log 4 = .ok (.invokestatic 41, 3) := by decide +kernel
theorem dX1_log_7 : decode cX1_log 7 = .ok (.ifCond .ne 7, 3) := by decide +kernel
theorem dX1_log_10 : decode cX1_log 10 = .ok (.iconst 1, 1) := by decide +kernel
theorem dX1_log_11 : decode cX1_log 11 = .ok (.goto 4, 3) := by decide +kernel
theorem dX1_log_14 : decode cX1_log 14 = .ok (.iconst 0, 1) := by decide +kernel
theorem dX1_log_15 : decode cX1_log 15 = .ok (.iconst 0, 1) := by decide +kernel
theorem dX1_log_16 : decode cX1_log 16 = .ok (.invokevirtual 61, 3) := by decide +kernel
theorem dX1_log_19 : decode cX1_log 19 = .ok (.ifCond .eq 5, 3) := by decide +kernel
theorem dX1_log_22 : decode cX1_log 22 = .ok (.iconst 0, 1) := by decide +kernel
theorem dX1_log_23 : decode cX1_log 23 = .ok (.ireturn, 1) := by decide +kernel
theorem dX1_log_24 : decode cX1_log 24 = .ok (.iload_n 1, 1) := by decide +kernel
theorem dX1_log_25 : decode cX1_log 25 = .ok (.ifCond .ne 10, 3) := by decide +kernel
theorem dX1_log_28 : decode cX1_log 28 = .ok (.aload_n 0, 1) := by decide +kernel
theorem dX1_log_29 : decode cX1_log 29 = .ok (.getfield 35, 3) := by decide +kernel
theorem dX1_log_32 : decode cX1_log 32 = .ok (.goto 19, 3) := by decide +kernel
theorem dX1_log_35 : decode cX1_log 35 = .ok (.iload_n 1, 1) := by decide +kernel
theorem dX1_log_36 : decode cX1_log 36 = .ok (.iconst 1, 1) := by decide +kernel
theorem dX1_log_37 : decode cX1_log 37 = .ok (.if_icmp .ne 10, 3) := by decide +kernel
theorem dX1_log_40 : decode cX1_log 40 = .ok (.aload_n 0, 1) := by decide +kernel
theorem dX1_log_41 : decode cX1_log 41 = .ok (.getfield 49, 3) := by decide +kernel
theorem dX1_log_44 : decode cX1_log 44 = .ok (.goto 7, 3) := by decide +kernel
theorem dX1_log_47 : decode cX1_log 47 = .ok (.aload_n 0, 1) := by decide +kernel
theorem dX1_log_48 : decode cX1_log 48 = .ok (.getfield 52, 3) := by decide +kernel
theorem dX1_log_51 : decode cX1_log 51 = .ok (.ireturn, 1) := by decide +kernel
set_option maxRecDepth 20000 in
theorem ggX1_setRoot_X1_in : GoodIn wsX1_setRoot wsX1_in := goodIn_r _ [6] (by decide +kernel) (by decide +kernel)
set_option maxRecDepth 20000 in
theorem gX1_setRoot_X1_in : GoodIn wsX1_setRoot (va_wsS RX1 41 yX1_in wsX1_in) := goodIn_app (goodIn_of _ (by decide +kernel)) ggX1_setRoot_X1_in
set_option maxRecDepth 20000 in
theorem ggX1_setRoot_X1_refused : GoodIn wsX1_setRoot wsX1_refused := goodIn_r _ [10, 11, 25, 26, 27, 28, 29, 30, 31, 32, 33, 34, 35, 36, 37, 38] (by decide +kernel) (by decide +kernel)
set_option maxRecDepth 20000 in
theorem gX1_setRoot_X1_refused : GoodIn wsX1_setRoot (wsV RX1 61 RX1 yX1_refused wsX1_refused) := goodIn_app (goodIn_of _ (by decide +kernel)) ggX1_setRoot_X1_refused
set_option maxRecDepth 20000 in
theorem ggX1_setRoot_X1_canWrite : GoodIn wsX1_setRoot wsX1_canWrite := goodIn_r _ [15, 16, 17, 18, 19, 20, 5, 21, 1, 22, 23, 24, 25, 26, 27, 28, 29, 30, 31, 32, 33, 34, 35, 36, 37, 38] (by decide +kernel) (by decide +kernel)
set_option maxRecDepth 20000 in
theorem gX1_setRoot_X1_canWrite : GoodIn wsX1_setRoot (wsV RX1 72 RX1 yX1_canWrite wsX1_canWrite) := goodIn_app (goodIn_of _ (by decide +kernel)) ggX1_setRoot_X1_canWrite
theorem dX1_setRoot_0 : decode cX1_setRoot 0 = .ok (.aload_n 0, 1) := by decide +kernel
theorem dX1_setRoot_1 : decode cX1_setRoot 1 = .ok (.aload_n 0, 1) := by decide +kernel
theorem dX1_setRoot_2 : decode cX1_setRoot 2 = .ok (.getfield 45, 3) := by decide +kernel
theorem dX1_setRoot_5 : decode cX1_setRoot 5 = .ok (.iload_n 1, 1) := by decide +kernel
theorem dX1_setRoot_6 : decode cX1_setRoot 6 = .ok (.iconst 0, 1) := by decide +kernel
theorem dX1_setRoot_7 : decode cX1_setRoot 7 = .ok (.iconst 3, 1) := by decide +kernel
theorem dX1_setRoot_8 : decode cX1_setRoot 8 = .ok (.invokestatic 41, 3) := by decide +kernel
theorem dX1_setRoot_11 : decode cX1_setRoot 11 = .ok (.ifCond .ne 7, 3) := by decide +kernel
theorem dX1_setRoot_14 : decode cX1_setRoot 14 = .ok (.iconst 1, 1) := by decide +kernel
theorem dX1_setRoot_15 : decode cX1_setRoot 15 = .ok (.goto 4, 3) := by decide +kernel
theorem dX1_setRoot_18 : decode cX1_setRoot 18 = .ok (.iconst 0, 1) := by decide +kernel
theorem dX1_setRoot_19 : decode cX1_setRoot 19 = .ok (.invokevirtual 61, 3) := by decide +kernel
theorem dX1_setRoot_22 : decode cX1_setRoot 22 = .ok (.ifCond .ne 10, 3) := by decide +kernel
theorem dX1_setRoot_25 : decode cX1_setRoot 25 = .ok (.aload_n 0, 1) := by decide +kernel
theorem dX1_setRoot_26 : decode cX1_setRoot 26 = .ok (.invokevirtual 72, 3) := by decide +kernel
theorem dX1_setRoot_29 : decode cX1_setRoot 29 = .ok (.ifCond .ne 5, 3) := by decide +kernel
theorem dX1_setRoot_32 : decode cX1_setRoot 32 = .ok (.iconst 0, 1) := by decide +kernel
theorem dX1_setRoot_33 : decode cX1_setRoot 33 = .ok (.ireturn, 1) := by decide +kernel
theorem dX1_setRoot_34 : decode cX1_setRoot 34 = .ok (.aload_n 0, 1) := by decide +kernel
theorem dX1_setRoot_35 : decode cX1_setRoot 35 = .ok (.getfield 25, 3) := by decide +kernel
theorem dX1_setRoot_38 : decode cX1_setRoot 38 = .ok (.iload_n 1, 1) := by decide +kernel
theorem dX1_setRoot_39 : decode cX1_setRoot 39 = .ok (.iload_n 2, 1) := by decide +kernel
theorem dX1_setRoot_40 : decode cX1_setRoot 40 = .ok (.iastore, 1) := by decide +kernel
theorem dX1_setRoot_41 : decode cX1_setRoot 41 = .ok (.iconst 1, 1) := by decide +kernel
theorem dX1_setRoot_42 : decode cX1_setRoot 42 = .ok (.ireturn, 1) := by decide +kernel
set_option maxRecDepth 20000 in
theorem ggX1_root_X1_in : GoodIn wsX1_root wsX1_in := goodIn_r _ [5] (by decide +kernel) (by decide +kernel)
set_option maxRecDepth 20000 in
theorem gX1_root_X1_in : GoodIn wsX1_root (va_wsS RX1 41 yX1_in wsX1_in) := goodIn_app (goodIn_of _ (by decide +kernel)) ggX1_root_X1_in
set_option maxRecDepth 20000 in
theorem ggX1_root_X1_refused : GoodIn wsX1_root wsX1_refused := goodIn_r _ [9, 10, 11, 12, 13, 14, 15, 16, 17, 18, 19, 20, 21, 22, 23, 24] (by decide +kernel) (by decide +kernel)
set_option maxRecDepth 20000 in
theorem gX1_root_X1_refused : GoodIn wsX1_root (wsV RX1 61 RX1 yX1_refused wsX1_refused) := goodIn_app (goodIn_of _ (by decide +kernel)) ggX1_root_X1_refused
theorem dX1_root_0 : decode cX1_root 0 = .ok (.aload_n 0, 1) := by decide +kernel
theorem dX1_root_1 : decode cX1_root 1 = .ok (.iload_n 1, 1) := by decide +kernel
theorem dX1_root_2 : decode cX1_root 2 = .ok (.iconst 0, 1) := by decide +kernel
theorem dX1_root_3 : decode cX1_root 3 = .ok (.iconst 3, 1) := by decide +kernel
theorem dX1_root_4 : decode cX1_root 4 = .ok (.invokestatic 41, 3) := by decide +kernel
theorem dX1_root_7 : decode cX1_root 7 = .ok (.ifCond .ne 7, 3) := by decide +kernel
theorem dX1_root_10 : decode cX1_root 10 = .ok (.iconst 1, 1) := by decide +kernel
theorem dX1_root_11 : decode cX1_root 11 = .ok (.goto 4, 3) := by decide +kernel
theorem dX1_root_14 : decode cX1_root 14 = .ok (.iconst 0, 1) := by decide +kernel
theorem dX1_root_15 : decode cX1_root 15 = .ok (.iconst 0, 1) := by decide +kernel
theorem dX1_root_16 : decode cX1_root 16 = .ok (.invokevirtual 61, 3) := by decide +kernel
theorem dX1_root_19 : decode cX1_root 19 = .ok (.ifCond .eq 7, 3) := by decide +kernel
theorem dX1_root_22 : decode cX1_root 22 = .ok (.iconst 0, 1) := by decide +kernel
theorem dX1_root_23 : decode cX1_root 23 = .ok (.goto 9, 3) := by decide +kernel
theorem dX1_root_26 : decode cX1_root 26 = .ok (.aload_n 0, 1) := by decide +kernel
theorem dX1_root_27 : decode cX1_root 27 = .ok (.getfield 25, 3) := by decide +kernel
theorem dX1_root_30 : decode cX1_root 30 = .ok (.iload_n 1, 1) := by decide +kernel
theorem dX1_root_31 : decode cX1_root 31 = .ok (.iaload, 1) := by decide +kernel
theorem dX1_root_32 : decode cX1_root 32 = .ok (.ireturn, 1) := by decide +kernel
set_option maxRecDepth 20000 in
theorem ggX1_lose_X1_isPage : GoodIn wsX1_lose wsX1_isPage := goodIn_r _ [5, 6, 7, 4, 8] (by decide +kernel) (by decide +kernel)
set_option maxRecDepth 20000 in
theorem gX1_lose_X1_isPage : GoodIn wsX1_lose (va_wsS RX1 76 yX1_isPage wsX1_isPage) := goodIn_app (goodIn_of _ (by decide +kernel)) ggX1_lose_X1_isPage
set_option maxRecDepth 20000 in
theorem ggX1_lose_X1_refused : GoodIn wsX1_lose wsX1_refused := goodIn_r _ [12, 13, 17, 18, 19, 20, 21, 22, 23, 24, 25, 26, 27, 28, 29, 30] (by decide +kernel) (by decide +kernel)
set_option maxRecDepth 20000 in
theorem gX1_lose_X1_refused : GoodIn wsX1_lose (wsV RX1 61 RX1 yX1_refused wsX1_refused) := goodIn_app (goodIn_of _ (by decide +kernel)) ggX1_lose_X1_refused
set_option maxRecDepth 20000 in
theorem ggX1_lose_X1_place : GoodIn wsX1_lose wsX1_place := goodIn_r _ [16] (by decide +kernel) (by decide +kernel)
set_option maxRecDepth 20000 in
theorem gX1_lose_X1_place : GoodIn wsX1_lose (va_wsS RX1 80 yX1_place wsX1_place) := goodIn_app (goodIn_of _ (by decide +kernel)) ggX1_lose_X1_place
theorem dX1_lose_0 : decode cX1_lose 0 = .ok (.aload_n 0, 1) := by decide +kernel
theorem dX1_lose_1 : decode cX1_lose 1 = .ok (.iload_n 1, 1) := by decide +kernel
theorem dX1_lose_2 : decode cX1_lose 2 = .ok (.iload_n 2, 1) := by decide +kernel
theorem dX1_lose_3 : decode cX1_lose 3 = .ok (.invokestatic 76, 3) := by decide +kernel
theorem dX1_lose_6 : decode cX1_lose 6 = .ok (.ifCond .ne 7, 3) := by decide +kernel
theorem dX1_lose_9 : decode cX1_lose 9 = .ok (.iconst 1, 1) := by decide +kernel
theorem dX1_lose_10 : decode cX1_lose 10 = .ok (.goto 4, 3) := by decide +kernel
theorem dX1_lose_13 : decode cX1_lose 13 = .ok (.iconst 0, 1) := by decide +kernel
theorem dX1_lose_14 : decode cX1_lose 14 = .ok (.iconst 0, 1) := by decide +kernel
theorem dX1_lose_15 : decode cX1_lose 15 = .ok (.invokevirtual 61, 3) := by decide +kernel
theorem dX1_lose_18 : decode cX1_lose 18 = .ok (.ifCond .ne 14, 3) := by decide +kernel
theorem dX1_lose_21 : decode cX1_lose 21 = .ok (.aload_n 0, 1) := by decide +kernel
theorem dX1_lose_22 : decode cX1_lose 22 = .ok (.getfield 17, 3) := by decide +kernel
theorem dX1_lose_25 : decode cX1_lose 25 = .ok (.iload_n 1, 1) := by decide +kernel
theorem dX1_lose_26 : decode cX1_lose 26 = .ok (.iload_n 2, 1) := by decide +kernel
theorem dX1_lose_27 : decode cX1_lose 27 = .ok (.invokestatic 80, 3) := by decide +kernel
theorem dX1_lose_30 : decode cX1_lose 30 = .ok (.iconst 1, 1) := by decide +kernel
theorem dX1_lose_31 : decode cX1_lose 31 = .ok (.bastore, 1) := by decide +kernel
theorem dX1_lose_32 : decode cX1_lose 32 = .ok (.return_, 1) := by decide +kernel
set_option maxRecDepth 20000 in
theorem ggX1_stamp_X1_isPage : GoodIn wsX1_stamp wsX1_isPage := goodIn_r _ [5, 6, 7, 4, 8] (by decide +kernel) (by decide +kernel)
set_option maxRecDepth 20000 in
theorem gX1_stamp_X1_isPage : GoodIn wsX1_stamp (va_wsS RX1 76 yX1_isPage wsX1_isPage) := goodIn_app (goodIn_of _ (by decide +kernel)) ggX1_stamp_X1_isPage
set_option maxRecDepth 20000 in
theorem ggX1_stamp_X1_in : GoodIn wsX1_stamp wsX1_in := goodIn_r _ [8] (by decide +kernel) (by decide +kernel)
set_option maxRecDepth 20000 in
theorem gX1_stamp_X1_in : GoodIn wsX1_stamp (va_wsS RX1 41 yX1_in wsX1_in) := goodIn_app (goodIn_of _ (by decide +kernel)) ggX1_stamp_X1_in
set_option maxRecDepth 20000 in
theorem ggX1_stamp_X1_refused : GoodIn wsX1_stamp wsX1_refused := goodIn_r _ [12, 13, 17, 18, 19, 20, 21, 22, 23, 24, 25, 26, 27, 28, 29, 30] (by decide +kernel) (by decide +kernel)
set_option maxRecDepth 20000 in
theorem gX1_stamp_X1_refused : GoodIn wsX1_stamp (wsV RX1 61 RX1 yX1_refused wsX1_refused) := goodIn_app (goodIn_of _ (by decide +kernel)) ggX1_stamp_X1_refused
set_option maxRecDepth 20000 in
theorem ggX1_stamp_X1_place : GoodIn wsX1_stamp wsX1_place := goodIn_r _ [16] (by decide +kernel) (by decide +kernel)
set_option maxRecDepth 20000 in
theorem gX1_stamp_X1_place : GoodIn wsX1_stamp (va_wsS RX1 80 yX1_place wsX1_place) := goodIn_app (goodIn_of _ (by decide +kernel)) ggX1_stamp_X1_place
theorem dX1_stamp_0 : decode cX1_stamp 0 = .ok (.aload_n 0, 1) := by decide +kernel
theorem dX1_stamp_1 : decode cX1_stamp 1 = .ok (.iload_n 1, 1) := by decide +kernel
theorem dX1_stamp_2 : decode cX1_stamp 2 = .ok (.iload_n 2, 1) := by decide +kernel
theorem dX1_stamp_3 : decode cX1_stamp 3 = .ok (.invokestatic 76, 3) := by decide +kernel
theorem dX1_stamp_6 : decode cX1_stamp 6 = .ok (.ifCond .eq 12, 3) := by decide +kernel
theorem dX1_stamp_9 : decode cX1_stamp 9 = .ok (.iload_n 3, 1) := by decide +kernel
theorem dX1_stamp_10 : decode cX1_stamp 10 = .ok (.iconst 0, 1) := by decide +kernel
theorem dX1_stamp_11 : decode cX1_stamp 11 = .ok (.iconst 1, 1) := by decide +kernel
theorem dX1_stamp_12 : decode cX1_stamp 12 = .ok (.invokestatic 41, 3) := by decide +kernel
theorem dX1_stamp_15 : decode cX1_stamp 15 = .ok (.ifCond .ne 7, 3) := by decide +kernel
theorem dX1_stamp_18 : decode cX1_stamp 18 = .ok (.iconst 1, 1) := by decide +kernel
theorem dX1_stamp_19 : decode cX1_stamp 19 = .ok (.goto 4, 3) := by decide +kernel
theorem dX1_stamp_22 : decode cX1_stamp 22 = .ok (.iconst 0, 1) := by decide +kernel
theorem dX1_stamp_23 : decode cX1_stamp 23 = .ok (.iconst 0, 1) := by decide +kernel
theorem dX1_stamp_24 : decode cX1_stamp 24 = .ok (.invokevirtual 61, 3) := by decide +kernel
theorem dX1_stamp_27 : decode cX1_stamp 27 = .ok (.ifCond .eq 5, 3) := by decide +kernel
theorem dX1_stamp_30 : decode cX1_stamp 30 = .ok (.iconst 0, 1) := by decide +kernel
theorem dX1_stamp_31 : decode cX1_stamp 31 = .ok (.ireturn, 1) := by decide +kernel
theorem dX1_stamp_32 : decode cX1_stamp 32 = .ok (.aload_n 0, 1) := by decide +kernel
theorem dX1_stamp_33 : decode cX1_stamp 33 = .ok (.getfield 14, 3) := by decide +kernel
theorem dX1_stamp_36 : decode cX1_stamp 36 = .ok (.iconst 2, 1) := by decide +kernel
theorem dX1_stamp_37 : decode cX1_stamp 37 = .ok (.iload_n 1, 1) := by decide +kernel
theorem dX1_stamp_38 : decode cX1_stamp 38 = .ok (.iload_n 2, 1) := by decide +kernel
theorem dX1_stamp_39 : decode cX1_stamp 39 = .ok (.invokestatic 80, 3) := by decide +kernel
theorem dX1_stamp_42 : decode cX1_stamp 42 = .ok (.imul, 1) := by decide +kernel
theorem dX1_stamp_43 : decode cX1_stamp 43 = .ok (.iload_n 3, 1) := by decide +kernel
theorem dX1_stamp_44 : decode cX1_stamp 44 = .ok (.iadd, 1) := by decide +kernel
theorem dX1_stamp_45 : decode cX1_stamp 45 = .ok (.iaload, 1) := by decide +kernel
theorem dX1_stamp_46 : decode cX1_stamp 46 = .ok (.ireturn, 1) := by decide +kernel
set_option maxRecDepth 20000 in
theorem ggX1_count_X1_in : GoodIn wsX1_count wsX1_in := goodIn_r _ [4] (by decide +kernel) (by decide +kernel)
set_option maxRecDepth 20000 in
theorem gX1_count_X1_in : GoodIn wsX1_count (va_wsS RX1 41 yX1_in wsX1_in) := goodIn_app (goodIn_of _ (by decide +kernel)) ggX1_count_X1_in
set_option maxRecDepth 20000 in
theorem ggX1_count_X1_refused : GoodIn wsX1_count wsX1_refused := goodIn_r _ [8, 9, 23, 24, 25, 26, 27, 28, 29, 30, 31, 32, 33, 34, 35, 36] (by decide +kernel) (by decide +kernel)
set_option maxRecDepth 20000 in
theorem gX1_count_X1_refused : GoodIn wsX1_count (wsV RX1 61 RX1 yX1_refused wsX1_refused) := goodIn_app (goodIn_of _ (by decide +kernel)) ggX1_count_X1_refused
set_option maxRecDepth 20000 in
theorem ggX1_count_X1_place : GoodIn wsX1_count wsX1_place := goodIn_r _ [12] (by decide +kernel) (by decide +kernel)
set_option maxRecDepth 20000 in
theorem gX1_count_X1_place : GoodIn wsX1_count (va_wsS RX1 80 yX1_place wsX1_place) := goodIn_app (goodIn_of _ (by decide +kernel)) ggX1_count_X1_place
set_option maxRecDepth 20000 in
theorem ggX1_count_X1_stateOf : GoodIn wsX1_count wsX1_stateOf := goodIn_r _ [16, 17, 18, 19, 20, 3, 21, 22, 23, 24, 25, 26, 27, 28, 29, 30, 31, 32, 33, 34, 35, 36] (by decide +kernel) (by decide +kernel)
set_option maxRecDepth 20000 in
theorem gX1_count_X1_stateOf : GoodIn wsX1_count (wsV RX1 88 RX1 yX1_stateOf wsX1_stateOf) := goodIn_app (goodIn_of _ (by decide +kernel)) ggX1_count_X1_stateOf
theorem dX1_count_0 : decode cX1_count 0 = .ok (.aload_n 0, 1) := by decide +kernel
theorem dX1_count_1 : decode cX1_count 1 = .ok (.iload_n 1, 1) := by decide +kernel
theorem dX1_count_2 : decode cX1_count 2 = .ok (.iconst 0, 1) := by decide +kernel
theorem dX1_count_3 : decode cX1_count 3 = .ok (.iconst 1, 1) := by decide +kernel
theorem dX1_count_4 : decode cX1_count 4 = .ok (.invokestatic 41, 3) := by decide +kernel
theorem dX1_count_7 : decode cX1_count 7 = .ok (.ifCond .eq 12, 3) := by decide +kernel
theorem dX1_count_10 : decode cX1_count 10 = .ok (.iload_n 2, 1) := by decide +kernel
theorem dX1_count_11 : decode cX1_count 11 = .ok (.iconst 0, 1) := by decide +kernel
theorem dX1_count_12 : decode cX1_count 12 = .ok (.iconst 2, 1) := by decide +kernel
theorem dX1_count_13 : decode cX1_count 13 = .ok (.invokestatic 41, 3) := by decide +kernel
theorem dX1_count_16 : decode cX1_count 16 = .ok (.ifCond .ne 7, 3) := by decide +kernel
theorem dX1_count_19 : decode cX1_count 19 = .ok (.iconst 1, 1) := by decide +kernel
theorem dX1_count_20 : decode cX1_count 20 = .ok (.goto 4, 3) := by decide +kernel
theorem dX1_count_23 : decode cX1_count 23 = .ok (.iconst 0, 1) := by decide +kernel
theorem dX1_count_24 : decode cX1_count 24 = .ok (.iconst 0, 1) := by decide +kernel
theorem dX1_count_25 : decode cX1_count 25 = .ok (.invokevirtual 61, 3) := by decide +kernel
theorem dX1_count_28 : decode cX1_count 28 = .ok (.ifCond .eq 5, 3) := by decide +kernel
theorem dX1_count_31 : decode cX1_count 31 = .ok (.iconst 0, 1) := by decide +kernel
theorem dX1_count_32 : decode cX1_count 32 = .ok (.ireturn, 1) := by decide +kernel
theorem dX1_count_33 : decode cX1_count 33 = .ok (.iconst 0, 1) := by decide +kernel
theorem dX1_count_34 : decode cX1_count 34 = .ok (.istore_n 3, 1) := by decide +kernel
theorem dX1_count_35 : decode cX1_count 35 = .ok (.iconst 0, 1) := by decide +kernel
theorem dX1_count_36 : decode cX1_count 36 = .ok (.istore 4, 2) := by decide +kernel
theorem dX1_count_38 : decode cX1_count 38 = .ok (.iload 4, 2) := by decide +kernel
theorem dX1_count_40 : decode cX1_count 40 = .ok (.sipush 256, 3) := by decide +kernel
theorem dX1_count_43 : decode cX1_count 43 = .ok (.if_icmp .ge 31, 3) := by decide +kernel
theorem dX1_count_46 : decode cX1_count 46 = .ok (.aload_n 0, 1) := by decide +kernel
theorem dX1_count_47 : decode cX1_count 47 = .ok (.iload_n 1, 1) := by decide +kernel
theorem dX1_count_48 : decode cX1_count 48 = .ok (.iload 4, 2) := by decide +kernel
theorem dX1_count_50 : decode cX1_count 50 = .ok (.invokestatic 80, 3) := by decide +kernel
theorem dX1_count_53 : decode cX1_count 53 = .ok (.invokevirtual 88, 3) := by decide +kernel
theorem dX1_count_56 : decode cX1_count 56 = .ok (.iload_n 2, 1) := by decide +kernel
theorem dX1_count_57 : decode cX1_count 57 = .ok (.if_icmp .ne 9, 3) := by decide +kernel
theorem dX1_count_60 : decode cX1_count 60 = .ok (.iload_n 3, 1) := by decide +kernel
theorem dX1_count_61 : decode cX1_count 61 = .ok (.iconst 1, 1) := by decide +kernel
theorem dX1_count_62 : decode cX1_count 62 = .ok (.iadd, 1) := by decide +kernel
theorem dX1_count_63 : decode cX1_count 63 = .ok (.goto 4, 3) := by decide +kernel
theorem dX1_count_66 : decode cX1_count 66 = .ok (.iload_n 3, 1) := by decide +kernel
theorem dX1_count_67 : decode cX1_count 67 = .ok (.istore_n 3, 1) := by decide +kernel
theorem dX1_count_68 : decode cX1_count 68 = .ok (.iinc 4 1, 3) := by decide +kernel
theorem dX1_count_71 : decode cX1_count 71 = .ok (.goto (-33), 3) := by decide +kernel
theorem dX1_count_74 : decode cX1_count 74 = .ok (.iload_n 3, 1) := by decide +kernel
theorem dX1_count_75 : decode cX1_count 75 = .ok (.ireturn, 1) := by decide +kernel
theorem dX1_writes_0 : decode cX1_writes 0 = .ok (.aload_n 0, 1) := by decide +kernel
theorem dX1_writes_1 : decode cX1_writes 1 = .ok (.iconst 0, 1) := by decide +kernel
theorem dX1_writes_2 : decode cX1_writes 2 = .ok (.putfield 38, 3) := by decide +kernel
theorem dX1_writes_5 : decode cX1_writes 5 = .ok (.aload_n 0, 1) := by decide +kernel
theorem dX1_writes_6 : decode cX1_writes 6 = .ok (.getfield 58, 3) := by decide +kernel
theorem dX1_writes_9 : decode cX1_writes 9 = .ok (.ireturn, 1) := by decide +kernel
set_option maxRecDepth 20000 in
theorem ggX1_cutAfter_X1_refused : GoodIn wsX1_cutAfter wsX1_refused := goodIn_r _ [6, 7, 8, 9, 10, 11, 12, 13, 14, 15, 16, 17, 18, 19, 20, 21] (by decide +kernel) (by decide +kernel)
set_option maxRecDepth 20000 in
theorem gX1_cutAfter_X1_refused : GoodIn wsX1_cutAfter (wsV RX1 61 RX1 yX1_refused wsX1_refused) := goodIn_app (goodIn_of _ (by decide +kernel)) ggX1_cutAfter_X1_refused
theorem dX1_cutAfter_0 : decode cX1_cutAfter 0 = .ok (.aload_n 0, 1) := by decide +kernel
theorem dX1_cutAfter_1 : decode cX1_cutAfter 1 = .ok (.iload_n 1, 1) := by decide +kernel
theorem dX1_cutAfter_2 : decode cX1_cutAfter 2 = .ok (.iconst (-1), 1) := by decide +kernel
theorem dX1_cutAfter_3 : decode cX1_cutAfter 3 = .ok (.if_icmp .ge 7, 3) := by decide +kernel
theorem dX1_cutAfter_6 : decode cX1_cutAfter 6 = .ok (.iconst 1, 1) := by decide +kernel
theorem dX1_cutAfter_7 : decode cX1_cutAfter 7 = .ok (.goto 4, 3) := by decide +kernel
theorem dX1_cutAfter_10 : decode cX1_cutAfter 10 = .ok (.iconst 0, 1) := by decide +kernel
theorem dX1_cutAfter_11 : decode cX1_cutAfter 11 = .ok (.iconst 0, 1) := by decide +kernel
theorem dX1_cutAfter_12 : decode cX1_cutAfter 12 = .ok (.invokevirtual 61, 3) := by decide +kernel
theorem dX1_cutAfter_15 : decode cX1_cutAfter 15 = .ok (.ifCond .ne 8, 3) := by decide +kernel
theorem dX1_cutAfter_18 : decode cX1_cutAfter 18 = .ok (.aload_n 0, 1) := by decide +kernel
theorem dX1_cutAfter_19 : decode cX1_cutAfter 19 = .ok (.iload_n 1, 1) := by decide +kernel
theorem dX1_cutAfter_20 : decode cX1_cutAfter 20 = .ok (.putfield 31, 3) := by decide +kernel
theorem dX1_cutAfter_23 : decode cX1_cutAfter 23 = .ok (.return_, 1) := by decide +kernel
set_option maxRecDepth 20000 in
theorem ggX1_cut_X1_fail : GoodIn wsX1_cut wsX1_fail := goodIn_r _ [7, 2, 8, 9, 10, 11, 12, 13, 14, 15, 16, 17, 18, 19, 20, 21, 22, 23, 24] (by decide +kernel) (by decide +kernel)
set_option maxRecDepth 20000 in
theorem gX1_cut_X1_fail : GoodIn wsX1_cut (wsV RX1 55 RX1 yX1_fail wsX1_fail) := goodIn_app (goodIn_of _ (by decide +kernel)) ggX1_cut_X1_fail
theorem dX1_cut_0 : decode cX1_cut 0 = .ok (.aload_n 0, 1) := by decide +kernel
theorem dX1_cut_1 : decode cX1_cut 1 = .ok (.iconst 0, 1) := by decide +kernel
theorem dX1_cut_2 : decode cX1_cut 2 = .ok (.putfield 38, 3) := by decide +kernel
theorem dX1_cut_5 : decode cX1_cut 5 = .ok (.aload_n 0, 1) := by decide +kernel
theorem dX1_cut_6 : decode cX1_cut 6 = .ok (.getfield 45, 3) := by decide +kernel
theorem dX1_cut_9 : decode cX1_cut 9 = .ok (.ifCond .eq 5, 3) := by decide +kernel
theorem dX1_cut_12 : decode cX1_cut 12 = .ok (.iconst 0, 1) := by decide +kernel
theorem dX1_cut_13 : decode cX1_cut 13 = .ok (.ireturn, 1) := by decide +kernel
theorem dX1_cut_14 : decode cX1_cut 14 = .ok (.aload_n 0, 1) := by decide +kernel
theorem dX1_cut_15 : decode cX1_cut 15 = .ok (.invokevirtual 55, 3) := by decide +kernel
theorem dX1_cut_18 : decode cX1_cut 18 = .ok (.iconst 1, 1) := by decide +kernel
theorem dX1_cut_19 : decode cX1_cut 19 = .ok (.ireturn, 1) := by decide +kernel
theorem dX1_start_0 : decode cX1_start 0 = .ok (.aload_n 0, 1) := by decide +kernel
theorem dX1_start_1 : decode cX1_start 1 = .ok (.iconst 0, 1) := by decide +kernel
theorem dX1_start_2 : decode cX1_start 2 = .ok (.putfield 38, 3) := by decide +kernel
theorem dX1_start_5 : decode cX1_start 5 = .ok (.aload_n 0, 1) := by decide +kernel
theorem dX1_start_6 : decode cX1_start 6 = .ok (.getfield 45, 3) := by decide +kernel
theorem dX1_start_9 : decode cX1_start 9 = .ok (.ifCond .ne 5, 3) := by decide +kernel
theorem dX1_start_12 : decode cX1_start 12 = .ok (.iconst 0, 1) := by decide +kernel
theorem dX1_start_13 : decode cX1_start 13 = .ok (.ireturn, 1) := by decide +kernel
theorem dX1_start_14 : decode cX1_start 14 = .ok (.aload_n 0, 1) := by decide +kernel
theorem dX1_start_15 : decode cX1_start 15 = .ok (.iconst 0, 1) := by decide +kernel
theorem dX1_start_16 : decode cX1_start 16 = .ok (.putfield 45, 3) := by decide +kernel
theorem dX1_start_19 : decode cX1_start 19 = .ok (.aload_n 0, 1) := by decide +kernel
theorem dX1_start_20 : decode cX1_start 20 = .ok (.iconst (-1), 1) := by decide +kernel
theorem dX1_start_21 : decode cX1_start 21 = .ok (.putfield 31, 3) := by decide +kernel
theorem dX1_start_24 : decode cX1_start 24 = .ok (.iconst 1, 1) := by decide +kernel
theorem dX1_start_25 : decode cX1_start 25 = .ok (.ireturn, 1) := by decide +kernel
theorem dX1_isOn_0 : decode cX1_isOn 0 = .ok (.aload_n 0, 1) := by decide +kernel
theorem dX1_isOn_1 : decode cX1_isOn 1 = .ok (.iconst 0, 1) := by decide +kernel
theorem dX1_isOn_2 : decode cX1_isOn 2 = .ok (.putfield 38, 3) := by decide +kernel
theorem dX1_isOn_5 : decode cX1_isOn 5 = .ok (.aload_n 0, 1) := by decide +kernel
theorem dX1_isOn_6 : decode cX1_isOn 6 = .ok (.getfield 45, 3) := by decide +kernel
theorem dX1_isOn_9 : decode cX1_isOn 9 = .ok (.ifCond .ne 7, 3) := by decide +kernel
theorem dX1_isOn_12 : decode cX1_isOn 12 = .ok (.iconst 1, 1) := by decide +kernel
theorem dX1_isOn_13 : decode cX1_isOn 13 = .ok (.goto 4, 3) := by decide +kernel
theorem dX1_isOn_16 : decode cX1_isOn 16 = .ok (.iconst 0, 1) := by decide +kernel
theorem dX1_isOn_17 : decode cX1_isOn 17 = .ok (.ireturn, 1) := by decide +kernel
theorem dJ7_fill_53178_0 : decode cJ7_fill_53178 0 = .ok (.iconst 0, 1) := by decide +kernel
theorem dJ7_fill_53178_1 : decode cJ7_fill_53178 1 = .ok (.istore_n 2, 1) := by decide +kernel
theorem dJ7_fill_53178_2 : decode cJ7_fill_53178 2 = .ok (.aload_n 0, 1) := by decide +kernel
theorem dJ7_fill_53178_3 : decode cJ7_fill_53178 3 = .ok (.arraylength, 1) := by decide +kernel
theorem dJ7_fill_53178_4 : decode cJ7_fill_53178 4 = .ok (.istore_n 3, 1) := by decide +kernel
theorem dJ7_fill_53178_5 : decode cJ7_fill_53178 5 = .ok (.iload_n 2, 1) := by decide +kernel
theorem dJ7_fill_53178_6 : decode cJ7_fill_53178 6 = .ok (.iload_n 3, 1) := by decide +kernel
theorem dJ7_fill_53178_7 : decode cJ7_fill_53178 7 = .ok (.if_icmp .ge 13, 3) := by decide +kernel
theorem dJ7_fill_53178_10 : decode cJ7_fill_53178 10 = .ok (.aload_n 0, 1) := by decide +kernel
theorem dJ7_fill_53178_11 : decode cJ7_fill_53178 11 = .ok (.iload_n 2, 1) := by decide +kernel
theorem dJ7_fill_53178_12 : decode cJ7_fill_53178 12 = .ok (.iload_n 1, 1) := by decide +kernel
theorem dJ7_fill_53178_13 : decode cJ7_fill_53178 13 = .ok (.iastore, 1) := by decide +kernel
theorem dJ7_fill_53178_14 : decode cJ7_fill_53178 14 = .ok (.iinc 2 1, 3) := by decide +kernel
theorem dJ7_fill_53178_17 : decode cJ7_fill_53178 17 = .ok (.goto (-12), 3) := by decide +kernel
theorem dJ7_fill_53178_20 : decode cJ7_fill_53178 20 = .ok (.return_, 1) := by decide +kernel
end
section
set_option maxRecDepth 20000 in
theorem ggL_set_X0_set : GoodIn wsL_set wsX0_set := goodIn_ca (goodIn_ca (goodIn_r _ [7, 8, 9, 10, 11, 6, 12, 13, 14, 15, 16, 17, 18, 19, 20, 21, 22, 23, 24, 25, 26, 27, 28, 29, 30, 31, 32, 33] (by decide +kernel) (by decide +kernel)) (goodIn_sub (fun _ h => List.mem_cons_of_mem _ (List.mem_append_left _ (List.mem_append_right _ h))) (by decide +kernel))) (goodIn_sub (fun _ h => List.mem_cons_of_mem _ (List.mem_append_right _ h)) (by decide +kernel))
set_option maxRecDepth 20000 in
theorem gL_set_X0_set : GoodIn wsL_set (wsV RL 7 RX0 yX0_set wsX0_set) := goodIn_app (goodIn_of _ (by decide +kernel)) ggL_set_X0_set
theorem dL_set_0 : decode cL_set 0 = .ok (.aload_n 0, 1) := by decide +kernel
theorem dL_set_1 : decode cL_set 1 = .ok (.iload_n 1, 1) := by decide +kernel
theorem dL_set_2 : decode cL_set 2 = .ok (.iload_n 2, 1) := by decide +kernel
theorem dL_set_3 : decode cL_set 3 = .ok (.invokevirtual 7, 3) := by decide +kernel
theorem dL_set_6 : decode cL_set 6 = .ok (.goto 9, 3) := by decide +kernel
theorem dL_set_9 : decode cL_set 9 = .ok (.astore_n 3, 1) := by decide +kernel
theorem dL_set_10 : decode cL_set 10 = .ok (.iconst 1, 1) := by decide +kernel
theorem dL_set_11 : decode cL_set 11 = .ok (.ireturn, 1) := by decide +kernel
theorem dL_set_12 : decode cL_set 12 = .ok (.astore_n 3, 1) := by decide +kernel
theorem dL_set_13 : decode cL_set 13 = .ok (.iconst 2, 1) := by decide +kernel
theorem dL_set_14 : decode cL_set 14 = .ok (.ireturn, 1) := by decide +kernel
theorem dL_set_15 : decode cL_set 15 = .ok (.iconst 0, 1) := by decide +kernel
theorem dL_set_16 : decode cL_set 16 = .ok (.ireturn, 1) := by decide +kernel
set_option maxRecDepth 20000 in
theorem ggL_fill_X0_fill : GoodIn wsL_fill wsX0_fill := goodIn_ca (goodIn_r _ [6, 7, 8, 9, 10, 5, 11, 12, 13, 14, 15, 16, 17, 18, 19, 20, 21, 22, 23, 24, 25, 26, 27] (by decide +kernel) (by decide +kernel)) (goodIn_sub (fun _ h => List.mem_cons_of_mem _ (List.mem_append_right _ h)) (by decide +kernel))
set_option maxRecDepth 20000 in
theorem gL_fill_X0_fill : GoodIn wsL_fill (wsV RL 17 RX0 yX0_fill wsX0_fill) := goodIn_app (goodIn_of _ (by decide +kernel)) ggL_fill_X0_fill
theorem dL_fill_0 : decode cL_fill 0 = .ok (.aload_n 0, 1) := by decide +kernel
theorem dL_fill_1 : decode cL_fill 1 = .ok (.iload_n 1, 1) := by decide +kernel
theorem dL_fill_2 : decode cL_fill 2 = .ok (.iload_n 2, 1) := by decide +kernel
theorem dL_fill_3 : decode cL_fill 3 = .ok (.invokevirtual 17, 3) := by decide +kernel
theorem dL_fill_6 : decode cL_fill 6 = .ok (.goto 6, 3) := by decide +kernel
theorem dL_fill_9 : decode cL_fill 9 = .ok (.astore_n 3, 1) := by decide +kernel
theorem dL_fill_10 : decode cL_fill 10 = .ok (.iconst 1, 1) := by decide +kernel
theorem dL_fill_11 : decode cL_fill 11 = .ok (.ireturn, 1) := by decide +kernel
theorem dL_fill_12 : decode cL_fill 12 = .ok (.iconst 0, 1) := by decide +kernel
theorem dL_fill_13 : decode cL_fill 13 = .ok (.ireturn, 1) := by decide +kernel
set_option maxRecDepth 20000 in
theorem ggL_get_X0_get : GoodIn wsL_get wsX0_get := goodIn_ca (goodIn_r _ [6, 7, 8, 9, 5, 10, 11, 12, 13, 14, 15, 16, 17, 18, 19, 20, 21, 22, 23, 24, 25] (by decide +kernel) (by decide +kernel)) (goodIn_sub (fun _ h => List.mem_cons_of_mem _ (List.mem_append_right _ h)) (by decide +kernel))
set_option maxRecDepth 20000 in
theorem gL_get_X0_get : GoodIn wsL_get (wsV RL 20 RX0 yX0_get wsX0_get) := goodIn_app (goodIn_of _ (by decide +kernel)) ggL_get_X0_get
theorem dL_get_0 : decode cL_get 0 = .ok (.aload_n 2, 1) := by decide +kernel
theorem dL_get_1 : decode cL_get 1 = .ok (.iconst 0, 1) := by decide +kernel
theorem dL_get_2 : decode cL_get 2 = .ok (.aload_n 0, 1) := by decide +kernel
theorem dL_get_3 : decode cL_get 3 = .ok (.iload_n 1, 1) := by decide +kernel
theorem dL_get_4 : decode cL_get 4 = .ok (.invokevirtual 20, 3) := by decide +kernel
theorem dL_get_7 : decode cL_get 7 = .ok (.i2l, 1) := by decide +kernel
theorem dL_get_8 : decode cL_get 8 = .ok (.lastore, 1) := by decide +kernel
theorem dL_get_9 : decode cL_get 9 = .ok (.goto 6, 3) := by decide +kernel
theorem dL_get_12 : decode cL_get 12 = .ok (.astore_n 3, 1) := by decide +kernel
theorem dL_get_13 : decode cL_get 13 = .ok (.iconst 1, 1) := by decide +kernel
theorem dL_get_14 : decode cL_get 14 = .ok (.ireturn, 1) := by decide +kernel
theorem dL_get_15 : decode cL_get 15 = .ok (.iconst 0, 1) := by decide +kernel
theorem dL_get_16 : decode cL_get 16 = .ok (.ireturn, 1) := by decide +kernel
set_option maxRecDepth 20000 in
theorem ggL_write_X0_write : GoodIn wsL_write wsX0_write := goodIn_ca (goodIn_ca (goodIn_r _ [7, 8, 9, 10, 11, 6, 12, 13, 14, 15, 16, 17, 18, 19, 20, 21, 22, 23, 24, 25, 26, 27, 28, 29, 30, 31, 32, 33, 34, 35, 36, 37, 38, 39, 40, 41, 42, 43, 44, 45, 46, 47, 48, 49, 50, 51, 52, 53, 54, 55, 56, 57, 58, 59, 60, 61, 62, 63, 64, 65, 66, 67, 68] (by decide +kernel) (by decide +kernel)) (goodIn_sub (fun _ h => List.mem_cons_of_mem _ (List.mem_append_left _ (List.mem_append_right _ h))) (by decide +kernel))) (goodIn_sub (fun _ h => List.mem_cons_of_mem _ (List.mem_append_right _ h)) (by decide +kernel))
set_option maxRecDepth 20000 in
theorem gL_write_X0_write : GoodIn wsL_write (wsV RL 24 RX0 yX0_write wsX0_write) := goodIn_app (goodIn_of _ (by decide +kernel)) ggL_write_X0_write
theorem dL_write_0 : decode cL_write 0 = .ok (.aload_n 3, 1) := by decide +kernel
theorem dL_write_1 : decode cL_write 1 = .ok (.iconst 0, 1) := by decide +kernel
theorem dL_write_2 : decode cL_write 2 = .ok (.aload_n 0, 1) := by decide +kernel
theorem dL_write_3 : decode cL_write 3 = .ok (.iload_n 1, 1) := by decide +kernel
theorem dL_write_4 : decode cL_write 4 = .ok (.iload_n 2, 1) := by decide +kernel
theorem dL_write_5 : decode cL_write 5 = .ok (.invokevirtual 24, 3) := by decide +kernel
theorem dL_write_8 : decode cL_write 8 = .ok (.i2l, 1) := by decide +kernel
theorem dL_write_9 : decode cL_write 9 = .ok (.lastore, 1) := by decide +kernel
theorem dL_write_10 : decode cL_write 10 = .ok (.goto 11, 3) := by decide +kernel
theorem dL_write_13 : decode cL_write 13 = .ok (.astore 4, 2) := by decide +kernel
theorem dL_write_15 : decode cL_write 15 = .ok (.iconst 1, 1) := by decide +kernel
theorem dL_write_16 : decode cL_write 16 = .ok (.ireturn, 1) := by decide +kernel
theorem dL_write_17 : decode cL_write 17 = .ok (.astore 4, 2) := by decide +kernel
theorem dL_write_19 : decode cL_write 19 = .ok (.iconst 2, 1) := by decide +kernel
theorem dL_write_20 : decode cL_write 20 = .ok (.ireturn, 1) := by decide +kernel
theorem dL_write_21 : decode cL_write 21 = .ok (.iconst 0, 1) := by decide +kernel
theorem dL_write_22 : decode cL_write 22 = .ok (.ireturn, 1) := by decide +kernel
set_option maxRecDepth 20000 in
theorem ggL_read_X0_read : GoodIn wsL_read wsX0_read := goodIn_ca (goodIn_ca (goodIn_r _ [7, 8, 9, 10, 11, 12, 13, 14, 15, 16, 6, 17, 18, 19, 20, 21, 22, 23, 24, 25, 26, 27, 28, 29, 30, 31, 32, 33, 34, 35, 36, 37, 38, 39, 40, 41, 42, 43, 44, 45, 46, 47, 48, 49, 50, 51, 52, 53, 54, 55] (by decide +kernel) (by decide +kernel)) (goodIn_sub (fun _ h => List.mem_cons_of_mem _ (List.mem_append_left _ (List.mem_append_right _ h))) (by decide +kernel))) (goodIn_sub (fun _ h => List.mem_cons_of_mem _ (List.mem_append_right _ h)) (by decide +kernel))
set_option maxRecDepth 20000 in
theorem gL_read_X0_read : GoodIn wsL_read (wsV RL 28 RX0 yX0_read wsX0_read) := goodIn_app (goodIn_of _ (by decide +kernel)) ggL_read_X0_read
theorem dL_read_0 : decode cL_read 0 = .ok (.aload_n 3, 1) := by decide +kernel
theorem dL_read_1 : decode cL_read 1 = .ok (.iconst 0, 1) := by decide +kernel
theorem dL_read_2 : decode cL_read 2 = .ok (.aload_n 0, 1) := by decide +kernel
theorem dL_read_3 : decode cL_read 3 = .ok (.iload_n 1, 1) := by decide +kernel
theorem dL_read_4 : decode cL_read 4 = .ok (.iload_n 2, 1) := by decide +kernel
theorem dL_read_5 : decode cL_read 5 = .ok (.invokevirtual 28, 3) := by decide +kernel
theorem dL_read_8 : decode cL_read 8 = .ok (.i2l, 1) := by decide +kernel
theorem dL_read_9 : decode cL_read 9 = .ok (.lastore, 1) := by decide +kernel
theorem dL_read_10 : decode cL_read 10 = .ok (.goto 11, 3) := by decide +kernel
theorem dL_read_13 : decode cL_read 13 = .ok (.astore 4, 2) := by decide +kernel
theorem dL_read_15 : decode cL_read 15 = .ok (.iconst 1, 1) := by decide +kernel
theorem dL_read_16 : decode cL_read 16 = .ok (.ireturn, 1) := by decide +kernel
theorem dL_read_17 : decode cL_read 17 = .ok (.astore 4, 2) := by decide +kernel
theorem dL_read_19 : decode cL_read 19 = .ok (.iconst 2, 1) := by decide +kernel
theorem dL_read_20 : decode cL_read 20 = .ok (.ireturn, 1) := by decide +kernel
theorem dL_read_21 : decode cL_read 21 = .ok (.iconst 0, 1) := by decide +kernel
theorem dL_read_22 : decode cL_read 22 = .ok (.ireturn, 1) := by decide +kernel
set_option maxRecDepth 20000 in
theorem ggL_copy_X0_copy : GoodIn wsL_copy wsX0_copy := goodIn_ca (goodIn_ca (goodIn_r _ [7, 8, 9, 10, 11, 12, 13, 6, 14, 15, 16, 17, 18, 19, 20, 21, 22, 23, 24, 25, 26, 27, 28, 29, 30, 31, 32, 33, 34, 35, 36, 37, 38, 39, 40, 41, 42, 43, 44, 45, 46, 47, 48, 49, 50, 51, 52, 53, 54, 55, 56, 57, 58, 59, 60, 61, 62, 63, 64, 65, 66, 67, 68, 69, 70, 71, 72] (by decide +kernel) (by decide +kernel)) (goodIn_sub (fun _ h => List.mem_cons_of_mem _ (List.mem_append_left _ (List.mem_append_right _ h))) (by decide +kernel))) (goodIn_sub (fun _ h => List.mem_cons_of_mem _ (List.mem_append_right _ h)) (by decide +kernel))
set_option maxRecDepth 20000 in
theorem gL_copy_X0_copy : GoodIn wsL_copy (wsV RL 31 RX0 yX0_copy wsX0_copy) := goodIn_app (goodIn_of _ (by decide +kernel)) ggL_copy_X0_copy
theorem dL_copy_0 : decode cL_copy 0 = .ok (.aload_n 3, 1) := by decide +kernel
theorem dL_copy_1 : decode cL_copy 1 = .ok (.iconst 0, 1) := by decide +kernel
theorem dL_copy_2 : decode cL_copy 2 = .ok (.aload_n 0, 1) := by decide +kernel
theorem dL_copy_3 : decode cL_copy 3 = .ok (.iload_n 1, 1) := by decide +kernel
theorem dL_copy_4 : decode cL_copy 4 = .ok (.iload_n 2, 1) := by decide +kernel
theorem dL_copy_5 : decode cL_copy 5 = .ok (.invokevirtual 31, 3) := by decide +kernel
theorem dL_copy_8 : decode cL_copy 8 = .ok (.i2l, 1) := by decide +kernel
theorem dL_copy_9 : decode cL_copy 9 = .ok (.lastore, 1) := by decide +kernel
theorem dL_copy_10 : decode cL_copy 10 = .ok (.goto 11, 3) := by decide +kernel
theorem dL_copy_13 : decode cL_copy 13 = .ok (.astore 4, 2) := by decide +kernel
theorem dL_copy_15 : decode cL_copy 15 = .ok (.iconst 1, 1) := by decide +kernel
theorem dL_copy_16 : decode cL_copy 16 = .ok (.ireturn, 1) := by decide +kernel
theorem dL_copy_17 : decode cL_copy 17 = .ok (.astore 4, 2) := by decide +kernel
theorem dL_copy_19 : decode cL_copy 19 = .ok (.iconst 2, 1) := by decide +kernel
theorem dL_copy_20 : decode cL_copy 20 = .ok (.ireturn, 1) := by decide +kernel
theorem dL_copy_21 : decode cL_copy 21 = .ok (.iconst 0, 1) := by decide +kernel
theorem dL_copy_22 : decode cL_copy 22 = .ok (.ireturn, 1) := by decide +kernel
set_option maxRecDepth 20000 in
theorem ggL_append_X0_append : GoodIn wsL_append wsX0_append := goodIn_ca (goodIn_ca (goodIn_r _ [7, 8, 9, 10, 11, 12, 13, 14, 15, 6, 16, 17, 18, 19, 20, 21, 22, 23, 24, 25, 26, 27, 28, 29, 30, 31, 32, 33, 34, 35, 36, 37, 38, 39, 40, 41] (by decide +kernel) (by decide +kernel)) (goodIn_sub (fun _ h => List.mem_cons_of_mem _ (List.mem_append_left _ (List.mem_append_right _ h))) (by decide +kernel))) (goodIn_sub (fun _ h => List.mem_cons_of_mem _ (List.mem_append_right _ h)) (by decide +kernel))
set_option maxRecDepth 20000 in
theorem gL_append_X0_append : GoodIn wsL_append (wsV RL 34 RX0 yX0_append wsX0_append) := goodIn_app (goodIn_of _ (by decide +kernel)) ggL_append_X0_append
theorem dL_append_0 : decode cL_append 0 = .ok (.aload_n 2, 1) := by decide +kernel
theorem dL_append_1 : decode cL_append 1 = .ok (.iconst 0, 1) := by decide +kernel
theorem dL_append_2 : decode cL_append 2 = .ok (.aload_n 0, 1) := by decide +kernel
theorem dL_append_3 : decode cL_append 3 = .ok (.iload_n 1, 1) := by decide +kernel
theorem dL_append_4 : decode cL_append 4 = .ok (.invokevirtual 34, 3) := by decide +kernel
theorem dL_append_7 : decode cL_append 7 = .ok (.i2l, 1) := by decide +kernel
theorem dL_append_8 : decode cL_append 8 = .ok (.lastore, 1) := by decide +kernel
theorem dL_append_9 : decode cL_append 9 = .ok (.goto 9, 3) := by decide +kernel
theorem dL_append_12 : decode cL_append 12 = .ok (.astore_n 3, 1) := by decide +kernel
theorem dL_append_13 : decode cL_append 13 = .ok (.iconst 1, 1) := by decide +kernel
theorem dL_append_14 : decode cL_append 14 = .ok (.ireturn, 1) := by decide +kernel
theorem dL_append_15 : decode cL_append 15 = .ok (.astore_n 3, 1) := by decide +kernel
theorem dL_append_16 : decode cL_append 16 = .ok (.iconst 2, 1) := by decide +kernel
theorem dL_append_17 : decode cL_append 17 = .ok (.ireturn, 1) := by decide +kernel
theorem dL_append_18 : decode cL_append 18 = .ok (.iconst 0, 1) := by decide +kernel
theorem dL_append_19 : decode cL_append 19 = .ok (.ireturn, 1) := by decide +kernel
set_option maxRecDepth 20000 in
theorem ggL_force_X0_force : GoodIn wsL_force wsX0_force := goodIn_ca (goodIn_ca (goodIn_r _ [7, 8, 9, 10, 11, 12, 6, 13, 14, 15, 16, 17, 18, 19, 20, 21, 22, 23, 24, 25, 26, 27, 28, 29, 30, 31, 32, 33, 34, 35, 36, 37, 38, 39, 40, 41, 42, 43, 44, 45, 46, 47, 48, 49, 50, 51] (by decide +kernel) (by decide +kernel)) (goodIn_sub (fun _ h => List.mem_cons_of_mem _ (List.mem_append_left _ (List.mem_append_right _ h))) (by decide +kernel))) (goodIn_sub (fun _ h => List.mem_cons_of_mem _ (List.mem_append_right _ h)) (by decide +kernel))
set_option maxRecDepth 20000 in
theorem gL_force_X0_force : GoodIn wsL_force (wsV RL 39 RX0 yX0_force wsX0_force) := goodIn_app (goodIn_of _ (by decide +kernel)) ggL_force_X0_force
theorem dL_force_0 : decode cL_force 0 = .ok (.aload_n 2, 1) := by decide +kernel
theorem dL_force_1 : decode cL_force 1 = .ok (.iconst 0, 1) := by decide +kernel
theorem dL_force_2 : decode cL_force 2 = .ok (.aload_n 0, 1) := by decide +kernel
theorem dL_force_3 : decode cL_force 3 = .ok (.iload_n 1, 1) := by decide +kernel
theorem dL_force_4 : decode cL_force 4 = .ok (.invokevirtual 39, 3) := by decide +kernel
theorem dL_force_7 : decode cL_force 7 = .ok (.i2l, 1) := by decide +kernel
theorem dL_force_8 : decode cL_force 8 = .ok (.lastore, 1) := by decide +kernel
theorem dL_force_9 : decode cL_force 9 = .ok (.goto 9, 3) := by decide +kernel
theorem dL_force_12 : decode cL_force 12 = .ok (.astore_n 3, 1) := by decide +kernel
theorem dL_force_13 : decode cL_force 13 = .ok (.iconst 1, 1) := by decide +kernel
theorem dL_force_14 : decode cL_force 14 = .ok (.ireturn, 1) := by decide +kernel
theorem dL_force_15 : decode cL_force 15 = .ok (.astore_n 3, 1) := by decide +kernel
theorem dL_force_16 : decode cL_force 16 = .ok (.iconst 2, 1) := by decide +kernel
theorem dL_force_17 : decode cL_force 17 = .ok (.ireturn, 1) := by decide +kernel
theorem dL_force_18 : decode cL_force 18 = .ok (.iconst 0, 1) := by decide +kernel
theorem dL_force_19 : decode cL_force 19 = .ok (.ireturn, 1) := by decide +kernel
set_option maxRecDepth 20000 in
theorem ggL_readLog_X0_readLog : GoodIn wsL_readLog wsX0_readLog := goodIn_ca (goodIn_ca (goodIn_r _ [7, 8, 9, 10, 11, 12, 13, 6, 14, 15, 16, 17, 18, 19, 20, 21, 22, 23, 24, 25, 26, 27, 28, 29, 30, 31, 32, 33, 34, 35, 36, 37, 38, 39, 40, 41, 42, 43, 44] (by decide +kernel) (by decide +kernel)) (goodIn_sub (fun _ h => List.mem_cons_of_mem _ (List.mem_append_left _ (List.mem_append_right _ h))) (by decide +kernel))) (goodIn_sub (fun _ h => List.mem_cons_of_mem _ (List.mem_append_right _ h)) (by decide +kernel))
set_option maxRecDepth 20000 in
theorem gL_readLog_X0_readLog : GoodIn wsL_readLog (wsV RL 42 RX0 yX0_readLog wsX0_readLog) := goodIn_app (goodIn_of _ (by decide +kernel)) ggL_readLog_X0_readLog
theorem dL_readLog_0 : decode cL_readLog 0 = .ok (.aload_n 0, 1) := by decide +kernel
theorem dL_readLog_1 : decode cL_readLog 1 = .ok (.iload_n 1, 1) := by decide +kernel
theorem dL_readLog_2 : decode cL_readLog 2 = .ok (.iload_n 2, 1) := by decide +kernel
theorem dL_readLog_3 : decode cL_readLog 3 = .ok (.invokevirtual 42, 3) := by decide +kernel
theorem dL_readLog_6 : decode cL_readLog 6 = .ok (.goto 9, 3) := by decide +kernel
theorem dL_readLog_9 : decode cL_readLog 9 = .ok (.astore_n 3, 1) := by decide +kernel
theorem dL_readLog_10 : decode cL_readLog 10 = .ok (.iconst 1, 1) := by decide +kernel
theorem dL_readLog_11 : decode cL_readLog 11 = .ok (.ireturn, 1) := by decide +kernel
theorem dL_readLog_12 : decode cL_readLog 12 = .ok (.astore_n 3, 1) := by decide +kernel
theorem dL_readLog_13 : decode cL_readLog 13 = .ok (.iconst 2, 1) := by decide +kernel
theorem dL_readLog_14 : decode cL_readLog 14 = .ok (.ireturn, 1) := by decide +kernel
theorem dL_readLog_15 : decode cL_readLog 15 = .ok (.iconst 0, 1) := by decide +kernel
theorem dL_readLog_16 : decode cL_readLog 16 = .ok (.ireturn, 1) := by decide +kernel
set_option maxRecDepth 20000 in
theorem ggL_giveBack_X0_giveBack : GoodIn wsL_giveBack wsX0_giveBack := goodIn_ca (goodIn_ca (goodIn_r _ [7, 8, 9, 10, 11, 12, 6, 13, 14, 15, 16, 17, 18, 19, 20, 21, 22, 23, 24, 25, 26, 27, 28, 29, 30, 31, 32, 33, 34, 35] (by decide +kernel) (by decide +kernel)) (goodIn_sub (fun _ h => List.mem_cons_of_mem _ (List.mem_append_left _ (List.mem_append_right _ h))) (by decide +kernel))) (goodIn_sub (fun _ h => List.mem_cons_of_mem _ (List.mem_append_right _ h)) (by decide +kernel))
set_option maxRecDepth 20000 in
theorem gL_giveBack_X0_giveBack : GoodIn wsL_giveBack (wsV RL 45 RX0 yX0_giveBack wsX0_giveBack) := goodIn_app (goodIn_of _ (by decide +kernel)) ggL_giveBack_X0_giveBack
theorem dL_giveBack_0 : decode cL_giveBack 0 = .ok (.aload_n 0, 1) := by decide +kernel
theorem dL_giveBack_1 : decode cL_giveBack 1 = .ok (.iload_n 1, 1) := by decide +kernel
theorem dL_giveBack_2 : decode cL_giveBack 2 = .ok (.invokevirtual 45, 3) := by decide +kernel
theorem dL_giveBack_5 : decode cL_giveBack 5 = .ok (.goto 9, 3) := by decide +kernel
theorem dL_giveBack_8 : decode cL_giveBack 8 = .ok (.astore_n 2, 1) := by decide +kernel
theorem dL_giveBack_9 : decode cL_giveBack 9 = .ok (.iconst 1, 1) := by decide +kernel
theorem dL_giveBack_10 : decode cL_giveBack 10 = .ok (.ireturn, 1) := by decide +kernel
theorem dL_giveBack_11 : decode cL_giveBack 11 = .ok (.astore_n 2, 1) := by decide +kernel
theorem dL_giveBack_12 : decode cL_giveBack 12 = .ok (.iconst 2, 1) := by decide +kernel
theorem dL_giveBack_13 : decode cL_giveBack 13 = .ok (.ireturn, 1) := by decide +kernel
theorem dL_giveBack_14 : decode cL_giveBack 14 = .ok (.iconst 0, 1) := by decide +kernel
theorem dL_giveBack_15 : decode cL_giveBack 15 = .ok (.ireturn, 1) := by decide +kernel
set_option maxRecDepth 20000 in
theorem ggL_log_X0_log : GoodIn wsL_log wsX0_log := goodIn_ca (goodIn_r _ [6, 7, 8, 9, 10, 11, 12, 13, 14, 15, 16, 17, 18, 19, 20, 21, 22, 23, 24] (by decide +kernel) (by decide +kernel)) (goodIn_sub (fun _ h => List.mem_cons_of_mem _ (List.mem_append_right _ h)) (by decide +kernel))
set_option maxRecDepth 20000 in
theorem gL_log_X0_log : GoodIn wsL_log (wsV RL 49 RX0 yX0_log wsX0_log) := goodIn_app (goodIn_of _ (by decide +kernel)) ggL_log_X0_log
theorem dL_log_0 : decode cL_log 0 = .ok (.aload_n 2, 1) := by decide +kernel
theorem dL_log_1 : decode cL_log 1 = .ok (.iconst 0, 1) := by decide +kernel
theorem dL_log_2 : decode cL_log 2 = .ok (.aload_n 0, 1) := by decide +kernel
theorem dL_log_3 : decode cL_log 3 = .ok (.iload_n 1, 1) := by decide +kernel
theorem dL_log_4 : decode cL_log 4 = .ok (.invokevirtual 49, 3) := by decide +kernel
theorem dL_log_7 : decode cL_log 7 = .ok (.i2l, 1) := by decide +kernel
theorem dL_log_8 : decode cL_log 8 = .ok (.lastore, 1) := by decide +kernel
theorem dL_log_9 : decode cL_log 9 = .ok (.goto 6, 3) := by decide +kernel
theorem dL_log_12 : decode cL_log 12 = .ok (.astore_n 3, 1) := by decide +kernel
theorem dL_log_13 : decode cL_log 13 = .ok (.iconst 1, 1) := by decide +kernel
theorem dL_log_14 : decode cL_log 14 = .ok (.ireturn, 1) := by decide +kernel
theorem dL_log_15 : decode cL_log 15 = .ok (.iconst 0, 1) := by decide +kernel
theorem dL_log_16 : decode cL_log 16 = .ok (.ireturn, 1) := by decide +kernel
set_option maxRecDepth 20000 in
theorem ggL_setRoot_X0_setRoot : GoodIn wsL_setRoot wsX0_setRoot := goodIn_ca (goodIn_ca (goodIn_r _ [7, 8, 9, 10, 11, 6, 12, 13, 14, 15, 16, 17, 18, 19, 20, 21, 22, 23, 24, 25, 26, 27, 28, 29, 30, 31, 32, 33, 34, 35, 36, 37, 38, 39, 40, 41, 42, 43, 44, 45, 46, 47, 48, 49, 50] (by decide +kernel) (by decide +kernel)) (goodIn_sub (fun _ h => List.mem_cons_of_mem _ (List.mem_append_left _ (List.mem_append_right _ h))) (by decide +kernel))) (goodIn_sub (fun _ h => List.mem_cons_of_mem _ (List.mem_append_right _ h)) (by decide +kernel))
set_option maxRecDepth 20000 in
theorem gL_setRoot_X0_setRoot : GoodIn wsL_setRoot (wsV RL 52 RX0 yX0_setRoot wsX0_setRoot) := goodIn_app (goodIn_of _ (by decide +kernel)) ggL_setRoot_X0_setRoot
theorem dL_setRoot_0 : decode cL_setRoot 0 = .ok (.aload_n 3, 1) := by decide +kernel
theorem dL_setRoot_1 : decode cL_setRoot 1 = .ok (.iconst 0, 1) := by decide +kernel
theorem dL_setRoot_2 : decode cL_setRoot 2 = .ok (.aload_n 0, 1) := by decide +kernel
theorem dL_setRoot_3 : decode cL_setRoot 3 = .ok (.iload_n 1, 1) := by decide +kernel
theorem dL_setRoot_4 : decode cL_setRoot 4 = .ok (.iload_n 2, 1) := by decide +kernel
theorem dL_setRoot_5 : decode cL_setRoot 5 = .ok (.invokevirtual 52, 3) := by decide +kernel
theorem dL_setRoot_8 : decode cL_setRoot 8 = .ok (.ifCond .eq 7, 3) := by decide +kernel
theorem dL_setRoot_11 : decode cL_setRoot 11 = .ok (.lconst 1, 1) := by decide +kernel
theorem dL_setRoot_12 : decode cL_setRoot 12 = .ok (.goto 4, 3) := by decide +kernel
theorem dL_setRoot_15 : decode cL_setRoot 15 = .ok (.lconst 0, 1) := by decide +kernel
theorem dL_setRoot_16 : decode cL_setRoot 16 = .ok (.lastore, 1) := by decide +kernel
theorem dL_setRoot_17 : decode cL_setRoot 17 = .ok (.goto 11, 3) := by decide +kernel
theorem dL_setRoot_20 : decode cL_setRoot 20 = .ok (.astore 4, 2) := by decide +kernel
theorem dL_setRoot_22 : decode cL_setRoot 22 = .ok (.iconst 1, 1) := by decide +kernel
theorem dL_setRoot_23 : decode cL_setRoot 23 = .ok (.ireturn, 1) := by decide +kernel
theorem dL_setRoot_24 : decode cL_setRoot 24 = .ok (.astore 4, 2) := by decide +kernel
theorem dL_setRoot_26 : decode cL_setRoot 26 = .ok (.iconst 2, 1) := by decide +kernel
theorem dL_setRoot_27 : decode cL_setRoot 27 = .ok (.ireturn, 1) := by decide +kernel
theorem dL_setRoot_28 : decode cL_setRoot 28 = .ok (.iconst 0, 1) := by decide +kernel
theorem dL_setRoot_29 : decode cL_setRoot 29 = .ok (.ireturn, 1) := by decide +kernel
set_option maxRecDepth 20000 in
theorem ggL_root_X0_root : GoodIn wsL_root wsX0_root := goodIn_ca (goodIn_r _ [6, 7, 8, 9, 5, 10, 11, 12, 13, 14, 15, 16, 17, 18, 19, 20, 21, 22, 23, 24, 25] (by decide +kernel) (by decide +kernel)) (goodIn_sub (fun _ h => List.mem_cons_of_mem _ (List.mem_append_right _ h)) (by decide +kernel))
set_option maxRecDepth 20000 in
theorem gL_root_X0_root : GoodIn wsL_root (wsV RL 56 RX0 yX0_root wsX0_root) := goodIn_app (goodIn_of _ (by decide +kernel)) ggL_root_X0_root
theorem dL_root_0 : decode cL_root 0 = .ok (.aload_n 2, 1) := by decide +kernel
theorem dL_root_1 : decode cL_root 1 = .ok (.iconst 0, 1) := by decide +kernel
theorem dL_root_2 : decode cL_root 2 = .ok (.aload_n 0, 1) := by decide +kernel
theorem dL_root_3 : decode cL_root 3 = .ok (.iload_n 1, 1) := by decide +kernel
theorem dL_root_4 : decode cL_root 4 = .ok (.invokevirtual 56, 3) := by decide +kernel
theorem dL_root_7 : decode cL_root 7 = .ok (.i2l, 1) := by decide +kernel
theorem dL_root_8 : decode cL_root 8 = .ok (.lastore, 1) := by decide +kernel
theorem dL_root_9 : decode cL_root 9 = .ok (.goto 6, 3) := by decide +kernel
theorem dL_root_12 : decode cL_root 12 = .ok (.astore_n 3, 1) := by decide +kernel
theorem dL_root_13 : decode cL_root 13 = .ok (.iconst 1, 1) := by decide +kernel
theorem dL_root_14 : decode cL_root 14 = .ok (.ireturn, 1) := by decide +kernel
theorem dL_root_15 : decode cL_root 15 = .ok (.iconst 0, 1) := by decide +kernel
theorem dL_root_16 : decode cL_root 16 = .ok (.ireturn, 1) := by decide +kernel
set_option maxRecDepth 20000 in
theorem ggL_lose_X0_lose : GoodIn wsL_lose wsX0_lose := goodIn_ca (goodIn_r _ [6, 7, 8, 9, 10, 5, 11, 12, 13, 14, 15, 16, 17, 18, 19, 20, 21, 22, 23, 24, 25, 26, 27, 28, 29, 30, 31, 32] (by decide +kernel) (by decide +kernel)) (goodIn_sub (fun _ h => List.mem_cons_of_mem _ (List.mem_append_right _ h)) (by decide +kernel))
set_option maxRecDepth 20000 in
theorem gL_lose_X0_lose : GoodIn wsL_lose (wsV RL 59 RX0 yX0_lose wsX0_lose) := goodIn_app (goodIn_of _ (by decide +kernel)) ggL_lose_X0_lose
theorem dL_lose_0 : decode cL_lose 0 = .ok (.aload_n 0, 1) := by decide +kernel
theorem dL_lose_1 : decode cL_lose 1 = .ok (.iload_n 1, 1) := by decide +kernel
theorem dL_lose_2 : decode cL_lose 2 = .ok (.iload_n 2, 1) := by decide +kernel
theorem dL_lose_3 : decode cL_lose 3 = .ok (.invokevirtual 59, 3) := by decide +kernel
theorem dL_lose_6 : decode cL_lose 6 = .ok (.goto 6, 3) := by decide +kernel
theorem dL_lose_9 : decode cL_lose 9 = .ok (.astore_n 3, 1) := by decide +kernel
theorem dL_lose_10 : decode cL_lose 10 = .ok (.iconst 1, 1) := by decide +kernel
theorem dL_lose_11 : decode cL_lose 11 = .ok (.ireturn, 1) := by decide +kernel
theorem dL_lose_12 : decode cL_lose 12 = .ok (.iconst 0, 1) := by decide +kernel
theorem dL_lose_13 : decode cL_lose 13 = .ok (.ireturn, 1) := by decide +kernel
set_option maxRecDepth 20000 in
theorem ggL_stamp_X0_stamp : GoodIn wsL_stamp wsX0_stamp := goodIn_ca (goodIn_r _ [6, 7, 8, 9, 10, 5, 11, 12, 13, 14, 15, 16, 17, 18, 19, 20, 21, 22, 23, 24, 25, 26, 27, 28, 29, 30, 31, 32] (by decide +kernel) (by decide +kernel)) (goodIn_sub (fun _ h => List.mem_cons_of_mem _ (List.mem_append_right _ h)) (by decide +kernel))
set_option maxRecDepth 20000 in
theorem gL_stamp_X0_stamp : GoodIn wsL_stamp (wsV RL 62 RX0 yX0_stamp wsX0_stamp) := goodIn_app (goodIn_of _ (by decide +kernel)) ggL_stamp_X0_stamp
theorem dL_stamp_0 : decode cL_stamp 0 = .ok (.aload 4, 2) := by decide +kernel
theorem dL_stamp_2 : decode cL_stamp 2 = .ok (.iconst 0, 1) := by decide +kernel
theorem dL_stamp_3 : decode cL_stamp 3 = .ok (.aload_n 0, 1) := by decide +kernel
theorem dL_stamp_4 : decode cL_stamp 4 = .ok (.iload_n 1, 1) := by decide +kernel
theorem dL_stamp_5 : decode cL_stamp 5 = .ok (.iload_n 2, 1) := by decide +kernel
theorem dL_stamp_6 : decode cL_stamp 6 = .ok (.iload_n 3, 1) := by decide +kernel
theorem dL_stamp_7 : decode cL_stamp 7 = .ok (.invokevirtual 62, 3) := by decide +kernel
theorem dL_stamp_10 : decode cL_stamp 10 = .ok (.i2l, 1) := by decide +kernel
theorem dL_stamp_11 : decode cL_stamp 11 = .ok (.lastore, 1) := by decide +kernel
theorem dL_stamp_12 : decode cL_stamp 12 = .ok (.goto 7, 3) := by decide +kernel
theorem dL_stamp_15 : decode cL_stamp 15 = .ok (.astore 5, 2) := by decide +kernel
theorem dL_stamp_17 : decode cL_stamp 17 = .ok (.iconst 1, 1) := by decide +kernel
theorem dL_stamp_18 : decode cL_stamp 18 = .ok (.ireturn, 1) := by decide +kernel
theorem dL_stamp_19 : decode cL_stamp 19 = .ok (.iconst 0, 1) := by decide +kernel
theorem dL_stamp_20 : decode cL_stamp 20 = .ok (.ireturn, 1) := by decide +kernel
set_option maxRecDepth 20000 in
theorem ggL_count_X0_count : GoodIn wsL_count wsX0_count := goodIn_ca (goodIn_r _ [6, 7, 8, 5, 9, 10, 11, 12, 13, 14, 15, 16, 17, 18, 19, 20, 21, 22, 23, 24, 25, 26, 27, 28, 29, 30, 31, 32, 33] (by decide +kernel) (by decide +kernel)) (goodIn_sub (fun _ h => List.mem_cons_of_mem _ (List.mem_append_right _ h)) (by decide +kernel))
set_option maxRecDepth 20000 in
theorem gL_count_X0_count : GoodIn wsL_count (wsV RL 66 RX0 yX0_count wsX0_count) := goodIn_app (goodIn_of _ (by decide +kernel)) ggL_count_X0_count
theorem dL_count_0 : decode cL_count 0 = .ok (.aload_n 3, 1) := by decide +kernel
theorem dL_count_1 : decode cL_count 1 = .ok (.iconst 0, 1) := by decide +kernel
theorem dL_count_2 : decode cL_count 2 = .ok (.aload_n 0, 1) := by decide +kernel
theorem dL_count_3 : decode cL_count 3 = .ok (.iload_n 1, 1) := by decide +kernel
theorem dL_count_4 : decode cL_count 4 = .ok (.iload_n 2, 1) := by decide +kernel
theorem dL_count_5 : decode cL_count 5 = .ok (.invokevirtual 66, 3) := by decide +kernel
theorem dL_count_8 : decode cL_count 8 = .ok (.i2l, 1) := by decide +kernel
theorem dL_count_9 : decode cL_count 9 = .ok (.lastore, 1) := by decide +kernel
theorem dL_count_10 : decode cL_count 10 = .ok (.goto 7, 3) := by decide +kernel
theorem dL_count_13 : decode cL_count 13 = .ok (.astore 4, 2) := by decide +kernel
theorem dL_count_15 : decode cL_count 15 = .ok (.iconst 1, 1) := by decide +kernel
theorem dL_count_16 : decode cL_count 16 = .ok (.ireturn, 1) := by decide +kernel
theorem dL_count_17 : decode cL_count 17 = .ok (.iconst 0, 1) := by decide +kernel
theorem dL_count_18 : decode cL_count 18 = .ok (.ireturn, 1) := by decide +kernel
set_option maxRecDepth 20000 in
theorem ggL_cutAfter_X0_cutAfter : GoodIn wsL_cutAfter wsX0_cutAfter := goodIn_ca (goodIn_r _ [6, 7, 8, 9, 10, 11, 12, 13, 14, 15, 16, 17, 18, 19, 20, 21, 22] (by decide +kernel) (by decide +kernel)) (goodIn_sub (fun _ h => List.mem_cons_of_mem _ (List.mem_append_right _ h)) (by decide +kernel))
set_option maxRecDepth 20000 in
theorem gL_cutAfter_X0_cutAfter : GoodIn wsL_cutAfter (wsV RL 69 RX0 yX0_cutAfter wsX0_cutAfter) := goodIn_app (goodIn_of _ (by decide +kernel)) ggL_cutAfter_X0_cutAfter
theorem dL_cutAfter_0 : decode cL_cutAfter 0 = .ok (.aload_n 0, 1) := by decide +kernel
theorem dL_cutAfter_1 : decode cL_cutAfter 1 = .ok (.iload_n 1, 1) := by decide +kernel
theorem dL_cutAfter_2 : decode cL_cutAfter 2 = .ok (.invokevirtual 69, 3) := by decide +kernel
theorem dL_cutAfter_5 : decode cL_cutAfter 5 = .ok (.goto 6, 3) := by decide +kernel
theorem dL_cutAfter_8 : decode cL_cutAfter 8 = .ok (.astore_n 2, 1) := by decide +kernel
theorem dL_cutAfter_9 : decode cL_cutAfter 9 = .ok (.iconst 1, 1) := by decide +kernel
theorem dL_cutAfter_10 : decode cL_cutAfter 10 = .ok (.ireturn, 1) := by decide +kernel
theorem dL_cutAfter_11 : decode cL_cutAfter 11 = .ok (.iconst 0, 1) := by decide +kernel
theorem dL_cutAfter_12 : decode cL_cutAfter 12 = .ok (.ireturn, 1) := by decide +kernel
end
section
/-! OWN ROWS: contracts of one shape (worlds in, worlds out), their start, their end, their calls; throws -/
abbrev xISE : String := "java/lang/IllegalStateException"
abbrev xIOB : String := "java/lang/IndexOutOfBoundsException"
abbrev xIAE : String := "java/lang/IllegalArgumentException"
abbrev xSup : List String := ["java/lang/RuntimeException", "java/lang/Exception"]
abbrev xIni (X : String) : MethodName := ⟨X, "<init>", "(Ljava/lang/String;)V"⟩
/-- the words of throws that the tables decide but that aren't good ones -/
def xWc : List (String × String) := [(xISE, xISE), (xIOB, xIOB), (xIAE, xIAE)]
def xWd : List MethodName := [xIni "java/lang/RuntimeException", xIni "java/lang/Exception", xIni Bundle.tN]
def xWs : List Cond := xWc.map (fun q => Cond.castable q.1 q.2) ++ xWd.map Cond.declares
def xNs : List (String × String) := [(xIOB, xISE), (xIAE, xISE)]
def xSs : List (Nat × String) := [(75, "the page is torn or lost"), (105, "no such end of the log"), (113, "less than none"), (119, "power is off"), (121, "no such area, page, half, state, word or root"), (123, "not 1 to 64 words"), (125, "the log has no such place")]
def xTv (U : State) : Prop := (∀ q ∈ xWc, va_Nw (.castable q.1 q.2) U) ∧ (∀ y ∈ xWd, va_Nw (.declares y) U) ∧ (∀ q ∈ xNs, va_Nc q.1 q.2 U) ∧ ∀ q ∈ xSs, ∃ a : Nat, vk_R RX0 q.1 q.2 a U
theorem xTv.warm {s U : State} (hW : s.WarmedH U.vm) (h : xTv s) : xTv U :=
  ⟨fun q hq => va_Nw.warmC hW (h.1 q hq), fun y hy => va_Nw.warmD hW (h.2.1 y hy), fun q hq => va_Nc.moved hW.alike (h.2.2.1 q hq), fun q hq => by
    obtain ⟨a, ha⟩ := h.2.2.2 q hq
    exact ⟨a, vk_R.warm hW ha⟩⟩
theorem xTv.same {u U : State} (hv : U.vm = u.vm) (h : xTv u) : xTv U := xTv.warm (s := u) (U := U) (by rw [hv]; exact State.WarmedH.refl u) h
theorem xTv.words {s : State} {args : Array Value} (h : xTv s) : ∀ w ∈ xWs, w.before args s = true := by
  intro w hw
  rcases List.mem_append.mp hw with hw | hw
  · obtain ⟨q, hq, rfl⟩ := List.mem_map.mp hw
    exact va_Nw.use rfl (h.1 q hq)
  · obtain ⟨q, hq, rfl⟩ := List.mem_map.mp hw
    exact va_Nw.use rfl (h.2.1 q hq)
/-- what a throw needs of the state U and the heap H, off the cells A -/
def xT (A : Nat → Prop) (U : State) (H : Heap) : Prop := vx_Zq Bundle.tN "UNASSIGNED_STACK" Bundle.steD A U H ∧ vx_Zq Bundle.tN "SUPPRESSED_SENTINEL" Bundle.listD A U H ∧ xTv U
theorem xT.go {A B : Nat → Prop} {s U : State} {H0 H : Heap} {locs : List Loc} (h : xT A s H0) (hS : va_S A H0 H locs) (hW : s.WarmedH U.vm) (hAB : ∀ q, B q → A q) : xT B U H :=
  ⟨((h.1.kept hS.2.1).narrow hAB).moved hW.alike, ((h.2.1.kept hS.2.1).narrow hAB).moved hW.alike, h.2.2.warm hW⟩
/-- a method's start: its world and nothing else -/
def pcB (D : va_G) (tys : List (ClassId × FieldType)) (ws : va_W) (sz : Nat) (U : State) : Prop := U.heap.size = sz ∧ va_P D vwCl ws U.heap ∧ va_K D vwCl tys U ∧ va_D (fun _ => True) ws
def pcX (D : va_G) (tys : List (ClassId × FieldType)) (ws : va_W) (sz : Nat) (U : State) : Prop := pcB D tys ws sz U ∧ xT (va_A ws sz) U U.heap
/-- .. and its end -/
def pcE (D : va_G) (w : va_W) (A : Nat → Prop) (t : State) : Prop := va_P D vwCl w t.heap ∧ va_D A w
theorem pcB.blind {D : va_G} {tys : List (ClassId × FieldType)} {ws : va_W} {sz : Nat} {As : List Value} : FrameBlind (va_Pc As (pcB D tys ws sz)) := by
  intro a U g mk q
  obtain ⟨q0, q1, qP, qK, qD⟩ := q
  exact ⟨q0, q1, qP, va_K.moved (u := U) (U := U.calling g mk a) (Vm.Alike.refl U.vm) qK, qD⟩
theorem pcX.blind {D : va_G} {tys : List (ClassId × FieldType)} {ws : va_W} {sz : Nat} {As : List Value} : FrameBlind (va_Pc As (pcX D tys ws sz)) := by
  intro a U g mk q
  obtain ⟨q0, ⟨q1, qP, qK, qD⟩, qU, qN, qT⟩ := q
  refine ⟨q0, ⟨q1, qP, va_K.moved (u := U) (U := U.calling g mk a) (Vm.Alike.refl U.vm) qK, qD⟩, ?_⟩
  exact ⟨vx_Zq.moved (u := U) (U := U.calling g mk a) (Vm.Alike.refl U.vm) qU, vx_Zq.moved (u := U) (U := U.calling g mk a) (Vm.Alike.refl U.vm) qN, xTv.same (u := U) (U := U.calling g mk a) rfl qT⟩
/-- the rooms: by levels -/
abbrev rmL (n c k : Nat) : Room := { frames := n, cells := c, slots := k, locals := 30 * n }
abbrev qcI (D : va_G) (A : Nat → Prop) (r : Int32) (w : va_W) : Array Value → State → Outcome → State → Prop := va_Qi (fun (x : Int32) (_ : Unit) => x = r) (fun _ t => pcE D w A t) A
abbrev qcV (D : va_G) (A : Nat → Prop) (w : va_W) : Array Value → State → Outcome → State → Prop := va_Qv (fun (_ : Unit) => True) (fun _ t => pcE D w A t) A
abbrev qcN (D : va_G) (A : Nat → Prop) : Array Value → State → Outcome → State → Prop := fun _ _ _ _ => False
abbrev xcX (D : va_G) (A : Nat → Prop) (E0 : String) (w : va_W) : String → State → State → Prop := fun E s t => E = E0 ∧ pcE D w A t ∧ va_F A s t
abbrev RI (l : Launch) (y : MethodName) (ws : List Cond) (n mc ms : Nat) (D : va_G) (tys : List (ClassId × FieldType)) (w : va_W) (As : List Value) (r : Int32) (w1 : va_W) : Prop :=
  ∀ sz : Nat, Met l y ws (rmL n mc ms) (va_Pc As (pcB D tys w sz)) (qcI D (va_A w sz) r w1) mc ms (va_A w sz)
abbrev RV (l : Launch) (y : MethodName) (ws : List Cond) (n mc ms : Nat) (D : va_G) (tys : List (ClassId × FieldType)) (w : va_W) (As : List Value) (w1 : va_W) : Prop :=
  ∀ sz : Nat, Met l y ws (rmL n mc ms) (va_Pc As (pcB D tys w sz)) (qcV D (va_A w sz) w1) mc ms (va_A w sz)
/-- it throws -/
abbrev RX (l : Launch) (y : MethodName) (ws : List Cond) (n : Nat) (D : va_G) (tys : List (ClassId × FieldType)) (w : va_W) (As : List Value) (E0 : String) : Prop :=
  ∀ sz : Nat, vx_Met l y ws (rmL n 1 6) (va_Pc As (pcX D tys w sz)) (qcN D (va_A w sz)) (xcX D (va_A w sz) E0 w) 1 6 (va_A w sz)
section OwnStart
variable {l : Launch} {y : MethodName} {ws ws' : List Cond} {n mc ms maxL : Nat} {D : va_G} {tys : List (ClassId × FieldType)} {w w1 : va_W} {As : List Value} {r : Int32} {cc : ByteArray} {ret : Option FieldType}
theorem st_I (hy : plainName y.cls = true) (hw : ws = Cond.code y cc maxL ret :: ws') (hn : (lg_sl As).length ≤ maxL)
    (body : ∀ (p : Program) (e : Env) (s : State) (m : MethodId) (below : List Frame) (meth : Method) (c : Code) (A : Nat → Prop), p.tables.exec = Jvm.exec → c.code = cc → meth.sig.returnType = ret → (∀ w ∈ ws, w.before As.toArray s = true) → s.vm.findClass y.cls = some m.cls → c.maxLocals = maxL → meth.locks = false → va_K D vwCl tys s → va_P D vwCl w s.heap → va_D A w → (∀ q : Nat, s.heap.size ≤ q → A q) → va_S A s.heap s.heap [] → ∀ ls : Array Slot, lv_has ls maxL (lv_args 0 As) →
      W p l e (rmL n mc ms) s m As.toArray below meth c s.heap [] 0 0 (MQ below (qcI D A r w1) As.toArray s mc ms A) (F0 m 0 ls [])) : RI l y ws n mc ms D tys w As r w1 := by
  intro sz
  refine Met.ofW (cc := cc) (maxL := maxL) (ret := ret) hy hw ?_
  intro p e s m args below meth c s₁ B hml hv
  obtain ⟨rfl, hsz, hP, hK, hD0⟩ := hv
  subst hsz
  have hl := lv_entry As (n := maxL) hn
  rw [lg_entry_eq]
  exact body p e s m below meth c _ B.exec B.bytes B.returns (atoms_spec (ws := ws) B.pre) (findClass_of_methodNamed B.named) hml B.notSynchronized hK hP (hD0.self (sz := s.heap.size)) (fun q h => Or.inr h) va_S.rf _ hl
theorem st_V (hy : plainName y.cls = true) (hw : ws = Cond.code y cc maxL ret :: ws') (hn : (lg_sl As).length ≤ maxL)
    (body : ∀ (p : Program) (e : Env) (s : State) (m : MethodId) (below : List Frame) (meth : Method) (c : Code) (A : Nat → Prop), p.tables.exec = Jvm.exec → c.code = cc → meth.sig.returnType = ret → (∀ w ∈ ws, w.before As.toArray s = true) → s.vm.findClass y.cls = some m.cls → c.maxLocals = maxL → meth.locks = false → va_K D vwCl tys s → va_P D vwCl w s.heap → va_D A w → (∀ q : Nat, s.heap.size ≤ q → A q) → va_S A s.heap s.heap [] → ∀ ls : Array Slot, lv_has ls maxL (lv_args 0 As) →
      W p l e (rmL n mc ms) s m As.toArray below meth c s.heap [] 0 0 (MQ below (qcV D A w1) As.toArray s mc ms A) (F0 m 0 ls [])) : RV l y ws n mc ms D tys w As w1 := by
  intro sz
  refine Met.ofW (cc := cc) (maxL := maxL) (ret := ret) hy hw ?_
  intro p e s m args below meth c s₁ B hml hv
  obtain ⟨rfl, hsz, hP, hK, hD0⟩ := hv
  subst hsz
  have hl := lv_entry As (n := maxL) hn
  rw [lg_entry_eq]
  exact body p e s m below meth c _ B.exec B.bytes B.returns (atoms_spec (ws := ws) B.pre) (findClass_of_methodNamed B.named) hml B.notSynchronized hK hP (hD0.self (sz := s.heap.size)) (fun q h => Or.inr h) va_S.rf _ hl
theorem st_X {E0 : String} (hy : plainName y.cls = true) (hw : ws = Cond.code y cc maxL ret :: ws') (hn : (lg_sl As).length ≤ maxL)
    (body : ∀ (p : Program) (e : Env) (s : State) (m : MethodId) (below : List Frame) (meth : Method) (c : Code) (A : Nat → Prop), p.tables.exec = Jvm.exec → c.code = cc → meth.sig.returnType = ret → (∀ w ∈ ws, w.before As.toArray s = true) → s.vm.findClass y.cls = some m.cls → c.maxLocals = maxL → meth.locks = false → va_K D vwCl tys s → va_P D vwCl w s.heap → va_D A w → (∀ q : Nat, s.heap.size ≤ q → A q) → va_S A s.heap s.heap [] → ∀ ls : Array Slot, lv_has ls maxL (lv_args 0 As) → xT A s s.heap → (∀ x ∈ c.exceptionTable.toList, False) →
      W p l e (rmL n 1 6) s m As.toArray below meth c s.heap [] 0 0 (vx_MQ below (qcN D A) (xcX D A E0 w) As.toArray s 1 6 A) (F0 m 0 ls [])) : RX l y ws n D tys w As E0 := by
  intro sz
  refine vx_ofW (cc := cc) (maxL := maxL) (ret := ret) hy hw ?_
  intro p e s m args below meth c s₁ B hml hex hv
  obtain ⟨rfl, ⟨hsz, hP, hK, hD0⟩, hT⟩ := hv
  subst hsz
  have hl := lv_entry As (n := maxL) hn
  rw [lg_entry_eq]
  exact body p e s m below meth c _ B.exec B.bytes B.returns (atoms_spec (ws := ws) B.pre) (findClass_of_methodNamed B.named) hml B.notSynchronized hK hP (hD0.self (sz := s.heap.size)) (fun q h => Or.inr h) va_S.rf _ hl hT hex
end OwnStart
section OwnEnd
variable {p : Program} {l : Launch} {e : Env} {R : Room} {s : State} {m : MethodId} {args : Array Value} {below : List Frame} {meth : Method} {c : Code} {H : Heap} {locs : List Loc} {cells slots : Nat} {Q : State → Prop}
variable {cc : ByteArray} {pc : Nat} {ls : Array Slot} {rest st0 : List Value} {D : va_G} {A : Nat → Prop} {w : va_W} {r v : Int32}
theorem e_I (hx : p.tables.exec = Jvm.exec) (hb : c.code = cc) (hr : meth.sig.returnType = some .int) (hlocks : meth.locks = false) (hP : va_P D vwCl w H) (hD : va_D A w) (hS : va_S A s.heap H locs) (hv : v = r) (hdg : decode cc pc = .ok (.ireturn, 1)) :
    W p l e R s m args below meth c H locs cells slots (MQ below (qcI D A r w) args s cells slots A) (F0 m pc ls [.int v]) :=
  W.iret hx hb hr (fun t ht hW => ⟨⟨v, (), rfl, hv, by rw [ht]; exact hP, hD⟩, hS.F ht⟩) hS.2.2 hdg hlocks
theorem e_Z (hx : p.tables.exec = Jvm.exec) (hb : c.code = cc) (hr : meth.sig.returnType = some .boolean) (hlocks : meth.locks = false) (hP : va_P D vwCl w H) (hD : va_D A w) (hS : va_S A s.heap H locs) (hv : v = r) (hn : narrow .boolean (.int v) = .int v) (hdg : decode cc pc = .ok (.ireturn, 1)) :
    W p l e R s m args below meth c H locs cells slots (MQ below (qcI D A r w) args s cells slots A) (F0 m pc ls [.int v]) :=
  W.zret hx hb hr hn (fun t ht hW => ⟨⟨v, (), rfl, hv, by rw [ht]; exact hP, hD⟩, hS.F ht⟩) hS.2.2 hdg hlocks
theorem e_V (hx : p.tables.exec = Jvm.exec) (hb : c.code = cc) (hr : meth.sig.returnType = none) (hlocks : meth.locks = false) (hP : va_P D vwCl w H) (hD : va_D A w) (hS : va_S A s.heap H locs) (hdg : decode cc pc = .ok (.return_, 1)) :
    W p l e R s m args below meth c H locs cells slots (MQ below (qcV D A w) args s cells slots A) (F0 m pc ls []) :=
  W.vret hx hb hr (fun t ht hW => ⟨⟨(), rfl, trivial, by rw [ht]; exact hP, hD⟩, hS.F ht⟩) hS.2.2 hdg hlocks
/-- new X(text), thrown: nothing of the world has changed -/
theorem e_X {E0 text : String} {k9 is ic : Nat} {own : String} {Ts : List Cond} {mm : Nat} (hx : p.tables.exec = Jvm.exec) (hb : c.code = cc) (hl : l.stackTraces = false) (hown : s.vm.findClass own = some m.cls) (ho : own = RX0) (hts : ∀ w ∈ Ts, w.before args s = true) (hcls : Bundle.fit E0 = true)
    (hk : Cond.classLink own k9 E0 ∈ Ts) (hini : Cond.initialized E0 ∈ Ts) (hg : ∀ w ∈ (vx_atS own ic E0 xSup).filter goodWord, w ∈ Ts) (hng : ∀ w ∈ (vx_atS own ic E0 xSup).filter (fun w => !goodWord w), w ∈ xWs) (hgood : (Cond.classLink own k9 E0 :: Cond.initialized E0 :: vx_atS own ic E0 xSup).all vx_ot = true) (hstr : (is, text) ∈ xSs)
    (hT : xT A s s.heap) (hlocks : meth.locks = false) (hex : ∀ x ∈ c.exceptionTable.toList, False) (hP : va_P D vwCl w H) (hD : va_D A w) (hS : va_S A s.heap H locs) (hsize : ls.size = mm) (hml : c.maxLocals = mm)
    (d0 : decode cc pc = .ok (.new k9, 3)) (d3 : decode cc (pc + 3) = .ok (.dup, 1)) (d4 : decode cc (pc + 4) = .ok (.ldc is, 2)) (d6 : decode cc (pc + 6) = .ok (.invokespecial ic, 3)) (d9 : decode cc (pc + 9) = .ok (.athrow, 1))
    (hRf : 5 < R.frames) (hRl : (rest.map fun v => v.category).sum + 82 ≤ R.locals) (hRc : cells + 1 ≤ R.cells) (hRs : slots + 6 ≤ R.slots) (hc : cells + 1 ≤ 1) (hs : slots + 6 ≤ 6) :
    W p l e R s m args below meth c H locs cells slots (vx_MQ below (qcN D A) (xcX D A E0 w) args s 1 6 A) (F0 m pc ls rest) := by
  subst ho
  obtain ⟨sa, hsa⟩ := hT.2.2.2.2.2 (is, text) hstr
  have hat : ∀ w ∈ vx_atS RX0 ic E0 xSup, w.before args s = true := vx_hat (fun w hw => hts w (hg w hw)) hng hT.2.2.words
  refine vx_throwS (text := text) (names := xSup) (sa := sa) (A := A) hx hb hl hown hcls (by decide) (hts _ hk) (hts _ hini) hsa hat (fun w hw => List.all_eq_true.mp hgood w hw) hT.1 hT.2.1 hS (hsize.trans hml.symm) d0 d3 d4 d6 d9 (fun x hx => (hex x hx).elim) hRf hRl hRc hRs hlocks (fun t hv hz hk9 => ?_) hS.2.2 hc hs
  exact ⟨rfl, ⟨hP.kept (fun k q hq => hk9 q.1 ((hP k q hq).lt)), hD⟩, Nat.le_trans hS.1 hz, fun q h1 h2 => (hk9 q (Nat.lt_of_lt_of_le h1 hS.1)).trans (hS.2.1 q h1 h2)⟩
end OwnEnd
section OwnCall
variable {p : Program} {l : Launch} {e : Env} {R : Room} {s : State} {m : MethodId} {args : Array Value} {below : List Frame} {meth : Method} {c : Code} {H H0 : Heap} {locs : List Loc} {cells slots : Nat} {Q : State → Prop}
variable {cc : ByteArray} {pc : Nat} {ls : Array Slot} {rest st0 : List Value} {D : va_G} {A : Nat → Prop} {wd wc wr w1 : va_W} {tys tysC : List (ClassId × FieldType)} {r : Int32} {mc ms n : Nat} {As : List Value} {a : Array Value}
theorem pS_B (hP : va_P D vwCl wd H) (hD : va_D A wd) (hK : va_K D vwCl tys s) (isT : List Nat) (hT : isT.filterMap (fun i => tys[i]?) = tysC) (isC : List Nat) (hn : va_nd isC = true) (hC : isC.map (fun i => wd[i]?) = wc.map some) : PreS s H (va_Pc As (pcB D tysC wc H.size)) As := by
  have hP1 : va_P D vwCl wc H := hP.sub isC (by
    have h : isC.filterMap (fun i => wd[i]?) = (isC.map (fun i => wd[i]?)).filterMap id := by rw [List.filterMap_map]; rfl
    rw [h, hC, List.filterMap_map]
    show wc.filterMap (fun x => some x) = wc
    simp)
  exact ⟨pcB.blind, fun U hU hW => ⟨rfl, by rw [hU], by rw [hU]; exact hP1, va_K.moved hW.alike (hK.sub isT hT), (hD.sub isC hn hC).weaken (fun _ _ _ _ => trivial)⟩⟩
theorem pS_X (hP : va_P D vwCl wd H) (hD : va_D A wd) (hK : va_K D vwCl tys s) (hS : va_S A s.heap H locs) (hA : ∀ q : Nat, s.heap.size ≤ q → A q) (hX : xT A s s.heap) (isT : List Nat) (hT : isT.filterMap (fun i => tys[i]?) = tysC) (isC : List Nat) (hn : va_nd isC = true) (hC : isC.map (fun i => wd[i]?) = wc.map some) : PreS s H (va_Pc As (pcX D tysC wc H.size)) As := by
  obtain ⟨-, h2⟩ := pS_B (As := As) hP hD hK isT hT isC hn hC
  refine ⟨pcX.blind, fun U hU hW => ?_⟩
  obtain ⟨h3, h4⟩ := h2 U hU hW
  exact ⟨h3, h4, by rw [hU]; exact hX.go hS hW (va_free hD hS hA isC hC)⟩
theorem pV_B {b ci q0 : Nat} {q : vw_C} {fs : List Value} {C : String} (hP : va_P D vwCl wd H) (hD : va_D A wd) (hK : va_K D vwCl tys s) (hc : vwCl[ci]? = some q) (he : wd[q0]? = some (b, .inr (ci, fs))) (hq : q.1 = C) (isT : List Nat) (hT : isT.filterMap (fun i => tys[i]?) = tysC) (isC : List Nat) (hn : va_nd isC = true) (hC : isC.map (fun i => wd[i]?) = wc.map some) : PreV s H C b (va_Pc (.ref b :: As) (pcB D tysC wc H.size)) As := by
  obtain ⟨h1, h2⟩ := pS_B (As := .ref b :: As) hP hD hK isT hT isC hn hC
  exact ⟨h1, by rw [← hq]; exact va_recv hK hP hc he, h2⟩
theorem pV_X {b ci q0 : Nat} {q : vw_C} {fs : List Value} {C : String} (hP : va_P D vwCl wd H) (hD : va_D A wd) (hK : va_K D vwCl tys s) (hS : va_S A s.heap H locs) (hA : ∀ q : Nat, s.heap.size ≤ q → A q) (hX : xT A s s.heap) (hc : vwCl[ci]? = some q) (he : wd[q0]? = some (b, .inr (ci, fs))) (hq : q.1 = C) (isT : List Nat) (hT : isT.filterMap (fun i => tys[i]?) = tysC) (isC : List Nat) (hn : va_nd isC = true) (hC : isC.map (fun i => wd[i]?) = wc.map some) : PreV s H C b (va_Pc (.ref b :: As) (pcX D tysC wc H.size)) As := by
  obtain ⟨h1, h2⟩ := pS_X (As := .ref b :: As) hP hD hK hS hA hX isT hT isC hn hC
  exact ⟨h1, by rw [← hq]; exact va_recv hK hP hc he, h2⟩
theorem k_I (hP : va_P D vwCl wd H) (hD : va_D A wd) (hS : va_S A H0 H locs) (hA : ∀ q : Nat, H0.size ≤ q → A q)
    (hr : va_Run p l e R s m args below meth c H locs cells slots mc ms (F0 m pc ls st0) rest (qcI D (va_A wc H.size) r w1 a) (va_A wc H.size))
    (isC isR : List Nat) (hC : isC.map (fun i => wd[i]?) = wc.map some) (hR : isR.map (fun i => wd[i]?) = wr.map some) (hn : va_nd isR = true) (hdis : ∀ i ∈ isR, i ∉ isC)
    (kk : ∀ (H1 : Heap) (locs1 : List Loc), va_P D vwCl (wr ++ w1) H1 → va_D A (wr ++ w1) → va_S A H0 H1 locs1 → W p l e R s m args below meth c H1 locs1 (cells + mc) (slots + ms) Q (F0 m (pc + 3) ls (.int r :: rest))) :
    W p l e R s m args below meth c H locs cells slots Q (F0 m pc ls st0) := by
  have hFc := va_free (wc := wc) hD hS hA isC hC
  refine va_calli hr hS (fun q _ h => hFc q h) hFc (fun x u t H1 locs1 ht hvm hw hB hz1 hk1 hS1 => ?_)
  obtain ⟨hP1, hD1⟩ := hB
  rw [ht] at hP1
  obtain ⟨hP2, hD2⟩ := va_join hP hD isC isR hC hR hn hdis hk1 hFc hP1 hD1
  rw [show x = r from hw]
  exact kk H1 locs1 hP2 hD2 hS1
theorem k_V (hP : va_P D vwCl wd H) (hD : va_D A wd) (hS : va_S A H0 H locs) (hA : ∀ q : Nat, H0.size ≤ q → A q)
    (hr : va_Run p l e R s m args below meth c H locs cells slots mc ms (F0 m pc ls st0) rest (qcV D (va_A wc H.size) w1 a) (va_A wc H.size))
    (isC isR : List Nat) (hC : isC.map (fun i => wd[i]?) = wc.map some) (hR : isR.map (fun i => wd[i]?) = wr.map some) (hn : va_nd isR = true) (hdis : ∀ i ∈ isR, i ∉ isC)
    (kk : ∀ (H1 : Heap) (locs1 : List Loc), va_P D vwCl (wr ++ w1) H1 → va_D A (wr ++ w1) → va_S A H0 H1 locs1 → W p l e R s m args below meth c H1 locs1 (cells + mc) (slots + ms) Q (F0 m (pc + 3) ls rest)) :
    W p l e R s m args below meth c H locs cells slots Q (F0 m pc ls st0) := by
  have hFc := va_free (wc := wc) hD hS hA isC hC
  refine va_callv hr hS (fun q _ h => hFc q h) hFc (fun u t H1 locs1 ht hvm hw hB hz1 hk1 hS1 => ?_)
  obtain ⟨hP1, hD1⟩ := hB
  rw [ht] at hP1
  obtain ⟨hP2, hD2⟩ := va_join hP hD isC isR hC hR hn hdis hk1 hFc hP1 hD1
  exact kk H1 locs1 hP2 hD2 hS1
/-- a call that throws, whatever is behind it: by the exception's cell -/
theorem k_X {E0 : String} (hP : va_P D vwCl wd H) (hD : va_D A wd) (hS : va_S A H0 H locs) (hA : ∀ q : Nat, H0.size ≤ q → A q)
    (hr : vx_Run p l e R s m args below meth c H locs cells slots mc ms (F0 m pc ls st0) rest (qcN D (va_A wc H.size) a) (xcX D (va_A wc H.size) E0 wc) (va_A wc H.size))
    (isC isR : List Nat) (hC : isC.map (fun i => wd[i]?) = wc.map some) (hR : isR.map (fun i => wd[i]?) = wr.map some) (hn : va_nd isR = true) (hdis : ∀ i ∈ isR, i ∉ isC)
    (kx : ∀ (ce : Cell) (q9 : Addr) (H1 : Heap) (locs1 : List Loc), va_P D vwCl (wr ++ wc) H1 → va_D A (wr ++ wc) → va_S A H0 H1 locs1 → H1[q9]? = some ce → ce.vm = .none → s.vm.findClass E0 = some ce.cls → vx_W p l e R s m args below meth c H1 locs1 (cells + mc) (slots + ms) Q (F0 m pc ls rest) q9) :
    W p l e R s m args below meth c H locs cells slots Q (F0 m pc ls st0) := by
  have hFc := va_free (wc := wc) hD hS hA isC hC
  intro T hT X
  rcases hr T hT X with ⟨v, st₀, t, T', L, h0, X', hL, e1, e2, hf, st⟩ | ⟨q, st₀, t, T', L, E, ce, h0, X', hL, e1, e2, ⟨hE, ⟨hP1, hD1⟩, hF⟩, hce, hcv, hcl, st⟩
  · exact hf.elim
  · obtain ⟨k1, k2, k3⟩ := vx_keep h0 e1 hS (fun q _ h => hFc q h) hFc hL hF
    subst hE
    rw [← e1] at hP1
    obtain ⟨hP2, hD2⟩ := va_join hP hD isC isR hC hR hn hdis k2 hFc hP1 hD1
    obtain ⟨t2, a1, b1⟩ := kx ce q T'.heap (locs ++ L) hP2 hD2 k3 (by rw [e1]; exact hce) hcv hcl T' rfl X'
    exact ⟨t2, st.trans a1, b1⟩
/-- .. and it goes on to the caller -/
theorem k_XX {E0 : String} (hlocks : meth.locks = false) (hex : ∀ x ∈ c.exceptionTable.toList, False) (hc : cells + mc ≤ 1) (hs : slots + ms ≤ 6) (hP : va_P D vwCl wd H) (hD : va_D A wd) (hS : va_S A s.heap H locs) (hA : ∀ q : Nat, s.heap.size ≤ q → A q)
    (hr : vx_Run p l e R s m args below meth c H locs cells slots mc ms (F0 m pc ls st0) rest (qcN D (va_A wc H.size) a) (xcX D (va_A wc H.size) E0 wc) (va_A wc H.size))
    (isC isR : List Nat) (hC : isC.map (fun i => wd[i]?) = wc.map some) (hR : isR.map (fun i => wd[i]?) = wr.map some) (hn : va_nd isR = true) (hdis : ∀ i ∈ isR, i ∉ isC) :
    W p l e R s m args below meth c H locs cells slots (vx_MQ below (qcN D A) (xcX D A E0 (wr ++ wc)) args s 1 6 A) (F0 m pc ls st0) := by
  refine k_X hP hD hS hA hr isC isR hC hR hn hdis (fun ce q9 H1 locs1 hP1 hD1 hS1 hce hcv hcl => ?_)
  exact vx_out (fun x hx => (hex x hx).elim) hlocks hce hcv hcl (fun t ht hv => ⟨rfl, ⟨by rw [ht]; exact hP1, hD1⟩, hS1.F ht⟩) hS1.2.2 hc hs
end OwnCall
end
section
/-! OWN ROWS: the worlds of the class (wC) and of the reference (wM), numbers that are naturals, array rows at such places -/
abbrev tyC (cI cZ : ClassId) : List (ClassId × FieldType) := [(cI, .int), (cZ, .boolean)]
abbrev wC (h0 a0 a1 a2 a3 a4 a5 : Nat) (cI cZ : ClassId) (bf pw hs lo lg rt : Nat → Int32) (nb fi fo en on cu ma : Int32) : va_W := [(h0, .inr (0, [.ref a0, .ref a1, .ref a2, .ref a3, .int nb, .ref a4, .int fi, .int fo, .int en, .ref a5, .int on, .int cu, .int ma])), (a0, .inl (cI, 64, .inl bf)), (a1, .inl (cI, 32768, .inl pw)), (a2, .inl (cI, 1024, .inl hs)), (a3, .inl (cZ, 512, .inl lo)), (a4, .inl (cI, 65536, .inl lg)), (a5, .inl (cI, 4, .inl rt))]
abbrev wM (h0 a0 a1 a2 a3 a4 a5 : Nat) (cI cZ : ClassId) (th : Int32) (bf pw hs lo lg rt : Nat → Int32) (nb fi fo en off cu ma : Int32) : va_W := [(h0, .inr (1, [.int th, .ref a1, .ref a2, .ref a3, .ref a4, .ref a5, .ref a0, .int fi, .int fo, .int en, .int nb, .int ma, .int off, .int cu])), (a0, .inl (cI, 64, .inl bf)), (a1, .inl (cI, 32768, .inl pw)), (a2, .inl (cI, 1024, .inl hs)), (a3, .inl (cZ, 512, .inl lo)), (a4, .inl (cI, 65536, .inl lg)), (a5, .inl (cI, 4, .inl rt))]
section OwnNum
variable {p : Program} {l : Launch} {e : Env} {R : Room} {s : State} {m : MethodId} {args : Array Value} {below : List Frame} {meth : Method} {c : Code} {H : Heap} {locs : List Loc} {cells slots : Nat} {Q : State → Prop}
variable {cc : ByteArray} {pc : Nat} {ls : Array Slot} {rest : List Value} {D : va_G} {cl : List vw_C} {A : Nat → Prop} {a : Nat} {tys : List (ClassId × FieldType)} {ws : va_W} {H0 : Heap}
theorem n_iald (hx : p.tables.exec = Jvm.exec) (hb : c.code = cc) (hK : va_K D cl tys s) (hP : va_P D cl ws H) (q0 t0 : Nat) {cA : ClassId} {n : Nat} {f : Nat → Int32} (ha : ws[q0]? = some (a, .inl (cA, n, .inl f))) (ht : tys[t0]? = some (cA, .int)) (k : Nat) (hk : k < n) (hn : n < 2 ^ 31) (hdg : decode cc pc = .ok (.iaload, 1))
    (kk : W p l e R s m args below meth c H locs cells slots Q (F0 m (pc + 1) ls (.int (f k) :: rest))) : W p l e R s m args below meth c H locs cells slots Q (F0 m pc ls (.int (nI k) :: .ref a :: rest)) :=
  va_iald hx hb hK hP q0 t0 ha ht (vp_in_nI hk hn) hdg (by rw [nI_clamp (Nat.lt_trans hk hn)]; exact kk)
theorem n_zald (hx : p.tables.exec = Jvm.exec) (hb : c.code = cc) (hK : va_K D cl tys s) (hP : va_P D cl ws H) (q0 t0 : Nat) {cA : ClassId} {n : Nat} {f : Nat → Int32} (ha : ws[q0]? = some (a, .inl (cA, n, .inl f))) (ht : tys[t0]? = some (cA, .boolean)) (k : Nat) (hk : k < n) (hn : n < 2 ^ 31) (hdg : decode cc pc = .ok (.baload, 1))
    (kk : W p l e R s m args below meth c H locs cells slots Q (F0 m (pc + 1) ls (.int (f k) :: rest))) : W p l e R s m args below meth c H locs cells slots Q (F0 m pc ls (.int (nI k) :: .ref a :: rest)) :=
  va_zald hx hb hK hP q0 t0 ha ht (vp_in_nI hk hn) hdg (by rw [nI_clamp (Nat.lt_trans hk hn)]; exact kk)
theorem n_iast (hx : p.tables.exec = Jvm.exec) (hb : c.code = cc) (hK : va_K D cl tys s) (hP : va_P D cl ws H) (hD : va_D A ws) (hS : va_S A H0 H locs) (q0 t0 : Nat) {cA : ClassId} {n : Nat} {f : Nat → Int32} (ha : ws[q0]? = some (a, .inl (cA, n, .inl f))) (ht : tys[t0]? = some (cA, .int)) (k : Nat) (hk : k < n) (hn : n < 2 ^ 31) {x : Int32} (hdg : decode cc pc = .ok (.iastore, 1))
    (kk : ∀ (H1 : Heap) (locs1 : List Loc), va_P D cl (ws.set q0 (a, .inl (cA, n, .inl (upd f k x)))) H1 → va_D A (ws.set q0 (a, .inl (cA, n, .inl (upd f k x)))) → va_S A H0 H1 locs1 → W p l e R s m args below meth c H1 locs1 cells slots Q (F0 m (pc + 1) ls rest)) : W p l e R s m args below meth c H locs cells slots Q (F0 m pc ls (.int x :: .int (nI k) :: .ref a :: rest)) :=
  va_iast hx hb hK hP hD hS q0 t0 ha ht (vp_in_nI hk hn) hdg (by rw [nI_clamp (Nat.lt_trans hk hn)]; exact kk)
theorem n_zast (hx : p.tables.exec = Jvm.exec) (hb : c.code = cc) (hK : va_K D cl tys s) (hP : va_P D cl ws H) (hD : va_D A ws) (hS : va_S A H0 H locs) (q0 t0 : Nat) {cA : ClassId} {n : Nat} {f : Nat → Int32} (ha : ws[q0]? = some (a, .inl (cA, n, .inl f))) (ht : tys[t0]? = some (cA, .boolean)) (k : Nat) (hk : k < n) (hn : n < 2 ^ 31) {x : Int32} (hxx : vp_nar .boolean x = x) (hdg : decode cc pc = .ok (.bastore, 1))
    (kk : ∀ (H1 : Heap) (locs1 : List Loc), va_P D cl (ws.set q0 (a, .inl (cA, n, .inl (upd f k x)))) H1 → va_D A (ws.set q0 (a, .inl (cA, n, .inl (upd f k x)))) → va_S A H0 H1 locs1 → W p l e R s m args below meth c H1 locs1 cells slots Q (F0 m (pc + 1) ls rest)) : W p l e R s m args below meth c H locs cells slots Q (F0 m pc ls (.int x :: .int (nI k) :: .ref a :: rest)) :=
  va_zast hx hb hK hP hD hS q0 t0 ha ht (vp_in_nI hk hn) hdg (by rw [nI_clamp (Nat.lt_trans hk hn), hxx]; exact kk)
theorem n_iadd (hx : p.tables.exec = Jvm.exec) (hb : c.code = cc) {x y : Nat} (hdg : decode cc pc = .ok (.iadd, 1)) (kk : W p l e R s m args below meth c H locs cells slots Q (F0 m (pc + 1) ls (.int (nI (x + y)) :: rest))) : W p l e R s m args below meth c H locs cells slots Q (F0 m pc ls (.int (nI y) :: .int (nI x) :: rest)) :=
  lv_iadd hx hb hdg (by rw [nI_add]; exact kk)
theorem n_isub (hx : p.tables.exec = Jvm.exec) (hb : c.code = cc) {x y : Nat} (h : y ≤ x) (hdg : decode cc pc = .ok (.isub, 1)) (kk : W p l e R s m args below meth c H locs cells slots Q (F0 m (pc + 1) ls (.int (nI (x - y)) :: rest))) : W p l e R s m args below meth c H locs cells slots Q (F0 m pc ls (.int (nI y) :: .int (nI x) :: rest)) :=
  lv_isub hx hb hdg (by rw [pk_sub h]; exact kk)
theorem n_imul (hx : p.tables.exec = Jvm.exec) (hb : c.code = cc) {x y : Nat} (hdg : decode cc pc = .ok (.imul, 1)) (kk : W p l e R s m args below meth c H locs cells slots Q (F0 m (pc + 1) ls (.int (nI (x * y)) :: rest))) : W p l e R s m args below meth c H locs cells slots Q (F0 m pc ls (.int (nI y) :: .int (nI x) :: rest)) :=
  lv_imul hx hb hdg (by rw [pk_mul]; exact kk)
theorem n_ge (hx : p.tables.exec = Jvm.exec) (hb : c.code = cc) {x y : Nat} (h1 : x < 2 ^ 31) (h2 : y < 2 ^ 31) {off : Int} {tgt : Nat} (hdg : decode cc pc = .ok (.if_icmp .ge off, 3)) (ht : (pc : Int) + off = (tgt : Int))
    (kt : y ≤ x → W p l e R s m args below meth c H locs cells slots Q (F0 m tgt ls rest)) (kf : x < y → W p l e R s m args below meth c H locs cells slots Q (F0 m (pc + 3) ls rest)) : W p l e R s m args below meth c H locs cells slots Q (F0 m pc ls (.int (nI y) :: .int (nI x) :: rest)) :=
  lv_icmp_ge hx hb hdg ht (fun q => kt ((nI_leI h2 h1).mp q)) (fun q => kf (Nat.lt_of_not_le fun z => q ((nI_leI h2 h1).mpr z)))
theorem n_lt (hx : p.tables.exec = Jvm.exec) (hb : c.code = cc) {x y : Nat} (h1 : x < 2 ^ 31) (h2 : y < 2 ^ 31) {off : Int} {tgt : Nat} (hdg : decode cc pc = .ok (.if_icmp .lt off, 3)) (ht : (pc : Int) + off = (tgt : Int))
    (kt : x < y → W p l e R s m args below meth c H locs cells slots Q (F0 m tgt ls rest)) (kf : y ≤ x → W p l e R s m args below meth c H locs cells slots Q (F0 m (pc + 3) ls rest)) : W p l e R s m args below meth c H locs cells slots Q (F0 m pc ls (.int (nI y) :: .int (nI x) :: rest)) :=
  lv_icmp_lt hx hb hdg ht (fun q => kt ((nI_ltI h1 h2).mp q)) (fun q => kf (Nat.le_of_not_lt fun z => q ((nI_ltI h1 h2).mpr z)))
theorem n_gt (hx : p.tables.exec = Jvm.exec) (hb : c.code = cc) {x y : Nat} (h1 : x < 2 ^ 31) (h2 : y < 2 ^ 31) {off : Int} {tgt : Nat} (hdg : decode cc pc = .ok (.if_icmp .gt off, 3)) (ht : (pc : Int) + off = (tgt : Int))
    (kt : y < x → W p l e R s m args below meth c H locs cells slots Q (F0 m tgt ls rest)) (kf : x ≤ y → W p l e R s m args below meth c H locs cells slots Q (F0 m (pc + 3) ls rest)) : W p l e R s m args below meth c H locs cells slots Q (F0 m pc ls (.int (nI y) :: .int (nI x) :: rest)) :=
  lv_icmp_gt hx hb hdg ht (fun q => kt ((nI_ltI h2 h1).mp q)) (fun q => kf (Nat.le_of_not_lt fun z => q ((nI_ltI h2 h1).mpr z)))
theorem n_le (hx : p.tables.exec = Jvm.exec) (hb : c.code = cc) {x y : Nat} (h1 : x < 2 ^ 31) (h2 : y < 2 ^ 31) {off : Int} {tgt : Nat} (hdg : decode cc pc = .ok (.if_icmp .le off, 3)) (ht : (pc : Int) + off = (tgt : Int))
    (kt : x ≤ y → W p l e R s m args below meth c H locs cells slots Q (F0 m tgt ls rest)) (kf : y < x → W p l e R s m args below meth c H locs cells slots Q (F0 m (pc + 3) ls rest)) : W p l e R s m args below meth c H locs cells slots Q (F0 m pc ls (.int (nI y) :: .int (nI x) :: rest)) :=
  lv_icmp_le hx hb hdg ht (fun q => kt ((nI_leI h1 h2).mp q)) (fun q => kf (Nat.lt_of_not_le fun z => q ((nI_leI h1 h2).mpr z)))
theorem n_iinc (hx : p.tables.exec = Jvm.exec) (hb : c.code = cc) {i nL k : Nat} {x : Nat} {lv lv' : List (Nat × Value)} (hdg : decode cc pc = .ok (.iinc i 1, 3)) (h : lv_has ls nL lv) (hk : lv[k]? = some (i, .int (nI x))) (hn : i < nL) (hl : (i, Value.int (nI (x + 1))) :: lv.filter (fun q => !(q.1 == i) && !(q.1 + 1 == i && q.2.category == 2)) = lv')
    (kk : ∀ ls' : Array Slot, lv_has ls' nL lv' → W p l e R s m args below meth c H locs cells slots Q (F0 m (pc + 3) ls' rest)) : W p l e R s m args below meth c H locs cells slots Q (F0 m pc ls rest) :=
  lv_iinc (v := nI (x + 1)) hx hb hdg h hk (nI_1 x) hn hl kk
theorem n_m16 (hx : p.tables.exec = Jvm.exec) (hb : c.code = cc) {x : Nat} (h : x < 2 ^ 31) (hdg : decode cc pc = .ok (.iand, 1)) (kk : W p l e R s m args below meth c H locs cells slots Q (F0 m (pc + 1) ls (.int (nI (x % 65536)) :: rest))) : W p l e R s m args below meth c H locs cells slots Q (F0 m pc ls (.int (nI 65535) :: .int (nI x) :: rest)) :=
  lv_iand hx hb hdg (by rw [pk_andN (Nat.lt_trans h (by decide)) (m := nI 65535) 16 (by decide)]; exact kk)
theorem n_r16 (hx : p.tables.exec = Jvm.exec) (hb : c.code = cc) {x : Nat} (h : x < 2 ^ 31) (hdg : decode cc pc = .ok (.irem, 1)) (kk : W p l e R s m args below meth c H locs cells slots Q (F0 m (pc + 1) ls (.int (nI (x % 65536)) :: rest))) : W p l e R s m args below meth c H locs cells slots Q (F0 m pc ls (.int (nI 65536) :: .int (nI x) :: rest)) :=
  lv_irem hx hb hdg (by decide) (by rw [pk_rem h (by omega) (by omega)]; exact kk)
/-- System.arraycopy between int rows of the world -/
theorem n_copyi {own : String} {index mm : Nat} {Ts : List Cond} (hx : p.tables.exec = Jvm.exec) (hb : c.code = cc) (hsz : ls.size = mm) (hml : c.maxLocals = mm) (hown : s.vm.findClass own = some m.cls) (hw : ∀ w ∈ [Cond.methodLink own index arraycopyName, Cond.native arraycopyName, Cond.static arraycopyName, Cond.initialized "java/lang/System"], w ∈ Ts) (hts : ∀ w ∈ Ts, w.before args s = true)
    (hK : va_K D cl tys s) (hP : va_P D cl ws H) (hD : va_D A ws) (hS : va_S A H0 H locs) (q0 q1 t0 : Nat) {b0 : Nat} {cA : ClassId} {n0 n1 : Nat} {f g : Nat → Int32} (ha0 : ws[q0]? = some (b0, .inl (cA, n0, .inl f))) (ha1 : ws[q1]? = some (a, .inl (cA, n1, .inl g))) (ht : tys[t0]? = some (cA, .int)) (sp dp k : Nat) (h1 : sp < 2 ^ 31) (h2 : dp < 2 ^ 31) (h3 : k < 2 ^ 31) (h4 : sp + k ≤ n0) (h5 : dp + k ≤ n1)
    (hframes : 1 ≤ R.frames) (hlocals : (rest.map fun v => v.category).sum + 18 ≤ R.locals) (hdg : decode cc pc = .ok (.invokestatic index, 3))
    (kk : ∀ (H1 : Heap) (locs1 : List Loc), va_P D cl (ws.set q1 (a, .inl (cA, n1, .inl (va_cpy f g sp dp k)))) H1 → va_D A (ws.set q1 (a, .inl (cA, n1, .inl (va_cpy f g sp dp k)))) → va_S A H0 H1 locs1 → W p l e R s m args below meth c H1 locs1 cells slots Q (F0 m (pc + 3) ls rest)) :
    W p l e R s m args below meth c H locs cells slots Q (F0 m pc ls (.int (nI k) :: .int (nI dp) :: .ref a :: .int (nI sp) :: .ref b0 :: rest)) := by
  have e1 := nI_clamp h1
  have e2 := nI_clamp h2
  have e3 := nI_clamp h3
  refine va_copyi hx hb (hml.trans hsz.symm) hown (hts _ (hw _ (by simp))) (hts _ (hw _ (by simp))) (hts _ (hw _ (by simp))) (hts _ (hw _ (by simp))) hK hP hD hS q0 q1 t0 t0 ha0 ha1 ht ht rfl (nI_pos h1) (nI_pos h2) (nI_pos h3) (by rw [e1, e3]; exact h4) (by rw [e2, e3]; exact h5) (fun _ _ => rfl) hframes hlocals hdg (fun H1 locs1 hP1 hD1 hS1 => ?_)
  rw [e1, e2, e3] at hP1 hD1
  exact kk H1 locs1 hP1 hD1 hS1
end OwnNum
/-- the first i places by g -/
def fl (g : Nat → Int32) (i : Nat) (f : Nat → Int32) : Nat → Int32 := fun j => if j < i then g j else f j
theorem fl_0 (g f : Nat → Int32) : fl g 0 f = f := by
  funext j
  simp [fl]
theorem fl_s (g f : Nat → Int32) (i : Nat) : upd (fl g i f) i (g i) = fl g (i + 1) f := by
  funext j
  by_cases h : j = i
  · subst h
    simp [fl, upd]
  · by_cases h2 : j < i
    · have h3 : j < i + 1 := by omega
      simp [fl, upd, h, h2, h3]
    · have h3 : ¬ j < i + 1 := by omega
      simp [fl, upd, h, h2, h3]
theorem fl_cpy (f g : Nat → Int32) (sp n : Nat) : va_cpy f g sp 0 n = fl (fun j => f (sp + j)) n g := by
  funext j
  simp [va_cpy, fl]
theorem cpy_0 (f g : Nat → Int32) (sp dp : Nat) : va_cpy f g sp dp 0 = g := by
  funext j
  have h : ¬ (dp ≤ j ∧ j < dp + 0) := by omega
  simp only [va_cpy]
  rw [if_neg h]
theorem cpy_s (f g : Nat → Int32) (sp dp n : Nat) : upd (va_cpy f g sp dp n) (dp + n) (f (sp + n)) = va_cpy f g sp dp (n + 1) := by
  funext j
  by_cases h : j = dp + n
  · subst h
    have h1 : dp ≤ dp + n ∧ dp + n < dp + (n + 1) := by omega
    simp only [va_cpy, upd]
    rw [if_pos h1]
    simp
  · by_cases h2 : dp ≤ j ∧ j < dp + n
    · have h3 : dp ≤ j ∧ j < dp + (n + 1) := by omega
      simp only [va_cpy, upd]
      rw [if_neg h, if_pos h2, if_pos h3]
    · have h3 : ¬ (dp ≤ j ∧ j < dp + (n + 1)) := by omega
      simp only [va_cpy, upd]
      rw [if_neg h, if_neg h2, if_neg h3]
end
section
/-! OWN ROWS, by program (wip/whole/gen): what the word lists hold -/
theorem flX0_init_9 : Cond.fieldLink RX0 9 "WordMedium" "buffer" "[I" ∈ wsX0_init := by decide +kernel
theorem flX0_init_14 : Cond.fieldLink RX0 14 "WordMedium" "pageWords" "[I" ∈ wsX0_init := by decide +kernel
theorem flX0_init_17 : Cond.fieldLink RX0 17 "WordMedium" "halfStamps" "[I" ∈ wsX0_init := by decide +kernel
theorem flX0_init_20 : Cond.fieldLink RX0 20 "WordMedium" "lostPages" "[Z" ∈ wsX0_init := by decide +kernel
theorem flX0_init_25 : Cond.fieldLink RX0 25 "WordMedium" "logWords" "[I" ∈ wsX0_init := by decide +kernel
theorem flX0_init_28 : Cond.fieldLink RX0 28 "WordMedium" "rootWords" "[I" ∈ wsX0_init := by decide +kernel
theorem flX0_init_31 : Cond.fieldLink RX0 31 "WordMedium" "powerOn" "Z" ∈ wsX0_init := by decide +kernel
theorem flX0_init_35 : Cond.fieldLink RX0 35 "WordMedium" "writesUntilCut" "I" ∈ wsX0_init := by decide +kernel
set_option maxRecDepth 20000 in
theorem inX0_init : ∀ w ∈ wsX00, w ∈ wsX0_init := by decide +kernel
theorem flX0_set_9 : Cond.fieldLink RX0 9 "WordMedium" "buffer" "[I" ∈ wsX0_set := by decide +kernel
set_option maxRecDepth 20000 in
theorem inX0_set : ∀ w ∈ wsX00, w ∈ wsX0_set := by decide +kernel
theorem flX0_fill_9 : Cond.fieldLink RX0 9 "WordMedium" "buffer" "[I" ∈ wsX0_fill := by decide +kernel
set_option maxRecDepth 20000 in
theorem inX0_fill : ∀ w ∈ wsX00, w ∈ wsX0_fill := by decide +kernel
theorem flX0_get_9 : Cond.fieldLink RX0 9 "WordMedium" "buffer" "[I" ∈ wsX0_get := by decide +kernel
set_option maxRecDepth 20000 in
theorem inX0_get : ∀ w ∈ wsX00, w ∈ wsX0_get := by decide +kernel
theorem flX0_sum_9 : Cond.fieldLink RX0 9 "WordMedium" "buffer" "[I" ∈ wsX0_sum := by decide +kernel
set_option maxRecDepth 20000 in
theorem inX0_sum : ∀ w ∈ wsX00, w ∈ wsX0_sum := by decide +kernel
theorem flX0_write_9 : Cond.fieldLink RX0 9 "WordMedium" "buffer" "[I" ∈ wsX0_write := by decide +kernel
set_option maxRecDepth 20000 in
theorem inX0_write : ∀ w ∈ wsX00, w ∈ wsX0_write := by decide +kernel
theorem flX0_read_9 : Cond.fieldLink RX0 9 "WordMedium" "buffer" "[I" ∈ wsX0_read := by decide +kernel
theorem flX0_read_14 : Cond.fieldLink RX0 14 "WordMedium" "pageWords" "[I" ∈ wsX0_read := by decide +kernel
set_option maxRecDepth 20000 in
theorem inX0_read : ∀ w ∈ wsX00, w ∈ wsX0_read := by decide +kernel
theorem flX0_copy_14 : Cond.fieldLink RX0 14 "WordMedium" "pageWords" "[I" ∈ wsX0_copy := by decide +kernel
set_option maxRecDepth 20000 in
theorem inX0_copy : ∀ w ∈ wsX00, w ∈ wsX0_copy := by decide +kernel
theorem flX0_lose_20 : Cond.fieldLink RX0 20 "WordMedium" "lostPages" "[Z" ∈ wsX0_lose := by decide +kernel
set_option maxRecDepth 20000 in
theorem inX0_lose : ∀ w ∈ wsX00, w ∈ wsX0_lose := by decide +kernel
theorem flX0_stamp_17 : Cond.fieldLink RX0 17 "WordMedium" "halfStamps" "[I" ∈ wsX0_stamp := by decide +kernel
set_option maxRecDepth 20000 in
theorem inX0_stamp : ∀ w ∈ wsX00, w ∈ wsX0_stamp := by decide +kernel
theorem flX0_append_84 : Cond.fieldLink RX0 84 "WordMedium" "logEnd" "I" ∈ wsX0_append := by decide +kernel
theorem flX0_append_87 : Cond.fieldLink RX0 87 "WordMedium" "logFirst" "I" ∈ wsX0_append := by decide +kernel
theorem flX0_append_25 : Cond.fieldLink RX0 25 "WordMedium" "logWords" "[I" ∈ wsX0_append := by decide +kernel
theorem flX0_append_9 : Cond.fieldLink RX0 9 "WordMedium" "buffer" "[I" ∈ wsX0_append := by decide +kernel
set_option maxRecDepth 20000 in
theorem inX0_append : ∀ w ∈ wsX00, w ∈ wsX0_append := by decide +kernel
theorem flX0_force_84 : Cond.fieldLink RX0 84 "WordMedium" "logEnd" "I" ∈ wsX0_force := by decide +kernel
theorem flX0_force_96 : Cond.fieldLink RX0 96 "WordMedium" "logForced" "I" ∈ wsX0_force := by decide +kernel
set_option maxRecDepth 20000 in
theorem inX0_force : ∀ w ∈ wsX00, w ∈ wsX0_force := by decide +kernel
theorem flX0_readLog_84 : Cond.fieldLink RX0 84 "WordMedium" "logEnd" "I" ∈ wsX0_readLog := by decide +kernel
theorem flX0_readLog_9 : Cond.fieldLink RX0 9 "WordMedium" "buffer" "[I" ∈ wsX0_readLog := by decide +kernel
theorem flX0_readLog_25 : Cond.fieldLink RX0 25 "WordMedium" "logWords" "[I" ∈ wsX0_readLog := by decide +kernel
set_option maxRecDepth 20000 in
theorem inX0_readLog : ∀ w ∈ wsX00, w ∈ wsX0_readLog := by decide +kernel
theorem flX0_giveBack_96 : Cond.fieldLink RX0 96 "WordMedium" "logForced" "I" ∈ wsX0_giveBack := by decide +kernel
theorem flX0_giveBack_87 : Cond.fieldLink RX0 87 "WordMedium" "logFirst" "I" ∈ wsX0_giveBack := by decide +kernel
set_option maxRecDepth 20000 in
theorem inX0_giveBack : ∀ w ∈ wsX00, w ∈ wsX0_giveBack := by decide +kernel
theorem flX0_log_87 : Cond.fieldLink RX0 87 "WordMedium" "logFirst" "I" ∈ wsX0_log := by decide +kernel
theorem flX0_log_96 : Cond.fieldLink RX0 96 "WordMedium" "logForced" "I" ∈ wsX0_log := by decide +kernel
theorem flX0_log_84 : Cond.fieldLink RX0 84 "WordMedium" "logEnd" "I" ∈ wsX0_log := by decide +kernel
set_option maxRecDepth 20000 in
theorem inX0_log : ∀ w ∈ wsX00, w ∈ wsX0_log := by decide +kernel
theorem flX0_setRoot_28 : Cond.fieldLink RX0 28 "WordMedium" "rootWords" "[I" ∈ wsX0_setRoot := by decide +kernel
set_option maxRecDepth 20000 in
theorem inX0_setRoot : ∀ w ∈ wsX00, w ∈ wsX0_setRoot := by decide +kernel
theorem flX0_root_28 : Cond.fieldLink RX0 28 "WordMedium" "rootWords" "[I" ∈ wsX0_root := by decide +kernel
set_option maxRecDepth 20000 in
theorem inX0_root : ∀ w ∈ wsX00, w ∈ wsX0_root := by decide +kernel
theorem flX0_writes_108 : Cond.fieldLink RX0 108 "WordMedium" "leastWritesMade" "I" ∈ wsX0_writes := by decide +kernel
set_option maxRecDepth 20000 in
theorem inX0_writes : ∀ w ∈ wsX00, w ∈ wsX0_writes := by decide +kernel
theorem flX0_cutAfter_35 : Cond.fieldLink RX0 35 "WordMedium" "writesUntilCut" "I" ∈ wsX0_cutAfter := by decide +kernel
set_option maxRecDepth 20000 in
theorem inX0_cutAfter : ∀ w ∈ wsX00, w ∈ wsX0_cutAfter := by decide +kernel
theorem flX0_cut_31 : Cond.fieldLink RX0 31 "WordMedium" "powerOn" "Z" ∈ wsX0_cut := by decide +kernel
set_option maxRecDepth 20000 in
theorem inX0_cut : ∀ w ∈ wsX00, w ∈ wsX0_cut := by decide +kernel
theorem flX0_start_31 : Cond.fieldLink RX0 31 "WordMedium" "powerOn" "Z" ∈ wsX0_start := by decide +kernel
theorem flX0_start_35 : Cond.fieldLink RX0 35 "WordMedium" "writesUntilCut" "I" ∈ wsX0_start := by decide +kernel
set_option maxRecDepth 20000 in
theorem inX0_start : ∀ w ∈ wsX00, w ∈ wsX0_start := by decide +kernel
theorem flX0_isOn_31 : Cond.fieldLink RX0 31 "WordMedium" "powerOn" "Z" ∈ wsX0_isOn := by decide +kernel
set_option maxRecDepth 20000 in
theorem inX0_isOn : ∀ w ∈ wsX00, w ∈ wsX0_isOn := by decide +kernel
theorem flX0_needPower_31 : Cond.fieldLink RX0 31 "WordMedium" "powerOn" "Z" ∈ wsX0_needPower := by decide +kernel
set_option maxRecDepth 20000 in
theorem inX0_needPower : ∀ w ∈ wsX00, w ∈ wsX0_needPower := by decide +kernel
theorem flX0_needPlace_87 : Cond.fieldLink RX0 87 "WordMedium" "logFirst" "I" ∈ wsX0_needPlace := by decide +kernel
set_option maxRecDepth 20000 in
theorem inX0_needPlace : ∀ w ∈ wsX00, w ∈ wsX0_needPlace := by decide +kernel
theorem flX0_pageState_20 : Cond.fieldLink RX0 20 "WordMedium" "lostPages" "[Z" ∈ wsX0_pageState := by decide +kernel
theorem flX0_pageState_17 : Cond.fieldLink RX0 17 "WordMedium" "halfStamps" "[I" ∈ wsX0_pageState := by decide +kernel
set_option maxRecDepth 20000 in
theorem inX0_pageState : ∀ w ∈ wsX00, w ∈ wsX0_pageState := by decide +kernel
theorem flX0_writePage_128 : Cond.fieldLink RX0 128 "WordMedium" "pageWritesBegun" "I" ∈ wsX0_writePage := by decide +kernel
theorem flX0_writePage_14 : Cond.fieldLink RX0 14 "WordMedium" "pageWords" "[I" ∈ wsX0_writePage := by decide +kernel
theorem flX0_writePage_17 : Cond.fieldLink RX0 17 "WordMedium" "halfStamps" "[I" ∈ wsX0_writePage := by decide +kernel
theorem flX0_writePage_20 : Cond.fieldLink RX0 20 "WordMedium" "lostPages" "[Z" ∈ wsX0_writePage := by decide +kernel
set_option maxRecDepth 20000 in
theorem inX0_writePage : ∀ w ∈ wsX00, w ∈ wsX0_writePage := by decide +kernel
theorem flX0_makeLeastWrite_35 : Cond.fieldLink RX0 35 "WordMedium" "writesUntilCut" "I" ∈ wsX0_makeLeastWrite := by decide +kernel
theorem flX0_makeLeastWrite_108 : Cond.fieldLink RX0 108 "WordMedium" "leastWritesMade" "I" ∈ wsX0_makeLeastWrite := by decide +kernel
set_option maxRecDepth 20000 in
theorem inX0_makeLeastWrite : ∀ w ∈ wsX00, w ∈ wsX0_makeLeastWrite := by decide +kernel
theorem flX0_failPower_31 : Cond.fieldLink RX0 31 "WordMedium" "powerOn" "Z" ∈ wsX0_failPower := by decide +kernel
theorem flX0_failPower_96 : Cond.fieldLink RX0 96 "WordMedium" "logForced" "I" ∈ wsX0_failPower := by decide +kernel
theorem flX0_failPower_84 : Cond.fieldLink RX0 84 "WordMedium" "logEnd" "I" ∈ wsX0_failPower := by decide +kernel
theorem flX0_failPower_9 : Cond.fieldLink RX0 9 "WordMedium" "buffer" "[I" ∈ wsX0_failPower := by decide +kernel
set_option maxRecDepth 20000 in
theorem inX0_failPower : ∀ w ∈ wsX00, w ∈ wsX0_failPower := by decide +kernel
theorem flX1_init_8 : Cond.fieldLink RX1 8 "WordMediumModel" "pages" "[I" ∈ wsX1_init := by decide +kernel
theorem flX1_init_14 : Cond.fieldLink RX1 14 "WordMediumModel" "stamps" "[I" ∈ wsX1_init := by decide +kernel
theorem flX1_init_17 : Cond.fieldLink RX1 17 "WordMediumModel" "lost" "[Z" ∈ wsX1_init := by decide +kernel
theorem flX1_init_22 : Cond.fieldLink RX1 22 "WordMediumModel" "log" "[I" ∈ wsX1_init := by decide +kernel
theorem flX1_init_25 : Cond.fieldLink RX1 25 "WordMediumModel" "roots" "[I" ∈ wsX1_init := by decide +kernel
theorem flX1_init_28 : Cond.fieldLink RX1 28 "WordMediumModel" "buffer" "[I" ∈ wsX1_init := by decide +kernel
theorem flX1_init_31 : Cond.fieldLink RX1 31 "WordMediumModel" "left" "I" ∈ wsX1_init := by decide +kernel
theorem flX1_init_35 : Cond.fieldLink RX1 35 "WordMediumModel" "first" "I" ∈ wsX1_init := by decide +kernel
set_option maxRecDepth 20000 in
theorem inX1_init : ∀ w ∈ wsX10, w ∈ wsX1_init := by decide +kernel
theorem flX1_thrown_38 : Cond.fieldLink RX1 38 "WordMediumModel" "thrown" "I" ∈ wsX1_thrown := by decide +kernel
set_option maxRecDepth 20000 in
theorem inX1_thrown : ∀ w ∈ wsX10, w ∈ wsX1_thrown := by decide +kernel
theorem flX1_refused_38 : Cond.fieldLink RX1 38 "WordMediumModel" "thrown" "I" ∈ wsX1_refused := by decide +kernel
set_option maxRecDepth 20000 in
theorem inX1_refused : ∀ w ∈ wsX10, w ∈ wsX1_refused := by decide +kernel
theorem flX1_fail_45 : Cond.fieldLink RX1 45 "WordMediumModel" "off" "Z" ∈ wsX1_fail := by decide +kernel
theorem flX1_fail_49 : Cond.fieldLink RX1 49 "WordMediumModel" "forced" "I" ∈ wsX1_fail := by decide +kernel
theorem flX1_fail_52 : Cond.fieldLink RX1 52 "WordMediumModel" "end" "I" ∈ wsX1_fail := by decide +kernel
theorem flX1_fail_28 : Cond.fieldLink RX1 28 "WordMediumModel" "buffer" "[I" ∈ wsX1_fail := by decide +kernel
set_option maxRecDepth 20000 in
theorem inX1_fail : ∀ w ∈ wsX10, w ∈ wsX1_fail := by decide +kernel
theorem flX1_canWrite_31 : Cond.fieldLink RX1 31 "WordMediumModel" "left" "I" ∈ wsX1_canWrite := by decide +kernel
theorem flX1_canWrite_58 : Cond.fieldLink RX1 58 "WordMediumModel" "made" "I" ∈ wsX1_canWrite := by decide +kernel
set_option maxRecDepth 20000 in
theorem inX1_canWrite : ∀ w ∈ wsX10, w ∈ wsX1_canWrite := by decide +kernel
theorem flX1_set_45 : Cond.fieldLink RX1 45 "WordMediumModel" "off" "Z" ∈ wsX1_set := by decide +kernel
theorem flX1_set_28 : Cond.fieldLink RX1 28 "WordMediumModel" "buffer" "[I" ∈ wsX1_set := by decide +kernel
set_option maxRecDepth 20000 in
theorem inX1_set : ∀ w ∈ wsX10, w ∈ wsX1_set := by decide +kernel
theorem flX1_fill_45 : Cond.fieldLink RX1 45 "WordMediumModel" "off" "Z" ∈ wsX1_fill := by decide +kernel
theorem flX1_fill_28 : Cond.fieldLink RX1 28 "WordMediumModel" "buffer" "[I" ∈ wsX1_fill := by decide +kernel
set_option maxRecDepth 20000 in
theorem inX1_fill : ∀ w ∈ wsX10, w ∈ wsX1_fill := by decide +kernel
theorem flX1_get_28 : Cond.fieldLink RX1 28 "WordMediumModel" "buffer" "[I" ∈ wsX1_get := by decide +kernel
set_option maxRecDepth 20000 in
theorem inX1_get : ∀ w ∈ wsX10, w ∈ wsX1_get := by decide +kernel
theorem flX1_sum_38 : Cond.fieldLink RX1 38 "WordMediumModel" "thrown" "I" ∈ wsX1_sum := by decide +kernel
theorem flX1_sum_28 : Cond.fieldLink RX1 28 "WordMediumModel" "buffer" "[I" ∈ wsX1_sum := by decide +kernel
set_option maxRecDepth 20000 in
theorem inX1_sum : ∀ w ∈ wsX10, w ∈ wsX1_sum := by decide +kernel
theorem flX1_isTorn_14 : Cond.fieldLink RX1 14 "WordMediumModel" "stamps" "[I" ∈ wsX1_isTorn := by decide +kernel
set_option maxRecDepth 20000 in
theorem inX1_isTorn : ∀ w ∈ wsX10, w ∈ wsX1_isTorn := by decide +kernel
theorem flX1_stateOf_17 : Cond.fieldLink RX1 17 "WordMediumModel" "lost" "[Z" ∈ wsX1_stateOf := by decide +kernel
set_option maxRecDepth 20000 in
theorem inX1_stateOf : ∀ w ∈ wsX10, w ∈ wsX1_stateOf := by decide +kernel
theorem flX1_writePage_69 : Cond.fieldLink RX1 69 "WordMediumModel" "pageWrites" "I" ∈ wsX1_writePage := by decide +kernel
theorem flX1_writePage_8 : Cond.fieldLink RX1 8 "WordMediumModel" "pages" "[I" ∈ wsX1_writePage := by decide +kernel
theorem flX1_writePage_28 : Cond.fieldLink RX1 28 "WordMediumModel" "buffer" "[I" ∈ wsX1_writePage := by decide +kernel
theorem flX1_writePage_14 : Cond.fieldLink RX1 14 "WordMediumModel" "stamps" "[I" ∈ wsX1_writePage := by decide +kernel
theorem flX1_writePage_17 : Cond.fieldLink RX1 17 "WordMediumModel" "lost" "[Z" ∈ wsX1_writePage := by decide +kernel
set_option maxRecDepth 20000 in
theorem inX1_writePage : ∀ w ∈ wsX10, w ∈ wsX1_writePage := by decide +kernel
theorem flX1_write_45 : Cond.fieldLink RX1 45 "WordMediumModel" "off" "Z" ∈ wsX1_write := by decide +kernel
set_option maxRecDepth 20000 in
theorem inX1_write : ∀ w ∈ wsX10, w ∈ wsX1_write := by decide +kernel
theorem flX1_read_45 : Cond.fieldLink RX1 45 "WordMediumModel" "off" "Z" ∈ wsX1_read := by decide +kernel
theorem flX1_read_28 : Cond.fieldLink RX1 28 "WordMediumModel" "buffer" "[I" ∈ wsX1_read := by decide +kernel
theorem flX1_read_17 : Cond.fieldLink RX1 17 "WordMediumModel" "lost" "[Z" ∈ wsX1_read := by decide +kernel
theorem flX1_read_8 : Cond.fieldLink RX1 8 "WordMediumModel" "pages" "[I" ∈ wsX1_read := by decide +kernel
set_option maxRecDepth 20000 in
theorem inX1_read : ∀ w ∈ wsX10, w ∈ wsX1_read := by decide +kernel
theorem flX1_copy_45 : Cond.fieldLink RX1 45 "WordMediumModel" "off" "Z" ∈ wsX1_copy := by decide +kernel
set_option maxRecDepth 20000 in
theorem inX1_copy : ∀ w ∈ wsX10, w ∈ wsX1_copy := by decide +kernel
theorem flX1_append_45 : Cond.fieldLink RX1 45 "WordMediumModel" "off" "Z" ∈ wsX1_append := by decide +kernel
theorem flX1_append_52 : Cond.fieldLink RX1 52 "WordMediumModel" "end" "I" ∈ wsX1_append := by decide +kernel
theorem flX1_append_35 : Cond.fieldLink RX1 35 "WordMediumModel" "first" "I" ∈ wsX1_append := by decide +kernel
theorem flX1_append_22 : Cond.fieldLink RX1 22 "WordMediumModel" "log" "[I" ∈ wsX1_append := by decide +kernel
theorem flX1_append_28 : Cond.fieldLink RX1 28 "WordMediumModel" "buffer" "[I" ∈ wsX1_append := by decide +kernel
set_option maxRecDepth 20000 in
theorem inX1_append : ∀ w ∈ wsX10, w ∈ wsX1_append := by decide +kernel
theorem flX1_force_45 : Cond.fieldLink RX1 45 "WordMediumModel" "off" "Z" ∈ wsX1_force := by decide +kernel
theorem flX1_force_35 : Cond.fieldLink RX1 35 "WordMediumModel" "first" "I" ∈ wsX1_force := by decide +kernel
theorem flX1_force_52 : Cond.fieldLink RX1 52 "WordMediumModel" "end" "I" ∈ wsX1_force := by decide +kernel
theorem flX1_force_49 : Cond.fieldLink RX1 49 "WordMediumModel" "forced" "I" ∈ wsX1_force := by decide +kernel
set_option maxRecDepth 20000 in
theorem inX1_force : ∀ w ∈ wsX10, w ∈ wsX1_force := by decide +kernel
theorem flX1_readLog_35 : Cond.fieldLink RX1 35 "WordMediumModel" "first" "I" ∈ wsX1_readLog := by decide +kernel
theorem flX1_readLog_52 : Cond.fieldLink RX1 52 "WordMediumModel" "end" "I" ∈ wsX1_readLog := by decide +kernel
theorem flX1_readLog_45 : Cond.fieldLink RX1 45 "WordMediumModel" "off" "Z" ∈ wsX1_readLog := by decide +kernel
theorem flX1_readLog_28 : Cond.fieldLink RX1 28 "WordMediumModel" "buffer" "[I" ∈ wsX1_readLog := by decide +kernel
theorem flX1_readLog_22 : Cond.fieldLink RX1 22 "WordMediumModel" "log" "[I" ∈ wsX1_readLog := by decide +kernel
set_option maxRecDepth 20000 in
theorem inX1_readLog : ∀ w ∈ wsX10, w ∈ wsX1_readLog := by decide +kernel
theorem flX1_giveBack_45 : Cond.fieldLink RX1 45 "WordMediumModel" "off" "Z" ∈ wsX1_giveBack := by decide +kernel
theorem flX1_giveBack_35 : Cond.fieldLink RX1 35 "WordMediumModel" "first" "I" ∈ wsX1_giveBack := by decide +kernel
theorem flX1_giveBack_49 : Cond.fieldLink RX1 49 "WordMediumModel" "forced" "I" ∈ wsX1_giveBack := by decide +kernel
set_option maxRecDepth 20000 in
theorem inX1_giveBack : ∀ w ∈ wsX10, w ∈ wsX1_giveBack := by decide +kernel
theorem flX1_log_35 : Cond.fieldLink RX1 35 "WordMediumModel" "first" "I" ∈ wsX1_log := by decide +kernel
theorem flX1_log_49 : Cond.fieldLink RX1 49 "WordMediumModel" "forced" "I" ∈ wsX1_log := by decide +kernel
theorem flX1_log_52 : Cond.fieldLink RX1 52 "WordMediumModel" "end" "I" ∈ wsX1_log := by decide +kernel
set_option maxRecDepth 20000 in
theorem inX1_log : ∀ w ∈ wsX10, w ∈ wsX1_log := by decide +kernel
theorem flX1_setRoot_45 : Cond.fieldLink RX1 45 "WordMediumModel" "off" "Z" ∈ wsX1_setRoot := by decide +kernel
theorem flX1_setRoot_25 : Cond.fieldLink RX1 25 "WordMediumModel" "roots" "[I" ∈ wsX1_setRoot := by decide +kernel
set_option maxRecDepth 20000 in
theorem inX1_setRoot : ∀ w ∈ wsX10, w ∈ wsX1_setRoot := by decide +kernel
theorem flX1_root_25 : Cond.fieldLink RX1 25 "WordMediumModel" "roots" "[I" ∈ wsX1_root := by decide +kernel
set_option maxRecDepth 20000 in
theorem inX1_root : ∀ w ∈ wsX10, w ∈ wsX1_root := by decide +kernel
theorem flX1_lose_17 : Cond.fieldLink RX1 17 "WordMediumModel" "lost" "[Z" ∈ wsX1_lose := by decide +kernel
set_option maxRecDepth 20000 in
theorem inX1_lose : ∀ w ∈ wsX10, w ∈ wsX1_lose := by decide +kernel
theorem flX1_stamp_14 : Cond.fieldLink RX1 14 "WordMediumModel" "stamps" "[I" ∈ wsX1_stamp := by decide +kernel
set_option maxRecDepth 20000 in
theorem inX1_stamp : ∀ w ∈ wsX10, w ∈ wsX1_stamp := by decide +kernel
theorem flX1_writes_38 : Cond.fieldLink RX1 38 "WordMediumModel" "thrown" "I" ∈ wsX1_writes := by decide +kernel
theorem flX1_writes_58 : Cond.fieldLink RX1 58 "WordMediumModel" "made" "I" ∈ wsX1_writes := by decide +kernel
set_option maxRecDepth 20000 in
theorem inX1_writes : ∀ w ∈ wsX10, w ∈ wsX1_writes := by decide +kernel
theorem flX1_cutAfter_31 : Cond.fieldLink RX1 31 "WordMediumModel" "left" "I" ∈ wsX1_cutAfter := by decide +kernel
set_option maxRecDepth 20000 in
theorem inX1_cutAfter : ∀ w ∈ wsX10, w ∈ wsX1_cutAfter := by decide +kernel
theorem flX1_cut_38 : Cond.fieldLink RX1 38 "WordMediumModel" "thrown" "I" ∈ wsX1_cut := by decide +kernel
theorem flX1_cut_45 : Cond.fieldLink RX1 45 "WordMediumModel" "off" "Z" ∈ wsX1_cut := by decide +kernel
set_option maxRecDepth 20000 in
theorem inX1_cut : ∀ w ∈ wsX10, w ∈ wsX1_cut := by decide +kernel
theorem flX1_start_38 : Cond.fieldLink RX1 38 "WordMediumModel" "thrown" "I" ∈ wsX1_start := by decide +kernel
theorem flX1_start_45 : Cond.fieldLink RX1 45 "WordMediumModel" "off" "Z" ∈ wsX1_start := by decide +kernel
theorem flX1_start_31 : Cond.fieldLink RX1 31 "WordMediumModel" "left" "I" ∈ wsX1_start := by decide +kernel
set_option maxRecDepth 20000 in
theorem inX1_start : ∀ w ∈ wsX10, w ∈ wsX1_start := by decide +kernel
theorem flX1_isOn_38 : Cond.fieldLink RX1 38 "WordMediumModel" "thrown" "I" ∈ wsX1_isOn := by decide +kernel
theorem flX1_isOn_45 : Cond.fieldLink RX1 45 "WordMediumModel" "off" "Z" ∈ wsX1_isOn := by decide +kernel
set_option maxRecDepth 20000 in
theorem inX1_isOn : ∀ w ∈ wsX10, w ∈ wsX1_isOn := by decide +kernel
set_option maxRecDepth 20000 in
theorem xNg_xISE : ∀ w ∈ (vx_atS RX0 77 xISE xSup).filter (fun w => !goodWord w), w ∈ xWs := by decide +kernel
set_option maxRecDepth 20000 in
theorem xGd_xISE : (Cond.classLink RX0 73 xISE :: Cond.initialized xISE :: vx_atS RX0 77 xISE xSup).all vx_ot = true := by decide +kernel
set_option maxRecDepth 20000 in
theorem xNg_xIOB : ∀ w ∈ (vx_atS RX0 107 xIOB xSup).filter (fun w => !goodWord w), w ∈ xWs := by decide +kernel
set_option maxRecDepth 20000 in
theorem xGd_xIOB : (Cond.classLink RX0 103 xIOB :: Cond.initialized xIOB :: vx_atS RX0 107 xIOB xSup).all vx_ot = true := by decide +kernel
set_option maxRecDepth 20000 in
theorem xNg_xIAE : ∀ w ∈ (vx_atS RX0 115 xIAE xSup).filter (fun w => !goodWord w), w ∈ xWs := by decide +kernel
set_option maxRecDepth 20000 in
theorem xGd_xIAE : (Cond.classLink RX0 111 xIAE :: Cond.initialized xIAE :: vx_atS RX0 115 xIAE xSup).all vx_ot = true := by decide +kernel
theorem thX0_needPower_k : Cond.classLink RX0 73 xISE ∈ wsX0_needPower := by decide +kernel
theorem thX0_needPower_i : Cond.initialized xISE ∈ wsX0_needPower := by decide +kernel
set_option maxRecDepth 20000 in
theorem thX0_needPower_g : ∀ w ∈ (vx_atS RX0 77 xISE xSup).filter goodWord, w ∈ wsX0_needPower := by decide +kernel
theorem thX0_needIndex_k : Cond.classLink RX0 103 xIOB ∈ wsX0_needIndex := by decide +kernel
theorem thX0_needIndex_i : Cond.initialized xIOB ∈ wsX0_needIndex := by decide +kernel
set_option maxRecDepth 20000 in
theorem thX0_needIndex_g : ∀ w ∈ (vx_atS RX0 107 xIOB xSup).filter goodWord, w ∈ wsX0_needIndex := by decide +kernel
theorem thX0_needWordCount_k : Cond.classLink RX0 111 xIAE ∈ wsX0_needWordCount := by decide +kernel
theorem thX0_needWordCount_i : Cond.initialized xIAE ∈ wsX0_needWordCount := by decide +kernel
set_option maxRecDepth 20000 in
theorem thX0_needWordCount_g : ∀ w ∈ (vx_atS RX0 115 xIAE xSup).filter goodWord, w ∈ wsX0_needWordCount := by decide +kernel
theorem thX0_needPlace_k : Cond.classLink RX0 111 xIAE ∈ wsX0_needPlace := by decide +kernel
theorem thX0_needPlace_i : Cond.initialized xIAE ∈ wsX0_needPlace := by decide +kernel
set_option maxRecDepth 20000 in
theorem thX0_needPlace_g : ∀ w ∈ (vx_atS RX0 115 xIAE xSup).filter goodWord, w ∈ wsX0_needPlace := by decide +kernel
theorem thX0_copy_k : Cond.classLink RX0 73 xISE ∈ wsX0_copy := by decide +kernel
theorem thX0_copy_i : Cond.initialized xISE ∈ wsX0_copy := by decide +kernel
set_option maxRecDepth 20000 in
theorem thX0_copy_g : ∀ w ∈ (vx_atS RX0 77 xISE xSup).filter goodWord, w ∈ wsX0_copy := by decide +kernel
theorem thX0_log_k : Cond.classLink RX0 103 xIOB ∈ wsX0_log := by decide +kernel
theorem thX0_log_i : Cond.initialized xIOB ∈ wsX0_log := by decide +kernel
set_option maxRecDepth 20000 in
theorem thX0_log_g : ∀ w ∈ (vx_atS RX0 107 xIOB xSup).filter goodWord, w ∈ wsX0_log := by decide +kernel
theorem thX0_cutAfter_k : Cond.classLink RX0 111 xIAE ∈ wsX0_cutAfter := by decide +kernel
theorem thX0_cutAfter_i : Cond.initialized xIAE ∈ wsX0_cutAfter := by decide +kernel
set_option maxRecDepth 20000 in
theorem thX0_cutAfter_g : ∀ w ∈ (vx_atS RX0 115 xIAE xSup).filter goodWord, w ∈ wsX0_cutAfter := by decide +kernel
theorem acX0_writePage : ∀ w ∈ [Cond.methodLink RX0 67 arraycopyName, Cond.native arraycopyName, Cond.static arraycopyName, Cond.initialized "java/lang/System"], w ∈ wsX0_writePage := by decide +kernel
theorem acX0_read : ∀ w ∈ [Cond.methodLink RX0 67 arraycopyName, Cond.native arraycopyName, Cond.static arraycopyName, Cond.initialized "java/lang/System"], w ∈ wsX0_read := by decide +kernel
end
section
/-! OWN ROWS, by program: the class, its small methods -/
theorem ix_nlt {x : Int32} {N : Nat} (h : x < 0 ∨ nI N ≤ x) (h2 : ¬ x < 0) : ¬ x < nI N := by
  rcases h with h | h
  · exact absurd h h2
  · exact Int32.not_lt.mpr h
theorem pl_nle {x f t : Int32} (h : x < f ∨ t < x) (h2 : ¬ x < f) : ¬ x ≤ t := by
  rcases h with h | h
  · exact absurd h h2
  · exact Int32.not_le.mpr h
set_option maxHeartbeats 4000000 in
set_option maxRecDepth 100000 in
theorem tX0_needPower_ok {l : Launch} {D : va_G} {cI cZ : ClassId} {h0 a0 a1 a2 a3 a4 a5 : Nat} (bf pw hs lo lg rt : Nat → Int32) (nb : Int32) (fi fo en : Nat) (cu ma : Int32) : RV l yX0_needPower wsX0_needPower 6 0 0 D (tyC cI cZ) (wC h0 a0 a1 a2 a3 a4 a5 cI cZ bf pw hs lo lg rt nb (nI fi) (nI fo) (nI en) 1 cu ma) [.ref h0] (wC h0 a0 a1 a2 a3 a4 a5 cI cZ bf pw hs lo lg rt nb (nI fi) (nI fo) (nI en) 1 cu ma) := by
  refine st_V (cc := cX0_needPower) (maxL := 1) (ret := none) (by decide +kernel) rfl (Nat.le_of_ble_eq_true rfl) ?_
  intro p e s m below meth c A hx hb hr hts hown hml hlocks hK hP hD hA hS ls hl
  have hown : s.vm.findClass RX0 = some m.cls := hown
  have hl : lv_has ls 1 [(0, .ref h0)] := hl
  refine lv_aload_n hx hb dX0_needPower_0 rfl (lv_at hl 0 rfl) ?_
  refine va_get (ci := 0) (v := .int 1) (C := RX0) (T := TX0) (N := 13) hx hb hts inX0_needPower hown hK hP 0 rfl rfl 10 (by decide) (hts _ flX0_needPower_31) (fun _ h9 => h9) rfl dX0_needPower_1 ?_
  refine lv_if_ne (tgt := 17) hx hb dX0_needPower_4 (by decide) (fun c_4 => ?_) (fun c_4 => absurd c_4 (by decide))
  exact e_V hx hb hr hlocks hP hD hS dX0_needPower_17
set_option maxHeartbeats 4000000 in
set_option maxRecDepth 100000 in
theorem tX0_needPower_x {l : Launch} {D : va_G} {cI cZ : ClassId} {h0 a0 a1 a2 a3 a4 a5 : Nat} (hl0 : l.stackTraces = false) (bf pw hs lo lg rt : Nat → Int32) (nb : Int32) (fi fo en : Nat) (cu ma : Int32) : RX l yX0_needPower wsX0_needPower 6 D (tyC cI cZ) (wC h0 a0 a1 a2 a3 a4 a5 cI cZ bf pw hs lo lg rt nb (nI fi) (nI fo) (nI en) 0 cu ma) [.ref h0] xISE := by
  refine st_X (cc := cX0_needPower) (maxL := 1) (ret := none) (by decide +kernel) rfl (Nat.le_of_ble_eq_true rfl) ?_
  intro p e s m below meth c A hx hb hr hts hown hml hlocks hK hP hD hA hS ls hl hT hex
  have hown : s.vm.findClass RX0 = some m.cls := hown
  have hl : lv_has ls 1 [(0, .ref h0)] := hl
  refine lv_aload_n hx hb dX0_needPower_0 rfl (lv_at hl 0 rfl) ?_
  refine va_get (ci := 0) (v := .int 0) (C := RX0) (T := TX0) (N := 13) hx hb hts inX0_needPower hown hK hP 0 rfl rfl 10 (by decide) (hts _ flX0_needPower_31) (fun _ h9 => h9) rfl dX0_needPower_1 ?_
  refine lv_if_ne (tgt := 17) hx hb dX0_needPower_4 (by decide) (fun c_4 => absurd (by decide) c_4) (fun c_4 => ?_)
  exact e_X (text := "power is off") hx hb hl0 hown rfl hts (by decide +kernel) thX0_needPower_k thX0_needPower_i thX0_needPower_g xNg_xISE xGd_xISE (by decide) hT hlocks hex hP hD hS hl.1 hml dX0_needPower_7 dX0_needPower_10 dX0_needPower_11 dX0_needPower_13 dX0_needPower_16 (Nat.le_of_ble_eq_true rfl) (Nat.le_of_ble_eq_true rfl) (Nat.le_of_ble_eq_true rfl) (Nat.le_of_ble_eq_true rfl) (Nat.le_of_ble_eq_true rfl) (Nat.le_of_ble_eq_true rfl)
set_option maxHeartbeats 4000000 in
set_option maxRecDepth 100000 in
theorem tX0_needIndex_ok {l : Launch} {D : va_G} (k N : Nat) (hk : k < N) (hN : N < 2 ^ 31) : RV l yX0_needIndex wsX0_needIndex 6 0 0 D [] ([]) [.int (nI k), .int (nI N)] ([]) := by
  refine st_V (cc := cX0_needIndex) (maxL := 2) (ret := none) (by decide +kernel) rfl (Nat.le_of_ble_eq_true rfl) ?_
  intro p e s m below meth c A hx hb hr hts hown hml hlocks hK hP hD hA hS ls hl
  have hown : s.vm.findClass RX0 = some m.cls := hown
  have hl : lv_has ls 2 [(0, .int (nI k)), (1, .int (nI N))] := hl
  refine lv_iload_n hx hb dX0_needIndex_0 rfl (lv_at hl 0 rfl) ?_
  refine lv_if_lt (tgt := 9) hx hb dX0_needIndex_1 (by decide) (fun c_1 => absurd c_1 (nI_pos (by omega))) (fun c_1 => ?_)
  refine lv_iload_n hx hb dX0_needIndex_4 rfl (lv_at hl 0 rfl) ?_
  refine lv_iload_n hx hb dX0_needIndex_5 rfl (lv_at hl 1 rfl) ?_
  refine n_lt (tgt := 19) hx hb (by omega) (by omega) dX0_needIndex_6 (by decide) (fun c_6 => ?_) (fun c_6 => absurd c_6 (by omega))
  exact e_V hx hb hr hlocks hP hD hS dX0_needIndex_19
set_option maxHeartbeats 4000000 in
set_option maxRecDepth 100000 in
theorem tX0_needIndex_x {l : Launch} {D : va_G} (hl0 : l.stackTraces = false) (x : Int32) (N : Nat) (h : x < 0 ∨ nI N ≤ x) : RX l yX0_needIndex wsX0_needIndex 6 D [] ([]) [.int x, .int (nI N)] xIOB := by
  refine st_X (cc := cX0_needIndex) (maxL := 2) (ret := none) (by decide +kernel) rfl (Nat.le_of_ble_eq_true rfl) ?_
  intro p e s m below meth c A hx hb hr hts hown hml hlocks hK hP hD hA hS ls hl hT hex
  have hown : s.vm.findClass RX0 = some m.cls := hown
  have hl : lv_has ls 2 [(0, .int x), (1, .int (nI N))] := hl
  refine lv_iload_n hx hb dX0_needIndex_0 rfl (lv_at hl 0 rfl) ?_
  refine lv_if_lt (tgt := 9) hx hb dX0_needIndex_1 (by decide) (fun c_1 => ?_) (fun c_1 => ?_)
  · exact e_X (text := "no such area, page, half, state, word or root") hx hb hl0 hown rfl hts (by decide +kernel) thX0_needIndex_k thX0_needIndex_i thX0_needIndex_g xNg_xIOB xGd_xIOB (by decide) hT hlocks hex hP hD hS hl.1 hml dX0_needIndex_9 dX0_needIndex_12 dX0_needIndex_13 dX0_needIndex_15 dX0_needIndex_18 (Nat.le_of_ble_eq_true rfl) (Nat.le_of_ble_eq_true rfl) (Nat.le_of_ble_eq_true rfl) (Nat.le_of_ble_eq_true rfl) (Nat.le_of_ble_eq_true rfl) (Nat.le_of_ble_eq_true rfl)
  · refine lv_iload_n hx hb dX0_needIndex_4 rfl (lv_at hl 0 rfl) ?_
    refine lv_iload_n hx hb dX0_needIndex_5 rfl (lv_at hl 1 rfl) ?_
    refine lv_icmp_lt (tgt := 19) hx hb dX0_needIndex_6 (by decide) (fun c_6 => absurd c_6 (ix_nlt h c_1)) (fun c_6 => ?_)
    exact e_X (text := "no such area, page, half, state, word or root") hx hb hl0 hown rfl hts (by decide +kernel) thX0_needIndex_k thX0_needIndex_i thX0_needIndex_g xNg_xIOB xGd_xIOB (by decide) hT hlocks hex hP hD hS hl.1 hml dX0_needIndex_9 dX0_needIndex_12 dX0_needIndex_13 dX0_needIndex_15 dX0_needIndex_18 (Nat.le_of_ble_eq_true rfl) (Nat.le_of_ble_eq_true rfl) (Nat.le_of_ble_eq_true rfl) (Nat.le_of_ble_eq_true rfl) (Nat.le_of_ble_eq_true rfl) (Nat.le_of_ble_eq_true rfl)
set_option maxHeartbeats 4000000 in
set_option maxRecDepth 100000 in
theorem tX0_needWordCount_ok {l : Launch} {D : va_G} (k : Nat) (hk : 1 ≤ k) (hN : k ≤ 64) : RV l yX0_needWordCount wsX0_needWordCount 6 0 0 D [] ([]) [.int (nI k)] ([]) := by
  refine st_V (cc := cX0_needWordCount) (maxL := 1) (ret := none) (by decide +kernel) rfl (Nat.le_of_ble_eq_true rfl) ?_
  intro p e s m below meth c A hx hb hr hts hown hml hlocks hK hP hD hA hS ls hl
  have hown : s.vm.findClass RX0 = some m.cls := hown
  have hl : lv_has ls 1 [(0, .int (nI k))] := hl
  refine lv_iload_n hx hb dX0_needWordCount_0 rfl (lv_at hl 0 rfl) ?_
  refine lv_iconst (v := (nI 1)) hx hb dX0_needWordCount_1 (by decide) ?_
  refine n_lt (tgt := 11) hx hb (by omega) (by omega) dX0_needWordCount_2 (by decide) (fun c_2 => absurd c_2 (by omega)) (fun c_2 => ?_)
  refine lv_iload_n hx hb dX0_needWordCount_5 rfl (lv_at hl 0 rfl) ?_
  refine lv_bipush (v := (nI 64)) hx hb dX0_needWordCount_6 (by decide) ?_
  refine n_le (tgt := 21) hx hb (by omega) (by omega) dX0_needWordCount_8 (by decide) (fun c_8 => ?_) (fun c_8 => absurd c_8 (by omega))
  exact e_V hx hb hr hlocks hP hD hS dX0_needWordCount_21
set_option maxHeartbeats 4000000 in
set_option maxRecDepth 100000 in
theorem tX0_needWordCount_x {l : Launch} {D : va_G} (hl0 : l.stackTraces = false) (x : Int32) (h : x < nI 1 ∨ nI 64 < x) : RX l yX0_needWordCount wsX0_needWordCount 6 D [] ([]) [.int x] xIAE := by
  refine st_X (cc := cX0_needWordCount) (maxL := 1) (ret := none) (by decide +kernel) rfl (Nat.le_of_ble_eq_true rfl) ?_
  intro p e s m below meth c A hx hb hr hts hown hml hlocks hK hP hD hA hS ls hl hT hex
  have hown : s.vm.findClass RX0 = some m.cls := hown
  have hl : lv_has ls 1 [(0, .int x)] := hl
  refine lv_iload_n hx hb dX0_needWordCount_0 rfl (lv_at hl 0 rfl) ?_
  refine lv_iconst (v := (nI 1)) hx hb dX0_needWordCount_1 (by decide) ?_
  refine lv_icmp_lt (tgt := 11) hx hb dX0_needWordCount_2 (by decide) (fun c_2 => ?_) (fun c_2 => ?_)
  · exact e_X (text := "not 1 to 64 words") hx hb hl0 hown rfl hts (by decide +kernel) thX0_needWordCount_k thX0_needWordCount_i thX0_needWordCount_g xNg_xIAE xGd_xIAE (by decide) hT hlocks hex hP hD hS hl.1 hml dX0_needWordCount_11 dX0_needWordCount_14 dX0_needWordCount_15 dX0_needWordCount_17 dX0_needWordCount_20 (Nat.le_of_ble_eq_true rfl) (Nat.le_of_ble_eq_true rfl) (Nat.le_of_ble_eq_true rfl) (Nat.le_of_ble_eq_true rfl) (Nat.le_of_ble_eq_true rfl) (Nat.le_of_ble_eq_true rfl)
  · refine lv_iload_n hx hb dX0_needWordCount_5 rfl (lv_at hl 0 rfl) ?_
    refine lv_bipush (v := (nI 64)) hx hb dX0_needWordCount_6 (by decide) ?_
    refine lv_icmp_le (tgt := 21) hx hb dX0_needWordCount_8 (by decide) (fun c_8 => absurd c_8 (pl_nle h c_2)) (fun c_8 => ?_)
    exact e_X (text := "not 1 to 64 words") hx hb hl0 hown rfl hts (by decide +kernel) thX0_needWordCount_k thX0_needWordCount_i thX0_needWordCount_g xNg_xIAE xGd_xIAE (by decide) hT hlocks hex hP hD hS hl.1 hml dX0_needWordCount_11 dX0_needWordCount_14 dX0_needWordCount_15 dX0_needWordCount_17 dX0_needWordCount_20 (Nat.le_of_ble_eq_true rfl) (Nat.le_of_ble_eq_true rfl) (Nat.le_of_ble_eq_true rfl) (Nat.le_of_ble_eq_true rfl) (Nat.le_of_ble_eq_true rfl) (Nat.le_of_ble_eq_true rfl)
set_option maxHeartbeats 4000000 in
set_option maxRecDepth 100000 in
theorem tX0_needPlace_ok {l : Launch} {D : va_G} {cI cZ : ClassId} {h0 a0 a1 a2 a3 a4 a5 : Nat} (bf pw hs lo lg rt : Nat → Int32) (nb : Int32) (fi fo en : Nat) (on cu ma : Int32) (k t : Nat) (h1 : fi ≤ k) (h2 : k ≤ t) (ht : t < 2 ^ 31) : RV l yX0_needPlace wsX0_needPlace 6 0 0 D (tyC cI cZ) (wC h0 a0 a1 a2 a3 a4 a5 cI cZ bf pw hs lo lg rt nb (nI fi) (nI fo) (nI en) on cu ma) [.ref h0, .int (nI k), .int (nI t)] (wC h0 a0 a1 a2 a3 a4 a5 cI cZ bf pw hs lo lg rt nb (nI fi) (nI fo) (nI en) on cu ma) := by
  refine st_V (cc := cX0_needPlace) (maxL := 3) (ret := none) (by decide +kernel) rfl (Nat.le_of_ble_eq_true rfl) ?_
  intro p e s m below meth c A hx hb hr hts hown hml hlocks hK hP hD hA hS ls hl
  have hown : s.vm.findClass RX0 = some m.cls := hown
  have hl : lv_has ls 3 [(0, .ref h0), (1, .int (nI k)), (2, .int (nI t))] := hl
  refine lv_iload_n hx hb dX0_needPlace_0 rfl (lv_at hl 1 rfl) ?_
  refine lv_aload_n hx hb dX0_needPlace_1 rfl (lv_at hl 0 rfl) ?_
  refine va_get (ci := 0) (v := .int (nI fi)) (C := RX0) (T := TX0) (N := 13) hx hb hts inX0_needPlace hown hK hP 0 rfl rfl 6 (by decide) (hts _ flX0_needPlace_87) (fun _ h9 => h9) rfl dX0_needPlace_2 ?_
  refine n_lt (tgt := 13) hx hb (by omega) (by omega) dX0_needPlace_5 (by decide) (fun c_5 => absurd c_5 (by omega)) (fun c_5 => ?_)
  refine lv_iload_n hx hb dX0_needPlace_8 rfl (lv_at hl 1 rfl) ?_
  refine lv_iload_n hx hb dX0_needPlace_9 rfl (lv_at hl 2 rfl) ?_
  refine n_le (tgt := 23) hx hb (by omega) (by omega) dX0_needPlace_10 (by decide) (fun c_10 => ?_) (fun c_10 => absurd c_10 (by omega))
  exact e_V hx hb hr hlocks hP hD hS dX0_needPlace_23
set_option maxHeartbeats 4000000 in
set_option maxRecDepth 100000 in
theorem tX0_needPlace_x {l : Launch} {D : va_G} {cI cZ : ClassId} {h0 a0 a1 a2 a3 a4 a5 : Nat} (hl0 : l.stackTraces = false) (bf pw hs lo lg rt : Nat → Int32) (nb : Int32) (fi fo en : Nat) (on cu ma : Int32) (x t : Int32) (h : x < nI fi ∨ t < x) : RX l yX0_needPlace wsX0_needPlace 6 D (tyC cI cZ) (wC h0 a0 a1 a2 a3 a4 a5 cI cZ bf pw hs lo lg rt nb (nI fi) (nI fo) (nI en) on cu ma) [.ref h0, .int x, .int t] xIAE := by
  refine st_X (cc := cX0_needPlace) (maxL := 3) (ret := none) (by decide +kernel) rfl (Nat.le_of_ble_eq_true rfl) ?_
  intro p e s m below meth c A hx hb hr hts hown hml hlocks hK hP hD hA hS ls hl hT hex
  have hown : s.vm.findClass RX0 = some m.cls := hown
  have hl : lv_has ls 3 [(0, .ref h0), (1, .int x), (2, .int t)] := hl
  refine lv_iload_n hx hb dX0_needPlace_0 rfl (lv_at hl 1 rfl) ?_
  refine lv_aload_n hx hb dX0_needPlace_1 rfl (lv_at hl 0 rfl) ?_
  refine va_get (ci := 0) (v := .int (nI fi)) (C := RX0) (T := TX0) (N := 13) hx hb hts inX0_needPlace hown hK hP 0 rfl rfl 6 (by decide) (hts _ flX0_needPlace_87) (fun _ h9 => h9) rfl dX0_needPlace_2 ?_
  refine lv_icmp_lt (tgt := 13) hx hb dX0_needPlace_5 (by decide) (fun c_5 => ?_) (fun c_5 => ?_)
  · exact e_X (text := "the log has no such place") hx hb hl0 hown rfl hts (by decide +kernel) thX0_needPlace_k thX0_needPlace_i thX0_needPlace_g xNg_xIAE xGd_xIAE (by decide) hT hlocks hex hP hD hS hl.1 hml dX0_needPlace_13 dX0_needPlace_16 dX0_needPlace_17 dX0_needPlace_19 dX0_needPlace_22 (Nat.le_of_ble_eq_true rfl) (Nat.le_of_ble_eq_true rfl) (Nat.le_of_ble_eq_true rfl) (Nat.le_of_ble_eq_true rfl) (Nat.le_of_ble_eq_true rfl) (Nat.le_of_ble_eq_true rfl)
  · refine lv_iload_n hx hb dX0_needPlace_8 rfl (lv_at hl 1 rfl) ?_
    refine lv_iload_n hx hb dX0_needPlace_9 rfl (lv_at hl 2 rfl) ?_
    refine lv_icmp_le (tgt := 23) hx hb dX0_needPlace_10 (by decide) (fun c_10 => absurd c_10 (pl_nle h c_5)) (fun c_10 => ?_)
    exact e_X (text := "the log has no such place") hx hb hl0 hown rfl hts (by decide +kernel) thX0_needPlace_k thX0_needPlace_i thX0_needPlace_g xNg_xIAE xGd_xIAE (by decide) hT hlocks hex hP hD hS hl.1 hml dX0_needPlace_13 dX0_needPlace_16 dX0_needPlace_17 dX0_needPlace_19 dX0_needPlace_22 (Nat.le_of_ble_eq_true rfl) (Nat.le_of_ble_eq_true rfl) (Nat.le_of_ble_eq_true rfl) (Nat.le_of_ble_eq_true rfl) (Nat.le_of_ble_eq_true rfl) (Nat.le_of_ble_eq_true rfl)
set_option maxHeartbeats 4000000 in
set_option maxRecDepth 100000 in
theorem tX0_needPage_ok {l : Launch} {D : va_G} {cI cZ : ClassId} {h0 a0 a1 a2 a3 a4 a5 : Nat} (bf pw hs lo lg rt : Nat → Int32) (nb : Int32) (fi fo en : Nat) (on cu ma : Int32) (ar pg : Nat) (h1 : ar < 2) (h2 : pg < 256) : RV l yX0_needPage wsX0_needPage 7 0 0 D (tyC cI cZ) (wC h0 a0 a1 a2 a3 a4 a5 cI cZ bf pw hs lo lg rt nb (nI fi) (nI fo) (nI en) on cu ma) [.ref h0, .int (nI ar), .int (nI pg)] (wC h0 a0 a1 a2 a3 a4 a5 cI cZ bf pw hs lo lg rt nb (nI fi) (nI fo) (nI en) on cu ma) := by
  refine st_V (cc := cX0_needPage) (maxL := 3) (ret := none) (by decide +kernel) rfl (Nat.le_of_ble_eq_true rfl) ?_
  intro p e s m below meth c A hx hb hr hts hown hml hlocks hK hP hD hA hS ls hl
  have hown : s.vm.findClass RX0 = some m.cls := hown
  have hl : lv_has ls 3 [(0, .ref h0), (1, .int (nI ar)), (2, .int (nI pg))] := hl
  refine lv_iload_n hx hb dX0_needPage_0 rfl (lv_at hl 1 rfl) ?_
  refine lv_iconst (v := (nI 2)) hx hb dX0_needPage_1 (by decide) ?_
  refine k_V (wr := wC h0 a0 a1 a2 a3 a4 a5 cI cZ bf pw hs lo lg rt nb (nI fi) (nI fo) (nI en) on cu ma) hP hD hS hA (va_runS (As := [.int (nI ar), .int (nI 2)]) (rest := []) ⟨hx, hb, hml, hown, hts⟩ ((tX0_needIndex_ok ar 2 (by omega) (by omega)) _) (va_cwS 2 hts gX0_needPage_X0_needIndex rfl rfl rfl (by decide +kernel) ⟨Nat.le_of_ble_eq_true rfl, Nat.le_of_ble_eq_true rfl⟩) (pS_B hP hD hK [] rfl [] rfl rfl) rfl rfl hl.1 rfl (lv_room (Nat.le_of_ble_eq_true rfl)) dX0_needPage_2 ⟨Nat.le_of_ble_eq_true rfl, Nat.le_of_ble_eq_true rfl⟩) [] [0, 1, 2, 3, 4, 5, 6] rfl rfl rfl (by decide) (fun H locs hP hD hS => ?_)
  have hP : va_P D vwCl (wC h0 a0 a1 a2 a3 a4 a5 cI cZ bf pw hs lo lg rt nb (nI fi) (nI fo) (nI en) on cu ma) H := hP
  have hD : va_D A (wC h0 a0 a1 a2 a3 a4 a5 cI cZ bf pw hs lo lg rt nb (nI fi) (nI fo) (nI en) on cu ma) := hD
  refine lv_iload_n hx hb dX0_needPage_5 rfl (lv_at hl 2 rfl) ?_
  refine lv_sipush (v := (nI 256)) hx hb dX0_needPage_6 (by decide) ?_
  refine k_V (wr := wC h0 a0 a1 a2 a3 a4 a5 cI cZ bf pw hs lo lg rt nb (nI fi) (nI fo) (nI en) on cu ma) hP hD hS hA (va_runS (As := [.int (nI pg), .int (nI 256)]) (rest := []) ⟨hx, hb, hml, hown, hts⟩ ((tX0_needIndex_ok pg 256 (by omega) (by omega)) _) (va_cwS 2 hts gX0_needPage_X0_needIndex rfl rfl rfl (by decide +kernel) ⟨Nat.le_of_ble_eq_true rfl, Nat.le_of_ble_eq_true rfl⟩) (pS_B hP hD hK [] rfl [] rfl rfl) rfl rfl hl.1 rfl (lv_room (Nat.le_of_ble_eq_true rfl)) dX0_needPage_9 ⟨Nat.le_of_ble_eq_true rfl, Nat.le_of_ble_eq_true rfl⟩) [] [0, 1, 2, 3, 4, 5, 6] rfl rfl rfl (by decide) (fun H locs hP hD hS => ?_)
  have hP : va_P D vwCl (wC h0 a0 a1 a2 a3 a4 a5 cI cZ bf pw hs lo lg rt nb (nI fi) (nI fo) (nI en) on cu ma) H := hP
  have hD : va_D A (wC h0 a0 a1 a2 a3 a4 a5 cI cZ bf pw hs lo lg rt nb (nI fi) (nI fo) (nI en) on cu ma) := hD
  exact e_V hx hb hr hlocks hP hD hS dX0_needPage_12
set_option maxHeartbeats 4000000 in
set_option maxRecDepth 100000 in
theorem tX0_needPage_x1 {l : Launch} {D : va_G} {cI cZ : ClassId} {h0 a0 a1 a2 a3 a4 a5 : Nat} (hl0 : l.stackTraces = false) (bf pw hs lo lg rt : Nat → Int32) (nb : Int32) (fi fo en : Nat) (on cu ma : Int32) (x y : Int32) (h : x < 0 ∨ nI 2 ≤ x) : RX l yX0_needPage wsX0_needPage 7 D (tyC cI cZ) (wC h0 a0 a1 a2 a3 a4 a5 cI cZ bf pw hs lo lg rt nb (nI fi) (nI fo) (nI en) on cu ma) [.ref h0, .int x, .int y] xIOB := by
  refine st_X (cc := cX0_needPage) (maxL := 3) (ret := none) (by decide +kernel) rfl (Nat.le_of_ble_eq_true rfl) ?_
  intro p e s m below meth c A hx hb hr hts hown hml hlocks hK hP hD hA hS ls hl hT hex
  have hown : s.vm.findClass RX0 = some m.cls := hown
  have hl : lv_has ls 3 [(0, .ref h0), (1, .int x), (2, .int y)] := hl
  refine lv_iload_n hx hb dX0_needPage_0 rfl (lv_at hl 1 rfl) ?_
  refine lv_iconst (v := (nI 2)) hx hb dX0_needPage_1 (by decide) ?_
  exact k_XX hlocks hex (Nat.le_of_ble_eq_true rfl) (Nat.le_of_ble_eq_true rfl) (wr := wC h0 a0 a1 a2 a3 a4 a5 cI cZ bf pw hs lo lg rt nb (nI fi) (nI fo) (nI en) on cu ma) hP hD hS hA (vx_runS (As := [.int x, .int (nI 2)]) (rest := []) ⟨hx, hb, hml, hown, hts⟩ ((tX0_needIndex_x hl0 x 2 h) _) (va_cwS 2 hts gX0_needPage_X0_needIndex rfl rfl rfl (by decide +kernel) ⟨Nat.le_of_ble_eq_true rfl, Nat.le_of_ble_eq_true rfl⟩) (pS_X hP hD hK hS hA hT [] rfl [] rfl rfl) rfl rfl hl.1 rfl (lv_room (Nat.le_of_ble_eq_true rfl)) dX0_needPage_2 ⟨Nat.le_of_ble_eq_true rfl, Nat.le_of_ble_eq_true rfl⟩) [] [0, 1, 2, 3, 4, 5, 6] rfl rfl rfl (by decide)
set_option maxHeartbeats 4000000 in
set_option maxRecDepth 100000 in
theorem tX0_needPage_x2 {l : Launch} {D : va_G} {cI cZ : ClassId} {h0 a0 a1 a2 a3 a4 a5 : Nat} (hl0 : l.stackTraces = false) (bf pw hs lo lg rt : Nat → Int32) (nb : Int32) (fi fo en : Nat) (on cu ma : Int32) (ar : Nat) (y : Int32) (h1 : ar < 2) (h : y < 0 ∨ nI 256 ≤ y) : RX l yX0_needPage wsX0_needPage 7 D (tyC cI cZ) (wC h0 a0 a1 a2 a3 a4 a5 cI cZ bf pw hs lo lg rt nb (nI fi) (nI fo) (nI en) on cu ma) [.ref h0, .int (nI ar), .int y] xIOB := by
  refine st_X (cc := cX0_needPage) (maxL := 3) (ret := none) (by decide +kernel) rfl (Nat.le_of_ble_eq_true rfl) ?_
  intro p e s m below meth c A hx hb hr hts hown hml hlocks hK hP hD hA hS ls hl hT hex
  have hown : s.vm.findClass RX0 = some m.cls := hown
  have hl : lv_has ls 3 [(0, .ref h0), (1, .int (nI ar)), (2, .int y)] := hl
  refine lv_iload_n hx hb dX0_needPage_0 rfl (lv_at hl 1 rfl) ?_
  refine lv_iconst (v := (nI 2)) hx hb dX0_needPage_1 (by decide) ?_
  refine k_V (wr := wC h0 a0 a1 a2 a3 a4 a5 cI cZ bf pw hs lo lg rt nb (nI fi) (nI fo) (nI en) on cu ma) hP hD hS hA (va_runS (As := [.int (nI ar), .int (nI 2)]) (rest := []) ⟨hx, hb, hml, hown, hts⟩ ((tX0_needIndex_ok ar 2 (by omega) (by omega)) _) (va_cwS 2 hts gX0_needPage_X0_needIndex rfl rfl rfl (by decide +kernel) ⟨Nat.le_of_ble_eq_true rfl, Nat.le_of_ble_eq_true rfl⟩) (pS_B hP hD hK [] rfl [] rfl rfl) rfl rfl hl.1 rfl (lv_room (Nat.le_of_ble_eq_true rfl)) dX0_needPage_2 ⟨Nat.le_of_ble_eq_true rfl, Nat.le_of_ble_eq_true rfl⟩) [] [0, 1, 2, 3, 4, 5, 6] rfl rfl rfl (by decide) (fun H locs hP hD hS => ?_)
  have hP : va_P D vwCl (wC h0 a0 a1 a2 a3 a4 a5 cI cZ bf pw hs lo lg rt nb (nI fi) (nI fo) (nI en) on cu ma) H := hP
  have hD : va_D A (wC h0 a0 a1 a2 a3 a4 a5 cI cZ bf pw hs lo lg rt nb (nI fi) (nI fo) (nI en) on cu ma) := hD
  refine lv_iload_n hx hb dX0_needPage_5 rfl (lv_at hl 2 rfl) ?_
  refine lv_sipush (v := (nI 256)) hx hb dX0_needPage_6 (by decide) ?_
  exact k_XX hlocks hex (Nat.le_of_ble_eq_true rfl) (Nat.le_of_ble_eq_true rfl) (wr := wC h0 a0 a1 a2 a3 a4 a5 cI cZ bf pw hs lo lg rt nb (nI fi) (nI fo) (nI en) on cu ma) hP hD hS hA (vx_runS (As := [.int y, .int (nI 256)]) (rest := []) ⟨hx, hb, hml, hown, hts⟩ ((tX0_needIndex_x hl0 y 256 h) _) (va_cwS 2 hts gX0_needPage_X0_needIndex rfl rfl rfl (by decide +kernel) ⟨Nat.le_of_ble_eq_true rfl, Nat.le_of_ble_eq_true rfl⟩) (pS_X hP hD hK hS hA hT [] rfl [] rfl rfl) rfl rfl hl.1 rfl (lv_room (Nat.le_of_ble_eq_true rfl)) dX0_needPage_9 ⟨Nat.le_of_ble_eq_true rfl, Nat.le_of_ble_eq_true rfl⟩) [] [0, 1, 2, 3, 4, 5, 6] rfl rfl rfl (by decide)
set_option maxHeartbeats 4000000 in
set_option maxRecDepth 100000 in
theorem tX0_pageIndex {l : Launch} {D : va_G} (ar pg : Nat) : RI l yX0_pageIndex wsX0_pageIndex 1 0 0 D [] ([]) [.int (nI ar), .int (nI pg)] (nI (ar * 256 + pg)) ([]) := by
  refine st_I (cc := cX0_pageIndex) (maxL := 2) (ret := (some .int)) (by decide +kernel) rfl (Nat.le_of_ble_eq_true rfl) ?_
  intro p e s m below meth c A hx hb hr hts hown hml hlocks hK hP hD hA hS ls hl
  have hown : s.vm.findClass RX0 = some m.cls := hown
  have hl : lv_has ls 2 [(0, .int (nI ar)), (1, .int (nI pg))] := hl
  refine lv_iload_n hx hb dX0_pageIndex_0 rfl (lv_at hl 0 rfl) ?_
  refine lv_sipush (v := (nI 256)) hx hb dX0_pageIndex_1 (by decide) ?_
  refine n_imul hx hb dX0_pageIndex_4 ?_
  refine lv_iload_n hx hb dX0_pageIndex_5 rfl (lv_at hl 1 rfl) ?_
  refine n_iadd hx hb dX0_pageIndex_6 ?_
  exact e_I hx hb hr hlocks hP hD hS rfl dX0_pageIndex_7
end
section
/-! OWN ROWS, by program: the class, its least writes, its page writes -/
/-- a page's state: 0 whole, 1 torn, 2 lost -/
def sp_ps (lo hs : Nat → Int32) (k : Nat) : Int32 := if lo k = 0 then (if hs (k * 2) = hs (k * 2 + 1) then 0 else 1) else 2
def dcu (x : Int32) : Int32 := if x = -1 then x else x - 1
abbrev zf (f : Nat → Int32) : Nat → Int32 := fl (fun _ => 0) 64 f
set_option maxHeartbeats 4000000 in
set_option maxRecDepth 100000 in
theorem tX0_logSlot {l : Launch} {D : va_G} (k : Nat) (h : k < 2 ^ 31) : RI l yX0_logSlot wsX0_logSlot 1 0 0 D [] ([]) [.int (nI k)] (nI (k % 65536)) ([]) := by
  refine st_I (cc := cX0_logSlot) (maxL := 1) (ret := (some .int)) (by decide +kernel) rfl (Nat.le_of_ble_eq_true rfl) ?_
  intro p e s m below meth c A hx hb hr hts hown hml hlocks hK hP hD hA hS ls hl
  have hown : s.vm.findClass RX0 = some m.cls := hown
  have hl : lv_has ls 1 [(0, .int (nI k))] := hl
  refine lv_iload_n hx hb dX0_logSlot_0 rfl (lv_at hl 0 rfl) ?_
  refine lv_ldc (v := nI 65535) hx hb hown (hts (.constant RX0 127 (65535)) (by decide +kernel)) dX0_logSlot_1 ?_
  refine n_m16 hx hb (by omega) dX0_logSlot_3 ?_
  exact e_I hx hb hr hlocks hP hD hS rfl dX0_logSlot_4
set_option maxHeartbeats 4000000 in
set_option maxRecDepth 100000 in
theorem tX0_pageState {l : Launch} {D : va_G} {cI cZ : ClassId} {h0 a0 a1 a2 a3 a4 a5 : Nat} (bf pw hs lo lg rt : Nat → Int32) (nb : Int32) (fi fo en : Nat) (on cu ma : Int32) (k : Nat) (h : k < 512) : RI l yX0_pageState wsX0_pageState 1 0 0 D (tyC cI cZ) (wC h0 a0 a1 a2 a3 a4 a5 cI cZ bf pw hs lo lg rt nb (nI fi) (nI fo) (nI en) on cu ma) [.ref h0, .int (nI k)] (sp_ps lo hs k) (wC h0 a0 a1 a2 a3 a4 a5 cI cZ bf pw hs lo lg rt nb (nI fi) (nI fo) (nI en) on cu ma) := by
  refine st_I (cc := cX0_pageState) (maxL := 2) (ret := (some .int)) (by decide +kernel) rfl (Nat.le_of_ble_eq_true rfl) ?_
  intro p e s m below meth c A hx hb hr hts hown hml hlocks hK hP hD hA hS ls hl
  have hown : s.vm.findClass RX0 = some m.cls := hown
  have hl : lv_has ls 2 [(0, .ref h0), (1, .int (nI k))] := hl
  refine lv_aload_n hx hb dX0_pageState_0 rfl (lv_at hl 0 rfl) ?_
  refine va_get (ci := 0) (v := .ref a3) (C := RX0) (T := TX0) (N := 13) hx hb hts inX0_pageState hown hK hP 0 rfl rfl 3 (by decide) (hts _ flX0_pageState_20) (fun _ h9 => h9) rfl dX0_pageState_1 ?_
  refine lv_iload_n hx hb dX0_pageState_4 rfl (lv_at hl 1 rfl) ?_
  refine n_zald hx hb hK hP 4 1 rfl rfl k (by omega) (by omega) dX0_pageState_5 ?_
  refine lv_if_eq (tgt := 11) hx hb dX0_pageState_6 (by decide) (fun c_6 => ?_) (fun c_6 => ?_)
  · refine lv_aload_n hx hb dX0_pageState_11 rfl (lv_at hl 0 rfl) ?_
    refine va_get (ci := 0) (v := .ref a2) (C := RX0) (T := TX0) (N := 13) hx hb hts inX0_pageState hown hK hP 0 rfl rfl 2 (by decide) (hts _ flX0_pageState_17) (fun _ h9 => h9) rfl dX0_pageState_12 ?_
    refine lv_iload_n hx hb dX0_pageState_15 rfl (lv_at hl 1 rfl) ?_
    refine lv_iconst (v := (nI 2)) hx hb dX0_pageState_16 (by decide) ?_
    refine n_imul hx hb dX0_pageState_17 ?_
    refine n_iald hx hb hK hP 3 0 rfl rfl (k * 2) (by omega) (by omega) dX0_pageState_18 ?_
    refine lv_aload_n hx hb dX0_pageState_19 rfl (lv_at hl 0 rfl) ?_
    refine va_get (ci := 0) (v := .ref a2) (C := RX0) (T := TX0) (N := 13) hx hb hts inX0_pageState hown hK hP 0 rfl rfl 2 (by decide) (hts _ flX0_pageState_17) (fun _ h9 => h9) rfl dX0_pageState_20 ?_
    refine lv_iload_n hx hb dX0_pageState_23 rfl (lv_at hl 1 rfl) ?_
    refine lv_iconst (v := (nI 2)) hx hb dX0_pageState_24 (by decide) ?_
    refine n_imul hx hb dX0_pageState_25 ?_
    refine lv_iconst (v := (nI 1)) hx hb dX0_pageState_26 (by decide) ?_
    refine n_iadd hx hb dX0_pageState_27 ?_
    refine n_iald hx hb hK hP 3 0 rfl rfl ((k * 2) + 1) (by omega) (by omega) dX0_pageState_28 ?_
    refine lv_icmp_ne (tgt := 36) hx hb dX0_pageState_29 (by decide) (fun c_29 => ?_) (fun c_29 => ?_)
    · refine lv_iconst (v := (1)) hx hb dX0_pageState_36 (by decide) ?_
      exact e_I hx hb hr hlocks hP hD hS (by simp [sp_ps, c_6, c_29]) dX0_pageState_37
    · refine lv_iconst (v := (0)) hx hb dX0_pageState_32 (by decide) ?_
      refine lv_goto (tgt := 37) hx hb dX0_pageState_33 (by decide) ?_
      exact e_I hx hb hr hlocks hP hD hS (by simp [sp_ps, c_6, c_29]) dX0_pageState_37
  · refine lv_iconst (v := (2)) hx hb dX0_pageState_9 (by decide) ?_
    exact e_I hx hb hr hlocks hP hD hS (by simp [sp_ps, c_6]) dX0_pageState_10
set_option maxHeartbeats 4000000 in
set_option maxRecDepth 100000 in
theorem tJ7_fill {l : Launch} {D : va_G} {cI : ClassId} {ad : Nat} (n : Nat) (hn : n < 2 ^ 31) (f : Nat → Int32) (v : Int32) : RV l yJ7_fill_53178 wsJ7_fill_53178 1 0 0 D [(cI, .int)] ([(ad, .inl (cI, n, .inl f))]) [.ref ad, .int v] ([(ad, .inl (cI, n, .inl (fl (fun _ => v) n f)))]) := by
  refine st_V (cc := cJ7_fill_53178) (maxL := 4) (ret := none) (by decide +kernel) rfl (Nat.le_of_ble_eq_true rfl) ?_
  intro p e s m below meth c A hx hb hr hts hown hml hlocks hK hP hD hA hS ls hl
  have hl : lv_has ls 4 [(0, .ref ad), (1, .int v)] := hl
  refine lv_iconst (v := (nI 0)) hx hb dJ7_fill_53178_0 (by decide) ?_
  refine lv_istore_n (lv' := [(2, .int (nI 0)), (0, .ref ad), (1, .int v)]) hx hb dJ7_fill_53178_1 rfl hl (by decide) rfl (fun ls hl => ?_)
  refine lv_aload_n hx hb dJ7_fill_53178_2 rfl (lv_at hl 1 rfl) ?_
  refine va_alen (v := nI n) hx hb hK hP 0 0 rfl rfl rfl dJ7_fill_53178_3 ?_
  refine lv_istore_n (lv' := [(3, .int (nI n)), (2, .int (nI 0)), (0, .ref ad), (1, .int v)]) hx hb dJ7_fill_53178_4 rfl hl (by decide) rfl (fun ls hl => ?_)
  have lp_5 : ∀ (n9 i : Nat), i + n9 = n → ∀ (H : Heap) (locs : List Loc) (ls : Array Slot), va_P D vwCl ([(ad, .inl (cI, n, .inl (fl (fun _ => v) i f)))]) H → va_D A ([(ad, .inl (cI, n, .inl (fl (fun _ => v) i f)))]) → va_S A s.heap H locs → lv_has ls 4 [(0, .ref ad), (1, .int v), (2, .int (nI i)), (3, .int (nI n))] → W p l e (rmL 1 0 0) s m ([.ref ad, .int v] : List Value).toArray below meth c H locs 0 0 (MQ below (qcV D A ([(ad, .inl (cI, n, .inl (fl (fun _ => v) n f)))])) ([.ref ad, .int v] : List Value).toArray s 0 0 A) (F0 m 5 ls []) := by
    intro n9
    induction n9 with
    | zero =>
      intro i hi H locs ls hP hD hS hl
      obtain rfl : i = n := by omega
      refine lv_iload_n hx hb dJ7_fill_53178_5 rfl (lv_at hl 2 rfl) ?_
      refine lv_iload_n hx hb dJ7_fill_53178_6 rfl (lv_at hl 3 rfl) ?_
      refine n_ge (tgt := 20) hx hb (by omega) (by omega) dJ7_fill_53178_7 (by decide) (fun c_7 => ?_) (fun c_7 => absurd c_7 (by omega))
      exact e_V hx hb hr hlocks hP hD hS dJ7_fill_53178_20
    | succ n9 ih =>
      intro i hi H locs ls hP hD hS hl
      refine lv_iload_n hx hb dJ7_fill_53178_5 rfl (lv_at hl 2 rfl) ?_
      refine lv_iload_n hx hb dJ7_fill_53178_6 rfl (lv_at hl 3 rfl) ?_
      refine n_ge (tgt := 20) hx hb (by omega) (by omega) dJ7_fill_53178_7 (by decide) (fun c_7 => absurd c_7 (by omega)) (fun c_7 => ?_)
      refine lv_aload_n hx hb dJ7_fill_53178_10 rfl (lv_at hl 0 rfl) ?_
      refine lv_iload_n hx hb dJ7_fill_53178_11 rfl (lv_at hl 2 rfl) ?_
      refine lv_iload_n hx hb dJ7_fill_53178_12 rfl (lv_at hl 1 rfl) ?_
      refine n_iast hx hb hK hP hD hS 0 0 rfl rfl i (by omega) (by omega) dJ7_fill_53178_13 (fun H locs hP hD hS => ?_)
      have hP : va_P D vwCl ([(ad, .inl (cI, n, .inl (upd (fl (fun _ => v) i f) i v)))]) H := hP
      have hD : va_D A ([(ad, .inl (cI, n, .inl (upd (fl (fun _ => v) i f) i v)))]) := hD
      refine n_iinc (lv' := [(2, .int (nI (i + 1))), (0, .ref ad), (1, .int v), (3, .int (nI n))]) hx hb dJ7_fill_53178_14 hl (k := 2) rfl (by decide) rfl (fun ls hl => ?_)
      refine lv_goto (tgt := 5) hx hb dJ7_fill_53178_17 (by decide) ?_
      have hP : va_P D vwCl ([(ad, .inl (cI, n, .inl (fl (fun _ => v) (i + 1) f)))]) H := by rw [← fl_s]; exact hP
      have hD : va_D A ([(ad, .inl (cI, n, .inl (fl (fun _ => v) (i + 1) f)))]) := by rw [← fl_s]; exact hD
      exact ih (i + 1) (by omega) _ _ _ hP hD hS (lv_sub hl [1, 2, 0, 3] rfl)
  have hP : va_P D vwCl ([(ad, .inl (cI, n, .inl (fl (fun _ => v) 0 f)))]) s.heap := by rw [fl_0]; exact hP
  have hD : va_D A ([(ad, .inl (cI, n, .inl (fl (fun _ => v) 0 f)))]) := by rw [fl_0]; exact hD
  exact lp_5 n 0 (by omega) _ _ _ hP hD hS (lv_sub hl [2, 3, 1, 0] rfl)
set_option maxHeartbeats 4000000 in
set_option maxRecDepth 100000 in
theorem tX0_failPower {l : Launch} {D : va_G} {cI cZ : ClassId} {h0 a0 a1 a2 a3 a4 a5 : Nat} (bf pw hs lo lg rt : Nat → Int32) (nb : Int32) (fi fo en : Nat) (on cu ma : Int32) : RV l yX0_failPower wsX0_failPower 2 0 0 D (tyC cI cZ) (wC h0 a0 a1 a2 a3 a4 a5 cI cZ bf pw hs lo lg rt nb (nI fi) (nI fo) (nI en) on cu ma) [.ref h0] (wC h0 a0 a1 a2 a3 a4 a5 cI cZ (zf bf) pw hs lo lg rt nb (nI fi) (nI fo) (nI fo) 0 cu ma) := by
  refine st_V (cc := cX0_failPower) (maxL := 1) (ret := none) (by decide +kernel) rfl (Nat.le_of_ble_eq_true rfl) ?_
  intro p e s m below meth c A hx hb hr hts hown hml hlocks hK hP hD hA hS ls hl
  have hown : s.vm.findClass RX0 = some m.cls := hown
  have hl : lv_has ls 1 [(0, .ref h0)] := hl
  refine lv_aload_n hx hb dX0_failPower_0 rfl (lv_at hl 0 rfl) ?_
  refine lv_iconst (v := (0)) hx hb dX0_failPower_1 (by decide) ?_
  refine va_put (ci := 0) (v := .int 0) (ty := .boolean) (C := RX0) (T := TX0) (N := 13) hx hb hts inX0_failPower tyX0 tyX0_ok nmX0 hown hK hP hD hS 0 rfl rfl 10 (by decide) (hts _ flX0_failPower_31) (fun _ h9 => h9) rfl (by decide +kernel) rfl rfl (Nat.le_of_ble_eq_true rfl) dX0_failPower_2 (fun H locs hP hD hS => ?_)
  have hP : va_P D vwCl (wC h0 a0 a1 a2 a3 a4 a5 cI cZ bf pw hs lo lg rt nb (nI fi) (nI fo) (nI en) 0 cu ma) H := hP
  have hD : va_D A (wC h0 a0 a1 a2 a3 a4 a5 cI cZ bf pw hs lo lg rt nb (nI fi) (nI fo) (nI en) 0 cu ma) := hD
  refine lv_aload_n hx hb dX0_failPower_5 rfl (lv_at hl 0 rfl) ?_
  refine lv_aload_n hx hb dX0_failPower_6 rfl (lv_at hl 0 rfl) ?_
  refine va_get (ci := 0) (v := .int (nI fo)) (C := RX0) (T := TX0) (N := 13) hx hb hts inX0_failPower hown hK hP 0 rfl rfl 7 (by decide) (hts _ flX0_failPower_96) (fun _ h9 => h9) rfl dX0_failPower_7 ?_
  refine va_put (ci := 0) (v := .int (nI fo)) (ty := .int) (C := RX0) (T := TX0) (N := 13) hx hb hts inX0_failPower tyX0 tyX0_ok nmX0 hown hK hP hD hS 0 rfl rfl 8 (by decide) (hts _ flX0_failPower_84) (fun _ h9 => h9) rfl (by decide +kernel) rfl rfl (Nat.le_of_ble_eq_true rfl) dX0_failPower_10 (fun H locs hP hD hS => ?_)
  have hP : va_P D vwCl (wC h0 a0 a1 a2 a3 a4 a5 cI cZ bf pw hs lo lg rt nb (nI fi) (nI fo) (nI fo) 0 cu ma) H := hP
  have hD : va_D A (wC h0 a0 a1 a2 a3 a4 a5 cI cZ bf pw hs lo lg rt nb (nI fi) (nI fo) (nI fo) 0 cu ma) := hD
  refine lv_aload_n hx hb dX0_failPower_13 rfl (lv_at hl 0 rfl) ?_
  refine va_get (ci := 0) (v := .ref a0) (C := RX0) (T := TX0) (N := 13) hx hb hts inX0_failPower hown hK hP 0 rfl rfl 0 (by decide) (hts _ flX0_failPower_9) (fun _ h9 => h9) rfl dX0_failPower_14 ?_
  refine lv_iconst (v := (0)) hx hb dX0_failPower_17 (by decide) ?_
  refine k_V (wr := List.eraseIdx (wC h0 a0 a1 a2 a3 a4 a5 cI cZ bf pw hs lo lg rt nb (nI fi) (nI fo) (nI fo) 0 cu ma) 1) hP hD hS hA (va_runS (As := [.ref a0, .int 0]) (rest := []) ⟨hx, hb, hml, hown, hts⟩ (tJ7_fill 64 (by omega) bf 0 _) (va_cwS 2 hts gX0_failPower_J7_fill_53178 rfl rfl rfl (by decide +kernel) ⟨Nat.le_of_ble_eq_true rfl, Nat.le_of_ble_eq_true rfl⟩) (pS_B hP hD hK [0] rfl [1] rfl rfl) rfl rfl hl.1 rfl (lv_room (Nat.le_of_ble_eq_true rfl)) dX0_failPower_18 ⟨Nat.le_of_ble_eq_true rfl, Nat.le_of_ble_eq_true rfl⟩) [1] [0, 2, 3, 4, 5, 6] rfl rfl rfl (by decide) (fun H locs hP hD hS => ?_)
  have hP : va_P D vwCl (wC h0 a0 a1 a2 a3 a4 a5 cI cZ (zf bf) pw hs lo lg rt nb (nI fi) (nI fo) (nI fo) 0 cu ma) H := hP.sub [0, 6, 1, 2, 3, 4, 5] rfl
  have hD : va_D A (wC h0 a0 a1 a2 a3 a4 a5 cI cZ (zf bf) pw hs lo lg rt nb (nI fi) (nI fo) (nI fo) 0 cu ma) := hD.sub [0, 6, 1, 2, 3, 4, 5] (by decide) rfl
  exact e_V hx hb hr hlocks hP hD hS dX0_failPower_21
set_option maxHeartbeats 4000000 in
set_option maxRecDepth 100000 in
theorem tX0_makeLeastWrite_cut {l : Launch} {D : va_G} {cI cZ : ClassId} {h0 a0 a1 a2 a3 a4 a5 : Nat} (bf pw hs lo lg rt : Nat → Int32) (nb : Int32) (fi fo en : Nat) (on cu ma : Int32) (h : cu = 0) : RI l yX0_makeLeastWrite wsX0_makeLeastWrite 3 0 0 D (tyC cI cZ) (wC h0 a0 a1 a2 a3 a4 a5 cI cZ bf pw hs lo lg rt nb (nI fi) (nI fo) (nI en) on cu ma) [.ref h0] 0 (wC h0 a0 a1 a2 a3 a4 a5 cI cZ (zf bf) pw hs lo lg rt nb (nI fi) (nI fo) (nI fo) 0 cu ma) := by
  refine st_I (cc := cX0_makeLeastWrite) (maxL := 1) (ret := (some .boolean)) (by decide +kernel) rfl (Nat.le_of_ble_eq_true rfl) ?_
  intro p e s m below meth c A hx hb hr hts hown hml hlocks hK hP hD hA hS ls hl
  have hown : s.vm.findClass RX0 = some m.cls := hown
  have hl : lv_has ls 1 [(0, .ref h0)] := hl
  refine lv_aload_n hx hb dX0_makeLeastWrite_0 rfl (lv_at hl 0 rfl) ?_
  refine va_get (ci := 0) (v := .int cu) (C := RX0) (T := TX0) (N := 13) hx hb hts inX0_makeLeastWrite hown hK hP 0 rfl rfl 11 (by decide) (hts _ flX0_makeLeastWrite_35) (fun _ h9 => h9) rfl dX0_makeLeastWrite_1 ?_
  refine lv_if_ne (tgt := 13) hx hb dX0_makeLeastWrite_4 (by decide) (fun c_4 => absurd (h) c_4) (fun c_4 => ?_)
  refine lv_aload_n hx hb dX0_makeLeastWrite_7 rfl (lv_at hl 0 rfl) ?_
  refine k_V (wr := []) hP hD hS hA (va_runV (As := []) (rest := []) ⟨hx, hb, hml, hown, hts⟩ ((tX0_failPower bf pw hs lo lg rt nb fi fo en on cu ma) _) (cwV 0 hts gX0_makeLeastWrite_X0_failPower rfl rfl rfl (by decide +kernel) ⟨Nat.le_of_ble_eq_true rfl, Nat.le_of_ble_eq_true rfl⟩) (pV_B hP hD hK (ci := 0) (q0 := 0) rfl rfl rfl [0, 1] rfl [0, 1, 2, 3, 4, 5, 6] rfl rfl) rfl rfl hl.1 rfl (lv_room (Nat.le_of_ble_eq_true rfl)) dX0_makeLeastWrite_8 ⟨Nat.le_of_ble_eq_true rfl, Nat.le_of_ble_eq_true rfl⟩) [0, 1, 2, 3, 4, 5, 6] [] rfl rfl rfl (by decide) (fun H locs hP hD hS => ?_)
  have hP : va_P D vwCl (wC h0 a0 a1 a2 a3 a4 a5 cI cZ (zf bf) pw hs lo lg rt nb (nI fi) (nI fo) (nI fo) 0 cu ma) H := hP
  have hD : va_D A (wC h0 a0 a1 a2 a3 a4 a5 cI cZ (zf bf) pw hs lo lg rt nb (nI fi) (nI fo) (nI fo) 0 cu ma) := hD
  refine lv_iconst (v := (0)) hx hb dX0_makeLeastWrite_11 (by decide) ?_
  exact e_Z hx hb hr hlocks hP hD hS rfl rfl dX0_makeLeastWrite_12
set_option maxHeartbeats 4000000 in
set_option maxRecDepth 100000 in
theorem tX0_makeLeastWrite_ok {l : Launch} {D : va_G} {cI cZ : ClassId} {h0 a0 a1 a2 a3 a4 a5 : Nat} (bf pw hs lo lg rt : Nat → Int32) (nb : Int32) (fi fo en : Nat) (on cu ma : Int32) (h : ¬ cu = 0) : RI l yX0_makeLeastWrite wsX0_makeLeastWrite 3 0 0 D (tyC cI cZ) (wC h0 a0 a1 a2 a3 a4 a5 cI cZ bf pw hs lo lg rt nb (nI fi) (nI fo) (nI en) on cu ma) [.ref h0] 1 (wC h0 a0 a1 a2 a3 a4 a5 cI cZ bf pw hs lo lg rt nb (nI fi) (nI fo) (nI en) on (dcu cu) (ma + 1)) := by
  refine st_I (cc := cX0_makeLeastWrite) (maxL := 1) (ret := (some .boolean)) (by decide +kernel) rfl (Nat.le_of_ble_eq_true rfl) ?_
  intro p e s m below meth c A hx hb hr hts hown hml hlocks hK hP hD hA hS ls hl
  have hown : s.vm.findClass RX0 = some m.cls := hown
  have hl : lv_has ls 1 [(0, .ref h0)] := hl
  refine lv_aload_n hx hb dX0_makeLeastWrite_0 rfl (lv_at hl 0 rfl) ?_
  refine va_get (ci := 0) (v := .int cu) (C := RX0) (T := TX0) (N := 13) hx hb hts inX0_makeLeastWrite hown hK hP 0 rfl rfl 11 (by decide) (hts _ flX0_makeLeastWrite_35) (fun _ h9 => h9) rfl dX0_makeLeastWrite_1 ?_
  refine lv_if_ne (tgt := 13) hx hb dX0_makeLeastWrite_4 (by decide) (fun c_4 => ?_) (fun c_4 => absurd c_4 (h))
  refine lv_aload_n hx hb dX0_makeLeastWrite_13 rfl (lv_at hl 0 rfl) ?_
  refine va_get (ci := 0) (v := .int cu) (C := RX0) (T := TX0) (N := 13) hx hb hts inX0_makeLeastWrite hown hK hP 0 rfl rfl 11 (by decide) (hts _ flX0_makeLeastWrite_35) (fun _ h9 => h9) rfl dX0_makeLeastWrite_14 ?_
  refine lv_iconst (v := (-1)) hx hb dX0_makeLeastWrite_17 (by decide) ?_
  refine lv_icmp_eq (tgt := 31) hx hb dX0_makeLeastWrite_18 (by decide) (fun c_18 => ?_) (fun c_18 => ?_)
  · have hP : va_P D vwCl (wC h0 a0 a1 a2 a3 a4 a5 cI cZ bf pw hs lo lg rt nb (nI fi) (nI fo) (nI en) on (dcu cu) ma) s.heap := by rw [show dcu cu = cu by simp [dcu, c_18]]; exact hP
    have hD : va_D A (wC h0 a0 a1 a2 a3 a4 a5 cI cZ bf pw hs lo lg rt nb (nI fi) (nI fo) (nI en) on (dcu cu) ma) := by rw [show dcu cu = cu by simp [dcu, c_18]]; exact hD
    refine lv_aload_n hx hb dX0_makeLeastWrite_31 rfl (lv_at hl 0 rfl) ?_
    refine lv_dup hx hb dX0_makeLeastWrite_32 rfl ?_
    refine va_get (ci := 0) (v := .int ma) (C := RX0) (T := TX0) (N := 13) hx hb hts inX0_makeLeastWrite hown hK hP 0 rfl rfl 12 (by decide) (hts _ flX0_makeLeastWrite_108) (fun _ h9 => h9) rfl dX0_makeLeastWrite_33 ?_
    refine lv_iconst (v := (1)) hx hb dX0_makeLeastWrite_36 (by decide) ?_
    refine lv_iadd hx hb dX0_makeLeastWrite_37 ?_
    refine va_put (ci := 0) (v := .int (ma + 1)) (ty := .int) (C := RX0) (T := TX0) (N := 13) hx hb hts inX0_makeLeastWrite tyX0 tyX0_ok nmX0 hown hK hP hD hS 0 rfl rfl 12 (by decide) (hts _ flX0_makeLeastWrite_108) (fun _ h9 => h9) rfl (by decide +kernel) rfl rfl (Nat.le_of_ble_eq_true rfl) dX0_makeLeastWrite_38 (fun H locs hP hD hS => ?_)
    have hP : va_P D vwCl (wC h0 a0 a1 a2 a3 a4 a5 cI cZ bf pw hs lo lg rt nb (nI fi) (nI fo) (nI en) on (dcu cu) (ma + 1)) H := hP
    have hD : va_D A (wC h0 a0 a1 a2 a3 a4 a5 cI cZ bf pw hs lo lg rt nb (nI fi) (nI fo) (nI en) on (dcu cu) (ma + 1)) := hD
    refine lv_iconst (v := (1)) hx hb dX0_makeLeastWrite_41 (by decide) ?_
    exact e_Z hx hb hr hlocks hP hD hS rfl rfl dX0_makeLeastWrite_42
  · refine lv_aload_n hx hb dX0_makeLeastWrite_21 rfl (lv_at hl 0 rfl) ?_
    refine lv_dup hx hb dX0_makeLeastWrite_22 rfl ?_
    refine va_get (ci := 0) (v := .int cu) (C := RX0) (T := TX0) (N := 13) hx hb hts inX0_makeLeastWrite hown hK hP 0 rfl rfl 11 (by decide) (hts _ flX0_makeLeastWrite_35) (fun _ h9 => h9) rfl dX0_makeLeastWrite_23 ?_
    refine lv_iconst (v := (1)) hx hb dX0_makeLeastWrite_26 (by decide) ?_
    refine lv_isub hx hb dX0_makeLeastWrite_27 ?_
    refine va_put (ci := 0) (v := .int (cu - 1)) (ty := .int) (C := RX0) (T := TX0) (N := 13) hx hb hts inX0_makeLeastWrite tyX0 tyX0_ok nmX0 hown hK hP hD hS 0 rfl rfl 11 (by decide) (hts _ flX0_makeLeastWrite_35) (fun _ h9 => h9) rfl (by decide +kernel) rfl rfl (Nat.le_of_ble_eq_true rfl) dX0_makeLeastWrite_28 (fun H locs hP hD hS => ?_)
    have hP : va_P D vwCl (wC h0 a0 a1 a2 a3 a4 a5 cI cZ bf pw hs lo lg rt nb (nI fi) (nI fo) (nI en) on (cu - 1) ma) H := hP
    have hD : va_D A (wC h0 a0 a1 a2 a3 a4 a5 cI cZ bf pw hs lo lg rt nb (nI fi) (nI fo) (nI en) on (cu - 1) ma) := hD
    have hP : va_P D vwCl (wC h0 a0 a1 a2 a3 a4 a5 cI cZ bf pw hs lo lg rt nb (nI fi) (nI fo) (nI en) on (dcu cu) ma) H := by rw [show dcu cu = cu - 1 by simp [dcu, c_18]]; exact hP
    have hD : va_D A (wC h0 a0 a1 a2 a3 a4 a5 cI cZ bf pw hs lo lg rt nb (nI fi) (nI fo) (nI en) on (dcu cu) ma) := by rw [show dcu cu = cu - 1 by simp [dcu, c_18]]; exact hD
    refine lv_aload_n hx hb dX0_makeLeastWrite_31 rfl (lv_at hl 0 rfl) ?_
    refine lv_dup hx hb dX0_makeLeastWrite_32 rfl ?_
    refine va_get (ci := 0) (v := .int ma) (C := RX0) (T := TX0) (N := 13) hx hb hts inX0_makeLeastWrite hown hK hP 0 rfl rfl 12 (by decide) (hts _ flX0_makeLeastWrite_108) (fun _ h9 => h9) rfl dX0_makeLeastWrite_33 ?_
    refine lv_iconst (v := (1)) hx hb dX0_makeLeastWrite_36 (by decide) ?_
    refine lv_iadd hx hb dX0_makeLeastWrite_37 ?_
    refine va_put (ci := 0) (v := .int (ma + 1)) (ty := .int) (C := RX0) (T := TX0) (N := 13) hx hb hts inX0_makeLeastWrite tyX0 tyX0_ok nmX0 hown hK hP hD hS 0 rfl rfl 12 (by decide) (hts _ flX0_makeLeastWrite_108) (fun _ h9 => h9) rfl (by decide +kernel) rfl rfl (Nat.le_of_ble_eq_true rfl) dX0_makeLeastWrite_38 (fun H locs hP hD hS => ?_)
    have hP : va_P D vwCl (wC h0 a0 a1 a2 a3 a4 a5 cI cZ bf pw hs lo lg rt nb (nI fi) (nI fo) (nI en) on (dcu cu) (ma + 1)) H := hP
    have hD : va_D A (wC h0 a0 a1 a2 a3 a4 a5 cI cZ bf pw hs lo lg rt nb (nI fi) (nI fo) (nI en) on (dcu cu) (ma + 1)) := hD
    refine lv_iconst (v := (1)) hx hb dX0_makeLeastWrite_41 (by decide) ?_
    exact e_Z hx hb hr hlocks hP hD hS rfl rfl dX0_makeLeastWrite_42
set_option maxHeartbeats 4000000 in
set_option maxRecDepth 100000 in
theorem tX0_writePage_b0 {l : Launch} {D : va_G} {cI cZ : ClassId} {h0 a0 a1 a2 a3 a4 a5 : Nat} (bf pw hs lo lg rt : Nat → Int32) (nb : Int32) (fi fo en : Nat) (on cu ma : Int32) (k : Nat) (hk : k < 512) (h : cu = 0) : RI l yX0_writePage wsX0_writePage 4 0 0 D (tyC cI cZ) (wC h0 a0 a1 a2 a3 a4 a5 cI cZ bf pw hs lo lg rt nb (nI fi) (nI fo) (nI en) on cu ma) [.ref h0, .int (nI k), .ref a0, .int (nI 0)] (-1) (wC h0 a0 a1 a2 a3 a4 a5 cI cZ (zf bf) pw hs lo lg rt (nb + 1) (nI fi) (nI fo) (nI fo) 0 cu ma) := by
  refine st_I (cc := cX0_writePage) (maxL := 6) (ret := (some .int)) (by decide +kernel) rfl (Nat.le_of_ble_eq_true rfl) ?_
  intro p e s m below meth c A hx hb hr hts hown hml hlocks hK hP hD hA hS ls hl
  have hown : s.vm.findClass RX0 = some m.cls := hown
  have hl : lv_has ls 6 [(0, .ref h0), (1, .int (nI k)), (2, .ref a0), (3, .int (nI 0))] := hl
  refine lv_aload_n hx hb dX0_writePage_0 rfl (lv_at hl 0 rfl) ?_
  refine lv_dup hx hb dX0_writePage_1 rfl ?_
  refine va_get (ci := 0) (v := .int nb) (C := RX0) (T := TX0) (N := 13) hx hb hts inX0_writePage hown hK hP 0 rfl rfl 4 (by decide) (hts _ flX0_writePage_128) (fun _ h9 => h9) rfl dX0_writePage_2 ?_
  refine lv_iconst (v := (1)) hx hb dX0_writePage_5 (by decide) ?_
  refine lv_iadd hx hb dX0_writePage_6 ?_
  refine va_put (ci := 0) (v := .int (nb + 1)) (ty := .int) (C := RX0) (T := TX0) (N := 13) hx hb hts inX0_writePage tyX0 tyX0_ok nmX0 hown hK hP hD hS 0 rfl rfl 4 (by decide) (hts _ flX0_writePage_128) (fun _ h9 => h9) rfl (by decide +kernel) rfl rfl (Nat.le_of_ble_eq_true rfl) dX0_writePage_7 (fun H locs hP hD hS => ?_)
  have hP : va_P D vwCl (wC h0 a0 a1 a2 a3 a4 a5 cI cZ bf pw hs lo lg rt (nb + 1) (nI fi) (nI fo) (nI en) on cu ma) H := hP
  have hD : va_D A (wC h0 a0 a1 a2 a3 a4 a5 cI cZ bf pw hs lo lg rt (nb + 1) (nI fi) (nI fo) (nI en) on cu ma) := hD
  refine lv_iconst (v := (nI 0)) hx hb dX0_writePage_10 (by decide) ?_
  refine lv_istore (lv' := [(4, .int (nI 0)), (0, .ref h0), (1, .int (nI k)), (2, .ref a0), (3, .int (nI 0))]) hx hb dX0_writePage_11 hl (by decide) rfl (fun ls hl => ?_)
  refine lv_iload hx hb dX0_writePage_13 (lv_at hl 0 rfl) ?_
  refine lv_iconst (v := (nI 2)) hx hb dX0_writePage_15 (by decide) ?_
  refine n_ge (tgt := 77) hx hb (by omega) (by omega) dX0_writePage_16 (by decide) (fun c_16 => absurd c_16 (by omega)) (fun c_16 => ?_)
  refine lv_aload_n hx hb dX0_writePage_19 rfl (lv_at hl 1 rfl) ?_
  refine k_I (wr := []) hP hD hS hA (va_runV (As := []) (rest := []) ⟨hx, hb, hml, hown, hts⟩ ((tX0_makeLeastWrite_cut bf pw hs lo lg rt (nb + 1) fi fo en on cu ma h) _) (cwV 0 hts gX0_writePage_X0_makeLeastWrite rfl rfl rfl (by decide +kernel) ⟨Nat.le_of_ble_eq_true rfl, Nat.le_of_ble_eq_true rfl⟩) (pV_B hP hD hK (ci := 0) (q0 := 0) rfl rfl rfl [0, 1] rfl [0, 1, 2, 3, 4, 5, 6] rfl rfl) rfl rfl hl.1 rfl (lv_room (Nat.le_of_ble_eq_true rfl)) dX0_writePage_20 ⟨Nat.le_of_ble_eq_true rfl, Nat.le_of_ble_eq_true rfl⟩) [0, 1, 2, 3, 4, 5, 6] [] rfl rfl rfl (by decide) (fun H locs hP hD hS => ?_)
  have hP : va_P D vwCl (wC h0 a0 a1 a2 a3 a4 a5 cI cZ (zf bf) pw hs lo lg rt (nb + 1) (nI fi) (nI fo) (nI fo) 0 cu ma) H := hP
  have hD : va_D A (wC h0 a0 a1 a2 a3 a4 a5 cI cZ (zf bf) pw hs lo lg rt (nb + 1) (nI fi) (nI fo) (nI fo) 0 cu ma) := hD
  refine lv_if_ne (tgt := 28) hx hb dX0_writePage_23 (by decide) (fun c_23 => absurd (rfl) c_23) (fun c_23 => ?_)
  refine lv_iconst (v := (-1)) hx hb dX0_writePage_26 (by decide) ?_
  exact e_I hx hb hr hlocks hP hD hS rfl dX0_writePage_27
set_option maxHeartbeats 4000000 in
set_option maxRecDepth 100000 in
theorem tX0_writePage_b1 {l : Launch} {D : va_G} {cI cZ : ClassId} {h0 a0 a1 a2 a3 a4 a5 : Nat} (bf pw hs lo lg rt : Nat → Int32) (nb : Int32) (fi fo en : Nat) (on cu ma : Int32) (k : Nat) (hk : k < 512) (h : ¬ cu = 0) (h1 : dcu cu = 0) : RI l yX0_writePage wsX0_writePage 4 0 0 D (tyC cI cZ) (wC h0 a0 a1 a2 a3 a4 a5 cI cZ bf pw hs lo lg rt nb (nI fi) (nI fo) (nI en) on cu ma) [.ref h0, .int (nI k), .ref a0, .int (nI 0)] (-1) (wC h0 a0 a1 a2 a3 a4 a5 cI cZ (zf bf) (va_cpy bf pw 0 (k * 64) 32) (upd hs (k * 2) (nb + 1)) lo lg rt (nb + 1) (nI fi) (nI fo) (nI fo) 0 (dcu cu) (ma + 1)) := by
  refine st_I (cc := cX0_writePage) (maxL := 6) (ret := (some .int)) (by decide +kernel) rfl (Nat.le_of_ble_eq_true rfl) ?_
  intro p e s m below meth c A hx hb hr hts hown hml hlocks hK hP hD hA hS ls hl
  have hown : s.vm.findClass RX0 = some m.cls := hown
  have hl : lv_has ls 6 [(0, .ref h0), (1, .int (nI k)), (2, .ref a0), (3, .int (nI 0))] := hl
  refine lv_aload_n hx hb dX0_writePage_0 rfl (lv_at hl 0 rfl) ?_
  refine lv_dup hx hb dX0_writePage_1 rfl ?_
  refine va_get (ci := 0) (v := .int nb) (C := RX0) (T := TX0) (N := 13) hx hb hts inX0_writePage hown hK hP 0 rfl rfl 4 (by decide) (hts _ flX0_writePage_128) (fun _ h9 => h9) rfl dX0_writePage_2 ?_
  refine lv_iconst (v := (1)) hx hb dX0_writePage_5 (by decide) ?_
  refine lv_iadd hx hb dX0_writePage_6 ?_
  refine va_put (ci := 0) (v := .int (nb + 1)) (ty := .int) (C := RX0) (T := TX0) (N := 13) hx hb hts inX0_writePage tyX0 tyX0_ok nmX0 hown hK hP hD hS 0 rfl rfl 4 (by decide) (hts _ flX0_writePage_128) (fun _ h9 => h9) rfl (by decide +kernel) rfl rfl (Nat.le_of_ble_eq_true rfl) dX0_writePage_7 (fun H locs hP hD hS => ?_)
  have hP : va_P D vwCl (wC h0 a0 a1 a2 a3 a4 a5 cI cZ bf pw hs lo lg rt (nb + 1) (nI fi) (nI fo) (nI en) on cu ma) H := hP
  have hD : va_D A (wC h0 a0 a1 a2 a3 a4 a5 cI cZ bf pw hs lo lg rt (nb + 1) (nI fi) (nI fo) (nI en) on cu ma) := hD
  refine lv_iconst (v := (nI 0)) hx hb dX0_writePage_10 (by decide) ?_
  refine lv_istore (lv' := [(4, .int (nI 0)), (0, .ref h0), (1, .int (nI k)), (2, .ref a0), (3, .int (nI 0))]) hx hb dX0_writePage_11 hl (by decide) rfl (fun ls hl => ?_)
  refine lv_iload hx hb dX0_writePage_13 (lv_at hl 0 rfl) ?_
  refine lv_iconst (v := (nI 2)) hx hb dX0_writePage_15 (by decide) ?_
  refine n_ge (tgt := 77) hx hb (by omega) (by omega) dX0_writePage_16 (by decide) (fun c_16 => absurd c_16 (by omega)) (fun c_16 => ?_)
  refine lv_aload_n hx hb dX0_writePage_19 rfl (lv_at hl 1 rfl) ?_
  refine k_I (wr := []) hP hD hS hA (va_runV (As := []) (rest := []) ⟨hx, hb, hml, hown, hts⟩ ((tX0_makeLeastWrite_ok bf pw hs lo lg rt (nb + 1) fi fo en on cu ma h) _) (cwV 0 hts gX0_writePage_X0_makeLeastWrite rfl rfl rfl (by decide +kernel) ⟨Nat.le_of_ble_eq_true rfl, Nat.le_of_ble_eq_true rfl⟩) (pV_B hP hD hK (ci := 0) (q0 := 0) rfl rfl rfl [0, 1] rfl [0, 1, 2, 3, 4, 5, 6] rfl rfl) rfl rfl hl.1 rfl (lv_room (Nat.le_of_ble_eq_true rfl)) dX0_writePage_20 ⟨Nat.le_of_ble_eq_true rfl, Nat.le_of_ble_eq_true rfl⟩) [0, 1, 2, 3, 4, 5, 6] [] rfl rfl rfl (by decide) (fun H locs hP hD hS => ?_)
  have hP : va_P D vwCl (wC h0 a0 a1 a2 a3 a4 a5 cI cZ bf pw hs lo lg rt (nb + 1) (nI fi) (nI fo) (nI en) on (dcu cu) (ma + 1)) H := hP
  have hD : va_D A (wC h0 a0 a1 a2 a3 a4 a5 cI cZ bf pw hs lo lg rt (nb + 1) (nI fi) (nI fo) (nI en) on (dcu cu) (ma + 1)) := hD
  refine lv_if_ne (tgt := 28) hx hb dX0_writePage_23 (by decide) (fun c_23 => ?_) (fun c_23 => absurd c_23 (by decide))
  refine lv_iload hx hb dX0_writePage_28 (lv_at hl 0 rfl) ?_
  refine lv_bipush (v := (nI 32)) hx hb dX0_writePage_30 (by decide) ?_
  refine n_imul hx hb dX0_writePage_32 ?_
  refine lv_istore (lv' := [(5, .int (nI 0)), (4, .int (nI 0)), (0, .ref h0), (1, .int (nI k)), (2, .ref a0), (3, .int (nI 0))]) hx hb dX0_writePage_33 hl (by decide) rfl (fun ls hl => ?_)
  refine lv_aload_n hx hb dX0_writePage_35 rfl (lv_at hl 4 rfl) ?_
  refine lv_iload_n hx hb dX0_writePage_36 rfl (lv_at hl 5 rfl) ?_
  refine lv_iload hx hb dX0_writePage_37 (lv_at hl 0 rfl) ?_
  refine n_iadd hx hb dX0_writePage_39 ?_
  refine lv_aload_n hx hb dX0_writePage_40 rfl (lv_at hl 2 rfl) ?_
  refine va_get (ci := 0) (v := .ref a1) (C := RX0) (T := TX0) (N := 13) hx hb hts inX0_writePage hown hK hP 0 rfl rfl 1 (by decide) (hts _ flX0_writePage_14) (fun _ h9 => h9) rfl dX0_writePage_41 ?_
  refine lv_iload_n hx hb dX0_writePage_44 rfl (lv_at hl 3 rfl) ?_
  refine lv_bipush (v := (nI 64)) hx hb dX0_writePage_45 (by decide) ?_
  refine n_imul hx hb dX0_writePage_47 ?_
  refine lv_iload hx hb dX0_writePage_48 (lv_at hl 0 rfl) ?_
  refine n_iadd hx hb dX0_writePage_50 ?_
  refine lv_bipush (v := (nI 32)) hx hb dX0_writePage_51 (by decide) ?_
  refine n_copyi hx hb hl.1 hml hown acX0_writePage hts hK hP hD hS 1 2 0 rfl rfl rfl 0 (k * 64) 32 (by omega) (by omega) (by omega) (by omega) (by omega) (Nat.le_of_ble_eq_true rfl) (Nat.le_of_ble_eq_true rfl) dX0_writePage_53 (fun H locs hP hD hS => ?_)
  have hP : va_P D vwCl (wC h0 a0 a1 a2 a3 a4 a5 cI cZ bf (va_cpy bf pw 0 (k * 64) 32) hs lo lg rt (nb + 1) (nI fi) (nI fo) (nI en) on (dcu cu) (ma + 1)) H := hP
  have hD : va_D A (wC h0 a0 a1 a2 a3 a4 a5 cI cZ bf (va_cpy bf pw 0 (k * 64) 32) hs lo lg rt (nb + 1) (nI fi) (nI fo) (nI en) on (dcu cu) (ma + 1)) := hD
  refine lv_aload_n hx hb dX0_writePage_56 rfl (lv_at hl 2 rfl) ?_
  refine va_get (ci := 0) (v := .ref a2) (C := RX0) (T := TX0) (N := 13) hx hb hts inX0_writePage hown hK hP 0 rfl rfl 2 (by decide) (hts _ flX0_writePage_17) (fun _ h9 => h9) rfl dX0_writePage_57 ?_
  refine lv_iload_n hx hb dX0_writePage_60 rfl (lv_at hl 3 rfl) ?_
  refine lv_iconst (v := (nI 2)) hx hb dX0_writePage_61 (by decide) ?_
  refine n_imul hx hb dX0_writePage_62 ?_
  refine lv_iload hx hb dX0_writePage_63 (lv_at hl 1 rfl) ?_
  refine n_iadd hx hb dX0_writePage_65 ?_
  refine lv_aload_n hx hb dX0_writePage_66 rfl (lv_at hl 2 rfl) ?_
  refine va_get (ci := 0) (v := .int (nb + 1)) (C := RX0) (T := TX0) (N := 13) hx hb hts inX0_writePage hown hK hP 0 rfl rfl 4 (by decide) (hts _ flX0_writePage_128) (fun _ h9 => h9) rfl dX0_writePage_67 ?_
  refine n_iast hx hb hK hP hD hS 3 0 rfl rfl (k * 2) (by omega) (by omega) dX0_writePage_70 (fun H locs hP hD hS => ?_)
  have hP : va_P D vwCl (wC h0 a0 a1 a2 a3 a4 a5 cI cZ bf (va_cpy bf pw 0 (k * 64) 32) (upd hs (k * 2) (nb + 1)) lo lg rt (nb + 1) (nI fi) (nI fo) (nI en) on (dcu cu) (ma + 1)) H := hP
  have hD : va_D A (wC h0 a0 a1 a2 a3 a4 a5 cI cZ bf (va_cpy bf pw 0 (k * 64) 32) (upd hs (k * 2) (nb + 1)) lo lg rt (nb + 1) (nI fi) (nI fo) (nI en) on (dcu cu) (ma + 1)) := hD
  refine n_iinc (lv' := [(4, .int (nI 1)), (5, .int (nI 0)), (0, .ref h0), (1, .int (nI k)), (2, .ref a0), (3, .int (nI 0))]) hx hb dX0_writePage_71 hl (k := 1) rfl (by decide) rfl (fun ls hl => ?_)
  refine lv_goto (tgt := 13) hx hb dX0_writePage_74 (by decide) ?_
  refine lv_iload hx hb dX0_writePage_13 (lv_at hl 0 rfl) ?_
  refine lv_iconst (v := (nI 2)) hx hb dX0_writePage_15 (by decide) ?_
  refine n_ge (tgt := 77) hx hb (by omega) (by omega) dX0_writePage_16 (by decide) (fun c_16 => absurd c_16 (by omega)) (fun c_16 => ?_)
  refine lv_aload_n hx hb dX0_writePage_19 rfl (lv_at hl 2 rfl) ?_
  refine k_I (wr := []) hP hD hS hA (va_runV (As := []) (rest := []) ⟨hx, hb, hml, hown, hts⟩ ((tX0_makeLeastWrite_cut bf (va_cpy bf pw 0 (k * 64) 32) (upd hs (k * 2) (nb + 1)) lo lg rt (nb + 1) fi fo en on (dcu cu) (ma + 1) h1) _) (cwV 0 hts gX0_writePage_X0_makeLeastWrite rfl rfl rfl (by decide +kernel) ⟨Nat.le_of_ble_eq_true rfl, Nat.le_of_ble_eq_true rfl⟩) (pV_B hP hD hK (ci := 0) (q0 := 0) rfl rfl rfl [0, 1] rfl [0, 1, 2, 3, 4, 5, 6] rfl rfl) rfl rfl hl.1 rfl (lv_room (Nat.le_of_ble_eq_true rfl)) dX0_writePage_20 ⟨Nat.le_of_ble_eq_true rfl, Nat.le_of_ble_eq_true rfl⟩) [0, 1, 2, 3, 4, 5, 6] [] rfl rfl rfl (by decide) (fun H locs hP hD hS => ?_)
  have hP : va_P D vwCl (wC h0 a0 a1 a2 a3 a4 a5 cI cZ (zf bf) (va_cpy bf pw 0 (k * 64) 32) (upd hs (k * 2) (nb + 1)) lo lg rt (nb + 1) (nI fi) (nI fo) (nI fo) 0 (dcu cu) (ma + 1)) H := hP
  have hD : va_D A (wC h0 a0 a1 a2 a3 a4 a5 cI cZ (zf bf) (va_cpy bf pw 0 (k * 64) 32) (upd hs (k * 2) (nb + 1)) lo lg rt (nb + 1) (nI fi) (nI fo) (nI fo) 0 (dcu cu) (ma + 1)) := hD
  refine lv_if_ne (tgt := 28) hx hb dX0_writePage_23 (by decide) (fun c_23 => absurd (rfl) c_23) (fun c_23 => ?_)
  refine lv_iconst (v := (-1)) hx hb dX0_writePage_26 (by decide) ?_
  exact e_I hx hb hr hlocks hP hD hS rfl dX0_writePage_27
set_option maxHeartbeats 4000000 in
set_option maxRecDepth 100000 in
theorem tX0_writePage_b2 {l : Launch} {D : va_G} {cI cZ : ClassId} {h0 a0 a1 a2 a3 a4 a5 : Nat} (bf pw hs lo lg rt : Nat → Int32) (nb : Int32) (fi fo en : Nat) (on cu ma : Int32) (k : Nat) (hk : k < 512) (h : ¬ cu = 0) (h1 : ¬ dcu cu = 0) : RI l yX0_writePage wsX0_writePage 4 0 0 D (tyC cI cZ) (wC h0 a0 a1 a2 a3 a4 a5 cI cZ bf pw hs lo lg rt nb (nI fi) (nI fo) (nI en) on cu ma) [.ref h0, .int (nI k), .ref a0, .int (nI 0)] (nb + 1) (wC h0 a0 a1 a2 a3 a4 a5 cI cZ bf (va_cpy bf (va_cpy bf pw 0 (k * 64) 32) 32 (k * 64 + 32) 32) (upd (upd hs (k * 2) (nb + 1)) (k * 2 + 1) (nb + 1)) (upd lo k 0) lg rt (nb + 1) (nI fi) (nI fo) (nI en) on (dcu (dcu cu)) (ma + 1 + 1)) := by
  refine st_I (cc := cX0_writePage) (maxL := 6) (ret := (some .int)) (by decide +kernel) rfl (Nat.le_of_ble_eq_true rfl) ?_
  intro p e s m below meth c A hx hb hr hts hown hml hlocks hK hP hD hA hS ls hl
  have hown : s.vm.findClass RX0 = some m.cls := hown
  have hl : lv_has ls 6 [(0, .ref h0), (1, .int (nI k)), (2, .ref a0), (3, .int (nI 0))] := hl
  refine lv_aload_n hx hb dX0_writePage_0 rfl (lv_at hl 0 rfl) ?_
  refine lv_dup hx hb dX0_writePage_1 rfl ?_
  refine va_get (ci := 0) (v := .int nb) (C := RX0) (T := TX0) (N := 13) hx hb hts inX0_writePage hown hK hP 0 rfl rfl 4 (by decide) (hts _ flX0_writePage_128) (fun _ h9 => h9) rfl dX0_writePage_2 ?_
  refine lv_iconst (v := (1)) hx hb dX0_writePage_5 (by decide) ?_
  refine lv_iadd hx hb dX0_writePage_6 ?_
  refine va_put (ci := 0) (v := .int (nb + 1)) (ty := .int) (C := RX0) (T := TX0) (N := 13) hx hb hts inX0_writePage tyX0 tyX0_ok nmX0 hown hK hP hD hS 0 rfl rfl 4 (by decide) (hts _ flX0_writePage_128) (fun _ h9 => h9) rfl (by decide +kernel) rfl rfl (Nat.le_of_ble_eq_true rfl) dX0_writePage_7 (fun H locs hP hD hS => ?_)
  have hP : va_P D vwCl (wC h0 a0 a1 a2 a3 a4 a5 cI cZ bf pw hs lo lg rt (nb + 1) (nI fi) (nI fo) (nI en) on cu ma) H := hP
  have hD : va_D A (wC h0 a0 a1 a2 a3 a4 a5 cI cZ bf pw hs lo lg rt (nb + 1) (nI fi) (nI fo) (nI en) on cu ma) := hD
  refine lv_iconst (v := (nI 0)) hx hb dX0_writePage_10 (by decide) ?_
  refine lv_istore (lv' := [(4, .int (nI 0)), (0, .ref h0), (1, .int (nI k)), (2, .ref a0), (3, .int (nI 0))]) hx hb dX0_writePage_11 hl (by decide) rfl (fun ls hl => ?_)
  refine lv_iload hx hb dX0_writePage_13 (lv_at hl 0 rfl) ?_
  refine lv_iconst (v := (nI 2)) hx hb dX0_writePage_15 (by decide) ?_
  refine n_ge (tgt := 77) hx hb (by omega) (by omega) dX0_writePage_16 (by decide) (fun c_16 => absurd c_16 (by omega)) (fun c_16 => ?_)
  refine lv_aload_n hx hb dX0_writePage_19 rfl (lv_at hl 1 rfl) ?_
  refine k_I (wr := []) hP hD hS hA (va_runV (As := []) (rest := []) ⟨hx, hb, hml, hown, hts⟩ ((tX0_makeLeastWrite_ok bf pw hs lo lg rt (nb + 1) fi fo en on cu ma h) _) (cwV 0 hts gX0_writePage_X0_makeLeastWrite rfl rfl rfl (by decide +kernel) ⟨Nat.le_of_ble_eq_true rfl, Nat.le_of_ble_eq_true rfl⟩) (pV_B hP hD hK (ci := 0) (q0 := 0) rfl rfl rfl [0, 1] rfl [0, 1, 2, 3, 4, 5, 6] rfl rfl) rfl rfl hl.1 rfl (lv_room (Nat.le_of_ble_eq_true rfl)) dX0_writePage_20 ⟨Nat.le_of_ble_eq_true rfl, Nat.le_of_ble_eq_true rfl⟩) [0, 1, 2, 3, 4, 5, 6] [] rfl rfl rfl (by decide) (fun H locs hP hD hS => ?_)
  have hP : va_P D vwCl (wC h0 a0 a1 a2 a3 a4 a5 cI cZ bf pw hs lo lg rt (nb + 1) (nI fi) (nI fo) (nI en) on (dcu cu) (ma + 1)) H := hP
  have hD : va_D A (wC h0 a0 a1 a2 a3 a4 a5 cI cZ bf pw hs lo lg rt (nb + 1) (nI fi) (nI fo) (nI en) on (dcu cu) (ma + 1)) := hD
  refine lv_if_ne (tgt := 28) hx hb dX0_writePage_23 (by decide) (fun c_23 => ?_) (fun c_23 => absurd c_23 (by decide))
  refine lv_iload hx hb dX0_writePage_28 (lv_at hl 0 rfl) ?_
  refine lv_bipush (v := (nI 32)) hx hb dX0_writePage_30 (by decide) ?_
  refine n_imul hx hb dX0_writePage_32 ?_
  refine lv_istore (lv' := [(5, .int (nI 0)), (4, .int (nI 0)), (0, .ref h0), (1, .int (nI k)), (2, .ref a0), (3, .int (nI 0))]) hx hb dX0_writePage_33 hl (by decide) rfl (fun ls hl => ?_)
  refine lv_aload_n hx hb dX0_writePage_35 rfl (lv_at hl 4 rfl) ?_
  refine lv_iload_n hx hb dX0_writePage_36 rfl (lv_at hl 5 rfl) ?_
  refine lv_iload hx hb dX0_writePage_37 (lv_at hl 0 rfl) ?_
  refine n_iadd hx hb dX0_writePage_39 ?_
  refine lv_aload_n hx hb dX0_writePage_40 rfl (lv_at hl 2 rfl) ?_
  refine va_get (ci := 0) (v := .ref a1) (C := RX0) (T := TX0) (N := 13) hx hb hts inX0_writePage hown hK hP 0 rfl rfl 1 (by decide) (hts _ flX0_writePage_14) (fun _ h9 => h9) rfl dX0_writePage_41 ?_
  refine lv_iload_n hx hb dX0_writePage_44 rfl (lv_at hl 3 rfl) ?_
  refine lv_bipush (v := (nI 64)) hx hb dX0_writePage_45 (by decide) ?_
  refine n_imul hx hb dX0_writePage_47 ?_
  refine lv_iload hx hb dX0_writePage_48 (lv_at hl 0 rfl) ?_
  refine n_iadd hx hb dX0_writePage_50 ?_
  refine lv_bipush (v := (nI 32)) hx hb dX0_writePage_51 (by decide) ?_
  refine n_copyi hx hb hl.1 hml hown acX0_writePage hts hK hP hD hS 1 2 0 rfl rfl rfl 0 (k * 64) 32 (by omega) (by omega) (by omega) (by omega) (by omega) (Nat.le_of_ble_eq_true rfl) (Nat.le_of_ble_eq_true rfl) dX0_writePage_53 (fun H locs hP hD hS => ?_)
  have hP : va_P D vwCl (wC h0 a0 a1 a2 a3 a4 a5 cI cZ bf (va_cpy bf pw 0 (k * 64) 32) hs lo lg rt (nb + 1) (nI fi) (nI fo) (nI en) on (dcu cu) (ma + 1)) H := hP
  have hD : va_D A (wC h0 a0 a1 a2 a3 a4 a5 cI cZ bf (va_cpy bf pw 0 (k * 64) 32) hs lo lg rt (nb + 1) (nI fi) (nI fo) (nI en) on (dcu cu) (ma + 1)) := hD
  refine lv_aload_n hx hb dX0_writePage_56 rfl (lv_at hl 2 rfl) ?_
  refine va_get (ci := 0) (v := .ref a2) (C := RX0) (T := TX0) (N := 13) hx hb hts inX0_writePage hown hK hP 0 rfl rfl 2 (by decide) (hts _ flX0_writePage_17) (fun _ h9 => h9) rfl dX0_writePage_57 ?_
  refine lv_iload_n hx hb dX0_writePage_60 rfl (lv_at hl 3 rfl) ?_
  refine lv_iconst (v := (nI 2)) hx hb dX0_writePage_61 (by decide) ?_
  refine n_imul hx hb dX0_writePage_62 ?_
  refine lv_iload hx hb dX0_writePage_63 (lv_at hl 1 rfl) ?_
  refine n_iadd hx hb dX0_writePage_65 ?_
  refine lv_aload_n hx hb dX0_writePage_66 rfl (lv_at hl 2 rfl) ?_
  refine va_get (ci := 0) (v := .int (nb + 1)) (C := RX0) (T := TX0) (N := 13) hx hb hts inX0_writePage hown hK hP 0 rfl rfl 4 (by decide) (hts _ flX0_writePage_128) (fun _ h9 => h9) rfl dX0_writePage_67 ?_
  refine n_iast hx hb hK hP hD hS 3 0 rfl rfl (k * 2) (by omega) (by omega) dX0_writePage_70 (fun H locs hP hD hS => ?_)
  have hP : va_P D vwCl (wC h0 a0 a1 a2 a3 a4 a5 cI cZ bf (va_cpy bf pw 0 (k * 64) 32) (upd hs (k * 2) (nb + 1)) lo lg rt (nb + 1) (nI fi) (nI fo) (nI en) on (dcu cu) (ma + 1)) H := hP
  have hD : va_D A (wC h0 a0 a1 a2 a3 a4 a5 cI cZ bf (va_cpy bf pw 0 (k * 64) 32) (upd hs (k * 2) (nb + 1)) lo lg rt (nb + 1) (nI fi) (nI fo) (nI en) on (dcu cu) (ma + 1)) := hD
  refine n_iinc (lv' := [(4, .int (nI 1)), (5, .int (nI 0)), (0, .ref h0), (1, .int (nI k)), (2, .ref a0), (3, .int (nI 0))]) hx hb dX0_writePage_71 hl (k := 1) rfl (by decide) rfl (fun ls hl => ?_)
  refine lv_goto (tgt := 13) hx hb dX0_writePage_74 (by decide) ?_
  refine lv_iload hx hb dX0_writePage_13 (lv_at hl 0 rfl) ?_
  refine lv_iconst (v := (nI 2)) hx hb dX0_writePage_15 (by decide) ?_
  refine n_ge (tgt := 77) hx hb (by omega) (by omega) dX0_writePage_16 (by decide) (fun c_16 => absurd c_16 (by omega)) (fun c_16 => ?_)
  refine lv_aload_n hx hb dX0_writePage_19 rfl (lv_at hl 2 rfl) ?_
  refine k_I (wr := []) hP hD hS hA (va_runV (As := []) (rest := []) ⟨hx, hb, hml, hown, hts⟩ ((tX0_makeLeastWrite_ok bf (va_cpy bf pw 0 (k * 64) 32) (upd hs (k * 2) (nb + 1)) lo lg rt (nb + 1) fi fo en on (dcu cu) (ma + 1) h1) _) (cwV 0 hts gX0_writePage_X0_makeLeastWrite rfl rfl rfl (by decide +kernel) ⟨Nat.le_of_ble_eq_true rfl, Nat.le_of_ble_eq_true rfl⟩) (pV_B hP hD hK (ci := 0) (q0 := 0) rfl rfl rfl [0, 1] rfl [0, 1, 2, 3, 4, 5, 6] rfl rfl) rfl rfl hl.1 rfl (lv_room (Nat.le_of_ble_eq_true rfl)) dX0_writePage_20 ⟨Nat.le_of_ble_eq_true rfl, Nat.le_of_ble_eq_true rfl⟩) [0, 1, 2, 3, 4, 5, 6] [] rfl rfl rfl (by decide) (fun H locs hP hD hS => ?_)
  have hP : va_P D vwCl (wC h0 a0 a1 a2 a3 a4 a5 cI cZ bf (va_cpy bf pw 0 (k * 64) 32) (upd hs (k * 2) (nb + 1)) lo lg rt (nb + 1) (nI fi) (nI fo) (nI en) on (dcu (dcu cu)) (ma + 1 + 1)) H := hP
  have hD : va_D A (wC h0 a0 a1 a2 a3 a4 a5 cI cZ bf (va_cpy bf pw 0 (k * 64) 32) (upd hs (k * 2) (nb + 1)) lo lg rt (nb + 1) (nI fi) (nI fo) (nI en) on (dcu (dcu cu)) (ma + 1 + 1)) := hD
  refine lv_if_ne (tgt := 28) hx hb dX0_writePage_23 (by decide) (fun c_23 => ?_) (fun c_23 => absurd c_23 (by decide))
  refine lv_iload hx hb dX0_writePage_28 (lv_at hl 0 rfl) ?_
  refine lv_bipush (v := (nI 32)) hx hb dX0_writePage_30 (by decide) ?_
  refine n_imul hx hb dX0_writePage_32 ?_
  refine lv_istore (lv' := [(5, .int (nI 32)), (4, .int (nI 1)), (0, .ref h0), (1, .int (nI k)), (2, .ref a0), (3, .int (nI 0))]) hx hb dX0_writePage_33 hl (by decide) rfl (fun ls hl => ?_)
  refine lv_aload_n hx hb dX0_writePage_35 rfl (lv_at hl 4 rfl) ?_
  refine lv_iload_n hx hb dX0_writePage_36 rfl (lv_at hl 5 rfl) ?_
  refine lv_iload hx hb dX0_writePage_37 (lv_at hl 0 rfl) ?_
  refine n_iadd hx hb dX0_writePage_39 ?_
  refine lv_aload_n hx hb dX0_writePage_40 rfl (lv_at hl 2 rfl) ?_
  refine va_get (ci := 0) (v := .ref a1) (C := RX0) (T := TX0) (N := 13) hx hb hts inX0_writePage hown hK hP 0 rfl rfl 1 (by decide) (hts _ flX0_writePage_14) (fun _ h9 => h9) rfl dX0_writePage_41 ?_
  refine lv_iload_n hx hb dX0_writePage_44 rfl (lv_at hl 3 rfl) ?_
  refine lv_bipush (v := (nI 64)) hx hb dX0_writePage_45 (by decide) ?_
  refine n_imul hx hb dX0_writePage_47 ?_
  refine lv_iload hx hb dX0_writePage_48 (lv_at hl 0 rfl) ?_
  refine n_iadd hx hb dX0_writePage_50 ?_
  refine lv_bipush (v := (nI 32)) hx hb dX0_writePage_51 (by decide) ?_
  refine n_copyi hx hb hl.1 hml hown acX0_writePage hts hK hP hD hS 1 2 0 rfl rfl rfl 32 ((k * 64) + 32) 32 (by omega) (by omega) (by omega) (by omega) (by omega) (Nat.le_of_ble_eq_true rfl) (Nat.le_of_ble_eq_true rfl) dX0_writePage_53 (fun H locs hP hD hS => ?_)
  have hP : va_P D vwCl (wC h0 a0 a1 a2 a3 a4 a5 cI cZ bf (va_cpy bf (va_cpy bf pw 0 (k * 64) 32) 32 ((k * 64) + 32) 32) (upd hs (k * 2) (nb + 1)) lo lg rt (nb + 1) (nI fi) (nI fo) (nI en) on (dcu (dcu cu)) (ma + 1 + 1)) H := hP
  have hD : va_D A (wC h0 a0 a1 a2 a3 a4 a5 cI cZ bf (va_cpy bf (va_cpy bf pw 0 (k * 64) 32) 32 ((k * 64) + 32) 32) (upd hs (k * 2) (nb + 1)) lo lg rt (nb + 1) (nI fi) (nI fo) (nI en) on (dcu (dcu cu)) (ma + 1 + 1)) := hD
  refine lv_aload_n hx hb dX0_writePage_56 rfl (lv_at hl 2 rfl) ?_
  refine va_get (ci := 0) (v := .ref a2) (C := RX0) (T := TX0) (N := 13) hx hb hts inX0_writePage hown hK hP 0 rfl rfl 2 (by decide) (hts _ flX0_writePage_17) (fun _ h9 => h9) rfl dX0_writePage_57 ?_
  refine lv_iload_n hx hb dX0_writePage_60 rfl (lv_at hl 3 rfl) ?_
  refine lv_iconst (v := (nI 2)) hx hb dX0_writePage_61 (by decide) ?_
  refine n_imul hx hb dX0_writePage_62 ?_
  refine lv_iload hx hb dX0_writePage_63 (lv_at hl 1 rfl) ?_
  refine n_iadd hx hb dX0_writePage_65 ?_
  refine lv_aload_n hx hb dX0_writePage_66 rfl (lv_at hl 2 rfl) ?_
  refine va_get (ci := 0) (v := .int (nb + 1)) (C := RX0) (T := TX0) (N := 13) hx hb hts inX0_writePage hown hK hP 0 rfl rfl 4 (by decide) (hts _ flX0_writePage_128) (fun _ h9 => h9) rfl dX0_writePage_67 ?_
  refine n_iast hx hb hK hP hD hS 3 0 rfl rfl ((k * 2) + 1) (by omega) (by omega) dX0_writePage_70 (fun H locs hP hD hS => ?_)
  have hP : va_P D vwCl (wC h0 a0 a1 a2 a3 a4 a5 cI cZ bf (va_cpy bf (va_cpy bf pw 0 (k * 64) 32) 32 ((k * 64) + 32) 32) (upd (upd hs (k * 2) (nb + 1)) ((k * 2) + 1) (nb + 1)) lo lg rt (nb + 1) (nI fi) (nI fo) (nI en) on (dcu (dcu cu)) (ma + 1 + 1)) H := hP
  have hD : va_D A (wC h0 a0 a1 a2 a3 a4 a5 cI cZ bf (va_cpy bf (va_cpy bf pw 0 (k * 64) 32) 32 ((k * 64) + 32) 32) (upd (upd hs (k * 2) (nb + 1)) ((k * 2) + 1) (nb + 1)) lo lg rt (nb + 1) (nI fi) (nI fo) (nI en) on (dcu (dcu cu)) (ma + 1 + 1)) := hD
  refine n_iinc (lv' := [(4, .int (nI 2)), (5, .int (nI 32)), (0, .ref h0), (1, .int (nI k)), (2, .ref a0), (3, .int (nI 0))]) hx hb dX0_writePage_71 hl (k := 1) rfl (by decide) rfl (fun ls hl => ?_)
  refine lv_goto (tgt := 13) hx hb dX0_writePage_74 (by decide) ?_
  refine lv_iload hx hb dX0_writePage_13 (lv_at hl 0 rfl) ?_
  refine lv_iconst (v := (nI 2)) hx hb dX0_writePage_15 (by decide) ?_
  refine n_ge (tgt := 77) hx hb (by omega) (by omega) dX0_writePage_16 (by decide) (fun c_16 => ?_) (fun c_16 => absurd c_16 (by omega))
  refine lv_aload_n hx hb dX0_writePage_77 rfl (lv_at hl 2 rfl) ?_
  refine va_get (ci := 0) (v := .ref a3) (C := RX0) (T := TX0) (N := 13) hx hb hts inX0_writePage hown hK hP 0 rfl rfl 3 (by decide) (hts _ flX0_writePage_20) (fun _ h9 => h9) rfl dX0_writePage_78 ?_
  refine lv_iload_n hx hb dX0_writePage_81 rfl (lv_at hl 3 rfl) ?_
  refine lv_iconst (v := (0)) hx hb dX0_writePage_82 (by decide) ?_
  refine n_zast hx hb hK hP hD hS 4 1 rfl rfl k (by omega) (by omega) (by decide) dX0_writePage_83 (fun H locs hP hD hS => ?_)
  have hP : va_P D vwCl (wC h0 a0 a1 a2 a3 a4 a5 cI cZ bf (va_cpy bf (va_cpy bf pw 0 (k * 64) 32) 32 ((k * 64) + 32) 32) (upd (upd hs (k * 2) (nb + 1)) ((k * 2) + 1) (nb + 1)) (upd lo k 0) lg rt (nb + 1) (nI fi) (nI fo) (nI en) on (dcu (dcu cu)) (ma + 1 + 1)) H := hP
  have hD : va_D A (wC h0 a0 a1 a2 a3 a4 a5 cI cZ bf (va_cpy bf (va_cpy bf pw 0 (k * 64) 32) 32 ((k * 64) + 32) 32) (upd (upd hs (k * 2) (nb + 1)) ((k * 2) + 1) (nb + 1)) (upd lo k 0) lg rt (nb + 1) (nI fi) (nI fo) (nI en) on (dcu (dcu cu)) (ma + 1 + 1)) := hD
  refine lv_aload_n hx hb dX0_writePage_84 rfl (lv_at hl 2 rfl) ?_
  refine va_get (ci := 0) (v := .int (nb + 1)) (C := RX0) (T := TX0) (N := 13) hx hb hts inX0_writePage hown hK hP 0 rfl rfl 4 (by decide) (hts _ flX0_writePage_128) (fun _ h9 => h9) rfl dX0_writePage_85 ?_
  exact e_I hx hb hr hlocks hP hD hS rfl dX0_writePage_88
set_option maxHeartbeats 4000000 in
set_option maxRecDepth 100000 in
theorem tX0_writePage_p0 {l : Launch} {D : va_G} {cI cZ : ClassId} {h0 a0 a1 a2 a3 a4 a5 : Nat} (bf pw hs lo lg rt : Nat → Int32) (nb : Int32) (fi fo en : Nat) (on cu ma : Int32) (k : Nat) (hk : k < 512) (fr : Nat) (hfr : fr + 64 ≤ 32768) (h : cu = 0) : RI l yX0_writePage wsX0_writePage 4 0 0 D (tyC cI cZ) (wC h0 a0 a1 a2 a3 a4 a5 cI cZ bf pw hs lo lg rt nb (nI fi) (nI fo) (nI en) on cu ma) [.ref h0, .int (nI k), .ref a1, .int (nI fr)] (-1) (wC h0 a0 a1 a2 a3 a4 a5 cI cZ (zf bf) pw hs lo lg rt (nb + 1) (nI fi) (nI fo) (nI fo) 0 cu ma) := by
  refine st_I (cc := cX0_writePage) (maxL := 6) (ret := (some .int)) (by decide +kernel) rfl (Nat.le_of_ble_eq_true rfl) ?_
  intro p e s m below meth c A hx hb hr hts hown hml hlocks hK hP hD hA hS ls hl
  have hown : s.vm.findClass RX0 = some m.cls := hown
  have hl : lv_has ls 6 [(0, .ref h0), (1, .int (nI k)), (2, .ref a1), (3, .int (nI fr))] := hl
  refine lv_aload_n hx hb dX0_writePage_0 rfl (lv_at hl 0 rfl) ?_
  refine lv_dup hx hb dX0_writePage_1 rfl ?_
  refine va_get (ci := 0) (v := .int nb) (C := RX0) (T := TX0) (N := 13) hx hb hts inX0_writePage hown hK hP 0 rfl rfl 4 (by decide) (hts _ flX0_writePage_128) (fun _ h9 => h9) rfl dX0_writePage_2 ?_
  refine lv_iconst (v := (1)) hx hb dX0_writePage_5 (by decide) ?_
  refine lv_iadd hx hb dX0_writePage_6 ?_
  refine va_put (ci := 0) (v := .int (nb + 1)) (ty := .int) (C := RX0) (T := TX0) (N := 13) hx hb hts inX0_writePage tyX0 tyX0_ok nmX0 hown hK hP hD hS 0 rfl rfl 4 (by decide) (hts _ flX0_writePage_128) (fun _ h9 => h9) rfl (by decide +kernel) rfl rfl (Nat.le_of_ble_eq_true rfl) dX0_writePage_7 (fun H locs hP hD hS => ?_)
  have hP : va_P D vwCl (wC h0 a0 a1 a2 a3 a4 a5 cI cZ bf pw hs lo lg rt (nb + 1) (nI fi) (nI fo) (nI en) on cu ma) H := hP
  have hD : va_D A (wC h0 a0 a1 a2 a3 a4 a5 cI cZ bf pw hs lo lg rt (nb + 1) (nI fi) (nI fo) (nI en) on cu ma) := hD
  refine lv_iconst (v := (nI 0)) hx hb dX0_writePage_10 (by decide) ?_
  refine lv_istore (lv' := [(4, .int (nI 0)), (0, .ref h0), (1, .int (nI k)), (2, .ref a1), (3, .int (nI fr))]) hx hb dX0_writePage_11 hl (by decide) rfl (fun ls hl => ?_)
  refine lv_iload hx hb dX0_writePage_13 (lv_at hl 0 rfl) ?_
  refine lv_iconst (v := (nI 2)) hx hb dX0_writePage_15 (by decide) ?_
  refine n_ge (tgt := 77) hx hb (by omega) (by omega) dX0_writePage_16 (by decide) (fun c_16 => absurd c_16 (by omega)) (fun c_16 => ?_)
  refine lv_aload_n hx hb dX0_writePage_19 rfl (lv_at hl 1 rfl) ?_
  refine k_I (wr := []) hP hD hS hA (va_runV (As := []) (rest := []) ⟨hx, hb, hml, hown, hts⟩ ((tX0_makeLeastWrite_cut bf pw hs lo lg rt (nb + 1) fi fo en on cu ma h) _) (cwV 0 hts gX0_writePage_X0_makeLeastWrite rfl rfl rfl (by decide +kernel) ⟨Nat.le_of_ble_eq_true rfl, Nat.le_of_ble_eq_true rfl⟩) (pV_B hP hD hK (ci := 0) (q0 := 0) rfl rfl rfl [0, 1] rfl [0, 1, 2, 3, 4, 5, 6] rfl rfl) rfl rfl hl.1 rfl (lv_room (Nat.le_of_ble_eq_true rfl)) dX0_writePage_20 ⟨Nat.le_of_ble_eq_true rfl, Nat.le_of_ble_eq_true rfl⟩) [0, 1, 2, 3, 4, 5, 6] [] rfl rfl rfl (by decide) (fun H locs hP hD hS => ?_)
  have hP : va_P D vwCl (wC h0 a0 a1 a2 a3 a4 a5 cI cZ (zf bf) pw hs lo lg rt (nb + 1) (nI fi) (nI fo) (nI fo) 0 cu ma) H := hP
  have hD : va_D A (wC h0 a0 a1 a2 a3 a4 a5 cI cZ (zf bf) pw hs lo lg rt (nb + 1) (nI fi) (nI fo) (nI fo) 0 cu ma) := hD
  refine lv_if_ne (tgt := 28) hx hb dX0_writePage_23 (by decide) (fun c_23 => absurd (rfl) c_23) (fun c_23 => ?_)
  refine lv_iconst (v := (-1)) hx hb dX0_writePage_26 (by decide) ?_
  exact e_I hx hb hr hlocks hP hD hS rfl dX0_writePage_27
set_option maxHeartbeats 4000000 in
set_option maxRecDepth 100000 in
theorem tX0_writePage_p1 {l : Launch} {D : va_G} {cI cZ : ClassId} {h0 a0 a1 a2 a3 a4 a5 : Nat} (bf pw hs lo lg rt : Nat → Int32) (nb : Int32) (fi fo en : Nat) (on cu ma : Int32) (k : Nat) (hk : k < 512) (fr : Nat) (hfr : fr + 64 ≤ 32768) (h : ¬ cu = 0) (h1 : dcu cu = 0) : RI l yX0_writePage wsX0_writePage 4 0 0 D (tyC cI cZ) (wC h0 a0 a1 a2 a3 a4 a5 cI cZ bf pw hs lo lg rt nb (nI fi) (nI fo) (nI en) on cu ma) [.ref h0, .int (nI k), .ref a1, .int (nI fr)] (-1) (wC h0 a0 a1 a2 a3 a4 a5 cI cZ (zf bf) (va_cpy pw pw fr (k * 64) 32) (upd hs (k * 2) (nb + 1)) lo lg rt (nb + 1) (nI fi) (nI fo) (nI fo) 0 (dcu cu) (ma + 1)) := by
  refine st_I (cc := cX0_writePage) (maxL := 6) (ret := (some .int)) (by decide +kernel) rfl (Nat.le_of_ble_eq_true rfl) ?_
  intro p e s m below meth c A hx hb hr hts hown hml hlocks hK hP hD hA hS ls hl
  have hown : s.vm.findClass RX0 = some m.cls := hown
  have hl : lv_has ls 6 [(0, .ref h0), (1, .int (nI k)), (2, .ref a1), (3, .int (nI fr))] := hl
  refine lv_aload_n hx hb dX0_writePage_0 rfl (lv_at hl 0 rfl) ?_
  refine lv_dup hx hb dX0_writePage_1 rfl ?_
  refine va_get (ci := 0) (v := .int nb) (C := RX0) (T := TX0) (N := 13) hx hb hts inX0_writePage hown hK hP 0 rfl rfl 4 (by decide) (hts _ flX0_writePage_128) (fun _ h9 => h9) rfl dX0_writePage_2 ?_
  refine lv_iconst (v := (1)) hx hb dX0_writePage_5 (by decide) ?_
  refine lv_iadd hx hb dX0_writePage_6 ?_
  refine va_put (ci := 0) (v := .int (nb + 1)) (ty := .int) (C := RX0) (T := TX0) (N := 13) hx hb hts inX0_writePage tyX0 tyX0_ok nmX0 hown hK hP hD hS 0 rfl rfl 4 (by decide) (hts _ flX0_writePage_128) (fun _ h9 => h9) rfl (by decide +kernel) rfl rfl (Nat.le_of_ble_eq_true rfl) dX0_writePage_7 (fun H locs hP hD hS => ?_)
  have hP : va_P D vwCl (wC h0 a0 a1 a2 a3 a4 a5 cI cZ bf pw hs lo lg rt (nb + 1) (nI fi) (nI fo) (nI en) on cu ma) H := hP
  have hD : va_D A (wC h0 a0 a1 a2 a3 a4 a5 cI cZ bf pw hs lo lg rt (nb + 1) (nI fi) (nI fo) (nI en) on cu ma) := hD
  refine lv_iconst (v := (nI 0)) hx hb dX0_writePage_10 (by decide) ?_
  refine lv_istore (lv' := [(4, .int (nI 0)), (0, .ref h0), (1, .int (nI k)), (2, .ref a1), (3, .int (nI fr))]) hx hb dX0_writePage_11 hl (by decide) rfl (fun ls hl => ?_)
  refine lv_iload hx hb dX0_writePage_13 (lv_at hl 0 rfl) ?_
  refine lv_iconst (v := (nI 2)) hx hb dX0_writePage_15 (by decide) ?_
  refine n_ge (tgt := 77) hx hb (by omega) (by omega) dX0_writePage_16 (by decide) (fun c_16 => absurd c_16 (by omega)) (fun c_16 => ?_)
  refine lv_aload_n hx hb dX0_writePage_19 rfl (lv_at hl 1 rfl) ?_
  refine k_I (wr := []) hP hD hS hA (va_runV (As := []) (rest := []) ⟨hx, hb, hml, hown, hts⟩ ((tX0_makeLeastWrite_ok bf pw hs lo lg rt (nb + 1) fi fo en on cu ma h) _) (cwV 0 hts gX0_writePage_X0_makeLeastWrite rfl rfl rfl (by decide +kernel) ⟨Nat.le_of_ble_eq_true rfl, Nat.le_of_ble_eq_true rfl⟩) (pV_B hP hD hK (ci := 0) (q0 := 0) rfl rfl rfl [0, 1] rfl [0, 1, 2, 3, 4, 5, 6] rfl rfl) rfl rfl hl.1 rfl (lv_room (Nat.le_of_ble_eq_true rfl)) dX0_writePage_20 ⟨Nat.le_of_ble_eq_true rfl, Nat.le_of_ble_eq_true rfl⟩) [0, 1, 2, 3, 4, 5, 6] [] rfl rfl rfl (by decide) (fun H locs hP hD hS => ?_)
  have hP : va_P D vwCl (wC h0 a0 a1 a2 a3 a4 a5 cI cZ bf pw hs lo lg rt (nb + 1) (nI fi) (nI fo) (nI en) on (dcu cu) (ma + 1)) H := hP
  have hD : va_D A (wC h0 a0 a1 a2 a3 a4 a5 cI cZ bf pw hs lo lg rt (nb + 1) (nI fi) (nI fo) (nI en) on (dcu cu) (ma + 1)) := hD
  refine lv_if_ne (tgt := 28) hx hb dX0_writePage_23 (by decide) (fun c_23 => ?_) (fun c_23 => absurd c_23 (by decide))
  refine lv_iload hx hb dX0_writePage_28 (lv_at hl 0 rfl) ?_
  refine lv_bipush (v := (nI 32)) hx hb dX0_writePage_30 (by decide) ?_
  refine n_imul hx hb dX0_writePage_32 ?_
  refine lv_istore (lv' := [(5, .int (nI 0)), (4, .int (nI 0)), (0, .ref h0), (1, .int (nI k)), (2, .ref a1), (3, .int (nI fr))]) hx hb dX0_writePage_33 hl (by decide) rfl (fun ls hl => ?_)
  refine lv_aload_n hx hb dX0_writePage_35 rfl (lv_at hl 4 rfl) ?_
  refine lv_iload_n hx hb dX0_writePage_36 rfl (lv_at hl 5 rfl) ?_
  refine lv_iload hx hb dX0_writePage_37 (lv_at hl 0 rfl) ?_
  refine n_iadd hx hb dX0_writePage_39 ?_
  refine lv_aload_n hx hb dX0_writePage_40 rfl (lv_at hl 2 rfl) ?_
  refine va_get (ci := 0) (v := .ref a1) (C := RX0) (T := TX0) (N := 13) hx hb hts inX0_writePage hown hK hP 0 rfl rfl 1 (by decide) (hts _ flX0_writePage_14) (fun _ h9 => h9) rfl dX0_writePage_41 ?_
  refine lv_iload_n hx hb dX0_writePage_44 rfl (lv_at hl 3 rfl) ?_
  refine lv_bipush (v := (nI 64)) hx hb dX0_writePage_45 (by decide) ?_
  refine n_imul hx hb dX0_writePage_47 ?_
  refine lv_iload hx hb dX0_writePage_48 (lv_at hl 0 rfl) ?_
  refine n_iadd hx hb dX0_writePage_50 ?_
  refine lv_bipush (v := (nI 32)) hx hb dX0_writePage_51 (by decide) ?_
  refine n_copyi hx hb hl.1 hml hown acX0_writePage hts hK hP hD hS 2 2 0 rfl rfl rfl fr (k * 64) 32 (by omega) (by omega) (by omega) (by omega) (by omega) (Nat.le_of_ble_eq_true rfl) (Nat.le_of_ble_eq_true rfl) dX0_writePage_53 (fun H locs hP hD hS => ?_)
  have hP : va_P D vwCl (wC h0 a0 a1 a2 a3 a4 a5 cI cZ bf (va_cpy pw pw fr (k * 64) 32) hs lo lg rt (nb + 1) (nI fi) (nI fo) (nI en) on (dcu cu) (ma + 1)) H := hP
  have hD : va_D A (wC h0 a0 a1 a2 a3 a4 a5 cI cZ bf (va_cpy pw pw fr (k * 64) 32) hs lo lg rt (nb + 1) (nI fi) (nI fo) (nI en) on (dcu cu) (ma + 1)) := hD
  refine lv_aload_n hx hb dX0_writePage_56 rfl (lv_at hl 2 rfl) ?_
  refine va_get (ci := 0) (v := .ref a2) (C := RX0) (T := TX0) (N := 13) hx hb hts inX0_writePage hown hK hP 0 rfl rfl 2 (by decide) (hts _ flX0_writePage_17) (fun _ h9 => h9) rfl dX0_writePage_57 ?_
  refine lv_iload_n hx hb dX0_writePage_60 rfl (lv_at hl 3 rfl) ?_
  refine lv_iconst (v := (nI 2)) hx hb dX0_writePage_61 (by decide) ?_
  refine n_imul hx hb dX0_writePage_62 ?_
  refine lv_iload hx hb dX0_writePage_63 (lv_at hl 1 rfl) ?_
  refine n_iadd hx hb dX0_writePage_65 ?_
  refine lv_aload_n hx hb dX0_writePage_66 rfl (lv_at hl 2 rfl) ?_
  refine va_get (ci := 0) (v := .int (nb + 1)) (C := RX0) (T := TX0) (N := 13) hx hb hts inX0_writePage hown hK hP 0 rfl rfl 4 (by decide) (hts _ flX0_writePage_128) (fun _ h9 => h9) rfl dX0_writePage_67 ?_
  refine n_iast hx hb hK hP hD hS 3 0 rfl rfl (k * 2) (by omega) (by omega) dX0_writePage_70 (fun H locs hP hD hS => ?_)
  have hP : va_P D vwCl (wC h0 a0 a1 a2 a3 a4 a5 cI cZ bf (va_cpy pw pw fr (k * 64) 32) (upd hs (k * 2) (nb + 1)) lo lg rt (nb + 1) (nI fi) (nI fo) (nI en) on (dcu cu) (ma + 1)) H := hP
  have hD : va_D A (wC h0 a0 a1 a2 a3 a4 a5 cI cZ bf (va_cpy pw pw fr (k * 64) 32) (upd hs (k * 2) (nb + 1)) lo lg rt (nb + 1) (nI fi) (nI fo) (nI en) on (dcu cu) (ma + 1)) := hD
  refine n_iinc (lv' := [(4, .int (nI 1)), (5, .int (nI 0)), (0, .ref h0), (1, .int (nI k)), (2, .ref a1), (3, .int (nI fr))]) hx hb dX0_writePage_71 hl (k := 1) rfl (by decide) rfl (fun ls hl => ?_)
  refine lv_goto (tgt := 13) hx hb dX0_writePage_74 (by decide) ?_
  refine lv_iload hx hb dX0_writePage_13 (lv_at hl 0 rfl) ?_
  refine lv_iconst (v := (nI 2)) hx hb dX0_writePage_15 (by decide) ?_
  refine n_ge (tgt := 77) hx hb (by omega) (by omega) dX0_writePage_16 (by decide) (fun c_16 => absurd c_16 (by omega)) (fun c_16 => ?_)
  refine lv_aload_n hx hb dX0_writePage_19 rfl (lv_at hl 2 rfl) ?_
  refine k_I (wr := []) hP hD hS hA (va_runV (As := []) (rest := []) ⟨hx, hb, hml, hown, hts⟩ ((tX0_makeLeastWrite_cut bf (va_cpy pw pw fr (k * 64) 32) (upd hs (k * 2) (nb + 1)) lo lg rt (nb + 1) fi fo en on (dcu cu) (ma + 1) h1) _) (cwV 0 hts gX0_writePage_X0_makeLeastWrite rfl rfl rfl (by decide +kernel) ⟨Nat.le_of_ble_eq_true rfl, Nat.le_of_ble_eq_true rfl⟩) (pV_B hP hD hK (ci := 0) (q0 := 0) rfl rfl rfl [0, 1] rfl [0, 1, 2, 3, 4, 5, 6] rfl rfl) rfl rfl hl.1 rfl (lv_room (Nat.le_of_ble_eq_true rfl)) dX0_writePage_20 ⟨Nat.le_of_ble_eq_true rfl, Nat.le_of_ble_eq_true rfl⟩) [0, 1, 2, 3, 4, 5, 6] [] rfl rfl rfl (by decide) (fun H locs hP hD hS => ?_)
  have hP : va_P D vwCl (wC h0 a0 a1 a2 a3 a4 a5 cI cZ (zf bf) (va_cpy pw pw fr (k * 64) 32) (upd hs (k * 2) (nb + 1)) lo lg rt (nb + 1) (nI fi) (nI fo) (nI fo) 0 (dcu cu) (ma + 1)) H := hP
  have hD : va_D A (wC h0 a0 a1 a2 a3 a4 a5 cI cZ (zf bf) (va_cpy pw pw fr (k * 64) 32) (upd hs (k * 2) (nb + 1)) lo lg rt (nb + 1) (nI fi) (nI fo) (nI fo) 0 (dcu cu) (ma + 1)) := hD
  refine lv_if_ne (tgt := 28) hx hb dX0_writePage_23 (by decide) (fun c_23 => absurd (rfl) c_23) (fun c_23 => ?_)
  refine lv_iconst (v := (-1)) hx hb dX0_writePage_26 (by decide) ?_
  exact e_I hx hb hr hlocks hP hD hS rfl dX0_writePage_27
set_option maxHeartbeats 4000000 in
set_option maxRecDepth 100000 in
theorem tX0_writePage_p2 {l : Launch} {D : va_G} {cI cZ : ClassId} {h0 a0 a1 a2 a3 a4 a5 : Nat} (bf pw hs lo lg rt : Nat → Int32) (nb : Int32) (fi fo en : Nat) (on cu ma : Int32) (k : Nat) (hk : k < 512) (fr : Nat) (hfr : fr + 64 ≤ 32768) (h : ¬ cu = 0) (h1 : ¬ dcu cu = 0) : RI l yX0_writePage wsX0_writePage 4 0 0 D (tyC cI cZ) (wC h0 a0 a1 a2 a3 a4 a5 cI cZ bf pw hs lo lg rt nb (nI fi) (nI fo) (nI en) on cu ma) [.ref h0, .int (nI k), .ref a1, .int (nI fr)] (nb + 1) (wC h0 a0 a1 a2 a3 a4 a5 cI cZ bf (va_cpy (va_cpy pw pw fr (k * 64) 32) (va_cpy pw pw fr (k * 64) 32) (fr + 32) (k * 64 + 32) 32) (upd (upd hs (k * 2) (nb + 1)) (k * 2 + 1) (nb + 1)) (upd lo k 0) lg rt (nb + 1) (nI fi) (nI fo) (nI en) on (dcu (dcu cu)) (ma + 1 + 1)) := by
  refine st_I (cc := cX0_writePage) (maxL := 6) (ret := (some .int)) (by decide +kernel) rfl (Nat.le_of_ble_eq_true rfl) ?_
  intro p e s m below meth c A hx hb hr hts hown hml hlocks hK hP hD hA hS ls hl
  have hown : s.vm.findClass RX0 = some m.cls := hown
  have hl : lv_has ls 6 [(0, .ref h0), (1, .int (nI k)), (2, .ref a1), (3, .int (nI fr))] := hl
  refine lv_aload_n hx hb dX0_writePage_0 rfl (lv_at hl 0 rfl) ?_
  refine lv_dup hx hb dX0_writePage_1 rfl ?_
  refine va_get (ci := 0) (v := .int nb) (C := RX0) (T := TX0) (N := 13) hx hb hts inX0_writePage hown hK hP 0 rfl rfl 4 (by decide) (hts _ flX0_writePage_128) (fun _ h9 => h9) rfl dX0_writePage_2 ?_
  refine lv_iconst (v := (1)) hx hb dX0_writePage_5 (by decide) ?_
  refine lv_iadd hx hb dX0_writePage_6 ?_
  refine va_put (ci := 0) (v := .int (nb + 1)) (ty := .int) (C := RX0) (T := TX0) (N := 13) hx hb hts inX0_writePage tyX0 tyX0_ok nmX0 hown hK hP hD hS 0 rfl rfl 4 (by decide) (hts _ flX0_writePage_128) (fun _ h9 => h9) rfl (by decide +kernel) rfl rfl (Nat.le_of_ble_eq_true rfl) dX0_writePage_7 (fun H locs hP hD hS => ?_)
  have hP : va_P D vwCl (wC h0 a0 a1 a2 a3 a4 a5 cI cZ bf pw hs lo lg rt (nb + 1) (nI fi) (nI fo) (nI en) on cu ma) H := hP
  have hD : va_D A (wC h0 a0 a1 a2 a3 a4 a5 cI cZ bf pw hs lo lg rt (nb + 1) (nI fi) (nI fo) (nI en) on cu ma) := hD
  refine lv_iconst (v := (nI 0)) hx hb dX0_writePage_10 (by decide) ?_
  refine lv_istore (lv' := [(4, .int (nI 0)), (0, .ref h0), (1, .int (nI k)), (2, .ref a1), (3, .int (nI fr))]) hx hb dX0_writePage_11 hl (by decide) rfl (fun ls hl => ?_)
  refine lv_iload hx hb dX0_writePage_13 (lv_at hl 0 rfl) ?_
  refine lv_iconst (v := (nI 2)) hx hb dX0_writePage_15 (by decide) ?_
  refine n_ge (tgt := 77) hx hb (by omega) (by omega) dX0_writePage_16 (by decide) (fun c_16 => absurd c_16 (by omega)) (fun c_16 => ?_)
  refine lv_aload_n hx hb dX0_writePage_19 rfl (lv_at hl 1 rfl) ?_
  refine k_I (wr := []) hP hD hS hA (va_runV (As := []) (rest := []) ⟨hx, hb, hml, hown, hts⟩ ((tX0_makeLeastWrite_ok bf pw hs lo lg rt (nb + 1) fi fo en on cu ma h) _) (cwV 0 hts gX0_writePage_X0_makeLeastWrite rfl rfl rfl (by decide +kernel) ⟨Nat.le_of_ble_eq_true rfl, Nat.le_of_ble_eq_true rfl⟩) (pV_B hP hD hK (ci := 0) (q0 := 0) rfl rfl rfl [0, 1] rfl [0, 1, 2, 3, 4, 5, 6] rfl rfl) rfl rfl hl.1 rfl (lv_room (Nat.le_of_ble_eq_true rfl)) dX0_writePage_20 ⟨Nat.le_of_ble_eq_true rfl, Nat.le_of_ble_eq_true rfl⟩) [0, 1, 2, 3, 4, 5, 6] [] rfl rfl rfl (by decide) (fun H locs hP hD hS => ?_)
  have hP : va_P D vwCl (wC h0 a0 a1 a2 a3 a4 a5 cI cZ bf pw hs lo lg rt (nb + 1) (nI fi) (nI fo) (nI en) on (dcu cu) (ma + 1)) H := hP
  have hD : va_D A (wC h0 a0 a1 a2 a3 a4 a5 cI cZ bf pw hs lo lg rt (nb + 1) (nI fi) (nI fo) (nI en) on (dcu cu) (ma + 1)) := hD
  refine lv_if_ne (tgt := 28) hx hb dX0_writePage_23 (by decide) (fun c_23 => ?_) (fun c_23 => absurd c_23 (by decide))
  refine lv_iload hx hb dX0_writePage_28 (lv_at hl 0 rfl) ?_
  refine lv_bipush (v := (nI 32)) hx hb dX0_writePage_30 (by decide) ?_
  refine n_imul hx hb dX0_writePage_32 ?_
  refine lv_istore (lv' := [(5, .int (nI 0)), (4, .int (nI 0)), (0, .ref h0), (1, .int (nI k)), (2, .ref a1), (3, .int (nI fr))]) hx hb dX0_writePage_33 hl (by decide) rfl (fun ls hl => ?_)
  refine lv_aload_n hx hb dX0_writePage_35 rfl (lv_at hl 4 rfl) ?_
  refine lv_iload_n hx hb dX0_writePage_36 rfl (lv_at hl 5 rfl) ?_
  refine lv_iload hx hb dX0_writePage_37 (lv_at hl 0 rfl) ?_
  refine n_iadd hx hb dX0_writePage_39 ?_
  refine lv_aload_n hx hb dX0_writePage_40 rfl (lv_at hl 2 rfl) ?_
  refine va_get (ci := 0) (v := .ref a1) (C := RX0) (T := TX0) (N := 13) hx hb hts inX0_writePage hown hK hP 0 rfl rfl 1 (by decide) (hts _ flX0_writePage_14) (fun _ h9 => h9) rfl dX0_writePage_41 ?_
  refine lv_iload_n hx hb dX0_writePage_44 rfl (lv_at hl 3 rfl) ?_
  refine lv_bipush (v := (nI 64)) hx hb dX0_writePage_45 (by decide) ?_
  refine n_imul hx hb dX0_writePage_47 ?_
  refine lv_iload hx hb dX0_writePage_48 (lv_at hl 0 rfl) ?_
  refine n_iadd hx hb dX0_writePage_50 ?_
  refine lv_bipush (v := (nI 32)) hx hb dX0_writePage_51 (by decide) ?_
  refine n_copyi hx hb hl.1 hml hown acX0_writePage hts hK hP hD hS 2 2 0 rfl rfl rfl fr (k * 64) 32 (by omega) (by omega) (by omega) (by omega) (by omega) (Nat.le_of_ble_eq_true rfl) (Nat.le_of_ble_eq_true rfl) dX0_writePage_53 (fun H locs hP hD hS => ?_)
  have hP : va_P D vwCl (wC h0 a0 a1 a2 a3 a4 a5 cI cZ bf (va_cpy pw pw fr (k * 64) 32) hs lo lg rt (nb + 1) (nI fi) (nI fo) (nI en) on (dcu cu) (ma + 1)) H := hP
  have hD : va_D A (wC h0 a0 a1 a2 a3 a4 a5 cI cZ bf (va_cpy pw pw fr (k * 64) 32) hs lo lg rt (nb + 1) (nI fi) (nI fo) (nI en) on (dcu cu) (ma + 1)) := hD
  refine lv_aload_n hx hb dX0_writePage_56 rfl (lv_at hl 2 rfl) ?_
  refine va_get (ci := 0) (v := .ref a2) (C := RX0) (T := TX0) (N := 13) hx hb hts inX0_writePage hown hK hP 0 rfl rfl 2 (by decide) (hts _ flX0_writePage_17) (fun _ h9 => h9) rfl dX0_writePage_57 ?_
  refine lv_iload_n hx hb dX0_writePage_60 rfl (lv_at hl 3 rfl) ?_
  refine lv_iconst (v := (nI 2)) hx hb dX0_writePage_61 (by decide) ?_
  refine n_imul hx hb dX0_writePage_62 ?_
  refine lv_iload hx hb dX0_writePage_63 (lv_at hl 1 rfl) ?_
  refine n_iadd hx hb dX0_writePage_65 ?_
  refine lv_aload_n hx hb dX0_writePage_66 rfl (lv_at hl 2 rfl) ?_
  refine va_get (ci := 0) (v := .int (nb + 1)) (C := RX0) (T := TX0) (N := 13) hx hb hts inX0_writePage hown hK hP 0 rfl rfl 4 (by decide) (hts _ flX0_writePage_128) (fun _ h9 => h9) rfl dX0_writePage_67 ?_
  refine n_iast hx hb hK hP hD hS 3 0 rfl rfl (k * 2) (by omega) (by omega) dX0_writePage_70 (fun H locs hP hD hS => ?_)
  have hP : va_P D vwCl (wC h0 a0 a1 a2 a3 a4 a5 cI cZ bf (va_cpy pw pw fr (k * 64) 32) (upd hs (k * 2) (nb + 1)) lo lg rt (nb + 1) (nI fi) (nI fo) (nI en) on (dcu cu) (ma + 1)) H := hP
  have hD : va_D A (wC h0 a0 a1 a2 a3 a4 a5 cI cZ bf (va_cpy pw pw fr (k * 64) 32) (upd hs (k * 2) (nb + 1)) lo lg rt (nb + 1) (nI fi) (nI fo) (nI en) on (dcu cu) (ma + 1)) := hD
  refine n_iinc (lv' := [(4, .int (nI 1)), (5, .int (nI 0)), (0, .ref h0), (1, .int (nI k)), (2, .ref a1), (3, .int (nI fr))]) hx hb dX0_writePage_71 hl (k := 1) rfl (by decide) rfl (fun ls hl => ?_)
  refine lv_goto (tgt := 13) hx hb dX0_writePage_74 (by decide) ?_
  refine lv_iload hx hb dX0_writePage_13 (lv_at hl 0 rfl) ?_
  refine lv_iconst (v := (nI 2)) hx hb dX0_writePage_15 (by decide) ?_
  refine n_ge (tgt := 77) hx hb (by omega) (by omega) dX0_writePage_16 (by decide) (fun c_16 => absurd c_16 (by omega)) (fun c_16 => ?_)
  refine lv_aload_n hx hb dX0_writePage_19 rfl (lv_at hl 2 rfl) ?_
  refine k_I (wr := []) hP hD hS hA (va_runV (As := []) (rest := []) ⟨hx, hb, hml, hown, hts⟩ ((tX0_makeLeastWrite_ok bf (va_cpy pw pw fr (k * 64) 32) (upd hs (k * 2) (nb + 1)) lo lg rt (nb + 1) fi fo en on (dcu cu) (ma + 1) h1) _) (cwV 0 hts gX0_writePage_X0_makeLeastWrite rfl rfl rfl (by decide +kernel) ⟨Nat.le_of_ble_eq_true rfl, Nat.le_of_ble_eq_true rfl⟩) (pV_B hP hD hK (ci := 0) (q0 := 0) rfl rfl rfl [0, 1] rfl [0, 1, 2, 3, 4, 5, 6] rfl rfl) rfl rfl hl.1 rfl (lv_room (Nat.le_of_ble_eq_true rfl)) dX0_writePage_20 ⟨Nat.le_of_ble_eq_true rfl, Nat.le_of_ble_eq_true rfl⟩) [0, 1, 2, 3, 4, 5, 6] [] rfl rfl rfl (by decide) (fun H locs hP hD hS => ?_)
  have hP : va_P D vwCl (wC h0 a0 a1 a2 a3 a4 a5 cI cZ bf (va_cpy pw pw fr (k * 64) 32) (upd hs (k * 2) (nb + 1)) lo lg rt (nb + 1) (nI fi) (nI fo) (nI en) on (dcu (dcu cu)) (ma + 1 + 1)) H := hP
  have hD : va_D A (wC h0 a0 a1 a2 a3 a4 a5 cI cZ bf (va_cpy pw pw fr (k * 64) 32) (upd hs (k * 2) (nb + 1)) lo lg rt (nb + 1) (nI fi) (nI fo) (nI en) on (dcu (dcu cu)) (ma + 1 + 1)) := hD
  refine lv_if_ne (tgt := 28) hx hb dX0_writePage_23 (by decide) (fun c_23 => ?_) (fun c_23 => absurd c_23 (by decide))
  refine lv_iload hx hb dX0_writePage_28 (lv_at hl 0 rfl) ?_
  refine lv_bipush (v := (nI 32)) hx hb dX0_writePage_30 (by decide) ?_
  refine n_imul hx hb dX0_writePage_32 ?_
  refine lv_istore (lv' := [(5, .int (nI 32)), (4, .int (nI 1)), (0, .ref h0), (1, .int (nI k)), (2, .ref a1), (3, .int (nI fr))]) hx hb dX0_writePage_33 hl (by decide) rfl (fun ls hl => ?_)
  refine lv_aload_n hx hb dX0_writePage_35 rfl (lv_at hl 4 rfl) ?_
  refine lv_iload_n hx hb dX0_writePage_36 rfl (lv_at hl 5 rfl) ?_
  refine lv_iload hx hb dX0_writePage_37 (lv_at hl 0 rfl) ?_
  refine n_iadd hx hb dX0_writePage_39 ?_
  refine lv_aload_n hx hb dX0_writePage_40 rfl (lv_at hl 2 rfl) ?_
  refine va_get (ci := 0) (v := .ref a1) (C := RX0) (T := TX0) (N := 13) hx hb hts inX0_writePage hown hK hP 0 rfl rfl 1 (by decide) (hts _ flX0_writePage_14) (fun _ h9 => h9) rfl dX0_writePage_41 ?_
  refine lv_iload_n hx hb dX0_writePage_44 rfl (lv_at hl 3 rfl) ?_
  refine lv_bipush (v := (nI 64)) hx hb dX0_writePage_45 (by decide) ?_
  refine n_imul hx hb dX0_writePage_47 ?_
  refine lv_iload hx hb dX0_writePage_48 (lv_at hl 0 rfl) ?_
  refine n_iadd hx hb dX0_writePage_50 ?_
  refine lv_bipush (v := (nI 32)) hx hb dX0_writePage_51 (by decide) ?_
  refine n_copyi hx hb hl.1 hml hown acX0_writePage hts hK hP hD hS 2 2 0 rfl rfl rfl (fr + 32) ((k * 64) + 32) 32 (by omega) (by omega) (by omega) (by omega) (by omega) (Nat.le_of_ble_eq_true rfl) (Nat.le_of_ble_eq_true rfl) dX0_writePage_53 (fun H locs hP hD hS => ?_)
  have hP : va_P D vwCl (wC h0 a0 a1 a2 a3 a4 a5 cI cZ bf (va_cpy (va_cpy pw pw fr (k * 64) 32) (va_cpy pw pw fr (k * 64) 32) (fr + 32) ((k * 64) + 32) 32) (upd hs (k * 2) (nb + 1)) lo lg rt (nb + 1) (nI fi) (nI fo) (nI en) on (dcu (dcu cu)) (ma + 1 + 1)) H := hP
  have hD : va_D A (wC h0 a0 a1 a2 a3 a4 a5 cI cZ bf (va_cpy (va_cpy pw pw fr (k * 64) 32) (va_cpy pw pw fr (k * 64) 32) (fr + 32) ((k * 64) + 32) 32) (upd hs (k * 2) (nb + 1)) lo lg rt (nb + 1) (nI fi) (nI fo) (nI en) on (dcu (dcu cu)) (ma + 1 + 1)) := hD
  refine lv_aload_n hx hb dX0_writePage_56 rfl (lv_at hl 2 rfl) ?_
  refine va_get (ci := 0) (v := .ref a2) (C := RX0) (T := TX0) (N := 13) hx hb hts inX0_writePage hown hK hP 0 rfl rfl 2 (by decide) (hts _ flX0_writePage_17) (fun _ h9 => h9) rfl dX0_writePage_57 ?_
  refine lv_iload_n hx hb dX0_writePage_60 rfl (lv_at hl 3 rfl) ?_
  refine lv_iconst (v := (nI 2)) hx hb dX0_writePage_61 (by decide) ?_
  refine n_imul hx hb dX0_writePage_62 ?_
  refine lv_iload hx hb dX0_writePage_63 (lv_at hl 1 rfl) ?_
  refine n_iadd hx hb dX0_writePage_65 ?_
  refine lv_aload_n hx hb dX0_writePage_66 rfl (lv_at hl 2 rfl) ?_
  refine va_get (ci := 0) (v := .int (nb + 1)) (C := RX0) (T := TX0) (N := 13) hx hb hts inX0_writePage hown hK hP 0 rfl rfl 4 (by decide) (hts _ flX0_writePage_128) (fun _ h9 => h9) rfl dX0_writePage_67 ?_
  refine n_iast hx hb hK hP hD hS 3 0 rfl rfl ((k * 2) + 1) (by omega) (by omega) dX0_writePage_70 (fun H locs hP hD hS => ?_)
  have hP : va_P D vwCl (wC h0 a0 a1 a2 a3 a4 a5 cI cZ bf (va_cpy (va_cpy pw pw fr (k * 64) 32) (va_cpy pw pw fr (k * 64) 32) (fr + 32) ((k * 64) + 32) 32) (upd (upd hs (k * 2) (nb + 1)) ((k * 2) + 1) (nb + 1)) lo lg rt (nb + 1) (nI fi) (nI fo) (nI en) on (dcu (dcu cu)) (ma + 1 + 1)) H := hP
  have hD : va_D A (wC h0 a0 a1 a2 a3 a4 a5 cI cZ bf (va_cpy (va_cpy pw pw fr (k * 64) 32) (va_cpy pw pw fr (k * 64) 32) (fr + 32) ((k * 64) + 32) 32) (upd (upd hs (k * 2) (nb + 1)) ((k * 2) + 1) (nb + 1)) lo lg rt (nb + 1) (nI fi) (nI fo) (nI en) on (dcu (dcu cu)) (ma + 1 + 1)) := hD
  refine n_iinc (lv' := [(4, .int (nI 2)), (5, .int (nI 32)), (0, .ref h0), (1, .int (nI k)), (2, .ref a1), (3, .int (nI fr))]) hx hb dX0_writePage_71 hl (k := 1) rfl (by decide) rfl (fun ls hl => ?_)
  refine lv_goto (tgt := 13) hx hb dX0_writePage_74 (by decide) ?_
  refine lv_iload hx hb dX0_writePage_13 (lv_at hl 0 rfl) ?_
  refine lv_iconst (v := (nI 2)) hx hb dX0_writePage_15 (by decide) ?_
  refine n_ge (tgt := 77) hx hb (by omega) (by omega) dX0_writePage_16 (by decide) (fun c_16 => ?_) (fun c_16 => absurd c_16 (by omega))
  refine lv_aload_n hx hb dX0_writePage_77 rfl (lv_at hl 2 rfl) ?_
  refine va_get (ci := 0) (v := .ref a3) (C := RX0) (T := TX0) (N := 13) hx hb hts inX0_writePage hown hK hP 0 rfl rfl 3 (by decide) (hts _ flX0_writePage_20) (fun _ h9 => h9) rfl dX0_writePage_78 ?_
  refine lv_iload_n hx hb dX0_writePage_81 rfl (lv_at hl 3 rfl) ?_
  refine lv_iconst (v := (0)) hx hb dX0_writePage_82 (by decide) ?_
  refine n_zast hx hb hK hP hD hS 4 1 rfl rfl k (by omega) (by omega) (by decide) dX0_writePage_83 (fun H locs hP hD hS => ?_)
  have hP : va_P D vwCl (wC h0 a0 a1 a2 a3 a4 a5 cI cZ bf (va_cpy (va_cpy pw pw fr (k * 64) 32) (va_cpy pw pw fr (k * 64) 32) (fr + 32) ((k * 64) + 32) 32) (upd (upd hs (k * 2) (nb + 1)) ((k * 2) + 1) (nb + 1)) (upd lo k 0) lg rt (nb + 1) (nI fi) (nI fo) (nI en) on (dcu (dcu cu)) (ma + 1 + 1)) H := hP
  have hD : va_D A (wC h0 a0 a1 a2 a3 a4 a5 cI cZ bf (va_cpy (va_cpy pw pw fr (k * 64) 32) (va_cpy pw pw fr (k * 64) 32) (fr + 32) ((k * 64) + 32) 32) (upd (upd hs (k * 2) (nb + 1)) ((k * 2) + 1) (nb + 1)) (upd lo k 0) lg rt (nb + 1) (nI fi) (nI fo) (nI en) on (dcu (dcu cu)) (ma + 1 + 1)) := hD
  refine lv_aload_n hx hb dX0_writePage_84 rfl (lv_at hl 2 rfl) ?_
  refine va_get (ci := 0) (v := .int (nb + 1)) (C := RX0) (T := TX0) (N := 13) hx hb hts inX0_writePage hown hK hP 0 rfl rfl 4 (by decide) (hts _ flX0_writePage_128) (fun _ h9 => h9) rfl dX0_writePage_85 ?_
  exact e_I hx hb hr hlocks hP hD hS rfl dX0_writePage_88
end
section
/-! OWN ROWS, by program: the class, its face -/
def badP (x y : Int32) : Prop := (x < 0 ∨ nI 2 ≤ x) ∨ ∃ ar : Nat, ar < 2 ∧ x = nI ar ∧ (y < 0 ∨ nI 256 ≤ y)
def badS (x y z : Int32) : Prop := badP x y ∨ ∃ ar pg : Nat, ar < 2 ∧ pg < 256 ∧ x = nI ar ∧ y = nI pg ∧ (z < 0 ∨ nI 2 ≤ z)
def badC (x y : Int32) : Prop := (x < 0 ∨ nI 2 ≤ x) ∨ ∃ ar : Nat, ar < 2 ∧ x = nI ar ∧ (y < 0 ∨ nI 3 ≤ y)
def badR (fi en : Nat) (x n : Int32) : Prop := (n < nI 1 ∨ nI 64 < n) ∨ ∃ k : Nat, 1 ≤ k ∧ k ≤ 64 ∧ n = nI k ∧ (x < nI fi ∨ nI en - nI k < x)
def sp_sum (bf : Nat → Int32) : Nat → Int32
  | 0 => 0
  | n + 1 => sp_sum bf n + bf n * nI (n + 1)
def sp_ct (lo hs : Nat → Int32) (ar : Nat) (st : Int32) : Nat → Int32
  | 0 => 0
  | n + 1 => if sp_ps lo hs (ar * 256 + n) = st then sp_ct lo hs ar st n + 1 else sp_ct lo hs ar st n
def sp_ap (bf : Nat → Int32) (en : Nat) (lg : Nat → Int32) : Nat → (Nat → Int32)
  | 0 => lg
  | n + 1 => upd (sp_ap bf en lg n) ((en + n) % 65536) (bf n)
theorem sp_ps_n2 {lo hs : Nat → Int32} {k : Nat} (h : lo k = 0) : ¬ sp_ps lo hs k = 2 := by
  unfold sp_ps
  rw [if_pos h]
  split <;> decide
def fcut : Nat → Int32 → Bool
  | 0, _ => false
  | n + 1, cu => if cu = 0 then true else fcut n (dcu cu)
def fcu : Nat → Int32 → Int32
  | 0, cu => cu
  | n + 1, cu => if cu = 0 then cu else fcu n (dcu cu)
def fma : Nat → Int32 → Int32 → Int32
  | 0, _, ma => ma
  | n + 1, cu, ma => if cu = 0 then ma else fma n (dcu cu) (ma + 1)
def fmk : Nat → Int32 → Nat
  | 0, _ => 0
  | n + 1, cu => if cu = 0 then 0 else fmk n (dcu cu) + 1
theorem fcut_s {n : Nat} {cu : Int32} (h : ¬ cu = 0) : fcut (n + 1) cu = fcut n (dcu cu) ∧ fcu (n + 1) cu = fcu n (dcu cu) ∧ (∀ ma, fma (n + 1) cu ma = fma n (dcu cu) (ma + 1)) ∧ fmk (n + 1) cu = fmk n (dcu cu) + 1 := by
  simp [fcut, fcu, fma, fmk, h]
theorem fcut_z {n : Nat} {cu : Int32} (h : cu = 0) : fcut (n + 1) cu = true ∧ fcu (n + 1) cu = cu ∧ (∀ ma, fma (n + 1) cu ma = ma) ∧ fmk (n + 1) cu = 0 := by
  simp [fcut, fcu, fma, fmk, h]
theorem fcut_nz {n : Nat} {cu : Int32} (h : fcut (n + 1) cu = false) : ¬ cu = 0 := by
  intro z
  rw [(fcut_z (n := n) z).1] at h
  cases h
set_option maxHeartbeats 4000000 in
set_option maxRecDepth 100000 in
theorem tX0_set_x0 {l : Launch} {D : va_G} {cI cZ : ClassId} {h0 a0 a1 a2 a3 a4 a5 : Nat} (hl0 : l.stackTraces = false) (bf pw hs lo lg rt : Nat → Int32) (nb : Int32) (fi fo en : Nat) (cu ma : Int32) (x y : Int32) : RX l yX0_set wsX0_set 8 D (tyC cI cZ) (wC h0 a0 a1 a2 a3 a4 a5 cI cZ bf pw hs lo lg rt nb (nI fi) (nI fo) (nI en) 0 cu ma) [.ref h0, .int x, .int y] xISE := by
  refine st_X (cc := cX0_set) (maxL := 3) (ret := none) (by decide +kernel) rfl (Nat.le_of_ble_eq_true rfl) ?_
  intro p e s m below meth c A hx hb hr hts hown hml hlocks hK hP hD hA hS ls hl hT hex
  have hown : s.vm.findClass RX0 = some m.cls := hown
  have hl : lv_has ls 3 [(0, .ref h0), (1, .int x), (2, .int y)] := hl
  refine lv_aload_n hx hb dX0_set_0 rfl (lv_at hl 0 rfl) ?_
  exact k_XX hlocks hex (Nat.le_of_ble_eq_true rfl) (Nat.le_of_ble_eq_true rfl) (wr := []) hP hD hS hA (vx_runV (As := []) (rest := []) ⟨hx, hb, hml, hown, hts⟩ ((tX0_needPower_x hl0 bf pw hs lo lg rt nb fi fo en cu ma) _) (cwV 0 hts gX0_set_X0_needPower rfl rfl rfl (by decide +kernel) ⟨Nat.le_of_ble_eq_true rfl, Nat.le_of_ble_eq_true rfl⟩) (pV_X hP hD hK hS hA hT (ci := 0) (q0 := 0) rfl rfl rfl [0, 1] rfl [0, 1, 2, 3, 4, 5, 6] rfl rfl) rfl rfl hl.1 rfl (lv_room (Nat.le_of_ble_eq_true rfl)) dX0_set_1 ⟨Nat.le_of_ble_eq_true rfl, Nat.le_of_ble_eq_true rfl⟩) [0, 1, 2, 3, 4, 5, 6] [] rfl rfl rfl (by decide)
set_option maxHeartbeats 4000000 in
set_option maxRecDepth 100000 in
theorem tX0_fill_x0 {l : Launch} {D : va_G} {cI cZ : ClassId} {h0 a0 a1 a2 a3 a4 a5 : Nat} (hl0 : l.stackTraces = false) (bf pw hs lo lg rt : Nat → Int32) (nb : Int32) (fi fo en : Nat) (cu ma : Int32) (x y : Int32) : RX l yX0_fill wsX0_fill 8 D (tyC cI cZ) (wC h0 a0 a1 a2 a3 a4 a5 cI cZ bf pw hs lo lg rt nb (nI fi) (nI fo) (nI en) 0 cu ma) [.ref h0, .int x, .int y] xISE := by
  refine st_X (cc := cX0_fill) (maxL := 4) (ret := none) (by decide +kernel) rfl (Nat.le_of_ble_eq_true rfl) ?_
  intro p e s m below meth c A hx hb hr hts hown hml hlocks hK hP hD hA hS ls hl hT hex
  have hown : s.vm.findClass RX0 = some m.cls := hown
  have hl : lv_has ls 4 [(0, .ref h0), (1, .int x), (2, .int y)] := hl
  refine lv_aload_n hx hb dX0_fill_0 rfl (lv_at hl 0 rfl) ?_
  exact k_XX hlocks hex (Nat.le_of_ble_eq_true rfl) (Nat.le_of_ble_eq_true rfl) (wr := []) hP hD hS hA (vx_runV (As := []) (rest := []) ⟨hx, hb, hml, hown, hts⟩ ((tX0_needPower_x hl0 bf pw hs lo lg rt nb fi fo en cu ma) _) (cwV 0 hts gX0_fill_X0_needPower rfl rfl rfl (by decide +kernel) ⟨Nat.le_of_ble_eq_true rfl, Nat.le_of_ble_eq_true rfl⟩) (pV_X hP hD hK hS hA hT (ci := 0) (q0 := 0) rfl rfl rfl [0, 1] rfl [0, 1, 2, 3, 4, 5, 6] rfl rfl) rfl rfl hl.1 rfl (lv_room (Nat.le_of_ble_eq_true rfl)) dX0_fill_1 ⟨Nat.le_of_ble_eq_true rfl, Nat.le_of_ble_eq_true rfl⟩) [0, 1, 2, 3, 4, 5, 6] [] rfl rfl rfl (by decide)
set_option maxHeartbeats 4000000 in
set_option maxRecDepth 100000 in
theorem tX0_write_x0 {l : Launch} {D : va_G} {cI cZ : ClassId} {h0 a0 a1 a2 a3 a4 a5 : Nat} (hl0 : l.stackTraces = false) (bf pw hs lo lg rt : Nat → Int32) (nb : Int32) (fi fo en : Nat) (cu ma : Int32) (x y : Int32) : RX l yX0_write wsX0_write 8 D (tyC cI cZ) (wC h0 a0 a1 a2 a3 a4 a5 cI cZ bf pw hs lo lg rt nb (nI fi) (nI fo) (nI en) 0 cu ma) [.ref h0, .int x, .int y] xISE := by
  refine st_X (cc := cX0_write) (maxL := 3) (ret := (some .int)) (by decide +kernel) rfl (Nat.le_of_ble_eq_true rfl) ?_
  intro p e s m below meth c A hx hb hr hts hown hml hlocks hK hP hD hA hS ls hl hT hex
  have hown : s.vm.findClass RX0 = some m.cls := hown
  have hl : lv_has ls 3 [(0, .ref h0), (1, .int x), (2, .int y)] := hl
  refine lv_aload_n hx hb dX0_write_0 rfl (lv_at hl 0 rfl) ?_
  exact k_XX hlocks hex (Nat.le_of_ble_eq_true rfl) (Nat.le_of_ble_eq_true rfl) (wr := []) hP hD hS hA (vx_runV (As := []) (rest := []) ⟨hx, hb, hml, hown, hts⟩ ((tX0_needPower_x hl0 bf pw hs lo lg rt nb fi fo en cu ma) _) (cwV 0 hts gX0_write_X0_needPower rfl rfl rfl (by decide +kernel) ⟨Nat.le_of_ble_eq_true rfl, Nat.le_of_ble_eq_true rfl⟩) (pV_X hP hD hK hS hA hT (ci := 0) (q0 := 0) rfl rfl rfl [0, 1] rfl [0, 1, 2, 3, 4, 5, 6] rfl rfl) rfl rfl hl.1 rfl (lv_room (Nat.le_of_ble_eq_true rfl)) dX0_write_1 ⟨Nat.le_of_ble_eq_true rfl, Nat.le_of_ble_eq_true rfl⟩) [0, 1, 2, 3, 4, 5, 6] [] rfl rfl rfl (by decide)
set_option maxHeartbeats 4000000 in
set_option maxRecDepth 100000 in
theorem tX0_read_x0 {l : Launch} {D : va_G} {cI cZ : ClassId} {h0 a0 a1 a2 a3 a4 a5 : Nat} (hl0 : l.stackTraces = false) (bf pw hs lo lg rt : Nat → Int32) (nb : Int32) (fi fo en : Nat) (cu ma : Int32) (x y : Int32) : RX l yX0_read wsX0_read 8 D (tyC cI cZ) (wC h0 a0 a1 a2 a3 a4 a5 cI cZ bf pw hs lo lg rt nb (nI fi) (nI fo) (nI en) 0 cu ma) [.ref h0, .int x, .int y] xISE := by
  refine st_X (cc := cX0_read) (maxL := 5) (ret := (some .int)) (by decide +kernel) rfl (Nat.le_of_ble_eq_true rfl) ?_
  intro p e s m below meth c A hx hb hr hts hown hml hlocks hK hP hD hA hS ls hl hT hex
  have hown : s.vm.findClass RX0 = some m.cls := hown
  have hl : lv_has ls 5 [(0, .ref h0), (1, .int x), (2, .int y)] := hl
  refine lv_aload_n hx hb dX0_read_0 rfl (lv_at hl 0 rfl) ?_
  exact k_XX hlocks hex (Nat.le_of_ble_eq_true rfl) (Nat.le_of_ble_eq_true rfl) (wr := []) hP hD hS hA (vx_runV (As := []) (rest := []) ⟨hx, hb, hml, hown, hts⟩ ((tX0_needPower_x hl0 bf pw hs lo lg rt nb fi fo en cu ma) _) (cwV 0 hts gX0_read_X0_needPower rfl rfl rfl (by decide +kernel) ⟨Nat.le_of_ble_eq_true rfl, Nat.le_of_ble_eq_true rfl⟩) (pV_X hP hD hK hS hA hT (ci := 0) (q0 := 0) rfl rfl rfl [0, 1] rfl [0, 1, 2, 3, 4, 5, 6] rfl rfl) rfl rfl hl.1 rfl (lv_room (Nat.le_of_ble_eq_true rfl)) dX0_read_1 ⟨Nat.le_of_ble_eq_true rfl, Nat.le_of_ble_eq_true rfl⟩) [0, 1, 2, 3, 4, 5, 6] [] rfl rfl rfl (by decide)
set_option maxHeartbeats 4000000 in
set_option maxRecDepth 100000 in
theorem tX0_copy_x0 {l : Launch} {D : va_G} {cI cZ : ClassId} {h0 a0 a1 a2 a3 a4 a5 : Nat} (hl0 : l.stackTraces = false) (bf pw hs lo lg rt : Nat → Int32) (nb : Int32) (fi fo en : Nat) (cu ma : Int32) (x y : Int32) : RX l yX0_copy wsX0_copy 8 D (tyC cI cZ) (wC h0 a0 a1 a2 a3 a4 a5 cI cZ bf pw hs lo lg rt nb (nI fi) (nI fo) (nI en) 0 cu ma) [.ref h0, .int x, .int y] xISE := by
  refine st_X (cc := cX0_copy) (maxL := 4) (ret := (some .int)) (by decide +kernel) rfl (Nat.le_of_ble_eq_true rfl) ?_
  intro p e s m below meth c A hx hb hr hts hown hml hlocks hK hP hD hA hS ls hl hT hex
  have hown : s.vm.findClass RX0 = some m.cls := hown
  have hl : lv_has ls 4 [(0, .ref h0), (1, .int x), (2, .int y)] := hl
  refine lv_aload_n hx hb dX0_copy_0 rfl (lv_at hl 0 rfl) ?_
  exact k_XX hlocks hex (Nat.le_of_ble_eq_true rfl) (Nat.le_of_ble_eq_true rfl) (wr := []) hP hD hS hA (vx_runV (As := []) (rest := []) ⟨hx, hb, hml, hown, hts⟩ ((tX0_needPower_x hl0 bf pw hs lo lg rt nb fi fo en cu ma) _) (cwV 0 hts gX0_copy_X0_needPower rfl rfl rfl (by decide +kernel) ⟨Nat.le_of_ble_eq_true rfl, Nat.le_of_ble_eq_true rfl⟩) (pV_X hP hD hK hS hA hT (ci := 0) (q0 := 0) rfl rfl rfl [0, 1] rfl [0, 1, 2, 3, 4, 5, 6] rfl rfl) rfl rfl hl.1 rfl (lv_room (Nat.le_of_ble_eq_true rfl)) dX0_copy_1 ⟨Nat.le_of_ble_eq_true rfl, Nat.le_of_ble_eq_true rfl⟩) [0, 1, 2, 3, 4, 5, 6] [] rfl rfl rfl (by decide)
set_option maxHeartbeats 4000000 in
set_option maxRecDepth 100000 in
theorem tX0_append_x0 {l : Launch} {D : va_G} {cI cZ : ClassId} {h0 a0 a1 a2 a3 a4 a5 : Nat} (hl0 : l.stackTraces = false) (bf pw hs lo lg rt : Nat → Int32) (nb : Int32) (fi fo en : Nat) (cu ma : Int32) (x : Int32) : RX l yX0_append wsX0_append 8 D (tyC cI cZ) (wC h0 a0 a1 a2 a3 a4 a5 cI cZ bf pw hs lo lg rt nb (nI fi) (nI fo) (nI en) 0 cu ma) [.ref h0, .int x] xISE := by
  refine st_X (cc := cX0_append) (maxL := 4) (ret := (some .int)) (by decide +kernel) rfl (Nat.le_of_ble_eq_true rfl) ?_
  intro p e s m below meth c A hx hb hr hts hown hml hlocks hK hP hD hA hS ls hl hT hex
  have hown : s.vm.findClass RX0 = some m.cls := hown
  have hl : lv_has ls 4 [(0, .ref h0), (1, .int x)] := hl
  refine lv_aload_n hx hb dX0_append_0 rfl (lv_at hl 0 rfl) ?_
  exact k_XX hlocks hex (Nat.le_of_ble_eq_true rfl) (Nat.le_of_ble_eq_true rfl) (wr := []) hP hD hS hA (vx_runV (As := []) (rest := []) ⟨hx, hb, hml, hown, hts⟩ ((tX0_needPower_x hl0 bf pw hs lo lg rt nb fi fo en cu ma) _) (cwV 0 hts gX0_append_X0_needPower rfl rfl rfl (by decide +kernel) ⟨Nat.le_of_ble_eq_true rfl, Nat.le_of_ble_eq_true rfl⟩) (pV_X hP hD hK hS hA hT (ci := 0) (q0 := 0) rfl rfl rfl [0, 1] rfl [0, 1, 2, 3, 4, 5, 6] rfl rfl) rfl rfl hl.1 rfl (lv_room (Nat.le_of_ble_eq_true rfl)) dX0_append_1 ⟨Nat.le_of_ble_eq_true rfl, Nat.le_of_ble_eq_true rfl⟩) [0, 1, 2, 3, 4, 5, 6] [] rfl rfl rfl (by decide)
set_option maxHeartbeats 4000000 in
set_option maxRecDepth 100000 in
theorem tX0_force_x0 {l : Launch} {D : va_G} {cI cZ : ClassId} {h0 a0 a1 a2 a3 a4 a5 : Nat} (hl0 : l.stackTraces = false) (bf pw hs lo lg rt : Nat → Int32) (nb : Int32) (fi fo en : Nat) (cu ma : Int32) (x : Int32) : RX l yX0_force wsX0_force 8 D (tyC cI cZ) (wC h0 a0 a1 a2 a3 a4 a5 cI cZ bf pw hs lo lg rt nb (nI fi) (nI fo) (nI en) 0 cu ma) [.ref h0, .int x] xISE := by
  refine st_X (cc := cX0_force) (maxL := 3) (ret := (some .int)) (by decide +kernel) rfl (Nat.le_of_ble_eq_true rfl) ?_
  intro p e s m below meth c A hx hb hr hts hown hml hlocks hK hP hD hA hS ls hl hT hex
  have hown : s.vm.findClass RX0 = some m.cls := hown
  have hl : lv_has ls 3 [(0, .ref h0), (1, .int x)] := hl
  refine lv_aload_n hx hb dX0_force_0 rfl (lv_at hl 0 rfl) ?_
  exact k_XX hlocks hex (Nat.le_of_ble_eq_true rfl) (Nat.le_of_ble_eq_true rfl) (wr := []) hP hD hS hA (vx_runV (As := []) (rest := []) ⟨hx, hb, hml, hown, hts⟩ ((tX0_needPower_x hl0 bf pw hs lo lg rt nb fi fo en cu ma) _) (cwV 0 hts gX0_force_X0_needPower rfl rfl rfl (by decide +kernel) ⟨Nat.le_of_ble_eq_true rfl, Nat.le_of_ble_eq_true rfl⟩) (pV_X hP hD hK hS hA hT (ci := 0) (q0 := 0) rfl rfl rfl [0, 1] rfl [0, 1, 2, 3, 4, 5, 6] rfl rfl) rfl rfl hl.1 rfl (lv_room (Nat.le_of_ble_eq_true rfl)) dX0_force_1 ⟨Nat.le_of_ble_eq_true rfl, Nat.le_of_ble_eq_true rfl⟩) [0, 1, 2, 3, 4, 5, 6] [] rfl rfl rfl (by decide)
set_option maxHeartbeats 4000000 in
set_option maxRecDepth 100000 in
theorem tX0_readLog_x0 {l : Launch} {D : va_G} {cI cZ : ClassId} {h0 a0 a1 a2 a3 a4 a5 : Nat} (hl0 : l.stackTraces = false) (bf pw hs lo lg rt : Nat → Int32) (nb : Int32) (fi fo en : Nat) (cu ma : Int32) (x y : Int32) : RX l yX0_readLog wsX0_readLog 8 D (tyC cI cZ) (wC h0 a0 a1 a2 a3 a4 a5 cI cZ bf pw hs lo lg rt nb (nI fi) (nI fo) (nI en) 0 cu ma) [.ref h0, .int x, .int y] xISE := by
  refine st_X (cc := cX0_readLog) (maxL := 4) (ret := none) (by decide +kernel) rfl (Nat.le_of_ble_eq_true rfl) ?_
  intro p e s m below meth c A hx hb hr hts hown hml hlocks hK hP hD hA hS ls hl hT hex
  have hown : s.vm.findClass RX0 = some m.cls := hown
  have hl : lv_has ls 4 [(0, .ref h0), (1, .int x), (2, .int y)] := hl
  refine lv_aload_n hx hb dX0_readLog_0 rfl (lv_at hl 0 rfl) ?_
  exact k_XX hlocks hex (Nat.le_of_ble_eq_true rfl) (Nat.le_of_ble_eq_true rfl) (wr := []) hP hD hS hA (vx_runV (As := []) (rest := []) ⟨hx, hb, hml, hown, hts⟩ ((tX0_needPower_x hl0 bf pw hs lo lg rt nb fi fo en cu ma) _) (cwV 0 hts gX0_readLog_X0_needPower rfl rfl rfl (by decide +kernel) ⟨Nat.le_of_ble_eq_true rfl, Nat.le_of_ble_eq_true rfl⟩) (pV_X hP hD hK hS hA hT (ci := 0) (q0 := 0) rfl rfl rfl [0, 1] rfl [0, 1, 2, 3, 4, 5, 6] rfl rfl) rfl rfl hl.1 rfl (lv_room (Nat.le_of_ble_eq_true rfl)) dX0_readLog_1 ⟨Nat.le_of_ble_eq_true rfl, Nat.le_of_ble_eq_true rfl⟩) [0, 1, 2, 3, 4, 5, 6] [] rfl rfl rfl (by decide)
set_option maxHeartbeats 4000000 in
set_option maxRecDepth 100000 in
theorem tX0_giveBack_x0 {l : Launch} {D : va_G} {cI cZ : ClassId} {h0 a0 a1 a2 a3 a4 a5 : Nat} (hl0 : l.stackTraces = false) (bf pw hs lo lg rt : Nat → Int32) (nb : Int32) (fi fo en : Nat) (cu ma : Int32) (x : Int32) : RX l yX0_giveBack wsX0_giveBack 8 D (tyC cI cZ) (wC h0 a0 a1 a2 a3 a4 a5 cI cZ bf pw hs lo lg rt nb (nI fi) (nI fo) (nI en) 0 cu ma) [.ref h0, .int x] xISE := by
  refine st_X (cc := cX0_giveBack) (maxL := 2) (ret := none) (by decide +kernel) rfl (Nat.le_of_ble_eq_true rfl) ?_
  intro p e s m below meth c A hx hb hr hts hown hml hlocks hK hP hD hA hS ls hl hT hex
  have hown : s.vm.findClass RX0 = some m.cls := hown
  have hl : lv_has ls 2 [(0, .ref h0), (1, .int x)] := hl
  refine lv_aload_n hx hb dX0_giveBack_0 rfl (lv_at hl 0 rfl) ?_
  exact k_XX hlocks hex (Nat.le_of_ble_eq_true rfl) (Nat.le_of_ble_eq_true rfl) (wr := []) hP hD hS hA (vx_runV (As := []) (rest := []) ⟨hx, hb, hml, hown, hts⟩ ((tX0_needPower_x hl0 bf pw hs lo lg rt nb fi fo en cu ma) _) (cwV 0 hts gX0_giveBack_X0_needPower rfl rfl rfl (by decide +kernel) ⟨Nat.le_of_ble_eq_true rfl, Nat.le_of_ble_eq_true rfl⟩) (pV_X hP hD hK hS hA hT (ci := 0) (q0 := 0) rfl rfl rfl [0, 1] rfl [0, 1, 2, 3, 4, 5, 6] rfl rfl) rfl rfl hl.1 rfl (lv_room (Nat.le_of_ble_eq_true rfl)) dX0_giveBack_1 ⟨Nat.le_of_ble_eq_true rfl, Nat.le_of_ble_eq_true rfl⟩) [0, 1, 2, 3, 4, 5, 6] [] rfl rfl rfl (by decide)
set_option maxHeartbeats 4000000 in
set_option maxRecDepth 100000 in
theorem tX0_setRoot_x0 {l : Launch} {D : va_G} {cI cZ : ClassId} {h0 a0 a1 a2 a3 a4 a5 : Nat} (hl0 : l.stackTraces = false) (bf pw hs lo lg rt : Nat → Int32) (nb : Int32) (fi fo en : Nat) (cu ma : Int32) (x y : Int32) : RX l yX0_setRoot wsX0_setRoot 8 D (tyC cI cZ) (wC h0 a0 a1 a2 a3 a4 a5 cI cZ bf pw hs lo lg rt nb (nI fi) (nI fo) (nI en) 0 cu ma) [.ref h0, .int x, .int y] xISE := by
  refine st_X (cc := cX0_setRoot) (maxL := 3) (ret := (some .boolean)) (by decide +kernel) rfl (Nat.le_of_ble_eq_true rfl) ?_
  intro p e s m below meth c A hx hb hr hts hown hml hlocks hK hP hD hA hS ls hl hT hex
  have hown : s.vm.findClass RX0 = some m.cls := hown
  have hl : lv_has ls 3 [(0, .ref h0), (1, .int x), (2, .int y)] := hl
  refine lv_aload_n hx hb dX0_setRoot_0 rfl (lv_at hl 0 rfl) ?_
  exact k_XX hlocks hex (Nat.le_of_ble_eq_true rfl) (Nat.le_of_ble_eq_true rfl) (wr := []) hP hD hS hA (vx_runV (As := []) (rest := []) ⟨hx, hb, hml, hown, hts⟩ ((tX0_needPower_x hl0 bf pw hs lo lg rt nb fi fo en cu ma) _) (cwV 0 hts gX0_setRoot_X0_needPower rfl rfl rfl (by decide +kernel) ⟨Nat.le_of_ble_eq_true rfl, Nat.le_of_ble_eq_true rfl⟩) (pV_X hP hD hK hS hA hT (ci := 0) (q0 := 0) rfl rfl rfl [0, 1] rfl [0, 1, 2, 3, 4, 5, 6] rfl rfl) rfl rfl hl.1 rfl (lv_room (Nat.le_of_ble_eq_true rfl)) dX0_setRoot_1 ⟨Nat.le_of_ble_eq_true rfl, Nat.le_of_ble_eq_true rfl⟩) [0, 1, 2, 3, 4, 5, 6] [] rfl rfl rfl (by decide)
set_option maxHeartbeats 4000000 in
set_option maxRecDepth 100000 in
theorem tX0_set_xb {l : Launch} {D : va_G} {cI cZ : ClassId} {h0 a0 a1 a2 a3 a4 a5 : Nat} (hl0 : l.stackTraces = false) (bf pw hs lo lg rt : Nat → Int32) (nb : Int32) (fi fo en : Nat) (cu ma : Int32) (x y : Int32) (h : x < 0 ∨ nI 64 ≤ x) : RX l yX0_set wsX0_set 8 D (tyC cI cZ) (wC h0 a0 a1 a2 a3 a4 a5 cI cZ bf pw hs lo lg rt nb (nI fi) (nI fo) (nI en) 1 cu ma) [.ref h0, .int x, .int y] xIOB := by
  refine st_X (cc := cX0_set) (maxL := 3) (ret := none) (by decide +kernel) rfl (Nat.le_of_ble_eq_true rfl) ?_
  intro p e s m below meth c A hx hb hr hts hown hml hlocks hK hP hD hA hS ls hl hT hex
  have hown : s.vm.findClass RX0 = some m.cls := hown
  have hl : lv_has ls 3 [(0, .ref h0), (1, .int x), (2, .int y)] := hl
  refine lv_aload_n hx hb dX0_set_0 rfl (lv_at hl 0 rfl) ?_
  refine k_V (wr := []) hP hD hS hA (va_runV (As := []) (rest := []) ⟨hx, hb, hml, hown, hts⟩ ((tX0_needPower_ok bf pw hs lo lg rt nb fi fo en cu ma) _) (cwV 0 hts gX0_set_X0_needPower rfl rfl rfl (by decide +kernel) ⟨Nat.le_of_ble_eq_true rfl, Nat.le_of_ble_eq_true rfl⟩) (pV_B hP hD hK (ci := 0) (q0 := 0) rfl rfl rfl [0, 1] rfl [0, 1, 2, 3, 4, 5, 6] rfl rfl) rfl rfl hl.1 rfl (lv_room (Nat.le_of_ble_eq_true rfl)) dX0_set_1 ⟨Nat.le_of_ble_eq_true rfl, Nat.le_of_ble_eq_true rfl⟩) [0, 1, 2, 3, 4, 5, 6] [] rfl rfl rfl (by decide) (fun H locs hP hD hS => ?_)
  have hP : va_P D vwCl (wC h0 a0 a1 a2 a3 a4 a5 cI cZ bf pw hs lo lg rt nb (nI fi) (nI fo) (nI en) 1 cu ma) H := hP
  have hD : va_D A (wC h0 a0 a1 a2 a3 a4 a5 cI cZ bf pw hs lo lg rt nb (nI fi) (nI fo) (nI en) 1 cu ma) := hD
  refine lv_iload_n hx hb dX0_set_4 rfl (lv_at hl 1 rfl) ?_
  refine lv_bipush (v := (nI 64)) hx hb dX0_set_5 (by decide) ?_
  exact k_XX hlocks hex (Nat.le_of_ble_eq_true rfl) (Nat.le_of_ble_eq_true rfl) (wr := wC h0 a0 a1 a2 a3 a4 a5 cI cZ bf pw hs lo lg rt nb (nI fi) (nI fo) (nI en) 1 cu ma) hP hD hS hA (vx_runS (As := [.int x, .int (nI 64)]) (rest := []) ⟨hx, hb, hml, hown, hts⟩ ((tX0_needIndex_x hl0 x 64 h) _) (va_cwS 2 hts gX0_set_X0_needIndex rfl rfl rfl (by decide +kernel) ⟨Nat.le_of_ble_eq_true rfl, Nat.le_of_ble_eq_true rfl⟩) (pS_X hP hD hK hS hA hT [] rfl [] rfl rfl) rfl rfl hl.1 rfl (lv_room (Nat.le_of_ble_eq_true rfl)) dX0_set_7 ⟨Nat.le_of_ble_eq_true rfl, Nat.le_of_ble_eq_true rfl⟩) [] [0, 1, 2, 3, 4, 5, 6] rfl rfl rfl (by decide)
set_option maxHeartbeats 4000000 in
set_option maxRecDepth 100000 in
theorem tX0_set_ok {l : Launch} {D : va_G} {cI cZ : ClassId} {h0 a0 a1 a2 a3 a4 a5 : Nat} (bf pw hs lo lg rt : Nat → Int32) (nb : Int32) (fi fo en : Nat) (cu ma : Int32) (k : Nat) (hk : k < 64) (y : Int32) : RV l yX0_set wsX0_set 8 0 0 D (tyC cI cZ) (wC h0 a0 a1 a2 a3 a4 a5 cI cZ bf pw hs lo lg rt nb (nI fi) (nI fo) (nI en) 1 cu ma) [.ref h0, .int (nI k), .int y] (wC h0 a0 a1 a2 a3 a4 a5 cI cZ (upd bf k y) pw hs lo lg rt nb (nI fi) (nI fo) (nI en) 1 cu ma) := by
  refine st_V (cc := cX0_set) (maxL := 3) (ret := none) (by decide +kernel) rfl (Nat.le_of_ble_eq_true rfl) ?_
  intro p e s m below meth c A hx hb hr hts hown hml hlocks hK hP hD hA hS ls hl
  have hown : s.vm.findClass RX0 = some m.cls := hown
  have hl : lv_has ls 3 [(0, .ref h0), (1, .int (nI k)), (2, .int y)] := hl
  refine lv_aload_n hx hb dX0_set_0 rfl (lv_at hl 0 rfl) ?_
  refine k_V (wr := []) hP hD hS hA (va_runV (As := []) (rest := []) ⟨hx, hb, hml, hown, hts⟩ ((tX0_needPower_ok bf pw hs lo lg rt nb fi fo en cu ma) _) (cwV 0 hts gX0_set_X0_needPower rfl rfl rfl (by decide +kernel) ⟨Nat.le_of_ble_eq_true rfl, Nat.le_of_ble_eq_true rfl⟩) (pV_B hP hD hK (ci := 0) (q0 := 0) rfl rfl rfl [0, 1] rfl [0, 1, 2, 3, 4, 5, 6] rfl rfl) rfl rfl hl.1 rfl (lv_room (Nat.le_of_ble_eq_true rfl)) dX0_set_1 ⟨Nat.le_of_ble_eq_true rfl, Nat.le_of_ble_eq_true rfl⟩) [0, 1, 2, 3, 4, 5, 6] [] rfl rfl rfl (by decide) (fun H locs hP hD hS => ?_)
  have hP : va_P D vwCl (wC h0 a0 a1 a2 a3 a4 a5 cI cZ bf pw hs lo lg rt nb (nI fi) (nI fo) (nI en) 1 cu ma) H := hP
  have hD : va_D A (wC h0 a0 a1 a2 a3 a4 a5 cI cZ bf pw hs lo lg rt nb (nI fi) (nI fo) (nI en) 1 cu ma) := hD
  refine lv_iload_n hx hb dX0_set_4 rfl (lv_at hl 1 rfl) ?_
  refine lv_bipush (v := (nI 64)) hx hb dX0_set_5 (by decide) ?_
  refine k_V (wr := wC h0 a0 a1 a2 a3 a4 a5 cI cZ bf pw hs lo lg rt nb (nI fi) (nI fo) (nI en) 1 cu ma) hP hD hS hA (va_runS (As := [.int (nI k), .int (nI 64)]) (rest := []) ⟨hx, hb, hml, hown, hts⟩ ((tX0_needIndex_ok k 64 (by omega) (by omega)) _) (va_cwS 2 hts gX0_set_X0_needIndex rfl rfl rfl (by decide +kernel) ⟨Nat.le_of_ble_eq_true rfl, Nat.le_of_ble_eq_true rfl⟩) (pS_B hP hD hK [] rfl [] rfl rfl) rfl rfl hl.1 rfl (lv_room (Nat.le_of_ble_eq_true rfl)) dX0_set_7 ⟨Nat.le_of_ble_eq_true rfl, Nat.le_of_ble_eq_true rfl⟩) [] [0, 1, 2, 3, 4, 5, 6] rfl rfl rfl (by decide) (fun H locs hP hD hS => ?_)
  have hP : va_P D vwCl (wC h0 a0 a1 a2 a3 a4 a5 cI cZ bf pw hs lo lg rt nb (nI fi) (nI fo) (nI en) 1 cu ma) H := hP
  have hD : va_D A (wC h0 a0 a1 a2 a3 a4 a5 cI cZ bf pw hs lo lg rt nb (nI fi) (nI fo) (nI en) 1 cu ma) := hD
  refine lv_aload_n hx hb dX0_set_10 rfl (lv_at hl 0 rfl) ?_
  refine va_get (ci := 0) (v := .ref a0) (C := RX0) (T := TX0) (N := 13) hx hb hts inX0_set hown hK hP 0 rfl rfl 0 (by decide) (hts _ flX0_set_9) (fun _ h9 => h9) rfl dX0_set_11 ?_
  refine lv_iload_n hx hb dX0_set_14 rfl (lv_at hl 1 rfl) ?_
  refine lv_iload_n hx hb dX0_set_15 rfl (lv_at hl 2 rfl) ?_
  refine n_iast hx hb hK hP hD hS 1 0 rfl rfl k (by omega) (by omega) dX0_set_16 (fun H locs hP hD hS => ?_)
  have hP : va_P D vwCl (wC h0 a0 a1 a2 a3 a4 a5 cI cZ (upd bf k y) pw hs lo lg rt nb (nI fi) (nI fo) (nI en) 1 cu ma) H := hP
  have hD : va_D A (wC h0 a0 a1 a2 a3 a4 a5 cI cZ (upd bf k y) pw hs lo lg rt nb (nI fi) (nI fo) (nI en) 1 cu ma) := hD
  exact e_V hx hb hr hlocks hP hD hS dX0_set_17
set_option maxHeartbeats 4000000 in
set_option maxRecDepth 100000 in
theorem tX0_fill_ok {l : Launch} {D : va_G} {cI cZ : ClassId} {h0 a0 a1 a2 a3 a4 a5 : Nat} (bf pw hs lo lg rt : Nat → Int32) (nb : Int32) (fi fo en : Nat) (cu ma : Int32) (x y : Int32) : RV l yX0_fill wsX0_fill 8 0 0 D (tyC cI cZ) (wC h0 a0 a1 a2 a3 a4 a5 cI cZ bf pw hs lo lg rt nb (nI fi) (nI fo) (nI en) 1 cu ma) [.ref h0, .int x, .int y] (wC h0 a0 a1 a2 a3 a4 a5 cI cZ (fl (fun j => x + nI j * y) 64 bf) pw hs lo lg rt nb (nI fi) (nI fo) (nI en) 1 cu ma) := by
  refine st_V (cc := cX0_fill) (maxL := 4) (ret := none) (by decide +kernel) rfl (Nat.le_of_ble_eq_true rfl) ?_
  intro p e s m below meth c A hx hb hr hts hown hml hlocks hK hP hD hA hS ls hl
  have hown : s.vm.findClass RX0 = some m.cls := hown
  have hl : lv_has ls 4 [(0, .ref h0), (1, .int x), (2, .int y)] := hl
  refine lv_aload_n hx hb dX0_fill_0 rfl (lv_at hl 0 rfl) ?_
  refine k_V (wr := []) hP hD hS hA (va_runV (As := []) (rest := []) ⟨hx, hb, hml, hown, hts⟩ ((tX0_needPower_ok bf pw hs lo lg rt nb fi fo en cu ma) _) (cwV 0 hts gX0_fill_X0_needPower rfl rfl rfl (by decide +kernel) ⟨Nat.le_of_ble_eq_true rfl, Nat.le_of_ble_eq_true rfl⟩) (pV_B hP hD hK (ci := 0) (q0 := 0) rfl rfl rfl [0, 1] rfl [0, 1, 2, 3, 4, 5, 6] rfl rfl) rfl rfl hl.1 rfl (lv_room (Nat.le_of_ble_eq_true rfl)) dX0_fill_1 ⟨Nat.le_of_ble_eq_true rfl, Nat.le_of_ble_eq_true rfl⟩) [0, 1, 2, 3, 4, 5, 6] [] rfl rfl rfl (by decide) (fun H locs hP hD hS => ?_)
  have hP : va_P D vwCl (wC h0 a0 a1 a2 a3 a4 a5 cI cZ bf pw hs lo lg rt nb (nI fi) (nI fo) (nI en) 1 cu ma) H := hP
  have hD : va_D A (wC h0 a0 a1 a2 a3 a4 a5 cI cZ bf pw hs lo lg rt nb (nI fi) (nI fo) (nI en) 1 cu ma) := hD
  refine lv_iconst (v := (nI 0)) hx hb dX0_fill_4 (by decide) ?_
  refine lv_istore_n (lv' := [(3, .int (nI 0)), (0, .ref h0), (1, .int x), (2, .int y)]) hx hb dX0_fill_5 rfl hl (by decide) rfl (fun ls hl => ?_)
  have lp_6 : ∀ (n9 i : Nat), i + n9 = 64 → ∀ (H : Heap) (locs : List Loc) (ls : Array Slot), va_P D vwCl (wC h0 a0 a1 a2 a3 a4 a5 cI cZ (fl (fun j => x + nI j * y) i bf) pw hs lo lg rt nb (nI fi) (nI fo) (nI en) 1 cu ma) H → va_D A (wC h0 a0 a1 a2 a3 a4 a5 cI cZ (fl (fun j => x + nI j * y) i bf) pw hs lo lg rt nb (nI fi) (nI fo) (nI en) 1 cu ma) → va_S A s.heap H locs → lv_has ls 4 [(0, .ref h0), (1, .int x), (2, .int y), (3, .int (nI i))] → W p l e (rmL 8 0 0) s m ([.ref h0, .int x, .int y] : List Value).toArray below meth c H locs 0 0 (MQ below (qcV D A (wC h0 a0 a1 a2 a3 a4 a5 cI cZ (fl (fun j => x + nI j * y) 64 bf) pw hs lo lg rt nb (nI fi) (nI fo) (nI en) 1 cu ma)) ([.ref h0, .int x, .int y] : List Value).toArray s 0 0 A) (F0 m 6 ls []) := by
    intro n9
    induction n9 with
    | zero =>
      intro i hi H locs ls hP hD hS hl
      obtain rfl : i = 64 := by omega
      refine lv_iload_n hx hb dX0_fill_6 rfl (lv_at hl 3 rfl) ?_
      refine lv_bipush (v := (nI 64)) hx hb dX0_fill_7 (by decide) ?_
      refine n_ge (tgt := 29) hx hb (by omega) (by omega) dX0_fill_9 (by decide) (fun c_9 => ?_) (fun c_9 => absurd c_9 (by omega))
      exact e_V hx hb hr hlocks hP hD hS dX0_fill_29
    | succ n9 ih =>
      intro i hi H locs ls hP hD hS hl
      refine lv_iload_n hx hb dX0_fill_6 rfl (lv_at hl 3 rfl) ?_
      refine lv_bipush (v := (nI 64)) hx hb dX0_fill_7 (by decide) ?_
      refine n_ge (tgt := 29) hx hb (by omega) (by omega) dX0_fill_9 (by decide) (fun c_9 => absurd c_9 (by omega)) (fun c_9 => ?_)
      refine lv_aload_n hx hb dX0_fill_12 rfl (lv_at hl 0 rfl) ?_
      refine va_get (ci := 0) (v := .ref a0) (C := RX0) (T := TX0) (N := 13) hx hb hts inX0_fill hown hK hP 0 rfl rfl 0 (by decide) (hts _ flX0_fill_9) (fun _ h9 => h9) rfl dX0_fill_13 ?_
      refine lv_iload_n hx hb dX0_fill_16 rfl (lv_at hl 3 rfl) ?_
      refine lv_iload_n hx hb dX0_fill_17 rfl (lv_at hl 1 rfl) ?_
      refine lv_iload_n hx hb dX0_fill_18 rfl (lv_at hl 3 rfl) ?_
      refine lv_iload_n hx hb dX0_fill_19 rfl (lv_at hl 2 rfl) ?_
      refine lv_imul hx hb dX0_fill_20 ?_
      refine lv_iadd hx hb dX0_fill_21 ?_
      refine n_iast hx hb hK hP hD hS 1 0 rfl rfl i (by omega) (by omega) dX0_fill_22 (fun H locs hP hD hS => ?_)
      have hP : va_P D vwCl (wC h0 a0 a1 a2 a3 a4 a5 cI cZ (upd (fl (fun j => x + nI j * y) i bf) i (x + ((nI i) * y))) pw hs lo lg rt nb (nI fi) (nI fo) (nI en) 1 cu ma) H := hP
      have hD : va_D A (wC h0 a0 a1 a2 a3 a4 a5 cI cZ (upd (fl (fun j => x + nI j * y) i bf) i (x + ((nI i) * y))) pw hs lo lg rt nb (nI fi) (nI fo) (nI en) 1 cu ma) := hD
      refine n_iinc (lv' := [(3, .int (nI (i + 1))), (0, .ref h0), (1, .int x), (2, .int y)]) hx hb dX0_fill_23 hl (k := 3) rfl (by decide) rfl (fun ls hl => ?_)
      refine lv_goto (tgt := 6) hx hb dX0_fill_26 (by decide) ?_
      have hP : va_P D vwCl (wC h0 a0 a1 a2 a3 a4 a5 cI cZ (fl (fun j => x + nI j * y) (i + 1) bf) pw hs lo lg rt nb (nI fi) (nI fo) (nI en) 1 cu ma) H := by rw [← fl_s]; exact hP
      have hD : va_D A (wC h0 a0 a1 a2 a3 a4 a5 cI cZ (fl (fun j => x + nI j * y) (i + 1) bf) pw hs lo lg rt nb (nI fi) (nI fo) (nI en) 1 cu ma) := by rw [← fl_s]; exact hD
      exact ih (i + 1) (by omega) _ _ _ hP hD hS (lv_sub hl [1, 2, 3, 0] rfl)
  have hP : va_P D vwCl (wC h0 a0 a1 a2 a3 a4 a5 cI cZ (fl (fun j => x + nI j * y) 0 bf) pw hs lo lg rt nb (nI fi) (nI fo) (nI en) 1 cu ma) H := by rw [fl_0]; exact hP
  have hD : va_D A (wC h0 a0 a1 a2 a3 a4 a5 cI cZ (fl (fun j => x + nI j * y) 0 bf) pw hs lo lg rt nb (nI fi) (nI fo) (nI en) 1 cu ma) := by rw [fl_0]; exact hD
  exact lp_6 64 0 (by omega) _ _ _ hP hD hS (lv_sub hl [1, 2, 3, 0] rfl)
set_option maxHeartbeats 4000000 in
set_option maxRecDepth 100000 in
theorem tX0_get_xb {l : Launch} {D : va_G} {cI cZ : ClassId} {h0 a0 a1 a2 a3 a4 a5 : Nat} (hl0 : l.stackTraces = false) (bf pw hs lo lg rt : Nat → Int32) (nb : Int32) (fi fo en : Nat) (on cu ma : Int32) (x : Int32) (h : x < 0 ∨ nI 64 ≤ x) : RX l yX0_get wsX0_get 8 D (tyC cI cZ) (wC h0 a0 a1 a2 a3 a4 a5 cI cZ bf pw hs lo lg rt nb (nI fi) (nI fo) (nI en) on cu ma) [.ref h0, .int x] xIOB := by
  refine st_X (cc := cX0_get) (maxL := 2) (ret := (some .int)) (by decide +kernel) rfl (Nat.le_of_ble_eq_true rfl) ?_
  intro p e s m below meth c A hx hb hr hts hown hml hlocks hK hP hD hA hS ls hl hT hex
  have hown : s.vm.findClass RX0 = some m.cls := hown
  have hl : lv_has ls 2 [(0, .ref h0), (1, .int x)] := hl
  refine lv_iload_n hx hb dX0_get_0 rfl (lv_at hl 1 rfl) ?_
  refine lv_bipush (v := (nI 64)) hx hb dX0_get_1 (by decide) ?_
  exact k_XX hlocks hex (Nat.le_of_ble_eq_true rfl) (Nat.le_of_ble_eq_true rfl) (wr := wC h0 a0 a1 a2 a3 a4 a5 cI cZ bf pw hs lo lg rt nb (nI fi) (nI fo) (nI en) on cu ma) hP hD hS hA (vx_runS (As := [.int x, .int (nI 64)]) (rest := []) ⟨hx, hb, hml, hown, hts⟩ ((tX0_needIndex_x hl0 x 64 h) _) (va_cwS 2 hts gX0_get_X0_needIndex rfl rfl rfl (by decide +kernel) ⟨Nat.le_of_ble_eq_true rfl, Nat.le_of_ble_eq_true rfl⟩) (pS_X hP hD hK hS hA hT [] rfl [] rfl rfl) rfl rfl hl.1 rfl (lv_room (Nat.le_of_ble_eq_true rfl)) dX0_get_3 ⟨Nat.le_of_ble_eq_true rfl, Nat.le_of_ble_eq_true rfl⟩) [] [0, 1, 2, 3, 4, 5, 6] rfl rfl rfl (by decide)
set_option maxHeartbeats 4000000 in
set_option maxRecDepth 100000 in
theorem tX0_get_ok {l : Launch} {D : va_G} {cI cZ : ClassId} {h0 a0 a1 a2 a3 a4 a5 : Nat} (bf pw hs lo lg rt : Nat → Int32) (nb : Int32) (fi fo en : Nat) (on cu ma : Int32) (k : Nat) (hk : k < 64) : RI l yX0_get wsX0_get 8 0 0 D (tyC cI cZ) (wC h0 a0 a1 a2 a3 a4 a5 cI cZ bf pw hs lo lg rt nb (nI fi) (nI fo) (nI en) on cu ma) [.ref h0, .int (nI k)] (bf k) (wC h0 a0 a1 a2 a3 a4 a5 cI cZ bf pw hs lo lg rt nb (nI fi) (nI fo) (nI en) on cu ma) := by
  refine st_I (cc := cX0_get) (maxL := 2) (ret := (some .int)) (by decide +kernel) rfl (Nat.le_of_ble_eq_true rfl) ?_
  intro p e s m below meth c A hx hb hr hts hown hml hlocks hK hP hD hA hS ls hl
  have hown : s.vm.findClass RX0 = some m.cls := hown
  have hl : lv_has ls 2 [(0, .ref h0), (1, .int (nI k))] := hl
  refine lv_iload_n hx hb dX0_get_0 rfl (lv_at hl 1 rfl) ?_
  refine lv_bipush (v := (nI 64)) hx hb dX0_get_1 (by decide) ?_
  refine k_V (wr := wC h0 a0 a1 a2 a3 a4 a5 cI cZ bf pw hs lo lg rt nb (nI fi) (nI fo) (nI en) on cu ma) hP hD hS hA (va_runS (As := [.int (nI k), .int (nI 64)]) (rest := []) ⟨hx, hb, hml, hown, hts⟩ ((tX0_needIndex_ok k 64 (by omega) (by omega)) _) (va_cwS 2 hts gX0_get_X0_needIndex rfl rfl rfl (by decide +kernel) ⟨Nat.le_of_ble_eq_true rfl, Nat.le_of_ble_eq_true rfl⟩) (pS_B hP hD hK [] rfl [] rfl rfl) rfl rfl hl.1 rfl (lv_room (Nat.le_of_ble_eq_true rfl)) dX0_get_3 ⟨Nat.le_of_ble_eq_true rfl, Nat.le_of_ble_eq_true rfl⟩) [] [0, 1, 2, 3, 4, 5, 6] rfl rfl rfl (by decide) (fun H locs hP hD hS => ?_)
  have hP : va_P D vwCl (wC h0 a0 a1 a2 a3 a4 a5 cI cZ bf pw hs lo lg rt nb (nI fi) (nI fo) (nI en) on cu ma) H := hP
  have hD : va_D A (wC h0 a0 a1 a2 a3 a4 a5 cI cZ bf pw hs lo lg rt nb (nI fi) (nI fo) (nI en) on cu ma) := hD
  refine lv_aload_n hx hb dX0_get_6 rfl (lv_at hl 0 rfl) ?_
  refine va_get (ci := 0) (v := .ref a0) (C := RX0) (T := TX0) (N := 13) hx hb hts inX0_get hown hK hP 0 rfl rfl 0 (by decide) (hts _ flX0_get_9) (fun _ h9 => h9) rfl dX0_get_7 ?_
  refine lv_iload_n hx hb dX0_get_10 rfl (lv_at hl 1 rfl) ?_
  refine n_iald hx hb hK hP 1 0 rfl rfl k (by omega) (by omega) dX0_get_11 ?_
  exact e_I hx hb hr hlocks hP hD hS rfl dX0_get_12
set_option maxHeartbeats 4000000 in
set_option maxRecDepth 100000 in
theorem tX0_sum_ok {l : Launch} {D : va_G} {cI cZ : ClassId} {h0 a0 a1 a2 a3 a4 a5 : Nat} (bf pw hs lo lg rt : Nat → Int32) (nb : Int32) (fi fo en : Nat) (on cu ma : Int32) : RI l yX0_sum wsX0_sum 8 0 0 D (tyC cI cZ) (wC h0 a0 a1 a2 a3 a4 a5 cI cZ bf pw hs lo lg rt nb (nI fi) (nI fo) (nI en) on cu ma) [.ref h0] (sp_sum bf 64) (wC h0 a0 a1 a2 a3 a4 a5 cI cZ bf pw hs lo lg rt nb (nI fi) (nI fo) (nI en) on cu ma) := by
  refine st_I (cc := cX0_sum) (maxL := 3) (ret := (some .int)) (by decide +kernel) rfl (Nat.le_of_ble_eq_true rfl) ?_
  intro p e s m below meth c A hx hb hr hts hown hml hlocks hK hP hD hA hS ls hl
  have hown : s.vm.findClass RX0 = some m.cls := hown
  have hl : lv_has ls 3 [(0, .ref h0)] := hl
  refine lv_iconst (v := (0)) hx hb dX0_sum_0 (by decide) ?_
  refine lv_istore_n (lv' := [(1, .int 0), (0, .ref h0)]) hx hb dX0_sum_1 rfl hl (by decide) rfl (fun ls hl => ?_)
  refine lv_iconst (v := (nI 0)) hx hb dX0_sum_2 (by decide) ?_
  refine lv_istore_n (lv' := [(2, .int (nI 0)), (1, .int 0), (0, .ref h0)]) hx hb dX0_sum_3 rfl hl (by decide) rfl (fun ls hl => ?_)
  have lp_4 : ∀ (n9 i : Nat), i + n9 = 64 → ∀ (H : Heap) (locs : List Loc) (ls : Array Slot), va_P D vwCl (wC h0 a0 a1 a2 a3 a4 a5 cI cZ bf pw hs lo lg rt nb (nI fi) (nI fo) (nI en) on cu ma) H → va_D A (wC h0 a0 a1 a2 a3 a4 a5 cI cZ bf pw hs lo lg rt nb (nI fi) (nI fo) (nI en) on cu ma) → va_S A s.heap H locs → lv_has ls 3 [(0, .ref h0), (1, .int (sp_sum bf i)), (2, .int (nI i))] → W p l e (rmL 8 0 0) s m ([.ref h0] : List Value).toArray below meth c H locs 0 0 (MQ below (qcI D A (sp_sum bf 64) (wC h0 a0 a1 a2 a3 a4 a5 cI cZ bf pw hs lo lg rt nb (nI fi) (nI fo) (nI en) on cu ma)) ([.ref h0] : List Value).toArray s 0 0 A) (F0 m 4 ls []) := by
    intro n9
    induction n9 with
    | zero =>
      intro i hi H locs ls hP hD hS hl
      obtain rfl : i = 64 := by omega
      refine lv_iload_n hx hb dX0_sum_4 rfl (lv_at hl 2 rfl) ?_
      refine lv_bipush (v := (nI 64)) hx hb dX0_sum_5 (by decide) ?_
      refine n_ge (tgt := 29) hx hb (by omega) (by omega) dX0_sum_7 (by decide) (fun c_7 => ?_) (fun c_7 => absurd c_7 (by omega))
      refine lv_iload_n hx hb dX0_sum_29 rfl (lv_at hl 1 rfl) ?_
      exact e_I hx hb hr hlocks hP hD hS rfl dX0_sum_30
    | succ n9 ih =>
      intro i hi H locs ls hP hD hS hl
      refine lv_iload_n hx hb dX0_sum_4 rfl (lv_at hl 2 rfl) ?_
      refine lv_bipush (v := (nI 64)) hx hb dX0_sum_5 (by decide) ?_
      refine n_ge (tgt := 29) hx hb (by omega) (by omega) dX0_sum_7 (by decide) (fun c_7 => absurd c_7 (by omega)) (fun c_7 => ?_)
      refine lv_iload_n hx hb dX0_sum_10 rfl (lv_at hl 1 rfl) ?_
      refine lv_aload_n hx hb dX0_sum_11 rfl (lv_at hl 0 rfl) ?_
      refine va_get (ci := 0) (v := .ref a0) (C := RX0) (T := TX0) (N := 13) hx hb hts inX0_sum hown hK hP 0 rfl rfl 0 (by decide) (hts _ flX0_sum_9) (fun _ h9 => h9) rfl dX0_sum_12 ?_
      refine lv_iload_n hx hb dX0_sum_15 rfl (lv_at hl 2 rfl) ?_
      refine n_iald hx hb hK hP 1 0 rfl rfl i (by omega) (by omega) dX0_sum_16 ?_
      refine lv_iload_n hx hb dX0_sum_17 rfl (lv_at hl 2 rfl) ?_
      refine lv_iconst (v := (nI 1)) hx hb dX0_sum_18 (by decide) ?_
      refine n_iadd hx hb dX0_sum_19 ?_
      refine lv_imul hx hb dX0_sum_20 ?_
      refine lv_iadd hx hb dX0_sum_21 ?_
      refine lv_istore_n (lv' := [(1, .int ((sp_sum bf i) + ((bf i) * (nI (i + 1))))), (0, .ref h0), (2, .int (nI i))]) hx hb dX0_sum_22 rfl hl (by decide) rfl (fun ls hl => ?_)
      refine n_iinc (lv' := [(2, .int (nI (i + 1))), (1, .int ((sp_sum bf i) + ((bf i) * (nI (i + 1))))), (0, .ref h0)]) hx hb dX0_sum_23 hl (k := 2) rfl (by decide) rfl (fun ls hl => ?_)
      refine lv_goto (tgt := 4) hx hb dX0_sum_26 (by decide) ?_
      have hP : va_P D vwCl (wC h0 a0 a1 a2 a3 a4 a5 cI cZ bf pw hs lo lg rt nb (nI fi) (nI fo) (nI en) on cu ma) H := by skip; exact hP
      have hD : va_D A (wC h0 a0 a1 a2 a3 a4 a5 cI cZ bf pw hs lo lg rt nb (nI fi) (nI fo) (nI en) on cu ma) := by skip; exact hD
      exact ih (i + 1) (by omega) _ _ _ hP hD hS (lv_sub hl [2, 1, 0] rfl)
  have hP : va_P D vwCl (wC h0 a0 a1 a2 a3 a4 a5 cI cZ bf pw hs lo lg rt nb (nI fi) (nI fo) (nI en) on cu ma) s.heap := by skip; exact hP
  have hD : va_D A (wC h0 a0 a1 a2 a3 a4 a5 cI cZ bf pw hs lo lg rt nb (nI fi) (nI fo) (nI en) on cu ma) := by skip; exact hD
  exact lp_4 64 0 (by omega) _ _ _ hP hD hS (lv_sub hl [2, 1, 0] rfl)
set_option maxHeartbeats 4000000 in
set_option maxRecDepth 100000 in
theorem tX0_write_xb {l : Launch} {D : va_G} {cI cZ : ClassId} {h0 a0 a1 a2 a3 a4 a5 : Nat} (hl0 : l.stackTraces = false) (bf pw hs lo lg rt : Nat → Int32) (nb : Int32) (fi fo en : Nat) (cu ma : Int32) (x y : Int32) (h : badP x y) : RX l yX0_write wsX0_write 8 D (tyC cI cZ) (wC h0 a0 a1 a2 a3 a4 a5 cI cZ bf pw hs lo lg rt nb (nI fi) (nI fo) (nI en) 1 cu ma) [.ref h0, .int x, .int y] xIOB := by
  refine st_X (cc := cX0_write) (maxL := 3) (ret := (some .int)) (by decide +kernel) rfl (Nat.le_of_ble_eq_true rfl) ?_
  intro p e s m below meth c A hx hb hr hts hown hml hlocks hK hP hD hA hS ls hl hT hex
  have hown : s.vm.findClass RX0 = some m.cls := hown
  have hl : lv_has ls 3 [(0, .ref h0), (1, .int x), (2, .int y)] := hl
  refine lv_aload_n hx hb dX0_write_0 rfl (lv_at hl 0 rfl) ?_
  refine k_V (wr := []) hP hD hS hA (va_runV (As := []) (rest := []) ⟨hx, hb, hml, hown, hts⟩ ((tX0_needPower_ok bf pw hs lo lg rt nb fi fo en cu ma) _) (cwV 0 hts gX0_write_X0_needPower rfl rfl rfl (by decide +kernel) ⟨Nat.le_of_ble_eq_true rfl, Nat.le_of_ble_eq_true rfl⟩) (pV_B hP hD hK (ci := 0) (q0 := 0) rfl rfl rfl [0, 1] rfl [0, 1, 2, 3, 4, 5, 6] rfl rfl) rfl rfl hl.1 rfl (lv_room (Nat.le_of_ble_eq_true rfl)) dX0_write_1 ⟨Nat.le_of_ble_eq_true rfl, Nat.le_of_ble_eq_true rfl⟩) [0, 1, 2, 3, 4, 5, 6] [] rfl rfl rfl (by decide) (fun H locs hP hD hS => ?_)
  have hP : va_P D vwCl (wC h0 a0 a1 a2 a3 a4 a5 cI cZ bf pw hs lo lg rt nb (nI fi) (nI fo) (nI en) 1 cu ma) H := hP
  have hD : va_D A (wC h0 a0 a1 a2 a3 a4 a5 cI cZ bf pw hs lo lg rt nb (nI fi) (nI fo) (nI en) 1 cu ma) := hD
  refine lv_aload_n hx hb dX0_write_4 rfl (lv_at hl 0 rfl) ?_
  refine lv_iload_n hx hb dX0_write_5 rfl (lv_at hl 1 rfl) ?_
  refine lv_iload_n hx hb dX0_write_6 rfl (lv_at hl 2 rfl) ?_
  rcases h with h | ⟨ar, h1, rfl, h⟩
  · exact k_XX hlocks hex (Nat.le_of_ble_eq_true rfl) (Nat.le_of_ble_eq_true rfl) (wr := []) hP hD hS hA (vx_runV (As := [.int x, .int y]) (rest := []) ⟨hx, hb, hml, hown, hts⟩ ((tX0_needPage_x1 hl0 bf pw hs lo lg rt nb fi fo en 1 cu ma x y h) _) (cwV 2 hts gX0_write_X0_needPage rfl rfl rfl (by decide +kernel) ⟨Nat.le_of_ble_eq_true rfl, Nat.le_of_ble_eq_true rfl⟩) (pV_X hP hD hK hS hA hT (ci := 0) (q0 := 0) rfl rfl rfl [0, 1] rfl [0, 1, 2, 3, 4, 5, 6] rfl rfl) rfl rfl hl.1 rfl (lv_room (Nat.le_of_ble_eq_true rfl)) dX0_write_7 ⟨Nat.le_of_ble_eq_true rfl, Nat.le_of_ble_eq_true rfl⟩) [0, 1, 2, 3, 4, 5, 6] [] rfl rfl rfl (by decide)
  · exact k_XX hlocks hex (Nat.le_of_ble_eq_true rfl) (Nat.le_of_ble_eq_true rfl) (wr := []) hP hD hS hA (vx_runV (As := [.int (nI ar), .int y]) (rest := []) ⟨hx, hb, hml, hown, hts⟩ ((tX0_needPage_x2 hl0 bf pw hs lo lg rt nb fi fo en 1 cu ma ar y h1 h) _) (cwV 2 hts gX0_write_X0_needPage rfl rfl rfl (by decide +kernel) ⟨Nat.le_of_ble_eq_true rfl, Nat.le_of_ble_eq_true rfl⟩) (pV_X hP hD hK hS hA hT (ci := 0) (q0 := 0) rfl rfl rfl [0, 1] rfl [0, 1, 2, 3, 4, 5, 6] rfl rfl) rfl rfl hl.1 rfl (lv_room (Nat.le_of_ble_eq_true rfl)) dX0_write_7 ⟨Nat.le_of_ble_eq_true rfl, Nat.le_of_ble_eq_true rfl⟩) [0, 1, 2, 3, 4, 5, 6] [] rfl rfl rfl (by decide)
set_option maxHeartbeats 4000000 in
set_option maxRecDepth 100000 in
theorem tX0_read_xb {l : Launch} {D : va_G} {cI cZ : ClassId} {h0 a0 a1 a2 a3 a4 a5 : Nat} (hl0 : l.stackTraces = false) (bf pw hs lo lg rt : Nat → Int32) (nb : Int32) (fi fo en : Nat) (cu ma : Int32) (x y : Int32) (h : badP x y) : RX l yX0_read wsX0_read 8 D (tyC cI cZ) (wC h0 a0 a1 a2 a3 a4 a5 cI cZ bf pw hs lo lg rt nb (nI fi) (nI fo) (nI en) 1 cu ma) [.ref h0, .int x, .int y] xIOB := by
  refine st_X (cc := cX0_read) (maxL := 5) (ret := (some .int)) (by decide +kernel) rfl (Nat.le_of_ble_eq_true rfl) ?_
  intro p e s m below meth c A hx hb hr hts hown hml hlocks hK hP hD hA hS ls hl hT hex
  have hown : s.vm.findClass RX0 = some m.cls := hown
  have hl : lv_has ls 5 [(0, .ref h0), (1, .int x), (2, .int y)] := hl
  refine lv_aload_n hx hb dX0_read_0 rfl (lv_at hl 0 rfl) ?_
  refine k_V (wr := []) hP hD hS hA (va_runV (As := []) (rest := []) ⟨hx, hb, hml, hown, hts⟩ ((tX0_needPower_ok bf pw hs lo lg rt nb fi fo en cu ma) _) (cwV 0 hts gX0_read_X0_needPower rfl rfl rfl (by decide +kernel) ⟨Nat.le_of_ble_eq_true rfl, Nat.le_of_ble_eq_true rfl⟩) (pV_B hP hD hK (ci := 0) (q0 := 0) rfl rfl rfl [0, 1] rfl [0, 1, 2, 3, 4, 5, 6] rfl rfl) rfl rfl hl.1 rfl (lv_room (Nat.le_of_ble_eq_true rfl)) dX0_read_1 ⟨Nat.le_of_ble_eq_true rfl, Nat.le_of_ble_eq_true rfl⟩) [0, 1, 2, 3, 4, 5, 6] [] rfl rfl rfl (by decide) (fun H locs hP hD hS => ?_)
  have hP : va_P D vwCl (wC h0 a0 a1 a2 a3 a4 a5 cI cZ bf pw hs lo lg rt nb (nI fi) (nI fo) (nI en) 1 cu ma) H := hP
  have hD : va_D A (wC h0 a0 a1 a2 a3 a4 a5 cI cZ bf pw hs lo lg rt nb (nI fi) (nI fo) (nI en) 1 cu ma) := hD
  refine lv_aload_n hx hb dX0_read_4 rfl (lv_at hl 0 rfl) ?_
  refine lv_iload_n hx hb dX0_read_5 rfl (lv_at hl 1 rfl) ?_
  refine lv_iload_n hx hb dX0_read_6 rfl (lv_at hl 2 rfl) ?_
  rcases h with h | ⟨ar, h1, rfl, h⟩
  · exact k_XX hlocks hex (Nat.le_of_ble_eq_true rfl) (Nat.le_of_ble_eq_true rfl) (wr := []) hP hD hS hA (vx_runV (As := [.int x, .int y]) (rest := []) ⟨hx, hb, hml, hown, hts⟩ ((tX0_needPage_x1 hl0 bf pw hs lo lg rt nb fi fo en 1 cu ma x y h) _) (cwV 2 hts gX0_read_X0_needPage rfl rfl rfl (by decide +kernel) ⟨Nat.le_of_ble_eq_true rfl, Nat.le_of_ble_eq_true rfl⟩) (pV_X hP hD hK hS hA hT (ci := 0) (q0 := 0) rfl rfl rfl [0, 1] rfl [0, 1, 2, 3, 4, 5, 6] rfl rfl) rfl rfl hl.1 rfl (lv_room (Nat.le_of_ble_eq_true rfl)) dX0_read_7 ⟨Nat.le_of_ble_eq_true rfl, Nat.le_of_ble_eq_true rfl⟩) [0, 1, 2, 3, 4, 5, 6] [] rfl rfl rfl (by decide)
  · exact k_XX hlocks hex (Nat.le_of_ble_eq_true rfl) (Nat.le_of_ble_eq_true rfl) (wr := []) hP hD hS hA (vx_runV (As := [.int (nI ar), .int y]) (rest := []) ⟨hx, hb, hml, hown, hts⟩ ((tX0_needPage_x2 hl0 bf pw hs lo lg rt nb fi fo en 1 cu ma ar y h1 h) _) (cwV 2 hts gX0_read_X0_needPage rfl rfl rfl (by decide +kernel) ⟨Nat.le_of_ble_eq_true rfl, Nat.le_of_ble_eq_true rfl⟩) (pV_X hP hD hK hS hA hT (ci := 0) (q0 := 0) rfl rfl rfl [0, 1] rfl [0, 1, 2, 3, 4, 5, 6] rfl rfl) rfl rfl hl.1 rfl (lv_room (Nat.le_of_ble_eq_true rfl)) dX0_read_7 ⟨Nat.le_of_ble_eq_true rfl, Nat.le_of_ble_eq_true rfl⟩) [0, 1, 2, 3, 4, 5, 6] [] rfl rfl rfl (by decide)
set_option maxHeartbeats 4000000 in
set_option maxRecDepth 100000 in
theorem tX0_copy_xb {l : Launch} {D : va_G} {cI cZ : ClassId} {h0 a0 a1 a2 a3 a4 a5 : Nat} (hl0 : l.stackTraces = false) (bf pw hs lo lg rt : Nat → Int32) (nb : Int32) (fi fo en : Nat) (cu ma : Int32) (x y : Int32) (h : badP x y) : RX l yX0_copy wsX0_copy 8 D (tyC cI cZ) (wC h0 a0 a1 a2 a3 a4 a5 cI cZ bf pw hs lo lg rt nb (nI fi) (nI fo) (nI en) 1 cu ma) [.ref h0, .int x, .int y] xIOB := by
  refine st_X (cc := cX0_copy) (maxL := 4) (ret := (some .int)) (by decide +kernel) rfl (Nat.le_of_ble_eq_true rfl) ?_
  intro p e s m below meth c A hx hb hr hts hown hml hlocks hK hP hD hA hS ls hl hT hex
  have hown : s.vm.findClass RX0 = some m.cls := hown
  have hl : lv_has ls 4 [(0, .ref h0), (1, .int x), (2, .int y)] := hl
  refine lv_aload_n hx hb dX0_copy_0 rfl (lv_at hl 0 rfl) ?_
  refine k_V (wr := []) hP hD hS hA (va_runV (As := []) (rest := []) ⟨hx, hb, hml, hown, hts⟩ ((tX0_needPower_ok bf pw hs lo lg rt nb fi fo en cu ma) _) (cwV 0 hts gX0_copy_X0_needPower rfl rfl rfl (by decide +kernel) ⟨Nat.le_of_ble_eq_true rfl, Nat.le_of_ble_eq_true rfl⟩) (pV_B hP hD hK (ci := 0) (q0 := 0) rfl rfl rfl [0, 1] rfl [0, 1, 2, 3, 4, 5, 6] rfl rfl) rfl rfl hl.1 rfl (lv_room (Nat.le_of_ble_eq_true rfl)) dX0_copy_1 ⟨Nat.le_of_ble_eq_true rfl, Nat.le_of_ble_eq_true rfl⟩) [0, 1, 2, 3, 4, 5, 6] [] rfl rfl rfl (by decide) (fun H locs hP hD hS => ?_)
  have hP : va_P D vwCl (wC h0 a0 a1 a2 a3 a4 a5 cI cZ bf pw hs lo lg rt nb (nI fi) (nI fo) (nI en) 1 cu ma) H := hP
  have hD : va_D A (wC h0 a0 a1 a2 a3 a4 a5 cI cZ bf pw hs lo lg rt nb (nI fi) (nI fo) (nI en) 1 cu ma) := hD
  refine lv_aload_n hx hb dX0_copy_4 rfl (lv_at hl 0 rfl) ?_
  refine lv_iload_n hx hb dX0_copy_5 rfl (lv_at hl 1 rfl) ?_
  refine lv_iload_n hx hb dX0_copy_6 rfl (lv_at hl 2 rfl) ?_
  rcases h with h | ⟨ar, h1, rfl, h⟩
  · exact k_XX hlocks hex (Nat.le_of_ble_eq_true rfl) (Nat.le_of_ble_eq_true rfl) (wr := []) hP hD hS hA (vx_runV (As := [.int x, .int y]) (rest := []) ⟨hx, hb, hml, hown, hts⟩ ((tX0_needPage_x1 hl0 bf pw hs lo lg rt nb fi fo en 1 cu ma x y h) _) (cwV 2 hts gX0_copy_X0_needPage rfl rfl rfl (by decide +kernel) ⟨Nat.le_of_ble_eq_true rfl, Nat.le_of_ble_eq_true rfl⟩) (pV_X hP hD hK hS hA hT (ci := 0) (q0 := 0) rfl rfl rfl [0, 1] rfl [0, 1, 2, 3, 4, 5, 6] rfl rfl) rfl rfl hl.1 rfl (lv_room (Nat.le_of_ble_eq_true rfl)) dX0_copy_7 ⟨Nat.le_of_ble_eq_true rfl, Nat.le_of_ble_eq_true rfl⟩) [0, 1, 2, 3, 4, 5, 6] [] rfl rfl rfl (by decide)
  · exact k_XX hlocks hex (Nat.le_of_ble_eq_true rfl) (Nat.le_of_ble_eq_true rfl) (wr := []) hP hD hS hA (vx_runV (As := [.int (nI ar), .int y]) (rest := []) ⟨hx, hb, hml, hown, hts⟩ ((tX0_needPage_x2 hl0 bf pw hs lo lg rt nb fi fo en 1 cu ma ar y h1 h) _) (cwV 2 hts gX0_copy_X0_needPage rfl rfl rfl (by decide +kernel) ⟨Nat.le_of_ble_eq_true rfl, Nat.le_of_ble_eq_true rfl⟩) (pV_X hP hD hK hS hA hT (ci := 0) (q0 := 0) rfl rfl rfl [0, 1] rfl [0, 1, 2, 3, 4, 5, 6] rfl rfl) rfl rfl hl.1 rfl (lv_room (Nat.le_of_ble_eq_true rfl)) dX0_copy_7 ⟨Nat.le_of_ble_eq_true rfl, Nat.le_of_ble_eq_true rfl⟩) [0, 1, 2, 3, 4, 5, 6] [] rfl rfl rfl (by decide)
set_option maxHeartbeats 4000000 in
set_option maxRecDepth 100000 in
theorem tX0_lose_xb {l : Launch} {D : va_G} {cI cZ : ClassId} {h0 a0 a1 a2 a3 a4 a5 : Nat} (hl0 : l.stackTraces = false) (bf pw hs lo lg rt : Nat → Int32) (nb : Int32) (fi fo en : Nat) (on cu ma : Int32) (x y : Int32) (h : badP x y) : RX l yX0_lose wsX0_lose 8 D (tyC cI cZ) (wC h0 a0 a1 a2 a3 a4 a5 cI cZ bf pw hs lo lg rt nb (nI fi) (nI fo) (nI en) on cu ma) [.ref h0, .int x, .int y] xIOB := by
  refine st_X (cc := cX0_lose) (maxL := 3) (ret := none) (by decide +kernel) rfl (Nat.le_of_ble_eq_true rfl) ?_
  intro p e s m below meth c A hx hb hr hts hown hml hlocks hK hP hD hA hS ls hl hT hex
  have hown : s.vm.findClass RX0 = some m.cls := hown
  have hl : lv_has ls 3 [(0, .ref h0), (1, .int x), (2, .int y)] := hl
  refine lv_aload_n hx hb dX0_lose_0 rfl (lv_at hl 0 rfl) ?_
  refine lv_iload_n hx hb dX0_lose_1 rfl (lv_at hl 1 rfl) ?_
  refine lv_iload_n hx hb dX0_lose_2 rfl (lv_at hl 2 rfl) ?_
  rcases h with h | ⟨ar, h1, rfl, h⟩
  · exact k_XX hlocks hex (Nat.le_of_ble_eq_true rfl) (Nat.le_of_ble_eq_true rfl) (wr := []) hP hD hS hA (vx_runV (As := [.int x, .int y]) (rest := []) ⟨hx, hb, hml, hown, hts⟩ ((tX0_needPage_x1 hl0 bf pw hs lo lg rt nb fi fo en on cu ma x y h) _) (cwV 2 hts gX0_lose_X0_needPage rfl rfl rfl (by decide +kernel) ⟨Nat.le_of_ble_eq_true rfl, Nat.le_of_ble_eq_true rfl⟩) (pV_X hP hD hK hS hA hT (ci := 0) (q0 := 0) rfl rfl rfl [0, 1] rfl [0, 1, 2, 3, 4, 5, 6] rfl rfl) rfl rfl hl.1 rfl (lv_room (Nat.le_of_ble_eq_true rfl)) dX0_lose_3 ⟨Nat.le_of_ble_eq_true rfl, Nat.le_of_ble_eq_true rfl⟩) [0, 1, 2, 3, 4, 5, 6] [] rfl rfl rfl (by decide)
  · exact k_XX hlocks hex (Nat.le_of_ble_eq_true rfl) (Nat.le_of_ble_eq_true rfl) (wr := []) hP hD hS hA (vx_runV (As := [.int (nI ar), .int y]) (rest := []) ⟨hx, hb, hml, hown, hts⟩ ((tX0_needPage_x2 hl0 bf pw hs lo lg rt nb fi fo en on cu ma ar y h1 h) _) (cwV 2 hts gX0_lose_X0_needPage rfl rfl rfl (by decide +kernel) ⟨Nat.le_of_ble_eq_true rfl, Nat.le_of_ble_eq_true rfl⟩) (pV_X hP hD hK hS hA hT (ci := 0) (q0 := 0) rfl rfl rfl [0, 1] rfl [0, 1, 2, 3, 4, 5, 6] rfl rfl) rfl rfl hl.1 rfl (lv_room (Nat.le_of_ble_eq_true rfl)) dX0_lose_3 ⟨Nat.le_of_ble_eq_true rfl, Nat.le_of_ble_eq_true rfl⟩) [0, 1, 2, 3, 4, 5, 6] [] rfl rfl rfl (by decide)
set_option maxHeartbeats 4000000 in
set_option maxRecDepth 100000 in
theorem tX0_write_ok0 {l : Launch} {D : va_G} {cI cZ : ClassId} {h0 a0 a1 a2 a3 a4 a5 : Nat} (bf pw hs lo lg rt : Nat → Int32) (nb : Int32) (fi fo en : Nat) (cu ma : Int32) (ar pg : Nat) (h1 : ar < 2) (h2 : pg < 256) (h : cu = 0) : RI l yX0_write wsX0_write 8 0 0 D (tyC cI cZ) (wC h0 a0 a1 a2 a3 a4 a5 cI cZ bf pw hs lo lg rt nb (nI fi) (nI fo) (nI en) 1 cu ma) [.ref h0, .int (nI ar), .int (nI pg)] (-1) (wC h0 a0 a1 a2 a3 a4 a5 cI cZ (zf bf) pw hs lo lg rt (nb + 1) (nI fi) (nI fo) (nI fo) 0 cu ma) := by
  refine st_I (cc := cX0_write) (maxL := 3) (ret := (some .int)) (by decide +kernel) rfl (Nat.le_of_ble_eq_true rfl) ?_
  intro p e s m below meth c A hx hb hr hts hown hml hlocks hK hP hD hA hS ls hl
  have hown : s.vm.findClass RX0 = some m.cls := hown
  have hl : lv_has ls 3 [(0, .ref h0), (1, .int (nI ar)), (2, .int (nI pg))] := hl
  refine lv_aload_n hx hb dX0_write_0 rfl (lv_at hl 0 rfl) ?_
  refine k_V (wr := []) hP hD hS hA (va_runV (As := []) (rest := []) ⟨hx, hb, hml, hown, hts⟩ ((tX0_needPower_ok bf pw hs lo lg rt nb fi fo en cu ma) _) (cwV 0 hts gX0_write_X0_needPower rfl rfl rfl (by decide +kernel) ⟨Nat.le_of_ble_eq_true rfl, Nat.le_of_ble_eq_true rfl⟩) (pV_B hP hD hK (ci := 0) (q0 := 0) rfl rfl rfl [0, 1] rfl [0, 1, 2, 3, 4, 5, 6] rfl rfl) rfl rfl hl.1 rfl (lv_room (Nat.le_of_ble_eq_true rfl)) dX0_write_1 ⟨Nat.le_of_ble_eq_true rfl, Nat.le_of_ble_eq_true rfl⟩) [0, 1, 2, 3, 4, 5, 6] [] rfl rfl rfl (by decide) (fun H locs hP hD hS => ?_)
  have hP : va_P D vwCl (wC h0 a0 a1 a2 a3 a4 a5 cI cZ bf pw hs lo lg rt nb (nI fi) (nI fo) (nI en) 1 cu ma) H := hP
  have hD : va_D A (wC h0 a0 a1 a2 a3 a4 a5 cI cZ bf pw hs lo lg rt nb (nI fi) (nI fo) (nI en) 1 cu ma) := hD
  refine lv_aload_n hx hb dX0_write_4 rfl (lv_at hl 0 rfl) ?_
  refine lv_iload_n hx hb dX0_write_5 rfl (lv_at hl 1 rfl) ?_
  refine lv_iload_n hx hb dX0_write_6 rfl (lv_at hl 2 rfl) ?_
  refine k_V (wr := []) hP hD hS hA (va_runV (As := [.int (nI ar), .int (nI pg)]) (rest := []) ⟨hx, hb, hml, hown, hts⟩ ((tX0_needPage_ok bf pw hs lo lg rt nb fi fo en 1 cu ma ar pg (by omega) (by omega)) _) (cwV 2 hts gX0_write_X0_needPage rfl rfl rfl (by decide +kernel) ⟨Nat.le_of_ble_eq_true rfl, Nat.le_of_ble_eq_true rfl⟩) (pV_B hP hD hK (ci := 0) (q0 := 0) rfl rfl rfl [0, 1] rfl [0, 1, 2, 3, 4, 5, 6] rfl rfl) rfl rfl hl.1 rfl (lv_room (Nat.le_of_ble_eq_true rfl)) dX0_write_7 ⟨Nat.le_of_ble_eq_true rfl, Nat.le_of_ble_eq_true rfl⟩) [0, 1, 2, 3, 4, 5, 6] [] rfl rfl rfl (by decide) (fun H locs hP hD hS => ?_)
  have hP : va_P D vwCl (wC h0 a0 a1 a2 a3 a4 a5 cI cZ bf pw hs lo lg rt nb (nI fi) (nI fo) (nI en) 1 cu ma) H := hP
  have hD : va_D A (wC h0 a0 a1 a2 a3 a4 a5 cI cZ bf pw hs lo lg rt nb (nI fi) (nI fo) (nI en) 1 cu ma) := hD
  refine lv_aload_n hx hb dX0_write_10 rfl (lv_at hl 0 rfl) ?_
  refine lv_iload_n hx hb dX0_write_11 rfl (lv_at hl 1 rfl) ?_
  refine lv_iload_n hx hb dX0_write_12 rfl (lv_at hl 2 rfl) ?_
  refine k_I (wr := wC h0 a0 a1 a2 a3 a4 a5 cI cZ bf pw hs lo lg rt nb (nI fi) (nI fo) (nI en) 1 cu ma) hP hD hS hA (va_runS (As := [.int (nI ar), .int (nI pg)]) (rest := [.ref h0]) ⟨hx, hb, hml, hown, hts⟩ ((tX0_pageIndex ar pg) _) (va_cwS 2 hts gX0_write_X0_pageIndex rfl rfl rfl (by decide +kernel) ⟨Nat.le_of_ble_eq_true rfl, Nat.le_of_ble_eq_true rfl⟩) (pS_B hP hD hK [] rfl [] rfl rfl) rfl rfl hl.1 rfl (lv_room (Nat.le_of_ble_eq_true rfl)) dX0_write_13 ⟨Nat.le_of_ble_eq_true rfl, Nat.le_of_ble_eq_true rfl⟩) [] [0, 1, 2, 3, 4, 5, 6] rfl rfl rfl (by decide) (fun H locs hP hD hS => ?_)
  have hP : va_P D vwCl (wC h0 a0 a1 a2 a3 a4 a5 cI cZ bf pw hs lo lg rt nb (nI fi) (nI fo) (nI en) 1 cu ma) H := hP
  have hD : va_D A (wC h0 a0 a1 a2 a3 a4 a5 cI cZ bf pw hs lo lg rt nb (nI fi) (nI fo) (nI en) 1 cu ma) := hD
  refine lv_aload_n hx hb dX0_write_16 rfl (lv_at hl 0 rfl) ?_
  refine va_get (ci := 0) (v := .ref a0) (C := RX0) (T := TX0) (N := 13) hx hb hts inX0_write hown hK hP 0 rfl rfl 0 (by decide) (hts _ flX0_write_9) (fun _ h9 => h9) rfl dX0_write_17 ?_
  refine lv_iconst (v := (nI 0)) hx hb dX0_write_20 (by decide) ?_
  refine k_I (wr := []) hP hD hS hA (va_runV (As := [.int (nI (ar * 256 + pg)), .ref a0, .int (nI 0)]) (rest := []) ⟨hx, hb, hml, hown, hts⟩ ((tX0_writePage_b0 bf pw hs lo lg rt nb fi fo en 1 cu ma (ar * 256 + pg) (by omega) h) _) (cwV 3 hts gX0_write_X0_writePage rfl rfl rfl (by decide +kernel) ⟨Nat.le_of_ble_eq_true rfl, Nat.le_of_ble_eq_true rfl⟩) (pV_B hP hD hK (ci := 0) (q0 := 0) rfl rfl rfl [0, 1] rfl [0, 1, 2, 3, 4, 5, 6] rfl rfl) rfl rfl hl.1 rfl (lv_room (Nat.le_of_ble_eq_true rfl)) dX0_write_21 ⟨Nat.le_of_ble_eq_true rfl, Nat.le_of_ble_eq_true rfl⟩) [0, 1, 2, 3, 4, 5, 6] [] rfl rfl rfl (by decide) (fun H locs hP hD hS => ?_)
  have hP : va_P D vwCl (wC h0 a0 a1 a2 a3 a4 a5 cI cZ (zf bf) pw hs lo lg rt (nb + 1) (nI fi) (nI fo) (nI fo) 0 cu ma) H := hP
  have hD : va_D A (wC h0 a0 a1 a2 a3 a4 a5 cI cZ (zf bf) pw hs lo lg rt (nb + 1) (nI fi) (nI fo) (nI fo) 0 cu ma) := hD
  exact e_I hx hb hr hlocks hP hD hS rfl dX0_write_24
set_option maxHeartbeats 4000000 in
set_option maxRecDepth 100000 in
theorem tX0_write_ok1 {l : Launch} {D : va_G} {cI cZ : ClassId} {h0 a0 a1 a2 a3 a4 a5 : Nat} (bf pw hs lo lg rt : Nat → Int32) (nb : Int32) (fi fo en : Nat) (cu ma : Int32) (ar pg : Nat) (h1 : ar < 2) (h2 : pg < 256) (h : ¬ cu = 0) (hd : dcu cu = 0) : RI l yX0_write wsX0_write 8 0 0 D (tyC cI cZ) (wC h0 a0 a1 a2 a3 a4 a5 cI cZ bf pw hs lo lg rt nb (nI fi) (nI fo) (nI en) 1 cu ma) [.ref h0, .int (nI ar), .int (nI pg)] (-1) (wC h0 a0 a1 a2 a3 a4 a5 cI cZ (zf bf) (va_cpy bf pw 0 ((ar * 256 + pg) * 64) 32) (upd hs ((ar * 256 + pg) * 2) (nb + 1)) lo lg rt (nb + 1) (nI fi) (nI fo) (nI fo) 0 (dcu cu) (ma + 1)) := by
  refine st_I (cc := cX0_write) (maxL := 3) (ret := (some .int)) (by decide +kernel) rfl (Nat.le_of_ble_eq_true rfl) ?_
  intro p e s m below meth c A hx hb hr hts hown hml hlocks hK hP hD hA hS ls hl
  have hown : s.vm.findClass RX0 = some m.cls := hown
  have hl : lv_has ls 3 [(0, .ref h0), (1, .int (nI ar)), (2, .int (nI pg))] := hl
  refine lv_aload_n hx hb dX0_write_0 rfl (lv_at hl 0 rfl) ?_
  refine k_V (wr := []) hP hD hS hA (va_runV (As := []) (rest := []) ⟨hx, hb, hml, hown, hts⟩ ((tX0_needPower_ok bf pw hs lo lg rt nb fi fo en cu ma) _) (cwV 0 hts gX0_write_X0_needPower rfl rfl rfl (by decide +kernel) ⟨Nat.le_of_ble_eq_true rfl, Nat.le_of_ble_eq_true rfl⟩) (pV_B hP hD hK (ci := 0) (q0 := 0) rfl rfl rfl [0, 1] rfl [0, 1, 2, 3, 4, 5, 6] rfl rfl) rfl rfl hl.1 rfl (lv_room (Nat.le_of_ble_eq_true rfl)) dX0_write_1 ⟨Nat.le_of_ble_eq_true rfl, Nat.le_of_ble_eq_true rfl⟩) [0, 1, 2, 3, 4, 5, 6] [] rfl rfl rfl (by decide) (fun H locs hP hD hS => ?_)
  have hP : va_P D vwCl (wC h0 a0 a1 a2 a3 a4 a5 cI cZ bf pw hs lo lg rt nb (nI fi) (nI fo) (nI en) 1 cu ma) H := hP
  have hD : va_D A (wC h0 a0 a1 a2 a3 a4 a5 cI cZ bf pw hs lo lg rt nb (nI fi) (nI fo) (nI en) 1 cu ma) := hD
  refine lv_aload_n hx hb dX0_write_4 rfl (lv_at hl 0 rfl) ?_
  refine lv_iload_n hx hb dX0_write_5 rfl (lv_at hl 1 rfl) ?_
  refine lv_iload_n hx hb dX0_write_6 rfl (lv_at hl 2 rfl) ?_
  refine k_V (wr := []) hP hD hS hA (va_runV (As := [.int (nI ar), .int (nI pg)]) (rest := []) ⟨hx, hb, hml, hown, hts⟩ ((tX0_needPage_ok bf pw hs lo lg rt nb fi fo en 1 cu ma ar pg (by omega) (by omega)) _) (cwV 2 hts gX0_write_X0_needPage rfl rfl rfl (by decide +kernel) ⟨Nat.le_of_ble_eq_true rfl, Nat.le_of_ble_eq_true rfl⟩) (pV_B hP hD hK (ci := 0) (q0 := 0) rfl rfl rfl [0, 1] rfl [0, 1, 2, 3, 4, 5, 6] rfl rfl) rfl rfl hl.1 rfl (lv_room (Nat.le_of_ble_eq_true rfl)) dX0_write_7 ⟨Nat.le_of_ble_eq_true rfl, Nat.le_of_ble_eq_true rfl⟩) [0, 1, 2, 3, 4, 5, 6] [] rfl rfl rfl (by decide) (fun H locs hP hD hS => ?_)
  have hP : va_P D vwCl (wC h0 a0 a1 a2 a3 a4 a5 cI cZ bf pw hs lo lg rt nb (nI fi) (nI fo) (nI en) 1 cu ma) H := hP
  have hD : va_D A (wC h0 a0 a1 a2 a3 a4 a5 cI cZ bf pw hs lo lg rt nb (nI fi) (nI fo) (nI en) 1 cu ma) := hD
  refine lv_aload_n hx hb dX0_write_10 rfl (lv_at hl 0 rfl) ?_
  refine lv_iload_n hx hb dX0_write_11 rfl (lv_at hl 1 rfl) ?_
  refine lv_iload_n hx hb dX0_write_12 rfl (lv_at hl 2 rfl) ?_
  refine k_I (wr := wC h0 a0 a1 a2 a3 a4 a5 cI cZ bf pw hs lo lg rt nb (nI fi) (nI fo) (nI en) 1 cu ma) hP hD hS hA (va_runS (As := [.int (nI ar), .int (nI pg)]) (rest := [.ref h0]) ⟨hx, hb, hml, hown, hts⟩ ((tX0_pageIndex ar pg) _) (va_cwS 2 hts gX0_write_X0_pageIndex rfl rfl rfl (by decide +kernel) ⟨Nat.le_of_ble_eq_true rfl, Nat.le_of_ble_eq_true rfl⟩) (pS_B hP hD hK [] rfl [] rfl rfl) rfl rfl hl.1 rfl (lv_room (Nat.le_of_ble_eq_true rfl)) dX0_write_13 ⟨Nat.le_of_ble_eq_true rfl, Nat.le_of_ble_eq_true rfl⟩) [] [0, 1, 2, 3, 4, 5, 6] rfl rfl rfl (by decide) (fun H locs hP hD hS => ?_)
  have hP : va_P D vwCl (wC h0 a0 a1 a2 a3 a4 a5 cI cZ bf pw hs lo lg rt nb (nI fi) (nI fo) (nI en) 1 cu ma) H := hP
  have hD : va_D A (wC h0 a0 a1 a2 a3 a4 a5 cI cZ bf pw hs lo lg rt nb (nI fi) (nI fo) (nI en) 1 cu ma) := hD
  refine lv_aload_n hx hb dX0_write_16 rfl (lv_at hl 0 rfl) ?_
  refine va_get (ci := 0) (v := .ref a0) (C := RX0) (T := TX0) (N := 13) hx hb hts inX0_write hown hK hP 0 rfl rfl 0 (by decide) (hts _ flX0_write_9) (fun _ h9 => h9) rfl dX0_write_17 ?_
  refine lv_iconst (v := (nI 0)) hx hb dX0_write_20 (by decide) ?_
  refine k_I (wr := []) hP hD hS hA (va_runV (As := [.int (nI (ar * 256 + pg)), .ref a0, .int (nI 0)]) (rest := []) ⟨hx, hb, hml, hown, hts⟩ ((tX0_writePage_b1 bf pw hs lo lg rt nb fi fo en 1 cu ma (ar * 256 + pg) (by omega) h hd) _) (cwV 3 hts gX0_write_X0_writePage rfl rfl rfl (by decide +kernel) ⟨Nat.le_of_ble_eq_true rfl, Nat.le_of_ble_eq_true rfl⟩) (pV_B hP hD hK (ci := 0) (q0 := 0) rfl rfl rfl [0, 1] rfl [0, 1, 2, 3, 4, 5, 6] rfl rfl) rfl rfl hl.1 rfl (lv_room (Nat.le_of_ble_eq_true rfl)) dX0_write_21 ⟨Nat.le_of_ble_eq_true rfl, Nat.le_of_ble_eq_true rfl⟩) [0, 1, 2, 3, 4, 5, 6] [] rfl rfl rfl (by decide) (fun H locs hP hD hS => ?_)
  have hP : va_P D vwCl (wC h0 a0 a1 a2 a3 a4 a5 cI cZ (zf bf) (va_cpy bf pw 0 ((ar * 256 + pg) * 64) 32) (upd hs ((ar * 256 + pg) * 2) (nb + 1)) lo lg rt (nb + 1) (nI fi) (nI fo) (nI fo) 0 (dcu cu) (ma + 1)) H := hP
  have hD : va_D A (wC h0 a0 a1 a2 a3 a4 a5 cI cZ (zf bf) (va_cpy bf pw 0 ((ar * 256 + pg) * 64) 32) (upd hs ((ar * 256 + pg) * 2) (nb + 1)) lo lg rt (nb + 1) (nI fi) (nI fo) (nI fo) 0 (dcu cu) (ma + 1)) := hD
  exact e_I hx hb hr hlocks hP hD hS rfl dX0_write_24
set_option maxHeartbeats 4000000 in
set_option maxRecDepth 100000 in
theorem tX0_write_ok2 {l : Launch} {D : va_G} {cI cZ : ClassId} {h0 a0 a1 a2 a3 a4 a5 : Nat} (bf pw hs lo lg rt : Nat → Int32) (nb : Int32) (fi fo en : Nat) (cu ma : Int32) (ar pg : Nat) (h1 : ar < 2) (h2 : pg < 256) (h : ¬ cu = 0) (hd : ¬ dcu cu = 0) : RI l yX0_write wsX0_write 8 0 0 D (tyC cI cZ) (wC h0 a0 a1 a2 a3 a4 a5 cI cZ bf pw hs lo lg rt nb (nI fi) (nI fo) (nI en) 1 cu ma) [.ref h0, .int (nI ar), .int (nI pg)] (nb + 1) (wC h0 a0 a1 a2 a3 a4 a5 cI cZ bf (va_cpy bf (va_cpy bf pw 0 ((ar * 256 + pg) * 64) 32) 32 ((ar * 256 + pg) * 64 + 32) 32) (upd (upd hs ((ar * 256 + pg) * 2) (nb + 1)) ((ar * 256 + pg) * 2 + 1) (nb + 1)) (upd lo (ar * 256 + pg) 0) lg rt (nb + 1) (nI fi) (nI fo) (nI en) 1 (dcu (dcu cu)) (ma + 1 + 1)) := by
  refine st_I (cc := cX0_write) (maxL := 3) (ret := (some .int)) (by decide +kernel) rfl (Nat.le_of_ble_eq_true rfl) ?_
  intro p e s m below meth c A hx hb hr hts hown hml hlocks hK hP hD hA hS ls hl
  have hown : s.vm.findClass RX0 = some m.cls := hown
  have hl : lv_has ls 3 [(0, .ref h0), (1, .int (nI ar)), (2, .int (nI pg))] := hl
  refine lv_aload_n hx hb dX0_write_0 rfl (lv_at hl 0 rfl) ?_
  refine k_V (wr := []) hP hD hS hA (va_runV (As := []) (rest := []) ⟨hx, hb, hml, hown, hts⟩ ((tX0_needPower_ok bf pw hs lo lg rt nb fi fo en cu ma) _) (cwV 0 hts gX0_write_X0_needPower rfl rfl rfl (by decide +kernel) ⟨Nat.le_of_ble_eq_true rfl, Nat.le_of_ble_eq_true rfl⟩) (pV_B hP hD hK (ci := 0) (q0 := 0) rfl rfl rfl [0, 1] rfl [0, 1, 2, 3, 4, 5, 6] rfl rfl) rfl rfl hl.1 rfl (lv_room (Nat.le_of_ble_eq_true rfl)) dX0_write_1 ⟨Nat.le_of_ble_eq_true rfl, Nat.le_of_ble_eq_true rfl⟩) [0, 1, 2, 3, 4, 5, 6] [] rfl rfl rfl (by decide) (fun H locs hP hD hS => ?_)
  have hP : va_P D vwCl (wC h0 a0 a1 a2 a3 a4 a5 cI cZ bf pw hs lo lg rt nb (nI fi) (nI fo) (nI en) 1 cu ma) H := hP
  have hD : va_D A (wC h0 a0 a1 a2 a3 a4 a5 cI cZ bf pw hs lo lg rt nb (nI fi) (nI fo) (nI en) 1 cu ma) := hD
  refine lv_aload_n hx hb dX0_write_4 rfl (lv_at hl 0 rfl) ?_
  refine lv_iload_n hx hb dX0_write_5 rfl (lv_at hl 1 rfl) ?_
  refine lv_iload_n hx hb dX0_write_6 rfl (lv_at hl 2 rfl) ?_
  refine k_V (wr := []) hP hD hS hA (va_runV (As := [.int (nI ar), .int (nI pg)]) (rest := []) ⟨hx, hb, hml, hown, hts⟩ ((tX0_needPage_ok bf pw hs lo lg rt nb fi fo en 1 cu ma ar pg (by omega) (by omega)) _) (cwV 2 hts gX0_write_X0_needPage rfl rfl rfl (by decide +kernel) ⟨Nat.le_of_ble_eq_true rfl, Nat.le_of_ble_eq_true rfl⟩) (pV_B hP hD hK (ci := 0) (q0 := 0) rfl rfl rfl [0, 1] rfl [0, 1, 2, 3, 4, 5, 6] rfl rfl) rfl rfl hl.1 rfl (lv_room (Nat.le_of_ble_eq_true rfl)) dX0_write_7 ⟨Nat.le_of_ble_eq_true rfl, Nat.le_of_ble_eq_true rfl⟩) [0, 1, 2, 3, 4, 5, 6] [] rfl rfl rfl (by decide) (fun H locs hP hD hS => ?_)
  have hP : va_P D vwCl (wC h0 a0 a1 a2 a3 a4 a5 cI cZ bf pw hs lo lg rt nb (nI fi) (nI fo) (nI en) 1 cu ma) H := hP
  have hD : va_D A (wC h0 a0 a1 a2 a3 a4 a5 cI cZ bf pw hs lo lg rt nb (nI fi) (nI fo) (nI en) 1 cu ma) := hD
  refine lv_aload_n hx hb dX0_write_10 rfl (lv_at hl 0 rfl) ?_
  refine lv_iload_n hx hb dX0_write_11 rfl (lv_at hl 1 rfl) ?_
  refine lv_iload_n hx hb dX0_write_12 rfl (lv_at hl 2 rfl) ?_
  refine k_I (wr := wC h0 a0 a1 a2 a3 a4 a5 cI cZ bf pw hs lo lg rt nb (nI fi) (nI fo) (nI en) 1 cu ma) hP hD hS hA (va_runS (As := [.int (nI ar), .int (nI pg)]) (rest := [.ref h0]) ⟨hx, hb, hml, hown, hts⟩ ((tX0_pageIndex ar pg) _) (va_cwS 2 hts gX0_write_X0_pageIndex rfl rfl rfl (by decide +kernel) ⟨Nat.le_of_ble_eq_true rfl, Nat.le_of_ble_eq_true rfl⟩) (pS_B hP hD hK [] rfl [] rfl rfl) rfl rfl hl.1 rfl (lv_room (Nat.le_of_ble_eq_true rfl)) dX0_write_13 ⟨Nat.le_of_ble_eq_true rfl, Nat.le_of_ble_eq_true rfl⟩) [] [0, 1, 2, 3, 4, 5, 6] rfl rfl rfl (by decide) (fun H locs hP hD hS => ?_)
  have hP : va_P D vwCl (wC h0 a0 a1 a2 a3 a4 a5 cI cZ bf pw hs lo lg rt nb (nI fi) (nI fo) (nI en) 1 cu ma) H := hP
  have hD : va_D A (wC h0 a0 a1 a2 a3 a4 a5 cI cZ bf pw hs lo lg rt nb (nI fi) (nI fo) (nI en) 1 cu ma) := hD
  refine lv_aload_n hx hb dX0_write_16 rfl (lv_at hl 0 rfl) ?_
  refine va_get (ci := 0) (v := .ref a0) (C := RX0) (T := TX0) (N := 13) hx hb hts inX0_write hown hK hP 0 rfl rfl 0 (by decide) (hts _ flX0_write_9) (fun _ h9 => h9) rfl dX0_write_17 ?_
  refine lv_iconst (v := (nI 0)) hx hb dX0_write_20 (by decide) ?_
  refine k_I (wr := []) hP hD hS hA (va_runV (As := [.int (nI (ar * 256 + pg)), .ref a0, .int (nI 0)]) (rest := []) ⟨hx, hb, hml, hown, hts⟩ ((tX0_writePage_b2 bf pw hs lo lg rt nb fi fo en 1 cu ma (ar * 256 + pg) (by omega) h hd) _) (cwV 3 hts gX0_write_X0_writePage rfl rfl rfl (by decide +kernel) ⟨Nat.le_of_ble_eq_true rfl, Nat.le_of_ble_eq_true rfl⟩) (pV_B hP hD hK (ci := 0) (q0 := 0) rfl rfl rfl [0, 1] rfl [0, 1, 2, 3, 4, 5, 6] rfl rfl) rfl rfl hl.1 rfl (lv_room (Nat.le_of_ble_eq_true rfl)) dX0_write_21 ⟨Nat.le_of_ble_eq_true rfl, Nat.le_of_ble_eq_true rfl⟩) [0, 1, 2, 3, 4, 5, 6] [] rfl rfl rfl (by decide) (fun H locs hP hD hS => ?_)
  have hP : va_P D vwCl (wC h0 a0 a1 a2 a3 a4 a5 cI cZ bf (va_cpy bf (va_cpy bf pw 0 ((ar * 256 + pg) * 64) 32) 32 ((ar * 256 + pg) * 64 + 32) 32) (upd (upd hs ((ar * 256 + pg) * 2) (nb + 1)) ((ar * 256 + pg) * 2 + 1) (nb + 1)) (upd lo (ar * 256 + pg) 0) lg rt (nb + 1) (nI fi) (nI fo) (nI en) 1 (dcu (dcu cu)) (ma + 1 + 1)) H := hP
  have hD : va_D A (wC h0 a0 a1 a2 a3 a4 a5 cI cZ bf (va_cpy bf (va_cpy bf pw 0 ((ar * 256 + pg) * 64) 32) 32 ((ar * 256 + pg) * 64 + 32) 32) (upd (upd hs ((ar * 256 + pg) * 2) (nb + 1)) ((ar * 256 + pg) * 2 + 1) (nb + 1)) (upd lo (ar * 256 + pg) 0) lg rt (nb + 1) (nI fi) (nI fo) (nI en) 1 (dcu (dcu cu)) (ma + 1 + 1)) := hD
  exact e_I hx hb hr hlocks hP hD hS rfl dX0_write_24
set_option maxHeartbeats 4000000 in
set_option maxRecDepth 100000 in
theorem tX0_read_okl {l : Launch} {D : va_G} {cI cZ : ClassId} {h0 a0 a1 a2 a3 a4 a5 : Nat} (bf pw hs lo lg rt : Nat → Int32) (nb : Int32) (fi fo en : Nat) (cu ma : Int32) (ar pg : Nat) (h1 : ar < 2) (h2 : pg < 256) (h : ¬ lo (ar * 256 + pg) = 0) : RI l yX0_read wsX0_read 8 0 0 D (tyC cI cZ) (wC h0 a0 a1 a2 a3 a4 a5 cI cZ bf pw hs lo lg rt nb (nI fi) (nI fo) (nI en) 1 cu ma) [.ref h0, .int (nI ar), .int (nI pg)] (sp_ps lo hs (ar * 256 + pg)) (wC h0 a0 a1 a2 a3 a4 a5 cI cZ (zf bf) pw hs lo lg rt nb (nI fi) (nI fo) (nI en) 1 cu ma) := by
  refine st_I (cc := cX0_read) (maxL := 5) (ret := (some .int)) (by decide +kernel) rfl (Nat.le_of_ble_eq_true rfl) ?_
  intro p e s m below meth c A hx hb hr hts hown hml hlocks hK hP hD hA hS ls hl
  have hown : s.vm.findClass RX0 = some m.cls := hown
  have hl : lv_has ls 5 [(0, .ref h0), (1, .int (nI ar)), (2, .int (nI pg))] := hl
  refine lv_aload_n hx hb dX0_read_0 rfl (lv_at hl 0 rfl) ?_
  refine k_V (wr := []) hP hD hS hA (va_runV (As := []) (rest := []) ⟨hx, hb, hml, hown, hts⟩ ((tX0_needPower_ok bf pw hs lo lg rt nb fi fo en cu ma) _) (cwV 0 hts gX0_read_X0_needPower rfl rfl rfl (by decide +kernel) ⟨Nat.le_of_ble_eq_true rfl, Nat.le_of_ble_eq_true rfl⟩) (pV_B hP hD hK (ci := 0) (q0 := 0) rfl rfl rfl [0, 1] rfl [0, 1, 2, 3, 4, 5, 6] rfl rfl) rfl rfl hl.1 rfl (lv_room (Nat.le_of_ble_eq_true rfl)) dX0_read_1 ⟨Nat.le_of_ble_eq_true rfl, Nat.le_of_ble_eq_true rfl⟩) [0, 1, 2, 3, 4, 5, 6] [] rfl rfl rfl (by decide) (fun H locs hP hD hS => ?_)
  have hP : va_P D vwCl (wC h0 a0 a1 a2 a3 a4 a5 cI cZ bf pw hs lo lg rt nb (nI fi) (nI fo) (nI en) 1 cu ma) H := hP
  have hD : va_D A (wC h0 a0 a1 a2 a3 a4 a5 cI cZ bf pw hs lo lg rt nb (nI fi) (nI fo) (nI en) 1 cu ma) := hD
  refine lv_aload_n hx hb dX0_read_4 rfl (lv_at hl 0 rfl) ?_
  refine lv_iload_n hx hb dX0_read_5 rfl (lv_at hl 1 rfl) ?_
  refine lv_iload_n hx hb dX0_read_6 rfl (lv_at hl 2 rfl) ?_
  refine k_V (wr := []) hP hD hS hA (va_runV (As := [.int (nI ar), .int (nI pg)]) (rest := []) ⟨hx, hb, hml, hown, hts⟩ ((tX0_needPage_ok bf pw hs lo lg rt nb fi fo en 1 cu ma ar pg (by omega) (by omega)) _) (cwV 2 hts gX0_read_X0_needPage rfl rfl rfl (by decide +kernel) ⟨Nat.le_of_ble_eq_true rfl, Nat.le_of_ble_eq_true rfl⟩) (pV_B hP hD hK (ci := 0) (q0 := 0) rfl rfl rfl [0, 1] rfl [0, 1, 2, 3, 4, 5, 6] rfl rfl) rfl rfl hl.1 rfl (lv_room (Nat.le_of_ble_eq_true rfl)) dX0_read_7 ⟨Nat.le_of_ble_eq_true rfl, Nat.le_of_ble_eq_true rfl⟩) [0, 1, 2, 3, 4, 5, 6] [] rfl rfl rfl (by decide) (fun H locs hP hD hS => ?_)
  have hP : va_P D vwCl (wC h0 a0 a1 a2 a3 a4 a5 cI cZ bf pw hs lo lg rt nb (nI fi) (nI fo) (nI en) 1 cu ma) H := hP
  have hD : va_D A (wC h0 a0 a1 a2 a3 a4 a5 cI cZ bf pw hs lo lg rt nb (nI fi) (nI fo) (nI en) 1 cu ma) := hD
  refine lv_iload_n hx hb dX0_read_10 rfl (lv_at hl 1 rfl) ?_
  refine lv_iload_n hx hb dX0_read_11 rfl (lv_at hl 2 rfl) ?_
  refine k_I (wr := wC h0 a0 a1 a2 a3 a4 a5 cI cZ bf pw hs lo lg rt nb (nI fi) (nI fo) (nI en) 1 cu ma) hP hD hS hA (va_runS (As := [.int (nI ar), .int (nI pg)]) (rest := []) ⟨hx, hb, hml, hown, hts⟩ ((tX0_pageIndex ar pg) _) (va_cwS 2 hts gX0_read_X0_pageIndex rfl rfl rfl (by decide +kernel) ⟨Nat.le_of_ble_eq_true rfl, Nat.le_of_ble_eq_true rfl⟩) (pS_B hP hD hK [] rfl [] rfl rfl) rfl rfl hl.1 rfl (lv_room (Nat.le_of_ble_eq_true rfl)) dX0_read_12 ⟨Nat.le_of_ble_eq_true rfl, Nat.le_of_ble_eq_true rfl⟩) [] [0, 1, 2, 3, 4, 5, 6] rfl rfl rfl (by decide) (fun H locs hP hD hS => ?_)
  have hP : va_P D vwCl (wC h0 a0 a1 a2 a3 a4 a5 cI cZ bf pw hs lo lg rt nb (nI fi) (nI fo) (nI en) 1 cu ma) H := hP
  have hD : va_D A (wC h0 a0 a1 a2 a3 a4 a5 cI cZ bf pw hs lo lg rt nb (nI fi) (nI fo) (nI en) 1 cu ma) := hD
  refine lv_istore_n (lv' := [(3, .int (nI (ar * 256 + pg))), (0, .ref h0), (1, .int (nI ar)), (2, .int (nI pg))]) hx hb dX0_read_15 rfl hl (by decide) rfl (fun ls hl => ?_)
  refine lv_aload_n hx hb dX0_read_16 rfl (lv_at hl 1 rfl) ?_
  refine lv_iload_n hx hb dX0_read_17 rfl (lv_at hl 0 rfl) ?_
  refine k_I (wr := []) hP hD hS hA (va_runV (As := [.int (nI (ar * 256 + pg))]) (rest := []) ⟨hx, hb, hml, hown, hts⟩ ((tX0_pageState bf pw hs lo lg rt nb fi fo en 1 cu ma (ar * 256 + pg) (by omega)) _) (cwV 1 hts gX0_read_X0_pageState rfl rfl rfl (by decide +kernel) ⟨Nat.le_of_ble_eq_true rfl, Nat.le_of_ble_eq_true rfl⟩) (pV_B hP hD hK (ci := 0) (q0 := 0) rfl rfl rfl [0, 1] rfl [0, 1, 2, 3, 4, 5, 6] rfl rfl) rfl rfl hl.1 rfl (lv_room (Nat.le_of_ble_eq_true rfl)) dX0_read_18 ⟨Nat.le_of_ble_eq_true rfl, Nat.le_of_ble_eq_true rfl⟩) [0, 1, 2, 3, 4, 5, 6] [] rfl rfl rfl (by decide) (fun H locs hP hD hS => ?_)
  have hP : va_P D vwCl (wC h0 a0 a1 a2 a3 a4 a5 cI cZ bf pw hs lo lg rt nb (nI fi) (nI fo) (nI en) 1 cu ma) H := hP
  have hD : va_D A (wC h0 a0 a1 a2 a3 a4 a5 cI cZ bf pw hs lo lg rt nb (nI fi) (nI fo) (nI en) 1 cu ma) := hD
  refine lv_istore (lv' := [(4, .int (sp_ps lo hs (ar * 256 + pg))), (3, .int (nI (ar * 256 + pg))), (0, .ref h0), (1, .int (nI ar)), (2, .int (nI pg))]) hx hb dX0_read_21 hl (by decide) rfl (fun ls hl => ?_)
  refine lv_iload hx hb dX0_read_23 (lv_at hl 0 rfl) ?_
  refine lv_iconst (v := (2)) hx hb dX0_read_25 (by decide) ?_
  refine lv_icmp_ne (tgt := 40) hx hb dX0_read_26 (by decide) (fun c_26 => absurd (by simp [sp_ps, h]) c_26) (fun c_26 => ?_)
  refine lv_aload_n hx hb dX0_read_29 rfl (lv_at hl 2 rfl) ?_
  refine va_get (ci := 0) (v := .ref a0) (C := RX0) (T := TX0) (N := 13) hx hb hts inX0_read hown hK hP 0 rfl rfl 0 (by decide) (hts _ flX0_read_9) (fun _ h9 => h9) rfl dX0_read_30 ?_
  refine lv_iconst (v := (0)) hx hb dX0_read_33 (by decide) ?_
  refine k_V (wr := List.eraseIdx (wC h0 a0 a1 a2 a3 a4 a5 cI cZ bf pw hs lo lg rt nb (nI fi) (nI fo) (nI en) 1 cu ma) 1) hP hD hS hA (va_runS (As := [.ref a0, .int 0]) (rest := []) ⟨hx, hb, hml, hown, hts⟩ (tJ7_fill 64 (by omega) bf 0 _) (va_cwS 2 hts gX0_read_J7_fill_53178 rfl rfl rfl (by decide +kernel) ⟨Nat.le_of_ble_eq_true rfl, Nat.le_of_ble_eq_true rfl⟩) (pS_B hP hD hK [0] rfl [1] rfl rfl) rfl rfl hl.1 rfl (lv_room (Nat.le_of_ble_eq_true rfl)) dX0_read_34 ⟨Nat.le_of_ble_eq_true rfl, Nat.le_of_ble_eq_true rfl⟩) [1] [0, 2, 3, 4, 5, 6] rfl rfl rfl (by decide) (fun H locs hP hD hS => ?_)
  have hP : va_P D vwCl (wC h0 a0 a1 a2 a3 a4 a5 cI cZ (zf bf) pw hs lo lg rt nb (nI fi) (nI fo) (nI en) 1 cu ma) H := hP.sub [0, 6, 1, 2, 3, 4, 5] rfl
  have hD : va_D A (wC h0 a0 a1 a2 a3 a4 a5 cI cZ (zf bf) pw hs lo lg rt nb (nI fi) (nI fo) (nI en) 1 cu ma) := hD.sub [0, 6, 1, 2, 3, 4, 5] (by decide) rfl
  refine lv_goto (tgt := 58) hx hb dX0_read_37 (by decide) ?_
  refine lv_iload hx hb dX0_read_58 (lv_at hl 0 rfl) ?_
  exact e_I hx hb hr hlocks hP hD hS rfl dX0_read_60
set_option maxHeartbeats 4000000 in
set_option maxRecDepth 100000 in
theorem tX0_read_okn {l : Launch} {D : va_G} {cI cZ : ClassId} {h0 a0 a1 a2 a3 a4 a5 : Nat} (bf pw hs lo lg rt : Nat → Int32) (nb : Int32) (fi fo en : Nat) (cu ma : Int32) (ar pg : Nat) (h1 : ar < 2) (h2 : pg < 256) (h : lo (ar * 256 + pg) = 0) : RI l yX0_read wsX0_read 8 0 0 D (tyC cI cZ) (wC h0 a0 a1 a2 a3 a4 a5 cI cZ bf pw hs lo lg rt nb (nI fi) (nI fo) (nI en) 1 cu ma) [.ref h0, .int (nI ar), .int (nI pg)] (sp_ps lo hs (ar * 256 + pg)) (wC h0 a0 a1 a2 a3 a4 a5 cI cZ (fl (fun j => pw ((ar * 256 + pg) * 64 + j)) 64 bf) pw hs lo lg rt nb (nI fi) (nI fo) (nI en) 1 cu ma) := by
  refine st_I (cc := cX0_read) (maxL := 5) (ret := (some .int)) (by decide +kernel) rfl (Nat.le_of_ble_eq_true rfl) ?_
  intro p e s m below meth c A hx hb hr hts hown hml hlocks hK hP hD hA hS ls hl
  have hown : s.vm.findClass RX0 = some m.cls := hown
  have hl : lv_has ls 5 [(0, .ref h0), (1, .int (nI ar)), (2, .int (nI pg))] := hl
  refine lv_aload_n hx hb dX0_read_0 rfl (lv_at hl 0 rfl) ?_
  refine k_V (wr := []) hP hD hS hA (va_runV (As := []) (rest := []) ⟨hx, hb, hml, hown, hts⟩ ((tX0_needPower_ok bf pw hs lo lg rt nb fi fo en cu ma) _) (cwV 0 hts gX0_read_X0_needPower rfl rfl rfl (by decide +kernel) ⟨Nat.le_of_ble_eq_true rfl, Nat.le_of_ble_eq_true rfl⟩) (pV_B hP hD hK (ci := 0) (q0 := 0) rfl rfl rfl [0, 1] rfl [0, 1, 2, 3, 4, 5, 6] rfl rfl) rfl rfl hl.1 rfl (lv_room (Nat.le_of_ble_eq_true rfl)) dX0_read_1 ⟨Nat.le_of_ble_eq_true rfl, Nat.le_of_ble_eq_true rfl⟩) [0, 1, 2, 3, 4, 5, 6] [] rfl rfl rfl (by decide) (fun H locs hP hD hS => ?_)
  have hP : va_P D vwCl (wC h0 a0 a1 a2 a3 a4 a5 cI cZ bf pw hs lo lg rt nb (nI fi) (nI fo) (nI en) 1 cu ma) H := hP
  have hD : va_D A (wC h0 a0 a1 a2 a3 a4 a5 cI cZ bf pw hs lo lg rt nb (nI fi) (nI fo) (nI en) 1 cu ma) := hD
  refine lv_aload_n hx hb dX0_read_4 rfl (lv_at hl 0 rfl) ?_
  refine lv_iload_n hx hb dX0_read_5 rfl (lv_at hl 1 rfl) ?_
  refine lv_iload_n hx hb dX0_read_6 rfl (lv_at hl 2 rfl) ?_
  refine k_V (wr := []) hP hD hS hA (va_runV (As := [.int (nI ar), .int (nI pg)]) (rest := []) ⟨hx, hb, hml, hown, hts⟩ ((tX0_needPage_ok bf pw hs lo lg rt nb fi fo en 1 cu ma ar pg (by omega) (by omega)) _) (cwV 2 hts gX0_read_X0_needPage rfl rfl rfl (by decide +kernel) ⟨Nat.le_of_ble_eq_true rfl, Nat.le_of_ble_eq_true rfl⟩) (pV_B hP hD hK (ci := 0) (q0 := 0) rfl rfl rfl [0, 1] rfl [0, 1, 2, 3, 4, 5, 6] rfl rfl) rfl rfl hl.1 rfl (lv_room (Nat.le_of_ble_eq_true rfl)) dX0_read_7 ⟨Nat.le_of_ble_eq_true rfl, Nat.le_of_ble_eq_true rfl⟩) [0, 1, 2, 3, 4, 5, 6] [] rfl rfl rfl (by decide) (fun H locs hP hD hS => ?_)
  have hP : va_P D vwCl (wC h0 a0 a1 a2 a3 a4 a5 cI cZ bf pw hs lo lg rt nb (nI fi) (nI fo) (nI en) 1 cu ma) H := hP
  have hD : va_D A (wC h0 a0 a1 a2 a3 a4 a5 cI cZ bf pw hs lo lg rt nb (nI fi) (nI fo) (nI en) 1 cu ma) := hD
  refine lv_iload_n hx hb dX0_read_10 rfl (lv_at hl 1 rfl) ?_
  refine lv_iload_n hx hb dX0_read_11 rfl (lv_at hl 2 rfl) ?_
  refine k_I (wr := wC h0 a0 a1 a2 a3 a4 a5 cI cZ bf pw hs lo lg rt nb (nI fi) (nI fo) (nI en) 1 cu ma) hP hD hS hA (va_runS (As := [.int (nI ar), .int (nI pg)]) (rest := []) ⟨hx, hb, hml, hown, hts⟩ ((tX0_pageIndex ar pg) _) (va_cwS 2 hts gX0_read_X0_pageIndex rfl rfl rfl (by decide +kernel) ⟨Nat.le_of_ble_eq_true rfl, Nat.le_of_ble_eq_true rfl⟩) (pS_B hP hD hK [] rfl [] rfl rfl) rfl rfl hl.1 rfl (lv_room (Nat.le_of_ble_eq_true rfl)) dX0_read_12 ⟨Nat.le_of_ble_eq_true rfl, Nat.le_of_ble_eq_true rfl⟩) [] [0, 1, 2, 3, 4, 5, 6] rfl rfl rfl (by decide) (fun H locs hP hD hS => ?_)
  have hP : va_P D vwCl (wC h0 a0 a1 a2 a3 a4 a5 cI cZ bf pw hs lo lg rt nb (nI fi) (nI fo) (nI en) 1 cu ma) H := hP
  have hD : va_D A (wC h0 a0 a1 a2 a3 a4 a5 cI cZ bf pw hs lo lg rt nb (nI fi) (nI fo) (nI en) 1 cu ma) := hD
  refine lv_istore_n (lv' := [(3, .int (nI (ar * 256 + pg))), (0, .ref h0), (1, .int (nI ar)), (2, .int (nI pg))]) hx hb dX0_read_15 rfl hl (by decide) rfl (fun ls hl => ?_)
  refine lv_aload_n hx hb dX0_read_16 rfl (lv_at hl 1 rfl) ?_
  refine lv_iload_n hx hb dX0_read_17 rfl (lv_at hl 0 rfl) ?_
  refine k_I (wr := []) hP hD hS hA (va_runV (As := [.int (nI (ar * 256 + pg))]) (rest := []) ⟨hx, hb, hml, hown, hts⟩ ((tX0_pageState bf pw hs lo lg rt nb fi fo en 1 cu ma (ar * 256 + pg) (by omega)) _) (cwV 1 hts gX0_read_X0_pageState rfl rfl rfl (by decide +kernel) ⟨Nat.le_of_ble_eq_true rfl, Nat.le_of_ble_eq_true rfl⟩) (pV_B hP hD hK (ci := 0) (q0 := 0) rfl rfl rfl [0, 1] rfl [0, 1, 2, 3, 4, 5, 6] rfl rfl) rfl rfl hl.1 rfl (lv_room (Nat.le_of_ble_eq_true rfl)) dX0_read_18 ⟨Nat.le_of_ble_eq_true rfl, Nat.le_of_ble_eq_true rfl⟩) [0, 1, 2, 3, 4, 5, 6] [] rfl rfl rfl (by decide) (fun H locs hP hD hS => ?_)
  have hP : va_P D vwCl (wC h0 a0 a1 a2 a3 a4 a5 cI cZ bf pw hs lo lg rt nb (nI fi) (nI fo) (nI en) 1 cu ma) H := hP
  have hD : va_D A (wC h0 a0 a1 a2 a3 a4 a5 cI cZ bf pw hs lo lg rt nb (nI fi) (nI fo) (nI en) 1 cu ma) := hD
  refine lv_istore (lv' := [(4, .int (sp_ps lo hs (ar * 256 + pg))), (3, .int (nI (ar * 256 + pg))), (0, .ref h0), (1, .int (nI ar)), (2, .int (nI pg))]) hx hb dX0_read_21 hl (by decide) rfl (fun ls hl => ?_)
  refine lv_iload hx hb dX0_read_23 (lv_at hl 0 rfl) ?_
  refine lv_iconst (v := (2)) hx hb dX0_read_25 (by decide) ?_
  refine lv_icmp_ne (tgt := 40) hx hb dX0_read_26 (by decide) (fun c_26 => ?_) (fun c_26 => absurd c_26 (sp_ps_n2 h))
  refine lv_aload_n hx hb dX0_read_40 rfl (lv_at hl 2 rfl) ?_
  refine va_get (ci := 0) (v := .ref a1) (C := RX0) (T := TX0) (N := 13) hx hb hts inX0_read hown hK hP 0 rfl rfl 1 (by decide) (hts _ flX0_read_14) (fun _ h9 => h9) rfl dX0_read_41 ?_
  refine lv_iload_n hx hb dX0_read_44 rfl (lv_at hl 1 rfl) ?_
  refine lv_bipush (v := (nI 64)) hx hb dX0_read_45 (by decide) ?_
  refine n_imul hx hb dX0_read_47 ?_
  refine lv_aload_n hx hb dX0_read_48 rfl (lv_at hl 2 rfl) ?_
  refine va_get (ci := 0) (v := .ref a0) (C := RX0) (T := TX0) (N := 13) hx hb hts inX0_read hown hK hP 0 rfl rfl 0 (by decide) (hts _ flX0_read_9) (fun _ h9 => h9) rfl dX0_read_49 ?_
  refine lv_iconst (v := (nI 0)) hx hb dX0_read_52 (by decide) ?_
  refine lv_bipush (v := (nI 64)) hx hb dX0_read_53 (by decide) ?_
  refine n_copyi hx hb hl.1 hml hown acX0_read hts hK hP hD hS 2 1 0 rfl rfl rfl ((ar * 256 + pg) * 64) 0 64 (by omega) (by omega) (by omega) (by omega) (by omega) (Nat.le_of_ble_eq_true rfl) (Nat.le_of_ble_eq_true rfl) dX0_read_55 (fun H locs hP hD hS => ?_)
  have hP : va_P D vwCl (wC h0 a0 a1 a2 a3 a4 a5 cI cZ (va_cpy pw bf ((ar * 256 + pg) * 64) 0 64) pw hs lo lg rt nb (nI fi) (nI fo) (nI en) 1 cu ma) H := hP
  have hD : va_D A (wC h0 a0 a1 a2 a3 a4 a5 cI cZ (va_cpy pw bf ((ar * 256 + pg) * 64) 0 64) pw hs lo lg rt nb (nI fi) (nI fo) (nI en) 1 cu ma) := hD
  have hP : va_P D vwCl (wC h0 a0 a1 a2 a3 a4 a5 cI cZ (fl (fun j => pw ((ar * 256 + pg) * 64 + j)) 64 bf) pw hs lo lg rt nb (nI fi) (nI fo) (nI en) 1 cu ma) H := by rw [← fl_cpy]; exact hP
  have hD : va_D A (wC h0 a0 a1 a2 a3 a4 a5 cI cZ (fl (fun j => pw ((ar * 256 + pg) * 64 + j)) 64 bf) pw hs lo lg rt nb (nI fi) (nI fo) (nI en) 1 cu ma) := by rw [← fl_cpy]; exact hD
  refine lv_iload hx hb dX0_read_58 (lv_at hl 0 rfl) ?_
  exact e_I hx hb hr hlocks hP hD hS rfl dX0_read_60
set_option maxHeartbeats 4000000 in
set_option maxRecDepth 100000 in
theorem tX0_copy_xt {l : Launch} {D : va_G} {cI cZ : ClassId} {h0 a0 a1 a2 a3 a4 a5 : Nat} (hl0 : l.stackTraces = false) (bf pw hs lo lg rt : Nat → Int32) (nb : Int32) (fi fo en : Nat) (cu ma : Int32) (ar pg : Nat) (h1 : ar < 2) (h2 : pg < 256) (h : ¬ sp_ps lo hs (ar * 256 + pg) = 0) : RX l yX0_copy wsX0_copy 8 D (tyC cI cZ) (wC h0 a0 a1 a2 a3 a4 a5 cI cZ bf pw hs lo lg rt nb (nI fi) (nI fo) (nI en) 1 cu ma) [.ref h0, .int (nI ar), .int (nI pg)] xISE := by
  refine st_X (cc := cX0_copy) (maxL := 4) (ret := (some .int)) (by decide +kernel) rfl (Nat.le_of_ble_eq_true rfl) ?_
  intro p e s m below meth c A hx hb hr hts hown hml hlocks hK hP hD hA hS ls hl hT hex
  have hown : s.vm.findClass RX0 = some m.cls := hown
  have hl : lv_has ls 4 [(0, .ref h0), (1, .int (nI ar)), (2, .int (nI pg))] := hl
  refine lv_aload_n hx hb dX0_copy_0 rfl (lv_at hl 0 rfl) ?_
  refine k_V (wr := []) hP hD hS hA (va_runV (As := []) (rest := []) ⟨hx, hb, hml, hown, hts⟩ ((tX0_needPower_ok bf pw hs lo lg rt nb fi fo en cu ma) _) (cwV 0 hts gX0_copy_X0_needPower rfl rfl rfl (by decide +kernel) ⟨Nat.le_of_ble_eq_true rfl, Nat.le_of_ble_eq_true rfl⟩) (pV_B hP hD hK (ci := 0) (q0 := 0) rfl rfl rfl [0, 1] rfl [0, 1, 2, 3, 4, 5, 6] rfl rfl) rfl rfl hl.1 rfl (lv_room (Nat.le_of_ble_eq_true rfl)) dX0_copy_1 ⟨Nat.le_of_ble_eq_true rfl, Nat.le_of_ble_eq_true rfl⟩) [0, 1, 2, 3, 4, 5, 6] [] rfl rfl rfl (by decide) (fun H locs hP hD hS => ?_)
  have hP : va_P D vwCl (wC h0 a0 a1 a2 a3 a4 a5 cI cZ bf pw hs lo lg rt nb (nI fi) (nI fo) (nI en) 1 cu ma) H := hP
  have hD : va_D A (wC h0 a0 a1 a2 a3 a4 a5 cI cZ bf pw hs lo lg rt nb (nI fi) (nI fo) (nI en) 1 cu ma) := hD
  refine lv_aload_n hx hb dX0_copy_4 rfl (lv_at hl 0 rfl) ?_
  refine lv_iload_n hx hb dX0_copy_5 rfl (lv_at hl 1 rfl) ?_
  refine lv_iload_n hx hb dX0_copy_6 rfl (lv_at hl 2 rfl) ?_
  refine k_V (wr := []) hP hD hS hA (va_runV (As := [.int (nI ar), .int (nI pg)]) (rest := []) ⟨hx, hb, hml, hown, hts⟩ ((tX0_needPage_ok bf pw hs lo lg rt nb fi fo en 1 cu ma ar pg (by omega) (by omega)) _) (cwV 2 hts gX0_copy_X0_needPage rfl rfl rfl (by decide +kernel) ⟨Nat.le_of_ble_eq_true rfl, Nat.le_of_ble_eq_true rfl⟩) (pV_B hP hD hK (ci := 0) (q0 := 0) rfl rfl rfl [0, 1] rfl [0, 1, 2, 3, 4, 5, 6] rfl rfl) rfl rfl hl.1 rfl (lv_room (Nat.le_of_ble_eq_true rfl)) dX0_copy_7 ⟨Nat.le_of_ble_eq_true rfl, Nat.le_of_ble_eq_true rfl⟩) [0, 1, 2, 3, 4, 5, 6] [] rfl rfl rfl (by decide) (fun H locs hP hD hS => ?_)
  have hP : va_P D vwCl (wC h0 a0 a1 a2 a3 a4 a5 cI cZ bf pw hs lo lg rt nb (nI fi) (nI fo) (nI en) 1 cu ma) H := hP
  have hD : va_D A (wC h0 a0 a1 a2 a3 a4 a5 cI cZ bf pw hs lo lg rt nb (nI fi) (nI fo) (nI en) 1 cu ma) := hD
  refine lv_iload_n hx hb dX0_copy_10 rfl (lv_at hl 1 rfl) ?_
  refine lv_iload_n hx hb dX0_copy_11 rfl (lv_at hl 2 rfl) ?_
  refine k_I (wr := wC h0 a0 a1 a2 a3 a4 a5 cI cZ bf pw hs lo lg rt nb (nI fi) (nI fo) (nI en) 1 cu ma) hP hD hS hA (va_runS (As := [.int (nI ar), .int (nI pg)]) (rest := []) ⟨hx, hb, hml, hown, hts⟩ ((tX0_pageIndex ar pg) _) (va_cwS 2 hts gX0_copy_X0_pageIndex rfl rfl rfl (by decide +kernel) ⟨Nat.le_of_ble_eq_true rfl, Nat.le_of_ble_eq_true rfl⟩) (pS_B hP hD hK [] rfl [] rfl rfl) rfl rfl hl.1 rfl (lv_room (Nat.le_of_ble_eq_true rfl)) dX0_copy_12 ⟨Nat.le_of_ble_eq_true rfl, Nat.le_of_ble_eq_true rfl⟩) [] [0, 1, 2, 3, 4, 5, 6] rfl rfl rfl (by decide) (fun H locs hP hD hS => ?_)
  have hP : va_P D vwCl (wC h0 a0 a1 a2 a3 a4 a5 cI cZ bf pw hs lo lg rt nb (nI fi) (nI fo) (nI en) 1 cu ma) H := hP
  have hD : va_D A (wC h0 a0 a1 a2 a3 a4 a5 cI cZ bf pw hs lo lg rt nb (nI fi) (nI fo) (nI en) 1 cu ma) := hD
  refine lv_istore_n (lv' := [(3, .int (nI (ar * 256 + pg))), (0, .ref h0), (1, .int (nI ar)), (2, .int (nI pg))]) hx hb dX0_copy_15 rfl hl (by decide) rfl (fun ls hl => ?_)
  refine lv_aload_n hx hb dX0_copy_16 rfl (lv_at hl 1 rfl) ?_
  refine lv_iload_n hx hb dX0_copy_17 rfl (lv_at hl 0 rfl) ?_
  refine k_I (wr := []) hP hD hS hA (va_runV (As := [.int (nI (ar * 256 + pg))]) (rest := []) ⟨hx, hb, hml, hown, hts⟩ ((tX0_pageState bf pw hs lo lg rt nb fi fo en 1 cu ma (ar * 256 + pg) (by omega)) _) (cwV 1 hts gX0_copy_X0_pageState rfl rfl rfl (by decide +kernel) ⟨Nat.le_of_ble_eq_true rfl, Nat.le_of_ble_eq_true rfl⟩) (pV_B hP hD hK (ci := 0) (q0 := 0) rfl rfl rfl [0, 1] rfl [0, 1, 2, 3, 4, 5, 6] rfl rfl) rfl rfl hl.1 rfl (lv_room (Nat.le_of_ble_eq_true rfl)) dX0_copy_18 ⟨Nat.le_of_ble_eq_true rfl, Nat.le_of_ble_eq_true rfl⟩) [0, 1, 2, 3, 4, 5, 6] [] rfl rfl rfl (by decide) (fun H locs hP hD hS => ?_)
  have hP : va_P D vwCl (wC h0 a0 a1 a2 a3 a4 a5 cI cZ bf pw hs lo lg rt nb (nI fi) (nI fo) (nI en) 1 cu ma) H := hP
  have hD : va_D A (wC h0 a0 a1 a2 a3 a4 a5 cI cZ bf pw hs lo lg rt nb (nI fi) (nI fo) (nI en) 1 cu ma) := hD
  refine lv_if_eq (tgt := 34) hx hb dX0_copy_21 (by decide) (fun c_21 => absurd c_21 (h)) (fun c_21 => ?_)
  exact e_X (text := "the page is torn or lost") hx hb hl0 hown rfl hts (by decide +kernel) thX0_copy_k thX0_copy_i thX0_copy_g xNg_xISE xGd_xISE (by decide) hT hlocks hex hP hD hS hl.1 hml dX0_copy_24 dX0_copy_27 dX0_copy_28 dX0_copy_30 dX0_copy_33 (Nat.le_of_ble_eq_true rfl) (Nat.le_of_ble_eq_true rfl) (Nat.le_of_ble_eq_true rfl) (Nat.le_of_ble_eq_true rfl) (Nat.le_of_ble_eq_true rfl) (Nat.le_of_ble_eq_true rfl)
set_option maxHeartbeats 4000000 in
set_option maxRecDepth 100000 in
theorem tX0_copy_ok0 {l : Launch} {D : va_G} {cI cZ : ClassId} {h0 a0 a1 a2 a3 a4 a5 : Nat} (bf pw hs lo lg rt : Nat → Int32) (nb : Int32) (fi fo en : Nat) (cu ma : Int32) (ar pg : Nat) (h1 : ar < 2) (h2 : pg < 256) (hw : sp_ps lo hs (ar * 256 + pg) = 0) (h : cu = 0) : RI l yX0_copy wsX0_copy 8 0 0 D (tyC cI cZ) (wC h0 a0 a1 a2 a3 a4 a5 cI cZ bf pw hs lo lg rt nb (nI fi) (nI fo) (nI en) 1 cu ma) [.ref h0, .int (nI ar), .int (nI pg)] (-1) (wC h0 a0 a1 a2 a3 a4 a5 cI cZ (zf bf) pw hs lo lg rt (nb + 1) (nI fi) (nI fo) (nI fo) 0 cu ma) := by
  refine st_I (cc := cX0_copy) (maxL := 4) (ret := (some .int)) (by decide +kernel) rfl (Nat.le_of_ble_eq_true rfl) ?_
  intro p e s m below meth c A hx hb hr hts hown hml hlocks hK hP hD hA hS ls hl
  have hown : s.vm.findClass RX0 = some m.cls := hown
  have hl : lv_has ls 4 [(0, .ref h0), (1, .int (nI ar)), (2, .int (nI pg))] := hl
  refine lv_aload_n hx hb dX0_copy_0 rfl (lv_at hl 0 rfl) ?_
  refine k_V (wr := []) hP hD hS hA (va_runV (As := []) (rest := []) ⟨hx, hb, hml, hown, hts⟩ ((tX0_needPower_ok bf pw hs lo lg rt nb fi fo en cu ma) _) (cwV 0 hts gX0_copy_X0_needPower rfl rfl rfl (by decide +kernel) ⟨Nat.le_of_ble_eq_true rfl, Nat.le_of_ble_eq_true rfl⟩) (pV_B hP hD hK (ci := 0) (q0 := 0) rfl rfl rfl [0, 1] rfl [0, 1, 2, 3, 4, 5, 6] rfl rfl) rfl rfl hl.1 rfl (lv_room (Nat.le_of_ble_eq_true rfl)) dX0_copy_1 ⟨Nat.le_of_ble_eq_true rfl, Nat.le_of_ble_eq_true rfl⟩) [0, 1, 2, 3, 4, 5, 6] [] rfl rfl rfl (by decide) (fun H locs hP hD hS => ?_)
  have hP : va_P D vwCl (wC h0 a0 a1 a2 a3 a4 a5 cI cZ bf pw hs lo lg rt nb (nI fi) (nI fo) (nI en) 1 cu ma) H := hP
  have hD : va_D A (wC h0 a0 a1 a2 a3 a4 a5 cI cZ bf pw hs lo lg rt nb (nI fi) (nI fo) (nI en) 1 cu ma) := hD
  refine lv_aload_n hx hb dX0_copy_4 rfl (lv_at hl 0 rfl) ?_
  refine lv_iload_n hx hb dX0_copy_5 rfl (lv_at hl 1 rfl) ?_
  refine lv_iload_n hx hb dX0_copy_6 rfl (lv_at hl 2 rfl) ?_
  refine k_V (wr := []) hP hD hS hA (va_runV (As := [.int (nI ar), .int (nI pg)]) (rest := []) ⟨hx, hb, hml, hown, hts⟩ ((tX0_needPage_ok bf pw hs lo lg rt nb fi fo en 1 cu ma ar pg (by omega) (by omega)) _) (cwV 2 hts gX0_copy_X0_needPage rfl rfl rfl (by decide +kernel) ⟨Nat.le_of_ble_eq_true rfl, Nat.le_of_ble_eq_true rfl⟩) (pV_B hP hD hK (ci := 0) (q0 := 0) rfl rfl rfl [0, 1] rfl [0, 1, 2, 3, 4, 5, 6] rfl rfl) rfl rfl hl.1 rfl (lv_room (Nat.le_of_ble_eq_true rfl)) dX0_copy_7 ⟨Nat.le_of_ble_eq_true rfl, Nat.le_of_ble_eq_true rfl⟩) [0, 1, 2, 3, 4, 5, 6] [] rfl rfl rfl (by decide) (fun H locs hP hD hS => ?_)
  have hP : va_P D vwCl (wC h0 a0 a1 a2 a3 a4 a5 cI cZ bf pw hs lo lg rt nb (nI fi) (nI fo) (nI en) 1 cu ma) H := hP
  have hD : va_D A (wC h0 a0 a1 a2 a3 a4 a5 cI cZ bf pw hs lo lg rt nb (nI fi) (nI fo) (nI en) 1 cu ma) := hD
  refine lv_iload_n hx hb dX0_copy_10 rfl (lv_at hl 1 rfl) ?_
  refine lv_iload_n hx hb dX0_copy_11 rfl (lv_at hl 2 rfl) ?_
  refine k_I (wr := wC h0 a0 a1 a2 a3 a4 a5 cI cZ bf pw hs lo lg rt nb (nI fi) (nI fo) (nI en) 1 cu ma) hP hD hS hA (va_runS (As := [.int (nI ar), .int (nI pg)]) (rest := []) ⟨hx, hb, hml, hown, hts⟩ ((tX0_pageIndex ar pg) _) (va_cwS 2 hts gX0_copy_X0_pageIndex rfl rfl rfl (by decide +kernel) ⟨Nat.le_of_ble_eq_true rfl, Nat.le_of_ble_eq_true rfl⟩) (pS_B hP hD hK [] rfl [] rfl rfl) rfl rfl hl.1 rfl (lv_room (Nat.le_of_ble_eq_true rfl)) dX0_copy_12 ⟨Nat.le_of_ble_eq_true rfl, Nat.le_of_ble_eq_true rfl⟩) [] [0, 1, 2, 3, 4, 5, 6] rfl rfl rfl (by decide) (fun H locs hP hD hS => ?_)
  have hP : va_P D vwCl (wC h0 a0 a1 a2 a3 a4 a5 cI cZ bf pw hs lo lg rt nb (nI fi) (nI fo) (nI en) 1 cu ma) H := hP
  have hD : va_D A (wC h0 a0 a1 a2 a3 a4 a5 cI cZ bf pw hs lo lg rt nb (nI fi) (nI fo) (nI en) 1 cu ma) := hD
  refine lv_istore_n (lv' := [(3, .int (nI (ar * 256 + pg))), (0, .ref h0), (1, .int (nI ar)), (2, .int (nI pg))]) hx hb dX0_copy_15 rfl hl (by decide) rfl (fun ls hl => ?_)
  refine lv_aload_n hx hb dX0_copy_16 rfl (lv_at hl 1 rfl) ?_
  refine lv_iload_n hx hb dX0_copy_17 rfl (lv_at hl 0 rfl) ?_
  refine k_I (wr := []) hP hD hS hA (va_runV (As := [.int (nI (ar * 256 + pg))]) (rest := []) ⟨hx, hb, hml, hown, hts⟩ ((tX0_pageState bf pw hs lo lg rt nb fi fo en 1 cu ma (ar * 256 + pg) (by omega)) _) (cwV 1 hts gX0_copy_X0_pageState rfl rfl rfl (by decide +kernel) ⟨Nat.le_of_ble_eq_true rfl, Nat.le_of_ble_eq_true rfl⟩) (pV_B hP hD hK (ci := 0) (q0 := 0) rfl rfl rfl [0, 1] rfl [0, 1, 2, 3, 4, 5, 6] rfl rfl) rfl rfl hl.1 rfl (lv_room (Nat.le_of_ble_eq_true rfl)) dX0_copy_18 ⟨Nat.le_of_ble_eq_true rfl, Nat.le_of_ble_eq_true rfl⟩) [0, 1, 2, 3, 4, 5, 6] [] rfl rfl rfl (by decide) (fun H locs hP hD hS => ?_)
  have hP : va_P D vwCl (wC h0 a0 a1 a2 a3 a4 a5 cI cZ bf pw hs lo lg rt nb (nI fi) (nI fo) (nI en) 1 cu ma) H := hP
  have hD : va_D A (wC h0 a0 a1 a2 a3 a4 a5 cI cZ bf pw hs lo lg rt nb (nI fi) (nI fo) (nI en) 1 cu ma) := hD
  refine lv_if_eq (tgt := 34) hx hb dX0_copy_21 (by decide) (fun c_21 => ?_) (fun c_21 => absurd (hw) c_21)
  refine lv_aload_n hx hb dX0_copy_34 rfl (lv_at hl 1 rfl) ?_
  refine lv_iconst (v := (nI 1)) hx hb dX0_copy_35 (by decide) ?_
  refine lv_iload_n hx hb dX0_copy_36 rfl (lv_at hl 2 rfl) ?_
  refine n_isub hx hb (by omega) dX0_copy_37 ?_
  refine lv_iload_n hx hb dX0_copy_38 rfl (lv_at hl 3 rfl) ?_
  refine k_I (wr := wC h0 a0 a1 a2 a3 a4 a5 cI cZ bf pw hs lo lg rt nb (nI fi) (nI fo) (nI en) 1 cu ma) hP hD hS hA (va_runS (As := [.int (nI (1 - ar)), .int (nI pg)]) (rest := [.ref h0]) ⟨hx, hb, hml, hown, hts⟩ ((tX0_pageIndex (1 - ar) pg) _) (va_cwS 2 hts gX0_copy_X0_pageIndex rfl rfl rfl (by decide +kernel) ⟨Nat.le_of_ble_eq_true rfl, Nat.le_of_ble_eq_true rfl⟩) (pS_B hP hD hK [] rfl [] rfl rfl) rfl rfl hl.1 rfl (lv_room (Nat.le_of_ble_eq_true rfl)) dX0_copy_39 ⟨Nat.le_of_ble_eq_true rfl, Nat.le_of_ble_eq_true rfl⟩) [] [0, 1, 2, 3, 4, 5, 6] rfl rfl rfl (by decide) (fun H locs hP hD hS => ?_)
  have hP : va_P D vwCl (wC h0 a0 a1 a2 a3 a4 a5 cI cZ bf pw hs lo lg rt nb (nI fi) (nI fo) (nI en) 1 cu ma) H := hP
  have hD : va_D A (wC h0 a0 a1 a2 a3 a4 a5 cI cZ bf pw hs lo lg rt nb (nI fi) (nI fo) (nI en) 1 cu ma) := hD
  refine lv_aload_n hx hb dX0_copy_42 rfl (lv_at hl 1 rfl) ?_
  refine va_get (ci := 0) (v := .ref a1) (C := RX0) (T := TX0) (N := 13) hx hb hts inX0_copy hown hK hP 0 rfl rfl 1 (by decide) (hts _ flX0_copy_14) (fun _ h9 => h9) rfl dX0_copy_43 ?_
  refine lv_iload_n hx hb dX0_copy_46 rfl (lv_at hl 0 rfl) ?_
  refine lv_bipush (v := (nI 64)) hx hb dX0_copy_47 (by decide) ?_
  refine n_imul hx hb dX0_copy_49 ?_
  refine k_I (wr := []) hP hD hS hA (va_runV (As := [.int (nI ((1 - ar) * 256 + pg)), .ref a1, .int (nI ((ar * 256 + pg) * 64))]) (rest := []) ⟨hx, hb, hml, hown, hts⟩ ((tX0_writePage_p0 bf pw hs lo lg rt nb fi fo en 1 cu ma ((1 - ar) * 256 + pg) (by omega) ((ar * 256 + pg) * 64) (by omega) h) _) (cwV 3 hts gX0_copy_X0_writePage rfl rfl rfl (by decide +kernel) ⟨Nat.le_of_ble_eq_true rfl, Nat.le_of_ble_eq_true rfl⟩) (pV_B hP hD hK (ci := 0) (q0 := 0) rfl rfl rfl [0, 1] rfl [0, 1, 2, 3, 4, 5, 6] rfl rfl) rfl rfl hl.1 rfl (lv_room (Nat.le_of_ble_eq_true rfl)) dX0_copy_50 ⟨Nat.le_of_ble_eq_true rfl, Nat.le_of_ble_eq_true rfl⟩) [0, 1, 2, 3, 4, 5, 6] [] rfl rfl rfl (by decide) (fun H locs hP hD hS => ?_)
  have hP : va_P D vwCl (wC h0 a0 a1 a2 a3 a4 a5 cI cZ (zf bf) pw hs lo lg rt (nb + 1) (nI fi) (nI fo) (nI fo) 0 cu ma) H := hP
  have hD : va_D A (wC h0 a0 a1 a2 a3 a4 a5 cI cZ (zf bf) pw hs lo lg rt (nb + 1) (nI fi) (nI fo) (nI fo) 0 cu ma) := hD
  exact e_I hx hb hr hlocks hP hD hS rfl dX0_copy_53
set_option maxHeartbeats 4000000 in
set_option maxRecDepth 100000 in
theorem tX0_copy_ok1 {l : Launch} {D : va_G} {cI cZ : ClassId} {h0 a0 a1 a2 a3 a4 a5 : Nat} (bf pw hs lo lg rt : Nat → Int32) (nb : Int32) (fi fo en : Nat) (cu ma : Int32) (ar pg : Nat) (h1 : ar < 2) (h2 : pg < 256) (hw : sp_ps lo hs (ar * 256 + pg) = 0) (h : ¬ cu = 0) (hd : dcu cu = 0) : RI l yX0_copy wsX0_copy 8 0 0 D (tyC cI cZ) (wC h0 a0 a1 a2 a3 a4 a5 cI cZ bf pw hs lo lg rt nb (nI fi) (nI fo) (nI en) 1 cu ma) [.ref h0, .int (nI ar), .int (nI pg)] (-1) (wC h0 a0 a1 a2 a3 a4 a5 cI cZ (zf bf) (va_cpy pw pw ((ar * 256 + pg) * 64) (((1 - ar) * 256 + pg) * 64) 32) (upd hs (((1 - ar) * 256 + pg) * 2) (nb + 1)) lo lg rt (nb + 1) (nI fi) (nI fo) (nI fo) 0 (dcu cu) (ma + 1)) := by
  refine st_I (cc := cX0_copy) (maxL := 4) (ret := (some .int)) (by decide +kernel) rfl (Nat.le_of_ble_eq_true rfl) ?_
  intro p e s m below meth c A hx hb hr hts hown hml hlocks hK hP hD hA hS ls hl
  have hown : s.vm.findClass RX0 = some m.cls := hown
  have hl : lv_has ls 4 [(0, .ref h0), (1, .int (nI ar)), (2, .int (nI pg))] := hl
  refine lv_aload_n hx hb dX0_copy_0 rfl (lv_at hl 0 rfl) ?_
  refine k_V (wr := []) hP hD hS hA (va_runV (As := []) (rest := []) ⟨hx, hb, hml, hown, hts⟩ ((tX0_needPower_ok bf pw hs lo lg rt nb fi fo en cu ma) _) (cwV 0 hts gX0_copy_X0_needPower rfl rfl rfl (by decide +kernel) ⟨Nat.le_of_ble_eq_true rfl, Nat.le_of_ble_eq_true rfl⟩) (pV_B hP hD hK (ci := 0) (q0 := 0) rfl rfl rfl [0, 1] rfl [0, 1, 2, 3, 4, 5, 6] rfl rfl) rfl rfl hl.1 rfl (lv_room (Nat.le_of_ble_eq_true rfl)) dX0_copy_1 ⟨Nat.le_of_ble_eq_true rfl, Nat.le_of_ble_eq_true rfl⟩) [0, 1, 2, 3, 4, 5, 6] [] rfl rfl rfl (by decide) (fun H locs hP hD hS => ?_)
  have hP : va_P D vwCl (wC h0 a0 a1 a2 a3 a4 a5 cI cZ bf pw hs lo lg rt nb (nI fi) (nI fo) (nI en) 1 cu ma) H := hP
  have hD : va_D A (wC h0 a0 a1 a2 a3 a4 a5 cI cZ bf pw hs lo lg rt nb (nI fi) (nI fo) (nI en) 1 cu ma) := hD
  refine lv_aload_n hx hb dX0_copy_4 rfl (lv_at hl 0 rfl) ?_
  refine lv_iload_n hx hb dX0_copy_5 rfl (lv_at hl 1 rfl) ?_
  refine lv_iload_n hx hb dX0_copy_6 rfl (lv_at hl 2 rfl) ?_
  refine k_V (wr := []) hP hD hS hA (va_runV (As := [.int (nI ar), .int (nI pg)]) (rest := []) ⟨hx, hb, hml, hown, hts⟩ ((tX0_needPage_ok bf pw hs lo lg rt nb fi fo en 1 cu ma ar pg (by omega) (by omega)) _) (cwV 2 hts gX0_copy_X0_needPage rfl rfl rfl (by decide +kernel) ⟨Nat.le_of_ble_eq_true rfl, Nat.le_of_ble_eq_true rfl⟩) (pV_B hP hD hK (ci := 0) (q0 := 0) rfl rfl rfl [0, 1] rfl [0, 1, 2, 3, 4, 5, 6] rfl rfl) rfl rfl hl.1 rfl (lv_room (Nat.le_of_ble_eq_true rfl)) dX0_copy_7 ⟨Nat.le_of_ble_eq_true rfl, Nat.le_of_ble_eq_true rfl⟩) [0, 1, 2, 3, 4, 5, 6] [] rfl rfl rfl (by decide) (fun H locs hP hD hS => ?_)
  have hP : va_P D vwCl (wC h0 a0 a1 a2 a3 a4 a5 cI cZ bf pw hs lo lg rt nb (nI fi) (nI fo) (nI en) 1 cu ma) H := hP
  have hD : va_D A (wC h0 a0 a1 a2 a3 a4 a5 cI cZ bf pw hs lo lg rt nb (nI fi) (nI fo) (nI en) 1 cu ma) := hD
  refine lv_iload_n hx hb dX0_copy_10 rfl (lv_at hl 1 rfl) ?_
  refine lv_iload_n hx hb dX0_copy_11 rfl (lv_at hl 2 rfl) ?_
  refine k_I (wr := wC h0 a0 a1 a2 a3 a4 a5 cI cZ bf pw hs lo lg rt nb (nI fi) (nI fo) (nI en) 1 cu ma) hP hD hS hA (va_runS (As := [.int (nI ar), .int (nI pg)]) (rest := []) ⟨hx, hb, hml, hown, hts⟩ ((tX0_pageIndex ar pg) _) (va_cwS 2 hts gX0_copy_X0_pageIndex rfl rfl rfl (by decide +kernel) ⟨Nat.le_of_ble_eq_true rfl, Nat.le_of_ble_eq_true rfl⟩) (pS_B hP hD hK [] rfl [] rfl rfl) rfl rfl hl.1 rfl (lv_room (Nat.le_of_ble_eq_true rfl)) dX0_copy_12 ⟨Nat.le_of_ble_eq_true rfl, Nat.le_of_ble_eq_true rfl⟩) [] [0, 1, 2, 3, 4, 5, 6] rfl rfl rfl (by decide) (fun H locs hP hD hS => ?_)
  have hP : va_P D vwCl (wC h0 a0 a1 a2 a3 a4 a5 cI cZ bf pw hs lo lg rt nb (nI fi) (nI fo) (nI en) 1 cu ma) H := hP
  have hD : va_D A (wC h0 a0 a1 a2 a3 a4 a5 cI cZ bf pw hs lo lg rt nb (nI fi) (nI fo) (nI en) 1 cu ma) := hD
  refine lv_istore_n (lv' := [(3, .int (nI (ar * 256 + pg))), (0, .ref h0), (1, .int (nI ar)), (2, .int (nI pg))]) hx hb dX0_copy_15 rfl hl (by decide) rfl (fun ls hl => ?_)
  refine lv_aload_n hx hb dX0_copy_16 rfl (lv_at hl 1 rfl) ?_
  refine lv_iload_n hx hb dX0_copy_17 rfl (lv_at hl 0 rfl) ?_
  refine k_I (wr := []) hP hD hS hA (va_runV (As := [.int (nI (ar * 256 + pg))]) (rest := []) ⟨hx, hb, hml, hown, hts⟩ ((tX0_pageState bf pw hs lo lg rt nb fi fo en 1 cu ma (ar * 256 + pg) (by omega)) _) (cwV 1 hts gX0_copy_X0_pageState rfl rfl rfl (by decide +kernel) ⟨Nat.le_of_ble_eq_true rfl, Nat.le_of_ble_eq_true rfl⟩) (pV_B hP hD hK (ci := 0) (q0 := 0) rfl rfl rfl [0, 1] rfl [0, 1, 2, 3, 4, 5, 6] rfl rfl) rfl rfl hl.1 rfl (lv_room (Nat.le_of_ble_eq_true rfl)) dX0_copy_18 ⟨Nat.le_of_ble_eq_true rfl, Nat.le_of_ble_eq_true rfl⟩) [0, 1, 2, 3, 4, 5, 6] [] rfl rfl rfl (by decide) (fun H locs hP hD hS => ?_)
  have hP : va_P D vwCl (wC h0 a0 a1 a2 a3 a4 a5 cI cZ bf pw hs lo lg rt nb (nI fi) (nI fo) (nI en) 1 cu ma) H := hP
  have hD : va_D A (wC h0 a0 a1 a2 a3 a4 a5 cI cZ bf pw hs lo lg rt nb (nI fi) (nI fo) (nI en) 1 cu ma) := hD
  refine lv_if_eq (tgt := 34) hx hb dX0_copy_21 (by decide) (fun c_21 => ?_) (fun c_21 => absurd (hw) c_21)
  refine lv_aload_n hx hb dX0_copy_34 rfl (lv_at hl 1 rfl) ?_
  refine lv_iconst (v := (nI 1)) hx hb dX0_copy_35 (by decide) ?_
  refine lv_iload_n hx hb dX0_copy_36 rfl (lv_at hl 2 rfl) ?_
  refine n_isub hx hb (by omega) dX0_copy_37 ?_
  refine lv_iload_n hx hb dX0_copy_38 rfl (lv_at hl 3 rfl) ?_
  refine k_I (wr := wC h0 a0 a1 a2 a3 a4 a5 cI cZ bf pw hs lo lg rt nb (nI fi) (nI fo) (nI en) 1 cu ma) hP hD hS hA (va_runS (As := [.int (nI (1 - ar)), .int (nI pg)]) (rest := [.ref h0]) ⟨hx, hb, hml, hown, hts⟩ ((tX0_pageIndex (1 - ar) pg) _) (va_cwS 2 hts gX0_copy_X0_pageIndex rfl rfl rfl (by decide +kernel) ⟨Nat.le_of_ble_eq_true rfl, Nat.le_of_ble_eq_true rfl⟩) (pS_B hP hD hK [] rfl [] rfl rfl) rfl rfl hl.1 rfl (lv_room (Nat.le_of_ble_eq_true rfl)) dX0_copy_39 ⟨Nat.le_of_ble_eq_true rfl, Nat.le_of_ble_eq_true rfl⟩) [] [0, 1, 2, 3, 4, 5, 6] rfl rfl rfl (by decide) (fun H locs hP hD hS => ?_)
  have hP : va_P D vwCl (wC h0 a0 a1 a2 a3 a4 a5 cI cZ bf pw hs lo lg rt nb (nI fi) (nI fo) (nI en) 1 cu ma) H := hP
  have hD : va_D A (wC h0 a0 a1 a2 a3 a4 a5 cI cZ bf pw hs lo lg rt nb (nI fi) (nI fo) (nI en) 1 cu ma) := hD
  refine lv_aload_n hx hb dX0_copy_42 rfl (lv_at hl 1 rfl) ?_
  refine va_get (ci := 0) (v := .ref a1) (C := RX0) (T := TX0) (N := 13) hx hb hts inX0_copy hown hK hP 0 rfl rfl 1 (by decide) (hts _ flX0_copy_14) (fun _ h9 => h9) rfl dX0_copy_43 ?_
  refine lv_iload_n hx hb dX0_copy_46 rfl (lv_at hl 0 rfl) ?_
  refine lv_bipush (v := (nI 64)) hx hb dX0_copy_47 (by decide) ?_
  refine n_imul hx hb dX0_copy_49 ?_
  refine k_I (wr := []) hP hD hS hA (va_runV (As := [.int (nI ((1 - ar) * 256 + pg)), .ref a1, .int (nI ((ar * 256 + pg) * 64))]) (rest := []) ⟨hx, hb, hml, hown, hts⟩ ((tX0_writePage_p1 bf pw hs lo lg rt nb fi fo en 1 cu ma ((1 - ar) * 256 + pg) (by omega) ((ar * 256 + pg) * 64) (by omega) h hd) _) (cwV 3 hts gX0_copy_X0_writePage rfl rfl rfl (by decide +kernel) ⟨Nat.le_of_ble_eq_true rfl, Nat.le_of_ble_eq_true rfl⟩) (pV_B hP hD hK (ci := 0) (q0 := 0) rfl rfl rfl [0, 1] rfl [0, 1, 2, 3, 4, 5, 6] rfl rfl) rfl rfl hl.1 rfl (lv_room (Nat.le_of_ble_eq_true rfl)) dX0_copy_50 ⟨Nat.le_of_ble_eq_true rfl, Nat.le_of_ble_eq_true rfl⟩) [0, 1, 2, 3, 4, 5, 6] [] rfl rfl rfl (by decide) (fun H locs hP hD hS => ?_)
  have hP : va_P D vwCl (wC h0 a0 a1 a2 a3 a4 a5 cI cZ (zf bf) (va_cpy pw pw ((ar * 256 + pg) * 64) (((1 - ar) * 256 + pg) * 64) 32) (upd hs (((1 - ar) * 256 + pg) * 2) (nb + 1)) lo lg rt (nb + 1) (nI fi) (nI fo) (nI fo) 0 (dcu cu) (ma + 1)) H := hP
  have hD : va_D A (wC h0 a0 a1 a2 a3 a4 a5 cI cZ (zf bf) (va_cpy pw pw ((ar * 256 + pg) * 64) (((1 - ar) * 256 + pg) * 64) 32) (upd hs (((1 - ar) * 256 + pg) * 2) (nb + 1)) lo lg rt (nb + 1) (nI fi) (nI fo) (nI fo) 0 (dcu cu) (ma + 1)) := hD
  exact e_I hx hb hr hlocks hP hD hS rfl dX0_copy_53
set_option maxHeartbeats 4000000 in
set_option maxRecDepth 100000 in
theorem tX0_copy_ok2 {l : Launch} {D : va_G} {cI cZ : ClassId} {h0 a0 a1 a2 a3 a4 a5 : Nat} (bf pw hs lo lg rt : Nat → Int32) (nb : Int32) (fi fo en : Nat) (cu ma : Int32) (ar pg : Nat) (h1 : ar < 2) (h2 : pg < 256) (hw : sp_ps lo hs (ar * 256 + pg) = 0) (h : ¬ cu = 0) (hd : ¬ dcu cu = 0) : RI l yX0_copy wsX0_copy 8 0 0 D (tyC cI cZ) (wC h0 a0 a1 a2 a3 a4 a5 cI cZ bf pw hs lo lg rt nb (nI fi) (nI fo) (nI en) 1 cu ma) [.ref h0, .int (nI ar), .int (nI pg)] (nb + 1) (wC h0 a0 a1 a2 a3 a4 a5 cI cZ bf (va_cpy (va_cpy pw pw ((ar * 256 + pg) * 64) (((1 - ar) * 256 + pg) * 64) 32) (va_cpy pw pw ((ar * 256 + pg) * 64) (((1 - ar) * 256 + pg) * 64) 32) (((ar * 256 + pg) * 64) + 32) (((1 - ar) * 256 + pg) * 64 + 32) 32) (upd (upd hs (((1 - ar) * 256 + pg) * 2) (nb + 1)) (((1 - ar) * 256 + pg) * 2 + 1) (nb + 1)) (upd lo ((1 - ar) * 256 + pg) 0) lg rt (nb + 1) (nI fi) (nI fo) (nI en) 1 (dcu (dcu cu)) (ma + 1 + 1)) := by
  refine st_I (cc := cX0_copy) (maxL := 4) (ret := (some .int)) (by decide +kernel) rfl (Nat.le_of_ble_eq_true rfl) ?_
  intro p e s m below meth c A hx hb hr hts hown hml hlocks hK hP hD hA hS ls hl
  have hown : s.vm.findClass RX0 = some m.cls := hown
  have hl : lv_has ls 4 [(0, .ref h0), (1, .int (nI ar)), (2, .int (nI pg))] := hl
  refine lv_aload_n hx hb dX0_copy_0 rfl (lv_at hl 0 rfl) ?_
  refine k_V (wr := []) hP hD hS hA (va_runV (As := []) (rest := []) ⟨hx, hb, hml, hown, hts⟩ ((tX0_needPower_ok bf pw hs lo lg rt nb fi fo en cu ma) _) (cwV 0 hts gX0_copy_X0_needPower rfl rfl rfl (by decide +kernel) ⟨Nat.le_of_ble_eq_true rfl, Nat.le_of_ble_eq_true rfl⟩) (pV_B hP hD hK (ci := 0) (q0 := 0) rfl rfl rfl [0, 1] rfl [0, 1, 2, 3, 4, 5, 6] rfl rfl) rfl rfl hl.1 rfl (lv_room (Nat.le_of_ble_eq_true rfl)) dX0_copy_1 ⟨Nat.le_of_ble_eq_true rfl, Nat.le_of_ble_eq_true rfl⟩) [0, 1, 2, 3, 4, 5, 6] [] rfl rfl rfl (by decide) (fun H locs hP hD hS => ?_)
  have hP : va_P D vwCl (wC h0 a0 a1 a2 a3 a4 a5 cI cZ bf pw hs lo lg rt nb (nI fi) (nI fo) (nI en) 1 cu ma) H := hP
  have hD : va_D A (wC h0 a0 a1 a2 a3 a4 a5 cI cZ bf pw hs lo lg rt nb (nI fi) (nI fo) (nI en) 1 cu ma) := hD
  refine lv_aload_n hx hb dX0_copy_4 rfl (lv_at hl 0 rfl) ?_
  refine lv_iload_n hx hb dX0_copy_5 rfl (lv_at hl 1 rfl) ?_
  refine lv_iload_n hx hb dX0_copy_6 rfl (lv_at hl 2 rfl) ?_
  refine k_V (wr := []) hP hD hS hA (va_runV (As := [.int (nI ar), .int (nI pg)]) (rest := []) ⟨hx, hb, hml, hown, hts⟩ ((tX0_needPage_ok bf pw hs lo lg rt nb fi fo en 1 cu ma ar pg (by omega) (by omega)) _) (cwV 2 hts gX0_copy_X0_needPage rfl rfl rfl (by decide +kernel) ⟨Nat.le_of_ble_eq_true rfl, Nat.le_of_ble_eq_true rfl⟩) (pV_B hP hD hK (ci := 0) (q0 := 0) rfl rfl rfl [0, 1] rfl [0, 1, 2, 3, 4, 5, 6] rfl rfl) rfl rfl hl.1 rfl (lv_room (Nat.le_of_ble_eq_true rfl)) dX0_copy_7 ⟨Nat.le_of_ble_eq_true rfl, Nat.le_of_ble_eq_true rfl⟩) [0, 1, 2, 3, 4, 5, 6] [] rfl rfl rfl (by decide) (fun H locs hP hD hS => ?_)
  have hP : va_P D vwCl (wC h0 a0 a1 a2 a3 a4 a5 cI cZ bf pw hs lo lg rt nb (nI fi) (nI fo) (nI en) 1 cu ma) H := hP
  have hD : va_D A (wC h0 a0 a1 a2 a3 a4 a5 cI cZ bf pw hs lo lg rt nb (nI fi) (nI fo) (nI en) 1 cu ma) := hD
  refine lv_iload_n hx hb dX0_copy_10 rfl (lv_at hl 1 rfl) ?_
  refine lv_iload_n hx hb dX0_copy_11 rfl (lv_at hl 2 rfl) ?_
  refine k_I (wr := wC h0 a0 a1 a2 a3 a4 a5 cI cZ bf pw hs lo lg rt nb (nI fi) (nI fo) (nI en) 1 cu ma) hP hD hS hA (va_runS (As := [.int (nI ar), .int (nI pg)]) (rest := []) ⟨hx, hb, hml, hown, hts⟩ ((tX0_pageIndex ar pg) _) (va_cwS 2 hts gX0_copy_X0_pageIndex rfl rfl rfl (by decide +kernel) ⟨Nat.le_of_ble_eq_true rfl, Nat.le_of_ble_eq_true rfl⟩) (pS_B hP hD hK [] rfl [] rfl rfl) rfl rfl hl.1 rfl (lv_room (Nat.le_of_ble_eq_true rfl)) dX0_copy_12 ⟨Nat.le_of_ble_eq_true rfl, Nat.le_of_ble_eq_true rfl⟩) [] [0, 1, 2, 3, 4, 5, 6] rfl rfl rfl (by decide) (fun H locs hP hD hS => ?_)
  have hP : va_P D vwCl (wC h0 a0 a1 a2 a3 a4 a5 cI cZ bf pw hs lo lg rt nb (nI fi) (nI fo) (nI en) 1 cu ma) H := hP
  have hD : va_D A (wC h0 a0 a1 a2 a3 a4 a5 cI cZ bf pw hs lo lg rt nb (nI fi) (nI fo) (nI en) 1 cu ma) := hD
  refine lv_istore_n (lv' := [(3, .int (nI (ar * 256 + pg))), (0, .ref h0), (1, .int (nI ar)), (2, .int (nI pg))]) hx hb dX0_copy_15 rfl hl (by decide) rfl (fun ls hl => ?_)
  refine lv_aload_n hx hb dX0_copy_16 rfl (lv_at hl 1 rfl) ?_
  refine lv_iload_n hx hb dX0_copy_17 rfl (lv_at hl 0 rfl) ?_
  refine k_I (wr := []) hP hD hS hA (va_runV (As := [.int (nI (ar * 256 + pg))]) (rest := []) ⟨hx, hb, hml, hown, hts⟩ ((tX0_pageState bf pw hs lo lg rt nb fi fo en 1 cu ma (ar * 256 + pg) (by omega)) _) (cwV 1 hts gX0_copy_X0_pageState rfl rfl rfl (by decide +kernel) ⟨Nat.le_of_ble_eq_true rfl, Nat.le_of_ble_eq_true rfl⟩) (pV_B hP hD hK (ci := 0) (q0 := 0) rfl rfl rfl [0, 1] rfl [0, 1, 2, 3, 4, 5, 6] rfl rfl) rfl rfl hl.1 rfl (lv_room (Nat.le_of_ble_eq_true rfl)) dX0_copy_18 ⟨Nat.le_of_ble_eq_true rfl, Nat.le_of_ble_eq_true rfl⟩) [0, 1, 2, 3, 4, 5, 6] [] rfl rfl rfl (by decide) (fun H locs hP hD hS => ?_)
  have hP : va_P D vwCl (wC h0 a0 a1 a2 a3 a4 a5 cI cZ bf pw hs lo lg rt nb (nI fi) (nI fo) (nI en) 1 cu ma) H := hP
  have hD : va_D A (wC h0 a0 a1 a2 a3 a4 a5 cI cZ bf pw hs lo lg rt nb (nI fi) (nI fo) (nI en) 1 cu ma) := hD
  refine lv_if_eq (tgt := 34) hx hb dX0_copy_21 (by decide) (fun c_21 => ?_) (fun c_21 => absurd (hw) c_21)
  refine lv_aload_n hx hb dX0_copy_34 rfl (lv_at hl 1 rfl) ?_
  refine lv_iconst (v := (nI 1)) hx hb dX0_copy_35 (by decide) ?_
  refine lv_iload_n hx hb dX0_copy_36 rfl (lv_at hl 2 rfl) ?_
  refine n_isub hx hb (by omega) dX0_copy_37 ?_
  refine lv_iload_n hx hb dX0_copy_38 rfl (lv_at hl 3 rfl) ?_
  refine k_I (wr := wC h0 a0 a1 a2 a3 a4 a5 cI cZ bf pw hs lo lg rt nb (nI fi) (nI fo) (nI en) 1 cu ma) hP hD hS hA (va_runS (As := [.int (nI (1 - ar)), .int (nI pg)]) (rest := [.ref h0]) ⟨hx, hb, hml, hown, hts⟩ ((tX0_pageIndex (1 - ar) pg) _) (va_cwS 2 hts gX0_copy_X0_pageIndex rfl rfl rfl (by decide +kernel) ⟨Nat.le_of_ble_eq_true rfl, Nat.le_of_ble_eq_true rfl⟩) (pS_B hP hD hK [] rfl [] rfl rfl) rfl rfl hl.1 rfl (lv_room (Nat.le_of_ble_eq_true rfl)) dX0_copy_39 ⟨Nat.le_of_ble_eq_true rfl, Nat.le_of_ble_eq_true rfl⟩) [] [0, 1, 2, 3, 4, 5, 6] rfl rfl rfl (by decide) (fun H locs hP hD hS => ?_)
  have hP : va_P D vwCl (wC h0 a0 a1 a2 a3 a4 a5 cI cZ bf pw hs lo lg rt nb (nI fi) (nI fo) (nI en) 1 cu ma) H := hP
  have hD : va_D A (wC h0 a0 a1 a2 a3 a4 a5 cI cZ bf pw hs lo lg rt nb (nI fi) (nI fo) (nI en) 1 cu ma) := hD
  refine lv_aload_n hx hb dX0_copy_42 rfl (lv_at hl 1 rfl) ?_
  refine va_get (ci := 0) (v := .ref a1) (C := RX0) (T := TX0) (N := 13) hx hb hts inX0_copy hown hK hP 0 rfl rfl 1 (by decide) (hts _ flX0_copy_14) (fun _ h9 => h9) rfl dX0_copy_43 ?_
  refine lv_iload_n hx hb dX0_copy_46 rfl (lv_at hl 0 rfl) ?_
  refine lv_bipush (v := (nI 64)) hx hb dX0_copy_47 (by decide) ?_
  refine n_imul hx hb dX0_copy_49 ?_
  refine k_I (wr := []) hP hD hS hA (va_runV (As := [.int (nI ((1 - ar) * 256 + pg)), .ref a1, .int (nI ((ar * 256 + pg) * 64))]) (rest := []) ⟨hx, hb, hml, hown, hts⟩ ((tX0_writePage_p2 bf pw hs lo lg rt nb fi fo en 1 cu ma ((1 - ar) * 256 + pg) (by omega) ((ar * 256 + pg) * 64) (by omega) h hd) _) (cwV 3 hts gX0_copy_X0_writePage rfl rfl rfl (by decide +kernel) ⟨Nat.le_of_ble_eq_true rfl, Nat.le_of_ble_eq_true rfl⟩) (pV_B hP hD hK (ci := 0) (q0 := 0) rfl rfl rfl [0, 1] rfl [0, 1, 2, 3, 4, 5, 6] rfl rfl) rfl rfl hl.1 rfl (lv_room (Nat.le_of_ble_eq_true rfl)) dX0_copy_50 ⟨Nat.le_of_ble_eq_true rfl, Nat.le_of_ble_eq_true rfl⟩) [0, 1, 2, 3, 4, 5, 6] [] rfl rfl rfl (by decide) (fun H locs hP hD hS => ?_)
  have hP : va_P D vwCl (wC h0 a0 a1 a2 a3 a4 a5 cI cZ bf (va_cpy (va_cpy pw pw ((ar * 256 + pg) * 64) (((1 - ar) * 256 + pg) * 64) 32) (va_cpy pw pw ((ar * 256 + pg) * 64) (((1 - ar) * 256 + pg) * 64) 32) (((ar * 256 + pg) * 64) + 32) (((1 - ar) * 256 + pg) * 64 + 32) 32) (upd (upd hs (((1 - ar) * 256 + pg) * 2) (nb + 1)) (((1 - ar) * 256 + pg) * 2 + 1) (nb + 1)) (upd lo ((1 - ar) * 256 + pg) 0) lg rt (nb + 1) (nI fi) (nI fo) (nI en) 1 (dcu (dcu cu)) (ma + 1 + 1)) H := hP
  have hD : va_D A (wC h0 a0 a1 a2 a3 a4 a5 cI cZ bf (va_cpy (va_cpy pw pw ((ar * 256 + pg) * 64) (((1 - ar) * 256 + pg) * 64) 32) (va_cpy pw pw ((ar * 256 + pg) * 64) (((1 - ar) * 256 + pg) * 64) 32) (((ar * 256 + pg) * 64) + 32) (((1 - ar) * 256 + pg) * 64 + 32) 32) (upd (upd hs (((1 - ar) * 256 + pg) * 2) (nb + 1)) (((1 - ar) * 256 + pg) * 2 + 1) (nb + 1)) (upd lo ((1 - ar) * 256 + pg) 0) lg rt (nb + 1) (nI fi) (nI fo) (nI en) 1 (dcu (dcu cu)) (ma + 1 + 1)) := hD
  exact e_I hx hb hr hlocks hP hD hS rfl dX0_copy_53
set_option maxHeartbeats 4000000 in
set_option maxRecDepth 100000 in
theorem tX0_lose_ok {l : Launch} {D : va_G} {cI cZ : ClassId} {h0 a0 a1 a2 a3 a4 a5 : Nat} (bf pw hs lo lg rt : Nat → Int32) (nb : Int32) (fi fo en : Nat) (on cu ma : Int32) (ar pg : Nat) (h1 : ar < 2) (h2 : pg < 256) : RV l yX0_lose wsX0_lose 8 0 0 D (tyC cI cZ) (wC h0 a0 a1 a2 a3 a4 a5 cI cZ bf pw hs lo lg rt nb (nI fi) (nI fo) (nI en) on cu ma) [.ref h0, .int (nI ar), .int (nI pg)] (wC h0 a0 a1 a2 a3 a4 a5 cI cZ bf pw hs (upd lo (ar * 256 + pg) 1) lg rt nb (nI fi) (nI fo) (nI en) on cu ma) := by
  refine st_V (cc := cX0_lose) (maxL := 3) (ret := none) (by decide +kernel) rfl (Nat.le_of_ble_eq_true rfl) ?_
  intro p e s m below meth c A hx hb hr hts hown hml hlocks hK hP hD hA hS ls hl
  have hown : s.vm.findClass RX0 = some m.cls := hown
  have hl : lv_has ls 3 [(0, .ref h0), (1, .int (nI ar)), (2, .int (nI pg))] := hl
  refine lv_aload_n hx hb dX0_lose_0 rfl (lv_at hl 0 rfl) ?_
  refine lv_iload_n hx hb dX0_lose_1 rfl (lv_at hl 1 rfl) ?_
  refine lv_iload_n hx hb dX0_lose_2 rfl (lv_at hl 2 rfl) ?_
  refine k_V (wr := []) hP hD hS hA (va_runV (As := [.int (nI ar), .int (nI pg)]) (rest := []) ⟨hx, hb, hml, hown, hts⟩ ((tX0_needPage_ok bf pw hs lo lg rt nb fi fo en on cu ma ar pg (by omega) (by omega)) _) (cwV 2 hts gX0_lose_X0_needPage rfl rfl rfl (by decide +kernel) ⟨Nat.le_of_ble_eq_true rfl, Nat.le_of_ble_eq_true rfl⟩) (pV_B hP hD hK (ci := 0) (q0 := 0) rfl rfl rfl [0, 1] rfl [0, 1, 2, 3, 4, 5, 6] rfl rfl) rfl rfl hl.1 rfl (lv_room (Nat.le_of_ble_eq_true rfl)) dX0_lose_3 ⟨Nat.le_of_ble_eq_true rfl, Nat.le_of_ble_eq_true rfl⟩) [0, 1, 2, 3, 4, 5, 6] [] rfl rfl rfl (by decide) (fun H locs hP hD hS => ?_)
  have hP : va_P D vwCl (wC h0 a0 a1 a2 a3 a4 a5 cI cZ bf pw hs lo lg rt nb (nI fi) (nI fo) (nI en) on cu ma) H := hP
  have hD : va_D A (wC h0 a0 a1 a2 a3 a4 a5 cI cZ bf pw hs lo lg rt nb (nI fi) (nI fo) (nI en) on cu ma) := hD
  refine lv_aload_n hx hb dX0_lose_6 rfl (lv_at hl 0 rfl) ?_
  refine va_get (ci := 0) (v := .ref a3) (C := RX0) (T := TX0) (N := 13) hx hb hts inX0_lose hown hK hP 0 rfl rfl 3 (by decide) (hts _ flX0_lose_20) (fun _ h9 => h9) rfl dX0_lose_7 ?_
  refine lv_iload_n hx hb dX0_lose_10 rfl (lv_at hl 1 rfl) ?_
  refine lv_iload_n hx hb dX0_lose_11 rfl (lv_at hl 2 rfl) ?_
  refine k_I (wr := wC h0 a0 a1 a2 a3 a4 a5 cI cZ bf pw hs lo lg rt nb (nI fi) (nI fo) (nI en) on cu ma) hP hD hS hA (va_runS (As := [.int (nI ar), .int (nI pg)]) (rest := [.ref a3]) ⟨hx, hb, hml, hown, hts⟩ ((tX0_pageIndex ar pg) _) (va_cwS 2 hts gX0_lose_X0_pageIndex rfl rfl rfl (by decide +kernel) ⟨Nat.le_of_ble_eq_true rfl, Nat.le_of_ble_eq_true rfl⟩) (pS_B hP hD hK [] rfl [] rfl rfl) rfl rfl hl.1 rfl (lv_room (Nat.le_of_ble_eq_true rfl)) dX0_lose_12 ⟨Nat.le_of_ble_eq_true rfl, Nat.le_of_ble_eq_true rfl⟩) [] [0, 1, 2, 3, 4, 5, 6] rfl rfl rfl (by decide) (fun H locs hP hD hS => ?_)
  have hP : va_P D vwCl (wC h0 a0 a1 a2 a3 a4 a5 cI cZ bf pw hs lo lg rt nb (nI fi) (nI fo) (nI en) on cu ma) H := hP
  have hD : va_D A (wC h0 a0 a1 a2 a3 a4 a5 cI cZ bf pw hs lo lg rt nb (nI fi) (nI fo) (nI en) on cu ma) := hD
  refine lv_iconst (v := (1)) hx hb dX0_lose_15 (by decide) ?_
  refine n_zast hx hb hK hP hD hS 4 1 rfl rfl (ar * 256 + pg) (by omega) (by omega) (by decide) dX0_lose_16 (fun H locs hP hD hS => ?_)
  have hP : va_P D vwCl (wC h0 a0 a1 a2 a3 a4 a5 cI cZ bf pw hs (upd lo (ar * 256 + pg) 1) lg rt nb (nI fi) (nI fo) (nI en) on cu ma) H := hP
  have hD : va_D A (wC h0 a0 a1 a2 a3 a4 a5 cI cZ bf pw hs (upd lo (ar * 256 + pg) 1) lg rt nb (nI fi) (nI fo) (nI en) on cu ma) := hD
  exact e_V hx hb hr hlocks hP hD hS dX0_lose_17
set_option maxHeartbeats 4000000 in
set_option maxRecDepth 100000 in
theorem tX0_stamp_xb {l : Launch} {D : va_G} {cI cZ : ClassId} {h0 a0 a1 a2 a3 a4 a5 : Nat} (hl0 : l.stackTraces = false) (bf pw hs lo lg rt : Nat → Int32) (nb : Int32) (fi fo en : Nat) (on cu ma : Int32) (x y z : Int32) (h : badS x y z) : RX l yX0_stamp wsX0_stamp 8 D (tyC cI cZ) (wC h0 a0 a1 a2 a3 a4 a5 cI cZ bf pw hs lo lg rt nb (nI fi) (nI fo) (nI en) on cu ma) [.ref h0, .int x, .int y, .int z] xIOB := by
  refine st_X (cc := cX0_stamp) (maxL := 4) (ret := (some .int)) (by decide +kernel) rfl (Nat.le_of_ble_eq_true rfl) ?_
  intro p e s m below meth c A hx hb hr hts hown hml hlocks hK hP hD hA hS ls hl hT hex
  have hown : s.vm.findClass RX0 = some m.cls := hown
  have hl : lv_has ls 4 [(0, .ref h0), (1, .int x), (2, .int y), (3, .int z)] := hl
  rcases h with h | ⟨ar, pg, h1, h2, rfl, rfl, h⟩
  · refine lv_aload_n hx hb dX0_stamp_0 rfl (lv_at hl 0 rfl) ?_
    refine lv_iload_n hx hb dX0_stamp_1 rfl (lv_at hl 1 rfl) ?_
    refine lv_iload_n hx hb dX0_stamp_2 rfl (lv_at hl 2 rfl) ?_
    rcases h with h | ⟨ar, h1, rfl, h⟩
    · exact k_XX hlocks hex (Nat.le_of_ble_eq_true rfl) (Nat.le_of_ble_eq_true rfl) (wr := []) hP hD hS hA (vx_runV (As := [.int x, .int y]) (rest := []) ⟨hx, hb, hml, hown, hts⟩ ((tX0_needPage_x1 hl0 bf pw hs lo lg rt nb fi fo en on cu ma x y h) _) (cwV 2 hts gX0_stamp_X0_needPage rfl rfl rfl (by decide +kernel) ⟨Nat.le_of_ble_eq_true rfl, Nat.le_of_ble_eq_true rfl⟩) (pV_X hP hD hK hS hA hT (ci := 0) (q0 := 0) rfl rfl rfl [0, 1] rfl [0, 1, 2, 3, 4, 5, 6] rfl rfl) rfl rfl hl.1 rfl (lv_room (Nat.le_of_ble_eq_true rfl)) dX0_stamp_3 ⟨Nat.le_of_ble_eq_true rfl, Nat.le_of_ble_eq_true rfl⟩) [0, 1, 2, 3, 4, 5, 6] [] rfl rfl rfl (by decide)
    · exact k_XX hlocks hex (Nat.le_of_ble_eq_true rfl) (Nat.le_of_ble_eq_true rfl) (wr := []) hP hD hS hA (vx_runV (As := [.int (nI ar), .int y]) (rest := []) ⟨hx, hb, hml, hown, hts⟩ ((tX0_needPage_x2 hl0 bf pw hs lo lg rt nb fi fo en on cu ma ar y h1 h) _) (cwV 2 hts gX0_stamp_X0_needPage rfl rfl rfl (by decide +kernel) ⟨Nat.le_of_ble_eq_true rfl, Nat.le_of_ble_eq_true rfl⟩) (pV_X hP hD hK hS hA hT (ci := 0) (q0 := 0) rfl rfl rfl [0, 1] rfl [0, 1, 2, 3, 4, 5, 6] rfl rfl) rfl rfl hl.1 rfl (lv_room (Nat.le_of_ble_eq_true rfl)) dX0_stamp_3 ⟨Nat.le_of_ble_eq_true rfl, Nat.le_of_ble_eq_true rfl⟩) [0, 1, 2, 3, 4, 5, 6] [] rfl rfl rfl (by decide)
  · refine lv_aload_n hx hb dX0_stamp_0 rfl (lv_at hl 0 rfl) ?_
    refine lv_iload_n hx hb dX0_stamp_1 rfl (lv_at hl 1 rfl) ?_
    refine lv_iload_n hx hb dX0_stamp_2 rfl (lv_at hl 2 rfl) ?_
    refine k_V (wr := []) hP hD hS hA (va_runV (As := [.int (nI ar), .int (nI pg)]) (rest := []) ⟨hx, hb, hml, hown, hts⟩ ((tX0_needPage_ok bf pw hs lo lg rt nb fi fo en on cu ma ar pg (by omega) (by omega)) _) (cwV 2 hts gX0_stamp_X0_needPage rfl rfl rfl (by decide +kernel) ⟨Nat.le_of_ble_eq_true rfl, Nat.le_of_ble_eq_true rfl⟩) (pV_B hP hD hK (ci := 0) (q0 := 0) rfl rfl rfl [0, 1] rfl [0, 1, 2, 3, 4, 5, 6] rfl rfl) rfl rfl hl.1 rfl (lv_room (Nat.le_of_ble_eq_true rfl)) dX0_stamp_3 ⟨Nat.le_of_ble_eq_true rfl, Nat.le_of_ble_eq_true rfl⟩) [0, 1, 2, 3, 4, 5, 6] [] rfl rfl rfl (by decide) (fun H locs hP hD hS => ?_)
    have hP : va_P D vwCl (wC h0 a0 a1 a2 a3 a4 a5 cI cZ bf pw hs lo lg rt nb (nI fi) (nI fo) (nI en) on cu ma) H := hP
    have hD : va_D A (wC h0 a0 a1 a2 a3 a4 a5 cI cZ bf pw hs lo lg rt nb (nI fi) (nI fo) (nI en) on cu ma) := hD
    refine lv_iload_n hx hb dX0_stamp_6 rfl (lv_at hl 3 rfl) ?_
    refine lv_iconst (v := (nI 2)) hx hb dX0_stamp_7 (by decide) ?_
    exact k_XX hlocks hex (Nat.le_of_ble_eq_true rfl) (Nat.le_of_ble_eq_true rfl) (wr := wC h0 a0 a1 a2 a3 a4 a5 cI cZ bf pw hs lo lg rt nb (nI fi) (nI fo) (nI en) on cu ma) hP hD hS hA (vx_runS (As := [.int z, .int (nI 2)]) (rest := []) ⟨hx, hb, hml, hown, hts⟩ ((tX0_needIndex_x hl0 z 2 h) _) (va_cwS 2 hts gX0_stamp_X0_needIndex rfl rfl rfl (by decide +kernel) ⟨Nat.le_of_ble_eq_true rfl, Nat.le_of_ble_eq_true rfl⟩) (pS_X hP hD hK hS hA hT [] rfl [] rfl rfl) rfl rfl hl.1 rfl (lv_room (Nat.le_of_ble_eq_true rfl)) dX0_stamp_8 ⟨Nat.le_of_ble_eq_true rfl, Nat.le_of_ble_eq_true rfl⟩) [] [0, 1, 2, 3, 4, 5, 6] rfl rfl rfl (by decide)
set_option maxHeartbeats 4000000 in
set_option maxRecDepth 100000 in
theorem tX0_stamp_ok {l : Launch} {D : va_G} {cI cZ : ClassId} {h0 a0 a1 a2 a3 a4 a5 : Nat} (bf pw hs lo lg rt : Nat → Int32) (nb : Int32) (fi fo en : Nat) (on cu ma : Int32) (ar pg : Nat) (h1 : ar < 2) (h2 : pg < 256) (hf : Nat) (h3 : hf < 2) : RI l yX0_stamp wsX0_stamp 8 0 0 D (tyC cI cZ) (wC h0 a0 a1 a2 a3 a4 a5 cI cZ bf pw hs lo lg rt nb (nI fi) (nI fo) (nI en) on cu ma) [.ref h0, .int (nI ar), .int (nI pg), .int (nI hf)] (hs ((ar * 256 + pg) * 2 + hf)) (wC h0 a0 a1 a2 a3 a4 a5 cI cZ bf pw hs lo lg rt nb (nI fi) (nI fo) (nI en) on cu ma) := by
  refine st_I (cc := cX0_stamp) (maxL := 4) (ret := (some .int)) (by decide +kernel) rfl (Nat.le_of_ble_eq_true rfl) ?_
  intro p e s m below meth c A hx hb hr hts hown hml hlocks hK hP hD hA hS ls hl
  have hown : s.vm.findClass RX0 = some m.cls := hown
  have hl : lv_has ls 4 [(0, .ref h0), (1, .int (nI ar)), (2, .int (nI pg)), (3, .int (nI hf))] := hl
  refine lv_aload_n hx hb dX0_stamp_0 rfl (lv_at hl 0 rfl) ?_
  refine lv_iload_n hx hb dX0_stamp_1 rfl (lv_at hl 1 rfl) ?_
  refine lv_iload_n hx hb dX0_stamp_2 rfl (lv_at hl 2 rfl) ?_
  refine k_V (wr := []) hP hD hS hA (va_runV (As := [.int (nI ar), .int (nI pg)]) (rest := []) ⟨hx, hb, hml, hown, hts⟩ ((tX0_needPage_ok bf pw hs lo lg rt nb fi fo en on cu ma ar pg (by omega) (by omega)) _) (cwV 2 hts gX0_stamp_X0_needPage rfl rfl rfl (by decide +kernel) ⟨Nat.le_of_ble_eq_true rfl, Nat.le_of_ble_eq_true rfl⟩) (pV_B hP hD hK (ci := 0) (q0 := 0) rfl rfl rfl [0, 1] rfl [0, 1, 2, 3, 4, 5, 6] rfl rfl) rfl rfl hl.1 rfl (lv_room (Nat.le_of_ble_eq_true rfl)) dX0_stamp_3 ⟨Nat.le_of_ble_eq_true rfl, Nat.le_of_ble_eq_true rfl⟩) [0, 1, 2, 3, 4, 5, 6] [] rfl rfl rfl (by decide) (fun H locs hP hD hS => ?_)
  have hP : va_P D vwCl (wC h0 a0 a1 a2 a3 a4 a5 cI cZ bf pw hs lo lg rt nb (nI fi) (nI fo) (nI en) on cu ma) H := hP
  have hD : va_D A (wC h0 a0 a1 a2 a3 a4 a5 cI cZ bf pw hs lo lg rt nb (nI fi) (nI fo) (nI en) on cu ma) := hD
  refine lv_iload_n hx hb dX0_stamp_6 rfl (lv_at hl 3 rfl) ?_
  refine lv_iconst (v := (nI 2)) hx hb dX0_stamp_7 (by decide) ?_
  refine k_V (wr := wC h0 a0 a1 a2 a3 a4 a5 cI cZ bf pw hs lo lg rt nb (nI fi) (nI fo) (nI en) on cu ma) hP hD hS hA (va_runS (As := [.int (nI hf), .int (nI 2)]) (rest := []) ⟨hx, hb, hml, hown, hts⟩ ((tX0_needIndex_ok hf 2 (by omega) (by omega)) _) (va_cwS 2 hts gX0_stamp_X0_needIndex rfl rfl rfl (by decide +kernel) ⟨Nat.le_of_ble_eq_true rfl, Nat.le_of_ble_eq_true rfl⟩) (pS_B hP hD hK [] rfl [] rfl rfl) rfl rfl hl.1 rfl (lv_room (Nat.le_of_ble_eq_true rfl)) dX0_stamp_8 ⟨Nat.le_of_ble_eq_true rfl, Nat.le_of_ble_eq_true rfl⟩) [] [0, 1, 2, 3, 4, 5, 6] rfl rfl rfl (by decide) (fun H locs hP hD hS => ?_)
  have hP : va_P D vwCl (wC h0 a0 a1 a2 a3 a4 a5 cI cZ bf pw hs lo lg rt nb (nI fi) (nI fo) (nI en) on cu ma) H := hP
  have hD : va_D A (wC h0 a0 a1 a2 a3 a4 a5 cI cZ bf pw hs lo lg rt nb (nI fi) (nI fo) (nI en) on cu ma) := hD
  refine lv_aload_n hx hb dX0_stamp_11 rfl (lv_at hl 0 rfl) ?_
  refine va_get (ci := 0) (v := .ref a2) (C := RX0) (T := TX0) (N := 13) hx hb hts inX0_stamp hown hK hP 0 rfl rfl 2 (by decide) (hts _ flX0_stamp_17) (fun _ h9 => h9) rfl dX0_stamp_12 ?_
  refine lv_iload_n hx hb dX0_stamp_15 rfl (lv_at hl 1 rfl) ?_
  refine lv_iload_n hx hb dX0_stamp_16 rfl (lv_at hl 2 rfl) ?_
  refine k_I (wr := wC h0 a0 a1 a2 a3 a4 a5 cI cZ bf pw hs lo lg rt nb (nI fi) (nI fo) (nI en) on cu ma) hP hD hS hA (va_runS (As := [.int (nI ar), .int (nI pg)]) (rest := [.ref a2]) ⟨hx, hb, hml, hown, hts⟩ ((tX0_pageIndex ar pg) _) (va_cwS 2 hts gX0_stamp_X0_pageIndex rfl rfl rfl (by decide +kernel) ⟨Nat.le_of_ble_eq_true rfl, Nat.le_of_ble_eq_true rfl⟩) (pS_B hP hD hK [] rfl [] rfl rfl) rfl rfl hl.1 rfl (lv_room (Nat.le_of_ble_eq_true rfl)) dX0_stamp_17 ⟨Nat.le_of_ble_eq_true rfl, Nat.le_of_ble_eq_true rfl⟩) [] [0, 1, 2, 3, 4, 5, 6] rfl rfl rfl (by decide) (fun H locs hP hD hS => ?_)
  have hP : va_P D vwCl (wC h0 a0 a1 a2 a3 a4 a5 cI cZ bf pw hs lo lg rt nb (nI fi) (nI fo) (nI en) on cu ma) H := hP
  have hD : va_D A (wC h0 a0 a1 a2 a3 a4 a5 cI cZ bf pw hs lo lg rt nb (nI fi) (nI fo) (nI en) on cu ma) := hD
  refine lv_iconst (v := (nI 2)) hx hb dX0_stamp_20 (by decide) ?_
  refine n_imul hx hb dX0_stamp_21 ?_
  refine lv_iload_n hx hb dX0_stamp_22 rfl (lv_at hl 3 rfl) ?_
  refine n_iadd hx hb dX0_stamp_23 ?_
  refine n_iald hx hb hK hP 3 0 rfl rfl (((ar * 256 + pg) * 2) + hf) (by omega) (by omega) dX0_stamp_24 ?_
  exact e_I hx hb hr hlocks hP hD hS rfl dX0_stamp_25
set_option maxHeartbeats 4000000 in
set_option maxRecDepth 100000 in
theorem tX0_count_xb {l : Launch} {D : va_G} {cI cZ : ClassId} {h0 a0 a1 a2 a3 a4 a5 : Nat} (hl0 : l.stackTraces = false) (bf pw hs lo lg rt : Nat → Int32) (nb : Int32) (fi fo en : Nat) (on cu ma : Int32) (x y : Int32) (h : badC x y) : RX l yX0_count wsX0_count 8 D (tyC cI cZ) (wC h0 a0 a1 a2 a3 a4 a5 cI cZ bf pw hs lo lg rt nb (nI fi) (nI fo) (nI en) on cu ma) [.ref h0, .int x, .int y] xIOB := by
  refine st_X (cc := cX0_count) (maxL := 5) (ret := (some .int)) (by decide +kernel) rfl (Nat.le_of_ble_eq_true rfl) ?_
  intro p e s m below meth c A hx hb hr hts hown hml hlocks hK hP hD hA hS ls hl hT hex
  have hown : s.vm.findClass RX0 = some m.cls := hown
  have hl : lv_has ls 5 [(0, .ref h0), (1, .int x), (2, .int y)] := hl
  rcases h with h | ⟨ar, h1, rfl, h⟩
  · refine lv_iload_n hx hb dX0_count_0 rfl (lv_at hl 1 rfl) ?_
    refine lv_iconst (v := (nI 2)) hx hb dX0_count_1 (by decide) ?_
    exact k_XX hlocks hex (Nat.le_of_ble_eq_true rfl) (Nat.le_of_ble_eq_true rfl) (wr := wC h0 a0 a1 a2 a3 a4 a5 cI cZ bf pw hs lo lg rt nb (nI fi) (nI fo) (nI en) on cu ma) hP hD hS hA (vx_runS (As := [.int x, .int (nI 2)]) (rest := []) ⟨hx, hb, hml, hown, hts⟩ ((tX0_needIndex_x hl0 x 2 h) _) (va_cwS 2 hts gX0_count_X0_needIndex rfl rfl rfl (by decide +kernel) ⟨Nat.le_of_ble_eq_true rfl, Nat.le_of_ble_eq_true rfl⟩) (pS_X hP hD hK hS hA hT [] rfl [] rfl rfl) rfl rfl hl.1 rfl (lv_room (Nat.le_of_ble_eq_true rfl)) dX0_count_2 ⟨Nat.le_of_ble_eq_true rfl, Nat.le_of_ble_eq_true rfl⟩) [] [0, 1, 2, 3, 4, 5, 6] rfl rfl rfl (by decide)
  · refine lv_iload_n hx hb dX0_count_0 rfl (lv_at hl 1 rfl) ?_
    refine lv_iconst (v := (nI 2)) hx hb dX0_count_1 (by decide) ?_
    refine k_V (wr := wC h0 a0 a1 a2 a3 a4 a5 cI cZ bf pw hs lo lg rt nb (nI fi) (nI fo) (nI en) on cu ma) hP hD hS hA (va_runS (As := [.int (nI ar), .int (nI 2)]) (rest := []) ⟨hx, hb, hml, hown, hts⟩ ((tX0_needIndex_ok ar 2 (by omega) (by omega)) _) (va_cwS 2 hts gX0_count_X0_needIndex rfl rfl rfl (by decide +kernel) ⟨Nat.le_of_ble_eq_true rfl, Nat.le_of_ble_eq_true rfl⟩) (pS_B hP hD hK [] rfl [] rfl rfl) rfl rfl hl.1 rfl (lv_room (Nat.le_of_ble_eq_true rfl)) dX0_count_2 ⟨Nat.le_of_ble_eq_true rfl, Nat.le_of_ble_eq_true rfl⟩) [] [0, 1, 2, 3, 4, 5, 6] rfl rfl rfl (by decide) (fun H locs hP hD hS => ?_)
    have hP : va_P D vwCl (wC h0 a0 a1 a2 a3 a4 a5 cI cZ bf pw hs lo lg rt nb (nI fi) (nI fo) (nI en) on cu ma) H := hP
    have hD : va_D A (wC h0 a0 a1 a2 a3 a4 a5 cI cZ bf pw hs lo lg rt nb (nI fi) (nI fo) (nI en) on cu ma) := hD
    refine lv_iload_n hx hb dX0_count_5 rfl (lv_at hl 2 rfl) ?_
    refine lv_iconst (v := (nI 3)) hx hb dX0_count_6 (by decide) ?_
    exact k_XX hlocks hex (Nat.le_of_ble_eq_true rfl) (Nat.le_of_ble_eq_true rfl) (wr := wC h0 a0 a1 a2 a3 a4 a5 cI cZ bf pw hs lo lg rt nb (nI fi) (nI fo) (nI en) on cu ma) hP hD hS hA (vx_runS (As := [.int y, .int (nI 3)]) (rest := []) ⟨hx, hb, hml, hown, hts⟩ ((tX0_needIndex_x hl0 y 3 h) _) (va_cwS 2 hts gX0_count_X0_needIndex rfl rfl rfl (by decide +kernel) ⟨Nat.le_of_ble_eq_true rfl, Nat.le_of_ble_eq_true rfl⟩) (pS_X hP hD hK hS hA hT [] rfl [] rfl rfl) rfl rfl hl.1 rfl (lv_room (Nat.le_of_ble_eq_true rfl)) dX0_count_7 ⟨Nat.le_of_ble_eq_true rfl, Nat.le_of_ble_eq_true rfl⟩) [] [0, 1, 2, 3, 4, 5, 6] rfl rfl rfl (by decide)
set_option maxHeartbeats 4000000 in
set_option maxRecDepth 100000 in
theorem tX0_count_ok {l : Launch} {D : va_G} {cI cZ : ClassId} {h0 a0 a1 a2 a3 a4 a5 : Nat} (bf pw hs lo lg rt : Nat → Int32) (nb : Int32) (fi fo en : Nat) (on cu ma : Int32) (ar st : Nat) (h1 : ar < 2) (h2 : st < 3) : RI l yX0_count wsX0_count 8 0 0 D (tyC cI cZ) (wC h0 a0 a1 a2 a3 a4 a5 cI cZ bf pw hs lo lg rt nb (nI fi) (nI fo) (nI en) on cu ma) [.ref h0, .int (nI ar), .int (nI st)] (sp_ct lo hs ar (nI st) 256) (wC h0 a0 a1 a2 a3 a4 a5 cI cZ bf pw hs lo lg rt nb (nI fi) (nI fo) (nI en) on cu ma) := by
  refine st_I (cc := cX0_count) (maxL := 5) (ret := (some .int)) (by decide +kernel) rfl (Nat.le_of_ble_eq_true rfl) ?_
  intro p e s m below meth c A hx hb hr hts hown hml hlocks hK hP hD hA hS ls hl
  have hown : s.vm.findClass RX0 = some m.cls := hown
  have hl : lv_has ls 5 [(0, .ref h0), (1, .int (nI ar)), (2, .int (nI st))] := hl
  refine lv_iload_n hx hb dX0_count_0 rfl (lv_at hl 1 rfl) ?_
  refine lv_iconst (v := (nI 2)) hx hb dX0_count_1 (by decide) ?_
  refine k_V (wr := wC h0 a0 a1 a2 a3 a4 a5 cI cZ bf pw hs lo lg rt nb (nI fi) (nI fo) (nI en) on cu ma) hP hD hS hA (va_runS (As := [.int (nI ar), .int (nI 2)]) (rest := []) ⟨hx, hb, hml, hown, hts⟩ ((tX0_needIndex_ok ar 2 (by omega) (by omega)) _) (va_cwS 2 hts gX0_count_X0_needIndex rfl rfl rfl (by decide +kernel) ⟨Nat.le_of_ble_eq_true rfl, Nat.le_of_ble_eq_true rfl⟩) (pS_B hP hD hK [] rfl [] rfl rfl) rfl rfl hl.1 rfl (lv_room (Nat.le_of_ble_eq_true rfl)) dX0_count_2 ⟨Nat.le_of_ble_eq_true rfl, Nat.le_of_ble_eq_true rfl⟩) [] [0, 1, 2, 3, 4, 5, 6] rfl rfl rfl (by decide) (fun H locs hP hD hS => ?_)
  have hP : va_P D vwCl (wC h0 a0 a1 a2 a3 a4 a5 cI cZ bf pw hs lo lg rt nb (nI fi) (nI fo) (nI en) on cu ma) H := hP
  have hD : va_D A (wC h0 a0 a1 a2 a3 a4 a5 cI cZ bf pw hs lo lg rt nb (nI fi) (nI fo) (nI en) on cu ma) := hD
  refine lv_iload_n hx hb dX0_count_5 rfl (lv_at hl 2 rfl) ?_
  refine lv_iconst (v := (nI 3)) hx hb dX0_count_6 (by decide) ?_
  refine k_V (wr := wC h0 a0 a1 a2 a3 a4 a5 cI cZ bf pw hs lo lg rt nb (nI fi) (nI fo) (nI en) on cu ma) hP hD hS hA (va_runS (As := [.int (nI st), .int (nI 3)]) (rest := []) ⟨hx, hb, hml, hown, hts⟩ ((tX0_needIndex_ok st 3 (by omega) (by omega)) _) (va_cwS 2 hts gX0_count_X0_needIndex rfl rfl rfl (by decide +kernel) ⟨Nat.le_of_ble_eq_true rfl, Nat.le_of_ble_eq_true rfl⟩) (pS_B hP hD hK [] rfl [] rfl rfl) rfl rfl hl.1 rfl (lv_room (Nat.le_of_ble_eq_true rfl)) dX0_count_7 ⟨Nat.le_of_ble_eq_true rfl, Nat.le_of_ble_eq_true rfl⟩) [] [0, 1, 2, 3, 4, 5, 6] rfl rfl rfl (by decide) (fun H locs hP hD hS => ?_)
  have hP : va_P D vwCl (wC h0 a0 a1 a2 a3 a4 a5 cI cZ bf pw hs lo lg rt nb (nI fi) (nI fo) (nI en) on cu ma) H := hP
  have hD : va_D A (wC h0 a0 a1 a2 a3 a4 a5 cI cZ bf pw hs lo lg rt nb (nI fi) (nI fo) (nI en) on cu ma) := hD
  refine lv_iconst (v := (0)) hx hb dX0_count_10 (by decide) ?_
  refine lv_istore_n (lv' := [(3, .int 0), (0, .ref h0), (1, .int (nI ar)), (2, .int (nI st))]) hx hb dX0_count_11 rfl hl (by decide) rfl (fun ls hl => ?_)
  refine lv_iconst (v := (nI 0)) hx hb dX0_count_12 (by decide) ?_
  refine lv_istore (lv' := [(4, .int (nI 0)), (3, .int 0), (0, .ref h0), (1, .int (nI ar)), (2, .int (nI st))]) hx hb dX0_count_13 hl (by decide) rfl (fun ls hl => ?_)
  have lp_15 : ∀ (n9 i : Nat), i + n9 = 256 → ∀ (H : Heap) (locs : List Loc) (ls : Array Slot), va_P D vwCl (wC h0 a0 a1 a2 a3 a4 a5 cI cZ bf pw hs lo lg rt nb (nI fi) (nI fo) (nI en) on cu ma) H → va_D A (wC h0 a0 a1 a2 a3 a4 a5 cI cZ bf pw hs lo lg rt nb (nI fi) (nI fo) (nI en) on cu ma) → va_S A s.heap H locs → lv_has ls 5 [(0, .ref h0), (1, .int (nI ar)), (2, .int (nI st)), (3, .int (sp_ct lo hs ar (nI st) i)), (4, .int (nI i))] → W p l e (rmL 8 0 0) s m ([.ref h0, .int (nI ar), .int (nI st)] : List Value).toArray below meth c H locs 0 0 (MQ below (qcI D A (sp_ct lo hs ar (nI st) 256) (wC h0 a0 a1 a2 a3 a4 a5 cI cZ bf pw hs lo lg rt nb (nI fi) (nI fo) (nI en) on cu ma)) ([.ref h0, .int (nI ar), .int (nI st)] : List Value).toArray s 0 0 A) (F0 m 15 ls []) := by
    intro n9
    induction n9 with
    | zero =>
      intro i hi H locs ls hP hD hS hl
      obtain rfl : i = 256 := by omega
      refine lv_iload hx hb dX0_count_15 (lv_at hl 4 rfl) ?_
      refine lv_sipush (v := (nI 256)) hx hb dX0_count_17 (by decide) ?_
      refine n_ge (tgt := 46) hx hb (by omega) (by omega) dX0_count_20 (by decide) (fun c_20 => ?_) (fun c_20 => absurd c_20 (by omega))
      refine lv_iload_n hx hb dX0_count_46 rfl (lv_at hl 3 rfl) ?_
      exact e_I hx hb hr hlocks hP hD hS rfl dX0_count_47
    | succ n9 ih =>
      intro i hi H locs ls hP hD hS hl
      refine lv_iload hx hb dX0_count_15 (lv_at hl 4 rfl) ?_
      refine lv_sipush (v := (nI 256)) hx hb dX0_count_17 (by decide) ?_
      refine n_ge (tgt := 46) hx hb (by omega) (by omega) dX0_count_20 (by decide) (fun c_20 => absurd c_20 (by omega)) (fun c_20 => ?_)
      refine lv_aload_n hx hb dX0_count_23 rfl (lv_at hl 0 rfl) ?_
      refine lv_iload_n hx hb dX0_count_24 rfl (lv_at hl 1 rfl) ?_
      refine lv_iload hx hb dX0_count_25 (lv_at hl 4 rfl) ?_
      refine k_I (wr := wC h0 a0 a1 a2 a3 a4 a5 cI cZ bf pw hs lo lg rt nb (nI fi) (nI fo) (nI en) on cu ma) hP hD hS hA (va_runS (As := [.int (nI ar), .int (nI i)]) (rest := [.ref h0]) ⟨hx, hb, hml, hown, hts⟩ ((tX0_pageIndex ar i) _) (va_cwS 2 hts gX0_count_X0_pageIndex rfl rfl rfl (by decide +kernel) ⟨Nat.le_of_ble_eq_true rfl, Nat.le_of_ble_eq_true rfl⟩) (pS_B hP hD hK [] rfl [] rfl rfl) rfl rfl hl.1 rfl (lv_room (Nat.le_of_ble_eq_true rfl)) dX0_count_27 ⟨Nat.le_of_ble_eq_true rfl, Nat.le_of_ble_eq_true rfl⟩) [] [0, 1, 2, 3, 4, 5, 6] rfl rfl rfl (by decide) (fun H locs hP hD hS => ?_)
      have hP : va_P D vwCl (wC h0 a0 a1 a2 a3 a4 a5 cI cZ bf pw hs lo lg rt nb (nI fi) (nI fo) (nI en) on cu ma) H := hP
      have hD : va_D A (wC h0 a0 a1 a2 a3 a4 a5 cI cZ bf pw hs lo lg rt nb (nI fi) (nI fo) (nI en) on cu ma) := hD
      refine k_I (wr := []) hP hD hS hA (va_runV (As := [.int (nI (ar * 256 + i))]) (rest := []) ⟨hx, hb, hml, hown, hts⟩ ((tX0_pageState bf pw hs lo lg rt nb fi fo en on cu ma (ar * 256 + i) (by omega)) _) (cwV 1 hts gX0_count_X0_pageState rfl rfl rfl (by decide +kernel) ⟨Nat.le_of_ble_eq_true rfl, Nat.le_of_ble_eq_true rfl⟩) (pV_B hP hD hK (ci := 0) (q0 := 0) rfl rfl rfl [0, 1] rfl [0, 1, 2, 3, 4, 5, 6] rfl rfl) rfl rfl hl.1 rfl (lv_room (Nat.le_of_ble_eq_true rfl)) dX0_count_30 ⟨Nat.le_of_ble_eq_true rfl, Nat.le_of_ble_eq_true rfl⟩) [0, 1, 2, 3, 4, 5, 6] [] rfl rfl rfl (by decide) (fun H locs hP hD hS => ?_)
      have hP : va_P D vwCl (wC h0 a0 a1 a2 a3 a4 a5 cI cZ bf pw hs lo lg rt nb (nI fi) (nI fo) (nI en) on cu ma) H := hP
      have hD : va_D A (wC h0 a0 a1 a2 a3 a4 a5 cI cZ bf pw hs lo lg rt nb (nI fi) (nI fo) (nI en) on cu ma) := hD
      refine lv_iload_n hx hb dX0_count_33 rfl (lv_at hl 2 rfl) ?_
      refine lv_icmp_ne (tgt := 40) hx hb dX0_count_34 (by decide) (fun c_34 => ?_) (fun c_34 => ?_)
      · refine n_iinc (lv' := [(4, .int (nI (i + 1))), (0, .ref h0), (1, .int (nI ar)), (2, .int (nI st)), (3, .int (sp_ct lo hs ar (nI st) i))]) hx hb dX0_count_40 hl (k := 4) rfl (by decide) rfl (fun ls hl => ?_)
        refine lv_goto (tgt := 15) hx hb dX0_count_43 (by decide) ?_
        have e9 : sp_ct lo hs ar (nI st) (i + 1) = sp_ct lo hs ar (nI st) i := by simp [sp_ct, c_34]
        rw [← e9] at hl
        have hP : va_P D vwCl (wC h0 a0 a1 a2 a3 a4 a5 cI cZ bf pw hs lo lg rt nb (nI fi) (nI fo) (nI en) on cu ma) H := by skip; exact hP
        have hD : va_D A (wC h0 a0 a1 a2 a3 a4 a5 cI cZ bf pw hs lo lg rt nb (nI fi) (nI fo) (nI en) on cu ma) := by skip; exact hD
        exact ih (i + 1) (by omega) _ _ _ hP hD hS (lv_sub hl [1, 2, 3, 4, 0] rfl)
      · refine lv_iinc (v := (sp_ct lo hs ar (nI st) i) + 1) (lv' := [(3, .int ((sp_ct lo hs ar (nI st) i) + 1)), (0, .ref h0), (1, .int (nI ar)), (2, .int (nI st)), (4, .int (nI i))]) hx hb dX0_count_37 hl (k := 3) rfl rfl (by decide) rfl (fun ls hl => ?_)
        refine n_iinc (lv' := [(4, .int (nI (i + 1))), (3, .int ((sp_ct lo hs ar (nI st) i) + 1)), (0, .ref h0), (1, .int (nI ar)), (2, .int (nI st))]) hx hb dX0_count_40 hl (k := 4) rfl (by decide) rfl (fun ls hl => ?_)
        refine lv_goto (tgt := 15) hx hb dX0_count_43 (by decide) ?_
        have e9 : sp_ct lo hs ar (nI st) (i + 1) = (sp_ct lo hs ar (nI st) i) + 1 := by simp [sp_ct, c_34]
        rw [← e9] at hl
        have hP : va_P D vwCl (wC h0 a0 a1 a2 a3 a4 a5 cI cZ bf pw hs lo lg rt nb (nI fi) (nI fo) (nI en) on cu ma) H := by skip; exact hP
        have hD : va_D A (wC h0 a0 a1 a2 a3 a4 a5 cI cZ bf pw hs lo lg rt nb (nI fi) (nI fo) (nI en) on cu ma) := by skip; exact hD
        exact ih (i + 1) (by omega) _ _ _ hP hD hS (lv_sub hl [2, 3, 4, 1, 0] rfl)
  have hP : va_P D vwCl (wC h0 a0 a1 a2 a3 a4 a5 cI cZ bf pw hs lo lg rt nb (nI fi) (nI fo) (nI en) on cu ma) H := by skip; exact hP
  have hD : va_D A (wC h0 a0 a1 a2 a3 a4 a5 cI cZ bf pw hs lo lg rt nb (nI fi) (nI fo) (nI en) on cu ma) := by skip; exact hD
  exact lp_15 256 0 (by omega) _ _ _ hP hD hS (lv_sub hl [2, 3, 4, 1, 0] rfl)
end
section
/-! OWN ROWS, by program: the class, its log, roots and power -/
set_option maxHeartbeats 4000000 in
set_option maxRecDepth 100000 in
theorem tX0_append_xb {l : Launch} {D : va_G} {cI cZ : ClassId} {h0 a0 a1 a2 a3 a4 a5 : Nat} (hl0 : l.stackTraces = false) (bf pw hs lo lg rt : Nat → Int32) (nb : Int32) (fi fo en : Nat) (cu ma : Int32) (x : Int32) (h : x < nI 1 ∨ nI 64 < x) : RX l yX0_append wsX0_append 8 D (tyC cI cZ) (wC h0 a0 a1 a2 a3 a4 a5 cI cZ bf pw hs lo lg rt nb (nI fi) (nI fo) (nI en) 1 cu ma) [.ref h0, .int x] xIAE := by
  refine st_X (cc := cX0_append) (maxL := 4) (ret := (some .int)) (by decide +kernel) rfl (Nat.le_of_ble_eq_true rfl) ?_
  intro p e s m below meth c A hx hb hr hts hown hml hlocks hK hP hD hA hS ls hl hT hex
  have hown : s.vm.findClass RX0 = some m.cls := hown
  have hl : lv_has ls 4 [(0, .ref h0), (1, .int x)] := hl
  refine lv_aload_n hx hb dX0_append_0 rfl (lv_at hl 0 rfl) ?_
  refine k_V (wr := []) hP hD hS hA (va_runV (As := []) (rest := []) ⟨hx, hb, hml, hown, hts⟩ ((tX0_needPower_ok bf pw hs lo lg rt nb fi fo en cu ma) _) (cwV 0 hts gX0_append_X0_needPower rfl rfl rfl (by decide +kernel) ⟨Nat.le_of_ble_eq_true rfl, Nat.le_of_ble_eq_true rfl⟩) (pV_B hP hD hK (ci := 0) (q0 := 0) rfl rfl rfl [0, 1] rfl [0, 1, 2, 3, 4, 5, 6] rfl rfl) rfl rfl hl.1 rfl (lv_room (Nat.le_of_ble_eq_true rfl)) dX0_append_1 ⟨Nat.le_of_ble_eq_true rfl, Nat.le_of_ble_eq_true rfl⟩) [0, 1, 2, 3, 4, 5, 6] [] rfl rfl rfl (by decide) (fun H locs hP hD hS => ?_)
  have hP : va_P D vwCl (wC h0 a0 a1 a2 a3 a4 a5 cI cZ bf pw hs lo lg rt nb (nI fi) (nI fo) (nI en) 1 cu ma) H := hP
  have hD : va_D A (wC h0 a0 a1 a2 a3 a4 a5 cI cZ bf pw hs lo lg rt nb (nI fi) (nI fo) (nI en) 1 cu ma) := hD
  refine lv_iload_n hx hb dX0_append_4 rfl (lv_at hl 1 rfl) ?_
  exact k_XX hlocks hex (Nat.le_of_ble_eq_true rfl) (Nat.le_of_ble_eq_true rfl) (wr := wC h0 a0 a1 a2 a3 a4 a5 cI cZ bf pw hs lo lg rt nb (nI fi) (nI fo) (nI en) 1 cu ma) hP hD hS hA (vx_runS (As := [.int x]) (rest := []) ⟨hx, hb, hml, hown, hts⟩ ((tX0_needWordCount_x hl0 x h) _) (va_cwS 1 hts gX0_append_X0_needWordCount rfl rfl rfl (by decide +kernel) ⟨Nat.le_of_ble_eq_true rfl, Nat.le_of_ble_eq_true rfl⟩) (pS_X hP hD hK hS hA hT [] rfl [] rfl rfl) rfl rfl hl.1 rfl (lv_room (Nat.le_of_ble_eq_true rfl)) dX0_append_5 ⟨Nat.le_of_ble_eq_true rfl, Nat.le_of_ble_eq_true rfl⟩) [] [0, 1, 2, 3, 4, 5, 6] rfl rfl rfl (by decide)
set_option maxHeartbeats 4000000 in
set_option maxRecDepth 100000 in
theorem tX0_append_ok {l : Launch} {D : va_G} {cI cZ : ClassId} {h0 a0 a1 a2 a3 a4 a5 : Nat} (bf pw hs lo lg rt : Nat → Int32) (nb : Int32) (fi fo en : Nat) (cu ma : Int32) (k : Nat) (hk : 1 ≤ k) (hk2 : k ≤ 64) (hf : fi ≤ en) (he : en ≤ 60000) : RI l yX0_append wsX0_append 8 0 0 D (tyC cI cZ) (wC h0 a0 a1 a2 a3 a4 a5 cI cZ bf pw hs lo lg rt nb (nI fi) (nI fo) (nI en) 1 cu ma) [.ref h0, .int (nI k)] (nI en) (wC h0 a0 a1 a2 a3 a4 a5 cI cZ bf pw hs lo (sp_ap bf en lg k) rt nb (nI fi) (nI fo) (nI (en + k)) 1 cu ma) := by
  refine st_I (cc := cX0_append) (maxL := 4) (ret := (some .int)) (by decide +kernel) rfl (Nat.le_of_ble_eq_true rfl) ?_
  intro p e s m below meth c A hx hb hr hts hown hml hlocks hK hP hD hA hS ls hl
  have hown : s.vm.findClass RX0 = some m.cls := hown
  have hl : lv_has ls 4 [(0, .ref h0), (1, .int (nI k))] := hl
  refine lv_aload_n hx hb dX0_append_0 rfl (lv_at hl 0 rfl) ?_
  refine k_V (wr := []) hP hD hS hA (va_runV (As := []) (rest := []) ⟨hx, hb, hml, hown, hts⟩ ((tX0_needPower_ok bf pw hs lo lg rt nb fi fo en cu ma) _) (cwV 0 hts gX0_append_X0_needPower rfl rfl rfl (by decide +kernel) ⟨Nat.le_of_ble_eq_true rfl, Nat.le_of_ble_eq_true rfl⟩) (pV_B hP hD hK (ci := 0) (q0 := 0) rfl rfl rfl [0, 1] rfl [0, 1, 2, 3, 4, 5, 6] rfl rfl) rfl rfl hl.1 rfl (lv_room (Nat.le_of_ble_eq_true rfl)) dX0_append_1 ⟨Nat.le_of_ble_eq_true rfl, Nat.le_of_ble_eq_true rfl⟩) [0, 1, 2, 3, 4, 5, 6] [] rfl rfl rfl (by decide) (fun H locs hP hD hS => ?_)
  have hP : va_P D vwCl (wC h0 a0 a1 a2 a3 a4 a5 cI cZ bf pw hs lo lg rt nb (nI fi) (nI fo) (nI en) 1 cu ma) H := hP
  have hD : va_D A (wC h0 a0 a1 a2 a3 a4 a5 cI cZ bf pw hs lo lg rt nb (nI fi) (nI fo) (nI en) 1 cu ma) := hD
  refine lv_iload_n hx hb dX0_append_4 rfl (lv_at hl 1 rfl) ?_
  refine k_V (wr := wC h0 a0 a1 a2 a3 a4 a5 cI cZ bf pw hs lo lg rt nb (nI fi) (nI fo) (nI en) 1 cu ma) hP hD hS hA (va_runS (As := [.int (nI k)]) (rest := []) ⟨hx, hb, hml, hown, hts⟩ ((tX0_needWordCount_ok k (by omega) (by omega)) _) (va_cwS 1 hts gX0_append_X0_needWordCount rfl rfl rfl (by decide +kernel) ⟨Nat.le_of_ble_eq_true rfl, Nat.le_of_ble_eq_true rfl⟩) (pS_B hP hD hK [] rfl [] rfl rfl) rfl rfl hl.1 rfl (lv_room (Nat.le_of_ble_eq_true rfl)) dX0_append_5 ⟨Nat.le_of_ble_eq_true rfl, Nat.le_of_ble_eq_true rfl⟩) [] [0, 1, 2, 3, 4, 5, 6] rfl rfl rfl (by decide) (fun H locs hP hD hS => ?_)
  have hP : va_P D vwCl (wC h0 a0 a1 a2 a3 a4 a5 cI cZ bf pw hs lo lg rt nb (nI fi) (nI fo) (nI en) 1 cu ma) H := hP
  have hD : va_D A (wC h0 a0 a1 a2 a3 a4 a5 cI cZ bf pw hs lo lg rt nb (nI fi) (nI fo) (nI en) 1 cu ma) := hD
  refine lv_iload_n hx hb dX0_append_8 rfl (lv_at hl 1 rfl) ?_
  refine lv_ldc (v := nI 65536) hx hb hown (hts (.constant RX0 24 (65536)) (by decide +kernel)) dX0_append_9 ?_
  refine lv_aload_n hx hb dX0_append_11 rfl (lv_at hl 0 rfl) ?_
  refine va_get (ci := 0) (v := .int (nI en)) (C := RX0) (T := TX0) (N := 13) hx hb hts inX0_append hown hK hP 0 rfl rfl 8 (by decide) (hts _ flX0_append_84) (fun _ h9 => h9) rfl dX0_append_12 ?_
  refine lv_aload_n hx hb dX0_append_15 rfl (lv_at hl 0 rfl) ?_
  refine va_get (ci := 0) (v := .int (nI fi)) (C := RX0) (T := TX0) (N := 13) hx hb hts inX0_append hown hK hP 0 rfl rfl 6 (by decide) (hts _ flX0_append_87) (fun _ h9 => h9) rfl dX0_append_16 ?_
  refine n_isub hx hb (by omega) dX0_append_19 ?_
  refine n_isub hx hb (by omega) dX0_append_20 ?_
  refine n_le (tgt := 26) hx hb (by omega) (by omega) dX0_append_21 (by decide) (fun c_21 => ?_) (fun c_21 => absurd c_21 (by omega))
  refine lv_aload_n hx hb dX0_append_26 rfl (lv_at hl 0 rfl) ?_
  refine va_get (ci := 0) (v := .int (nI en)) (C := RX0) (T := TX0) (N := 13) hx hb hts inX0_append hown hK hP 0 rfl rfl 8 (by decide) (hts _ flX0_append_84) (fun _ h9 => h9) rfl dX0_append_27 ?_
  refine lv_istore_n (lv' := [(2, .int (nI en)), (0, .ref h0), (1, .int (nI k))]) hx hb dX0_append_30 rfl hl (by decide) rfl (fun ls hl => ?_)
  refine lv_iconst (v := (nI 0)) hx hb dX0_append_31 (by decide) ?_
  refine lv_istore_n (lv' := [(3, .int (nI 0)), (2, .int (nI en)), (0, .ref h0), (1, .int (nI k))]) hx hb dX0_append_32 rfl hl (by decide) rfl (fun ls hl => ?_)
  have lp_33 : ∀ (n9 i : Nat), i + n9 = k → ∀ (H : Heap) (locs : List Loc) (ls : Array Slot), va_P D vwCl (wC h0 a0 a1 a2 a3 a4 a5 cI cZ bf pw hs lo (sp_ap bf en lg i) rt nb (nI fi) (nI fo) (nI en) 1 cu ma) H → va_D A (wC h0 a0 a1 a2 a3 a4 a5 cI cZ bf pw hs lo (sp_ap bf en lg i) rt nb (nI fi) (nI fo) (nI en) 1 cu ma) → va_S A s.heap H locs → lv_has ls 4 [(0, .ref h0), (1, .int (nI k)), (2, .int (nI en)), (3, .int (nI i))] → W p l e (rmL 8 0 0) s m ([.ref h0, .int (nI k)] : List Value).toArray below meth c H locs 0 0 (MQ below (qcI D A (nI en) (wC h0 a0 a1 a2 a3 a4 a5 cI cZ bf pw hs lo (sp_ap bf en lg k) rt nb (nI fi) (nI fo) (nI (en + k)) 1 cu ma)) ([.ref h0, .int (nI k)] : List Value).toArray s 0 0 A) (F0 m 33 ls []) := by
    intro n9
    induction n9 with
    | zero =>
      intro i hi H locs ls hP hD hS hl
      obtain rfl : k = i := by omega
      refine lv_iload_n hx hb dX0_append_33 rfl (lv_at hl 3 rfl) ?_
      refine lv_iload_n hx hb dX0_append_34 rfl (lv_at hl 1 rfl) ?_
      refine n_ge (tgt := 61) hx hb (by omega) (by omega) dX0_append_35 (by decide) (fun c_35 => ?_) (fun c_35 => absurd c_35 (by omega))
      refine lv_aload_n hx hb dX0_append_61 rfl (lv_at hl 0 rfl) ?_
      refine lv_iload_n hx hb dX0_append_62 rfl (lv_at hl 2 rfl) ?_
      refine lv_iload_n hx hb dX0_append_63 rfl (lv_at hl 1 rfl) ?_
      refine n_iadd hx hb dX0_append_64 ?_
      refine va_put (ci := 0) (v := .int (nI (en + k))) (ty := .int) (C := RX0) (T := TX0) (N := 13) hx hb hts inX0_append tyX0 tyX0_ok nmX0 hown hK hP hD hS 0 rfl rfl 8 (by decide) (hts _ flX0_append_84) (fun _ h9 => h9) rfl (by decide +kernel) rfl rfl (Nat.le_of_ble_eq_true rfl) dX0_append_65 (fun H locs hP hD hS => ?_)
      have hP : va_P D vwCl (wC h0 a0 a1 a2 a3 a4 a5 cI cZ bf pw hs lo (sp_ap bf en lg k) rt nb (nI fi) (nI fo) (nI (en + k)) 1 cu ma) H := hP
      have hD : va_D A (wC h0 a0 a1 a2 a3 a4 a5 cI cZ bf pw hs lo (sp_ap bf en lg k) rt nb (nI fi) (nI fo) (nI (en + k)) 1 cu ma) := hD
      refine lv_iload_n hx hb dX0_append_68 rfl (lv_at hl 2 rfl) ?_
      exact e_I hx hb hr hlocks hP hD hS rfl dX0_append_69
    | succ n9 ih =>
      intro i hi H locs ls hP hD hS hl
      refine lv_iload_n hx hb dX0_append_33 rfl (lv_at hl 3 rfl) ?_
      refine lv_iload_n hx hb dX0_append_34 rfl (lv_at hl 1 rfl) ?_
      refine n_ge (tgt := 61) hx hb (by omega) (by omega) dX0_append_35 (by decide) (fun c_35 => absurd c_35 (by omega)) (fun c_35 => ?_)
      refine lv_aload_n hx hb dX0_append_38 rfl (lv_at hl 0 rfl) ?_
      refine va_get (ci := 0) (v := .ref a4) (C := RX0) (T := TX0) (N := 13) hx hb hts inX0_append hown hK hP 0 rfl rfl 5 (by decide) (hts _ flX0_append_25) (fun _ h9 => h9) rfl dX0_append_39 ?_
      refine lv_iload_n hx hb dX0_append_42 rfl (lv_at hl 2 rfl) ?_
      refine lv_iload_n hx hb dX0_append_43 rfl (lv_at hl 3 rfl) ?_
      refine n_iadd hx hb dX0_append_44 ?_
      refine k_I (wr := wC h0 a0 a1 a2 a3 a4 a5 cI cZ bf pw hs lo (sp_ap bf en lg i) rt nb (nI fi) (nI fo) (nI en) 1 cu ma) hP hD hS hA (va_runS (As := [.int (nI (en + i))]) (rest := [.ref a4]) ⟨hx, hb, hml, hown, hts⟩ ((tX0_logSlot (en + i) (by omega)) _) (va_cwS 1 hts gX0_append_X0_logSlot rfl rfl rfl (by decide +kernel) ⟨Nat.le_of_ble_eq_true rfl, Nat.le_of_ble_eq_true rfl⟩) (pS_B hP hD hK [] rfl [] rfl rfl) rfl rfl hl.1 rfl (lv_room (Nat.le_of_ble_eq_true rfl)) dX0_append_45 ⟨Nat.le_of_ble_eq_true rfl, Nat.le_of_ble_eq_true rfl⟩) [] [0, 1, 2, 3, 4, 5, 6] rfl rfl rfl (by decide) (fun H locs hP hD hS => ?_)
      have hP : va_P D vwCl (wC h0 a0 a1 a2 a3 a4 a5 cI cZ bf pw hs lo (sp_ap bf en lg i) rt nb (nI fi) (nI fo) (nI en) 1 cu ma) H := hP
      have hD : va_D A (wC h0 a0 a1 a2 a3 a4 a5 cI cZ bf pw hs lo (sp_ap bf en lg i) rt nb (nI fi) (nI fo) (nI en) 1 cu ma) := hD
      refine lv_aload_n hx hb dX0_append_48 rfl (lv_at hl 0 rfl) ?_
      refine va_get (ci := 0) (v := .ref a0) (C := RX0) (T := TX0) (N := 13) hx hb hts inX0_append hown hK hP 0 rfl rfl 0 (by decide) (hts _ flX0_append_9) (fun _ h9 => h9) rfl dX0_append_49 ?_
      refine lv_iload_n hx hb dX0_append_52 rfl (lv_at hl 3 rfl) ?_
      refine n_iald hx hb hK hP 1 0 rfl rfl i (by omega) (by omega) dX0_append_53 ?_
      refine n_iast hx hb hK hP hD hS 5 0 rfl rfl ((en + i) % 65536) (by omega) (by omega) dX0_append_54 (fun H locs hP hD hS => ?_)
      have hP : va_P D vwCl (wC h0 a0 a1 a2 a3 a4 a5 cI cZ bf pw hs lo (upd (sp_ap bf en lg i) ((en + i) % 65536) (bf i)) rt nb (nI fi) (nI fo) (nI en) 1 cu ma) H := hP
      have hD : va_D A (wC h0 a0 a1 a2 a3 a4 a5 cI cZ bf pw hs lo (upd (sp_ap bf en lg i) ((en + i) % 65536) (bf i)) rt nb (nI fi) (nI fo) (nI en) 1 cu ma) := hD
      refine n_iinc (lv' := [(3, .int (nI (i + 1))), (0, .ref h0), (1, .int (nI k)), (2, .int (nI en))]) hx hb dX0_append_55 hl (k := 3) rfl (by decide) rfl (fun ls hl => ?_)
      refine lv_goto (tgt := 33) hx hb dX0_append_58 (by decide) ?_
      have hP : va_P D vwCl (wC h0 a0 a1 a2 a3 a4 a5 cI cZ bf pw hs lo (sp_ap bf en lg (i + 1)) rt nb (nI fi) (nI fo) (nI en) 1 cu ma) H := by skip; exact hP
      have hD : va_D A (wC h0 a0 a1 a2 a3 a4 a5 cI cZ bf pw hs lo (sp_ap bf en lg (i + 1)) rt nb (nI fi) (nI fo) (nI en) 1 cu ma) := by skip; exact hD
      exact ih (i + 1) (by omega) _ _ _ hP hD hS (lv_sub hl [1, 2, 3, 0] rfl)
  have hP : va_P D vwCl (wC h0 a0 a1 a2 a3 a4 a5 cI cZ bf pw hs lo (sp_ap bf en lg 0) rt nb (nI fi) (nI fo) (nI en) 1 cu ma) H := by skip; exact hP
  have hD : va_D A (wC h0 a0 a1 a2 a3 a4 a5 cI cZ bf pw hs lo (sp_ap bf en lg 0) rt nb (nI fi) (nI fo) (nI en) 1 cu ma) := by skip; exact hD
  exact lp_33 k 0 (by omega) _ _ _ hP hD hS (lv_sub hl [2, 3, 1, 0] rfl)
set_option maxHeartbeats 4000000 in
set_option maxRecDepth 100000 in
theorem tX0_force_xb {l : Launch} {D : va_G} {cI cZ : ClassId} {h0 a0 a1 a2 a3 a4 a5 : Nat} (hl0 : l.stackTraces = false) (bf pw hs lo lg rt : Nat → Int32) (nb : Int32) (fi fo en : Nat) (cu ma : Int32) (x : Int32) (h : x < nI fi ∨ nI en < x) : RX l yX0_force wsX0_force 8 D (tyC cI cZ) (wC h0 a0 a1 a2 a3 a4 a5 cI cZ bf pw hs lo lg rt nb (nI fi) (nI fo) (nI en) 1 cu ma) [.ref h0, .int x] xIAE := by
  refine st_X (cc := cX0_force) (maxL := 3) (ret := (some .int)) (by decide +kernel) rfl (Nat.le_of_ble_eq_true rfl) ?_
  intro p e s m below meth c A hx hb hr hts hown hml hlocks hK hP hD hA hS ls hl hT hex
  have hown : s.vm.findClass RX0 = some m.cls := hown
  have hl : lv_has ls 3 [(0, .ref h0), (1, .int x)] := hl
  refine lv_aload_n hx hb dX0_force_0 rfl (lv_at hl 0 rfl) ?_
  refine k_V (wr := []) hP hD hS hA (va_runV (As := []) (rest := []) ⟨hx, hb, hml, hown, hts⟩ ((tX0_needPower_ok bf pw hs lo lg rt nb fi fo en cu ma) _) (cwV 0 hts gX0_force_X0_needPower rfl rfl rfl (by decide +kernel) ⟨Nat.le_of_ble_eq_true rfl, Nat.le_of_ble_eq_true rfl⟩) (pV_B hP hD hK (ci := 0) (q0 := 0) rfl rfl rfl [0, 1] rfl [0, 1, 2, 3, 4, 5, 6] rfl rfl) rfl rfl hl.1 rfl (lv_room (Nat.le_of_ble_eq_true rfl)) dX0_force_1 ⟨Nat.le_of_ble_eq_true rfl, Nat.le_of_ble_eq_true rfl⟩) [0, 1, 2, 3, 4, 5, 6] [] rfl rfl rfl (by decide) (fun H locs hP hD hS => ?_)
  have hP : va_P D vwCl (wC h0 a0 a1 a2 a3 a4 a5 cI cZ bf pw hs lo lg rt nb (nI fi) (nI fo) (nI en) 1 cu ma) H := hP
  have hD : va_D A (wC h0 a0 a1 a2 a3 a4 a5 cI cZ bf pw hs lo lg rt nb (nI fi) (nI fo) (nI en) 1 cu ma) := hD
  refine lv_aload_n hx hb dX0_force_4 rfl (lv_at hl 0 rfl) ?_
  refine lv_iload_n hx hb dX0_force_5 rfl (lv_at hl 1 rfl) ?_
  refine lv_aload_n hx hb dX0_force_6 rfl (lv_at hl 0 rfl) ?_
  refine va_get (ci := 0) (v := .int (nI en)) (C := RX0) (T := TX0) (N := 13) hx hb hts inX0_force hown hK hP 0 rfl rfl 8 (by decide) (hts _ flX0_force_84) (fun _ h9 => h9) rfl dX0_force_7 ?_
  exact k_XX hlocks hex (Nat.le_of_ble_eq_true rfl) (Nat.le_of_ble_eq_true rfl) (wr := []) hP hD hS hA (vx_runV (As := [.int x, .int (nI en)]) (rest := []) ⟨hx, hb, hml, hown, hts⟩ ((tX0_needPlace_x hl0 bf pw hs lo lg rt nb fi fo en 1 cu ma x (nI en) h) _) (cwV 2 hts gX0_force_X0_needPlace rfl rfl rfl (by decide +kernel) ⟨Nat.le_of_ble_eq_true rfl, Nat.le_of_ble_eq_true rfl⟩) (pV_X hP hD hK hS hA hT (ci := 0) (q0 := 0) rfl rfl rfl [0, 1] rfl [0, 1, 2, 3, 4, 5, 6] rfl rfl) rfl rfl hl.1 rfl (lv_room (Nat.le_of_ble_eq_true rfl)) dX0_force_10 ⟨Nat.le_of_ble_eq_true rfl, Nat.le_of_ble_eq_true rfl⟩) [0, 1, 2, 3, 4, 5, 6] [] rfl rfl rfl (by decide)
set_option maxHeartbeats 4000000 in
set_option maxRecDepth 100000 in
theorem tX0_force_ok {l : Launch} {D : va_G} {cI cZ : ClassId} {h0 a0 a1 a2 a3 a4 a5 : Nat} (bf pw hs lo lg rt : Nat → Int32) (nb : Int32) (fi fo en : Nat) (cu ma : Int32) (pl : Nat) (h1 : fi ≤ pl) (h2 : pl ≤ en) (h3 : fo ≤ pl) (he : en ≤ 60000) (hcut : fcut (pl - fo) cu = false) : RI l yX0_force wsX0_force 8 0 0 D (tyC cI cZ) (wC h0 a0 a1 a2 a3 a4 a5 cI cZ bf pw hs lo lg rt nb (nI fi) (nI fo) (nI en) 1 cu ma) [.ref h0, .int (nI pl)] (nI (pl - fo)) (wC h0 a0 a1 a2 a3 a4 a5 cI cZ bf pw hs lo lg rt nb (nI fi) (nI pl) (nI en) 1 (fcu (pl - fo) cu) (fma (pl - fo) cu ma)) := by
  refine st_I (cc := cX0_force) (maxL := 3) (ret := (some .int)) (by decide +kernel) rfl (Nat.le_of_ble_eq_true rfl) ?_
  intro p e s m below meth c A hx hb hr hts hown hml hlocks hK hP hD hA hS ls hl
  have hown : s.vm.findClass RX0 = some m.cls := hown
  have hl : lv_has ls 3 [(0, .ref h0), (1, .int (nI pl))] := hl
  refine lv_aload_n hx hb dX0_force_0 rfl (lv_at hl 0 rfl) ?_
  refine k_V (wr := []) hP hD hS hA (va_runV (As := []) (rest := []) ⟨hx, hb, hml, hown, hts⟩ ((tX0_needPower_ok bf pw hs lo lg rt nb fi fo en cu ma) _) (cwV 0 hts gX0_force_X0_needPower rfl rfl rfl (by decide +kernel) ⟨Nat.le_of_ble_eq_true rfl, Nat.le_of_ble_eq_true rfl⟩) (pV_B hP hD hK (ci := 0) (q0 := 0) rfl rfl rfl [0, 1] rfl [0, 1, 2, 3, 4, 5, 6] rfl rfl) rfl rfl hl.1 rfl (lv_room (Nat.le_of_ble_eq_true rfl)) dX0_force_1 ⟨Nat.le_of_ble_eq_true rfl, Nat.le_of_ble_eq_true rfl⟩) [0, 1, 2, 3, 4, 5, 6] [] rfl rfl rfl (by decide) (fun H locs hP hD hS => ?_)
  have hP : va_P D vwCl (wC h0 a0 a1 a2 a3 a4 a5 cI cZ bf pw hs lo lg rt nb (nI fi) (nI fo) (nI en) 1 cu ma) H := hP
  have hD : va_D A (wC h0 a0 a1 a2 a3 a4 a5 cI cZ bf pw hs lo lg rt nb (nI fi) (nI fo) (nI en) 1 cu ma) := hD
  refine lv_aload_n hx hb dX0_force_4 rfl (lv_at hl 0 rfl) ?_
  refine lv_iload_n hx hb dX0_force_5 rfl (lv_at hl 1 rfl) ?_
  refine lv_aload_n hx hb dX0_force_6 rfl (lv_at hl 0 rfl) ?_
  refine va_get (ci := 0) (v := .int (nI en)) (C := RX0) (T := TX0) (N := 13) hx hb hts inX0_force hown hK hP 0 rfl rfl 8 (by decide) (hts _ flX0_force_84) (fun _ h9 => h9) rfl dX0_force_7 ?_
  refine k_V (wr := []) hP hD hS hA (va_runV (As := [.int (nI pl), .int (nI en)]) (rest := []) ⟨hx, hb, hml, hown, hts⟩ ((tX0_needPlace_ok bf pw hs lo lg rt nb fi fo en 1 cu ma pl en (by omega) (by omega) (by omega)) _) (cwV 2 hts gX0_force_X0_needPlace rfl rfl rfl (by decide +kernel) ⟨Nat.le_of_ble_eq_true rfl, Nat.le_of_ble_eq_true rfl⟩) (pV_B hP hD hK (ci := 0) (q0 := 0) rfl rfl rfl [0, 1] rfl [0, 1, 2, 3, 4, 5, 6] rfl rfl) rfl rfl hl.1 rfl (lv_room (Nat.le_of_ble_eq_true rfl)) dX0_force_10 ⟨Nat.le_of_ble_eq_true rfl, Nat.le_of_ble_eq_true rfl⟩) [0, 1, 2, 3, 4, 5, 6] [] rfl rfl rfl (by decide) (fun H locs hP hD hS => ?_)
  have hP : va_P D vwCl (wC h0 a0 a1 a2 a3 a4 a5 cI cZ bf pw hs lo lg rt nb (nI fi) (nI fo) (nI en) 1 cu ma) H := hP
  have hD : va_D A (wC h0 a0 a1 a2 a3 a4 a5 cI cZ bf pw hs lo lg rt nb (nI fi) (nI fo) (nI en) 1 cu ma) := hD
  refine lv_aload_n hx hb dX0_force_13 rfl (lv_at hl 0 rfl) ?_
  refine va_get (ci := 0) (v := .int (nI fo)) (C := RX0) (T := TX0) (N := 13) hx hb hts inX0_force hown hK hP 0 rfl rfl 7 (by decide) (hts _ flX0_force_96) (fun _ h9 => h9) rfl dX0_force_14 ?_
  refine lv_istore_n (lv' := [(2, .int (nI fo)), (0, .ref h0), (1, .int (nI pl))]) hx hb dX0_force_17 rfl hl (by decide) rfl (fun ls hl => ?_)
  have lp_18 : ∀ (n9 f9 : Nat) (c9 m9 : Int32), f9 + n9 = pl → fo ≤ f9 → fcut n9 c9 = false → fcu n9 c9 = fcu (pl - fo) cu → fma n9 c9 m9 = fma (pl - fo) cu ma → ∀ (H : Heap) (locs : List Loc) (ls : Array Slot), va_P D vwCl (wC h0 a0 a1 a2 a3 a4 a5 cI cZ bf pw hs lo lg rt nb (nI fi) (nI f9) (nI en) 1 c9 m9) H → va_D A (wC h0 a0 a1 a2 a3 a4 a5 cI cZ bf pw hs lo lg rt nb (nI fi) (nI f9) (nI en) 1 c9 m9) → va_S A s.heap H locs → lv_has ls 3 [(0, .ref h0), (1, .int (nI pl)), (2, .int (nI fo))] → W p l e (rmL 8 0 0) s m ([.ref h0, .int (nI pl)] : List Value).toArray below meth c H locs 0 0 (MQ below (qcI D A (nI (pl - fo)) (wC h0 a0 a1 a2 a3 a4 a5 cI cZ bf pw hs lo lg rt nb (nI fi) (nI pl) (nI en) 1 (fcu (pl - fo) cu) (fma (pl - fo) cu ma))) ([.ref h0, .int (nI pl)] : List Value).toArray s 0 0 A) (F0 m 18 ls []) := by
    intro n9
    induction n9 with
    | zero =>
      intro f9 c9 m9 hi hge hz hcu hma H locs ls hP hD hS hl
      obtain rfl : f9 = pl := by omega
      refine lv_aload_n hx hb dX0_force_18 rfl (lv_at hl 0 rfl) ?_
      refine va_get (ci := 0) (v := .int (nI f9)) (C := RX0) (T := TX0) (N := 13) hx hb hts inX0_force hown hK hP 0 rfl rfl 7 (by decide) (hts _ flX0_force_96) (fun _ h9 => h9) rfl dX0_force_19 ?_
      refine lv_iload_n hx hb dX0_force_22 rfl (lv_at hl 1 rfl) ?_
      refine n_ge (tgt := 48) hx hb (by omega) (by omega) dX0_force_23 (by decide) (fun c_23 => ?_) (fun c_23 => absurd c_23 (by omega))
      have hP : va_P D vwCl (wC h0 a0 a1 a2 a3 a4 a5 cI cZ bf pw hs lo lg rt nb (nI fi) (nI f9) (nI en) 1 (fcu (f9 - fo) cu) (fma (f9 - fo) cu ma)) H := by rw [← hcu, ← hma]; exact hP
      have hD : va_D A (wC h0 a0 a1 a2 a3 a4 a5 cI cZ bf pw hs lo lg rt nb (nI fi) (nI f9) (nI en) 1 (fcu (f9 - fo) cu) (fma (f9 - fo) cu ma)) := by rw [← hcu, ← hma]; exact hD
      refine lv_aload_n hx hb dX0_force_48 rfl (lv_at hl 0 rfl) ?_
      refine va_get (ci := 0) (v := .int (nI f9)) (C := RX0) (T := TX0) (N := 13) hx hb hts inX0_force hown hK hP 0 rfl rfl 7 (by decide) (hts _ flX0_force_96) (fun _ h9 => h9) rfl dX0_force_49 ?_
      refine lv_iload_n hx hb dX0_force_52 rfl (lv_at hl 2 rfl) ?_
      refine n_isub hx hb (by omega) dX0_force_53 ?_
      exact e_I hx hb hr hlocks hP hD hS rfl dX0_force_54
    | succ n9 ih =>
      intro f9 c9 m9 hi hge hz hcu hma H locs ls hP hD hS hl
      have hc := fcut_nz hz
      obtain ⟨q1, q2, q3, q4⟩ := fcut_s (n := n9) hc
      refine lv_aload_n hx hb dX0_force_18 rfl (lv_at hl 0 rfl) ?_
      refine va_get (ci := 0) (v := .int (nI f9)) (C := RX0) (T := TX0) (N := 13) hx hb hts inX0_force hown hK hP 0 rfl rfl 7 (by decide) (hts _ flX0_force_96) (fun _ h9 => h9) rfl dX0_force_19 ?_
      refine lv_iload_n hx hb dX0_force_22 rfl (lv_at hl 1 rfl) ?_
      refine n_ge (tgt := 48) hx hb (by omega) (by omega) dX0_force_23 (by decide) (fun c_23 => absurd c_23 (by omega)) (fun c_23 => ?_)
      refine lv_aload_n hx hb dX0_force_26 rfl (lv_at hl 0 rfl) ?_
      refine k_I (wr := []) hP hD hS hA (va_runV (As := []) (rest := []) ⟨hx, hb, hml, hown, hts⟩ ((tX0_makeLeastWrite_ok bf pw hs lo lg rt nb fi f9 en 1 c9 m9 hc) _) (cwV 0 hts gX0_force_X0_makeLeastWrite rfl rfl rfl (by decide +kernel) ⟨Nat.le_of_ble_eq_true rfl, Nat.le_of_ble_eq_true rfl⟩) (pV_B hP hD hK (ci := 0) (q0 := 0) rfl rfl rfl [0, 1] rfl [0, 1, 2, 3, 4, 5, 6] rfl rfl) rfl rfl hl.1 rfl (lv_room (Nat.le_of_ble_eq_true rfl)) dX0_force_27 ⟨Nat.le_of_ble_eq_true rfl, Nat.le_of_ble_eq_true rfl⟩) [0, 1, 2, 3, 4, 5, 6] [] rfl rfl rfl (by decide) (fun H locs hP hD hS => ?_)
      have hP : va_P D vwCl (wC h0 a0 a1 a2 a3 a4 a5 cI cZ bf pw hs lo lg rt nb (nI fi) (nI f9) (nI en) 1 (dcu c9) (m9 + 1)) H := hP
      have hD : va_D A (wC h0 a0 a1 a2 a3 a4 a5 cI cZ bf pw hs lo lg rt nb (nI fi) (nI f9) (nI en) 1 (dcu c9) (m9 + 1)) := hD
      refine lv_if_ne (tgt := 35) hx hb dX0_force_30 (by decide) (fun c_30 => ?_) (fun c_30 => absurd c_30 (by decide))
      refine lv_aload_n hx hb dX0_force_35 rfl (lv_at hl 0 rfl) ?_
      refine lv_dup hx hb dX0_force_36 rfl ?_
      refine va_get (ci := 0) (v := .int (nI f9)) (C := RX0) (T := TX0) (N := 13) hx hb hts inX0_force hown hK hP 0 rfl rfl 7 (by decide) (hts _ flX0_force_96) (fun _ h9 => h9) rfl dX0_force_37 ?_
      refine lv_iconst (v := (nI 1)) hx hb dX0_force_40 (by decide) ?_
      refine n_iadd hx hb dX0_force_41 ?_
      refine va_put (ci := 0) (v := .int (nI (f9 + 1))) (ty := .int) (C := RX0) (T := TX0) (N := 13) hx hb hts inX0_force tyX0 tyX0_ok nmX0 hown hK hP hD hS 0 rfl rfl 7 (by decide) (hts _ flX0_force_96) (fun _ h9 => h9) rfl (by decide +kernel) rfl rfl (Nat.le_of_ble_eq_true rfl) dX0_force_42 (fun H locs hP hD hS => ?_)
      have hP : va_P D vwCl (wC h0 a0 a1 a2 a3 a4 a5 cI cZ bf pw hs lo lg rt nb (nI fi) (nI (f9 + 1)) (nI en) 1 (dcu c9) (m9 + 1)) H := hP
      have hD : va_D A (wC h0 a0 a1 a2 a3 a4 a5 cI cZ bf pw hs lo lg rt nb (nI fi) (nI (f9 + 1)) (nI en) 1 (dcu c9) (m9 + 1)) := hD
      refine lv_goto (tgt := 18) hx hb dX0_force_45 (by decide) ?_
      exact ih (f9 + 1) (dcu c9) (m9 + 1) (by omega) (by omega) (q1 ▸ hz) (q2 ▸ hcu) ((q3 m9) ▸ hma) _ _ _ hP hD hS (lv_sub hl [0, 1, 2] rfl)
  exact lp_18 (pl - fo) fo cu ma (by omega) (Nat.le_refl fo) hcut rfl rfl _ _ _ hP hD hS (lv_sub hl [1, 2, 0] rfl)
set_option maxHeartbeats 4000000 in
set_option maxRecDepth 100000 in
theorem tX0_force_cut {l : Launch} {D : va_G} {cI cZ : ClassId} {h0 a0 a1 a2 a3 a4 a5 : Nat} (bf pw hs lo lg rt : Nat → Int32) (nb : Int32) (fi fo en : Nat) (cu ma : Int32) (pl : Nat) (h1 : fi ≤ pl) (h2 : pl ≤ en) (h3 : fo ≤ pl) (he : en ≤ 60000) (hcut : fcut (pl - fo) cu = true) : RI l yX0_force wsX0_force 8 0 0 D (tyC cI cZ) (wC h0 a0 a1 a2 a3 a4 a5 cI cZ bf pw hs lo lg rt nb (nI fi) (nI fo) (nI en) 1 cu ma) [.ref h0, .int (nI pl)] (-1) (wC h0 a0 a1 a2 a3 a4 a5 cI cZ (zf bf) pw hs lo lg rt nb (nI fi) (nI (fo + fmk (pl - fo) cu)) (nI (fo + fmk (pl - fo) cu)) 0 (fcu (pl - fo) cu) (fma (pl - fo) cu ma)) := by
  refine st_I (cc := cX0_force) (maxL := 3) (ret := (some .int)) (by decide +kernel) rfl (Nat.le_of_ble_eq_true rfl) ?_
  intro p e s m below meth c A hx hb hr hts hown hml hlocks hK hP hD hA hS ls hl
  have hown : s.vm.findClass RX0 = some m.cls := hown
  have hl : lv_has ls 3 [(0, .ref h0), (1, .int (nI pl))] := hl
  refine lv_aload_n hx hb dX0_force_0 rfl (lv_at hl 0 rfl) ?_
  refine k_V (wr := []) hP hD hS hA (va_runV (As := []) (rest := []) ⟨hx, hb, hml, hown, hts⟩ ((tX0_needPower_ok bf pw hs lo lg rt nb fi fo en cu ma) _) (cwV 0 hts gX0_force_X0_needPower rfl rfl rfl (by decide +kernel) ⟨Nat.le_of_ble_eq_true rfl, Nat.le_of_ble_eq_true rfl⟩) (pV_B hP hD hK (ci := 0) (q0 := 0) rfl rfl rfl [0, 1] rfl [0, 1, 2, 3, 4, 5, 6] rfl rfl) rfl rfl hl.1 rfl (lv_room (Nat.le_of_ble_eq_true rfl)) dX0_force_1 ⟨Nat.le_of_ble_eq_true rfl, Nat.le_of_ble_eq_true rfl⟩) [0, 1, 2, 3, 4, 5, 6] [] rfl rfl rfl (by decide) (fun H locs hP hD hS => ?_)
  have hP : va_P D vwCl (wC h0 a0 a1 a2 a3 a4 a5 cI cZ bf pw hs lo lg rt nb (nI fi) (nI fo) (nI en) 1 cu ma) H := hP
  have hD : va_D A (wC h0 a0 a1 a2 a3 a4 a5 cI cZ bf pw hs lo lg rt nb (nI fi) (nI fo) (nI en) 1 cu ma) := hD
  refine lv_aload_n hx hb dX0_force_4 rfl (lv_at hl 0 rfl) ?_
  refine lv_iload_n hx hb dX0_force_5 rfl (lv_at hl 1 rfl) ?_
  refine lv_aload_n hx hb dX0_force_6 rfl (lv_at hl 0 rfl) ?_
  refine va_get (ci := 0) (v := .int (nI en)) (C := RX0) (T := TX0) (N := 13) hx hb hts inX0_force hown hK hP 0 rfl rfl 8 (by decide) (hts _ flX0_force_84) (fun _ h9 => h9) rfl dX0_force_7 ?_
  refine k_V (wr := []) hP hD hS hA (va_runV (As := [.int (nI pl), .int (nI en)]) (rest := []) ⟨hx, hb, hml, hown, hts⟩ ((tX0_needPlace_ok bf pw hs lo lg rt nb fi fo en 1 cu ma pl en (by omega) (by omega) (by omega)) _) (cwV 2 hts gX0_force_X0_needPlace rfl rfl rfl (by decide +kernel) ⟨Nat.le_of_ble_eq_true rfl, Nat.le_of_ble_eq_true rfl⟩) (pV_B hP hD hK (ci := 0) (q0 := 0) rfl rfl rfl [0, 1] rfl [0, 1, 2, 3, 4, 5, 6] rfl rfl) rfl rfl hl.1 rfl (lv_room (Nat.le_of_ble_eq_true rfl)) dX0_force_10 ⟨Nat.le_of_ble_eq_true rfl, Nat.le_of_ble_eq_true rfl⟩) [0, 1, 2, 3, 4, 5, 6] [] rfl rfl rfl (by decide) (fun H locs hP hD hS => ?_)
  have hP : va_P D vwCl (wC h0 a0 a1 a2 a3 a4 a5 cI cZ bf pw hs lo lg rt nb (nI fi) (nI fo) (nI en) 1 cu ma) H := hP
  have hD : va_D A (wC h0 a0 a1 a2 a3 a4 a5 cI cZ bf pw hs lo lg rt nb (nI fi) (nI fo) (nI en) 1 cu ma) := hD
  refine lv_aload_n hx hb dX0_force_13 rfl (lv_at hl 0 rfl) ?_
  refine va_get (ci := 0) (v := .int (nI fo)) (C := RX0) (T := TX0) (N := 13) hx hb hts inX0_force hown hK hP 0 rfl rfl 7 (by decide) (hts _ flX0_force_96) (fun _ h9 => h9) rfl dX0_force_14 ?_
  refine lv_istore_n (lv' := [(2, .int (nI fo)), (0, .ref h0), (1, .int (nI pl))]) hx hb dX0_force_17 rfl hl (by decide) rfl (fun ls hl => ?_)
  have lp_18 : ∀ (n9 f9 : Nat) (c9 m9 : Int32), f9 + n9 = pl → fo ≤ f9 → fcut n9 c9 = true → fcu n9 c9 = fcu (pl - fo) cu → fma n9 c9 m9 = fma (pl - fo) cu ma → f9 + fmk n9 c9 = fo + fmk (pl - fo) cu → ∀ (H : Heap) (locs : List Loc) (ls : Array Slot), va_P D vwCl (wC h0 a0 a1 a2 a3 a4 a5 cI cZ bf pw hs lo lg rt nb (nI fi) (nI f9) (nI en) 1 c9 m9) H → va_D A (wC h0 a0 a1 a2 a3 a4 a5 cI cZ bf pw hs lo lg rt nb (nI fi) (nI f9) (nI en) 1 c9 m9) → va_S A s.heap H locs → lv_has ls 3 [(0, .ref h0), (1, .int (nI pl)), (2, .int (nI fo))] → W p l e (rmL 8 0 0) s m ([.ref h0, .int (nI pl)] : List Value).toArray below meth c H locs 0 0 (MQ below (qcI D A (-1) (wC h0 a0 a1 a2 a3 a4 a5 cI cZ (zf bf) pw hs lo lg rt nb (nI fi) (nI (fo + fmk (pl - fo) cu)) (nI (fo + fmk (pl - fo) cu)) 0 (fcu (pl - fo) cu) (fma (pl - fo) cu ma))) ([.ref h0, .int (nI pl)] : List Value).toArray s 0 0 A) (F0 m 18 ls []) := by
    intro n9
    induction n9 with
    | zero =>
      intro f9 c9 m9 hi hge hz hcu hma hmk H locs ls hP hD hS hl
      cases hz
    | succ n9 ih =>
      intro f9 c9 m9 hi hge hz hcu hma hmk H locs ls hP hD hS hl
      by_cases hc : c9 = 0
      · obtain ⟨q1, q2, q3, q4⟩ := fcut_z (n := n9) hc
        refine lv_aload_n hx hb dX0_force_18 rfl (lv_at hl 0 rfl) ?_
        refine va_get (ci := 0) (v := .int (nI f9)) (C := RX0) (T := TX0) (N := 13) hx hb hts inX0_force hown hK hP 0 rfl rfl 7 (by decide) (hts _ flX0_force_96) (fun _ h9 => h9) rfl dX0_force_19 ?_
        refine lv_iload_n hx hb dX0_force_22 rfl (lv_at hl 1 rfl) ?_
        refine n_ge (tgt := 48) hx hb (by omega) (by omega) dX0_force_23 (by decide) (fun c_23 => absurd c_23 (by omega)) (fun c_23 => ?_)
        refine lv_aload_n hx hb dX0_force_26 rfl (lv_at hl 0 rfl) ?_
        refine k_I (wr := []) hP hD hS hA (va_runV (As := []) (rest := []) ⟨hx, hb, hml, hown, hts⟩ ((tX0_makeLeastWrite_cut bf pw hs lo lg rt nb fi f9 en 1 c9 m9 hc) _) (cwV 0 hts gX0_force_X0_makeLeastWrite rfl rfl rfl (by decide +kernel) ⟨Nat.le_of_ble_eq_true rfl, Nat.le_of_ble_eq_true rfl⟩) (pV_B hP hD hK (ci := 0) (q0 := 0) rfl rfl rfl [0, 1] rfl [0, 1, 2, 3, 4, 5, 6] rfl rfl) rfl rfl hl.1 rfl (lv_room (Nat.le_of_ble_eq_true rfl)) dX0_force_27 ⟨Nat.le_of_ble_eq_true rfl, Nat.le_of_ble_eq_true rfl⟩) [0, 1, 2, 3, 4, 5, 6] [] rfl rfl rfl (by decide) (fun H locs hP hD hS => ?_)
        have hP : va_P D vwCl (wC h0 a0 a1 a2 a3 a4 a5 cI cZ (zf bf) pw hs lo lg rt nb (nI fi) (nI f9) (nI f9) 0 c9 m9) H := hP
        have hD : va_D A (wC h0 a0 a1 a2 a3 a4 a5 cI cZ (zf bf) pw hs lo lg rt nb (nI fi) (nI f9) (nI f9) 0 c9 m9) := hD
        refine lv_if_ne (tgt := 35) hx hb dX0_force_30 (by decide) (fun c_30 => absurd (rfl) c_30) (fun c_30 => ?_)
        have e9 : fo + fmk (pl - fo) cu = f9 := by omega
        have hP : va_P D vwCl (wC h0 a0 a1 a2 a3 a4 a5 cI cZ (zf bf) pw hs lo lg rt nb (nI fi) (nI (fo + fmk (pl - fo) cu)) (nI (fo + fmk (pl - fo) cu)) 0 (fcu (pl - fo) cu) (fma (pl - fo) cu ma)) H := by rw [e9, ← hcu, ← hma, q2, q3]; exact hP
        have hD : va_D A (wC h0 a0 a1 a2 a3 a4 a5 cI cZ (zf bf) pw hs lo lg rt nb (nI fi) (nI (fo + fmk (pl - fo) cu)) (nI (fo + fmk (pl - fo) cu)) 0 (fcu (pl - fo) cu) (fma (pl - fo) cu ma)) := by rw [e9, ← hcu, ← hma, q2, q3]; exact hD
        refine lv_iconst (v := (-1)) hx hb dX0_force_33 (by decide) ?_
        exact e_I hx hb hr hlocks hP hD hS rfl dX0_force_34
      · obtain ⟨q1, q2, q3, q4⟩ := fcut_s (n := n9) hc
        refine lv_aload_n hx hb dX0_force_18 rfl (lv_at hl 0 rfl) ?_
        refine va_get (ci := 0) (v := .int (nI f9)) (C := RX0) (T := TX0) (N := 13) hx hb hts inX0_force hown hK hP 0 rfl rfl 7 (by decide) (hts _ flX0_force_96) (fun _ h9 => h9) rfl dX0_force_19 ?_
        refine lv_iload_n hx hb dX0_force_22 rfl (lv_at hl 1 rfl) ?_
        refine n_ge (tgt := 48) hx hb (by omega) (by omega) dX0_force_23 (by decide) (fun c_23 => absurd c_23 (by omega)) (fun c_23 => ?_)
        refine lv_aload_n hx hb dX0_force_26 rfl (lv_at hl 0 rfl) ?_
        refine k_I (wr := []) hP hD hS hA (va_runV (As := []) (rest := []) ⟨hx, hb, hml, hown, hts⟩ ((tX0_makeLeastWrite_ok bf pw hs lo lg rt nb fi f9 en 1 c9 m9 hc) _) (cwV 0 hts gX0_force_X0_makeLeastWrite rfl rfl rfl (by decide +kernel) ⟨Nat.le_of_ble_eq_true rfl, Nat.le_of_ble_eq_true rfl⟩) (pV_B hP hD hK (ci := 0) (q0 := 0) rfl rfl rfl [0, 1] rfl [0, 1, 2, 3, 4, 5, 6] rfl rfl) rfl rfl hl.1 rfl (lv_room (Nat.le_of_ble_eq_true rfl)) dX0_force_27 ⟨Nat.le_of_ble_eq_true rfl, Nat.le_of_ble_eq_true rfl⟩) [0, 1, 2, 3, 4, 5, 6] [] rfl rfl rfl (by decide) (fun H locs hP hD hS => ?_)
        have hP : va_P D vwCl (wC h0 a0 a1 a2 a3 a4 a5 cI cZ bf pw hs lo lg rt nb (nI fi) (nI f9) (nI en) 1 (dcu c9) (m9 + 1)) H := hP
        have hD : va_D A (wC h0 a0 a1 a2 a3 a4 a5 cI cZ bf pw hs lo lg rt nb (nI fi) (nI f9) (nI en) 1 (dcu c9) (m9 + 1)) := hD
        refine lv_if_ne (tgt := 35) hx hb dX0_force_30 (by decide) (fun c_30 => ?_) (fun c_30 => absurd c_30 (by decide))
        refine lv_aload_n hx hb dX0_force_35 rfl (lv_at hl 0 rfl) ?_
        refine lv_dup hx hb dX0_force_36 rfl ?_
        refine va_get (ci := 0) (v := .int (nI f9)) (C := RX0) (T := TX0) (N := 13) hx hb hts inX0_force hown hK hP 0 rfl rfl 7 (by decide) (hts _ flX0_force_96) (fun _ h9 => h9) rfl dX0_force_37 ?_
        refine lv_iconst (v := (nI 1)) hx hb dX0_force_40 (by decide) ?_
        refine n_iadd hx hb dX0_force_41 ?_
        refine va_put (ci := 0) (v := .int (nI (f9 + 1))) (ty := .int) (C := RX0) (T := TX0) (N := 13) hx hb hts inX0_force tyX0 tyX0_ok nmX0 hown hK hP hD hS 0 rfl rfl 7 (by decide) (hts _ flX0_force_96) (fun _ h9 => h9) rfl (by decide +kernel) rfl rfl (Nat.le_of_ble_eq_true rfl) dX0_force_42 (fun H locs hP hD hS => ?_)
        have hP : va_P D vwCl (wC h0 a0 a1 a2 a3 a4 a5 cI cZ bf pw hs lo lg rt nb (nI fi) (nI (f9 + 1)) (nI en) 1 (dcu c9) (m9 + 1)) H := hP
        have hD : va_D A (wC h0 a0 a1 a2 a3 a4 a5 cI cZ bf pw hs lo lg rt nb (nI fi) (nI (f9 + 1)) (nI en) 1 (dcu c9) (m9 + 1)) := hD
        refine lv_goto (tgt := 18) hx hb dX0_force_45 (by decide) ?_
        exact ih (f9 + 1) (dcu c9) (m9 + 1) (by omega) (by omega) (q1 ▸ hz) (q2 ▸ hcu) ((q3 m9) ▸ hma) (by omega) _ _ _ hP hD hS (lv_sub hl [0, 1, 2] rfl)
  exact lp_18 (pl - fo) fo cu ma (by omega) (Nat.le_refl fo) hcut rfl rfl rfl _ _ _ hP hD hS (lv_sub hl [1, 2, 0] rfl)
set_option maxHeartbeats 4000000 in
set_option maxRecDepth 100000 in
theorem tX0_force_no {l : Launch} {D : va_G} {cI cZ : ClassId} {h0 a0 a1 a2 a3 a4 a5 : Nat} (bf pw hs lo lg rt : Nat → Int32) (nb : Int32) (fi fo en : Nat) (cu ma : Int32) (pl : Nat) (h1 : fi ≤ pl) (h2 : pl ≤ en) (h3 : pl ≤ fo) (he : en ≤ 60000) (hfo : fo ≤ en) : RI l yX0_force wsX0_force 8 0 0 D (tyC cI cZ) (wC h0 a0 a1 a2 a3 a4 a5 cI cZ bf pw hs lo lg rt nb (nI fi) (nI fo) (nI en) 1 cu ma) [.ref h0, .int (nI pl)] 0 (wC h0 a0 a1 a2 a3 a4 a5 cI cZ bf pw hs lo lg rt nb (nI fi) (nI fo) (nI en) 1 cu ma) := by
  refine st_I (cc := cX0_force) (maxL := 3) (ret := (some .int)) (by decide +kernel) rfl (Nat.le_of_ble_eq_true rfl) ?_
  intro p e s m below meth c A hx hb hr hts hown hml hlocks hK hP hD hA hS ls hl
  have hown : s.vm.findClass RX0 = some m.cls := hown
  have hl : lv_has ls 3 [(0, .ref h0), (1, .int (nI pl))] := hl
  refine lv_aload_n hx hb dX0_force_0 rfl (lv_at hl 0 rfl) ?_
  refine k_V (wr := []) hP hD hS hA (va_runV (As := []) (rest := []) ⟨hx, hb, hml, hown, hts⟩ ((tX0_needPower_ok bf pw hs lo lg rt nb fi fo en cu ma) _) (cwV 0 hts gX0_force_X0_needPower rfl rfl rfl (by decide +kernel) ⟨Nat.le_of_ble_eq_true rfl, Nat.le_of_ble_eq_true rfl⟩) (pV_B hP hD hK (ci := 0) (q0 := 0) rfl rfl rfl [0, 1] rfl [0, 1, 2, 3, 4, 5, 6] rfl rfl) rfl rfl hl.1 rfl (lv_room (Nat.le_of_ble_eq_true rfl)) dX0_force_1 ⟨Nat.le_of_ble_eq_true rfl, Nat.le_of_ble_eq_true rfl⟩) [0, 1, 2, 3, 4, 5, 6] [] rfl rfl rfl (by decide) (fun H locs hP hD hS => ?_)
  have hP : va_P D vwCl (wC h0 a0 a1 a2 a3 a4 a5 cI cZ bf pw hs lo lg rt nb (nI fi) (nI fo) (nI en) 1 cu ma) H := hP
  have hD : va_D A (wC h0 a0 a1 a2 a3 a4 a5 cI cZ bf pw hs lo lg rt nb (nI fi) (nI fo) (nI en) 1 cu ma) := hD
  refine lv_aload_n hx hb dX0_force_4 rfl (lv_at hl 0 rfl) ?_
  refine lv_iload_n hx hb dX0_force_5 rfl (lv_at hl 1 rfl) ?_
  refine lv_aload_n hx hb dX0_force_6 rfl (lv_at hl 0 rfl) ?_
  refine va_get (ci := 0) (v := .int (nI en)) (C := RX0) (T := TX0) (N := 13) hx hb hts inX0_force hown hK hP 0 rfl rfl 8 (by decide) (hts _ flX0_force_84) (fun _ h9 => h9) rfl dX0_force_7 ?_
  refine k_V (wr := []) hP hD hS hA (va_runV (As := [.int (nI pl), .int (nI en)]) (rest := []) ⟨hx, hb, hml, hown, hts⟩ ((tX0_needPlace_ok bf pw hs lo lg rt nb fi fo en 1 cu ma pl en (by omega) (by omega) (by omega)) _) (cwV 2 hts gX0_force_X0_needPlace rfl rfl rfl (by decide +kernel) ⟨Nat.le_of_ble_eq_true rfl, Nat.le_of_ble_eq_true rfl⟩) (pV_B hP hD hK (ci := 0) (q0 := 0) rfl rfl rfl [0, 1] rfl [0, 1, 2, 3, 4, 5, 6] rfl rfl) rfl rfl hl.1 rfl (lv_room (Nat.le_of_ble_eq_true rfl)) dX0_force_10 ⟨Nat.le_of_ble_eq_true rfl, Nat.le_of_ble_eq_true rfl⟩) [0, 1, 2, 3, 4, 5, 6] [] rfl rfl rfl (by decide) (fun H locs hP hD hS => ?_)
  have hP : va_P D vwCl (wC h0 a0 a1 a2 a3 a4 a5 cI cZ bf pw hs lo lg rt nb (nI fi) (nI fo) (nI en) 1 cu ma) H := hP
  have hD : va_D A (wC h0 a0 a1 a2 a3 a4 a5 cI cZ bf pw hs lo lg rt nb (nI fi) (nI fo) (nI en) 1 cu ma) := hD
  refine lv_aload_n hx hb dX0_force_13 rfl (lv_at hl 0 rfl) ?_
  refine va_get (ci := 0) (v := .int (nI fo)) (C := RX0) (T := TX0) (N := 13) hx hb hts inX0_force hown hK hP 0 rfl rfl 7 (by decide) (hts _ flX0_force_96) (fun _ h9 => h9) rfl dX0_force_14 ?_
  refine lv_istore_n (lv' := [(2, .int (nI fo)), (0, .ref h0), (1, .int (nI pl))]) hx hb dX0_force_17 rfl hl (by decide) rfl (fun ls hl => ?_)
  refine lv_aload_n hx hb dX0_force_18 rfl (lv_at hl 1 rfl) ?_
  refine va_get (ci := 0) (v := .int (nI fo)) (C := RX0) (T := TX0) (N := 13) hx hb hts inX0_force hown hK hP 0 rfl rfl 7 (by decide) (hts _ flX0_force_96) (fun _ h9 => h9) rfl dX0_force_19 ?_
  refine lv_iload_n hx hb dX0_force_22 rfl (lv_at hl 2 rfl) ?_
  refine n_ge (tgt := 48) hx hb (by omega) (by omega) dX0_force_23 (by decide) (fun c_23 => ?_) (fun c_23 => absurd c_23 (by omega))
  refine lv_aload_n hx hb dX0_force_48 rfl (lv_at hl 1 rfl) ?_
  refine va_get (ci := 0) (v := .int (nI fo)) (C := RX0) (T := TX0) (N := 13) hx hb hts inX0_force hown hK hP 0 rfl rfl 7 (by decide) (hts _ flX0_force_96) (fun _ h9 => h9) rfl dX0_force_49 ?_
  refine lv_iload_n hx hb dX0_force_52 rfl (lv_at hl 0 rfl) ?_
  refine n_isub hx hb (by omega) dX0_force_53 ?_
  exact e_I hx hb hr hlocks hP hD hS (by rw [Nat.sub_self]; rfl) dX0_force_54
set_option maxHeartbeats 4000000 in
set_option maxRecDepth 100000 in
theorem tX0_readLog_xb {l : Launch} {D : va_G} {cI cZ : ClassId} {h0 a0 a1 a2 a3 a4 a5 : Nat} (hl0 : l.stackTraces = false) (bf pw hs lo lg rt : Nat → Int32) (nb : Int32) (fi fo en : Nat) (cu ma : Int32) (x y : Int32) (h : badR fi en x y) : RX l yX0_readLog wsX0_readLog 8 D (tyC cI cZ) (wC h0 a0 a1 a2 a3 a4 a5 cI cZ bf pw hs lo lg rt nb (nI fi) (nI fo) (nI en) 1 cu ma) [.ref h0, .int x, .int y] xIAE := by
  refine st_X (cc := cX0_readLog) (maxL := 4) (ret := none) (by decide +kernel) rfl (Nat.le_of_ble_eq_true rfl) ?_
  intro p e s m below meth c A hx hb hr hts hown hml hlocks hK hP hD hA hS ls hl hT hex
  have hown : s.vm.findClass RX0 = some m.cls := hown
  have hl : lv_has ls 4 [(0, .ref h0), (1, .int x), (2, .int y)] := hl
  rcases h with h | ⟨k, h1, h2, rfl, h⟩
  · refine lv_aload_n hx hb dX0_readLog_0 rfl (lv_at hl 0 rfl) ?_
    refine k_V (wr := []) hP hD hS hA (va_runV (As := []) (rest := []) ⟨hx, hb, hml, hown, hts⟩ ((tX0_needPower_ok bf pw hs lo lg rt nb fi fo en cu ma) _) (cwV 0 hts gX0_readLog_X0_needPower rfl rfl rfl (by decide +kernel) ⟨Nat.le_of_ble_eq_true rfl, Nat.le_of_ble_eq_true rfl⟩) (pV_B hP hD hK (ci := 0) (q0 := 0) rfl rfl rfl [0, 1] rfl [0, 1, 2, 3, 4, 5, 6] rfl rfl) rfl rfl hl.1 rfl (lv_room (Nat.le_of_ble_eq_true rfl)) dX0_readLog_1 ⟨Nat.le_of_ble_eq_true rfl, Nat.le_of_ble_eq_true rfl⟩) [0, 1, 2, 3, 4, 5, 6] [] rfl rfl rfl (by decide) (fun H locs hP hD hS => ?_)
    have hP : va_P D vwCl (wC h0 a0 a1 a2 a3 a4 a5 cI cZ bf pw hs lo lg rt nb (nI fi) (nI fo) (nI en) 1 cu ma) H := hP
    have hD : va_D A (wC h0 a0 a1 a2 a3 a4 a5 cI cZ bf pw hs lo lg rt nb (nI fi) (nI fo) (nI en) 1 cu ma) := hD
    refine lv_iload_n hx hb dX0_readLog_4 rfl (lv_at hl 2 rfl) ?_
    exact k_XX hlocks hex (Nat.le_of_ble_eq_true rfl) (Nat.le_of_ble_eq_true rfl) (wr := wC h0 a0 a1 a2 a3 a4 a5 cI cZ bf pw hs lo lg rt nb (nI fi) (nI fo) (nI en) 1 cu ma) hP hD hS hA (vx_runS (As := [.int y]) (rest := []) ⟨hx, hb, hml, hown, hts⟩ ((tX0_needWordCount_x hl0 y h) _) (va_cwS 1 hts gX0_readLog_X0_needWordCount rfl rfl rfl (by decide +kernel) ⟨Nat.le_of_ble_eq_true rfl, Nat.le_of_ble_eq_true rfl⟩) (pS_X hP hD hK hS hA hT [] rfl [] rfl rfl) rfl rfl hl.1 rfl (lv_room (Nat.le_of_ble_eq_true rfl)) dX0_readLog_5 ⟨Nat.le_of_ble_eq_true rfl, Nat.le_of_ble_eq_true rfl⟩) [] [0, 1, 2, 3, 4, 5, 6] rfl rfl rfl (by decide)
  · refine lv_aload_n hx hb dX0_readLog_0 rfl (lv_at hl 0 rfl) ?_
    refine k_V (wr := []) hP hD hS hA (va_runV (As := []) (rest := []) ⟨hx, hb, hml, hown, hts⟩ ((tX0_needPower_ok bf pw hs lo lg rt nb fi fo en cu ma) _) (cwV 0 hts gX0_readLog_X0_needPower rfl rfl rfl (by decide +kernel) ⟨Nat.le_of_ble_eq_true rfl, Nat.le_of_ble_eq_true rfl⟩) (pV_B hP hD hK (ci := 0) (q0 := 0) rfl rfl rfl [0, 1] rfl [0, 1, 2, 3, 4, 5, 6] rfl rfl) rfl rfl hl.1 rfl (lv_room (Nat.le_of_ble_eq_true rfl)) dX0_readLog_1 ⟨Nat.le_of_ble_eq_true rfl, Nat.le_of_ble_eq_true rfl⟩) [0, 1, 2, 3, 4, 5, 6] [] rfl rfl rfl (by decide) (fun H locs hP hD hS => ?_)
    have hP : va_P D vwCl (wC h0 a0 a1 a2 a3 a4 a5 cI cZ bf pw hs lo lg rt nb (nI fi) (nI fo) (nI en) 1 cu ma) H := hP
    have hD : va_D A (wC h0 a0 a1 a2 a3 a4 a5 cI cZ bf pw hs lo lg rt nb (nI fi) (nI fo) (nI en) 1 cu ma) := hD
    refine lv_iload_n hx hb dX0_readLog_4 rfl (lv_at hl 2 rfl) ?_
    refine k_V (wr := wC h0 a0 a1 a2 a3 a4 a5 cI cZ bf pw hs lo lg rt nb (nI fi) (nI fo) (nI en) 1 cu ma) hP hD hS hA (va_runS (As := [.int (nI k)]) (rest := []) ⟨hx, hb, hml, hown, hts⟩ ((tX0_needWordCount_ok k (by omega) (by omega)) _) (va_cwS 1 hts gX0_readLog_X0_needWordCount rfl rfl rfl (by decide +kernel) ⟨Nat.le_of_ble_eq_true rfl, Nat.le_of_ble_eq_true rfl⟩) (pS_B hP hD hK [] rfl [] rfl rfl) rfl rfl hl.1 rfl (lv_room (Nat.le_of_ble_eq_true rfl)) dX0_readLog_5 ⟨Nat.le_of_ble_eq_true rfl, Nat.le_of_ble_eq_true rfl⟩) [] [0, 1, 2, 3, 4, 5, 6] rfl rfl rfl (by decide) (fun H locs hP hD hS => ?_)
    have hP : va_P D vwCl (wC h0 a0 a1 a2 a3 a4 a5 cI cZ bf pw hs lo lg rt nb (nI fi) (nI fo) (nI en) 1 cu ma) H := hP
    have hD : va_D A (wC h0 a0 a1 a2 a3 a4 a5 cI cZ bf pw hs lo lg rt nb (nI fi) (nI fo) (nI en) 1 cu ma) := hD
    refine lv_aload_n hx hb dX0_readLog_8 rfl (lv_at hl 0 rfl) ?_
    refine lv_iload_n hx hb dX0_readLog_9 rfl (lv_at hl 1 rfl) ?_
    refine lv_aload_n hx hb dX0_readLog_10 rfl (lv_at hl 0 rfl) ?_
    refine va_get (ci := 0) (v := .int (nI en)) (C := RX0) (T := TX0) (N := 13) hx hb hts inX0_readLog hown hK hP 0 rfl rfl 8 (by decide) (hts _ flX0_readLog_84) (fun _ h9 => h9) rfl dX0_readLog_11 ?_
    refine lv_iload_n hx hb dX0_readLog_14 rfl (lv_at hl 2 rfl) ?_
    refine lv_isub hx hb dX0_readLog_15 ?_
    exact k_XX hlocks hex (Nat.le_of_ble_eq_true rfl) (Nat.le_of_ble_eq_true rfl) (wr := []) hP hD hS hA (vx_runV (As := [.int x, .int ((nI en) - (nI k))]) (rest := []) ⟨hx, hb, hml, hown, hts⟩ ((tX0_needPlace_x hl0 bf pw hs lo lg rt nb fi fo en 1 cu ma x (nI en - nI k) h) _) (cwV 2 hts gX0_readLog_X0_needPlace rfl rfl rfl (by decide +kernel) ⟨Nat.le_of_ble_eq_true rfl, Nat.le_of_ble_eq_true rfl⟩) (pV_X hP hD hK hS hA hT (ci := 0) (q0 := 0) rfl rfl rfl [0, 1] rfl [0, 1, 2, 3, 4, 5, 6] rfl rfl) rfl rfl hl.1 rfl (lv_room (Nat.le_of_ble_eq_true rfl)) dX0_readLog_16 ⟨Nat.le_of_ble_eq_true rfl, Nat.le_of_ble_eq_true rfl⟩) [0, 1, 2, 3, 4, 5, 6] [] rfl rfl rfl (by decide)
set_option maxHeartbeats 4000000 in
set_option maxRecDepth 100000 in
theorem tX0_readLog_ok {l : Launch} {D : va_G} {cI cZ : ClassId} {h0 a0 a1 a2 a3 a4 a5 : Nat} (bf pw hs lo lg rt : Nat → Int32) (nb : Int32) (fi fo en : Nat) (cu ma : Int32) (pl k : Nat) (hk : 1 ≤ k) (hk2 : k ≤ 64) (h1 : fi ≤ pl) (h2 : pl + k ≤ en) (he : en ≤ 60000) : RV l yX0_readLog wsX0_readLog 8 0 0 D (tyC cI cZ) (wC h0 a0 a1 a2 a3 a4 a5 cI cZ bf pw hs lo lg rt nb (nI fi) (nI fo) (nI en) 1 cu ma) [.ref h0, .int (nI pl), .int (nI k)] (wC h0 a0 a1 a2 a3 a4 a5 cI cZ (fl (fun j => lg ((pl + j) % 65536)) k bf) pw hs lo lg rt nb (nI fi) (nI fo) (nI en) 1 cu ma) := by
  refine st_V (cc := cX0_readLog) (maxL := 4) (ret := none) (by decide +kernel) rfl (Nat.le_of_ble_eq_true rfl) ?_
  intro p e s m below meth c A hx hb hr hts hown hml hlocks hK hP hD hA hS ls hl
  have hown : s.vm.findClass RX0 = some m.cls := hown
  have hl : lv_has ls 4 [(0, .ref h0), (1, .int (nI pl)), (2, .int (nI k))] := hl
  refine lv_aload_n hx hb dX0_readLog_0 rfl (lv_at hl 0 rfl) ?_
  refine k_V (wr := []) hP hD hS hA (va_runV (As := []) (rest := []) ⟨hx, hb, hml, hown, hts⟩ ((tX0_needPower_ok bf pw hs lo lg rt nb fi fo en cu ma) _) (cwV 0 hts gX0_readLog_X0_needPower rfl rfl rfl (by decide +kernel) ⟨Nat.le_of_ble_eq_true rfl, Nat.le_of_ble_eq_true rfl⟩) (pV_B hP hD hK (ci := 0) (q0 := 0) rfl rfl rfl [0, 1] rfl [0, 1, 2, 3, 4, 5, 6] rfl rfl) rfl rfl hl.1 rfl (lv_room (Nat.le_of_ble_eq_true rfl)) dX0_readLog_1 ⟨Nat.le_of_ble_eq_true rfl, Nat.le_of_ble_eq_true rfl⟩) [0, 1, 2, 3, 4, 5, 6] [] rfl rfl rfl (by decide) (fun H locs hP hD hS => ?_)
  have hP : va_P D vwCl (wC h0 a0 a1 a2 a3 a4 a5 cI cZ bf pw hs lo lg rt nb (nI fi) (nI fo) (nI en) 1 cu ma) H := hP
  have hD : va_D A (wC h0 a0 a1 a2 a3 a4 a5 cI cZ bf pw hs lo lg rt nb (nI fi) (nI fo) (nI en) 1 cu ma) := hD
  refine lv_iload_n hx hb dX0_readLog_4 rfl (lv_at hl 2 rfl) ?_
  refine k_V (wr := wC h0 a0 a1 a2 a3 a4 a5 cI cZ bf pw hs lo lg rt nb (nI fi) (nI fo) (nI en) 1 cu ma) hP hD hS hA (va_runS (As := [.int (nI k)]) (rest := []) ⟨hx, hb, hml, hown, hts⟩ ((tX0_needWordCount_ok k (by omega) (by omega)) _) (va_cwS 1 hts gX0_readLog_X0_needWordCount rfl rfl rfl (by decide +kernel) ⟨Nat.le_of_ble_eq_true rfl, Nat.le_of_ble_eq_true rfl⟩) (pS_B hP hD hK [] rfl [] rfl rfl) rfl rfl hl.1 rfl (lv_room (Nat.le_of_ble_eq_true rfl)) dX0_readLog_5 ⟨Nat.le_of_ble_eq_true rfl, Nat.le_of_ble_eq_true rfl⟩) [] [0, 1, 2, 3, 4, 5, 6] rfl rfl rfl (by decide) (fun H locs hP hD hS => ?_)
  have hP : va_P D vwCl (wC h0 a0 a1 a2 a3 a4 a5 cI cZ bf pw hs lo lg rt nb (nI fi) (nI fo) (nI en) 1 cu ma) H := hP
  have hD : va_D A (wC h0 a0 a1 a2 a3 a4 a5 cI cZ bf pw hs lo lg rt nb (nI fi) (nI fo) (nI en) 1 cu ma) := hD
  refine lv_aload_n hx hb dX0_readLog_8 rfl (lv_at hl 0 rfl) ?_
  refine lv_iload_n hx hb dX0_readLog_9 rfl (lv_at hl 1 rfl) ?_
  refine lv_aload_n hx hb dX0_readLog_10 rfl (lv_at hl 0 rfl) ?_
  refine va_get (ci := 0) (v := .int (nI en)) (C := RX0) (T := TX0) (N := 13) hx hb hts inX0_readLog hown hK hP 0 rfl rfl 8 (by decide) (hts _ flX0_readLog_84) (fun _ h9 => h9) rfl dX0_readLog_11 ?_
  refine lv_iload_n hx hb dX0_readLog_14 rfl (lv_at hl 2 rfl) ?_
  refine n_isub hx hb (by omega) dX0_readLog_15 ?_
  refine k_V (wr := []) hP hD hS hA (va_runV (As := [.int (nI pl), .int (nI (en - k))]) (rest := []) ⟨hx, hb, hml, hown, hts⟩ ((tX0_needPlace_ok bf pw hs lo lg rt nb fi fo en 1 cu ma pl (en - k) (by omega) (by omega) (by omega)) _) (cwV 2 hts gX0_readLog_X0_needPlace rfl rfl rfl (by decide +kernel) ⟨Nat.le_of_ble_eq_true rfl, Nat.le_of_ble_eq_true rfl⟩) (pV_B hP hD hK (ci := 0) (q0 := 0) rfl rfl rfl [0, 1] rfl [0, 1, 2, 3, 4, 5, 6] rfl rfl) rfl rfl hl.1 rfl (lv_room (Nat.le_of_ble_eq_true rfl)) dX0_readLog_16 ⟨Nat.le_of_ble_eq_true rfl, Nat.le_of_ble_eq_true rfl⟩) [0, 1, 2, 3, 4, 5, 6] [] rfl rfl rfl (by decide) (fun H locs hP hD hS => ?_)
  have hP : va_P D vwCl (wC h0 a0 a1 a2 a3 a4 a5 cI cZ bf pw hs lo lg rt nb (nI fi) (nI fo) (nI en) 1 cu ma) H := hP
  have hD : va_D A (wC h0 a0 a1 a2 a3 a4 a5 cI cZ bf pw hs lo lg rt nb (nI fi) (nI fo) (nI en) 1 cu ma) := hD
  refine lv_iconst (v := (nI 0)) hx hb dX0_readLog_19 (by decide) ?_
  refine lv_istore_n (lv' := [(3, .int (nI 0)), (0, .ref h0), (1, .int (nI pl)), (2, .int (nI k))]) hx hb dX0_readLog_20 rfl hl (by decide) rfl (fun ls hl => ?_)
  have lp_21 : ∀ (n9 i : Nat), i + n9 = k → ∀ (H : Heap) (locs : List Loc) (ls : Array Slot), va_P D vwCl (wC h0 a0 a1 a2 a3 a4 a5 cI cZ (fl (fun j => lg ((pl + j) % 65536)) i bf) pw hs lo lg rt nb (nI fi) (nI fo) (nI en) 1 cu ma) H → va_D A (wC h0 a0 a1 a2 a3 a4 a5 cI cZ (fl (fun j => lg ((pl + j) % 65536)) i bf) pw hs lo lg rt nb (nI fi) (nI fo) (nI en) 1 cu ma) → va_S A s.heap H locs → lv_has ls 4 [(0, .ref h0), (1, .int (nI pl)), (2, .int (nI k)), (3, .int (nI i))] → W p l e (rmL 8 0 0) s m ([.ref h0, .int (nI pl), .int (nI k)] : List Value).toArray below meth c H locs 0 0 (MQ below (qcV D A (wC h0 a0 a1 a2 a3 a4 a5 cI cZ (fl (fun j => lg ((pl + j) % 65536)) k bf) pw hs lo lg rt nb (nI fi) (nI fo) (nI en) 1 cu ma)) ([.ref h0, .int (nI pl), .int (nI k)] : List Value).toArray s 0 0 A) (F0 m 21 ls []) := by
    intro n9
    induction n9 with
    | zero =>
      intro i hi H locs ls hP hD hS hl
      obtain rfl : k = i := by omega
      refine lv_iload_n hx hb dX0_readLog_21 rfl (lv_at hl 3 rfl) ?_
      refine lv_iload_n hx hb dX0_readLog_22 rfl (lv_at hl 2 rfl) ?_
      refine n_ge (tgt := 49) hx hb (by omega) (by omega) dX0_readLog_23 (by decide) (fun c_23 => ?_) (fun c_23 => absurd c_23 (by omega))
      exact e_V hx hb hr hlocks hP hD hS dX0_readLog_49
    | succ n9 ih =>
      intro i hi H locs ls hP hD hS hl
      refine lv_iload_n hx hb dX0_readLog_21 rfl (lv_at hl 3 rfl) ?_
      refine lv_iload_n hx hb dX0_readLog_22 rfl (lv_at hl 2 rfl) ?_
      refine n_ge (tgt := 49) hx hb (by omega) (by omega) dX0_readLog_23 (by decide) (fun c_23 => absurd c_23 (by omega)) (fun c_23 => ?_)
      refine lv_aload_n hx hb dX0_readLog_26 rfl (lv_at hl 0 rfl) ?_
      refine va_get (ci := 0) (v := .ref a0) (C := RX0) (T := TX0) (N := 13) hx hb hts inX0_readLog hown hK hP 0 rfl rfl 0 (by decide) (hts _ flX0_readLog_9) (fun _ h9 => h9) rfl dX0_readLog_27 ?_
      refine lv_iload_n hx hb dX0_readLog_30 rfl (lv_at hl 3 rfl) ?_
      refine lv_aload_n hx hb dX0_readLog_31 rfl (lv_at hl 0 rfl) ?_
      refine va_get (ci := 0) (v := .ref a4) (C := RX0) (T := TX0) (N := 13) hx hb hts inX0_readLog hown hK hP 0 rfl rfl 5 (by decide) (hts _ flX0_readLog_25) (fun _ h9 => h9) rfl dX0_readLog_32 ?_
      refine lv_iload_n hx hb dX0_readLog_35 rfl (lv_at hl 1 rfl) ?_
      refine lv_iload_n hx hb dX0_readLog_36 rfl (lv_at hl 3 rfl) ?_
      refine n_iadd hx hb dX0_readLog_37 ?_
      refine k_I (wr := wC h0 a0 a1 a2 a3 a4 a5 cI cZ (fl (fun j => lg ((pl + j) % 65536)) i bf) pw hs lo lg rt nb (nI fi) (nI fo) (nI en) 1 cu ma) hP hD hS hA (va_runS (As := [.int (nI (pl + i))]) (rest := [.ref a4, .int (nI i), .ref a0]) ⟨hx, hb, hml, hown, hts⟩ ((tX0_logSlot (pl + i) (by omega)) _) (va_cwS 1 hts gX0_readLog_X0_logSlot rfl rfl rfl (by decide +kernel) ⟨Nat.le_of_ble_eq_true rfl, Nat.le_of_ble_eq_true rfl⟩) (pS_B hP hD hK [] rfl [] rfl rfl) rfl rfl hl.1 rfl (lv_room (Nat.le_of_ble_eq_true rfl)) dX0_readLog_38 ⟨Nat.le_of_ble_eq_true rfl, Nat.le_of_ble_eq_true rfl⟩) [] [0, 1, 2, 3, 4, 5, 6] rfl rfl rfl (by decide) (fun H locs hP hD hS => ?_)
      have hP : va_P D vwCl (wC h0 a0 a1 a2 a3 a4 a5 cI cZ (fl (fun j => lg ((pl + j) % 65536)) i bf) pw hs lo lg rt nb (nI fi) (nI fo) (nI en) 1 cu ma) H := hP
      have hD : va_D A (wC h0 a0 a1 a2 a3 a4 a5 cI cZ (fl (fun j => lg ((pl + j) % 65536)) i bf) pw hs lo lg rt nb (nI fi) (nI fo) (nI en) 1 cu ma) := hD
      refine n_iald hx hb hK hP 5 0 rfl rfl ((pl + i) % 65536) (by omega) (by omega) dX0_readLog_41 ?_
      refine n_iast hx hb hK hP hD hS 1 0 rfl rfl i (by omega) (by omega) dX0_readLog_42 (fun H locs hP hD hS => ?_)
      have hP : va_P D vwCl (wC h0 a0 a1 a2 a3 a4 a5 cI cZ (upd (fl (fun j => lg ((pl + j) % 65536)) i bf) i (lg ((pl + i) % 65536))) pw hs lo lg rt nb (nI fi) (nI fo) (nI en) 1 cu ma) H := hP
      have hD : va_D A (wC h0 a0 a1 a2 a3 a4 a5 cI cZ (upd (fl (fun j => lg ((pl + j) % 65536)) i bf) i (lg ((pl + i) % 65536))) pw hs lo lg rt nb (nI fi) (nI fo) (nI en) 1 cu ma) := hD
      refine n_iinc (lv' := [(3, .int (nI (i + 1))), (0, .ref h0), (1, .int (nI pl)), (2, .int (nI k))]) hx hb dX0_readLog_43 hl (k := 3) rfl (by decide) rfl (fun ls hl => ?_)
      refine lv_goto (tgt := 21) hx hb dX0_readLog_46 (by decide) ?_
      have hP : va_P D vwCl (wC h0 a0 a1 a2 a3 a4 a5 cI cZ (fl (fun j => lg ((pl + j) % 65536)) (i + 1) bf) pw hs lo lg rt nb (nI fi) (nI fo) (nI en) 1 cu ma) H := by rw [← fl_s]; exact hP
      have hD : va_D A (wC h0 a0 a1 a2 a3 a4 a5 cI cZ (fl (fun j => lg ((pl + j) % 65536)) (i + 1) bf) pw hs lo lg rt nb (nI fi) (nI fo) (nI en) 1 cu ma) := by rw [← fl_s]; exact hD
      exact ih (i + 1) (by omega) _ _ _ hP hD hS (lv_sub hl [1, 2, 3, 0] rfl)
  have hP : va_P D vwCl (wC h0 a0 a1 a2 a3 a4 a5 cI cZ (fl (fun j => lg ((pl + j) % 65536)) 0 bf) pw hs lo lg rt nb (nI fi) (nI fo) (nI en) 1 cu ma) H := by rw [fl_0]; exact hP
  have hD : va_D A (wC h0 a0 a1 a2 a3 a4 a5 cI cZ (fl (fun j => lg ((pl + j) % 65536)) 0 bf) pw hs lo lg rt nb (nI fi) (nI fo) (nI en) 1 cu ma) := by rw [fl_0]; exact hD
  exact lp_21 k 0 (by omega) _ _ _ hP hD hS (lv_sub hl [1, 2, 3, 0] rfl)
set_option maxHeartbeats 4000000 in
set_option maxRecDepth 100000 in
theorem tX0_giveBack_xb {l : Launch} {D : va_G} {cI cZ : ClassId} {h0 a0 a1 a2 a3 a4 a5 : Nat} (hl0 : l.stackTraces = false) (bf pw hs lo lg rt : Nat → Int32) (nb : Int32) (fi fo en : Nat) (cu ma : Int32) (x : Int32) (h : x < nI fi ∨ nI fo < x) : RX l yX0_giveBack wsX0_giveBack 8 D (tyC cI cZ) (wC h0 a0 a1 a2 a3 a4 a5 cI cZ bf pw hs lo lg rt nb (nI fi) (nI fo) (nI en) 1 cu ma) [.ref h0, .int x] xIAE := by
  refine st_X (cc := cX0_giveBack) (maxL := 2) (ret := none) (by decide +kernel) rfl (Nat.le_of_ble_eq_true rfl) ?_
  intro p e s m below meth c A hx hb hr hts hown hml hlocks hK hP hD hA hS ls hl hT hex
  have hown : s.vm.findClass RX0 = some m.cls := hown
  have hl : lv_has ls 2 [(0, .ref h0), (1, .int x)] := hl
  refine lv_aload_n hx hb dX0_giveBack_0 rfl (lv_at hl 0 rfl) ?_
  refine k_V (wr := []) hP hD hS hA (va_runV (As := []) (rest := []) ⟨hx, hb, hml, hown, hts⟩ ((tX0_needPower_ok bf pw hs lo lg rt nb fi fo en cu ma) _) (cwV 0 hts gX0_giveBack_X0_needPower rfl rfl rfl (by decide +kernel) ⟨Nat.le_of_ble_eq_true rfl, Nat.le_of_ble_eq_true rfl⟩) (pV_B hP hD hK (ci := 0) (q0 := 0) rfl rfl rfl [0, 1] rfl [0, 1, 2, 3, 4, 5, 6] rfl rfl) rfl rfl hl.1 rfl (lv_room (Nat.le_of_ble_eq_true rfl)) dX0_giveBack_1 ⟨Nat.le_of_ble_eq_true rfl, Nat.le_of_ble_eq_true rfl⟩) [0, 1, 2, 3, 4, 5, 6] [] rfl rfl rfl (by decide) (fun H locs hP hD hS => ?_)
  have hP : va_P D vwCl (wC h0 a0 a1 a2 a3 a4 a5 cI cZ bf pw hs lo lg rt nb (nI fi) (nI fo) (nI en) 1 cu ma) H := hP
  have hD : va_D A (wC h0 a0 a1 a2 a3 a4 a5 cI cZ bf pw hs lo lg rt nb (nI fi) (nI fo) (nI en) 1 cu ma) := hD
  refine lv_aload_n hx hb dX0_giveBack_4 rfl (lv_at hl 0 rfl) ?_
  refine lv_iload_n hx hb dX0_giveBack_5 rfl (lv_at hl 1 rfl) ?_
  refine lv_aload_n hx hb dX0_giveBack_6 rfl (lv_at hl 0 rfl) ?_
  refine va_get (ci := 0) (v := .int (nI fo)) (C := RX0) (T := TX0) (N := 13) hx hb hts inX0_giveBack hown hK hP 0 rfl rfl 7 (by decide) (hts _ flX0_giveBack_96) (fun _ h9 => h9) rfl dX0_giveBack_7 ?_
  exact k_XX hlocks hex (Nat.le_of_ble_eq_true rfl) (Nat.le_of_ble_eq_true rfl) (wr := []) hP hD hS hA (vx_runV (As := [.int x, .int (nI fo)]) (rest := []) ⟨hx, hb, hml, hown, hts⟩ ((tX0_needPlace_x hl0 bf pw hs lo lg rt nb fi fo en 1 cu ma x (nI fo) h) _) (cwV 2 hts gX0_giveBack_X0_needPlace rfl rfl rfl (by decide +kernel) ⟨Nat.le_of_ble_eq_true rfl, Nat.le_of_ble_eq_true rfl⟩) (pV_X hP hD hK hS hA hT (ci := 0) (q0 := 0) rfl rfl rfl [0, 1] rfl [0, 1, 2, 3, 4, 5, 6] rfl rfl) rfl rfl hl.1 rfl (lv_room (Nat.le_of_ble_eq_true rfl)) dX0_giveBack_10 ⟨Nat.le_of_ble_eq_true rfl, Nat.le_of_ble_eq_true rfl⟩) [0, 1, 2, 3, 4, 5, 6] [] rfl rfl rfl (by decide)
set_option maxHeartbeats 4000000 in
set_option maxRecDepth 100000 in
theorem tX0_giveBack_ok {l : Launch} {D : va_G} {cI cZ : ClassId} {h0 a0 a1 a2 a3 a4 a5 : Nat} (bf pw hs lo lg rt : Nat → Int32) (nb : Int32) (fi fo en : Nat) (cu ma : Int32) (pl : Nat) (h1 : fi ≤ pl) (h2 : pl ≤ fo) (h3 : fo ≤ 60000) : RV l yX0_giveBack wsX0_giveBack 8 0 0 D (tyC cI cZ) (wC h0 a0 a1 a2 a3 a4 a5 cI cZ bf pw hs lo lg rt nb (nI fi) (nI fo) (nI en) 1 cu ma) [.ref h0, .int (nI pl)] (wC h0 a0 a1 a2 a3 a4 a5 cI cZ bf pw hs lo lg rt nb (nI pl) (nI fo) (nI en) 1 cu ma) := by
  refine st_V (cc := cX0_giveBack) (maxL := 2) (ret := none) (by decide +kernel) rfl (Nat.le_of_ble_eq_true rfl) ?_
  intro p e s m below meth c A hx hb hr hts hown hml hlocks hK hP hD hA hS ls hl
  have hown : s.vm.findClass RX0 = some m.cls := hown
  have hl : lv_has ls 2 [(0, .ref h0), (1, .int (nI pl))] := hl
  refine lv_aload_n hx hb dX0_giveBack_0 rfl (lv_at hl 0 rfl) ?_
  refine k_V (wr := []) hP hD hS hA (va_runV (As := []) (rest := []) ⟨hx, hb, hml, hown, hts⟩ ((tX0_needPower_ok bf pw hs lo lg rt nb fi fo en cu ma) _) (cwV 0 hts gX0_giveBack_X0_needPower rfl rfl rfl (by decide +kernel) ⟨Nat.le_of_ble_eq_true rfl, Nat.le_of_ble_eq_true rfl⟩) (pV_B hP hD hK (ci := 0) (q0 := 0) rfl rfl rfl [0, 1] rfl [0, 1, 2, 3, 4, 5, 6] rfl rfl) rfl rfl hl.1 rfl (lv_room (Nat.le_of_ble_eq_true rfl)) dX0_giveBack_1 ⟨Nat.le_of_ble_eq_true rfl, Nat.le_of_ble_eq_true rfl⟩) [0, 1, 2, 3, 4, 5, 6] [] rfl rfl rfl (by decide) (fun H locs hP hD hS => ?_)
  have hP : va_P D vwCl (wC h0 a0 a1 a2 a3 a4 a5 cI cZ bf pw hs lo lg rt nb (nI fi) (nI fo) (nI en) 1 cu ma) H := hP
  have hD : va_D A (wC h0 a0 a1 a2 a3 a4 a5 cI cZ bf pw hs lo lg rt nb (nI fi) (nI fo) (nI en) 1 cu ma) := hD
  refine lv_aload_n hx hb dX0_giveBack_4 rfl (lv_at hl 0 rfl) ?_
  refine lv_iload_n hx hb dX0_giveBack_5 rfl (lv_at hl 1 rfl) ?_
  refine lv_aload_n hx hb dX0_giveBack_6 rfl (lv_at hl 0 rfl) ?_
  refine va_get (ci := 0) (v := .int (nI fo)) (C := RX0) (T := TX0) (N := 13) hx hb hts inX0_giveBack hown hK hP 0 rfl rfl 7 (by decide) (hts _ flX0_giveBack_96) (fun _ h9 => h9) rfl dX0_giveBack_7 ?_
  refine k_V (wr := []) hP hD hS hA (va_runV (As := [.int (nI pl), .int (nI fo)]) (rest := []) ⟨hx, hb, hml, hown, hts⟩ ((tX0_needPlace_ok bf pw hs lo lg rt nb fi fo en 1 cu ma pl fo (by omega) (by omega) (by omega)) _) (cwV 2 hts gX0_giveBack_X0_needPlace rfl rfl rfl (by decide +kernel) ⟨Nat.le_of_ble_eq_true rfl, Nat.le_of_ble_eq_true rfl⟩) (pV_B hP hD hK (ci := 0) (q0 := 0) rfl rfl rfl [0, 1] rfl [0, 1, 2, 3, 4, 5, 6] rfl rfl) rfl rfl hl.1 rfl (lv_room (Nat.le_of_ble_eq_true rfl)) dX0_giveBack_10 ⟨Nat.le_of_ble_eq_true rfl, Nat.le_of_ble_eq_true rfl⟩) [0, 1, 2, 3, 4, 5, 6] [] rfl rfl rfl (by decide) (fun H locs hP hD hS => ?_)
  have hP : va_P D vwCl (wC h0 a0 a1 a2 a3 a4 a5 cI cZ bf pw hs lo lg rt nb (nI fi) (nI fo) (nI en) 1 cu ma) H := hP
  have hD : va_D A (wC h0 a0 a1 a2 a3 a4 a5 cI cZ bf pw hs lo lg rt nb (nI fi) (nI fo) (nI en) 1 cu ma) := hD
  refine lv_aload_n hx hb dX0_giveBack_13 rfl (lv_at hl 0 rfl) ?_
  refine lv_iload_n hx hb dX0_giveBack_14 rfl (lv_at hl 1 rfl) ?_
  refine va_put (ci := 0) (v := .int (nI pl)) (ty := .int) (C := RX0) (T := TX0) (N := 13) hx hb hts inX0_giveBack tyX0 tyX0_ok nmX0 hown hK hP hD hS 0 rfl rfl 6 (by decide) (hts _ flX0_giveBack_87) (fun _ h9 => h9) rfl (by decide +kernel) rfl rfl (Nat.le_of_ble_eq_true rfl) dX0_giveBack_15 (fun H locs hP hD hS => ?_)
  have hP : va_P D vwCl (wC h0 a0 a1 a2 a3 a4 a5 cI cZ bf pw hs lo lg rt nb (nI pl) (nI fo) (nI en) 1 cu ma) H := hP
  have hD : va_D A (wC h0 a0 a1 a2 a3 a4 a5 cI cZ bf pw hs lo lg rt nb (nI pl) (nI fo) (nI en) 1 cu ma) := hD
  exact e_V hx hb hr hlocks hP hD hS dX0_giveBack_18
set_option maxHeartbeats 4000000 in
set_option maxRecDepth 100000 in
theorem tX0_log_ok0 {l : Launch} {D : va_G} {cI cZ : ClassId} {h0 a0 a1 a2 a3 a4 a5 : Nat} (bf pw hs lo lg rt : Nat → Int32) (nb : Int32) (fi fo en : Nat) (on cu ma : Int32) : RI l yX0_log wsX0_log 8 0 0 D (tyC cI cZ) (wC h0 a0 a1 a2 a3 a4 a5 cI cZ bf pw hs lo lg rt nb (nI fi) (nI fo) (nI en) on cu ma) [.ref h0, .int (nI 0)] (nI fi) (wC h0 a0 a1 a2 a3 a4 a5 cI cZ bf pw hs lo lg rt nb (nI fi) (nI fo) (nI en) on cu ma) := by
  refine st_I (cc := cX0_log) (maxL := 2) (ret := (some .int)) (by decide +kernel) rfl (Nat.le_of_ble_eq_true rfl) ?_
  intro p e s m below meth c A hx hb hr hts hown hml hlocks hK hP hD hA hS ls hl
  have hown : s.vm.findClass RX0 = some m.cls := hown
  have hl : lv_has ls 2 [(0, .ref h0), (1, .int (nI 0))] := hl
  refine lv_iload_n hx hb dX0_log_0 rfl (lv_at hl 1 rfl) ?_
  refine lv_tableIn (off := 27) (tgt := 28) hx hb dX0_log_1 (by decide) (by decide) (by decide) (by decide) ?_
  refine lv_aload_n hx hb dX0_log_28 rfl (lv_at hl 0 rfl) ?_
  refine va_get (ci := 0) (v := .int (nI fi)) (C := RX0) (T := TX0) (N := 13) hx hb hts inX0_log hown hK hP 0 rfl rfl 6 (by decide) (hts _ flX0_log_87) (fun _ h9 => h9) rfl dX0_log_29 ?_
  exact e_I hx hb hr hlocks hP hD hS rfl dX0_log_32
set_option maxHeartbeats 4000000 in
set_option maxRecDepth 100000 in
theorem tX0_log_ok1 {l : Launch} {D : va_G} {cI cZ : ClassId} {h0 a0 a1 a2 a3 a4 a5 : Nat} (bf pw hs lo lg rt : Nat → Int32) (nb : Int32) (fi fo en : Nat) (on cu ma : Int32) : RI l yX0_log wsX0_log 8 0 0 D (tyC cI cZ) (wC h0 a0 a1 a2 a3 a4 a5 cI cZ bf pw hs lo lg rt nb (nI fi) (nI fo) (nI en) on cu ma) [.ref h0, .int (nI 1)] (nI fo) (wC h0 a0 a1 a2 a3 a4 a5 cI cZ bf pw hs lo lg rt nb (nI fi) (nI fo) (nI en) on cu ma) := by
  refine st_I (cc := cX0_log) (maxL := 2) (ret := (some .int)) (by decide +kernel) rfl (Nat.le_of_ble_eq_true rfl) ?_
  intro p e s m below meth c A hx hb hr hts hown hml hlocks hK hP hD hA hS ls hl
  have hown : s.vm.findClass RX0 = some m.cls := hown
  have hl : lv_has ls 2 [(0, .ref h0), (1, .int (nI 1))] := hl
  refine lv_iload_n hx hb dX0_log_0 rfl (lv_at hl 1 rfl) ?_
  refine lv_tableIn (off := 32) (tgt := 33) hx hb dX0_log_1 (by decide) (by decide) (by decide) (by decide) ?_
  refine lv_aload_n hx hb dX0_log_33 rfl (lv_at hl 0 rfl) ?_
  refine va_get (ci := 0) (v := .int (nI fo)) (C := RX0) (T := TX0) (N := 13) hx hb hts inX0_log hown hK hP 0 rfl rfl 7 (by decide) (hts _ flX0_log_96) (fun _ h9 => h9) rfl dX0_log_34 ?_
  exact e_I hx hb hr hlocks hP hD hS rfl dX0_log_37
set_option maxHeartbeats 4000000 in
set_option maxRecDepth 100000 in
theorem tX0_log_ok2 {l : Launch} {D : va_G} {cI cZ : ClassId} {h0 a0 a1 a2 a3 a4 a5 : Nat} (bf pw hs lo lg rt : Nat → Int32) (nb : Int32) (fi fo en : Nat) (on cu ma : Int32) : RI l yX0_log wsX0_log 8 0 0 D (tyC cI cZ) (wC h0 a0 a1 a2 a3 a4 a5 cI cZ bf pw hs lo lg rt nb (nI fi) (nI fo) (nI en) on cu ma) [.ref h0, .int (nI 2)] (nI en) (wC h0 a0 a1 a2 a3 a4 a5 cI cZ bf pw hs lo lg rt nb (nI fi) (nI fo) (nI en) on cu ma) := by
  refine st_I (cc := cX0_log) (maxL := 2) (ret := (some .int)) (by decide +kernel) rfl (Nat.le_of_ble_eq_true rfl) ?_
  intro p e s m below meth c A hx hb hr hts hown hml hlocks hK hP hD hA hS ls hl
  have hown : s.vm.findClass RX0 = some m.cls := hown
  have hl : lv_has ls 2 [(0, .ref h0), (1, .int (nI 2))] := hl
  refine lv_iload_n hx hb dX0_log_0 rfl (lv_at hl 1 rfl) ?_
  refine lv_tableIn (off := 37) (tgt := 38) hx hb dX0_log_1 (by decide) (by decide) (by decide) (by decide) ?_
  refine lv_aload_n hx hb dX0_log_38 rfl (lv_at hl 0 rfl) ?_
  refine va_get (ci := 0) (v := .int (nI en)) (C := RX0) (T := TX0) (N := 13) hx hb hts inX0_log hown hK hP 0 rfl rfl 8 (by decide) (hts _ flX0_log_84) (fun _ h9 => h9) rfl dX0_log_39 ?_
  exact e_I hx hb hr hlocks hP hD hS rfl dX0_log_42
theorem ix_out3 {x : Int32} (h : x < 0 ∨ nI 3 ≤ x) : x.toInt < 0 ∨ 2 < x.toInt := by
  rcases h with h | h
  · exact Or.inl (Int32.lt_iff_toInt_lt.mp h)
  · have h2 := Int32.le_iff_toInt_le.mp h
    rw [nI_toInt (by decide)] at h2
    exact Or.inr (by omega)
set_option maxHeartbeats 4000000 in
set_option maxRecDepth 100000 in
theorem tX0_log_xb {l : Launch} {D : va_G} {cI cZ : ClassId} {h0 a0 a1 a2 a3 a4 a5 : Nat} (hl0 : l.stackTraces = false) (bf pw hs lo lg rt : Nat → Int32) (nb : Int32) (fi fo en : Nat) (on cu ma : Int32) (x : Int32) (h : x < 0 ∨ nI 3 ≤ x) : RX l yX0_log wsX0_log 8 D (tyC cI cZ) (wC h0 a0 a1 a2 a3 a4 a5 cI cZ bf pw hs lo lg rt nb (nI fi) (nI fo) (nI en) on cu ma) [.ref h0, .int x] xIOB := by
  refine st_X (cc := cX0_log) (maxL := 2) (ret := (some .int)) (by decide +kernel) rfl (Nat.le_of_ble_eq_true rfl) ?_
  intro p e s m below meth c A hx hb hr hts hown hml hlocks hK hP hD hA hS ls hl hT hex
  have hown : s.vm.findClass RX0 = some m.cls := hown
  have hl : lv_has ls 2 [(0, .ref h0), (1, .int x)] := hl
  refine lv_iload_n hx hb dX0_log_0 rfl (lv_at hl 1 rfl) ?_
  refine lv_tableOut (tgt := 43) hx hb dX0_log_1 (ix_out3 h) (by decide) ?_
  exact e_X (text := "no such end of the log") hx hb hl0 hown rfl hts (by decide +kernel) thX0_log_k thX0_log_i thX0_log_g xNg_xIOB xGd_xIOB (by decide) hT hlocks hex hP hD hS hl.1 hml dX0_log_43 dX0_log_46 dX0_log_47 dX0_log_49 dX0_log_52 (Nat.le_of_ble_eq_true rfl) (Nat.le_of_ble_eq_true rfl) (Nat.le_of_ble_eq_true rfl) (Nat.le_of_ble_eq_true rfl) (Nat.le_of_ble_eq_true rfl) (Nat.le_of_ble_eq_true rfl)
set_option maxHeartbeats 4000000 in
set_option maxRecDepth 100000 in
theorem tX0_setRoot_xb {l : Launch} {D : va_G} {cI cZ : ClassId} {h0 a0 a1 a2 a3 a4 a5 : Nat} (hl0 : l.stackTraces = false) (bf pw hs lo lg rt : Nat → Int32) (nb : Int32) (fi fo en : Nat) (cu ma : Int32) (x y : Int32) (h : x < 0 ∨ nI 4 ≤ x) : RX l yX0_setRoot wsX0_setRoot 8 D (tyC cI cZ) (wC h0 a0 a1 a2 a3 a4 a5 cI cZ bf pw hs lo lg rt nb (nI fi) (nI fo) (nI en) 1 cu ma) [.ref h0, .int x, .int y] xIOB := by
  refine st_X (cc := cX0_setRoot) (maxL := 3) (ret := (some .boolean)) (by decide +kernel) rfl (Nat.le_of_ble_eq_true rfl) ?_
  intro p e s m below meth c A hx hb hr hts hown hml hlocks hK hP hD hA hS ls hl hT hex
  have hown : s.vm.findClass RX0 = some m.cls := hown
  have hl : lv_has ls 3 [(0, .ref h0), (1, .int x), (2, .int y)] := hl
  refine lv_aload_n hx hb dX0_setRoot_0 rfl (lv_at hl 0 rfl) ?_
  refine k_V (wr := []) hP hD hS hA (va_runV (As := []) (rest := []) ⟨hx, hb, hml, hown, hts⟩ ((tX0_needPower_ok bf pw hs lo lg rt nb fi fo en cu ma) _) (cwV 0 hts gX0_setRoot_X0_needPower rfl rfl rfl (by decide +kernel) ⟨Nat.le_of_ble_eq_true rfl, Nat.le_of_ble_eq_true rfl⟩) (pV_B hP hD hK (ci := 0) (q0 := 0) rfl rfl rfl [0, 1] rfl [0, 1, 2, 3, 4, 5, 6] rfl rfl) rfl rfl hl.1 rfl (lv_room (Nat.le_of_ble_eq_true rfl)) dX0_setRoot_1 ⟨Nat.le_of_ble_eq_true rfl, Nat.le_of_ble_eq_true rfl⟩) [0, 1, 2, 3, 4, 5, 6] [] rfl rfl rfl (by decide) (fun H locs hP hD hS => ?_)
  have hP : va_P D vwCl (wC h0 a0 a1 a2 a3 a4 a5 cI cZ bf pw hs lo lg rt nb (nI fi) (nI fo) (nI en) 1 cu ma) H := hP
  have hD : va_D A (wC h0 a0 a1 a2 a3 a4 a5 cI cZ bf pw hs lo lg rt nb (nI fi) (nI fo) (nI en) 1 cu ma) := hD
  refine lv_iload_n hx hb dX0_setRoot_4 rfl (lv_at hl 1 rfl) ?_
  refine lv_iconst (v := (nI 4)) hx hb dX0_setRoot_5 (by decide) ?_
  exact k_XX hlocks hex (Nat.le_of_ble_eq_true rfl) (Nat.le_of_ble_eq_true rfl) (wr := wC h0 a0 a1 a2 a3 a4 a5 cI cZ bf pw hs lo lg rt nb (nI fi) (nI fo) (nI en) 1 cu ma) hP hD hS hA (vx_runS (As := [.int x, .int (nI 4)]) (rest := []) ⟨hx, hb, hml, hown, hts⟩ ((tX0_needIndex_x hl0 x 4 h) _) (va_cwS 2 hts gX0_setRoot_X0_needIndex rfl rfl rfl (by decide +kernel) ⟨Nat.le_of_ble_eq_true rfl, Nat.le_of_ble_eq_true rfl⟩) (pS_X hP hD hK hS hA hT [] rfl [] rfl rfl) rfl rfl hl.1 rfl (lv_room (Nat.le_of_ble_eq_true rfl)) dX0_setRoot_6 ⟨Nat.le_of_ble_eq_true rfl, Nat.le_of_ble_eq_true rfl⟩) [] [0, 1, 2, 3, 4, 5, 6] rfl rfl rfl (by decide)
set_option maxHeartbeats 4000000 in
set_option maxRecDepth 100000 in
theorem tX0_setRoot_cut {l : Launch} {D : va_G} {cI cZ : ClassId} {h0 a0 a1 a2 a3 a4 a5 : Nat} (bf pw hs lo lg rt : Nat → Int32) (nb : Int32) (fi fo en : Nat) (cu ma : Int32) (k : Nat) (hk : k < 4) (y : Int32) (h : cu = 0) : RI l yX0_setRoot wsX0_setRoot 8 0 0 D (tyC cI cZ) (wC h0 a0 a1 a2 a3 a4 a5 cI cZ bf pw hs lo lg rt nb (nI fi) (nI fo) (nI en) 1 cu ma) [.ref h0, .int (nI k), .int y] 0 (wC h0 a0 a1 a2 a3 a4 a5 cI cZ (zf bf) pw hs lo lg rt nb (nI fi) (nI fo) (nI fo) 0 cu ma) := by
  refine st_I (cc := cX0_setRoot) (maxL := 3) (ret := (some .boolean)) (by decide +kernel) rfl (Nat.le_of_ble_eq_true rfl) ?_
  intro p e s m below meth c A hx hb hr hts hown hml hlocks hK hP hD hA hS ls hl
  have hown : s.vm.findClass RX0 = some m.cls := hown
  have hl : lv_has ls 3 [(0, .ref h0), (1, .int (nI k)), (2, .int y)] := hl
  refine lv_aload_n hx hb dX0_setRoot_0 rfl (lv_at hl 0 rfl) ?_
  refine k_V (wr := []) hP hD hS hA (va_runV (As := []) (rest := []) ⟨hx, hb, hml, hown, hts⟩ ((tX0_needPower_ok bf pw hs lo lg rt nb fi fo en cu ma) _) (cwV 0 hts gX0_setRoot_X0_needPower rfl rfl rfl (by decide +kernel) ⟨Nat.le_of_ble_eq_true rfl, Nat.le_of_ble_eq_true rfl⟩) (pV_B hP hD hK (ci := 0) (q0 := 0) rfl rfl rfl [0, 1] rfl [0, 1, 2, 3, 4, 5, 6] rfl rfl) rfl rfl hl.1 rfl (lv_room (Nat.le_of_ble_eq_true rfl)) dX0_setRoot_1 ⟨Nat.le_of_ble_eq_true rfl, Nat.le_of_ble_eq_true rfl⟩) [0, 1, 2, 3, 4, 5, 6] [] rfl rfl rfl (by decide) (fun H locs hP hD hS => ?_)
  have hP : va_P D vwCl (wC h0 a0 a1 a2 a3 a4 a5 cI cZ bf pw hs lo lg rt nb (nI fi) (nI fo) (nI en) 1 cu ma) H := hP
  have hD : va_D A (wC h0 a0 a1 a2 a3 a4 a5 cI cZ bf pw hs lo lg rt nb (nI fi) (nI fo) (nI en) 1 cu ma) := hD
  refine lv_iload_n hx hb dX0_setRoot_4 rfl (lv_at hl 1 rfl) ?_
  refine lv_iconst (v := (nI 4)) hx hb dX0_setRoot_5 (by decide) ?_
  refine k_V (wr := wC h0 a0 a1 a2 a3 a4 a5 cI cZ bf pw hs lo lg rt nb (nI fi) (nI fo) (nI en) 1 cu ma) hP hD hS hA (va_runS (As := [.int (nI k), .int (nI 4)]) (rest := []) ⟨hx, hb, hml, hown, hts⟩ ((tX0_needIndex_ok k 4 (by omega) (by omega)) _) (va_cwS 2 hts gX0_setRoot_X0_needIndex rfl rfl rfl (by decide +kernel) ⟨Nat.le_of_ble_eq_true rfl, Nat.le_of_ble_eq_true rfl⟩) (pS_B hP hD hK [] rfl [] rfl rfl) rfl rfl hl.1 rfl (lv_room (Nat.le_of_ble_eq_true rfl)) dX0_setRoot_6 ⟨Nat.le_of_ble_eq_true rfl, Nat.le_of_ble_eq_true rfl⟩) [] [0, 1, 2, 3, 4, 5, 6] rfl rfl rfl (by decide) (fun H locs hP hD hS => ?_)
  have hP : va_P D vwCl (wC h0 a0 a1 a2 a3 a4 a5 cI cZ bf pw hs lo lg rt nb (nI fi) (nI fo) (nI en) 1 cu ma) H := hP
  have hD : va_D A (wC h0 a0 a1 a2 a3 a4 a5 cI cZ bf pw hs lo lg rt nb (nI fi) (nI fo) (nI en) 1 cu ma) := hD
  refine lv_aload_n hx hb dX0_setRoot_9 rfl (lv_at hl 0 rfl) ?_
  refine k_I (wr := []) hP hD hS hA (va_runV (As := []) (rest := []) ⟨hx, hb, hml, hown, hts⟩ ((tX0_makeLeastWrite_cut bf pw hs lo lg rt nb fi fo en 1 cu ma h) _) (cwV 0 hts gX0_setRoot_X0_makeLeastWrite rfl rfl rfl (by decide +kernel) ⟨Nat.le_of_ble_eq_true rfl, Nat.le_of_ble_eq_true rfl⟩) (pV_B hP hD hK (ci := 0) (q0 := 0) rfl rfl rfl [0, 1] rfl [0, 1, 2, 3, 4, 5, 6] rfl rfl) rfl rfl hl.1 rfl (lv_room (Nat.le_of_ble_eq_true rfl)) dX0_setRoot_10 ⟨Nat.le_of_ble_eq_true rfl, Nat.le_of_ble_eq_true rfl⟩) [0, 1, 2, 3, 4, 5, 6] [] rfl rfl rfl (by decide) (fun H locs hP hD hS => ?_)
  have hP : va_P D vwCl (wC h0 a0 a1 a2 a3 a4 a5 cI cZ (zf bf) pw hs lo lg rt nb (nI fi) (nI fo) (nI fo) 0 cu ma) H := hP
  have hD : va_D A (wC h0 a0 a1 a2 a3 a4 a5 cI cZ (zf bf) pw hs lo lg rt nb (nI fi) (nI fo) (nI fo) 0 cu ma) := hD
  refine lv_if_ne (tgt := 18) hx hb dX0_setRoot_13 (by decide) (fun c_13 => absurd (rfl) c_13) (fun c_13 => ?_)
  refine lv_iconst (v := (0)) hx hb dX0_setRoot_16 (by decide) ?_
  exact e_Z hx hb hr hlocks hP hD hS rfl rfl dX0_setRoot_17
set_option maxHeartbeats 4000000 in
set_option maxRecDepth 100000 in
theorem tX0_setRoot_ok {l : Launch} {D : va_G} {cI cZ : ClassId} {h0 a0 a1 a2 a3 a4 a5 : Nat} (bf pw hs lo lg rt : Nat → Int32) (nb : Int32) (fi fo en : Nat) (cu ma : Int32) (k : Nat) (hk : k < 4) (y : Int32) (h : ¬ cu = 0) : RI l yX0_setRoot wsX0_setRoot 8 0 0 D (tyC cI cZ) (wC h0 a0 a1 a2 a3 a4 a5 cI cZ bf pw hs lo lg rt nb (nI fi) (nI fo) (nI en) 1 cu ma) [.ref h0, .int (nI k), .int y] 1 (wC h0 a0 a1 a2 a3 a4 a5 cI cZ bf pw hs lo lg (upd rt k y) nb (nI fi) (nI fo) (nI en) 1 (dcu cu) (ma + 1)) := by
  refine st_I (cc := cX0_setRoot) (maxL := 3) (ret := (some .boolean)) (by decide +kernel) rfl (Nat.le_of_ble_eq_true rfl) ?_
  intro p e s m below meth c A hx hb hr hts hown hml hlocks hK hP hD hA hS ls hl
  have hown : s.vm.findClass RX0 = some m.cls := hown
  have hl : lv_has ls 3 [(0, .ref h0), (1, .int (nI k)), (2, .int y)] := hl
  refine lv_aload_n hx hb dX0_setRoot_0 rfl (lv_at hl 0 rfl) ?_
  refine k_V (wr := []) hP hD hS hA (va_runV (As := []) (rest := []) ⟨hx, hb, hml, hown, hts⟩ ((tX0_needPower_ok bf pw hs lo lg rt nb fi fo en cu ma) _) (cwV 0 hts gX0_setRoot_X0_needPower rfl rfl rfl (by decide +kernel) ⟨Nat.le_of_ble_eq_true rfl, Nat.le_of_ble_eq_true rfl⟩) (pV_B hP hD hK (ci := 0) (q0 := 0) rfl rfl rfl [0, 1] rfl [0, 1, 2, 3, 4, 5, 6] rfl rfl) rfl rfl hl.1 rfl (lv_room (Nat.le_of_ble_eq_true rfl)) dX0_setRoot_1 ⟨Nat.le_of_ble_eq_true rfl, Nat.le_of_ble_eq_true rfl⟩) [0, 1, 2, 3, 4, 5, 6] [] rfl rfl rfl (by decide) (fun H locs hP hD hS => ?_)
  have hP : va_P D vwCl (wC h0 a0 a1 a2 a3 a4 a5 cI cZ bf pw hs lo lg rt nb (nI fi) (nI fo) (nI en) 1 cu ma) H := hP
  have hD : va_D A (wC h0 a0 a1 a2 a3 a4 a5 cI cZ bf pw hs lo lg rt nb (nI fi) (nI fo) (nI en) 1 cu ma) := hD
  refine lv_iload_n hx hb dX0_setRoot_4 rfl (lv_at hl 1 rfl) ?_
  refine lv_iconst (v := (nI 4)) hx hb dX0_setRoot_5 (by decide) ?_
  refine k_V (wr := wC h0 a0 a1 a2 a3 a4 a5 cI cZ bf pw hs lo lg rt nb (nI fi) (nI fo) (nI en) 1 cu ma) hP hD hS hA (va_runS (As := [.int (nI k), .int (nI 4)]) (rest := []) ⟨hx, hb, hml, hown, hts⟩ ((tX0_needIndex_ok k 4 (by omega) (by omega)) _) (va_cwS 2 hts gX0_setRoot_X0_needIndex rfl rfl rfl (by decide +kernel) ⟨Nat.le_of_ble_eq_true rfl, Nat.le_of_ble_eq_true rfl⟩) (pS_B hP hD hK [] rfl [] rfl rfl) rfl rfl hl.1 rfl (lv_room (Nat.le_of_ble_eq_true rfl)) dX0_setRoot_6 ⟨Nat.le_of_ble_eq_true rfl, Nat.le_of_ble_eq_true rfl⟩) [] [0, 1, 2, 3, 4, 5, 6] rfl rfl rfl (by decide) (fun H locs hP hD hS => ?_)
  have hP : va_P D vwCl (wC h0 a0 a1 a2 a3 a4 a5 cI cZ bf pw hs lo lg rt nb (nI fi) (nI fo) (nI en) 1 cu ma) H := hP
  have hD : va_D A (wC h0 a0 a1 a2 a3 a4 a5 cI cZ bf pw hs lo lg rt nb (nI fi) (nI fo) (nI en) 1 cu ma) := hD
  refine lv_aload_n hx hb dX0_setRoot_9 rfl (lv_at hl 0 rfl) ?_
  refine k_I (wr := []) hP hD hS hA (va_runV (As := []) (rest := []) ⟨hx, hb, hml, hown, hts⟩ ((tX0_makeLeastWrite_ok bf pw hs lo lg rt nb fi fo en 1 cu ma h) _) (cwV 0 hts gX0_setRoot_X0_makeLeastWrite rfl rfl rfl (by decide +kernel) ⟨Nat.le_of_ble_eq_true rfl, Nat.le_of_ble_eq_true rfl⟩) (pV_B hP hD hK (ci := 0) (q0 := 0) rfl rfl rfl [0, 1] rfl [0, 1, 2, 3, 4, 5, 6] rfl rfl) rfl rfl hl.1 rfl (lv_room (Nat.le_of_ble_eq_true rfl)) dX0_setRoot_10 ⟨Nat.le_of_ble_eq_true rfl, Nat.le_of_ble_eq_true rfl⟩) [0, 1, 2, 3, 4, 5, 6] [] rfl rfl rfl (by decide) (fun H locs hP hD hS => ?_)
  have hP : va_P D vwCl (wC h0 a0 a1 a2 a3 a4 a5 cI cZ bf pw hs lo lg rt nb (nI fi) (nI fo) (nI en) 1 (dcu cu) (ma + 1)) H := hP
  have hD : va_D A (wC h0 a0 a1 a2 a3 a4 a5 cI cZ bf pw hs lo lg rt nb (nI fi) (nI fo) (nI en) 1 (dcu cu) (ma + 1)) := hD
  refine lv_if_ne (tgt := 18) hx hb dX0_setRoot_13 (by decide) (fun c_13 => ?_) (fun c_13 => absurd c_13 (by decide))
  refine lv_aload_n hx hb dX0_setRoot_18 rfl (lv_at hl 0 rfl) ?_
  refine va_get (ci := 0) (v := .ref a5) (C := RX0) (T := TX0) (N := 13) hx hb hts inX0_setRoot hown hK hP 0 rfl rfl 9 (by decide) (hts _ flX0_setRoot_28) (fun _ h9 => h9) rfl dX0_setRoot_19 ?_
  refine lv_iload_n hx hb dX0_setRoot_22 rfl (lv_at hl 1 rfl) ?_
  refine lv_iload_n hx hb dX0_setRoot_23 rfl (lv_at hl 2 rfl) ?_
  refine n_iast hx hb hK hP hD hS 6 0 rfl rfl k (by omega) (by omega) dX0_setRoot_24 (fun H locs hP hD hS => ?_)
  have hP : va_P D vwCl (wC h0 a0 a1 a2 a3 a4 a5 cI cZ bf pw hs lo lg (upd rt k y) nb (nI fi) (nI fo) (nI en) 1 (dcu cu) (ma + 1)) H := hP
  have hD : va_D A (wC h0 a0 a1 a2 a3 a4 a5 cI cZ bf pw hs lo lg (upd rt k y) nb (nI fi) (nI fo) (nI en) 1 (dcu cu) (ma + 1)) := hD
  refine lv_iconst (v := (1)) hx hb dX0_setRoot_25 (by decide) ?_
  exact e_Z hx hb hr hlocks hP hD hS rfl rfl dX0_setRoot_26
set_option maxHeartbeats 4000000 in
set_option maxRecDepth 100000 in
theorem tX0_root_xb {l : Launch} {D : va_G} {cI cZ : ClassId} {h0 a0 a1 a2 a3 a4 a5 : Nat} (hl0 : l.stackTraces = false) (bf pw hs lo lg rt : Nat → Int32) (nb : Int32) (fi fo en : Nat) (on cu ma : Int32) (x : Int32) (h : x < 0 ∨ nI 4 ≤ x) : RX l yX0_root wsX0_root 8 D (tyC cI cZ) (wC h0 a0 a1 a2 a3 a4 a5 cI cZ bf pw hs lo lg rt nb (nI fi) (nI fo) (nI en) on cu ma) [.ref h0, .int x] xIOB := by
  refine st_X (cc := cX0_root) (maxL := 2) (ret := (some .int)) (by decide +kernel) rfl (Nat.le_of_ble_eq_true rfl) ?_
  intro p e s m below meth c A hx hb hr hts hown hml hlocks hK hP hD hA hS ls hl hT hex
  have hown : s.vm.findClass RX0 = some m.cls := hown
  have hl : lv_has ls 2 [(0, .ref h0), (1, .int x)] := hl
  refine lv_iload_n hx hb dX0_root_0 rfl (lv_at hl 1 rfl) ?_
  refine lv_iconst (v := (nI 4)) hx hb dX0_root_1 (by decide) ?_
  exact k_XX hlocks hex (Nat.le_of_ble_eq_true rfl) (Nat.le_of_ble_eq_true rfl) (wr := wC h0 a0 a1 a2 a3 a4 a5 cI cZ bf pw hs lo lg rt nb (nI fi) (nI fo) (nI en) on cu ma) hP hD hS hA (vx_runS (As := [.int x, .int (nI 4)]) (rest := []) ⟨hx, hb, hml, hown, hts⟩ ((tX0_needIndex_x hl0 x 4 h) _) (va_cwS 2 hts gX0_root_X0_needIndex rfl rfl rfl (by decide +kernel) ⟨Nat.le_of_ble_eq_true rfl, Nat.le_of_ble_eq_true rfl⟩) (pS_X hP hD hK hS hA hT [] rfl [] rfl rfl) rfl rfl hl.1 rfl (lv_room (Nat.le_of_ble_eq_true rfl)) dX0_root_2 ⟨Nat.le_of_ble_eq_true rfl, Nat.le_of_ble_eq_true rfl⟩) [] [0, 1, 2, 3, 4, 5, 6] rfl rfl rfl (by decide)
set_option maxHeartbeats 4000000 in
set_option maxRecDepth 100000 in
theorem tX0_root_ok {l : Launch} {D : va_G} {cI cZ : ClassId} {h0 a0 a1 a2 a3 a4 a5 : Nat} (bf pw hs lo lg rt : Nat → Int32) (nb : Int32) (fi fo en : Nat) (on cu ma : Int32) (k : Nat) (hk : k < 4) : RI l yX0_root wsX0_root 8 0 0 D (tyC cI cZ) (wC h0 a0 a1 a2 a3 a4 a5 cI cZ bf pw hs lo lg rt nb (nI fi) (nI fo) (nI en) on cu ma) [.ref h0, .int (nI k)] (rt k) (wC h0 a0 a1 a2 a3 a4 a5 cI cZ bf pw hs lo lg rt nb (nI fi) (nI fo) (nI en) on cu ma) := by
  refine st_I (cc := cX0_root) (maxL := 2) (ret := (some .int)) (by decide +kernel) rfl (Nat.le_of_ble_eq_true rfl) ?_
  intro p e s m below meth c A hx hb hr hts hown hml hlocks hK hP hD hA hS ls hl
  have hown : s.vm.findClass RX0 = some m.cls := hown
  have hl : lv_has ls 2 [(0, .ref h0), (1, .int (nI k))] := hl
  refine lv_iload_n hx hb dX0_root_0 rfl (lv_at hl 1 rfl) ?_
  refine lv_iconst (v := (nI 4)) hx hb dX0_root_1 (by decide) ?_
  refine k_V (wr := wC h0 a0 a1 a2 a3 a4 a5 cI cZ bf pw hs lo lg rt nb (nI fi) (nI fo) (nI en) on cu ma) hP hD hS hA (va_runS (As := [.int (nI k), .int (nI 4)]) (rest := []) ⟨hx, hb, hml, hown, hts⟩ ((tX0_needIndex_ok k 4 (by omega) (by omega)) _) (va_cwS 2 hts gX0_root_X0_needIndex rfl rfl rfl (by decide +kernel) ⟨Nat.le_of_ble_eq_true rfl, Nat.le_of_ble_eq_true rfl⟩) (pS_B hP hD hK [] rfl [] rfl rfl) rfl rfl hl.1 rfl (lv_room (Nat.le_of_ble_eq_true rfl)) dX0_root_2 ⟨Nat.le_of_ble_eq_true rfl, Nat.le_of_ble_eq_true rfl⟩) [] [0, 1, 2, 3, 4, 5, 6] rfl rfl rfl (by decide) (fun H locs hP hD hS => ?_)
  have hP : va_P D vwCl (wC h0 a0 a1 a2 a3 a4 a5 cI cZ bf pw hs lo lg rt nb (nI fi) (nI fo) (nI en) on cu ma) H := hP
  have hD : va_D A (wC h0 a0 a1 a2 a3 a4 a5 cI cZ bf pw hs lo lg rt nb (nI fi) (nI fo) (nI en) on cu ma) := hD
  refine lv_aload_n hx hb dX0_root_5 rfl (lv_at hl 0 rfl) ?_
  refine va_get (ci := 0) (v := .ref a5) (C := RX0) (T := TX0) (N := 13) hx hb hts inX0_root hown hK hP 0 rfl rfl 9 (by decide) (hts _ flX0_root_28) (fun _ h9 => h9) rfl dX0_root_6 ?_
  refine lv_iload_n hx hb dX0_root_9 rfl (lv_at hl 1 rfl) ?_
  refine n_iald hx hb hK hP 6 0 rfl rfl k (by omega) (by omega) dX0_root_10 ?_
  exact e_I hx hb hr hlocks hP hD hS rfl dX0_root_11
set_option maxHeartbeats 4000000 in
set_option maxRecDepth 100000 in
theorem tX0_writes_ok {l : Launch} {D : va_G} {cI cZ : ClassId} {h0 a0 a1 a2 a3 a4 a5 : Nat} (bf pw hs lo lg rt : Nat → Int32) (nb : Int32) (fi fo en : Nat) (on cu ma : Int32) : RI l yX0_writes wsX0_writes 8 0 0 D (tyC cI cZ) (wC h0 a0 a1 a2 a3 a4 a5 cI cZ bf pw hs lo lg rt nb (nI fi) (nI fo) (nI en) on cu ma) [.ref h0] ma (wC h0 a0 a1 a2 a3 a4 a5 cI cZ bf pw hs lo lg rt nb (nI fi) (nI fo) (nI en) on cu ma) := by
  refine st_I (cc := cX0_writes) (maxL := 1) (ret := (some .int)) (by decide +kernel) rfl (Nat.le_of_ble_eq_true rfl) ?_
  intro p e s m below meth c A hx hb hr hts hown hml hlocks hK hP hD hA hS ls hl
  have hown : s.vm.findClass RX0 = some m.cls := hown
  have hl : lv_has ls 1 [(0, .ref h0)] := hl
  refine lv_aload_n hx hb dX0_writes_0 rfl (lv_at hl 0 rfl) ?_
  refine va_get (ci := 0) (v := .int ma) (C := RX0) (T := TX0) (N := 13) hx hb hts inX0_writes hown hK hP 0 rfl rfl 12 (by decide) (hts _ flX0_writes_108) (fun _ h9 => h9) rfl dX0_writes_1 ?_
  exact e_I hx hb hr hlocks hP hD hS rfl dX0_writes_4
set_option maxHeartbeats 4000000 in
set_option maxRecDepth 100000 in
theorem tX0_cutAfter_xb {l : Launch} {D : va_G} {cI cZ : ClassId} {h0 a0 a1 a2 a3 a4 a5 : Nat} (hl0 : l.stackTraces = false) (bf pw hs lo lg rt : Nat → Int32) (nb : Int32) (fi fo en : Nat) (on cu ma : Int32) (x : Int32) (h : x < -1) : RX l yX0_cutAfter wsX0_cutAfter 8 D (tyC cI cZ) (wC h0 a0 a1 a2 a3 a4 a5 cI cZ bf pw hs lo lg rt nb (nI fi) (nI fo) (nI en) on cu ma) [.ref h0, .int x] xIAE := by
  refine st_X (cc := cX0_cutAfter) (maxL := 2) (ret := none) (by decide +kernel) rfl (Nat.le_of_ble_eq_true rfl) ?_
  intro p e s m below meth c A hx hb hr hts hown hml hlocks hK hP hD hA hS ls hl hT hex
  have hown : s.vm.findClass RX0 = some m.cls := hown
  have hl : lv_has ls 2 [(0, .ref h0), (1, .int x)] := hl
  refine lv_iload_n hx hb dX0_cutAfter_0 rfl (lv_at hl 1 rfl) ?_
  refine lv_iconst (v := (-1)) hx hb dX0_cutAfter_1 (by decide) ?_
  refine lv_icmp_ge (tgt := 15) hx hb dX0_cutAfter_2 (by decide) (fun c_2 => absurd c_2 (Int32.not_le.mpr h)) (fun c_2 => ?_)
  exact e_X (text := "less than none") hx hb hl0 hown rfl hts (by decide +kernel) thX0_cutAfter_k thX0_cutAfter_i thX0_cutAfter_g xNg_xIAE xGd_xIAE (by decide) hT hlocks hex hP hD hS hl.1 hml dX0_cutAfter_5 dX0_cutAfter_8 dX0_cutAfter_9 dX0_cutAfter_11 dX0_cutAfter_14 (Nat.le_of_ble_eq_true rfl) (Nat.le_of_ble_eq_true rfl) (Nat.le_of_ble_eq_true rfl) (Nat.le_of_ble_eq_true rfl) (Nat.le_of_ble_eq_true rfl) (Nat.le_of_ble_eq_true rfl)
set_option maxHeartbeats 4000000 in
set_option maxRecDepth 100000 in
theorem tX0_cutAfter_ok {l : Launch} {D : va_G} {cI cZ : ClassId} {h0 a0 a1 a2 a3 a4 a5 : Nat} (bf pw hs lo lg rt : Nat → Int32) (nb : Int32) (fi fo en : Nat) (on cu ma : Int32) (x : Int32) (h : -1 ≤ x) : RV l yX0_cutAfter wsX0_cutAfter 8 0 0 D (tyC cI cZ) (wC h0 a0 a1 a2 a3 a4 a5 cI cZ bf pw hs lo lg rt nb (nI fi) (nI fo) (nI en) on cu ma) [.ref h0, .int x] (wC h0 a0 a1 a2 a3 a4 a5 cI cZ bf pw hs lo lg rt nb (nI fi) (nI fo) (nI en) on x ma) := by
  refine st_V (cc := cX0_cutAfter) (maxL := 2) (ret := none) (by decide +kernel) rfl (Nat.le_of_ble_eq_true rfl) ?_
  intro p e s m below meth c A hx hb hr hts hown hml hlocks hK hP hD hA hS ls hl
  have hown : s.vm.findClass RX0 = some m.cls := hown
  have hl : lv_has ls 2 [(0, .ref h0), (1, .int x)] := hl
  refine lv_iload_n hx hb dX0_cutAfter_0 rfl (lv_at hl 1 rfl) ?_
  refine lv_iconst (v := (-1)) hx hb dX0_cutAfter_1 (by decide) ?_
  refine lv_icmp_ge (tgt := 15) hx hb dX0_cutAfter_2 (by decide) (fun c_2 => ?_) (fun c_2 => absurd (h) c_2)
  refine lv_aload_n hx hb dX0_cutAfter_15 rfl (lv_at hl 0 rfl) ?_
  refine lv_iload_n hx hb dX0_cutAfter_16 rfl (lv_at hl 1 rfl) ?_
  refine va_put (ci := 0) (v := .int x) (ty := .int) (C := RX0) (T := TX0) (N := 13) hx hb hts inX0_cutAfter tyX0 tyX0_ok nmX0 hown hK hP hD hS 0 rfl rfl 11 (by decide) (hts _ flX0_cutAfter_35) (fun _ h9 => h9) rfl (by decide +kernel) rfl rfl (Nat.le_of_ble_eq_true rfl) dX0_cutAfter_17 (fun H locs hP hD hS => ?_)
  have hP : va_P D vwCl (wC h0 a0 a1 a2 a3 a4 a5 cI cZ bf pw hs lo lg rt nb (nI fi) (nI fo) (nI en) on x ma) H := hP
  have hD : va_D A (wC h0 a0 a1 a2 a3 a4 a5 cI cZ bf pw hs lo lg rt nb (nI fi) (nI fo) (nI en) on x ma) := hD
  exact e_V hx hb hr hlocks hP hD hS dX0_cutAfter_20
set_option maxHeartbeats 4000000 in
set_option maxRecDepth 100000 in
theorem tX0_cut_off {l : Launch} {D : va_G} {cI cZ : ClassId} {h0 a0 a1 a2 a3 a4 a5 : Nat} (bf pw hs lo lg rt : Nat → Int32) (nb : Int32) (fi fo en : Nat) (cu ma : Int32) : RI l yX0_cut wsX0_cut 8 0 0 D (tyC cI cZ) (wC h0 a0 a1 a2 a3 a4 a5 cI cZ bf pw hs lo lg rt nb (nI fi) (nI fo) (nI en) 0 cu ma) [.ref h0] 0 (wC h0 a0 a1 a2 a3 a4 a5 cI cZ bf pw hs lo lg rt nb (nI fi) (nI fo) (nI en) 0 cu ma) := by
  refine st_I (cc := cX0_cut) (maxL := 1) (ret := (some .boolean)) (by decide +kernel) rfl (Nat.le_of_ble_eq_true rfl) ?_
  intro p e s m below meth c A hx hb hr hts hown hml hlocks hK hP hD hA hS ls hl
  have hown : s.vm.findClass RX0 = some m.cls := hown
  have hl : lv_has ls 1 [(0, .ref h0)] := hl
  refine lv_aload_n hx hb dX0_cut_0 rfl (lv_at hl 0 rfl) ?_
  refine va_get (ci := 0) (v := .int 0) (C := RX0) (T := TX0) (N := 13) hx hb hts inX0_cut hown hK hP 0 rfl rfl 10 (by decide) (hts _ flX0_cut_31) (fun _ h9 => h9) rfl dX0_cut_1 ?_
  refine lv_if_ne (tgt := 9) hx hb dX0_cut_4 (by decide) (fun c_4 => absurd (rfl) c_4) (fun c_4 => ?_)
  refine lv_iconst (v := (0)) hx hb dX0_cut_7 (by decide) ?_
  exact e_Z hx hb hr hlocks hP hD hS rfl rfl dX0_cut_8
set_option maxHeartbeats 4000000 in
set_option maxRecDepth 100000 in
theorem tX0_cut_ok {l : Launch} {D : va_G} {cI cZ : ClassId} {h0 a0 a1 a2 a3 a4 a5 : Nat} (bf pw hs lo lg rt : Nat → Int32) (nb : Int32) (fi fo en : Nat) (cu ma : Int32) : RI l yX0_cut wsX0_cut 8 0 0 D (tyC cI cZ) (wC h0 a0 a1 a2 a3 a4 a5 cI cZ bf pw hs lo lg rt nb (nI fi) (nI fo) (nI en) 1 cu ma) [.ref h0] 1 (wC h0 a0 a1 a2 a3 a4 a5 cI cZ (zf bf) pw hs lo lg rt nb (nI fi) (nI fo) (nI fo) 0 cu ma) := by
  refine st_I (cc := cX0_cut) (maxL := 1) (ret := (some .boolean)) (by decide +kernel) rfl (Nat.le_of_ble_eq_true rfl) ?_
  intro p e s m below meth c A hx hb hr hts hown hml hlocks hK hP hD hA hS ls hl
  have hown : s.vm.findClass RX0 = some m.cls := hown
  have hl : lv_has ls 1 [(0, .ref h0)] := hl
  refine lv_aload_n hx hb dX0_cut_0 rfl (lv_at hl 0 rfl) ?_
  refine va_get (ci := 0) (v := .int 1) (C := RX0) (T := TX0) (N := 13) hx hb hts inX0_cut hown hK hP 0 rfl rfl 10 (by decide) (hts _ flX0_cut_31) (fun _ h9 => h9) rfl dX0_cut_1 ?_
  refine lv_if_ne (tgt := 9) hx hb dX0_cut_4 (by decide) (fun c_4 => ?_) (fun c_4 => absurd c_4 (by decide))
  refine lv_aload_n hx hb dX0_cut_9 rfl (lv_at hl 0 rfl) ?_
  refine k_V (wr := []) hP hD hS hA (va_runV (As := []) (rest := []) ⟨hx, hb, hml, hown, hts⟩ ((tX0_failPower bf pw hs lo lg rt nb fi fo en 1 cu ma) _) (cwV 0 hts gX0_cut_X0_failPower rfl rfl rfl (by decide +kernel) ⟨Nat.le_of_ble_eq_true rfl, Nat.le_of_ble_eq_true rfl⟩) (pV_B hP hD hK (ci := 0) (q0 := 0) rfl rfl rfl [0, 1] rfl [0, 1, 2, 3, 4, 5, 6] rfl rfl) rfl rfl hl.1 rfl (lv_room (Nat.le_of_ble_eq_true rfl)) dX0_cut_10 ⟨Nat.le_of_ble_eq_true rfl, Nat.le_of_ble_eq_true rfl⟩) [0, 1, 2, 3, 4, 5, 6] [] rfl rfl rfl (by decide) (fun H locs hP hD hS => ?_)
  have hP : va_P D vwCl (wC h0 a0 a1 a2 a3 a4 a5 cI cZ (zf bf) pw hs lo lg rt nb (nI fi) (nI fo) (nI fo) 0 cu ma) H := hP
  have hD : va_D A (wC h0 a0 a1 a2 a3 a4 a5 cI cZ (zf bf) pw hs lo lg rt nb (nI fi) (nI fo) (nI fo) 0 cu ma) := hD
  refine lv_iconst (v := (1)) hx hb dX0_cut_13 (by decide) ?_
  exact e_Z hx hb hr hlocks hP hD hS rfl rfl dX0_cut_14
set_option maxHeartbeats 4000000 in
set_option maxRecDepth 100000 in
theorem tX0_start_no {l : Launch} {D : va_G} {cI cZ : ClassId} {h0 a0 a1 a2 a3 a4 a5 : Nat} (bf pw hs lo lg rt : Nat → Int32) (nb : Int32) (fi fo en : Nat) (cu ma : Int32) : RI l yX0_start wsX0_start 8 0 0 D (tyC cI cZ) (wC h0 a0 a1 a2 a3 a4 a5 cI cZ bf pw hs lo lg rt nb (nI fi) (nI fo) (nI en) 1 cu ma) [.ref h0] 0 (wC h0 a0 a1 a2 a3 a4 a5 cI cZ bf pw hs lo lg rt nb (nI fi) (nI fo) (nI en) 1 cu ma) := by
  refine st_I (cc := cX0_start) (maxL := 1) (ret := (some .boolean)) (by decide +kernel) rfl (Nat.le_of_ble_eq_true rfl) ?_
  intro p e s m below meth c A hx hb hr hts hown hml hlocks hK hP hD hA hS ls hl
  have hown : s.vm.findClass RX0 = some m.cls := hown
  have hl : lv_has ls 1 [(0, .ref h0)] := hl
  refine lv_aload_n hx hb dX0_start_0 rfl (lv_at hl 0 rfl) ?_
  refine va_get (ci := 0) (v := .int 1) (C := RX0) (T := TX0) (N := 13) hx hb hts inX0_start hown hK hP 0 rfl rfl 10 (by decide) (hts _ flX0_start_31) (fun _ h9 => h9) rfl dX0_start_1 ?_
  refine lv_if_eq (tgt := 9) hx hb dX0_start_4 (by decide) (fun c_4 => absurd c_4 (by decide)) (fun c_4 => ?_)
  refine lv_iconst (v := (0)) hx hb dX0_start_7 (by decide) ?_
  exact e_Z hx hb hr hlocks hP hD hS rfl rfl dX0_start_8
set_option maxHeartbeats 4000000 in
set_option maxRecDepth 100000 in
theorem tX0_start_ok {l : Launch} {D : va_G} {cI cZ : ClassId} {h0 a0 a1 a2 a3 a4 a5 : Nat} (bf pw hs lo lg rt : Nat → Int32) (nb : Int32) (fi fo en : Nat) (cu ma : Int32) : RI l yX0_start wsX0_start 8 0 0 D (tyC cI cZ) (wC h0 a0 a1 a2 a3 a4 a5 cI cZ bf pw hs lo lg rt nb (nI fi) (nI fo) (nI en) 0 cu ma) [.ref h0] 1 (wC h0 a0 a1 a2 a3 a4 a5 cI cZ bf pw hs lo lg rt nb (nI fi) (nI fo) (nI en) 1 (-1) ma) := by
  refine st_I (cc := cX0_start) (maxL := 1) (ret := (some .boolean)) (by decide +kernel) rfl (Nat.le_of_ble_eq_true rfl) ?_
  intro p e s m below meth c A hx hb hr hts hown hml hlocks hK hP hD hA hS ls hl
  have hown : s.vm.findClass RX0 = some m.cls := hown
  have hl : lv_has ls 1 [(0, .ref h0)] := hl
  refine lv_aload_n hx hb dX0_start_0 rfl (lv_at hl 0 rfl) ?_
  refine va_get (ci := 0) (v := .int 0) (C := RX0) (T := TX0) (N := 13) hx hb hts inX0_start hown hK hP 0 rfl rfl 10 (by decide) (hts _ flX0_start_31) (fun _ h9 => h9) rfl dX0_start_1 ?_
  refine lv_if_eq (tgt := 9) hx hb dX0_start_4 (by decide) (fun c_4 => ?_) (fun c_4 => absurd (rfl) c_4)
  refine lv_aload_n hx hb dX0_start_9 rfl (lv_at hl 0 rfl) ?_
  refine lv_iconst (v := (1)) hx hb dX0_start_10 (by decide) ?_
  refine va_put (ci := 0) (v := .int 1) (ty := .boolean) (C := RX0) (T := TX0) (N := 13) hx hb hts inX0_start tyX0 tyX0_ok nmX0 hown hK hP hD hS 0 rfl rfl 10 (by decide) (hts _ flX0_start_31) (fun _ h9 => h9) rfl (by decide +kernel) rfl rfl (Nat.le_of_ble_eq_true rfl) dX0_start_11 (fun H locs hP hD hS => ?_)
  have hP : va_P D vwCl (wC h0 a0 a1 a2 a3 a4 a5 cI cZ bf pw hs lo lg rt nb (nI fi) (nI fo) (nI en) 1 cu ma) H := hP
  have hD : va_D A (wC h0 a0 a1 a2 a3 a4 a5 cI cZ bf pw hs lo lg rt nb (nI fi) (nI fo) (nI en) 1 cu ma) := hD
  refine lv_aload_n hx hb dX0_start_14 rfl (lv_at hl 0 rfl) ?_
  refine lv_iconst (v := (-1)) hx hb dX0_start_15 (by decide) ?_
  refine va_put (ci := 0) (v := .int (-1)) (ty := .int) (C := RX0) (T := TX0) (N := 13) hx hb hts inX0_start tyX0 tyX0_ok nmX0 hown hK hP hD hS 0 rfl rfl 11 (by decide) (hts _ flX0_start_35) (fun _ h9 => h9) rfl (by decide +kernel) rfl rfl (Nat.le_of_ble_eq_true rfl) dX0_start_16 (fun H locs hP hD hS => ?_)
  have hP : va_P D vwCl (wC h0 a0 a1 a2 a3 a4 a5 cI cZ bf pw hs lo lg rt nb (nI fi) (nI fo) (nI en) 1 (-1) ma) H := hP
  have hD : va_D A (wC h0 a0 a1 a2 a3 a4 a5 cI cZ bf pw hs lo lg rt nb (nI fi) (nI fo) (nI en) 1 (-1) ma) := hD
  refine lv_iconst (v := (1)) hx hb dX0_start_19 (by decide) ?_
  exact e_Z hx hb hr hlocks hP hD hS rfl rfl dX0_start_20
set_option maxHeartbeats 4000000 in
set_option maxRecDepth 100000 in
theorem tX0_isOn_ok {l : Launch} {D : va_G} {cI cZ : ClassId} {h0 a0 a1 a2 a3 a4 a5 : Nat} (bf pw hs lo lg rt : Nat → Int32) (nb : Int32) (fi fo en : Nat) (on cu ma : Int32) (hz : on = 0 ∨ on = 1) : RI l yX0_isOn wsX0_isOn 8 0 0 D (tyC cI cZ) (wC h0 a0 a1 a2 a3 a4 a5 cI cZ bf pw hs lo lg rt nb (nI fi) (nI fo) (nI en) on cu ma) [.ref h0] on (wC h0 a0 a1 a2 a3 a4 a5 cI cZ bf pw hs lo lg rt nb (nI fi) (nI fo) (nI en) on cu ma) := by
  refine st_I (cc := cX0_isOn) (maxL := 1) (ret := (some .boolean)) (by decide +kernel) rfl (Nat.le_of_ble_eq_true rfl) ?_
  intro p e s m below meth c A hx hb hr hts hown hml hlocks hK hP hD hA hS ls hl
  have hown : s.vm.findClass RX0 = some m.cls := hown
  have hl : lv_has ls 1 [(0, .ref h0)] := hl
  refine lv_aload_n hx hb dX0_isOn_0 rfl (lv_at hl 0 rfl) ?_
  refine va_get (ci := 0) (v := .int on) (C := RX0) (T := TX0) (N := 13) hx hb hts inX0_isOn hown hK hP 0 rfl rfl 10 (by decide) (hts _ flX0_isOn_31) (fun _ h9 => h9) rfl dX0_isOn_1 ?_
  exact e_Z hx hb hr hlocks hP hD hS rfl (by rcases hz with rfl | rfl <;> rfl) dX0_isOn_4
end
section
/-! OWN ROWS: what the reference's walks need -/
section OwnNumM
variable {p : Program} {l : Launch} {e : Env} {R : Room} {s : State} {m : MethodId} {args : Array Value} {below : List Frame} {meth : Method} {c : Code} {H : Heap} {locs : List Loc} {cells slots : Nat} {Q : State → Prop} {cc : ByteArray} {pc : Nat} {ls : Array Slot} {rest : List Value}
theorem n_imulc (hx : p.tables.exec = Jvm.exec) (hb : c.code = cc) {x y : Nat} (hdg : decode cc pc = .ok (.imul, 1)) (kk : W p l e R s m args below meth c H locs cells slots Q (F0 m (pc + 1) ls (.int (nI (y * x)) :: rest))) : W p l e R s m args below meth c H locs cells slots Q (F0 m pc ls (.int (nI y) :: .int (nI x) :: rest)) :=
  lv_imul hx hb hdg (by rw [pk_mul, Nat.mul_comm]; exact kk)
end OwnNumM
theorem cpy_t {f g : Nat → Int32} {sp dp n d : Nat} {x : Int32} (h1 : d = dp + n) (h2 : x = f (sp + n)) : upd (va_cpy f g sp dp n) d x = va_cpy f g sp dp (n + 1) := by
  subst h1
  subst h2
  exact cpy_s f g sp dp n
def sp_in (x a b : Int32) : Int32 := if x < a then 0 else if b < x then 0 else 1
def sp_pg (x y : Int32) : Int32 := if sp_in x (nI 0) (nI 1) = 0 then 0 else sp_in y (nI 0) (nI 255)
theorem ix_in {x : Int32} (N : Nat) (hN : N + 1 < 2 ^ 31) (h : x < 0 ∨ nI (N + 1) ≤ x) : x < nI 0 ∨ nI N < x := by
  rcases h with h | h
  · exact Or.inl (by rw [nI_0]; exact h)
  · have h2 := Int32.le_iff_toInt_le.mp h
    rw [nI_toInt hN] at h2
    exact Or.inr (Int32.lt_iff_toInt_lt.mpr (by rw [nI_toInt (by omega)]; omega))
theorem pg_cases (x y : Int32) : badP x y ∨ ∃ ar pg : Nat, ar < 2 ∧ pg < 256 ∧ x = nI ar ∧ y = nI pg := by
  rcases pk_ix x (n := 2) (by omega) with h | h | ⟨ar, h1, e1⟩
  · exact Or.inl (Or.inl (Or.inl h))
  · exact Or.inl (Or.inl (Or.inr h))
  · rcases pk_ix y (n := 256) (by omega) with h | h | ⟨pg, h2, e2⟩
    · exact Or.inl (Or.inr ⟨ar, h1, e1, Or.inl h⟩)
    · exact Or.inl (Or.inr ⟨ar, h1, e1, Or.inr h⟩)
    · exact Or.inr ⟨ar, pg, h1, h2, e1, e2⟩
theorem dcu_le {cu : Int32} (h : ¬ cu = 0) (hn : -1 ≤ cu) (h2 : cu ≤ 0) : dcu cu = cu := by
  have e : cu = -1 := by
    have a1 := Int32.le_iff_toInt_le.mp hn
    have a2 := Int32.le_iff_toInt_le.mp h2
    have a3 : cu.toInt ≠ 0 := fun z => h (Int32.toInt_inj.mp (by rw [z]; rfl))
    have b1 : (-1 : Int32).toInt = -1 := by decide
    have b2 : (0 : Int32).toInt = 0 := by decide
    rw [b1] at a1
    rw [b2] at a2
    exact Int32.toInt_inj.mp (by rw [b1]; omega)
  unfold dcu
  rw [if_pos e]
theorem dcu_gt {cu : Int32} (h2 : ¬ cu ≤ 0) : dcu cu = cu - 1 := by
  unfold dcu
  rw [if_neg]
  intro e
  rw [e] at h2
  exact h2 (by decide)
theorem dcu_ge {cu : Int32} (h : ¬ cu = 0) (hn : -1 ≤ cu) : -1 ≤ dcu cu := by
  unfold dcu
  split
  · exact hn
  · rename_i e
    have a1 := Int32.le_iff_toInt_le.mp hn
    have b1 : (-1 : Int32).toInt = -1 := by decide
    have b3 : (1 : Int32).toInt = 1 := by decide
    rw [b1] at a1
    have a3 : cu.toInt ≠ 0 := fun z => h (Int32.toInt_inj.mp (by rw [z]; rfl))
    have a4 : cu.toInt ≠ -1 := fun z => e (Int32.toInt_inj.mp (by rw [z]; rfl))
    have a5 := Int32.toInt_lt cu
    refine Int32.le_iff_toInt_le.mpr ?_
    rw [Int32.toInt_sub, b1, b3, Int.bmod_def]
    split <;> omega
end
section
/-! OWN ROWS, by program: the reference, its small methods -/
set_option maxHeartbeats 4000000 in
set_option maxRecDepth 100000 in
theorem tX1_in {l : Launch} {D : va_G} (x a b : Int32) : RI l yX1_in wsX1_in 1 0 0 D [] ([]) [.int x, .int a, .int b] (sp_in x a b) ([]) := by
  refine st_I (cc := cX1_in) (maxL := 3) (ret := (some .boolean)) (by decide +kernel) rfl (Nat.le_of_ble_eq_true rfl) ?_
  intro p e s m below meth c A hx hb hr hts hown hml hlocks hK hP hD hA hS ls hl
  have hown : s.vm.findClass RX1 = some m.cls := hown
  have hl : lv_has ls 3 [(0, .int x), (1, .int a), (2, .int b)] := hl
  refine lv_iload_n hx hb dX1_in_0 rfl (lv_at hl 0 rfl) ?_
  refine lv_iload_n hx hb dX1_in_1 rfl (lv_at hl 1 rfl) ?_
  refine lv_icmp_lt (tgt := 14) hx hb dX1_in_2 (by decide) (fun c_2 => ?_) (fun c_2 => ?_)
  · refine lv_iconst (v := (0)) hx hb dX1_in_14 (by decide) ?_
    exact e_Z hx hb hr hlocks hP hD hS (by simp [sp_in, c_2]) rfl dX1_in_15
  · refine lv_iload_n hx hb dX1_in_5 rfl (lv_at hl 0 rfl) ?_
    refine lv_iload_n hx hb dX1_in_6 rfl (lv_at hl 2 rfl) ?_
    refine lv_icmp_gt (tgt := 14) hx hb dX1_in_7 (by decide) (fun c_7 => ?_) (fun c_7 => ?_)
    · refine lv_iconst (v := (0)) hx hb dX1_in_14 (by decide) ?_
      exact e_Z hx hb hr hlocks hP hD hS (by simp [sp_in, c_2, c_7]) rfl dX1_in_15
    · refine lv_iconst (v := (1)) hx hb dX1_in_10 (by decide) ?_
      refine lv_goto (tgt := 15) hx hb dX1_in_11 (by decide) ?_
      exact e_Z hx hb hr hlocks hP hD hS (by simp [sp_in, c_2, c_7]) rfl dX1_in_15
theorem sp_in_t {k a b : Nat} (h1 : a ≤ k) (h2 : k ≤ b) (hb : b < 2 ^ 31) : sp_in (nI k) (nI a) (nI b) = 1 := by
  unfold sp_in
  rw [if_neg (fun q => absurd ((nI_ltI (by omega) (by omega)).mp q) (by omega)), if_neg (fun q => absurd ((nI_ltI (by omega) (by omega)).mp q) (by omega))]
theorem sp_in_f {x a b : Int32} (h : x < a ∨ b < x) : sp_in x a b = 0 := by
  unfold sp_in
  rcases h with h | h
  · rw [if_pos h]
  · split
    · rfl
    · rfl
theorem sp_in_01 (x a b : Int32) : sp_in x a b = 0 ∨ sp_in x a b = 1 := by
  unfold sp_in
  split
  · exact Or.inl rfl
  · split
    · exact Or.inl rfl
    · exact Or.inr rfl
theorem sp_pg_t {ar pg : Nat} (h1 : ar < 2) (h2 : pg < 256) : sp_pg (nI ar) (nI pg) = 1 := by
  unfold sp_pg
  rw [sp_in_t (by omega) (by omega) (by omega), if_neg (by decide), sp_in_t (by omega) (by omega) (by omega)]
theorem sp_pg_f {x y : Int32} (h : badP x y) : sp_pg x y = 0 := by
  unfold sp_pg
  rcases h with h | ⟨ar, h1, rfl, h⟩
  · rw [sp_in_f (ix_in 1 (by omega) h), if_pos rfl]
  · rw [sp_in_t (by omega) (by omega) (by omega), if_neg (by decide), sp_in_f (ix_in 255 (by omega) h)]
theorem tX1_in_e {l : Launch} {D : va_G} (x a b r : Int32) (h : sp_in x a b = r) : RI l yX1_in wsX1_in 1 0 0 D [] ([]) [.int x, .int a, .int b] r ([]) := h ▸ tX1_in x a b
set_option maxHeartbeats 4000000 in
set_option maxRecDepth 100000 in
theorem tX1_isPage {l : Launch} {D : va_G} (x y : Int32) : RI l yX1_isPage wsX1_isPage 2 0 0 D [] ([]) [.int x, .int y] (sp_pg x y) ([]) := by
  refine st_I (cc := cX1_isPage) (maxL := 2) (ret := (some .boolean)) (by decide +kernel) rfl (Nat.le_of_ble_eq_true rfl) ?_
  intro p e s m below meth c A hx hb hr hts hown hml hlocks hK hP hD hA hS ls hl
  have hown : s.vm.findClass RX1 = some m.cls := hown
  have hl : lv_has ls 2 [(0, .int x), (1, .int y)] := hl
  refine lv_iload_n hx hb dX1_isPage_0 rfl (lv_at hl 0 rfl) ?_
  refine lv_iconst (v := (nI 0)) hx hb dX1_isPage_1 (by decide) ?_
  refine lv_iconst (v := (nI 1)) hx hb dX1_isPage_2 (by decide) ?_
  refine k_I (wr := []) hP hD hS hA (va_runS (As := [.int x, .int (nI 0), .int (nI 1)]) (rest := []) ⟨hx, hb, hml, hown, hts⟩ ((tX1_in_e x (nI 0) (nI 1) (sp_in x (nI 0) (nI 1)) rfl) _) (va_cwS 3 hts gX1_isPage_X1_in rfl rfl rfl (by decide +kernel) ⟨Nat.le_of_ble_eq_true rfl, Nat.le_of_ble_eq_true rfl⟩) (pS_B hP hD hK [] rfl [] rfl rfl) rfl rfl hl.1 rfl (lv_room (Nat.le_of_ble_eq_true rfl)) dX1_isPage_3 ⟨Nat.le_of_ble_eq_true rfl, Nat.le_of_ble_eq_true rfl⟩) [] [] rfl rfl rfl (by decide) (fun H locs hP hD hS => ?_)
  have hP : va_P D vwCl ([]) H := hP
  have hD : va_D A ([]) := hD
  refine lv_if_eq (tgt := 24) hx hb dX1_isPage_6 (by decide) (fun c_6 => ?_) (fun c_6 => ?_)
  · refine lv_iconst (v := (0)) hx hb dX1_isPage_24 (by decide) ?_
    exact e_Z hx hb hr hlocks hP hD hS (by simp [sp_pg, c_6]) rfl dX1_isPage_25
  · refine lv_iload_n hx hb dX1_isPage_9 rfl (lv_at hl 1 rfl) ?_
    refine lv_iconst (v := (nI 0)) hx hb dX1_isPage_10 (by decide) ?_
    refine lv_sipush (v := (nI 255)) hx hb dX1_isPage_11 (by decide) ?_
    refine k_I (wr := []) hP hD hS hA (va_runS (As := [.int y, .int (nI 0), .int (nI 255)]) (rest := []) ⟨hx, hb, hml, hown, hts⟩ ((tX1_in_e y (nI 0) (nI 255) (sp_in y (nI 0) (nI 255)) rfl) _) (va_cwS 3 hts gX1_isPage_X1_in rfl rfl rfl (by decide +kernel) ⟨Nat.le_of_ble_eq_true rfl, Nat.le_of_ble_eq_true rfl⟩) (pS_B hP hD hK [] rfl [] rfl rfl) rfl rfl hl.1 rfl (lv_room (Nat.le_of_ble_eq_true rfl)) dX1_isPage_14 ⟨Nat.le_of_ble_eq_true rfl, Nat.le_of_ble_eq_true rfl⟩) [] [] rfl rfl rfl (by decide) (fun H locs hP hD hS => ?_)
    have hP : va_P D vwCl ([]) H := hP
    have hD : va_D A ([]) := hD
    refine lv_if_eq (tgt := 24) hx hb dX1_isPage_17 (by decide) (fun c_17 => ?_) (fun c_17 => ?_)
    · refine lv_iconst (v := (0)) hx hb dX1_isPage_24 (by decide) ?_
      exact e_Z hx hb hr hlocks hP hD hS (by simp [sp_pg, c_6, c_17]) rfl dX1_isPage_25
    · refine lv_iconst (v := (1)) hx hb dX1_isPage_20 (by decide) ?_
      refine lv_goto (tgt := 25) hx hb dX1_isPage_21 (by decide) ?_
      exact e_Z hx hb hr hlocks hP hD hS (by rcases sp_in_01 y (nI 0) (nI 255) with q | q; exact absurd q c_17; simp [sp_pg, c_6, q]) rfl dX1_isPage_25
theorem tX1_isPage_e {l : Launch} {D : va_G} (x y r : Int32) (h : sp_pg x y = r) : RI l yX1_isPage wsX1_isPage 2 0 0 D [] ([]) [.int x, .int y] r ([]) := h ▸ tX1_isPage x y
set_option maxHeartbeats 4000000 in
set_option maxRecDepth 100000 in
theorem tX1_place {l : Launch} {D : va_G} (ar pg : Nat) : RI l yX1_place wsX1_place 1 0 0 D [] ([]) [.int (nI ar), .int (nI pg)] (nI (ar * 256 + pg)) ([]) := by
  refine st_I (cc := cX1_place) (maxL := 2) (ret := (some .int)) (by decide +kernel) rfl (Nat.le_of_ble_eq_true rfl) ?_
  intro p e s m below meth c A hx hb hr hts hown hml hlocks hK hP hD hA hS ls hl
  have hown : s.vm.findClass RX1 = some m.cls := hown
  have hl : lv_has ls 2 [(0, .int (nI ar)), (1, .int (nI pg))] := hl
  refine lv_sipush (v := (nI 256)) hx hb dX1_place_0 (by decide) ?_
  refine lv_iload_n hx hb dX1_place_3 rfl (lv_at hl 0 rfl) ?_
  refine n_imul hx hb dX1_place_4 ?_
  refine lv_iload_n hx hb dX1_place_5 rfl (lv_at hl 1 rfl) ?_
  refine n_iadd hx hb dX1_place_6 ?_
  exact e_I hx hb hr hlocks hP hD hS (by rw [Nat.mul_comm]) dX1_place_7
set_option maxHeartbeats 4000000 in
set_option maxRecDepth 100000 in
theorem tX1_refused_1 {l : Launch} {D : va_G} {cI cZ : ClassId} {h0 a0 a1 a2 a3 a4 a5 : Nat} (th : Int32) (bf pw hs lo lg rt : Nat → Int32) (nb : Int32) (fi fo en : Nat) (off cu ma : Int32) (y : Int32) : RI l yX1_refused wsX1_refused 1 0 0 D (tyC cI cZ) (wM h0 a0 a1 a2 a3 a4 a5 cI cZ th bf pw hs lo lg rt nb (nI fi) (nI fo) (nI en) off cu ma) [.ref h0, .int 1, .int y] 1 (wM h0 a0 a1 a2 a3 a4 a5 cI cZ 1 bf pw hs lo lg rt nb (nI fi) (nI fo) (nI en) off cu ma) := by
  refine st_I (cc := cX1_refused) (maxL := 3) (ret := (some .boolean)) (by decide +kernel) rfl (Nat.le_of_ble_eq_true rfl) ?_
  intro p e s m below meth c A hx hb hr hts hown hml hlocks hK hP hD hA hS ls hl
  have hown : s.vm.findClass RX1 = some m.cls := hown
  have hl : lv_has ls 3 [(0, .ref h0), (1, .int 1), (2, .int y)] := hl
  refine lv_aload_n hx hb dX1_refused_0 rfl (lv_at hl 0 rfl) ?_
  refine lv_iload_n hx hb dX1_refused_1 rfl (lv_at hl 1 rfl) ?_
  refine lv_if_eq (tgt := 9) hx hb dX1_refused_2 (by decide) (fun c_2 => absurd c_2 (by decide)) (fun c_2 => ?_)
  refine lv_iconst (v := (1)) hx hb dX1_refused_5 (by decide) ?_
  refine lv_goto (tgt := 18) hx hb dX1_refused_6 (by decide) ?_
  refine va_put (ci := 1) (v := .int 1) (ty := .int) (C := RX1) (T := TX1) (N := 14) hx hb hts inX1_refused tyX1 tyX1_ok nmX1 hown hK hP hD hS 0 rfl rfl 0 (by decide) (hts _ flX1_refused_38) (fun _ h9 => h9) rfl (by decide +kernel) rfl rfl (Nat.le_of_ble_eq_true rfl) dX1_refused_18 (fun H locs hP hD hS => ?_)
  have hP : va_P D vwCl (wM h0 a0 a1 a2 a3 a4 a5 cI cZ 1 bf pw hs lo lg rt nb (nI fi) (nI fo) (nI en) off cu ma) H := hP
  have hD : va_D A (wM h0 a0 a1 a2 a3 a4 a5 cI cZ 1 bf pw hs lo lg rt nb (nI fi) (nI fo) (nI en) off cu ma) := hD
  refine lv_aload_n hx hb dX1_refused_21 rfl (lv_at hl 0 rfl) ?_
  refine va_get (ci := 1) (v := .int 1) (C := RX1) (T := TX1) (N := 14) hx hb hts inX1_refused hown hK hP 0 rfl rfl 0 (by decide) (hts _ flX1_refused_38) (fun _ h9 => h9) rfl dX1_refused_22 ?_
  refine lv_if_le (tgt := 32) hx hb dX1_refused_25 (by decide) (fun c_25 => absurd c_25 (by decide)) (fun c_25 => ?_)
  refine lv_iconst (v := (1)) hx hb dX1_refused_28 (by decide) ?_
  refine lv_goto (tgt := 33) hx hb dX1_refused_29 (by decide) ?_
  exact e_Z hx hb hr hlocks hP hD hS rfl rfl dX1_refused_33
set_option maxHeartbeats 4000000 in
set_option maxRecDepth 100000 in
theorem tX1_refused_2 {l : Launch} {D : va_G} {cI cZ : ClassId} {h0 a0 a1 a2 a3 a4 a5 : Nat} (th : Int32) (bf pw hs lo lg rt : Nat → Int32) (nb : Int32) (fi fo en : Nat) (off cu ma : Int32) : RI l yX1_refused wsX1_refused 1 0 0 D (tyC cI cZ) (wM h0 a0 a1 a2 a3 a4 a5 cI cZ th bf pw hs lo lg rt nb (nI fi) (nI fo) (nI en) off cu ma) [.ref h0, .int 0, .int 1] 1 (wM h0 a0 a1 a2 a3 a4 a5 cI cZ 2 bf pw hs lo lg rt nb (nI fi) (nI fo) (nI en) off cu ma) := by
  refine st_I (cc := cX1_refused) (maxL := 3) (ret := (some .boolean)) (by decide +kernel) rfl (Nat.le_of_ble_eq_true rfl) ?_
  intro p e s m below meth c A hx hb hr hts hown hml hlocks hK hP hD hA hS ls hl
  have hown : s.vm.findClass RX1 = some m.cls := hown
  have hl : lv_has ls 3 [(0, .ref h0), (1, .int 0), (2, .int 1)] := hl
  refine lv_aload_n hx hb dX1_refused_0 rfl (lv_at hl 0 rfl) ?_
  refine lv_iload_n hx hb dX1_refused_1 rfl (lv_at hl 1 rfl) ?_
  refine lv_if_eq (tgt := 9) hx hb dX1_refused_2 (by decide) (fun c_2 => ?_) (fun c_2 => absurd (by decide) c_2)
  refine lv_iload_n hx hb dX1_refused_9 rfl (lv_at hl 2 rfl) ?_
  refine lv_if_eq (tgt := 17) hx hb dX1_refused_10 (by decide) (fun c_10 => absurd c_10 (by decide)) (fun c_10 => ?_)
  refine lv_iconst (v := (2)) hx hb dX1_refused_13 (by decide) ?_
  refine lv_goto (tgt := 18) hx hb dX1_refused_14 (by decide) ?_
  refine va_put (ci := 1) (v := .int 2) (ty := .int) (C := RX1) (T := TX1) (N := 14) hx hb hts inX1_refused tyX1 tyX1_ok nmX1 hown hK hP hD hS 0 rfl rfl 0 (by decide) (hts _ flX1_refused_38) (fun _ h9 => h9) rfl (by decide +kernel) rfl rfl (Nat.le_of_ble_eq_true rfl) dX1_refused_18 (fun H locs hP hD hS => ?_)
  have hP : va_P D vwCl (wM h0 a0 a1 a2 a3 a4 a5 cI cZ 2 bf pw hs lo lg rt nb (nI fi) (nI fo) (nI en) off cu ma) H := hP
  have hD : va_D A (wM h0 a0 a1 a2 a3 a4 a5 cI cZ 2 bf pw hs lo lg rt nb (nI fi) (nI fo) (nI en) off cu ma) := hD
  refine lv_aload_n hx hb dX1_refused_21 rfl (lv_at hl 0 rfl) ?_
  refine va_get (ci := 1) (v := .int 2) (C := RX1) (T := TX1) (N := 14) hx hb hts inX1_refused hown hK hP 0 rfl rfl 0 (by decide) (hts _ flX1_refused_38) (fun _ h9 => h9) rfl dX1_refused_22 ?_
  refine lv_if_le (tgt := 32) hx hb dX1_refused_25 (by decide) (fun c_25 => absurd c_25 (by decide)) (fun c_25 => ?_)
  refine lv_iconst (v := (1)) hx hb dX1_refused_28 (by decide) ?_
  refine lv_goto (tgt := 33) hx hb dX1_refused_29 (by decide) ?_
  exact e_Z hx hb hr hlocks hP hD hS rfl rfl dX1_refused_33
set_option maxHeartbeats 4000000 in
set_option maxRecDepth 100000 in
theorem tX1_refused_0 {l : Launch} {D : va_G} {cI cZ : ClassId} {h0 a0 a1 a2 a3 a4 a5 : Nat} (th : Int32) (bf pw hs lo lg rt : Nat → Int32) (nb : Int32) (fi fo en : Nat) (off cu ma : Int32) : RI l yX1_refused wsX1_refused 1 0 0 D (tyC cI cZ) (wM h0 a0 a1 a2 a3 a4 a5 cI cZ th bf pw hs lo lg rt nb (nI fi) (nI fo) (nI en) off cu ma) [.ref h0, .int 0, .int 0] 0 (wM h0 a0 a1 a2 a3 a4 a5 cI cZ 0 bf pw hs lo lg rt nb (nI fi) (nI fo) (nI en) off cu ma) := by
  refine st_I (cc := cX1_refused) (maxL := 3) (ret := (some .boolean)) (by decide +kernel) rfl (Nat.le_of_ble_eq_true rfl) ?_
  intro p e s m below meth c A hx hb hr hts hown hml hlocks hK hP hD hA hS ls hl
  have hown : s.vm.findClass RX1 = some m.cls := hown
  have hl : lv_has ls 3 [(0, .ref h0), (1, .int 0), (2, .int 0)] := hl
  refine lv_aload_n hx hb dX1_refused_0 rfl (lv_at hl 0 rfl) ?_
  refine lv_iload_n hx hb dX1_refused_1 rfl (lv_at hl 1 rfl) ?_
  refine lv_if_eq (tgt := 9) hx hb dX1_refused_2 (by decide) (fun c_2 => ?_) (fun c_2 => absurd (by decide) c_2)
  refine lv_iload_n hx hb dX1_refused_9 rfl (lv_at hl 2 rfl) ?_
  refine lv_if_eq (tgt := 17) hx hb dX1_refused_10 (by decide) (fun c_10 => ?_) (fun c_10 => absurd (by decide) c_10)
  refine lv_iconst (v := (0)) hx hb dX1_refused_17 (by decide) ?_
  refine va_put (ci := 1) (v := .int 0) (ty := .int) (C := RX1) (T := TX1) (N := 14) hx hb hts inX1_refused tyX1 tyX1_ok nmX1 hown hK hP hD hS 0 rfl rfl 0 (by decide) (hts _ flX1_refused_38) (fun _ h9 => h9) rfl (by decide +kernel) rfl rfl (Nat.le_of_ble_eq_true rfl) dX1_refused_18 (fun H locs hP hD hS => ?_)
  have hP : va_P D vwCl (wM h0 a0 a1 a2 a3 a4 a5 cI cZ 0 bf pw hs lo lg rt nb (nI fi) (nI fo) (nI en) off cu ma) H := hP
  have hD : va_D A (wM h0 a0 a1 a2 a3 a4 a5 cI cZ 0 bf pw hs lo lg rt nb (nI fi) (nI fo) (nI en) off cu ma) := hD
  refine lv_aload_n hx hb dX1_refused_21 rfl (lv_at hl 0 rfl) ?_
  refine va_get (ci := 1) (v := .int 0) (C := RX1) (T := TX1) (N := 14) hx hb hts inX1_refused hown hK hP 0 rfl rfl 0 (by decide) (hts _ flX1_refused_38) (fun _ h9 => h9) rfl dX1_refused_22 ?_
  refine lv_if_le (tgt := 32) hx hb dX1_refused_25 (by decide) (fun c_25 => ?_) (fun c_25 => absurd (by decide) c_25)
  refine lv_iconst (v := (0)) hx hb dX1_refused_32 (by decide) ?_
  exact e_Z hx hb hr hlocks hP hD hS rfl rfl dX1_refused_33
set_option maxHeartbeats 4000000 in
set_option maxRecDepth 100000 in
theorem tX1_isTorn_t {l : Launch} {D : va_G} {cI cZ : ClassId} {h0 a0 a1 a2 a3 a4 a5 : Nat} (th : Int32) (bf pw hs lo lg rt : Nat → Int32) (nb : Int32) (fi fo en : Nat) (off cu ma : Int32) (k : Nat) (h : k < 512) (he : ¬ hs (k * 2) = hs (k * 2 + 1)) : RI l yX1_isTorn wsX1_isTorn 1 0 0 D (tyC cI cZ) (wM h0 a0 a1 a2 a3 a4 a5 cI cZ th bf pw hs lo lg rt nb (nI fi) (nI fo) (nI en) off cu ma) [.ref h0, .int (nI k)] 1 (wM h0 a0 a1 a2 a3 a4 a5 cI cZ th bf pw hs lo lg rt nb (nI fi) (nI fo) (nI en) off cu ma) := by
  refine st_I (cc := cX1_isTorn) (maxL := 2) (ret := (some .boolean)) (by decide +kernel) rfl (Nat.le_of_ble_eq_true rfl) ?_
  intro p e s m below meth c A hx hb hr hts hown hml hlocks hK hP hD hA hS ls hl
  have hown : s.vm.findClass RX1 = some m.cls := hown
  have hl : lv_has ls 2 [(0, .ref h0), (1, .int (nI k))] := hl
  refine lv_aload_n hx hb dX1_isTorn_0 rfl (lv_at hl 0 rfl) ?_
  refine va_get (ci := 1) (v := .ref a2) (C := RX1) (T := TX1) (N := 14) hx hb hts inX1_isTorn hown hK hP 0 rfl rfl 2 (by decide) (hts _ flX1_isTorn_14) (fun _ h9 => h9) rfl dX1_isTorn_1 ?_
  refine lv_iconst (v := (nI 2)) hx hb dX1_isTorn_4 (by decide) ?_
  refine lv_iload_n hx hb dX1_isTorn_5 rfl (lv_at hl 1 rfl) ?_
  refine n_imulc hx hb dX1_isTorn_6 ?_
  refine n_iald hx hb hK hP 3 0 rfl rfl (k * 2) (by omega) (by omega) dX1_isTorn_7 ?_
  refine lv_aload_n hx hb dX1_isTorn_8 rfl (lv_at hl 0 rfl) ?_
  refine va_get (ci := 1) (v := .ref a2) (C := RX1) (T := TX1) (N := 14) hx hb hts inX1_isTorn hown hK hP 0 rfl rfl 2 (by decide) (hts _ flX1_isTorn_14) (fun _ h9 => h9) rfl dX1_isTorn_9 ?_
  refine lv_iconst (v := (nI 2)) hx hb dX1_isTorn_12 (by decide) ?_
  refine lv_iload_n hx hb dX1_isTorn_13 rfl (lv_at hl 1 rfl) ?_
  refine n_imulc hx hb dX1_isTorn_14 ?_
  refine lv_iconst (v := (nI 1)) hx hb dX1_isTorn_15 (by decide) ?_
  refine n_iadd hx hb dX1_isTorn_16 ?_
  refine n_iald hx hb hK hP 3 0 rfl rfl ((k * 2) + 1) (by omega) (by omega) dX1_isTorn_17 ?_
  refine lv_icmp_eq (tgt := 25) hx hb dX1_isTorn_18 (by decide) (fun c_18 => absurd c_18 (he)) (fun c_18 => ?_)
  refine lv_iconst (v := (1)) hx hb dX1_isTorn_21 (by decide) ?_
  refine lv_goto (tgt := 26) hx hb dX1_isTorn_22 (by decide) ?_
  exact e_Z hx hb hr hlocks hP hD hS rfl rfl dX1_isTorn_26
set_option maxHeartbeats 4000000 in
set_option maxRecDepth 100000 in
theorem tX1_isTorn_f {l : Launch} {D : va_G} {cI cZ : ClassId} {h0 a0 a1 a2 a3 a4 a5 : Nat} (th : Int32) (bf pw hs lo lg rt : Nat → Int32) (nb : Int32) (fi fo en : Nat) (off cu ma : Int32) (k : Nat) (h : k < 512) (he : hs (k * 2) = hs (k * 2 + 1)) : RI l yX1_isTorn wsX1_isTorn 1 0 0 D (tyC cI cZ) (wM h0 a0 a1 a2 a3 a4 a5 cI cZ th bf pw hs lo lg rt nb (nI fi) (nI fo) (nI en) off cu ma) [.ref h0, .int (nI k)] 0 (wM h0 a0 a1 a2 a3 a4 a5 cI cZ th bf pw hs lo lg rt nb (nI fi) (nI fo) (nI en) off cu ma) := by
  refine st_I (cc := cX1_isTorn) (maxL := 2) (ret := (some .boolean)) (by decide +kernel) rfl (Nat.le_of_ble_eq_true rfl) ?_
  intro p e s m below meth c A hx hb hr hts hown hml hlocks hK hP hD hA hS ls hl
  have hown : s.vm.findClass RX1 = some m.cls := hown
  have hl : lv_has ls 2 [(0, .ref h0), (1, .int (nI k))] := hl
  refine lv_aload_n hx hb dX1_isTorn_0 rfl (lv_at hl 0 rfl) ?_
  refine va_get (ci := 1) (v := .ref a2) (C := RX1) (T := TX1) (N := 14) hx hb hts inX1_isTorn hown hK hP 0 rfl rfl 2 (by decide) (hts _ flX1_isTorn_14) (fun _ h9 => h9) rfl dX1_isTorn_1 ?_
  refine lv_iconst (v := (nI 2)) hx hb dX1_isTorn_4 (by decide) ?_
  refine lv_iload_n hx hb dX1_isTorn_5 rfl (lv_at hl 1 rfl) ?_
  refine n_imulc hx hb dX1_isTorn_6 ?_
  refine n_iald hx hb hK hP 3 0 rfl rfl (k * 2) (by omega) (by omega) dX1_isTorn_7 ?_
  refine lv_aload_n hx hb dX1_isTorn_8 rfl (lv_at hl 0 rfl) ?_
  refine va_get (ci := 1) (v := .ref a2) (C := RX1) (T := TX1) (N := 14) hx hb hts inX1_isTorn hown hK hP 0 rfl rfl 2 (by decide) (hts _ flX1_isTorn_14) (fun _ h9 => h9) rfl dX1_isTorn_9 ?_
  refine lv_iconst (v := (nI 2)) hx hb dX1_isTorn_12 (by decide) ?_
  refine lv_iload_n hx hb dX1_isTorn_13 rfl (lv_at hl 1 rfl) ?_
  refine n_imulc hx hb dX1_isTorn_14 ?_
  refine lv_iconst (v := (nI 1)) hx hb dX1_isTorn_15 (by decide) ?_
  refine n_iadd hx hb dX1_isTorn_16 ?_
  refine n_iald hx hb hK hP 3 0 rfl rfl ((k * 2) + 1) (by omega) (by omega) dX1_isTorn_17 ?_
  refine lv_icmp_eq (tgt := 25) hx hb dX1_isTorn_18 (by decide) (fun c_18 => ?_) (fun c_18 => absurd (he) c_18)
  refine lv_iconst (v := (0)) hx hb dX1_isTorn_25 (by decide) ?_
  exact e_Z hx hb hr hlocks hP hD hS rfl rfl dX1_isTorn_26
set_option maxHeartbeats 4000000 in
set_option maxRecDepth 100000 in
theorem tX1_stateOf {l : Launch} {D : va_G} {cI cZ : ClassId} {h0 a0 a1 a2 a3 a4 a5 : Nat} (th : Int32) (bf pw hs lo lg rt : Nat → Int32) (nb : Int32) (fi fo en : Nat) (off cu ma : Int32) (k : Nat) (h : k < 512) : RI l yX1_stateOf wsX1_stateOf 2 0 0 D (tyC cI cZ) (wM h0 a0 a1 a2 a3 a4 a5 cI cZ th bf pw hs lo lg rt nb (nI fi) (nI fo) (nI en) off cu ma) [.ref h0, .int (nI k)] (sp_ps lo hs k) (wM h0 a0 a1 a2 a3 a4 a5 cI cZ th bf pw hs lo lg rt nb (nI fi) (nI fo) (nI en) off cu ma) := by
  refine st_I (cc := cX1_stateOf) (maxL := 2) (ret := (some .int)) (by decide +kernel) rfl (Nat.le_of_ble_eq_true rfl) ?_
  intro p e s m below meth c A hx hb hr hts hown hml hlocks hK hP hD hA hS ls hl
  have hown : s.vm.findClass RX1 = some m.cls := hown
  have hl : lv_has ls 2 [(0, .ref h0), (1, .int (nI k))] := hl
  refine lv_aload_n hx hb dX1_stateOf_0 rfl (lv_at hl 0 rfl) ?_
  refine va_get (ci := 1) (v := .ref a3) (C := RX1) (T := TX1) (N := 14) hx hb hts inX1_stateOf hown hK hP 0 rfl rfl 3 (by decide) (hts _ flX1_stateOf_17) (fun _ h9 => h9) rfl dX1_stateOf_1 ?_
  refine lv_iload_n hx hb dX1_stateOf_4 rfl (lv_at hl 1 rfl) ?_
  refine n_zald hx hb hK hP 4 1 rfl rfl k (by omega) (by omega) dX1_stateOf_5 ?_
  refine lv_if_eq (tgt := 13) hx hb dX1_stateOf_6 (by decide) (fun c_6 => ?_) (fun c_6 => ?_)
  · refine lv_aload_n hx hb dX1_stateOf_13 rfl (lv_at hl 0 rfl) ?_
    refine lv_iload_n hx hb dX1_stateOf_14 rfl (lv_at hl 1 rfl) ?_
    by_cases he : hs (k * 2) = hs (k * 2 + 1)
    · refine k_I (wr := []) hP hD hS hA (va_runV (As := [.int (nI k)]) (rest := []) ⟨hx, hb, hml, hown, hts⟩ ((tX1_isTorn_f th bf pw hs lo lg rt nb fi fo en off cu ma k h he) _) (cwV 1 hts gX1_stateOf_X1_isTorn rfl rfl rfl (by decide +kernel) ⟨Nat.le_of_ble_eq_true rfl, Nat.le_of_ble_eq_true rfl⟩) (pV_B hP hD hK (ci := 1) (q0 := 0) rfl rfl rfl [0, 1] rfl [0, 1, 2, 3, 4, 5, 6] rfl rfl) rfl rfl hl.1 rfl (lv_room (Nat.le_of_ble_eq_true rfl)) dX1_stateOf_15 ⟨Nat.le_of_ble_eq_true rfl, Nat.le_of_ble_eq_true rfl⟩) [0, 1, 2, 3, 4, 5, 6] [] rfl rfl rfl (by decide) (fun H locs hP hD hS => ?_)
      have hP : va_P D vwCl (wM h0 a0 a1 a2 a3 a4 a5 cI cZ th bf pw hs lo lg rt nb (nI fi) (nI fo) (nI en) off cu ma) H := hP
      have hD : va_D A (wM h0 a0 a1 a2 a3 a4 a5 cI cZ th bf pw hs lo lg rt nb (nI fi) (nI fo) (nI en) off cu ma) := hD
      refine lv_if_eq (tgt := 25) hx hb dX1_stateOf_18 (by decide) (fun c_18 => ?_) (fun c_18 => absurd (by decide) c_18)
      refine lv_iconst (v := (0)) hx hb dX1_stateOf_25 (by decide) ?_
      exact e_I hx hb hr hlocks hP hD hS (by simp [sp_ps, c_6, he]) dX1_stateOf_26
    · refine k_I (wr := []) hP hD hS hA (va_runV (As := [.int (nI k)]) (rest := []) ⟨hx, hb, hml, hown, hts⟩ ((tX1_isTorn_t th bf pw hs lo lg rt nb fi fo en off cu ma k h he) _) (cwV 1 hts gX1_stateOf_X1_isTorn rfl rfl rfl (by decide +kernel) ⟨Nat.le_of_ble_eq_true rfl, Nat.le_of_ble_eq_true rfl⟩) (pV_B hP hD hK (ci := 1) (q0 := 0) rfl rfl rfl [0, 1] rfl [0, 1, 2, 3, 4, 5, 6] rfl rfl) rfl rfl hl.1 rfl (lv_room (Nat.le_of_ble_eq_true rfl)) dX1_stateOf_15 ⟨Nat.le_of_ble_eq_true rfl, Nat.le_of_ble_eq_true rfl⟩) [0, 1, 2, 3, 4, 5, 6] [] rfl rfl rfl (by decide) (fun H locs hP hD hS => ?_)
      have hP : va_P D vwCl (wM h0 a0 a1 a2 a3 a4 a5 cI cZ th bf pw hs lo lg rt nb (nI fi) (nI fo) (nI en) off cu ma) H := hP
      have hD : va_D A (wM h0 a0 a1 a2 a3 a4 a5 cI cZ th bf pw hs lo lg rt nb (nI fi) (nI fo) (nI en) off cu ma) := hD
      refine lv_if_eq (tgt := 25) hx hb dX1_stateOf_18 (by decide) (fun c_18 => absurd c_18 (by decide)) (fun c_18 => ?_)
      refine lv_iconst (v := (1)) hx hb dX1_stateOf_21 (by decide) ?_
      refine lv_goto (tgt := 26) hx hb dX1_stateOf_22 (by decide) ?_
      exact e_I hx hb hr hlocks hP hD hS (by simp [sp_ps, c_6, he]) dX1_stateOf_26
  · refine lv_iconst (v := (2)) hx hb dX1_stateOf_9 (by decide) ?_
    refine lv_goto (tgt := 26) hx hb dX1_stateOf_10 (by decide) ?_
    exact e_I hx hb hr hlocks hP hD hS (by simp [sp_ps, c_6]) dX1_stateOf_26
set_option maxHeartbeats 4000000 in
set_option maxRecDepth 100000 in
theorem tX1_fail {l : Launch} {D : va_G} {cI cZ : ClassId} {h0 a0 a1 a2 a3 a4 a5 : Nat} (th : Int32) (bf pw hs lo lg rt : Nat → Int32) (nb : Int32) (fi fo en : Nat) (off cu ma : Int32) : RV l yX1_fail wsX1_fail 1 0 0 D (tyC cI cZ) (wM h0 a0 a1 a2 a3 a4 a5 cI cZ th bf pw hs lo lg rt nb (nI fi) (nI fo) (nI en) off cu ma) [.ref h0] (wM h0 a0 a1 a2 a3 a4 a5 cI cZ th (zf bf) pw hs lo lg rt nb (nI fi) (nI fo) (nI fo) 1 cu ma) := by
  refine st_V (cc := cX1_fail) (maxL := 2) (ret := none) (by decide +kernel) rfl (Nat.le_of_ble_eq_true rfl) ?_
  intro p e s m below meth c A hx hb hr hts hown hml hlocks hK hP hD hA hS ls hl
  have hown : s.vm.findClass RX1 = some m.cls := hown
  have hl : lv_has ls 2 [(0, .ref h0)] := hl
  refine lv_aload_n hx hb dX1_fail_0 rfl (lv_at hl 0 rfl) ?_
  refine lv_iconst (v := (1)) hx hb dX1_fail_1 (by decide) ?_
  refine va_put (ci := 1) (v := .int 1) (ty := .boolean) (C := RX1) (T := TX1) (N := 14) hx hb hts inX1_fail tyX1 tyX1_ok nmX1 hown hK hP hD hS 0 rfl rfl 12 (by decide) (hts _ flX1_fail_45) (fun _ h9 => h9) rfl (by decide +kernel) rfl rfl (Nat.le_of_ble_eq_true rfl) dX1_fail_2 (fun H locs hP hD hS => ?_)
  have hP : va_P D vwCl (wM h0 a0 a1 a2 a3 a4 a5 cI cZ th bf pw hs lo lg rt nb (nI fi) (nI fo) (nI en) 1 cu ma) H := hP
  have hD : va_D A (wM h0 a0 a1 a2 a3 a4 a5 cI cZ th bf pw hs lo lg rt nb (nI fi) (nI fo) (nI en) 1 cu ma) := hD
  refine lv_aload_n hx hb dX1_fail_5 rfl (lv_at hl 0 rfl) ?_
  refine lv_aload_n hx hb dX1_fail_6 rfl (lv_at hl 0 rfl) ?_
  refine va_get (ci := 1) (v := .int (nI fo)) (C := RX1) (T := TX1) (N := 14) hx hb hts inX1_fail hown hK hP 0 rfl rfl 8 (by decide) (hts _ flX1_fail_49) (fun _ h9 => h9) rfl dX1_fail_7 ?_
  refine va_put (ci := 1) (v := .int (nI fo)) (ty := .int) (C := RX1) (T := TX1) (N := 14) hx hb hts inX1_fail tyX1 tyX1_ok nmX1 hown hK hP hD hS 0 rfl rfl 9 (by decide) (hts _ flX1_fail_52) (fun _ h9 => h9) rfl (by decide +kernel) rfl rfl (Nat.le_of_ble_eq_true rfl) dX1_fail_10 (fun H locs hP hD hS => ?_)
  have hP : va_P D vwCl (wM h0 a0 a1 a2 a3 a4 a5 cI cZ th bf pw hs lo lg rt nb (nI fi) (nI fo) (nI fo) 1 cu ma) H := hP
  have hD : va_D A (wM h0 a0 a1 a2 a3 a4 a5 cI cZ th bf pw hs lo lg rt nb (nI fi) (nI fo) (nI fo) 1 cu ma) := hD
  refine lv_iconst (v := (nI 0)) hx hb dX1_fail_13 (by decide) ?_
  refine lv_istore_n (lv' := [(1, .int (nI 0)), (0, .ref h0)]) hx hb dX1_fail_14 rfl hl (by decide) rfl (fun ls hl => ?_)
  have lp_15 : ∀ (n9 i : Nat), i + n9 = 64 → ∀ (H : Heap) (locs : List Loc) (ls : Array Slot), va_P D vwCl (wM h0 a0 a1 a2 a3 a4 a5 cI cZ th (fl (fun _ => 0) i bf) pw hs lo lg rt nb (nI fi) (nI fo) (nI fo) 1 cu ma) H → va_D A (wM h0 a0 a1 a2 a3 a4 a5 cI cZ th (fl (fun _ => 0) i bf) pw hs lo lg rt nb (nI fi) (nI fo) (nI fo) 1 cu ma) → va_S A s.heap H locs → lv_has ls 2 [(0, .ref h0), (1, .int (nI i))] → W p l e (rmL 1 0 0) s m ([.ref h0] : List Value).toArray below meth c H locs 0 0 (MQ below (qcV D A (wM h0 a0 a1 a2 a3 a4 a5 cI cZ th (zf bf) pw hs lo lg rt nb (nI fi) (nI fo) (nI fo) 1 cu ma)) ([.ref h0] : List Value).toArray s 0 0 A) (F0 m 15 ls []) := by
    intro n9
    induction n9 with
    | zero =>
      intro i hi H locs ls hP hD hS hl
      obtain rfl : i = 64 := by omega
      refine lv_iload_n hx hb dX1_fail_15 rfl (lv_at hl 1 rfl) ?_
      refine lv_bipush (v := (nI 64)) hx hb dX1_fail_16 (by decide) ?_
      refine n_ge (tgt := 34) hx hb (by omega) (by omega) dX1_fail_18 (by decide) (fun c_18 => ?_) (fun c_18 => absurd c_18 (by omega))
      exact e_V hx hb hr hlocks hP hD hS dX1_fail_34
    | succ n9 ih =>
      intro i hi H locs ls hP hD hS hl
      refine lv_iload_n hx hb dX1_fail_15 rfl (lv_at hl 1 rfl) ?_
      refine lv_bipush (v := (nI 64)) hx hb dX1_fail_16 (by decide) ?_
      refine n_ge (tgt := 34) hx hb (by omega) (by omega) dX1_fail_18 (by decide) (fun c_18 => absurd c_18 (by omega)) (fun c_18 => ?_)
      refine lv_aload_n hx hb dX1_fail_21 rfl (lv_at hl 0 rfl) ?_
      refine va_get (ci := 1) (v := .ref a0) (C := RX1) (T := TX1) (N := 14) hx hb hts inX1_fail hown hK hP 0 rfl rfl 6 (by decide) (hts _ flX1_fail_28) (fun _ h9 => h9) rfl dX1_fail_22 ?_
      refine lv_iload_n hx hb dX1_fail_25 rfl (lv_at hl 1 rfl) ?_
      refine lv_iconst (v := (0)) hx hb dX1_fail_26 (by decide) ?_
      refine n_iast hx hb hK hP hD hS 1 0 rfl rfl i (by omega) (by omega) dX1_fail_27 (fun H locs hP hD hS => ?_)
      have hP : va_P D vwCl (wM h0 a0 a1 a2 a3 a4 a5 cI cZ th (upd (fl (fun _ => 0) i bf) i 0) pw hs lo lg rt nb (nI fi) (nI fo) (nI fo) 1 cu ma) H := hP
      have hD : va_D A (wM h0 a0 a1 a2 a3 a4 a5 cI cZ th (upd (fl (fun _ => 0) i bf) i 0) pw hs lo lg rt nb (nI fi) (nI fo) (nI fo) 1 cu ma) := hD
      refine n_iinc (lv' := [(1, .int (nI (i + 1))), (0, .ref h0)]) hx hb dX1_fail_28 hl (k := 1) rfl (by decide) rfl (fun ls hl => ?_)
      refine lv_goto (tgt := 15) hx hb dX1_fail_31 (by decide) ?_
      have hP : va_P D vwCl (wM h0 a0 a1 a2 a3 a4 a5 cI cZ th (fl (fun _ => 0) (i + 1) bf) pw hs lo lg rt nb (nI fi) (nI fo) (nI fo) 1 cu ma) H := by rw [← fl_s]; exact hP
      have hD : va_D A (wM h0 a0 a1 a2 a3 a4 a5 cI cZ th (fl (fun _ => 0) (i + 1) bf) pw hs lo lg rt nb (nI fi) (nI fo) (nI fo) 1 cu ma) := by rw [← fl_s]; exact hD
      exact ih (i + 1) (by omega) _ _ _ hP hD hS (lv_sub hl [1, 0] rfl)
  have hP : va_P D vwCl (wM h0 a0 a1 a2 a3 a4 a5 cI cZ th (fl (fun _ => 0) 0 bf) pw hs lo lg rt nb (nI fi) (nI fo) (nI fo) 1 cu ma) H := by rw [fl_0]; exact hP
  have hD : va_D A (wM h0 a0 a1 a2 a3 a4 a5 cI cZ th (fl (fun _ => 0) 0 bf) pw hs lo lg rt nb (nI fi) (nI fo) (nI fo) 1 cu ma) := by rw [fl_0]; exact hD
  exact lp_15 64 0 (by omega) _ _ _ hP hD hS (lv_sub hl [1, 0] rfl)
set_option maxHeartbeats 4000000 in
set_option maxRecDepth 100000 in
theorem tX1_canWrite_cut {l : Launch} {D : va_G} {cI cZ : ClassId} {h0 a0 a1 a2 a3 a4 a5 : Nat} (th : Int32) (bf pw hs lo lg rt : Nat → Int32) (nb : Int32) (fi fo en : Nat) (off cu ma : Int32) (h : cu = 0) : RI l yX1_canWrite wsX1_canWrite 2 0 0 D (tyC cI cZ) (wM h0 a0 a1 a2 a3 a4 a5 cI cZ th bf pw hs lo lg rt nb (nI fi) (nI fo) (nI en) off cu ma) [.ref h0] 0 (wM h0 a0 a1 a2 a3 a4 a5 cI cZ th (zf bf) pw hs lo lg rt nb (nI fi) (nI fo) (nI fo) 1 cu ma) := by
  refine st_I (cc := cX1_canWrite) (maxL := 1) (ret := (some .boolean)) (by decide +kernel) rfl (Nat.le_of_ble_eq_true rfl) ?_
  intro p e s m below meth c A hx hb hr hts hown hml hlocks hK hP hD hA hS ls hl
  have hown : s.vm.findClass RX1 = some m.cls := hown
  have hl : lv_has ls 1 [(0, .ref h0)] := hl
  refine lv_aload_n hx hb dX1_canWrite_0 rfl (lv_at hl 0 rfl) ?_
  refine va_get (ci := 1) (v := .int cu) (C := RX1) (T := TX1) (N := 14) hx hb hts inX1_canWrite hown hK hP 0 rfl rfl 13 (by decide) (hts _ flX1_canWrite_31) (fun _ h9 => h9) rfl dX1_canWrite_1 ?_
  refine lv_if_ne (tgt := 13) hx hb dX1_canWrite_4 (by decide) (fun c_4 => absurd (h) c_4) (fun c_4 => ?_)
  refine lv_aload_n hx hb dX1_canWrite_7 rfl (lv_at hl 0 rfl) ?_
  refine k_V (wr := []) hP hD hS hA (va_runV (As := []) (rest := []) ⟨hx, hb, hml, hown, hts⟩ ((tX1_fail th bf pw hs lo lg rt nb fi fo en off cu ma) _) (cwV 0 hts gX1_canWrite_X1_fail rfl rfl rfl (by decide +kernel) ⟨Nat.le_of_ble_eq_true rfl, Nat.le_of_ble_eq_true rfl⟩) (pV_B hP hD hK (ci := 1) (q0 := 0) rfl rfl rfl [0, 1] rfl [0, 1, 2, 3, 4, 5, 6] rfl rfl) rfl rfl hl.1 rfl (lv_room (Nat.le_of_ble_eq_true rfl)) dX1_canWrite_8 ⟨Nat.le_of_ble_eq_true rfl, Nat.le_of_ble_eq_true rfl⟩) [0, 1, 2, 3, 4, 5, 6] [] rfl rfl rfl (by decide) (fun H locs hP hD hS => ?_)
  have hP : va_P D vwCl (wM h0 a0 a1 a2 a3 a4 a5 cI cZ th (zf bf) pw hs lo lg rt nb (nI fi) (nI fo) (nI fo) 1 cu ma) H := hP
  have hD : va_D A (wM h0 a0 a1 a2 a3 a4 a5 cI cZ th (zf bf) pw hs lo lg rt nb (nI fi) (nI fo) (nI fo) 1 cu ma) := hD
  refine lv_iconst (v := (0)) hx hb dX1_canWrite_11 (by decide) ?_
  exact e_Z hx hb hr hlocks hP hD hS rfl rfl dX1_canWrite_12
set_option maxHeartbeats 4000000 in
set_option maxRecDepth 100000 in
theorem tX1_canWrite_ok {l : Launch} {D : va_G} {cI cZ : ClassId} {h0 a0 a1 a2 a3 a4 a5 : Nat} (th : Int32) (bf pw hs lo lg rt : Nat → Int32) (nb : Int32) (fi fo en : Nat) (off cu ma : Int32) (h : ¬ cu = 0) (hn : -1 ≤ cu) : RI l yX1_canWrite wsX1_canWrite 2 0 0 D (tyC cI cZ) (wM h0 a0 a1 a2 a3 a4 a5 cI cZ th bf pw hs lo lg rt nb (nI fi) (nI fo) (nI en) off cu ma) [.ref h0] 1 (wM h0 a0 a1 a2 a3 a4 a5 cI cZ th bf pw hs lo lg rt nb (nI fi) (nI fo) (nI en) off (dcu cu) (ma + 1)) := by
  refine st_I (cc := cX1_canWrite) (maxL := 1) (ret := (some .boolean)) (by decide +kernel) rfl (Nat.le_of_ble_eq_true rfl) ?_
  intro p e s m below meth c A hx hb hr hts hown hml hlocks hK hP hD hA hS ls hl
  have hown : s.vm.findClass RX1 = some m.cls := hown
  have hl : lv_has ls 1 [(0, .ref h0)] := hl
  refine lv_aload_n hx hb dX1_canWrite_0 rfl (lv_at hl 0 rfl) ?_
  refine va_get (ci := 1) (v := .int cu) (C := RX1) (T := TX1) (N := 14) hx hb hts inX1_canWrite hown hK hP 0 rfl rfl 13 (by decide) (hts _ flX1_canWrite_31) (fun _ h9 => h9) rfl dX1_canWrite_1 ?_
  refine lv_if_ne (tgt := 13) hx hb dX1_canWrite_4 (by decide) (fun c_4 => ?_) (fun c_4 => absurd c_4 (h))
  refine lv_aload_n hx hb dX1_canWrite_13 rfl (lv_at hl 0 rfl) ?_
  refine lv_aload_n hx hb dX1_canWrite_14 rfl (lv_at hl 0 rfl) ?_
  refine va_get (ci := 1) (v := .int cu) (C := RX1) (T := TX1) (N := 14) hx hb hts inX1_canWrite hown hK hP 0 rfl rfl 13 (by decide) (hts _ flX1_canWrite_31) (fun _ h9 => h9) rfl dX1_canWrite_15 ?_
  refine lv_if_le (tgt := 30) hx hb dX1_canWrite_18 (by decide) (fun c_18 => ?_) (fun c_18 => ?_)
  · refine lv_aload_n hx hb dX1_canWrite_30 rfl (lv_at hl 0 rfl) ?_
    refine va_get (ci := 1) (v := .int cu) (C := RX1) (T := TX1) (N := 14) hx hb hts inX1_canWrite hown hK hP 0 rfl rfl 13 (by decide) (hts _ flX1_canWrite_31) (fun _ h9 => h9) rfl dX1_canWrite_31 ?_
    refine va_put (ci := 1) (v := .int cu) (ty := .int) (C := RX1) (T := TX1) (N := 14) hx hb hts inX1_canWrite tyX1 tyX1_ok nmX1 hown hK hP hD hS 0 rfl rfl 13 (by decide) (hts _ flX1_canWrite_31) (fun _ h9 => h9) rfl (by decide +kernel) rfl rfl (Nat.le_of_ble_eq_true rfl) dX1_canWrite_34 (fun H locs hP hD hS => ?_)
    have hP : va_P D vwCl (wM h0 a0 a1 a2 a3 a4 a5 cI cZ th bf pw hs lo lg rt nb (nI fi) (nI fo) (nI en) off cu ma) H := hP
    have hD : va_D A (wM h0 a0 a1 a2 a3 a4 a5 cI cZ th bf pw hs lo lg rt nb (nI fi) (nI fo) (nI en) off cu ma) := hD
    have hP : va_P D vwCl (wM h0 a0 a1 a2 a3 a4 a5 cI cZ th bf pw hs lo lg rt nb (nI fi) (nI fo) (nI en) off (dcu cu) ma) H := by rw [dcu_le h hn c_18]; exact hP
    have hD : va_D A (wM h0 a0 a1 a2 a3 a4 a5 cI cZ th bf pw hs lo lg rt nb (nI fi) (nI fo) (nI en) off (dcu cu) ma) := by rw [dcu_le h hn c_18]; exact hD
    refine lv_aload_n hx hb dX1_canWrite_37 rfl (lv_at hl 0 rfl) ?_
    refine lv_dup hx hb dX1_canWrite_38 rfl ?_
    refine va_get (ci := 1) (v := .int ma) (C := RX1) (T := TX1) (N := 14) hx hb hts inX1_canWrite hown hK hP 0 rfl rfl 11 (by decide) (hts _ flX1_canWrite_58) (fun _ h9 => h9) rfl dX1_canWrite_39 ?_
    refine lv_iconst (v := (1)) hx hb dX1_canWrite_42 (by decide) ?_
    refine lv_iadd hx hb dX1_canWrite_43 ?_
    refine va_put (ci := 1) (v := .int (ma + 1)) (ty := .int) (C := RX1) (T := TX1) (N := 14) hx hb hts inX1_canWrite tyX1 tyX1_ok nmX1 hown hK hP hD hS 0 rfl rfl 11 (by decide) (hts _ flX1_canWrite_58) (fun _ h9 => h9) rfl (by decide +kernel) rfl rfl (Nat.le_of_ble_eq_true rfl) dX1_canWrite_44 (fun H locs hP hD hS => ?_)
    have hP : va_P D vwCl (wM h0 a0 a1 a2 a3 a4 a5 cI cZ th bf pw hs lo lg rt nb (nI fi) (nI fo) (nI en) off (dcu cu) (ma + 1)) H := hP
    have hD : va_D A (wM h0 a0 a1 a2 a3 a4 a5 cI cZ th bf pw hs lo lg rt nb (nI fi) (nI fo) (nI en) off (dcu cu) (ma + 1)) := hD
    refine lv_iconst (v := (1)) hx hb dX1_canWrite_47 (by decide) ?_
    exact e_Z hx hb hr hlocks hP hD hS rfl rfl dX1_canWrite_48
  · refine lv_aload_n hx hb dX1_canWrite_21 rfl (lv_at hl 0 rfl) ?_
    refine va_get (ci := 1) (v := .int cu) (C := RX1) (T := TX1) (N := 14) hx hb hts inX1_canWrite hown hK hP 0 rfl rfl 13 (by decide) (hts _ flX1_canWrite_31) (fun _ h9 => h9) rfl dX1_canWrite_22 ?_
    refine lv_iconst (v := (1)) hx hb dX1_canWrite_25 (by decide) ?_
    refine lv_isub hx hb dX1_canWrite_26 ?_
    refine lv_goto (tgt := 34) hx hb dX1_canWrite_27 (by decide) ?_
    refine va_put (ci := 1) (v := .int (cu - 1)) (ty := .int) (C := RX1) (T := TX1) (N := 14) hx hb hts inX1_canWrite tyX1 tyX1_ok nmX1 hown hK hP hD hS 0 rfl rfl 13 (by decide) (hts _ flX1_canWrite_31) (fun _ h9 => h9) rfl (by decide +kernel) rfl rfl (Nat.le_of_ble_eq_true rfl) dX1_canWrite_34 (fun H locs hP hD hS => ?_)
    have hP : va_P D vwCl (wM h0 a0 a1 a2 a3 a4 a5 cI cZ th bf pw hs lo lg rt nb (nI fi) (nI fo) (nI en) off (cu - 1) ma) H := hP
    have hD : va_D A (wM h0 a0 a1 a2 a3 a4 a5 cI cZ th bf pw hs lo lg rt nb (nI fi) (nI fo) (nI en) off (cu - 1) ma) := hD
    have hP : va_P D vwCl (wM h0 a0 a1 a2 a3 a4 a5 cI cZ th bf pw hs lo lg rt nb (nI fi) (nI fo) (nI en) off (dcu cu) ma) H := by rw [dcu_gt c_18]; exact hP
    have hD : va_D A (wM h0 a0 a1 a2 a3 a4 a5 cI cZ th bf pw hs lo lg rt nb (nI fi) (nI fo) (nI en) off (dcu cu) ma) := by rw [dcu_gt c_18]; exact hD
    refine lv_aload_n hx hb dX1_canWrite_37 rfl (lv_at hl 0 rfl) ?_
    refine lv_dup hx hb dX1_canWrite_38 rfl ?_
    refine va_get (ci := 1) (v := .int ma) (C := RX1) (T := TX1) (N := 14) hx hb hts inX1_canWrite hown hK hP 0 rfl rfl 11 (by decide) (hts _ flX1_canWrite_58) (fun _ h9 => h9) rfl dX1_canWrite_39 ?_
    refine lv_iconst (v := (1)) hx hb dX1_canWrite_42 (by decide) ?_
    refine lv_iadd hx hb dX1_canWrite_43 ?_
    refine va_put (ci := 1) (v := .int (ma + 1)) (ty := .int) (C := RX1) (T := TX1) (N := 14) hx hb hts inX1_canWrite tyX1 tyX1_ok nmX1 hown hK hP hD hS 0 rfl rfl 11 (by decide) (hts _ flX1_canWrite_58) (fun _ h9 => h9) rfl (by decide +kernel) rfl rfl (Nat.le_of_ble_eq_true rfl) dX1_canWrite_44 (fun H locs hP hD hS => ?_)
    have hP : va_P D vwCl (wM h0 a0 a1 a2 a3 a4 a5 cI cZ th bf pw hs lo lg rt nb (nI fi) (nI fo) (nI en) off (dcu cu) (ma + 1)) H := hP
    have hD : va_D A (wM h0 a0 a1 a2 a3 a4 a5 cI cZ th bf pw hs lo lg rt nb (nI fi) (nI fo) (nI en) off (dcu cu) (ma + 1)) := hD
    refine lv_iconst (v := (1)) hx hb dX1_canWrite_47 (by decide) ?_
    exact e_Z hx hb hr hlocks hP hD hS rfl rfl dX1_canWrite_48
set_option maxHeartbeats 4000000 in
set_option maxRecDepth 100000 in
theorem tX1_writePage_b0 {l : Launch} {D : va_G} {cI cZ : ClassId} {h0 a0 a1 a2 a3 a4 a5 : Nat} (th : Int32) (bf pw hs lo lg rt : Nat → Int32) (nb : Int32) (fi fo en : Nat) (off cu ma : Int32) (k : Nat) (hk : k < 512) (h : cu = 0) : RI l yX1_writePage wsX1_writePage 3 0 0 D (tyC cI cZ) (wM h0 a0 a1 a2 a3 a4 a5 cI cZ th bf pw hs lo lg rt nb (nI fi) (nI fo) (nI en) off cu ma) [.ref h0, .int (nI k), .int (nI 0), .int 1] (-1) (wM h0 a0 a1 a2 a3 a4 a5 cI cZ th (zf bf) pw hs lo lg rt (nb + 1) (nI fi) (nI fo) (nI fo) 1 cu ma) := by
  refine st_I (cc := cX1_writePage) (maxL := 7) (ret := (some .int)) (by decide +kernel) rfl (Nat.le_of_ble_eq_true rfl) ?_
  intro p e s m below meth c A hx hb hr hts hown hml hlocks hK hP hD hA hS ls hl
  have hown : s.vm.findClass RX1 = some m.cls := hown
  have hl : lv_has ls 7 [(0, .ref h0), (1, .int (nI k)), (2, .int (nI 0)), (3, .int 1)] := hl
  refine lv_aload_n hx hb dX1_writePage_0 rfl (lv_at hl 0 rfl) ?_
  refine lv_dup hx hb dX1_writePage_1 rfl ?_
  refine va_get (ci := 1) (v := .int nb) (C := RX1) (T := TX1) (N := 14) hx hb hts inX1_writePage hown hK hP 0 rfl rfl 10 (by decide) (hts _ flX1_writePage_69) (fun _ h9 => h9) rfl dX1_writePage_2 ?_
  refine lv_iconst (v := (1)) hx hb dX1_writePage_5 (by decide) ?_
  refine lv_iadd hx hb dX1_writePage_6 ?_
  refine va_put (ci := 1) (v := .int (nb + 1)) (ty := .int) (C := RX1) (T := TX1) (N := 14) hx hb hts inX1_writePage tyX1 tyX1_ok nmX1 hown hK hP hD hS 0 rfl rfl 10 (by decide) (hts _ flX1_writePage_69) (fun _ h9 => h9) rfl (by decide +kernel) rfl rfl (Nat.le_of_ble_eq_true rfl) dX1_writePage_7 (fun H locs hP hD hS => ?_)
  have hP : va_P D vwCl (wM h0 a0 a1 a2 a3 a4 a5 cI cZ th bf pw hs lo lg rt (nb + 1) (nI fi) (nI fo) (nI en) off cu ma) H := hP
  have hD : va_D A (wM h0 a0 a1 a2 a3 a4 a5 cI cZ th bf pw hs lo lg rt (nb + 1) (nI fi) (nI fo) (nI en) off cu ma) := hD
  refine lv_aload_n hx hb dX1_writePage_10 rfl (lv_at hl 0 rfl) ?_
  refine va_get (ci := 1) (v := .int (nb + 1)) (C := RX1) (T := TX1) (N := 14) hx hb hts inX1_writePage hown hK hP 0 rfl rfl 10 (by decide) (hts _ flX1_writePage_69) (fun _ h9 => h9) rfl dX1_writePage_11 ?_
  refine lv_istore (lv' := [(4, .int (nb + 1)), (0, .ref h0), (1, .int (nI k)), (2, .int (nI 0)), (3, .int 1)]) hx hb dX1_writePage_14 hl (by decide) rfl (fun ls hl => ?_)
  refine lv_iconst (v := (nI 0)) hx hb dX1_writePage_16 (by decide) ?_
  refine lv_istore (lv' := [(5, .int (nI 0)), (4, .int (nb + 1)), (0, .ref h0), (1, .int (nI k)), (2, .int (nI 0)), (3, .int 1)]) hx hb dX1_writePage_17 hl (by decide) rfl (fun ls hl => ?_)
  refine lv_iload hx hb dX1_writePage_19 (lv_at hl 0 rfl) ?_
  refine lv_iconst (v := (nI 2)) hx hb dX1_writePage_21 (by decide) ?_
  refine n_ge (tgt := 114) hx hb (by omega) (by omega) dX1_writePage_22 (by decide) (fun c_22 => absurd c_22 (by omega)) (fun c_22 => ?_)
  refine lv_aload_n hx hb dX1_writePage_25 rfl (lv_at hl 2 rfl) ?_
  refine k_I (wr := []) hP hD hS hA (va_runV (As := []) (rest := []) ⟨hx, hb, hml, hown, hts⟩ ((tX1_canWrite_cut th bf pw hs lo lg rt (nb + 1) fi fo en off cu ma h) _) (cwV 0 hts gX1_writePage_X1_canWrite rfl rfl rfl (by decide +kernel) ⟨Nat.le_of_ble_eq_true rfl, Nat.le_of_ble_eq_true rfl⟩) (pV_B hP hD hK (ci := 1) (q0 := 0) rfl rfl rfl [0, 1] rfl [0, 1, 2, 3, 4, 5, 6] rfl rfl) rfl rfl hl.1 rfl (lv_room (Nat.le_of_ble_eq_true rfl)) dX1_writePage_26 ⟨Nat.le_of_ble_eq_true rfl, Nat.le_of_ble_eq_true rfl⟩) [0, 1, 2, 3, 4, 5, 6] [] rfl rfl rfl (by decide) (fun H locs hP hD hS => ?_)
  have hP : va_P D vwCl (wM h0 a0 a1 a2 a3 a4 a5 cI cZ th (zf bf) pw hs lo lg rt (nb + 1) (nI fi) (nI fo) (nI fo) 1 cu ma) H := hP
  have hD : va_D A (wM h0 a0 a1 a2 a3 a4 a5 cI cZ th (zf bf) pw hs lo lg rt (nb + 1) (nI fi) (nI fo) (nI fo) 1 cu ma) := hD
  refine lv_if_ne (tgt := 34) hx hb dX1_writePage_29 (by decide) (fun c_29 => absurd (by decide) c_29) (fun c_29 => ?_)
  refine lv_iconst (v := (-1)) hx hb dX1_writePage_32 (by decide) ?_
  exact e_I hx hb hr hlocks hP hD hS rfl dX1_writePage_33
set_option maxHeartbeats 4000000 in
set_option maxRecDepth 100000 in
theorem tX1_writePage_b1 {l : Launch} {D : va_G} {cI cZ : ClassId} {h0 a0 a1 a2 a3 a4 a5 : Nat} (th : Int32) (bf pw hs lo lg rt : Nat → Int32) (nb : Int32) (fi fo en : Nat) (off cu ma : Int32) (k : Nat) (hk : k < 512) (hn : -1 ≤ cu) (h : ¬ cu = 0) (h1 : dcu cu = 0) : RI l yX1_writePage wsX1_writePage 3 0 0 D (tyC cI cZ) (wM h0 a0 a1 a2 a3 a4 a5 cI cZ th bf pw hs lo lg rt nb (nI fi) (nI fo) (nI en) off cu ma) [.ref h0, .int (nI k), .int (nI 0), .int 1] (-1) (wM h0 a0 a1 a2 a3 a4 a5 cI cZ th (zf bf) (va_cpy bf pw 0 (k * 64) 32) (upd hs (k * 2) (nb + 1)) lo lg rt (nb + 1) (nI fi) (nI fo) (nI fo) 1 (dcu cu) (ma + 1)) := by
  refine st_I (cc := cX1_writePage) (maxL := 7) (ret := (some .int)) (by decide +kernel) rfl (Nat.le_of_ble_eq_true rfl) ?_
  intro p e s m below meth c A hx hb hr hts hown hml hlocks hK hP hD hA hS ls hl
  have hown : s.vm.findClass RX1 = some m.cls := hown
  have hl : lv_has ls 7 [(0, .ref h0), (1, .int (nI k)), (2, .int (nI 0)), (3, .int 1)] := hl
  refine lv_aload_n hx hb dX1_writePage_0 rfl (lv_at hl 0 rfl) ?_
  refine lv_dup hx hb dX1_writePage_1 rfl ?_
  refine va_get (ci := 1) (v := .int nb) (C := RX1) (T := TX1) (N := 14) hx hb hts inX1_writePage hown hK hP 0 rfl rfl 10 (by decide) (hts _ flX1_writePage_69) (fun _ h9 => h9) rfl dX1_writePage_2 ?_
  refine lv_iconst (v := (1)) hx hb dX1_writePage_5 (by decide) ?_
  refine lv_iadd hx hb dX1_writePage_6 ?_
  refine va_put (ci := 1) (v := .int (nb + 1)) (ty := .int) (C := RX1) (T := TX1) (N := 14) hx hb hts inX1_writePage tyX1 tyX1_ok nmX1 hown hK hP hD hS 0 rfl rfl 10 (by decide) (hts _ flX1_writePage_69) (fun _ h9 => h9) rfl (by decide +kernel) rfl rfl (Nat.le_of_ble_eq_true rfl) dX1_writePage_7 (fun H locs hP hD hS => ?_)
  have hP : va_P D vwCl (wM h0 a0 a1 a2 a3 a4 a5 cI cZ th bf pw hs lo lg rt (nb + 1) (nI fi) (nI fo) (nI en) off cu ma) H := hP
  have hD : va_D A (wM h0 a0 a1 a2 a3 a4 a5 cI cZ th bf pw hs lo lg rt (nb + 1) (nI fi) (nI fo) (nI en) off cu ma) := hD
  refine lv_aload_n hx hb dX1_writePage_10 rfl (lv_at hl 0 rfl) ?_
  refine va_get (ci := 1) (v := .int (nb + 1)) (C := RX1) (T := TX1) (N := 14) hx hb hts inX1_writePage hown hK hP 0 rfl rfl 10 (by decide) (hts _ flX1_writePage_69) (fun _ h9 => h9) rfl dX1_writePage_11 ?_
  refine lv_istore (lv' := [(4, .int (nb + 1)), (0, .ref h0), (1, .int (nI k)), (2, .int (nI 0)), (3, .int 1)]) hx hb dX1_writePage_14 hl (by decide) rfl (fun ls hl => ?_)
  refine lv_iconst (v := (nI 0)) hx hb dX1_writePage_16 (by decide) ?_
  refine lv_istore (lv' := [(5, .int (nI 0)), (4, .int (nb + 1)), (0, .ref h0), (1, .int (nI k)), (2, .int (nI 0)), (3, .int 1)]) hx hb dX1_writePage_17 hl (by decide) rfl (fun ls hl => ?_)
  refine lv_iload hx hb dX1_writePage_19 (lv_at hl 0 rfl) ?_
  refine lv_iconst (v := (nI 2)) hx hb dX1_writePage_21 (by decide) ?_
  refine n_ge (tgt := 114) hx hb (by omega) (by omega) dX1_writePage_22 (by decide) (fun c_22 => absurd c_22 (by omega)) (fun c_22 => ?_)
  refine lv_aload_n hx hb dX1_writePage_25 rfl (lv_at hl 2 rfl) ?_
  refine k_I (wr := []) hP hD hS hA (va_runV (As := []) (rest := []) ⟨hx, hb, hml, hown, hts⟩ ((tX1_canWrite_ok th bf pw hs lo lg rt (nb + 1) fi fo en off cu ma h hn) _) (cwV 0 hts gX1_writePage_X1_canWrite rfl rfl rfl (by decide +kernel) ⟨Nat.le_of_ble_eq_true rfl, Nat.le_of_ble_eq_true rfl⟩) (pV_B hP hD hK (ci := 1) (q0 := 0) rfl rfl rfl [0, 1] rfl [0, 1, 2, 3, 4, 5, 6] rfl rfl) rfl rfl hl.1 rfl (lv_room (Nat.le_of_ble_eq_true rfl)) dX1_writePage_26 ⟨Nat.le_of_ble_eq_true rfl, Nat.le_of_ble_eq_true rfl⟩) [0, 1, 2, 3, 4, 5, 6] [] rfl rfl rfl (by decide) (fun H locs hP hD hS => ?_)
  have hP : va_P D vwCl (wM h0 a0 a1 a2 a3 a4 a5 cI cZ th bf pw hs lo lg rt (nb + 1) (nI fi) (nI fo) (nI en) off (dcu cu) (ma + 1)) H := hP
  have hD : va_D A (wM h0 a0 a1 a2 a3 a4 a5 cI cZ th bf pw hs lo lg rt (nb + 1) (nI fi) (nI fo) (nI en) off (dcu cu) (ma + 1)) := hD
  refine lv_if_ne (tgt := 34) hx hb dX1_writePage_29 (by decide) (fun c_29 => ?_) (fun c_29 => absurd c_29 (by decide))
  refine lv_bipush (v := (nI 32)) hx hb dX1_writePage_34 (by decide) ?_
  refine lv_iload hx hb dX1_writePage_36 (lv_at hl 0 rfl) ?_
  refine n_imul hx hb dX1_writePage_38 ?_
  refine lv_istore (lv' := [(6, .int (nI 0)), (5, .int (nI 0)), (4, .int (nb + 1)), (0, .ref h0), (1, .int (nI k)), (2, .int (nI 0)), (3, .int 1)]) hx hb dX1_writePage_39 hl (by decide) rfl (fun ls hl => ?_)
  have lp_41 : ∀ (n9 i : Nat), i + n9 = 32 → ∀ (H : Heap) (locs : List Loc) (ls : Array Slot), va_P D vwCl (wM h0 a0 a1 a2 a3 a4 a5 cI cZ th bf (va_cpy bf pw 0 (k * 64) i) hs lo lg rt (nb + 1) (nI fi) (nI fo) (nI en) off (dcu cu) (ma + 1)) H → va_D A (wM h0 a0 a1 a2 a3 a4 a5 cI cZ th bf (va_cpy bf pw 0 (k * 64) i) hs lo lg rt (nb + 1) (nI fi) (nI fo) (nI en) off (dcu cu) (ma + 1)) → va_S A s.heap H locs → lv_has ls 7 [(0, .ref h0), (1, .int (nI k)), (2, .int (nI 0)), (3, .int 1), (4, .int (nb + 1)), (5, .int (nI 0)), (6, .int (nI i))] → W p l e (rmL 3 0 0) s m ([.ref h0, .int (nI k), .int (nI 0), .int 1] : List Value).toArray below meth c H locs 0 0 (MQ below (qcI D A (-1) (wM h0 a0 a1 a2 a3 a4 a5 cI cZ th (zf bf) (va_cpy bf pw 0 (k * 64) 32) (upd hs (k * 2) (nb + 1)) lo lg rt (nb + 1) (nI fi) (nI fo) (nI fo) 1 (dcu cu) (ma + 1))) ([.ref h0, .int (nI k), .int (nI 0), .int 1] : List Value).toArray s 0 0 A) (F0 m 41 ls []) := by
    intro n9
    induction n9 with
    | zero =>
      intro i hi H locs ls hP hD hS hl
      obtain rfl : i = 32 := by omega
      refine lv_iload hx hb dX1_writePage_41 (lv_at hl 6 rfl) ?_
      refine lv_bipush (v := (nI 32)) hx hb dX1_writePage_43 (by decide) ?_
      refine lv_iload hx hb dX1_writePage_45 (lv_at hl 5 rfl) ?_
      refine n_imul hx hb dX1_writePage_47 ?_
      refine lv_bipush (v := (nI 32)) hx hb dX1_writePage_48 (by decide) ?_
      refine n_iadd hx hb dX1_writePage_50 ?_
      refine n_ge (tgt := 95) hx hb (by omega) (by omega) dX1_writePage_51 (by decide) (fun c_51 => ?_) (fun c_51 => absurd c_51 (by omega))
      refine lv_aload_n hx hb dX1_writePage_95 rfl (lv_at hl 0 rfl) ?_
      refine va_get (ci := 1) (v := .ref a2) (C := RX1) (T := TX1) (N := 14) hx hb hts inX1_writePage hown hK hP 0 rfl rfl 2 (by decide) (hts _ flX1_writePage_14) (fun _ h9 => h9) rfl dX1_writePage_96 ?_
      refine lv_iconst (v := (nI 2)) hx hb dX1_writePage_99 (by decide) ?_
      refine lv_iload_n hx hb dX1_writePage_100 rfl (lv_at hl 1 rfl) ?_
      refine n_imulc hx hb dX1_writePage_101 ?_
      refine lv_iload hx hb dX1_writePage_102 (lv_at hl 5 rfl) ?_
      refine n_iadd hx hb dX1_writePage_104 ?_
      refine lv_iload hx hb dX1_writePage_105 (lv_at hl 4 rfl) ?_
      refine n_iast hx hb hK hP hD hS 3 0 rfl rfl (k * 2) (by omega) (by omega) dX1_writePage_107 (fun H locs hP hD hS => ?_)
      have hP : va_P D vwCl (wM h0 a0 a1 a2 a3 a4 a5 cI cZ th bf (va_cpy bf pw 0 (k * 64) 32) (upd hs (k * 2) (nb + 1)) lo lg rt (nb + 1) (nI fi) (nI fo) (nI en) off (dcu cu) (ma + 1)) H := hP
      have hD : va_D A (wM h0 a0 a1 a2 a3 a4 a5 cI cZ th bf (va_cpy bf pw 0 (k * 64) 32) (upd hs (k * 2) (nb + 1)) lo lg rt (nb + 1) (nI fi) (nI fo) (nI en) off (dcu cu) (ma + 1)) := hD
      refine n_iinc (lv' := [(5, .int (nI 1)), (0, .ref h0), (1, .int (nI k)), (2, .int (nI 0)), (3, .int 1), (4, .int (nb + 1)), (6, .int (nI 32))]) hx hb dX1_writePage_108 hl (k := 5) rfl (by decide) rfl (fun ls hl => ?_)
      refine lv_goto (tgt := 19) hx hb dX1_writePage_111 (by decide) ?_
      refine lv_iload hx hb dX1_writePage_19 (lv_at hl 0 rfl) ?_
      refine lv_iconst (v := (nI 2)) hx hb dX1_writePage_21 (by decide) ?_
      refine n_ge (tgt := 114) hx hb (by omega) (by omega) dX1_writePage_22 (by decide) (fun c_22 => absurd c_22 (by omega)) (fun c_22 => ?_)
      refine lv_aload_n hx hb dX1_writePage_25 rfl (lv_at hl 1 rfl) ?_
      refine k_I (wr := []) hP hD hS hA (va_runV (As := []) (rest := []) ⟨hx, hb, hml, hown, hts⟩ ((tX1_canWrite_cut th bf (va_cpy bf pw 0 (k * 64) 32) (upd hs (k * 2) (nb + 1)) lo lg rt (nb + 1) fi fo en off (dcu cu) (ma + 1) h1) _) (cwV 0 hts gX1_writePage_X1_canWrite rfl rfl rfl (by decide +kernel) ⟨Nat.le_of_ble_eq_true rfl, Nat.le_of_ble_eq_true rfl⟩) (pV_B hP hD hK (ci := 1) (q0 := 0) rfl rfl rfl [0, 1] rfl [0, 1, 2, 3, 4, 5, 6] rfl rfl) rfl rfl hl.1 rfl (lv_room (Nat.le_of_ble_eq_true rfl)) dX1_writePage_26 ⟨Nat.le_of_ble_eq_true rfl, Nat.le_of_ble_eq_true rfl⟩) [0, 1, 2, 3, 4, 5, 6] [] rfl rfl rfl (by decide) (fun H locs hP hD hS => ?_)
      have hP : va_P D vwCl (wM h0 a0 a1 a2 a3 a4 a5 cI cZ th (zf bf) (va_cpy bf pw 0 (k * 64) 32) (upd hs (k * 2) (nb + 1)) lo lg rt (nb + 1) (nI fi) (nI fo) (nI fo) 1 (dcu cu) (ma + 1)) H := hP
      have hD : va_D A (wM h0 a0 a1 a2 a3 a4 a5 cI cZ th (zf bf) (va_cpy bf pw 0 (k * 64) 32) (upd hs (k * 2) (nb + 1)) lo lg rt (nb + 1) (nI fi) (nI fo) (nI fo) 1 (dcu cu) (ma + 1)) := hD
      refine lv_if_ne (tgt := 34) hx hb dX1_writePage_29 (by decide) (fun c_29 => absurd (by decide) c_29) (fun c_29 => ?_)
      refine lv_iconst (v := (-1)) hx hb dX1_writePage_32 (by decide) ?_
      exact e_I hx hb hr hlocks hP hD hS rfl dX1_writePage_33
    | succ n9 ih =>
      intro i hi H locs ls hP hD hS hl
      refine lv_iload hx hb dX1_writePage_41 (lv_at hl 6 rfl) ?_
      refine lv_bipush (v := (nI 32)) hx hb dX1_writePage_43 (by decide) ?_
      refine lv_iload hx hb dX1_writePage_45 (lv_at hl 5 rfl) ?_
      refine n_imul hx hb dX1_writePage_47 ?_
      refine lv_bipush (v := (nI 32)) hx hb dX1_writePage_48 (by decide) ?_
      refine n_iadd hx hb dX1_writePage_50 ?_
      refine n_ge (tgt := 95) hx hb (by omega) (by omega) dX1_writePage_51 (by decide) (fun c_51 => absurd c_51 (by omega)) (fun c_51 => ?_)
      refine lv_aload_n hx hb dX1_writePage_54 rfl (lv_at hl 0 rfl) ?_
      refine va_get (ci := 1) (v := .ref a1) (C := RX1) (T := TX1) (N := 14) hx hb hts inX1_writePage hown hK hP 0 rfl rfl 1 (by decide) (hts _ flX1_writePage_8) (fun _ h9 => h9) rfl dX1_writePage_55 ?_
      refine lv_bipush (v := (nI 64)) hx hb dX1_writePage_58 (by decide) ?_
      refine lv_iload_n hx hb dX1_writePage_60 rfl (lv_at hl 1 rfl) ?_
      refine n_imulc hx hb dX1_writePage_61 ?_
      refine lv_iload hx hb dX1_writePage_62 (lv_at hl 6 rfl) ?_
      refine n_iadd hx hb dX1_writePage_64 ?_
      refine lv_iload_n hx hb dX1_writePage_65 rfl (lv_at hl 3 rfl) ?_
      refine lv_if_eq (tgt := 79) hx hb dX1_writePage_66 (by decide) (fun c_66 => absurd c_66 (by decide)) (fun c_66 => ?_)
      refine lv_aload_n hx hb dX1_writePage_69 rfl (lv_at hl 0 rfl) ?_
      refine va_get (ci := 1) (v := .ref a0) (C := RX1) (T := TX1) (N := 14) hx hb hts inX1_writePage hown hK hP 0 rfl rfl 6 (by decide) (hts _ flX1_writePage_28) (fun _ h9 => h9) rfl dX1_writePage_70 ?_
      refine lv_iload hx hb dX1_writePage_73 (lv_at hl 6 rfl) ?_
      refine n_iald hx hb hK hP 1 0 rfl rfl i (by omega) (by omega) dX1_writePage_75 ?_
      refine lv_goto (tgt := 88) hx hb dX1_writePage_76 (by decide) ?_
      refine n_iast hx hb hK hP hD hS 2 0 rfl rfl ((k * 64) + i) (by omega) (by omega) dX1_writePage_88 (fun H locs hP hD hS => ?_)
      have hP : va_P D vwCl (wM h0 a0 a1 a2 a3 a4 a5 cI cZ th bf (upd (va_cpy bf pw 0 (k * 64) i) ((k * 64) + i) (bf i)) hs lo lg rt (nb + 1) (nI fi) (nI fo) (nI en) off (dcu cu) (ma + 1)) H := hP
      have hD : va_D A (wM h0 a0 a1 a2 a3 a4 a5 cI cZ th bf (upd (va_cpy bf pw 0 (k * 64) i) ((k * 64) + i) (bf i)) hs lo lg rt (nb + 1) (nI fi) (nI fo) (nI en) off (dcu cu) (ma + 1)) := hD
      refine n_iinc (lv' := [(6, .int (nI (i + 1))), (0, .ref h0), (1, .int (nI k)), (2, .int (nI 0)), (3, .int 1), (4, .int (nb + 1)), (5, .int (nI 0))]) hx hb dX1_writePage_89 hl (k := 6) rfl (by decide) rfl (fun ls hl => ?_)
      refine lv_goto (tgt := 41) hx hb dX1_writePage_92 (by decide) ?_
      have e9 : upd (va_cpy bf pw 0 (k * 64) i) ((k * 64) + i) (bf i) = va_cpy bf pw 0 (k * 64) (i + 1) := cpy_t (by omega) (by rw [show (0 : Nat) + i = i from by omega])
      have hP : va_P D vwCl (wM h0 a0 a1 a2 a3 a4 a5 cI cZ th bf (va_cpy bf pw 0 (k * 64) (i + 1)) hs lo lg rt (nb + 1) (nI fi) (nI fo) (nI en) off (dcu cu) (ma + 1)) H := by rw [← e9]; exact hP
      have hD : va_D A (wM h0 a0 a1 a2 a3 a4 a5 cI cZ th bf (va_cpy bf pw 0 (k * 64) (i + 1)) hs lo lg rt (nb + 1) (nI fi) (nI fo) (nI en) off (dcu cu) (ma + 1)) := by rw [← e9]; exact hD
      exact ih (i + 1) (by omega) _ _ _ hP hD hS (lv_sub hl [1, 2, 3, 4, 5, 6, 0] rfl)
  have hP : va_P D vwCl (wM h0 a0 a1 a2 a3 a4 a5 cI cZ th bf (va_cpy bf pw 0 (k * 64) 0) hs lo lg rt (nb + 1) (nI fi) (nI fo) (nI en) off (dcu cu) (ma + 1)) H := by rw [cpy_0]; exact hP
  have hD : va_D A (wM h0 a0 a1 a2 a3 a4 a5 cI cZ th bf (va_cpy bf pw 0 (k * 64) 0) hs lo lg rt (nb + 1) (nI fi) (nI fo) (nI en) off (dcu cu) (ma + 1)) := by rw [cpy_0]; exact hD
  exact lp_41 32 0 (by omega) _ _ _ hP hD hS (lv_sub hl [3, 4, 5, 6, 2, 1, 0] rfl)
set_option maxHeartbeats 4000000 in
set_option maxRecDepth 100000 in
theorem tX1_writePage_b2 {l : Launch} {D : va_G} {cI cZ : ClassId} {h0 a0 a1 a2 a3 a4 a5 : Nat} (th : Int32) (bf pw hs lo lg rt : Nat → Int32) (nb : Int32) (fi fo en : Nat) (off cu ma : Int32) (k : Nat) (hk : k < 512) (hn : -1 ≤ cu) (h : ¬ cu = 0) (h1 : ¬ dcu cu = 0) : RI l yX1_writePage wsX1_writePage 3 0 0 D (tyC cI cZ) (wM h0 a0 a1 a2 a3 a4 a5 cI cZ th bf pw hs lo lg rt nb (nI fi) (nI fo) (nI en) off cu ma) [.ref h0, .int (nI k), .int (nI 0), .int 1] (nb + 1) (wM h0 a0 a1 a2 a3 a4 a5 cI cZ th bf (va_cpy bf (va_cpy bf pw 0 (k * 64) 32) 32 (k * 64 + 32) 32) (upd (upd hs (k * 2) (nb + 1)) (k * 2 + 1) (nb + 1)) (upd lo k 0) lg rt (nb + 1) (nI fi) (nI fo) (nI en) off (dcu (dcu cu)) (ma + 1 + 1)) := by
  refine st_I (cc := cX1_writePage) (maxL := 7) (ret := (some .int)) (by decide +kernel) rfl (Nat.le_of_ble_eq_true rfl) ?_
  intro p e s m below meth c A hx hb hr hts hown hml hlocks hK hP hD hA hS ls hl
  have hown : s.vm.findClass RX1 = some m.cls := hown
  have hl : lv_has ls 7 [(0, .ref h0), (1, .int (nI k)), (2, .int (nI 0)), (3, .int 1)] := hl
  refine lv_aload_n hx hb dX1_writePage_0 rfl (lv_at hl 0 rfl) ?_
  refine lv_dup hx hb dX1_writePage_1 rfl ?_
  refine va_get (ci := 1) (v := .int nb) (C := RX1) (T := TX1) (N := 14) hx hb hts inX1_writePage hown hK hP 0 rfl rfl 10 (by decide) (hts _ flX1_writePage_69) (fun _ h9 => h9) rfl dX1_writePage_2 ?_
  refine lv_iconst (v := (1)) hx hb dX1_writePage_5 (by decide) ?_
  refine lv_iadd hx hb dX1_writePage_6 ?_
  refine va_put (ci := 1) (v := .int (nb + 1)) (ty := .int) (C := RX1) (T := TX1) (N := 14) hx hb hts inX1_writePage tyX1 tyX1_ok nmX1 hown hK hP hD hS 0 rfl rfl 10 (by decide) (hts _ flX1_writePage_69) (fun _ h9 => h9) rfl (by decide +kernel) rfl rfl (Nat.le_of_ble_eq_true rfl) dX1_writePage_7 (fun H locs hP hD hS => ?_)
  have hP : va_P D vwCl (wM h0 a0 a1 a2 a3 a4 a5 cI cZ th bf pw hs lo lg rt (nb + 1) (nI fi) (nI fo) (nI en) off cu ma) H := hP
  have hD : va_D A (wM h0 a0 a1 a2 a3 a4 a5 cI cZ th bf pw hs lo lg rt (nb + 1) (nI fi) (nI fo) (nI en) off cu ma) := hD
  refine lv_aload_n hx hb dX1_writePage_10 rfl (lv_at hl 0 rfl) ?_
  refine va_get (ci := 1) (v := .int (nb + 1)) (C := RX1) (T := TX1) (N := 14) hx hb hts inX1_writePage hown hK hP 0 rfl rfl 10 (by decide) (hts _ flX1_writePage_69) (fun _ h9 => h9) rfl dX1_writePage_11 ?_
  refine lv_istore (lv' := [(4, .int (nb + 1)), (0, .ref h0), (1, .int (nI k)), (2, .int (nI 0)), (3, .int 1)]) hx hb dX1_writePage_14 hl (by decide) rfl (fun ls hl => ?_)
  refine lv_iconst (v := (nI 0)) hx hb dX1_writePage_16 (by decide) ?_
  refine lv_istore (lv' := [(5, .int (nI 0)), (4, .int (nb + 1)), (0, .ref h0), (1, .int (nI k)), (2, .int (nI 0)), (3, .int 1)]) hx hb dX1_writePage_17 hl (by decide) rfl (fun ls hl => ?_)
  refine lv_iload hx hb dX1_writePage_19 (lv_at hl 0 rfl) ?_
  refine lv_iconst (v := (nI 2)) hx hb dX1_writePage_21 (by decide) ?_
  refine n_ge (tgt := 114) hx hb (by omega) (by omega) dX1_writePage_22 (by decide) (fun c_22 => absurd c_22 (by omega)) (fun c_22 => ?_)
  refine lv_aload_n hx hb dX1_writePage_25 rfl (lv_at hl 2 rfl) ?_
  refine k_I (wr := []) hP hD hS hA (va_runV (As := []) (rest := []) ⟨hx, hb, hml, hown, hts⟩ ((tX1_canWrite_ok th bf pw hs lo lg rt (nb + 1) fi fo en off cu ma h hn) _) (cwV 0 hts gX1_writePage_X1_canWrite rfl rfl rfl (by decide +kernel) ⟨Nat.le_of_ble_eq_true rfl, Nat.le_of_ble_eq_true rfl⟩) (pV_B hP hD hK (ci := 1) (q0 := 0) rfl rfl rfl [0, 1] rfl [0, 1, 2, 3, 4, 5, 6] rfl rfl) rfl rfl hl.1 rfl (lv_room (Nat.le_of_ble_eq_true rfl)) dX1_writePage_26 ⟨Nat.le_of_ble_eq_true rfl, Nat.le_of_ble_eq_true rfl⟩) [0, 1, 2, 3, 4, 5, 6] [] rfl rfl rfl (by decide) (fun H locs hP hD hS => ?_)
  have hP : va_P D vwCl (wM h0 a0 a1 a2 a3 a4 a5 cI cZ th bf pw hs lo lg rt (nb + 1) (nI fi) (nI fo) (nI en) off (dcu cu) (ma + 1)) H := hP
  have hD : va_D A (wM h0 a0 a1 a2 a3 a4 a5 cI cZ th bf pw hs lo lg rt (nb + 1) (nI fi) (nI fo) (nI en) off (dcu cu) (ma + 1)) := hD
  refine lv_if_ne (tgt := 34) hx hb dX1_writePage_29 (by decide) (fun c_29 => ?_) (fun c_29 => absurd c_29 (by decide))
  refine lv_bipush (v := (nI 32)) hx hb dX1_writePage_34 (by decide) ?_
  refine lv_iload hx hb dX1_writePage_36 (lv_at hl 0 rfl) ?_
  refine n_imul hx hb dX1_writePage_38 ?_
  refine lv_istore (lv' := [(6, .int (nI 0)), (5, .int (nI 0)), (4, .int (nb + 1)), (0, .ref h0), (1, .int (nI k)), (2, .int (nI 0)), (3, .int 1)]) hx hb dX1_writePage_39 hl (by decide) rfl (fun ls hl => ?_)
  have lp_41 : ∀ (n9 i : Nat), i + n9 = 32 → ∀ (H : Heap) (locs : List Loc) (ls : Array Slot), va_P D vwCl (wM h0 a0 a1 a2 a3 a4 a5 cI cZ th bf (va_cpy bf pw 0 (k * 64) i) hs lo lg rt (nb + 1) (nI fi) (nI fo) (nI en) off (dcu cu) (ma + 1)) H → va_D A (wM h0 a0 a1 a2 a3 a4 a5 cI cZ th bf (va_cpy bf pw 0 (k * 64) i) hs lo lg rt (nb + 1) (nI fi) (nI fo) (nI en) off (dcu cu) (ma + 1)) → va_S A s.heap H locs → lv_has ls 7 [(0, .ref h0), (1, .int (nI k)), (2, .int (nI 0)), (3, .int 1), (4, .int (nb + 1)), (5, .int (nI 0)), (6, .int (nI i))] → W p l e (rmL 3 0 0) s m ([.ref h0, .int (nI k), .int (nI 0), .int 1] : List Value).toArray below meth c H locs 0 0 (MQ below (qcI D A (nb + 1) (wM h0 a0 a1 a2 a3 a4 a5 cI cZ th bf (va_cpy bf (va_cpy bf pw 0 (k * 64) 32) 32 (k * 64 + 32) 32) (upd (upd hs (k * 2) (nb + 1)) (k * 2 + 1) (nb + 1)) (upd lo k 0) lg rt (nb + 1) (nI fi) (nI fo) (nI en) off (dcu (dcu cu)) (ma + 1 + 1))) ([.ref h0, .int (nI k), .int (nI 0), .int 1] : List Value).toArray s 0 0 A) (F0 m 41 ls []) := by
    intro n9
    induction n9 with
    | zero =>
      intro i hi H locs ls hP hD hS hl
      obtain rfl : i = 32 := by omega
      refine lv_iload hx hb dX1_writePage_41 (lv_at hl 6 rfl) ?_
      refine lv_bipush (v := (nI 32)) hx hb dX1_writePage_43 (by decide) ?_
      refine lv_iload hx hb dX1_writePage_45 (lv_at hl 5 rfl) ?_
      refine n_imul hx hb dX1_writePage_47 ?_
      refine lv_bipush (v := (nI 32)) hx hb dX1_writePage_48 (by decide) ?_
      refine n_iadd hx hb dX1_writePage_50 ?_
      refine n_ge (tgt := 95) hx hb (by omega) (by omega) dX1_writePage_51 (by decide) (fun c_51 => ?_) (fun c_51 => absurd c_51 (by omega))
      refine lv_aload_n hx hb dX1_writePage_95 rfl (lv_at hl 0 rfl) ?_
      refine va_get (ci := 1) (v := .ref a2) (C := RX1) (T := TX1) (N := 14) hx hb hts inX1_writePage hown hK hP 0 rfl rfl 2 (by decide) (hts _ flX1_writePage_14) (fun _ h9 => h9) rfl dX1_writePage_96 ?_
      refine lv_iconst (v := (nI 2)) hx hb dX1_writePage_99 (by decide) ?_
      refine lv_iload_n hx hb dX1_writePage_100 rfl (lv_at hl 1 rfl) ?_
      refine n_imulc hx hb dX1_writePage_101 ?_
      refine lv_iload hx hb dX1_writePage_102 (lv_at hl 5 rfl) ?_
      refine n_iadd hx hb dX1_writePage_104 ?_
      refine lv_iload hx hb dX1_writePage_105 (lv_at hl 4 rfl) ?_
      refine n_iast hx hb hK hP hD hS 3 0 rfl rfl (k * 2) (by omega) (by omega) dX1_writePage_107 (fun H locs hP hD hS => ?_)
      have hP : va_P D vwCl (wM h0 a0 a1 a2 a3 a4 a5 cI cZ th bf (va_cpy bf pw 0 (k * 64) 32) (upd hs (k * 2) (nb + 1)) lo lg rt (nb + 1) (nI fi) (nI fo) (nI en) off (dcu cu) (ma + 1)) H := hP
      have hD : va_D A (wM h0 a0 a1 a2 a3 a4 a5 cI cZ th bf (va_cpy bf pw 0 (k * 64) 32) (upd hs (k * 2) (nb + 1)) lo lg rt (nb + 1) (nI fi) (nI fo) (nI en) off (dcu cu) (ma + 1)) := hD
      refine n_iinc (lv' := [(5, .int (nI 1)), (0, .ref h0), (1, .int (nI k)), (2, .int (nI 0)), (3, .int 1), (4, .int (nb + 1)), (6, .int (nI 32))]) hx hb dX1_writePage_108 hl (k := 5) rfl (by decide) rfl (fun ls hl => ?_)
      refine lv_goto (tgt := 19) hx hb dX1_writePage_111 (by decide) ?_
      refine lv_iload hx hb dX1_writePage_19 (lv_at hl 0 rfl) ?_
      refine lv_iconst (v := (nI 2)) hx hb dX1_writePage_21 (by decide) ?_
      refine n_ge (tgt := 114) hx hb (by omega) (by omega) dX1_writePage_22 (by decide) (fun c_22 => absurd c_22 (by omega)) (fun c_22 => ?_)
      refine lv_aload_n hx hb dX1_writePage_25 rfl (lv_at hl 1 rfl) ?_
      refine k_I (wr := []) hP hD hS hA (va_runV (As := []) (rest := []) ⟨hx, hb, hml, hown, hts⟩ ((tX1_canWrite_ok th bf (va_cpy bf pw 0 (k * 64) 32) (upd hs (k * 2) (nb + 1)) lo lg rt (nb + 1) fi fo en off (dcu cu) (ma + 1) h1 (dcu_ge h hn)) _) (cwV 0 hts gX1_writePage_X1_canWrite rfl rfl rfl (by decide +kernel) ⟨Nat.le_of_ble_eq_true rfl, Nat.le_of_ble_eq_true rfl⟩) (pV_B hP hD hK (ci := 1) (q0 := 0) rfl rfl rfl [0, 1] rfl [0, 1, 2, 3, 4, 5, 6] rfl rfl) rfl rfl hl.1 rfl (lv_room (Nat.le_of_ble_eq_true rfl)) dX1_writePage_26 ⟨Nat.le_of_ble_eq_true rfl, Nat.le_of_ble_eq_true rfl⟩) [0, 1, 2, 3, 4, 5, 6] [] rfl rfl rfl (by decide) (fun H locs hP hD hS => ?_)
      have hP : va_P D vwCl (wM h0 a0 a1 a2 a3 a4 a5 cI cZ th bf (va_cpy bf pw 0 (k * 64) 32) (upd hs (k * 2) (nb + 1)) lo lg rt (nb + 1) (nI fi) (nI fo) (nI en) off (dcu (dcu cu)) (ma + 1 + 1)) H := hP
      have hD : va_D A (wM h0 a0 a1 a2 a3 a4 a5 cI cZ th bf (va_cpy bf pw 0 (k * 64) 32) (upd hs (k * 2) (nb + 1)) lo lg rt (nb + 1) (nI fi) (nI fo) (nI en) off (dcu (dcu cu)) (ma + 1 + 1)) := hD
      refine lv_if_ne (tgt := 34) hx hb dX1_writePage_29 (by decide) (fun c_29 => ?_) (fun c_29 => absurd c_29 (by decide))
      refine lv_bipush (v := (nI 32)) hx hb dX1_writePage_34 (by decide) ?_
      refine lv_iload hx hb dX1_writePage_36 (lv_at hl 0 rfl) ?_
      refine n_imul hx hb dX1_writePage_38 ?_
      refine lv_istore (lv' := [(6, .int (nI 32)), (5, .int (nI 1)), (0, .ref h0), (1, .int (nI k)), (2, .int (nI 0)), (3, .int 1), (4, .int (nb + 1))]) hx hb dX1_writePage_39 hl (by decide) rfl (fun ls hl => ?_)
      have lp_41 : ∀ (n9 i : Nat), i + n9 = 32 → ∀ (H : Heap) (locs : List Loc) (ls : Array Slot), va_P D vwCl (wM h0 a0 a1 a2 a3 a4 a5 cI cZ th bf (va_cpy bf (va_cpy bf pw 0 (k * 64) 32) 32 (k * 64 + 32) i) (upd hs (k * 2) (nb + 1)) lo lg rt (nb + 1) (nI fi) (nI fo) (nI en) off (dcu (dcu cu)) (ma + 1 + 1)) H → va_D A (wM h0 a0 a1 a2 a3 a4 a5 cI cZ th bf (va_cpy bf (va_cpy bf pw 0 (k * 64) 32) 32 (k * 64 + 32) i) (upd hs (k * 2) (nb + 1)) lo lg rt (nb + 1) (nI fi) (nI fo) (nI en) off (dcu (dcu cu)) (ma + 1 + 1)) → va_S A s.heap H locs → lv_has ls 7 [(0, .ref h0), (1, .int (nI k)), (2, .int (nI 0)), (3, .int 1), (4, .int (nb + 1)), (5, .int (nI 1)), (6, .int (nI (32 + i)))] → W p l e (rmL 3 0 0) s m ([.ref h0, .int (nI k), .int (nI 0), .int 1] : List Value).toArray below meth c H locs 0 0 (MQ below (qcI D A (nb + 1) (wM h0 a0 a1 a2 a3 a4 a5 cI cZ th bf (va_cpy bf (va_cpy bf pw 0 (k * 64) 32) 32 (k * 64 + 32) 32) (upd (upd hs (k * 2) (nb + 1)) (k * 2 + 1) (nb + 1)) (upd lo k 0) lg rt (nb + 1) (nI fi) (nI fo) (nI en) off (dcu (dcu cu)) (ma + 1 + 1))) ([.ref h0, .int (nI k), .int (nI 0), .int 1] : List Value).toArray s 0 0 A) (F0 m 41 ls []) := by
        intro n9
        induction n9 with
        | zero =>
          intro i hi H locs ls hP hD hS hl
          obtain rfl : i = 32 := by omega
          refine lv_iload hx hb dX1_writePage_41 (lv_at hl 6 rfl) ?_
          refine lv_bipush (v := (nI 32)) hx hb dX1_writePage_43 (by decide) ?_
          refine lv_iload hx hb dX1_writePage_45 (lv_at hl 5 rfl) ?_
          refine n_imul hx hb dX1_writePage_47 ?_
          refine lv_bipush (v := (nI 32)) hx hb dX1_writePage_48 (by decide) ?_
          refine n_iadd hx hb dX1_writePage_50 ?_
          refine n_ge (tgt := 95) hx hb (by omega) (by omega) dX1_writePage_51 (by decide) (fun c_51 => ?_) (fun c_51 => absurd c_51 (by omega))
          refine lv_aload_n hx hb dX1_writePage_95 rfl (lv_at hl 0 rfl) ?_
          refine va_get (ci := 1) (v := .ref a2) (C := RX1) (T := TX1) (N := 14) hx hb hts inX1_writePage hown hK hP 0 rfl rfl 2 (by decide) (hts _ flX1_writePage_14) (fun _ h9 => h9) rfl dX1_writePage_96 ?_
          refine lv_iconst (v := (nI 2)) hx hb dX1_writePage_99 (by decide) ?_
          refine lv_iload_n hx hb dX1_writePage_100 rfl (lv_at hl 1 rfl) ?_
          refine n_imulc hx hb dX1_writePage_101 ?_
          refine lv_iload hx hb dX1_writePage_102 (lv_at hl 5 rfl) ?_
          refine n_iadd hx hb dX1_writePage_104 ?_
          refine lv_iload hx hb dX1_writePage_105 (lv_at hl 4 rfl) ?_
          refine n_iast hx hb hK hP hD hS 3 0 rfl rfl ((k * 2) + 1) (by omega) (by omega) dX1_writePage_107 (fun H locs hP hD hS => ?_)
          have hP : va_P D vwCl (wM h0 a0 a1 a2 a3 a4 a5 cI cZ th bf (va_cpy bf (va_cpy bf pw 0 (k * 64) 32) 32 (k * 64 + 32) 32) (upd (upd hs (k * 2) (nb + 1)) ((k * 2) + 1) (nb + 1)) lo lg rt (nb + 1) (nI fi) (nI fo) (nI en) off (dcu (dcu cu)) (ma + 1 + 1)) H := hP
          have hD : va_D A (wM h0 a0 a1 a2 a3 a4 a5 cI cZ th bf (va_cpy bf (va_cpy bf pw 0 (k * 64) 32) 32 (k * 64 + 32) 32) (upd (upd hs (k * 2) (nb + 1)) ((k * 2) + 1) (nb + 1)) lo lg rt (nb + 1) (nI fi) (nI fo) (nI en) off (dcu (dcu cu)) (ma + 1 + 1)) := hD
          refine n_iinc (lv' := [(5, .int (nI 2)), (0, .ref h0), (1, .int (nI k)), (2, .int (nI 0)), (3, .int 1), (4, .int (nb + 1)), (6, .int (nI 64))]) hx hb dX1_writePage_108 hl (k := 5) rfl (by decide) rfl (fun ls hl => ?_)
          refine lv_goto (tgt := 19) hx hb dX1_writePage_111 (by decide) ?_
          refine lv_iload hx hb dX1_writePage_19 (lv_at hl 0 rfl) ?_
          refine lv_iconst (v := (nI 2)) hx hb dX1_writePage_21 (by decide) ?_
          refine n_ge (tgt := 114) hx hb (by omega) (by omega) dX1_writePage_22 (by decide) (fun c_22 => ?_) (fun c_22 => absurd c_22 (by omega))
          refine lv_aload_n hx hb dX1_writePage_114 rfl (lv_at hl 1 rfl) ?_
          refine va_get (ci := 1) (v := .ref a3) (C := RX1) (T := TX1) (N := 14) hx hb hts inX1_writePage hown hK hP 0 rfl rfl 3 (by decide) (hts _ flX1_writePage_17) (fun _ h9 => h9) rfl dX1_writePage_115 ?_
          refine lv_iload_n hx hb dX1_writePage_118 rfl (lv_at hl 2 rfl) ?_
          refine lv_iconst (v := (0)) hx hb dX1_writePage_119 (by decide) ?_
          refine n_zast hx hb hK hP hD hS 4 1 rfl rfl k (by omega) (by omega) (by decide) dX1_writePage_120 (fun H locs hP hD hS => ?_)
          have hP : va_P D vwCl (wM h0 a0 a1 a2 a3 a4 a5 cI cZ th bf (va_cpy bf (va_cpy bf pw 0 (k * 64) 32) 32 (k * 64 + 32) 32) (upd (upd hs (k * 2) (nb + 1)) ((k * 2) + 1) (nb + 1)) (upd lo k 0) lg rt (nb + 1) (nI fi) (nI fo) (nI en) off (dcu (dcu cu)) (ma + 1 + 1)) H := hP
          have hD : va_D A (wM h0 a0 a1 a2 a3 a4 a5 cI cZ th bf (va_cpy bf (va_cpy bf pw 0 (k * 64) 32) 32 (k * 64 + 32) 32) (upd (upd hs (k * 2) (nb + 1)) ((k * 2) + 1) (nb + 1)) (upd lo k 0) lg rt (nb + 1) (nI fi) (nI fo) (nI en) off (dcu (dcu cu)) (ma + 1 + 1)) := hD
          refine lv_iload hx hb dX1_writePage_121 (lv_at hl 5 rfl) ?_
          exact e_I hx hb hr hlocks hP hD hS rfl dX1_writePage_123
        | succ n9 ih =>
          intro i hi H locs ls hP hD hS hl
          refine lv_iload hx hb dX1_writePage_41 (lv_at hl 6 rfl) ?_
          refine lv_bipush (v := (nI 32)) hx hb dX1_writePage_43 (by decide) ?_
          refine lv_iload hx hb dX1_writePage_45 (lv_at hl 5 rfl) ?_
          refine n_imul hx hb dX1_writePage_47 ?_
          refine lv_bipush (v := (nI 32)) hx hb dX1_writePage_48 (by decide) ?_
          refine n_iadd hx hb dX1_writePage_50 ?_
          refine n_ge (tgt := 95) hx hb (by omega) (by omega) dX1_writePage_51 (by decide) (fun c_51 => absurd c_51 (by omega)) (fun c_51 => ?_)
          refine lv_aload_n hx hb dX1_writePage_54 rfl (lv_at hl 0 rfl) ?_
          refine va_get (ci := 1) (v := .ref a1) (C := RX1) (T := TX1) (N := 14) hx hb hts inX1_writePage hown hK hP 0 rfl rfl 1 (by decide) (hts _ flX1_writePage_8) (fun _ h9 => h9) rfl dX1_writePage_55 ?_
          refine lv_bipush (v := (nI 64)) hx hb dX1_writePage_58 (by decide) ?_
          refine lv_iload_n hx hb dX1_writePage_60 rfl (lv_at hl 1 rfl) ?_
          refine n_imulc hx hb dX1_writePage_61 ?_
          refine lv_iload hx hb dX1_writePage_62 (lv_at hl 6 rfl) ?_
          refine n_iadd hx hb dX1_writePage_64 ?_
          refine lv_iload_n hx hb dX1_writePage_65 rfl (lv_at hl 3 rfl) ?_
          refine lv_if_eq (tgt := 79) hx hb dX1_writePage_66 (by decide) (fun c_66 => absurd c_66 (by decide)) (fun c_66 => ?_)
          refine lv_aload_n hx hb dX1_writePage_69 rfl (lv_at hl 0 rfl) ?_
          refine va_get (ci := 1) (v := .ref a0) (C := RX1) (T := TX1) (N := 14) hx hb hts inX1_writePage hown hK hP 0 rfl rfl 6 (by decide) (hts _ flX1_writePage_28) (fun _ h9 => h9) rfl dX1_writePage_70 ?_
          refine lv_iload hx hb dX1_writePage_73 (lv_at hl 6 rfl) ?_
          refine n_iald hx hb hK hP 1 0 rfl rfl (32 + i) (by omega) (by omega) dX1_writePage_75 ?_
          refine lv_goto (tgt := 88) hx hb dX1_writePage_76 (by decide) ?_
          refine n_iast hx hb hK hP hD hS 2 0 rfl rfl ((k * 64) + (32 + i)) (by omega) (by omega) dX1_writePage_88 (fun H locs hP hD hS => ?_)
          have hP : va_P D vwCl (wM h0 a0 a1 a2 a3 a4 a5 cI cZ th bf (upd (va_cpy bf (va_cpy bf pw 0 (k * 64) 32) 32 (k * 64 + 32) i) ((k * 64) + (32 + i)) (bf (32 + i))) (upd hs (k * 2) (nb + 1)) lo lg rt (nb + 1) (nI fi) (nI fo) (nI en) off (dcu (dcu cu)) (ma + 1 + 1)) H := hP
          have hD : va_D A (wM h0 a0 a1 a2 a3 a4 a5 cI cZ th bf (upd (va_cpy bf (va_cpy bf pw 0 (k * 64) 32) 32 (k * 64 + 32) i) ((k * 64) + (32 + i)) (bf (32 + i))) (upd hs (k * 2) (nb + 1)) lo lg rt (nb + 1) (nI fi) (nI fo) (nI en) off (dcu (dcu cu)) (ma + 1 + 1)) := hD
          refine n_iinc (lv' := [(6, .int (nI ((32 + i) + 1))), (0, .ref h0), (1, .int (nI k)), (2, .int (nI 0)), (3, .int 1), (4, .int (nb + 1)), (5, .int (nI 1))]) hx hb dX1_writePage_89 hl (k := 6) rfl (by decide) rfl (fun ls hl => ?_)
          refine lv_goto (tgt := 41) hx hb dX1_writePage_92 (by decide) ?_
          have e9 : upd (va_cpy bf (va_cpy bf pw 0 (k * 64) 32) 32 (k * 64 + 32) i) ((k * 64) + (32 + i)) (bf (32 + i)) = va_cpy bf (va_cpy bf pw 0 (k * 64) 32) 32 (k * 64 + 32) (i + 1) := cpy_t (by omega) (rfl)
          have hP : va_P D vwCl (wM h0 a0 a1 a2 a3 a4 a5 cI cZ th bf (va_cpy bf (va_cpy bf pw 0 (k * 64) 32) 32 (k * 64 + 32) (i + 1)) (upd hs (k * 2) (nb + 1)) lo lg rt (nb + 1) (nI fi) (nI fo) (nI en) off (dcu (dcu cu)) (ma + 1 + 1)) H := by rw [← e9]; exact hP
          have hD : va_D A (wM h0 a0 a1 a2 a3 a4 a5 cI cZ th bf (va_cpy bf (va_cpy bf pw 0 (k * 64) 32) 32 (k * 64 + 32) (i + 1)) (upd hs (k * 2) (nb + 1)) lo lg rt (nb + 1) (nI fi) (nI fo) (nI en) off (dcu (dcu cu)) (ma + 1 + 1)) := by rw [← e9]; exact hD
          exact ih (i + 1) (by omega) _ _ _ hP hD hS (lv_sub hl [1, 2, 3, 4, 5, 6, 0] rfl)
      have hP : va_P D vwCl (wM h0 a0 a1 a2 a3 a4 a5 cI cZ th bf (va_cpy bf (va_cpy bf pw 0 (k * 64) 32) 32 (k * 64 + 32) 0) (upd hs (k * 2) (nb + 1)) lo lg rt (nb + 1) (nI fi) (nI fo) (nI en) off (dcu (dcu cu)) (ma + 1 + 1)) H := by rw [cpy_0]; exact hP
      have hD : va_D A (wM h0 a0 a1 a2 a3 a4 a5 cI cZ th bf (va_cpy bf (va_cpy bf pw 0 (k * 64) 32) 32 (k * 64 + 32) 0) (upd hs (k * 2) (nb + 1)) lo lg rt (nb + 1) (nI fi) (nI fo) (nI en) off (dcu (dcu cu)) (ma + 1 + 1)) := by rw [cpy_0]; exact hD
      exact lp_41 32 0 (by omega) _ _ _ hP hD hS (lv_sub hl [2, 3, 4, 5, 6, 1, 0] rfl)
    | succ n9 ih =>
      intro i hi H locs ls hP hD hS hl
      refine lv_iload hx hb dX1_writePage_41 (lv_at hl 6 rfl) ?_
      refine lv_bipush (v := (nI 32)) hx hb dX1_writePage_43 (by decide) ?_
      refine lv_iload hx hb dX1_writePage_45 (lv_at hl 5 rfl) ?_
      refine n_imul hx hb dX1_writePage_47 ?_
      refine lv_bipush (v := (nI 32)) hx hb dX1_writePage_48 (by decide) ?_
      refine n_iadd hx hb dX1_writePage_50 ?_
      refine n_ge (tgt := 95) hx hb (by omega) (by omega) dX1_writePage_51 (by decide) (fun c_51 => absurd c_51 (by omega)) (fun c_51 => ?_)
      refine lv_aload_n hx hb dX1_writePage_54 rfl (lv_at hl 0 rfl) ?_
      refine va_get (ci := 1) (v := .ref a1) (C := RX1) (T := TX1) (N := 14) hx hb hts inX1_writePage hown hK hP 0 rfl rfl 1 (by decide) (hts _ flX1_writePage_8) (fun _ h9 => h9) rfl dX1_writePage_55 ?_
      refine lv_bipush (v := (nI 64)) hx hb dX1_writePage_58 (by decide) ?_
      refine lv_iload_n hx hb dX1_writePage_60 rfl (lv_at hl 1 rfl) ?_
      refine n_imulc hx hb dX1_writePage_61 ?_
      refine lv_iload hx hb dX1_writePage_62 (lv_at hl 6 rfl) ?_
      refine n_iadd hx hb dX1_writePage_64 ?_
      refine lv_iload_n hx hb dX1_writePage_65 rfl (lv_at hl 3 rfl) ?_
      refine lv_if_eq (tgt := 79) hx hb dX1_writePage_66 (by decide) (fun c_66 => absurd c_66 (by decide)) (fun c_66 => ?_)
      refine lv_aload_n hx hb dX1_writePage_69 rfl (lv_at hl 0 rfl) ?_
      refine va_get (ci := 1) (v := .ref a0) (C := RX1) (T := TX1) (N := 14) hx hb hts inX1_writePage hown hK hP 0 rfl rfl 6 (by decide) (hts _ flX1_writePage_28) (fun _ h9 => h9) rfl dX1_writePage_70 ?_
      refine lv_iload hx hb dX1_writePage_73 (lv_at hl 6 rfl) ?_
      refine n_iald hx hb hK hP 1 0 rfl rfl i (by omega) (by omega) dX1_writePage_75 ?_
      refine lv_goto (tgt := 88) hx hb dX1_writePage_76 (by decide) ?_
      refine n_iast hx hb hK hP hD hS 2 0 rfl rfl ((k * 64) + i) (by omega) (by omega) dX1_writePage_88 (fun H locs hP hD hS => ?_)
      have hP : va_P D vwCl (wM h0 a0 a1 a2 a3 a4 a5 cI cZ th bf (upd (va_cpy bf pw 0 (k * 64) i) ((k * 64) + i) (bf i)) hs lo lg rt (nb + 1) (nI fi) (nI fo) (nI en) off (dcu cu) (ma + 1)) H := hP
      have hD : va_D A (wM h0 a0 a1 a2 a3 a4 a5 cI cZ th bf (upd (va_cpy bf pw 0 (k * 64) i) ((k * 64) + i) (bf i)) hs lo lg rt (nb + 1) (nI fi) (nI fo) (nI en) off (dcu cu) (ma + 1)) := hD
      refine n_iinc (lv' := [(6, .int (nI (i + 1))), (0, .ref h0), (1, .int (nI k)), (2, .int (nI 0)), (3, .int 1), (4, .int (nb + 1)), (5, .int (nI 0))]) hx hb dX1_writePage_89 hl (k := 6) rfl (by decide) rfl (fun ls hl => ?_)
      refine lv_goto (tgt := 41) hx hb dX1_writePage_92 (by decide) ?_
      have e9 : upd (va_cpy bf pw 0 (k * 64) i) ((k * 64) + i) (bf i) = va_cpy bf pw 0 (k * 64) (i + 1) := cpy_t (by omega) (by rw [show (0 : Nat) + i = i from by omega])
      have hP : va_P D vwCl (wM h0 a0 a1 a2 a3 a4 a5 cI cZ th bf (va_cpy bf pw 0 (k * 64) (i + 1)) hs lo lg rt (nb + 1) (nI fi) (nI fo) (nI en) off (dcu cu) (ma + 1)) H := by rw [← e9]; exact hP
      have hD : va_D A (wM h0 a0 a1 a2 a3 a4 a5 cI cZ th bf (va_cpy bf pw 0 (k * 64) (i + 1)) hs lo lg rt (nb + 1) (nI fi) (nI fo) (nI en) off (dcu cu) (ma + 1)) := by rw [← e9]; exact hD
      exact ih (i + 1) (by omega) _ _ _ hP hD hS (lv_sub hl [1, 2, 3, 4, 5, 6, 0] rfl)
  have hP : va_P D vwCl (wM h0 a0 a1 a2 a3 a4 a5 cI cZ th bf (va_cpy bf pw 0 (k * 64) 0) hs lo lg rt (nb + 1) (nI fi) (nI fo) (nI en) off (dcu cu) (ma + 1)) H := by rw [cpy_0]; exact hP
  have hD : va_D A (wM h0 a0 a1 a2 a3 a4 a5 cI cZ th bf (va_cpy bf pw 0 (k * 64) 0) hs lo lg rt (nb + 1) (nI fi) (nI fo) (nI en) off (dcu cu) (ma + 1)) := by rw [cpy_0]; exact hD
  exact lp_41 32 0 (by omega) _ _ _ hP hD hS (lv_sub hl [3, 4, 5, 6, 2, 1, 0] rfl)
set_option maxHeartbeats 4000000 in
set_option maxRecDepth 100000 in
theorem tX1_writePage_p0 {l : Launch} {D : va_G} {cI cZ : ClassId} {h0 a0 a1 a2 a3 a4 a5 : Nat} (th : Int32) (bf pw hs lo lg rt : Nat → Int32) (nb : Int32) (fi fo en : Nat) (off cu ma : Int32) (k : Nat) (hk : k < 512) (fr : Nat) (hfr : fr + 64 ≤ 32768) (hdis : fr + 64 ≤ k * 64 ∨ k * 64 + 64 ≤ fr) (h : cu = 0) : RI l yX1_writePage wsX1_writePage 3 0 0 D (tyC cI cZ) (wM h0 a0 a1 a2 a3 a4 a5 cI cZ th bf pw hs lo lg rt nb (nI fi) (nI fo) (nI en) off cu ma) [.ref h0, .int (nI k), .int (nI fr), .int 0] (-1) (wM h0 a0 a1 a2 a3 a4 a5 cI cZ th (zf bf) pw hs lo lg rt (nb + 1) (nI fi) (nI fo) (nI fo) 1 cu ma) := by
  refine st_I (cc := cX1_writePage) (maxL := 7) (ret := (some .int)) (by decide +kernel) rfl (Nat.le_of_ble_eq_true rfl) ?_
  intro p e s m below meth c A hx hb hr hts hown hml hlocks hK hP hD hA hS ls hl
  have hown : s.vm.findClass RX1 = some m.cls := hown
  have hl : lv_has ls 7 [(0, .ref h0), (1, .int (nI k)), (2, .int (nI fr)), (3, .int 0)] := hl
  refine lv_aload_n hx hb dX1_writePage_0 rfl (lv_at hl 0 rfl) ?_
  refine lv_dup hx hb dX1_writePage_1 rfl ?_
  refine va_get (ci := 1) (v := .int nb) (C := RX1) (T := TX1) (N := 14) hx hb hts inX1_writePage hown hK hP 0 rfl rfl 10 (by decide) (hts _ flX1_writePage_69) (fun _ h9 => h9) rfl dX1_writePage_2 ?_
  refine lv_iconst (v := (1)) hx hb dX1_writePage_5 (by decide) ?_
  refine lv_iadd hx hb dX1_writePage_6 ?_
  refine va_put (ci := 1) (v := .int (nb + 1)) (ty := .int) (C := RX1) (T := TX1) (N := 14) hx hb hts inX1_writePage tyX1 tyX1_ok nmX1 hown hK hP hD hS 0 rfl rfl 10 (by decide) (hts _ flX1_writePage_69) (fun _ h9 => h9) rfl (by decide +kernel) rfl rfl (Nat.le_of_ble_eq_true rfl) dX1_writePage_7 (fun H locs hP hD hS => ?_)
  have hP : va_P D vwCl (wM h0 a0 a1 a2 a3 a4 a5 cI cZ th bf pw hs lo lg rt (nb + 1) (nI fi) (nI fo) (nI en) off cu ma) H := hP
  have hD : va_D A (wM h0 a0 a1 a2 a3 a4 a5 cI cZ th bf pw hs lo lg rt (nb + 1) (nI fi) (nI fo) (nI en) off cu ma) := hD
  refine lv_aload_n hx hb dX1_writePage_10 rfl (lv_at hl 0 rfl) ?_
  refine va_get (ci := 1) (v := .int (nb + 1)) (C := RX1) (T := TX1) (N := 14) hx hb hts inX1_writePage hown hK hP 0 rfl rfl 10 (by decide) (hts _ flX1_writePage_69) (fun _ h9 => h9) rfl dX1_writePage_11 ?_
  refine lv_istore (lv' := [(4, .int (nb + 1)), (0, .ref h0), (1, .int (nI k)), (2, .int (nI fr)), (3, .int 0)]) hx hb dX1_writePage_14 hl (by decide) rfl (fun ls hl => ?_)
  refine lv_iconst (v := (nI 0)) hx hb dX1_writePage_16 (by decide) ?_
  refine lv_istore (lv' := [(5, .int (nI 0)), (4, .int (nb + 1)), (0, .ref h0), (1, .int (nI k)), (2, .int (nI fr)), (3, .int 0)]) hx hb dX1_writePage_17 hl (by decide) rfl (fun ls hl => ?_)
  refine lv_iload hx hb dX1_writePage_19 (lv_at hl 0 rfl) ?_
  refine lv_iconst (v := (nI 2)) hx hb dX1_writePage_21 (by decide) ?_
  refine n_ge (tgt := 114) hx hb (by omega) (by omega) dX1_writePage_22 (by decide) (fun c_22 => absurd c_22 (by omega)) (fun c_22 => ?_)
  refine lv_aload_n hx hb dX1_writePage_25 rfl (lv_at hl 2 rfl) ?_
  refine k_I (wr := []) hP hD hS hA (va_runV (As := []) (rest := []) ⟨hx, hb, hml, hown, hts⟩ ((tX1_canWrite_cut th bf pw hs lo lg rt (nb + 1) fi fo en off cu ma h) _) (cwV 0 hts gX1_writePage_X1_canWrite rfl rfl rfl (by decide +kernel) ⟨Nat.le_of_ble_eq_true rfl, Nat.le_of_ble_eq_true rfl⟩) (pV_B hP hD hK (ci := 1) (q0 := 0) rfl rfl rfl [0, 1] rfl [0, 1, 2, 3, 4, 5, 6] rfl rfl) rfl rfl hl.1 rfl (lv_room (Nat.le_of_ble_eq_true rfl)) dX1_writePage_26 ⟨Nat.le_of_ble_eq_true rfl, Nat.le_of_ble_eq_true rfl⟩) [0, 1, 2, 3, 4, 5, 6] [] rfl rfl rfl (by decide) (fun H locs hP hD hS => ?_)
  have hP : va_P D vwCl (wM h0 a0 a1 a2 a3 a4 a5 cI cZ th (zf bf) pw hs lo lg rt (nb + 1) (nI fi) (nI fo) (nI fo) 1 cu ma) H := hP
  have hD : va_D A (wM h0 a0 a1 a2 a3 a4 a5 cI cZ th (zf bf) pw hs lo lg rt (nb + 1) (nI fi) (nI fo) (nI fo) 1 cu ma) := hD
  refine lv_if_ne (tgt := 34) hx hb dX1_writePage_29 (by decide) (fun c_29 => absurd (by decide) c_29) (fun c_29 => ?_)
  refine lv_iconst (v := (-1)) hx hb dX1_writePage_32 (by decide) ?_
  exact e_I hx hb hr hlocks hP hD hS rfl dX1_writePage_33
set_option maxHeartbeats 4000000 in
set_option maxRecDepth 100000 in
theorem tX1_writePage_p1 {l : Launch} {D : va_G} {cI cZ : ClassId} {h0 a0 a1 a2 a3 a4 a5 : Nat} (th : Int32) (bf pw hs lo lg rt : Nat → Int32) (nb : Int32) (fi fo en : Nat) (off cu ma : Int32) (k : Nat) (hk : k < 512) (fr : Nat) (hfr : fr + 64 ≤ 32768) (hdis : fr + 64 ≤ k * 64 ∨ k * 64 + 64 ≤ fr) (hn : -1 ≤ cu) (h : ¬ cu = 0) (h1 : dcu cu = 0) : RI l yX1_writePage wsX1_writePage 3 0 0 D (tyC cI cZ) (wM h0 a0 a1 a2 a3 a4 a5 cI cZ th bf pw hs lo lg rt nb (nI fi) (nI fo) (nI en) off cu ma) [.ref h0, .int (nI k), .int (nI fr), .int 0] (-1) (wM h0 a0 a1 a2 a3 a4 a5 cI cZ th (zf bf) (va_cpy pw pw fr (k * 64) 32) (upd hs (k * 2) (nb + 1)) lo lg rt (nb + 1) (nI fi) (nI fo) (nI fo) 1 (dcu cu) (ma + 1)) := by
  refine st_I (cc := cX1_writePage) (maxL := 7) (ret := (some .int)) (by decide +kernel) rfl (Nat.le_of_ble_eq_true rfl) ?_
  intro p e s m below meth c A hx hb hr hts hown hml hlocks hK hP hD hA hS ls hl
  have hown : s.vm.findClass RX1 = some m.cls := hown
  have hl : lv_has ls 7 [(0, .ref h0), (1, .int (nI k)), (2, .int (nI fr)), (3, .int 0)] := hl
  refine lv_aload_n hx hb dX1_writePage_0 rfl (lv_at hl 0 rfl) ?_
  refine lv_dup hx hb dX1_writePage_1 rfl ?_
  refine va_get (ci := 1) (v := .int nb) (C := RX1) (T := TX1) (N := 14) hx hb hts inX1_writePage hown hK hP 0 rfl rfl 10 (by decide) (hts _ flX1_writePage_69) (fun _ h9 => h9) rfl dX1_writePage_2 ?_
  refine lv_iconst (v := (1)) hx hb dX1_writePage_5 (by decide) ?_
  refine lv_iadd hx hb dX1_writePage_6 ?_
  refine va_put (ci := 1) (v := .int (nb + 1)) (ty := .int) (C := RX1) (T := TX1) (N := 14) hx hb hts inX1_writePage tyX1 tyX1_ok nmX1 hown hK hP hD hS 0 rfl rfl 10 (by decide) (hts _ flX1_writePage_69) (fun _ h9 => h9) rfl (by decide +kernel) rfl rfl (Nat.le_of_ble_eq_true rfl) dX1_writePage_7 (fun H locs hP hD hS => ?_)
  have hP : va_P D vwCl (wM h0 a0 a1 a2 a3 a4 a5 cI cZ th bf pw hs lo lg rt (nb + 1) (nI fi) (nI fo) (nI en) off cu ma) H := hP
  have hD : va_D A (wM h0 a0 a1 a2 a3 a4 a5 cI cZ th bf pw hs lo lg rt (nb + 1) (nI fi) (nI fo) (nI en) off cu ma) := hD
  refine lv_aload_n hx hb dX1_writePage_10 rfl (lv_at hl 0 rfl) ?_
  refine va_get (ci := 1) (v := .int (nb + 1)) (C := RX1) (T := TX1) (N := 14) hx hb hts inX1_writePage hown hK hP 0 rfl rfl 10 (by decide) (hts _ flX1_writePage_69) (fun _ h9 => h9) rfl dX1_writePage_11 ?_
  refine lv_istore (lv' := [(4, .int (nb + 1)), (0, .ref h0), (1, .int (nI k)), (2, .int (nI fr)), (3, .int 0)]) hx hb dX1_writePage_14 hl (by decide) rfl (fun ls hl => ?_)
  refine lv_iconst (v := (nI 0)) hx hb dX1_writePage_16 (by decide) ?_
  refine lv_istore (lv' := [(5, .int (nI 0)), (4, .int (nb + 1)), (0, .ref h0), (1, .int (nI k)), (2, .int (nI fr)), (3, .int 0)]) hx hb dX1_writePage_17 hl (by decide) rfl (fun ls hl => ?_)
  refine lv_iload hx hb dX1_writePage_19 (lv_at hl 0 rfl) ?_
  refine lv_iconst (v := (nI 2)) hx hb dX1_writePage_21 (by decide) ?_
  refine n_ge (tgt := 114) hx hb (by omega) (by omega) dX1_writePage_22 (by decide) (fun c_22 => absurd c_22 (by omega)) (fun c_22 => ?_)
  refine lv_aload_n hx hb dX1_writePage_25 rfl (lv_at hl 2 rfl) ?_
  refine k_I (wr := []) hP hD hS hA (va_runV (As := []) (rest := []) ⟨hx, hb, hml, hown, hts⟩ ((tX1_canWrite_ok th bf pw hs lo lg rt (nb + 1) fi fo en off cu ma h hn) _) (cwV 0 hts gX1_writePage_X1_canWrite rfl rfl rfl (by decide +kernel) ⟨Nat.le_of_ble_eq_true rfl, Nat.le_of_ble_eq_true rfl⟩) (pV_B hP hD hK (ci := 1) (q0 := 0) rfl rfl rfl [0, 1] rfl [0, 1, 2, 3, 4, 5, 6] rfl rfl) rfl rfl hl.1 rfl (lv_room (Nat.le_of_ble_eq_true rfl)) dX1_writePage_26 ⟨Nat.le_of_ble_eq_true rfl, Nat.le_of_ble_eq_true rfl⟩) [0, 1, 2, 3, 4, 5, 6] [] rfl rfl rfl (by decide) (fun H locs hP hD hS => ?_)
  have hP : va_P D vwCl (wM h0 a0 a1 a2 a3 a4 a5 cI cZ th bf pw hs lo lg rt (nb + 1) (nI fi) (nI fo) (nI en) off (dcu cu) (ma + 1)) H := hP
  have hD : va_D A (wM h0 a0 a1 a2 a3 a4 a5 cI cZ th bf pw hs lo lg rt (nb + 1) (nI fi) (nI fo) (nI en) off (dcu cu) (ma + 1)) := hD
  refine lv_if_ne (tgt := 34) hx hb dX1_writePage_29 (by decide) (fun c_29 => ?_) (fun c_29 => absurd c_29 (by decide))
  refine lv_bipush (v := (nI 32)) hx hb dX1_writePage_34 (by decide) ?_
  refine lv_iload hx hb dX1_writePage_36 (lv_at hl 0 rfl) ?_
  refine n_imul hx hb dX1_writePage_38 ?_
  refine lv_istore (lv' := [(6, .int (nI 0)), (5, .int (nI 0)), (4, .int (nb + 1)), (0, .ref h0), (1, .int (nI k)), (2, .int (nI fr)), (3, .int 0)]) hx hb dX1_writePage_39 hl (by decide) rfl (fun ls hl => ?_)
  have lp_41 : ∀ (n9 i : Nat), i + n9 = 32 → ∀ (H : Heap) (locs : List Loc) (ls : Array Slot), va_P D vwCl (wM h0 a0 a1 a2 a3 a4 a5 cI cZ th bf (va_cpy pw pw fr (k * 64) i) hs lo lg rt (nb + 1) (nI fi) (nI fo) (nI en) off (dcu cu) (ma + 1)) H → va_D A (wM h0 a0 a1 a2 a3 a4 a5 cI cZ th bf (va_cpy pw pw fr (k * 64) i) hs lo lg rt (nb + 1) (nI fi) (nI fo) (nI en) off (dcu cu) (ma + 1)) → va_S A s.heap H locs → lv_has ls 7 [(0, .ref h0), (1, .int (nI k)), (2, .int (nI fr)), (3, .int 0), (4, .int (nb + 1)), (5, .int (nI 0)), (6, .int (nI i))] → W p l e (rmL 3 0 0) s m ([.ref h0, .int (nI k), .int (nI fr), .int 0] : List Value).toArray below meth c H locs 0 0 (MQ below (qcI D A (-1) (wM h0 a0 a1 a2 a3 a4 a5 cI cZ th (zf bf) (va_cpy pw pw fr (k * 64) 32) (upd hs (k * 2) (nb + 1)) lo lg rt (nb + 1) (nI fi) (nI fo) (nI fo) 1 (dcu cu) (ma + 1))) ([.ref h0, .int (nI k), .int (nI fr), .int 0] : List Value).toArray s 0 0 A) (F0 m 41 ls []) := by
    intro n9
    induction n9 with
    | zero =>
      intro i hi H locs ls hP hD hS hl
      obtain rfl : i = 32 := by omega
      refine lv_iload hx hb dX1_writePage_41 (lv_at hl 6 rfl) ?_
      refine lv_bipush (v := (nI 32)) hx hb dX1_writePage_43 (by decide) ?_
      refine lv_iload hx hb dX1_writePage_45 (lv_at hl 5 rfl) ?_
      refine n_imul hx hb dX1_writePage_47 ?_
      refine lv_bipush (v := (nI 32)) hx hb dX1_writePage_48 (by decide) ?_
      refine n_iadd hx hb dX1_writePage_50 ?_
      refine n_ge (tgt := 95) hx hb (by omega) (by omega) dX1_writePage_51 (by decide) (fun c_51 => ?_) (fun c_51 => absurd c_51 (by omega))
      refine lv_aload_n hx hb dX1_writePage_95 rfl (lv_at hl 0 rfl) ?_
      refine va_get (ci := 1) (v := .ref a2) (C := RX1) (T := TX1) (N := 14) hx hb hts inX1_writePage hown hK hP 0 rfl rfl 2 (by decide) (hts _ flX1_writePage_14) (fun _ h9 => h9) rfl dX1_writePage_96 ?_
      refine lv_iconst (v := (nI 2)) hx hb dX1_writePage_99 (by decide) ?_
      refine lv_iload_n hx hb dX1_writePage_100 rfl (lv_at hl 1 rfl) ?_
      refine n_imulc hx hb dX1_writePage_101 ?_
      refine lv_iload hx hb dX1_writePage_102 (lv_at hl 5 rfl) ?_
      refine n_iadd hx hb dX1_writePage_104 ?_
      refine lv_iload hx hb dX1_writePage_105 (lv_at hl 4 rfl) ?_
      refine n_iast hx hb hK hP hD hS 3 0 rfl rfl (k * 2) (by omega) (by omega) dX1_writePage_107 (fun H locs hP hD hS => ?_)
      have hP : va_P D vwCl (wM h0 a0 a1 a2 a3 a4 a5 cI cZ th bf (va_cpy pw pw fr (k * 64) 32) (upd hs (k * 2) (nb + 1)) lo lg rt (nb + 1) (nI fi) (nI fo) (nI en) off (dcu cu) (ma + 1)) H := hP
      have hD : va_D A (wM h0 a0 a1 a2 a3 a4 a5 cI cZ th bf (va_cpy pw pw fr (k * 64) 32) (upd hs (k * 2) (nb + 1)) lo lg rt (nb + 1) (nI fi) (nI fo) (nI en) off (dcu cu) (ma + 1)) := hD
      refine n_iinc (lv' := [(5, .int (nI 1)), (0, .ref h0), (1, .int (nI k)), (2, .int (nI fr)), (3, .int 0), (4, .int (nb + 1)), (6, .int (nI 32))]) hx hb dX1_writePage_108 hl (k := 5) rfl (by decide) rfl (fun ls hl => ?_)
      refine lv_goto (tgt := 19) hx hb dX1_writePage_111 (by decide) ?_
      refine lv_iload hx hb dX1_writePage_19 (lv_at hl 0 rfl) ?_
      refine lv_iconst (v := (nI 2)) hx hb dX1_writePage_21 (by decide) ?_
      refine n_ge (tgt := 114) hx hb (by omega) (by omega) dX1_writePage_22 (by decide) (fun c_22 => absurd c_22 (by omega)) (fun c_22 => ?_)
      refine lv_aload_n hx hb dX1_writePage_25 rfl (lv_at hl 1 rfl) ?_
      refine k_I (wr := []) hP hD hS hA (va_runV (As := []) (rest := []) ⟨hx, hb, hml, hown, hts⟩ ((tX1_canWrite_cut th bf (va_cpy pw pw fr (k * 64) 32) (upd hs (k * 2) (nb + 1)) lo lg rt (nb + 1) fi fo en off (dcu cu) (ma + 1) h1) _) (cwV 0 hts gX1_writePage_X1_canWrite rfl rfl rfl (by decide +kernel) ⟨Nat.le_of_ble_eq_true rfl, Nat.le_of_ble_eq_true rfl⟩) (pV_B hP hD hK (ci := 1) (q0 := 0) rfl rfl rfl [0, 1] rfl [0, 1, 2, 3, 4, 5, 6] rfl rfl) rfl rfl hl.1 rfl (lv_room (Nat.le_of_ble_eq_true rfl)) dX1_writePage_26 ⟨Nat.le_of_ble_eq_true rfl, Nat.le_of_ble_eq_true rfl⟩) [0, 1, 2, 3, 4, 5, 6] [] rfl rfl rfl (by decide) (fun H locs hP hD hS => ?_)
      have hP : va_P D vwCl (wM h0 a0 a1 a2 a3 a4 a5 cI cZ th (zf bf) (va_cpy pw pw fr (k * 64) 32) (upd hs (k * 2) (nb + 1)) lo lg rt (nb + 1) (nI fi) (nI fo) (nI fo) 1 (dcu cu) (ma + 1)) H := hP
      have hD : va_D A (wM h0 a0 a1 a2 a3 a4 a5 cI cZ th (zf bf) (va_cpy pw pw fr (k * 64) 32) (upd hs (k * 2) (nb + 1)) lo lg rt (nb + 1) (nI fi) (nI fo) (nI fo) 1 (dcu cu) (ma + 1)) := hD
      refine lv_if_ne (tgt := 34) hx hb dX1_writePage_29 (by decide) (fun c_29 => absurd (by decide) c_29) (fun c_29 => ?_)
      refine lv_iconst (v := (-1)) hx hb dX1_writePage_32 (by decide) ?_
      exact e_I hx hb hr hlocks hP hD hS rfl dX1_writePage_33
    | succ n9 ih =>
      intro i hi H locs ls hP hD hS hl
      refine lv_iload hx hb dX1_writePage_41 (lv_at hl 6 rfl) ?_
      refine lv_bipush (v := (nI 32)) hx hb dX1_writePage_43 (by decide) ?_
      refine lv_iload hx hb dX1_writePage_45 (lv_at hl 5 rfl) ?_
      refine n_imul hx hb dX1_writePage_47 ?_
      refine lv_bipush (v := (nI 32)) hx hb dX1_writePage_48 (by decide) ?_
      refine n_iadd hx hb dX1_writePage_50 ?_
      refine n_ge (tgt := 95) hx hb (by omega) (by omega) dX1_writePage_51 (by decide) (fun c_51 => absurd c_51 (by omega)) (fun c_51 => ?_)
      refine lv_aload_n hx hb dX1_writePage_54 rfl (lv_at hl 0 rfl) ?_
      refine va_get (ci := 1) (v := .ref a1) (C := RX1) (T := TX1) (N := 14) hx hb hts inX1_writePage hown hK hP 0 rfl rfl 1 (by decide) (hts _ flX1_writePage_8) (fun _ h9 => h9) rfl dX1_writePage_55 ?_
      refine lv_bipush (v := (nI 64)) hx hb dX1_writePage_58 (by decide) ?_
      refine lv_iload_n hx hb dX1_writePage_60 rfl (lv_at hl 1 rfl) ?_
      refine n_imulc hx hb dX1_writePage_61 ?_
      refine lv_iload hx hb dX1_writePage_62 (lv_at hl 6 rfl) ?_
      refine n_iadd hx hb dX1_writePage_64 ?_
      refine lv_iload_n hx hb dX1_writePage_65 rfl (lv_at hl 3 rfl) ?_
      refine lv_if_eq (tgt := 79) hx hb dX1_writePage_66 (by decide) (fun c_66 => ?_) (fun c_66 => absurd (by decide) c_66)
      refine lv_aload_n hx hb dX1_writePage_79 rfl (lv_at hl 0 rfl) ?_
      refine va_get (ci := 1) (v := .ref a1) (C := RX1) (T := TX1) (N := 14) hx hb hts inX1_writePage hown hK hP 0 rfl rfl 1 (by decide) (hts _ flX1_writePage_8) (fun _ h9 => h9) rfl dX1_writePage_80 ?_
      refine lv_iload_n hx hb dX1_writePage_83 rfl (lv_at hl 2 rfl) ?_
      refine lv_iload hx hb dX1_writePage_84 (lv_at hl 6 rfl) ?_
      refine n_iadd hx hb dX1_writePage_86 ?_
      refine n_iald hx hb hK hP 2 0 rfl rfl (fr + i) (by omega) (by omega) dX1_writePage_87 ?_
      refine n_iast hx hb hK hP hD hS 2 0 rfl rfl ((k * 64) + i) (by omega) (by omega) dX1_writePage_88 (fun H locs hP hD hS => ?_)
      have hP : va_P D vwCl (wM h0 a0 a1 a2 a3 a4 a5 cI cZ th bf (upd (va_cpy pw pw fr (k * 64) i) ((k * 64) + i) ((va_cpy pw pw fr (k * 64) i) (fr + i))) hs lo lg rt (nb + 1) (nI fi) (nI fo) (nI en) off (dcu cu) (ma + 1)) H := hP
      have hD : va_D A (wM h0 a0 a1 a2 a3 a4 a5 cI cZ th bf (upd (va_cpy pw pw fr (k * 64) i) ((k * 64) + i) ((va_cpy pw pw fr (k * 64) i) (fr + i))) hs lo lg rt (nb + 1) (nI fi) (nI fo) (nI en) off (dcu cu) (ma + 1)) := hD
      refine n_iinc (lv' := [(6, .int (nI (i + 1))), (0, .ref h0), (1, .int (nI k)), (2, .int (nI fr)), (3, .int 0), (4, .int (nb + 1)), (5, .int (nI 0))]) hx hb dX1_writePage_89 hl (k := 6) rfl (by decide) rfl (fun ls hl => ?_)
      refine lv_goto (tgt := 41) hx hb dX1_writePage_92 (by decide) ?_
      have e9 : upd (va_cpy pw pw fr (k * 64) i) ((k * 64) + i) ((va_cpy pw pw fr (k * 64) i) (fr + i)) = va_cpy pw pw fr (k * 64) (i + 1) := cpy_t (by omega) (pk_cpy_out (by omega))
      have hP : va_P D vwCl (wM h0 a0 a1 a2 a3 a4 a5 cI cZ th bf (va_cpy pw pw fr (k * 64) (i + 1)) hs lo lg rt (nb + 1) (nI fi) (nI fo) (nI en) off (dcu cu) (ma + 1)) H := by rw [← e9]; exact hP
      have hD : va_D A (wM h0 a0 a1 a2 a3 a4 a5 cI cZ th bf (va_cpy pw pw fr (k * 64) (i + 1)) hs lo lg rt (nb + 1) (nI fi) (nI fo) (nI en) off (dcu cu) (ma + 1)) := by rw [← e9]; exact hD
      exact ih (i + 1) (by omega) _ _ _ hP hD hS (lv_sub hl [1, 2, 3, 4, 5, 6, 0] rfl)
  have hP : va_P D vwCl (wM h0 a0 a1 a2 a3 a4 a5 cI cZ th bf (va_cpy pw pw fr (k * 64) 0) hs lo lg rt (nb + 1) (nI fi) (nI fo) (nI en) off (dcu cu) (ma + 1)) H := by rw [cpy_0]; exact hP
  have hD : va_D A (wM h0 a0 a1 a2 a3 a4 a5 cI cZ th bf (va_cpy pw pw fr (k * 64) 0) hs lo lg rt (nb + 1) (nI fi) (nI fo) (nI en) off (dcu cu) (ma + 1)) := by rw [cpy_0]; exact hD
  exact lp_41 32 0 (by omega) _ _ _ hP hD hS (lv_sub hl [3, 4, 5, 6, 2, 1, 0] rfl)
set_option maxHeartbeats 4000000 in
set_option maxRecDepth 100000 in
theorem tX1_writePage_p2 {l : Launch} {D : va_G} {cI cZ : ClassId} {h0 a0 a1 a2 a3 a4 a5 : Nat} (th : Int32) (bf pw hs lo lg rt : Nat → Int32) (nb : Int32) (fi fo en : Nat) (off cu ma : Int32) (k : Nat) (hk : k < 512) (fr : Nat) (hfr : fr + 64 ≤ 32768) (hdis : fr + 64 ≤ k * 64 ∨ k * 64 + 64 ≤ fr) (hn : -1 ≤ cu) (h : ¬ cu = 0) (h1 : ¬ dcu cu = 0) : RI l yX1_writePage wsX1_writePage 3 0 0 D (tyC cI cZ) (wM h0 a0 a1 a2 a3 a4 a5 cI cZ th bf pw hs lo lg rt nb (nI fi) (nI fo) (nI en) off cu ma) [.ref h0, .int (nI k), .int (nI fr), .int 0] (nb + 1) (wM h0 a0 a1 a2 a3 a4 a5 cI cZ th bf (va_cpy (va_cpy pw pw fr (k * 64) 32) (va_cpy pw pw fr (k * 64) 32) (fr + 32) (k * 64 + 32) 32) (upd (upd hs (k * 2) (nb + 1)) (k * 2 + 1) (nb + 1)) (upd lo k 0) lg rt (nb + 1) (nI fi) (nI fo) (nI en) off (dcu (dcu cu)) (ma + 1 + 1)) := by
  refine st_I (cc := cX1_writePage) (maxL := 7) (ret := (some .int)) (by decide +kernel) rfl (Nat.le_of_ble_eq_true rfl) ?_
  intro p e s m below meth c A hx hb hr hts hown hml hlocks hK hP hD hA hS ls hl
  have hown : s.vm.findClass RX1 = some m.cls := hown
  have hl : lv_has ls 7 [(0, .ref h0), (1, .int (nI k)), (2, .int (nI fr)), (3, .int 0)] := hl
  refine lv_aload_n hx hb dX1_writePage_0 rfl (lv_at hl 0 rfl) ?_
  refine lv_dup hx hb dX1_writePage_1 rfl ?_
  refine va_get (ci := 1) (v := .int nb) (C := RX1) (T := TX1) (N := 14) hx hb hts inX1_writePage hown hK hP 0 rfl rfl 10 (by decide) (hts _ flX1_writePage_69) (fun _ h9 => h9) rfl dX1_writePage_2 ?_
  refine lv_iconst (v := (1)) hx hb dX1_writePage_5 (by decide) ?_
  refine lv_iadd hx hb dX1_writePage_6 ?_
  refine va_put (ci := 1) (v := .int (nb + 1)) (ty := .int) (C := RX1) (T := TX1) (N := 14) hx hb hts inX1_writePage tyX1 tyX1_ok nmX1 hown hK hP hD hS 0 rfl rfl 10 (by decide) (hts _ flX1_writePage_69) (fun _ h9 => h9) rfl (by decide +kernel) rfl rfl (Nat.le_of_ble_eq_true rfl) dX1_writePage_7 (fun H locs hP hD hS => ?_)
  have hP : va_P D vwCl (wM h0 a0 a1 a2 a3 a4 a5 cI cZ th bf pw hs lo lg rt (nb + 1) (nI fi) (nI fo) (nI en) off cu ma) H := hP
  have hD : va_D A (wM h0 a0 a1 a2 a3 a4 a5 cI cZ th bf pw hs lo lg rt (nb + 1) (nI fi) (nI fo) (nI en) off cu ma) := hD
  refine lv_aload_n hx hb dX1_writePage_10 rfl (lv_at hl 0 rfl) ?_
  refine va_get (ci := 1) (v := .int (nb + 1)) (C := RX1) (T := TX1) (N := 14) hx hb hts inX1_writePage hown hK hP 0 rfl rfl 10 (by decide) (hts _ flX1_writePage_69) (fun _ h9 => h9) rfl dX1_writePage_11 ?_
  refine lv_istore (lv' := [(4, .int (nb + 1)), (0, .ref h0), (1, .int (nI k)), (2, .int (nI fr)), (3, .int 0)]) hx hb dX1_writePage_14 hl (by decide) rfl (fun ls hl => ?_)
  refine lv_iconst (v := (nI 0)) hx hb dX1_writePage_16 (by decide) ?_
  refine lv_istore (lv' := [(5, .int (nI 0)), (4, .int (nb + 1)), (0, .ref h0), (1, .int (nI k)), (2, .int (nI fr)), (3, .int 0)]) hx hb dX1_writePage_17 hl (by decide) rfl (fun ls hl => ?_)
  refine lv_iload hx hb dX1_writePage_19 (lv_at hl 0 rfl) ?_
  refine lv_iconst (v := (nI 2)) hx hb dX1_writePage_21 (by decide) ?_
  refine n_ge (tgt := 114) hx hb (by omega) (by omega) dX1_writePage_22 (by decide) (fun c_22 => absurd c_22 (by omega)) (fun c_22 => ?_)
  refine lv_aload_n hx hb dX1_writePage_25 rfl (lv_at hl 2 rfl) ?_
  refine k_I (wr := []) hP hD hS hA (va_runV (As := []) (rest := []) ⟨hx, hb, hml, hown, hts⟩ ((tX1_canWrite_ok th bf pw hs lo lg rt (nb + 1) fi fo en off cu ma h hn) _) (cwV 0 hts gX1_writePage_X1_canWrite rfl rfl rfl (by decide +kernel) ⟨Nat.le_of_ble_eq_true rfl, Nat.le_of_ble_eq_true rfl⟩) (pV_B hP hD hK (ci := 1) (q0 := 0) rfl rfl rfl [0, 1] rfl [0, 1, 2, 3, 4, 5, 6] rfl rfl) rfl rfl hl.1 rfl (lv_room (Nat.le_of_ble_eq_true rfl)) dX1_writePage_26 ⟨Nat.le_of_ble_eq_true rfl, Nat.le_of_ble_eq_true rfl⟩) [0, 1, 2, 3, 4, 5, 6] [] rfl rfl rfl (by decide) (fun H locs hP hD hS => ?_)
  have hP : va_P D vwCl (wM h0 a0 a1 a2 a3 a4 a5 cI cZ th bf pw hs lo lg rt (nb + 1) (nI fi) (nI fo) (nI en) off (dcu cu) (ma + 1)) H := hP
  have hD : va_D A (wM h0 a0 a1 a2 a3 a4 a5 cI cZ th bf pw hs lo lg rt (nb + 1) (nI fi) (nI fo) (nI en) off (dcu cu) (ma + 1)) := hD
  refine lv_if_ne (tgt := 34) hx hb dX1_writePage_29 (by decide) (fun c_29 => ?_) (fun c_29 => absurd c_29 (by decide))
  refine lv_bipush (v := (nI 32)) hx hb dX1_writePage_34 (by decide) ?_
  refine lv_iload hx hb dX1_writePage_36 (lv_at hl 0 rfl) ?_
  refine n_imul hx hb dX1_writePage_38 ?_
  refine lv_istore (lv' := [(6, .int (nI 0)), (5, .int (nI 0)), (4, .int (nb + 1)), (0, .ref h0), (1, .int (nI k)), (2, .int (nI fr)), (3, .int 0)]) hx hb dX1_writePage_39 hl (by decide) rfl (fun ls hl => ?_)
  have lp_41 : ∀ (n9 i : Nat), i + n9 = 32 → ∀ (H : Heap) (locs : List Loc) (ls : Array Slot), va_P D vwCl (wM h0 a0 a1 a2 a3 a4 a5 cI cZ th bf (va_cpy pw pw fr (k * 64) i) hs lo lg rt (nb + 1) (nI fi) (nI fo) (nI en) off (dcu cu) (ma + 1)) H → va_D A (wM h0 a0 a1 a2 a3 a4 a5 cI cZ th bf (va_cpy pw pw fr (k * 64) i) hs lo lg rt (nb + 1) (nI fi) (nI fo) (nI en) off (dcu cu) (ma + 1)) → va_S A s.heap H locs → lv_has ls 7 [(0, .ref h0), (1, .int (nI k)), (2, .int (nI fr)), (3, .int 0), (4, .int (nb + 1)), (5, .int (nI 0)), (6, .int (nI i))] → W p l e (rmL 3 0 0) s m ([.ref h0, .int (nI k), .int (nI fr), .int 0] : List Value).toArray below meth c H locs 0 0 (MQ below (qcI D A (nb + 1) (wM h0 a0 a1 a2 a3 a4 a5 cI cZ th bf (va_cpy (va_cpy pw pw fr (k * 64) 32) (va_cpy pw pw fr (k * 64) 32) (fr + 32) (k * 64 + 32) 32) (upd (upd hs (k * 2) (nb + 1)) (k * 2 + 1) (nb + 1)) (upd lo k 0) lg rt (nb + 1) (nI fi) (nI fo) (nI en) off (dcu (dcu cu)) (ma + 1 + 1))) ([.ref h0, .int (nI k), .int (nI fr), .int 0] : List Value).toArray s 0 0 A) (F0 m 41 ls []) := by
    intro n9
    induction n9 with
    | zero =>
      intro i hi H locs ls hP hD hS hl
      obtain rfl : i = 32 := by omega
      refine lv_iload hx hb dX1_writePage_41 (lv_at hl 6 rfl) ?_
      refine lv_bipush (v := (nI 32)) hx hb dX1_writePage_43 (by decide) ?_
      refine lv_iload hx hb dX1_writePage_45 (lv_at hl 5 rfl) ?_
      refine n_imul hx hb dX1_writePage_47 ?_
      refine lv_bipush (v := (nI 32)) hx hb dX1_writePage_48 (by decide) ?_
      refine n_iadd hx hb dX1_writePage_50 ?_
      refine n_ge (tgt := 95) hx hb (by omega) (by omega) dX1_writePage_51 (by decide) (fun c_51 => ?_) (fun c_51 => absurd c_51 (by omega))
      refine lv_aload_n hx hb dX1_writePage_95 rfl (lv_at hl 0 rfl) ?_
      refine va_get (ci := 1) (v := .ref a2) (C := RX1) (T := TX1) (N := 14) hx hb hts inX1_writePage hown hK hP 0 rfl rfl 2 (by decide) (hts _ flX1_writePage_14) (fun _ h9 => h9) rfl dX1_writePage_96 ?_
      refine lv_iconst (v := (nI 2)) hx hb dX1_writePage_99 (by decide) ?_
      refine lv_iload_n hx hb dX1_writePage_100 rfl (lv_at hl 1 rfl) ?_
      refine n_imulc hx hb dX1_writePage_101 ?_
      refine lv_iload hx hb dX1_writePage_102 (lv_at hl 5 rfl) ?_
      refine n_iadd hx hb dX1_writePage_104 ?_
      refine lv_iload hx hb dX1_writePage_105 (lv_at hl 4 rfl) ?_
      refine n_iast hx hb hK hP hD hS 3 0 rfl rfl (k * 2) (by omega) (by omega) dX1_writePage_107 (fun H locs hP hD hS => ?_)
      have hP : va_P D vwCl (wM h0 a0 a1 a2 a3 a4 a5 cI cZ th bf (va_cpy pw pw fr (k * 64) 32) (upd hs (k * 2) (nb + 1)) lo lg rt (nb + 1) (nI fi) (nI fo) (nI en) off (dcu cu) (ma + 1)) H := hP
      have hD : va_D A (wM h0 a0 a1 a2 a3 a4 a5 cI cZ th bf (va_cpy pw pw fr (k * 64) 32) (upd hs (k * 2) (nb + 1)) lo lg rt (nb + 1) (nI fi) (nI fo) (nI en) off (dcu cu) (ma + 1)) := hD
      refine n_iinc (lv' := [(5, .int (nI 1)), (0, .ref h0), (1, .int (nI k)), (2, .int (nI fr)), (3, .int 0), (4, .int (nb + 1)), (6, .int (nI 32))]) hx hb dX1_writePage_108 hl (k := 5) rfl (by decide) rfl (fun ls hl => ?_)
      refine lv_goto (tgt := 19) hx hb dX1_writePage_111 (by decide) ?_
      refine lv_iload hx hb dX1_writePage_19 (lv_at hl 0 rfl) ?_
      refine lv_iconst (v := (nI 2)) hx hb dX1_writePage_21 (by decide) ?_
      refine n_ge (tgt := 114) hx hb (by omega) (by omega) dX1_writePage_22 (by decide) (fun c_22 => absurd c_22 (by omega)) (fun c_22 => ?_)
      refine lv_aload_n hx hb dX1_writePage_25 rfl (lv_at hl 1 rfl) ?_
      refine k_I (wr := []) hP hD hS hA (va_runV (As := []) (rest := []) ⟨hx, hb, hml, hown, hts⟩ ((tX1_canWrite_ok th bf (va_cpy pw pw fr (k * 64) 32) (upd hs (k * 2) (nb + 1)) lo lg rt (nb + 1) fi fo en off (dcu cu) (ma + 1) h1 (dcu_ge h hn)) _) (cwV 0 hts gX1_writePage_X1_canWrite rfl rfl rfl (by decide +kernel) ⟨Nat.le_of_ble_eq_true rfl, Nat.le_of_ble_eq_true rfl⟩) (pV_B hP hD hK (ci := 1) (q0 := 0) rfl rfl rfl [0, 1] rfl [0, 1, 2, 3, 4, 5, 6] rfl rfl) rfl rfl hl.1 rfl (lv_room (Nat.le_of_ble_eq_true rfl)) dX1_writePage_26 ⟨Nat.le_of_ble_eq_true rfl, Nat.le_of_ble_eq_true rfl⟩) [0, 1, 2, 3, 4, 5, 6] [] rfl rfl rfl (by decide) (fun H locs hP hD hS => ?_)
      have hP : va_P D vwCl (wM h0 a0 a1 a2 a3 a4 a5 cI cZ th bf (va_cpy pw pw fr (k * 64) 32) (upd hs (k * 2) (nb + 1)) lo lg rt (nb + 1) (nI fi) (nI fo) (nI en) off (dcu (dcu cu)) (ma + 1 + 1)) H := hP
      have hD : va_D A (wM h0 a0 a1 a2 a3 a4 a5 cI cZ th bf (va_cpy pw pw fr (k * 64) 32) (upd hs (k * 2) (nb + 1)) lo lg rt (nb + 1) (nI fi) (nI fo) (nI en) off (dcu (dcu cu)) (ma + 1 + 1)) := hD
      refine lv_if_ne (tgt := 34) hx hb dX1_writePage_29 (by decide) (fun c_29 => ?_) (fun c_29 => absurd c_29 (by decide))
      refine lv_bipush (v := (nI 32)) hx hb dX1_writePage_34 (by decide) ?_
      refine lv_iload hx hb dX1_writePage_36 (lv_at hl 0 rfl) ?_
      refine n_imul hx hb dX1_writePage_38 ?_
      refine lv_istore (lv' := [(6, .int (nI 32)), (5, .int (nI 1)), (0, .ref h0), (1, .int (nI k)), (2, .int (nI fr)), (3, .int 0), (4, .int (nb + 1))]) hx hb dX1_writePage_39 hl (by decide) rfl (fun ls hl => ?_)
      have lp_41 : ∀ (n9 i : Nat), i + n9 = 32 → ∀ (H : Heap) (locs : List Loc) (ls : Array Slot), va_P D vwCl (wM h0 a0 a1 a2 a3 a4 a5 cI cZ th bf (va_cpy (va_cpy pw pw fr (k * 64) 32) (va_cpy pw pw fr (k * 64) 32) (fr + 32) (k * 64 + 32) i) (upd hs (k * 2) (nb + 1)) lo lg rt (nb + 1) (nI fi) (nI fo) (nI en) off (dcu (dcu cu)) (ma + 1 + 1)) H → va_D A (wM h0 a0 a1 a2 a3 a4 a5 cI cZ th bf (va_cpy (va_cpy pw pw fr (k * 64) 32) (va_cpy pw pw fr (k * 64) 32) (fr + 32) (k * 64 + 32) i) (upd hs (k * 2) (nb + 1)) lo lg rt (nb + 1) (nI fi) (nI fo) (nI en) off (dcu (dcu cu)) (ma + 1 + 1)) → va_S A s.heap H locs → lv_has ls 7 [(0, .ref h0), (1, .int (nI k)), (2, .int (nI fr)), (3, .int 0), (4, .int (nb + 1)), (5, .int (nI 1)), (6, .int (nI (32 + i)))] → W p l e (rmL 3 0 0) s m ([.ref h0, .int (nI k), .int (nI fr), .int 0] : List Value).toArray below meth c H locs 0 0 (MQ below (qcI D A (nb + 1) (wM h0 a0 a1 a2 a3 a4 a5 cI cZ th bf (va_cpy (va_cpy pw pw fr (k * 64) 32) (va_cpy pw pw fr (k * 64) 32) (fr + 32) (k * 64 + 32) 32) (upd (upd hs (k * 2) (nb + 1)) (k * 2 + 1) (nb + 1)) (upd lo k 0) lg rt (nb + 1) (nI fi) (nI fo) (nI en) off (dcu (dcu cu)) (ma + 1 + 1))) ([.ref h0, .int (nI k), .int (nI fr), .int 0] : List Value).toArray s 0 0 A) (F0 m 41 ls []) := by
        intro n9
        induction n9 with
        | zero =>
          intro i hi H locs ls hP hD hS hl
          obtain rfl : i = 32 := by omega
          refine lv_iload hx hb dX1_writePage_41 (lv_at hl 6 rfl) ?_
          refine lv_bipush (v := (nI 32)) hx hb dX1_writePage_43 (by decide) ?_
          refine lv_iload hx hb dX1_writePage_45 (lv_at hl 5 rfl) ?_
          refine n_imul hx hb dX1_writePage_47 ?_
          refine lv_bipush (v := (nI 32)) hx hb dX1_writePage_48 (by decide) ?_
          refine n_iadd hx hb dX1_writePage_50 ?_
          refine n_ge (tgt := 95) hx hb (by omega) (by omega) dX1_writePage_51 (by decide) (fun c_51 => ?_) (fun c_51 => absurd c_51 (by omega))
          refine lv_aload_n hx hb dX1_writePage_95 rfl (lv_at hl 0 rfl) ?_
          refine va_get (ci := 1) (v := .ref a2) (C := RX1) (T := TX1) (N := 14) hx hb hts inX1_writePage hown hK hP 0 rfl rfl 2 (by decide) (hts _ flX1_writePage_14) (fun _ h9 => h9) rfl dX1_writePage_96 ?_
          refine lv_iconst (v := (nI 2)) hx hb dX1_writePage_99 (by decide) ?_
          refine lv_iload_n hx hb dX1_writePage_100 rfl (lv_at hl 1 rfl) ?_
          refine n_imulc hx hb dX1_writePage_101 ?_
          refine lv_iload hx hb dX1_writePage_102 (lv_at hl 5 rfl) ?_
          refine n_iadd hx hb dX1_writePage_104 ?_
          refine lv_iload hx hb dX1_writePage_105 (lv_at hl 4 rfl) ?_
          refine n_iast hx hb hK hP hD hS 3 0 rfl rfl ((k * 2) + 1) (by omega) (by omega) dX1_writePage_107 (fun H locs hP hD hS => ?_)
          have hP : va_P D vwCl (wM h0 a0 a1 a2 a3 a4 a5 cI cZ th bf (va_cpy (va_cpy pw pw fr (k * 64) 32) (va_cpy pw pw fr (k * 64) 32) (fr + 32) (k * 64 + 32) 32) (upd (upd hs (k * 2) (nb + 1)) ((k * 2) + 1) (nb + 1)) lo lg rt (nb + 1) (nI fi) (nI fo) (nI en) off (dcu (dcu cu)) (ma + 1 + 1)) H := hP
          have hD : va_D A (wM h0 a0 a1 a2 a3 a4 a5 cI cZ th bf (va_cpy (va_cpy pw pw fr (k * 64) 32) (va_cpy pw pw fr (k * 64) 32) (fr + 32) (k * 64 + 32) 32) (upd (upd hs (k * 2) (nb + 1)) ((k * 2) + 1) (nb + 1)) lo lg rt (nb + 1) (nI fi) (nI fo) (nI en) off (dcu (dcu cu)) (ma + 1 + 1)) := hD
          refine n_iinc (lv' := [(5, .int (nI 2)), (0, .ref h0), (1, .int (nI k)), (2, .int (nI fr)), (3, .int 0), (4, .int (nb + 1)), (6, .int (nI 64))]) hx hb dX1_writePage_108 hl (k := 5) rfl (by decide) rfl (fun ls hl => ?_)
          refine lv_goto (tgt := 19) hx hb dX1_writePage_111 (by decide) ?_
          refine lv_iload hx hb dX1_writePage_19 (lv_at hl 0 rfl) ?_
          refine lv_iconst (v := (nI 2)) hx hb dX1_writePage_21 (by decide) ?_
          refine n_ge (tgt := 114) hx hb (by omega) (by omega) dX1_writePage_22 (by decide) (fun c_22 => ?_) (fun c_22 => absurd c_22 (by omega))
          refine lv_aload_n hx hb dX1_writePage_114 rfl (lv_at hl 1 rfl) ?_
          refine va_get (ci := 1) (v := .ref a3) (C := RX1) (T := TX1) (N := 14) hx hb hts inX1_writePage hown hK hP 0 rfl rfl 3 (by decide) (hts _ flX1_writePage_17) (fun _ h9 => h9) rfl dX1_writePage_115 ?_
          refine lv_iload_n hx hb dX1_writePage_118 rfl (lv_at hl 2 rfl) ?_
          refine lv_iconst (v := (0)) hx hb dX1_writePage_119 (by decide) ?_
          refine n_zast hx hb hK hP hD hS 4 1 rfl rfl k (by omega) (by omega) (by decide) dX1_writePage_120 (fun H locs hP hD hS => ?_)
          have hP : va_P D vwCl (wM h0 a0 a1 a2 a3 a4 a5 cI cZ th bf (va_cpy (va_cpy pw pw fr (k * 64) 32) (va_cpy pw pw fr (k * 64) 32) (fr + 32) (k * 64 + 32) 32) (upd (upd hs (k * 2) (nb + 1)) ((k * 2) + 1) (nb + 1)) (upd lo k 0) lg rt (nb + 1) (nI fi) (nI fo) (nI en) off (dcu (dcu cu)) (ma + 1 + 1)) H := hP
          have hD : va_D A (wM h0 a0 a1 a2 a3 a4 a5 cI cZ th bf (va_cpy (va_cpy pw pw fr (k * 64) 32) (va_cpy pw pw fr (k * 64) 32) (fr + 32) (k * 64 + 32) 32) (upd (upd hs (k * 2) (nb + 1)) ((k * 2) + 1) (nb + 1)) (upd lo k 0) lg rt (nb + 1) (nI fi) (nI fo) (nI en) off (dcu (dcu cu)) (ma + 1 + 1)) := hD
          refine lv_iload hx hb dX1_writePage_121 (lv_at hl 5 rfl) ?_
          exact e_I hx hb hr hlocks hP hD hS rfl dX1_writePage_123
        | succ n9 ih =>
          intro i hi H locs ls hP hD hS hl
          refine lv_iload hx hb dX1_writePage_41 (lv_at hl 6 rfl) ?_
          refine lv_bipush (v := (nI 32)) hx hb dX1_writePage_43 (by decide) ?_
          refine lv_iload hx hb dX1_writePage_45 (lv_at hl 5 rfl) ?_
          refine n_imul hx hb dX1_writePage_47 ?_
          refine lv_bipush (v := (nI 32)) hx hb dX1_writePage_48 (by decide) ?_
          refine n_iadd hx hb dX1_writePage_50 ?_
          refine n_ge (tgt := 95) hx hb (by omega) (by omega) dX1_writePage_51 (by decide) (fun c_51 => absurd c_51 (by omega)) (fun c_51 => ?_)
          refine lv_aload_n hx hb dX1_writePage_54 rfl (lv_at hl 0 rfl) ?_
          refine va_get (ci := 1) (v := .ref a1) (C := RX1) (T := TX1) (N := 14) hx hb hts inX1_writePage hown hK hP 0 rfl rfl 1 (by decide) (hts _ flX1_writePage_8) (fun _ h9 => h9) rfl dX1_writePage_55 ?_
          refine lv_bipush (v := (nI 64)) hx hb dX1_writePage_58 (by decide) ?_
          refine lv_iload_n hx hb dX1_writePage_60 rfl (lv_at hl 1 rfl) ?_
          refine n_imulc hx hb dX1_writePage_61 ?_
          refine lv_iload hx hb dX1_writePage_62 (lv_at hl 6 rfl) ?_
          refine n_iadd hx hb dX1_writePage_64 ?_
          refine lv_iload_n hx hb dX1_writePage_65 rfl (lv_at hl 3 rfl) ?_
          refine lv_if_eq (tgt := 79) hx hb dX1_writePage_66 (by decide) (fun c_66 => ?_) (fun c_66 => absurd (by decide) c_66)
          refine lv_aload_n hx hb dX1_writePage_79 rfl (lv_at hl 0 rfl) ?_
          refine va_get (ci := 1) (v := .ref a1) (C := RX1) (T := TX1) (N := 14) hx hb hts inX1_writePage hown hK hP 0 rfl rfl 1 (by decide) (hts _ flX1_writePage_8) (fun _ h9 => h9) rfl dX1_writePage_80 ?_
          refine lv_iload_n hx hb dX1_writePage_83 rfl (lv_at hl 2 rfl) ?_
          refine lv_iload hx hb dX1_writePage_84 (lv_at hl 6 rfl) ?_
          refine n_iadd hx hb dX1_writePage_86 ?_
          refine n_iald hx hb hK hP 2 0 rfl rfl (fr + (32 + i)) (by omega) (by omega) dX1_writePage_87 ?_
          refine n_iast hx hb hK hP hD hS 2 0 rfl rfl ((k * 64) + (32 + i)) (by omega) (by omega) dX1_writePage_88 (fun H locs hP hD hS => ?_)
          have hP : va_P D vwCl (wM h0 a0 a1 a2 a3 a4 a5 cI cZ th bf (upd (va_cpy (va_cpy pw pw fr (k * 64) 32) (va_cpy pw pw fr (k * 64) 32) (fr + 32) (k * 64 + 32) i) ((k * 64) + (32 + i)) ((va_cpy (va_cpy pw pw fr (k * 64) 32) (va_cpy pw pw fr (k * 64) 32) (fr + 32) (k * 64 + 32) i) (fr + (32 + i)))) (upd hs (k * 2) (nb + 1)) lo lg rt (nb + 1) (nI fi) (nI fo) (nI en) off (dcu (dcu cu)) (ma + 1 + 1)) H := hP
          have hD : va_D A (wM h0 a0 a1 a2 a3 a4 a5 cI cZ th bf (upd (va_cpy (va_cpy pw pw fr (k * 64) 32) (va_cpy pw pw fr (k * 64) 32) (fr + 32) (k * 64 + 32) i) ((k * 64) + (32 + i)) ((va_cpy (va_cpy pw pw fr (k * 64) 32) (va_cpy pw pw fr (k * 64) 32) (fr + 32) (k * 64 + 32) i) (fr + (32 + i)))) (upd hs (k * 2) (nb + 1)) lo lg rt (nb + 1) (nI fi) (nI fo) (nI en) off (dcu (dcu cu)) (ma + 1 + 1)) := hD
          refine n_iinc (lv' := [(6, .int (nI ((32 + i) + 1))), (0, .ref h0), (1, .int (nI k)), (2, .int (nI fr)), (3, .int 0), (4, .int (nb + 1)), (5, .int (nI 1))]) hx hb dX1_writePage_89 hl (k := 6) rfl (by decide) rfl (fun ls hl => ?_)
          refine lv_goto (tgt := 41) hx hb dX1_writePage_92 (by decide) ?_
          have e9 : upd (va_cpy (va_cpy pw pw fr (k * 64) 32) (va_cpy pw pw fr (k * 64) 32) (fr + 32) (k * 64 + 32) i) ((k * 64) + (32 + i)) ((va_cpy (va_cpy pw pw fr (k * 64) 32) (va_cpy pw pw fr (k * 64) 32) (fr + 32) (k * 64 + 32) i) (fr + (32 + i))) = va_cpy (va_cpy pw pw fr (k * 64) 32) (va_cpy pw pw fr (k * 64) 32) (fr + 32) (k * 64 + 32) (i + 1) := cpy_t (by omega) ((pk_cpy_out (by omega)).trans (by rw [show fr + (32 + i) = (fr + 32) + i from by omega]))
          have hP : va_P D vwCl (wM h0 a0 a1 a2 a3 a4 a5 cI cZ th bf (va_cpy (va_cpy pw pw fr (k * 64) 32) (va_cpy pw pw fr (k * 64) 32) (fr + 32) (k * 64 + 32) (i + 1)) (upd hs (k * 2) (nb + 1)) lo lg rt (nb + 1) (nI fi) (nI fo) (nI en) off (dcu (dcu cu)) (ma + 1 + 1)) H := by rw [← e9]; exact hP
          have hD : va_D A (wM h0 a0 a1 a2 a3 a4 a5 cI cZ th bf (va_cpy (va_cpy pw pw fr (k * 64) 32) (va_cpy pw pw fr (k * 64) 32) (fr + 32) (k * 64 + 32) (i + 1)) (upd hs (k * 2) (nb + 1)) lo lg rt (nb + 1) (nI fi) (nI fo) (nI en) off (dcu (dcu cu)) (ma + 1 + 1)) := by rw [← e9]; exact hD
          exact ih (i + 1) (by omega) _ _ _ hP hD hS (lv_sub hl [1, 2, 3, 4, 5, 6, 0] rfl)
      have hP : va_P D vwCl (wM h0 a0 a1 a2 a3 a4 a5 cI cZ th bf (va_cpy (va_cpy pw pw fr (k * 64) 32) (va_cpy pw pw fr (k * 64) 32) (fr + 32) (k * 64 + 32) 0) (upd hs (k * 2) (nb + 1)) lo lg rt (nb + 1) (nI fi) (nI fo) (nI en) off (dcu (dcu cu)) (ma + 1 + 1)) H := by rw [cpy_0]; exact hP
      have hD : va_D A (wM h0 a0 a1 a2 a3 a4 a5 cI cZ th bf (va_cpy (va_cpy pw pw fr (k * 64) 32) (va_cpy pw pw fr (k * 64) 32) (fr + 32) (k * 64 + 32) 0) (upd hs (k * 2) (nb + 1)) lo lg rt (nb + 1) (nI fi) (nI fo) (nI en) off (dcu (dcu cu)) (ma + 1 + 1)) := by rw [cpy_0]; exact hD
      exact lp_41 32 0 (by omega) _ _ _ hP hD hS (lv_sub hl [2, 3, 4, 5, 6, 1, 0] rfl)
    | succ n9 ih =>
      intro i hi H locs ls hP hD hS hl
      refine lv_iload hx hb dX1_writePage_41 (lv_at hl 6 rfl) ?_
      refine lv_bipush (v := (nI 32)) hx hb dX1_writePage_43 (by decide) ?_
      refine lv_iload hx hb dX1_writePage_45 (lv_at hl 5 rfl) ?_
      refine n_imul hx hb dX1_writePage_47 ?_
      refine lv_bipush (v := (nI 32)) hx hb dX1_writePage_48 (by decide) ?_
      refine n_iadd hx hb dX1_writePage_50 ?_
      refine n_ge (tgt := 95) hx hb (by omega) (by omega) dX1_writePage_51 (by decide) (fun c_51 => absurd c_51 (by omega)) (fun c_51 => ?_)
      refine lv_aload_n hx hb dX1_writePage_54 rfl (lv_at hl 0 rfl) ?_
      refine va_get (ci := 1) (v := .ref a1) (C := RX1) (T := TX1) (N := 14) hx hb hts inX1_writePage hown hK hP 0 rfl rfl 1 (by decide) (hts _ flX1_writePage_8) (fun _ h9 => h9) rfl dX1_writePage_55 ?_
      refine lv_bipush (v := (nI 64)) hx hb dX1_writePage_58 (by decide) ?_
      refine lv_iload_n hx hb dX1_writePage_60 rfl (lv_at hl 1 rfl) ?_
      refine n_imulc hx hb dX1_writePage_61 ?_
      refine lv_iload hx hb dX1_writePage_62 (lv_at hl 6 rfl) ?_
      refine n_iadd hx hb dX1_writePage_64 ?_
      refine lv_iload_n hx hb dX1_writePage_65 rfl (lv_at hl 3 rfl) ?_
      refine lv_if_eq (tgt := 79) hx hb dX1_writePage_66 (by decide) (fun c_66 => ?_) (fun c_66 => absurd (by decide) c_66)
      refine lv_aload_n hx hb dX1_writePage_79 rfl (lv_at hl 0 rfl) ?_
      refine va_get (ci := 1) (v := .ref a1) (C := RX1) (T := TX1) (N := 14) hx hb hts inX1_writePage hown hK hP 0 rfl rfl 1 (by decide) (hts _ flX1_writePage_8) (fun _ h9 => h9) rfl dX1_writePage_80 ?_
      refine lv_iload_n hx hb dX1_writePage_83 rfl (lv_at hl 2 rfl) ?_
      refine lv_iload hx hb dX1_writePage_84 (lv_at hl 6 rfl) ?_
      refine n_iadd hx hb dX1_writePage_86 ?_
      refine n_iald hx hb hK hP 2 0 rfl rfl (fr + i) (by omega) (by omega) dX1_writePage_87 ?_
      refine n_iast hx hb hK hP hD hS 2 0 rfl rfl ((k * 64) + i) (by omega) (by omega) dX1_writePage_88 (fun H locs hP hD hS => ?_)
      have hP : va_P D vwCl (wM h0 a0 a1 a2 a3 a4 a5 cI cZ th bf (upd (va_cpy pw pw fr (k * 64) i) ((k * 64) + i) ((va_cpy pw pw fr (k * 64) i) (fr + i))) hs lo lg rt (nb + 1) (nI fi) (nI fo) (nI en) off (dcu cu) (ma + 1)) H := hP
      have hD : va_D A (wM h0 a0 a1 a2 a3 a4 a5 cI cZ th bf (upd (va_cpy pw pw fr (k * 64) i) ((k * 64) + i) ((va_cpy pw pw fr (k * 64) i) (fr + i))) hs lo lg rt (nb + 1) (nI fi) (nI fo) (nI en) off (dcu cu) (ma + 1)) := hD
      refine n_iinc (lv' := [(6, .int (nI (i + 1))), (0, .ref h0), (1, .int (nI k)), (2, .int (nI fr)), (3, .int 0), (4, .int (nb + 1)), (5, .int (nI 0))]) hx hb dX1_writePage_89 hl (k := 6) rfl (by decide) rfl (fun ls hl => ?_)
      refine lv_goto (tgt := 41) hx hb dX1_writePage_92 (by decide) ?_
      have e9 : upd (va_cpy pw pw fr (k * 64) i) ((k * 64) + i) ((va_cpy pw pw fr (k * 64) i) (fr + i)) = va_cpy pw pw fr (k * 64) (i + 1) := cpy_t (by omega) (pk_cpy_out (by omega))
      have hP : va_P D vwCl (wM h0 a0 a1 a2 a3 a4 a5 cI cZ th bf (va_cpy pw pw fr (k * 64) (i + 1)) hs lo lg rt (nb + 1) (nI fi) (nI fo) (nI en) off (dcu cu) (ma + 1)) H := by rw [← e9]; exact hP
      have hD : va_D A (wM h0 a0 a1 a2 a3 a4 a5 cI cZ th bf (va_cpy pw pw fr (k * 64) (i + 1)) hs lo lg rt (nb + 1) (nI fi) (nI fo) (nI en) off (dcu cu) (ma + 1)) := by rw [← e9]; exact hD
      exact ih (i + 1) (by omega) _ _ _ hP hD hS (lv_sub hl [1, 2, 3, 4, 5, 6, 0] rfl)
  have hP : va_P D vwCl (wM h0 a0 a1 a2 a3 a4 a5 cI cZ th bf (va_cpy pw pw fr (k * 64) 0) hs lo lg rt (nb + 1) (nI fi) (nI fo) (nI en) off (dcu cu) (ma + 1)) H := by rw [cpy_0]; exact hP
  have hD : va_D A (wM h0 a0 a1 a2 a3 a4 a5 cI cZ th bf (va_cpy pw pw fr (k * 64) 0) hs lo lg rt (nb + 1) (nI fi) (nI fo) (nI en) off (dcu cu) (ma + 1)) := by rw [cpy_0]; exact hD
  exact lp_41 32 0 (by omega) _ _ _ hP hD hS (lv_sub hl [3, 4, 5, 6, 2, 1, 0] rfl)
end
