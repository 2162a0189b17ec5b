section
-- ===== PART A: goes FIRST, ahead of the names: the tables' words, and 'selects' of the private methods out of them =====
/-- a private method of a class that the tables say can be made, by its rows of tables_1 -/
def lw_okq (q : MethodName × Nat) : Prop := (q.1.cls ≠ "java/lang/invoke/MethodHandle" ∧ q.1.cls ≠ "java/lang/invoke/VarHandle") ∧ Cond.instantiable q.1.cls q.2 ∈ tables_1 ∧ Cond.privateMethod q.1 ∈ tables_1 ∧ Cond.instanceMethod q.1 ∈ tables_1
theorem lw_p0 : lw_okq (⟨"java/lang/Throwable", "fillInStackTrace", "(I)Ljava/lang/Throwable;"⟩, 6) := ⟨⟨by decide +kernel, by decide +kernel⟩, List.mem_of_getElem? (i := 318) (by decide +kernel), List.mem_of_getElem? (i := 316) (by decide +kernel), List.mem_of_getElem? (i := 317) (by decide +kernel)⟩
theorem lw_p1 : lw_okq (⟨"ShaftPlumb$Wire", "meanOfTurns", "()I"⟩, 7) := ⟨⟨by decide +kernel, by decide +kernel⟩, List.mem_of_getElem? (i := 37) (by decide +kernel), List.mem_of_getElem? (i := 411) (by decide +kernel), List.mem_of_getElem? (i := 412) (by decide +kernel)⟩
theorem lw_p2 : lw_okq (⟨"ShaftPlumb$Wire", "greatestDifference", "()I"⟩, 7) := ⟨⟨by decide +kernel, by decide +kernel⟩, List.mem_of_getElem? (i := 37) (by decide +kernel), List.mem_of_getElem? (i := 419) (by decide +kernel), List.mem_of_getElem? (i := 420) (by decide +kernel)⟩
theorem lw_p3 : lw_okq (⟨"ShaftPlumb$Traverse", "layOut", "(LShaftPlumb$Join;)I"⟩, 15) := ⟨⟨by decide +kernel, by decide +kernel⟩, List.mem_of_getElem? (i := 122) (by decide +kernel), List.mem_of_getElem? (i := 456) (by decide +kernel), List.mem_of_getElem? (i := 457) (by decide +kernel)⟩
theorem lw_p4 : lw_okq (⟨"ShaftPlumb", "order", "(CIII)I"⟩, 3) := ⟨⟨by decide +kernel, by decide +kernel⟩, List.mem_of_getElem? (i := 18) (by decide +kernel), List.mem_of_getElem? (i := 495) (by decide +kernel), List.mem_of_getElem? (i := 496) (by decide +kernel)⟩
theorem lw_p5 : lw_okq (⟨"ShaftPlumb", "refusalOf", "(CIII)I"⟩, 3) := ⟨⟨by decide +kernel, by decide +kernel⟩, List.mem_of_getElem? (i := 18) (by decide +kernel), List.mem_of_getElem? (i := 499) (by decide +kernel), List.mem_of_getElem? (i := 500) (by decide +kernel)⟩
theorem lw_p6 : lw_okq (⟨"ShaftPlumb", "carryOut", "(CIII)I"⟩, 3) := ⟨⟨by decide +kernel, by decide +kernel⟩, List.mem_of_getElem? (i := 18) (by decide +kernel), List.mem_of_getElem? (i := 542) (by decide +kernel), List.mem_of_getElem? (i := 543) (by decide +kernel)⟩
theorem lw_p7 : lw_okq (⟨"ShaftPlumb$Traverse", "legsBefore", "(I)I"⟩, 15) := ⟨⟨by decide +kernel, by decide +kernel⟩, List.mem_of_getElem? (i := 122) (by decide +kernel), List.mem_of_getElem? (i := 567) (by decide +kernel), List.mem_of_getElem? (i := 568) (by decide +kernel)⟩
theorem lw_p8 : lw_okq (⟨"ShaftPlumb$Mine", "legsOfAll", "()I"⟩, 7) := ⟨⟨by decide +kernel, by decide +kernel⟩, List.mem_of_getElem? (i := 26) (by decide +kernel), List.mem_of_getElem? (i := 758) (by decide +kernel), List.mem_of_getElem? (i := 759) (by decide +kernel)⟩
theorem lw_p9 : lw_okq (⟨"ShaftPlumb$Mine", "turnsOfAll", "()I"⟩, 7) := ⟨⟨by decide +kernel, by decide +kernel⟩, List.mem_of_getElem? (i := 26) (by decide +kernel), List.mem_of_getElem? (i := 762) (by decide +kernel), List.mem_of_getElem? (i := 763) (by decide +kernel)⟩
theorem lw_p10 : lw_okq (⟨"ShaftPlumb$Traverse", "sumOfLengths", "()I"⟩, 15) := ⟨⟨by decide +kernel, by decide +kernel⟩, List.mem_of_getElem? (i := 122) (by decide +kernel), List.mem_of_getElem? (i := 802) (by decide +kernel), List.mem_of_getElem? (i := 803) (by decide +kernel)⟩
theorem lw_p11 : lw_okq (⟨"ShaftPlumb$Traverse", "numberOfClosing", "(I)I"⟩, 15) := ⟨⟨by decide +kernel, by decide +kernel⟩, List.mem_of_getElem? (i := 122) (by decide +kernel), List.mem_of_getElem? (i := 815) (by decide +kernel), List.mem_of_getElem? (i := 816) (by decide +kernel)⟩
def lw_privs_1 : List (MethodName × Nat) := [(⟨"java/lang/Throwable", "fillInStackTrace", "(I)Ljava/lang/Throwable;"⟩, 6), (⟨"ShaftPlumb$Wire", "meanOfTurns", "()I"⟩, 7), (⟨"ShaftPlumb$Wire", "greatestDifference", "()I"⟩, 7), (⟨"ShaftPlumb$Traverse", "layOut", "(LShaftPlumb$Join;)I"⟩, 15), (⟨"ShaftPlumb", "order", "(CIII)I"⟩, 3), (⟨"ShaftPlumb", "refusalOf", "(CIII)I"⟩, 3), (⟨"ShaftPlumb", "carryOut", "(CIII)I"⟩, 3), (⟨"ShaftPlumb$Traverse", "legsBefore", "(I)I"⟩, 15), (⟨"ShaftPlumb$Mine", "legsOfAll", "()I"⟩, 7), (⟨"ShaftPlumb$Mine", "turnsOfAll", "()I"⟩, 7), (⟨"ShaftPlumb$Traverse", "sumOfLengths", "()I"⟩, 15), (⟨"ShaftPlumb$Traverse", "numberOfClosing", "(I)I"⟩, 15)]
theorem lw_r1 : ∀ q ∈ lw_privs_1, lw_okq q := List.forall_mem_cons.mpr ⟨lw_p0, List.forall_mem_cons.mpr ⟨lw_p1, List.forall_mem_cons.mpr ⟨lw_p2, List.forall_mem_cons.mpr ⟨lw_p3, List.forall_mem_cons.mpr ⟨lw_p4, List.forall_mem_cons.mpr ⟨lw_p5, List.forall_mem_cons.mpr ⟨lw_p6, List.forall_mem_cons.mpr ⟨lw_p7, List.forall_mem_cons.mpr ⟨lw_p8, List.forall_mem_cons.mpr ⟨lw_p9, List.forall_mem_cons.mpr ⟨lw_p10, List.forall_mem_cons.mpr ⟨lw_p11, fun _ h => absurd h List.not_mem_nil⟩⟩⟩⟩⟩⟩⟩⟩⟩⟩⟩⟩
def lw_privs : List (MethodName × Nat) := lw_privs_1
def lw_tbl : List Cond := k2_sels lw_privs ++ tables_1
theorem lw_privs_ok : ∀ q ∈ lw_privs, lw_okq q := lw_r1
-- ===== end of PART A; then your names; then what follows =====
end
section
/-! ===== BEGIN words of one list among another's, by their places ===== -/
theorem goodIn_r {big : List Cond} (ws : List Cond) (ps : List Nat) (hp : ws = ps.filterMap (fun i => big[i]?)) (h : ws.all goodWord = true) : GoodIn big ws := by
  intro w hw
  have h1 := List.all_eq_true.mp h w hw
  rw [hp] at hw
  obtain ⟨i, -, hi⟩ := List.mem_filterMap.mp hw
  have hm : w ∈ big := by first | exact List.mem_of_getElem? hi | exact List.getElem?_mem hi
  exact ⟨hm, good_of_word h1⟩
theorem goodIn_app {big a b : List Cond} (ha : GoodIn big a) (hb : GoodIn big b) : GoodIn big (a ++ b) := fun w h => (List.mem_append.mp h).elim (ha w) (hb w)
theorem goodIn_ca {big a b : List Cond} {c : Cond} (ha : GoodIn big (c :: a)) (hb : GoodIn big b) : GoodIn big (c :: (a ++ b)) := fun w h => (List.mem_cons.mp h).elim (fun e => ha w (List.mem_cons.mpr (Or.inl e))) (fun h => (List.mem_append.mp h).elim (fun h => ha w (List.mem_cons.mpr (Or.inr h))) (hb w))
theorem goodIn_sub {big ws : List Cond} (hm : ∀ w ∈ ws, w ∈ big) (h : ws.all goodWord = true) : GoodIn big ws := fun w hw => ⟨hm w hw, good_of_word (List.all_eq_true.mp h w hw)⟩
/-! ===== END ===== -/

/-! ===== BEGIN exceptions that leave a method, and their catching by the caller (launches without stack traces) ===== -/
section VXA
/-! The laws vx_back, vx_callV, vx_callS, vx_callSW, vx_throw0, vx_throwS follow proofs of the library, with one case more: JvmDerived/Free/Laws.lean (Back.of_free), Shelf42/LK1.lean (callV, callS), Shelf/KitTraced.lean (throwNew0V, throwNewS). -/
/-- where a method has thrown q: the class by its name, the cell, what was written, the world -/
def vx_T (XC : String → State → State → Prop) (st : State) (q : Addr) (t : State) (mc ms : Nat) (free : Addr → Prop) : Prop :=
  ∃ (E : String) (ce : Cell) (L : List Loc), XC E st t ∧ t.heap[q]? = some ce ∧ ce.vm = .none ∧ st.vm.findClass E = some ce.cls ∧ st.WarmedH t.vm ∧ st.sameButNew ({ t with vm := st.vm } : State) L mc ms ∧ ∀ z ∈ L, free z.base
def vx_Q (Qc : Array Value → State → Outcome → State → Prop) (XC : String → State → State → Prop) (mc ms : Nat) (free : Addr → Prop) : Array Value → State → Outcome → State → Prop := fun a st o t =>
  (Qc a st o t ∧ ∃ L, FrameEnd st o t L mc ms ∧ ∀ q ∈ L, free q.base) ∨ ∃ q, o = .threw q ∧ vx_T XC st q t mc ms free
/-- a callee that returns or throws -/
def vx_Met (l : Launch) (y : MethodName) (ws : List Cond) (rm : Room) (Pc : Array Value → State → Prop) (Qc : Array Value → State → Outcome → State → Prop) (XC : String → State → State → Prop) (mc ms : Nat) (free : Addr → Prop) : Prop :=
  MetFree l y (headSpec ws rm) Pc (fun _ _ _ _ _ => True) (vx_Q Qc XC mc ms free)
def vx_Post (XC : String → State → State → Prop) (mc ms : Nat) (free : Addr → Prop) : Pt → Array Value → Addr → Pt → Prop := fun A a q B =>
  ∃ (g : JFrame) (mk : MethodId) (t : State) (L : List Loc) (E : String) (ce : Cell), B.U.heap = t.heap ∧ B.U.vm = t.vm ∧ XC E (A.U.calling g mk a) t ∧ t.heap[q]? = some ce ∧ ce.vm = .none ∧ A.U.vm.findClass E = some ce.cls ∧ B.locs = A.locs ++ L ∧ (∀ z ∈ L, free z.base) ∧ B.cells = A.cells + mc ∧ B.slots = A.slots + ms
def vx_Back (l : Launch) (R : Room) (p : Program) (e : Env) (below : List Frame) (s : State) (sargs : Array Value) (y : MethodName) (len W9 : Nat)
    (Pre : Pt → Array Value → Prop) (Post : Pt → Array Value → Option Value → Pt → Prop) (PostX : Pt → Array Value → Addr → Pt → Prop) : Prop :=
  ∀ (m : MethodId) (meth : Method) (c : Code) (A : Pt) (g : JFrame) (ig : Instr) (mk : MethodId) (a : Array Value),
    Stand p l e R s m sargs below meth c A.U A.locs A.cells A.slots → g.method = m → g.locals.size = c.maxLocals → decode c.code g.pc = .ok (ig, len) →
    2 * g.monitorRoom + (g.stack.map fun v => v.category).sum ≤ W9 → A.U.methodNamed? y = some mk → Pre A a →
    (∃ (v : Option Value) (B : Pt), Stand p l e R s m sargs below meth c B.U B.locs B.cells B.slots ∧ Post A a v B ∧
      Steps p.tables e below (doInvoke e (A.U.setTop g) [] mk a).1 (B.U.setTop { g with pc := g.pc + len, stack := v.toList ++ g.stack })) ∨
    (∃ (q : Addr) (B : Pt), Stand p l e R s m sargs below meth c B.U B.locs B.cells B.slots ∧ PostX A a q B ∧
      Steps p.tables e below (doInvoke e (A.U.setTop g) [] mk a).1 ((B.U.setTop g).pushFrame (.throwing q)))
section Payer
variable {l : Launch} {R : Room} {p : Program} {e : Env} {below : List Frame} {s : State} {sargs : Array Value} {y : MethodName} {len W9 : Nat}
theorem vx_back {ws : List Cond} {rm : Room} {Pc : Array Value → State → Prop} {Qc : Array Value → State → Outcome → State → Prop} {XC : String → State → State → Prop} {mc ms : Nat} {free : Addr → Prop} {bytes : ByteArray} {maxL : Nat} {ret : Option FieldType}
    (hM : vx_Met l y ws rm Pc Qc XC mc ms free) (hblind : FrameBlind Pc) (hrc : rm.cells = mc) (hrs : rm.slots = ms)
    (hframes : rm.frames + 1 ≤ R.frames) (hlocals : W9 + (maxL + 11) + rm.locals ≤ R.locals)
    (hws : ∀ w ∈ ws, ∀ a' U, s.WarmedH U.vm → w.before a' U = true) (hcode : Cond.code y bytes maxL ret ∈ ws) (hinit : ∀ a' U, s.WarmedH U.vm → (Cond.initialized y.cls).before a' U = true) :
    vx_Back l R p e below s sargs y len W9 (PreOf R mc ms Pc) (PostOf Qc mc ms free) (vx_Post XC mc ms free) := by
  intro m meth c A g ig mk a X hg hsize hdg hW hn hp
  have h1 : (headSpec ws rm).pre.before a A.U = true := atoms_intro fun w hw => hws w hw _ _ X.warmed
  have h2 : (Cond.code y bytes maxL ret).before a A.U = true := hws _ hcode _ _ X.warmed
  have h3 : (Cond.initialized y.cls).before a A.U = true := hinit _ _ X.warmed
  have h4 : A.cells + (headSpec ws rm).room.cells ≤ R.cells := by rw [show (headSpec ws rm).room.cells = mc from hrc]; exact hp.1
  have h5 : A.slots + (headSpec ws rm).room.slots ≤ R.slots := by rw [show (headSpec ws rm).room.slots = ms from hrs]; exact hp.2.1
  have hPc : Pc a (A.U.calling g mk a) := hblind _ _ _ _ hp.2.2
  obtain ⟨U, Ls, c0, s0⟩ := A
  dsimp only [Pt.U, Pt.locs, Pt.cells, Pt.slots] at h1 h2 h3 h4 h5 X hn hPc ⊢
  obtain ⟨methY, cY, hmY, hcY, -, hlY, -, -, -, -⟩ := Cond.code_spec hn h2
  obtain ⟨kY, hkY, -⟩ := className_of_methodNamed hn
  have hinitY : kY.init = .initialized := Cond.initialized_spec (findClass_of_methodNamed hn) hkY h3
  have h : At U g.method c below := by rw [hg]; exact X.here
  have hlocals9 : W9 + (maxL + 11) + (headSpec ws rm).room.locals ≤ R.locals := hlocals
  have happ : (headSpec ws rm).appliesLoose y e.platform (U.calling g mk a) = true :=
    Spec.appliesLoose_calling (g := g) h hdg hn hkY hinitY
      (X.room_calling (g := g) (R' := (headSpec ws rm).room) hsize hmY hcY hframes (by rw [hlY]; omega) h4 h5) h1
  obtain ⟨mid, hmid⟩ := h.above
  have hfr : (U.setTop g).frames = (.java g :: mid) ++ below := by rw [State.frames_setTop' g h.top, hmid]; rfl
  obtain ⟨o, s₂, hsteps, -, hend, hq⟩ := Steps.callFree hM p X.admits X.cas X.clock (acts := []) hfr happ hPc trivial
  have hq' : vx_Q Qc XC mc ms free a (U.calling g mk a) o s₂ := hq
  rw [State.frames_setTop' g h.top] at hend
  obtain ⟨g₀, hg0⟩ := Option.isSome_iff_exists.mp h.top
  obtain ⟨r, hr⟩ := State.topJava?_eq_some.mp hg0
  have hr' : (({ U with heap := s₂.heap, slotsUsed := s₂.slotsUsed } : State).setVm s₂.vm).frames = .java g₀ :: r := hr
  rcases hq' with ⟨hqc, L, hfe, hL⟩ | ⟨q, rfl, E, ce, L, hx, hce, hcv, hcl, hW₂, hsm, hL⟩
  · obtain ⟨⟨v, rfl⟩, hW₂, e2, q2, q3, q4, q5, q6⟩ := id hfe
    have e3 : s₂ = ({ (U.calling g mk a).setFrames s₂.frames with heap := s₂.heap, slotsUsed := s₂.slotsUsed } : State).setVm s₂.vm := by
      have : s₂ = ({ s₂ with vm := (U.calling g mk a).vm } : State).setVm s₂.vm := rfl
      rw [e2] at this
      exact this
    obtain ⟨c₂, i₂, len₂, hc₂, hd₂, hf₂⟩ := hend
    have hW' : U.WarmedH s₂.vm := hW₂
    have hcc : c₂ = c := by
      have h1 : s₂.code? g.method = U.code? g.method := by
        rw [State.code?_eq, State.code?_eq, hW'.alike.method?]
      exact Option.some.inj (hc₂.symm.trans (h1.trans h.code))
    subst hcc
    have hlen : len₂ = len := by rw [hdg] at hd₂; cases hd₂; rfl
    subst hlen
    have hs₂ : s₂ = (({ U with heap := s₂.heap, slotsUsed := s₂.slotsUsed } : State).setVm s₂.vm).setTop { g with pc := g.pc + len₂, stack := v.toList ++ g.stack } := by
      refine e3.trans ?_
      rw [hf₂, State.calling_eq h.top, State.setFrames_setFrames, State.setTop_of_frames _ hr', hr]
      rfl
    have hsame : U.sameButNew ({ U with heap := s₂.heap, slotsUsed := s₂.slotsUsed } : State) L mc ms := by
      refine ⟨?_, q2, q3, q4, q5, q6⟩
      obtain ⟨t, ht, -⟩ := State.frames_cons hr
      show ({ U with heap := s₂.heap, slotsUsed := s₂.slotsUsed } : State) = { U.setFrames U.frames with heap := s₂.heap, slotsUsed := s₂.slotsUsed }
      rw [State.setFrames_self ht]
    subst hg
    refine Or.inl ⟨v, ⟨(({ U with heap := s₂.heap, slotsUsed := s₂.slotsUsed } : State).setVm s₂.vm), Ls ++ L, c0 + mc, s0 + ms⟩,
      ⟨X.admits, X.cas, X.clock, X.frames, X.room, X.hears, X.method, X.code, (X.here.setHeapUsed s₂.heap s₂.slotsUsed).setVm hW'.alike, X.tail, State.WarmedH.trans X.warmed hW', X.limits, X.bytes, X.same.trans (hsame.setVm s.vm)⟩,
      ⟨g, mk, s₂, L, rfl, rfl, hqc, rfl, hL, rfl, rfl⟩, ?_⟩
    show Steps p.tables e below _ ((({ U with heap := s₂.heap, slotsUsed := s₂.slotsUsed } : State).setVm s₂.vm).setTop { g with pc := g.pc + len₂, stack := v.toList ++ g.stack })
    rw [← hs₂]
    exact hsteps
  · obtain ⟨e2, q2, q3, q4, q5, q6⟩ := id hsm
    have e3 : s₂ = ({ (U.calling g mk a).setFrames s₂.frames with heap := s₂.heap, slotsUsed := s₂.slotsUsed } : State).setVm s₂.vm := by
      have : s₂ = ({ s₂ with vm := (U.calling g mk a).vm } : State).setVm s₂.vm := rfl
      rw [e2] at this
      exact this
    have hf₂ : s₂.frames = .throwing q :: .java g :: U.frames.tail := hend
    have hW' : U.WarmedH s₂.vm := hW₂
    have hs₂ : s₂ = ((({ U with heap := s₂.heap, slotsUsed := s₂.slotsUsed } : State).setVm s₂.vm).setTop g).pushFrame (.throwing q) := by
      refine e3.trans ?_
      rw [hf₂, State.calling_eq h.top, State.setFrames_setFrames, State.pushFrame, State.frames_setTop _ hr', State.setTop_of_frames _ hr', State.setFrames_setFrames, hr]
      rfl
    have hsame : U.sameButNew ({ U with heap := s₂.heap, slotsUsed := s₂.slotsUsed } : State) L mc ms := by
      refine ⟨?_, q2, q3, q4, q5, q6⟩
      obtain ⟨t, ht, -⟩ := State.frames_cons hr
      show ({ U with heap := s₂.heap, slotsUsed := s₂.slotsUsed } : State) = { U.setFrames U.frames with heap := s₂.heap, slotsUsed := s₂.slotsUsed }
      rw [State.setFrames_self ht]
    subst hg
    refine Or.inr ⟨q, ⟨(({ U with heap := s₂.heap, slotsUsed := s₂.slotsUsed } : State).setVm s₂.vm), Ls ++ L, c0 + mc, s0 + ms⟩,
      ⟨X.admits, X.cas, X.clock, X.frames, X.room, X.hears, X.method, X.code, (X.here.setHeapUsed s₂.heap s₂.slotsUsed).setVm hW'.alike, X.tail, State.WarmedH.trans X.warmed hW', X.limits, X.bytes, X.same.trans (hsame.setVm s.vm)⟩,
      ⟨g, mk, s₂, L, E, ce, rfl, rfl, hx, hce, hcv, hcl, rfl, hL, rfl, rfl⟩, ?_⟩
    show Steps p.tables e below _ (((({ U with heap := s₂.heap, slotsUsed := s₂.slotsUsed } : State).setVm s₂.vm).setTop g).pushFrame (.throwing q))
    rw [← hs₂]
    exact hsteps
end Payer
section Calls
variable {p : Program} {l : Launch} {e : Env} {R : Room} {s : State} {m : MethodId} {args : Array Value} {below : List Frame} {meth : Method} {c : Code} {T : State} {locs : List Loc} {cells slots : Nat}
theorem vx_callV (X : Stand p l e R s m args below meth c T locs cells slots) (hexec : p.tables.exec = Jvm.exec) {own C : String} {index : Nat} {y : MethodName} {bytes : ByteArray} {maxL : Nat} {ret : Option FieldType}
    (hown : s.vm.findClass own = some m.cls) (hlink : (Cond.methodLink own index y).before args s = true) (hinst : (Cond.instanceMethod y).before args s = true) (hsel : (Cond.selects C y y).before args s = true)
    (hcode : (Cond.code y bytes maxL ret).before args s = true) (hy : y.cls ≠ "java/lang/invoke/MethodHandle" ∧ y.cls ≠ "java/lang/invoke/VarHandle")
    {W9 : Nat} {Pre : Pt → Array Value → Prop} {Post : Pt → Array Value → Option Value → Pt → Prop} {PostX : Pt → Array Value → Addr → Pt → Prop} (hK : vx_Back l R p e below s args y 3 W9 Pre Post PostX)
    {b : Addr} {cellB : Cell} (hcell : T.heap[b]? = some cellB) (hobj : cellB.vm.isStatics = false) (hcls : s.vm.findClass C = some cellB.cls)
    {g : JFrame} (hg : g.method = m) (hsize : g.locals.size = c.maxLocals) {argsL rest : List Value} (hlen : ∀ sig, parseMethodDescriptor y.desc = some sig → argsL.length = sig.parameters.length)
    (hstack : g.stack = argsL.reverse ++ .ref b :: rest) (hW : 2 * g.monitorRoom + (rest.map fun v => v.category).sum ≤ W9) (hdg : decode c.code g.pc = .ok (.invokevirtual index, 3))
    (hpre : ∀ vm₁, s.WarmedH vm₁ → Pre ⟨T.setVm vm₁, locs, cells, slots⟩ (Value.ref b :: argsL).toArray) :
    (∃ (v : Option Value) (vm₁ : Vm) (B : Pt), s.WarmedH vm₁ ∧ Stand p l e R s m args below meth c B.U B.locs B.cells B.slots ∧ Post ⟨T.setVm vm₁, locs, cells, slots⟩ (Value.ref b :: argsL).toArray v B ∧
      ∀ target, Steps p.tables e below (B.U.setTop { g with pc := g.pc + 3, stack := v.toList ++ rest }) target → Steps p.tables e below (T.setTop g) target) ∨
    (∃ (q : Addr) (vm₁ : Vm) (B : Pt), s.WarmedH vm₁ ∧ Stand p l e R s m args below meth c B.U B.locs B.cells B.slots ∧ PostX ⟨T.setVm vm₁, locs, cells, slots⟩ (Value.ref b :: argsL).toArray q B ∧
      Steps p.tables e below (T.setTop g) ((B.U.setTop { g with stack := rest }).pushFrame (.throwing q))) := by
  obtain ⟨mk, methM, hnamed, hmethM, hstM, habM⟩ := Cond.instanceMethod_spec hinst
  obtain ⟨methM', cM, hmethM', -, -, -, -, -, -, hsigM⟩ := Cond.code_spec hnamed hcode
  cases hmethM.symm.trans hmethM'
  obtain ⟨c2, r2, m2, q1, q2, q3, q4, kP, hkP, hkPi⟩ := Cond.selects_spec hsel
  cases hcls.symm.trans q1
  cases (State.methodFound?_of_named hnamed hy).symm.trans q2
  cases hnamed.symm.trans q3
  have hselP : selectMethod e.platform s.vm cellB.cls mk = .method mk := by rw [Launch.admits_selectMethod X.admits]; exact q4
  obtain ⟨vm₁, X₁, hstep₁⟩ := X.invokevirtual hexec hown hlink hnamed hmethM hstM hkP hkPi hy (a := b) (cell := cellB) hcell
    (fun z h => by rw [h] at hobj; cases hobj) hselP hmethM habM hkP hkPi (g := g) hg (argsL := argsL) (rest := rest) (hlen _ hsigM) hstack hdg
  rcases hK m meth c ⟨T.setVm vm₁, locs, cells, slots⟩ { g with stack := rest } (.invokevirtual index) mk (Value.ref b :: argsL).toArray X₁ hg hsize hdg hW (X₁.named hnamed) (hpre vm₁ X₁.warmed) with ⟨v, B, X', hpost, hsteps⟩ | ⟨q, B, X', hpost, hsteps⟩
  · exact Or.inl ⟨v, vm₁, B, X₁.warmed, X', hpost, fun target h => hstep₁ _ fun acts => by rw [doInvoke_state]; exact hsteps.trans h⟩
  · exact Or.inr ⟨q, vm₁, B, X₁.warmed, X', hpost, hstep₁ _ fun acts => by rw [doInvoke_state]; exact hsteps⟩
theorem vx_callS (X : Stand p l e R s m args below meth c T locs cells slots) (hexec : p.tables.exec = Jvm.exec) {own : String} {index : Nat} {y : MethodName} {bytes : ByteArray} {maxL : Nat} {ret : Option FieldType}
    (hown : s.vm.findClass own = some m.cls) (hlink : (Cond.methodLink own index y).before args s = true) (hstat : (Cond.static y).before args s = true) (hinit : (Cond.initialized y.cls).before args s = true)
    (hcode : (Cond.code y bytes maxL ret).before args s = true) (hy : y.cls ≠ "java/lang/invoke/MethodHandle" ∧ y.cls ≠ "java/lang/invoke/VarHandle")
    {W9 : Nat} {Pre : Pt → Array Value → Prop} {Post : Pt → Array Value → Option Value → Pt → Prop} {PostX : Pt → Array Value → Addr → Pt → Prop} (hK : vx_Back l R p e below s args y 3 W9 Pre Post PostX)
    {g : JFrame} (hg : g.method = m) (hsize : g.locals.size = c.maxLocals) {argsL rest : List Value} (hlen : ∀ sig, parseMethodDescriptor y.desc = some sig → argsL.length = sig.parameters.length)
    (hstack : g.stack = argsL.reverse ++ rest) (hW : 2 * g.monitorRoom + (rest.map fun v => v.category).sum ≤ W9) (hdg : decode c.code g.pc = .ok (.invokestatic index, 3))
    (hpre : ∀ vm₁, s.WarmedH vm₁ → Pre ⟨T.setVm vm₁, locs, cells, slots⟩ argsL.toArray) :
    (∃ (v : Option Value) (vm₁ : Vm) (B : Pt), s.WarmedH vm₁ ∧ Stand p l e R s m args below meth c B.U B.locs B.cells B.slots ∧ Post ⟨T.setVm vm₁, locs, cells, slots⟩ argsL.toArray v B ∧
      ∀ target, Steps p.tables e below (B.U.setTop { g with pc := g.pc + 3, stack := v.toList ++ rest }) target → Steps p.tables e below (T.setTop g) target) ∨
    (∃ (q : Addr) (vm₁ : Vm) (B : Pt), s.WarmedH vm₁ ∧ Stand p l e R s m args below meth c B.U B.locs B.cells B.slots ∧ PostX ⟨T.setVm vm₁, locs, cells, slots⟩ argsL.toArray q B ∧
      Steps p.tables e below (T.setTop g) ((B.U.setTop { g with stack := rest }).pushFrame (.throwing q))) := by
  obtain ⟨mk, hnamed⟩ := Cond.code_named hcode
  obtain ⟨methM, cM, hmethM, -, -, -, -, -, -, hsigM⟩ := Cond.code_spec hnamed hcode
  have hstatic : methM.isStatic = true := Cond.static_spec hnamed hmethM hstat
  obtain ⟨kP, hkP, -⟩ := className_of_methodNamed hnamed
  have hinitP : kP.init = .initialized := Cond.initialized_spec (findClass_of_methodNamed hnamed) hkP hinit
  obtain ⟨vm₁, X₁, hstep₁⟩ := X.invokestatic hexec hown hlink hnamed hmethM hstatic hkP hinitP hy (g := g) hg (argsL := argsL) (rest := rest) (hlen _ hsigM) hstack hdg
  rcases hK m meth c ⟨T.setVm vm₁, locs, cells, slots⟩ { g with stack := rest } (.invokestatic index) mk argsL.toArray X₁ hg hsize hdg hW (X₁.named hnamed) (hpre vm₁ X₁.warmed) with ⟨v, B, X', hpost, hsteps⟩ | ⟨q, B, X', hpost, hsteps⟩
  · exact Or.inl ⟨v, vm₁, B, X₁.warmed, X', hpost, fun target h => hstep₁ _ fun acts => by rw [doInvoke_state]; exact hsteps.trans h⟩
  · exact Or.inr ⟨q, vm₁, B, X₁.warmed, X', hpost, hstep₁ _ fun acts => by rw [doInvoke_state]; exact hsteps⟩
end Calls
theorem vx_cls {s : State} {T : State} {vm₁ : Vm} {E : String} {k : ClassId} (hW : s.WarmedH vm₁) (h : (T.setVm vm₁).vm.findClass E = some k) : s.vm.findClass E = some k := by
  have h1 : vm₁.findClass E = some k := h
  rw [hW.alike.findClass] at h1
  exact h1
/-- the method's frame g, with q thrown over it -/
def vx_W (p : Program) (l : Launch) (e : Env) (R : Room) (s : State) (m : MethodId) (args : Array Value) (below : List Frame) (meth : Method) (c : Code) (H : Heap) (locs : List Loc) (cells slots : Nat) (Q : State → Prop) (g : JFrame) (q : Addr) : Prop :=
  ∀ T : State, T.heap = H → Stand p l e R s m args below meth c T locs cells slots → ∃ t, Steps p.tables e below ((T.setTop g).pushFrame (.throwing q)) t ∧ Q t
def vx_Run (p : Program) (l : Launch) (e : Env) (R : Room) (s : State) (m : MethodId) (args : Array Value) (below : List Frame) (meth : Method) (c : Code) (H : Heap) (locs : List Loc) (cells slots mc ms : Nat) (g : JFrame) (rest : List Value) (Qa : State → Outcome → State → Prop) (XC : String → State → State → Prop) (free : Addr → Prop) : Prop :=
  ∀ T : State, T.heap = H → Stand p l e R s m args below meth c T locs cells slots →
    (∃ (v : Option Value) (st₀ t T' : State) (L : List Loc), st₀.heap = H ∧ Stand p l e R s m args below meth c T' (locs ++ L) (cells + mc) (slots + ms) ∧ (∀ q ∈ L, free q.base) ∧ T'.heap = t.heap ∧ T'.vm = t.vm ∧ Qa st₀ (.returned v) t ∧
      Goes p e below T g T' { g with pc := g.pc + 3, stack := v.toList ++ rest }) ∨
    (∃ (q : Addr) (st₀ t T' : State) (L : List Loc) (E : String) (ce : Cell), st₀.heap = H ∧ Stand p l e R s m args below meth c T' (locs ++ L) (cells + mc) (slots + ms) ∧ (∀ z ∈ L, free z.base) ∧ T'.heap = t.heap ∧ T'.vm = t.vm ∧ XC E st₀ t ∧ t.heap[q]? = some ce ∧ ce.vm = .none ∧ s.vm.findClass E = some ce.cls ∧
      Steps p.tables e below (T.setTop g) ((T'.setTop { g with stack := rest }).pushFrame (.throwing q)))
def vx_X {S : Type} (px : S → Prop) (B : String → S → State → Prop) (A : Nat → Prop) : String → State → State → Prop := fun E st t => ∃ u : S, px u ∧ B E u t ∧ va_F A st t
section Runs
variable {p : Program} {l : Launch} {e : Env} {R : Room} {s : State} {m : MethodId} {args : Array Value} {below : List Frame} {meth : Method} {c : Code} {H : Heap} {locs : List Loc} {cells slots : Nat}
variable {y : MethodName} {bytes cc : ByteArray} {maxL nL mc ms n index : Nat} {ret : Option FieldType} {ws : List Cond} {rm : Room} {Pc : Array Value → State → Prop} {Qc : Array Value → State → Outcome → State → Prop} {XC : String → State → State → Prop} {free : Addr → Prop} {Ts : List Cond} {own C : String} {b : Addr} {As rest : List Value} {g : JFrame}
theorem vx_callBack (cb : CallB R s args own index y bytes maxL ret ws rm mc ms n) (hM : vx_Met l y ws rm Pc Qc XC mc ms free) (hbl : FrameBlind Pc) : vx_Back l R p e below s args y 3 8 (PreOf R mc ms Pc) (PostOf Qc mc ms free) (vx_Post XC mc ms free) := by
  obtain ⟨hrc, hrs, hfr, hlo, hws, hcw, -, hini, -⟩ := cb
  exact vx_back (bytes := bytes) (maxL := maxL) (ret := ret) hM hbl hrc hrs hfr hlo hws hcw (fun a' U hW => word_at hW (Or.inl (by first | rfl | simp [Cond.onTables, Cond.keeps, Cond.steady])) hini)
theorem vx_runV (S : CallFix p m c cc nL s args Ts own) (hM : vx_Met l y ws rm Pc Qc XC mc ms free) (cw : CallW R s args own C index y bytes maxL ret ws rm mc ms n) (hp : PreV s H C b Pc As)
    (hg : g.method = m) (hn : As.length = n) (hsize : g.locals.size = nL) (hstack : g.stack = As.reverse ++ .ref b :: rest) (hW : 2 * g.monitorRoom + (rest.map fun v => v.category).sum ≤ 8) (hdg : decode cc g.pc = .ok (.invokevirtual index, 3)) (hf : cells + mc ≤ R.cells ∧ slots + ms ≤ R.slots) :
    vx_Run p l e R s m args below meth c H locs cells slots mc ms g rest (Qc (Value.ref b :: As).toArray) XC free := by
  have hK : vx_Back l R p e below s args y 3 8 (PreOf R mc ms Pc) (PostOf Qc mc ms free) (vx_Post XC mc ms free) := vx_callBack cw.1 hM hp.1
  obtain ⟨⟨-, -, -, -, -, -, hcode, -, hy, hlen, hl⟩, hin, hse⟩ := cw
  obtain ⟨hx, hb, hml, ho, -⟩ := S
  obtain ⟨-, ⟨cellB, hcB, hoB, hclB⟩, hPc⟩ := hp
  intro T hT X
  rcases vx_callV X hx (C := C) (bytes := bytes) (maxL := maxL) (ret := ret) ho hl hin hse hcode hy hK (by rw [hT]; exact hcB) hoB hclB hg (hsize.trans hml.symm) (argsL := As) (rest := rest) (fun sig h => hn.trans (hlen sig h)) hstack hW (by rw [hb]; exact hdg)
    (fun vm₁ hW₁ => ⟨hf.1, hf.2, hPc (T.setVm vm₁) hT hW₁⟩) with ⟨v, vm₁, ⟨U', l2, c2, s2⟩, hW₁, X', ⟨g', mk, t, L, e1, e2, hq, h1, hL, h2, h3⟩, st⟩ | ⟨q, vm₁, ⟨U', l2, c2, s2⟩, hW₁, X', ⟨g', mk, t, L, E, ce, e1, e2, hq, hce, hcv, hcl, h1, hL, h2, h3⟩, st⟩
  · dsimp only [Pt.U, Pt.locs, Pt.cells, Pt.slots] at X' e1 e2 h1 h2 h3 st
    subst h1; subst h2; subst h3
    exact Or.inl ⟨v, (T.setVm vm₁).calling g' mk (Value.ref b :: As).toArray, t, U', L, hT, X', hL, e1, e2, hq, st⟩
  · dsimp only [Pt.U, Pt.locs, Pt.cells, Pt.slots] at X' e1 e2 h1 h2 h3 st hcl
    subst h1; subst h2; subst h3
    exact Or.inr ⟨q, (T.setVm vm₁).calling g' mk (Value.ref b :: As).toArray, t, U', L, E, ce, hT, X', hL, e1, e2, hq, hce, hcv, vx_cls hW₁ hcl, st⟩
theorem vx_runS (S : CallFix p m c cc nL s args Ts own) (hM : vx_Met l y ws rm Pc Qc XC mc ms free) (cw : CallB R s args own index y bytes maxL ret ws rm mc ms n ∧ (Cond.static y).before args s = true) (hp : PreS s H Pc As)
    (hg : g.method = m) (hn : As.length = n) (hsize : g.locals.size = nL) (hstack : g.stack = As.reverse ++ rest) (hW : 2 * g.monitorRoom + (rest.map fun v => v.category).sum ≤ 8) (hdg : decode cc g.pc = .ok (.invokestatic index, 3)) (hf : cells + mc ≤ R.cells ∧ slots + ms ≤ R.slots) :
    vx_Run p l e R s m args below meth c H locs cells slots mc ms g rest (Qc As.toArray) XC free := by
  have hK : vx_Back l R p e below s args y 3 8 (PreOf R mc ms Pc) (PostOf Qc mc ms free) (vx_Post XC mc ms free) := vx_callBack cw.1 hM hp.1
  obtain ⟨⟨-, -, -, -, -, -, hcode, hini, hy, hlen, hl⟩, hstt⟩ := cw
  obtain ⟨hx, hb, hml, ho, -⟩ := S
  intro T hT X
  rcases vx_callS X hx (bytes := bytes) (maxL := maxL) (ret := ret) ho hl hstt hini hcode hy hK hg (hsize.trans hml.symm) (argsL := As) (rest := rest) (fun sig h => hn.trans (hlen sig h)) hstack hW (by rw [hb]; exact hdg)
    (fun vm₁ hW₁ => ⟨hf.1, hf.2, hp.2 (T.setVm vm₁) hT hW₁⟩) with ⟨v, vm₁, ⟨U', l2, c2, s2⟩, hW₁, X', ⟨g', mk, t, L, e1, e2, hq, h1, hL, h2, h3⟩, st⟩ | ⟨q, vm₁, ⟨U', l2, c2, s2⟩, hW₁, X', ⟨g', mk, t, L, E, ce, e1, e2, hq, hce, hcv, hcl, h1, hL, h2, h3⟩, st⟩
  · dsimp only [Pt.U, Pt.locs, Pt.cells, Pt.slots] at X' e1 e2 h1 h2 h3 st
    subst h1; subst h2; subst h3
    exact Or.inl ⟨v, (T.setVm vm₁).calling g' mk As.toArray, t, U', L, hT, X', hL, e1, e2, hq, st⟩
  · dsimp only [Pt.U, Pt.locs, Pt.cells, Pt.slots] at X' e1 e2 h1 h2 h3 st hcl
    subst h1; subst h2; subst h3
    exact Or.inr ⟨q, (T.setVm vm₁).calling g' mk As.toArray, t, U', L, E, ce, hT, X', hL, e1, e2, hq, hce, hcv, vx_cls hW₁ hcl, st⟩
end Runs
section Rows
variable {p : Program} {l : Launch} {e : Env} {R : Room} {s : State} {m : MethodId} {args : Array Value} {below : List Frame} {meth : Method} {c : Code} {H : Heap} {locs : List Loc} {cells slots : Nat} {Q : State → Prop}
variable {mc ms : Nat} {free : Addr → Prop} {A0 A1 : Nat → Prop} {H0 : Heap} {a : Array Value} {pc : Nat} {ls : Array Slot} {st0 rest : List Value}
theorem vx_keep {st₀ t T' : State} {L : List Loc} (h0 : st₀.heap = H) (e1 : T'.heap = t.heap) (hS : va_S A0 H0 H locs) (hA : ∀ q, q < H.size → A1 q → A0 q) (hf : ∀ q, free q → A0 q) (hL : ∀ q ∈ L, free q.base) (hF : va_F A1 st₀ t) :
    H.size ≤ T'.heap.size ∧ (∀ q : Nat, q < H.size → ¬ A1 q → T'.heap[q]? = H[q]?) ∧ va_S A0 H0 T'.heap (locs ++ L) := by
  obtain ⟨hz, hk⟩ := hF
  rw [h0] at hz hk
  exact ⟨by rw [e1]; exact hz, fun q h1 h2 => by rw [e1]; exact hk q h1 h2,
    ⟨Nat.le_trans hS.1 (by rw [e1]; exact hz), fun q h1 h2 => by rw [e1, hk q (Nat.lt_of_lt_of_le h1 hS.1) (fun z => h2 (hA q (Nat.lt_of_lt_of_le h1 hS.1) z))]; exact hS.2.1 q h1 h2, fun q hq => by
      rcases List.mem_append.mp hq with h | h
      · exact hS.2.2 q h
      · exact hf _ (hL q h)⟩⟩
theorem vx_calli {S SX : Type} {post : Int32 → S → Prop} {px : SX → Prop} {B : S → State → Prop} {BX : String → SX → State → Prop} {AX : Nat → Prop} (hr : vx_Run p l e R s m args below meth c H locs cells slots mc ms (F0 m pc ls st0) rest (va_Qi post B A1 a) (vx_X px BX AX) free) (hS : va_S A0 H0 H locs) (hA : ∀ q, q < H.size → A1 q → A0 q) (hf : ∀ q, free q → A0 q) (hAX : ∀ q, q < H.size → AX q → A0 q)
    (kx : ∀ (E : String) (ce : Cell) (q9 : Addr) (u : SX) (t : State) (H1 : Heap) (locs1 : List Loc), t.heap = H1 → s.vm.Alike t.vm → px u → BX E u t → H.size ≤ H1.size → (∀ q : Nat, q < H.size → ¬ AX q → H1[q]? = H[q]?) → va_S A0 H0 H1 locs1 → H1[q9]? = some ce → ce.vm = .none → s.vm.findClass E = some ce.cls → vx_W p l e R s m args below meth c H1 locs1 (cells + mc) (slots + ms) Q (F0 m pc ls rest) q9)
    (kk : ∀ (r : Int32) (u : S) (t : State) (H1 : Heap) (locs1 : List Loc), t.heap = H1 → s.vm.Alike t.vm → post r u → B u t → H.size ≤ H1.size → (∀ q : Nat, q < H.size → ¬ A1 q → H1[q]? = H[q]?) → va_S A0 H0 H1 locs1 → W p l e R s m args below meth c H1 locs1 (cells + mc) (slots + ms) Q (F0 m (pc + 3) ls (.int r :: rest))) : W p l e R s m args below meth c H locs cells slots Q (F0 m pc ls st0) := by
  intro T hT X
  rcases hr T hT X with ⟨v, st₀, t, T', L, h0, X', hL, e1, e2, ⟨⟨r, u, hv, hp, hb⟩, hF⟩, st⟩ | ⟨q, st₀, t, T', L, E, ce, h0, X', hL, e1, e2, ⟨u, hp, hb, hF⟩, hce, hcv, hcl, st⟩
  · cases hv
    obtain ⟨k1, k2, k3⟩ := vx_keep h0 e1 hS hA hf hL hF
    obtain ⟨t2, a1, b1⟩ := kk r u t T'.heap (locs ++ L) e1.symm (by rw [← e2]; exact X'.warmed.alike) hp hb k1 k2 k3 T' rfl X'
    exact ⟨t2, st t2 a1, b1⟩
  · obtain ⟨k1, k2, k3⟩ := vx_keep h0 e1 hS hAX hf hL hF
    obtain ⟨t2, a1, b1⟩ := kx E ce q u t T'.heap (locs ++ L) e1.symm (by rw [← e2]; exact X'.warmed.alike) hp hb k1 k2 k3 (by rw [e1]; exact hce) hcv hcl T' rfl X'
    exact ⟨t2, st.trans a1, b1⟩
theorem vx_calll {S SX : Type} {post : Int64 → S → Prop} {px : SX → Prop} {B : S → State → Prop} {BX : String → SX → State → Prop} {AX : Nat → Prop} (hr : vx_Run p l e R s m args below meth c H locs cells slots mc ms (F0 m pc ls st0) rest (va_Ql post B A1 a) (vx_X px BX AX) free) (hS : va_S A0 H0 H locs) (hA : ∀ q, q < H.size → A1 q → A0 q) (hf : ∀ q, free q → A0 q) (hAX : ∀ q, q < H.size → AX q → A0 q)
    (kx : ∀ (E : String) (ce : Cell) (q9 : Addr) (u : SX) (t : State) (H1 : Heap) (locs1 : List Loc), t.heap = H1 → s.vm.Alike t.vm → px u → BX E u t → H.size ≤ H1.size → (∀ q : Nat, q < H.size → ¬ AX q → H1[q]? = H[q]?) → va_S A0 H0 H1 locs1 → H1[q9]? = some ce → ce.vm = .none → s.vm.findClass E = some ce.cls → vx_W p l e R s m args below meth c H1 locs1 (cells + mc) (slots + ms) Q (F0 m pc ls rest) q9)
    (kk : ∀ (r : Int64) (u : S) (t : State) (H1 : Heap) (locs1 : List Loc), t.heap = H1 → s.vm.Alike t.vm → post r u → B u t → H.size ≤ H1.size → (∀ q : Nat, q < H.size → ¬ A1 q → H1[q]? = H[q]?) → va_S A0 H0 H1 locs1 → W p l e R s m args below meth c H1 locs1 (cells + mc) (slots + ms) Q (F0 m (pc + 3) ls (.long r :: rest))) : W p l e R s m args below meth c H locs cells slots Q (F0 m pc ls st0) := by
  intro T hT X
  rcases hr T hT X with ⟨v, st₀, t, T', L, h0, X', hL, e1, e2, ⟨⟨r, u, hv, hp, hb⟩, hF⟩, st⟩ | ⟨q, st₀, t, T', L, E, ce, h0, X', hL, e1, e2, ⟨u, hp, hb, hF⟩, hce, hcv, hcl, st⟩
  · cases hv
    obtain ⟨k1, k2, k3⟩ := vx_keep h0 e1 hS hA hf hL hF
    obtain ⟨t2, a1, b1⟩ := kk r u t T'.heap (locs ++ L) e1.symm (by rw [← e2]; exact X'.warmed.alike) hp hb k1 k2 k3 T' rfl X'
    exact ⟨t2, st t2 a1, b1⟩
  · obtain ⟨k1, k2, k3⟩ := vx_keep h0 e1 hS hAX hf hL hF
    obtain ⟨t2, a1, b1⟩ := kx E ce q u t T'.heap (locs ++ L) e1.symm (by rw [← e2]; exact X'.warmed.alike) hp hb k1 k2 k3 (by rw [e1]; exact hce) hcv hcl T' rfl X'
    exact ⟨t2, st.trans a1, b1⟩
theorem vx_callf {S SX : Type} {post : UInt32 → S → Prop} {px : SX → Prop} {B : S → State → Prop} {BX : String → SX → State → Prop} {AX : Nat → Prop} (hr : vx_Run p l e R s m args below meth c H locs cells slots mc ms (F0 m pc ls st0) rest (va_Qf post B A1 a) (vx_X px BX AX) free) (hS : va_S A0 H0 H locs) (hA : ∀ q, q < H.size → A1 q → A0 q) (hf : ∀ q, free q → A0 q) (hAX : ∀ q, q < H.size → AX q → A0 q)
    (kx : ∀ (E : String) (ce : Cell) (q9 : Addr) (u : SX) (t : State) (H1 : Heap) (locs1 : List Loc), t.heap = H1 → s.vm.Alike t.vm → px u → BX E u t → H.size ≤ H1.size → (∀ q : Nat, q < H.size → ¬ AX q → H1[q]? = H[q]?) → va_S A0 H0 H1 locs1 → H1[q9]? = some ce → ce.vm = .none → s.vm.findClass E = some ce.cls → vx_W p l e R s m args below meth c H1 locs1 (cells + mc) (slots + ms) Q (F0 m pc ls rest) q9)
    (kk : ∀ (r : UInt32) (u : S) (t : State) (H1 : Heap) (locs1 : List Loc), t.heap = H1 → s.vm.Alike t.vm → post r u → B u t → H.size ≤ H1.size → (∀ q : Nat, q < H.size → ¬ A1 q → H1[q]? = H[q]?) → va_S A0 H0 H1 locs1 → W p l e R s m args below meth c H1 locs1 (cells + mc) (slots + ms) Q (F0 m (pc + 3) ls (.float r :: rest))) : W p l e R s m args below meth c H locs cells slots Q (F0 m pc ls st0) := by
  intro T hT X
  rcases hr T hT X with ⟨v, st₀, t, T', L, h0, X', hL, e1, e2, ⟨⟨r, u, hv, hp, hb⟩, hF⟩, st⟩ | ⟨q, st₀, t, T', L, E, ce, h0, X', hL, e1, e2, ⟨u, hp, hb, hF⟩, hce, hcv, hcl, st⟩
  · cases hv
    obtain ⟨k1, k2, k3⟩ := vx_keep h0 e1 hS hA hf hL hF
    obtain ⟨t2, a1, b1⟩ := kk r u t T'.heap (locs ++ L) e1.symm (by rw [← e2]; exact X'.warmed.alike) hp hb k1 k2 k3 T' rfl X'
    exact ⟨t2, st t2 a1, b1⟩
  · obtain ⟨k1, k2, k3⟩ := vx_keep h0 e1 hS hAX hf hL hF
    obtain ⟨t2, a1, b1⟩ := kx E ce q u t T'.heap (locs ++ L) e1.symm (by rw [← e2]; exact X'.warmed.alike) hp hb k1 k2 k3 (by rw [e1]; exact hce) hcv hcl T' rfl X'
    exact ⟨t2, st.trans a1, b1⟩
theorem vx_calld {S SX : Type} {post : UInt64 → S → Prop} {px : SX → Prop} {B : S → State → Prop} {BX : String → SX → State → Prop} {AX : Nat → Prop} (hr : vx_Run p l e R s m args below meth c H locs cells slots mc ms (F0 m pc ls st0) rest (va_Qd post B A1 a) (vx_X px BX AX) free) (hS : va_S A0 H0 H locs) (hA : ∀ q, q < H.size → A1 q → A0 q) (hf : ∀ q, free q → A0 q) (hAX : ∀ q, q < H.size → AX q → A0 q)
    (kx : ∀ (E : String) (ce : Cell) (q9 : Addr) (u : SX) (t : State) (H1 : Heap) (locs1 : List Loc), t.heap = H1 → s.vm.Alike t.vm → px u → BX E u t → H.size ≤ H1.size → (∀ q : Nat, q < H.size → ¬ AX q → H1[q]? = H[q]?) → va_S A0 H0 H1 locs1 → H1[q9]? = some ce → ce.vm = .none → s.vm.findClass E = some ce.cls → vx_W p l e R s m args below meth c H1 locs1 (cells + mc) (slots + ms) Q (F0 m pc ls rest) q9)
    (kk : ∀ (r : UInt64) (u : S) (t : State) (H1 : Heap) (locs1 : List Loc), t.heap = H1 → s.vm.Alike t.vm → post r u → B u t → H.size ≤ H1.size → (∀ q : Nat, q < H.size → ¬ A1 q → H1[q]? = H[q]?) → va_S A0 H0 H1 locs1 → W p l e R s m args below meth c H1 locs1 (cells + mc) (slots + ms) Q (F0 m (pc + 3) ls (.double r :: rest))) : W p l e R s m args below meth c H locs cells slots Q (F0 m pc ls st0) := by
  intro T hT X
  rcases hr T hT X with ⟨v, st₀, t, T', L, h0, X', hL, e1, e2, ⟨⟨r, u, hv, hp, hb⟩, hF⟩, st⟩ | ⟨q, st₀, t, T', L, E, ce, h0, X', hL, e1, e2, ⟨u, hp, hb, hF⟩, hce, hcv, hcl, st⟩
  · cases hv
    obtain ⟨k1, k2, k3⟩ := vx_keep h0 e1 hS hA hf hL hF
    obtain ⟨t2, a1, b1⟩ := kk r u t T'.heap (locs ++ L) e1.symm (by rw [← e2]; exact X'.warmed.alike) hp hb k1 k2 k3 T' rfl X'
    exact ⟨t2, st t2 a1, b1⟩
  · obtain ⟨k1, k2, k3⟩ := vx_keep h0 e1 hS hAX hf hL hF
    obtain ⟨t2, a1, b1⟩ := kx E ce q u t T'.heap (locs ++ L) e1.symm (by rw [← e2]; exact X'.warmed.alike) hp hb k1 k2 k3 (by rw [e1]; exact hce) hcv hcl T' rfl X'
    exact ⟨t2, st.trans a1, b1⟩
theorem vx_callv {S SX : Type} {post : S → Prop} {px : SX → Prop} {B : S → State → Prop} {BX : String → SX → State → Prop} {AX : Nat → Prop} (hr : vx_Run p l e R s m args below meth c H locs cells slots mc ms (F0 m pc ls st0) rest (va_Qv post B A1 a) (vx_X px BX AX) free) (hS : va_S A0 H0 H locs) (hA : ∀ q, q < H.size → A1 q → A0 q) (hf : ∀ q, free q → A0 q) (hAX : ∀ q, q < H.size → AX q → A0 q)
    (kx : ∀ (E : String) (ce : Cell) (q9 : Addr) (u : SX) (t : State) (H1 : Heap) (locs1 : List Loc), t.heap = H1 → s.vm.Alike t.vm → px u → BX E u t → H.size ≤ H1.size → (∀ q : Nat, q < H.size → ¬ AX q → H1[q]? = H[q]?) → va_S A0 H0 H1 locs1 → H1[q9]? = some ce → ce.vm = .none → s.vm.findClass E = some ce.cls → vx_W p l e R s m args below meth c H1 locs1 (cells + mc) (slots + ms) Q (F0 m pc ls rest) q9)
    (kk : ∀ (u : S) (t : State) (H1 : Heap) (locs1 : List Loc), t.heap = H1 → s.vm.Alike t.vm → post u → B u t → H.size ≤ H1.size → (∀ q : Nat, q < H.size → ¬ A1 q → H1[q]? = H[q]?) → va_S A0 H0 H1 locs1 → W p l e R s m args below meth c H1 locs1 (cells + mc) (slots + ms) Q (F0 m (pc + 3) ls (rest))) : W p l e R s m args below meth c H locs cells slots Q (F0 m pc ls st0) := by
  intro T hT X
  rcases hr T hT X with ⟨v, st₀, t, T', L, h0, X', hL, e1, e2, ⟨⟨u, hv, hp, hb⟩, hF⟩, st⟩ | ⟨q, st₀, t, T', L, E, ce, h0, X', hL, e1, e2, ⟨u, hp, hb, hF⟩, hce, hcv, hcl, st⟩
  · cases hv
    obtain ⟨k1, k2, k3⟩ := vx_keep h0 e1 hS hA hf hL hF
    obtain ⟨t2, a1, b1⟩ := kk u t T'.heap (locs ++ L) e1.symm (by rw [← e2]; exact X'.warmed.alike) hp hb k1 k2 k3 T' rfl X'
    exact ⟨t2, st t2 a1, b1⟩
  · obtain ⟨k1, k2, k3⟩ := vx_keep h0 e1 hS hAX hf hL hF
    obtain ⟨t2, a1, b1⟩ := kx E ce q u t T'.heap (locs ++ L) e1.symm (by rw [← e2]; exact X'.warmed.alike) hp hb k1 k2 k3 (by rw [e1]; exact hce) hcv hcl T' rfl X'
    exact ⟨t2, st.trans a1, b1⟩
/-- caught by the row x of this method's table; the rows ahead don't take it -/
theorem vx_catch {own name : String} {E : String} {ce : Cell} {q : Addr} (hown : s.vm.findClass own = some m.cls) (pre : List ExceptionTableEntry) (x : ExceptionTableEntry) (suf : List ExceptionTableEntry) (hsplit : c.exceptionTable.toList = pre ++ x :: suf)
    (hpass : ∀ z ∈ pre, covers z pc = false ∨ (z.catchType ≠ 0 ∧ ∃ nm : String, (Cond.classLink own z.catchType nm).before args s = true ∧ va_Nc E nm s)) (hx : covers x pc = true) (h0 : x.catchType ≠ 0)
    (hlink : (Cond.classLink own x.catchType name).before args s = true) (hcast : (Cond.castable E name).before args s = true) (hcell : H[q]? = some ce) (hv : ce.vm = .none) (hcl : s.vm.findClass E = some ce.cls)
    (kk : W p l e R s m args below meth c H locs cells slots Q (F0 m x.handlerPc ls [.ref q])) : vx_W p l e R s m args below meth c H locs cells slots Q (F0 m pc ls rest) q := by
  intro T hT X
  have hpl : e.platform.magicAccessors = ({} : Platform).magicAccessors := by rw [X.admits.platform]
  obtain ⟨c3, c4, hc3, hc4, hasg⟩ := Cond.castable_spec hcast
  cases Option.some.inj (hc3.symm.trans hcl)
  obtain ⟨c5, hc5, hcl5⟩ := Cond.classLink_spec hown hlink e.platform hpl
  cases Option.some.inj (hc4.symm.trans hc5)
  obtain ⟨vm', X', st⟩ := X.thenCaughtThrough q (g := F0 m pc ls rest) rfl (Steps.refl _) (by rw [hT]; exact hcell) (by rw [hv]; rfl) (by obtain ⟨k9, h9, -⟩ := Vm.findClass_spec hcl; exact ⟨k9, h9⟩) pre x suf hsplit
    (fun z hz => by
      rcases hpass z hz with h | ⟨hz0, nm, hl1, hn1⟩
      · exact Or.inl h
      · obtain ⟨c6, hc6, hcl6⟩ := Cond.classLink_spec hown hl1 e.platform hpl
        obtain ⟨a8, b8, h1, h2, h3⟩ := hn1
        cases Option.some.inj (h1.symm.trans hcl)
        cases Option.some.inj (h2.symm.trans hc6)
        exact Or.inr ⟨hz0, _, hcl6, h3⟩) hx (Or.inr ⟨h0, c4, hcl5, hasg⟩)
  obtain ⟨t, a1, b1⟩ := kk (T.setVm vm') hT X'
  exact ⟨t, st.trans a1, b1⟩
end Rows
section Ends
variable {p : Program} {l : Launch} {e : Env} {R : Room} {s : State} {m : MethodId} {args : Array Value} {below : List Frame} {meth : Method} {c : Code} {H : Heap} {locs : List Loc} {cells slots : Nat} {Q : State → Prop}
variable {mc ms : Nat} {free : Addr → Prop} {A0 A1 : Nat → Prop} {H0 : Heap} {a : Array Value} {ls : Array Slot} {st0 rest : List Value}
variable {Qc : Array Value → State → Outcome → State → Prop} {XC : String → State → State → Prop}
/-- what a body that may throw owes at its end -/
def vx_MQ (below : List Frame) (Qc : Array Value → State → Outcome → State → Prop) (XC : String → State → State → Prop) (a : Array Value) (s : State) (mc ms : Nat) (free : Addr → Prop) : State → Prop := fun t =>
  ∃ o, t.status = .running ∧ Ended t below o ∧ vx_Q Qc XC mc ms free a s o t
theorem vx_ret {g : JFrame} {mc ms : Nat} (k : W p l e R s m args below meth c H locs cells slots (MQ below Qc args s mc ms free) g) : W p l e R s m args below meth c H locs cells slots (vx_MQ below Qc XC args s mc ms free) g := by
  intro T hT X
  obtain ⟨t, a1, o, b1, b2, b3, b4⟩ := k T hT X
  exact ⟨t, a1, o, b1, b2, Or.inl ⟨b3, b4⟩⟩
/-- not caught here: it goes on to the caller -/
theorem vx_widen {g : JFrame} {q : Addr} {k n : Nat} (h1 : cells ≤ k) (h2 : slots ≤ n) (kk : vx_W p l e R s m args below meth c H locs k n Q g q) : vx_W p l e R s m args below meth c H locs cells slots Q g q := fun T hT X => kk T hT (stand_widen X h1 h2)
theorem vx_out {pc : Nat} {E : String} {ce : Cell} {q : Addr} {mc ms : Nat} (hout : ∀ x ∈ c.exceptionTable.toList, covers x pc = false) (hlocks : meth.locks = false) (hcell : H[q]? = some ce) (hv : ce.vm = .none) (hcl : s.vm.findClass E = some ce.cls)
    (hx : ∀ t : State, t.heap = H → s.vm.Alike t.vm → XC E s t) (hf : ∀ z ∈ locs, free z.base) (hc : cells ≤ mc) (hs : slots ≤ ms) :
    vx_W p l e R s m args below meth c H locs cells slots (vx_MQ below Qc XC args s mc ms free) (F0 m pc ls rest) q := by
  intro T hT X
  obtain ⟨st1, hrun, hend, hW, hsm⟩ := X.leaveThrown q (g := F0 m pc ls rest) rfl rfl rfl hout hlocks
  have hcell9 : (T.setFrames (.throwing q :: below)).heap[q]? = some ce := by
    show T.heap[q]? = some ce
    rw [hT]; exact hcell
  exact ⟨_, st1, .threw q, hrun, hend, Or.inr ⟨q, rfl, E, ce, locs, hx _ hT hW.alike, hcell9, hv, hcl, hW, hsm.mono hc hs, hf⟩⟩
theorem vx_frame {U : State} {k n : Nat} (h : s.sameButNew ({ U with vm := s.vm } : State) locs k n) : s.heap.size ≤ U.heap.size ∧ ∀ q : Nat, q < s.heap.size → (∀ z ∈ locs, z.base ≠ q) → U.heap[q]? = s.heap[q]? := by
  obtain ⟨-, h2, -, -, -, h6⟩ := h
  refine ⟨h2, fun q hq hz => ?_⟩
  obtain ⟨c9, e1, e2, e3, e4⟩ := h6 q _ (Array.getElem?_eq_getElem hq)
  have hs : c9.slots = (s.heap[q]).slots := Array.ext_getElem? fun i => e4 i fun hm => hz _ hm rfl
  have h9 : c9 = s.heap[q] := by
    rw [hs] at e2
    exact e2
  have e5 : U.heap[q]? = some c9 := e1
  rw [e5, h9, Array.getElem?_eq_getElem hq]
/-- the words of a throw but the four that speak of the heap -/
def vx_no (w : Cond) : Bool := decide (w ≠ .isRef (.static Bundle.tN "UNASSIGNED_STACK" Bundle.steD)) && decide (w ≠ .isRef (.static Bundle.tN "SUPPRESSED_SENTINEL" Bundle.listD)) && decide (w ≠ .laysStatic Bundle.tN "UNASSIGNED_STACK" Bundle.steD) && decide (w ≠ .laysStatic Bundle.tN "SUPPRESSED_SENTINEL" Bundle.listD)
def vx_at0 (own : String) (ic : Nat) (X : String) (names : List String) : List Cond := (Bundle.ownAtoms0 own ic X names).filter vx_no
def vx_atS (own : String) (ic : Nat) (X : String) (names : List String) : List Cond := (Bundle.ownAtoms own ic X names).filter vx_no
/-- a word that the tables alone decide, or a good one -/
def vx_ot (w : Cond) : Bool := w.onTables || goodWord w
theorem vx_ot_at {args a' : Array Value} {s U : State} {w : Cond} (hW : s.WarmedH U.vm) (hvm : s.vm = U.vm) (hg : vx_ot w = true) (h : w.before args s = true) : w.before a' U = true := by
  simp only [vx_ot, Bool.or_eq_true] at hg
  rcases hg with hg | hg
  · exact va_tabs hg hvm h
  · exact word_at hW (good_of_word hg) h
/-- a list's words: the good ones out of the method's own list, the others by premises of their own -/
theorem vx_hat {args : Array Value} {s : State} {L B : List Cond} (h1 : ∀ w ∈ L.filter goodWord, w.before args s = true) (h2 : ∀ w ∈ L.filter (fun w => !goodWord w), w ∈ B) (h3 : ∀ w ∈ B, w.before args s = true) : ∀ w ∈ L, w.before args s = true := by
  intro w hw
  by_cases g : goodWord w = true
  · exact h1 w (List.mem_filter.mpr ⟨hw, g⟩)
  · refine h3 w (h2 w (List.mem_filter.mpr ⟨hw, ?_⟩))
    show (!goodWord w) = true
    cases hgw : goodWord w
    · rfl
    · exact absurd hgw g
theorem vx_c {args : Array Value} {s : State} {w : Cond} {B : List Cond} (h : w.before args s = true) (t : ∀ w ∈ B, w.before args s = true) : ∀ w' ∈ w :: B, w'.before args s = true := fun w' h' => (List.mem_cons.mp h').elim (fun e => by rw [e]; exact h) (t w')
theorem vx_n {args : Array Value} {s : State} : ∀ w ∈ ([] : List Cond), w.before args s = true := fun _ h => nomatch h
theorem vx_own {args : Array Value} {s : State} {L : List Cond} (h1 : ∀ w ∈ L.filter vx_no, w.before args s = true)
    (hU : (Cond.isRef (.static Bundle.tN "UNASSIGNED_STACK" Bundle.steD)).before args s = true) (hN : (Cond.isRef (.static Bundle.tN "SUPPRESSED_SENTINEL" Bundle.listD)).before args s = true)
    (lU : (Cond.laysStatic Bundle.tN "UNASSIGNED_STACK" Bundle.steD).before args s = true) (lN : (Cond.laysStatic Bundle.tN "SUPPRESSED_SENTINEL" Bundle.listD).before args s = true) : ∀ w ∈ L, w.before args s = true := by
  intro w hw
  by_cases e1 : w = .isRef (.static Bundle.tN "UNASSIGNED_STACK" Bundle.steD)
  · rw [e1]; exact hU
  · by_cases e2 : w = .isRef (.static Bundle.tN "SUPPRESSED_SENTINEL" Bundle.listD)
    · rw [e2]; exact hN
    · by_cases e3 : w = .laysStatic Bundle.tN "UNASSIGNED_STACK" Bundle.steD
      · rw [e3]; exact lU
      · by_cases e4 : w = .laysStatic Bundle.tN "SUPPRESSED_SENTINEL" Bundle.listD
        · rw [e4]; exact lN
        · exact h1 w (List.mem_filter.mpr ⟨hw, by unfold vx_no; rw [decide_eq_true e1, decide_eq_true e2, decide_eq_true e3, decide_eq_true e4]; rfl⟩)
/-- where a static field lies, its class's statics cell in H -/
def vx_L (C n d : String) (A : Nat → Prop) (U : State) (H : Heap) : Prop := ∃ (c : ClassId) (k : Class) (i : Nat) (f : Field) (a : Nat) (cell : Cell), U.vm.findClass C = some c ∧ U.fieldFound? C n d = some (c, k, i, f) ∧ f.isStatic = true ∧ k.statics = some a ∧ H[a]? = some cell ∧ cell.vm.isStatics = true ∧ cell.cls = c ∧ f.slot < cell.slots.size ∧ k.staticTypes[f.slot]? = some f.type ∧ ¬ A a
theorem vx_L.moved {C n d : String} {A : Nat → Prop} {u U : State} {H : Heap} (hvm : u.vm.Alike U.vm) (h : vx_L C n d A u H) : vx_L C n d A U H := by
  obtain ⟨c, k, i, f, a, cell, h1, h2, h3, h4, h5, h6, h7, h8, h9, h10⟩ := h
  obtain ⟨k', hi', he⟩ := State.fieldFound?_setVm hvm h2
  exact ⟨c, k', i, f, a, cell, by rw [hvm.findClass]; exact h1, hi', h3, by rw [he]; exact h4, h5, h6, h7, h8, by rw [he]; exact h9, h10⟩
theorem vx_L.kept {C n d : String} {A : Nat → Prop} {U : State} {H H1 : Heap} (h : vx_L C n d A U H) (hq : ∀ a : Nat, a < H.size → ¬ A a → H1[a]? = H[a]?) : vx_L C n d A U H1 := by
  obtain ⟨c, k, i, f, a, cell, h1, h2, h3, h4, h5, h6, h7, h8, h9, h10⟩ := h
  exact ⟨c, k, i, f, a, cell, h1, h2, h3, h4, by rw [hq a (Array.getElem?_eq_some_iff.mp h5).1 h10]; exact h5, h6, h7, h8, h9, h10⟩
theorem vx_L.narrow {C n d : String} {A B : Nat → Prop} {U : State} {H : Heap} (h : vx_L C n d A U H) (hAB : ∀ q, B q → A q) : vx_L C n d B U H := by
  obtain ⟨c, k, i, f, a, cell, h1, h2, h3, h4, h5, h6, h7, h8, h9, h10⟩ := h
  exact ⟨c, k, i, f, a, cell, h1, h2, h3, h4, h5, h6, h7, h8, h9, fun z => h10 (hAB _ z)⟩
theorem vx_L.word {C n d : String} {A : Nat → Prop} {s : State} {args : Array Value} (h : vx_L C n d A s s.heap) : (Cond.laysStatic C n d).before args s = true := by
  obtain ⟨c, k, i, f, a, cell, h1, h2, h3, h4, h5, h6, h7, h8, h9, -⟩ := h
  show (Cond.laysStatic C n d).holds args s none s [] = true
  exact Cond.laysStatic_of h1 h2 h3 h4 h5 h6 h7 h8 h9
/-- .. and what it holds: null or some reference -/
def vx_Zq (C n d : String) (A : Nat → Prop) (U : State) (H : Heap) : Prop := va_Zq C n d A U H ∧ vx_L C n d A U H
theorem vx_Zq.moved {C n d : String} {A : Nat → Prop} {u U : State} {H : Heap} (hvm : u.vm.Alike U.vm) (h : vx_Zq C n d A u H) : vx_Zq C n d A U H := ⟨va_Zq.moved hvm h.1, vx_L.moved hvm h.2⟩
theorem vx_Zq.kept {C n d : String} {A : Nat → Prop} {U : State} {H H1 : Heap} (h : vx_Zq C n d A U H) (hq : ∀ a : Nat, a < H.size → ¬ A a → H1[a]? = H[a]?) : vx_Zq C n d A U H1 := ⟨va_Zq.kept h.1 hq, vx_L.kept h.2 hq⟩
theorem vx_Zq.narrow {C n d : String} {A B : Nat → Prop} {U : State} {H : Heap} (h : vx_Zq C n d A U H) (hAB : ∀ q, B q → A q) : vx_Zq C n d B U H := ⟨va_Zq.narrow h.1 hAB, vx_L.narrow h.2 hAB⟩
theorem vx_Zqof {args : Array Value} {s : State} {C n d : String} {A : Nat → Prop} (hl : (Cond.laysStatic C n d).before args s = true) (hini : (Cond.initialized C).before args s = true) (h : (Cond.isRef (.static C n d)).before args s = true) (hA : ∀ a : Nat, a < s.heap.size → ¬ A a) : vx_Zq C n d A s s.heap := by
  refine ⟨va_Zqof hl hini h hA, ?_⟩
  obtain ⟨c, k, i, f, a, cell, h1, h2, h3, h4, h5, h6, h7, h8, h9⟩ := Cond.laysStatic_spec hl
  exact ⟨c, k, i, f, a, cell, h1, h2, h3, h4, h5, h6, h7, h8, h9, hA a (Array.getElem?_eq_some_iff.mp h5).1⟩
theorem vx_isRef {C n d : String} {v : Value} {A : Nat → Prop} {s : State} {args : Array Value} (h : va_Z C n d v A s s.heap) (hv : v.isRef = true) : (Cond.isRef (.static C n d)).before args s = true := by
  obtain ⟨cf, kf, fi, f, a, cell, h1, h2, h3, h4, h5, h6, h7, -⟩ := h
  have he : (Term.static C n d).eval args s none [] s = some v := by
    simp [Term.eval, State.fieldNamed?, h1, h2, h4, h5, h6, h7]
  simp only [Cond.before, Cond.holds, Cond.value, he]
  cases v <;> simp_all [Value.isRef]
theorem vx_isRefq {C n d : String} {A : Nat → Prop} {s : State} {args : Array Value} (h : va_Zq C n d A s s.heap) : (Cond.isRef (.static C n d)).before args s = true := by
  rcases h with h | ⟨t, h⟩
  · exact vx_isRef h rfl
  · exact vx_isRef h rfl
/-- the same frame, seen from here: as if the method were called anew in this heap -/
theorem vx_rebase {T : State} (X : Stand p l e R s m args below meth c T locs cells slots) {R' : Room} (hf : R'.frames ≤ R.frames) (hl : R'.locals ≤ R.locals) (hc : cells + R'.cells ≤ R.cells) (hs : slots + R'.slots ≤ R.slots) :
    Stand p l e R' ((T.setVm s.vm).setFrames (.invoking m args :: below)) m args below meth c T [] 0 0 := by
  have htop : (T.setVm s.vm).topJava?.isSome := X.here.top
  have hF : ((T.setVm s.vm).setFrames (.invoking m args :: below)).frames = .invoking m args :: below := State.frames_setFrames _ (State.cur_lt_of_top htop)
  obtain ⟨g₀, hg0⟩ := Option.isSome_iff_exists.mp htop
  obtain ⟨r, hr⟩ := State.topJava?_eq_some.mp hg0
  have hl9 : e.platform.stackLimits (T.setVm s.vm).me = e.platform.stackLimits s.me := X.limits
  have hb9 : (T.setVm s.vm).me.stackBytes = s.me.stackBytes := X.bytes
  refine ⟨X.admits, X.cas, X.clock, hF, ?_, X.hears, X.method, X.code, X.here, X.tail, X.warmed, ?_, ?_, ?_⟩
  · have h := X.room
    have hU : ((T.setVm s.vm).setFrames (.invoking m args :: below)).localsInUse = s.localsInUse := by
      rw [State.localsInUse_invoking hF (meth := meth) (c := c) X.method X.code, State.localsInUse_invoking X.frames X.method X.code]
    simp only [State.hasRoom, Bool.and_eq_true, decide_eq_true_eq] at h ⊢
    obtain ⟨⟨⟨⟨h1, h2, h3, h4, h5, h6⟩, h7⟩, h8⟩, h9⟩ := h
    rw [X.frames, List.length_cons] at h2 h3
    have q1 := X.heapSize
    have q2 := X.used
    simp only [hF, hU, List.length_cons, State.stackLimits_setFrames, State.stackBytes_setFrames, hl9, hb9]
    refine ⟨⟨⟨⟨by omega, by omega, by omega, by omega, by omega, h6⟩, ?_⟩, ?_⟩, X.book⟩
    · show T.heap.size + R'.cells ≤ e.platform.maxCells
      omega
    · show T.slotsUsed + R'.slots ≤ e.platform.maxSlots
      omega
  · rw [State.stackLimits_setFrames]; rfl
  · rw [State.stackBytes_setFrames]; rfl
  · refine ⟨?_, Nat.le_refl _, Nat.le_refl _, ?_, ?_, fun a c9 h9 => ⟨c9, h9, rfl, rfl, fun _ _ => rfl⟩⟩
    · obtain ⟨t, ht, -⟩ := State.frames_cons hr
      show T.setVm s.vm = { ((T.setVm s.vm).setFrames (.invoking m args :: below)).setFrames (T.setVm s.vm).frames with heap := T.heap, slotsUsed := T.slotsUsed }
      rw [State.setFrames_setFrames, State.setFrames_self ht]
      rfl
    · show T.slotsUsed = T.slotsUsed + ((T.heap.toList.drop T.heap.size).map (·.slots.size)).sum
      rw [List.drop_eq_nil_of_le (Nat.le_of_eq Array.length_toList)]
      rfl
    · show ((T.heap.toList.drop T.heap.size).map (·.slots.size)).sum ≤ 0
      rw [List.drop_eq_nil_of_le (Nat.le_of_eq Array.length_toList)]
      exact Nat.le_refl _
/-- 'throw new E()': new; dup; invokespecial; athrow -/
theorem vx_throw0 {cc : ByteArray} {pc : Nat} (hexec : p.tables.exec = Jvm.exec) (hb : c.code = cc) (hl : l.stackTraces = false) {own cls : String} {names : List String} {ik ic mc ms : Nat} {A : Nat → Prop}
    (hown : s.vm.findClass own = some m.cls) (hcls : Bundle.fit cls = true) (hnames : ∀ n ∈ names, Bundle.fit n = true)
    (hk : (Cond.classLink own ik cls).before args s = true) (hini : (Cond.initialized cls).before args s = true) (hat : ∀ w ∈ vx_at0 own ic cls names, w.before args s = true)
    (hgood : ∀ w ∈ Cond.classLink own ik cls :: Cond.initialized cls :: vx_at0 own ic cls names, vx_ot w = true)
    (hU : vx_Zq Bundle.tN "UNASSIGNED_STACK" Bundle.steD A s s.heap) (hN : vx_Zq Bundle.tN "SUPPRESSED_SENTINEL" Bundle.listD A s s.heap) (hS : va_S A s.heap H locs) (hsize : ls.size = c.maxLocals)
    (d0 : decode cc pc = .ok (.new ik, 3)) (d3 : decode cc (pc + 3) = .ok (.dup, 1)) (d4 : decode cc (pc + 4) = .ok (.invokespecial ic, 3)) (d7 : decode cc (pc + 7) = .ok (.athrow, 1))
    (hout : ∀ x ∈ c.exceptionTable.toList, covers x (pc + 7) = false)
    (hRframes : names.length + 3 < R.frames) (hRlocals : (rest.map fun v => v.category).sum + (13 * (names.length + 1) + 42) ≤ R.locals) (hRcells : cells + 1 ≤ R.cells) (hRslots : slots + 6 ≤ R.slots) (hlocks : meth.locks = false)
    (hx : ∀ t : State, s.vm.Alike t.vm → H.size ≤ t.heap.size → (∀ q : Nat, q < H.size → t.heap[q]? = H[q]?) → XC cls s t)
    (hf : ∀ z ∈ locs, free z.base) (hc : cells + 1 ≤ mc) (hs : slots + 6 ≤ ms) :
    W p l e R s m args below meth c H locs cells slots (vx_MQ below Qc XC args s mc ms free) (F0 m pc ls rest) := by
  intro T hT X
  have htr : e.platform.stackTraces = false := (show e.platform.stackTraces = l.stackTraces by rw [X.admits.platform]).trans hl
  have Y := vx_rebase X (R' := { frames := R.frames, locals := R.locals, cells := 1, slots := 6 }) (Nat.le_refl _) (Nat.le_refl _) hRcells hRslots
  obtain ⟨s', hA⟩ : ∃ z, z = (T.setVm s.vm).setFrames (.invoking m args :: below) := ⟨_, rfl⟩
  rw [← hA] at Y
  have hvm : s'.vm = s.vm := by rw [hA]; rfl
  have hhp : s'.heap = H := by rw [hA]; exact hT
  have hW0 : s.WarmedH s'.vm := by rw [hvm]; exact State.WarmedH.refl s
  have hat' : ∀ w ∈ vx_at0 own ic cls names, w.before args s' = true := fun w hw => vx_ot_at hW0 hvm.symm (hgood w (List.mem_cons_of_mem _ (List.mem_cons_of_mem _ hw))) (hat w hw)
  have hk' : (Cond.classLink own ik cls).before args s' = true := vx_ot_at hW0 hvm.symm (hgood _ List.mem_cons_self) hk
  have hini' : (Cond.initialized cls).before args s' = true := vx_ot_at hW0 hvm.symm (hgood _ (List.mem_cons_of_mem _ List.mem_cons_self)) hini
  have hU' : vx_Zq Bundle.tN "UNASSIGNED_STACK" Bundle.steD A s' s'.heap := by rw [hhp]; exact vx_Zq.moved hW0.alike (hU.kept hS.2.1)
  have hN' : vx_Zq Bundle.tN "SUPPRESSED_SENTINEL" Bundle.listD A s' s'.heap := by rw [hhp]; exact vx_Zq.moved hW0.alike (hN.kept hS.2.1)
  have h : ∀ w ∈ Bundle.ownAtoms0 own ic cls names, w.before args s' = true := vx_own hat' (vx_isRefq hU'.1) (vx_isRefq hN'.1) hU'.2.word hN'.2.word
  have hown' : s'.vm.findClass own = some m.cls := by rw [hvm]; exact hown
  have hins : (Cond.instantiable cls 6).before args s' = true := h _ (by simp [Bundle.ownAtoms0])
  obtain ⟨vm₁, cX, kX, hfX, hkX, -, -, X₁, st1⟩ := Y.newCold hexec (own := own) (C := cls) (index := ik) (n := 6) hown' hk' hins hini'
    (g := F0 m pc ls rest) rfl (by rw [hb]; exact d0) (Nat.le_refl _) (Nat.le_refl _)
  generalize hT1 : (T.setVm vm₁).pushCell { cls := cX, slots := kX.instanceTypes.map defaultValue, vm := .none } = T1 at X₁ st1
  have hcat : (Value.ref T.heap.size).category = 1 := rfl
  have hcellA : T1.heap[T.heap.size]? = some (freshCell cX kX) := by rw [← hT1]; exact State.heap_pushCell_size _ _
  have d3' : decode c.code (pc + 3) = .ok (.dup, 1) := by rw [hb]; exact d3
  obtain ⟨U, hsteps, hrun, hend, hW, hsame, ce, hce, hO⟩ := X₁.ctorThrow0 hexec htr (own := own) (cls := cls) (names := names) (ic := ic) hown' hcls hnames h (fun x hx => nomatch hx) hfX hkX hcellA (by rw [hhp, hT]; exact Nat.le_refl _)
    (g := { method := m, pc := pc + 4, locals := ls, stack := .ref T.heap.size :: .ref T.heap.size :: rest, locked := none }) rfl hsize rfl rfl (rest := rest) rfl
    (by rw [hb]; exact d4) (by rw [hb]; exact d7) hout hRframes (by simp only [List.map_cons, List.sum_cons, hcat]; omega) hlocks
  obtain ⟨f1, f2⟩ := vx_frame hsame
  rw [hhp] at f1 f2
  have hWs : s.WarmedH U.vm := State.WarmedH.trans hW0 hW
  have hcl : s.vm.findClass cls = some ce.cls := by
    have h9 := hO.cls
    rw [hvm] at h9
    exact h9
  have hall : s.sameButNew ({ U with vm := s.vm } : State) locs mc ms := by
    subst hA
    obtain ⟨e1, e2⟩ := hsame
    rw [State.setFrames_setFrames] at e1
    have h2 : (T.setVm s.vm).sameButNew ({ U with vm := s.vm } : State) [] (0 + 1) (0 + 6) := ⟨e1, e2⟩
    have h3 := X.same.trans h2
    rw [List.append_nil] at h3
    exact h3.mono hc hs
  refine ⟨U, ?_, .threw T.heap.size, hrun, hend, Or.inr ⟨T.heap.size, rfl, cls, ce, locs, hx U hWs.alike f1 (fun q hq => f2 q hq (fun z hz => nomatch hz)), hce, hO.vm, hcl, hWs, hall, hf⟩⟩
  refine st1 _ ?_
  show Steps p.tables e below (T1.setTop { method := m, pc := pc + 3, locals := ls, stack := .ref T.heap.size :: rest, locked := none }) _
  jvm_step X₁.here [X₁.here.top, hexec, d3', Value.category]
  exact hsteps
/-- 'throw new E("text")': new; dup; ldc; invokespecial; athrow -/
theorem vx_throwS {cc : ByteArray} {pc : Nat} (hexec : p.tables.exec = Jvm.exec) (hb : c.code = cc) (hl : l.stackTraces = false) {own cls text : String} {names : List String} {ik is ic mc ms sa : Nat} {A : Nat → Prop}
    (hown : s.vm.findClass own = some m.cls) (hcls : Bundle.fit cls = true) (hnames : ∀ n ∈ names, Bundle.fit n = true)
    (hk : (Cond.classLink own ik cls).before args s = true) (hini : (Cond.initialized cls).before args s = true) (hstr : vk_R own is text sa s) (hat : ∀ w ∈ vx_atS own ic cls names, w.before args s = true)
    (hgood : ∀ w ∈ Cond.classLink own ik cls :: Cond.initialized cls :: vx_atS own ic cls names, vx_ot w = true)
    (hU : vx_Zq Bundle.tN "UNASSIGNED_STACK" Bundle.steD A s s.heap) (hN : vx_Zq Bundle.tN "SUPPRESSED_SENTINEL" Bundle.listD A s s.heap) (hS : va_S A s.heap H locs) (hsize : ls.size = c.maxLocals)
    (d0 : decode cc pc = .ok (.new ik, 3)) (d3 : decode cc (pc + 3) = .ok (.dup, 1)) (d4 : decode cc (pc + 4) = .ok (.ldc is, 2)) (d6 : decode cc (pc + 6) = .ok (.invokespecial ic, 3)) (d9 : decode cc (pc + 9) = .ok (.athrow, 1))
    (hout : ∀ x ∈ c.exceptionTable.toList, covers x (pc + 9) = false)
    (hRframes : names.length + 3 < R.frames) (hRlocals : (rest.map fun v => v.category).sum + (13 * (names.length + 1) + 43) ≤ R.locals) (hRcells : cells + 1 ≤ R.cells) (hRslots : slots + 6 ≤ R.slots) (hlocks : meth.locks = false)
    (hx : ∀ t : State, s.vm.Alike t.vm → H.size ≤ t.heap.size → (∀ q : Nat, q < H.size → t.heap[q]? = H[q]?) → XC cls s t)
    (hf : ∀ z ∈ locs, free z.base) (hc : cells + 1 ≤ mc) (hs : slots + 6 ≤ ms) :
    W p l e R s m args below meth c H locs cells slots (vx_MQ below Qc XC args s mc ms free) (F0 m pc ls rest) := by
  intro T hT X
  have htr : e.platform.stackTraces = false := (show e.platform.stackTraces = l.stackTraces by rw [X.admits.platform]).trans hl
  have Y := vx_rebase X (R' := { frames := R.frames, locals := R.locals, cells := 1, slots := 6 }) (Nat.le_refl _) (Nat.le_refl _) hRcells hRslots
  obtain ⟨s', hA⟩ : ∃ z, z = (T.setVm s.vm).setFrames (.invoking m args :: below) := ⟨_, rfl⟩
  rw [← hA] at Y
  have hvm : s'.vm = s.vm := by rw [hA]; rfl
  have hhp : s'.heap = H := by rw [hA]; exact hT
  have hW0 : s.WarmedH s'.vm := by rw [hvm]; exact State.WarmedH.refl s
  have hat' : ∀ w ∈ vx_atS own ic cls names, w.before args s' = true := fun w hw => vx_ot_at hW0 hvm.symm (hgood w (List.mem_cons_of_mem _ (List.mem_cons_of_mem _ hw))) (hat w hw)
  have hk' : (Cond.classLink own ik cls).before args s' = true := vx_ot_at hW0 hvm.symm (hgood _ List.mem_cons_self) hk
  have hini' : (Cond.initialized cls).before args s' = true := vx_ot_at hW0 hvm.symm (hgood _ (List.mem_cons_of_mem _ List.mem_cons_self)) hini
  have hU' : vx_Zq Bundle.tN "UNASSIGNED_STACK" Bundle.steD A s' s'.heap := by rw [hhp]; exact vx_Zq.moved hW0.alike (hU.kept hS.2.1)
  have hN' : vx_Zq Bundle.tN "SUPPRESSED_SENTINEL" Bundle.listD A s' s'.heap := by rw [hhp]; exact vx_Zq.moved hW0.alike (hN.kept hS.2.1)
  have h : ∀ w ∈ Bundle.ownAtoms own ic cls names, w.before args s' = true := vx_own hat' (vx_isRefq hU'.1) (vx_isRefq hN'.1) hU'.2.word hN'.2.word
  have hown' : s'.vm.findClass own = some m.cls := by rw [hvm]; exact hown
  have hins : (Cond.instantiable cls 6).before args s' = true := h _ (by simp [Bundle.ownAtoms])
  obtain ⟨vm₁, cX, kX, hfX, hkX, -, -, X₁, st1⟩ := Y.newCold hexec (own := own) (C := cls) (index := ik) (n := 6) hown' hk' hins hini'
    (g := F0 m pc ls rest) rfl (by rw [hb]; exact d0) (Nat.le_refl _) (Nat.le_refl _)
  generalize hT1 : (T.setVm vm₁).pushCell { cls := cX, slots := kX.instanceTypes.map defaultValue, vm := .none } = T1 at X₁ st1
  have hcat : (Value.ref T.heap.size).category = 1 := rfl
  have hcellA : T1.heap[T.heap.size]? = some (freshCell cX kX) := by rw [← hT1]; exact State.heap_pushCell_size _ _
  have d3' : decode c.code (pc + 3) = .ok (.dup, 1) := by rw [hb]; exact d3
  have d4' : decode c.code (pc + 4) = .ok (.ldc is, 2) := by rw [hb]; exact d4
  have hstr' : vk_R own is text sa s' := vk_R.warm hW0 hstr
  obtain ⟨U, hsteps, hrun, hend, hW, hsame, ce, hce, hO⟩ := X₁.ctorThrowS hexec htr (own := own) (cls := cls) (names := names) (ic := ic) hown' hcls hnames h (fun x hx => nomatch hx) hfX hkX hcellA (by rw [hhp, hT]; exact Nat.le_refl _) (msg := .ref sa) rfl
    (g := { method := m, pc := pc + 6, locals := ls, stack := .ref sa :: .ref T.heap.size :: .ref T.heap.size :: rest, locked := none }) rfl hsize rfl rfl (rest := rest) rfl
    (by rw [hb]; exact d6) (by rw [hb]; exact d9) hout hRframes (by simp only [List.map_cons, List.sum_cons, hcat]; omega) hlocks
  obtain ⟨f1, f2⟩ := vx_frame hsame
  rw [hhp] at f1 f2
  have hWs : s.WarmedH U.vm := State.WarmedH.trans hW0 hW
  have hcl : s.vm.findClass cls = some ce.cls := by
    have h9 := hO.cls
    rw [hvm] at h9
    exact h9
  have hall : s.sameButNew ({ U with vm := s.vm } : State) locs mc ms := by
    subst hA
    obtain ⟨e1, e2⟩ := hsame
    rw [State.setFrames_setFrames] at e1
    have h2 : (T.setVm s.vm).sameButNew ({ U with vm := s.vm } : State) [] (0 + 1) (0 + 6) := ⟨e1, e2⟩
    have h3 := X.same.trans h2
    rw [List.append_nil] at h3
    exact h3.mono hc hs
  refine ⟨U, ?_, .threw T.heap.size, hrun, hend, Or.inr ⟨T.heap.size, rfl, cls, ce, locs, hx U hWs.alike f1 (fun q hq => f2 q hq (fun z hz => nomatch hz)), hce, hO.vm, hcl, hWs, hall, hf⟩⟩
  refine st1 _ ?_
  show Steps p.tables e below (T1.setTop { method := m, pc := pc + 3, locals := ls, stack := .ref T.heap.size :: rest, locked := none }) _
  jvm_step X₁.here [X₁.here.top, hexec, d3', Value.category]
  exact X₁.ldcString hexec (own := own) (text := text) (index := is) (a := sa) hown' hstr'.1 hstr'.2
    (g := { method := m, pc := pc + 4, locals := ls, stack := .ref T.heap.size :: .ref T.heap.size :: rest, locked := none }) rfl d4' _ hsteps
/-- 'throw new E("text")', the text by a wide index -/
theorem vx_throwSW {cc : ByteArray} {pc : Nat} (hexec : p.tables.exec = Jvm.exec) (hb : c.code = cc) (hl : l.stackTraces = false) {own cls text : String} {names : List String} {ik is ic mc ms sa : Nat} {A : Nat → Prop}
    (hown : s.vm.findClass own = some m.cls) (hcls : Bundle.fit cls = true) (hnames : ∀ n ∈ names, Bundle.fit n = true)
    (hk : (Cond.classLink own ik cls).before args s = true) (hini : (Cond.initialized cls).before args s = true) (hstr : vk_R own is text sa s) (hat : ∀ w ∈ vx_atS own ic cls names, w.before args s = true)
    (hgood : ∀ w ∈ Cond.classLink own ik cls :: Cond.initialized cls :: vx_atS own ic cls names, vx_ot w = true)
    (hU : vx_Zq Bundle.tN "UNASSIGNED_STACK" Bundle.steD A s s.heap) (hN : vx_Zq Bundle.tN "SUPPRESSED_SENTINEL" Bundle.listD A s s.heap) (hS : va_S A s.heap H locs) (hsize : ls.size = c.maxLocals)
    (d0 : decode cc pc = .ok (.new ik, 3)) (d3 : decode cc (pc + 3) = .ok (.dup, 1)) (d4 : decode cc (pc + 4) = .ok (.ldc_w is, 3)) (d7 : decode cc (pc + 7) = .ok (.invokespecial ic, 3)) (d10 : decode cc (pc + 10) = .ok (.athrow, 1))
    (hout : ∀ x ∈ c.exceptionTable.toList, covers x (pc + 10) = false)
    (hRframes : names.length + 3 < R.frames) (hRlocals : (rest.map fun v => v.category).sum + (13 * (names.length + 1) + 43) ≤ R.locals) (hRcells : cells + 1 ≤ R.cells) (hRslots : slots + 6 ≤ R.slots) (hlocks : meth.locks = false)
    (hx : ∀ t : State, s.vm.Alike t.vm → H.size ≤ t.heap.size → (∀ q : Nat, q < H.size → t.heap[q]? = H[q]?) → XC cls s t)
    (hf : ∀ z ∈ locs, free z.base) (hc : cells + 1 ≤ mc) (hs : slots + 6 ≤ ms) :
    W p l e R s m args below meth c H locs cells slots (vx_MQ below Qc XC args s mc ms free) (F0 m pc ls rest) := by
  intro T hT X
  have htr : e.platform.stackTraces = false := (show e.platform.stackTraces = l.stackTraces by rw [X.admits.platform]).trans hl
  have Y := vx_rebase X (R' := { frames := R.frames, locals := R.locals, cells := 1, slots := 6 }) (Nat.le_refl _) (Nat.le_refl _) hRcells hRslots
  obtain ⟨s', hA⟩ : ∃ z, z = (T.setVm s.vm).setFrames (.invoking m args :: below) := ⟨_, rfl⟩
  rw [← hA] at Y
  have hvm : s'.vm = s.vm := by rw [hA]; rfl
  have hhp : s'.heap = H := by rw [hA]; exact hT
  have hW0 : s.WarmedH s'.vm := by rw [hvm]; exact State.WarmedH.refl s
  have hat' : ∀ w ∈ vx_atS own ic cls names, w.before args s' = true := fun w hw => vx_ot_at hW0 hvm.symm (hgood w (List.mem_cons_of_mem _ (List.mem_cons_of_mem _ hw))) (hat w hw)
  have hk' : (Cond.classLink own ik cls).before args s' = true := vx_ot_at hW0 hvm.symm (hgood _ List.mem_cons_self) hk
  have hini' : (Cond.initialized cls).before args s' = true := vx_ot_at hW0 hvm.symm (hgood _ (List.mem_cons_of_mem _ List.mem_cons_self)) hini
  have hU' : vx_Zq Bundle.tN "UNASSIGNED_STACK" Bundle.steD A s' s'.heap := by rw [hhp]; exact vx_Zq.moved hW0.alike (hU.kept hS.2.1)
  have hN' : vx_Zq Bundle.tN "SUPPRESSED_SENTINEL" Bundle.listD A s' s'.heap := by rw [hhp]; exact vx_Zq.moved hW0.alike (hN.kept hS.2.1)
  have h : ∀ w ∈ Bundle.ownAtoms own ic cls names, w.before args s' = true := vx_own hat' (vx_isRefq hU'.1) (vx_isRefq hN'.1) hU'.2.word hN'.2.word
  have hown' : s'.vm.findClass own = some m.cls := by rw [hvm]; exact hown
  have hins : (Cond.instantiable cls 6).before args s' = true := h _ (by simp [Bundle.ownAtoms])
  obtain ⟨vm₁, cX, kX, hfX, hkX, -, -, X₁, st1⟩ := Y.newCold hexec (own := own) (C := cls) (index := ik) (n := 6) hown' hk' hins hini'
    (g := F0 m pc ls rest) rfl (by rw [hb]; exact d0) (Nat.le_refl _) (Nat.le_refl _)
  generalize hT1 : (T.setVm vm₁).pushCell { cls := cX, slots := kX.instanceTypes.map defaultValue, vm := .none } = T1 at X₁ st1
  have hcat : (Value.ref T.heap.size).category = 1 := rfl
  have hcellA : T1.heap[T.heap.size]? = some (freshCell cX kX) := by rw [← hT1]; exact State.heap_pushCell_size _ _
  have d3' : decode c.code (pc + 3) = .ok (.dup, 1) := by rw [hb]; exact d3
  have d4' : decode c.code (pc + 4) = .ok (.ldc_w is, 3) := by rw [hb]; exact d4
  have hstr' : vk_R own is text sa s' := vk_R.warm hW0 hstr
  obtain ⟨U, hsteps, hrun, hend, hW, hsame, ce, hce, hO⟩ := X₁.ctorThrowS hexec htr (own := own) (cls := cls) (names := names) (ic := ic) hown' hcls hnames h (fun x hx => nomatch hx) hfX hkX hcellA (by rw [hhp, hT]; exact Nat.le_refl _) (msg := .ref sa) rfl
    (g := { method := m, pc := pc + 7, locals := ls, stack := .ref sa :: .ref T.heap.size :: .ref T.heap.size :: rest, locked := none }) rfl hsize rfl rfl (rest := rest) rfl
    (by rw [hb]; exact d7) (by rw [hb]; exact d10) hout hRframes (by simp only [List.map_cons, List.sum_cons, hcat]; omega) hlocks
  obtain ⟨f1, f2⟩ := vx_frame hsame
  rw [hhp] at f1 f2
  have hWs : s.WarmedH U.vm := State.WarmedH.trans hW0 hW
  have hcl : s.vm.findClass cls = some ce.cls := by
    have h9 := hO.cls
    rw [hvm] at h9
    exact h9
  have hall : s.sameButNew ({ U with vm := s.vm } : State) locs mc ms := by
    subst hA
    obtain ⟨e1, e2⟩ := hsame
    rw [State.setFrames_setFrames] at e1
    have h2 : (T.setVm s.vm).sameButNew ({ U with vm := s.vm } : State) [] (0 + 1) (0 + 6) := ⟨e1, e2⟩
    have h3 := X.same.trans h2
    rw [List.append_nil] at h3
    exact h3.mono hc hs
  refine ⟨U, ?_, .threw T.heap.size, hrun, hend, Or.inr ⟨T.heap.size, rfl, cls, ce, locs, hx U hWs.alike f1 (fun q hq => f2 q hq (fun z hz => nomatch hz)), hce, hO.vm, hcl, hWs, hall, hf⟩⟩
  refine st1 _ ?_
  show Steps p.tables e below (T1.setTop { method := m, pc := pc + 3, locals := ls, stack := .ref T.heap.size :: rest, locked := none }) _
  jvm_step X₁.here [X₁.here.top, hexec, d3', Value.category]
  exact X₁.ldcStringW hexec (own := own) (text := text) (index := is) (a := sa) hown' hstr'.1 hstr'.2
    (g := { method := m, pc := pc + 4, locals := ls, stack := .ref T.heap.size :: .ref T.heap.size :: rest, locked := none }) rfl d4' _ hsteps
end Ends
section Bodies
variable {l : Launch}
theorem vx_ofW {y : MethodName} {ws ws' : List Cond} {rm : Room} {Pc : Array Value → State → Prop} {Qc : Array Value → State → Outcome → State → Prop} {XC : String → State → State → Prop} {mc ms : Nat} {free : Addr → Prop} {cc : ByteArray} {maxL : Nat} {ret : Option FieldType}
    (hy : plainName y.cls = true) (hw : ws = Cond.code y cc maxL ret :: ws')
    (body : ∀ p e s m args below meth c s₁, BodyLoose p l y (headSpec ws rm) cc maxL ret e s m args below meth c s₁ → c.maxLocals = maxL → (∀ x ∈ c.exceptionTable.toList, False) → Pc args s →
      W p l e (headSpec ws rm).room s m args below meth c s.heap [] 0 0 (vx_MQ below Qc XC args s mc ms free) (entryFrame m args maxL)) : vx_Met l y ws rm Pc Qc XC mc ms free := by
  refine MetFree.of_bodyS (code := cc) (maxLocals := maxL) (ret := ret) hy ?_ ?_
  · intro args s m h hn
    obtain ⟨meth, c, h1, h2, h3, h4, h5, h6, -, -⟩ := Cond.code_spec hn (atoms_spec (ws := ws) h _ (by rw [hw]; exact List.mem_cons_self))
    exact ⟨meth, c, h1, h2, h3, h4, h5, h6⟩
  · intro p e s m args below meth c s₁ B hml hP _
    have hh0 : s₁.heap = s.heap := by rw [B.state]; rfl
    have ht : ∀ x ∈ c.exceptionTable.toList, False := by
      obtain ⟨meth9, c9, h1, h2, -, -, -, -, h7, -⟩ := Cond.code_spec B.named (atoms_spec (ws := ws) B.pre _ (by rw [hw]; exact List.mem_cons_self))
      cases Option.some.inj (h1.symm.trans B.method)
      cases Option.some.inj (h2.symm.trans (Stand.of_body B).code)
      intro x hx
      rw [Array.isEmpty_iff.mp h7] at hx
      cases hx
    obtain ⟨t, a1, o, b1, b2, b3⟩ := body p e s m args below meth c s₁ B hml ht hP s₁ hh0 (Stand.of_body B)
    exact ⟨t, o, a1, b1, b2, b3⟩
/-- the table of a body with handlers -/
theorem vx_table {p : Program} {x y : MethodName} {S : Spec} {cc bytes : ByteArray} {maxL maxL' : Nat} {ret ret' : Option FieldType} {e : Env} {s s₁ : State} {m : MethodId} {args : Array Value} {below : List Frame} {meth : Method} {c : Code} {hh : List (Nat × Nat × Nat × Nat)}
    (B : BodyLoose p l y S cc maxL ret e s m args below meth c s₁) (h : (Cond.codeWith y bytes maxL' ret' hh).before args s = true) : c.exceptionTable.toList = tableOf hh := by
  obtain ⟨m9, meth9, c9, hn9, h1, h2, -, -, h6, -⟩ := Cond.codeWith_spec h
  cases Option.some.inj (hn9.symm.trans B.named)
  cases Option.some.inj (h1.symm.trans B.method)
  cases Option.some.inj (h2.symm.trans (Stand.of_body B).code)
  rw [← h6, table_eq]
end Bodies
end VXA
/-! ===== END ===== -/
/-! ===== BEGIN a static call of a method with an exception table ===== -/
section VXS
variable {p : Program} {l : Launch} {e : Env} {R : Room} {s : State} {m : MethodId} {args : Array Value} {below : List Frame} {meth : Method} {c : Code} {T : State} {H : Heap} {locs : List Loc} {cells slots : Nat}
abbrev vx_CSW (R : Room) (s : State) (args : Array Value) (own : String) (index : Nat) (y : MethodName) (bytes : ByteArray) (maxL : Nat) (ret : Option FieldType) (hh : List (Nat × Nat × Nat × Nat)) (ws : List Cond) (rm : Room) (mc ms n : Nat) : Prop :=
  (rm.cells = mc ∧ rm.slots = ms ∧ rm.frames + 1 ≤ R.frames ∧ 8 + (maxL + 11) + rm.locals ≤ R.locals ∧ (∀ w ∈ ws, ∀ (a' : Array Value) (U : State), s.WarmedH U.vm → w.before a' U = true) ∧ Cond.codeWith y bytes maxL ret hh ∈ ws) ∧
  (Cond.codeWith y bytes maxL ret hh).before args s = true ∧ (Cond.initialized y.cls).before args s = true ∧ (y.cls ≠ "java/lang/invoke/MethodHandle" ∧ y.cls ≠ "java/lang/invoke/VarHandle") ∧
  (∀ sig, parseMethodDescriptor y.desc = some sig → n = sig.parameters.length) ∧ (Cond.methodLink own index y).before args s = true ∧ (Cond.static y).before args s = true
theorem vx_cwSW {own : String} {index maxL mc ms : Nat} {y : MethodName} {bytes : ByteArray} {ret : Option FieldType} {hh : List (Nat × Nat × Nat × Nat)} {Ts ws ws' : List Cond} {rm : Room} (n : Nat) (ht : ∀ w ∈ Ts, w.before args s = true) (hT : GoodIn Ts (va_wsS own index y ws)) (hw : ws = Cond.codeWith y bytes maxL ret hh :: ws') (hrc : rm.cells = mc) (hrs : rm.slots = ms)
    (hd : y.cls ≠ "java/lang/invoke/MethodHandle" ∧ y.cls ≠ "java/lang/invoke/VarHandle" ∧ (parseMethodDescriptor y.desc).map (fun d => d.parameters.length) = some n) (hR : rm.frames + 1 ≤ R.frames ∧ 8 + (maxL + 11) + rm.locals ≤ R.locals) :
    vx_CSW R s args own index y bytes maxL ret hh ws rm mc ms n := by
  have ok : ∀ w ∈ va_wsS own index y ws, w.before args s = true := fun w h => ht w (hT w h).1
  have hG : GoodIn Ts ws := fun w h => hT w (by unfold va_wsS; exact List.mem_append_right _ h)
  have hc : Cond.codeWith y bytes maxL ret hh ∈ ws := by rw [hw]; exact List.mem_cons_self
  refine ⟨⟨hrc, hrs, hR.1, hR.2, pay_in ht hG, hc⟩, ht _ (hG _ hc).1, ok _ (by simp [va_wsS]), ⟨hd.1, hd.2.1⟩, fun sig h => ?_, ok _ (by simp [va_wsS]), ok _ (by simp [va_wsS])⟩
  have h2 := hd.2.2
  rw [h] at h2
  exact (Option.some.inj h2).symm
theorem vx_callSW (X : Stand p l e R s m args below meth c T locs cells slots) (hexec : p.tables.exec = Jvm.exec) {own : String} {index : Nat} {y : MethodName} {bytes : ByteArray} {maxL : Nat} {ret : Option FieldType} {hh : List (Nat × Nat × Nat × Nat)}
    (hown : s.vm.findClass own = some m.cls) (hlink : (Cond.methodLink own index y).before args s = true) (hstat : (Cond.static y).before args s = true) (hinit : (Cond.initialized y.cls).before args s = true)
    (hcode : (Cond.codeWith y bytes maxL ret hh).before args s = true) (hy : y.cls ≠ "java/lang/invoke/MethodHandle" ∧ y.cls ≠ "java/lang/invoke/VarHandle")
    {W9 : Nat} {Pre : Pt → Array Value → Prop} {Post : Pt → Array Value → Option Value → Pt → Prop} (hK : Back l R p e below s args y 3 W9 Pre Post)
    {g : JFrame} (hg : g.method = m) (hsize : g.locals.size = c.maxLocals) {argsL rest : List Value} (hlen : ∀ sig, parseMethodDescriptor y.desc = some sig → argsL.length = sig.parameters.length)
    (hstack : g.stack = argsL.reverse ++ rest) (hW : 2 * g.monitorRoom + (rest.map fun v => v.category).sum ≤ W9) (hdg : decode c.code g.pc = .ok (.invokestatic index, 3))
    (hpre : ∀ vm₁, s.WarmedH vm₁ → Pre ⟨T.setVm vm₁, locs, cells, slots⟩ argsL.toArray) :
    ∃ (v : Option Value) (vm₁ : Vm) (B : Pt), s.WarmedH vm₁ ∧ Stand p l e R s m args below meth c B.U B.locs B.cells B.slots ∧ Post ⟨T.setVm vm₁, locs, cells, slots⟩ argsL.toArray v B ∧
      ∀ target, Steps p.tables e below (B.U.setTop { g with pc := g.pc + 3, stack := v.toList ++ rest }) target → Steps p.tables e below (T.setTop g) target := by
  obtain ⟨mk, methM, cM, hnamed, hmethM, -, -, -, -, -, -, hsigM⟩ := Cond.codeWith_spec hcode
  have hstatic : methM.isStatic = true := Cond.static_spec hnamed hmethM hstat
  obtain ⟨kP, hkP, -⟩ := className_of_methodNamed hnamed
  have hinitP : kP.init = .initialized := Cond.initialized_spec (findClass_of_methodNamed hnamed) hkP hinit
  obtain ⟨vm₁, X₁, hstep₁⟩ := X.invokestatic hexec hown hlink hnamed hmethM hstatic hkP hinitP hy (g := g) hg (argsL := argsL) (rest := rest) (hlen _ hsigM) hstack hdg
  obtain ⟨v, B, X', hpost, hsteps⟩ := hK m meth c ⟨T.setVm vm₁, locs, cells, slots⟩ { g with stack := rest } (.invokestatic index) mk argsL.toArray X₁ hg hsize hdg hW (X₁.named hnamed) (hpre vm₁ X₁.warmed)
  exact ⟨v, vm₁, B, X₁.warmed, X', hpost, fun target h => hstep₁ _ fun acts => by rw [doInvoke_state]; exact hsteps.trans h⟩
theorem vx_runSW {y : MethodName} {bytes cc : ByteArray} {maxL nL mc ms n index : Nat} {ret : Option FieldType} {hh : List (Nat × Nat × Nat × Nat)} {ws : List Cond} {rm : Room} {Pc : Array Value → State → Prop} {Qc : Array Value → State → Outcome → State → Prop} {free : Addr → Prop} {Ts : List Cond} {own : String} {As rest : List Value} {g : JFrame}
    (S : CallFix p m c cc nL s args Ts own) (hM : Met l y ws rm Pc Qc mc ms free) (cw : vx_CSW R s args own index y bytes maxL ret hh ws rm mc ms n) (hp : PreS s H Pc As)
    (hg : g.method = m) (hn : As.length = n) (hsize : g.locals.size = nL) (hstack : g.stack = As.reverse ++ rest) (hW : 2 * g.monitorRoom + (rest.map fun v => v.category).sum ≤ 8) (hdg : decode cc g.pc = .ok (.invokestatic index, 3)) (hf : cells + mc ≤ R.cells ∧ slots + ms ≤ R.slots) :
    va_Run p l e R s m args below meth c H locs cells slots mc ms g rest (Qc As.toArray) (free) := by
  obtain ⟨⟨hrc, hrs, hfr, hlo, hws, hcw⟩, hcode, hini, hy, hlen, hl, hstt⟩ := cw
  have hK : Back l R p e below s args y 3 8 (PreOf R mc ms Pc) (PostOf Qc mc ms free) := va_backW (hh := hh) (bytes := bytes) (maxL := maxL) (ret := ret) hM hp.1 hrc hrs hfr hlo hws hcw (fun a' U hW => word_at hW (Or.inl (by first | rfl | simp [Cond.onTables, Cond.keeps, Cond.steady])) hini)
  obtain ⟨hx, hb, hml, ho, -⟩ := S
  intro T hT X
  obtain ⟨v, vm₁, ⟨U', l2, c2, s2⟩, hW₁, X', ⟨g', mk, t, L, e1, e2, hq, h1, hL, h2, h3⟩, st⟩ := vx_callSW X hx (hh := hh) (bytes := bytes) (maxL := maxL) (ret := ret) ho hl hstt hini hcode hy hK hg (hsize.trans hml.symm) (argsL := As) (rest := rest) (fun sig h => hn.trans (hlen sig h)) hstack hW (by rw [hb]; exact hdg)
    (fun vm₁ hW₁ => ⟨hf.1, hf.2, hp.2 (T.setVm vm₁) hT hW₁⟩)
  dsimp only [Pt.U, Pt.locs, Pt.cells, Pt.slots] at X' e1 e2 h1 h2 h3 st
  subst h1; subst h2; subst h3
  exact ⟨v, (T.setVm vm₁).calling g' mk As.toArray, t, U', L, hT, X', hL, e1, e2, hq, st⟩
/-- not caught here, past rows that name other classes: it goes on to the caller -/
theorem vx_outP {p : Program} {l : Launch} {e : Env} {R : Room} {s : State} {m : MethodId} {args : Array Value} {below : List Frame} {meth : Method} {c : Code} {H : Heap} {locs : List Loc} {cells slots : Nat} {free : Addr → Prop} {ls : Array Slot} {rest : List Value} {Qc : Array Value → State → Outcome → State → Prop} {XC : String → State → State → Prop}
    {pc : Nat} {own E : String} {ce : Cell} {q : Addr} {mc ms : Nat} (hown : s.vm.findClass own = some m.cls) (hlocks : meth.locks = false)
    (hpass : ∀ z ∈ c.exceptionTable.toList, covers z pc = false ∨ (z.catchType ≠ 0 ∧ ∃ nm : String, (Cond.classLink own z.catchType nm).before args s = true ∧ va_Nc E nm s)) (hcell : H[q]? = some ce) (hv : ce.vm = .none) (hcl : s.vm.findClass E = some ce.cls)
    (hx : ∀ t : State, t.heap = H → s.vm.Alike t.vm → XC E s t) (hf : ∀ z ∈ locs, free z.base) (hc : cells ≤ mc) (hs : slots ≤ ms) :
    vx_W p l e R s m args below meth c H locs cells slots (vx_MQ below Qc XC args s mc ms free) (F0 m pc ls rest) q := by
  intro T hT X
  have hpl : e.platform.magicAccessors = ({} : Platform).magicAccessors := by rw [X.admits.platform]
  obtain ⟨vm', hW', X', st⟩ := X.outThrough hlocks q (g := F0 m pc ls rest) rfl rfl rfl (cell := ce) (by rw [hT]; exact hcell) (by rw [hv]; rfl)
    (by obtain ⟨k9, h9, -⟩ := Vm.findClass_spec hcl; exact ⟨k9, h9⟩) (fun z hz => by
      rcases hpass z hz with h | ⟨hz0, nm, hl1, hn1⟩
      · exact Or.inl h
      · obtain ⟨c6, hc6, hcl6⟩ := Cond.classLink_spec hown hl1 e.platform hpl
        obtain ⟨a8, b8, h1, h2, h3⟩ := hn1
        cases Option.some.inj (h1.symm.trans hcl)
        cases Option.some.inj (h2.symm.trans hc6)
        exact Or.inr ⟨hz0, _, hcl6, h3⟩)
  obtain ⟨g₀, hfr⟩ := X'.frames_eq
  have hcell9 : ((T.setVm vm').setFrames (.throwing q :: below)).heap[q]? = some ce := by
    show T.heap[q]? = some ce
    rw [hT]; exact hcell
  have hend : Ended ((T.setVm vm').setFrames (.throwing q :: below)) below (.threw q) := State.frames_setFrames _ (State.cur_lt_of_frames hfr)
  refine ⟨(T.setVm vm').setFrames (.throwing q :: below), ?_, .threw q, X'.here.running, hend, Or.inr ⟨q, rfl, E, ce, locs, hx _ hT (X'.ends _).1.alike, hcell9, hv, hcl, (X'.ends _).1, (X'.ends _).2.mono hc hs, hf⟩⟩
  rw [X.pushThrowing_eq]
  exact st
/-- a thing of a world lies in the heap -/
theorem vx_lt {D : va_G} {cl : List vw_C} {ws : va_W} {H1 : Heap} (h : va_P D cl ws H1) {k : Nat} {q : Nat × va_E} (hk : ws[k]? = some q) : q.1 < H1.size := (h k q hk).lt
end VXS
/-! ===== END ===== -/
/-! ===== BEGIN methods with a table of their own: called by a name, returning or throwing ===== -/
section VXH
/-! vx_backW, vx_callVX, vx_callSX, vx_callVW, vx_runVW, vx_runVX, vx_runSX, vx_ofWH follow the same proofs as their sisters above (Free/Laws.lean, Shelf42/LK1.lean); vx_outP calls Shelf42/NT130.lean (outThrough). -/
section
variable {l : Launch} {R : Room} {p : Program} {e : Env} {below : List Frame} {s : State} {sargs : Array Value} {y : MethodName} {len W9 : Nat}
theorem vx_backW {ws : List Cond} {rm : Room} {Pc : Array Value → State → Prop} {Qc : Array Value → State → Outcome → State → Prop} {XC : String → State → State → Prop} {mc ms : Nat} {free : Addr → Prop} {bytes : ByteArray} {maxL : Nat} {ret : Option FieldType} {hh : List (Nat × Nat × Nat × Nat)}
    (hM : vx_Met l y ws rm Pc Qc XC mc ms free) (hblind : FrameBlind Pc) (hrc : rm.cells = mc) (hrs : rm.slots = ms)
    (hframes : rm.frames + 1 ≤ R.frames) (hlocals : W9 + (maxL + 11) + rm.locals ≤ R.locals)
    (hws : ∀ w ∈ ws, ∀ a' U, s.WarmedH U.vm → w.before a' U = true) (hcode : Cond.codeWith y bytes maxL ret hh ∈ ws) (hinit : ∀ a' U, s.WarmedH U.vm → (Cond.initialized y.cls).before a' U = true) :
    vx_Back l R p e below s sargs y len W9 (PreOf R mc ms Pc) (PostOf Qc mc ms free) (vx_Post XC mc ms free) := by
  intro m meth c A g ig mk a X hg hsize hdg hW hn hp
  have h1 : (headSpec ws rm).pre.before a A.U = true := atoms_intro fun w hw => hws w hw _ _ X.warmed
  have h2 : (Cond.codeWith y bytes maxL ret hh).before a A.U = true := hws _ hcode _ _ X.warmed
  have h3 : (Cond.initialized y.cls).before a A.U = true := hinit _ _ X.warmed
  have h4 : A.cells + (headSpec ws rm).room.cells ≤ R.cells := by rw [show (headSpec ws rm).room.cells = mc from hrc]; exact hp.1
  have h5 : A.slots + (headSpec ws rm).room.slots ≤ R.slots := by rw [show (headSpec ws rm).room.slots = ms from hrs]; exact hp.2.1
  have hPc : Pc a (A.U.calling g mk a) := hblind _ _ _ _ hp.2.2
  obtain ⟨U, Ls, c0, s0⟩ := A
  dsimp only [Pt.U, Pt.locs, Pt.cells, Pt.slots] at h1 h2 h3 h4 h5 X hn hPc ⊢
  obtain ⟨m9, methY, cY, hn9, hmY, hcY, -, hlY, -⟩ := Cond.codeWith_spec h2
  cases Option.some.inj (hn9.symm.trans hn)
  obtain ⟨kY, hkY, -⟩ := className_of_methodNamed hn
  have hinitY : kY.init = .initialized := Cond.initialized_spec (findClass_of_methodNamed hn) hkY h3
  have h : At U g.method c below := by rw [hg]; exact X.here
  have hlocals9 : W9 + (maxL + 11) + (headSpec ws rm).room.locals ≤ R.locals := hlocals
  have happ : (headSpec ws rm).appliesLoose y e.platform (U.calling g mk a) = true :=
    Spec.appliesLoose_calling (g := g) h hdg hn hkY hinitY
      (X.room_calling (g := g) (R' := (headSpec ws rm).room) hsize hmY hcY hframes (by rw [hlY]; omega) h4 h5) h1
  obtain ⟨mid, hmid⟩ := h.above
  have hfr : (U.setTop g).frames = (.java g :: mid) ++ below := by rw [State.frames_setTop' g h.top, hmid]; rfl
  obtain ⟨o, s₂, hsteps, -, hend, hq⟩ := Steps.callFree hM p X.admits X.cas X.clock (acts := []) hfr happ hPc trivial
  have hq' : vx_Q Qc XC mc ms free a (U.calling g mk a) o s₂ := hq
  rw [State.frames_setTop' g h.top] at hend
  obtain ⟨g₀, hg0⟩ := Option.isSome_iff_exists.mp h.top
  obtain ⟨r, hr⟩ := State.topJava?_eq_some.mp hg0
  have hr' : (({ U with heap := s₂.heap, slotsUsed := s₂.slotsUsed } : State).setVm s₂.vm).frames = .java g₀ :: r := hr
  rcases hq' with ⟨hqc, L, hfe, hL⟩ | ⟨q, rfl, E, ce, L, hx, hce, hcv, hcl, hW₂, hsm, hL⟩
  · obtain ⟨⟨v, rfl⟩, hW₂, e2, q2, q3, q4, q5, q6⟩ := id hfe
    have e3 : s₂ = ({ (U.calling g mk a).setFrames s₂.frames with heap := s₂.heap, slotsUsed := s₂.slotsUsed } : State).setVm s₂.vm := by
      have : s₂ = ({ s₂ with vm := (U.calling g mk a).vm } : State).setVm s₂.vm := rfl
      rw [e2] at this
      exact this
    obtain ⟨c₂, i₂, len₂, hc₂, hd₂, hf₂⟩ := hend
    have hW' : U.WarmedH s₂.vm := hW₂
    have hcc : c₂ = c := by
      have h1 : s₂.code? g.method = U.code? g.method := by
        rw [State.code?_eq, State.code?_eq, hW'.alike.method?]
      exact Option.some.inj (hc₂.symm.trans (h1.trans h.code))
    subst hcc
    have hlen : len₂ = len := by rw [hdg] at hd₂; cases hd₂; rfl
    subst hlen
    have hs₂ : s₂ = (({ U with heap := s₂.heap, slotsUsed := s₂.slotsUsed } : State).setVm s₂.vm).setTop { g with pc := g.pc + len₂, stack := v.toList ++ g.stack } := by
      refine e3.trans ?_
      rw [hf₂, State.calling_eq h.top, State.setFrames_setFrames, State.setTop_of_frames _ hr', hr]
      rfl
    have hsame : U.sameButNew ({ U with heap := s₂.heap, slotsUsed := s₂.slotsUsed } : State) L mc ms := by
      refine ⟨?_, q2, q3, q4, q5, q6⟩
      obtain ⟨t, ht, -⟩ := State.frames_cons hr
      show ({ U with heap := s₂.heap, slotsUsed := s₂.slotsUsed } : State) = { U.setFrames U.frames with heap := s₂.heap, slotsUsed := s₂.slotsUsed }
      rw [State.setFrames_self ht]
    subst hg
    refine Or.inl ⟨v, ⟨(({ U with heap := s₂.heap, slotsUsed := s₂.slotsUsed } : State).setVm s₂.vm), Ls ++ L, c0 + mc, s0 + ms⟩,
      ⟨X.admits, X.cas, X.clock, X.frames, X.room, X.hears, X.method, X.code, (X.here.setHeapUsed s₂.heap s₂.slotsUsed).setVm hW'.alike, X.tail, State.WarmedH.trans X.warmed hW', X.limits, X.bytes, X.same.trans (hsame.setVm s.vm)⟩,
      ⟨g, mk, s₂, L, rfl, rfl, hqc, rfl, hL, rfl, rfl⟩, ?_⟩
    show Steps p.tables e below _ ((({ U with heap := s₂.heap, slotsUsed := s₂.slotsUsed } : State).setVm s₂.vm).setTop { g with pc := g.pc + len₂, stack := v.toList ++ g.stack })
    rw [← hs₂]
    exact hsteps
  · obtain ⟨e2, q2, q3, q4, q5, q6⟩ := id hsm
    have e3 : s₂ = ({ (U.calling g mk a).setFrames s₂.frames with heap := s₂.heap, slotsUsed := s₂.slotsUsed } : State).setVm s₂.vm := by
      have : s₂ = ({ s₂ with vm := (U.calling g mk a).vm } : State).setVm s₂.vm := rfl
      rw [e2] at this
      exact this
    have hf₂ : s₂.frames = .throwing q :: .java g :: U.frames.tail := hend
    have hW' : U.WarmedH s₂.vm := hW₂
    have hs₂ : s₂ = ((({ U with heap := s₂.heap, slotsUsed := s₂.slotsUsed } : State).setVm s₂.vm).setTop g).pushFrame (.throwing q) := by
      refine e3.trans ?_
      rw [hf₂, State.calling_eq h.top, State.setFrames_setFrames, State.pushFrame, State.frames_setTop _ hr', State.setTop_of_frames _ hr', State.setFrames_setFrames, hr]
      rfl
    have hsame : U.sameButNew ({ U with heap := s₂.heap, slotsUsed := s₂.slotsUsed } : State) L mc ms := by
      refine ⟨?_, q2, q3, q4, q5, q6⟩
      obtain ⟨t, ht, -⟩ := State.frames_cons hr
      show ({ U with heap := s₂.heap, slotsUsed := s₂.slotsUsed } : State) = { U.setFrames U.frames with heap := s₂.heap, slotsUsed := s₂.slotsUsed }
      rw [State.setFrames_self ht]
    subst hg
    refine Or.inr ⟨q, ⟨(({ U with heap := s₂.heap, slotsUsed := s₂.slotsUsed } : State).setVm s₂.vm), Ls ++ L, c0 + mc, s0 + ms⟩,
      ⟨X.admits, X.cas, X.clock, X.frames, X.room, X.hears, X.method, X.code, (X.here.setHeapUsed s₂.heap s₂.slotsUsed).setVm hW'.alike, X.tail, State.WarmedH.trans X.warmed hW', X.limits, X.bytes, X.same.trans (hsame.setVm s.vm)⟩,
      ⟨g, mk, s₂, L, E, ce, rfl, rfl, hx, hce, hcv, hcl, rfl, hL, rfl, rfl⟩, ?_⟩
    show Steps p.tables e below _ (((({ U with heap := s₂.heap, slotsUsed := s₂.slotsUsed } : State).setVm s₂.vm).setTop g).pushFrame (.throwing q))
    rw [← hs₂]
    exact hsteps
end
variable {p : Program} {l : Launch} {e : Env} {R : Room} {s : State} {m : MethodId} {args : Array Value} {below : List Frame} {meth : Method} {c : Code} {T : State} {H : Heap} {locs : List Loc} {cells slots : Nat}
theorem vx_callVX (X : Stand p l e R s m args below meth c T locs cells slots) (hexec : p.tables.exec = Jvm.exec) {own C : String} {index : Nat} {y : MethodName} {bytes : ByteArray} {maxL : Nat} {ret : Option FieldType} {hh : List (Nat × Nat × Nat × Nat)}
    (hown : s.vm.findClass own = some m.cls) (hlink : (Cond.methodLink own index y).before args s = true) (hinst : (Cond.instanceMethod y).before args s = true) (hsel : (Cond.selects C y y).before args s = true)
    (hcode : (Cond.codeWith y bytes maxL ret hh).before args s = true) (hy : y.cls ≠ "java/lang/invoke/MethodHandle" ∧ y.cls ≠ "java/lang/invoke/VarHandle")
    {W9 : Nat} {Pre : Pt → Array Value → Prop} {Post : Pt → Array Value → Option Value → Pt → Prop} {PostX : Pt → Array Value → Addr → Pt → Prop} (hK : vx_Back l R p e below s args y 3 W9 Pre Post PostX)
    {b : Addr} {cellB : Cell} (hcell : T.heap[b]? = some cellB) (hobj : cellB.vm.isStatics = false) (hcls : s.vm.findClass C = some cellB.cls)
    {g : JFrame} (hg : g.method = m) (hsize : g.locals.size = c.maxLocals) {argsL rest : List Value} (hlen : ∀ sig, parseMethodDescriptor y.desc = some sig → argsL.length = sig.parameters.length)
    (hstack : g.stack = argsL.reverse ++ .ref b :: rest) (hW : 2 * g.monitorRoom + (rest.map fun v => v.category).sum ≤ W9) (hdg : decode c.code g.pc = .ok (.invokevirtual index, 3))
    (hpre : ∀ vm₁, s.WarmedH vm₁ → Pre ⟨T.setVm vm₁, locs, cells, slots⟩ (Value.ref b :: argsL).toArray) :
    (∃ (v : Option Value) (vm₁ : Vm) (B : Pt), s.WarmedH vm₁ ∧ Stand p l e R s m args below meth c B.U B.locs B.cells B.slots ∧ Post ⟨T.setVm vm₁, locs, cells, slots⟩ (Value.ref b :: argsL).toArray v B ∧
      ∀ target, Steps p.tables e below (B.U.setTop { g with pc := g.pc + 3, stack := v.toList ++ rest }) target → Steps p.tables e below (T.setTop g) target) ∨
    (∃ (q : Addr) (vm₁ : Vm) (B : Pt), s.WarmedH vm₁ ∧ Stand p l e R s m args below meth c B.U B.locs B.cells B.slots ∧ PostX ⟨T.setVm vm₁, locs, cells, slots⟩ (Value.ref b :: argsL).toArray q B ∧
      Steps p.tables e below (T.setTop g) ((B.U.setTop { g with stack := rest }).pushFrame (.throwing q))) := by
  obtain ⟨mk, methM, hnamed, hmethM, hstM, habM⟩ := Cond.instanceMethod_spec hinst
  obtain ⟨m8, methM', cM, hn8, hmethM', -, -, -, -, -, -, hsigM⟩ := Cond.codeWith_spec hcode
  cases Option.some.inj (hn8.symm.trans hnamed)
  cases hmethM.symm.trans hmethM'
  obtain ⟨c2, r2, m2, q1, q2, q3, q4, kP, hkP, hkPi⟩ := Cond.selects_spec hsel
  cases hcls.symm.trans q1
  cases (State.methodFound?_of_named hnamed hy).symm.trans q2
  cases hnamed.symm.trans q3
  have hselP : selectMethod e.platform s.vm cellB.cls mk = .method mk := by rw [Launch.admits_selectMethod X.admits]; exact q4
  obtain ⟨vm₁, X₁, hstep₁⟩ := X.invokevirtual hexec hown hlink hnamed hmethM hstM hkP hkPi hy (a := b) (cell := cellB) hcell
    (fun z h => by rw [h] at hobj; cases hobj) hselP hmethM habM hkP hkPi (g := g) hg (argsL := argsL) (rest := rest) (hlen _ hsigM) hstack hdg
  rcases hK m meth c ⟨T.setVm vm₁, locs, cells, slots⟩ { g with stack := rest } (.invokevirtual index) mk (Value.ref b :: argsL).toArray X₁ hg hsize hdg hW (X₁.named hnamed) (hpre vm₁ X₁.warmed) with ⟨v, B, X', hpost, hsteps⟩ | ⟨q, B, X', hpost, hsteps⟩
  · exact Or.inl ⟨v, vm₁, B, X₁.warmed, X', hpost, fun target h => hstep₁ _ fun acts => by rw [doInvoke_state]; exact hsteps.trans h⟩
  · exact Or.inr ⟨q, vm₁, B, X₁.warmed, X', hpost, hstep₁ _ fun acts => by rw [doInvoke_state]; exact hsteps⟩
theorem vx_callSX (X : Stand p l e R s m args below meth c T locs cells slots) (hexec : p.tables.exec = Jvm.exec) {own : String} {index : Nat} {y : MethodName} {bytes : ByteArray} {maxL : Nat} {ret : Option FieldType} {hh : List (Nat × Nat × Nat × Nat)}
    (hown : s.vm.findClass own = some m.cls) (hlink : (Cond.methodLink own index y).before args s = true) (hstat : (Cond.static y).before args s = true) (hinit : (Cond.initialized y.cls).before args s = true)
    (hcode : (Cond.codeWith y bytes maxL ret hh).before args s = true) (hy : y.cls ≠ "java/lang/invoke/MethodHandle" ∧ y.cls ≠ "java/lang/invoke/VarHandle")
    {W9 : Nat} {Pre : Pt → Array Value → Prop} {Post : Pt → Array Value → Option Value → Pt → Prop} {PostX : Pt → Array Value → Addr → Pt → Prop} (hK : vx_Back l R p e below s args y 3 W9 Pre Post PostX)
    {g : JFrame} (hg : g.method = m) (hsize : g.locals.size = c.maxLocals) {argsL rest : List Value} (hlen : ∀ sig, parseMethodDescriptor y.desc = some sig → argsL.length = sig.parameters.length)
    (hstack : g.stack = argsL.reverse ++ rest) (hW : 2 * g.monitorRoom + (rest.map fun v => v.category).sum ≤ W9) (hdg : decode c.code g.pc = .ok (.invokestatic index, 3))
    (hpre : ∀ vm₁, s.WarmedH vm₁ → Pre ⟨T.setVm vm₁, locs, cells, slots⟩ argsL.toArray) :
    (∃ (v : Option Value) (vm₁ : Vm) (B : Pt), s.WarmedH vm₁ ∧ Stand p l e R s m args below meth c B.U B.locs B.cells B.slots ∧ Post ⟨T.setVm vm₁, locs, cells, slots⟩ argsL.toArray v B ∧
      ∀ target, Steps p.tables e below (B.U.setTop { g with pc := g.pc + 3, stack := v.toList ++ rest }) target → Steps p.tables e below (T.setTop g) target) ∨
    (∃ (q : Addr) (vm₁ : Vm) (B : Pt), s.WarmedH vm₁ ∧ Stand p l e R s m args below meth c B.U B.locs B.cells B.slots ∧ PostX ⟨T.setVm vm₁, locs, cells, slots⟩ argsL.toArray q B ∧
      Steps p.tables e below (T.setTop g) ((B.U.setTop { g with stack := rest }).pushFrame (.throwing q))) := by
  obtain ⟨mk, methM, cM, hnamed, hmethM, -, -, -, -, -, -, hsigM⟩ := Cond.codeWith_spec hcode
  have hstatic : methM.isStatic = true := Cond.static_spec hnamed hmethM hstat
  obtain ⟨kP, hkP, -⟩ := className_of_methodNamed hnamed
  have hinitP : kP.init = .initialized := Cond.initialized_spec (findClass_of_methodNamed hnamed) hkP hinit
  obtain ⟨vm₁, X₁, hstep₁⟩ := X.invokestatic hexec hown hlink hnamed hmethM hstatic hkP hinitP hy (g := g) hg (argsL := argsL) (rest := rest) (hlen _ hsigM) hstack hdg
  rcases hK m meth c ⟨T.setVm vm₁, locs, cells, slots⟩ { g with stack := rest } (.invokestatic index) mk argsL.toArray X₁ hg hsize hdg hW (X₁.named hnamed) (hpre vm₁ X₁.warmed) with ⟨v, B, X', hpost, hsteps⟩ | ⟨q, B, X', hpost, hsteps⟩
  · exact Or.inl ⟨v, vm₁, B, X₁.warmed, X', hpost, fun target h => hstep₁ _ fun acts => by rw [doInvoke_state]; exact hsteps.trans h⟩
  · exact Or.inr ⟨q, vm₁, B, X₁.warmed, X', hpost, hstep₁ _ fun acts => by rw [doInvoke_state]; exact hsteps⟩
theorem vx_callVW (X : Stand p l e R s m args below meth c T locs cells slots) (hexec : p.tables.exec = Jvm.exec) {own C : String} {index : Nat} {y : MethodName} {bytes : ByteArray} {maxL : Nat} {ret : Option FieldType} {hh : List (Nat × Nat × Nat × Nat)}
    (hown : s.vm.findClass own = some m.cls) (hlink : (Cond.methodLink own index y).before args s = true) (hinst : (Cond.instanceMethod y).before args s = true) (hsel : (Cond.selects C y y).before args s = true)
    (hcode : (Cond.codeWith y bytes maxL ret hh).before args s = true) (hy : y.cls ≠ "java/lang/invoke/MethodHandle" ∧ y.cls ≠ "java/lang/invoke/VarHandle")
    {W9 : Nat} {Pre : Pt → Array Value → Prop} {Post : Pt → Array Value → Option Value → Pt → Prop} (hK : Back l R p e below s args y 3 W9 Pre Post)
    {b : Addr} {cellB : Cell} (hcell : T.heap[b]? = some cellB) (hobj : cellB.vm.isStatics = false) (hcls : s.vm.findClass C = some cellB.cls)
    {g : JFrame} (hg : g.method = m) (hsize : g.locals.size = c.maxLocals) {argsL rest : List Value} (hlen : ∀ sig, parseMethodDescriptor y.desc = some sig → argsL.length = sig.parameters.length)
    (hstack : g.stack = argsL.reverse ++ .ref b :: rest) (hW : 2 * g.monitorRoom + (rest.map fun v => v.category).sum ≤ W9) (hdg : decode c.code g.pc = .ok (.invokevirtual index, 3))
    (hpre : ∀ vm₁, s.WarmedH vm₁ → Pre ⟨T.setVm vm₁, locs, cells, slots⟩ (Value.ref b :: argsL).toArray) :
    ∃ (v : Option Value) (vm₁ : Vm) (B : Pt), s.WarmedH vm₁ ∧ Stand p l e R s m args below meth c B.U B.locs B.cells B.slots ∧ Post ⟨T.setVm vm₁, locs, cells, slots⟩ (Value.ref b :: argsL).toArray v B ∧
      ∀ target, Steps p.tables e below (B.U.setTop { g with pc := g.pc + 3, stack := v.toList ++ rest }) target → Steps p.tables e below (T.setTop g) target := by
  obtain ⟨mk, methM, hnamed, hmethM, hstM, habM⟩ := Cond.instanceMethod_spec hinst
  obtain ⟨m8, methM', cM, hn8, hmethM', -, -, -, -, -, -, hsigM⟩ := Cond.codeWith_spec hcode
  cases Option.some.inj (hn8.symm.trans hnamed)
  cases hmethM.symm.trans hmethM'
  obtain ⟨c2, r2, m2, q1, q2, q3, q4, kP, hkP, hkPi⟩ := Cond.selects_spec hsel
  cases hcls.symm.trans q1
  cases (State.methodFound?_of_named hnamed hy).symm.trans q2
  cases hnamed.symm.trans q3
  have hselP : selectMethod e.platform s.vm cellB.cls mk = .method mk := by rw [Launch.admits_selectMethod X.admits]; exact q4
  obtain ⟨vm₁, X₁, hstep₁⟩ := X.invokevirtual hexec hown hlink hnamed hmethM hstM hkP hkPi hy (a := b) (cell := cellB) hcell
    (fun z h => by rw [h] at hobj; cases hobj) hselP hmethM habM hkP hkPi (g := g) hg (argsL := argsL) (rest := rest) (hlen _ hsigM) hstack hdg
  obtain ⟨v, B, X', hpost, hsteps⟩ := hK m meth c ⟨T.setVm vm₁, locs, cells, slots⟩ { g with stack := rest } (.invokevirtual index) mk (Value.ref b :: argsL).toArray X₁ hg hsize hdg hW (X₁.named hnamed) (hpre vm₁ X₁.warmed)
  exact ⟨v, vm₁, B, X₁.warmed, X', hpost, fun target h => hstep₁ _ fun acts => by rw [doInvoke_state]; exact hsteps.trans h⟩
abbrev vx_CVW (R : Room) (s : State) (args : Array Value) (own C : String) (index : Nat) (y : MethodName) (bytes : ByteArray) (maxL : Nat) (ret : Option FieldType) (hh : List (Nat × Nat × Nat × Nat)) (ws : List Cond) (rm : Room) (mc ms n : Nat) : Prop :=
  (rm.cells = mc ∧ rm.slots = ms ∧ rm.frames + 1 ≤ R.frames ∧ 8 + (maxL + 11) + rm.locals ≤ R.locals ∧ (∀ w ∈ ws, ∀ (a' : Array Value) (U : State), s.WarmedH U.vm → w.before a' U = true) ∧ Cond.codeWith y bytes maxL ret hh ∈ ws) ∧
  (Cond.codeWith y bytes maxL ret hh).before args s = true ∧ (Cond.initialized y.cls).before args s = true ∧ (y.cls ≠ "java/lang/invoke/MethodHandle" ∧ y.cls ≠ "java/lang/invoke/VarHandle") ∧
  (∀ sig, parseMethodDescriptor y.desc = some sig → n = sig.parameters.length) ∧ (Cond.methodLink own index y).before args s = true ∧ (Cond.instanceMethod y).before args s = true ∧ (Cond.selects C y y).before args s = true
theorem vx_cwVW {own C : String} {index maxL mc ms : Nat} {y : MethodName} {bytes : ByteArray} {ret : Option FieldType} {hh : List (Nat × Nat × Nat × Nat)} {Ts ws ws' : List Cond} {rm : Room} (n : Nat) (ht : ∀ w ∈ Ts, w.before args s = true) (hT : GoodIn Ts (wsV own index C y ws)) (hw : ws = Cond.codeWith y bytes maxL ret hh :: ws') (hrc : rm.cells = mc) (hrs : rm.slots = ms)
    (hd : y.cls = C ∧ y.cls ≠ "java/lang/invoke/MethodHandle" ∧ y.cls ≠ "java/lang/invoke/VarHandle" ∧ (parseMethodDescriptor y.desc).map (fun d => d.parameters.length) = some n) (hR : rm.frames + 1 ≤ R.frames ∧ 8 + (maxL + 11) + rm.locals ≤ R.locals) :
    vx_CVW R s args own C index y bytes maxL ret hh ws rm mc ms n := by
  obtain ⟨hC, hd⟩ := hd
  subst hC
  have ok : ∀ w ∈ wsV own index y.cls y ws, w.before args s = true := fun w h => ht w (hT w h).1
  have hG : GoodIn Ts ws := fun w h => hT w (by unfold wsV; exact List.mem_append_right _ h)
  have hc : Cond.codeWith y bytes maxL ret hh ∈ ws := by rw [hw]; exact List.mem_cons_self
  refine ⟨⟨hrc, hrs, hR.1, hR.2, pay_in ht hG, hc⟩, ht _ (hG _ hc).1, ok _ (by simp [wsV]), ⟨hd.1, hd.2.1⟩, fun sig h => ?_, ok _ (by simp [wsV]), ok _ (by simp [wsV]), ok _ (by simp [wsV])⟩
  have h2 := hd.2.2
  rw [h] at h2
  exact (Option.some.inj h2).symm
theorem vx_runVW {y : MethodName} {bytes cc : ByteArray} {maxL nL mc ms n index : Nat} {ret : Option FieldType} {hh : List (Nat × Nat × Nat × Nat)} {ws : List Cond} {rm : Room} {Pc : Array Value → State → Prop} {Qc : Array Value → State → Outcome → State → Prop} {free : Addr → Prop} {Ts : List Cond} {own C : String} {b : Addr} {As rest : List Value} {g : JFrame}
    (S : CallFix p m c cc nL s args Ts own) (hM : Met l y ws rm Pc Qc mc ms free) (cw : vx_CVW R s args own C index y bytes maxL ret hh ws rm mc ms n) (hp : PreV s H C b Pc As)
    (hg : g.method = m) (hn : As.length = n) (hsize : g.locals.size = nL) (hstack : g.stack = As.reverse ++ .ref b :: rest) (hW : 2 * g.monitorRoom + (rest.map fun v => v.category).sum ≤ 8) (hdg : decode cc g.pc = .ok (.invokevirtual index, 3)) (hf : cells + mc ≤ R.cells ∧ slots + ms ≤ R.slots) :
    va_Run p l e R s m args below meth c H locs cells slots mc ms g rest (Qc (Value.ref b :: As).toArray) free := by
  obtain ⟨⟨hrc, hrs, hfr, hlo, hws, hcw⟩, hcode, hini, hy, hlen, hl, hin, hse⟩ := cw
  have hK : Back l R p e below s args y 3 8 (PreOf R mc ms Pc) (PostOf Qc mc ms free) := va_backW (hh := hh) (bytes := bytes) (maxL := maxL) (ret := ret) hM hp.1 hrc hrs hfr hlo hws hcw (fun a' U hW => word_at hW (Or.inl (by first | rfl | simp [Cond.onTables, Cond.keeps, Cond.steady])) hini)
  obtain ⟨hx, hb, hml, ho, -⟩ := S
  obtain ⟨-, ⟨cellB, hcB, hoB, hclB⟩, hPc⟩ := hp
  intro T hT X
  obtain ⟨v, vm₁, ⟨U', l2, c2, s2⟩, hW₁, X', ⟨g', mk, t, L, e1, e2, hq, h1, hL, h2, h3⟩, st⟩ := vx_callVW X hx (C := C) (hh := hh) (bytes := bytes) (maxL := maxL) (ret := ret) ho hl hin hse hcode hy hK (by rw [hT]; exact hcB) hoB hclB hg (hsize.trans hml.symm) (argsL := As) (rest := rest) (fun sig h => hn.trans (hlen sig h)) hstack hW (by rw [hb]; exact hdg)
    (fun vm₁ hW₁ => ⟨hf.1, hf.2, hPc (T.setVm vm₁) hT hW₁⟩)
  dsimp only [Pt.U, Pt.locs, Pt.cells, Pt.slots] at X' e1 e2 h1 h2 h3 st
  subst h1; subst h2; subst h3
  exact ⟨v, (T.setVm vm₁).calling g' mk (Value.ref b :: As).toArray, t, U', L, hT, X', hL, e1, e2, hq, st⟩
section
variable {y : MethodName} {bytes cc : ByteArray} {maxL nL mc ms n index : Nat} {ret : Option FieldType} {ws : List Cond} {rm : Room} {Pc : Array Value → State → Prop} {Qc : Array Value → State → Outcome → State → Prop} {XC : String → State → State → Prop} {free : Addr → Prop} {Ts : List Cond} {own C : String} {b : Addr} {As rest : List Value} {g : JFrame}
theorem vx_runVX {hh : List (Nat × Nat × Nat × Nat)} (S : CallFix p m c cc nL s args Ts own) (hM : vx_Met l y ws rm Pc Qc XC mc ms free) (cw : vx_CVW R s args own C index y bytes maxL ret hh ws rm mc ms n) (hp : PreV s H C b Pc As)
    (hg : g.method = m) (hn : As.length = n) (hsize : g.locals.size = nL) (hstack : g.stack = As.reverse ++ .ref b :: rest) (hW : 2 * g.monitorRoom + (rest.map fun v => v.category).sum ≤ 8) (hdg : decode cc g.pc = .ok (.invokevirtual index, 3)) (hf : cells + mc ≤ R.cells ∧ slots + ms ≤ R.slots) :
    vx_Run p l e R s m args below meth c H locs cells slots mc ms g rest (Qc (Value.ref b :: As).toArray) XC free := by
  obtain ⟨⟨hrc, hrs, hfr, hlo, hws, hcw⟩, hcode, hini, hy, hlen, hl, hin, hse⟩ := cw
  have hK : vx_Back l R p e below s args y 3 8 (PreOf R mc ms Pc) (PostOf Qc mc ms free) (vx_Post XC mc ms free) := vx_backW (hh := hh) (bytes := bytes) (maxL := maxL) (ret := ret) hM hp.1 hrc hrs hfr hlo hws hcw (fun a' U hW => word_at hW (Or.inl (by first | rfl | simp [Cond.onTables, Cond.keeps, Cond.steady])) hini)
  obtain ⟨hx, hb, hml, ho, -⟩ := S
  obtain ⟨-, ⟨cellB, hcB, hoB, hclB⟩, hPc⟩ := hp
  intro T hT X
  rcases vx_callVX X hx (C := C) (hh := hh) (bytes := bytes) (maxL := maxL) (ret := ret) ho hl hin hse hcode hy hK (by rw [hT]; exact hcB) hoB hclB hg (hsize.trans hml.symm) (argsL := As) (rest := rest) (fun sig h => hn.trans (hlen sig h)) hstack hW (by rw [hb]; exact hdg)
    (fun vm₁ hW₁ => ⟨hf.1, hf.2, hPc (T.setVm vm₁) hT hW₁⟩) with ⟨v, vm₁, ⟨U', l2, c2, s2⟩, hW₁, X', ⟨g', mk, t, L, e1, e2, hq, h1, hL, h2, h3⟩, st⟩ | ⟨q, vm₁, ⟨U', l2, c2, s2⟩, hW₁, X', ⟨g', mk, t, L, E, ce, e1, e2, hq, hce, hcv, hcl, h1, hL, h2, h3⟩, st⟩
  · dsimp only [Pt.U, Pt.locs, Pt.cells, Pt.slots] at X' e1 e2 h1 h2 h3 st
    subst h1; subst h2; subst h3
    exact Or.inl ⟨v, (T.setVm vm₁).calling g' mk (Value.ref b :: As).toArray, t, U', L, hT, X', hL, e1, e2, hq, st⟩
  · dsimp only [Pt.U, Pt.locs, Pt.cells, Pt.slots] at X' e1 e2 h1 h2 h3 st hcl
    subst h1; subst h2; subst h3
    exact Or.inr ⟨q, (T.setVm vm₁).calling g' mk (Value.ref b :: As).toArray, t, U', L, E, ce, hT, X', hL, e1, e2, hq, hce, hcv, vx_cls hW₁ hcl, st⟩
theorem vx_runSX {hh : List (Nat × Nat × Nat × Nat)} (S : CallFix p m c cc nL s args Ts own) (hM : vx_Met l y ws rm Pc Qc XC mc ms free) (cw : vx_CSW R s args own index y bytes maxL ret hh ws rm mc ms n) (hp : PreS s H Pc As)
    (hg : g.method = m) (hn : As.length = n) (hsize : g.locals.size = nL) (hstack : g.stack = As.reverse ++ rest) (hW : 2 * g.monitorRoom + (rest.map fun v => v.category).sum ≤ 8) (hdg : decode cc g.pc = .ok (.invokestatic index, 3)) (hf : cells + mc ≤ R.cells ∧ slots + ms ≤ R.slots) :
    vx_Run p l e R s m args below meth c H locs cells slots mc ms g rest (Qc As.toArray) XC free := by
  obtain ⟨⟨hrc, hrs, hfr, hlo, hws, hcw⟩, hcode, hini, hy, hlen, hl, hstt⟩ := cw
  have hK : vx_Back l R p e below s args y 3 8 (PreOf R mc ms Pc) (PostOf Qc mc ms free) (vx_Post XC mc ms free) := vx_backW (hh := hh) (bytes := bytes) (maxL := maxL) (ret := ret) hM hp.1 hrc hrs hfr hlo hws hcw (fun a' U hW => word_at hW (Or.inl (by first | rfl | simp [Cond.onTables, Cond.keeps, Cond.steady])) hini)
  obtain ⟨hx, hb, hml, ho, -⟩ := S
  intro T hT X
  rcases vx_callSX X hx (hh := hh) (bytes := bytes) (maxL := maxL) (ret := ret) ho hl hstt hini hcode hy hK hg (hsize.trans hml.symm) (argsL := As) (rest := rest) (fun sig h => hn.trans (hlen sig h)) hstack hW (by rw [hb]; exact hdg)
    (fun vm₁ hW₁ => ⟨hf.1, hf.2, hp.2 (T.setVm vm₁) hT hW₁⟩) with ⟨v, vm₁, ⟨U', l2, c2, s2⟩, hW₁, X', ⟨g', mk, t, L, e1, e2, hq, h1, hL, h2, h3⟩, st⟩ | ⟨q, vm₁, ⟨U', l2, c2, s2⟩, hW₁, X', ⟨g', mk, t, L, E, ce, e1, e2, hq, hce, hcv, hcl, h1, hL, h2, h3⟩, st⟩
  · dsimp only [Pt.U, Pt.locs, Pt.cells, Pt.slots] at X' e1 e2 h1 h2 h3 st
    subst h1; subst h2; subst h3
    exact Or.inl ⟨v, (T.setVm vm₁).calling g' mk As.toArray, t, U', L, hT, X', hL, e1, e2, hq, st⟩
  · dsimp only [Pt.U, Pt.locs, Pt.cells, Pt.slots] at X' e1 e2 h1 h2 h3 st hcl
    subst h1; subst h2; subst h3
    exact Or.inr ⟨q, (T.setVm vm₁).calling g' mk As.toArray, t, U', L, E, ce, hT, X', hL, e1, e2, hq, hce, hcv, vx_cls hW₁ hcl, st⟩
end
end VXH
theorem vx_ofWH {l : Launch} {y : MethodName} {ws ws' : List Cond} {rm : Room} {Pc : Array Value → State → Prop} {Qc : Array Value → State → Outcome → State → Prop} {XC : String → State → State → Prop} {mc ms : Nat} {free : Addr → Prop} {cc : ByteArray} {maxL : Nat} {ret : Option FieldType} {hh : List (Nat × Nat × Nat × Nat)}
    (hy : plainName y.cls = true) (hw : ws = Cond.codeWith y cc maxL ret hh :: ws')
    (body : ∀ p e s m args below meth c s₁, BodyLoose p l y (headSpec ws rm) cc maxL ret e s m args below meth c s₁ → c.maxLocals = maxL → Pc args s →
      W p l e (headSpec ws rm).room s m args below meth c s.heap [] 0 0 (vx_MQ below Qc XC args s mc ms free) (entryFrame m args maxL)) : vx_Met l y ws rm Pc Qc XC mc ms free := by
  refine MetFree.of_bodyS (code := cc) (maxLocals := maxL) (ret := ret) hy ?_ ?_
  · intro args s m h hn
    obtain ⟨m9, meth, c, hn9, h1, h2, h3, h4, -, h5, h6, -⟩ := Cond.codeWith_spec (atoms_spec (ws := ws) h _ (by rw [hw]; exact List.mem_cons_self))
    cases hn.symm.trans hn9
    exact ⟨meth, c, h1, h2, h3, h4, h5, h6⟩
  · intro p e s m args below meth c s₁ B hml hP _
    have hh0 : s₁.heap = s.heap := by rw [B.state]; rfl
    obtain ⟨t, a1, o, b1, b2, b3⟩ := body p e s m args below meth c s₁ B hml hP s₁ hh0 (Stand.of_body B)
    exact ⟨t, o, a1, b1, b2, b3⟩
/-! ===== END ===== -/
end
section
def RX0 : String := "ShaftPlumb$Copies"
def TX0 : u_T := fun k => match k with
  | 0 => ("ShaftPlumb$Copies", "count", "I", false)
  | 1 => ("ShaftPlumb$Copies", "latest", "I", false)
  | _ => ("ShaftPlumb$Copies", "kept", "[LShaftPlumb$Mine;", true)
def tyX0 : Nat → FieldType := fun k => match k with
  | 0 => .int
  | 1 => .int
  | _ => .array (.object "ShaftPlumb$Mine")
abbrev wsX00 : List Cond := u_ws RX0 TX0 3
theorem nmX0 : ∀ a, a < 3 → ∀ b, b < 3 → a ≠ b → (TX0 a).2.1 ≠ (TX0 b).2.1 := by decide +kernel
theorem tyX0_ok : ∀ k, k < 3 → parseFieldDescriptor (TX0 k).2.2.1 = some (tyX0 k) := by decide +kernel
abbrev cX0_init : ByteArray := prog_2_method_1_code
def yX0_init : MethodName := ⟨RX0, "<init>", "()V"⟩
abbrev cX0_keep : ByteArray := prog_2_method_2_code
def yX0_keep : MethodName := ⟨RX0, "keep", "(LShaftPlumb$Mine;)V"⟩
def RX1 : String := "ShaftPlumb$Join"
def TX1 : u_T := fun k => match k with
  | 0 => ("ShaftPlumb$Join", "near", "I", false)
  | 1 => ("ShaftPlumb$Join", "far", "I", false)
  | 2 => ("ShaftPlumb$Join", "g", "I", false)
  | 3 => ("ShaftPlumb$Join", "east", "I", false)
  | 4 => ("ShaftPlumb$Join", "north", "I", false)
  | 5 => ("ShaftPlumb$Join", "cause", "I", false)
  | 6 => ("ShaftPlumb$Join", "trouble", "I", false)
  | 7 => ("ShaftPlumb$Join", "start", "I", false)
  | 8 => ("ShaftPlumb$Join", "bearing", "I", false)
  | 9 => ("ShaftPlumb$Join", "c", "I", false)
  | 10 => ("ShaftPlumb$Join", "a", "I", false)
  | _ => ("ShaftPlumb$Join", "swung", "I", false)
def tyX1 : Nat → FieldType := fun k => match k with
  | 0 => .int
  | 1 => .int
  | 2 => .int
  | 3 => .int
  | 4 => .int
  | 5 => .int
  | 6 => .int
  | 7 => .int
  | 8 => .int
  | 9 => .int
  | 10 => .int
  | _ => .int
abbrev wsX10 : List Cond := u_ws RX1 TX1 12
theorem nmX1 : ∀ a, a < 12 → ∀ b, b < 12 → a ≠ b → (TX1 a).2.1 ≠ (TX1 b).2.1 := by decide +kernel
theorem tyX1_ok : ∀ k, k < 12 → parseFieldDescriptor (TX1 k).2.2.1 = some (tyX1 k) := by decide +kernel
abbrev cX1_init : ByteArray := prog_3_method_1_code
def yX1_init : MethodName := ⟨RX1, "<init>", "()V"⟩
abbrev cX1_copyFrom : ByteArray := prog_3_method_2_code
def yX1_copyFrom : MethodName := ⟨RX1, "copyFrom", "(LShaftPlumb$Join;)V"⟩
abbrev cX1_lay : ByteArray := prog_3_method_3_code
def yX1_lay : MethodName := ⟨RX1, "lay", "(IIIIII)V"⟩
abbrev cX1_judge : ByteArray := prog_3_method_4_code
def yX1_judge : MethodName := ⟨RX1, "judge", "(LShaftPlumb$Wire;LShaftPlumb$Wire;)V"⟩
abbrev cX1_startWith : ByteArray := prog_3_method_5_code
def yX1_startWith : MethodName := ⟨RX1, "startWith", "(I)I"⟩
abbrev cX1_number : ByteArray := prog_3_method_6_code
def yX1_number : MethodName := ⟨RX1, "number", "(I)I"⟩
def RX2 : String := "ShaftPlumb$Mine"
def TX2 : u_T := fun k => match k with
  | 0 => ("ShaftPlumb$Mine", "settings", "[I", true)
  | 1 => ("ShaftPlumb$Mine", "wireCount", "I", false)
  | 2 => ("ShaftPlumb$Mine", "joinCount", "I", false)
  | 3 => ("ShaftPlumb$Mine", "traverseCount", "I", false)
  | 4 => ("ShaftPlumb$Mine", "wires", "[LShaftPlumb$Wire;", true)
  | 5 => ("ShaftPlumb$Mine", "joins", "[LShaftPlumb$Join;", true)
  | _ => ("ShaftPlumb$Mine", "traverses", "[LShaftPlumb$Traverse;", true)
def tyX2 : Nat → FieldType := fun k => match k with
  | 0 => .array .int
  | 1 => .int
  | 2 => .int
  | 3 => .int
  | 4 => .array (.object "ShaftPlumb$Wire")
  | 5 => .array (.object "ShaftPlumb$Join")
  | _ => .array (.object "ShaftPlumb$Traverse")
abbrev wsX20 : List Cond := u_ws RX2 TX2 7
theorem nmX2 : ∀ a, a < 7 → ∀ b, b < 7 → a ≠ b → (TX2 a).2.1 ≠ (TX2 b).2.1 := by decide +kernel
theorem tyX2_ok : ∀ k, k < 7 → parseFieldDescriptor (TX2 k).2.2.1 = some (tyX2 k) := by decide +kernel
abbrev cX2_init : ByteArray := prog_4_method_1_code
def yX2_init : MethodName := ⟨RX2, "<init>", "()V"⟩
abbrev cX2_copyFrom : ByteArray := prog_4_method_2_code
def yX2_copyFrom : MethodName := ⟨RX2, "copyFrom", "(LShaftPlumb$Mine;)V"⟩
abbrev cX2_judge : ByteArray := prog_4_method_3_code
def yX2_judge : MethodName := ⟨RX2, "judge", "()V"⟩
abbrev cX2_takesSetting : ByteArray := prog_4_method_4_code
def yX2_takesSetting : MethodName := ⟨RX2, "takesSetting", "(II)Z"⟩
abbrev cX2_changeSetting : ByteArray := prog_4_method_5_code
def yX2_changeSetting : MethodName := ⟨RX2, "changeSetting", "(II)I"⟩
abbrev cX2_number : ByteArray := prog_4_method_6_code
def yX2_number : MethodName := ⟨RX2, "number", "(I)I"⟩
abbrev cX2_legsOfAll : ByteArray := prog_4_method_7_code
def yX2_legsOfAll : MethodName := ⟨RX2, "legsOfAll", "()I"⟩
abbrev cX2_turnsOfAll : ByteArray := prog_4_method_8_code
def yX2_turnsOfAll : MethodName := ⟨RX2, "turnsOfAll", "()I"⟩
abbrev cX2_wireAt : ByteArray := prog_4_method_9_code
def yX2_wireAt : MethodName := ⟨RX2, "wireAt", "(I)LShaftPlumb$Wire;"⟩
abbrev cX2_joinAt : ByteArray := prog_4_method_10_code
def yX2_joinAt : MethodName := ⟨RX2, "joinAt", "(I)LShaftPlumb$Join;"⟩
abbrev cX2_traverseAt : ByteArray := prog_4_method_11_code
def yX2_traverseAt : MethodName := ⟨RX2, "traverseAt", "(I)LShaftPlumb$Traverse;"⟩
abbrev cX2_addWire : ByteArray := prog_4_method_12_code
def yX2_addWire : MethodName := ⟨RX2, "addWire", "(II)I"⟩
abbrev cX2_addJoin : ByteArray := prog_4_method_13_code
def yX2_addJoin : MethodName := ⟨RX2, "addJoin", "(IIIIII)I"⟩
abbrev cX2_addTraverse : ByteArray := prog_4_method_14_code
def yX2_addTraverse : MethodName := ⟨RX2, "addTraverse", "(I)I"⟩
abbrev cX2_troubleOf : ByteArray := prog_4_method_15_code
def yX2_troubleOf : MethodName := ⟨RX2, "troubleOf", "(LShaftPlumb$Traverse;I)I"⟩
def RX3 : String := "ShaftPlumb$Numbers"
def TX3 : u_T := fun k => match k with
  | _ => ("", "", "", false)
def tyX3 : Nat → FieldType := fun k => match k with
  | _ => .int
abbrev wsX30 : List Cond := u_ws RX3 TX3 0
theorem nmX3 : ∀ a, a < 0 → ∀ b, b < 0 → a ≠ b → (TX3 a).2.1 ≠ (TX3 b).2.1 := by decide +kernel
theorem tyX3_ok : ∀ k, k < 0 → parseFieldDescriptor (TX3 k).2.2.1 = some (tyX3 k) := by decide +kernel
abbrev cX3_norm : ByteArray := prog_5_method_2_code
def yX3_norm : MethodName := ⟨RX3, "norm", "(I)I"⟩
abbrev cX3_centre : ByteArray := prog_5_method_3_code
def yX3_centre : MethodName := ⟨RX3, "centre", "(I)I"⟩
abbrev cX3_sineOf : ByteArray := prog_5_method_4_code
def yX3_sineOf : MethodName := ⟨RX3, "sineOf", "(I)I"⟩
abbrev cX3_quotient : ByteArray := prog_5_method_5_code
def yX3_quotient : MethodName := ⟨RX3, "quotient", "(JJ)I"⟩
abbrev cX3_lengthOf : ByteArray := prog_5_method_6_code
def yX3_lengthOf : MethodName := ⟨RX3, "lengthOf", "(JJ)I"⟩
abbrev cX3_squareOf : ByteArray := prog_5_method_7_code
def yX3_squareOf : MethodName := ⟨RX3, "squareOf", "(JJ)J"⟩
abbrev cX3_rootOf : ByteArray := prog_5_method_8_code
def yX3_rootOf : MethodName := ⟨RX3, "rootOf", "(J)I"⟩
def RX4 : String := "ShaftPlumb$Script"
def TX4 : u_T := fun k => match k with
  | 0 => ("ShaftPlumb$Script", "length", "I", false)
  | 1 => ("ShaftPlumb$Script", "letter", "C", false)
  | 2 => ("ShaftPlumb$Script", "numbers", "[I", true)
  | 3 => ("ShaftPlumb$Script", "numberAt", "I", false)
  | _ => ("ShaftPlumb$Script", "text", "[C", true)
def tyX4 : Nat → FieldType := fun k => match k with
  | 0 => .int
  | 1 => .char
  | 2 => .array .int
  | 3 => .int
  | _ => .array .char
abbrev wsX40 : List Cond := u_ws RX4 TX4 5
theorem nmX4 : ∀ a, a < 5 → ∀ b, b < 5 → a ≠ b → (TX4 a).2.1 ≠ (TX4 b).2.1 := by decide +kernel
theorem tyX4_ok : ∀ k, k < 5 → parseFieldDescriptor (TX4 k).2.2.1 = some (tyX4 k) := by decide +kernel
abbrev cX4_init : ByteArray := prog_6_method_1_code
def yX4_init : MethodName := ⟨RX4, "<init>", "()V"⟩
def RX5 : String := "ShaftPlumb$Traverse"
def TX5 : u_T := fun k => match k with
  | 0 => ("ShaftPlumb$Traverse", "firstJoin", "I", false)
  | 1 => ("ShaftPlumb$Traverse", "lastJoin", "I", false)
  | 2 => ("ShaftPlumb$Traverse", "legCount", "I", false)
  | 3 => ("ShaftPlumb$Traverse", "trouble", "I", false)
  | 4 => ("ShaftPlumb$Traverse", "closingAngle", "I", false)
  | 5 => ("ShaftPlumb$Traverse", "gap", "I", false)
  | 6 => ("ShaftPlumb$Traverse", "eastAtEnd", "I", false)
  | 7 => ("ShaftPlumb$Traverse", "northAtEnd", "I", false)
  | 8 => ("ShaftPlumb$Traverse", "missEast", "I", false)
  | 9 => ("ShaftPlumb$Traverse", "missNorth", "I", false)
  | 10 => ("ShaftPlumb$Traverse", "angles", "[I", true)
  | 11 => ("ShaftPlumb$Traverse", "lengths", "[I", true)
  | 12 => ("ShaftPlumb$Traverse", "bearings", "[I", true)
  | 13 => ("ShaftPlumb$Traverse", "easts", "[I", true)
  | _ => ("ShaftPlumb$Traverse", "norths", "[I", true)
def tyX5 : Nat → FieldType := fun k => match k with
  | 0 => .int
  | 1 => .int
  | 2 => .int
  | 3 => .int
  | 4 => .int
  | 5 => .int
  | 6 => .int
  | 7 => .int
  | 8 => .int
  | 9 => .int
  | 10 => .array .int
  | 11 => .array .int
  | 12 => .array .int
  | 13 => .array .int
  | _ => .array .int
abbrev wsX50 : List Cond := u_ws RX5 TX5 15
theorem nmX5 : ∀ a, a < 15 → ∀ b, b < 15 → a ≠ b → (TX5 a).2.1 ≠ (TX5 b).2.1 := by decide +kernel
theorem tyX5_ok : ∀ k, k < 15 → parseFieldDescriptor (TX5 k).2.2.1 = some (tyX5 k) := by decide +kernel
abbrev cX5_init : ByteArray := prog_7_method_1_code
def yX5_init : MethodName := ⟨RX5, "<init>", "()V"⟩
abbrev cX5_copyFrom : ByteArray := prog_7_method_2_code
def yX5_copyFrom : MethodName := ⟨RX5, "copyFrom", "(LShaftPlumb$Traverse;)V"⟩
abbrev cX5_startAt : ByteArray := prog_7_method_3_code
def yX5_startAt : MethodName := ⟨RX5, "startAt", "(I)V"⟩
abbrev cX5_closeOn : ByteArray := prog_7_method_4_code
def yX5_closeOn : MethodName := ⟨RX5, "closeOn", "(II)V"⟩
abbrev cX5_isClosed : ByteArray := prog_7_method_5_code
def yX5_isClosed : MethodName := ⟨RX5, "isClosed", "()Z"⟩
abbrev cX5_hasLeg : ByteArray := prog_7_method_6_code
def yX5_hasLeg : MethodName := ⟨RX5, "hasLeg", "(I)Z"⟩
abbrev cX5_hasEnd : ByteArray := prog_7_method_7_code
def yX5_hasEnd : MethodName := ⟨RX5, "hasEnd", "()Z"⟩
abbrev cX5_hasGap : ByteArray := prog_7_method_8_code
def yX5_hasGap : MethodName := ⟨RX5, "hasGap", "()Z"⟩
abbrev cX5_append : ByteArray := prog_7_method_9_code
def yX5_append : MethodName := ⟨RX5, "append", "(II)I"⟩
abbrev cX5_shorten : ByteArray := prog_7_method_10_code
def yX5_shorten : MethodName := ⟨RX5, "shorten", "()I"⟩
abbrev cX5_takeGapAway : ByteArray := prog_7_method_11_code
def yX5_takeGapAway : MethodName := ⟨RX5, "takeGapAway", "()I"⟩
abbrev cX5_legsBefore : ByteArray := prog_7_method_12_code
def yX5_legsBefore : MethodName := ⟨RX5, "legsBefore", "(I)I"⟩
abbrev cX5_judge : ByteArray := prog_7_method_13_code
def yX5_judge : MethodName := ⟨RX5, "judge", "(LShaftPlumb$Join;LShaftPlumb$Join;I)V"⟩
abbrev cX5_layOut : ByteArray := prog_7_method_14_code
def yX5_layOut : MethodName := ⟨RX5, "layOut", "(LShaftPlumb$Join;)I"⟩
abbrev cX5_step : ByteArray := prog_7_method_15_code
def yX5_step : MethodName := ⟨RX5, "step", "(JI)I"⟩
abbrev cX5_number : ByteArray := prog_7_method_16_code
def yX5_number : MethodName := ⟨RX5, "number", "(I)I"⟩
abbrev cX5_numberOfClosing : ByteArray := prog_7_method_17_code
def yX5_numberOfClosing : MethodName := ⟨RX5, "numberOfClosing", "(I)I"⟩
abbrev cX5_sumOfLengths : ByteArray := prog_7_method_18_code
def yX5_sumOfLengths : MethodName := ⟨RX5, "sumOfLengths", "()I"⟩
abbrev cX5_numberOfLeg : ByteArray := prog_7_method_19_code
def yX5_numberOfLeg : MethodName := ⟨RX5, "numberOfLeg", "(II)I"⟩
def RX6 : String := "ShaftPlumb$Wire"
def TX6 : u_T := fun k => match k with
  | 0 => ("ShaftPlumb$Wire", "east", "I", false)
  | 1 => ("ShaftPlumb$Wire", "north", "I", false)
  | 2 => ("ShaftPlumb$Wire", "turnCount", "I", false)
  | 3 => ("ShaftPlumb$Wire", "rest", "I", false)
  | 4 => ("ShaftPlumb$Wire", "spread", "I", false)
  | 5 => ("ShaftPlumb$Wire", "trouble", "I", false)
  | _ => ("ShaftPlumb$Wire", "turns", "[I", true)
def tyX6 : Nat → FieldType := fun k => match k with
  | 0 => .int
  | 1 => .int
  | 2 => .int
  | 3 => .int
  | 4 => .int
  | 5 => .int
  | _ => .array .int
abbrev wsX60 : List Cond := u_ws RX6 TX6 7
theorem nmX6 : ∀ a, a < 7 → ∀ b, b < 7 → a ≠ b → (TX6 a).2.1 ≠ (TX6 b).2.1 := by decide +kernel
theorem tyX6_ok : ∀ k, k < 7 → parseFieldDescriptor (TX6 k).2.2.1 = some (tyX6 k) := by decide +kernel
abbrev cX6_init : ByteArray := prog_8_method_1_code
def yX6_init : MethodName := ⟨RX6, "<init>", "()V"⟩
abbrev cX6_copyFrom : ByteArray := prog_8_method_2_code
def yX6_copyFrom : MethodName := ⟨RX6, "copyFrom", "(LShaftPlumb$Wire;)V"⟩
abbrev cX6_hangAt : ByteArray := prog_8_method_3_code
def yX6_hangAt : MethodName := ⟨RX6, "hangAt", "(II)V"⟩
abbrev cX6_addTurn : ByteArray := prog_8_method_4_code
def yX6_addTurn : MethodName := ⟨RX6, "addTurn", "(I)I"⟩
abbrev cX6_dropTurns : ByteArray := prog_8_method_5_code
def yX6_dropTurns : MethodName := ⟨RX6, "dropTurns", "()I"⟩
abbrev cX6_judge : ByteArray := prog_8_method_6_code
def yX6_judge : MethodName := ⟨RX6, "judge", "(I)V"⟩
abbrev cX6_number : ByteArray := prog_8_method_7_code
def yX6_number : MethodName := ⟨RX6, "number", "(I)I"⟩
abbrev cX6_meanOfTurns : ByteArray := prog_8_method_8_code
def yX6_meanOfTurns : MethodName := ⟨RX6, "meanOfTurns", "()I"⟩
abbrev cX6_greatestDifference : ByteArray := prog_8_method_9_code
def yX6_greatestDifference : MethodName := ⟨RX6, "greatestDifference", "()I"⟩
def RX7 : String := "ShaftPlumb"
def TX7 : u_T := fun k => match k with
  | 0 => ("ShaftPlumb", "mine", "LShaftPlumb$Mine;", true)
  | 1 => ("ShaftPlumb", "copies", "LShaftPlumb$Copies;", true)
  | _ => ("ShaftPlumb", "script", "LShaftPlumb$Script;", true)
def tyX7 : Nat → FieldType := fun k => match k with
  | 0 => .object "ShaftPlumb$Mine"
  | 1 => .object "ShaftPlumb$Copies"
  | _ => .object "ShaftPlumb$Script"
abbrev wsX70 : List Cond := u_ws RX7 TX7 3
theorem nmX7 : ∀ a, a < 3 → ∀ b, b < 3 → a ≠ b → (TX7 a).2.1 ≠ (TX7 b).2.1 := by decide +kernel
theorem tyX7_ok : ∀ k, k < 3 → parseFieldDescriptor (TX7 k).2.2.1 = some (tyX7 k) := by decide +kernel
abbrev cX7_init : ByteArray := prog_1_method_1_code
def yX7_init : MethodName := ⟨RX7, "<init>", "()V"⟩
abbrev cX7_set : ByteArray := prog_1_method_2_code
def yX7_set : MethodName := ⟨RX7, "set", "(II)I"⟩
abbrev cX7_info : ByteArray := prog_1_method_3_code
def yX7_info : MethodName := ⟨RX7, "info", "(I)I"⟩
abbrev cX7_hang : ByteArray := prog_1_method_4_code
def yX7_hang : MethodName := ⟨RX7, "hang", "(II)I"⟩
abbrev cX7_swing : ByteArray := prog_1_method_5_code
def yX7_swing : MethodName := ⟨RX7, "swing", "(II)I"⟩
abbrev cX7_still : ByteArray := prog_1_method_6_code
def yX7_still : MethodName := ⟨RX7, "still", "(I)I"⟩
abbrev cX7_wire : ByteArray := prog_1_method_7_code
def yX7_wire : MethodName := ⟨RX7, "wire", "(II)I"⟩
abbrev cX7_join : ByteArray := prog_1_method_8_code
def yX7_join : MethodName := ⟨RX7, "join", "(IIIIII)I"⟩
abbrev cX7_measure : ByteArray := prog_1_method_9_code
def yX7_measure : MethodName := ⟨RX7, "measure", "(II)I"⟩
abbrev cX7_joinOf : ByteArray := prog_1_method_10_code
def yX7_joinOf : MethodName := ⟨RX7, "joinOf", "(II)I"⟩
abbrev cX7_begin : ByteArray := prog_1_method_11_code
def yX7_begin : MethodName := ⟨RX7, "begin", "(I)I"⟩
abbrev cX7_addLeg : ByteArray := prog_1_method_12_code
def yX7_addLeg : MethodName := ⟨RX7, "addLeg", "(III)I"⟩
abbrev cX7_dropLeg : ByteArray := prog_1_method_13_code
def yX7_dropLeg : MethodName := ⟨RX7, "dropLeg", "(I)I"⟩
abbrev cX7_close : ByteArray := prog_1_method_14_code
def yX7_close : MethodName := ⟨RX7, "close", "(III)I"⟩
abbrev cX7_adjust : ByteArray := prog_1_method_15_code
def yX7_adjust : MethodName := ⟨RX7, "adjust", "(I)I"⟩
abbrev cX7_traverse : ByteArray := prog_1_method_16_code
def yX7_traverse : MethodName := ⟨RX7, "traverse", "(II)I"⟩
abbrev cX7_leg : ByteArray := prog_1_method_17_code
def yX7_leg : MethodName := ⟨RX7, "leg", "(III)I"⟩
abbrev cX7_trouble : ByteArray := prog_1_method_18_code
def yX7_trouble : MethodName := ⟨RX7, "trouble", "(II)I"⟩
abbrev cX7_order : ByteArray := prog_1_method_34_code
def yX7_order : MethodName := ⟨RX7, "order", "(CIII)I"⟩
abbrev cX7_refusalOf : ByteArray := prog_1_method_36_code
def yX7_refusalOf : MethodName := ⟨RX7, "refusalOf", "(CIII)I"⟩
abbrev cX7_refusalOfTurn : ByteArray := prog_1_method_37_code
def yX7_refusalOfTurn : MethodName := ⟨RX7, "refusalOfTurn", "(LShaftPlumb$Wire;I)I"⟩
abbrev cX7_refusalOfLeg : ByteArray := prog_1_method_38_code
def yX7_refusalOfLeg : MethodName := ⟨RX7, "refusalOfLeg", "(LShaftPlumb$Traverse;II)I"⟩
abbrev cX7_carryOut : ByteArray := prog_1_method_39_code
def yX7_carryOut : MethodName := ⟨RX7, "carryOut", "(CIII)I"⟩
abbrev cX7_isIn : ByteArray := prog_1_method_40_code
def yX7_isIn : MethodName := ⟨RX7, "isIn", "(III)Z"⟩
abbrev cX7_isBearing : ByteArray := prog_1_method_41_code
def yX7_isBearing : MethodName := ⟨RX7, "isBearing", "(I)Z"⟩
abbrev cX7_isSmall : ByteArray := prog_1_method_42_code
def yX7_isSmall : MethodName := ⟨RX7, "isSmall", "(I)Z"⟩
def RX8 : String := "ShaftPlumbModel"
def TX8 : u_T := fun k => match k with
  | _ => ("", "", "", false)
def tyX8 : Nat → FieldType := fun k => match k with
  | _ => .int
abbrev wsX80 : List Cond := u_ws RX8 TX8 0
theorem nmX8 : ∀ a, a < 0 → ∀ b, b < 0 → a ≠ b → (TX8 a).2.1 ≠ (TX8 b).2.1 := by decide +kernel
theorem tyX8_ok : ∀ k, k < 0 → parseFieldDescriptor (TX8 k).2.2.1 = some (tyX8 k) := by decide +kernel
def RL : String := "ShaftPlumbLaw"
abbrev cL_cell : ByteArray := method_2_code
def yL_cell : MethodName := ⟨RL, "cell", "([II)I"⟩
abbrev cL_low : ByteArray := method_3_code
def yL_low : MethodName := ⟨RL, "low", "(II)I"⟩
abbrev cL_sets : ByteArray := method_4_code
def yL_sets : MethodName := ⟨RL, "sets", "(LShaftPlumb;II)I"⟩
abbrev cL_hangs : ByteArray := method_5_code
def yL_hangs : MethodName := ⟨RL, "hangs", "(LShaftPlumb;II)I"⟩
abbrev cL_swings : ByteArray := method_6_code
def yL_swings : MethodName := ⟨RL, "swings", "(LShaftPlumb;II)I"⟩
abbrev cL_stills : ByteArray := method_7_code
def yL_stills : MethodName := ⟨RL, "stills", "(LShaftPlumb;I)I"⟩
abbrev cL_joins : ByteArray := method_8_code
def yL_joins : MethodName := ⟨RL, "joins", "(LShaftPlumb;IIIIII)I"⟩
abbrev cL_measures : ByteArray := method_9_code
def yL_measures : MethodName := ⟨RL, "measures", "(LShaftPlumb;II)I"⟩
abbrev cL_begins : ByteArray := method_10_code
def yL_begins : MethodName := ⟨RL, "begins", "(LShaftPlumb;I)I"⟩
abbrev cL_adds : ByteArray := method_11_code
def yL_adds : MethodName := ⟨RL, "adds", "(LShaftPlumb;III)I"⟩
abbrev cL_drops : ByteArray := method_12_code
def yL_drops : MethodName := ⟨RL, "drops", "(LShaftPlumb;I)I"⟩
abbrev cL_closes : ByteArray := method_13_code
def yL_closes : MethodName := ⟨RL, "closes", "(LShaftPlumb;III)I"⟩
abbrev cL_adjusts : ByteArray := method_14_code
def yL_adjusts : MethodName := ⟨RL, "adjusts", "(LShaftPlumb;I)I"⟩
abbrev cL_size : ByteArray := method_15_code
def yL_size : MethodName := ⟨RL, "size", "(I)I"⟩
abbrev cL_norm : ByteArray := method_16_code
def yL_norm : MethodName := ⟨RL, "norm", "(J)I"⟩
abbrev cL_centre : ByteArray := method_17_code
def yL_centre : MethodName := ⟨RL, "centre", "(J)I"⟩
abbrev cL_sine : ByteArray := method_18_code
def yL_sine : MethodName := ⟨RL, "sine", "(J)J"⟩
abbrev cL_root : ByteArray := method_19_code
def yL_root : MethodName := ⟨RL, "root", "(J)I"⟩
abbrev cL_drift : ByteArray := method_20_code
def yL_drift : MethodName := ⟨RL, "drift", "([I[II)I"⟩
abbrev cL_wrong : ByteArray := method_21_code
def yL_wrong : MethodName := ⟨RL, "wrong", "([I[I[II)I"⟩
abbrev cL_rest : ByteArray := method_22_code
def yL_rest : MethodName := ⟨RL, "rest", "([I[II)I"⟩
abbrev cL_wires : ByteArray := method_23_code
def yL_wires : MethodName := ⟨RL, "wires", "([I[I[I[II)I"⟩
abbrev cL_joint : ByteArray := method_24_code
def yL_joint : MethodName := ⟨RL, "joint", "([I[I[I[II)I"⟩
abbrev cL_start : ByteArray := method_25_code
def yL_start : MethodName := ⟨RL, "start", "([I[I[II)I"⟩
abbrev cL_bearing : ByteArray := method_26_code
def yL_bearing : MethodName := ⟨RL, "bearing", "([I[I[I[I[III)I"⟩
abbrev cL_gap : ByteArray := method_27_code
def yL_gap : MethodName := ⟨RL, "gap", "([I[I[I[I[II)I"⟩
abbrev cL_trouble : ByteArray := method_28_code
def yL_trouble : MethodName := ⟨RL, "trouble", "([I[I[I[I[I[II)I"⟩
abbrev cL_end : ByteArray := method_29_code
def yL_end : MethodName := ⟨RL, "end", "([I[I[I[I[I[I[IIII)I"⟩
abbrev cL_whole : ByteArray := method_30_code
def yL_whole : MethodName := ⟨RL, "whole", "([I[I[I[I[I[II)Z"⟩
abbrev cL_miss : ByteArray := method_31_code
def yL_miss : MethodName := ⟨RL, "miss", "([I[I[I[I[I[I[III)I"⟩
abbrev cL_adjust : ByteArray := method_32_code
def yL_adjust : MethodName := ⟨RL, "adjust", "([I[I[I[I[I[II)I"⟩
abbrev cL_lays : ByteArray := method_33_code
def yL_lays : MethodName := ⟨RL, "lays", "(LShaftPlumb;[I[I[I[I[III)Z"⟩
abbrev cL_walks : ByteArray := method_34_code
def yL_walks : MethodName := ⟨RL, "walks", "(LShaftPlumb;[I[I[I[I[I[I[III)Z"⟩
abbrev cL_acts : ByteArray := method_35_code
def yL_acts : MethodName := ⟨RL, "acts", "(LShaftPlumb;[I[I[I[I[I[I[I[II)Z"⟩
abbrev cL_infoOf : ByteArray := method_36_code
def yL_infoOf : MethodName := ⟨RL, "infoOf", "(LShaftPlumb;I)I"⟩
abbrev cL_wireOf : ByteArray := method_37_code
def yL_wireOf : MethodName := ⟨RL, "wireOf", "(LShaftPlumb;II)I"⟩
abbrev cL_joinOf : ByteArray := method_38_code
def yL_joinOf : MethodName := ⟨RL, "joinOf", "(LShaftPlumb;II)I"⟩
abbrev cL_traverseOf : ByteArray := method_39_code
def yL_traverseOf : MethodName := ⟨RL, "traverseOf", "(LShaftPlumb;II)I"⟩
abbrev cL_legOf : ByteArray := method_40_code
def yL_legOf : MethodName := ⟨RL, "legOf", "(LShaftPlumb;III)I"⟩
abbrev cL_troubleOf : ByteArray := method_41_code
def yL_troubleOf : MethodName := ⟨RL, "troubleOf", "(LShaftPlumb;II)I"⟩
abbrev cL_isLeg : ByteArray := method_42_code
def yL_isLeg : MethodName := ⟨RL, "isLeg", "(LShaftPlumb;[I[I[I[I[I[I[I[III)Z"⟩
abbrev cL_isTraverse : ByteArray := method_43_code
def yL_isTraverse : MethodName := ⟨RL, "isTraverse", "(LShaftPlumb;[I[I[I[I[I[I[I[II)Z"⟩
abbrev cL_isSo : ByteArray := method_44_code
def yL_isSo : MethodName := ⟨RL, "isSo", "(LShaftPlumb;[I[I[I[I[I[I[I[I)Z"⟩
abbrev cL_law : ByteArray := code
def yL_law : MethodName := ⟨RL, "law", "([I)Z"⟩
abbrev vwCl : List vw_C := [(RX0, TX0, 3), (RX1, TX1, 12), (RX2, TX2, 7), (RX4, TX4, 5), (RX5, TX5, 15), (RX6, TX6, 7), (RX7, TX7, 3)]
end
section
def GA : List Cond := lw_tbl.filter goodWord
theorem ga_mem {w : Cond} (i : Nat) (h : lw_tbl[i]? = some w) (hg : goodWord w = true) : w ∈ GA := List.mem_filter.mpr ⟨List.mem_of_getElem? h, hg⟩
theorem ga_in {ws : List Cond} (ps : List Nat) (hp : ws = ps.filterMap (fun i => lw_tbl[i]?)) (hg : ws.all goodWord = true) : ∀ w ∈ ws, w ∈ GA := fun w hw => List.mem_filter.mpr ⟨by
  rw [hp] at hw
  obtain ⟨i, -, hi⟩ := List.mem_filterMap.mp hw
  exact List.mem_of_getElem? hi, List.all_eq_true.mp hg w hw⟩
def gN : Nat → Nat := fun c => match c with
  | 0 => 3
  | 1 => 12
  | 2 => 7
  | 3 => 5
  | 4 => 15
  | 5 => 7
  | _ => 3
/-- 0 an int, 1 a long, 2 a reference -/
def gK : Nat → Nat → Nat := fun c j => match c with
  | 0 => [0, 0, 2].getD j 2
  | 1 => [0, 0, 0, 0, 0, 0, 0, 0, 0, 0, 0, 0].getD j 2
  | 2 => [2, 0, 0, 0, 2, 2, 2].getD j 2
  | 3 => [0, 0, 2, 0, 2].getD j 2
  | 4 => [0, 0, 0, 0, 0, 0, 0, 0, 0, 0, 2, 2, 2, 2, 2].getD j 2
  | 5 => [0, 0, 0, 0, 0, 0, 2].getD j 2
  | _ => [2, 2, 2].getD j 2
def gNM : List (String × Nat × MethodName × String) := [(RX2, 33, yX6_init, "ShaftPlumb"), (RX2, 34, yX1_init, "ShaftPlumb"), (RX2, 35, yX5_init, "ShaftPlumb"), (RX7, 25, yX4_init, "ShaftPlumb"), (RX0, 22, yX7_isIn, "ShaftPlumb"), (RX2, 92, yX7_isIn, "ShaftPlumb")]
def gNF : List (String × Nat × String × String × String × String) := [(RX2, 96, "ShaftPlumb", "LEAST_SETTINGS", "[I", "ShaftPlumb"), (RX2, 99, "ShaftPlumb", "GREATEST_SETTINGS", "[I", "ShaftPlumb")]
def gStr : List (String × Nat × String) := [(RX7, 64, "a coordinate is out of range"), (RX7, 72, "there are 6 wires"), (RX7, 278, "no such wire or traverse"), (RX7, 280, "an argument is out of range"), (RX7, 282, "not as things stand"), (RX7, 88, "no such wire"), (RX7, 108, "the same wire twice, or an argument out of range"), (RX7, 113, "there are 4 joins"), (RX7, 36, "no such setting, or a value out of its range"), (RX7, 123, "no such join"), (RX7, 125, "the small angle is out of range"), (RX7, 136, "there are 4 traverses"), (RX7, 145, "no such traverse or join"), (RX7, 152, "the first join, or an angle out of range"), (RX7, 157, "the traverse has no legs"), (RX7, 56, "what is 0 to 7"), (RX7, 97, "what is 0 to 5"), (RX7, 166, "no such traverse"), (RX7, 168, "what is 0 to 9"), (RX7, 174, "no such traverse or leg"), (RX7, 176, "what is 0 to 4")]
def gCast : List (String × String) := [("java/lang/IllegalArgumentException", "java/lang/IllegalArgumentException"), ("java/lang/IllegalStateException", "java/lang/IllegalStateException"), ("java/lang/IndexOutOfBoundsException", "java/lang/IndexOutOfBoundsException")]
def gNCast : List (String × String) := [("java/lang/IllegalArgumentException", "java/lang/IllegalStateException"), ("java/lang/IllegalArgumentException", "java/lang/IndexOutOfBoundsException"), ("java/lang/IllegalStateException", "java/lang/IllegalArgumentException"), ("java/lang/IllegalStateException", "java/lang/IndexOutOfBoundsException"), ("java/lang/IndexOutOfBoundsException", "java/lang/IllegalArgumentException"), ("java/lang/IndexOutOfBoundsException", "java/lang/IllegalStateException")]
def gAO : List String := ["ShaftPlumb$Wire", "ShaftPlumb$Join", "ShaftPlumb$Traverse", "ShaftPlumb$Mine"]
def gDecl : List MethodName := [⟨"java/lang/RuntimeException", "<init>", "()V"⟩, ⟨"java/lang/RuntimeException", "<init>", "(Ljava/lang/String;)V"⟩, ⟨"java/lang/Exception", "<init>", "()V"⟩, ⟨"java/lang/Exception", "<init>", "(Ljava/lang/String;)V"⟩, ⟨"java/lang/Throwable", "<init>", "()V"⟩, ⟨"java/lang/Throwable", "<init>", "(Ljava/lang/String;)V"⟩]
theorem kL_10 : Cond.classLink RL 10 RX7 ∈ GA := ga_mem 29 (by decide +kernel) rfl
theorem kL_238 : Cond.methodLink RL 238 yX7_init ∈ GA := ga_mem 31 (by decide +kernel) rfl
theorem kX7_1 : Cond.methodLink RX7 1 objectInit ∈ GA := ga_mem 34 (by decide +kernel) rfl
theorem kX7_7 : Cond.classLink RX7 7 RX2 ∈ GA := ga_mem 37 (by decide +kernel) rfl
theorem kX7_9 : Cond.methodLink RX7 9 yX2_init ∈ GA := ga_mem 39 (by decide +kernel) rfl
theorem kX2_3 : Cond.methodLink RX2 3 objectInit ∈ GA := ga_mem 42 (by decide +kernel) rfl
theorem kX2_15 : Cond.classLink RX2 15 RX6 ∈ GA := ga_mem 43 (by decide +kernel) rfl
theorem kX2_21 : Cond.classLink RX2 21 RX1 ∈ GA := ga_mem 45 (by decide +kernel) rfl
theorem kX2_27 : Cond.classLink RX2 27 RX5 ∈ GA := ga_mem 47 (by decide +kernel) rfl
theorem kX6_3 : Cond.methodLink RX6 3 objectInit ∈ GA := ga_mem 53 (by decide +kernel) rfl
theorem kX6_15 : Cond.fieldLink RX6 15 "ShaftPlumb$Wire" "east" "I" ∈ GA := ga_mem 54 (by decide +kernel) rfl
theorem kX1_30 : Cond.fieldLink RX1 30 "ShaftPlumb$Wire" "east" "I" ∈ GA := ga_mem 55 (by decide +kernel) rfl
theorem kX6_19 : Cond.fieldLink RX6 19 "ShaftPlumb$Wire" "north" "I" ∈ GA := ga_mem 56 (by decide +kernel) rfl
theorem kX1_36 : Cond.fieldLink RX1 36 "ShaftPlumb$Wire" "north" "I" ∈ GA := ga_mem 57 (by decide +kernel) rfl
theorem kX6_22 : Cond.fieldLink RX6 22 "ShaftPlumb$Wire" "turnCount" "I" ∈ GA := ga_mem 58 (by decide +kernel) rfl
theorem kX2_113 : Cond.fieldLink RX2 113 "ShaftPlumb$Wire" "turnCount" "I" ∈ GA := ga_mem 59 (by decide +kernel) rfl
theorem kX7_298 : Cond.fieldLink RX7 298 "ShaftPlumb$Wire" "turnCount" "I" ∈ GA := ga_mem 60 (by decide +kernel) rfl
theorem kX1_47 : Cond.fieldLink RX1 47 "ShaftPlumb$Wire" "rest" "I" ∈ GA := ga_mem 61 (by decide +kernel) rfl
theorem kX6_35 : Cond.fieldLink RX6 35 "ShaftPlumb$Wire" "rest" "I" ∈ GA := ga_mem 62 (by decide +kernel) rfl
theorem kX6_41 : Cond.fieldLink RX6 41 "ShaftPlumb$Wire" "spread" "I" ∈ GA := ga_mem 63 (by decide +kernel) rfl
theorem kX1_40 : Cond.fieldLink RX1 40 "ShaftPlumb$Wire" "trouble" "I" ∈ GA := ga_mem 64 (by decide +kernel) rfl
theorem kX6_44 : Cond.fieldLink RX6 44 "ShaftPlumb$Wire" "trouble" "I" ∈ GA := ga_mem 65 (by decide +kernel) rfl
theorem kX6_9 : Cond.fieldLink RX6 9 "ShaftPlumb$Wire" "turns" "[I" ∈ GA := ga_mem 66 (by decide +kernel) rfl
theorem kX1_3 : Cond.methodLink RX1 3 objectInit ∈ GA := ga_mem 87 (by decide +kernel) rfl
theorem kX1_9 : Cond.fieldLink RX1 9 "ShaftPlumb$Join" "near" "I" ∈ GA := ga_mem 88 (by decide +kernel) rfl
theorem kX2_66 : Cond.fieldLink RX2 66 "ShaftPlumb$Join" "near" "I" ∈ GA := ga_mem 89 (by decide +kernel) rfl
theorem kX1_15 : Cond.fieldLink RX1 15 "ShaftPlumb$Join" "far" "I" ∈ GA := ga_mem 90 (by decide +kernel) rfl
theorem kX2_73 : Cond.fieldLink RX2 73 "ShaftPlumb$Join" "far" "I" ∈ GA := ga_mem 91 (by decide +kernel) rfl
theorem kX1_27 : Cond.fieldLink RX1 27 "ShaftPlumb$Join" "g" "I" ∈ GA := ga_mem 92 (by decide +kernel) rfl
theorem kX7_127 : Cond.fieldLink RX7 127 "ShaftPlumb$Join" "g" "I" ∈ GA := ga_mem 93 (by decide +kernel) rfl
theorem kX1_35 : Cond.fieldLink RX1 35 "ShaftPlumb$Join" "east" "I" ∈ GA := ga_mem 94 (by decide +kernel) rfl
theorem kX5_103 : Cond.fieldLink RX5 103 "ShaftPlumb$Join" "east" "I" ∈ GA := ga_mem 95 (by decide +kernel) rfl
theorem kX1_39 : Cond.fieldLink RX1 39 "ShaftPlumb$Join" "north" "I" ∈ GA := ga_mem 96 (by decide +kernel) rfl
theorem kX5_112 : Cond.fieldLink RX5 112 "ShaftPlumb$Join" "north" "I" ∈ GA := ga_mem 97 (by decide +kernel) rfl
theorem kX1_43 : Cond.fieldLink RX1 43 "ShaftPlumb$Join" "cause" "I" ∈ GA := ga_mem 98 (by decide +kernel) rfl
theorem kX2_131 : Cond.fieldLink RX2 131 "ShaftPlumb$Join" "cause" "I" ∈ GA := ga_mem 99 (by decide +kernel) rfl
theorem kX1_46 : Cond.fieldLink RX1 46 "ShaftPlumb$Join" "trouble" "I" ∈ GA := ga_mem 100 (by decide +kernel) rfl
theorem kX5_86 : Cond.fieldLink RX5 86 "ShaftPlumb$Join" "trouble" "I" ∈ GA := ga_mem 101 (by decide +kernel) rfl
theorem kX2_130 : Cond.fieldLink RX2 130 "ShaftPlumb$Join" "trouble" "I" ∈ GA := ga_mem 102 (by decide +kernel) rfl
theorem kX1_66 : Cond.fieldLink RX1 66 "ShaftPlumb$Join" "start" "I" ∈ GA := ga_mem 103 (by decide +kernel) rfl
theorem kX5_94 : Cond.fieldLink RX5 94 "ShaftPlumb$Join" "start" "I" ∈ GA := ga_mem 104 (by decide +kernel) rfl
theorem kX1_18 : Cond.fieldLink RX1 18 "ShaftPlumb$Join" "bearing" "I" ∈ GA := ga_mem 105 (by decide +kernel) rfl
theorem kX1_21 : Cond.fieldLink RX1 21 "ShaftPlumb$Join" "c" "I" ∈ GA := ga_mem 106 (by decide +kernel) rfl
theorem kX1_24 : Cond.fieldLink RX1 24 "ShaftPlumb$Join" "a" "I" ∈ GA := ga_mem 107 (by decide +kernel) rfl
theorem kX1_58 : Cond.fieldLink RX1 58 "ShaftPlumb$Join" "swung" "I" ∈ GA := ga_mem 108 (by decide +kernel) rfl
theorem kX5_3 : Cond.methodLink RX5 3 objectInit ∈ GA := ga_mem 138 (by decide +kernel) rfl
theorem kX5_27 : Cond.fieldLink RX5 27 "ShaftPlumb$Traverse" "firstJoin" "I" ∈ GA := ga_mem 139 (by decide +kernel) rfl
theorem kX2_79 : Cond.fieldLink RX2 79 "ShaftPlumb$Traverse" "firstJoin" "I" ∈ GA := ga_mem 140 (by decide +kernel) rfl
theorem kX7_147 : Cond.fieldLink RX7 147 "ShaftPlumb$Traverse" "firstJoin" "I" ∈ GA := ga_mem 141 (by decide +kernel) rfl
theorem kX5_31 : Cond.fieldLink RX5 31 "ShaftPlumb$Traverse" "lastJoin" "I" ∈ GA := ga_mem 142 (by decide +kernel) rfl
theorem kX2_86 : Cond.fieldLink RX2 86 "ShaftPlumb$Traverse" "lastJoin" "I" ∈ GA := ga_mem 143 (by decide +kernel) rfl
theorem kX5_37 : Cond.fieldLink RX5 37 "ShaftPlumb$Traverse" "legCount" "I" ∈ GA := ga_mem 144 (by decide +kernel) rfl
theorem kX2_110 : Cond.fieldLink RX2 110 "ShaftPlumb$Traverse" "legCount" "I" ∈ GA := ga_mem 145 (by decide +kernel) rfl
theorem kX7_154 : Cond.fieldLink RX7 154 "ShaftPlumb$Traverse" "legCount" "I" ∈ GA := ga_mem 146 (by decide +kernel) rfl
theorem kX5_51 : Cond.fieldLink RX5 51 "ShaftPlumb$Traverse" "trouble" "I" ∈ GA := ga_mem 147 (by decide +kernel) rfl
theorem kX7_163 : Cond.fieldLink RX7 163 "ShaftPlumb$Traverse" "trouble" "I" ∈ GA := ga_mem 148 (by decide +kernel) rfl
theorem kX2_127 : Cond.fieldLink RX2 127 "ShaftPlumb$Traverse" "trouble" "I" ∈ GA := ga_mem 149 (by decide +kernel) rfl
theorem kX5_34 : Cond.fieldLink RX5 34 "ShaftPlumb$Traverse" "closingAngle" "I" ∈ GA := ga_mem 150 (by decide +kernel) rfl
theorem kX5_61 : Cond.fieldLink RX5 61 "ShaftPlumb$Traverse" "gap" "I" ∈ GA := ga_mem 151 (by decide +kernel) rfl
theorem kX5_100 : Cond.fieldLink RX5 100 "ShaftPlumb$Traverse" "eastAtEnd" "I" ∈ GA := ga_mem 152 (by decide +kernel) rfl
theorem kX5_109 : Cond.fieldLink RX5 109 "ShaftPlumb$Traverse" "northAtEnd" "I" ∈ GA := ga_mem 153 (by decide +kernel) rfl
theorem kX5_106 : Cond.fieldLink RX5 106 "ShaftPlumb$Traverse" "missEast" "I" ∈ GA := ga_mem 154 (by decide +kernel) rfl
theorem kX5_115 : Cond.fieldLink RX5 115 "ShaftPlumb$Traverse" "missNorth" "I" ∈ GA := ga_mem 155 (by decide +kernel) rfl
theorem kX5_9 : Cond.fieldLink RX5 9 "ShaftPlumb$Traverse" "angles" "[I" ∈ GA := ga_mem 156 (by decide +kernel) rfl
theorem kX5_15 : Cond.fieldLink RX5 15 "ShaftPlumb$Traverse" "lengths" "[I" ∈ GA := ga_mem 157 (by decide +kernel) rfl
theorem kX5_18 : Cond.fieldLink RX5 18 "ShaftPlumb$Traverse" "bearings" "[I" ∈ GA := ga_mem 158 (by decide +kernel) rfl
theorem kX5_21 : Cond.fieldLink RX5 21 "ShaftPlumb$Traverse" "easts" "[I" ∈ GA := ga_mem 159 (by decide +kernel) rfl
theorem kX5_24 : Cond.fieldLink RX5 24 "ShaftPlumb$Traverse" "norths" "[I" ∈ GA := ga_mem 160 (by decide +kernel) rfl
theorem kX2_9 : Cond.fieldLink RX2 9 "ShaftPlumb$Mine" "settings" "[I" ∈ GA := ga_mem 192 (by decide +kernel) rfl
theorem kX2_42 : Cond.fieldLink RX2 42 "ShaftPlumb$Mine" "wireCount" "I" ∈ GA := ga_mem 193 (by decide +kernel) rfl
theorem kX7_66 : Cond.fieldLink RX7 66 "ShaftPlumb$Mine" "wireCount" "I" ∈ GA := ga_mem 194 (by decide +kernel) rfl
theorem kX2_46 : Cond.fieldLink RX2 46 "ShaftPlumb$Mine" "joinCount" "I" ∈ GA := ga_mem 195 (by decide +kernel) rfl
theorem kX7_110 : Cond.fieldLink RX7 110 "ShaftPlumb$Mine" "joinCount" "I" ∈ GA := ga_mem 196 (by decide +kernel) rfl
theorem kX2_49 : Cond.fieldLink RX2 49 "ShaftPlumb$Mine" "traverseCount" "I" ∈ GA := ga_mem 197 (by decide +kernel) rfl
theorem kX7_133 : Cond.fieldLink RX7 133 "ShaftPlumb$Mine" "traverseCount" "I" ∈ GA := ga_mem 198 (by decide +kernel) rfl
theorem kX2_17 : Cond.fieldLink RX2 17 "ShaftPlumb$Mine" "wires" "[LShaftPlumb$Wire;" ∈ GA := ga_mem 199 (by decide +kernel) rfl
theorem kX2_23 : Cond.fieldLink RX2 23 "ShaftPlumb$Mine" "joins" "[LShaftPlumb$Join;" ∈ GA := ga_mem 200 (by decide +kernel) rfl
theorem kX2_29 : Cond.fieldLink RX2 29 "ShaftPlumb$Mine" "traverses" "[LShaftPlumb$Traverse;" ∈ GA := ga_mem 201 (by decide +kernel) rfl
theorem kX7_16 : Cond.classLink RX7 16 RX0 ∈ GA := ga_mem 217 (by decide +kernel) rfl
theorem kX7_18 : Cond.methodLink RX7 18 yX0_init ∈ GA := ga_mem 219 (by decide +kernel) rfl
theorem kX0_3 : Cond.methodLink RX0 3 objectInit ∈ GA := ga_mem 222 (by decide +kernel) rfl
theorem kX0_9 : Cond.classLink RX0 9 RX2 ∈ GA := ga_mem 223 (by decide +kernel) rfl
theorem kX0_17 : Cond.methodLink RX0 17 yX2_init ∈ GA := ga_mem 225 (by decide +kernel) rfl
theorem kX0_30 : Cond.fieldLink RX0 30 "ShaftPlumb$Copies" "count" "I" ∈ GA := ga_mem 226 (by decide +kernel) rfl
theorem kX0_18 : Cond.fieldLink RX0 18 "ShaftPlumb$Copies" "latest" "I" ∈ GA := ga_mem 227 (by decide +kernel) rfl
theorem kX0_11 : Cond.fieldLink RX0 11 "ShaftPlumb$Copies" "kept" "[LShaftPlumb$Mine;" ∈ GA := ga_mem 228 (by decide +kernel) rfl
theorem kX7_23 : Cond.classLink RX7 23 RX4 ∈ GA := ga_mem 236 (by decide +kernel) rfl
theorem kX4_3 : Cond.methodLink RX4 3 objectInit ∈ GA := ga_mem 241 (by decide +kernel) rfl
theorem kX4_9 : Cond.fieldLink RX4 9 "ShaftPlumb$Script" "numbers" "[I" ∈ GA := ga_mem 242 (by decide +kernel) rfl
theorem kX4_15 : Cond.fieldLink RX4 15 "ShaftPlumb$Script" "text" "[C" ∈ GA := ga_mem 243 (by decide +kernel) rfl
theorem kX7_10 : Cond.fieldLink RX7 10 "ShaftPlumb" "mine" "LShaftPlumb$Mine;" ∈ GA := ga_mem 256 (by decide +kernel) rfl
theorem kX7_19 : Cond.fieldLink RX7 19 "ShaftPlumb" "copies" "LShaftPlumb$Copies;" ∈ GA := ga_mem 257 (by decide +kernel) rfl
theorem kX7_26 : Cond.fieldLink RX7 26 "ShaftPlumb" "script" "LShaftPlumb$Script;" ∈ GA := ga_mem 258 (by decide +kernel) rfl
theorem kL_243 : Cond.methodLink RL 243 yL_cell ∈ GA := ga_mem 266 (by decide +kernel) rfl
theorem kL_7 : Cond.constant RL 7 (40503) ∈ GA := ga_mem 269 (by decide +kernel) rfl
theorem kL_167 : Cond.methodLink RL 167 yL_low ∈ GA := ga_mem 270 (by decide +kernel) rfl
theorem kL_8 : Cond.constant RL 8 (2147483647) ∈ GA := ga_mem 273 (by decide +kernel) rfl
theorem kL_170 : Cond.methodLink RL 170 yL_lays ∈ GA := ga_mem 274 (by decide +kernel) rfl
theorem kL_131 : Cond.methodLink RL 131 yL_hangs ∈ GA := ga_mem 277 (by decide +kernel) rfl
theorem kL_15 : Cond.classLink RL 15 "java/lang/IllegalArgumentException" ∈ GA := ga_mem 280 (by decide +kernel) rfl
theorem kL_21 : Cond.classLink RL 21 "java/lang/IllegalStateException" ∈ GA := ga_mem 281 (by decide +kernel) rfl
theorem kL_18 : Cond.methodLink RL 18 yX7_hang ∈ GA := ga_mem 282 (by decide +kernel) rfl
theorem kX7_62 : Cond.constant RX7 62 (-1000000) ∈ GA := ga_mem 286 (by decide +kernel) rfl
theorem kX7_63 : Cond.constant RX7 63 (1000000) ∈ GA := ga_mem 287 (by decide +kernel) rfl
theorem kX7_52 : Cond.methodLink RX7 52 yX7_isIn ∈ GA := ga_mem 288 (by decide +kernel) rfl
theorem kX7_34 : Cond.classLink RX7 34 "java/lang/IllegalArgumentException" ∈ GA := ga_mem 291 (by decide +kernel) rfl
theorem kX7_38 : Cond.methodLink RX7 38 ⟨"java/lang/IllegalArgumentException", "<init>", "(Ljava/lang/String;)V"⟩ ∈ GA := ga_mem 333 (by decide +kernel) rfl
theorem kX7_70 : Cond.classLink RX7 70 "java/lang/IllegalStateException" ∈ GA := ga_mem 359 (by decide +kernel) rfl
theorem kX7_74 : Cond.methodLink RX7 74 ⟨"java/lang/IllegalStateException", "<init>", "(Ljava/lang/String;)V"⟩ ∈ GA := ga_mem 369 (by decide +kernel) rfl
theorem kX7_41 : Cond.methodLink RX7 41 yX0_keep ∈ GA := ga_mem 375 (by decide +kernel) rfl
theorem kX0_26 : Cond.methodLink RX0 26 yX2_copyFrom ∈ GA := ga_mem 380 (by decide +kernel) rfl
theorem kX2_36 : Cond.methodLink RX2 36 arraycopyName ∈ GA := ga_mem 384 (by decide +kernel) rfl
theorem kX2_52 : Cond.methodLink RX2 52 yX6_copyFrom ∈ GA := ga_mem 387 (by decide +kernel) rfl
theorem kX6_25 : Cond.methodLink RX6 25 arraycopyName ∈ GA := ga_mem 391 (by decide +kernel) rfl
theorem kX2_56 : Cond.methodLink RX2 56 yX1_copyFrom ∈ GA := ga_mem 392 (by decide +kernel) rfl
theorem kX2_59 : Cond.methodLink RX2 59 yX5_copyFrom ∈ GA := ga_mem 396 (by decide +kernel) rfl
theorem kX5_40 : Cond.methodLink RX5 40 arraycopyName ∈ GA := ga_mem 400 (by decide +kernel) rfl
theorem kX0_33 : Cond.methodLink RX0 33 Lib.Math.min.name ∈ GA := ga_mem 401 (by decide +kernel) rfl
theorem kX7_75 : Cond.methodLink RX7 75 yX2_addWire ∈ GA := ga_mem 404 (by decide +kernel) rfl
theorem kX2_102 : Cond.constant RX2 102 (-2000000000) ∈ GA := ga_mem 409 (by decide +kernel) rfl
theorem kX2_116 : Cond.methodLink RX2 116 yX6_hangAt ∈ GA := ga_mem 410 (by decide +kernel) rfl
theorem kX7_49 : Cond.methodLink RX7 49 yX2_judge ∈ GA := ga_mem 414 (by decide +kernel) rfl
theorem kX2_62 : Cond.methodLink RX2 62 yX6_judge ∈ GA := ga_mem 418 (by decide +kernel) rfl
theorem kX6_31 : Cond.methodLink RX6 31 yX6_meanOfTurns ∈ GA := ga_mem 422 (by decide +kernel) rfl
theorem kX6_47 : Cond.constant RX6 47 (-2000000000) ∈ GA := ga_mem 426 (by decide +kernel) rfl
theorem kX6_48 : Cond.methodLink RX6 48 yX3_quotient ∈ GA := ga_mem 427 (by decide +kernel) rfl
theorem kX6_38 : Cond.methodLink RX6 38 yX6_greatestDifference ∈ GA := ga_mem 430 (by decide +kernel) rfl
theorem kX6_54 : Cond.methodLink RX6 54 Lib.Math.abs.name ∈ GA := ga_mem 434 (by decide +kernel) rfl
theorem kX6_60 : Cond.methodLink RX6 60 Lib.Math.max.name ∈ GA := ga_mem 437 (by decide +kernel) rfl
theorem kX2_69 : Cond.methodLink RX2 69 yX2_wireAt ∈ GA := ga_mem 440 (by decide +kernel) rfl
theorem kX2_76 : Cond.methodLink RX2 76 yX1_judge ∈ GA := ga_mem 444 (by decide +kernel) rfl
theorem kX1_50 : Cond.constantLong RX1 50 (20626) ∈ GA := ga_mem 448 (by decide +kernel) rfl
theorem kX1_52 : Cond.methodLink RX1 52 yX3_quotient ∈ GA := ga_mem 449 (by decide +kernel) rfl
theorem kX1_61 : Cond.constant RX1 61 (-2000000000) ∈ GA := ga_mem 450 (by decide +kernel) rfl
theorem kX1_62 : Cond.methodLink RX1 62 yX1_startWith ∈ GA := ga_mem 451 (by decide +kernel) rfl
theorem kX1_69 : Cond.methodLink RX1 69 yX3_norm ∈ GA := ga_mem 455 (by decide +kernel) rfl
theorem kX3_9 : Cond.constant RX3 9 (1296000) ∈ GA := ga_mem 458 (by decide +kernel) rfl
theorem kX2_82 : Cond.methodLink RX2 82 yX2_joinAt ∈ GA := ga_mem 459 (by decide +kernel) rfl
theorem kX2_89 : Cond.methodLink RX2 89 yX5_judge ∈ GA := ga_mem 463 (by decide +kernel) rfl
theorem kX5_89 : Cond.methodLink RX5 89 yX5_layOut ∈ GA := ga_mem 467 (by decide +kernel) rfl
theorem kX5_93 : Cond.constant RX5 93 (648000) ∈ GA := ga_mem 471 (by decide +kernel) rfl
theorem kX5_79 : Cond.methodLink RX5 79 yX3_norm ∈ GA := ga_mem 472 (by decide +kernel) rfl
theorem kX5_122 : Cond.methodLink RX5 122 yX3_sineOf ∈ GA := ga_mem 473 (by decide +kernel) rfl
theorem kX3_11 : Cond.methodLink RX3 11 yX3_norm ∈ GA := ga_mem 476 (by decide +kernel) rfl
theorem kX3_10 : Cond.constant RX3 10 (648000) ∈ GA := ga_mem 477 (by decide +kernel) rfl
theorem kX3_17 : Cond.constantLong RX3 17 (648000) ∈ GA := ga_mem 478 (by decide +kernel) rfl
theorem kX3_19 : Cond.constantLong RX3 19 (40000) ∈ GA := ga_mem 479 (by decide +kernel) rfl
theorem kX3_21 : Cond.constantLong RX3 21 (524880000000) ∈ GA := ga_mem 480 (by decide +kernel) rfl
theorem kX3_23 : Cond.methodLink RX3 23 yX3_quotient ∈ GA := ga_mem 481 (by decide +kernel) rfl
theorem kX5_125 : Cond.methodLink RX5 125 yX5_step ∈ GA := ga_mem 482 (by decide +kernel) rfl
theorem kX5_130 : Cond.constantLong RX5 130 (10000) ∈ GA := ga_mem 485 (by decide +kernel) rfl
theorem kX5_64 : Cond.methodLink RX5 64 yX3_quotient ∈ GA := ga_mem 486 (by decide +kernel) rfl
theorem kX5_129 : Cond.constant RX5 129 (324000) ∈ GA := ga_mem 487 (by decide +kernel) rfl
theorem kX5_97 : Cond.methodLink RX5 97 yX3_centre ∈ GA := ga_mem 488 (by decide +kernel) rfl
theorem kX5_74 : Cond.methodLink RX5 74 Lib.Math.abs.name ∈ GA := ga_mem 491 (by decide +kernel) rfl
theorem kX5_118 : Cond.methodLink RX5 118 yX3_rootOf ∈ GA := ga_mem 492 (by decide +kernel) rfl
theorem kL_17 : Cond.constant RL 17 (-2000002) ∈ GA := ga_mem 495 (by decide +kernel) rfl
theorem kL_23 : Cond.constant RL 23 (-2000003) ∈ GA := ga_mem 496 (by decide +kernel) rfl
theorem kL_135 : Cond.constant RL 135 (1000001) ∈ GA := ga_mem 497 (by decide +kernel) rfl
theorem kL_136 : Cond.methodLink RL 136 yL_swings ∈ GA := ga_mem 498 (by decide +kernel) rfl
theorem kL_27 : Cond.classLink RL 27 "java/lang/IndexOutOfBoundsException" ∈ GA := ga_mem 501 (by decide +kernel) rfl
theorem kL_24 : Cond.methodLink RL 24 yX7_swing ∈ GA := ga_mem 502 (by decide +kernel) rfl
theorem kX7_78 : Cond.methodLink RX7 78 yX7_order ∈ GA := ga_mem 506 (by decide +kernel) rfl
theorem kX7_275 : Cond.methodLink RX7 275 yX7_refusalOf ∈ GA := ga_mem 510 (by decide +kernel) rfl
theorem kX7_82 : Cond.methodLink RX7 82 yX2_wireAt ∈ GA := ga_mem 514 (by decide +kernel) rfl
theorem kX7_287 : Cond.methodLink RX7 287 yX7_refusalOfTurn ∈ GA := ga_mem 515 (by decide +kernel) rfl
theorem kX7_141 : Cond.methodLink RX7 141 yX2_traverseAt ∈ GA := ga_mem 518 (by decide +kernel) rfl
theorem kX7_291 : Cond.methodLink RX7 291 yX7_refusalOfLeg ∈ GA := ga_mem 522 (by decide +kernel) rfl
theorem kX7_100 : Cond.methodLink RX7 100 yX7_isBearing ∈ GA := ga_mem 525 (by decide +kernel) rfl
theorem kX7_313 : Cond.constant RX7 313 (1295999) ∈ GA := ga_mem 528 (by decide +kernel) rfl
theorem kX7_301 : Cond.constant RX7 301 (200000) ∈ GA := ga_mem 529 (by decide +kernel) rfl
theorem kX7_294 : Cond.methodLink RX7 294 yX5_isClosed ∈ GA := ga_mem 530 (by decide +kernel) rfl
theorem kX5_46 : Cond.constant RX5 46 (-2000000000) ∈ GA := ga_mem 534 (by decide +kernel) rfl
theorem kX7_86 : Cond.classLink RX7 86 "java/lang/IndexOutOfBoundsException" ∈ GA := ga_mem 535 (by decide +kernel) rfl
theorem kX7_90 : Cond.methodLink RX7 90 ⟨"java/lang/IndexOutOfBoundsException", "<init>", "(Ljava/lang/String;)V"⟩ ∈ GA := ga_mem 545 (by decide +kernel) rfl
theorem kX7_284 : Cond.methodLink RX7 284 yX7_carryOut ∈ GA := ga_mem 553 (by decide +kernel) rfl
theorem kX7_189 : Cond.constant RX7 189 (-2000000000) ∈ GA := ga_mem 557 (by decide +kernel) rfl
theorem kX7_302 : Cond.methodLink RX7 302 yX6_addTurn ∈ GA := ga_mem 558 (by decide +kernel) rfl
theorem kX7_305 : Cond.methodLink RX7 305 yX5_append ∈ GA := ga_mem 562 (by decide +kernel) rfl
theorem kX7_307 : Cond.methodLink RX7 307 yX5_shorten ∈ GA := ga_mem 566 (by decide +kernel) rfl
theorem kX5_47 : Cond.methodLink RX5 47 yX5_closeOn ∈ GA := ga_mem 570 (by decide +kernel) rfl
theorem kX7_310 : Cond.methodLink RX7 310 yX5_takeGapAway ∈ GA := ga_mem 574 (by decide +kernel) rfl
theorem kX5_70 : Cond.methodLink RX5 70 yX5_legsBefore ∈ GA := ga_mem 578 (by decide +kernel) rfl
theorem kX5_82 : Cond.methodLink RX5 82 yX5_hasLeg ∈ GA := ga_mem 582 (by decide +kernel) rfl
theorem kL_29 : Cond.constant RL 29 (-2000001) ∈ GA := ga_mem 586 (by decide +kernel) rfl
theorem kL_139 : Cond.methodLink RL 139 yL_stills ∈ GA := ga_mem 587 (by decide +kernel) rfl
theorem kL_30 : Cond.methodLink RL 30 yX7_still ∈ GA := ga_mem 590 (by decide +kernel) rfl
theorem kX7_91 : Cond.methodLink RX7 91 yX6_dropTurns ∈ GA := ga_mem 595 (by decide +kernel) rfl
theorem kL_143 : Cond.methodLink RL 143 yL_joins ∈ GA := ga_mem 599 (by decide +kernel) rfl
theorem kL_34 : Cond.methodLink RL 34 yX7_join ∈ GA := ga_mem 602 (by decide +kernel) rfl
theorem kX7_104 : Cond.constant RX7 104 (50000) ∈ GA := ga_mem 606 (by decide +kernel) rfl
theorem kX7_105 : Cond.methodLink RX7 105 yX7_isSmall ∈ GA := ga_mem 607 (by decide +kernel) rfl
theorem kX7_115 : Cond.methodLink RX7 115 yX2_addJoin ∈ GA := ga_mem 612 (by decide +kernel) rfl
theorem kX2_120 : Cond.methodLink RX2 120 yX1_lay ∈ GA := ga_mem 616 (by decide +kernel) rfl
theorem kL_147 : Cond.constant RL 147 (1296000) ∈ GA := ga_mem 620 (by decide +kernel) rfl
theorem kL_247 : Cond.methodLink RL 247 yL_acts ∈ GA := ga_mem 621 (by decide +kernel) rfl
theorem kL_166 : Cond.constant RL 166 (60000000) ∈ GA := ga_mem 624 (by decide +kernel) rfl
theorem kL_174 : Cond.constant RL 174 (1000000) ∈ GA := ga_mem 625 (by decide +kernel) rfl
theorem kL_175 : Cond.methodLink RL 175 yL_sets ∈ GA := ga_mem 626 (by decide +kernel) rfl
theorem kL_9 : Cond.methodLink RL 9 yX7_set ∈ GA := ga_mem 629 (by decide +kernel) rfl
theorem kX7_30 : Cond.methodLink RX7 30 yX2_takesSetting ∈ GA := ga_mem 633 (by decide +kernel) rfl
theorem kX7_45 : Cond.methodLink RX7 45 yX2_changeSetting ∈ GA := ga_mem 642 (by decide +kernel) rfl
theorem kL_178 : Cond.methodLink RL 178 yL_measures ∈ GA := ga_mem 646 (by decide +kernel) rfl
theorem kL_38 : Cond.methodLink RL 38 yX7_measure ∈ GA := ga_mem 649 (by decide +kernel) rfl
theorem kX7_119 : Cond.methodLink RX7 119 yX2_joinAt ∈ GA := ga_mem 653 (by decide +kernel) rfl
theorem kL_181 : Cond.methodLink RL 181 yL_begins ∈ GA := ga_mem 656 (by decide +kernel) rfl
theorem kL_41 : Cond.methodLink RL 41 yX7_begin ∈ GA := ga_mem 659 (by decide +kernel) rfl
theorem kX7_138 : Cond.methodLink RX7 138 yX2_addTraverse ∈ GA := ga_mem 664 (by decide +kernel) rfl
theorem kX2_124 : Cond.methodLink RX2 124 yX5_startAt ∈ GA := ga_mem 668 (by decide +kernel) rfl
theorem kL_149 : Cond.methodLink RL 149 yL_adds ∈ GA := ga_mem 672 (by decide +kernel) rfl
theorem kL_44 : Cond.methodLink RL 44 yX7_addLeg ∈ GA := ga_mem 675 (by decide +kernel) rfl
theorem kL_153 : Cond.methodLink RL 153 yL_drops ∈ GA := ga_mem 679 (by decide +kernel) rfl
theorem kL_48 : Cond.methodLink RL 48 yX7_dropLeg ∈ GA := ga_mem 682 (by decide +kernel) rfl
theorem kL_156 : Cond.methodLink RL 156 yL_closes ∈ GA := ga_mem 686 (by decide +kernel) rfl
theorem kL_51 : Cond.methodLink RL 51 yX7_close ∈ GA := ga_mem 689 (by decide +kernel) rfl
theorem kX7_159 : Cond.methodLink RX7 159 yX5_closeOn ∈ GA := ga_mem 696 (by decide +kernel) rfl
theorem kL_161 : Cond.methodLink RL 161 yL_adjusts ∈ GA := ga_mem 697 (by decide +kernel) rfl
theorem kL_54 : Cond.methodLink RL 54 yX7_adjust ∈ GA := ga_mem 700 (by decide +kernel) rfl
theorem kL_184 : Cond.methodLink RL 184 yL_walks ∈ GA := ga_mem 704 (by decide +kernel) rfl
theorem kL_148 : Cond.constant RL 148 (200000) ∈ GA := ga_mem 707 (by decide +kernel) rfl
theorem kL_105 : Cond.methodLink RL 105 yL_joint ∈ GA := ga_mem 708 (by decide +kernel) rfl
theorem kL_86 : Cond.methodLink RL 86 yL_wires ∈ GA := ga_mem 711 (by decide +kernel) rfl
theorem kL_82 : Cond.methodLink RL 82 yL_wrong ∈ GA := ga_mem 714 (by decide +kernel) rfl
theorem kL_77 : Cond.methodLink RL 77 yL_drift ∈ GA := ga_mem 717 (by decide +kernel) rfl
theorem kL_74 : Cond.methodLink RL 74 yL_size ∈ GA := ga_mem 720 (by decide +kernel) rfl
theorem kL_108 : Cond.methodLink RL 108 yL_gap ∈ GA := ga_mem 723 (by decide +kernel) rfl
theorem kL_98 : Cond.methodLink RL 98 yL_bearing ∈ GA := ga_mem 726 (by decide +kernel) rfl
theorem kL_95 : Cond.methodLink RL 95 yL_start ∈ GA := ga_mem 729 (by decide +kernel) rfl
theorem kL_90 : Cond.methodLink RL 90 yL_rest ∈ GA := ga_mem 732 (by decide +kernel) rfl
theorem kL_81 : Cond.constant RL 81 (-2000000000) ∈ GA := ga_mem 735 (by decide +kernel) rfl
theorem kL_93 : Cond.constantLong RL 93 (20626) ∈ GA := ga_mem 736 (by decide +kernel) rfl
theorem kL_61 : Cond.methodLink RL 61 yL_norm ∈ GA := ga_mem 737 (by decide +kernel) rfl
theorem kL_57 : Cond.constantLong RL 57 (1296000) ∈ GA := ga_mem 740 (by decide +kernel) rfl
theorem kL_59 : Cond.constantLong RL 59 (648000) ∈ GA := ga_mem 741 (by decide +kernel) rfl
theorem kL_102 : Cond.methodLink RL 102 yL_centre ∈ GA := ga_mem 742 (by decide +kernel) rfl
theorem kL_67 : Cond.constant RL 67 (648000) ∈ GA := ga_mem 745 (by decide +kernel) rfl
theorem kL_159 : Cond.constantLong RL 159 (60) ∈ GA := ga_mem 746 (by decide +kernel) rfl
theorem kL_123 : Cond.methodLink RL 123 yL_trouble ∈ GA := ga_mem 747 (by decide +kernel) rfl
theorem kL_112 : Cond.methodLink RL 112 yL_root ∈ GA := ga_mem 750 (by decide +kernel) rfl
theorem kL_72 : Cond.constantLong RL 72 (67108864) ∈ GA := ga_mem 753 (by decide +kernel) rfl
theorem kL_164 : Cond.methodLink RL 164 yL_adjust ∈ GA := ga_mem 754 (by decide +kernel) rfl
theorem kL_235 : Cond.methodLink RL 235 yL_infoOf ∈ GA := ga_mem 757 (by decide +kernel) rfl
theorem kL_188 : Cond.methodLink RL 188 yX7_info ∈ GA := ga_mem 760 (by decide +kernel) rfl
theorem kX7_58 : Cond.methodLink RX7 58 yX2_number ∈ GA := ga_mem 765 (by decide +kernel) rfl
theorem kX2_103 : Cond.methodLink RX2 103 yX2_legsOfAll ∈ GA := ga_mem 769 (by decide +kernel) rfl
theorem kX2_107 : Cond.methodLink RX2 107 yX2_turnsOfAll ∈ GA := ga_mem 773 (by decide +kernel) rfl
theorem kL_226 : Cond.methodLink RL 226 yL_wireOf ∈ GA := ga_mem 777 (by decide +kernel) rfl
theorem kL_191 : Cond.methodLink RL 191 yX7_wire ∈ GA := ga_mem 780 (by decide +kernel) rfl
theorem kX7_99 : Cond.methodLink RX7 99 yX6_number ∈ GA := ga_mem 785 (by decide +kernel) rfl
theorem kL_229 : Cond.methodLink RL 229 yL_joinOf ∈ GA := ga_mem 789 (by decide +kernel) rfl
theorem kL_194 : Cond.methodLink RL 194 yX7_joinOf ∈ GA := ga_mem 792 (by decide +kernel) rfl
theorem kX7_132 : Cond.methodLink RX7 132 yX1_number ∈ GA := ga_mem 796 (by decide +kernel) rfl
theorem kL_216 : Cond.methodLink RL 216 yL_traverseOf ∈ GA := ga_mem 800 (by decide +kernel) rfl
theorem kL_197 : Cond.methodLink RL 197 yX7_traverse ∈ GA := ga_mem 803 (by decide +kernel) rfl
theorem kX7_170 : Cond.methodLink RX7 170 yX5_number ∈ GA := ga_mem 809 (by decide +kernel) rfl
theorem kX5_132 : Cond.methodLink RX5 132 yX5_sumOfLengths ∈ GA := ga_mem 813 (by decide +kernel) rfl
theorem kX5_136 : Cond.methodLink RX5 136 yX5_hasGap ∈ GA := ga_mem 817 (by decide +kernel) rfl
theorem kX5_54 : Cond.methodLink RX5 54 yX5_isClosed ∈ GA := ga_mem 821 (by decide +kernel) rfl
theorem kX5_58 : Cond.methodLink RX5 58 yX5_hasEnd ∈ GA := ga_mem 822 (by decide +kernel) rfl
theorem kX5_139 : Cond.methodLink RX5 139 yX5_numberOfClosing ∈ GA := ga_mem 826 (by decide +kernel) rfl
theorem kX5_142 : Cond.methodLink RX5 142 yX3_lengthOf ∈ GA := ga_mem 830 (by decide +kernel) rfl
theorem kX3_27 : Cond.methodLink RX3 27 yX3_squareOf ∈ GA := ga_mem 833 (by decide +kernel) rfl
theorem kX3_31 : Cond.methodLink RX3 31 yX3_rootOf ∈ GA := ga_mem 836 (by decide +kernel) rfl
theorem kL_205 : Cond.methodLink RL 205 yL_legOf ∈ GA := ga_mem 837 (by decide +kernel) rfl
theorem kL_200 : Cond.methodLink RL 200 yX7_leg ∈ GA := ga_mem 840 (by decide +kernel) rfl
theorem kX7_171 : Cond.methodLink RX7 171 yX5_hasLeg ∈ GA := ga_mem 844 (by decide +kernel) rfl
theorem kX7_178 : Cond.methodLink RX7 178 yX5_numberOfLeg ∈ GA := ga_mem 847 (by decide +kernel) rfl
theorem kL_223 : Cond.methodLink RL 223 yL_troubleOf ∈ GA := ga_mem 851 (by decide +kernel) rfl
theorem kL_203 : Cond.methodLink RL 203 yX7_trouble ∈ GA := ga_mem 854 (by decide +kernel) rfl
theorem kX7_181 : Cond.methodLink RX7 181 yX2_troubleOf ∈ GA := ga_mem 858 (by decide +kernel) rfl
theorem kL_239 : Cond.methodLink RL 239 yL_isSo ∈ GA := ga_mem 862 (by decide +kernel) rfl
theorem kL_231 : Cond.methodLink RL 231 yL_isTraverse ∈ GA := ga_mem 865 (by decide +kernel) rfl
theorem kL_208 : Cond.methodLink RL 208 yL_isLeg ∈ GA := ga_mem 868 (by decide +kernel) rfl
theorem kL_127 : Cond.methodLink RL 127 yL_end ∈ GA := ga_mem 871 (by decide +kernel) rfl
theorem kL_115 : Cond.constantLong RL 115 (324000) ∈ GA := ga_mem 874 (by decide +kernel) rfl
theorem kL_117 : Cond.methodLink RL 117 yL_sine ∈ GA := ga_mem 875 (by decide +kernel) rfl
theorem kL_68 : Cond.constantLong RL 68 (40000) ∈ GA := ga_mem 878 (by decide +kernel) rfl
theorem kL_70 : Cond.constantLong RL 70 (524880000000) ∈ GA := ga_mem 879 (by decide +kernel) rfl
theorem kL_121 : Cond.constantLong RL 121 (10000) ∈ GA := ga_mem 880 (by decide +kernel) rfl
theorem kL_212 : Cond.methodLink RL 212 yL_whole ∈ GA := ga_mem 881 (by decide +kernel) rfl
theorem kL_219 : Cond.methodLink RL 219 yL_miss ∈ GA := ga_mem 884 (by decide +kernel) rfl
theorem fX0 : ∀ w ∈ wsX00, w ∈ GA := ga_in [229, 231, 233] (by decide +kernel) (by decide +kernel)
theorem fX1 : ∀ w ∈ wsX10, w ∈ GA := ga_in [109, 111, 113, 115, 117, 119, 121, 123, 125, 127, 129, 131] (by decide +kernel) (by decide +kernel)
theorem fX2 : ∀ w ∈ wsX20, w ∈ GA := ga_in [202, 204, 206, 208, 210, 212, 214] (by decide +kernel) (by decide +kernel)
theorem fX4 : ∀ w ∈ wsX40, w ∈ GA := ga_in [244, 246, 248, 250, 252] (by decide +kernel) (by decide +kernel)
theorem fX5 : ∀ w ∈ wsX50, w ∈ GA := ga_in [161, 163, 165, 167, 169, 171, 173, 175, 177, 179, 181, 183, 185, 187, 189] (by decide +kernel) (by decide +kernel)
theorem fX6 : ∀ w ∈ wsX60, w ∈ GA := ga_in [67, 69, 71, 73, 75, 77, 79] (by decide +kernel) (by decide +kernel)
theorem fX7 : ∀ w ∈ wsX70, w ∈ GA := ga_in [259, 261, 263] (by decide +kernel) (by decide +kernel)
theorem nX0 : Cond.initialized RX0 ∈ GA := ga_mem 18 (by decide +kernel) rfl
theorem mX0 : Cond.instantiable RX0 3 ∈ GA := ga_mem 218 (by decide +kernel) rfl
theorem nX1 : Cond.initialized RX1 ∈ GA := ga_mem 16 (by decide +kernel) rfl
theorem mX1 : Cond.instantiable RX1 12 ∈ GA := ga_mem 83 (by decide +kernel) rfl
theorem nX2 : Cond.initialized RX2 ∈ GA := ga_mem 14 (by decide +kernel) rfl
theorem mX2 : Cond.instantiable RX2 7 ∈ GA := ga_mem 38 (by decide +kernel) rfl
theorem nX3 : Cond.initialized RX3 ∈ GA := ga_mem 25 (by decide +kernel) rfl
theorem nX4 : Cond.initialized RX4 ∈ GA := ga_mem 19 (by decide +kernel) rfl
theorem mX4 : Cond.instantiable RX4 5 ∈ GA := ga_mem 237 (by decide +kernel) rfl
theorem nX5 : Cond.initialized RX5 ∈ GA := ga_mem 17 (by decide +kernel) rfl
theorem mX5 : Cond.instantiable RX5 15 ∈ GA := ga_mem 134 (by decide +kernel) rfl
theorem nX6 : Cond.initialized RX6 ∈ GA := ga_mem 15 (by decide +kernel) rfl
theorem mX6 : Cond.instantiable RX6 7 ∈ GA := ga_mem 49 (by decide +kernel) rfl
theorem nX7 : Cond.initialized RX7 ∈ GA := ga_mem 13 (by decide +kernel) rfl
theorem mX7 : Cond.instantiable RX7 3 ∈ GA := ga_mem 30 (by decide +kernel) rfl
theorem nL : Cond.initialized RL ∈ GA := ga_mem 12 (by decide +kernel) rfl
theorem qX0_init : ∀ w ∈ [Cond.code yX0_init cX0_init 2 none, Cond.initialized RX0, Cond.instanceMethod yX0_init], w ∈ GA := ga_in [221, 18, 220] (by decide +kernel) (by decide +kernel)
theorem qX0_keep : ∀ w ∈ [Cond.code yX0_keep cX0_keep 2 none, Cond.initialized RX0, Cond.instanceMethod yX0_keep, Cond.selects RX0 yX0_keep yX0_keep], w ∈ GA := ga_in [378, 18, 376, 377] (by decide +kernel) (by decide +kernel)
theorem qX1_init : ∀ w ∈ [Cond.code yX1_init cX1_init 1 none, Cond.initialized RX1, Cond.instanceMethod yX1_init], w ∈ GA := ga_in [86, 16, 85] (by decide +kernel) (by decide +kernel)
theorem qX1_copyFrom : ∀ w ∈ [Cond.code yX1_copyFrom cX1_copyFrom 2 none, Cond.initialized RX1, Cond.instanceMethod yX1_copyFrom, Cond.selects RX1 yX1_copyFrom yX1_copyFrom], w ∈ GA := ga_in [395, 16, 393, 394] (by decide +kernel) (by decide +kernel)
theorem qX1_lay : ∀ w ∈ [Cond.code yX1_lay cX1_lay 7 none, Cond.initialized RX1, Cond.instanceMethod yX1_lay, Cond.selects RX1 yX1_lay yX1_lay], w ∈ GA := ga_in [619, 16, 617, 618] (by decide +kernel) (by decide +kernel)
theorem qX1_judge : ∀ w ∈ [Cond.code yX1_judge cX1_judge 3 none, Cond.initialized RX1, Cond.instanceMethod yX1_judge, Cond.selects RX1 yX1_judge yX1_judge], w ∈ GA := ga_in [447, 16, 445, 446] (by decide +kernel) (by decide +kernel)
theorem qX1_startWith : ∀ w ∈ [Cond.code yX1_startWith cX1_startWith 2 (some .int), Cond.initialized RX1, Cond.instanceMethod yX1_startWith, Cond.selects RX1 yX1_startWith yX1_startWith], w ∈ GA := ga_in [454, 16, 452, 453] (by decide +kernel) (by decide +kernel)
theorem qX1_number : ∀ w ∈ [Cond.code yX1_number cX1_number 2 (some .int), Cond.initialized RX1, Cond.instanceMethod yX1_number, Cond.selects RX1 yX1_number yX1_number], w ∈ GA := ga_in [799, 16, 797, 798] (by decide +kernel) (by decide +kernel)
theorem qX2_init : ∀ w ∈ [Cond.code yX2_init cX2_init 2 none, Cond.initialized RX2, Cond.instanceMethod yX2_init], w ∈ GA := ga_in [41, 14, 40] (by decide +kernel) (by decide +kernel)
theorem qX2_copyFrom : ∀ w ∈ [Cond.code yX2_copyFrom cX2_copyFrom 3 none, Cond.initialized RX2, Cond.instanceMethod yX2_copyFrom, Cond.selects RX2 yX2_copyFrom yX2_copyFrom], w ∈ GA := ga_in [383, 14, 381, 382] (by decide +kernel) (by decide +kernel)
theorem qX2_judge : ∀ w ∈ [Cond.code yX2_judge cX2_judge 4 none, Cond.initialized RX2, Cond.instanceMethod yX2_judge, Cond.selects RX2 yX2_judge yX2_judge], w ∈ GA := ga_in [417, 14, 415, 416] (by decide +kernel) (by decide +kernel)
theorem qX2_takesSetting : ∀ w ∈ [Cond.code yX2_takesSetting cX2_takesSetting 3 (some .boolean), Cond.initialized RX2, Cond.instanceMethod yX2_takesSetting, Cond.selects RX2 yX2_takesSetting yX2_takesSetting], w ∈ GA := ga_in [636, 14, 634, 635] (by decide +kernel) (by decide +kernel)
theorem qX2_changeSetting : ∀ w ∈ [Cond.code yX2_changeSetting cX2_changeSetting 4 (some .int), Cond.initialized RX2, Cond.instanceMethod yX2_changeSetting, Cond.selects RX2 yX2_changeSetting yX2_changeSetting], w ∈ GA := ga_in [645, 14, 643, 644] (by decide +kernel) (by decide +kernel)
theorem qX2_number : ∀ w ∈ [Cond.code yX2_number cX2_number 2 (some .int), Cond.initialized RX2, Cond.instanceMethod yX2_number, Cond.selects RX2 yX2_number yX2_number], w ∈ GA := ga_in [768, 14, 766, 767] (by decide +kernel) (by decide +kernel)
theorem qX2_legsOfAll : ∀ w ∈ [Cond.code yX2_legsOfAll cX2_legsOfAll 3 (some .int), Cond.initialized RX2, Cond.instanceMethod yX2_legsOfAll, Cond.selects RX2 yX2_legsOfAll yX2_legsOfAll], w ∈ GA := ga_in [772, 14, 771, 8] (by decide +kernel) (by decide +kernel)
theorem qX2_turnsOfAll : ∀ w ∈ [Cond.code yX2_turnsOfAll cX2_turnsOfAll 3 (some .int), Cond.initialized RX2, Cond.instanceMethod yX2_turnsOfAll, Cond.selects RX2 yX2_turnsOfAll yX2_turnsOfAll], w ∈ GA := ga_in [776, 14, 775, 9] (by decide +kernel) (by decide +kernel)
theorem qX2_wireAt : ∀ w ∈ [Cond.code yX2_wireAt cX2_wireAt 2 (some (.object "ShaftPlumb$Wire")), Cond.initialized RX2, Cond.instanceMethod yX2_wireAt, Cond.selects RX2 yX2_wireAt yX2_wireAt], w ∈ GA := ga_in [443, 14, 441, 442] (by decide +kernel) (by decide +kernel)
theorem qX2_joinAt : ∀ w ∈ [Cond.code yX2_joinAt cX2_joinAt 2 (some (.object "ShaftPlumb$Join")), Cond.initialized RX2, Cond.instanceMethod yX2_joinAt, Cond.selects RX2 yX2_joinAt yX2_joinAt], w ∈ GA := ga_in [462, 14, 460, 461] (by decide +kernel) (by decide +kernel)
theorem qX2_traverseAt : ∀ w ∈ [Cond.code yX2_traverseAt cX2_traverseAt 2 (some (.object "ShaftPlumb$Traverse")), Cond.initialized RX2, Cond.instanceMethod yX2_traverseAt, Cond.selects RX2 yX2_traverseAt yX2_traverseAt], w ∈ GA := ga_in [521, 14, 519, 520] (by decide +kernel) (by decide +kernel)
theorem qX2_addWire : ∀ w ∈ [Cond.code yX2_addWire cX2_addWire 3 (some .int), Cond.initialized RX2, Cond.instanceMethod yX2_addWire, Cond.selects RX2 yX2_addWire yX2_addWire], w ∈ GA := ga_in [407, 14, 405, 406] (by decide +kernel) (by decide +kernel)
theorem qX2_addJoin : ∀ w ∈ [Cond.code yX2_addJoin cX2_addJoin 7 (some .int), Cond.initialized RX2, Cond.instanceMethod yX2_addJoin, Cond.selects RX2 yX2_addJoin yX2_addJoin], w ∈ GA := ga_in [615, 14, 613, 614] (by decide +kernel) (by decide +kernel)
theorem qX2_addTraverse : ∀ w ∈ [Cond.code yX2_addTraverse cX2_addTraverse 2 (some .int), Cond.initialized RX2, Cond.instanceMethod yX2_addTraverse, Cond.selects RX2 yX2_addTraverse yX2_addTraverse], w ∈ GA := ga_in [667, 14, 665, 666] (by decide +kernel) (by decide +kernel)
theorem qX2_troubleOf : ∀ w ∈ [Cond.code yX2_troubleOf cX2_troubleOf 4 (some .int), Cond.initialized RX2, Cond.instanceMethod yX2_troubleOf, Cond.selects RX2 yX2_troubleOf yX2_troubleOf], w ∈ GA := ga_in [861, 14, 859, 860] (by decide +kernel) (by decide +kernel)
theorem qX3_norm : ∀ w ∈ [Cond.code yX3_norm cX3_norm 2 (some .int), Cond.initialized RX3, Cond.static yX3_norm], w ∈ GA := ga_in [457, 25, 456] (by decide +kernel) (by decide +kernel)
theorem qX3_centre : ∀ w ∈ [Cond.code yX3_centre cX3_centre 1 (some .int), Cond.initialized RX3, Cond.static yX3_centre], w ∈ GA := ga_in [490, 25, 489] (by decide +kernel) (by decide +kernel)
theorem qX3_sineOf : ∀ w ∈ [Cond.code yX3_sineOf cX3_sineOf 7 (some .int), Cond.initialized RX3, Cond.static yX3_sineOf], w ∈ GA := ga_in [475, 25, 474] (by decide +kernel) (by decide +kernel)
theorem qX3_quotient : ∀ w ∈ [Cond.code yX3_quotient cX3_quotient 4 (some .int), Cond.initialized RX3, Cond.static yX3_quotient], w ∈ GA := ga_in [429, 25, 428] (by decide +kernel) (by decide +kernel)
theorem qX3_lengthOf : ∀ w ∈ [Cond.code yX3_lengthOf cX3_lengthOf 4 (some .int), Cond.initialized RX3, Cond.static yX3_lengthOf], w ∈ GA := ga_in [832, 25, 831] (by decide +kernel) (by decide +kernel)
theorem qX3_squareOf : ∀ w ∈ [Cond.code yX3_squareOf cX3_squareOf 4 (some .long), Cond.initialized RX3, Cond.static yX3_squareOf], w ∈ GA := ga_in [835, 25, 834] (by decide +kernel) (by decide +kernel)
theorem qX3_rootOf : ∀ w ∈ [Cond.code yX3_rootOf cX3_rootOf 7 (some .int), Cond.initialized RX3, Cond.static yX3_rootOf], w ∈ GA := ga_in [494, 25, 493] (by decide +kernel) (by decide +kernel)
theorem qX4_init : ∀ w ∈ [Cond.code yX4_init cX4_init 1 none, Cond.initialized RX4, Cond.instanceMethod yX4_init], w ∈ GA := ga_in [240, 19, 239] (by decide +kernel) (by decide +kernel)
theorem qX5_init : ∀ w ∈ [Cond.code yX5_init cX5_init 1 none, Cond.initialized RX5, Cond.instanceMethod yX5_init], w ∈ GA := ga_in [137, 17, 136] (by decide +kernel) (by decide +kernel)
theorem qX5_copyFrom : ∀ w ∈ [Cond.code yX5_copyFrom cX5_copyFrom 2 none, Cond.initialized RX5, Cond.instanceMethod yX5_copyFrom, Cond.selects RX5 yX5_copyFrom yX5_copyFrom], w ∈ GA := ga_in [399, 17, 397, 398] (by decide +kernel) (by decide +kernel)
theorem qX5_startAt : ∀ w ∈ [Cond.code yX5_startAt cX5_startAt 2 none, Cond.initialized RX5, Cond.instanceMethod yX5_startAt, Cond.selects RX5 yX5_startAt yX5_startAt], w ∈ GA := ga_in [671, 17, 669, 670] (by decide +kernel) (by decide +kernel)
theorem qX5_closeOn : ∀ w ∈ [Cond.code yX5_closeOn cX5_closeOn 3 none, Cond.initialized RX5, Cond.instanceMethod yX5_closeOn, Cond.selects RX5 yX5_closeOn yX5_closeOn], w ∈ GA := ga_in [573, 17, 571, 572] (by decide +kernel) (by decide +kernel)
theorem qX5_isClosed : ∀ w ∈ [Cond.code yX5_isClosed cX5_isClosed 1 (some .boolean), Cond.initialized RX5, Cond.instanceMethod yX5_isClosed, Cond.selects RX5 yX5_isClosed yX5_isClosed], w ∈ GA := ga_in [533, 17, 531, 532] (by decide +kernel) (by decide +kernel)
theorem qX5_hasLeg : ∀ w ∈ [Cond.code yX5_hasLeg cX5_hasLeg 2 (some .boolean), Cond.initialized RX5, Cond.instanceMethod yX5_hasLeg, Cond.selects RX5 yX5_hasLeg yX5_hasLeg], w ∈ GA := ga_in [585, 17, 583, 584] (by decide +kernel) (by decide +kernel)
theorem qX5_hasEnd : ∀ w ∈ [Cond.code yX5_hasEnd cX5_hasEnd 1 (some .boolean), Cond.initialized RX5, Cond.instanceMethod yX5_hasEnd, Cond.selects RX5 yX5_hasEnd yX5_hasEnd], w ∈ GA := ga_in [825, 17, 823, 824] (by decide +kernel) (by decide +kernel)
theorem qX5_hasGap : ∀ w ∈ [Cond.code yX5_hasGap cX5_hasGap 1 (some .boolean), Cond.initialized RX5, Cond.instanceMethod yX5_hasGap, Cond.selects RX5 yX5_hasGap yX5_hasGap], w ∈ GA := ga_in [820, 17, 818, 819] (by decide +kernel) (by decide +kernel)
theorem qX5_append : ∀ w ∈ [Cond.code yX5_append cX5_append 3 (some .int), Cond.initialized RX5, Cond.instanceMethod yX5_append, Cond.selects RX5 yX5_append yX5_append], w ∈ GA := ga_in [565, 17, 563, 564] (by decide +kernel) (by decide +kernel)
theorem qX5_shorten : ∀ w ∈ [Cond.code yX5_shorten cX5_shorten 1 (some .int), Cond.initialized RX5, Cond.instanceMethod yX5_shorten, Cond.selects RX5 yX5_shorten yX5_shorten], w ∈ GA := ga_in [569, 17, 567, 568] (by decide +kernel) (by decide +kernel)
theorem qX5_takeGapAway : ∀ w ∈ [Cond.code yX5_takeGapAway cX5_takeGapAway 7 (some .int), Cond.initialized RX5, Cond.instanceMethod yX5_takeGapAway, Cond.selects RX5 yX5_takeGapAway yX5_takeGapAway], w ∈ GA := ga_in [577, 17, 575, 576] (by decide +kernel) (by decide +kernel)
theorem qX5_legsBefore : ∀ w ∈ [Cond.code yX5_legsBefore cX5_legsBefore 4 (some .int), Cond.initialized RX5, Cond.instanceMethod yX5_legsBefore, Cond.selects RX5 yX5_legsBefore yX5_legsBefore], w ∈ GA := ga_in [581, 17, 580, 7] (by decide +kernel) (by decide +kernel)
theorem qX5_judge : ∀ w ∈ [Cond.code yX5_judge cX5_judge 5 none, Cond.initialized RX5, Cond.instanceMethod yX5_judge, Cond.selects RX5 yX5_judge yX5_judge], w ∈ GA := ga_in [466, 17, 464, 465] (by decide +kernel) (by decide +kernel)
theorem qX5_layOut : ∀ w ∈ [Cond.code yX5_layOut cX5_layOut 4 (some .int), Cond.initialized RX5, Cond.instanceMethod yX5_layOut, Cond.selects RX5 yX5_layOut yX5_layOut], w ∈ GA := ga_in [470, 17, 469, 3] (by decide +kernel) (by decide +kernel)
theorem qX5_step : ∀ w ∈ [Cond.code yX5_step cX5_step 3 (some .int), Cond.initialized RX5, Cond.static yX5_step], w ∈ GA := ga_in [484, 17, 483] (by decide +kernel) (by decide +kernel)
theorem qX5_number : ∀ w ∈ [Cond.code yX5_number cX5_number 2 (some .int), Cond.initialized RX5, Cond.instanceMethod yX5_number, Cond.selects RX5 yX5_number yX5_number], w ∈ GA := ga_in [812, 17, 810, 811] (by decide +kernel) (by decide +kernel)
theorem qX5_numberOfClosing : ∀ w ∈ [Cond.code yX5_numberOfClosing cX5_numberOfClosing 2 (some .int), Cond.initialized RX5, Cond.instanceMethod yX5_numberOfClosing, Cond.selects RX5 yX5_numberOfClosing yX5_numberOfClosing], w ∈ GA := ga_in [829, 17, 828, 11] (by decide +kernel) (by decide +kernel)
theorem qX5_sumOfLengths : ∀ w ∈ [Cond.code yX5_sumOfLengths cX5_sumOfLengths 3 (some .int), Cond.initialized RX5, Cond.instanceMethod yX5_sumOfLengths, Cond.selects RX5 yX5_sumOfLengths yX5_sumOfLengths], w ∈ GA := ga_in [816, 17, 815, 10] (by decide +kernel) (by decide +kernel)
theorem qX5_numberOfLeg : ∀ w ∈ [Cond.code yX5_numberOfLeg cX5_numberOfLeg 3 (some .int), Cond.initialized RX5, Cond.instanceMethod yX5_numberOfLeg, Cond.selects RX5 yX5_numberOfLeg yX5_numberOfLeg], w ∈ GA := ga_in [850, 17, 848, 849] (by decide +kernel) (by decide +kernel)
theorem qX6_init : ∀ w ∈ [Cond.code yX6_init cX6_init 1 none, Cond.initialized RX6, Cond.instanceMethod yX6_init], w ∈ GA := ga_in [52, 15, 51] (by decide +kernel) (by decide +kernel)
theorem qX6_copyFrom : ∀ w ∈ [Cond.code yX6_copyFrom cX6_copyFrom 2 none, Cond.initialized RX6, Cond.instanceMethod yX6_copyFrom, Cond.selects RX6 yX6_copyFrom yX6_copyFrom], w ∈ GA := ga_in [390, 15, 388, 389] (by decide +kernel) (by decide +kernel)
theorem qX6_hangAt : ∀ w ∈ [Cond.code yX6_hangAt cX6_hangAt 3 none, Cond.initialized RX6, Cond.instanceMethod yX6_hangAt, Cond.selects RX6 yX6_hangAt yX6_hangAt], w ∈ GA := ga_in [413, 15, 411, 412] (by decide +kernel) (by decide +kernel)
theorem qX6_addTurn : ∀ w ∈ [Cond.code yX6_addTurn cX6_addTurn 2 (some .int), Cond.initialized RX6, Cond.instanceMethod yX6_addTurn, Cond.selects RX6 yX6_addTurn yX6_addTurn], w ∈ GA := ga_in [561, 15, 559, 560] (by decide +kernel) (by decide +kernel)
theorem qX6_dropTurns : ∀ w ∈ [Cond.code yX6_dropTurns cX6_dropTurns 2 (some .int), Cond.initialized RX6, Cond.instanceMethod yX6_dropTurns, Cond.selects RX6 yX6_dropTurns yX6_dropTurns], w ∈ GA := ga_in [598, 15, 596, 597] (by decide +kernel) (by decide +kernel)
theorem qX6_judge : ∀ w ∈ [Cond.code yX6_judge cX6_judge 2 none, Cond.initialized RX6, Cond.instanceMethod yX6_judge, Cond.selects RX6 yX6_judge yX6_judge], w ∈ GA := ga_in [421, 15, 419, 420] (by decide +kernel) (by decide +kernel)
theorem qX6_number : ∀ w ∈ [Cond.code yX6_number cX6_number 2 (some .int), Cond.initialized RX6, Cond.instanceMethod yX6_number, Cond.selects RX6 yX6_number yX6_number], w ∈ GA := ga_in [788, 15, 786, 787] (by decide +kernel) (by decide +kernel)
theorem qX6_meanOfTurns : ∀ w ∈ [Cond.code yX6_meanOfTurns cX6_meanOfTurns 3 (some .int), Cond.initialized RX6, Cond.instanceMethod yX6_meanOfTurns, Cond.selects RX6 yX6_meanOfTurns yX6_meanOfTurns], w ∈ GA := ga_in [425, 15, 424, 1] (by decide +kernel) (by decide +kernel)
theorem qX6_greatestDifference : ∀ w ∈ [Cond.code yX6_greatestDifference cX6_greatestDifference 3 (some .int), Cond.initialized RX6, Cond.instanceMethod yX6_greatestDifference, Cond.selects RX6 yX6_greatestDifference yX6_greatestDifference], w ∈ GA := ga_in [433, 15, 432, 2] (by decide +kernel) (by decide +kernel)
theorem qX7_init : ∀ w ∈ [Cond.code yX7_init cX7_init 1 none, Cond.initialized RX7, Cond.instanceMethod yX7_init], w ∈ GA := ga_in [33, 13, 32] (by decide +kernel) (by decide +kernel)
theorem qX7_set : ∀ w ∈ [Cond.code yX7_set cX7_set 4 (some .int), Cond.initialized RX7, Cond.instanceMethod yX7_set, Cond.selects RX7 yX7_set yX7_set], w ∈ GA := ga_in [632, 13, 630, 631] (by decide +kernel) (by decide +kernel)
theorem qX7_info : ∀ w ∈ [Cond.code yX7_info cX7_info 2 (some .int), Cond.initialized RX7, Cond.instanceMethod yX7_info, Cond.selects RX7 yX7_info yX7_info], w ∈ GA := ga_in [763, 13, 761, 762] (by decide +kernel) (by decide +kernel)
theorem qX7_hang : ∀ w ∈ [Cond.code yX7_hang cX7_hang 4 (some .int), Cond.initialized RX7, Cond.instanceMethod yX7_hang, Cond.selects RX7 yX7_hang yX7_hang], w ∈ GA := ga_in [285, 13, 283, 284] (by decide +kernel) (by decide +kernel)
theorem qX7_swing : ∀ w ∈ [Cond.code yX7_swing cX7_swing 3 (some .int), Cond.initialized RX7, Cond.instanceMethod yX7_swing, Cond.selects RX7 yX7_swing yX7_swing], w ∈ GA := ga_in [505, 13, 503, 504] (by decide +kernel) (by decide +kernel)
theorem qX7_still : ∀ w ∈ [Cond.code yX7_still cX7_still 4 (some .int), Cond.initialized RX7, Cond.instanceMethod yX7_still, Cond.selects RX7 yX7_still yX7_still], w ∈ GA := ga_in [593, 13, 591, 592] (by decide +kernel) (by decide +kernel)
theorem qX7_wire : ∀ w ∈ [Cond.code yX7_wire cX7_wire 4 (some .int), Cond.initialized RX7, Cond.instanceMethod yX7_wire, Cond.selects RX7 yX7_wire yX7_wire], w ∈ GA := ga_in [783, 13, 781, 782] (by decide +kernel) (by decide +kernel)
theorem qX7_join : ∀ w ∈ [Cond.code yX7_join cX7_join 8 (some .int), Cond.initialized RX7, Cond.instanceMethod yX7_join, Cond.selects RX7 yX7_join yX7_join], w ∈ GA := ga_in [605, 13, 603, 604] (by decide +kernel) (by decide +kernel)
theorem qX7_measure : ∀ w ∈ [Cond.code yX7_measure cX7_measure 5 (some .int), Cond.initialized RX7, Cond.instanceMethod yX7_measure, Cond.selects RX7 yX7_measure yX7_measure], w ∈ GA := ga_in [652, 13, 650, 651] (by decide +kernel) (by decide +kernel)
theorem qX7_joinOf : ∀ w ∈ [Cond.code yX7_joinOf cX7_joinOf 4 (some .int), Cond.initialized RX7, Cond.instanceMethod yX7_joinOf, Cond.selects RX7 yX7_joinOf yX7_joinOf], w ∈ GA := ga_in [795, 13, 793, 794] (by decide +kernel) (by decide +kernel)
theorem qX7_begin : ∀ w ∈ [Cond.code yX7_begin cX7_begin 3 (some .int), Cond.initialized RX7, Cond.instanceMethod yX7_begin, Cond.selects RX7 yX7_begin yX7_begin], w ∈ GA := ga_in [662, 13, 660, 661] (by decide +kernel) (by decide +kernel)
theorem qX7_addLeg : ∀ w ∈ [Cond.code yX7_addLeg cX7_addLeg 4 (some .int), Cond.initialized RX7, Cond.instanceMethod yX7_addLeg, Cond.selects RX7 yX7_addLeg yX7_addLeg], w ∈ GA := ga_in [678, 13, 676, 677] (by decide +kernel) (by decide +kernel)
theorem qX7_dropLeg : ∀ w ∈ [Cond.code yX7_dropLeg cX7_dropLeg 2 (some .int), Cond.initialized RX7, Cond.instanceMethod yX7_dropLeg, Cond.selects RX7 yX7_dropLeg yX7_dropLeg], w ∈ GA := ga_in [685, 13, 683, 684] (by decide +kernel) (by decide +kernel)
theorem qX7_close : ∀ w ∈ [Cond.code yX7_close cX7_close 5 (some .int), Cond.initialized RX7, Cond.instanceMethod yX7_close, Cond.selects RX7 yX7_close yX7_close], w ∈ GA := ga_in [692, 13, 690, 691] (by decide +kernel) (by decide +kernel)
theorem qX7_adjust : ∀ w ∈ [Cond.code yX7_adjust cX7_adjust 2 (some .int), Cond.initialized RX7, Cond.instanceMethod yX7_adjust, Cond.selects RX7 yX7_adjust yX7_adjust], w ∈ GA := ga_in [703, 13, 701, 702] (by decide +kernel) (by decide +kernel)
theorem qX7_traverse : ∀ w ∈ [Cond.code yX7_traverse cX7_traverse 4 (some .int), Cond.initialized RX7, Cond.instanceMethod yX7_traverse, Cond.selects RX7 yX7_traverse yX7_traverse], w ∈ GA := ga_in [806, 13, 804, 805] (by decide +kernel) (by decide +kernel)
theorem qX7_leg : ∀ w ∈ [Cond.code yX7_leg cX7_leg 5 (some .int), Cond.initialized RX7, Cond.instanceMethod yX7_leg, Cond.selects RX7 yX7_leg yX7_leg], w ∈ GA := ga_in [843, 13, 841, 842] (by decide +kernel) (by decide +kernel)
theorem qX7_trouble : ∀ w ∈ [Cond.code yX7_trouble cX7_trouble 4 (some .int), Cond.initialized RX7, Cond.instanceMethod yX7_trouble, Cond.selects RX7 yX7_trouble yX7_trouble], w ∈ GA := ga_in [857, 13, 855, 856] (by decide +kernel) (by decide +kernel)
theorem qX7_order : ∀ w ∈ [Cond.code yX7_order cX7_order 7 (some .int), Cond.initialized RX7, Cond.instanceMethod yX7_order, Cond.selects RX7 yX7_order yX7_order], w ∈ GA := ga_in [509, 13, 508, 4] (by decide +kernel) (by decide +kernel)
theorem qX7_refusalOf : ∀ w ∈ [Cond.code yX7_refusalOf cX7_refusalOf 6 (some .int), Cond.initialized RX7, Cond.instanceMethod yX7_refusalOf, Cond.selects RX7 yX7_refusalOf yX7_refusalOf], w ∈ GA := ga_in [513, 13, 512, 5] (by decide +kernel) (by decide +kernel)
theorem qX7_refusalOfTurn : ∀ w ∈ [Cond.code yX7_refusalOfTurn cX7_refusalOfTurn 2 (some .int), Cond.initialized RX7, Cond.static yX7_refusalOfTurn], w ∈ GA := ga_in [517, 13, 516] (by decide +kernel) (by decide +kernel)
theorem qX7_refusalOfLeg : ∀ w ∈ [Cond.code yX7_refusalOfLeg cX7_refusalOfLeg 3 (some .int), Cond.initialized RX7, Cond.static yX7_refusalOfLeg], w ∈ GA := ga_in [524, 13, 523] (by decide +kernel) (by decide +kernel)
theorem qX7_carryOut : ∀ w ∈ [Cond.code yX7_carryOut cX7_carryOut 6 (some .int), Cond.initialized RX7, Cond.instanceMethod yX7_carryOut, Cond.selects RX7 yX7_carryOut yX7_carryOut], w ∈ GA := ga_in [556, 13, 555, 6] (by decide +kernel) (by decide +kernel)
theorem qX7_isIn : ∀ w ∈ [Cond.code yX7_isIn cX7_isIn 3 (some .boolean), Cond.initialized RX7, Cond.static yX7_isIn], w ∈ GA := ga_in [290, 13, 289] (by decide +kernel) (by decide +kernel)
theorem qX7_isBearing : ∀ w ∈ [Cond.code yX7_isBearing cX7_isBearing 1 (some .boolean), Cond.initialized RX7, Cond.static yX7_isBearing], w ∈ GA := ga_in [527, 13, 526] (by decide +kernel) (by decide +kernel)
theorem qX7_isSmall : ∀ w ∈ [Cond.code yX7_isSmall cX7_isSmall 1 (some .boolean), Cond.initialized RX7, Cond.static yX7_isSmall], w ∈ GA := ga_in [609, 13, 608] (by decide +kernel) (by decide +kernel)
end
section
theorem qL_cell : ∀ w ∈ [Cond.code yL_cell cL_cell 2 (some .int), Cond.initialized RL, Cond.static yL_cell], w ∈ GA := ga_in [268, 12, 267] (by decide +kernel) (by decide +kernel)
theorem qL_low : ∀ w ∈ [Cond.code yL_low cL_low 2 (some .int), Cond.initialized RL, Cond.static yL_low], w ∈ GA := ga_in [272, 12, 271] (by decide +kernel) (by decide +kernel)
theorem qL_sets : ∀ w ∈ [Cond.codeWith yL_sets cL_sets 4 (some .int) [(0, 6, 7, 15)], Cond.initialized RL, Cond.static yL_sets], w ∈ GA := ga_in [628, 12, 627] (by decide +kernel) (by decide +kernel)
theorem qL_hangs : ∀ w ∈ [Cond.codeWith yL_hangs cL_hangs 4 (some .int) [(0, 6, 7, 15), (0, 6, 11, 21)], Cond.initialized RL, Cond.static yL_hangs], w ∈ GA := ga_in [279, 12, 278] (by decide +kernel) (by decide +kernel)
theorem qL_swings : ∀ w ∈ [Cond.codeWith yL_swings cL_swings 4 (some .int) [(0, 6, 7, 27), (0, 6, 11, 15), (0, 6, 15, 21)], Cond.initialized RL, Cond.static yL_swings], w ∈ GA := ga_in [500, 12, 499] (by decide +kernel) (by decide +kernel)
theorem qL_stills : ∀ w ∈ [Cond.codeWith yL_stills cL_stills 3 (some .int) [(0, 5, 6, 27)], Cond.initialized RL, Cond.static yL_stills], w ∈ GA := ga_in [589, 12, 588] (by decide +kernel) (by decide +kernel)
theorem qL_joins : ∀ w ∈ [Cond.codeWith yL_joins cL_joins 8 (some .int) [(0, 13, 14, 27), (0, 13, 19, 15), (0, 13, 24, 21)], Cond.initialized RL, Cond.static yL_joins], w ∈ GA := ga_in [601, 12, 600] (by decide +kernel) (by decide +kernel)
theorem qL_measures : ∀ w ∈ [Cond.codeWith yL_measures cL_measures 4 (some .int) [(0, 6, 7, 27), (0, 6, 11, 15)], Cond.initialized RL, Cond.static yL_measures], w ∈ GA := ga_in [648, 12, 647] (by decide +kernel) (by decide +kernel)
theorem qL_begins : ∀ w ∈ [Cond.codeWith yL_begins cL_begins 3 (some .int) [(0, 5, 6, 27), (0, 5, 10, 21)], Cond.initialized RL, Cond.static yL_begins], w ∈ GA := ga_in [658, 12, 657] (by decide +kernel) (by decide +kernel)
theorem qL_adds : ∀ w ∈ [Cond.codeWith yL_adds cL_adds 5 (some .int) [(0, 7, 8, 27), (0, 7, 13, 15), (0, 7, 18, 21)], Cond.initialized RL, Cond.static yL_adds], w ∈ GA := ga_in [674, 12, 673] (by decide +kernel) (by decide +kernel)
theorem qL_drops : ∀ w ∈ [Cond.codeWith yL_drops cL_drops 3 (some .int) [(0, 5, 6, 27), (0, 5, 10, 21)], Cond.initialized RL, Cond.static yL_drops], w ∈ GA := ga_in [681, 12, 680] (by decide +kernel) (by decide +kernel)
theorem qL_closes : ∀ w ∈ [Cond.codeWith yL_closes cL_closes 5 (some .int) [(0, 7, 8, 27), (0, 7, 13, 15), (0, 7, 18, 21)], Cond.initialized RL, Cond.static yL_closes], w ∈ GA := ga_in [688, 12, 687] (by decide +kernel) (by decide +kernel)
theorem qL_adjusts : ∀ w ∈ [Cond.codeWith yL_adjusts cL_adjusts 3 (some .int) [(0, 5, 6, 27), (0, 5, 10, 21)], Cond.initialized RL, Cond.static yL_adjusts], w ∈ GA := ga_in [699, 12, 698] (by decide +kernel) (by decide +kernel)
theorem qL_size : ∀ w ∈ [Cond.code yL_size cL_size 1 (some .int), Cond.initialized RL, Cond.static yL_size], w ∈ GA := ga_in [722, 12, 721] (by decide +kernel) (by decide +kernel)
theorem qL_norm : ∀ w ∈ [Cond.code yL_norm cL_norm 4 (some .int), Cond.initialized RL, Cond.static yL_norm], w ∈ GA := ga_in [739, 12, 738] (by decide +kernel) (by decide +kernel)
theorem qL_centre : ∀ w ∈ [Cond.code yL_centre cL_centre 2 (some .int), Cond.initialized RL, Cond.static yL_centre], w ∈ GA := ga_in [744, 12, 743] (by decide +kernel) (by decide +kernel)
theorem qL_sine : ∀ w ∈ [Cond.code yL_sine cL_sine 8 (some .long), Cond.initialized RL, Cond.static yL_sine], w ∈ GA := ga_in [877, 12, 876] (by decide +kernel) (by decide +kernel)
theorem qL_root : ∀ w ∈ [Cond.code yL_root cL_root 6 (some .int), Cond.initialized RL, Cond.static yL_root], w ∈ GA := ga_in [752, 12, 751] (by decide +kernel) (by decide +kernel)
theorem qL_drift : ∀ w ∈ [Cond.code yL_drift cL_drift 6 (some .int), Cond.initialized RL, Cond.static yL_drift], w ∈ GA := ga_in [719, 12, 718] (by decide +kernel) (by decide +kernel)
theorem qL_wrong : ∀ w ∈ [Cond.code yL_wrong cL_wrong 4 (some .int), Cond.initialized RL, Cond.static yL_wrong], w ∈ GA := ga_in [716, 12, 715] (by decide +kernel) (by decide +kernel)
theorem qL_rest : ∀ w ∈ [Cond.code yL_rest cL_rest 5 (some .int), Cond.initialized RL, Cond.static yL_rest], w ∈ GA := ga_in [734, 12, 733] (by decide +kernel) (by decide +kernel)
theorem qL_wires : ∀ w ∈ [Cond.code yL_wires cL_wires 6 (some .int), Cond.initialized RL, Cond.static yL_wires], w ∈ GA := ga_in [713, 12, 712] (by decide +kernel) (by decide +kernel)
theorem qL_joint : ∀ w ∈ [Cond.code yL_joint cL_joint 5 (some .int), Cond.initialized RL, Cond.static yL_joint], w ∈ GA := ga_in [710, 12, 709] (by decide +kernel) (by decide +kernel)
theorem qL_start : ∀ w ∈ [Cond.code yL_start cL_start 8 (some .int), Cond.initialized RL, Cond.static yL_start], w ∈ GA := ga_in [731, 12, 730] (by decide +kernel) (by decide +kernel)
theorem qL_bearing : ∀ w ∈ [Cond.code yL_bearing cL_bearing 10 (some .int), Cond.initialized RL, Cond.static yL_bearing], w ∈ GA := ga_in [728, 12, 727] (by decide +kernel) (by decide +kernel)
theorem qL_gap : ∀ w ∈ [Cond.code yL_gap cL_gap 6 (some .int), Cond.initialized RL, Cond.static yL_gap], w ∈ GA := ga_in [725, 12, 724] (by decide +kernel) (by decide +kernel)
theorem qL_trouble : ∀ w ∈ [Cond.code yL_trouble cL_trouble 9 (some .int), Cond.initialized RL, Cond.static yL_trouble], w ∈ GA := ga_in [749, 12, 748] (by decide +kernel) (by decide +kernel)
theorem qL_end : ∀ w ∈ [Cond.code yL_end cL_end 14 (some .int), Cond.initialized RL, Cond.static yL_end], w ∈ GA := ga_in [873, 12, 872] (by decide +kernel) (by decide +kernel)
theorem qL_whole : ∀ w ∈ [Cond.code yL_whole cL_whole 7 (some .boolean), Cond.initialized RL, Cond.static yL_whole], w ∈ GA := ga_in [883, 12, 882] (by decide +kernel) (by decide +kernel)
theorem qL_miss : ∀ w ∈ [Cond.code yL_miss cL_miss 9 (some .int), Cond.initialized RL, Cond.static yL_miss], w ∈ GA := ga_in [886, 12, 885] (by decide +kernel) (by decide +kernel)
theorem qL_adjust : ∀ w ∈ [Cond.code yL_adjust cL_adjust 16 (some .int), Cond.initialized RL, Cond.static yL_adjust], w ∈ GA := ga_in [756, 12, 755] (by decide +kernel) (by decide +kernel)
theorem qL_lays : ∀ w ∈ [Cond.code yL_lays cL_lays 16 (some .boolean), Cond.initialized RL, Cond.static yL_lays], w ∈ GA := ga_in [276, 12, 275] (by decide +kernel) (by decide +kernel)
theorem qL_walks : ∀ w ∈ [Cond.code yL_walks cL_walks 14 (some .boolean), Cond.initialized RL, Cond.static yL_walks], w ∈ GA := ga_in [706, 12, 705] (by decide +kernel) (by decide +kernel)
theorem qL_acts : ∀ w ∈ [Cond.code yL_acts cL_acts 14 (some .boolean), Cond.initialized RL, Cond.static yL_acts], w ∈ GA := ga_in [623, 12, 622] (by decide +kernel) (by decide +kernel)
theorem qL_infoOf : ∀ w ∈ [Cond.codeWith yL_infoOf cL_infoOf 3 (some .int) [(0, 5, 6, 15)], Cond.initialized RL, Cond.static yL_infoOf], w ∈ GA := ga_in [759, 12, 758] (by decide +kernel) (by decide +kernel)
theorem qL_wireOf : ∀ w ∈ [Cond.codeWith yL_wireOf cL_wireOf 4 (some .int) [(0, 6, 7, 27), (0, 6, 11, 15)], Cond.initialized RL, Cond.static yL_wireOf], w ∈ GA := ga_in [779, 12, 778] (by decide +kernel) (by decide +kernel)
theorem qL_joinOf : ∀ w ∈ [Cond.codeWith yL_joinOf cL_joinOf 4 (some .int) [(0, 6, 7, 27), (0, 6, 11, 15)], Cond.initialized RL, Cond.static yL_joinOf], w ∈ GA := ga_in [791, 12, 790] (by decide +kernel) (by decide +kernel)
theorem qL_traverseOf : ∀ w ∈ [Cond.codeWith yL_traverseOf cL_traverseOf 4 (some .int) [(0, 6, 7, 27), (0, 6, 11, 15)], Cond.initialized RL, Cond.static yL_traverseOf], w ∈ GA := ga_in [802, 12, 801] (by decide +kernel) (by decide +kernel)
theorem qL_legOf : ∀ w ∈ [Cond.codeWith yL_legOf cL_legOf 5 (some .int) [(0, 7, 8, 27), (0, 7, 13, 15)], Cond.initialized RL, Cond.static yL_legOf], w ∈ GA := ga_in [839, 12, 838] (by decide +kernel) (by decide +kernel)
theorem qL_troubleOf : ∀ w ∈ [Cond.codeWith yL_troubleOf cL_troubleOf 4 (some .int) [(0, 6, 7, 27)], Cond.initialized RL, Cond.static yL_troubleOf], w ∈ GA := ga_in [853, 12, 852] (by decide +kernel) (by decide +kernel)
theorem qL_isLeg : ∀ w ∈ [Cond.code yL_isLeg cL_isLeg 12 (some .boolean), Cond.initialized RL, Cond.static yL_isLeg], w ∈ GA := ga_in [870, 12, 869] (by decide +kernel) (by decide +kernel)
end
section
set_option maxRecDepth 100000 in
theorem qL_isT_1 : lw_tbl[867]? = some (Cond.code yL_isTraverse cL_isTraverse 23 (some .boolean)) := rfl
theorem qL_isTraverse : ∀ w ∈ [Cond.code yL_isTraverse cL_isTraverse 23 (some .boolean), Cond.initialized RL, Cond.static yL_isTraverse], w ∈ GA := fun w hw => by
  rcases List.mem_cons.mp hw with e | hw
  · rw [e]; exact ga_mem 867 qL_isT_1 rfl
  · exact ga_in (ws := [Cond.initialized RL, Cond.static yL_isTraverse]) [12, 866] (by decide +kernel) (by decide +kernel) w hw
end
